theorem dX5_leftByStepsOf_11 : decode cX5_leftByStepsOf 11 = .ok (.bipush 6, 2) := by decide +kernel
theorem dX5_leftByStepsOf_13 : decode cX5_leftByStepsOf 13 = .ok (.if_icmp .ge 67, 3) := by decide +kernel
theorem dX5_leftByStepsOf_16 : decode cX5_leftByStepsOf 16 = .ok (.aload_n 0, 1) := by decide +kernel
theorem dX5_leftByStepsOf_17 : decode cX5_leftByStepsOf 17 = .ok (.getfield 12, 3) := by decide +kernel
theorem dX5_leftByStepsOf_20 : decode cX5_leftByStepsOf 20 = .ok (.iload 5, 2) := by decide +kernel
theorem dX5_leftByStepsOf_22 : decode cX5_leftByStepsOf 22 = .ok (.iload_n 1, 1) := by decide +kernel
theorem dX5_leftByStepsOf_23 : decode cX5_leftByStepsOf 23 = .ok (.iload_n 2, 1) := by decide +kernel
theorem dX5_leftByStepsOf_24 : decode cX5_leftByStepsOf 24 = .ok (.iload_n 3, 1) := by decide +kernel
theorem dX5_leftByStepsOf_25 : decode cX5_leftByStepsOf 25 = .ok (.invokestatic 100, 3) := by decide +kernel
theorem dX5_leftByStepsOf_28 : decode cX5_leftByStepsOf 28 = .ok (.istore 6, 2) := by decide +kernel
theorem dX5_leftByStepsOf_30 : decode cX5_leftByStepsOf 30 = .ok (.iload 6, 2) := by decide +kernel
theorem dX5_leftByStepsOf_32 : decode cX5_leftByStepsOf 32 = .ok (.iconst (-1), 1) := by decide +kernel
theorem dX5_leftByStepsOf_33 : decode cX5_leftByStepsOf 33 = .ok (.if_icmp .eq 41, 3) := by decide +kernel
theorem dX5_leftByStepsOf_36 : decode cX5_leftByStepsOf 36 = .ok (.iload 6, 2) := by decide +kernel
theorem dX5_leftByStepsOf_38 : decode cX5_leftByStepsOf 38 = .ok (.aload_n 0, 1) := by decide +kernel
theorem dX5_leftByStepsOf_39 : decode cX5_leftByStepsOf 39 = .ok (.getfield 12, 3) := by decide +kernel
theorem dX5_leftByStepsOf_42 : decode cX5_leftByStepsOf 42 = .ok (.iload 5, 2) := by decide +kernel
theorem dX5_leftByStepsOf_44 : decode cX5_leftByStepsOf 44 = .ok (.iconst 3, 1) := by decide +kernel
theorem dX5_leftByStepsOf_45 : decode cX5_leftByStepsOf 45 = .ok (.invokestatic 22, 3) := by decide +kernel
theorem dX5_leftByStepsOf_48 : decode cX5_leftByStepsOf 48 = .ok (.invokevirtual 18, 3) := by decide +kernel
theorem dX5_leftByStepsOf_51 : decode cX5_leftByStepsOf 51 = .ok (.if_icmp .ge 23, 3) := by decide +kernel
theorem dX5_leftByStepsOf_54 : decode cX5_leftByStepsOf 54 = .ok (.iload 4, 2) := by decide +kernel
theorem dX5_leftByStepsOf_56 : decode cX5_leftByStepsOf 56 = .ok (.aload_n 0, 1) := by decide +kernel
theorem dX5_leftByStepsOf_57 : decode cX5_leftByStepsOf 57 = .ok (.getfield 12, 3) := by decide +kernel
theorem dX5_leftByStepsOf_60 : decode cX5_leftByStepsOf 60 = .ok (.iload 5, 2) := by decide +kernel
theorem dX5_leftByStepsOf_62 : decode cX5_leftByStepsOf 62 = .ok (.iload 6, 2) := by decide +kernel
theorem dX5_leftByStepsOf_64 : decode cX5_leftByStepsOf 64 = .ok (.iconst 3, 1) := by decide +kernel
theorem dX5_leftByStepsOf_65 : decode cX5_leftByStepsOf 65 = .ok (.invokestatic 33, 3) := by decide +kernel
theorem dX5_leftByStepsOf_68 : decode cX5_leftByStepsOf 68 = .ok (.invokevirtual 18, 3) := by decide +kernel
theorem dX5_leftByStepsOf_71 : decode cX5_leftByStepsOf 71 = .ok (.isub, 1) := by decide +kernel
theorem dX5_leftByStepsOf_72 : decode cX5_leftByStepsOf 72 = .ok (.istore 4, 2) := by decide +kernel
theorem dX5_leftByStepsOf_74 : decode cX5_leftByStepsOf 74 = .ok (.iinc 5 1, 3) := by decide +kernel
theorem dX5_leftByStepsOf_77 : decode cX5_leftByStepsOf 77 = .ok (.goto (-68), 3) := by decide +kernel
theorem dX5_leftByStepsOf_80 : decode cX5_leftByStepsOf 80 = .ok (.iload 4, 2) := by decide +kernel
theorem dX5_leftByStepsOf_82 : decode cX5_leftByStepsOf 82 = .ok (.ireturn, 1) := by decide +kernel
set_option maxRecDepth 20000 in
theorem ggX5_cheapestTown_X6_ofTown : GoodIn wsX5_cheapestTown wsX6_ofTown := goodIn_r _ [4] (by decide +kernel) (by decide +kernel)
set_option maxRecDepth 20000 in
theorem gX5_cheapestTown_X6_ofTown_n44 : GoodIn wsX5_cheapestTown (wsX6_ofTown) := ggX5_cheapestTown_X6_ofTown
set_option maxRecDepth 20000 in
theorem ggX5_cheapestTown_X0_get : GoodIn wsX5_cheapestTown wsX0_get := goodIn_ca (goodIn_r _ [9, 10, 14] (by decide +kernel) (by decide +kernel)) (goodIn_sub (fun _ h => List.mem_cons_of_mem _ (List.mem_append_right _ h)) (by decide +kernel))
set_option maxRecDepth 20000 in
theorem gX5_cheapestTown_X0_get : GoodIn wsX5_cheapestTown (wsV RX5 18 RX0 yX0_get wsX0_get) := goodIn_app (goodIn_of _ (by decide +kernel)) ggX5_cheapestTown_X0_get
set_option maxRecDepth 20000 in
theorem ggX5_cheapestTown_X6_ofLeft : GoodIn wsX5_cheapestTown wsX6_ofLeft := goodIn_r _ [12] (by decide +kernel) (by decide +kernel)
set_option maxRecDepth 20000 in
theorem gX5_cheapestTown_X6_ofLeft_n83 : GoodIn wsX5_cheapestTown (wsX6_ofLeft) := ggX5_cheapestTown_X6_ofLeft
theorem dX5_cheapestTown_0 : decode cX5_cheapestTown 0 = .ok (.iconst (-1), 1) := by decide +kernel
theorem dX5_cheapestTown_1 : decode cX5_cheapestTown 1 = .ok (.istore 4, 2) := by decide +kernel
theorem dX5_cheapestTown_3 : decode cX5_cheapestTown 3 = .ok (.bipush 6, 2) := by decide +kernel
theorem dX5_cheapestTown_5 : decode cX5_cheapestTown 5 = .ok (.istore 5, 2) := by decide +kernel
theorem dX5_cheapestTown_7 : decode cX5_cheapestTown 7 = .ok (.iconst 0, 1) := by decide +kernel
theorem dX5_cheapestTown_8 : decode cX5_cheapestTown 8 = .ok (.istore 6, 2) := by decide +kernel
theorem dX5_cheapestTown_10 : decode cX5_cheapestTown 10 = .ok (.iload 6, 2) := by decide +kernel
theorem dX5_cheapestTown_12 : decode cX5_cheapestTown 12 = .ok (.iconst 5, 1) := by decide +kernel
theorem dX5_cheapestTown_13 : decode cX5_cheapestTown 13 = .ok (.if_icmp .ge 86, 3) := by decide +kernel
theorem dX5_cheapestTown_16 : decode cX5_cheapestTown 16 = .ok (.aload_n 0, 1) := by decide +kernel
theorem dX5_cheapestTown_17 : decode cX5_cheapestTown 17 = .ok (.getfield 12, 3) := by decide +kernel
theorem dX5_cheapestTown_20 : decode cX5_cheapestTown 20 = .ok (.iload 6, 2) := by decide +kernel
theorem dX5_cheapestTown_22 : decode cX5_cheapestTown 22 = .ok (.iconst 1, 1) := by decide +kernel
theorem dX5_cheapestTown_23 : decode cX5_cheapestTown 23 = .ok (.invokestatic 44, 3) := by decide +kernel
theorem dX5_cheapestTown_26 : decode cX5_cheapestTown 26 = .ok (.invokevirtual 18, 3) := by decide +kernel
theorem dX5_cheapestTown_29 : decode cX5_cheapestTown 29 = .ok (.istore 7, 2) := by decide +kernel
theorem dX5_cheapestTown_31 : decode cX5_cheapestTown 31 = .ok (.aload_n 0, 1) := by decide +kernel
theorem dX5_cheapestTown_32 : decode cX5_cheapestTown 32 = .ok (.getfield 12, 3) := by decide +kernel
theorem dX5_cheapestTown_35 : decode cX5_cheapestTown 35 = .ok (.iload 6, 2) := by decide +kernel
theorem dX5_cheapestTown_37 : decode cX5_cheapestTown 37 = .ok (.iconst 0, 1) := by decide +kernel
theorem dX5_cheapestTown_38 : decode cX5_cheapestTown 38 = .ok (.invokestatic 44, 3) := by decide +kernel
theorem dX5_cheapestTown_41 : decode cX5_cheapestTown 41 = .ok (.invokevirtual 18, 3) := by decide +kernel
theorem dX5_cheapestTown_44 : decode cX5_cheapestTown 44 = .ok (.iconst 1, 1) := by decide +kernel
theorem dX5_cheapestTown_45 : decode cX5_cheapestTown 45 = .ok (.if_icmp .ne 7, 3) := by decide +kernel
theorem dX5_cheapestTown_48 : decode cX5_cheapestTown 48 = .ok (.iconst 1, 1) := by decide +kernel
theorem dX5_cheapestTown_49 : decode cX5_cheapestTown 49 = .ok (.goto 4, 3) := by decide +kernel
theorem dX5_cheapestTown_52 : decode cX5_cheapestTown 52 = .ok (.iconst 0, 1) := by decide +kernel
theorem dX5_cheapestTown_53 : decode cX5_cheapestTown 53 = .ok (.istore 8, 2) := by decide +kernel
theorem dX5_cheapestTown_55 : decode cX5_cheapestTown 55 = .ok (.iload 8, 2) := by decide +kernel
theorem dX5_cheapestTown_57 : decode cX5_cheapestTown 57 = .ok (.ifCond .eq 36, 3) := by decide +kernel
theorem dX5_cheapestTown_60 : decode cX5_cheapestTown 60 = .ok (.aload_n 0, 1) := by decide +kernel
theorem dX5_cheapestTown_61 : decode cX5_cheapestTown 61 = .ok (.getfield 12, 3) := by decide +kernel
theorem dX5_cheapestTown_64 : decode cX5_cheapestTown 64 = .ok (.iload_n 1, 1) := by decide +kernel
theorem dX5_cheapestTown_65 : decode cX5_cheapestTown 65 = .ok (.iload 6, 2) := by decide +kernel
theorem dX5_cheapestTown_67 : decode cX5_cheapestTown 67 = .ok (.iload_n 2, 1) := by decide +kernel
theorem dX5_cheapestTown_68 : decode cX5_cheapestTown 68 = .ok (.invokestatic 83, 3) := by decide +kernel
theorem dX5_cheapestTown_71 : decode cX5_cheapestTown 71 = .ok (.invokevirtual 18, 3) := by decide +kernel
theorem dX5_cheapestTown_74 : decode cX5_cheapestTown 74 = .ok (.iload_n 3, 1) := by decide +kernel
theorem dX5_cheapestTown_75 : decode cX5_cheapestTown 75 = .ok (.if_icmp .lt 18, 3) := by decide +kernel
theorem dX5_cheapestTown_78 : decode cX5_cheapestTown 78 = .ok (.iload 7, 2) := by decide +kernel
theorem dX5_cheapestTown_80 : decode cX5_cheapestTown 80 = .ok (.iload 5, 2) := by decide +kernel
theorem dX5_cheapestTown_82 : decode cX5_cheapestTown 82 = .ok (.if_icmp .ge 11, 3) := by decide +kernel
theorem dX5_cheapestTown_85 : decode cX5_cheapestTown 85 = .ok (.iload 6, 2) := by decide +kernel
theorem dX5_cheapestTown_87 : decode cX5_cheapestTown 87 = .ok (.istore 4, 2) := by decide +kernel
theorem dX5_cheapestTown_89 : decode cX5_cheapestTown 89 = .ok (.iload 7, 2) := by decide +kernel
theorem dX5_cheapestTown_91 : decode cX5_cheapestTown 91 = .ok (.istore 5, 2) := by decide +kernel
theorem dX5_cheapestTown_93 : decode cX5_cheapestTown 93 = .ok (.iinc 6 1, 3) := by decide +kernel
theorem dX5_cheapestTown_96 : decode cX5_cheapestTown 96 = .ok (.goto (-86), 3) := by decide +kernel
theorem dX5_cheapestTown_99 : decode cX5_cheapestTown 99 = .ok (.iload 4, 2) := by decide +kernel
theorem dX5_cheapestTown_101 : decode cX5_cheapestTown 101 = .ok (.ireturn, 1) := by decide +kernel
set_option maxRecDepth 20000 in
theorem ggX5_tourInPlace_X0_get : GoodIn wsX5_tourInPlace wsX0_get := goodIn_ca (goodIn_r _ [6, 7, 17] (by decide +kernel) (by decide +kernel)) (goodIn_sub (fun _ h => List.mem_cons_of_mem _ (List.mem_append_right _ h)) (by decide +kernel))
set_option maxRecDepth 20000 in
theorem gX5_tourInPlace_X0_get : GoodIn wsX5_tourInPlace (wsV RX5 18 RX0 yX0_get wsX0_get) := goodIn_app (goodIn_of _ (by decide +kernel)) ggX5_tourInPlace_X0_get
set_option maxRecDepth 20000 in
theorem ggX5_tourInPlace_X5_comesBefore : GoodIn wsX5_tourInPlace wsX5_comesBefore := goodIn_ca (goodIn_r _ [12, 1, 13, 14, 15, 2, 3, 4, 5, 6, 7, 16, 17] (by decide +kernel) (by decide +kernel)) (goodIn_sub (fun _ h => List.mem_cons_of_mem _ (List.mem_append_right _ h)) (by decide +kernel))
set_option maxRecDepth 20000 in
theorem gX5_tourInPlace_X5_comesBefore : GoodIn wsX5_tourInPlace (wsV RX5 104 RX5 yX5_comesBefore wsX5_comesBefore) := goodIn_app (goodIn_of _ (by decide +kernel)) ggX5_tourInPlace_X5_comesBefore
theorem dX5_tourInPlace_0 : decode cX5_tourInPlace 0 = .ok (.aload_n 0, 1) := by decide +kernel
theorem dX5_tourInPlace_1 : decode cX5_tourInPlace 1 = .ok (.getfield 12, 3) := by decide +kernel
theorem dX5_tourInPlace_4 : decode cX5_tourInPlace 4 = .ok (.iconst 1, 1) := by decide +kernel
theorem dX5_tourInPlace_5 : decode cX5_tourInPlace 5 = .ok (.invokevirtual 18, 3) := by decide +kernel
theorem dX5_tourInPlace_8 : decode cX5_tourInPlace 8 = .ok (.istore_n 2, 1) := by decide +kernel
theorem dX5_tourInPlace_9 : decode cX5_tourInPlace 9 = .ok (.iconst 0, 1) := by decide +kernel
theorem dX5_tourInPlace_10 : decode cX5_tourInPlace 10 = .ok (.istore_n 3, 1) := by decide +kernel
theorem dX5_tourInPlace_11 : decode cX5_tourInPlace 11 = .ok (.iload_n 3, 1) := by decide +kernel
theorem dX5_tourInPlace_12 : decode cX5_tourInPlace 12 = .ok (.iload_n 2, 1) := by decide +kernel
theorem dX5_tourInPlace_13 : decode cX5_tourInPlace 13 = .ok (.if_icmp .ge 55, 3) := by decide +kernel
theorem dX5_tourInPlace_16 : decode cX5_tourInPlace 16 = .ok (.iconst 0, 1) := by decide +kernel
theorem dX5_tourInPlace_17 : decode cX5_tourInPlace 17 = .ok (.istore 4, 2) := by decide +kernel
theorem dX5_tourInPlace_19 : decode cX5_tourInPlace 19 = .ok (.iconst 0, 1) := by decide +kernel
theorem dX5_tourInPlace_20 : decode cX5_tourInPlace 20 = .ok (.istore 5, 2) := by decide +kernel
theorem dX5_tourInPlace_22 : decode cX5_tourInPlace 22 = .ok (.iload 5, 2) := by decide +kernel
theorem dX5_tourInPlace_24 : decode cX5_tourInPlace 24 = .ok (.iload_n 2, 1) := by decide +kernel
theorem dX5_tourInPlace_25 : decode cX5_tourInPlace 25 = .ok (.if_icmp .ge 29, 3) := by decide +kernel
theorem dX5_tourInPlace_28 : decode cX5_tourInPlace 28 = .ok (.iload 4, 2) := by decide +kernel
theorem dX5_tourInPlace_30 : decode cX5_tourInPlace 30 = .ok (.aload_n 0, 1) := by decide +kernel
theorem dX5_tourInPlace_31 : decode cX5_tourInPlace 31 = .ok (.iload 5, 2) := by decide +kernel
theorem dX5_tourInPlace_33 : decode cX5_tourInPlace 33 = .ok (.iload_n 3, 1) := by decide +kernel
theorem dX5_tourInPlace_34 : decode cX5_tourInPlace 34 = .ok (.invokevirtual 104, 3) := by decide +kernel
theorem dX5_tourInPlace_37 : decode cX5_tourInPlace 37 = .ok (.ifCond .eq 7, 3) := by decide +kernel
theorem dX5_tourInPlace_40 : decode cX5_tourInPlace 40 = .ok (.iconst 1, 1) := by decide +kernel
theorem dX5_tourInPlace_41 : decode cX5_tourInPlace 41 = .ok (.goto 4, 3) := by decide +kernel
theorem dX5_tourInPlace_44 : decode cX5_tourInPlace 44 = .ok (.iconst 0, 1) := by decide +kernel
theorem dX5_tourInPlace_45 : decode cX5_tourInPlace 45 = .ok (.iadd, 1) := by decide +kernel
theorem dX5_tourInPlace_46 : decode cX5_tourInPlace 46 = .ok (.istore 4, 2) := by decide +kernel
theorem dX5_tourInPlace_48 : decode cX5_tourInPlace 48 = .ok (.iinc 5 1, 3) := by decide +kernel
theorem dX5_tourInPlace_51 : decode cX5_tourInPlace 51 = .ok (.goto (-29), 3) := by decide +kernel
theorem dX5_tourInPlace_54 : decode cX5_tourInPlace 54 = .ok (.iload 4, 2) := by decide +kernel
theorem dX5_tourInPlace_56 : decode cX5_tourInPlace 56 = .ok (.iload_n 1, 1) := by decide +kernel
theorem dX5_tourInPlace_57 : decode cX5_tourInPlace 57 = .ok (.if_icmp .ne 5, 3) := by decide +kernel
theorem dX5_tourInPlace_60 : decode cX5_tourInPlace 60 = .ok (.iload_n 3, 1) := by decide +kernel
theorem dX5_tourInPlace_61 : decode cX5_tourInPlace 61 = .ok (.ireturn, 1) := by decide +kernel
theorem dX5_tourInPlace_62 : decode cX5_tourInPlace 62 = .ok (.iinc 3 1, 3) := by decide +kernel
theorem dX5_tourInPlace_65 : decode cX5_tourInPlace 65 = .ok (.goto (-54), 3) := by decide +kernel
theorem dX5_tourInPlace_68 : decode cX5_tourInPlace 68 = .ok (.iconst (-1), 1) := by decide +kernel
theorem dX5_tourInPlace_69 : decode cX5_tourInPlace 69 = .ok (.ireturn, 1) := by decide +kernel
set_option maxRecDepth 20000 in
theorem ggX5_comesBefore_X6_ofTour : GoodIn wsX5_comesBefore wsX6_ofTour := goodIn_r _ [4] (by decide +kernel) (by decide +kernel)
set_option maxRecDepth 20000 in
theorem gX5_comesBefore_X6_ofTour_n22 : GoodIn wsX5_comesBefore (wsX6_ofTour) := ggX5_comesBefore_X6_ofTour
set_option maxRecDepth 20000 in
theorem ggX5_comesBefore_X0_get : GoodIn wsX5_comesBefore wsX0_get := goodIn_ca (goodIn_r _ [9, 10, 12] (by decide +kernel) (by decide +kernel)) (goodIn_sub (fun _ h => List.mem_cons_of_mem _ (List.mem_append_right _ h)) (by decide +kernel))
set_option maxRecDepth 20000 in
theorem gX5_comesBefore_X0_get : GoodIn wsX5_comesBefore (wsV RX5 18 RX0 yX0_get wsX0_get) := goodIn_app (goodIn_of _ (by decide +kernel)) ggX5_comesBefore_X0_get
theorem dX5_comesBefore_0 : decode cX5_comesBefore 0 = .ok (.aload_n 0, 1) := by decide +kernel
theorem dX5_comesBefore_1 : decode cX5_comesBefore 1 = .ok (.getfield 12, 3) := by decide +kernel
theorem dX5_comesBefore_4 : decode cX5_comesBefore 4 = .ok (.iload_n 1, 1) := by decide +kernel
theorem dX5_comesBefore_5 : decode cX5_comesBefore 5 = .ok (.iconst 3, 1) := by decide +kernel
theorem dX5_comesBefore_6 : decode cX5_comesBefore 6 = .ok (.invokestatic 22, 3) := by decide +kernel
theorem dX5_comesBefore_9 : decode cX5_comesBefore 9 = .ok (.invokevirtual 18, 3) := by decide +kernel
theorem dX5_comesBefore_12 : decode cX5_comesBefore 12 = .ok (.istore_n 3, 1) := by decide +kernel
theorem dX5_comesBefore_13 : decode cX5_comesBefore 13 = .ok (.aload_n 0, 1) := by decide +kernel
theorem dX5_comesBefore_14 : decode cX5_comesBefore 14 = .ok (.getfield 12, 3) := by decide +kernel
theorem dX5_comesBefore_17 : decode cX5_comesBefore 17 = .ok (.iload_n 2, 1) := by decide +kernel
theorem dX5_comesBefore_18 : decode cX5_comesBefore 18 = .ok (.iconst 3, 1) := by decide +kernel
theorem dX5_comesBefore_19 : decode cX5_comesBefore 19 = .ok (.invokestatic 22, 3) := by decide +kernel
theorem dX5_comesBefore_22 : decode cX5_comesBefore 22 = .ok (.invokevirtual 18, 3) := by decide +kernel
theorem dX5_comesBefore_25 : decode cX5_comesBefore 25 = .ok (.istore 4, 2) := by decide +kernel
theorem dX5_comesBefore_27 : decode cX5_comesBefore 27 = .ok (.iload_n 3, 1) := by decide +kernel
theorem dX5_comesBefore_28 : decode cX5_comesBefore 28 = .ok (.iload 4, 2) := by decide +kernel
theorem dX5_comesBefore_30 : decode cX5_comesBefore 30 = .ok (.if_icmp .eq 15, 3) := by decide +kernel
theorem dX5_comesBefore_33 : decode cX5_comesBefore 33 = .ok (.iload_n 3, 1) := by decide +kernel
theorem dX5_comesBefore_34 : decode cX5_comesBefore 34 = .ok (.iload 4, 2) := by decide +kernel
theorem dX5_comesBefore_36 : decode cX5_comesBefore 36 = .ok (.if_icmp .le 7, 3) := by decide +kernel
theorem dX5_comesBefore_39 : decode cX5_comesBefore 39 = .ok (.iconst 1, 1) := by decide +kernel
theorem dX5_comesBefore_40 : decode cX5_comesBefore 40 = .ok (.goto 4, 3) := by decide +kernel
theorem dX5_comesBefore_43 : decode cX5_comesBefore 43 = .ok (.iconst 0, 1) := by decide +kernel
theorem dX5_comesBefore_44 : decode cX5_comesBefore 44 = .ok (.ireturn, 1) := by decide +kernel
theorem dX5_comesBefore_45 : decode cX5_comesBefore 45 = .ok (.aload_n 0, 1) := by decide +kernel
theorem dX5_comesBefore_46 : decode cX5_comesBefore 46 = .ok (.getfield 12, 3) := by decide +kernel
theorem dX5_comesBefore_49 : decode cX5_comesBefore 49 = .ok (.iload_n 1, 1) := by decide +kernel
theorem dX5_comesBefore_50 : decode cX5_comesBefore 50 = .ok (.iconst 2, 1) := by decide +kernel
theorem dX5_comesBefore_51 : decode cX5_comesBefore 51 = .ok (.invokestatic 22, 3) := by decide +kernel
theorem dX5_comesBefore_54 : decode cX5_comesBefore 54 = .ok (.invokevirtual 18, 3) := by decide +kernel
theorem dX5_comesBefore_57 : decode cX5_comesBefore 57 = .ok (.istore 5, 2) := by decide +kernel
theorem dX5_comesBefore_59 : decode cX5_comesBefore 59 = .ok (.aload_n 0, 1) := by decide +kernel
theorem dX5_comesBefore_60 : decode cX5_comesBefore 60 = .ok (.getfield 12, 3) := by decide +kernel
theorem dX5_comesBefore_63 : decode cX5_comesBefore 63 = .ok (.iload_n 2, 1) := by decide +kernel
theorem dX5_comesBefore_64 : decode cX5_comesBefore 64 = .ok (.iconst 2, 1) := by decide +kernel
theorem dX5_comesBefore_65 : decode cX5_comesBefore 65 = .ok (.invokestatic 22, 3) := by decide +kernel
theorem dX5_comesBefore_68 : decode cX5_comesBefore 68 = .ok (.invokevirtual 18, 3) := by decide +kernel
theorem dX5_comesBefore_71 : decode cX5_comesBefore 71 = .ok (.istore 6, 2) := by decide +kernel
theorem dX5_comesBefore_73 : decode cX5_comesBefore 73 = .ok (.iload 5, 2) := by decide +kernel
theorem dX5_comesBefore_75 : decode cX5_comesBefore 75 = .ok (.iload 6, 2) := by decide +kernel
theorem dX5_comesBefore_77 : decode cX5_comesBefore 77 = .ok (.if_icmp .eq 18, 3) := by decide +kernel
theorem dX5_comesBefore_80 : decode cX5_comesBefore 80 = .ok (.iload 5, 2) := by decide +kernel
theorem dX5_comesBefore_82 : decode cX5_comesBefore 82 = .ok (.iload 6, 2) := by decide +kernel
theorem dX5_comesBefore_84 : decode cX5_comesBefore 84 = .ok (.if_icmp .ge 7, 3) := by decide +kernel
theorem dX5_comesBefore_87 : decode cX5_comesBefore 87 = .ok (.iconst 1, 1) := by decide +kernel
theorem dX5_comesBefore_88 : decode cX5_comesBefore 88 = .ok (.goto 17, 3) := by decide +kernel
theorem dX5_comesBefore_91 : decode cX5_comesBefore 91 = .ok (.iconst 0, 1) := by decide +kernel
theorem dX5_comesBefore_92 : decode cX5_comesBefore 92 = .ok (.goto 13, 3) := by decide +kernel
theorem dX5_comesBefore_95 : decode cX5_comesBefore 95 = .ok (.iload_n 1, 1) := by decide +kernel
theorem dX5_comesBefore_96 : decode cX5_comesBefore 96 = .ok (.iload_n 2, 1) := by decide +kernel
theorem dX5_comesBefore_97 : decode cX5_comesBefore 97 = .ok (.if_icmp .ge 7, 3) := by decide +kernel
theorem dX5_comesBefore_100 : decode cX5_comesBefore 100 = .ok (.iconst 1, 1) := by decide +kernel
theorem dX5_comesBefore_101 : decode cX5_comesBefore 101 = .ok (.goto 4, 3) := by decide +kernel
theorem dX5_comesBefore_104 : decode cX5_comesBefore 104 = .ok (.iconst 0, 1) := by decide +kernel
theorem dX5_comesBefore_105 : decode cX5_comesBefore 105 = .ok (.ireturn, 1) := by decide +kernel
set_option maxRecDepth 20000 in
theorem ggX5_toursThatAre_X0_get : GoodIn wsX5_toursThatAre wsX0_get := goodIn_ca (goodIn_r _ [6, 7, 12] (by decide +kernel) (by decide +kernel)) (goodIn_sub (fun _ h => List.mem_cons_of_mem _ (List.mem_append_right _ h)) (by decide +kernel))
set_option maxRecDepth 20000 in
theorem gX5_toursThatAre_X0_get : GoodIn wsX5_toursThatAre (wsV RX5 18 RX0 yX0_get wsX0_get) := goodIn_app (goodIn_of _ (by decide +kernel)) ggX5_toursThatAre_X0_get
set_option maxRecDepth 20000 in
theorem ggX5_toursThatAre_X6_ofTour : GoodIn wsX5_toursThatAre wsX6_ofTour := goodIn_r _ [10] (by decide +kernel) (by decide +kernel)
set_option maxRecDepth 20000 in
theorem gX5_toursThatAre_X6_ofTour_n22 : GoodIn wsX5_toursThatAre (wsX6_ofTour) := ggX5_toursThatAre_X6_ofTour
theorem dX5_toursThatAre_0 : decode cX5_toursThatAre 0 = .ok (.iconst 0, 1) := by decide +kernel
theorem dX5_toursThatAre_1 : decode cX5_toursThatAre 1 = .ok (.istore_n 2, 1) := by decide +kernel
theorem dX5_toursThatAre_2 : decode cX5_toursThatAre 2 = .ok (.iconst 0, 1) := by decide +kernel
theorem dX5_toursThatAre_3 : decode cX5_toursThatAre 3 = .ok (.istore_n 3, 1) := by decide +kernel
theorem dX5_toursThatAre_4 : decode cX5_toursThatAre 4 = .ok (.iload_n 3, 1) := by decide +kernel
theorem dX5_toursThatAre_5 : decode cX5_toursThatAre 5 = .ok (.aload_n 0, 1) := by decide +kernel
theorem dX5_toursThatAre_6 : decode cX5_toursThatAre 6 = .ok (.getfield 12, 3) := by decide +kernel
theorem dX5_toursThatAre_9 : decode cX5_toursThatAre 9 = .ok (.iconst 1, 1) := by decide +kernel
theorem dX5_toursThatAre_10 : decode cX5_toursThatAre 10 = .ok (.invokevirtual 18, 3) := by decide +kernel
theorem dX5_toursThatAre_13 : decode cX5_toursThatAre 13 = .ok (.if_icmp .ge 33, 3) := by decide +kernel
theorem dX5_toursThatAre_16 : decode cX5_toursThatAre 16 = .ok (.iload_n 2, 1) := by decide +kernel
theorem dX5_toursThatAre_17 : decode cX5_toursThatAre 17 = .ok (.aload_n 0, 1) := by decide +kernel
theorem dX5_toursThatAre_18 : decode cX5_toursThatAre 18 = .ok (.getfield 12, 3) := by decide +kernel
theorem dX5_toursThatAre_21 : decode cX5_toursThatAre 21 = .ok (.iload_n 3, 1) := by decide +kernel
theorem dX5_toursThatAre_22 : decode cX5_toursThatAre 22 = .ok (.iconst 0, 1) := by decide +kernel
theorem dX5_toursThatAre_23 : decode cX5_toursThatAre 23 = .ok (.invokestatic 22, 3) := by decide +kernel
theorem dX5_toursThatAre_26 : decode cX5_toursThatAre 26 = .ok (.invokevirtual 18, 3) := by decide +kernel
theorem dX5_toursThatAre_29 : decode cX5_toursThatAre 29 = .ok (.iload_n 1, 1) := by decide +kernel
theorem dX5_toursThatAre_30 : decode cX5_toursThatAre 30 = .ok (.if_icmp .ne 7, 3) := by decide +kernel
theorem dX5_toursThatAre_33 : decode cX5_toursThatAre 33 = .ok (.iconst 1, 1) := by decide +kernel
theorem dX5_toursThatAre_34 : decode cX5_toursThatAre 34 = .ok (.goto 4, 3) := by decide +kernel
theorem dX5_toursThatAre_37 : decode cX5_toursThatAre 37 = .ok (.iconst 0, 1) := by decide +kernel
theorem dX5_toursThatAre_38 : decode cX5_toursThatAre 38 = .ok (.iadd, 1) := by decide +kernel
theorem dX5_toursThatAre_39 : decode cX5_toursThatAre 39 = .ok (.istore_n 2, 1) := by decide +kernel
theorem dX5_toursThatAre_40 : decode cX5_toursThatAre 40 = .ok (.iinc 3 1, 3) := by decide +kernel
theorem dX5_toursThatAre_43 : decode cX5_toursThatAre 43 = .ok (.goto (-39), 3) := by decide +kernel
theorem dX5_toursThatAre_46 : decode cX5_toursThatAre 46 = .ok (.iload_n 2, 1) := by decide +kernel
theorem dX5_toursThatAre_47 : decode cX5_toursThatAre 47 = .ok (.ireturn, 1) := by decide +kernel
set_option maxRecDepth 20000 in
theorem ggX5_sumOfTours_X0_get : GoodIn wsX5_sumOfTours wsX0_get := goodIn_ca (goodIn_r _ [6, 7, 12] (by decide +kernel) (by decide +kernel)) (goodIn_sub (fun _ h => List.mem_cons_of_mem _ (List.mem_append_right _ h)) (by decide +kernel))
set_option maxRecDepth 20000 in
theorem gX5_sumOfTours_X0_get : GoodIn wsX5_sumOfTours (wsV RX5 18 RX0 yX0_get wsX0_get) := goodIn_app (goodIn_of _ (by decide +kernel)) ggX5_sumOfTours_X0_get
set_option maxRecDepth 20000 in
theorem ggX5_sumOfTours_X6_ofTour : GoodIn wsX5_sumOfTours wsX6_ofTour := goodIn_r _ [10] (by decide +kernel) (by decide +kernel)
set_option maxRecDepth 20000 in
theorem gX5_sumOfTours_X6_ofTour_n22 : GoodIn wsX5_sumOfTours (wsX6_ofTour) := ggX5_sumOfTours_X6_ofTour
theorem dX5_sumOfTours_0 : decode cX5_sumOfTours 0 = .ok (.iconst 0, 1) := by decide +kernel
theorem dX5_sumOfTours_1 : decode cX5_sumOfTours 1 = .ok (.istore_n 2, 1) := by decide +kernel
theorem dX5_sumOfTours_2 : decode cX5_sumOfTours 2 = .ok (.iconst 0, 1) := by decide +kernel
theorem dX5_sumOfTours_3 : decode cX5_sumOfTours 3 = .ok (.istore_n 3, 1) := by decide +kernel
theorem dX5_sumOfTours_4 : decode cX5_sumOfTours 4 = .ok (.iload_n 3, 1) := by decide +kernel
theorem dX5_sumOfTours_5 : decode cX5_sumOfTours 5 = .ok (.aload_n 0, 1) := by decide +kernel
theorem dX5_sumOfTours_6 : decode cX5_sumOfTours 6 = .ok (.getfield 12, 3) := by decide +kernel
theorem dX5_sumOfTours_9 : decode cX5_sumOfTours 9 = .ok (.iconst 1, 1) := by decide +kernel
theorem dX5_sumOfTours_10 : decode cX5_sumOfTours 10 = .ok (.invokevirtual 18, 3) := by decide +kernel
theorem dX5_sumOfTours_13 : decode cX5_sumOfTours 13 = .ok (.if_icmp .ge 24, 3) := by decide +kernel
theorem dX5_sumOfTours_16 : decode cX5_sumOfTours 16 = .ok (.iload_n 2, 1) := by decide +kernel
theorem dX5_sumOfTours_17 : decode cX5_sumOfTours 17 = .ok (.aload_n 0, 1) := by decide +kernel
theorem dX5_sumOfTours_18 : decode cX5_sumOfTours 18 = .ok (.getfield 12, 3) := by decide +kernel
theorem dX5_sumOfTours_21 : decode cX5_sumOfTours 21 = .ok (.iload_n 3, 1) := by decide +kernel
theorem dX5_sumOfTours_22 : decode cX5_sumOfTours 22 = .ok (.iload_n 1, 1) := by decide +kernel
theorem dX5_sumOfTours_23 : decode cX5_sumOfTours 23 = .ok (.invokestatic 22, 3) := by decide +kernel
theorem dX5_sumOfTours_26 : decode cX5_sumOfTours 26 = .ok (.invokevirtual 18, 3) := by decide +kernel
theorem dX5_sumOfTours_29 : decode cX5_sumOfTours 29 = .ok (.iadd, 1) := by decide +kernel
theorem dX5_sumOfTours_30 : decode cX5_sumOfTours 30 = .ok (.istore_n 2, 1) := by decide +kernel
theorem dX5_sumOfTours_31 : decode cX5_sumOfTours 31 = .ok (.iinc 3 1, 3) := by decide +kernel
theorem dX5_sumOfTours_34 : decode cX5_sumOfTours 34 = .ok (.goto (-30), 3) := by decide +kernel
theorem dX5_sumOfTours_37 : decode cX5_sumOfTours 37 = .ok (.iload_n 2, 1) := by decide +kernel
theorem dX5_sumOfTours_38 : decode cX5_sumOfTours 38 = .ok (.ireturn, 1) := by decide +kernel
set_option maxRecDepth 20000 in
theorem ggX5_openTowns_X6_ofTown : GoodIn wsX5_openTowns wsX6_ofTown := goodIn_r _ [4] (by decide +kernel) (by decide +kernel)
set_option maxRecDepth 20000 in
theorem gX5_openTowns_X6_ofTown_n44 : GoodIn wsX5_openTowns (wsX6_ofTown) := ggX5_openTowns_X6_ofTown
set_option maxRecDepth 20000 in
theorem ggX5_openTowns_X0_get : GoodIn wsX5_openTowns wsX0_get := goodIn_ca (goodIn_r _ [9, 10, 12] (by decide +kernel) (by decide +kernel)) (goodIn_sub (fun _ h => List.mem_cons_of_mem _ (List.mem_append_right _ h)) (by decide +kernel))
set_option maxRecDepth 20000 in
theorem gX5_openTowns_X0_get : GoodIn wsX5_openTowns (wsV RX5 18 RX0 yX0_get wsX0_get) := goodIn_app (goodIn_of _ (by decide +kernel)) ggX5_openTowns_X0_get
theorem dX5_openTowns_0 : decode cX5_openTowns 0 = .ok (.iconst 0, 1) := by decide +kernel
theorem dX5_openTowns_1 : decode cX5_openTowns 1 = .ok (.istore_n 1, 1) := by decide +kernel
theorem dX5_openTowns_2 : decode cX5_openTowns 2 = .ok (.iconst 0, 1) := by decide +kernel
theorem dX5_openTowns_3 : decode cX5_openTowns 3 = .ok (.istore_n 2, 1) := by decide +kernel
theorem dX5_openTowns_4 : decode cX5_openTowns 4 = .ok (.iload_n 2, 1) := by decide +kernel
theorem dX5_openTowns_5 : decode cX5_openTowns 5 = .ok (.iconst 5, 1) := by decide +kernel
theorem dX5_openTowns_6 : decode cX5_openTowns 6 = .ok (.if_icmp .ge 24, 3) := by decide +kernel
theorem dX5_openTowns_9 : decode cX5_openTowns 9 = .ok (.iload_n 1, 1) := by decide +kernel
theorem dX5_openTowns_10 : decode cX5_openTowns 10 = .ok (.aload_n 0, 1) := by decide +kernel
theorem dX5_openTowns_11 : decode cX5_openTowns 11 = .ok (.getfield 12, 3) := by decide +kernel
theorem dX5_openTowns_14 : decode cX5_openTowns 14 = .ok (.iload_n 2, 1) := by decide +kernel
theorem dX5_openTowns_15 : decode cX5_openTowns 15 = .ok (.iconst 0, 1) := by decide +kernel
theorem dX5_openTowns_16 : decode cX5_openTowns 16 = .ok (.invokestatic 44, 3) := by decide +kernel
theorem dX5_openTowns_19 : decode cX5_openTowns 19 = .ok (.invokevirtual 18, 3) := by decide +kernel
theorem dX5_openTowns_22 : decode cX5_openTowns 22 = .ok (.iadd, 1) := by decide +kernel
theorem dX5_openTowns_23 : decode cX5_openTowns 23 = .ok (.istore_n 1, 1) := by decide +kernel
theorem dX5_openTowns_24 : decode cX5_openTowns 24 = .ok (.iinc 2 1, 3) := by decide +kernel
theorem dX5_openTowns_27 : decode cX5_openTowns 27 = .ok (.goto (-23), 3) := by decide +kernel
theorem dX5_openTowns_30 : decode cX5_openTowns 30 = .ok (.iload_n 1, 1) := by decide +kernel
theorem dX5_openTowns_31 : decode cX5_openTowns 31 = .ok (.ireturn, 1) := by decide +kernel
set_option maxRecDepth 20000 in
theorem ggX6_init_X5_init : GoodIn wsX6_init wsX5_init := goodIn_ca (goodIn_r _ [34, 35, 2, 3, 36, 19, 20, 37, 38, 39, 40, 41, 42, 43, 44, 45, 46, 47, 48, 49, 50, 51, 52, 53, 54, 127, 110] (by decide +kernel) (by decide +kernel)) (goodIn_sub (fun _ h => List.mem_cons_of_mem _ (List.mem_append_right _ h)) (by decide +kernel))
set_option maxRecDepth 20000 in
theorem gX6_init_X5_init_n11 : GoodIn wsX6_init (wsX5_init) := ggX6_init_X5_init
set_option maxRecDepth 20000 in
theorem ggX6_init_X2_init : GoodIn wsX6_init wsX2_init := goodIn_r _ [56, 57, 2, 3, 58, 59, 122, 123] (by decide +kernel) (by decide +kernel)
set_option maxRecDepth 20000 in
theorem gX6_init_X2_init_n26 : GoodIn wsX6_init (wsX2_init) := ggX6_init_X2_init
set_option maxRecDepth 20000 in
theorem ggX6_init_X1_init : GoodIn wsX6_init wsX1_init := goodIn_ca (goodIn_r _ [62, 63, 2, 3, 64, 65, 66, 67, 19, 20, 68, 39, 40, 41, 42, 43, 44, 45, 46, 47, 48, 49, 50, 51, 52, 53, 54, 124, 125, 126, 127] (by decide +kernel) (by decide +kernel)) (goodIn_sub (fun _ h => List.mem_cons_of_mem _ (List.mem_append_right _ h)) (by decide +kernel))
set_option maxRecDepth 20000 in
theorem gX6_init_X1_init : GoodIn wsX6_init (wsX1_init) := ggX6_init_X1_init
set_option maxRecDepth 20000 in
theorem ggX6_init_X0_init : GoodIn wsX6_init wsX0_init := goodIn_ca (goodIn_r _ [40, 41, 2, 3, 42, 43, 44, 45, 46, 20, 47, 48, 49, 50, 51, 52, 53, 54, 127] (by decide +kernel) (by decide +kernel)) (goodIn_sub (fun _ h => List.mem_cons_of_mem _ (List.mem_append_right _ h)) (by decide +kernel))
set_option maxRecDepth 20000 in
theorem gX6_init_X0_init : GoodIn wsX6_init (wsX0_init) := ggX6_init_X0_init
set_option maxRecDepth 20000 in
theorem ggX6_init_X4_init : GoodIn wsX6_init wsX4_init := goodIn_r _ [71, 72, 2, 3, 73, 74, 75, 76, 77, 78, 79, 80, 81, 82, 128, 129, 130, 131, 132, 133, 134, 135, 136] (by decide +kernel) (by decide +kernel)
set_option maxRecDepth 20000 in
theorem gX6_init_X4_init_n53 : GoodIn wsX6_init (wsX4_init) := ggX6_init_X4_init
set_option maxRecDepth 20000 in
theorem ggX6_init_X3_init : GoodIn wsX6_init wsX3_init := goodIn_r _ [84, 85, 2, 3, 86, 87, 88, 89, 90, 91, 92, 93, 94, 95, 96, 97, 98, 99, 100, 101, 102, 103, 104, 105, 106, 107, 108, 109, 138, 139, 140, 141, 137] (by decide +kernel) (by decide +kernel)
set_option maxRecDepth 20000 in
theorem gX6_init_X3_init_n60 : GoodIn wsX6_init (wsX3_init) := ggX6_init_X3_init
theorem dX6_init_0 : decode cX6_init 0 = .ok (.aload_n 0, 1) := by decide +kernel
theorem dX6_init_1 : decode cX6_init 1 = .ok (.invokespecial 3, 3) := by decide +kernel
theorem dX6_init_4 : decode cX6_init 4 = .ok (.aload_n 0, 1) := by decide +kernel
theorem dX6_init_5 : decode cX6_init 5 = .ok (.new 9, 3) := by decide +kernel
theorem dX6_init_8 : decode cX6_init 8 = .ok (.dup, 1) := by decide +kernel
theorem dX6_init_9 : decode cX6_init 9 = .ok (.invokespecial 11, 3) := by decide +kernel
theorem dX6_init_12 : decode cX6_init 12 = .ok (.putfield 12, 3) := by decide +kernel
theorem dX6_init_15 : decode cX6_init 15 = .ok (.aload_n 0, 1) := by decide +kernel
theorem dX6_init_16 : decode cX6_init 16 = .ok (.aload_n 0, 1) := by decide +kernel
theorem dX6_init_17 : decode cX6_init 17 = .ok (.getfield 12, 3) := by decide +kernel
theorem dX6_init_20 : decode cX6_init 20 = .ok (.getfield 16, 3) := by decide +kernel
theorem dX6_init_23 : decode cX6_init 23 = .ok (.putfield 20, 3) := by decide +kernel
theorem dX6_init_26 : decode cX6_init 26 = .ok (.aload_n 0, 1) := by decide +kernel
theorem dX6_init_27 : decode cX6_init 27 = .ok (.new 9, 3) := by decide +kernel
theorem dX6_init_30 : decode cX6_init 30 = .ok (.dup, 1) := by decide +kernel
theorem dX6_init_31 : decode cX6_init 31 = .ok (.invokespecial 11, 3) := by decide +kernel
theorem dX6_init_34 : decode cX6_init 34 = .ok (.putfield 21, 3) := by decide +kernel
theorem dX6_init_37 : decode cX6_init 37 = .ok (.aload_n 0, 1) := by decide +kernel
theorem dX6_init_38 : decode cX6_init 38 = .ok (.new 24, 3) := by decide +kernel
theorem dX6_init_41 : decode cX6_init 41 = .ok (.dup, 1) := by decide +kernel
theorem dX6_init_42 : decode cX6_init 42 = .ok (.invokespecial 26, 3) := by decide +kernel
theorem dX6_init_45 : decode cX6_init 45 = .ok (.putfield 27, 3) := by decide +kernel
theorem dX6_init_48 : decode cX6_init 48 = .ok (.aload_n 0, 1) := by decide +kernel
theorem dX6_init_49 : decode cX6_init 49 = .ok (.new 31, 3) := by decide +kernel
theorem dX6_init_52 : decode cX6_init 52 = .ok (.dup, 1) := by decide +kernel
theorem dX6_init_53 : decode cX6_init 53 = .ok (.invokespecial 33, 3) := by decide +kernel
theorem dX6_init_56 : decode cX6_init 56 = .ok (.putfield 34, 3) := by decide +kernel
theorem dX6_init_59 : decode cX6_init 59 = .ok (.aload_n 0, 1) := by decide +kernel
theorem dX6_init_60 : decode cX6_init 60 = .ok (.new 38, 3) := by decide +kernel
theorem dX6_init_63 : decode cX6_init 63 = .ok (.dup, 1) := by decide +kernel
theorem dX6_init_64 : decode cX6_init 64 = .ok (.invokespecial 40, 3) := by decide +kernel
theorem dX6_init_67 : decode cX6_init 67 = .ok (.putfield 41, 3) := by decide +kernel
theorem dX6_init_70 : decode cX6_init 70 = .ok (.aload_n 0, 1) := by decide +kernel
theorem dX6_init_71 : decode cX6_init 71 = .ok (.new 38, 3) := by decide +kernel
theorem dX6_init_74 : decode cX6_init 74 = .ok (.dup, 1) := by decide +kernel
theorem dX6_init_75 : decode cX6_init 75 = .ok (.invokespecial 40, 3) := by decide +kernel
theorem dX6_init_78 : decode cX6_init 78 = .ok (.putfield 44, 3) := by decide +kernel
theorem dX6_init_81 : decode cX6_init 81 = .ok (.aload_n 0, 1) := by decide +kernel
theorem dX6_init_82 : decode cX6_init 82 = .ok (.iconst 0, 1) := by decide +kernel
theorem dX6_init_83 : decode cX6_init 83 = .ok (.putfield 47, 3) := by decide +kernel
theorem dX6_init_86 : decode cX6_init 86 = .ok (.aload_n 0, 1) := by decide +kernel
theorem dX6_init_87 : decode cX6_init 87 = .ok (.new 51, 3) := by decide +kernel
theorem dX6_init_90 : decode cX6_init 90 = .ok (.dup, 1) := by decide +kernel
theorem dX6_init_91 : decode cX6_init 91 = .ok (.invokespecial 53, 3) := by decide +kernel
theorem dX6_init_94 : decode cX6_init 94 = .ok (.putfield 54, 3) := by decide +kernel
theorem dX6_init_97 : decode cX6_init 97 = .ok (.aload_n 0, 1) := by decide +kernel
theorem dX6_init_98 : decode cX6_init 98 = .ok (.new 58, 3) := by decide +kernel
theorem dX6_init_101 : decode cX6_init 101 = .ok (.dup, 1) := by decide +kernel
theorem dX6_init_102 : decode cX6_init 102 = .ok (.invokespecial 60, 3) := by decide +kernel
theorem dX6_init_105 : decode cX6_init 105 = .ok (.putfield 61, 3) := by decide +kernel
theorem dX6_init_108 : decode cX6_init 108 = .ok (.aload_n 0, 1) := by decide +kernel
theorem dX6_init_109 : decode cX6_init 109 = .ok (.iconst (-1), 1) := by decide +kernel
theorem dX6_init_110 : decode cX6_init 110 = .ok (.putfield 65, 3) := by decide +kernel
theorem dX6_init_113 : decode cX6_init 113 = .ok (.return_, 1) := by decide +kernel
set_option maxRecDepth 20000 in
theorem ggX6_tour_X2_planning : GoodIn wsX6_tour wsX2_planning := goodIn_ca (goodIn_r _ [9, 10, 11, 12, 13, 14, 15, 16, 17, 18, 19, 20, 21, 8, 22, 23, 24, 84, 85, 86] (by decide +kernel) (by decide +kernel)) (goodIn_sub (fun _ h => List.mem_cons_of_mem _ (List.mem_append_left _ (List.mem_append_left _ (List.mem_append_left _ (List.mem_append_right _ h))))) (by decide +kernel))
set_option maxRecDepth 20000 in
theorem gX6_tour_X2_planning : GoodIn wsX6_tour (wsV RX6 69 RX2 yX2_planning wsX2_planning) := goodIn_app (goodIn_of _ (by decide +kernel)) ggX6_tour_X2_planning
set_option maxRecDepth 20000 in
theorem ggX6_tour_X6_allow : GoodIn wsX6_tour wsX6_allow := goodIn_ca (goodIn_ca (goodIn_ca (goodIn_r _ [27, 28, 29, 30, 31, 32, 33] (by decide +kernel) (by decide +kernel)) (goodIn_sub (fun _ h => List.mem_cons_of_mem _ (List.mem_append_left _ (List.mem_append_left _ (List.mem_append_right _ h)))) (by decide +kernel))) (goodIn_sub (fun _ h => List.mem_cons_of_mem _ (List.mem_append_left _ (List.mem_append_right _ h))) (by decide +kernel))) (goodIn_sub (fun _ h => List.mem_cons_of_mem _ (List.mem_append_right _ h)) (by decide +kernel))
set_option maxRecDepth 20000 in
theorem gX6_tour_X6_allow : GoodIn wsX6_tour (va_wsS RX6 73 yX6_allow wsX6_allow) := goodIn_app (goodIn_of _ (by decide +kernel)) ggX6_tour_X6_allow
set_option maxRecDepth 20000 in
theorem ggX6_tour_X1_keep : GoodIn wsX6_tour wsX1_keep := goodIn_r _ [38, 39, 40, 41, 42, 43, 44, 45, 46, 11, 47, 48, 49, 50, 16, 51, 18, 52, 53, 54, 55, 87, 88, 89, 84] (by decide +kernel) (by decide +kernel)
set_option maxRecDepth 20000 in
theorem gX6_tour_X1_keep : GoodIn wsX6_tour (wsV RX6 77 RX1 yX1_keep wsX1_keep) := goodIn_app (goodIn_of _ (by decide +kernel)) ggX6_tour_X1_keep
set_option maxRecDepth 20000 in
theorem ggX6_tour_X5_planTour : GoodIn wsX6_tour wsX5_planTour := goodIn_ca (goodIn_r _ [60, 61, 62, 14, 15, 16, 17, 18, 63, 11, 64, 65, 66, 67, 68, 69, 70, 71, 72, 90, 84] (by decide +kernel) (by decide +kernel)) (goodIn_sub (fun _ h => List.mem_cons_of_mem _ (List.mem_append_left _ (List.mem_append_left _ (List.mem_append_left _ (List.mem_append_right _ h))))) (by decide +kernel))
set_option maxRecDepth 20000 in
theorem gX6_tour_X5_planTour : GoodIn wsX6_tour (wsV RX6 81 RX5 yX5_planTour wsX5_planTour) := goodIn_app (goodIn_of _ (by decide +kernel)) ggX6_tour_X5_planTour
theorem dX6_tour_0 : decode cX6_tour 0 = .ok (.aload_n 0, 1) := by decide +kernel
theorem dX6_tour_1 : decode cX6_tour 1 = .ok (.getfield 27, 3) := by decide +kernel
theorem dX6_tour_4 : decode cX6_tour 4 = .ok (.aload_n 0, 1) := by decide +kernel
theorem dX6_tour_5 : decode cX6_tour 5 = .ok (.getfield 20, 3) := by decide +kernel
theorem dX6_tour_8 : decode cX6_tour 8 = .ok (.iload_n 1, 1) := by decide +kernel
theorem dX6_tour_9 : decode cX6_tour 9 = .ok (.invokevirtual 69, 3) := by decide +kernel
theorem dX6_tour_12 : decode cX6_tour 12 = .ok (.invokestatic 73, 3) := by decide +kernel
theorem dX6_tour_15 : decode cX6_tour 15 = .ok (.aload_n 0, 1) := by decide +kernel
theorem dX6_tour_16 : decode cX6_tour 16 = .ok (.getfield 34, 3) := by decide +kernel
theorem dX6_tour_19 : decode cX6_tour 19 = .ok (.aload_n 0, 1) := by decide +kernel
theorem dX6_tour_20 : decode cX6_tour 20 = .ok (.getfield 20, 3) := by decide +kernel
theorem dX6_tour_23 : decode cX6_tour 23 = .ok (.invokevirtual 77, 3) := by decide +kernel
theorem dX6_tour_26 : decode cX6_tour 26 = .ok (.aload_n 0, 1) := by decide +kernel
theorem dX6_tour_27 : decode cX6_tour 27 = .ok (.getfield 12, 3) := by decide +kernel
theorem dX6_tour_30 : decode cX6_tour 30 = .ok (.iload_n 1, 1) := by decide +kernel
theorem dX6_tour_31 : decode cX6_tour 31 = .ok (.invokevirtual 81, 3) := by decide +kernel
theorem dX6_tour_34 : decode cX6_tour 34 = .ok (.ireturn, 1) := by decide +kernel
set_option maxRecDepth 20000 in
theorem ggX6_step_X2_giving : GoodIn wsX6_step wsX2_giving := goodIn_ca (goodIn_r _ [9, 10, 11, 8, 12, 13, 14, 15, 16, 17, 18, 19, 20, 21, 22, 23, 24, 25, 26, 27, 28, 29, 30, 31, 32, 33, 34, 35, 36, 37, 38, 39, 40, 92, 93, 94] (by decide +kernel) (by decide +kernel)) (goodIn_sub (fun _ h => List.mem_cons_of_mem _ (List.mem_append_left _ (List.mem_append_left _ (List.mem_append_left _ (List.mem_append_right _ h))))) (by decide +kernel))
set_option maxRecDepth 20000 in
theorem gX6_step_X2_giving : GoodIn wsX6_step (wsV RX6 85 RX2 yX2_giving wsX2_giving) := goodIn_app (goodIn_of _ (by decide +kernel)) ggX6_step_X2_giving
set_option maxRecDepth 20000 in
theorem ggX6_step_X6_allow : GoodIn wsX6_step wsX6_allow := goodIn_ca (goodIn_ca (goodIn_ca (goodIn_r _ [43, 44, 45, 46, 47, 48, 49] (by decide +kernel) (by decide +kernel)) (goodIn_sub (fun _ h => List.mem_cons_of_mem _ (List.mem_append_left _ (List.mem_append_left _ (List.mem_append_right _ h)))) (by decide +kernel))) (goodIn_sub (fun _ h => List.mem_cons_of_mem _ (List.mem_append_left _ (List.mem_append_right _ h))) (by decide +kernel))) (goodIn_sub (fun _ h => List.mem_cons_of_mem _ (List.mem_append_right _ h)) (by decide +kernel))
set_option maxRecDepth 20000 in
theorem gX6_step_X6_allow : GoodIn wsX6_step (va_wsS RX6 73 yX6_allow wsX6_allow) := goodIn_app (goodIn_of _ (by decide +kernel)) ggX6_step_X6_allow
set_option maxRecDepth 20000 in
theorem ggX6_step_X1_keep : GoodIn wsX6_step wsX1_keep := goodIn_r _ [54, 55, 56, 57, 58, 59, 60, 61, 19, 20, 21, 62, 63, 64, 16, 65, 18, 66, 67, 68, 69, 95, 96, 97, 92] (by decide +kernel) (by decide +kernel)
set_option maxRecDepth 20000 in
theorem gX6_step_X1_keep : GoodIn wsX6_step (wsV RX6 77 RX1 yX1_keep wsX1_keep) := goodIn_app (goodIn_of _ (by decide +kernel)) ggX6_step_X1_keep
set_option maxRecDepth 20000 in
theorem ggX6_step_X5_giveStep : GoodIn wsX6_step wsX5_giveStep := goodIn_ca (goodIn_r _ [74, 75, 26, 20, 27, 76, 14, 15, 16, 17, 18, 39, 40, 77, 78, 79, 80, 98, 92] (by decide +kernel) (by decide +kernel)) (goodIn_sub (fun _ h => List.mem_cons_of_mem _ (List.mem_append_left _ (List.mem_append_left _ (List.mem_append_left _ (List.mem_append_right _ h))))) (by decide +kernel))
set_option maxRecDepth 20000 in
theorem gX6_step_X5_giveStep : GoodIn wsX6_step (wsV RX6 89 RX5 yX5_giveStep wsX5_giveStep) := goodIn_app (goodIn_of _ (by decide +kernel)) ggX6_step_X5_giveStep
theorem dX6_step_0 : decode cX6_step 0 = .ok (.aload_n 0, 1) := by decide +kernel
theorem dX6_step_1 : decode cX6_step 1 = .ok (.getfield 27, 3) := by decide +kernel
theorem dX6_step_4 : decode cX6_step 4 = .ok (.aload_n 0, 1) := by decide +kernel
theorem dX6_step_5 : decode cX6_step 5 = .ok (.getfield 20, 3) := by decide +kernel
theorem dX6_step_8 : decode cX6_step 8 = .ok (.iload_n 1, 1) := by decide +kernel
theorem dX6_step_9 : decode cX6_step 9 = .ok (.iload_n 2, 1) := by decide +kernel
theorem dX6_step_10 : decode cX6_step 10 = .ok (.iload_n 3, 1) := by decide +kernel
theorem dX6_step_11 : decode cX6_step 11 = .ok (.iload 4, 2) := by decide +kernel
theorem dX6_step_13 : decode cX6_step 13 = .ok (.iload 5, 2) := by decide +kernel
theorem dX6_step_15 : decode cX6_step 15 = .ok (.invokevirtual 85, 3) := by decide +kernel
theorem dX6_step_18 : decode cX6_step 18 = .ok (.invokestatic 73, 3) := by decide +kernel
theorem dX6_step_21 : decode cX6_step 21 = .ok (.aload_n 0, 1) := by decide +kernel
theorem dX6_step_22 : decode cX6_step 22 = .ok (.getfield 34, 3) := by decide +kernel
theorem dX6_step_25 : decode cX6_step 25 = .ok (.aload_n 0, 1) := by decide +kernel
theorem dX6_step_26 : decode cX6_step 26 = .ok (.getfield 20, 3) := by decide +kernel
theorem dX6_step_29 : decode cX6_step 29 = .ok (.invokevirtual 77, 3) := by decide +kernel
theorem dX6_step_32 : decode cX6_step 32 = .ok (.aload_n 0, 1) := by decide +kernel
theorem dX6_step_33 : decode cX6_step 33 = .ok (.getfield 12, 3) := by decide +kernel
theorem dX6_step_36 : decode cX6_step 36 = .ok (.iload_n 1, 1) := by decide +kernel
theorem dX6_step_37 : decode cX6_step 37 = .ok (.iload_n 2, 1) := by decide +kernel
theorem dX6_step_38 : decode cX6_step 38 = .ok (.iload_n 3, 1) := by decide +kernel
theorem dX6_step_39 : decode cX6_step 39 = .ok (.iload 4, 2) := by decide +kernel
theorem dX6_step_41 : decode cX6_step 41 = .ok (.iload 5, 2) := by decide +kernel
theorem dX6_step_43 : decode cX6_step 43 = .ok (.invokevirtual 89, 3) := by decide +kernel
theorem dX6_step_46 : decode cX6_step 46 = .ok (.ireturn, 1) := by decide +kernel
set_option maxRecDepth 20000 in
theorem ggX6_start_X2_starting : GoodIn wsX6_start wsX2_starting := goodIn_ca (goodIn_r _ [9, 10, 11, 8, 12, 13, 14, 15, 16, 17, 18, 19, 20, 21, 22, 23, 24, 25, 26, 27, 28, 29, 85, 86, 87] (by decide +kernel) (by decide +kernel)) (goodIn_sub (fun _ h => List.mem_cons_of_mem _ (List.mem_append_left _ (List.mem_append_left _ (List.mem_append_left _ (List.mem_append_right _ h))))) (by decide +kernel))
set_option maxRecDepth 20000 in
theorem gX6_start_X2_starting : GoodIn wsX6_start (wsV RX6 93 RX2 yX2_starting wsX2_starting) := goodIn_app (goodIn_of _ (by decide +kernel)) ggX6_start_X2_starting
set_option maxRecDepth 20000 in
theorem ggX6_start_X6_allow : GoodIn wsX6_start wsX6_allow := goodIn_ca (goodIn_ca (goodIn_ca (goodIn_r _ [32, 33, 34, 35, 36, 37, 38] (by decide +kernel) (by decide +kernel)) (goodIn_sub (fun _ h => List.mem_cons_of_mem _ (List.mem_append_left _ (List.mem_append_left _ (List.mem_append_right _ h)))) (by decide +kernel))) (goodIn_sub (fun _ h => List.mem_cons_of_mem _ (List.mem_append_left _ (List.mem_append_right _ h))) (by decide +kernel))) (goodIn_sub (fun _ h => List.mem_cons_of_mem _ (List.mem_append_right _ h)) (by decide +kernel))
set_option maxRecDepth 20000 in
theorem gX6_start_X6_allow : GoodIn wsX6_start (va_wsS RX6 73 yX6_allow wsX6_allow) := goodIn_app (goodIn_of _ (by decide +kernel)) ggX6_start_X6_allow
set_option maxRecDepth 20000 in
theorem ggX6_start_X1_keep : GoodIn wsX6_start wsX1_keep := goodIn_r _ [43, 44, 45, 46, 47, 48, 49, 50, 19, 20, 21, 51, 52, 53, 16, 54, 18, 55, 56, 57, 58, 88, 89, 90, 85] (by decide +kernel) (by decide +kernel)
set_option maxRecDepth 20000 in
theorem gX6_start_X1_keep : GoodIn wsX6_start (wsV RX6 77 RX1 yX1_keep wsX1_keep) := goodIn_app (goodIn_of _ (by decide +kernel)) ggX6_start_X1_keep
set_option maxRecDepth 20000 in
theorem ggX6_start_X5_startTour : GoodIn wsX6_start wsX5_startTour := goodIn_ca (goodIn_r _ [63, 64, 22, 20, 23, 65, 66, 67, 16, 68, 18, 69, 70, 71, 62, 72, 73, 14, 15, 17, 91, 85] (by decide +kernel) (by decide +kernel)) (goodIn_sub (fun _ h => List.mem_cons_of_mem _ (List.mem_append_left _ (List.mem_append_left _ (List.mem_append_left _ (List.mem_append_right _ h))))) (by decide +kernel))
set_option maxRecDepth 20000 in
theorem gX6_start_X5_startTour : GoodIn wsX6_start (wsV RX6 96 RX5 yX5_startTour wsX5_startTour) := goodIn_app (goodIn_of _ (by decide +kernel)) ggX6_start_X5_startTour
theorem dX6_start_0 : decode cX6_start 0 = .ok (.aload_n 0, 1) := by decide +kernel
theorem dX6_start_1 : decode cX6_start 1 = .ok (.getfield 27, 3) := by decide +kernel
theorem dX6_start_4 : decode cX6_start 4 = .ok (.aload_n 0, 1) := by decide +kernel
theorem dX6_start_5 : decode cX6_start 5 = .ok (.getfield 20, 3) := by decide +kernel
theorem dX6_start_8 : decode cX6_start 8 = .ok (.iload_n 1, 1) := by decide +kernel
theorem dX6_start_9 : decode cX6_start 9 = .ok (.invokevirtual 93, 3) := by decide +kernel
theorem dX6_start_12 : decode cX6_start 12 = .ok (.invokestatic 73, 3) := by decide +kernel
theorem dX6_start_15 : decode cX6_start 15 = .ok (.aload_n 0, 1) := by decide +kernel
theorem dX6_start_16 : decode cX6_start 16 = .ok (.getfield 34, 3) := by decide +kernel
theorem dX6_start_19 : decode cX6_start 19 = .ok (.aload_n 0, 1) := by decide +kernel
theorem dX6_start_20 : decode cX6_start 20 = .ok (.getfield 20, 3) := by decide +kernel
theorem dX6_start_23 : decode cX6_start 23 = .ok (.invokevirtual 77, 3) := by decide +kernel
theorem dX6_start_26 : decode cX6_start 26 = .ok (.aload_n 0, 1) := by decide +kernel
theorem dX6_start_27 : decode cX6_start 27 = .ok (.getfield 12, 3) := by decide +kernel
theorem dX6_start_30 : decode cX6_start 30 = .ok (.iload_n 1, 1) := by decide +kernel
theorem dX6_start_31 : decode cX6_start 31 = .ok (.invokevirtual 96, 3) := by decide +kernel
theorem dX6_start_34 : decode cX6_start 34 = .ok (.ireturn, 1) := by decide +kernel
set_option maxRecDepth 20000 in
theorem ggX6_back_X2_callingBack : GoodIn wsX6_back wsX2_callingBack := goodIn_ca (goodIn_r _ [9, 10, 11, 8, 12, 13, 14, 15, 16, 17, 18, 19, 20, 21, 22, 23, 24, 25, 26, 27, 28, 29, 85, 86, 87] (by decide +kernel) (by decide +kernel)) (goodIn_sub (fun _ h => List.mem_cons_of_mem _ (List.mem_append_left _ (List.mem_append_left _ (List.mem_append_left _ (List.mem_append_right _ h))))) (by decide +kernel))
set_option maxRecDepth 20000 in
theorem gX6_back_X2_callingBack : GoodIn wsX6_back (wsV RX6 99 RX2 yX2_callingBack wsX2_callingBack) := goodIn_app (goodIn_of _ (by decide +kernel)) ggX6_back_X2_callingBack
set_option maxRecDepth 20000 in
theorem ggX6_back_X6_allow : GoodIn wsX6_back wsX6_allow := goodIn_ca (goodIn_ca (goodIn_ca (goodIn_r _ [32, 33, 34, 35, 36, 37, 38] (by decide +kernel) (by decide +kernel)) (goodIn_sub (fun _ h => List.mem_cons_of_mem _ (List.mem_append_left _ (List.mem_append_left _ (List.mem_append_right _ h)))) (by decide +kernel))) (goodIn_sub (fun _ h => List.mem_cons_of_mem _ (List.mem_append_left _ (List.mem_append_right _ h))) (by decide +kernel))) (goodIn_sub (fun _ h => List.mem_cons_of_mem _ (List.mem_append_right _ h)) (by decide +kernel))
set_option maxRecDepth 20000 in
theorem gX6_back_X6_allow : GoodIn wsX6_back (va_wsS RX6 73 yX6_allow wsX6_allow) := goodIn_app (goodIn_of _ (by decide +kernel)) ggX6_back_X6_allow
set_option maxRecDepth 20000 in
theorem ggX6_back_X1_keep : GoodIn wsX6_back wsX1_keep := goodIn_r _ [43, 44, 45, 46, 47, 48, 49, 50, 19, 20, 21, 51, 52, 53, 16, 54, 18, 55, 56, 57, 58, 88, 89, 90, 85] (by decide +kernel) (by decide +kernel)
set_option maxRecDepth 20000 in
theorem gX6_back_X1_keep : GoodIn wsX6_back (wsV RX6 77 RX1 yX1_keep wsX1_keep) := goodIn_app (goodIn_of _ (by decide +kernel)) ggX6_back_X1_keep
set_option maxRecDepth 20000 in
theorem ggX6_back_X5_callBack : GoodIn wsX6_back wsX5_callBack := goodIn_ca (goodIn_r _ [63, 64, 22, 20, 23, 65, 66, 67, 16, 68, 18, 69, 70, 71, 62, 72, 73, 14, 15, 17, 91, 85] (by decide +kernel) (by decide +kernel)) (goodIn_sub (fun _ h => List.mem_cons_of_mem _ (List.mem_append_left _ (List.mem_append_left _ (List.mem_append_left _ (List.mem_append_right _ h))))) (by decide +kernel))
set_option maxRecDepth 20000 in
theorem gX6_back_X5_callBack : GoodIn wsX6_back (wsV RX6 102 RX5 yX5_callBack wsX5_callBack) := goodIn_app (goodIn_of _ (by decide +kernel)) ggX6_back_X5_callBack
theorem dX6_back_0 : decode cX6_back 0 = .ok (.aload_n 0, 1) := by decide +kernel
theorem dX6_back_1 : decode cX6_back 1 = .ok (.getfield 27, 3) := by decide +kernel
theorem dX6_back_4 : decode cX6_back 4 = .ok (.aload_n 0, 1) := by decide +kernel
theorem dX6_back_5 : decode cX6_back 5 = .ok (.getfield 20, 3) := by decide +kernel
theorem dX6_back_8 : decode cX6_back 8 = .ok (.iload_n 1, 1) := by decide +kernel
theorem dX6_back_9 : decode cX6_back 9 = .ok (.invokevirtual 99, 3) := by decide +kernel
theorem dX6_back_12 : decode cX6_back 12 = .ok (.invokestatic 73, 3) := by decide +kernel
theorem dX6_back_15 : decode cX6_back 15 = .ok (.aload_n 0, 1) := by decide +kernel
theorem dX6_back_16 : decode cX6_back 16 = .ok (.getfield 34, 3) := by decide +kernel
theorem dX6_back_19 : decode cX6_back 19 = .ok (.aload_n 0, 1) := by decide +kernel
theorem dX6_back_20 : decode cX6_back 20 = .ok (.getfield 20, 3) := by decide +kernel
theorem dX6_back_23 : decode cX6_back 23 = .ok (.invokevirtual 77, 3) := by decide +kernel
theorem dX6_back_26 : decode cX6_back 26 = .ok (.aload_n 0, 1) := by decide +kernel
theorem dX6_back_27 : decode cX6_back 27 = .ok (.getfield 12, 3) := by decide +kernel
theorem dX6_back_30 : decode cX6_back 30 = .ok (.iload_n 1, 1) := by decide +kernel
theorem dX6_back_31 : decode cX6_back 31 = .ok (.invokevirtual 102, 3) := by decide +kernel
theorem dX6_back_34 : decode cX6_back 34 = .ok (.ireturn, 1) := by decide +kernel
set_option maxRecDepth 20000 in
theorem ggX6_tourOf_X6_needTour : GoodIn wsX6_tourOf wsX6_needTour := goodIn_ca (goodIn_ca (goodIn_r _ [6, 1, 7, 8, 9, 10, 11, 12, 13, 14, 5, 15, 16, 17, 18, 19, 20, 32, 33, 34, 35, 36, 37, 38, 39, 40, 41, 42, 43] (by decide +kernel) (by decide +kernel)) (goodIn_sub (fun _ h => List.mem_cons_of_mem _ (List.mem_append_left _ (List.mem_append_left _ (List.mem_append_right _ h)))) (by decide +kernel))) (goodIn_sub (fun _ h => List.mem_cons_of_mem _ (List.mem_append_left _ (List.mem_append_right _ h))) (by decide +kernel))
set_option maxRecDepth 20000 in
theorem gX6_tourOf_X6_needTour : GoodIn wsX6_tourOf (wsV RX6 105 RX6 yX6_needTour wsX6_needTour) := goodIn_app (goodIn_of _ (by decide +kernel)) ggX6_tourOf_X6_needTour
set_option maxRecDepth 20000 in
theorem ggX6_tourOf_X6_needRange : GoodIn wsX6_tourOf wsX6_needRange := goodIn_ca (goodIn_r _ [23, 24, 25, 26, 27, 5, 28] (by decide +kernel) (by decide +kernel)) (goodIn_sub (fun _ h => List.mem_cons_of_mem _ (List.mem_append_right _ h)) (by decide +kernel))
set_option maxRecDepth 20000 in
theorem gX6_tourOf_X6_needRange : GoodIn wsX6_tourOf (va_wsS RX6 108 yX6_needRange wsX6_needRange) := goodIn_app (goodIn_of _ (by decide +kernel)) ggX6_tourOf_X6_needRange
set_option maxRecDepth 20000 in
theorem ggX6_tourOf_X6_ofTour : GoodIn wsX6_tourOf wsX6_ofTour := goodIn_r _ [31] (by decide +kernel) (by decide +kernel)
set_option maxRecDepth 20000 in
theorem gX6_tourOf_X6_ofTour : GoodIn wsX6_tourOf (va_wsS RX6 112 yX6_ofTour wsX6_ofTour) := goodIn_app (goodIn_of _ (by decide +kernel)) ggX6_tourOf_X6_ofTour
set_option maxRecDepth 20000 in
theorem ggX6_tourOf_X0_get : GoodIn wsX6_tourOf wsX0_get := goodIn_ca (goodIn_r _ [11, 12, 43] (by decide +kernel) (by decide +kernel)) (goodIn_sub (fun _ h => List.mem_cons_of_mem _ (List.mem_append_left _ (List.mem_append_left _ (List.mem_append_right _ h)))) (by decide +kernel))
set_option maxRecDepth 20000 in
theorem gX6_tourOf_X0_get : GoodIn wsX6_tourOf (wsV RX6 116 RX0 yX0_get wsX0_get) := goodIn_app (goodIn_of _ (by decide +kernel)) ggX6_tourOf_X0_get
theorem dX6_tourOf_0 : decode cX6_tourOf 0 = .ok (.aload_n 0, 1) := by decide +kernel
theorem dX6_tourOf_1 : decode cX6_tourOf 1 = .ok (.iload_n 1, 1) := by decide +kernel
theorem dX6_tourOf_2 : decode cX6_tourOf 2 = .ok (.invokevirtual 105, 3) := by decide +kernel
theorem dX6_tourOf_5 : decode cX6_tourOf 5 = .ok (.iload_n 2, 1) := by decide +kernel
theorem dX6_tourOf_6 : decode cX6_tourOf 6 = .ok (.iconst 0, 1) := by decide +kernel
theorem dX6_tourOf_7 : decode cX6_tourOf 7 = .ok (.bipush 8, 2) := by decide +kernel
theorem dX6_tourOf_9 : decode cX6_tourOf 9 = .ok (.invokestatic 108, 3) := by decide +kernel
theorem dX6_tourOf_12 : decode cX6_tourOf 12 = .ok (.aload_n 0, 1) := by decide +kernel
theorem dX6_tourOf_13 : decode cX6_tourOf 13 = .ok (.getfield 20, 3) := by decide +kernel
theorem dX6_tourOf_16 : decode cX6_tourOf 16 = .ok (.iload_n 1, 1) := by decide +kernel
theorem dX6_tourOf_17 : decode cX6_tourOf 17 = .ok (.iload_n 2, 1) := by decide +kernel
theorem dX6_tourOf_18 : decode cX6_tourOf 18 = .ok (.invokestatic 112, 3) := by decide +kernel
theorem dX6_tourOf_21 : decode cX6_tourOf 21 = .ok (.invokevirtual 116, 3) := by decide +kernel
theorem dX6_tourOf_24 : decode cX6_tourOf 24 = .ok (.ireturn, 1) := by decide +kernel
set_option maxRecDepth 20000 in
theorem ggX6_stepOf_X6_needTour : GoodIn wsX6_stepOf wsX6_needTour := goodIn_ca (goodIn_ca (goodIn_r _ [6, 1, 7, 8, 9, 10, 11, 12, 13, 14, 5, 15, 16, 17, 18, 19, 20, 35, 36, 37, 38, 39, 40, 41, 42, 43, 44, 45, 46] (by decide +kernel) (by decide +kernel)) (goodIn_sub (fun _ h => List.mem_cons_of_mem _ (List.mem_append_left _ (List.mem_append_left _ (List.mem_append_right _ h)))) (by decide +kernel))) (goodIn_sub (fun _ h => List.mem_cons_of_mem _ (List.mem_append_left _ (List.mem_append_right _ h))) (by decide +kernel))
set_option maxRecDepth 20000 in
theorem gX6_stepOf_X6_needTour : GoodIn wsX6_stepOf (wsV RX6 105 RX6 yX6_needTour wsX6_needTour) := goodIn_app (goodIn_of _ (by decide +kernel)) ggX6_stepOf_X6_needTour
set_option maxRecDepth 20000 in
theorem ggX6_stepOf_X6_ofTour : GoodIn wsX6_stepOf wsX6_ofTour := goodIn_r _ [23] (by decide +kernel) (by decide +kernel)
set_option maxRecDepth 20000 in
theorem gX6_stepOf_X6_ofTour : GoodIn wsX6_stepOf (va_wsS RX6 112 yX6_ofTour wsX6_ofTour) := goodIn_app (goodIn_of _ (by decide +kernel)) ggX6_stepOf_X6_ofTour
set_option maxRecDepth 20000 in
theorem ggX6_stepOf_X0_get : GoodIn wsX6_stepOf wsX0_get := goodIn_ca (goodIn_r _ [11, 12, 46] (by decide +kernel) (by decide +kernel)) (goodIn_sub (fun _ h => List.mem_cons_of_mem _ (List.mem_append_left _ (List.mem_append_left _ (List.mem_append_right _ h)))) (by decide +kernel))
set_option maxRecDepth 20000 in
theorem gX6_stepOf_X0_get : GoodIn wsX6_stepOf (wsV RX6 116 RX0 yX0_get wsX0_get) := goodIn_app (goodIn_of _ (by decide +kernel)) ggX6_stepOf_X0_get
set_option maxRecDepth 20000 in
theorem ggX6_stepOf_X6_needBelow : GoodIn wsX6_stepOf wsX6_needBelow := goodIn_ca (goodIn_r _ [15, 16, 17, 18, 19, 5, 20] (by decide +kernel) (by decide +kernel)) (goodIn_sub (fun _ h => List.mem_cons_of_mem _ (List.mem_append_left _ (List.mem_append_right _ h))) (by decide +kernel))
set_option maxRecDepth 20000 in
theorem gX6_stepOf_X6_needBelow : GoodIn wsX6_stepOf (va_wsS RX6 119 yX6_needBelow wsX6_needBelow) := goodIn_app (goodIn_of _ (by decide +kernel)) ggX6_stepOf_X6_needBelow
set_option maxRecDepth 20000 in
theorem ggX6_stepOf_X6_needRange : GoodIn wsX6_stepOf wsX6_needRange := goodIn_ca (goodIn_r _ [26, 27, 28, 29, 30, 5, 31] (by decide +kernel) (by decide +kernel)) (goodIn_sub (fun _ h => List.mem_cons_of_mem _ (List.mem_append_right _ h)) (by decide +kernel))
set_option maxRecDepth 20000 in
theorem gX6_stepOf_X6_needRange : GoodIn wsX6_stepOf (va_wsS RX6 108 yX6_needRange wsX6_needRange) := goodIn_app (goodIn_of _ (by decide +kernel)) ggX6_stepOf_X6_needRange
set_option maxRecDepth 20000 in
theorem ggX6_stepOf_X6_ofStep : GoodIn wsX6_stepOf wsX6_ofStep := goodIn_r _ [34] (by decide +kernel) (by decide +kernel)
set_option maxRecDepth 20000 in
theorem gX6_stepOf_X6_ofStep : GoodIn wsX6_stepOf (va_wsS RX6 123 yX6_ofStep wsX6_ofStep) := goodIn_app (goodIn_of _ (by decide +kernel)) ggX6_stepOf_X6_ofStep
theorem dX6_stepOf_0 : decode cX6_stepOf 0 = .ok (.aload_n 0, 1) := by decide +kernel
theorem dX6_stepOf_1 : decode cX6_stepOf 1 = .ok (.iload_n 1, 1) := by decide +kernel
theorem dX6_stepOf_2 : decode cX6_stepOf 2 = .ok (.invokevirtual 105, 3) := by decide +kernel
theorem dX6_stepOf_5 : decode cX6_stepOf 5 = .ok (.iload_n 2, 1) := by decide +kernel
theorem dX6_stepOf_6 : decode cX6_stepOf 6 = .ok (.aload_n 0, 1) := by decide +kernel
theorem dX6_stepOf_7 : decode cX6_stepOf 7 = .ok (.getfield 20, 3) := by decide +kernel
theorem dX6_stepOf_10 : decode cX6_stepOf 10 = .ok (.iload_n 1, 1) := by decide +kernel
theorem dX6_stepOf_11 : decode cX6_stepOf 11 = .ok (.iconst 2, 1) := by decide +kernel
theorem dX6_stepOf_12 : decode cX6_stepOf 12 = .ok (.invokestatic 112, 3) := by decide +kernel
theorem dX6_stepOf_15 : decode cX6_stepOf 15 = .ok (.invokevirtual 116, 3) := by decide +kernel
theorem dX6_stepOf_18 : decode cX6_stepOf 18 = .ok (.invokestatic 119, 3) := by decide +kernel
theorem dX6_stepOf_21 : decode cX6_stepOf 21 = .ok (.iload_n 3, 1) := by decide +kernel
theorem dX6_stepOf_22 : decode cX6_stepOf 22 = .ok (.iconst 0, 1) := by decide +kernel
theorem dX6_stepOf_23 : decode cX6_stepOf 23 = .ok (.iconst 4, 1) := by decide +kernel
theorem dX6_stepOf_24 : decode cX6_stepOf 24 = .ok (.invokestatic 108, 3) := by decide +kernel
theorem dX6_stepOf_27 : decode cX6_stepOf 27 = .ok (.aload_n 0, 1) := by decide +kernel
theorem dX6_stepOf_28 : decode cX6_stepOf 28 = .ok (.getfield 20, 3) := by decide +kernel
theorem dX6_stepOf_31 : decode cX6_stepOf 31 = .ok (.iload_n 1, 1) := by decide +kernel
theorem dX6_stepOf_32 : decode cX6_stepOf 32 = .ok (.iload_n 2, 1) := by decide +kernel
theorem dX6_stepOf_33 : decode cX6_stepOf 33 = .ok (.iload_n 3, 1) := by decide +kernel
theorem dX6_stepOf_34 : decode cX6_stepOf 34 = .ok (.invokestatic 123, 3) := by decide +kernel
theorem dX6_stepOf_37 : decode cX6_stepOf 37 = .ok (.invokevirtual 116, 3) := by decide +kernel
theorem dX6_stepOf_40 : decode cX6_stepOf 40 = .ok (.ireturn, 1) := by decide +kernel
set_option maxRecDepth 20000 in
theorem ggX6_shut_X2_shutting : GoodIn wsX6_shut wsX2_shutting := goodIn_ca (goodIn_r _ [9, 10, 11, 12, 13, 14, 15, 16, 17, 18, 19, 20, 21, 22, 23, 8, 24, 25, 26, 82, 83, 84] (by decide +kernel) (by decide +kernel)) (goodIn_sub (fun _ h => List.mem_cons_of_mem _ (List.mem_append_left _ (List.mem_append_left _ (List.mem_append_left _ (List.mem_append_right _ h))))) (by decide +kernel))
set_option maxRecDepth 20000 in
theorem gX6_shut_X2_shutting : GoodIn wsX6_shut (wsV RX6 127 RX2 yX2_shutting wsX2_shutting) := goodIn_app (goodIn_of _ (by decide +kernel)) ggX6_shut_X2_shutting
set_option maxRecDepth 20000 in
theorem ggX6_shut_X6_allow : GoodIn wsX6_shut wsX6_allow := goodIn_ca (goodIn_ca (goodIn_ca (goodIn_r _ [29, 30, 31, 32, 33, 34, 35] (by decide +kernel) (by decide +kernel)) (goodIn_sub (fun _ h => List.mem_cons_of_mem _ (List.mem_append_left _ (List.mem_append_left _ (List.mem_append_right _ h)))) (by decide +kernel))) (goodIn_sub (fun _ h => List.mem_cons_of_mem _ (List.mem_append_left _ (List.mem_append_right _ h))) (by decide +kernel))) (goodIn_sub (fun _ h => List.mem_cons_of_mem _ (List.mem_append_right _ h)) (by decide +kernel))
set_option maxRecDepth 20000 in
theorem gX6_shut_X6_allow : GoodIn wsX6_shut (va_wsS RX6 73 yX6_allow wsX6_allow) := goodIn_app (goodIn_of _ (by decide +kernel)) ggX6_shut_X6_allow
set_option maxRecDepth 20000 in
theorem ggX6_shut_X1_keep : GoodIn wsX6_shut wsX1_keep := goodIn_r _ [40, 41, 42, 43, 44, 45, 46, 47, 10, 11, 12, 48, 49, 50, 18, 51, 20, 52, 53, 54, 55, 85, 86, 87, 82] (by decide +kernel) (by decide +kernel)
set_option maxRecDepth 20000 in
theorem gX6_shut_X1_keep : GoodIn wsX6_shut (wsV RX6 77 RX1 yX1_keep wsX1_keep) := goodIn_app (goodIn_of _ (by decide +kernel)) ggX6_shut_X1_keep
set_option maxRecDepth 20000 in
theorem ggX6_shut_X5_shutTown : GoodIn wsX6_shut wsX5_shutTown := goodIn_ca (goodIn_r _ [60, 61, 13, 11, 14, 62, 63, 64, 18, 65, 20, 66, 67, 68, 59, 69, 70, 16, 17, 19, 88, 82] (by decide +kernel) (by decide +kernel)) (goodIn_sub (fun _ h => List.mem_cons_of_mem _ (List.mem_append_left _ (List.mem_append_left _ (List.mem_append_left _ (List.mem_append_right _ h))))) (by decide +kernel))
set_option maxRecDepth 20000 in
theorem gX6_shut_X5_shutTown : GoodIn wsX6_shut (wsV RX6 131 RX5 yX5_shutTown wsX5_shutTown) := goodIn_app (goodIn_of _ (by decide +kernel)) ggX6_shut_X5_shutTown
theorem dX6_shut_0 : decode cX6_shut 0 = .ok (.aload_n 0, 1) := by decide +kernel
theorem dX6_shut_1 : decode cX6_shut 1 = .ok (.getfield 27, 3) := by decide +kernel
theorem dX6_shut_4 : decode cX6_shut 4 = .ok (.aload_n 0, 1) := by decide +kernel
theorem dX6_shut_5 : decode cX6_shut 5 = .ok (.getfield 20, 3) := by decide +kernel
theorem dX6_shut_8 : decode cX6_shut 8 = .ok (.iload_n 1, 1) := by decide +kernel
theorem dX6_shut_9 : decode cX6_shut 9 = .ok (.iload_n 2, 1) := by decide +kernel
theorem dX6_shut_10 : decode cX6_shut 10 = .ok (.invokevirtual 127, 3) := by decide +kernel
theorem dX6_shut_13 : decode cX6_shut 13 = .ok (.invokestatic 73, 3) := by decide +kernel
theorem dX6_shut_16 : decode cX6_shut 16 = .ok (.aload_n 0, 1) := by decide +kernel
theorem dX6_shut_17 : decode cX6_shut 17 = .ok (.getfield 34, 3) := by decide +kernel
theorem dX6_shut_20 : decode cX6_shut 20 = .ok (.aload_n 0, 1) := by decide +kernel
theorem dX6_shut_21 : decode cX6_shut 21 = .ok (.getfield 20, 3) := by decide +kernel
theorem dX6_shut_24 : decode cX6_shut 24 = .ok (.invokevirtual 77, 3) := by decide +kernel
theorem dX6_shut_27 : decode cX6_shut 27 = .ok (.aload_n 0, 1) := by decide +kernel
theorem dX6_shut_28 : decode cX6_shut 28 = .ok (.getfield 12, 3) := by decide +kernel
theorem dX6_shut_31 : decode cX6_shut 31 = .ok (.iload_n 1, 1) := by decide +kernel
theorem dX6_shut_32 : decode cX6_shut 32 = .ok (.iload_n 2, 1) := by decide +kernel
theorem dX6_shut_33 : decode cX6_shut 33 = .ok (.invokevirtual 131, 3) := by decide +kernel
theorem dX6_shut_36 : decode cX6_shut 36 = .ok (.ireturn, 1) := by decide +kernel
set_option maxRecDepth 20000 in
theorem ggX6_dear_X6_needBelow : GoodIn wsX6_dear wsX6_needBelow := goodIn_ca (goodIn_r _ [6, 7, 8, 9, 10, 5, 11] (by decide +kernel) (by decide +kernel)) (goodIn_sub (fun _ h => List.mem_cons_of_mem _ (List.mem_append_left _ (List.mem_append_left _ (List.mem_append_right _ h)))) (by decide +kernel))
set_option maxRecDepth 20000 in
theorem gX6_dear_X6_needBelow : GoodIn wsX6_dear (va_wsS RX6 119 yX6_needBelow wsX6_needBelow) := goodIn_app (goodIn_of _ (by decide +kernel)) ggX6_dear_X6_needBelow
set_option maxRecDepth 20000 in
theorem ggX6_dear_X6_needRange : GoodIn wsX6_dear wsX6_needRange := goodIn_ca (goodIn_r _ [14, 15, 16, 17, 18, 5, 19] (by decide +kernel) (by decide +kernel)) (goodIn_sub (fun _ h => List.mem_cons_of_mem _ (List.mem_append_left _ (List.mem_append_right _ h))) (by decide +kernel))
set_option maxRecDepth 20000 in
theorem gX6_dear_X6_needRange : GoodIn wsX6_dear (va_wsS RX6 108 yX6_needRange wsX6_needRange) := goodIn_app (goodIn_of _ (by decide +kernel)) ggX6_dear_X6_needRange
set_option maxRecDepth 20000 in
theorem ggX6_dear_X1_keep : GoodIn wsX6_dear wsX1_keep := goodIn_r _ [24, 25, 26, 27, 28, 29, 30, 31, 10, 5, 11, 32, 33, 34, 35, 36, 37, 38, 39, 40, 41, 64, 65, 66, 67] (by decide +kernel) (by decide +kernel)
set_option maxRecDepth 20000 in
theorem gX6_dear_X1_keep : GoodIn wsX6_dear (wsV RX6 77 RX1 yX1_keep wsX1_keep) := goodIn_app (goodIn_of _ (by decide +kernel)) ggX6_dear_X1_keep
set_option maxRecDepth 20000 in
theorem ggX6_dear_X6_ofTown : GoodIn wsX6_dear wsX6_ofTown := goodIn_r _ [44] (by decide +kernel) (by decide +kernel)
set_option maxRecDepth 20000 in
theorem gX6_dear_X6_ofTown : GoodIn wsX6_dear (va_wsS RX6 135 yX6_ofTown wsX6_ofTown) := goodIn_app (goodIn_of _ (by decide +kernel)) ggX6_dear_X6_ofTown
set_option maxRecDepth 20000 in
theorem ggX6_dear_X0_get : GoodIn wsX6_dear wsX0_get := goodIn_ca (goodIn_r _ [48, 37, 67] (by decide +kernel) (by decide +kernel)) (goodIn_sub (fun _ h => List.mem_cons_of_mem _ (List.mem_append_right _ h)) (by decide +kernel))
set_option maxRecDepth 20000 in
theorem gX6_dear_X0_get : GoodIn wsX6_dear (wsV RX6 116 RX0 yX0_get wsX0_get) := goodIn_app (goodIn_of _ (by decide +kernel)) ggX6_dear_X0_get
set_option maxRecDepth 20000 in
theorem ggX6_dear_X0_set : GoodIn wsX6_dear wsX0_set := goodIn_ca (goodIn_r _ [52, 37, 67] (by decide +kernel) (by decide +kernel)) (goodIn_sub (fun _ h => List.mem_cons_of_mem _ (List.mem_append_right _ h)) (by decide +kernel))
set_option maxRecDepth 20000 in
theorem gX6_dear_X0_set : GoodIn wsX6_dear (wsV RX6 138 RX0 yX0_set wsX0_set) := goodIn_app (goodIn_of _ (by decide +kernel)) ggX6_dear_X0_set
theorem dX6_dear_0 : decode cX6_dear 0 = .ok (.iload_n 1, 1) := by decide +kernel
theorem dX6_dear_1 : decode cX6_dear 1 = .ok (.iconst 5, 1) := by decide +kernel
theorem dX6_dear_2 : decode cX6_dear 2 = .ok (.invokestatic 119, 3) := by decide +kernel
theorem dX6_dear_5 : decode cX6_dear 5 = .ok (.iload_n 2, 1) := by decide +kernel
theorem dX6_dear_6 : decode cX6_dear 6 = .ok (.iconst 1, 1) := by decide +kernel
theorem dX6_dear_7 : decode cX6_dear 7 = .ok (.iconst 5, 1) := by decide +kernel
theorem dX6_dear_8 : decode cX6_dear 8 = .ok (.invokestatic 108, 3) := by decide +kernel
theorem dX6_dear_11 : decode cX6_dear 11 = .ok (.aload_n 0, 1) := by decide +kernel
theorem dX6_dear_12 : decode cX6_dear 12 = .ok (.getfield 34, 3) := by decide +kernel
theorem dX6_dear_15 : decode cX6_dear 15 = .ok (.aload_n 0, 1) := by decide +kernel
theorem dX6_dear_16 : decode cX6_dear 16 = .ok (.getfield 20, 3) := by decide +kernel
theorem dX6_dear_19 : decode cX6_dear 19 = .ok (.invokevirtual 77, 3) := by decide +kernel
theorem dX6_dear_22 : decode cX6_dear 22 = .ok (.aload_n 0, 1) := by decide +kernel
theorem dX6_dear_23 : decode cX6_dear 23 = .ok (.getfield 20, 3) := by decide +kernel
theorem dX6_dear_26 : decode cX6_dear 26 = .ok (.iload_n 1, 1) := by decide +kernel
theorem dX6_dear_27 : decode cX6_dear 27 = .ok (.iconst 1, 1) := by decide +kernel
theorem dX6_dear_28 : decode cX6_dear 28 = .ok (.invokestatic 135, 3) := by decide +kernel
theorem dX6_dear_31 : decode cX6_dear 31 = .ok (.invokevirtual 116, 3) := by decide +kernel
theorem dX6_dear_34 : decode cX6_dear 34 = .ok (.istore_n 3, 1) := by decide +kernel
theorem dX6_dear_35 : decode cX6_dear 35 = .ok (.aload_n 0, 1) := by decide +kernel
theorem dX6_dear_36 : decode cX6_dear 36 = .ok (.getfield 20, 3) := by decide +kernel
theorem dX6_dear_39 : decode cX6_dear 39 = .ok (.iload_n 1, 1) := by decide +kernel
theorem dX6_dear_40 : decode cX6_dear 40 = .ok (.iconst 1, 1) := by decide +kernel
theorem dX6_dear_41 : decode cX6_dear 41 = .ok (.invokestatic 135, 3) := by decide +kernel
theorem dX6_dear_44 : decode cX6_dear 44 = .ok (.iload_n 2, 1) := by decide +kernel
theorem dX6_dear_45 : decode cX6_dear 45 = .ok (.invokevirtual 138, 3) := by decide +kernel
theorem dX6_dear_48 : decode cX6_dear 48 = .ok (.iload_n 3, 1) := by decide +kernel
theorem dX6_dear_49 : decode cX6_dear 49 = .ok (.ireturn, 1) := by decide +kernel
set_option maxRecDepth 20000 in
theorem ggX6_townOf_X6_needBelow : GoodIn wsX6_townOf wsX6_needBelow := goodIn_ca (goodIn_r _ [5, 6, 7, 8, 9, 4, 10] (by decide +kernel) (by decide +kernel)) (goodIn_sub (fun _ h => List.mem_cons_of_mem _ (List.mem_append_left _ (List.mem_append_left _ (List.mem_append_right _ h)))) (by decide +kernel))
set_option maxRecDepth 20000 in
theorem gX6_townOf_X6_needBelow : GoodIn wsX6_townOf (va_wsS RX6 119 yX6_needBelow wsX6_needBelow) := goodIn_app (goodIn_of _ (by decide +kernel)) ggX6_townOf_X6_needBelow
set_option maxRecDepth 20000 in
theorem ggX6_townOf_X6_needRange : GoodIn wsX6_townOf wsX6_needRange := goodIn_ca (goodIn_r _ [13, 14, 15, 16, 17, 4, 18] (by decide +kernel) (by decide +kernel)) (goodIn_sub (fun _ h => List.mem_cons_of_mem _ (List.mem_append_left _ (List.mem_append_right _ h))) (by decide +kernel))
set_option maxRecDepth 20000 in
theorem gX6_townOf_X6_needRange : GoodIn wsX6_townOf (va_wsS RX6 108 yX6_needRange wsX6_needRange) := goodIn_app (goodIn_of _ (by decide +kernel)) ggX6_townOf_X6_needRange
set_option maxRecDepth 20000 in
theorem ggX6_townOf_X6_ofTown : GoodIn wsX6_townOf wsX6_ofTown := goodIn_r _ [21] (by decide +kernel) (by decide +kernel)
set_option maxRecDepth 20000 in
theorem gX6_townOf_X6_ofTown : GoodIn wsX6_townOf (va_wsS RX6 135 yX6_ofTown wsX6_ofTown) := goodIn_app (goodIn_of _ (by decide +kernel)) ggX6_townOf_X6_ofTown
set_option maxRecDepth 20000 in
theorem ggX6_townOf_X0_get : GoodIn wsX6_townOf wsX0_get := goodIn_ca (goodIn_r _ [26, 27, 39] (by decide +kernel) (by decide +kernel)) (goodIn_sub (fun _ h => List.mem_cons_of_mem _ (List.mem_append_right _ h)) (by decide +kernel))
set_option maxRecDepth 20000 in
theorem gX6_townOf_X0_get : GoodIn wsX6_townOf (wsV RX6 116 RX0 yX0_get wsX0_get) := goodIn_app (goodIn_of _ (by decide +kernel)) ggX6_townOf_X0_get
theorem dX6_townOf_0 : decode cX6_townOf 0 = .ok (.iload_n 1, 1) := by decide +kernel
theorem dX6_townOf_1 : decode cX6_townOf 1 = .ok (.iconst 5, 1) := by decide +kernel
theorem dX6_townOf_2 : decode cX6_townOf 2 = .ok (.invokestatic 119, 3) := by decide +kernel
theorem dX6_townOf_5 : decode cX6_townOf 5 = .ok (.iload_n 2, 1) := by decide +kernel
theorem dX6_townOf_6 : decode cX6_townOf 6 = .ok (.iconst 0, 1) := by decide +kernel
theorem dX6_townOf_7 : decode cX6_townOf 7 = .ok (.iconst 3, 1) := by decide +kernel
theorem dX6_townOf_8 : decode cX6_townOf 8 = .ok (.invokestatic 108, 3) := by decide +kernel
theorem dX6_townOf_11 : decode cX6_townOf 11 = .ok (.aload_n 0, 1) := by decide +kernel
theorem dX6_townOf_12 : decode cX6_townOf 12 = .ok (.getfield 20, 3) := by decide +kernel
theorem dX6_townOf_15 : decode cX6_townOf 15 = .ok (.iload_n 1, 1) := by decide +kernel
theorem dX6_townOf_16 : decode cX6_townOf 16 = .ok (.iload_n 2, 1) := by decide +kernel
theorem dX6_townOf_17 : decode cX6_townOf 17 = .ok (.invokestatic 135, 3) := by decide +kernel
theorem dX6_townOf_20 : decode cX6_townOf 20 = .ok (.invokevirtual 116, 3) := by decide +kernel
theorem dX6_townOf_23 : decode cX6_townOf 23 = .ok (.ireturn, 1) := by decide +kernel
set_option maxRecDepth 20000 in
theorem ggX6_pass_X2_passing : GoodIn wsX6_pass wsX2_passing := goodIn_r _ [9, 10, 11, 12] (by decide +kernel) (by decide +kernel)
set_option maxRecDepth 20000 in
theorem gX6_pass_X2_passing : GoodIn wsX6_pass (wsV RX6 141 RX2 yX2_passing wsX2_passing) := goodIn_app (goodIn_of _ (by decide +kernel)) ggX6_pass_X2_passing
set_option maxRecDepth 20000 in
theorem ggX6_pass_X6_allow : GoodIn wsX6_pass wsX6_allow := goodIn_ca (goodIn_ca (goodIn_ca (goodIn_r _ [15, 16, 17, 18, 19, 20, 21] (by decide +kernel) (by decide +kernel)) (goodIn_sub (fun _ h => List.mem_cons_of_mem _ (List.mem_append_left _ (List.mem_append_left _ (List.mem_append_left _ (List.mem_append_right _ h))))) (by decide +kernel))) (goodIn_sub (fun _ h => List.mem_cons_of_mem _ (List.mem_append_left _ (List.mem_append_left _ (List.mem_append_right _ h)))) (by decide +kernel))) (goodIn_sub (fun _ h => List.mem_cons_of_mem _ (List.mem_append_left _ (List.mem_append_right _ h))) (by decide +kernel))
set_option maxRecDepth 20000 in
theorem gX6_pass_X6_allow : GoodIn wsX6_pass (va_wsS RX6 73 yX6_allow wsX6_allow) := goodIn_app (goodIn_of _ (by decide +kernel)) ggX6_pass_X6_allow
set_option maxRecDepth 20000 in
theorem ggX6_pass_X1_keep : GoodIn wsX6_pass wsX1_keep := goodIn_r _ [26, 27, 28, 29, 30, 31, 32, 33, 34, 11, 35, 36, 37, 38, 39, 40, 41, 42, 43, 44, 45, 132, 133, 134, 135] (by decide +kernel) (by decide +kernel)
set_option maxRecDepth 20000 in
theorem gX6_pass_X1_keep : GoodIn wsX6_pass (wsV RX6 77 RX1 yX1_keep wsX1_keep) := goodIn_app (goodIn_of _ (by decide +kernel)) ggX6_pass_X1_keep
set_option maxRecDepth 20000 in
theorem ggX6_pass_X5_passHours : GoodIn wsX6_pass wsX5_passHours := goodIn_ca (goodIn_r _ [50, 51, 52, 53, 54, 49, 55, 56, 11, 57, 58, 59, 60, 39, 61, 41, 62, 63, 64, 65, 66, 67, 68, 69, 70, 71, 72, 73, 74, 75, 76, 77, 78, 79, 80, 81, 82, 83, 84, 85, 86, 87, 88, 89, 90, 91, 92, 93, 94, 95, 96, 97, 98, 99, 100, 101, 102, 103, 104, 105, 106, 107, 108, 109, 110, 111, 112, 113, 114, 115, 32, 116, 117, 118, 119, 120, 136, 135] (by decide +kernel) (by decide +kernel)) (goodIn_sub (fun _ h => List.mem_cons_of_mem _ (List.mem_append_right _ h)) (by decide +kernel))
set_option maxRecDepth 20000 in
theorem gX6_pass_X5_passHours : GoodIn wsX6_pass (wsV RX6 144 RX5 yX5_passHours wsX5_passHours) := goodIn_app (goodIn_of _ (by decide +kernel)) ggX6_pass_X5_passHours
theorem dX6_pass_0 : decode cX6_pass 0 = .ok (.aload_n 0, 1) := by decide +kernel
theorem dX6_pass_1 : decode cX6_pass 1 = .ok (.getfield 27, 3) := by decide +kernel
theorem dX6_pass_4 : decode cX6_pass 4 = .ok (.iload_n 1, 1) := by decide +kernel
theorem dX6_pass_5 : decode cX6_pass 5 = .ok (.invokevirtual 141, 3) := by decide +kernel
theorem dX6_pass_8 : decode cX6_pass 8 = .ok (.invokestatic 73, 3) := by decide +kernel
theorem dX6_pass_11 : decode cX6_pass 11 = .ok (.aload_n 0, 1) := by decide +kernel
theorem dX6_pass_12 : decode cX6_pass 12 = .ok (.getfield 34, 3) := by decide +kernel
theorem dX6_pass_15 : decode cX6_pass 15 = .ok (.aload_n 0, 1) := by decide +kernel
theorem dX6_pass_16 : decode cX6_pass 16 = .ok (.getfield 20, 3) := by decide +kernel
theorem dX6_pass_19 : decode cX6_pass 19 = .ok (.invokevirtual 77, 3) := by decide +kernel
theorem dX6_pass_22 : decode cX6_pass 22 = .ok (.aload_n 0, 1) := by decide +kernel
theorem dX6_pass_23 : decode cX6_pass 23 = .ok (.getfield 12, 3) := by decide +kernel
theorem dX6_pass_26 : decode cX6_pass 26 = .ok (.iload_n 1, 1) := by decide +kernel
theorem dX6_pass_27 : decode cX6_pass 27 = .ok (.invokevirtual 144, 3) := by decide +kernel
theorem dX6_pass_30 : decode cX6_pass 30 = .ok (.ireturn, 1) := by decide +kernel
set_option maxRecDepth 20000 in
theorem ggX6_left_X6_needBelow : GoodIn wsX6_left wsX6_needBelow := goodIn_ca (goodIn_r _ [5, 6, 7, 8, 9, 4, 10] (by decide +kernel) (by decide +kernel)) (goodIn_sub (fun _ h => List.mem_cons_of_mem _ (List.mem_append_left _ (List.mem_append_right _ h))) (by decide +kernel))
set_option maxRecDepth 20000 in
theorem gX6_left_X6_needBelow : GoodIn wsX6_left (va_wsS RX6 119 yX6_needBelow wsX6_needBelow) := goodIn_app (goodIn_of _ (by decide +kernel)) ggX6_left_X6_needBelow
set_option maxRecDepth 20000 in
theorem ggX6_left_X6_ofLeft : GoodIn wsX6_left wsX6_ofLeft := goodIn_r _ [13] (by decide +kernel) (by decide +kernel)
set_option maxRecDepth 20000 in
theorem gX6_left_X6_ofLeft : GoodIn wsX6_left (va_wsS RX6 147 yX6_ofLeft wsX6_ofLeft) := goodIn_app (goodIn_of _ (by decide +kernel)) ggX6_left_X6_ofLeft
set_option maxRecDepth 20000 in
theorem ggX6_left_X0_get : GoodIn wsX6_left wsX0_get := goodIn_ca (goodIn_r _ [18, 19, 31] (by decide +kernel) (by decide +kernel)) (goodIn_sub (fun _ h => List.mem_cons_of_mem _ (List.mem_append_right _ h)) (by decide +kernel))
set_option maxRecDepth 20000 in
theorem gX6_left_X0_get : GoodIn wsX6_left (wsV RX6 116 RX0 yX0_get wsX0_get) := goodIn_app (goodIn_of _ (by decide +kernel)) ggX6_left_X0_get
theorem dX6_left_0 : decode cX6_left 0 = .ok (.iload_n 1, 1) := by decide +kernel
theorem dX6_left_1 : decode cX6_left 1 = .ok (.iconst 3, 1) := by decide +kernel
theorem dX6_left_2 : decode cX6_left 2 = .ok (.invokestatic 119, 3) := by decide +kernel
theorem dX6_left_5 : decode cX6_left 5 = .ok (.iload_n 2, 1) := by decide +kernel
theorem dX6_left_6 : decode cX6_left 6 = .ok (.iconst 5, 1) := by decide +kernel
theorem dX6_left_7 : decode cX6_left 7 = .ok (.invokestatic 119, 3) := by decide +kernel
theorem dX6_left_10 : decode cX6_left 10 = .ok (.iload_n 3, 1) := by decide +kernel
theorem dX6_left_11 : decode cX6_left 11 = .ok (.bipush 20, 2) := by decide +kernel
theorem dX6_left_13 : decode cX6_left 13 = .ok (.invokestatic 119, 3) := by decide +kernel
theorem dX6_left_16 : decode cX6_left 16 = .ok (.aload_n 0, 1) := by decide +kernel
theorem dX6_left_17 : decode cX6_left 17 = .ok (.getfield 20, 3) := by decide +kernel
theorem dX6_left_20 : decode cX6_left 20 = .ok (.iload_n 1, 1) := by decide +kernel
theorem dX6_left_21 : decode cX6_left 21 = .ok (.iload_n 2, 1) := by decide +kernel
theorem dX6_left_22 : decode cX6_left 22 = .ok (.iload_n 3, 1) := by decide +kernel
theorem dX6_left_23 : decode cX6_left 23 = .ok (.invokestatic 147, 3) := by decide +kernel
theorem dX6_left_26 : decode cX6_left 26 = .ok (.invokevirtual 116, 3) := by decide +kernel
theorem dX6_left_29 : decode cX6_left 29 = .ok (.ireturn, 1) := by decide +kernel
set_option maxRecDepth 20000 in
theorem ggX6_leftAgain_X6_needBelow : GoodIn wsX6_leftAgain wsX6_needBelow := goodIn_ca (goodIn_r _ [5, 6, 7, 8, 9, 4, 10] (by decide +kernel) (by decide +kernel)) (goodIn_sub (fun _ h => List.mem_cons_of_mem _ (List.mem_append_left _ (List.mem_append_right _ h))) (by decide +kernel))
set_option maxRecDepth 20000 in
theorem gX6_leftAgain_X6_needBelow : GoodIn wsX6_leftAgain (va_wsS RX6 119 yX6_needBelow wsX6_needBelow) := goodIn_app (goodIn_of _ (by decide +kernel)) ggX6_leftAgain_X6_needBelow
set_option maxRecDepth 20000 in
theorem ggX6_leftAgain_X5_leftByStepsOf : GoodIn wsX6_leftAgain wsX5_leftByStepsOf := goodIn_ca (goodIn_r _ [15, 16, 17, 4, 18, 19, 20, 21, 22, 23, 24, 25, 26, 27, 28, 29, 30, 31, 32, 33, 45, 46] (by decide +kernel) (by decide +kernel)) (goodIn_sub (fun _ h => List.mem_cons_of_mem _ (List.mem_append_right _ h)) (by decide +kernel))
set_option maxRecDepth 20000 in
theorem gX6_leftAgain_X5_leftByStepsOf : GoodIn wsX6_leftAgain (wsV RX6 150 RX5 yX5_leftByStepsOf wsX5_leftByStepsOf) := goodIn_app (goodIn_of _ (by decide +kernel)) ggX6_leftAgain_X5_leftByStepsOf
theorem dX6_leftAgain_0 : decode cX6_leftAgain 0 = .ok (.iload_n 1, 1) := by decide +kernel
theorem dX6_leftAgain_1 : decode cX6_leftAgain 1 = .ok (.iconst 3, 1) := by decide +kernel
theorem dX6_leftAgain_2 : decode cX6_leftAgain 2 = .ok (.invokestatic 119, 3) := by decide +kernel
theorem dX6_leftAgain_5 : decode cX6_leftAgain 5 = .ok (.iload_n 2, 1) := by decide +kernel
theorem dX6_leftAgain_6 : decode cX6_leftAgain 6 = .ok (.iconst 5, 1) := by decide +kernel
theorem dX6_leftAgain_7 : decode cX6_leftAgain 7 = .ok (.invokestatic 119, 3) := by decide +kernel
theorem dX6_leftAgain_10 : decode cX6_leftAgain 10 = .ok (.iload_n 3, 1) := by decide +kernel
theorem dX6_leftAgain_11 : decode cX6_leftAgain 11 = .ok (.bipush 20, 2) := by decide +kernel
theorem dX6_leftAgain_13 : decode cX6_leftAgain 13 = .ok (.invokestatic 119, 3) := by decide +kernel
theorem dX6_leftAgain_16 : decode cX6_leftAgain 16 = .ok (.aload_n 0, 1) := by decide +kernel
theorem dX6_leftAgain_17 : decode cX6_leftAgain 17 = .ok (.getfield 12, 3) := by decide +kernel
theorem dX6_leftAgain_20 : decode cX6_leftAgain 20 = .ok (.iload_n 1, 1) := by decide +kernel
theorem dX6_leftAgain_21 : decode cX6_leftAgain 21 = .ok (.iload_n 2, 1) := by decide +kernel
theorem dX6_leftAgain_22 : decode cX6_leftAgain 22 = .ok (.iload_n 3, 1) := by decide +kernel
theorem dX6_leftAgain_23 : decode cX6_leftAgain 23 = .ok (.invokevirtual 150, 3) := by decide +kernel
theorem dX6_leftAgain_26 : decode cX6_leftAgain 26 = .ok (.ireturn, 1) := by decide +kernel
set_option maxRecDepth 20000 in
theorem ggX6_faultOf_X6_needTour : GoodIn wsX6_faultOf wsX6_needTour := goodIn_ca (goodIn_ca (goodIn_r _ [8, 9, 10, 11, 12, 13, 14, 15, 16, 17, 7, 18, 19, 20, 21, 22, 23, 49, 50, 51, 52, 53, 54, 55, 56, 57, 58, 59, 60] (by decide +kernel) (by decide +kernel)) (goodIn_sub (fun _ h => List.mem_cons_of_mem _ (List.mem_append_left _ (List.mem_append_right _ h))) (by decide +kernel))) (goodIn_sub (fun _ h => List.mem_cons_of_mem _ (List.mem_append_right _ h)) (by decide +kernel))
set_option maxRecDepth 20000 in
theorem gX6_faultOf_X6_needTour : GoodIn wsX6_faultOf (wsV RX6 105 RX6 yX6_needTour wsX6_needTour) := goodIn_app (goodIn_of _ (by decide +kernel)) ggX6_faultOf_X6_needTour
set_option maxRecDepth 20000 in
theorem ggX6_faultOf_X5_isUnderWay : GoodIn wsX6_faultOf wsX5_isUnderWay := goodIn_ca (goodIn_r _ [28, 29, 30, 7, 31, 32, 11, 12, 13, 14, 15, 61, 60] (by decide +kernel) (by decide +kernel)) (goodIn_sub (fun _ h => List.mem_cons_of_mem _ (List.mem_append_left _ (List.mem_append_right _ h))) (by decide +kernel))
set_option maxRecDepth 20000 in
theorem gX6_faultOf_X5_isUnderWay : GoodIn wsX6_faultOf (wsV RX6 153 RX5 yX5_isUnderWay wsX5_isUnderWay) := goodIn_app (goodIn_of _ (by decide +kernel)) ggX6_faultOf_X5_isUnderWay
set_option maxRecDepth 20000 in
theorem ggX6_faultOf_X5_nextFault : GoodIn wsX6_faultOf wsX5_nextFault := goodIn_ca (goodIn_r _ [36, 29, 30, 7, 31, 32, 11, 12, 13, 14, 15, 37, 38, 39, 40, 41, 42, 43, 44, 45, 27, 46, 47, 48, 61, 60] (by decide +kernel) (by decide +kernel)) (goodIn_sub (fun _ h => List.mem_cons_of_mem _ (List.mem_append_left _ (List.mem_append_right _ h))) (by decide +kernel))
set_option maxRecDepth 20000 in
theorem gX6_faultOf_X5_nextFault : GoodIn wsX6_faultOf (wsV RX6 164 RX5 yX5_nextFault wsX5_nextFault) := goodIn_app (goodIn_of _ (by decide +kernel)) ggX6_faultOf_X5_nextFault
theorem dX6_faultOf_0 : decode cX6_faultOf 0 = .ok (.aload_n 0, 1) := by decide +kernel
theorem dX6_faultOf_1 : decode cX6_faultOf 1 = .ok (.iload_n 1, 1) := by decide +kernel
theorem dX6_faultOf_2 : decode cX6_faultOf 2 = .ok (.invokevirtual 105, 3) := by decide +kernel
theorem dX6_faultOf_5 : decode cX6_faultOf 5 = .ok (.aload_n 0, 1) := by decide +kernel
theorem dX6_faultOf_6 : decode cX6_faultOf 6 = .ok (.getfield 12, 3) := by decide +kernel
theorem dX6_faultOf_9 : decode cX6_faultOf 9 = .ok (.iload_n 1, 1) := by decide +kernel
theorem dX6_faultOf_10 : decode cX6_faultOf 10 = .ok (.invokevirtual 153, 3) := by decide +kernel
theorem dX6_faultOf_13 : decode cX6_faultOf 13 = .ok (.ifCond .ne 13, 3) := by decide +kernel
theorem dX6_faultOf_16 : decode cX6_faultOf 16 = .ok (.new 157, 3) := by decide +kernel
theorem dX6_faultOf_19 : decode cX6_faultOf 19 = .ok (.dup, 1) := by decide +kernel
theorem dX6_faultOf_20 : decode cX6_faultOf 20 = .ok (.ldc 159, 2) := by decide +kernel
theorem dX6_faultOf_22 : decode cX6_faultOf 22 = .ok (.invokespecial 161, 3) := by decide +kernel
theorem dX6_faultOf_25 : decode cX6_faultOf 25 = .ok (.athrow, 1) := by decide +kernel
theorem dX6_faultOf_26 : decode cX6_faultOf 26 = .ok (.aload_n 0, 1) := by decide +kernel
theorem dX6_faultOf_27 : decode cX6_faultOf 27 = .ok (.getfield 12, 3) := by decide +kernel
theorem dX6_faultOf_30 : decode cX6_faultOf 30 = .ok (.iload_n 1, 1) := by decide +kernel
theorem dX6_faultOf_31 : decode cX6_faultOf 31 = .ok (.invokevirtual 164, 3) := by decide +kernel
theorem dX6_faultOf_34 : decode cX6_faultOf 34 = .ok (.ireturn, 1) := by decide +kernel
set_option maxRecDepth 20000 in
theorem ggX6_endsIn_X6_needTour : GoodIn wsX6_endsIn wsX6_needTour := goodIn_ca (goodIn_ca (goodIn_r _ [9, 3, 10, 11, 12, 13, 14, 15, 16, 17, 8, 18, 19, 20, 21, 22, 23, 110, 111, 112, 113, 114, 115, 116, 117, 118, 119, 120, 122] (by decide +kernel) (by decide +kernel)) (goodIn_sub (fun _ h => List.mem_cons_of_mem _ (List.mem_append_left _ (List.mem_append_right _ h))) (by decide +kernel))) (goodIn_sub (fun _ h => List.mem_cons_of_mem _ (List.mem_append_right _ h)) (by decide +kernel))
set_option maxRecDepth 20000 in
theorem gX6_endsIn_X6_needTour : GoodIn wsX6_endsIn (wsV RX6 105 RX6 yX6_needTour wsX6_needTour) := goodIn_app (goodIn_of _ (by decide +kernel)) ggX6_endsIn_X6_needTour
set_option maxRecDepth 20000 in
theorem ggX6_endsIn_X6_ofTour : GoodIn wsX6_endsIn wsX6_ofTour := goodIn_r _ [26] (by decide +kernel) (by decide +kernel)
set_option maxRecDepth 20000 in
theorem gX6_endsIn_X6_ofTour : GoodIn wsX6_endsIn (va_wsS RX6 112 yX6_ofTour wsX6_ofTour) := goodIn_app (goodIn_of _ (by decide +kernel)) ggX6_endsIn_X6_ofTour
set_option maxRecDepth 20000 in
theorem ggX6_endsIn_X0_get : GoodIn wsX6_endsIn wsX0_get := goodIn_ca (goodIn_r _ [14, 15, 122] (by decide +kernel) (by decide +kernel)) (goodIn_sub (fun _ h => List.mem_cons_of_mem _ (List.mem_append_left _ (List.mem_append_right _ h))) (by decide +kernel))
set_option maxRecDepth 20000 in
theorem gX6_endsIn_X0_get : GoodIn wsX6_endsIn (wsV RX6 116 RX0 yX0_get wsX0_get) := goodIn_app (goodIn_of _ (by decide +kernel)) ggX6_endsIn_X0_get
set_option maxRecDepth 20000 in
theorem ggX6_endsIn_X0_take : GoodIn wsX6_endsIn wsX0_take := goodIn_r _ [30, 15, 31, 32, 33, 34, 122] (by decide +kernel) (by decide +kernel)
set_option maxRecDepth 20000 in
theorem gX6_endsIn_X0_take : GoodIn wsX6_endsIn (wsV RX6 169 RX0 yX0_take wsX0_take) := goodIn_app (goodIn_of _ (by decide +kernel)) ggX6_endsIn_X0_take
set_option maxRecDepth 20000 in
theorem ggX6_endsIn_X5_hoursToTheEnd : GoodIn wsX6_endsIn wsX5_hoursToTheEnd := goodIn_ca (goodIn_r _ [39, 40, 41, 42, 38, 43, 44, 25, 8, 26, 45, 11, 12, 13, 14, 15, 46, 47, 48, 49, 50, 51, 52, 53, 54, 55, 56, 57, 58, 59, 60, 61, 62, 63, 64, 65, 66, 67, 68, 69, 70, 71, 72, 73, 74, 75, 76, 77, 78, 79, 80, 81, 82, 83, 84, 85, 86, 87, 88, 89, 90, 91, 92, 93, 94, 95, 96, 97, 98, 99, 100, 101, 102, 103, 104, 105, 106, 107, 108, 109, 121, 122] (by decide +kernel) (by decide +kernel)) (goodIn_sub (fun _ h => List.mem_cons_of_mem _ (List.mem_append_left _ (List.mem_append_right _ h))) (by decide +kernel))
set_option maxRecDepth 20000 in
theorem gX6_endsIn_X5_hoursToTheEnd : GoodIn wsX6_endsIn (wsV RX6 172 RX5 yX5_hoursToTheEnd wsX5_hoursToTheEnd) := goodIn_app (goodIn_of _ (by decide +kernel)) ggX6_endsIn_X5_hoursToTheEnd
theorem dX6_endsIn_0 : decode cX6_endsIn 0 = .ok (.aload_n 0, 1) := by decide +kernel
theorem dX6_endsIn_1 : decode cX6_endsIn 1 = .ok (.iload_n 1, 1) := by decide +kernel
theorem dX6_endsIn_2 : decode cX6_endsIn 2 = .ok (.invokevirtual 105, 3) := by decide +kernel
theorem dX6_endsIn_5 : decode cX6_endsIn 5 = .ok (.aload_n 0, 1) := by decide +kernel
theorem dX6_endsIn_6 : decode cX6_endsIn 6 = .ok (.getfield 20, 3) := by decide +kernel
theorem dX6_endsIn_9 : decode cX6_endsIn 9 = .ok (.iload_n 1, 1) := by decide +kernel
theorem dX6_endsIn_10 : decode cX6_endsIn 10 = .ok (.iconst 0, 1) := by decide +kernel
theorem dX6_endsIn_11 : decode cX6_endsIn 11 = .ok (.invokestatic 112, 3) := by decide +kernel
theorem dX6_endsIn_14 : decode cX6_endsIn 14 = .ok (.invokevirtual 116, 3) := by decide +kernel
theorem dX6_endsIn_17 : decode cX6_endsIn 17 = .ok (.ifCond .ne 13, 3) := by decide +kernel
theorem dX6_endsIn_20 : decode cX6_endsIn 20 = .ok (.new 157, 3) := by decide +kernel
theorem dX6_endsIn_23 : decode cX6_endsIn 23 = .ok (.dup, 1) := by decide +kernel
theorem dX6_endsIn_24 : decode cX6_endsIn 24 = .ok (.ldc 167, 2) := by decide +kernel
theorem dX6_endsIn_26 : decode cX6_endsIn 26 = .ok (.invokespecial 161, 3) := by decide +kernel
theorem dX6_endsIn_29 : decode cX6_endsIn 29 = .ok (.athrow, 1) := by decide +kernel
theorem dX6_endsIn_30 : decode cX6_endsIn 30 = .ok (.aload_n 0, 1) := by decide +kernel
theorem dX6_endsIn_31 : decode cX6_endsIn 31 = .ok (.getfield 21, 3) := by decide +kernel
theorem dX6_endsIn_34 : decode cX6_endsIn 34 = .ok (.getfield 16, 3) := by decide +kernel
theorem dX6_endsIn_37 : decode cX6_endsIn 37 = .ok (.aload_n 0, 1) := by decide +kernel
theorem dX6_endsIn_38 : decode cX6_endsIn 38 = .ok (.getfield 20, 3) := by decide +kernel
theorem dX6_endsIn_41 : decode cX6_endsIn 41 = .ok (.invokevirtual 169, 3) := by decide +kernel
theorem dX6_endsIn_44 : decode cX6_endsIn 44 = .ok (.aload_n 0, 1) := by decide +kernel
theorem dX6_endsIn_45 : decode cX6_endsIn 45 = .ok (.getfield 21, 3) := by decide +kernel
theorem dX6_endsIn_48 : decode cX6_endsIn 48 = .ok (.iload_n 1, 1) := by decide +kernel
theorem dX6_endsIn_49 : decode cX6_endsIn 49 = .ok (.invokevirtual 172, 3) := by decide +kernel
theorem dX6_endsIn_52 : decode cX6_endsIn 52 = .ok (.istore_n 2, 1) := by decide +kernel
theorem dX6_endsIn_53 : decode cX6_endsIn 53 = .ok (.iload_n 2, 1) := by decide +kernel
theorem dX6_endsIn_54 : decode cX6_endsIn 54 = .ok (.iconst (-1), 1) := by decide +kernel
theorem dX6_endsIn_55 : decode cX6_endsIn 55 = .ok (.if_icmp .ne 13, 3) := by decide +kernel
theorem dX6_endsIn_58 : decode cX6_endsIn 58 = .ok (.new 157, 3) := by decide +kernel
theorem dX6_endsIn_61 : decode cX6_endsIn 61 = .ok (.dup, 1) := by decide +kernel
theorem dX6_endsIn_62 : decode cX6_endsIn 62 = .ok (.ldc 175, 2) := by decide +kernel
theorem dX6_endsIn_64 : decode cX6_endsIn 64 = .ok (.invokespecial 161, 3) := by decide +kernel
theorem dX6_endsIn_67 : decode cX6_endsIn 67 = .ok (.athrow, 1) := by decide +kernel
theorem dX6_endsIn_68 : decode cX6_endsIn 68 = .ok (.iload_n 2, 1) := by decide +kernel
theorem dX6_endsIn_69 : decode cX6_endsIn 69 = .ok (.ireturn, 1) := by decide +kernel
set_option maxRecDepth 20000 in
theorem ggX6_costs_X6_needTour : GoodIn wsX6_costs wsX6_needTour := goodIn_ca (goodIn_ca (goodIn_r _ [6, 7, 8, 9, 10, 11, 12, 13, 14, 15, 5, 16, 17, 18, 19, 20, 21, 41, 42, 43, 44, 45, 46, 47, 48, 49, 50, 51, 52] (by decide +kernel) (by decide +kernel)) (goodIn_sub (fun _ h => List.mem_cons_of_mem _ (List.mem_append_left _ (List.mem_append_right _ h))) (by decide +kernel))) (goodIn_sub (fun _ h => List.mem_cons_of_mem _ (List.mem_append_right _ h)) (by decide +kernel))
set_option maxRecDepth 20000 in
theorem gX6_costs_X6_needTour : GoodIn wsX6_costs (wsV RX6 105 RX6 yX6_needTour wsX6_needTour) := goodIn_app (goodIn_of _ (by decide +kernel)) ggX6_costs_X6_needTour
set_option maxRecDepth 20000 in
theorem ggX6_costs_X5_costsOfTheRest : GoodIn wsX6_costs wsX5_costsOfTheRest := goodIn_ca (goodIn_r _ [26, 27, 28, 5, 29, 30, 9, 10, 11, 12, 13, 31, 32, 33, 25, 34, 35, 36, 37, 38, 39, 40, 53, 52] (by decide +kernel) (by decide +kernel)) (goodIn_sub (fun _ h => List.mem_cons_of_mem _ (List.mem_append_left _ (List.mem_append_right _ h))) (by decide +kernel))
set_option maxRecDepth 20000 in
theorem gX6_costs_X5_costsOfTheRest : GoodIn wsX6_costs (wsV RX6 177 RX5 yX5_costsOfTheRest wsX5_costsOfTheRest) := goodIn_app (goodIn_of _ (by decide +kernel)) ggX6_costs_X5_costsOfTheRest
theorem dX6_costs_0 : decode cX6_costs 0 = .ok (.aload_n 0, 1) := by decide +kernel
theorem dX6_costs_1 : decode cX6_costs 1 = .ok (.iload_n 1, 1) := by decide +kernel
theorem dX6_costs_2 : decode cX6_costs 2 = .ok (.invokevirtual 105, 3) := by decide +kernel
theorem dX6_costs_5 : decode cX6_costs 5 = .ok (.aload_n 0, 1) := by decide +kernel
theorem dX6_costs_6 : decode cX6_costs 6 = .ok (.getfield 12, 3) := by decide +kernel
theorem dX6_costs_9 : decode cX6_costs 9 = .ok (.iload_n 1, 1) := by decide +kernel
theorem dX6_costs_10 : decode cX6_costs 10 = .ok (.invokevirtual 177, 3) := by decide +kernel
theorem dX6_costs_13 : decode cX6_costs 13 = .ok (.ireturn, 1) := by decide +kernel
set_option maxRecDepth 20000 in
theorem ggX6_cheapest_X6_needBelow : GoodIn wsX6_cheapest wsX6_needBelow := goodIn_ca (goodIn_r _ [7, 8, 9, 10, 11, 6, 12] (by decide +kernel) (by decide +kernel)) (goodIn_sub (fun _ h => List.mem_cons_of_mem _ (List.mem_append_left _ (List.mem_append_left _ (List.mem_append_right _ h)))) (by decide +kernel))
set_option maxRecDepth 20000 in
theorem gX6_cheapest_X6_needBelow : GoodIn wsX6_cheapest (va_wsS RX6 119 yX6_needBelow wsX6_needBelow) := goodIn_app (goodIn_of _ (by decide +kernel)) ggX6_cheapest_X6_needBelow
set_option maxRecDepth 20000 in
theorem ggX6_cheapest_X6_needRange : GoodIn wsX6_cheapest wsX6_needRange := goodIn_ca (goodIn_r _ [15, 16, 17, 18, 19, 6, 20] (by decide +kernel) (by decide +kernel)) (goodIn_sub (fun _ h => List.mem_cons_of_mem _ (List.mem_append_left _ (List.mem_append_right _ h))) (by decide +kernel))
set_option maxRecDepth 20000 in
theorem gX6_cheapest_X6_needRange : GoodIn wsX6_cheapest (va_wsS RX6 108 yX6_needRange wsX6_needRange) := goodIn_app (goodIn_of _ (by decide +kernel)) ggX6_cheapest_X6_needRange
set_option maxRecDepth 20000 in
theorem ggX6_cheapest_X5_cheapestTown : GoodIn wsX6_cheapest wsX5_cheapestTown := goodIn_ca (goodIn_r _ [25, 26, 27, 6, 28, 29, 30, 31, 32, 33, 34, 35, 36, 48, 49] (by decide +kernel) (by decide +kernel)) (goodIn_sub (fun _ h => List.mem_cons_of_mem _ (List.mem_append_right _ h)) (by decide +kernel))
set_option maxRecDepth 20000 in
theorem gX6_cheapest_X5_cheapestTown : GoodIn wsX6_cheapest (wsV RX6 180 RX5 yX5_cheapestTown wsX5_cheapestTown) := goodIn_app (goodIn_of _ (by decide +kernel)) ggX6_cheapest_X5_cheapestTown
theorem dX6_cheapest_0 : decode cX6_cheapest 0 = .ok (.iload_n 1, 1) := by decide +kernel
theorem dX6_cheapest_1 : decode cX6_cheapest 1 = .ok (.iconst 3, 1) := by decide +kernel
theorem dX6_cheapest_2 : decode cX6_cheapest 2 = .ok (.invokestatic 119, 3) := by decide +kernel
theorem dX6_cheapest_5 : decode cX6_cheapest 5 = .ok (.iload_n 2, 1) := by decide +kernel
theorem dX6_cheapest_6 : decode cX6_cheapest 6 = .ok (.bipush 20, 2) := by decide +kernel
theorem dX6_cheapest_8 : decode cX6_cheapest 8 = .ok (.invokestatic 119, 3) := by decide +kernel
theorem dX6_cheapest_11 : decode cX6_cheapest 11 = .ok (.iload_n 3, 1) := by decide +kernel
theorem dX6_cheapest_12 : decode cX6_cheapest 12 = .ok (.iconst 1, 1) := by decide +kernel
theorem dX6_cheapest_13 : decode cX6_cheapest 13 = .ok (.bipush 12, 2) := by decide +kernel
theorem dX6_cheapest_15 : decode cX6_cheapest 15 = .ok (.invokestatic 108, 3) := by decide +kernel
theorem dX6_cheapest_18 : decode cX6_cheapest 18 = .ok (.aload_n 0, 1) := by decide +kernel
theorem dX6_cheapest_19 : decode cX6_cheapest 19 = .ok (.getfield 12, 3) := by decide +kernel
theorem dX6_cheapest_22 : decode cX6_cheapest 22 = .ok (.iload_n 1, 1) := by decide +kernel
theorem dX6_cheapest_23 : decode cX6_cheapest 23 = .ok (.iload_n 2, 1) := by decide +kernel
theorem dX6_cheapest_24 : decode cX6_cheapest 24 = .ok (.iload_n 3, 1) := by decide +kernel
theorem dX6_cheapest_25 : decode cX6_cheapest 25 = .ok (.invokevirtual 180, 3) := by decide +kernel
theorem dX6_cheapest_28 : decode cX6_cheapest 28 = .ok (.istore 4, 2) := by decide +kernel
theorem dX6_cheapest_30 : decode cX6_cheapest 30 = .ok (.iload 4, 2) := by decide +kernel
theorem dX6_cheapest_32 : decode cX6_cheapest 32 = .ok (.iconst (-1), 1) := by decide +kernel
theorem dX6_cheapest_33 : decode cX6_cheapest 33 = .ok (.if_icmp .ne 13, 3) := by decide +kernel
theorem dX6_cheapest_36 : decode cX6_cheapest 36 = .ok (.new 157, 3) := by decide +kernel
theorem dX6_cheapest_39 : decode cX6_cheapest 39 = .ok (.dup, 1) := by decide +kernel
theorem dX6_cheapest_40 : decode cX6_cheapest 40 = .ok (.ldc 183, 2) := by decide +kernel
theorem dX6_cheapest_42 : decode cX6_cheapest 42 = .ok (.invokespecial 161, 3) := by decide +kernel
theorem dX6_cheapest_45 : decode cX6_cheapest 45 = .ok (.athrow, 1) := by decide +kernel
theorem dX6_cheapest_46 : decode cX6_cheapest 46 = .ok (.iload 4, 2) := by decide +kernel
theorem dX6_cheapest_48 : decode cX6_cheapest 48 = .ok (.ireturn, 1) := by decide +kernel
set_option maxRecDepth 20000 in
theorem ggX6_ranked_X5_tourInPlace : GoodIn wsX6_ranked wsX5_tourInPlace := goodIn_ca (goodIn_r _ [8, 9, 10, 11, 12, 13, 14, 15, 16, 17, 18, 7, 19, 20, 21, 22, 34, 35] (by decide +kernel) (by decide +kernel)) (goodIn_sub (fun _ h => List.mem_cons_of_mem _ (List.mem_append_right _ h)) (by decide +kernel))
set_option maxRecDepth 20000 in
theorem gX6_ranked_X5_tourInPlace : GoodIn wsX6_ranked (wsV RX6 185 RX5 yX5_tourInPlace wsX5_tourInPlace) := goodIn_app (goodIn_of _ (by decide +kernel)) ggX6_ranked_X5_tourInPlace
theorem dX6_ranked_0 : decode cX6_ranked 0 = .ok (.aload_n 0, 1) := by decide +kernel
theorem dX6_ranked_1 : decode cX6_ranked 1 = .ok (.getfield 12, 3) := by decide +kernel
theorem dX6_ranked_4 : decode cX6_ranked 4 = .ok (.iload_n 1, 1) := by decide +kernel
theorem dX6_ranked_5 : decode cX6_ranked 5 = .ok (.invokevirtual 185, 3) := by decide +kernel
theorem dX6_ranked_8 : decode cX6_ranked 8 = .ok (.istore_n 2, 1) := by decide +kernel
theorem dX6_ranked_9 : decode cX6_ranked 9 = .ok (.iload_n 2, 1) := by decide +kernel
theorem dX6_ranked_10 : decode cX6_ranked 10 = .ok (.iconst (-1), 1) := by decide +kernel
theorem dX6_ranked_11 : decode cX6_ranked 11 = .ok (.if_icmp .ne 13, 3) := by decide +kernel
theorem dX6_ranked_14 : decode cX6_ranked 14 = .ok (.new 157, 3) := by decide +kernel
theorem dX6_ranked_17 : decode cX6_ranked 17 = .ok (.dup, 1) := by decide +kernel
theorem dX6_ranked_18 : decode cX6_ranked 18 = .ok (.ldc 188, 2) := by decide +kernel
theorem dX6_ranked_20 : decode cX6_ranked 20 = .ok (.invokespecial 161, 3) := by decide +kernel
theorem dX6_ranked_23 : decode cX6_ranked 23 = .ok (.athrow, 1) := by decide +kernel
theorem dX6_ranked_24 : decode cX6_ranked 24 = .ok (.iload_n 2, 1) := by decide +kernel
theorem dX6_ranked_25 : decode cX6_ranked 25 = .ok (.ireturn, 1) := by decide +kernel
set_option maxRecDepth 20000 in
theorem ggX6_line_X6_needTour : GoodIn wsX6_line wsX6_needTour := goodIn_ca (goodIn_ca (goodIn_r _ [7, 2, 8, 9, 10, 11, 12, 13, 14, 15, 6, 16, 17, 18, 19, 20, 21, 236, 237, 238, 239, 240, 241, 242, 243, 244, 245, 246, 247] (by decide +kernel) (by decide +kernel)) (goodIn_sub (fun _ h => List.mem_cons_of_mem _ (List.mem_append_left _ (List.mem_append_right _ h))) (by decide +kernel))) (goodIn_sub (fun _ h => List.mem_cons_of_mem _ (List.mem_append_right _ h)) (by decide +kernel))
set_option maxRecDepth 20000 in
theorem gX6_line_X6_needTour : GoodIn wsX6_line (wsV RX6 105 RX6 yX6_needTour wsX6_needTour) := goodIn_app (goodIn_of _ (by decide +kernel)) ggX6_line_X6_needTour
set_option maxRecDepth 20000 in
theorem ggX6_line_X3_write : GoodIn wsX6_line wsX3_write := goodIn_ca (goodIn_r _ [26, 27, 28, 29, 30, 31, 32, 33, 34, 35, 36, 37, 38, 39, 40, 41, 42, 43, 44, 45, 46, 47, 48, 49, 50, 51, 52, 53, 54, 55, 56, 57, 58, 59, 60, 61, 62, 63, 64, 65, 66, 67, 68, 69, 70, 71, 72, 73, 74, 75, 76, 77, 78, 79, 80, 81, 82, 83, 84, 85, 86, 87, 88, 89, 90, 91, 92, 93, 94, 95, 96, 97, 98, 99, 100, 101, 102, 103, 104, 105, 106, 107, 108, 109, 110, 111, 112, 113, 114, 115, 116, 117, 118, 119, 120, 121, 122, 123, 124, 125, 126, 127, 128, 129, 130, 131, 132, 133, 134, 135, 136, 137, 138, 139, 140, 141, 142, 143, 144, 145, 146, 147, 148, 149, 150, 151, 152, 153, 154, 155, 156, 157, 158, 159, 6, 160, 161, 9, 10, 11, 12, 13, 162, 163, 25, 164, 165, 166, 167, 168, 169, 170, 171, 172, 173, 174, 175, 176, 177, 178, 179, 180, 181, 182, 183, 184, 185, 186, 187, 188, 189, 190, 191, 192, 193, 194, 195, 196, 197, 198, 199, 200, 201, 202, 203, 204, 205, 206, 207, 208, 209, 210, 211, 212, 213, 214, 215, 216, 217, 218, 219, 220, 221, 222, 223, 248, 249, 250, 251, 252, 253, 254, 255, 256, 257, 258, 259, 260, 261, 262, 263, 264, 247] (by decide +kernel) (by decide +kernel)) (goodIn_sub (fun _ h => List.mem_cons_of_mem _ (List.mem_append_left _ (List.mem_append_right _ h))) (by decide +kernel))
set_option maxRecDepth 20000 in
theorem gX6_line_X3_write : GoodIn wsX6_line (wsV RX6 190 RX3 yX3_write wsX3_write) := goodIn_app (goodIn_of _ (by decide +kernel)) ggX6_line_X3_write
set_option maxRecDepth 20000 in
theorem ggX6_line_X3_length : GoodIn wsX6_line wsX3_length := goodIn_r _ [227, 27, 228, 229, 230, 31, 231, 232, 233, 35, 234, 37, 235, 42, 248, 255, 256, 257, 258] (by decide +kernel) (by decide +kernel)
set_option maxRecDepth 20000 in
theorem gX6_line_X3_length : GoodIn wsX6_line (wsV RX6 194 RX3 yX3_length wsX3_length) := goodIn_app (goodIn_of _ (by decide +kernel)) ggX6_line_X3_length
theorem dX6_line_0 : decode cX6_line 0 = .ok (.aload_n 0, 1) := by decide +kernel
theorem dX6_line_1 : decode cX6_line 1 = .ok (.iload_n 1, 1) := by decide +kernel
theorem dX6_line_2 : decode cX6_line 2 = .ok (.invokevirtual 105, 3) := by decide +kernel
theorem dX6_line_5 : decode cX6_line 5 = .ok (.aload_n 0, 1) := by decide +kernel
theorem dX6_line_6 : decode cX6_line 6 = .ok (.getfield 61, 3) := by decide +kernel
theorem dX6_line_9 : decode cX6_line 9 = .ok (.aload_n 0, 1) := by decide +kernel
theorem dX6_line_10 : decode cX6_line 10 = .ok (.getfield 20, 3) := by decide +kernel
theorem dX6_line_13 : decode cX6_line 13 = .ok (.iload_n 1, 1) := by decide +kernel
theorem dX6_line_14 : decode cX6_line 14 = .ok (.invokevirtual 190, 3) := by decide +kernel
theorem dX6_line_17 : decode cX6_line 17 = .ok (.aload_n 0, 1) := by decide +kernel
theorem dX6_line_18 : decode cX6_line 18 = .ok (.getfield 61, 3) := by decide +kernel
theorem dX6_line_21 : decode cX6_line 21 = .ok (.invokevirtual 194, 3) := by decide +kernel
theorem dX6_line_24 : decode cX6_line 24 = .ok (.ireturn, 1) := by decide +kernel
set_option maxRecDepth 20000 in
theorem ggX6_character_X3_length : GoodIn wsX6_character wsX3_length := goodIn_r _ [6, 7, 8, 9, 10, 11, 12, 13, 14, 15, 16, 17, 18, 19, 77, 78, 79, 80, 81] (by decide +kernel) (by decide +kernel)
set_option maxRecDepth 20000 in
theorem gX6_character_X3_length : GoodIn wsX6_character (wsV RX6 194 RX3 yX3_length wsX3_length) := goodIn_app (goodIn_of _ (by decide +kernel)) ggX6_character_X3_length
set_option maxRecDepth 20000 in
theorem ggX6_character_X6_needBelow : GoodIn wsX6_character wsX6_needBelow := goodIn_ca (goodIn_r _ [23, 24, 25, 26, 27, 22, 28] (by decide +kernel) (by decide +kernel)) (goodIn_sub (fun _ h => List.mem_cons_of_mem _ (List.mem_append_right _ h)) (by decide +kernel))
set_option maxRecDepth 20000 in
theorem gX6_character_X6_needBelow : GoodIn wsX6_character (va_wsS RX6 119 yX6_needBelow wsX6_needBelow) := goodIn_app (goodIn_of _ (by decide +kernel)) ggX6_character_X6_needBelow
set_option maxRecDepth 20000 in
theorem ggX6_character_X3_signAt : GoodIn wsX6_character wsX3_signAt := goodIn_r _ [32, 7, 8, 9, 10, 11, 12, 13, 14, 15, 16, 17, 18, 19, 27, 22, 28, 33, 34, 35, 36, 37, 38, 39, 40, 41, 42, 43, 44, 45, 46, 47, 48, 49, 50, 51, 52, 53, 54, 55, 56, 57, 58, 59, 60, 61, 62, 63, 64, 65, 77, 78, 79, 80, 81] (by decide +kernel) (by decide +kernel)
set_option maxRecDepth 20000 in
theorem gX6_character_X3_signAt : GoodIn wsX6_character (wsV RX6 198 RX3 yX3_signAt wsX3_signAt) := goodIn_app (goodIn_of _ (by decide +kernel)) ggX6_character_X3_signAt
theorem dX6_character_0 : decode cX6_character 0 = .ok (.iload_n 1, 1) := by decide +kernel
theorem dX6_character_1 : decode cX6_character 1 = .ok (.aload_n 0, 1) := by decide +kernel
theorem dX6_character_2 : decode cX6_character 2 = .ok (.getfield 61, 3) := by decide +kernel
theorem dX6_character_5 : decode cX6_character 5 = .ok (.invokevirtual 194, 3) := by decide +kernel
theorem dX6_character_8 : decode cX6_character 8 = .ok (.invokestatic 119, 3) := by decide +kernel
theorem dX6_character_11 : decode cX6_character 11 = .ok (.aload_n 0, 1) := by decide +kernel
theorem dX6_character_12 : decode cX6_character 12 = .ok (.getfield 61, 3) := by decide +kernel
theorem dX6_character_15 : decode cX6_character 15 = .ok (.iload_n 1, 1) := by decide +kernel
theorem dX6_character_16 : decode cX6_character 16 = .ok (.invokevirtual 198, 3) := by decide +kernel
theorem dX6_character_19 : decode cX6_character 19 = .ok (.ireturn, 1) := by decide +kernel
set_option maxRecDepth 20000 in
theorem ggX6_number_X6_needRange : GoodIn wsX6_number wsX6_needRange := goodIn_ca (goodIn_r _ [8, 9, 10, 11, 12, 7, 13] (by decide +kernel) (by decide +kernel)) (goodIn_sub (fun _ h => List.mem_cons_of_mem _ (List.mem_append_left _ (List.mem_append_right _ h))) (by decide +kernel))
set_option maxRecDepth 20000 in
theorem gX6_number_X6_needRange : GoodIn wsX6_number (va_wsS RX6 108 yX6_needRange wsX6_needRange) := goodIn_app (goodIn_of _ (by decide +kernel)) ggX6_number_X6_needRange
set_option maxRecDepth 20000 in
theorem ggX6_number_X5_toursThatAre : GoodIn wsX6_number wsX5_toursThatAre := goodIn_ca (goodIn_r _ [18, 19, 20, 21, 22, 23, 24, 25, 26, 7, 27, 62, 63] (by decide +kernel) (by decide +kernel)) (goodIn_sub (fun _ h => List.mem_cons_of_mem _ (List.mem_append_right _ h)) (by decide +kernel))
set_option maxRecDepth 20000 in
theorem gX6_number_X5_toursThatAre : GoodIn wsX6_number (wsV RX6 202 RX5 yX5_toursThatAre wsX5_toursThatAre) := goodIn_app (goodIn_of _ (by decide +kernel)) ggX6_number_X5_toursThatAre
set_option maxRecDepth 20000 in
theorem ggX6_number_X5_openTowns : GoodIn wsX6_number wsX5_openTowns := goodIn_ca (goodIn_r _ [31, 19, 32, 7, 33, 20, 21, 22, 23, 24, 25, 62, 63] (by decide +kernel) (by decide +kernel)) (goodIn_sub (fun _ h => List.mem_cons_of_mem _ (List.mem_append_right _ h)) (by decide +kernel))
set_option maxRecDepth 20000 in
theorem gX6_number_X5_openTowns : GoodIn wsX6_number (wsV RX6 205 RX5 yX5_openTowns wsX5_openTowns) := goodIn_app (goodIn_of _ (by decide +kernel)) ggX6_number_X5_openTowns
set_option maxRecDepth 20000 in
theorem ggX6_number_X5_sumOfTours : GoodIn wsX6_number wsX5_sumOfTours := goodIn_ca (goodIn_r _ [37, 19, 20, 21, 22, 23, 24, 25, 26, 7, 27, 62, 63] (by decide +kernel) (by decide +kernel)) (goodIn_sub (fun _ h => List.mem_cons_of_mem _ (List.mem_append_right _ h)) (by decide +kernel))
set_option maxRecDepth 20000 in
theorem gX6_number_X5_sumOfTours : GoodIn wsX6_number (wsV RX6 208 RX5 yX5_sumOfTours wsX5_sumOfTours) := goodIn_app (goodIn_of _ (by decide +kernel)) ggX6_number_X5_sumOfTours
set_option maxRecDepth 20000 in
theorem ggX6_number_X1_count : GoodIn wsX6_number wsX1_count := goodIn_r _ [42, 43, 64, 65, 66] (by decide +kernel) (by decide +kernel)
set_option maxRecDepth 20000 in
theorem gX6_number_X1_count : GoodIn wsX6_number (wsV RX6 211 RX1 yX1_count wsX1_count) := goodIn_app (goodIn_of _ (by decide +kernel)) ggX6_number_X1_count
set_option maxRecDepth 20000 in
theorem ggX6_number_X4_length : GoodIn wsX6_number wsX4_length := goodIn_r _ [48, 49, 67, 68, 69, 70, 71, 72, 73, 74, 75] (by decide +kernel) (by decide +kernel)
set_option maxRecDepth 20000 in
theorem gX6_number_X4_length : GoodIn wsX6_number (wsV RX6 214 RX4 yX4_length wsX4_length) := goodIn_app (goodIn_of _ (by decide +kernel)) ggX6_number_X4_length
set_option maxRecDepth 20000 in
theorem ggX6_number_X0_get : GoodIn wsX6_number wsX0_get := goodIn_ca (goodIn_r _ [24, 25, 63] (by decide +kernel) (by decide +kernel)) (goodIn_sub (fun _ h => List.mem_cons_of_mem _ (List.mem_append_right _ h)) (by decide +kernel))
set_option maxRecDepth 20000 in
theorem gX6_number_X0_get : GoodIn wsX6_number (wsV RX6 116 RX0 yX0_get wsX0_get) := goodIn_app (goodIn_of _ (by decide +kernel)) ggX6_number_X0_get
theorem dX6_number_0 : decode cX6_number 0 = .ok (.iload_n 1, 1) := by decide +kernel
theorem dX6_number_1 : decode cX6_number 1 = .ok (.iconst 0, 1) := by decide +kernel
theorem dX6_number_2 : decode cX6_number 2 = .ok (.bipush 17, 2) := by decide +kernel
theorem dX6_number_4 : decode cX6_number 4 = .ok (.invokestatic 108, 3) := by decide +kernel
theorem dX6_number_7 : decode cX6_number 7 = .ok (.iload_n 1, 1) := by decide +kernel
theorem dX6_number_8 : decode cX6_number 8 = .ok (.iconst 2, 1) := by decide +kernel
theorem dX6_number_9 : decode cX6_number 9 = .ok (.if_icmp .lt 20, 3) := by decide +kernel
theorem dX6_number_12 : decode cX6_number 12 = .ok (.iload_n 1, 1) := by decide +kernel
theorem dX6_number_13 : decode cX6_number 13 = .ok (.bipush 6, 2) := by decide +kernel
theorem dX6_number_15 : decode cX6_number 15 = .ok (.if_icmp .gt 14, 3) := by decide +kernel
theorem dX6_number_18 : decode cX6_number 18 = .ok (.aload_n 0, 1) := by decide +kernel
theorem dX6_number_19 : decode cX6_number 19 = .ok (.getfield 12, 3) := by decide +kernel
theorem dX6_number_22 : decode cX6_number 22 = .ok (.iload_n 1, 1) := by decide +kernel
theorem dX6_number_23 : decode cX6_number 23 = .ok (.iconst 2, 1) := by decide +kernel
theorem dX6_number_24 : decode cX6_number 24 = .ok (.isub, 1) := by decide +kernel
theorem dX6_number_25 : decode cX6_number 25 = .ok (.invokevirtual 202, 3) := by decide +kernel
theorem dX6_number_28 : decode cX6_number 28 = .ok (.ireturn, 1) := by decide +kernel
theorem dX6_number_29 : decode cX6_number 29 = .ok (.iload_n 1, 1) := by decide +kernel
theorem dX6_number_30 : decode cX6_number 30 = .ok (.tableswitch 63 14 17 #[30, 38, 47, 55], 30) := by decide +kernel
theorem dX6_number_60 : decode cX6_number 60 = .ok (.aload_n 0, 1) := by decide +kernel
theorem dX6_number_61 : decode cX6_number 61 = .ok (.getfield 12, 3) := by decide +kernel
theorem dX6_number_64 : decode cX6_number 64 = .ok (.invokevirtual 205, 3) := by decide +kernel
theorem dX6_number_67 : decode cX6_number 67 = .ok (.ireturn, 1) := by decide +kernel
theorem dX6_number_68 : decode cX6_number 68 = .ok (.aload_n 0, 1) := by decide +kernel
theorem dX6_number_69 : decode cX6_number 69 = .ok (.getfield 12, 3) := by decide +kernel
theorem dX6_number_72 : decode cX6_number 72 = .ok (.iconst 3, 1) := by decide +kernel
theorem dX6_number_73 : decode cX6_number 73 = .ok (.invokevirtual 208, 3) := by decide +kernel
theorem dX6_number_76 : decode cX6_number 76 = .ok (.ireturn, 1) := by decide +kernel
theorem dX6_number_77 : decode cX6_number 77 = .ok (.aload_n 0, 1) := by decide +kernel
theorem dX6_number_78 : decode cX6_number 78 = .ok (.getfield 34, 3) := by decide +kernel
theorem dX6_number_81 : decode cX6_number 81 = .ok (.invokevirtual 211, 3) := by decide +kernel
theorem dX6_number_84 : decode cX6_number 84 = .ok (.ireturn, 1) := by decide +kernel
theorem dX6_number_85 : decode cX6_number 85 = .ok (.aload_n 0, 1) := by decide +kernel
theorem dX6_number_86 : decode cX6_number 86 = .ok (.getfield 54, 3) := by decide +kernel
theorem dX6_number_89 : decode cX6_number 89 = .ok (.invokevirtual 214, 3) := by decide +kernel
theorem dX6_number_92 : decode cX6_number 92 = .ok (.ireturn, 1) := by decide +kernel
theorem dX6_number_93 : decode cX6_number 93 = .ok (.aload_n 0, 1) := by decide +kernel
theorem dX6_number_94 : decode cX6_number 94 = .ok (.getfield 20, 3) := by decide +kernel
theorem dX6_number_97 : decode cX6_number 97 = .ok (.iload_n 1, 1) := by decide +kernel
theorem dX6_number_98 : decode cX6_number 98 = .ok (.invokevirtual 116, 3) := by decide +kernel
theorem dX6_number_101 : decode cX6_number 101 = .ok (.ireturn, 1) := by decide +kernel
set_option maxRecDepth 20000 in
theorem ggX6_coinsAgain_X5_sumOfTours : GoodIn wsX6_coinsAgain wsX5_sumOfTours := goodIn_ca (goodIn_r _ [7, 8, 9, 10, 11, 12, 13, 14, 15, 16, 17, 30, 31] (by decide +kernel) (by decide +kernel)) (goodIn_sub (fun _ h => List.mem_cons_of_mem _ (List.mem_append_right _ h)) (by decide +kernel))
set_option maxRecDepth 20000 in
theorem gX6_coinsAgain_X5_sumOfTours : GoodIn wsX6_coinsAgain (wsV RX6 208 RX5 yX5_sumOfTours wsX5_sumOfTours) := goodIn_app (goodIn_of _ (by decide +kernel)) ggX6_coinsAgain_X5_sumOfTours
set_option maxRecDepth 20000 in
theorem ggX6_coinsAgain_X0_get : GoodIn wsX6_coinsAgain wsX0_get := goodIn_ca (goodIn_r _ [13, 14, 31] (by decide +kernel) (by decide +kernel)) (goodIn_sub (fun _ h => List.mem_cons_of_mem _ (List.mem_append_right _ h)) (by decide +kernel))
set_option maxRecDepth 20000 in
theorem gX6_coinsAgain_X0_get : GoodIn wsX6_coinsAgain (wsV RX6 116 RX0 yX0_get wsX0_get) := goodIn_app (goodIn_of _ (by decide +kernel)) ggX6_coinsAgain_X0_get
theorem dX6_coinsAgain_0 : decode cX6_coinsAgain 0 = .ok (.aload_n 0, 1) := by decide +kernel
theorem dX6_coinsAgain_1 : decode cX6_coinsAgain 1 = .ok (.getfield 12, 3) := by decide +kernel
theorem dX6_coinsAgain_4 : decode cX6_coinsAgain 4 = .ok (.bipush 7, 2) := by decide +kernel
theorem dX6_coinsAgain_6 : decode cX6_coinsAgain 6 = .ok (.invokevirtual 208, 3) := by decide +kernel
theorem dX6_coinsAgain_9 : decode cX6_coinsAgain 9 = .ok (.aload_n 0, 1) := by decide +kernel
theorem dX6_coinsAgain_10 : decode cX6_coinsAgain 10 = .ok (.getfield 12, 3) := by decide +kernel
theorem dX6_coinsAgain_13 : decode cX6_coinsAgain 13 = .ok (.bipush 8, 2) := by decide +kernel
theorem dX6_coinsAgain_15 : decode cX6_coinsAgain 15 = .ok (.invokevirtual 208, 3) := by decide +kernel
theorem dX6_coinsAgain_18 : decode cX6_coinsAgain 18 = .ok (.iadd, 1) := by decide +kernel
theorem dX6_coinsAgain_19 : decode cX6_coinsAgain 19 = .ok (.istore_n 1, 1) := by decide +kernel
theorem dX6_coinsAgain_20 : decode cX6_coinsAgain 20 = .ok (.bipush 100, 2) := by decide +kernel
theorem dX6_coinsAgain_22 : decode cX6_coinsAgain 22 = .ok (.iload_n 1, 1) := by decide +kernel
theorem dX6_coinsAgain_23 : decode cX6_coinsAgain 23 = .ok (.iadd, 1) := by decide +kernel
theorem dX6_coinsAgain_24 : decode cX6_coinsAgain 24 = .ok (.aload_n 0, 1) := by decide +kernel
theorem dX6_coinsAgain_25 : decode cX6_coinsAgain 25 = .ok (.getfield 12, 3) := by decide +kernel
theorem dX6_coinsAgain_28 : decode cX6_coinsAgain 28 = .ok (.bipush 6, 2) := by decide +kernel
theorem dX6_coinsAgain_30 : decode cX6_coinsAgain 30 = .ok (.invokevirtual 208, 3) := by decide +kernel
theorem dX6_coinsAgain_33 : decode cX6_coinsAgain 33 = .ok (.isub, 1) := by decide +kernel
theorem dX6_coinsAgain_34 : decode cX6_coinsAgain 34 = .ok (.aload_n 0, 1) := by decide +kernel
theorem dX6_coinsAgain_35 : decode cX6_coinsAgain 35 = .ok (.getfield 20, 3) := by decide +kernel
theorem dX6_coinsAgain_38 : decode cX6_coinsAgain 38 = .ok (.bipush 11, 2) := by decide +kernel
theorem dX6_coinsAgain_40 : decode cX6_coinsAgain 40 = .ok (.invokevirtual 116, 3) := by decide +kernel
theorem dX6_coinsAgain_43 : decode cX6_coinsAgain 43 = .ok (.isub, 1) := by decide +kernel
theorem dX6_coinsAgain_44 : decode cX6_coinsAgain 44 = .ok (.ireturn, 1) := by decide +kernel
set_option maxRecDepth 20000 in
theorem ggX6_meanSteps_X0_get : GoodIn wsX6_meanSteps wsX0_get := goodIn_ca (goodIn_r _ [9, 10, 32] (by decide +kernel) (by decide +kernel)) (goodIn_sub (fun _ h => List.mem_cons_of_mem _ (List.mem_append_right _ h)) (by decide +kernel))
set_option maxRecDepth 20000 in
theorem gX6_meanSteps_X0_get : GoodIn wsX6_meanSteps (wsV RX6 116 RX0 yX0_get wsX0_get) := goodIn_app (goodIn_of _ (by decide +kernel)) ggX6_meanSteps_X0_get
set_option maxRecDepth 20000 in
theorem ggX6_meanSteps_X5_sumOfTours : GoodIn wsX6_meanSteps wsX5_sumOfTours := goodIn_ca (goodIn_r _ [15, 16, 17, 6, 7, 8, 9, 10, 18, 19, 20, 33, 32] (by decide +kernel) (by decide +kernel)) (goodIn_sub (fun _ h => List.mem_cons_of_mem _ (List.mem_append_right _ h)) (by decide +kernel))
set_option maxRecDepth 20000 in
theorem gX6_meanSteps_X5_sumOfTours : GoodIn wsX6_meanSteps (wsV RX6 208 RX5 yX5_sumOfTours wsX5_sumOfTours) := goodIn_app (goodIn_of _ (by decide +kernel)) ggX6_meanSteps_X5_sumOfTours
theorem dX6_meanSteps_0 : decode cX6_meanSteps 0 = .ok (.aload_n 0, 1) := by decide +kernel
theorem dX6_meanSteps_1 : decode cX6_meanSteps 1 = .ok (.getfield 20, 3) := by decide +kernel
theorem dX6_meanSteps_4 : decode cX6_meanSteps 4 = .ok (.iconst 1, 1) := by decide +kernel
theorem dX6_meanSteps_5 : decode cX6_meanSteps 5 = .ok (.invokevirtual 116, 3) := by decide +kernel
theorem dX6_meanSteps_8 : decode cX6_meanSteps 8 = .ok (.istore_n 1, 1) := by decide +kernel
theorem dX6_meanSteps_9 : decode cX6_meanSteps 9 = .ok (.iload_n 1, 1) := by decide +kernel
theorem dX6_meanSteps_10 : decode cX6_meanSteps 10 = .ok (.ifCond .ne 13, 3) := by decide +kernel
theorem dX6_meanSteps_13 : decode cX6_meanSteps 13 = .ok (.new 215, 3) := by decide +kernel
theorem dX6_meanSteps_16 : decode cX6_meanSteps 16 = .ok (.dup, 1) := by decide +kernel
theorem dX6_meanSteps_17 : decode cX6_meanSteps 17 = .ok (.ldc 217, 2) := by decide +kernel
theorem dX6_meanSteps_19 : decode cX6_meanSteps 19 = .ok (.invokespecial 219, 3) := by decide +kernel
theorem dX6_meanSteps_22 : decode cX6_meanSteps 22 = .ok (.athrow, 1) := by decide +kernel
theorem dX6_meanSteps_23 : decode cX6_meanSteps 23 = .ok (.aload_n 0, 1) := by decide +kernel
theorem dX6_meanSteps_24 : decode cX6_meanSteps 24 = .ok (.getfield 12, 3) := by decide +kernel
theorem dX6_meanSteps_27 : decode cX6_meanSteps 27 = .ok (.iconst 2, 1) := by decide +kernel
theorem dX6_meanSteps_28 : decode cX6_meanSteps 28 = .ok (.invokevirtual 208, 3) := by decide +kernel
theorem dX6_meanSteps_31 : decode cX6_meanSteps 31 = .ok (.i2d, 1) := by decide +kernel
theorem dX6_meanSteps_32 : decode cX6_meanSteps 32 = .ok (.iload_n 1, 1) := by decide +kernel
theorem dX6_meanSteps_33 : decode cX6_meanSteps 33 = .ok (.i2d, 1) := by decide +kernel
theorem dX6_meanSteps_34 : decode cX6_meanSteps 34 = .ok (.ddiv, 1) := by decide +kernel
theorem dX6_meanSteps_35 : decode cX6_meanSteps 35 = .ok (.dreturn, 1) := by decide +kernel
set_option maxRecDepth 20000 in
theorem ggX6_failedShare_X0_get : GoodIn wsX6_failedShare wsX0_get := goodIn_ca (goodIn_r _ [8, 9, 21] (by decide +kernel) (by decide +kernel)) (goodIn_sub (fun _ h => List.mem_cons_of_mem _ (List.mem_append_right _ h)) (by decide +kernel))
set_option maxRecDepth 20000 in
theorem gX6_failedShare_X0_get : GoodIn wsX6_failedShare (wsV RX6 116 RX0 yX0_get wsX0_get) := goodIn_app (goodIn_of _ (by decide +kernel)) ggX6_failedShare_X0_get
theorem dX6_failedShare_0 : decode cX6_failedShare 0 = .ok (.aload_n 0, 1) := by decide +kernel
theorem dX6_failedShare_1 : decode cX6_failedShare 1 = .ok (.getfield 20, 3) := by decide +kernel
theorem dX6_failedShare_4 : decode cX6_failedShare 4 = .ok (.bipush 12, 2) := by decide +kernel
theorem dX6_failedShare_6 : decode cX6_failedShare 6 = .ok (.invokevirtual 116, 3) := by decide +kernel
theorem dX6_failedShare_9 : decode cX6_failedShare 9 = .ok (.istore_n 1, 1) := by decide +kernel
theorem dX6_failedShare_10 : decode cX6_failedShare 10 = .ok (.iload_n 1, 1) := by decide +kernel
theorem dX6_failedShare_11 : decode cX6_failedShare 11 = .ok (.ifCond .ne 13, 3) := by decide +kernel
theorem dX6_failedShare_14 : decode cX6_failedShare 14 = .ok (.new 215, 3) := by decide +kernel
theorem dX6_failedShare_17 : decode cX6_failedShare 17 = .ok (.dup, 1) := by decide +kernel
theorem dX6_failedShare_18 : decode cX6_failedShare 18 = .ok (.ldc 220, 2) := by decide +kernel
theorem dX6_failedShare_20 : decode cX6_failedShare 20 = .ok (.invokespecial 219, 3) := by decide +kernel
theorem dX6_failedShare_23 : decode cX6_failedShare 23 = .ok (.athrow, 1) := by decide +kernel
theorem dX6_failedShare_24 : decode cX6_failedShare 24 = .ok (.aload_n 0, 1) := by decide +kernel
theorem dX6_failedShare_25 : decode cX6_failedShare 25 = .ok (.getfield 20, 3) := by decide +kernel
theorem dX6_failedShare_28 : decode cX6_failedShare 28 = .ok (.bipush 13, 2) := by decide +kernel
theorem dX6_failedShare_30 : decode cX6_failedShare 30 = .ok (.invokevirtual 116, 3) := by decide +kernel
theorem dX6_failedShare_33 : decode cX6_failedShare 33 = .ok (.i2f, 1) := by decide +kernel
theorem dX6_failedShare_34 : decode cX6_failedShare 34 = .ok (.iload_n 1, 1) := by decide +kernel
theorem dX6_failedShare_35 : decode cX6_failedShare 35 = .ok (.i2f, 1) := by decide +kernel
theorem dX6_failedShare_36 : decode cX6_failedShare 36 = .ok (.fdiv, 1) := by decide +kernel
theorem dX6_failedShare_37 : decode cX6_failedShare 37 = .ok (.freturn, 1) := by decide +kernel
set_option maxRecDepth 20000 in
theorem ggX6_feed_X4_length : GoodIn wsX6_feed wsX4_length := goodIn_r _ [8, 9, 29, 30, 31, 32, 33, 34, 35, 36, 37] (by decide +kernel) (by decide +kernel)
set_option maxRecDepth 20000 in
theorem gX6_feed_X4_length : GoodIn wsX6_feed (wsV RX6 214 RX4 yX4_length wsX4_length) := goodIn_app (goodIn_of _ (by decide +kernel)) ggX6_feed_X4_length
set_option maxRecDepth 20000 in
theorem ggX6_feed_X4_append : GoodIn wsX6_feed wsX4_append := goodIn_ca (goodIn_r _ [13, 9, 14, 15, 16, 17, 29, 30, 31, 32, 33, 34, 35, 36, 37] (by decide +kernel) (by decide +kernel)) (goodIn_sub (fun _ h => List.mem_cons_of_mem _ (List.mem_append_right _ h)) (by decide +kernel))
set_option maxRecDepth 20000 in
theorem gX6_feed_X4_append : GoodIn wsX6_feed (wsV RX6 227 RX4 yX4_append wsX4_append) := goodIn_app (goodIn_of _ (by decide +kernel)) ggX6_feed_X4_append
theorem dX6_feed_0 : decode cX6_feed 0 = .ok (.aload_n 0, 1) := by decide +kernel
theorem dX6_feed_1 : decode cX6_feed 1 = .ok (.getfield 54, 3) := by decide +kernel
theorem dX6_feed_4 : decode cX6_feed 4 = .ok (.invokevirtual 214, 3) := by decide +kernel
theorem dX6_feed_7 : decode cX6_feed 7 = .ok (.bipush 60, 2) := by decide +kernel
theorem dX6_feed_9 : decode cX6_feed 9 = .ok (.if_icmp .lt 13, 3) := by decide +kernel
theorem dX6_feed_12 : decode cX6_feed 12 = .ok (.new 222, 3) := by decide +kernel
theorem dX6_feed_15 : decode cX6_feed 15 = .ok (.dup, 1) := by decide +kernel
theorem dX6_feed_16 : decode cX6_feed 16 = .ok (.ldc 224, 2) := by decide +kernel
theorem dX6_feed_18 : decode cX6_feed 18 = .ok (.invokespecial 226, 3) := by decide +kernel
theorem dX6_feed_21 : decode cX6_feed 21 = .ok (.athrow, 1) := by decide +kernel
theorem dX6_feed_22 : decode cX6_feed 22 = .ok (.aload_n 0, 1) := by decide +kernel
theorem dX6_feed_23 : decode cX6_feed 23 = .ok (.getfield 54, 3) := by decide +kernel
theorem dX6_feed_26 : decode cX6_feed 26 = .ok (.iload_n 1, 1) := by decide +kernel
theorem dX6_feed_27 : decode cX6_feed 27 = .ok (.invokevirtual 227, 3) := by decide +kernel
theorem dX6_feed_30 : decode cX6_feed 30 = .ok (.aload_n 0, 1) := by decide +kernel
theorem dX6_feed_31 : decode cX6_feed 31 = .ok (.getfield 54, 3) := by decide +kernel
theorem dX6_feed_34 : decode cX6_feed 34 = .ok (.invokevirtual 214, 3) := by decide +kernel
theorem dX6_feed_37 : decode cX6_feed 37 = .ok (.ireturn, 1) := by decide +kernel
set_option maxRecDepth 20000 in
theorem ggX6_read_X4_findFault : GoodIn wsX6_read wsX4_findFault := goodIn_ca (goodIn_r _ [14, 15, 16, 17, 18, 19, 13, 20, 21, 22, 23, 24, 25, 26, 27, 28, 29, 30, 31, 32, 33, 34, 35, 36, 37, 38, 39, 40, 41, 42, 43, 44, 45, 46, 47, 48, 49, 50, 51, 52, 53, 54, 55, 56, 57, 58, 59, 60, 61, 62, 63, 64, 65, 66, 67, 68, 69, 70, 71, 72, 73, 74, 75, 76, 77, 78, 79, 80, 81, 82, 83, 84, 85, 86, 87, 88, 89, 90, 91, 92, 93, 94, 95, 96, 97, 98, 99, 100, 101, 102, 103, 104, 105, 106, 107, 108, 109, 110, 111, 112, 113, 114, 115, 116, 117, 118, 119, 120, 121, 122, 349, 350, 351, 352, 353, 354, 355, 356, 357, 358, 359, 360, 361] (by decide +kernel) (by decide +kernel)) (goodIn_sub (fun _ h => List.mem_cons_of_mem _ (List.mem_append_right _ h)) (by decide +kernel))
set_option maxRecDepth 20000 in
theorem gX6_read_X4_findFault : GoodIn wsX6_read (wsV RX6 231 RX4 yX4_findFault wsX4_findFault) := goodIn_app (goodIn_of _ (by decide +kernel)) ggX6_read_X4_findFault
set_option maxRecDepth 20000 in
theorem ggX6_read_X4_clear : GoodIn wsX6_read wsX4_clear := goodIn_r _ [126, 16, 349, 350, 351, 352, 353, 354, 355, 356, 357] (by decide +kernel) (by decide +kernel)
set_option maxRecDepth 20000 in
theorem gX6_read_X4_clear : GoodIn wsX6_read (wsV RX6 234 RX4 yX4_clear wsX4_clear) := goodIn_app (goodIn_of _ (by decide +kernel)) ggX6_read_X4_clear
set_option maxRecDepth 20000 in
theorem ggX6_read_X0_take : GoodIn wsX6_read wsX0_take := goodIn_r _ [131, 132, 133, 134, 135, 136, 362] (by decide +kernel) (by decide +kernel)
set_option maxRecDepth 20000 in
theorem gX6_read_X0_take : GoodIn wsX6_read (wsV RX6 169 RX0 yX0_take wsX0_take) := goodIn_app (goodIn_of _ (by decide +kernel)) ggX6_read_X0_take
set_option maxRecDepth 20000 in
theorem ggX6_read_X4_rewind : GoodIn wsX6_read wsX4_rewind := goodIn_r _ [20, 15, 349, 350, 351, 352, 353, 354, 355, 356, 357] (by decide +kernel) (by decide +kernel)
set_option maxRecDepth 20000 in
theorem gX6_read_X4_rewind : GoodIn wsX6_read (wsV RX6 242 RX4 yX4_rewind wsX4_rewind) := goodIn_app (goodIn_of _ (by decide +kernel)) ggX6_read_X4_rewind
set_option maxRecDepth 20000 in
theorem ggX6_read_X4_readCommand : GoodIn wsX6_read wsX4_readCommand := goodIn_ca (goodIn_r _ [24, 25, 26, 27, 28, 29, 30, 13, 31, 15, 32, 33, 34, 35, 36, 37, 38, 39, 40, 41, 42, 43, 44, 45, 46, 47, 48, 49, 50, 51, 52, 53, 54, 55, 56, 57, 58, 16, 59, 60, 61, 62, 63, 64, 65, 66, 67, 68, 69, 70, 71, 72, 73, 74, 75, 76, 77, 78, 79, 80, 81, 82, 83, 84, 85, 86, 87, 88, 89, 90, 91, 92, 93, 94, 95, 96, 97, 98, 99, 100, 101, 102, 103, 104, 105, 106, 107, 108, 109, 110, 111, 112, 113, 114, 115, 116, 117, 118, 119, 120, 121, 122, 349, 350, 351, 352, 353, 354, 355, 356, 357, 358, 359, 360, 361] (by decide +kernel) (by decide +kernel)) (goodIn_sub (fun _ h => List.mem_cons_of_mem _ (List.mem_append_right _ h)) (by decide +kernel))
set_option maxRecDepth 20000 in
theorem gX6_read_X4_readCommand : GoodIn wsX6_read (wsV RX6 245 RX4 yX4_readCommand wsX4_readCommand) := goodIn_app (goodIn_of _ (by decide +kernel)) ggX6_read_X4_readCommand
set_option maxRecDepth 20000 in
theorem ggX6_read_X6_isCommandRefused : GoodIn wsX6_read wsX6_isCommandRefused := goodIn_ca (goodIn_r _ [142, 143, 144, 145, 146, 37, 147, 5, 8, 148, 149, 150, 13, 151, 25, 152, 153, 154, 155, 27, 156, 157, 158, 159, 160, 161, 162, 163, 164, 165, 130, 166, 132, 167, 168, 169, 170, 171, 172, 173, 174, 175, 176, 177, 178, 179, 180, 181, 182, 183, 184, 185, 186, 187, 188, 189, 190, 191, 192, 193, 194, 195, 196, 197, 198, 199, 200, 201, 202, 203, 204, 205, 116, 206, 207, 208, 209, 117, 210, 211, 212, 213, 122, 214, 215, 216, 217, 218, 219, 220, 221, 222, 223, 224, 225, 226, 227, 338, 339, 340, 341, 342, 343, 344, 345, 346, 347, 348, 349, 350, 351, 352, 353, 354, 355, 356, 357, 362, 363, 364] (by decide +kernel) (by decide +kernel)) (goodIn_sub (fun _ h => List.mem_cons_of_mem _ (List.mem_append_right _ h)) (by decide +kernel))
set_option maxRecDepth 20000 in
theorem gX6_read_X6_isCommandRefused : GoodIn wsX6_read (wsV RX6 249 RX6 yX6_isCommandRefused wsX6_isCommandRefused) := goodIn_app (goodIn_of _ (by decide +kernel)) ggX6_read_X6_isCommandRefused
set_option maxRecDepth 20000 in
theorem ggX6_read_X6_carryOutCommand : GoodIn wsX6_read wsX6_carryOutCommand := goodIn_ca (goodIn_r _ [231, 5, 232, 148, 149, 150, 13, 151, 25, 152, 153, 154, 155, 27, 233, 234, 235, 236, 237, 238, 239, 164, 165, 130, 166, 132, 182, 37, 183, 240, 241, 242, 243, 244, 245, 246, 247, 248, 249, 250, 251, 252, 253, 254, 255, 256, 257, 258, 259, 260, 261, 262, 263, 264, 265, 266, 267, 192, 193, 268, 269, 270, 271, 272, 273, 274, 275, 276, 277, 278, 279, 280, 281, 282, 283, 284, 285, 286, 287, 225, 226, 288, 289, 290, 291, 292, 293, 294, 295, 296, 297, 298, 299, 300, 301, 302, 303, 304, 305, 306, 307, 308, 309, 310, 311, 312, 313, 314, 315, 316, 33, 34, 35, 317, 318, 319, 320, 198, 199, 200, 201, 202, 203, 204, 205, 116, 206, 207, 208, 209, 117, 210, 211, 212, 213, 122, 321, 322, 323, 324, 338, 339, 340, 341, 342, 343, 344, 345, 346, 347, 348, 349, 350, 351, 352, 353, 354, 355, 356, 357, 365, 362] (by decide +kernel) (by decide +kernel)) (goodIn_sub (fun _ h => List.mem_cons_of_mem _ (List.mem_append_right _ h)) (by decide +kernel))
set_option maxRecDepth 20000 in
theorem gX6_read_X6_carryOutCommand : GoodIn wsX6_read (wsV RX6 257 RX6 yX6_carryOutCommand wsX6_carryOutCommand) := goodIn_app (goodIn_of _ (by decide +kernel)) ggX6_read_X6_carryOutCommand
set_option maxRecDepth 20000 in
theorem ggX6_read_X4_readSign : GoodIn wsX6_read wsX4_readSign := goodIn_ca (goodIn_r _ [111, 15, 55, 56, 57, 13, 58, 16, 59, 349, 350, 351, 352, 353, 354, 355, 356, 357] (by decide +kernel) (by decide +kernel)) (goodIn_sub (fun _ h => List.mem_cons_of_mem _ (List.mem_append_right _ h)) (by decide +kernel))
set_option maxRecDepth 20000 in
theorem gX6_read_X4_readSign : GoodIn wsX6_read (wsV RX6 260 RX4 yX4_readSign wsX4_readSign) := goodIn_app (goodIn_of _ (by decide +kernel)) ggX6_read_X4_readSign
set_option maxRecDepth 20000 in
theorem ggX6_read_X1_keep : GoodIn wsX6_read wsX1_keep := goodIn_r _ [330, 331, 332, 333, 334, 335, 34, 336, 180, 37, 181, 337, 128, 129, 130, 131, 132, 133, 134, 135, 136, 366, 367, 368, 362] (by decide +kernel) (by decide +kernel)
set_option maxRecDepth 20000 in
theorem gX6_read_X1_keep : GoodIn wsX6_read (wsV RX6 77 RX1 yX1_keep wsX1_keep) := goodIn_app (goodIn_of _ (by decide +kernel)) ggX6_read_X1_keep
theorem dX6_read_0 : decode cX6_read 0 = .ok (.aload_n 0, 1) := by decide +kernel
theorem dX6_read_1 : decode cX6_read 1 = .ok (.getfield 54, 3) := by decide +kernel
theorem dX6_read_4 : decode cX6_read 4 = .ok (.invokevirtual 231, 3) := by decide +kernel
theorem dX6_read_7 : decode cX6_read 7 = .ok (.istore_n 1, 1) := by decide +kernel
theorem dX6_read_8 : decode cX6_read 8 = .ok (.iload_n 1, 1) := by decide +kernel
theorem dX6_read_9 : decode cX6_read 9 = .ok (.iconst (-1), 1) := by decide +kernel
theorem dX6_read_10 : decode cX6_read 10 = .ok (.if_icmp .eq 25, 3) := by decide +kernel
theorem dX6_read_13 : decode cX6_read 13 = .ok (.aload_n 0, 1) := by decide +kernel
theorem dX6_read_14 : decode cX6_read 14 = .ok (.iload_n 1, 1) := by decide +kernel
theorem dX6_read_15 : decode cX6_read 15 = .ok (.putfield 65, 3) := by decide +kernel
theorem dX6_read_18 : decode cX6_read 18 = .ok (.aload_n 0, 1) := by decide +kernel
theorem dX6_read_19 : decode cX6_read 19 = .ok (.getfield 54, 3) := by decide +kernel
theorem dX6_read_22 : decode cX6_read 22 = .ok (.invokevirtual 234, 3) := by decide +kernel
theorem dX6_read_25 : decode cX6_read 25 = .ok (.new 237, 3) := by decide +kernel
theorem dX6_read_28 : decode cX6_read 28 = .ok (.dup, 1) := by decide +kernel
theorem dX6_read_29 : decode cX6_read 29 = .ok (.ldc 239, 2) := by decide +kernel
theorem dX6_read_31 : decode cX6_read 31 = .ok (.invokespecial 241, 3) := by decide +kernel
theorem dX6_read_34 : decode cX6_read 34 = .ok (.athrow, 1) := by decide +kernel
theorem dX6_read_35 : decode cX6_read 35 = .ok (.aload_n 0, 1) := by decide +kernel
theorem dX6_read_36 : decode cX6_read 36 = .ok (.getfield 41, 3) := by decide +kernel
theorem dX6_read_39 : decode cX6_read 39 = .ok (.aload_n 0, 1) := by decide +kernel
theorem dX6_read_40 : decode cX6_read 40 = .ok (.getfield 20, 3) := by decide +kernel
theorem dX6_read_43 : decode cX6_read 43 = .ok (.invokevirtual 169, 3) := by decide +kernel
theorem dX6_read_46 : decode cX6_read 46 = .ok (.aload_n 0, 1) := by decide +kernel
theorem dX6_read_47 : decode cX6_read 47 = .ok (.getfield 54, 3) := by decide +kernel
theorem dX6_read_50 : decode cX6_read 50 = .ok (.invokevirtual 242, 3) := by decide +kernel
theorem dX6_read_53 : decode cX6_read 53 = .ok (.iconst 0, 1) := by decide +kernel
theorem dX6_read_54 : decode cX6_read 54 = .ok (.istore_n 2, 1) := by decide +kernel
theorem dX6_read_55 : decode cX6_read 55 = .ok (.aload_n 0, 1) := by decide +kernel
theorem dX6_read_56 : decode cX6_read 56 = .ok (.getfield 54, 3) := by decide +kernel
theorem dX6_read_59 : decode cX6_read 59 = .ok (.invokevirtual 245, 3) := by decide +kernel
theorem dX6_read_62 : decode cX6_read 62 = .ok (.pop, 1) := by decide +kernel
theorem dX6_read_63 : decode cX6_read 63 = .ok (.aload_n 0, 1) := by decide +kernel
theorem dX6_read_64 : decode cX6_read 64 = .ok (.iload_n 2, 1) := by decide +kernel
theorem dX6_read_65 : decode cX6_read 65 = .ok (.invokevirtual 249, 3) := by decide +kernel
theorem dX6_read_68 : decode cX6_read 68 = .ok (.ifCond .eq 31, 3) := by decide +kernel
theorem dX6_read_71 : decode cX6_read 71 = .ok (.aload_n 0, 1) := by decide +kernel
theorem dX6_read_72 : decode cX6_read 72 = .ok (.getfield 20, 3) := by decide +kernel
theorem dX6_read_75 : decode cX6_read 75 = .ok (.aload_n 0, 1) := by decide +kernel
theorem dX6_read_76 : decode cX6_read 76 = .ok (.getfield 41, 3) := by decide +kernel
theorem dX6_read_79 : decode cX6_read 79 = .ok (.invokevirtual 169, 3) := by decide +kernel
theorem dX6_read_82 : decode cX6_read 82 = .ok (.aload_n 0, 1) := by decide +kernel
theorem dX6_read_83 : decode cX6_read 83 = .ok (.getfield 54, 3) := by decide +kernel
theorem dX6_read_86 : decode cX6_read 86 = .ok (.invokevirtual 234, 3) := by decide +kernel
theorem dX6_read_89 : decode cX6_read 89 = .ok (.new 252, 3) := by decide +kernel
theorem dX6_read_92 : decode cX6_read 92 = .ok (.dup, 1) := by decide +kernel
theorem dX6_read_93 : decode cX6_read 93 = .ok (.ldc 254, 2) := by decide +kernel
theorem dX6_read_95 : decode cX6_read 95 = .ok (.invokespecial 256, 3) := by decide +kernel
theorem dX6_read_98 : decode cX6_read 98 = .ok (.athrow, 1) := by decide +kernel
theorem dX6_read_99 : decode cX6_read 99 = .ok (.aload_n 0, 1) := by decide +kernel
theorem dX6_read_100 : decode cX6_read 100 = .ok (.invokevirtual 257, 3) := by decide +kernel
theorem dX6_read_103 : decode cX6_read 103 = .ok (.iinc 2 1, 3) := by decide +kernel
theorem dX6_read_106 : decode cX6_read 106 = .ok (.iload_n 2, 1) := by decide +kernel
theorem dX6_read_107 : decode cX6_read 107 = .ok (.bipush 60, 2) := by decide +kernel
theorem dX6_read_109 : decode cX6_read 109 = .ok (.if_icmp .ge 15, 3) := by decide +kernel
theorem dX6_read_112 : decode cX6_read 112 = .ok (.aload_n 0, 1) := by decide +kernel
theorem dX6_read_113 : decode cX6_read 113 = .ok (.getfield 54, 3) := by decide +kernel
theorem dX6_read_116 : decode cX6_read 116 = .ok (.bipush 59, 2) := by decide +kernel
theorem dX6_read_118 : decode cX6_read 118 = .ok (.invokevirtual 260, 3) := by decide +kernel
theorem dX6_read_121 : decode cX6_read 121 = .ok (.ifCond .ne (-66), 3) := by decide +kernel
theorem dX6_read_124 : decode cX6_read 124 = .ok (.aload_n 0, 1) := by decide +kernel
theorem dX6_read_125 : decode cX6_read 125 = .ok (.getfield 54, 3) := by decide +kernel
theorem dX6_read_128 : decode cX6_read 128 = .ok (.invokevirtual 234, 3) := by decide +kernel
theorem dX6_read_131 : decode cX6_read 131 = .ok (.aload_n 0, 1) := by decide +kernel
theorem dX6_read_132 : decode cX6_read 132 = .ok (.getfield 34, 3) := by decide +kernel
theorem dX6_read_135 : decode cX6_read 135 = .ok (.aload_n 0, 1) := by decide +kernel
theorem dX6_read_136 : decode cX6_read 136 = .ok (.getfield 41, 3) := by decide +kernel
theorem dX6_read_139 : decode cX6_read 139 = .ok (.invokevirtual 77, 3) := by decide +kernel
theorem dX6_read_142 : decode cX6_read 142 = .ok (.iload_n 2, 1) := by decide +kernel
theorem dX6_read_143 : decode cX6_read 143 = .ok (.ireturn, 1) := by decide +kernel
theorem dX6_faultPosition_0 : decode cX6_faultPosition 0 = .ok (.aload_n 0, 1) := by decide +kernel
theorem dX6_faultPosition_1 : decode cX6_faultPosition 1 = .ok (.getfield 65, 3) := by decide +kernel
theorem dX6_faultPosition_4 : decode cX6_faultPosition 4 = .ok (.iconst (-1), 1) := by decide +kernel
theorem dX6_faultPosition_5 : decode cX6_faultPosition 5 = .ok (.if_icmp .ne 14, 3) := by decide +kernel
theorem dX6_faultPosition_8 : decode cX6_faultPosition 8 = .ok (.new 157, 3) := by decide +kernel
theorem dX6_faultPosition_11 : decode cX6_faultPosition 11 = .ok (.dup, 1) := by decide +kernel
theorem dX6_faultPosition_12 : decode cX6_faultPosition 12 = .ok (.ldc_w 264, 3) := by decide +kernel
theorem dX6_faultPosition_15 : decode cX6_faultPosition 15 = .ok (.invokespecial 161, 3) := by decide +kernel
theorem dX6_faultPosition_18 : decode cX6_faultPosition 18 = .ok (.athrow, 1) := by decide +kernel
theorem dX6_faultPosition_19 : decode cX6_faultPosition 19 = .ok (.aload_n 0, 1) := by decide +kernel
theorem dX6_faultPosition_20 : decode cX6_faultPosition 20 = .ok (.getfield 65, 3) := by decide +kernel
theorem dX6_faultPosition_23 : decode cX6_faultPosition 23 = .ok (.ireturn, 1) := by decide +kernel
set_option maxRecDepth 20000 in
theorem ggX6_refusal_X2_reason : GoodIn wsX6_refusal wsX2_reason := goodIn_r _ [8, 9, 26, 27] (by decide +kernel) (by decide +kernel)
set_option maxRecDepth 20000 in
theorem gX6_refusal_X2_reason : GoodIn wsX6_refusal (wsV RX6 266 RX2 yX2_reason wsX2_reason) := goodIn_app (goodIn_of _ (by decide +kernel)) ggX6_refusal_X2_reason
set_option maxRecDepth 20000 in
theorem ggX6_refusal_X2_detail : GoodIn wsX6_refusal wsX2_detail := goodIn_r _ [13, 14, 26, 27] (by decide +kernel) (by decide +kernel)
set_option maxRecDepth 20000 in
theorem gX6_refusal_X2_detail : GoodIn wsX6_refusal (wsV RX6 271 RX2 yX2_detail wsX2_detail) := goodIn_app (goodIn_of _ (by decide +kernel)) ggX6_refusal_X2_detail
theorem dX6_refusal_0 : decode cX6_refusal 0 = .ok (.aload_n 0, 1) := by decide +kernel
theorem dX6_refusal_1 : decode cX6_refusal 1 = .ok (.getfield 27, 3) := by decide +kernel
theorem dX6_refusal_4 : decode cX6_refusal 4 = .ok (.invokevirtual 266, 3) := by decide +kernel
theorem dX6_refusal_7 : decode cX6_refusal 7 = .ok (.ifCond .ne 14, 3) := by decide +kernel
theorem dX6_refusal_10 : decode cX6_refusal 10 = .ok (.new 157, 3) := by decide +kernel
theorem dX6_refusal_13 : decode cX6_refusal 13 = .ok (.dup, 1) := by decide +kernel
theorem dX6_refusal_14 : decode cX6_refusal 14 = .ok (.ldc_w 269, 3) := by decide +kernel
theorem dX6_refusal_17 : decode cX6_refusal 17 = .ok (.invokespecial 161, 3) := by decide +kernel
theorem dX6_refusal_20 : decode cX6_refusal 20 = .ok (.athrow, 1) := by decide +kernel
theorem dX6_refusal_21 : decode cX6_refusal 21 = .ok (.iload_n 1, 1) := by decide +kernel
theorem dX6_refusal_22 : decode cX6_refusal 22 = .ok (.ifCond .eq 13, 3) := by decide +kernel
theorem dX6_refusal_25 : decode cX6_refusal 25 = .ok (.aload_n 0, 1) := by decide +kernel
theorem dX6_refusal_26 : decode cX6_refusal 26 = .ok (.getfield 27, 3) := by decide +kernel
theorem dX6_refusal_29 : decode cX6_refusal 29 = .ok (.invokevirtual 266, 3) := by decide +kernel
theorem dX6_refusal_32 : decode cX6_refusal 32 = .ok (.goto 10, 3) := by decide +kernel
theorem dX6_refusal_35 : decode cX6_refusal 35 = .ok (.aload_n 0, 1) := by decide +kernel
theorem dX6_refusal_36 : decode cX6_refusal 36 = .ok (.getfield 27, 3) := by decide +kernel
theorem dX6_refusal_39 : decode cX6_refusal 39 = .ok (.invokevirtual 271, 3) := by decide +kernel
theorem dX6_refusal_42 : decode cX6_refusal 42 = .ok (.ireturn, 1) := by decide +kernel
set_option maxRecDepth 20000 in
theorem ggX6_undo_X1_count : GoodIn wsX6_undo wsX1_count := goodIn_r _ [9, 10, 45, 46, 47] (by decide +kernel) (by decide +kernel)
set_option maxRecDepth 20000 in
theorem gX6_undo_X1_count : GoodIn wsX6_undo (wsV RX6 211 RX1 yX1_count wsX1_count) := goodIn_app (goodIn_of _ (by decide +kernel)) ggX6_undo_X1_count
set_option maxRecDepth 20000 in
theorem ggX6_undo_X1_takeBack : GoodIn wsX6_undo wsX1_takeBack := goodIn_r _ [14, 15, 10, 16, 17, 18, 19, 20, 21, 22, 23, 24, 25, 26, 27, 28, 29, 30, 31, 32, 33, 45, 46, 47, 48] (by decide +kernel) (by decide +kernel)
set_option maxRecDepth 20000 in
theorem gX6_undo_X1_takeBack : GoodIn wsX6_undo (wsV RX6 276 RX1 yX1_takeBack wsX1_takeBack) := goodIn_app (goodIn_of _ (by decide +kernel)) ggX6_undo_X1_takeBack
theorem dX6_undo_0 : decode cX6_undo 0 = .ok (.aload_n 0, 1) := by decide +kernel
theorem dX6_undo_1 : decode cX6_undo 1 = .ok (.getfield 34, 3) := by decide +kernel
theorem dX6_undo_4 : decode cX6_undo 4 = .ok (.invokevirtual 211, 3) := by decide +kernel
theorem dX6_undo_7 : decode cX6_undo 7 = .ok (.ifCond .ne 14, 3) := by decide +kernel
theorem dX6_undo_10 : decode cX6_undo 10 = .ok (.new 222, 3) := by decide +kernel
theorem dX6_undo_13 : decode cX6_undo 13 = .ok (.dup, 1) := by decide +kernel
theorem dX6_undo_14 : decode cX6_undo 14 = .ok (.ldc_w 274, 3) := by decide +kernel
theorem dX6_undo_17 : decode cX6_undo 17 = .ok (.invokespecial 226, 3) := by decide +kernel
theorem dX6_undo_20 : decode cX6_undo 20 = .ok (.athrow, 1) := by decide +kernel
theorem dX6_undo_21 : decode cX6_undo 21 = .ok (.aload_n 0, 1) := by decide +kernel
theorem dX6_undo_22 : decode cX6_undo 22 = .ok (.getfield 34, 3) := by decide +kernel
theorem dX6_undo_25 : decode cX6_undo 25 = .ok (.aload_n 0, 1) := by decide +kernel
theorem dX6_undo_26 : decode cX6_undo 26 = .ok (.getfield 20, 3) := by decide +kernel
theorem dX6_undo_29 : decode cX6_undo 29 = .ok (.invokevirtual 276, 3) := by decide +kernel
theorem dX6_undo_32 : decode cX6_undo 32 = .ok (.aload_n 0, 1) := by decide +kernel
theorem dX6_undo_33 : decode cX6_undo 33 = .ok (.getfield 34, 3) := by decide +kernel
theorem dX6_undo_36 : decode cX6_undo 36 = .ok (.invokevirtual 211, 3) := by decide +kernel
theorem dX6_undo_39 : decode cX6_undo 39 = .ok (.ireturn, 1) := by decide +kernel
set_option maxRecDepth 20000 in
theorem ggX6_saveSnapshot_X0_take : GoodIn wsX6_saveSnapshot wsX0_take := goodIn_r _ [8, 9, 10, 11, 12, 13, 29] (by decide +kernel) (by decide +kernel)
set_option maxRecDepth 20000 in
theorem gX6_saveSnapshot_X0_take : GoodIn wsX6_saveSnapshot (wsV RX6 169 RX0 yX0_take wsX0_take) := goodIn_app (goodIn_of _ (by decide +kernel)) ggX6_saveSnapshot_X0_take
set_option maxRecDepth 20000 in
theorem ggX6_saveSnapshot_X0_get : GoodIn wsX6_saveSnapshot wsX0_get := goodIn_ca (goodIn_r _ [17, 9, 29] (by decide +kernel) (by decide +kernel)) (goodIn_sub (fun _ h => List.mem_cons_of_mem _ (List.mem_append_right _ h)) (by decide +kernel))
set_option maxRecDepth 20000 in
theorem gX6_saveSnapshot_X0_get : GoodIn wsX6_saveSnapshot (wsV RX6 116 RX0 yX0_get wsX0_get) := goodIn_app (goodIn_of _ (by decide +kernel)) ggX6_saveSnapshot_X0_get
theorem dX6_saveSnapshot_0 : decode cX6_saveSnapshot 0 = .ok (.aload_n 0, 1) := by decide +kernel
theorem dX6_saveSnapshot_1 : decode cX6_saveSnapshot 1 = .ok (.getfield 44, 3) := by decide +kernel
theorem dX6_saveSnapshot_4 : decode cX6_saveSnapshot 4 = .ok (.aload_n 0, 1) := by decide +kernel
theorem dX6_saveSnapshot_5 : decode cX6_saveSnapshot 5 = .ok (.getfield 20, 3) := by decide +kernel
theorem dX6_saveSnapshot_8 : decode cX6_saveSnapshot 8 = .ok (.invokevirtual 169, 3) := by decide +kernel
theorem dX6_saveSnapshot_11 : decode cX6_saveSnapshot 11 = .ok (.aload_n 0, 1) := by decide +kernel
theorem dX6_saveSnapshot_12 : decode cX6_saveSnapshot 12 = .ok (.iconst 1, 1) := by decide +kernel
theorem dX6_saveSnapshot_13 : decode cX6_saveSnapshot 13 = .ok (.putfield 47, 3) := by decide +kernel
theorem dX6_saveSnapshot_16 : decode cX6_saveSnapshot 16 = .ok (.aload_n 0, 1) := by decide +kernel
theorem dX6_saveSnapshot_17 : decode cX6_saveSnapshot 17 = .ok (.getfield 20, 3) := by decide +kernel
theorem dX6_saveSnapshot_20 : decode cX6_saveSnapshot 20 = .ok (.iconst 1, 1) := by decide +kernel
theorem dX6_saveSnapshot_21 : decode cX6_saveSnapshot 21 = .ok (.invokevirtual 116, 3) := by decide +kernel
theorem dX6_saveSnapshot_24 : decode cX6_saveSnapshot 24 = .ok (.ireturn, 1) := by decide +kernel
set_option maxRecDepth 20000 in
theorem ggX6_restoreSnapshot_X0_take : GoodIn wsX6_restoreSnapshot wsX0_take := goodIn_r _ [11, 12, 13, 14, 15, 16, 38] (by decide +kernel) (by decide +kernel)
set_option maxRecDepth 20000 in
theorem gX6_restoreSnapshot_X0_take : GoodIn wsX6_restoreSnapshot (wsV RX6 169 RX0 yX0_take wsX0_take) := goodIn_app (goodIn_of _ (by decide +kernel)) ggX6_restoreSnapshot_X0_take
set_option maxRecDepth 20000 in
theorem ggX6_restoreSnapshot_X1_forget : GoodIn wsX6_restoreSnapshot wsX1_forget := goodIn_r _ [21, 22, 39, 40, 41] (by decide +kernel) (by decide +kernel)
set_option maxRecDepth 20000 in
theorem gX6_restoreSnapshot_X1_forget : GoodIn wsX6_restoreSnapshot (wsV RX6 281 RX1 yX1_forget wsX1_forget) := goodIn_app (goodIn_of _ (by decide +kernel)) ggX6_restoreSnapshot_X1_forget
set_option maxRecDepth 20000 in
theorem ggX6_restoreSnapshot_X0_get : GoodIn wsX6_restoreSnapshot wsX0_get := goodIn_ca (goodIn_r _ [26, 12, 38] (by decide +kernel) (by decide +kernel)) (goodIn_sub (fun _ h => List.mem_cons_of_mem _ (List.mem_append_right _ h)) (by decide +kernel))
set_option maxRecDepth 20000 in
theorem gX6_restoreSnapshot_X0_get : GoodIn wsX6_restoreSnapshot (wsV RX6 116 RX0 yX0_get wsX0_get) := goodIn_app (goodIn_of _ (by decide +kernel)) ggX6_restoreSnapshot_X0_get
theorem dX6_restoreSnapshot_0 : decode cX6_restoreSnapshot 0 = .ok (.aload_n 0, 1) := by decide +kernel
theorem dX6_restoreSnapshot_1 : decode cX6_restoreSnapshot 1 = .ok (.getfield 47, 3) := by decide +kernel
theorem dX6_restoreSnapshot_4 : decode cX6_restoreSnapshot 4 = .ok (.ifCond .ne 14, 3) := by decide +kernel
theorem dX6_restoreSnapshot_7 : decode cX6_restoreSnapshot 7 = .ok (.new 222, 3) := by decide +kernel
theorem dX6_restoreSnapshot_10 : decode cX6_restoreSnapshot 10 = .ok (.dup, 1) := by decide +kernel
theorem dX6_restoreSnapshot_11 : decode cX6_restoreSnapshot 11 = .ok (.ldc_w 279, 3) := by decide +kernel
theorem dX6_restoreSnapshot_14 : decode cX6_restoreSnapshot 14 = .ok (.invokespecial 226, 3) := by decide +kernel
theorem dX6_restoreSnapshot_17 : decode cX6_restoreSnapshot 17 = .ok (.athrow, 1) := by decide +kernel
theorem dX6_restoreSnapshot_18 : decode cX6_restoreSnapshot 18 = .ok (.aload_n 0, 1) := by decide +kernel
theorem dX6_restoreSnapshot_19 : decode cX6_restoreSnapshot 19 = .ok (.getfield 20, 3) := by decide +kernel
theorem dX6_restoreSnapshot_22 : decode cX6_restoreSnapshot 22 = .ok (.aload_n 0, 1) := by decide +kernel
theorem dX6_restoreSnapshot_23 : decode cX6_restoreSnapshot 23 = .ok (.getfield 44, 3) := by decide +kernel
theorem dX6_restoreSnapshot_26 : decode cX6_restoreSnapshot 26 = .ok (.invokevirtual 169, 3) := by decide +kernel
theorem dX6_restoreSnapshot_29 : decode cX6_restoreSnapshot 29 = .ok (.aload_n 0, 1) := by decide +kernel
theorem dX6_restoreSnapshot_30 : decode cX6_restoreSnapshot 30 = .ok (.getfield 34, 3) := by decide +kernel
theorem dX6_restoreSnapshot_33 : decode cX6_restoreSnapshot 33 = .ok (.invokevirtual 281, 3) := by decide +kernel
theorem dX6_restoreSnapshot_36 : decode cX6_restoreSnapshot 36 = .ok (.aload_n 0, 1) := by decide +kernel
theorem dX6_restoreSnapshot_37 : decode cX6_restoreSnapshot 37 = .ok (.getfield 20, 3) := by decide +kernel
theorem dX6_restoreSnapshot_40 : decode cX6_restoreSnapshot 40 = .ok (.iconst 1, 1) := by decide +kernel
theorem dX6_restoreSnapshot_41 : decode cX6_restoreSnapshot 41 = .ok (.invokevirtual 116, 3) := by decide +kernel
theorem dX6_restoreSnapshot_44 : decode cX6_restoreSnapshot 44 = .ok (.ireturn, 1) := by decide +kernel
theorem dX6_isBelow_0 : decode cX6_isBelow 0 = .ok (.iload_n 0, 1) := by decide +kernel
theorem dX6_isBelow_1 : decode cX6_isBelow 1 = .ok (.ifCond .lt 12, 3) := by decide +kernel
theorem dX6_isBelow_4 : decode cX6_isBelow 4 = .ok (.iload_n 0, 1) := by decide +kernel
theorem dX6_isBelow_5 : decode cX6_isBelow 5 = .ok (.iload_n 1, 1) := by decide +kernel
theorem dX6_isBelow_6 : decode cX6_isBelow 6 = .ok (.if_icmp .ge 7, 3) := by decide +kernel
theorem dX6_isBelow_9 : decode cX6_isBelow 9 = .ok (.iconst 1, 1) := by decide +kernel
theorem dX6_isBelow_10 : decode cX6_isBelow 10 = .ok (.goto 4, 3) := by decide +kernel
theorem dX6_isBelow_13 : decode cX6_isBelow 13 = .ok (.iconst 0, 1) := by decide +kernel
theorem dX6_isBelow_14 : decode cX6_isBelow 14 = .ok (.ireturn, 1) := by decide +kernel
theorem dX6_isWithin_0 : decode cX6_isWithin 0 = .ok (.iload_n 0, 1) := by decide +kernel
theorem dX6_isWithin_1 : decode cX6_isWithin 1 = .ok (.iload_n 1, 1) := by decide +kernel
theorem dX6_isWithin_2 : decode cX6_isWithin 2 = .ok (.if_icmp .lt 12, 3) := by decide +kernel
theorem dX6_isWithin_5 : decode cX6_isWithin 5 = .ok (.iload_n 0, 1) := by decide +kernel
theorem dX6_isWithin_6 : decode cX6_isWithin 6 = .ok (.iload_n 2, 1) := by decide +kernel
theorem dX6_isWithin_7 : decode cX6_isWithin 7 = .ok (.if_icmp .gt 7, 3) := by decide +kernel
theorem dX6_isWithin_10 : decode cX6_isWithin 10 = .ok (.iconst 1, 1) := by decide +kernel
theorem dX6_isWithin_11 : decode cX6_isWithin 11 = .ok (.goto 4, 3) := by decide +kernel
theorem dX6_isWithin_14 : decode cX6_isWithin 14 = .ok (.iconst 0, 1) := by decide +kernel
theorem dX6_isWithin_15 : decode cX6_isWithin 15 = .ok (.ireturn, 1) := by decide +kernel
set_option maxRecDepth 20000 in
theorem ggX6_needBelow_X6_isBelow : GoodIn wsX6_needBelow wsX6_isBelow := goodIn_r _ [6] (by decide +kernel) (by decide +kernel)
set_option maxRecDepth 20000 in
theorem gX6_needBelow_X6_isBelow : GoodIn wsX6_needBelow (va_wsS RX6 284 yX6_isBelow wsX6_isBelow) := goodIn_app (goodIn_of _ (by decide +kernel)) ggX6_needBelow_X6_isBelow
theorem dX6_needBelow_0 : decode cX6_needBelow 0 = .ok (.iload_n 0, 1) := by decide +kernel
theorem dX6_needBelow_1 : decode cX6_needBelow 1 = .ok (.iload_n 1, 1) := by decide +kernel
theorem dX6_needBelow_2 : decode cX6_needBelow 2 = .ok (.invokestatic 284, 3) := by decide +kernel
theorem dX6_needBelow_5 : decode cX6_needBelow 5 = .ok (.ifCond .ne 14, 3) := by decide +kernel
theorem dX6_needBelow_8 : decode cX6_needBelow 8 = .ok (.new 288, 3) := by decide +kernel
theorem dX6_needBelow_11 : decode cX6_needBelow 11 = .ok (.dup, 1) := by decide +kernel
theorem dX6_needBelow_12 : decode cX6_needBelow 12 = .ok (.ldc_w 290, 3) := by decide +kernel
theorem dX6_needBelow_15 : decode cX6_needBelow 15 = .ok (.invokespecial 292, 3) := by decide +kernel
theorem dX6_needBelow_18 : decode cX6_needBelow 18 = .ok (.athrow, 1) := by decide +kernel
theorem dX6_needBelow_19 : decode cX6_needBelow 19 = .ok (.return_, 1) := by decide +kernel
set_option maxRecDepth 20000 in
theorem ggX6_needRange_X6_isWithin : GoodIn wsX6_needRange wsX6_isWithin := goodIn_r _ [6] (by decide +kernel) (by decide +kernel)
set_option maxRecDepth 20000 in
theorem gX6_needRange_X6_isWithin : GoodIn wsX6_needRange (va_wsS RX6 293 yX6_isWithin wsX6_isWithin) := goodIn_app (goodIn_of _ (by decide +kernel)) ggX6_needRange_X6_isWithin
theorem dX6_needRange_0 : decode cX6_needRange 0 = .ok (.iload_n 0, 1) := by decide +kernel
theorem dX6_needRange_1 : decode cX6_needRange 1 = .ok (.iload_n 1, 1) := by decide +kernel
theorem dX6_needRange_2 : decode cX6_needRange 2 = .ok (.iload_n 2, 1) := by decide +kernel
theorem dX6_needRange_3 : decode cX6_needRange 3 = .ok (.invokestatic 293, 3) := by decide +kernel
theorem dX6_needRange_6 : decode cX6_needRange 6 = .ok (.ifCond .ne 14, 3) := by decide +kernel
theorem dX6_needRange_9 : decode cX6_needRange 9 = .ok (.new 237, 3) := by decide +kernel
theorem dX6_needRange_12 : decode cX6_needRange 12 = .ok (.dup, 1) := by decide +kernel
theorem dX6_needRange_13 : decode cX6_needRange 13 = .ok (.ldc_w 297, 3) := by decide +kernel
theorem dX6_needRange_16 : decode cX6_needRange 16 = .ok (.invokespecial 241, 3) := by decide +kernel
theorem dX6_needRange_19 : decode cX6_needRange 19 = .ok (.athrow, 1) := by decide +kernel
theorem dX6_needRange_20 : decode cX6_needRange 20 = .ok (.return_, 1) := by decide +kernel
set_option maxRecDepth 20000 in
theorem ggX6_needTour_X0_get : GoodIn wsX6_needTour wsX0_get := goodIn_ca (goodIn_r _ [6, 7, 28] (by decide +kernel) (by decide +kernel)) (goodIn_sub (fun _ h => List.mem_cons_of_mem _ (List.mem_append_left _ (List.mem_append_right _ h))) (by decide +kernel))
set_option maxRecDepth 20000 in
theorem gX6_needTour_X0_get : GoodIn wsX6_needTour (wsV RX6 116 RX0 yX0_get wsX0_get) := goodIn_app (goodIn_of _ (by decide +kernel)) ggX6_needTour_X0_get
set_option maxRecDepth 20000 in
theorem ggX6_needTour_X6_needBelow : GoodIn wsX6_needTour wsX6_needBelow := goodIn_ca (goodIn_r _ [11, 12, 13, 14, 15, 10, 16] (by decide +kernel) (by decide +kernel)) (goodIn_sub (fun _ h => List.mem_cons_of_mem _ (List.mem_append_right _ h)) (by decide +kernel))
set_option maxRecDepth 20000 in
theorem gX6_needTour_X6_needBelow : GoodIn wsX6_needTour (va_wsS RX6 119 yX6_needBelow wsX6_needBelow) := goodIn_app (goodIn_of _ (by decide +kernel)) ggX6_needTour_X6_needBelow
theorem dX6_needTour_0 : decode cX6_needTour 0 = .ok (.iload_n 1, 1) := by decide +kernel
theorem dX6_needTour_1 : decode cX6_needTour 1 = .ok (.aload_n 0, 1) := by decide +kernel
theorem dX6_needTour_2 : decode cX6_needTour 2 = .ok (.getfield 20, 3) := by decide +kernel
theorem dX6_needTour_5 : decode cX6_needTour 5 = .ok (.iconst 1, 1) := by decide +kernel
theorem dX6_needTour_6 : decode cX6_needTour 6 = .ok (.invokevirtual 116, 3) := by decide +kernel
theorem dX6_needTour_9 : decode cX6_needTour 9 = .ok (.invokestatic 119, 3) := by decide +kernel
theorem dX6_needTour_12 : decode cX6_needTour 12 = .ok (.return_, 1) := by decide +kernel
theorem dX6_allow_0 : decode cX6_allow 0 = .ok (.iload_n 0, 1) := by decide +kernel
theorem dX6_allow_1 : decode cX6_allow 1 = .ok (.iconst (-1), 1) := by decide +kernel
theorem dX6_allow_2 : decode cX6_allow 2 = .ok (.if_icmp .ne 14, 3) := by decide +kernel
theorem dX6_allow_5 : decode cX6_allow 5 = .ok (.new 288, 3) := by decide +kernel
theorem dX6_allow_8 : decode cX6_allow 8 = .ok (.dup, 1) := by decide +kernel
theorem dX6_allow_9 : decode cX6_allow 9 = .ok (.ldc_w 290, 3) := by decide +kernel
theorem dX6_allow_12 : decode cX6_allow 12 = .ok (.invokespecial 292, 3) := by decide +kernel
theorem dX6_allow_15 : decode cX6_allow 15 = .ok (.athrow, 1) := by decide +kernel
theorem dX6_allow_16 : decode cX6_allow 16 = .ok (.iload_n 0, 1) := by decide +kernel
theorem dX6_allow_17 : decode cX6_allow 17 = .ok (.bipush (-2), 2) := by decide +kernel
theorem dX6_allow_19 : decode cX6_allow 19 = .ok (.if_icmp .ne 14, 3) := by decide +kernel
theorem dX6_allow_22 : decode cX6_allow 22 = .ok (.new 237, 3) := by decide +kernel
theorem dX6_allow_25 : decode cX6_allow 25 = .ok (.dup, 1) := by decide +kernel
theorem dX6_allow_26 : decode cX6_allow 26 = .ok (.ldc_w 297, 3) := by decide +kernel
theorem dX6_allow_29 : decode cX6_allow 29 = .ok (.invokespecial 241, 3) := by decide +kernel
theorem dX6_allow_32 : decode cX6_allow 32 = .ok (.athrow, 1) := by decide +kernel
theorem dX6_allow_33 : decode cX6_allow 33 = .ok (.iload_n 0, 1) := by decide +kernel
theorem dX6_allow_34 : decode cX6_allow 34 = .ok (.ifCond .eq 14, 3) := by decide +kernel
theorem dX6_allow_37 : decode cX6_allow 37 = .ok (.new 252, 3) := by decide +kernel
theorem dX6_allow_40 : decode cX6_allow 40 = .ok (.dup, 1) := by decide +kernel
theorem dX6_allow_41 : decode cX6_allow 41 = .ok (.ldc_w 299, 3) := by decide +kernel
theorem dX6_allow_44 : decode cX6_allow 44 = .ok (.invokespecial 256, 3) := by decide +kernel
theorem dX6_allow_47 : decode cX6_allow 47 = .ok (.athrow, 1) := by decide +kernel
theorem dX6_allow_48 : decode cX6_allow 48 = .ok (.return_, 1) := by decide +kernel
set_option maxRecDepth 20000 in
theorem ggX6_isCommandRefused_X6_judgeCommand : GoodIn wsX6_isCommandRefused wsX6_judgeCommand := goodIn_ca (goodIn_r _ [6, 7, 1, 8, 9, 10, 11, 12, 13, 14, 15, 16, 17, 18, 19, 20, 21, 22, 23, 24, 25, 5, 26, 27, 28, 29, 30, 31, 32, 33, 34, 35, 36, 37, 38, 39, 40, 41, 42, 43, 44, 45, 46, 47, 48, 49, 50, 51, 52, 53, 54, 55, 56, 57, 58, 59, 60, 61, 62, 63, 64, 65, 66, 67, 68, 69, 70, 71, 72, 73, 74, 75, 76, 77, 78, 79, 80, 81, 82, 83, 84, 85, 86, 87, 88, 89, 90, 91, 92, 93, 94, 95, 97, 98, 99, 100, 101, 102, 103, 104, 105, 106, 107, 108, 109, 110, 111, 112, 113, 114, 115, 116, 117, 118, 119] (by decide +kernel) (by decide +kernel)) (goodIn_sub (fun _ h => List.mem_cons_of_mem _ (List.mem_append_right _ h)) (by decide +kernel))
set_option maxRecDepth 20000 in
theorem gX6_isCommandRefused_X6_judgeCommand : GoodIn wsX6_isCommandRefused (wsV RX6 301 RX6 yX6_judgeCommand wsX6_judgeCommand) := goodIn_app (goodIn_of _ (by decide +kernel)) ggX6_isCommandRefused_X6_judgeCommand
set_option maxRecDepth 20000 in
theorem ggX6_isCommandRefused_X2_refuse : GoodIn wsX6_isCommandRefused wsX2_refuse := goodIn_r _ [36, 37, 38, 118, 119] (by decide +kernel) (by decide +kernel)
set_option maxRecDepth 20000 in
theorem gX6_isCommandRefused_X2_refuse : GoodIn wsX6_isCommandRefused (wsV RX6 304 RX2 yX2_refuse wsX2_refuse) := goodIn_app (goodIn_of _ (by decide +kernel)) ggX6_isCommandRefused_X2_refuse
theorem dX6_isCommandRefused_0 : decode cX6_isCommandRefused 0 = .ok (.aload_n 0, 1) := by decide +kernel
theorem dX6_isCommandRefused_1 : decode cX6_isCommandRefused 1 = .ok (.invokevirtual 301, 3) := by decide +kernel
theorem dX6_isCommandRefused_4 : decode cX6_isCommandRefused 4 = .ok (.istore_n 2, 1) := by decide +kernel
theorem dX6_isCommandRefused_5 : decode cX6_isCommandRefused 5 = .ok (.iload_n 2, 1) := by decide +kernel
theorem dX6_isCommandRefused_6 : decode cX6_isCommandRefused 6 = .ok (.iconst (-1), 1) := by decide +kernel
theorem dX6_isCommandRefused_7 : decode cX6_isCommandRefused 7 = .ok (.if_icmp .eq 9, 3) := by decide +kernel
theorem dX6_isCommandRefused_10 : decode cX6_isCommandRefused 10 = .ok (.iload_n 2, 1) := by decide +kernel
theorem dX6_isCommandRefused_11 : decode cX6_isCommandRefused 11 = .ok (.bipush (-2), 2) := by decide +kernel
theorem dX6_isCommandRefused_13 : decode cX6_isCommandRefused 13 = .ok (.if_icmp .ne 14, 3) := by decide +kernel
theorem dX6_isCommandRefused_16 : decode cX6_isCommandRefused 16 = .ok (.aload_n 0, 1) := by decide +kernel
theorem dX6_isCommandRefused_17 : decode cX6_isCommandRefused 17 = .ok (.getfield 27, 3) := by decide +kernel
theorem dX6_isCommandRefused_20 : decode cX6_isCommandRefused 20 = .ok (.bipush 20, 2) := by decide +kernel
theorem dX6_isCommandRefused_22 : decode cX6_isCommandRefused 22 = .ok (.iload_n 1, 1) := by decide +kernel
theorem dX6_isCommandRefused_23 : decode cX6_isCommandRefused 23 = .ok (.invokevirtual 304, 3) := by decide +kernel
theorem dX6_isCommandRefused_26 : decode cX6_isCommandRefused 26 = .ok (.istore_n 2, 1) := by decide +kernel
theorem dX6_isCommandRefused_27 : decode cX6_isCommandRefused 27 = .ok (.iload_n 2, 1) := by decide +kernel
theorem dX6_isCommandRefused_28 : decode cX6_isCommandRefused 28 = .ok (.ifCond .eq 7, 3) := by decide +kernel
theorem dX6_isCommandRefused_31 : decode cX6_isCommandRefused 31 = .ok (.iconst 1, 1) := by decide +kernel
theorem dX6_isCommandRefused_32 : decode cX6_isCommandRefused 32 = .ok (.goto 4, 3) := by decide +kernel
theorem dX6_isCommandRefused_35 : decode cX6_isCommandRefused 35 = .ok (.iconst 0, 1) := by decide +kernel
theorem dX6_isCommandRefused_36 : decode cX6_isCommandRefused 36 = .ok (.ireturn, 1) := by decide +kernel
set_option maxRecDepth 20000 in
theorem ggX6_judgeCommand_X4_word : GoodIn wsX6_judgeCommand wsX4_word := goodIn_r _ [8, 9, 103, 104, 105, 106, 107, 108, 109, 110, 111] (by decide +kernel) (by decide +kernel)
set_option maxRecDepth 20000 in
theorem gX6_judgeCommand_X4_word : GoodIn wsX6_judgeCommand (wsV RX6 307 RX4 yX4_word wsX4_word) := goodIn_app (goodIn_of _ (by decide +kernel)) ggX6_judgeCommand_X4_word
set_option maxRecDepth 20000 in
theorem ggX6_judgeCommand_X4_first : GoodIn wsX6_judgeCommand wsX4_first := goodIn_r _ [13, 14, 103, 104, 105, 106, 107, 108, 109, 110, 111] (by decide +kernel) (by decide +kernel)
set_option maxRecDepth 20000 in
theorem gX6_judgeCommand_X4_first : GoodIn wsX6_judgeCommand (wsV RX6 310 RX4 yX4_first wsX4_first) := goodIn_app (goodIn_of _ (by decide +kernel)) ggX6_judgeCommand_X4_first
set_option maxRecDepth 20000 in
theorem ggX6_judgeCommand_X2_planning : GoodIn wsX6_judgeCommand wsX2_planning := goodIn_ca (goodIn_r _ [19, 20, 21, 22, 23, 24, 25, 26, 27, 28, 29, 30, 31, 18, 32, 33, 34, 112, 113, 114] (by decide +kernel) (by decide +kernel)) (goodIn_sub (fun _ h => List.mem_cons_of_mem _ (List.mem_append_right _ h)) (by decide +kernel))
set_option maxRecDepth 20000 in
theorem gX6_judgeCommand_X2_planning : GoodIn wsX6_judgeCommand (wsV RX6 69 RX2 yX2_planning wsX2_planning) := goodIn_app (goodIn_of _ (by decide +kernel)) ggX6_judgeCommand_X2_planning
set_option maxRecDepth 20000 in
theorem ggX6_judgeCommand_X2_starting : GoodIn wsX6_judgeCommand wsX2_starting := goodIn_ca (goodIn_r _ [38, 39, 40, 18, 41, 23, 24, 25, 26, 27, 28, 42, 21, 43, 44, 45, 29, 30, 31, 32, 33, 34, 112, 113, 114] (by decide +kernel) (by decide +kernel)) (goodIn_sub (fun _ h => List.mem_cons_of_mem _ (List.mem_append_right _ h)) (by decide +kernel))
set_option maxRecDepth 20000 in
theorem gX6_judgeCommand_X2_starting : GoodIn wsX6_judgeCommand (wsV RX6 93 RX2 yX2_starting wsX2_starting) := goodIn_app (goodIn_of _ (by decide +kernel)) ggX6_judgeCommand_X2_starting
set_option maxRecDepth 20000 in
theorem ggX6_judgeCommand_X2_callingBack : GoodIn wsX6_judgeCommand wsX2_callingBack := goodIn_ca (goodIn_r _ [49, 39, 40, 18, 41, 23, 24, 25, 26, 27, 28, 42, 21, 43, 44, 45, 29, 30, 31, 32, 33, 34, 112, 113, 114] (by decide +kernel) (by decide +kernel)) (goodIn_sub (fun _ h => List.mem_cons_of_mem _ (List.mem_append_right _ h)) (by decide +kernel))
set_option maxRecDepth 20000 in
theorem gX6_judgeCommand_X2_callingBack : GoodIn wsX6_judgeCommand (wsV RX6 99 RX2 yX2_callingBack wsX2_callingBack) := goodIn_app (goodIn_of _ (by decide +kernel)) ggX6_judgeCommand_X2_callingBack
set_option maxRecDepth 20000 in
theorem ggX6_judgeCommand_X2_shutting : GoodIn wsX6_judgeCommand wsX2_shutting := goodIn_ca (goodIn_r _ [53, 42, 21, 43, 54, 55, 23, 24, 25, 26, 27, 28, 29, 30, 31, 18, 32, 33, 34, 112, 113, 114] (by decide +kernel) (by decide +kernel)) (goodIn_sub (fun _ h => List.mem_cons_of_mem _ (List.mem_append_right _ h)) (by decide +kernel))
set_option maxRecDepth 20000 in
theorem gX6_judgeCommand_X2_shutting : GoodIn wsX6_judgeCommand (wsV RX6 127 RX2 yX2_shutting wsX2_shutting) := goodIn_app (goodIn_of _ (by decide +kernel)) ggX6_judgeCommand_X2_shutting
set_option maxRecDepth 20000 in
theorem ggX6_judgeCommand_X2_passing : GoodIn wsX6_judgeCommand wsX2_passing := goodIn_r _ [59, 20, 21, 22] (by decide +kernel) (by decide +kernel)
set_option maxRecDepth 20000 in
theorem gX6_judgeCommand_X2_passing : GoodIn wsX6_judgeCommand (wsV RX6 141 RX2 yX2_passing wsX2_passing) := goodIn_app (goodIn_of _ (by decide +kernel)) ggX6_judgeCommand_X2_passing
set_option maxRecDepth 20000 in
theorem ggX6_judgeCommand_X4_kind : GoodIn wsX6_judgeCommand wsX4_kind := goodIn_r _ [63, 9, 103, 104, 105, 106, 107, 108, 109, 110, 111] (by decide +kernel) (by decide +kernel)
set_option maxRecDepth 20000 in
theorem gX6_judgeCommand_X4_kind : GoodIn wsX6_judgeCommand (wsV RX6 313 RX4 yX4_kind wsX4_kind) := goodIn_app (goodIn_of _ (by decide +kernel)) ggX6_judgeCommand_X4_kind
set_option maxRecDepth 20000 in
theorem ggX6_judgeCommand_X4_town : GoodIn wsX6_judgeCommand wsX4_town := goodIn_r _ [67, 68, 103, 104, 105, 106, 107, 108, 109, 110, 111] (by decide +kernel) (by decide +kernel)
set_option maxRecDepth 20000 in
theorem gX6_judgeCommand_X4_town : GoodIn wsX6_judgeCommand (wsV RX6 316 RX4 yX4_town wsX4_town) := goodIn_app (goodIn_of _ (by decide +kernel)) ggX6_judgeCommand_X4_town
set_option maxRecDepth 20000 in
theorem ggX6_judgeCommand_X4_day : GoodIn wsX6_judgeCommand wsX4_day := goodIn_r _ [72, 73, 103, 104, 105, 106, 107, 108, 109, 110, 111] (by decide +kernel) (by decide +kernel)
set_option maxRecDepth 20000 in
theorem gX6_judgeCommand_X4_day : GoodIn wsX6_judgeCommand (wsV RX6 319 RX4 yX4_day wsX4_day) := goodIn_app (goodIn_of _ (by decide +kernel)) ggX6_judgeCommand_X4_day
set_option maxRecDepth 20000 in
theorem ggX6_judgeCommand_X4_many : GoodIn wsX6_judgeCommand wsX4_many := goodIn_r _ [77, 78, 103, 104, 105, 106, 107, 108, 109, 110, 111] (by decide +kernel) (by decide +kernel)
set_option maxRecDepth 20000 in
theorem gX6_judgeCommand_X4_many : GoodIn wsX6_judgeCommand (wsV RX6 322 RX4 yX4_many wsX4_many) := goodIn_app (goodIn_of _ (by decide +kernel)) ggX6_judgeCommand_X4_many
set_option maxRecDepth 20000 in
theorem ggX6_judgeCommand_X2_giving : GoodIn wsX6_judgeCommand wsX2_giving := goodIn_ca (goodIn_r _ [82, 39, 40, 18, 41, 23, 24, 25, 26, 27, 28, 42, 21, 43, 83, 84, 20, 22, 44, 45, 29, 30, 31, 32, 33, 34, 85, 86, 87, 88, 89, 90, 91, 112, 113, 114] (by decide +kernel) (by decide +kernel)) (goodIn_sub (fun _ h => List.mem_cons_of_mem _ (List.mem_append_right _ h)) (by decide +kernel))
set_option maxRecDepth 20000 in
theorem gX6_judgeCommand_X2_giving : GoodIn wsX6_judgeCommand (wsV RX6 85 RX2 yX2_giving wsX2_giving) := goodIn_app (goodIn_of _ (by decide +kernel)) ggX6_judgeCommand_X2_giving
theorem dX6_judgeCommand_0 : decode cX6_judgeCommand 0 = .ok (.aload_n 0, 1) := by decide +kernel
theorem dX6_judgeCommand_1 : decode cX6_judgeCommand 1 = .ok (.getfield 54, 3) := by decide +kernel
theorem dX6_judgeCommand_4 : decode cX6_judgeCommand 4 = .ok (.invokevirtual 307, 3) := by decide +kernel
theorem dX6_judgeCommand_7 : decode cX6_judgeCommand 7 = .ok (.tableswitch 161 0 8 #[49, 161, 161, 161, 68, 87, 106, 126, 146], 49) := by decide +kernel
theorem dX6_judgeCommand_56 : decode cX6_judgeCommand 56 = .ok (.aload_n 0, 1) := by decide +kernel
theorem dX6_judgeCommand_57 : decode cX6_judgeCommand 57 = .ok (.getfield 27, 3) := by decide +kernel
theorem dX6_judgeCommand_60 : decode cX6_judgeCommand 60 = .ok (.aload_n 0, 1) := by decide +kernel
theorem dX6_judgeCommand_61 : decode cX6_judgeCommand 61 = .ok (.getfield 20, 3) := by decide +kernel
theorem dX6_judgeCommand_64 : decode cX6_judgeCommand 64 = .ok (.aload_n 0, 1) := by decide +kernel
theorem dX6_judgeCommand_65 : decode cX6_judgeCommand 65 = .ok (.getfield 54, 3) := by decide +kernel
theorem dX6_judgeCommand_68 : decode cX6_judgeCommand 68 = .ok (.invokevirtual 310, 3) := by decide +kernel
theorem dX6_judgeCommand_71 : decode cX6_judgeCommand 71 = .ok (.invokevirtual 69, 3) := by decide +kernel
theorem dX6_judgeCommand_74 : decode cX6_judgeCommand 74 = .ok (.ireturn, 1) := by decide +kernel
theorem dX6_judgeCommand_75 : decode cX6_judgeCommand 75 = .ok (.aload_n 0, 1) := by decide +kernel
theorem dX6_judgeCommand_76 : decode cX6_judgeCommand 76 = .ok (.getfield 27, 3) := by decide +kernel
theorem dX6_judgeCommand_79 : decode cX6_judgeCommand 79 = .ok (.aload_n 0, 1) := by decide +kernel
theorem dX6_judgeCommand_80 : decode cX6_judgeCommand 80 = .ok (.getfield 20, 3) := by decide +kernel
theorem dX6_judgeCommand_83 : decode cX6_judgeCommand 83 = .ok (.aload_n 0, 1) := by decide +kernel
theorem dX6_judgeCommand_84 : decode cX6_judgeCommand 84 = .ok (.getfield 54, 3) := by decide +kernel
theorem dX6_judgeCommand_87 : decode cX6_judgeCommand 87 = .ok (.invokevirtual 310, 3) := by decide +kernel
theorem dX6_judgeCommand_90 : decode cX6_judgeCommand 90 = .ok (.invokevirtual 93, 3) := by decide +kernel
theorem dX6_judgeCommand_93 : decode cX6_judgeCommand 93 = .ok (.ireturn, 1) := by decide +kernel
theorem dX6_judgeCommand_94 : decode cX6_judgeCommand 94 = .ok (.aload_n 0, 1) := by decide +kernel
theorem dX6_judgeCommand_95 : decode cX6_judgeCommand 95 = .ok (.getfield 27, 3) := by decide +kernel
theorem dX6_judgeCommand_98 : decode cX6_judgeCommand 98 = .ok (.aload_n 0, 1) := by decide +kernel
theorem dX6_judgeCommand_99 : decode cX6_judgeCommand 99 = .ok (.getfield 20, 3) := by decide +kernel
theorem dX6_judgeCommand_102 : decode cX6_judgeCommand 102 = .ok (.aload_n 0, 1) := by decide +kernel
theorem dX6_judgeCommand_103 : decode cX6_judgeCommand 103 = .ok (.getfield 54, 3) := by decide +kernel
theorem dX6_judgeCommand_106 : decode cX6_judgeCommand 106 = .ok (.invokevirtual 310, 3) := by decide +kernel
theorem dX6_judgeCommand_109 : decode cX6_judgeCommand 109 = .ok (.invokevirtual 99, 3) := by decide +kernel
theorem dX6_judgeCommand_112 : decode cX6_judgeCommand 112 = .ok (.ireturn, 1) := by decide +kernel
theorem dX6_judgeCommand_113 : decode cX6_judgeCommand 113 = .ok (.aload_n 0, 1) := by decide +kernel
theorem dX6_judgeCommand_114 : decode cX6_judgeCommand 114 = .ok (.getfield 27, 3) := by decide +kernel
theorem dX6_judgeCommand_117 : decode cX6_judgeCommand 117 = .ok (.aload_n 0, 1) := by decide +kernel
theorem dX6_judgeCommand_118 : decode cX6_judgeCommand 118 = .ok (.getfield 20, 3) := by decide +kernel
theorem dX6_judgeCommand_121 : decode cX6_judgeCommand 121 = .ok (.aload_n 0, 1) := by decide +kernel
theorem dX6_judgeCommand_122 : decode cX6_judgeCommand 122 = .ok (.getfield 54, 3) := by decide +kernel
theorem dX6_judgeCommand_125 : decode cX6_judgeCommand 125 = .ok (.invokevirtual 310, 3) := by decide +kernel
theorem dX6_judgeCommand_128 : decode cX6_judgeCommand 128 = .ok (.iconst 1, 1) := by decide +kernel
theorem dX6_judgeCommand_129 : decode cX6_judgeCommand 129 = .ok (.invokevirtual 127, 3) := by decide +kernel
theorem dX6_judgeCommand_132 : decode cX6_judgeCommand 132 = .ok (.ireturn, 1) := by decide +kernel
theorem dX6_judgeCommand_133 : decode cX6_judgeCommand 133 = .ok (.aload_n 0, 1) := by decide +kernel
theorem dX6_judgeCommand_134 : decode cX6_judgeCommand 134 = .ok (.getfield 27, 3) := by decide +kernel
theorem dX6_judgeCommand_137 : decode cX6_judgeCommand 137 = .ok (.aload_n 0, 1) := by decide +kernel
theorem dX6_judgeCommand_138 : decode cX6_judgeCommand 138 = .ok (.getfield 20, 3) := by decide +kernel
theorem dX6_judgeCommand_141 : decode cX6_judgeCommand 141 = .ok (.aload_n 0, 1) := by decide +kernel
theorem dX6_judgeCommand_142 : decode cX6_judgeCommand 142 = .ok (.getfield 54, 3) := by decide +kernel
theorem dX6_judgeCommand_145 : decode cX6_judgeCommand 145 = .ok (.invokevirtual 310, 3) := by decide +kernel
theorem dX6_judgeCommand_148 : decode cX6_judgeCommand 148 = .ok (.iconst 0, 1) := by decide +kernel
theorem dX6_judgeCommand_149 : decode cX6_judgeCommand 149 = .ok (.invokevirtual 127, 3) := by decide +kernel
theorem dX6_judgeCommand_152 : decode cX6_judgeCommand 152 = .ok (.ireturn, 1) := by decide +kernel
theorem dX6_judgeCommand_153 : decode cX6_judgeCommand 153 = .ok (.aload_n 0, 1) := by decide +kernel
theorem dX6_judgeCommand_154 : decode cX6_judgeCommand 154 = .ok (.getfield 27, 3) := by decide +kernel
theorem dX6_judgeCommand_157 : decode cX6_judgeCommand 157 = .ok (.aload_n 0, 1) := by decide +kernel
theorem dX6_judgeCommand_158 : decode cX6_judgeCommand 158 = .ok (.getfield 54, 3) := by decide +kernel
theorem dX6_judgeCommand_161 : decode cX6_judgeCommand 161 = .ok (.invokevirtual 310, 3) := by decide +kernel
theorem dX6_judgeCommand_164 : decode cX6_judgeCommand 164 = .ok (.invokevirtual 141, 3) := by decide +kernel
theorem dX6_judgeCommand_167 : decode cX6_judgeCommand 167 = .ok (.ireturn, 1) := by decide +kernel
theorem dX6_judgeCommand_168 : decode cX6_judgeCommand 168 = .ok (.aload_n 0, 1) := by decide +kernel
theorem dX6_judgeCommand_169 : decode cX6_judgeCommand 169 = .ok (.getfield 27, 3) := by decide +kernel
theorem dX6_judgeCommand_172 : decode cX6_judgeCommand 172 = .ok (.aload_n 0, 1) := by decide +kernel
theorem dX6_judgeCommand_173 : decode cX6_judgeCommand 173 = .ok (.getfield 20, 3) := by decide +kernel
theorem dX6_judgeCommand_176 : decode cX6_judgeCommand 176 = .ok (.aload_n 0, 1) := by decide +kernel
theorem dX6_judgeCommand_177 : decode cX6_judgeCommand 177 = .ok (.getfield 54, 3) := by decide +kernel
theorem dX6_judgeCommand_180 : decode cX6_judgeCommand 180 = .ok (.invokevirtual 310, 3) := by decide +kernel
theorem dX6_judgeCommand_183 : decode cX6_judgeCommand 183 = .ok (.aload_n 0, 1) := by decide +kernel
theorem dX6_judgeCommand_184 : decode cX6_judgeCommand 184 = .ok (.getfield 54, 3) := by decide +kernel
theorem dX6_judgeCommand_187 : decode cX6_judgeCommand 187 = .ok (.invokevirtual 313, 3) := by decide +kernel
theorem dX6_judgeCommand_190 : decode cX6_judgeCommand 190 = .ok (.aload_n 0, 1) := by decide +kernel
theorem dX6_judgeCommand_191 : decode cX6_judgeCommand 191 = .ok (.getfield 54, 3) := by decide +kernel
theorem dX6_judgeCommand_194 : decode cX6_judgeCommand 194 = .ok (.invokevirtual 316, 3) := by decide +kernel
theorem dX6_judgeCommand_197 : decode cX6_judgeCommand 197 = .ok (.aload_n 0, 1) := by decide +kernel
theorem dX6_judgeCommand_198 : decode cX6_judgeCommand 198 = .ok (.getfield 54, 3) := by decide +kernel
theorem dX6_judgeCommand_201 : decode cX6_judgeCommand 201 = .ok (.invokevirtual 319, 3) := by decide +kernel
theorem dX6_judgeCommand_204 : decode cX6_judgeCommand 204 = .ok (.aload_n 0, 1) := by decide +kernel
theorem dX6_judgeCommand_205 : decode cX6_judgeCommand 205 = .ok (.getfield 54, 3) := by decide +kernel
theorem dX6_judgeCommand_208 : decode cX6_judgeCommand 208 = .ok (.invokevirtual 322, 3) := by decide +kernel
theorem dX6_judgeCommand_211 : decode cX6_judgeCommand 211 = .ok (.invokevirtual 85, 3) := by decide +kernel
theorem dX6_judgeCommand_214 : decode cX6_judgeCommand 214 = .ok (.ireturn, 1) := by decide +kernel
set_option maxRecDepth 20000 in
theorem ggX6_carryOutCommand_X4_word : GoodIn wsX6_carryOutCommand wsX4_word := goodIn_r _ [7, 8, 151, 152, 153, 154, 155, 156, 157, 158, 159] (by decide +kernel) (by decide +kernel)
set_option maxRecDepth 20000 in
theorem gX6_carryOutCommand_X4_word : GoodIn wsX6_carryOutCommand (wsV RX6 307 RX4 yX4_word wsX4_word) := goodIn_app (goodIn_of _ (by decide +kernel)) ggX6_carryOutCommand_X4_word
set_option maxRecDepth 20000 in
theorem ggX6_carryOutCommand_X4_first : GoodIn wsX6_carryOutCommand wsX4_first := goodIn_r _ [12, 13, 151, 152, 153, 154, 155, 156, 157, 158, 159] (by decide +kernel) (by decide +kernel)
set_option maxRecDepth 20000 in
theorem gX6_carryOutCommand_X4_first : GoodIn wsX6_carryOutCommand (wsV RX6 310 RX4 yX4_first wsX4_first) := goodIn_app (goodIn_of _ (by decide +kernel)) ggX6_carryOutCommand_X4_first
set_option maxRecDepth 20000 in
theorem ggX6_carryOutCommand_X5_planTour : GoodIn wsX6_carryOutCommand wsX5_planTour := goodIn_ca (goodIn_r _ [18, 19, 20, 21, 22, 23, 24, 25, 26, 27, 28, 29, 30, 31, 32, 33, 34, 35, 36, 160, 161] (by decide +kernel) (by decide +kernel)) (goodIn_sub (fun _ h => List.mem_cons_of_mem _ (List.mem_append_right _ h)) (by decide +kernel))
set_option maxRecDepth 20000 in
theorem gX6_carryOutCommand_X5_planTour : GoodIn wsX6_carryOutCommand (wsV RX6 81 RX5 yX5_planTour wsX5_planTour) := goodIn_app (goodIn_of _ (by decide +kernel)) ggX6_carryOutCommand_X5_planTour
set_option maxRecDepth 20000 in
theorem ggX6_carryOutCommand_X5_startTour : GoodIn wsX6_carryOutCommand wsX5_startTour := goodIn_ca (goodIn_r _ [40, 19, 26, 27, 28, 29, 30, 31, 23, 32, 25, 41, 42, 43, 17, 44, 20, 21, 22, 24, 160, 161] (by decide +kernel) (by decide +kernel)) (goodIn_sub (fun _ h => List.mem_cons_of_mem _ (List.mem_append_right _ h)) (by decide +kernel))
set_option maxRecDepth 20000 in
theorem gX6_carryOutCommand_X5_startTour : GoodIn wsX6_carryOutCommand (wsV RX6 96 RX5 yX5_startTour wsX5_startTour) := goodIn_app (goodIn_of _ (by decide +kernel)) ggX6_carryOutCommand_X5_startTour
set_option maxRecDepth 20000 in
theorem ggX6_carryOutCommand_X5_callBack : GoodIn wsX6_carryOutCommand wsX5_callBack := goodIn_ca (goodIn_r _ [48, 19, 26, 27, 28, 29, 30, 31, 23, 32, 25, 49, 50, 51, 17, 52, 20, 21, 22, 24, 160, 161] (by decide +kernel) (by decide +kernel)) (goodIn_sub (fun _ h => List.mem_cons_of_mem _ (List.mem_append_right _ h)) (by decide +kernel))
set_option maxRecDepth 20000 in
theorem gX6_carryOutCommand_X5_callBack : GoodIn wsX6_carryOutCommand (wsV RX6 102 RX5 yX5_callBack wsX5_callBack) := goodIn_app (goodIn_of _ (by decide +kernel)) ggX6_carryOutCommand_X5_callBack
set_option maxRecDepth 20000 in
theorem ggX6_carryOutCommand_X5_shutTown : GoodIn wsX6_carryOutCommand wsX5_shutTown := goodIn_ca (goodIn_r _ [56, 19, 57, 27, 58, 29, 30, 31, 23, 32, 25, 59, 60, 61, 17, 62, 20, 21, 22, 24, 160, 161] (by decide +kernel) (by decide +kernel)) (goodIn_sub (fun _ h => List.mem_cons_of_mem _ (List.mem_append_right _ h)) (by decide +kernel))
set_option maxRecDepth 20000 in
theorem gX6_carryOutCommand_X5_shutTown : GoodIn wsX6_carryOutCommand (wsV RX6 131 RX5 yX5_shutTown wsX5_shutTown) := goodIn_app (goodIn_of _ (by decide +kernel)) ggX6_carryOutCommand_X5_shutTown
set_option maxRecDepth 20000 in
theorem ggX6_carryOutCommand_X5_passHours : GoodIn wsX6_carryOutCommand wsX5_passHours := goodIn_ca (goodIn_r _ [66, 19, 67, 68, 69, 17, 70, 26, 27, 28, 20, 21, 22, 23, 24, 25, 71, 72, 73, 74, 33, 34, 35, 36, 75, 76, 77, 78, 79, 80, 57, 58, 81, 82, 83, 84, 85, 86, 87, 88, 89, 90, 91, 92, 29, 30, 31, 32, 49, 50, 51, 52, 93, 94, 95, 96, 97, 98, 99, 100, 101, 102, 103, 104, 105, 106, 107, 108, 109, 110, 111, 112, 113, 114, 115, 116, 160, 161] (by decide +kernel) (by decide +kernel)) (goodIn_sub (fun _ h => List.mem_cons_of_mem _ (List.mem_append_right _ h)) (by decide +kernel))
set_option maxRecDepth 20000 in
theorem gX6_carryOutCommand_X5_passHours : GoodIn wsX6_carryOutCommand (wsV RX6 144 RX5 yX5_passHours wsX5_passHours) := goodIn_app (goodIn_of _ (by decide +kernel)) ggX6_carryOutCommand_X5_passHours
set_option maxRecDepth 20000 in
theorem ggX6_carryOutCommand_X4_kind : GoodIn wsX6_carryOutCommand wsX4_kind := goodIn_r _ [120, 8, 151, 152, 153, 154, 155, 156, 157, 158, 159] (by decide +kernel) (by decide +kernel)
set_option maxRecDepth 20000 in
theorem gX6_carryOutCommand_X4_kind : GoodIn wsX6_carryOutCommand (wsV RX6 313 RX4 yX4_kind wsX4_kind) := goodIn_app (goodIn_of _ (by decide +kernel)) ggX6_carryOutCommand_X4_kind
set_option maxRecDepth 20000 in
theorem ggX6_carryOutCommand_X4_town : GoodIn wsX6_carryOutCommand wsX4_town := goodIn_r _ [124, 125, 151, 152, 153, 154, 155, 156, 157, 158, 159] (by decide +kernel) (by decide +kernel)
set_option maxRecDepth 20000 in
theorem gX6_carryOutCommand_X4_town : GoodIn wsX6_carryOutCommand (wsV RX6 316 RX4 yX4_town wsX4_town) := goodIn_app (goodIn_of _ (by decide +kernel)) ggX6_carryOutCommand_X4_town
set_option maxRecDepth 20000 in
theorem ggX6_carryOutCommand_X4_day : GoodIn wsX6_carryOutCommand wsX4_day := goodIn_r _ [129, 130, 151, 152, 153, 154, 155, 156, 157, 158, 159] (by decide +kernel) (by decide +kernel)
set_option maxRecDepth 20000 in
theorem gX6_carryOutCommand_X4_day : GoodIn wsX6_carryOutCommand (wsV RX6 319 RX4 yX4_day wsX4_day) := goodIn_app (goodIn_of _ (by decide +kernel)) ggX6_carryOutCommand_X4_day
set_option maxRecDepth 20000 in
theorem ggX6_carryOutCommand_X4_many : GoodIn wsX6_carryOutCommand wsX4_many := goodIn_r _ [134, 135, 151, 152, 153, 154, 155, 156, 157, 158, 159] (by decide +kernel) (by decide +kernel)
set_option maxRecDepth 20000 in
theorem gX6_carryOutCommand_X4_many : GoodIn wsX6_carryOutCommand (wsV RX6 322 RX4 yX4_many wsX4_many) := goodIn_app (goodIn_of _ (by decide +kernel)) ggX6_carryOutCommand_X4_many
set_option maxRecDepth 20000 in
theorem ggX6_carryOutCommand_X5_giveStep : GoodIn wsX6_carryOutCommand wsX5_giveStep := goodIn_ca (goodIn_r _ [139, 19, 26, 27, 28, 20, 21, 22, 23, 24, 25, 79, 80, 29, 30, 31, 32, 160, 161] (by decide +kernel) (by decide +kernel)) (goodIn_sub (fun _ h => List.mem_cons_of_mem _ (List.mem_append_right _ h)) (by decide +kernel))
set_option maxRecDepth 20000 in
theorem gX6_carryOutCommand_X5_giveStep : GoodIn wsX6_carryOutCommand (wsV RX6 89 RX5 yX5_giveStep wsX5_giveStep) := goodIn_app (goodIn_of _ (by decide +kernel)) ggX6_carryOutCommand_X5_giveStep
theorem dX6_carryOutCommand_0 : decode cX6_carryOutCommand 0 = .ok (.aload_n 0, 1) := by decide +kernel
theorem dX6_carryOutCommand_1 : decode cX6_carryOutCommand 1 = .ok (.getfield 54, 3) := by decide +kernel
theorem dX6_carryOutCommand_4 : decode cX6_carryOutCommand 4 = .ok (.invokevirtual 307, 3) := by decide +kernel
theorem dX6_carryOutCommand_7 : decode cX6_carryOutCommand 7 = .ok (.tableswitch 159 0 8 #[49, 159, 159, 159, 67, 85, 103, 122, 141], 49) := by decide +kernel
theorem dX6_carryOutCommand_56 : decode cX6_carryOutCommand 56 = .ok (.aload_n 0, 1) := by decide +kernel
theorem dX6_carryOutCommand_57 : decode cX6_carryOutCommand 57 = .ok (.getfield 12, 3) := by decide +kernel
theorem dX6_carryOutCommand_60 : decode cX6_carryOutCommand 60 = .ok (.aload_n 0, 1) := by decide +kernel
theorem dX6_carryOutCommand_61 : decode cX6_carryOutCommand 61 = .ok (.getfield 54, 3) := by decide +kernel
theorem dX6_carryOutCommand_64 : decode cX6_carryOutCommand 64 = .ok (.invokevirtual 310, 3) := by decide +kernel
theorem dX6_carryOutCommand_67 : decode cX6_carryOutCommand 67 = .ok (.invokevirtual 81, 3) := by decide +kernel
theorem dX6_carryOutCommand_70 : decode cX6_carryOutCommand 70 = .ok (.pop, 1) := by decide +kernel
theorem dX6_carryOutCommand_71 : decode cX6_carryOutCommand 71 = .ok (.goto 138, 3) := by decide +kernel
theorem dX6_carryOutCommand_74 : decode cX6_carryOutCommand 74 = .ok (.aload_n 0, 1) := by decide +kernel
theorem dX6_carryOutCommand_75 : decode cX6_carryOutCommand 75 = .ok (.getfield 12, 3) := by decide +kernel
theorem dX6_carryOutCommand_78 : decode cX6_carryOutCommand 78 = .ok (.aload_n 0, 1) := by decide +kernel
theorem dX6_carryOutCommand_79 : decode cX6_carryOutCommand 79 = .ok (.getfield 54, 3) := by decide +kernel
theorem dX6_carryOutCommand_82 : decode cX6_carryOutCommand 82 = .ok (.invokevirtual 310, 3) := by decide +kernel
theorem dX6_carryOutCommand_85 : decode cX6_carryOutCommand 85 = .ok (.invokevirtual 96, 3) := by decide +kernel
theorem dX6_carryOutCommand_88 : decode cX6_carryOutCommand 88 = .ok (.pop, 1) := by decide +kernel
theorem dX6_carryOutCommand_89 : decode cX6_carryOutCommand 89 = .ok (.goto 120, 3) := by decide +kernel
theorem dX6_carryOutCommand_92 : decode cX6_carryOutCommand 92 = .ok (.aload_n 0, 1) := by decide +kernel
theorem dX6_carryOutCommand_93 : decode cX6_carryOutCommand 93 = .ok (.getfield 12, 3) := by decide +kernel
theorem dX6_carryOutCommand_96 : decode cX6_carryOutCommand 96 = .ok (.aload_n 0, 1) := by decide +kernel
theorem dX6_carryOutCommand_97 : decode cX6_carryOutCommand 97 = .ok (.getfield 54, 3) := by decide +kernel
theorem dX6_carryOutCommand_100 : decode cX6_carryOutCommand 100 = .ok (.invokevirtual 310, 3) := by decide +kernel
theorem dX6_carryOutCommand_103 : decode cX6_carryOutCommand 103 = .ok (.invokevirtual 102, 3) := by decide +kernel
theorem dX6_carryOutCommand_106 : decode cX6_carryOutCommand 106 = .ok (.pop, 1) := by decide +kernel
theorem dX6_carryOutCommand_107 : decode cX6_carryOutCommand 107 = .ok (.goto 102, 3) := by decide +kernel
theorem dX6_carryOutCommand_110 : decode cX6_carryOutCommand 110 = .ok (.aload_n 0, 1) := by decide +kernel
theorem dX6_carryOutCommand_111 : decode cX6_carryOutCommand 111 = .ok (.getfield 12, 3) := by decide +kernel
theorem dX6_carryOutCommand_114 : decode cX6_carryOutCommand 114 = .ok (.aload_n 0, 1) := by decide +kernel
theorem dX6_carryOutCommand_115 : decode cX6_carryOutCommand 115 = .ok (.getfield 54, 3) := by decide +kernel
theorem dX6_carryOutCommand_118 : decode cX6_carryOutCommand 118 = .ok (.invokevirtual 310, 3) := by decide +kernel
theorem dX6_carryOutCommand_121 : decode cX6_carryOutCommand 121 = .ok (.iconst 1, 1) := by decide +kernel
theorem dX6_carryOutCommand_122 : decode cX6_carryOutCommand 122 = .ok (.invokevirtual 131, 3) := by decide +kernel
theorem dX6_carryOutCommand_125 : decode cX6_carryOutCommand 125 = .ok (.pop, 1) := by decide +kernel
theorem dX6_carryOutCommand_126 : decode cX6_carryOutCommand 126 = .ok (.goto 83, 3) := by decide +kernel
theorem dX6_carryOutCommand_129 : decode cX6_carryOutCommand 129 = .ok (.aload_n 0, 1) := by decide +kernel
theorem dX6_carryOutCommand_130 : decode cX6_carryOutCommand 130 = .ok (.getfield 12, 3) := by decide +kernel
theorem dX6_carryOutCommand_133 : decode cX6_carryOutCommand 133 = .ok (.aload_n 0, 1) := by decide +kernel
theorem dX6_carryOutCommand_134 : decode cX6_carryOutCommand 134 = .ok (.getfield 54, 3) := by decide +kernel
theorem dX6_carryOutCommand_137 : decode cX6_carryOutCommand 137 = .ok (.invokevirtual 310, 3) := by decide +kernel
theorem dX6_carryOutCommand_140 : decode cX6_carryOutCommand 140 = .ok (.iconst 0, 1) := by decide +kernel
theorem dX6_carryOutCommand_141 : decode cX6_carryOutCommand 141 = .ok (.invokevirtual 131, 3) := by decide +kernel
theorem dX6_carryOutCommand_144 : decode cX6_carryOutCommand 144 = .ok (.pop, 1) := by decide +kernel
theorem dX6_carryOutCommand_145 : decode cX6_carryOutCommand 145 = .ok (.goto 64, 3) := by decide +kernel
theorem dX6_carryOutCommand_148 : decode cX6_carryOutCommand 148 = .ok (.aload_n 0, 1) := by decide +kernel
theorem dX6_carryOutCommand_149 : decode cX6_carryOutCommand 149 = .ok (.getfield 12, 3) := by decide +kernel
theorem dX6_carryOutCommand_152 : decode cX6_carryOutCommand 152 = .ok (.aload_n 0, 1) := by decide +kernel
theorem dX6_carryOutCommand_153 : decode cX6_carryOutCommand 153 = .ok (.getfield 54, 3) := by decide +kernel
theorem dX6_carryOutCommand_156 : decode cX6_carryOutCommand 156 = .ok (.invokevirtual 310, 3) := by decide +kernel
theorem dX6_carryOutCommand_159 : decode cX6_carryOutCommand 159 = .ok (.invokevirtual 144, 3) := by decide +kernel
theorem dX6_carryOutCommand_162 : decode cX6_carryOutCommand 162 = .ok (.pop, 1) := by decide +kernel
theorem dX6_carryOutCommand_163 : decode cX6_carryOutCommand 163 = .ok (.goto 46, 3) := by decide +kernel
theorem dX6_carryOutCommand_166 : decode cX6_carryOutCommand 166 = .ok (.aload_n 0, 1) := by decide +kernel
theorem dX6_carryOutCommand_167 : decode cX6_carryOutCommand 167 = .ok (.getfield 12, 3) := by decide +kernel
theorem dX6_carryOutCommand_170 : decode cX6_carryOutCommand 170 = .ok (.aload_n 0, 1) := by decide +kernel
theorem dX6_carryOutCommand_171 : decode cX6_carryOutCommand 171 = .ok (.getfield 54, 3) := by decide +kernel
theorem dX6_carryOutCommand_174 : decode cX6_carryOutCommand 174 = .ok (.invokevirtual 310, 3) := by decide +kernel
theorem dX6_carryOutCommand_177 : decode cX6_carryOutCommand 177 = .ok (.aload_n 0, 1) := by decide +kernel
theorem dX6_carryOutCommand_178 : decode cX6_carryOutCommand 178 = .ok (.getfield 54, 3) := by decide +kernel
theorem dX6_carryOutCommand_181 : decode cX6_carryOutCommand 181 = .ok (.invokevirtual 313, 3) := by decide +kernel
theorem dX6_carryOutCommand_184 : decode cX6_carryOutCommand 184 = .ok (.aload_n 0, 1) := by decide +kernel
theorem dX6_carryOutCommand_185 : decode cX6_carryOutCommand 185 = .ok (.getfield 54, 3) := by decide +kernel
theorem dX6_carryOutCommand_188 : decode cX6_carryOutCommand 188 = .ok (.invokevirtual 316, 3) := by decide +kernel
theorem dX6_carryOutCommand_191 : decode cX6_carryOutCommand 191 = .ok (.aload_n 0, 1) := by decide +kernel
theorem dX6_carryOutCommand_192 : decode cX6_carryOutCommand 192 = .ok (.getfield 54, 3) := by decide +kernel
theorem dX6_carryOutCommand_195 : decode cX6_carryOutCommand 195 = .ok (.invokevirtual 319, 3) := by decide +kernel
theorem dX6_carryOutCommand_198 : decode cX6_carryOutCommand 198 = .ok (.aload_n 0, 1) := by decide +kernel
theorem dX6_carryOutCommand_199 : decode cX6_carryOutCommand 199 = .ok (.getfield 54, 3) := by decide +kernel
theorem dX6_carryOutCommand_202 : decode cX6_carryOutCommand 202 = .ok (.invokevirtual 322, 3) := by decide +kernel
theorem dX6_carryOutCommand_205 : decode cX6_carryOutCommand 205 = .ok (.invokevirtual 89, 3) := by decide +kernel
theorem dX6_carryOutCommand_208 : decode cX6_carryOutCommand 208 = .ok (.pop, 1) := by decide +kernel
theorem dX6_carryOutCommand_209 : decode cX6_carryOutCommand 209 = .ok (.return_, 1) := by decide +kernel
theorem dX6_mostOf_0 : decode cX6_mostOf 0 = .ok (.iload_n 0, 1) := by decide +kernel
theorem dX6_mostOf_1 : decode cX6_mostOf 1 = .ok (.tableswitch 34 0 2 #[27, 29, 31], 27) := by decide +kernel
theorem dX6_mostOf_28 : decode cX6_mostOf 28 = .ok (.iconst 1, 1) := by decide +kernel
theorem dX6_mostOf_29 : decode cX6_mostOf 29 = .ok (.ireturn, 1) := by decide +kernel
theorem dX6_mostOf_30 : decode cX6_mostOf 30 = .ok (.iconst 4, 1) := by decide +kernel
theorem dX6_mostOf_31 : decode cX6_mostOf 31 = .ok (.ireturn, 1) := by decide +kernel
theorem dX6_mostOf_32 : decode cX6_mostOf 32 = .ok (.bipush 12, 2) := by decide +kernel
theorem dX6_mostOf_34 : decode cX6_mostOf 34 = .ok (.ireturn, 1) := by decide +kernel
theorem dX6_mostOf_35 : decode cX6_mostOf 35 = .ok (.iconst 0, 1) := by decide +kernel
theorem dX6_mostOf_36 : decode cX6_mostOf 36 = .ok (.ireturn, 1) := by decide +kernel
theorem dX6_coinsOf_0 : decode cX6_coinsOf 0 = .ok (.iload_n 0, 1) := by decide +kernel
theorem dX6_coinsOf_1 : decode cX6_coinsOf 1 = .ok (.tableswitch 34 0 2 #[27, 30, 32], 27) := by decide +kernel
theorem dX6_coinsOf_28 : decode cX6_coinsOf 28 = .ok (.bipush 6, 2) := by decide +kernel
theorem dX6_coinsOf_30 : decode cX6_coinsOf 30 = .ok (.ireturn, 1) := by decide +kernel
theorem dX6_coinsOf_31 : decode cX6_coinsOf 31 = .ok (.iconst 2, 1) := by decide +kernel
theorem dX6_coinsOf_32 : decode cX6_coinsOf 32 = .ok (.ireturn, 1) := by decide +kernel
theorem dX6_coinsOf_33 : decode cX6_coinsOf 33 = .ok (.iconst 1, 1) := by decide +kernel
theorem dX6_coinsOf_34 : decode cX6_coinsOf 34 = .ok (.ireturn, 1) := by decide +kernel
theorem dX6_coinsOf_35 : decode cX6_coinsOf 35 = .ok (.iconst 0, 1) := by decide +kernel
theorem dX6_coinsOf_36 : decode cX6_coinsOf 36 = .ok (.ireturn, 1) := by decide +kernel
theorem dX6_ofTour_0 : decode cX6_ofTour 0 = .ok (.bipush 14, 2) := by decide +kernel
theorem dX6_ofTour_2 : decode cX6_ofTour 2 = .ok (.iload_n 0, 1) := by decide +kernel
theorem dX6_ofTour_3 : decode cX6_ofTour 3 = .ok (.bipush 9, 2) := by decide +kernel
theorem dX6_ofTour_5 : decode cX6_ofTour 5 = .ok (.imul, 1) := by decide +kernel
theorem dX6_ofTour_6 : decode cX6_ofTour 6 = .ok (.iadd, 1) := by decide +kernel
theorem dX6_ofTour_7 : decode cX6_ofTour 7 = .ok (.iload_n 1, 1) := by decide +kernel
theorem dX6_ofTour_8 : decode cX6_ofTour 8 = .ok (.iadd, 1) := by decide +kernel
theorem dX6_ofTour_9 : decode cX6_ofTour 9 = .ok (.ireturn, 1) := by decide +kernel
theorem dX6_ofStep_0 : decode cX6_ofStep 0 = .ok (.bipush 68, 2) := by decide +kernel
theorem dX6_ofStep_2 : decode cX6_ofStep 2 = .ok (.iload_n 0, 1) := by decide +kernel
theorem dX6_ofStep_3 : decode cX6_ofStep 3 = .ok (.bipush 8, 2) := by decide +kernel
theorem dX6_ofStep_5 : decode cX6_ofStep 5 = .ok (.imul, 1) := by decide +kernel
theorem dX6_ofStep_6 : decode cX6_ofStep 6 = .ok (.iload_n 1, 1) := by decide +kernel
theorem dX6_ofStep_7 : decode cX6_ofStep 7 = .ok (.iadd, 1) := by decide +kernel
theorem dX6_ofStep_8 : decode cX6_ofStep 8 = .ok (.iconst 5, 1) := by decide +kernel
theorem dX6_ofStep_9 : decode cX6_ofStep 9 = .ok (.imul, 1) := by decide +kernel
theorem dX6_ofStep_10 : decode cX6_ofStep 10 = .ok (.iadd, 1) := by decide +kernel
theorem dX6_ofStep_11 : decode cX6_ofStep 11 = .ok (.iload_n 2, 1) := by decide +kernel
theorem dX6_ofStep_12 : decode cX6_ofStep 12 = .ok (.iadd, 1) := by decide +kernel
theorem dX6_ofStep_13 : decode cX6_ofStep 13 = .ok (.ireturn, 1) := by decide +kernel
theorem dX6_ofTown_0 : decode cX6_ofTown 0 = .ok (.sipush 308, 3) := by decide +kernel
theorem dX6_ofTown_3 : decode cX6_ofTown 3 = .ok (.iload_n 0, 1) := by decide +kernel
theorem dX6_ofTown_4 : decode cX6_ofTown 4 = .ok (.iconst 4, 1) := by decide +kernel
theorem dX6_ofTown_5 : decode cX6_ofTown 5 = .ok (.imul, 1) := by decide +kernel
theorem dX6_ofTown_6 : decode cX6_ofTown 6 = .ok (.iadd, 1) := by decide +kernel
theorem dX6_ofTown_7 : decode cX6_ofTown 7 = .ok (.iload_n 1, 1) := by decide +kernel
theorem dX6_ofTown_8 : decode cX6_ofTown 8 = .ok (.iadd, 1) := by decide +kernel
theorem dX6_ofTown_9 : decode cX6_ofTown 9 = .ok (.ireturn, 1) := by decide +kernel
theorem dX6_ofLeft_0 : decode cX6_ofLeft 0 = .ok (.sipush 328, 3) := by decide +kernel
theorem dX6_ofLeft_3 : decode cX6_ofLeft 3 = .ok (.iload_n 0, 1) := by decide +kernel
theorem dX6_ofLeft_4 : decode cX6_ofLeft 4 = .ok (.iconst 5, 1) := by decide +kernel
theorem dX6_ofLeft_5 : decode cX6_ofLeft 5 = .ok (.imul, 1) := by decide +kernel
theorem dX6_ofLeft_6 : decode cX6_ofLeft 6 = .ok (.iload_n 1, 1) := by decide +kernel
theorem dX6_ofLeft_7 : decode cX6_ofLeft 7 = .ok (.iadd, 1) := by decide +kernel
theorem dX6_ofLeft_8 : decode cX6_ofLeft 8 = .ok (.bipush 20, 2) := by decide +kernel
theorem dX6_ofLeft_10 : decode cX6_ofLeft 10 = .ok (.imul, 1) := by decide +kernel
theorem dX6_ofLeft_11 : decode cX6_ofLeft 11 = .ok (.iadd, 1) := by decide +kernel
theorem dX6_ofLeft_12 : decode cX6_ofLeft 12 = .ok (.iload_n 2, 1) := by decide +kernel
theorem dX6_ofLeft_13 : decode cX6_ofLeft 13 = .ok (.iadd, 1) := by decide +kernel
theorem dX6_ofLeft_14 : decode cX6_ofLeft 14 = .ok (.ireturn, 1) := by decide +kernel
set_option maxRecDepth 20000 in
theorem ggX6_findStep_X6_ofTour : GoodIn wsX6_findStep wsX6_ofTour := goodIn_r _ [4] (by decide +kernel) (by decide +kernel)
set_option maxRecDepth 20000 in
theorem gX6_findStep_X6_ofTour : GoodIn wsX6_findStep (va_wsS RX6 112 yX6_ofTour wsX6_ofTour) := goodIn_app (goodIn_of _ (by decide +kernel)) ggX6_findStep_X6_ofTour
set_option maxRecDepth 20000 in
theorem ggX6_findStep_X0_get : GoodIn wsX6_findStep wsX0_get := goodIn_ca (goodIn_r _ [9, 10, 14] (by decide +kernel) (by decide +kernel)) (goodIn_sub (fun _ h => List.mem_cons_of_mem _ (List.mem_append_right _ h)) (by decide +kernel))
set_option maxRecDepth 20000 in
theorem gX6_findStep_X0_get : GoodIn wsX6_findStep (wsV RX6 116 RX0 yX0_get wsX0_get) := goodIn_app (goodIn_of _ (by decide +kernel)) ggX6_findStep_X0_get
set_option maxRecDepth 20000 in
theorem ggX6_findStep_X6_ofStep : GoodIn wsX6_findStep wsX6_ofStep := goodIn_r _ [13] (by decide +kernel) (by decide +kernel)
set_option maxRecDepth 20000 in
theorem gX6_findStep_X6_ofStep : GoodIn wsX6_findStep (va_wsS RX6 123 yX6_ofStep wsX6_ofStep) := goodIn_app (goodIn_of _ (by decide +kernel)) ggX6_findStep_X6_ofStep
theorem dX6_findStep_0 : decode cX6_findStep 0 = .ok (.iconst 0, 1) := by decide +kernel
theorem dX6_findStep_1 : decode cX6_findStep 1 = .ok (.istore 5, 2) := by decide +kernel
theorem dX6_findStep_3 : decode cX6_findStep 3 = .ok (.iload 5, 2) := by decide +kernel
theorem dX6_findStep_5 : decode cX6_findStep 5 = .ok (.aload_n 0, 1) := by decide +kernel
theorem dX6_findStep_6 : decode cX6_findStep 6 = .ok (.iload_n 1, 1) := by decide +kernel
theorem dX6_findStep_7 : decode cX6_findStep 7 = .ok (.iconst 2, 1) := by decide +kernel
theorem dX6_findStep_8 : decode cX6_findStep 8 = .ok (.invokestatic 112, 3) := by decide +kernel
theorem dX6_findStep_11 : decode cX6_findStep 11 = .ok (.invokevirtual 116, 3) := by decide +kernel
theorem dX6_findStep_14 : decode cX6_findStep 14 = .ok (.if_icmp .ge 82, 3) := by decide +kernel
theorem dX6_findStep_17 : decode cX6_findStep 17 = .ok (.aload_n 0, 1) := by decide +kernel
theorem dX6_findStep_18 : decode cX6_findStep 18 = .ok (.iload_n 1, 1) := by decide +kernel
theorem dX6_findStep_19 : decode cX6_findStep 19 = .ok (.iload 5, 2) := by decide +kernel
theorem dX6_findStep_21 : decode cX6_findStep 21 = .ok (.iconst 0, 1) := by decide +kernel
theorem dX6_findStep_22 : decode cX6_findStep 22 = .ok (.invokestatic 123, 3) := by decide +kernel
theorem dX6_findStep_25 : decode cX6_findStep 25 = .ok (.invokevirtual 116, 3) := by decide +kernel
theorem dX6_findStep_28 : decode cX6_findStep 28 = .ok (.iload_n 2, 1) := by decide +kernel
theorem dX6_findStep_29 : decode cX6_findStep 29 = .ok (.if_icmp .ne 7, 3) := by decide +kernel
theorem dX6_findStep_32 : decode cX6_findStep 32 = .ok (.iconst 1, 1) := by decide +kernel
theorem dX6_findStep_33 : decode cX6_findStep 33 = .ok (.goto 4, 3) := by decide +kernel
theorem dX6_findStep_36 : decode cX6_findStep 36 = .ok (.iconst 0, 1) := by decide +kernel
theorem dX6_findStep_37 : decode cX6_findStep 37 = .ok (.istore 6, 2) := by decide +kernel
theorem dX6_findStep_39 : decode cX6_findStep 39 = .ok (.aload_n 0, 1) := by decide +kernel
theorem dX6_findStep_40 : decode cX6_findStep 40 = .ok (.iload_n 1, 1) := by decide +kernel
theorem dX6_findStep_41 : decode cX6_findStep 41 = .ok (.iload 5, 2) := by decide +kernel
theorem dX6_findStep_43 : decode cX6_findStep 43 = .ok (.iconst 1, 1) := by decide +kernel
theorem dX6_findStep_44 : decode cX6_findStep 44 = .ok (.invokestatic 123, 3) := by decide +kernel
theorem dX6_findStep_47 : decode cX6_findStep 47 = .ok (.invokevirtual 116, 3) := by decide +kernel
theorem dX6_findStep_50 : decode cX6_findStep 50 = .ok (.iload_n 3, 1) := by decide +kernel
theorem dX6_findStep_51 : decode cX6_findStep 51 = .ok (.if_icmp .ne 7, 3) := by decide +kernel
theorem dX6_findStep_54 : decode cX6_findStep 54 = .ok (.iconst 1, 1) := by decide +kernel
theorem dX6_findStep_55 : decode cX6_findStep 55 = .ok (.goto 4, 3) := by decide +kernel
theorem dX6_findStep_58 : decode cX6_findStep 58 = .ok (.iconst 0, 1) := by decide +kernel
theorem dX6_findStep_59 : decode cX6_findStep 59 = .ok (.istore 7, 2) := by decide +kernel
theorem dX6_findStep_61 : decode cX6_findStep 61 = .ok (.iload 6, 2) := by decide +kernel
theorem dX6_findStep_63 : decode cX6_findStep 63 = .ok (.ifCond .eq 27, 3) := by decide +kernel
theorem dX6_findStep_66 : decode cX6_findStep 66 = .ok (.iload 7, 2) := by decide +kernel
theorem dX6_findStep_68 : decode cX6_findStep 68 = .ok (.ifCond .eq 22, 3) := by decide +kernel
theorem dX6_findStep_71 : decode cX6_findStep 71 = .ok (.aload_n 0, 1) := by decide +kernel
theorem dX6_findStep_72 : decode cX6_findStep 72 = .ok (.iload_n 1, 1) := by decide +kernel
theorem dX6_findStep_73 : decode cX6_findStep 73 = .ok (.iload 5, 2) := by decide +kernel
theorem dX6_findStep_75 : decode cX6_findStep 75 = .ok (.iconst 2, 1) := by decide +kernel
theorem dX6_findStep_76 : decode cX6_findStep 76 = .ok (.invokestatic 123, 3) := by decide +kernel
theorem dX6_findStep_79 : decode cX6_findStep 79 = .ok (.invokevirtual 116, 3) := by decide +kernel
theorem dX6_findStep_82 : decode cX6_findStep 82 = .ok (.iload 4, 2) := by decide +kernel
theorem dX6_findStep_84 : decode cX6_findStep 84 = .ok (.if_icmp .ne 6, 3) := by decide +kernel
theorem dX6_findStep_87 : decode cX6_findStep 87 = .ok (.iload 5, 2) := by decide +kernel
theorem dX6_findStep_89 : decode cX6_findStep 89 = .ok (.ireturn, 1) := by decide +kernel
theorem dX6_findStep_90 : decode cX6_findStep 90 = .ok (.iinc 5 1, 3) := by decide +kernel
theorem dX6_findStep_93 : decode cX6_findStep 93 = .ok (.goto (-90), 3) := by decide +kernel
theorem dX6_findStep_96 : decode cX6_findStep 96 = .ok (.iconst (-1), 1) := by decide +kernel
theorem dX6_findStep_97 : decode cX6_findStep 97 = .ok (.ireturn, 1) := by decide +kernel
theorem dX6_wordOf_0 : decode cX6_wordOf 0 = .ok (.iload_n 0, 1) := by decide +kernel
theorem dX6_wordOf_1 : decode cX6_wordOf 1 = .ok (.tableswitch 79 0 7 #[47, 51, 55, 59, 63, 67, 71, 75], 47) := by decide +kernel
theorem dX6_wordOf_48 : decode cX6_wordOf 48 = .ok (.ldc_w 325, 3) := by decide +kernel
theorem dX6_wordOf_51 : decode cX6_wordOf 51 = .ok (.areturn, 1) := by decide +kernel
theorem dX6_wordOf_52 : decode cX6_wordOf 52 = .ok (.ldc_w 327, 3) := by decide +kernel
theorem dX6_wordOf_55 : decode cX6_wordOf 55 = .ok (.areturn, 1) := by decide +kernel
theorem dX6_wordOf_56 : decode cX6_wordOf 56 = .ok (.ldc_w 329, 3) := by decide +kernel
theorem dX6_wordOf_59 : decode cX6_wordOf 59 = .ok (.areturn, 1) := by decide +kernel
theorem dX6_wordOf_60 : decode cX6_wordOf 60 = .ok (.ldc_w 331, 3) := by decide +kernel
theorem dX6_wordOf_63 : decode cX6_wordOf 63 = .ok (.areturn, 1) := by decide +kernel
theorem dX6_wordOf_64 : decode cX6_wordOf 64 = .ok (.ldc_w 333, 3) := by decide +kernel
theorem dX6_wordOf_67 : decode cX6_wordOf 67 = .ok (.areturn, 1) := by decide +kernel
theorem dX6_wordOf_68 : decode cX6_wordOf 68 = .ok (.ldc_w 335, 3) := by decide +kernel
theorem dX6_wordOf_71 : decode cX6_wordOf 71 = .ok (.areturn, 1) := by decide +kernel
theorem dX6_wordOf_72 : decode cX6_wordOf 72 = .ok (.ldc_w 337, 3) := by decide +kernel
theorem dX6_wordOf_75 : decode cX6_wordOf 75 = .ok (.areturn, 1) := by decide +kernel
theorem dX6_wordOf_76 : decode cX6_wordOf 76 = .ok (.ldc_w 339, 3) := by decide +kernel
theorem dX6_wordOf_79 : decode cX6_wordOf 79 = .ok (.areturn, 1) := by decide +kernel
theorem dX6_wordOf_80 : decode cX6_wordOf 80 = .ok (.ldc_w 341, 3) := by decide +kernel
theorem dX6_wordOf_83 : decode cX6_wordOf 83 = .ok (.areturn, 1) := by decide +kernel
set_option maxRecDepth 20000 in
theorem ggJ5_init_d00df_J2_newBytesFor_77867 : GoodIn wsJ5_init_d00df wsJ2_newBytesFor_77867 := goodIn_r _ [11, 5, 12, 13, 10, 14, 15] (by decide +kernel) (by decide +kernel)
set_option maxRecDepth 20000 in
theorem gJ5_init_d00df_J2_newBytesFor_77867 : GoodIn wsJ5_init_d00df (va_wsS RJ5 26 yJ2_newBytesFor_77867 wsJ2_newBytesFor_77867) := goodIn_app (goodIn_of _ (by decide +kernel)) ggJ5_init_d00df_J2_newBytesFor_77867
theorem dJ5_init_d00df_0 : decode cJ5_init_d00df 0 = .ok (.aload_n 0, 1) := by decide +kernel
theorem dJ5_init_d00df_1 : decode cJ5_init_d00df 1 = .ok (.invokespecial 3, 3) := by decide +kernel
theorem dJ5_init_d00df_4 : decode cJ5_init_d00df 4 = .ok (.getstatic 18, 3) := by decide +kernel
theorem dJ5_init_d00df_7 : decode cJ5_init_d00df 7 = .ok (.ifCond .eq 18, 3) := by decide +kernel
theorem dJ5_init_d00df_10 : decode cJ5_init_d00df 10 = .ok (.aload_n 0, 1) := by decide +kernel
theorem dJ5_init_d00df_11 : decode cJ5_init_d00df 11 = .ok (.iload_n 1, 1) := by decide +kernel
theorem dJ5_init_d00df_12 : decode cJ5_init_d00df 12 = .ok (.newarray .byte, 2) := by decide +kernel
theorem dJ5_init_d00df_14 : decode cJ5_init_d00df 14 = .ok (.putfield 15, 3) := by decide +kernel
theorem dJ5_init_d00df_17 : decode cJ5_init_d00df 17 = .ok (.aload_n 0, 1) := by decide +kernel
theorem dJ5_init_d00df_18 : decode cJ5_init_d00df 18 = .ok (.iconst 0, 1) := by decide +kernel
theorem dJ5_init_d00df_19 : decode cJ5_init_d00df 19 = .ok (.putfield 22, 3) := by decide +kernel
theorem dJ5_init_d00df_22 : decode cJ5_init_d00df 22 = .ok (.goto 16, 3) := by decide +kernel
theorem dJ5_init_d00df_25 : decode cJ5_init_d00df 25 = .ok (.aload_n 0, 1) := by decide +kernel
theorem dJ5_init_d00df_26 : decode cJ5_init_d00df 26 = .ok (.iload_n 1, 1) := by decide +kernel
theorem dJ5_init_d00df_27 : decode cJ5_init_d00df 27 = .ok (.invokestatic 26, 3) := by decide +kernel
theorem dJ5_init_d00df_30 : decode cJ5_init_d00df 30 = .ok (.putfield 15, 3) := by decide +kernel
theorem dJ5_init_d00df_33 : decode cJ5_init_d00df 33 = .ok (.aload_n 0, 1) := by decide +kernel
theorem dJ5_init_d00df_34 : decode cJ5_init_d00df 34 = .ok (.iconst 1, 1) := by decide +kernel
theorem dJ5_init_d00df_35 : decode cJ5_init_d00df 35 = .ok (.putfield 22, 3) := by decide +kernel
theorem dJ5_init_d00df_38 : decode cJ5_init_d00df 38 = .ok (.return_, 1) := by decide +kernel
theorem dJ5_length_8abf5_0 : decode cJ5_length_8abf5 0 = .ok (.aload_n 0, 1) := by decide +kernel
theorem dJ5_length_8abf5_1 : decode cJ5_length_8abf5 1 = .ok (.getfield 79, 3) := by decide +kernel
theorem dJ5_length_8abf5_4 : decode cJ5_length_8abf5 4 = .ok (.ireturn, 1) := by decide +kernel
set_option maxRecDepth 20000 in
theorem ggJ5_ensureCapacityInternal_d00df_J5_newCapacity_0f7a4 : GoodIn wsJ5_ensureCapacityInternal_d00df wsJ5_newCapacity_0f7a4 := goodIn_r _ [8, 1, 2, 9, 10, 11, 12, 13, 14, 15, 16, 17, 18, 19, 20, 21, 40, 41, 42, 43] (by decide +kernel) (by decide +kernel)
set_option maxRecDepth 20000 in
theorem gJ5_ensureCapacityInternal_d00df_J5_newCapacity_0f7a4_u104J4 : GoodIn wsJ5_ensureCapacityInternal_d00df (va_wsU RJ5 104 RJ4 "java/lang/AbstractStringBuilder" ⟨"java/lang/AbstractStringBuilder", "newCapacity", "(I)I"⟩ yJ5_newCapacity_0f7a4 wsJ5_newCapacity_0f7a4) := goodIn_app (goodIn_of _ (by decide +kernel)) ggJ5_ensureCapacityInternal_d00df_J5_newCapacity_0f7a4
set_option maxRecDepth 20000 in
theorem ggJ5_ensureCapacityInternal_d00df_J7_copyOf_9075b : GoodIn wsJ5_ensureCapacityInternal_d00df wsJ7_copyOf_9075b := goodIn_r _ [25, 26, 27, 28, 29, 30, 31, 32, 33, 34, 16, 35, 36, 37, 38, 39] (by decide +kernel) (by decide +kernel)
set_option maxRecDepth 20000 in
theorem gJ5_ensureCapacityInternal_d00df_J7_copyOf_9075b : GoodIn wsJ5_ensureCapacityInternal_d00df (va_wsS RJ5 108 yJ7_copyOf_9075b wsJ7_copyOf_9075b) := goodIn_app (goodIn_of _ (by decide +kernel)) ggJ5_ensureCapacityInternal_d00df_J7_copyOf_9075b
theorem dJ5_ensureCapacityInternal_d00df_0 : decode cJ5_ensureCapacityInternal_d00df 0 = .ok (.aload_n 0, 1) := by decide +kernel
theorem dJ5_ensureCapacityInternal_d00df_1 : decode cJ5_ensureCapacityInternal_d00df 1 = .ok (.getfield 15, 3) := by decide +kernel
theorem dJ5_ensureCapacityInternal_d00df_4 : decode cJ5_ensureCapacityInternal_d00df 4 = .ok (.arraylength, 1) := by decide +kernel
theorem dJ5_ensureCapacityInternal_d00df_5 : decode cJ5_ensureCapacityInternal_d00df 5 = .ok (.aload_n 0, 1) := by decide +kernel
theorem dJ5_ensureCapacityInternal_d00df_6 : decode cJ5_ensureCapacityInternal_d00df 6 = .ok (.getfield 22, 3) := by decide +kernel
theorem dJ5_ensureCapacityInternal_d00df_9 : decode cJ5_ensureCapacityInternal_d00df 9 = .ok (.ishr, 1) := by decide +kernel
theorem dJ5_ensureCapacityInternal_d00df_10 : decode cJ5_ensureCapacityInternal_d00df 10 = .ok (.istore_n 2, 1) := by decide +kernel
theorem dJ5_ensureCapacityInternal_d00df_11 : decode cJ5_ensureCapacityInternal_d00df 11 = .ok (.iload_n 1, 1) := by decide +kernel
theorem dJ5_ensureCapacityInternal_d00df_12 : decode cJ5_ensureCapacityInternal_d00df 12 = .ok (.iload_n 2, 1) := by decide +kernel
theorem dJ5_ensureCapacityInternal_d00df_13 : decode cJ5_ensureCapacityInternal_d00df 13 = .ok (.isub, 1) := by decide +kernel
theorem dJ5_ensureCapacityInternal_d00df_14 : decode cJ5_ensureCapacityInternal_d00df 14 = .ok (.ifCond .le 24, 3) := by decide +kernel
theorem dJ5_ensureCapacityInternal_d00df_17 : decode cJ5_ensureCapacityInternal_d00df 17 = .ok (.aload_n 0, 1) := by decide +kernel
theorem dJ5_ensureCapacityInternal_d00df_18 : decode cJ5_ensureCapacityInternal_d00df 18 = .ok (.aload_n 0, 1) := by decide +kernel
theorem dJ5_ensureCapacityInternal_d00df_19 : decode cJ5_ensureCapacityInternal_d00df 19 = .ok (.getfield 15, 3) := by decide +kernel
theorem dJ5_ensureCapacityInternal_d00df_22 : decode cJ5_ensureCapacityInternal_d00df 22 = .ok (.aload_n 0, 1) := by decide +kernel
theorem dJ5_ensureCapacityInternal_d00df_23 : decode cJ5_ensureCapacityInternal_d00df 23 = .ok (.iload_n 1, 1) := by decide +kernel
theorem dJ5_ensureCapacityInternal_d00df_24 : decode cJ5_ensureCapacityInternal_d00df 24 = .ok (.invokevirtual 104, 3) := by decide +kernel
theorem dJ5_ensureCapacityInternal_d00df_27 : decode cJ5_ensureCapacityInternal_d00df 27 = .ok (.aload_n 0, 1) := by decide +kernel
theorem dJ5_ensureCapacityInternal_d00df_28 : decode cJ5_ensureCapacityInternal_d00df 28 = .ok (.getfield 22, 3) := by decide +kernel
theorem dJ5_ensureCapacityInternal_d00df_31 : decode cJ5_ensureCapacityInternal_d00df 31 = .ok (.ishl, 1) := by decide +kernel
theorem dJ5_ensureCapacityInternal_d00df_32 : decode cJ5_ensureCapacityInternal_d00df 32 = .ok (.invokestatic 108, 3) := by decide +kernel
theorem dJ5_ensureCapacityInternal_d00df_35 : decode cJ5_ensureCapacityInternal_d00df 35 = .ok (.putfield 15, 3) := by decide +kernel
theorem dJ5_ensureCapacityInternal_d00df_38 : decode cJ5_ensureCapacityInternal_d00df 38 = .ok (.return_, 1) := by decide +kernel
set_option maxRecDepth 20000 in
theorem ggJ5_newCapacity_0f7a4_J8_newLength_cabcc : GoodIn wsJ5_newCapacity_0f7a4 wsJ8_newLength_cabcc := goodIn_r _ [7, 8, 9, 10, 11, 12, 13, 14, 6, 15] (by decide +kernel) (by decide +kernel)
set_option maxRecDepth 20000 in
theorem gJ5_newCapacity_0f7a4_J8_newLength_cabcc : GoodIn wsJ5_newCapacity_0f7a4 (va_wsS RJ5 114 yJ8_newLength_cabcc wsJ8_newLength_cabcc) := goodIn_app (goodIn_of _ (by decide +kernel)) ggJ5_newCapacity_0f7a4_J8_newLength_cabcc
theorem dJ5_newCapacity_0f7a4_0 : decode cJ5_newCapacity_0f7a4 0 = .ok (.aload_n 0, 1) := by decide +kernel
theorem dJ5_newCapacity_0f7a4_1 : decode cJ5_newCapacity_0f7a4 1 = .ok (.getfield 15, 3) := by decide +kernel
theorem dJ5_newCapacity_0f7a4_4 : decode cJ5_newCapacity_0f7a4 4 = .ok (.arraylength, 1) := by decide +kernel
theorem dJ5_newCapacity_0f7a4_5 : decode cJ5_newCapacity_0f7a4 5 = .ok (.istore_n 2, 1) := by decide +kernel
theorem dJ5_newCapacity_0f7a4_6 : decode cJ5_newCapacity_0f7a4 6 = .ok (.iload_n 1, 1) := by decide +kernel
theorem dJ5_newCapacity_0f7a4_7 : decode cJ5_newCapacity_0f7a4 7 = .ok (.aload_n 0, 1) := by decide +kernel
theorem dJ5_newCapacity_0f7a4_8 : decode cJ5_newCapacity_0f7a4 8 = .ok (.getfield 22, 3) := by decide +kernel
theorem dJ5_newCapacity_0f7a4_11 : decode cJ5_newCapacity_0f7a4 11 = .ok (.ishl, 1) := by decide +kernel
theorem dJ5_newCapacity_0f7a4_12 : decode cJ5_newCapacity_0f7a4 12 = .ok (.istore_n 3, 1) := by decide +kernel
theorem dJ5_newCapacity_0f7a4_13 : decode cJ5_newCapacity_0f7a4 13 = .ok (.iload_n 3, 1) := by decide +kernel
theorem dJ5_newCapacity_0f7a4_14 : decode cJ5_newCapacity_0f7a4 14 = .ok (.iload_n 2, 1) := by decide +kernel
theorem dJ5_newCapacity_0f7a4_15 : decode cJ5_newCapacity_0f7a4 15 = .ok (.isub, 1) := by decide +kernel
theorem dJ5_newCapacity_0f7a4_16 : decode cJ5_newCapacity_0f7a4 16 = .ok (.istore 4, 2) := by decide +kernel
theorem dJ5_newCapacity_0f7a4_18 : decode cJ5_newCapacity_0f7a4 18 = .ok (.iload_n 2, 1) := by decide +kernel
theorem dJ5_newCapacity_0f7a4_19 : decode cJ5_newCapacity_0f7a4 19 = .ok (.iload 4, 2) := by decide +kernel
theorem dJ5_newCapacity_0f7a4_21 : decode cJ5_newCapacity_0f7a4 21 = .ok (.iload_n 2, 1) := by decide +kernel
theorem dJ5_newCapacity_0f7a4_22 : decode cJ5_newCapacity_0f7a4 22 = .ok (.iconst 2, 1) := by decide +kernel
theorem dJ5_newCapacity_0f7a4_23 : decode cJ5_newCapacity_0f7a4 23 = .ok (.aload_n 0, 1) := by decide +kernel
theorem dJ5_newCapacity_0f7a4_24 : decode cJ5_newCapacity_0f7a4 24 = .ok (.getfield 22, 3) := by decide +kernel
