theorem dX2_giving_80 : decode cX2_giving 80 = .ok (.iload 4, 2) := by decide +kernel
theorem dX2_giving_82 : decode cX2_giving 82 = .ok (.iload 5, 2) := by decide +kernel
theorem dX2_giving_84 : decode cX2_giving 84 = .ok (.invokestatic 46, 3) := by decide +kernel
theorem dX2_giving_87 : decode cX2_giving 87 = .ok (.istore 8, 2) := by decide +kernel
theorem dX2_giving_89 : decode cX2_giving 89 = .ok (.iload 8, 2) := by decide +kernel
theorem dX2_giving_91 : decode cX2_giving 91 = .ok (.iconst (-1), 1) := by decide +kernel
theorem dX2_giving_92 : decode cX2_giving 92 = .ok (.if_icmp .eq 11, 3) := by decide +kernel
theorem dX2_giving_95 : decode cX2_giving 95 = .ok (.aload_n 0, 1) := by decide +kernel
theorem dX2_giving_96 : decode cX2_giving 96 = .ok (.iconst 5, 1) := by decide +kernel
theorem dX2_giving_97 : decode cX2_giving 97 = .ok (.iload 8, 2) := by decide +kernel
theorem dX2_giving_99 : decode cX2_giving 99 = .ok (.invokevirtual 28, 3) := by decide +kernel
theorem dX2_giving_102 : decode cX2_giving 102 = .ok (.ireturn, 1) := by decide +kernel
theorem dX2_giving_103 : decode cX2_giving 103 = .ok (.aload_n 1, 1) := by decide +kernel
theorem dX2_giving_104 : decode cX2_giving 104 = .ok (.iload_n 2, 1) := by decide +kernel
theorem dX2_giving_105 : decode cX2_giving 105 = .ok (.iconst 2, 1) := by decide +kernel
theorem dX2_giving_106 : decode cX2_giving 106 = .ok (.invokestatic 43, 3) := by decide +kernel
theorem dX2_giving_109 : decode cX2_giving 109 = .ok (.invokevirtual 22, 3) := by decide +kernel
theorem dX2_giving_112 : decode cX2_giving 112 = .ok (.bipush 8, 2) := by decide +kernel
theorem dX2_giving_114 : decode cX2_giving 114 = .ok (.if_icmp .ge 7, 3) := by decide +kernel
theorem dX2_giving_117 : decode cX2_giving 117 = .ok (.iconst 0, 1) := by decide +kernel
theorem dX2_giving_118 : decode cX2_giving 118 = .ok (.goto 10, 3) := by decide +kernel
theorem dX2_giving_121 : decode cX2_giving 121 = .ok (.aload_n 0, 1) := by decide +kernel
theorem dX2_giving_122 : decode cX2_giving 122 = .ok (.iconst 1, 1) := by decide +kernel
theorem dX2_giving_123 : decode cX2_giving 123 = .ok (.bipush 8, 2) := by decide +kernel
theorem dX2_giving_125 : decode cX2_giving 125 = .ok (.invokevirtual 28, 3) := by decide +kernel
theorem dX2_giving_128 : decode cX2_giving 128 = .ok (.ireturn, 1) := by decide +kernel
set_option maxRecDepth 20000 in
theorem ggX2_starting_X2_hasTour : GoodIn wsX2_starting wsX2_hasTour := goodIn_ca (goodIn_r _ [4, 5, 6, 7, 8, 9, 10, 11, 12, 13, 22] (by decide +kernel) (by decide +kernel)) (goodIn_sub (fun _ h => List.mem_cons_of_mem _ (List.mem_append_right _ h)) (by decide +kernel))
set_option maxRecDepth 20000 in
theorem gX2_starting_X2_hasTour : GoodIn wsX2_starting (va_wsS RX2 32 yX2_hasTour wsX2_hasTour) := goodIn_app (goodIn_of _ (by decide +kernel)) ggX2_starting_X2_hasTour
set_option maxRecDepth 20000 in
theorem ggX2_starting_X6_ofTour : GoodIn wsX2_starting wsX6_ofTour := goodIn_r _ [15] (by decide +kernel) (by decide +kernel)
set_option maxRecDepth 20000 in
theorem gX2_starting_X6_ofTour_n43 : GoodIn wsX2_starting (wsX6_ofTour) := ggX2_starting_X6_ofTour
set_option maxRecDepth 20000 in
theorem ggX2_starting_X0_get : GoodIn wsX2_starting wsX0_get := goodIn_ca (goodIn_r _ [9, 10, 22] (by decide +kernel) (by decide +kernel)) (goodIn_sub (fun _ h => List.mem_cons_of_mem _ (List.mem_append_right _ h)) (by decide +kernel))
set_option maxRecDepth 20000 in
theorem gX2_starting_X0_get : GoodIn wsX2_starting (wsV RX2 22 RX0 yX0_get wsX0_get) := goodIn_app (goodIn_of _ (by decide +kernel)) ggX2_starting_X0_get
set_option maxRecDepth 20000 in
theorem ggX2_starting_X2_refuse : GoodIn wsX2_starting wsX2_refuse := goodIn_r _ [19, 20, 21, 23, 24] (by decide +kernel) (by decide +kernel)
set_option maxRecDepth 20000 in
theorem gX2_starting_X2_refuse : GoodIn wsX2_starting (wsV RX2 28 RX2 yX2_refuse wsX2_refuse) := goodIn_app (goodIn_of _ (by decide +kernel)) ggX2_starting_X2_refuse
theorem dX2_starting_0 : decode cX2_starting 0 = .ok (.aload_n 1, 1) := by decide +kernel
theorem dX2_starting_1 : decode cX2_starting 1 = .ok (.iload_n 2, 1) := by decide +kernel
theorem dX2_starting_2 : decode cX2_starting 2 = .ok (.invokestatic 32, 3) := by decide +kernel
theorem dX2_starting_5 : decode cX2_starting 5 = .ok (.ifCond .ne 5, 3) := by decide +kernel
theorem dX2_starting_8 : decode cX2_starting 8 = .ok (.iconst (-1), 1) := by decide +kernel
theorem dX2_starting_9 : decode cX2_starting 9 = .ok (.ireturn, 1) := by decide +kernel
theorem dX2_starting_10 : decode cX2_starting 10 = .ok (.aload_n 1, 1) := by decide +kernel
theorem dX2_starting_11 : decode cX2_starting 11 = .ok (.iload_n 2, 1) := by decide +kernel
theorem dX2_starting_12 : decode cX2_starting 12 = .ok (.iconst 0, 1) := by decide +kernel
theorem dX2_starting_13 : decode cX2_starting 13 = .ok (.invokestatic 43, 3) := by decide +kernel
theorem dX2_starting_16 : decode cX2_starting 16 = .ok (.invokevirtual 22, 3) := by decide +kernel
theorem dX2_starting_19 : decode cX2_starting 19 = .ok (.istore_n 3, 1) := by decide +kernel
theorem dX2_starting_20 : decode cX2_starting 20 = .ok (.iload_n 3, 1) := by decide +kernel
theorem dX2_starting_21 : decode cX2_starting 21 = .ok (.ifCond .eq 10, 3) := by decide +kernel
theorem dX2_starting_24 : decode cX2_starting 24 = .ok (.aload_n 0, 1) := by decide +kernel
theorem dX2_starting_25 : decode cX2_starting 25 = .ok (.iconst 2, 1) := by decide +kernel
theorem dX2_starting_26 : decode cX2_starting 26 = .ok (.iload_n 3, 1) := by decide +kernel
theorem dX2_starting_27 : decode cX2_starting 27 = .ok (.invokevirtual 28, 3) := by decide +kernel
theorem dX2_starting_30 : decode cX2_starting 30 = .ok (.ireturn, 1) := by decide +kernel
theorem dX2_starting_31 : decode cX2_starting 31 = .ok (.aload_n 1, 1) := by decide +kernel
theorem dX2_starting_32 : decode cX2_starting 32 = .ok (.iload_n 2, 1) := by decide +kernel
theorem dX2_starting_33 : decode cX2_starting 33 = .ok (.iconst 2, 1) := by decide +kernel
theorem dX2_starting_34 : decode cX2_starting 34 = .ok (.invokestatic 43, 3) := by decide +kernel
theorem dX2_starting_37 : decode cX2_starting 37 = .ok (.invokevirtual 22, 3) := by decide +kernel
theorem dX2_starting_40 : decode cX2_starting 40 = .ok (.ifCond .le 7, 3) := by decide +kernel
theorem dX2_starting_43 : decode cX2_starting 43 = .ok (.iconst 0, 1) := by decide +kernel
theorem dX2_starting_44 : decode cX2_starting 44 = .ok (.goto 9, 3) := by decide +kernel
theorem dX2_starting_47 : decode cX2_starting 47 = .ok (.aload_n 0, 1) := by decide +kernel
theorem dX2_starting_48 : decode cX2_starting 48 = .ok (.iconst 3, 1) := by decide +kernel
theorem dX2_starting_49 : decode cX2_starting 49 = .ok (.iload_n 2, 1) := by decide +kernel
theorem dX2_starting_50 : decode cX2_starting 50 = .ok (.invokevirtual 28, 3) := by decide +kernel
theorem dX2_starting_53 : decode cX2_starting 53 = .ok (.ireturn, 1) := by decide +kernel
set_option maxRecDepth 20000 in
theorem ggX2_callingBack_X2_hasTour : GoodIn wsX2_callingBack wsX2_hasTour := goodIn_ca (goodIn_r _ [4, 5, 6, 7, 8, 9, 10, 11, 12, 13, 22] (by decide +kernel) (by decide +kernel)) (goodIn_sub (fun _ h => List.mem_cons_of_mem _ (List.mem_append_right _ h)) (by decide +kernel))
set_option maxRecDepth 20000 in
theorem gX2_callingBack_X2_hasTour : GoodIn wsX2_callingBack (va_wsS RX2 32 yX2_hasTour wsX2_hasTour) := goodIn_app (goodIn_of _ (by decide +kernel)) ggX2_callingBack_X2_hasTour
set_option maxRecDepth 20000 in
theorem ggX2_callingBack_X6_ofTour : GoodIn wsX2_callingBack wsX6_ofTour := goodIn_r _ [15] (by decide +kernel) (by decide +kernel)
set_option maxRecDepth 20000 in
theorem gX2_callingBack_X6_ofTour_n43 : GoodIn wsX2_callingBack (wsX6_ofTour) := ggX2_callingBack_X6_ofTour
set_option maxRecDepth 20000 in
theorem ggX2_callingBack_X0_get : GoodIn wsX2_callingBack wsX0_get := goodIn_ca (goodIn_r _ [9, 10, 22] (by decide +kernel) (by decide +kernel)) (goodIn_sub (fun _ h => List.mem_cons_of_mem _ (List.mem_append_right _ h)) (by decide +kernel))
set_option maxRecDepth 20000 in
theorem gX2_callingBack_X0_get : GoodIn wsX2_callingBack (wsV RX2 22 RX0 yX0_get wsX0_get) := goodIn_app (goodIn_of _ (by decide +kernel)) ggX2_callingBack_X0_get
set_option maxRecDepth 20000 in
theorem ggX2_callingBack_X2_refuse : GoodIn wsX2_callingBack wsX2_refuse := goodIn_r _ [19, 20, 21, 23, 24] (by decide +kernel) (by decide +kernel)
set_option maxRecDepth 20000 in
theorem gX2_callingBack_X2_refuse : GoodIn wsX2_callingBack (wsV RX2 28 RX2 yX2_refuse wsX2_refuse) := goodIn_app (goodIn_of _ (by decide +kernel)) ggX2_callingBack_X2_refuse
theorem dX2_callingBack_0 : decode cX2_callingBack 0 = .ok (.aload_n 1, 1) := by decide +kernel
theorem dX2_callingBack_1 : decode cX2_callingBack 1 = .ok (.iload_n 2, 1) := by decide +kernel
theorem dX2_callingBack_2 : decode cX2_callingBack 2 = .ok (.invokestatic 32, 3) := by decide +kernel
theorem dX2_callingBack_5 : decode cX2_callingBack 5 = .ok (.ifCond .ne 5, 3) := by decide +kernel
theorem dX2_callingBack_8 : decode cX2_callingBack 8 = .ok (.iconst (-1), 1) := by decide +kernel
theorem dX2_callingBack_9 : decode cX2_callingBack 9 = .ok (.ireturn, 1) := by decide +kernel
theorem dX2_callingBack_10 : decode cX2_callingBack 10 = .ok (.aload_n 1, 1) := by decide +kernel
theorem dX2_callingBack_11 : decode cX2_callingBack 11 = .ok (.iload_n 2, 1) := by decide +kernel
theorem dX2_callingBack_12 : decode cX2_callingBack 12 = .ok (.iconst 0, 1) := by decide +kernel
theorem dX2_callingBack_13 : decode cX2_callingBack 13 = .ok (.invokestatic 43, 3) := by decide +kernel
theorem dX2_callingBack_16 : decode cX2_callingBack 16 = .ok (.invokevirtual 22, 3) := by decide +kernel
theorem dX2_callingBack_19 : decode cX2_callingBack 19 = .ok (.istore_n 3, 1) := by decide +kernel
theorem dX2_callingBack_20 : decode cX2_callingBack 20 = .ok (.iload_n 3, 1) := by decide +kernel
theorem dX2_callingBack_21 : decode cX2_callingBack 21 = .ok (.iconst 1, 1) := by decide +kernel
theorem dX2_callingBack_22 : decode cX2_callingBack 22 = .ok (.if_icmp .ne 7, 3) := by decide +kernel
theorem dX2_callingBack_25 : decode cX2_callingBack 25 = .ok (.iconst 0, 1) := by decide +kernel
theorem dX2_callingBack_26 : decode cX2_callingBack 26 = .ok (.goto 9, 3) := by decide +kernel
theorem dX2_callingBack_29 : decode cX2_callingBack 29 = .ok (.aload_n 0, 1) := by decide +kernel
theorem dX2_callingBack_30 : decode cX2_callingBack 30 = .ok (.iconst 2, 1) := by decide +kernel
theorem dX2_callingBack_31 : decode cX2_callingBack 31 = .ok (.iload_n 3, 1) := by decide +kernel
theorem dX2_callingBack_32 : decode cX2_callingBack 32 = .ok (.invokevirtual 28, 3) := by decide +kernel
theorem dX2_callingBack_35 : decode cX2_callingBack 35 = .ok (.ireturn, 1) := by decide +kernel
set_option maxRecDepth 20000 in
theorem ggX2_shutting_X6_isBelow : GoodIn wsX2_shutting wsX6_isBelow := goodIn_r _ [3] (by decide +kernel) (by decide +kernel)
set_option maxRecDepth 20000 in
theorem gX2_shutting_X6_isBelow_n36 : GoodIn wsX2_shutting (wsX6_isBelow) := ggX2_shutting_X6_isBelow
set_option maxRecDepth 20000 in
theorem ggX2_shutting_X6_ofTown : GoodIn wsX2_shutting wsX6_ofTown := goodIn_r _ [5] (by decide +kernel) (by decide +kernel)
set_option maxRecDepth 20000 in
theorem gX2_shutting_X6_ofTown_n50 : GoodIn wsX2_shutting (wsX6_ofTown) := ggX2_shutting_X6_ofTown
set_option maxRecDepth 20000 in
theorem ggX2_shutting_X0_get : GoodIn wsX2_shutting wsX0_get := goodIn_ca (goodIn_r _ [10, 11, 19] (by decide +kernel) (by decide +kernel)) (goodIn_sub (fun _ h => List.mem_cons_of_mem _ (List.mem_append_right _ h)) (by decide +kernel))
set_option maxRecDepth 20000 in
theorem gX2_shutting_X0_get : GoodIn wsX2_shutting (wsV RX2 22 RX0 yX0_get wsX0_get) := goodIn_app (goodIn_of _ (by decide +kernel)) ggX2_shutting_X0_get
set_option maxRecDepth 20000 in
theorem ggX2_shutting_X2_refuse : GoodIn wsX2_shutting wsX2_refuse := goodIn_r _ [16, 17, 18, 20, 21] (by decide +kernel) (by decide +kernel)
set_option maxRecDepth 20000 in
theorem gX2_shutting_X2_refuse : GoodIn wsX2_shutting (wsV RX2 28 RX2 yX2_refuse wsX2_refuse) := goodIn_app (goodIn_of _ (by decide +kernel)) ggX2_shutting_X2_refuse
theorem dX2_shutting_0 : decode cX2_shutting 0 = .ok (.iload_n 2, 1) := by decide +kernel
theorem dX2_shutting_1 : decode cX2_shutting 1 = .ok (.iconst 5, 1) := by decide +kernel
theorem dX2_shutting_2 : decode cX2_shutting 2 = .ok (.invokestatic 36, 3) := by decide +kernel
theorem dX2_shutting_5 : decode cX2_shutting 5 = .ok (.ifCond .ne 5, 3) := by decide +kernel
theorem dX2_shutting_8 : decode cX2_shutting 8 = .ok (.iconst (-1), 1) := by decide +kernel
theorem dX2_shutting_9 : decode cX2_shutting 9 = .ok (.ireturn, 1) := by decide +kernel
theorem dX2_shutting_10 : decode cX2_shutting 10 = .ok (.aload_n 1, 1) := by decide +kernel
theorem dX2_shutting_11 : decode cX2_shutting 11 = .ok (.iload_n 2, 1) := by decide +kernel
theorem dX2_shutting_12 : decode cX2_shutting 12 = .ok (.iconst 0, 1) := by decide +kernel
theorem dX2_shutting_13 : decode cX2_shutting 13 = .ok (.invokestatic 50, 3) := by decide +kernel
theorem dX2_shutting_16 : decode cX2_shutting 16 = .ok (.invokevirtual 22, 3) := by decide +kernel
theorem dX2_shutting_19 : decode cX2_shutting 19 = .ok (.istore 4, 2) := by decide +kernel
theorem dX2_shutting_21 : decode cX2_shutting 21 = .ok (.iload_n 3, 1) := by decide +kernel
theorem dX2_shutting_22 : decode cX2_shutting 22 = .ok (.iload 4, 2) := by decide +kernel
theorem dX2_shutting_24 : decode cX2_shutting 24 = .ok (.iconst 1, 1) := by decide +kernel
theorem dX2_shutting_25 : decode cX2_shutting 25 = .ok (.if_icmp .ne 7, 3) := by decide +kernel
theorem dX2_shutting_28 : decode cX2_shutting 28 = .ok (.iconst 1, 1) := by decide +kernel
theorem dX2_shutting_29 : decode cX2_shutting 29 = .ok (.goto 4, 3) := by decide +kernel
theorem dX2_shutting_32 : decode cX2_shutting 32 = .ok (.iconst 0, 1) := by decide +kernel
theorem dX2_shutting_33 : decode cX2_shutting 33 = .ok (.if_icmp .ne 7, 3) := by decide +kernel
theorem dX2_shutting_36 : decode cX2_shutting 36 = .ok (.iconst 0, 1) := by decide +kernel
theorem dX2_shutting_37 : decode cX2_shutting 37 = .ok (.goto 10, 3) := by decide +kernel
theorem dX2_shutting_40 : decode cX2_shutting 40 = .ok (.aload_n 0, 1) := by decide +kernel
theorem dX2_shutting_41 : decode cX2_shutting 41 = .ok (.iconst 4, 1) := by decide +kernel
theorem dX2_shutting_42 : decode cX2_shutting 42 = .ok (.iload 4, 2) := by decide +kernel
theorem dX2_shutting_44 : decode cX2_shutting 44 = .ok (.invokevirtual 28, 3) := by decide +kernel
theorem dX2_shutting_47 : decode cX2_shutting 47 = .ok (.ireturn, 1) := by decide +kernel
set_option maxRecDepth 20000 in
theorem ggX2_passing_X6_isWithin : GoodIn wsX2_passing wsX6_isWithin := goodIn_r _ [3] (by decide +kernel) (by decide +kernel)
set_option maxRecDepth 20000 in
theorem gX2_passing_X6_isWithin_n18 : GoodIn wsX2_passing (wsX6_isWithin) := ggX2_passing_X6_isWithin
theorem dX2_passing_0 : decode cX2_passing 0 = .ok (.iload_n 1, 1) := by decide +kernel
theorem dX2_passing_1 : decode cX2_passing 1 = .ok (.iconst 1, 1) := by decide +kernel
theorem dX2_passing_2 : decode cX2_passing 2 = .ok (.bipush 40, 2) := by decide +kernel
theorem dX2_passing_4 : decode cX2_passing 4 = .ok (.invokestatic 18, 3) := by decide +kernel
theorem dX2_passing_7 : decode cX2_passing 7 = .ok (.ifCond .eq 7, 3) := by decide +kernel
theorem dX2_passing_10 : decode cX2_passing 10 = .ok (.iconst 0, 1) := by decide +kernel
theorem dX2_passing_11 : decode cX2_passing 11 = .ok (.goto 5, 3) := by decide +kernel
theorem dX2_passing_14 : decode cX2_passing 14 = .ok (.bipush (-2), 2) := by decide +kernel
theorem dX2_passing_16 : decode cX2_passing 16 = .ok (.ireturn, 1) := by decide +kernel
set_option maxRecDepth 20000 in
theorem ggX2_hasTour_X0_get : GoodIn wsX2_hasTour wsX0_get := goodIn_ca (goodIn_r _ [5, 6, 10] (by decide +kernel) (by decide +kernel)) (goodIn_sub (fun _ h => List.mem_cons_of_mem _ (List.mem_append_right _ h)) (by decide +kernel))
set_option maxRecDepth 20000 in
theorem gX2_hasTour_X0_get : GoodIn wsX2_hasTour (wsV RX2 22 RX0 yX0_get wsX0_get) := goodIn_app (goodIn_of _ (by decide +kernel)) ggX2_hasTour_X0_get
set_option maxRecDepth 20000 in
theorem ggX2_hasTour_X6_isBelow : GoodIn wsX2_hasTour wsX6_isBelow := goodIn_r _ [9] (by decide +kernel) (by decide +kernel)
set_option maxRecDepth 20000 in
theorem gX2_hasTour_X6_isBelow_n36 : GoodIn wsX2_hasTour (wsX6_isBelow) := ggX2_hasTour_X6_isBelow
theorem dX2_hasTour_0 : decode cX2_hasTour 0 = .ok (.iload_n 1, 1) := by decide +kernel
theorem dX2_hasTour_1 : decode cX2_hasTour 1 = .ok (.aload_n 0, 1) := by decide +kernel
theorem dX2_hasTour_2 : decode cX2_hasTour 2 = .ok (.iconst 1, 1) := by decide +kernel
theorem dX2_hasTour_3 : decode cX2_hasTour 3 = .ok (.invokevirtual 22, 3) := by decide +kernel
theorem dX2_hasTour_6 : decode cX2_hasTour 6 = .ok (.invokestatic 36, 3) := by decide +kernel
theorem dX2_hasTour_9 : decode cX2_hasTour 9 = .ok (.ireturn, 1) := by decide +kernel
set_option maxRecDepth 20000 in
theorem ggX3_init_J4_init_da8c8 : GoodIn wsX3_init wsJ4_init_da8c8 := goodIn_r _ [10, 11, 12, 13, 14, 15, 2, 3, 16, 17, 18, 19, 20, 21, 22, 23, 24, 25, 26, 27, 28, 29, 30, 31] (by decide +kernel) (by decide +kernel)
set_option maxRecDepth 20000 in
theorem gX3_init_J4_init_da8c8 : GoodIn wsX3_init (wsJ4_init_da8c8) := ggX3_init_J4_init_da8c8
theorem dX3_init_0 : decode cX3_init 0 = .ok (.aload_n 0, 1) := by decide +kernel
theorem dX3_init_1 : decode cX3_init 1 = .ok (.invokespecial 3, 3) := by decide +kernel
theorem dX3_init_4 : decode cX3_init 4 = .ok (.aload_n 0, 1) := by decide +kernel
theorem dX3_init_5 : decode cX3_init 5 = .ok (.new 9, 3) := by decide +kernel
theorem dX3_init_8 : decode cX3_init 8 = .ok (.dup, 1) := by decide +kernel
theorem dX3_init_9 : decode cX3_init 9 = .ok (.invokespecial 11, 3) := by decide +kernel
theorem dX3_init_12 : decode cX3_init 12 = .ok (.putfield 12, 3) := by decide +kernel
theorem dX3_init_15 : decode cX3_init 15 = .ok (.return_, 1) := by decide +kernel
set_option maxRecDepth 20000 in
theorem ggX3_length_J4_length_8abf5 : GoodIn wsX3_length wsJ4_length_8abf5 := goodIn_r _ [6, 7, 8, 9, 10, 11, 12, 13, 15, 16, 17, 18] (by decide +kernel) (by decide +kernel)
set_option maxRecDepth 20000 in
theorem gX3_length_J4_length_8abf5 : GoodIn wsX3_length (wsV RX3 18 RJ4 yJ4_length_8abf5 wsJ4_length_8abf5) := goodIn_app (goodIn_of _ (by decide +kernel)) ggX3_length_J4_length_8abf5
theorem dX3_length_0 : decode cX3_length 0 = .ok (.aload_n 0, 1) := by decide +kernel
theorem dX3_length_1 : decode cX3_length 1 = .ok (.getfield 12, 3) := by decide +kernel
theorem dX3_length_4 : decode cX3_length 4 = .ok (.invokevirtual 18, 3) := by decide +kernel
theorem dX3_length_7 : decode cX3_length 7 = .ok (.ireturn, 1) := by decide +kernel
set_option maxRecDepth 20000 in
theorem ggX3_signAt_J4_length_8abf5 : GoodIn wsX3_signAt wsJ4_length_8abf5 := goodIn_r _ [6, 7, 8, 9, 10, 11, 12, 13, 51, 52, 53, 54] (by decide +kernel) (by decide +kernel)
set_option maxRecDepth 20000 in
theorem gX3_signAt_J4_length_8abf5 : GoodIn wsX3_signAt (wsV RX3 18 RJ4 yJ4_length_8abf5 wsJ4_length_8abf5) := goodIn_app (goodIn_of _ (by decide +kernel)) ggX3_signAt_J4_length_8abf5
set_option maxRecDepth 20000 in
theorem ggX3_signAt_X6_isBelow : GoodIn wsX3_signAt wsX6_isBelow := goodIn_r _ [16] (by decide +kernel) (by decide +kernel)
set_option maxRecDepth 20000 in
theorem gX3_signAt_X6_isBelow_n22 : GoodIn wsX3_signAt (wsX6_isBelow) := ggX3_signAt_X6_isBelow
set_option maxRecDepth 20000 in
theorem ggX3_signAt_J4_charAt_5068e : GoodIn wsX3_signAt wsJ4_charAt_5068e := goodIn_r _ [20, 21, 22, 9, 23, 11, 24, 25, 26, 13, 27, 28, 29, 30, 31, 32, 33, 34, 35, 36, 37, 38, 39, 40, 41, 42, 43, 44, 45, 46, 47, 48, 49, 51, 52, 53, 54] (by decide +kernel) (by decide +kernel)
set_option maxRecDepth 20000 in
theorem gX3_signAt_J4_charAt_5068e : GoodIn wsX3_signAt (wsV RX3 26 RJ4 yJ4_charAt_5068e wsJ4_charAt_5068e) := goodIn_app (goodIn_of _ (by decide +kernel)) ggX3_signAt_J4_charAt_5068e
theorem dX3_signAt_0 : decode cX3_signAt 0 = .ok (.iload_n 1, 1) := by decide +kernel
theorem dX3_signAt_1 : decode cX3_signAt 1 = .ok (.aload_n 0, 1) := by decide +kernel
theorem dX3_signAt_2 : decode cX3_signAt 2 = .ok (.getfield 12, 3) := by decide +kernel
theorem dX3_signAt_5 : decode cX3_signAt 5 = .ok (.invokevirtual 18, 3) := by decide +kernel
theorem dX3_signAt_8 : decode cX3_signAt 8 = .ok (.invokestatic 22, 3) := by decide +kernel
theorem dX3_signAt_11 : decode cX3_signAt 11 = .ok (.ifCond .eq 14, 3) := by decide +kernel
theorem dX3_signAt_14 : decode cX3_signAt 14 = .ok (.aload_n 0, 1) := by decide +kernel
theorem dX3_signAt_15 : decode cX3_signAt 15 = .ok (.getfield 12, 3) := by decide +kernel
theorem dX3_signAt_18 : decode cX3_signAt 18 = .ok (.iload_n 1, 1) := by decide +kernel
theorem dX3_signAt_19 : decode cX3_signAt 19 = .ok (.invokevirtual 26, 3) := by decide +kernel
theorem dX3_signAt_22 : decode cX3_signAt 22 = .ok (.goto 4, 3) := by decide +kernel
theorem dX3_signAt_25 : decode cX3_signAt 25 = .ok (.iconst 0, 1) := by decide +kernel
theorem dX3_signAt_26 : decode cX3_signAt 26 = .ok (.ireturn, 1) := by decide +kernel
set_option maxRecDepth 20000 in
theorem ggX3_write_J4_setLength_d00df : GoodIn wsX3_write wsJ4_setLength_d00df := goodIn_r _ [6, 7, 8, 9, 10, 11, 12, 13, 14, 15, 16, 17, 18, 19, 20, 21, 22, 23, 24, 25, 26, 27, 28, 29, 30, 31, 32, 33, 34, 35, 36, 37, 38, 39, 40, 41, 42, 43, 44, 45, 46, 47, 48, 49, 50, 51, 52, 53, 54, 55, 56, 57, 58, 59, 60, 61, 62, 63, 64, 65, 66, 67, 68, 69, 70, 71, 72, 73, 74, 75, 76, 77, 78, 5, 79, 80, 81, 82, 83, 84, 85, 86, 206, 207, 208, 209, 210, 211, 212, 213, 214, 215, 216, 217, 218, 219, 220, 221] (by decide +kernel) (by decide +kernel)
set_option maxRecDepth 20000 in
theorem gX3_write_J4_setLength_d00df : GoodIn wsX3_write (wsV RX3 30 RJ4 yJ4_setLength_d00df wsJ4_setLength_d00df) := goodIn_app (goodIn_of _ (by decide +kernel)) ggX3_write_J4_setLength_d00df
set_option maxRecDepth 20000 in
theorem ggX3_write_J4_append_bf812 : GoodIn wsX3_write wsJ4_append_bf812 := goodIn_r _ [90, 91, 92, 9, 93, 11, 94, 16, 17, 95, 96, 97, 98, 19, 20, 21, 22, 23, 24, 25, 26, 27, 28, 29, 30, 31, 32, 33, 34, 35, 36, 37, 38, 39, 40, 41, 42, 43, 44, 45, 46, 47, 48, 49, 50, 51, 52, 53, 54, 55, 56, 57, 58, 59, 60, 61, 62, 63, 64, 65, 66, 99, 100, 101, 102, 103, 104, 105, 84, 106, 107, 108, 109, 110, 111, 112, 113, 114, 115, 116, 117, 118, 119, 120, 121, 122, 123, 124, 125, 126, 127, 128, 129, 130, 131, 132, 212, 213, 214, 215] (by decide +kernel) (by decide +kernel)
set_option maxRecDepth 20000 in
theorem gX3_write_J4_append_bf812 : GoodIn wsX3_write (wsV RX3 34 RJ4 yJ4_append_bf812 wsJ4_append_bf812) := goodIn_app (goodIn_of _ (by decide +kernel)) ggX3_write_J4_append_bf812
set_option maxRecDepth 20000 in
theorem ggX3_write_X6_ofTour : GoodIn wsX3_write wsX6_ofTour := goodIn_r _ [135] (by decide +kernel) (by decide +kernel)
set_option maxRecDepth 20000 in
theorem gX3_write_X6_ofTour_n38 : GoodIn wsX3_write (wsX6_ofTour) := ggX3_write_X6_ofTour
set_option maxRecDepth 20000 in
theorem ggX3_write_X0_get : GoodIn wsX3_write wsX0_get := goodIn_ca (goodIn_r _ [140, 141, 222] (by decide +kernel) (by decide +kernel)) (goodIn_sub (fun _ h => List.mem_cons_of_mem _ (List.mem_append_right _ h)) (by decide +kernel))
set_option maxRecDepth 20000 in
theorem gX3_write_X0_get : GoodIn wsX3_write (wsV RX3 42 RX0 yX0_get wsX0_get) := goodIn_app (goodIn_of _ (by decide +kernel)) ggX3_write_X0_get
set_option maxRecDepth 20000 in
theorem ggX3_write_X3_conditionSign : GoodIn wsX3_write wsX3_conditionSign := goodIn_r _ [145] (by decide +kernel) (by decide +kernel)
set_option maxRecDepth 20000 in
theorem gX3_write_X3_conditionSign : GoodIn wsX3_write (va_wsS RX3 48 yX3_conditionSign wsX3_conditionSign) := goodIn_app (goodIn_of _ (by decide +kernel)) ggX3_write_X3_conditionSign
set_option maxRecDepth 20000 in
theorem ggX3_write_J4_append_cf468 : GoodIn wsX3_write wsJ4_append_cf468 := goodIn_r _ [149, 150, 151, 9, 152, 11, 153, 16, 17, 19, 20, 21, 22, 23, 24, 25, 26, 27, 28, 29, 30, 31, 32, 33, 34, 35, 36, 37, 38, 39, 40, 41, 42, 43, 44, 45, 46, 47, 48, 49, 50, 51, 52, 53, 54, 55, 56, 57, 58, 59, 60, 61, 62, 63, 64, 65, 66, 154, 155, 69, 156, 157, 158, 159, 160, 161, 162, 163, 84, 164, 165, 166, 167, 168, 169, 170, 171, 172, 173, 174, 175, 176, 177, 111, 112, 113, 178, 179, 116, 180, 118, 181, 182, 121, 183, 128, 129, 130, 107, 131, 132, 184, 185, 186, 187, 188, 189, 190, 191, 192, 193, 194, 195, 212, 213, 214, 215] (by decide +kernel) (by decide +kernel)
set_option maxRecDepth 20000 in
theorem gX3_write_J4_append_cf468 : GoodIn wsX3_write (wsV RX3 51 RJ4 yJ4_append_cf468 wsJ4_append_cf468) := goodIn_app (goodIn_of _ (by decide +kernel)) ggX3_write_J4_append_cf468
set_option maxRecDepth 20000 in
theorem ggX3_write_X3_writeStep : GoodIn wsX3_write wsX3_writeStep := goodIn_ca (goodIn_r _ [199, 1, 200, 134, 201, 136, 137, 138, 139, 140, 141, 146, 147, 148, 5, 149, 150, 151, 9, 152, 11, 153, 16, 17, 19, 20, 21, 22, 23, 24, 25, 26, 27, 28, 29, 30, 31, 32, 33, 34, 35, 36, 37, 38, 39, 40, 41, 42, 43, 44, 45, 46, 47, 48, 49, 50, 51, 52, 53, 54, 55, 56, 57, 58, 59, 60, 61, 62, 63, 64, 65, 66, 154, 155, 69, 156, 157, 158, 159, 160, 161, 162, 163, 84, 164, 165, 166, 167, 168, 169, 170, 171, 172, 173, 174, 175, 176, 177, 111, 112, 113, 178, 179, 116, 180, 118, 181, 182, 121, 183, 128, 129, 130, 107, 131, 132, 184, 185, 186, 187, 188, 189, 190, 191, 192, 193, 194, 195, 202, 203, 144, 204, 87, 88, 89, 90, 91, 92, 93, 94, 95, 96, 97, 98, 99, 100, 101, 102, 103, 104, 105, 106, 108, 109, 110, 114, 115, 117, 119, 120, 122, 123, 124, 125, 126, 127, 205, 222, 212, 213, 214, 215] (by decide +kernel) (by decide +kernel)) (goodIn_sub (fun _ h => List.mem_cons_of_mem _ (List.mem_append_right _ h)) (by decide +kernel))
set_option maxRecDepth 20000 in
theorem gX3_write_X3_writeStep : GoodIn wsX3_write (wsV RX3 54 RX3 yX3_writeStep wsX3_writeStep) := goodIn_app (goodIn_of _ (by decide +kernel)) ggX3_write_X3_writeStep
theorem dX3_write_0 : decode cX3_write 0 = .ok (.aload_n 0, 1) := by decide +kernel
theorem dX3_write_1 : decode cX3_write 1 = .ok (.getfield 12, 3) := by decide +kernel
theorem dX3_write_4 : decode cX3_write 4 = .ok (.iconst 0, 1) := by decide +kernel
theorem dX3_write_5 : decode cX3_write 5 = .ok (.invokevirtual 30, 3) := by decide +kernel
theorem dX3_write_8 : decode cX3_write 8 = .ok (.aload_n 0, 1) := by decide +kernel
theorem dX3_write_9 : decode cX3_write 9 = .ok (.getfield 12, 3) := by decide +kernel
theorem dX3_write_12 : decode cX3_write 12 = .ok (.iload_n 2, 1) := by decide +kernel
theorem dX3_write_13 : decode cX3_write 13 = .ok (.invokevirtual 34, 3) := by decide +kernel
theorem dX3_write_16 : decode cX3_write 16 = .ok (.pop, 1) := by decide +kernel
theorem dX3_write_17 : decode cX3_write 17 = .ok (.aload_n 0, 1) := by decide +kernel
theorem dX3_write_18 : decode cX3_write 18 = .ok (.getfield 12, 3) := by decide +kernel
theorem dX3_write_21 : decode cX3_write 21 = .ok (.aload_n 1, 1) := by decide +kernel
theorem dX3_write_22 : decode cX3_write 22 = .ok (.iload_n 2, 1) := by decide +kernel
theorem dX3_write_23 : decode cX3_write 23 = .ok (.iconst 0, 1) := by decide +kernel
theorem dX3_write_24 : decode cX3_write 24 = .ok (.invokestatic 38, 3) := by decide +kernel
theorem dX3_write_27 : decode cX3_write 27 = .ok (.invokevirtual 42, 3) := by decide +kernel
theorem dX3_write_30 : decode cX3_write 30 = .ok (.invokestatic 48, 3) := by decide +kernel
theorem dX3_write_33 : decode cX3_write 33 = .ok (.invokevirtual 51, 3) := by decide +kernel
theorem dX3_write_36 : decode cX3_write 36 = .ok (.pop, 1) := by decide +kernel
theorem dX3_write_37 : decode cX3_write 37 = .ok (.aload_n 1, 1) := by decide +kernel
theorem dX3_write_38 : decode cX3_write 38 = .ok (.iload_n 2, 1) := by decide +kernel
theorem dX3_write_39 : decode cX3_write 39 = .ok (.iconst 3, 1) := by decide +kernel
theorem dX3_write_40 : decode cX3_write 40 = .ok (.invokestatic 38, 3) := by decide +kernel
theorem dX3_write_43 : decode cX3_write 43 = .ok (.invokevirtual 42, 3) := by decide +kernel
theorem dX3_write_46 : decode cX3_write 46 = .ok (.istore_n 3, 1) := by decide +kernel
theorem dX3_write_47 : decode cX3_write 47 = .ok (.iconst 0, 1) := by decide +kernel
theorem dX3_write_48 : decode cX3_write 48 = .ok (.istore 4, 2) := by decide +kernel
theorem dX3_write_50 : decode cX3_write 50 = .ok (.iload 4, 2) := by decide +kernel
theorem dX3_write_52 : decode cX3_write 52 = .ok (.aload_n 1, 1) := by decide +kernel
theorem dX3_write_53 : decode cX3_write 53 = .ok (.iload_n 2, 1) := by decide +kernel
theorem dX3_write_54 : decode cX3_write 54 = .ok (.iconst 2, 1) := by decide +kernel
theorem dX3_write_55 : decode cX3_write 55 = .ok (.invokestatic 38, 3) := by decide +kernel
theorem dX3_write_58 : decode cX3_write 58 = .ok (.invokevirtual 42, 3) := by decide +kernel
theorem dX3_write_61 : decode cX3_write 61 = .ok (.if_icmp .ge 35, 3) := by decide +kernel
theorem dX3_write_64 : decode cX3_write 64 = .ok (.aload_n 0, 1) := by decide +kernel
theorem dX3_write_65 : decode cX3_write 65 = .ok (.aload_n 1, 1) := by decide +kernel
theorem dX3_write_66 : decode cX3_write 66 = .ok (.iload_n 2, 1) := by decide +kernel
theorem dX3_write_67 : decode cX3_write 67 = .ok (.iload 4, 2) := by decide +kernel
theorem dX3_write_69 : decode cX3_write 69 = .ok (.invokevirtual 54, 3) := by decide +kernel
theorem dX3_write_72 : decode cX3_write 72 = .ok (.iload 4, 2) := by decide +kernel
theorem dX3_write_74 : decode cX3_write 74 = .ok (.iload_n 3, 1) := by decide +kernel
theorem dX3_write_75 : decode cX3_write 75 = .ok (.iconst 1, 1) := by decide +kernel
theorem dX3_write_76 : decode cX3_write 76 = .ok (.isub, 1) := by decide +kernel
theorem dX3_write_77 : decode cX3_write 77 = .ok (.if_icmp .ne 13, 3) := by decide +kernel
theorem dX3_write_80 : decode cX3_write 80 = .ok (.aload_n 0, 1) := by decide +kernel
theorem dX3_write_81 : decode cX3_write 81 = .ok (.getfield 12, 3) := by decide +kernel
theorem dX3_write_84 : decode cX3_write 84 = .ok (.bipush 124, 2) := by decide +kernel
theorem dX3_write_86 : decode cX3_write 86 = .ok (.invokevirtual 51, 3) := by decide +kernel
theorem dX3_write_89 : decode cX3_write 89 = .ok (.pop, 1) := by decide +kernel
theorem dX3_write_90 : decode cX3_write 90 = .ok (.iinc 4 1, 3) := by decide +kernel
theorem dX3_write_93 : decode cX3_write 93 = .ok (.goto (-43), 3) := by decide +kernel
theorem dX3_write_96 : decode cX3_write 96 = .ok (.return_, 1) := by decide +kernel
set_option maxRecDepth 20000 in
theorem ggX3_writeStep_X6_ofStep : GoodIn wsX3_writeStep wsX6_ofStep := goodIn_r _ [4] (by decide +kernel) (by decide +kernel)
set_option maxRecDepth 20000 in
theorem gX3_writeStep_X6_ofStep_n58 : GoodIn wsX3_writeStep (wsX6_ofStep) := ggX3_writeStep_X6_ofStep
set_option maxRecDepth 20000 in
theorem ggX3_writeStep_X0_get : GoodIn wsX3_writeStep wsX0_get := goodIn_ca (goodIn_r _ [9, 10, 167] (by decide +kernel) (by decide +kernel)) (goodIn_sub (fun _ h => List.mem_cons_of_mem _ (List.mem_append_right _ h)) (by decide +kernel))
set_option maxRecDepth 20000 in
theorem gX3_writeStep_X0_get : GoodIn wsX3_writeStep (wsV RX3 42 RX0 yX0_get wsX0_get) := goodIn_app (goodIn_of _ (by decide +kernel)) ggX3_writeStep_X0_get
set_option maxRecDepth 20000 in
theorem ggX3_writeStep_J4_append_cf468 : GoodIn wsX3_writeStep wsJ4_append_cf468 := goodIn_r _ [15, 16, 17, 18, 19, 20, 21, 22, 23, 24, 25, 26, 27, 28, 29, 30, 31, 32, 33, 34, 35, 36, 37, 38, 39, 40, 41, 42, 43, 44, 45, 46, 47, 48, 49, 50, 51, 52, 53, 54, 55, 56, 57, 58, 59, 60, 61, 62, 63, 64, 65, 66, 67, 68, 69, 70, 71, 72, 73, 74, 75, 76, 77, 78, 79, 80, 81, 82, 83, 84, 85, 86, 87, 88, 89, 90, 91, 92, 93, 94, 95, 96, 97, 98, 99, 100, 101, 102, 103, 104, 105, 106, 107, 108, 109, 110, 111, 112, 113, 114, 115, 116, 117, 118, 119, 120, 121, 122, 123, 124, 125, 126, 127, 168, 169, 170, 171] (by decide +kernel) (by decide +kernel)
set_option maxRecDepth 20000 in
theorem gX3_writeStep_J4_append_cf468 : GoodIn wsX3_writeStep (wsV RX3 51 RJ4 yJ4_append_cf468 wsJ4_append_cf468) := goodIn_app (goodIn_of _ (by decide +kernel)) ggX3_writeStep_J4_append_cf468
set_option maxRecDepth 20000 in
theorem ggX3_writeStep_X3_kindSign : GoodIn wsX3_writeStep wsX3_kindSign := goodIn_r _ [131] (by decide +kernel) (by decide +kernel)
set_option maxRecDepth 20000 in
theorem gX3_writeStep_X3_kindSign : GoodIn wsX3_writeStep (va_wsS RX3 62 yX3_kindSign wsX3_kindSign) := goodIn_app (goodIn_of _ (by decide +kernel)) ggX3_writeStep_X3_kindSign
set_option maxRecDepth 20000 in
theorem ggX3_writeStep_J4_append_bf812 : GoodIn wsX3_writeStep wsJ4_append_bf812 := goodIn_r _ [135, 136, 137, 18, 138, 20, 139, 22, 23, 140, 141, 142, 143, 24, 25, 26, 27, 28, 29, 30, 31, 32, 33, 34, 35, 36, 37, 38, 39, 40, 41, 42, 43, 44, 45, 46, 47, 48, 49, 50, 51, 52, 53, 54, 55, 56, 57, 58, 59, 60, 61, 62, 63, 64, 65, 66, 67, 68, 69, 70, 71, 144, 145, 146, 147, 148, 149, 150, 83, 151, 113, 152, 153, 154, 98, 99, 100, 155, 156, 103, 157, 105, 158, 159, 108, 160, 161, 162, 163, 164, 165, 110, 111, 112, 114, 115, 168, 169, 170, 171] (by decide +kernel) (by decide +kernel)
set_option maxRecDepth 20000 in
theorem gX3_writeStep_J4_append_bf812 : GoodIn wsX3_writeStep (wsV RX3 34 RJ4 yJ4_append_bf812 wsJ4_append_bf812) := goodIn_app (goodIn_of _ (by decide +kernel)) ggX3_writeStep_J4_append_bf812
theorem dX3_writeStep_0 : decode cX3_writeStep 0 = .ok (.aload_n 1, 1) := by decide +kernel
theorem dX3_writeStep_1 : decode cX3_writeStep 1 = .ok (.iload_n 2, 1) := by decide +kernel
theorem dX3_writeStep_2 : decode cX3_writeStep 2 = .ok (.iload_n 3, 1) := by decide +kernel
theorem dX3_writeStep_3 : decode cX3_writeStep 3 = .ok (.iconst 0, 1) := by decide +kernel
theorem dX3_writeStep_4 : decode cX3_writeStep 4 = .ok (.invokestatic 58, 3) := by decide +kernel
theorem dX3_writeStep_7 : decode cX3_writeStep 7 = .ok (.invokevirtual 42, 3) := by decide +kernel
theorem dX3_writeStep_10 : decode cX3_writeStep 10 = .ok (.istore 4, 2) := by decide +kernel
theorem dX3_writeStep_12 : decode cX3_writeStep 12 = .ok (.aload_n 0, 1) := by decide +kernel
theorem dX3_writeStep_13 : decode cX3_writeStep 13 = .ok (.getfield 12, 3) := by decide +kernel
theorem dX3_writeStep_16 : decode cX3_writeStep 16 = .ok (.bipush 32, 2) := by decide +kernel
theorem dX3_writeStep_18 : decode cX3_writeStep 18 = .ok (.invokevirtual 51, 3) := by decide +kernel
theorem dX3_writeStep_21 : decode cX3_writeStep 21 = .ok (.pop, 1) := by decide +kernel
theorem dX3_writeStep_22 : decode cX3_writeStep 22 = .ok (.aload_n 0, 1) := by decide +kernel
theorem dX3_writeStep_23 : decode cX3_writeStep 23 = .ok (.getfield 12, 3) := by decide +kernel
theorem dX3_writeStep_26 : decode cX3_writeStep 26 = .ok (.iload 4, 2) := by decide +kernel
theorem dX3_writeStep_28 : decode cX3_writeStep 28 = .ok (.invokestatic 62, 3) := by decide +kernel
theorem dX3_writeStep_31 : decode cX3_writeStep 31 = .ok (.invokevirtual 51, 3) := by decide +kernel
theorem dX3_writeStep_34 : decode cX3_writeStep 34 = .ok (.pop, 1) := by decide +kernel
theorem dX3_writeStep_35 : decode cX3_writeStep 35 = .ok (.aload_n 0, 1) := by decide +kernel
theorem dX3_writeStep_36 : decode cX3_writeStep 36 = .ok (.getfield 12, 3) := by decide +kernel
theorem dX3_writeStep_39 : decode cX3_writeStep 39 = .ok (.aload_n 1, 1) := by decide +kernel
theorem dX3_writeStep_40 : decode cX3_writeStep 40 = .ok (.iload_n 2, 1) := by decide +kernel
theorem dX3_writeStep_41 : decode cX3_writeStep 41 = .ok (.iload_n 3, 1) := by decide +kernel
theorem dX3_writeStep_42 : decode cX3_writeStep 42 = .ok (.iconst 1, 1) := by decide +kernel
theorem dX3_writeStep_43 : decode cX3_writeStep 43 = .ok (.invokestatic 58, 3) := by decide +kernel
theorem dX3_writeStep_46 : decode cX3_writeStep 46 = .ok (.invokevirtual 42, 3) := by decide +kernel
theorem dX3_writeStep_49 : decode cX3_writeStep 49 = .ok (.invokevirtual 34, 3) := by decide +kernel
theorem dX3_writeStep_52 : decode cX3_writeStep 52 = .ok (.pop, 1) := by decide +kernel
theorem dX3_writeStep_53 : decode cX3_writeStep 53 = .ok (.aload_n 0, 1) := by decide +kernel
theorem dX3_writeStep_54 : decode cX3_writeStep 54 = .ok (.getfield 12, 3) := by decide +kernel
theorem dX3_writeStep_57 : decode cX3_writeStep 57 = .ok (.bipush 47, 2) := by decide +kernel
theorem dX3_writeStep_59 : decode cX3_writeStep 59 = .ok (.invokevirtual 51, 3) := by decide +kernel
theorem dX3_writeStep_62 : decode cX3_writeStep 62 = .ok (.pop, 1) := by decide +kernel
theorem dX3_writeStep_63 : decode cX3_writeStep 63 = .ok (.aload_n 0, 1) := by decide +kernel
theorem dX3_writeStep_64 : decode cX3_writeStep 64 = .ok (.getfield 12, 3) := by decide +kernel
theorem dX3_writeStep_67 : decode cX3_writeStep 67 = .ok (.aload_n 1, 1) := by decide +kernel
theorem dX3_writeStep_68 : decode cX3_writeStep 68 = .ok (.iload_n 2, 1) := by decide +kernel
theorem dX3_writeStep_69 : decode cX3_writeStep 69 = .ok (.iload_n 3, 1) := by decide +kernel
theorem dX3_writeStep_70 : decode cX3_writeStep 70 = .ok (.iconst 2, 1) := by decide +kernel
theorem dX3_writeStep_71 : decode cX3_writeStep 71 = .ok (.invokestatic 58, 3) := by decide +kernel
theorem dX3_writeStep_74 : decode cX3_writeStep 74 = .ok (.invokevirtual 42, 3) := by decide +kernel
theorem dX3_writeStep_77 : decode cX3_writeStep 77 = .ok (.invokevirtual 34, 3) := by decide +kernel
theorem dX3_writeStep_80 : decode cX3_writeStep 80 = .ok (.pop, 1) := by decide +kernel
theorem dX3_writeStep_81 : decode cX3_writeStep 81 = .ok (.iload 4, 2) := by decide +kernel
theorem dX3_writeStep_83 : decode cX3_writeStep 83 = .ok (.ifCond .eq 31, 3) := by decide +kernel
theorem dX3_writeStep_86 : decode cX3_writeStep 86 = .ok (.aload_n 0, 1) := by decide +kernel
theorem dX3_writeStep_87 : decode cX3_writeStep 87 = .ok (.getfield 12, 3) := by decide +kernel
theorem dX3_writeStep_90 : decode cX3_writeStep 90 = .ok (.bipush 120, 2) := by decide +kernel
theorem dX3_writeStep_92 : decode cX3_writeStep 92 = .ok (.invokevirtual 51, 3) := by decide +kernel
theorem dX3_writeStep_95 : decode cX3_writeStep 95 = .ok (.pop, 1) := by decide +kernel
theorem dX3_writeStep_96 : decode cX3_writeStep 96 = .ok (.aload_n 0, 1) := by decide +kernel
theorem dX3_writeStep_97 : decode cX3_writeStep 97 = .ok (.getfield 12, 3) := by decide +kernel
theorem dX3_writeStep_100 : decode cX3_writeStep 100 = .ok (.aload_n 1, 1) := by decide +kernel
theorem dX3_writeStep_101 : decode cX3_writeStep 101 = .ok (.iload_n 2, 1) := by decide +kernel
theorem dX3_writeStep_102 : decode cX3_writeStep 102 = .ok (.iload_n 3, 1) := by decide +kernel
theorem dX3_writeStep_103 : decode cX3_writeStep 103 = .ok (.iconst 3, 1) := by decide +kernel
theorem dX3_writeStep_104 : decode cX3_writeStep 104 = .ok (.invokestatic 58, 3) := by decide +kernel
theorem dX3_writeStep_107 : decode cX3_writeStep 107 = .ok (.invokevirtual 42, 3) := by decide +kernel
theorem dX3_writeStep_110 : decode cX3_writeStep 110 = .ok (.invokevirtual 34, 3) := by decide +kernel
theorem dX3_writeStep_113 : decode cX3_writeStep 113 = .ok (.pop, 1) := by decide +kernel
theorem dX3_writeStep_114 : decode cX3_writeStep 114 = .ok (.return_, 1) := by decide +kernel
theorem dX3_conditionSign_0 : decode cX3_conditionSign 0 = .ok (.iload_n 0, 1) := by decide +kernel
theorem dX3_conditionSign_1 : decode cX3_conditionSign 1 = .ok (.tableswitch 43 0 3 #[31, 34, 37, 40], 31) := by decide +kernel
theorem dX3_conditionSign_32 : decode cX3_conditionSign 32 = .ok (.bipush 112, 2) := by decide +kernel
theorem dX3_conditionSign_34 : decode cX3_conditionSign 34 = .ok (.ireturn, 1) := by decide +kernel
theorem dX3_conditionSign_35 : decode cX3_conditionSign 35 = .ok (.bipush 114, 2) := by decide +kernel
theorem dX3_conditionSign_37 : decode cX3_conditionSign 37 = .ok (.ireturn, 1) := by decide +kernel
theorem dX3_conditionSign_38 : decode cX3_conditionSign 38 = .ok (.bipush 98, 2) := by decide +kernel
theorem dX3_conditionSign_40 : decode cX3_conditionSign 40 = .ok (.ireturn, 1) := by decide +kernel
theorem dX3_conditionSign_41 : decode cX3_conditionSign 41 = .ok (.bipush 100, 2) := by decide +kernel
theorem dX3_conditionSign_43 : decode cX3_conditionSign 43 = .ok (.ireturn, 1) := by decide +kernel
theorem dX3_conditionSign_44 : decode cX3_conditionSign 44 = .ok (.bipush 117, 2) := by decide +kernel
theorem dX3_conditionSign_46 : decode cX3_conditionSign 46 = .ok (.ireturn, 1) := by decide +kernel
theorem dX3_kindSign_0 : decode cX3_kindSign 0 = .ok (.iload_n 0, 1) := by decide +kernel
theorem dX3_kindSign_1 : decode cX3_kindSign 1 = .ok (.lookupswitch 33 #[(0, 27), (1, 30)], 27) := by decide +kernel
theorem dX3_kindSign_28 : decode cX3_kindSign 28 = .ok (.bipush 104, 2) := by decide +kernel
theorem dX3_kindSign_30 : decode cX3_kindSign 30 = .ok (.ireturn, 1) := by decide +kernel
theorem dX3_kindSign_31 : decode cX3_kindSign 31 = .ok (.bipush 119, 2) := by decide +kernel
theorem dX3_kindSign_33 : decode cX3_kindSign 33 = .ok (.ireturn, 1) := by decide +kernel
theorem dX3_kindSign_34 : decode cX3_kindSign 34 = .ok (.bipush 98, 2) := by decide +kernel
theorem dX3_kindSign_36 : decode cX3_kindSign 36 = .ok (.ireturn, 1) := by decide +kernel
theorem dX4_init_0 : decode cX4_init 0 = .ok (.aload_n 0, 1) := by decide +kernel
theorem dX4_init_1 : decode cX4_init 1 = .ok (.invokespecial 3, 3) := by decide +kernel
theorem dX4_init_4 : decode cX4_init 4 = .ok (.aload_n 0, 1) := by decide +kernel
theorem dX4_init_5 : decode cX4_init 5 = .ok (.bipush 60, 2) := by decide +kernel
theorem dX4_init_7 : decode cX4_init 7 = .ok (.newarray .char, 2) := by decide +kernel
theorem dX4_init_9 : decode cX4_init 9 = .ok (.putfield 9, 3) := by decide +kernel
theorem dX4_init_12 : decode cX4_init 12 = .ok (.aload_n 0, 1) := by decide +kernel
theorem dX4_init_13 : decode cX4_init 13 = .ok (.iconst 0, 1) := by decide +kernel
theorem dX4_init_14 : decode cX4_init 14 = .ok (.putfield 15, 3) := by decide +kernel
theorem dX4_init_17 : decode cX4_init 17 = .ok (.aload_n 0, 1) := by decide +kernel
theorem dX4_init_18 : decode cX4_init 18 = .ok (.iconst 0, 1) := by decide +kernel
theorem dX4_init_19 : decode cX4_init 19 = .ok (.putfield 19, 3) := by decide +kernel
theorem dX4_init_22 : decode cX4_init 22 = .ok (.aload_n 0, 1) := by decide +kernel
theorem dX4_init_23 : decode cX4_init 23 = .ok (.iconst (-1), 1) := by decide +kernel
theorem dX4_init_24 : decode cX4_init 24 = .ok (.putfield 22, 3) := by decide +kernel
theorem dX4_init_27 : decode cX4_init 27 = .ok (.aload_n 0, 1) := by decide +kernel
theorem dX4_init_28 : decode cX4_init 28 = .ok (.iconst 0, 1) := by decide +kernel
theorem dX4_init_29 : decode cX4_init 29 = .ok (.putfield 25, 3) := by decide +kernel
theorem dX4_init_32 : decode cX4_init 32 = .ok (.aload_n 0, 1) := by decide +kernel
theorem dX4_init_33 : decode cX4_init 33 = .ok (.iconst 0, 1) := by decide +kernel
theorem dX4_init_34 : decode cX4_init 34 = .ok (.putfield 28, 3) := by decide +kernel
theorem dX4_init_37 : decode cX4_init 37 = .ok (.aload_n 0, 1) := by decide +kernel
theorem dX4_init_38 : decode cX4_init 38 = .ok (.iconst 0, 1) := by decide +kernel
theorem dX4_init_39 : decode cX4_init 39 = .ok (.putfield 31, 3) := by decide +kernel
theorem dX4_init_42 : decode cX4_init 42 = .ok (.aload_n 0, 1) := by decide +kernel
theorem dX4_init_43 : decode cX4_init 43 = .ok (.iconst 0, 1) := by decide +kernel
theorem dX4_init_44 : decode cX4_init 44 = .ok (.putfield 34, 3) := by decide +kernel
theorem dX4_init_47 : decode cX4_init 47 = .ok (.aload_n 0, 1) := by decide +kernel
theorem dX4_init_48 : decode cX4_init 48 = .ok (.iconst 0, 1) := by decide +kernel
theorem dX4_init_49 : decode cX4_init 49 = .ok (.putfield 37, 3) := by decide +kernel
theorem dX4_init_52 : decode cX4_init 52 = .ok (.return_, 1) := by decide +kernel
theorem dX4_length_0 : decode cX4_length 0 = .ok (.aload_n 0, 1) := by decide +kernel
theorem dX4_length_1 : decode cX4_length 1 = .ok (.getfield 15, 3) := by decide +kernel
theorem dX4_length_4 : decode cX4_length 4 = .ok (.ireturn, 1) := by decide +kernel
theorem dX4_clear_0 : decode cX4_clear 0 = .ok (.aload_n 0, 1) := by decide +kernel
theorem dX4_clear_1 : decode cX4_clear 1 = .ok (.iconst 0, 1) := by decide +kernel
theorem dX4_clear_2 : decode cX4_clear 2 = .ok (.putfield 15, 3) := by decide +kernel
theorem dX4_clear_5 : decode cX4_clear 5 = .ok (.return_, 1) := by decide +kernel
set_option maxRecDepth 20000 in
theorem ggX4_append_X6_isBelow : GoodIn wsX4_append wsX6_isBelow := goodIn_r _ [5] (by decide +kernel) (by decide +kernel)
set_option maxRecDepth 20000 in
theorem gX4_append_X6_isBelow_n40 : GoodIn wsX4_append (wsX6_isBelow) := ggX4_append_X6_isBelow
theorem dX4_append_0 : decode cX4_append 0 = .ok (.aload_n 0, 1) := by decide +kernel
theorem dX4_append_1 : decode cX4_append 1 = .ok (.getfield 15, 3) := by decide +kernel
theorem dX4_append_4 : decode cX4_append 4 = .ok (.aload_n 0, 1) := by decide +kernel
theorem dX4_append_5 : decode cX4_append 5 = .ok (.getfield 9, 3) := by decide +kernel
theorem dX4_append_8 : decode cX4_append 8 = .ok (.arraylength, 1) := by decide +kernel
theorem dX4_append_9 : decode cX4_append 9 = .ok (.invokestatic 40, 3) := by decide +kernel
theorem dX4_append_12 : decode cX4_append 12 = .ok (.ifCond .eq 23, 3) := by decide +kernel
theorem dX4_append_15 : decode cX4_append 15 = .ok (.aload_n 0, 1) := by decide +kernel
theorem dX4_append_16 : decode cX4_append 16 = .ok (.getfield 9, 3) := by decide +kernel
theorem dX4_append_19 : decode cX4_append 19 = .ok (.aload_n 0, 1) := by decide +kernel
theorem dX4_append_20 : decode cX4_append 20 = .ok (.getfield 15, 3) := by decide +kernel
theorem dX4_append_23 : decode cX4_append 23 = .ok (.iload_n 1, 1) := by decide +kernel
theorem dX4_append_24 : decode cX4_append 24 = .ok (.castore, 1) := by decide +kernel
theorem dX4_append_25 : decode cX4_append 25 = .ok (.aload_n 0, 1) := by decide +kernel
theorem dX4_append_26 : decode cX4_append 26 = .ok (.dup, 1) := by decide +kernel
theorem dX4_append_27 : decode cX4_append 27 = .ok (.getfield 15, 3) := by decide +kernel
theorem dX4_append_30 : decode cX4_append 30 = .ok (.iconst 1, 1) := by decide +kernel
theorem dX4_append_31 : decode cX4_append 31 = .ok (.iadd, 1) := by decide +kernel
theorem dX4_append_32 : decode cX4_append 32 = .ok (.putfield 15, 3) := by decide +kernel
theorem dX4_append_35 : decode cX4_append 35 = .ok (.return_, 1) := by decide +kernel
theorem dX4_rewind_0 : decode cX4_rewind 0 = .ok (.aload_n 0, 1) := by decide +kernel
theorem dX4_rewind_1 : decode cX4_rewind 1 = .ok (.iconst 0, 1) := by decide +kernel
theorem dX4_rewind_2 : decode cX4_rewind 2 = .ok (.putfield 19, 3) := by decide +kernel
theorem dX4_rewind_5 : decode cX4_rewind 5 = .ok (.return_, 1) := by decide +kernel
theorem dX4_word_0 : decode cX4_word 0 = .ok (.aload_n 0, 1) := by decide +kernel
theorem dX4_word_1 : decode cX4_word 1 = .ok (.getfield 22, 3) := by decide +kernel
theorem dX4_word_4 : decode cX4_word 4 = .ok (.ireturn, 1) := by decide +kernel
theorem dX4_first_0 : decode cX4_first 0 = .ok (.aload_n 0, 1) := by decide +kernel
theorem dX4_first_1 : decode cX4_first 1 = .ok (.getfield 25, 3) := by decide +kernel
theorem dX4_first_4 : decode cX4_first 4 = .ok (.ireturn, 1) := by decide +kernel
theorem dX4_kind_0 : decode cX4_kind 0 = .ok (.aload_n 0, 1) := by decide +kernel
theorem dX4_kind_1 : decode cX4_kind 1 = .ok (.getfield 22, 3) := by decide +kernel
theorem dX4_kind_4 : decode cX4_kind 4 = .ok (.iconst 1, 1) := by decide +kernel
theorem dX4_kind_5 : decode cX4_kind 5 = .ok (.isub, 1) := by decide +kernel
theorem dX4_kind_6 : decode cX4_kind 6 = .ok (.ireturn, 1) := by decide +kernel
theorem dX4_town_0 : decode cX4_town 0 = .ok (.aload_n 0, 1) := by decide +kernel
theorem dX4_town_1 : decode cX4_town 1 = .ok (.getfield 28, 3) := by decide +kernel
theorem dX4_town_4 : decode cX4_town 4 = .ok (.ireturn, 1) := by decide +kernel
theorem dX4_day_0 : decode cX4_day 0 = .ok (.aload_n 0, 1) := by decide +kernel
theorem dX4_day_1 : decode cX4_day 1 = .ok (.getfield 31, 3) := by decide +kernel
theorem dX4_day_4 : decode cX4_day 4 = .ok (.ireturn, 1) := by decide +kernel
theorem dX4_many_0 : decode cX4_many 0 = .ok (.aload_n 0, 1) := by decide +kernel
theorem dX4_many_1 : decode cX4_many 1 = .ok (.getfield 34, 3) := by decide +kernel
theorem dX4_many_4 : decode cX4_many 4 = .ok (.ireturn, 1) := by decide +kernel
set_option maxRecDepth 20000 in
theorem ggX4_findFault_X4_rewind : GoodIn wsX4_findFault wsX4_rewind := goodIn_r _ [7, 1, 110, 111, 112, 113, 114, 115, 116, 117, 118] (by decide +kernel) (by decide +kernel)
set_option maxRecDepth 20000 in
theorem gX4_findFault_X4_rewind : GoodIn wsX4_findFault (wsV RX4 44 RX4 yX4_rewind wsX4_rewind) := goodIn_app (goodIn_of _ (by decide +kernel)) ggX4_findFault_X4_rewind
set_option maxRecDepth 20000 in
theorem ggX4_findFault_X4_readCommand : GoodIn wsX4_findFault wsX4_readCommand := goodIn_ca (goodIn_r _ [11, 12, 13, 14, 15, 16, 17, 6, 18, 1, 19, 20, 21, 22, 23, 24, 25, 26, 27, 28, 29, 30, 31, 32, 33, 34, 35, 36, 37, 38, 39, 40, 41, 42, 43, 44, 45, 2, 46, 47, 48, 49, 50, 51, 52, 53, 54, 55, 56, 57, 58, 59, 60, 61, 62, 63, 64, 65, 66, 67, 68, 69, 70, 71, 72, 73, 74, 75, 76, 77, 78, 79, 80, 81, 82, 83, 84, 85, 86, 87, 88, 89, 90, 91, 92, 93, 94, 95, 96, 97, 98, 99, 100, 101, 102, 103, 104, 105, 106, 107, 108, 109, 110, 111, 112, 113, 114, 115, 116, 117, 118, 119, 120, 121, 122] (by decide +kernel) (by decide +kernel)) (goodIn_sub (fun _ h => List.mem_cons_of_mem _ (List.mem_append_right _ h)) (by decide +kernel))
set_option maxRecDepth 20000 in
theorem gX4_findFault_X4_readCommand : GoodIn wsX4_findFault (wsV RX4 47 RX4 yX4_readCommand wsX4_readCommand) := goodIn_app (goodIn_of _ (by decide +kernel)) ggX4_findFault_X4_readCommand
set_option maxRecDepth 20000 in
theorem ggX4_findFault_X4_readSign : GoodIn wsX4_findFault wsX4_readSign := goodIn_ca (goodIn_r _ [98, 1, 42, 43, 44, 6, 45, 2, 46, 110, 111, 112, 113, 114, 115, 116, 117, 118] (by decide +kernel) (by decide +kernel)) (goodIn_sub (fun _ h => List.mem_cons_of_mem _ (List.mem_append_right _ h)) (by decide +kernel))
set_option maxRecDepth 20000 in
theorem gX4_findFault_X4_readSign : GoodIn wsX4_findFault (wsV RX4 51 RX4 yX4_readSign wsX4_readSign) := goodIn_app (goodIn_of _ (by decide +kernel)) ggX4_findFault_X4_readSign
theorem dX4_findFault_0 : decode cX4_findFault 0 = .ok (.aload_n 0, 1) := by decide +kernel
theorem dX4_findFault_1 : decode cX4_findFault 1 = .ok (.invokevirtual 44, 3) := by decide +kernel
theorem dX4_findFault_4 : decode cX4_findFault 4 = .ok (.iconst 0, 1) := by decide +kernel
theorem dX4_findFault_5 : decode cX4_findFault 5 = .ok (.istore_n 1, 1) := by decide +kernel
theorem dX4_findFault_6 : decode cX4_findFault 6 = .ok (.iload_n 1, 1) := by decide +kernel
theorem dX4_findFault_7 : decode cX4_findFault 7 = .ok (.bipush 60, 2) := by decide +kernel
theorem dX4_findFault_9 : decode cX4_findFault 9 = .ok (.if_icmp .ge 50, 3) := by decide +kernel
theorem dX4_findFault_12 : decode cX4_findFault 12 = .ok (.aload_n 0, 1) := by decide +kernel
theorem dX4_findFault_13 : decode cX4_findFault 13 = .ok (.invokevirtual 47, 3) := by decide +kernel
theorem dX4_findFault_16 : decode cX4_findFault 16 = .ok (.ifCond .ne 8, 3) := by decide +kernel
theorem dX4_findFault_19 : decode cX4_findFault 19 = .ok (.aload_n 0, 1) := by decide +kernel
theorem dX4_findFault_20 : decode cX4_findFault 20 = .ok (.getfield 19, 3) := by decide +kernel
theorem dX4_findFault_23 : decode cX4_findFault 23 = .ok (.ireturn, 1) := by decide +kernel
theorem dX4_findFault_24 : decode cX4_findFault 24 = .ok (.aload_n 0, 1) := by decide +kernel
theorem dX4_findFault_25 : decode cX4_findFault 25 = .ok (.bipush 59, 2) := by decide +kernel
theorem dX4_findFault_27 : decode cX4_findFault 27 = .ok (.invokevirtual 51, 3) := by decide +kernel
theorem dX4_findFault_30 : decode cX4_findFault 30 = .ok (.ifCond .ne 23, 3) := by decide +kernel
theorem dX4_findFault_33 : decode cX4_findFault 33 = .ok (.aload_n 0, 1) := by decide +kernel
theorem dX4_findFault_34 : decode cX4_findFault 34 = .ok (.getfield 19, 3) := by decide +kernel
theorem dX4_findFault_37 : decode cX4_findFault 37 = .ok (.aload_n 0, 1) := by decide +kernel
theorem dX4_findFault_38 : decode cX4_findFault 38 = .ok (.getfield 15, 3) := by decide +kernel
theorem dX4_findFault_41 : decode cX4_findFault 41 = .ok (.if_icmp .ge 10, 3) := by decide +kernel
theorem dX4_findFault_44 : decode cX4_findFault 44 = .ok (.aload_n 0, 1) := by decide +kernel
theorem dX4_findFault_45 : decode cX4_findFault 45 = .ok (.getfield 19, 3) := by decide +kernel
theorem dX4_findFault_48 : decode cX4_findFault 48 = .ok (.goto 4, 3) := by decide +kernel
theorem dX4_findFault_51 : decode cX4_findFault 51 = .ok (.iconst (-1), 1) := by decide +kernel
theorem dX4_findFault_52 : decode cX4_findFault 52 = .ok (.ireturn, 1) := by decide +kernel
theorem dX4_findFault_53 : decode cX4_findFault 53 = .ok (.iinc 1 1, 3) := by decide +kernel
theorem dX4_findFault_56 : decode cX4_findFault 56 = .ok (.goto (-50), 3) := by decide +kernel
theorem dX4_findFault_59 : decode cX4_findFault 59 = .ok (.aload_n 0, 1) := by decide +kernel
theorem dX4_findFault_60 : decode cX4_findFault 60 = .ok (.getfield 19, 3) := by decide +kernel
theorem dX4_findFault_63 : decode cX4_findFault 63 = .ok (.ireturn, 1) := by decide +kernel
set_option maxRecDepth 20000 in
theorem ggX4_readCommand_X4_readWord : GoodIn wsX4_readCommand wsX4_readWord := goodIn_ca (goodIn_r _ [8, 1, 9, 10, 11, 12, 13, 14, 15, 16, 17, 18, 19, 7, 20, 21, 22, 23, 24, 25, 26, 27, 28, 29, 30, 31, 32, 33, 34, 35, 36, 37, 38, 39, 40, 41, 42, 43, 44, 45, 46, 47, 48, 49, 50, 51, 52, 53, 54, 55, 56, 57, 58, 59, 60, 61, 62, 63, 64, 65, 66, 67, 68, 69, 70, 71, 72, 73, 74, 75, 102, 103, 104, 105, 106, 107, 108, 109, 110, 111, 112, 113, 114] (by decide +kernel) (by decide +kernel)) (goodIn_sub (fun _ h => List.mem_cons_of_mem _ (List.mem_append_right _ h)) (by decide +kernel))
set_option maxRecDepth 20000 in
theorem gX4_readCommand_X4_readWord : GoodIn wsX4_readCommand (wsV RX4 55 RX4 yX4_readWord wsX4_readWord) := goodIn_app (goodIn_of _ (by decide +kernel)) ggX4_readCommand_X4_readWord
set_option maxRecDepth 20000 in
theorem ggX4_readCommand_X4_readNumber : GoodIn wsX4_readCommand wsX4_readNumber := goodIn_ca (goodIn_r _ [79, 2, 80, 81, 82, 7, 83, 9, 33, 34, 35, 36, 37, 38, 84, 85, 86, 102, 103, 104, 105, 106, 107, 108, 109, 110] (by decide +kernel) (by decide +kernel)) (goodIn_sub (fun _ h => List.mem_cons_of_mem _ (List.mem_append_right _ h)) (by decide +kernel))
set_option maxRecDepth 20000 in
theorem gX4_readCommand_X4_readNumber : GoodIn wsX4_readCommand (wsV RX4 58 RX4 yX4_readNumber wsX4_readNumber) := goodIn_app (goodIn_of _ (by decide +kernel)) ggX4_readCommand_X4_readNumber
set_option maxRecDepth 20000 in
theorem ggX4_readCommand_X4_readDigit : GoodIn wsX4_readCommand wsX4_readDigit := goodIn_ca (goodIn_r _ [83, 9, 2, 33, 34, 35, 7, 36, 37, 38, 84, 85, 86, 102, 103, 104, 105, 106, 107, 108, 109, 110] (by decide +kernel) (by decide +kernel)) (goodIn_sub (fun _ h => List.mem_cons_of_mem _ (List.mem_append_right _ h)) (by decide +kernel))
set_option maxRecDepth 20000 in
theorem gX4_readCommand_X4_readDigit : GoodIn wsX4_readCommand (wsV RX4 61 RX4 yX4_readDigit wsX4_readDigit) := goodIn_app (goodIn_of _ (by decide +kernel)) ggX4_readCommand_X4_readDigit
set_option maxRecDepth 20000 in
theorem ggX4_readCommand_X4_readSign : GoodIn wsX4_readCommand wsX4_readSign := goodIn_ca (goodIn_r _ [90, 9, 33, 34, 35, 7, 36, 37, 38, 102, 103, 104, 105, 106, 107, 108, 109, 110] (by decide +kernel) (by decide +kernel)) (goodIn_sub (fun _ h => List.mem_cons_of_mem _ (List.mem_append_right _ h)) (by decide +kernel))
set_option maxRecDepth 20000 in
theorem gX4_readCommand_X4_readSign : GoodIn wsX4_readCommand (wsV RX4 51 RX4 yX4_readSign wsX4_readSign) := goodIn_app (goodIn_of _ (by decide +kernel)) ggX4_readCommand_X4_readSign
set_option maxRecDepth 20000 in
theorem ggX4_readCommand_X4_readPlace : GoodIn wsX4_readCommand wsX4_readPlace := goodIn_ca (goodIn_r _ [94, 2, 95, 96, 80, 81, 82, 7, 83, 9, 33, 34, 35, 36, 37, 38, 84, 85, 86, 87, 88, 89, 90, 76, 77, 78, 79, 102, 103, 104, 105, 106, 107, 108, 109, 110] (by decide +kernel) (by decide +kernel)) (goodIn_sub (fun _ h => List.mem_cons_of_mem _ (List.mem_append_right _ h)) (by decide +kernel))
set_option maxRecDepth 20000 in
theorem gX4_readCommand_X4_readPlace : GoodIn wsX4_readCommand (wsV RX4 64 RX4 yX4_readPlace wsX4_readPlace) := goodIn_app (goodIn_of _ (by decide +kernel)) ggX4_readCommand_X4_readPlace
set_option maxRecDepth 20000 in
theorem ggX4_readCommand_X4_readMany : GoodIn wsX4_readCommand wsX4_readMany := goodIn_ca (goodIn_r _ [100, 1, 101, 2, 87, 88, 89, 7, 90, 9, 33, 34, 35, 36, 37, 38, 76, 77, 78, 79, 80, 81, 82, 83, 84, 85, 86, 102, 103, 104, 105, 106, 107, 108, 109, 110] (by decide +kernel) (by decide +kernel)) (goodIn_sub (fun _ h => List.mem_cons_of_mem _ (List.mem_append_right _ h)) (by decide +kernel))
set_option maxRecDepth 20000 in
theorem gX4_readCommand_X4_readMany : GoodIn wsX4_readCommand (wsV RX4 67 RX4 yX4_readMany wsX4_readMany) := goodIn_app (goodIn_of _ (by decide +kernel)) ggX4_readCommand_X4_readMany
theorem dX4_readCommand_0 : decode cX4_readCommand 0 = .ok (.aload_n 0, 1) := by decide +kernel
theorem dX4_readCommand_1 : decode cX4_readCommand 1 = .ok (.invokevirtual 55, 3) := by decide +kernel
theorem dX4_readCommand_4 : decode cX4_readCommand 4 = .ok (.ifCond .ne 5, 3) := by decide +kernel
theorem dX4_readCommand_7 : decode cX4_readCommand 7 = .ok (.iconst 0, 1) := by decide +kernel
theorem dX4_readCommand_8 : decode cX4_readCommand 8 = .ok (.ireturn, 1) := by decide +kernel
theorem dX4_readCommand_9 : decode cX4_readCommand 9 = .ok (.aload_n 0, 1) := by decide +kernel
theorem dX4_readCommand_10 : decode cX4_readCommand 10 = .ok (.getfield 22, 3) := by decide +kernel
theorem dX4_readCommand_13 : decode cX4_readCommand 13 = .ok (.bipush 8, 2) := by decide +kernel
theorem dX4_readCommand_15 : decode cX4_readCommand 15 = .ok (.if_icmp .ne 10, 3) := by decide +kernel
theorem dX4_readCommand_18 : decode cX4_readCommand 18 = .ok (.aload_n 0, 1) := by decide +kernel
theorem dX4_readCommand_19 : decode cX4_readCommand 19 = .ok (.invokevirtual 58, 3) := by decide +kernel
theorem dX4_readCommand_22 : decode cX4_readCommand 22 = .ok (.goto 7, 3) := by decide +kernel
theorem dX4_readCommand_25 : decode cX4_readCommand 25 = .ok (.aload_n 0, 1) := by decide +kernel
theorem dX4_readCommand_26 : decode cX4_readCommand 26 = .ok (.invokevirtual 61, 3) := by decide +kernel
theorem dX4_readCommand_29 : decode cX4_readCommand 29 = .ok (.istore_n 1, 1) := by decide +kernel
theorem dX4_readCommand_30 : decode cX4_readCommand 30 = .ok (.aload_n 0, 1) := by decide +kernel
theorem dX4_readCommand_31 : decode cX4_readCommand 31 = .ok (.aload_n 0, 1) := by decide +kernel
theorem dX4_readCommand_32 : decode cX4_readCommand 32 = .ok (.getfield 37, 3) := by decide +kernel
theorem dX4_readCommand_35 : decode cX4_readCommand 35 = .ok (.putfield 25, 3) := by decide +kernel
theorem dX4_readCommand_38 : decode cX4_readCommand 38 = .ok (.aload_n 0, 1) := by decide +kernel
theorem dX4_readCommand_39 : decode cX4_readCommand 39 = .ok (.getfield 22, 3) := by decide +kernel
theorem dX4_readCommand_42 : decode cX4_readCommand 42 = .ok (.iconst 1, 1) := by decide +kernel
theorem dX4_readCommand_43 : decode cX4_readCommand 43 = .ok (.if_icmp .eq 19, 3) := by decide +kernel
theorem dX4_readCommand_46 : decode cX4_readCommand 46 = .ok (.aload_n 0, 1) := by decide +kernel
theorem dX4_readCommand_47 : decode cX4_readCommand 47 = .ok (.getfield 22, 3) := by decide +kernel
theorem dX4_readCommand_50 : decode cX4_readCommand 50 = .ok (.iconst 2, 1) := by decide +kernel
theorem dX4_readCommand_51 : decode cX4_readCommand 51 = .ok (.if_icmp .eq 11, 3) := by decide +kernel
theorem dX4_readCommand_54 : decode cX4_readCommand 54 = .ok (.aload_n 0, 1) := by decide +kernel
theorem dX4_readCommand_55 : decode cX4_readCommand 55 = .ok (.getfield 22, 3) := by decide +kernel
theorem dX4_readCommand_58 : decode cX4_readCommand 58 = .ok (.iconst 3, 1) := by decide +kernel
theorem dX4_readCommand_59 : decode cX4_readCommand 59 = .ok (.if_icmp .ne 7, 3) := by decide +kernel
theorem dX4_readCommand_62 : decode cX4_readCommand 62 = .ok (.iconst 1, 1) := by decide +kernel
theorem dX4_readCommand_63 : decode cX4_readCommand 63 = .ok (.goto 4, 3) := by decide +kernel
theorem dX4_readCommand_66 : decode cX4_readCommand 66 = .ok (.iconst 0, 1) := by decide +kernel
theorem dX4_readCommand_67 : decode cX4_readCommand 67 = .ok (.istore_n 2, 1) := by decide +kernel
theorem dX4_readCommand_68 : decode cX4_readCommand 68 = .ok (.iload_n 1, 1) := by decide +kernel
theorem dX4_readCommand_69 : decode cX4_readCommand 69 = .ok (.ifCond .eq 34, 3) := by decide +kernel
theorem dX4_readCommand_72 : decode cX4_readCommand 72 = .ok (.iload_n 2, 1) := by decide +kernel
theorem dX4_readCommand_73 : decode cX4_readCommand 73 = .ok (.ifCond .eq 26, 3) := by decide +kernel
theorem dX4_readCommand_76 : decode cX4_readCommand 76 = .ok (.aload_n 0, 1) := by decide +kernel
theorem dX4_readCommand_77 : decode cX4_readCommand 77 = .ok (.bipush 32, 2) := by decide +kernel
theorem dX4_readCommand_79 : decode cX4_readCommand 79 = .ok (.invokevirtual 51, 3) := by decide +kernel
theorem dX4_readCommand_82 : decode cX4_readCommand 82 = .ok (.ifCond .eq 21, 3) := by decide +kernel
theorem dX4_readCommand_85 : decode cX4_readCommand 85 = .ok (.aload_n 0, 1) := by decide +kernel
theorem dX4_readCommand_86 : decode cX4_readCommand 86 = .ok (.invokevirtual 64, 3) := by decide +kernel
theorem dX4_readCommand_89 : decode cX4_readCommand 89 = .ok (.ifCond .eq 14, 3) := by decide +kernel
theorem dX4_readCommand_92 : decode cX4_readCommand 92 = .ok (.aload_n 0, 1) := by decide +kernel
theorem dX4_readCommand_93 : decode cX4_readCommand 93 = .ok (.invokevirtual 67, 3) := by decide +kernel
theorem dX4_readCommand_96 : decode cX4_readCommand 96 = .ok (.ifCond .eq 7, 3) := by decide +kernel
theorem dX4_readCommand_99 : decode cX4_readCommand 99 = .ok (.iconst 1, 1) := by decide +kernel
theorem dX4_readCommand_100 : decode cX4_readCommand 100 = .ok (.goto 4, 3) := by decide +kernel
theorem dX4_readCommand_103 : decode cX4_readCommand 103 = .ok (.iconst 0, 1) := by decide +kernel
theorem dX4_readCommand_104 : decode cX4_readCommand 104 = .ok (.ireturn, 1) := by decide +kernel
set_option maxRecDepth 20000 in
theorem ggX4_readSign_X4_signAt : GoodIn wsX4_readSign wsX4_signAt := goodIn_ca (goodIn_r _ [6, 7, 8, 9, 10, 11, 12, 13, 14, 15, 16, 17] (by decide +kernel) (by decide +kernel)) (goodIn_sub (fun _ h => List.mem_cons_of_mem _ (List.mem_append_right _ h)) (by decide +kernel))
set_option maxRecDepth 20000 in
theorem gX4_readSign_X4_signAt : GoodIn wsX4_readSign (wsV RX4 70 RX4 yX4_signAt wsX4_signAt) := goodIn_app (goodIn_of _ (by decide +kernel)) ggX4_readSign_X4_signAt
theorem dX4_readSign_0 : decode cX4_readSign 0 = .ok (.aload_n 0, 1) := by decide +kernel
theorem dX4_readSign_1 : decode cX4_readSign 1 = .ok (.aload_n 0, 1) := by decide +kernel
theorem dX4_readSign_2 : decode cX4_readSign 2 = .ok (.getfield 19, 3) := by decide +kernel
theorem dX4_readSign_5 : decode cX4_readSign 5 = .ok (.invokevirtual 70, 3) := by decide +kernel
theorem dX4_readSign_8 : decode cX4_readSign 8 = .ok (.iload_n 1, 1) := by decide +kernel
theorem dX4_readSign_9 : decode cX4_readSign 9 = .ok (.if_icmp .eq 5, 3) := by decide +kernel
theorem dX4_readSign_12 : decode cX4_readSign 12 = .ok (.iconst 0, 1) := by decide +kernel
theorem dX4_readSign_13 : decode cX4_readSign 13 = .ok (.ireturn, 1) := by decide +kernel
theorem dX4_readSign_14 : decode cX4_readSign 14 = .ok (.aload_n 0, 1) := by decide +kernel
theorem dX4_readSign_15 : decode cX4_readSign 15 = .ok (.dup, 1) := by decide +kernel
theorem dX4_readSign_16 : decode cX4_readSign 16 = .ok (.getfield 19, 3) := by decide +kernel
theorem dX4_readSign_19 : decode cX4_readSign 19 = .ok (.iconst 1, 1) := by decide +kernel
theorem dX4_readSign_20 : decode cX4_readSign 20 = .ok (.iadd, 1) := by decide +kernel
theorem dX4_readSign_21 : decode cX4_readSign 21 = .ok (.putfield 19, 3) := by decide +kernel
theorem dX4_readSign_24 : decode cX4_readSign 24 = .ok (.iconst 1, 1) := by decide +kernel
theorem dX4_readSign_25 : decode cX4_readSign 25 = .ok (.ireturn, 1) := by decide +kernel
set_option maxRecDepth 20000 in
theorem ggX4_readWord_X6_wordOf : GoodIn wsX4_readWord wsX6_wordOf := goodIn_r _ [9] (by decide +kernel) (by decide +kernel)
set_option maxRecDepth 20000 in
theorem gX4_readWord_X6_wordOf_n74 : GoodIn wsX4_readWord (wsX6_wordOf) := ggX4_readWord_X6_wordOf
set_option maxRecDepth 20000 in
theorem ggX4_readWord_X4_sameSigns : GoodIn wsX4_readWord wsX4_sameSigns := goodIn_ca (goodIn_r _ [14, 2, 15, 16, 17, 18, 19, 20, 21, 22, 23, 24, 25, 26, 27, 28, 29, 13, 30, 31, 32, 33, 34, 35, 36, 37, 38, 39, 40, 41, 42, 43, 44, 45, 46, 47, 48, 49, 50, 51, 52, 53, 54, 55, 56, 57, 58, 59, 60, 61, 62, 63, 64, 65, 66, 67, 68, 69, 70, 71, 72, 73, 74, 75, 76, 77, 78, 79, 80, 81, 82] (by decide +kernel) (by decide +kernel)) (goodIn_sub (fun _ h => List.mem_cons_of_mem _ (List.mem_append_right _ h)) (by decide +kernel))
set_option maxRecDepth 20000 in
theorem gX4_readWord_X4_sameSigns : GoodIn wsX4_readWord (wsV RX4 78 RX4 yX4_sameSigns wsX4_sameSigns) := goodIn_app (goodIn_of _ (by decide +kernel)) ggX4_readWord_X4_sameSigns
set_option maxRecDepth 20000 in
theorem ggX4_readWord_J0_length_8abf5 : GoodIn wsX4_readWord wsJ0_length_8abf5 := goodIn_r _ [19, 20, 21, 22, 23, 18, 24, 25, 26, 79, 80, 81, 82] (by decide +kernel) (by decide +kernel)
set_option maxRecDepth 20000 in
theorem gX4_readWord_J0_length_8abf5 : GoodIn wsX4_readWord (wsV RX4 82 RJ0 yJ0_length_8abf5 wsJ0_length_8abf5) := goodIn_app (goodIn_of _ (by decide +kernel)) ggX4_readWord_J0_length_8abf5
theorem dX4_readWord_0 : decode cX4_readWord 0 = .ok (.iconst 0, 1) := by decide +kernel
theorem dX4_readWord_1 : decode cX4_readWord 1 = .ok (.istore_n 1, 1) := by decide +kernel
theorem dX4_readWord_2 : decode cX4_readWord 2 = .ok (.iconst 0, 1) := by decide +kernel
theorem dX4_readWord_3 : decode cX4_readWord 3 = .ok (.istore_n 2, 1) := by decide +kernel
theorem dX4_readWord_4 : decode cX4_readWord 4 = .ok (.iload_n 2, 1) := by decide +kernel
theorem dX4_readWord_5 : decode cX4_readWord 5 = .ok (.bipush 9, 2) := by decide +kernel
theorem dX4_readWord_7 : decode cX4_readWord 7 = .ok (.if_icmp .ge 52, 3) := by decide +kernel
theorem dX4_readWord_10 : decode cX4_readWord 10 = .ok (.aload_n 0, 1) := by decide +kernel
theorem dX4_readWord_11 : decode cX4_readWord 11 = .ok (.iload_n 2, 1) := by decide +kernel
theorem dX4_readWord_12 : decode cX4_readWord 12 = .ok (.invokestatic 74, 3) := by decide +kernel
theorem dX4_readWord_15 : decode cX4_readWord 15 = .ok (.invokevirtual 78, 3) := by decide +kernel
theorem dX4_readWord_18 : decode cX4_readWord 18 = .ok (.istore_n 3, 1) := by decide +kernel
theorem dX4_readWord_19 : decode cX4_readWord 19 = .ok (.iload_n 3, 1) := by decide +kernel
theorem dX4_readWord_20 : decode cX4_readWord 20 = .ok (.iload_n 2, 1) := by decide +kernel
theorem dX4_readWord_21 : decode cX4_readWord 21 = .ok (.invokestatic 74, 3) := by decide +kernel
theorem dX4_readWord_24 : decode cX4_readWord 24 = .ok (.invokevirtual 82, 3) := by decide +kernel
theorem dX4_readWord_27 : decode cX4_readWord 27 = .ok (.if_icmp .ne 20, 3) := by decide +kernel
theorem dX4_readWord_30 : decode cX4_readWord 30 = .ok (.aload_n 0, 1) := by decide +kernel
theorem dX4_readWord_31 : decode cX4_readWord 31 = .ok (.iload_n 2, 1) := by decide +kernel
theorem dX4_readWord_32 : decode cX4_readWord 32 = .ok (.putfield 22, 3) := by decide +kernel
theorem dX4_readWord_35 : decode cX4_readWord 35 = .ok (.aload_n 0, 1) := by decide +kernel
theorem dX4_readWord_36 : decode cX4_readWord 36 = .ok (.dup, 1) := by decide +kernel
theorem dX4_readWord_37 : decode cX4_readWord 37 = .ok (.getfield 19, 3) := by decide +kernel
theorem dX4_readWord_40 : decode cX4_readWord 40 = .ok (.iload_n 3, 1) := by decide +kernel
theorem dX4_readWord_41 : decode cX4_readWord 41 = .ok (.iadd, 1) := by decide +kernel
theorem dX4_readWord_42 : decode cX4_readWord 42 = .ok (.putfield 19, 3) := by decide +kernel
theorem dX4_readWord_45 : decode cX4_readWord 45 = .ok (.iconst 1, 1) := by decide +kernel
theorem dX4_readWord_46 : decode cX4_readWord 46 = .ok (.ireturn, 1) := by decide +kernel
theorem dX4_readWord_47 : decode cX4_readWord 47 = .ok (.iload_n 1, 1) := by decide +kernel
theorem dX4_readWord_48 : decode cX4_readWord 48 = .ok (.iload_n 3, 1) := by decide +kernel
theorem dX4_readWord_49 : decode cX4_readWord 49 = .ok (.invokestatic 87, 3) := by decide +kernel
theorem dX4_readWord_52 : decode cX4_readWord 52 = .ok (.istore_n 1, 1) := by decide +kernel
theorem dX4_readWord_53 : decode cX4_readWord 53 = .ok (.iinc 2 1, 3) := by decide +kernel
theorem dX4_readWord_56 : decode cX4_readWord 56 = .ok (.goto (-52), 3) := by decide +kernel
theorem dX4_readWord_59 : decode cX4_readWord 59 = .ok (.aload_n 0, 1) := by decide +kernel
theorem dX4_readWord_60 : decode cX4_readWord 60 = .ok (.dup, 1) := by decide +kernel
theorem dX4_readWord_61 : decode cX4_readWord 61 = .ok (.getfield 19, 3) := by decide +kernel
theorem dX4_readWord_64 : decode cX4_readWord 64 = .ok (.iload_n 1, 1) := by decide +kernel
theorem dX4_readWord_65 : decode cX4_readWord 65 = .ok (.iadd, 1) := by decide +kernel
theorem dX4_readWord_66 : decode cX4_readWord 66 = .ok (.putfield 19, 3) := by decide +kernel
theorem dX4_readWord_69 : decode cX4_readWord 69 = .ok (.iconst 0, 1) := by decide +kernel
theorem dX4_readWord_70 : decode cX4_readWord 70 = .ok (.ireturn, 1) := by decide +kernel
set_option maxRecDepth 20000 in
theorem ggX4_sameSigns_J0_length_8abf5 : GoodIn wsX4_sameSigns wsJ0_length_8abf5 := goodIn_r _ [6, 7, 8, 9, 10, 5, 11, 12, 13, 67, 68, 69, 70] (by decide +kernel) (by decide +kernel)
set_option maxRecDepth 20000 in
theorem gX4_sameSigns_J0_length_8abf5 : GoodIn wsX4_sameSigns (wsV RX4 82 RJ0 yJ0_length_8abf5 wsJ0_length_8abf5) := goodIn_app (goodIn_of _ (by decide +kernel)) ggX4_sameSigns_J0_length_8abf5
set_option maxRecDepth 20000 in
theorem ggX4_sameSigns_X4_signAt : GoodIn wsX4_sameSigns wsX4_signAt := goodIn_ca (goodIn_r _ [18, 19, 20, 58, 59, 60, 61, 62, 63, 64, 65, 66] (by decide +kernel) (by decide +kernel)) (goodIn_sub (fun _ h => List.mem_cons_of_mem _ (List.mem_append_right _ h)) (by decide +kernel))
set_option maxRecDepth 20000 in
theorem gX4_sameSigns_X4_signAt : GoodIn wsX4_sameSigns (wsV RX4 70 RX4 yX4_signAt wsX4_signAt) := goodIn_app (goodIn_of _ (by decide +kernel)) ggX4_sameSigns_X4_signAt
set_option maxRecDepth 20000 in
theorem ggX4_sameSigns_J0_charAt_5068e : GoodIn wsX4_sameSigns wsJ0_charAt_5068e := goodIn_r _ [24, 7, 25, 26, 27, 5, 28, 12, 13, 29, 30, 31, 32, 33, 34, 35, 36, 37, 38, 39, 40, 41, 42, 43, 44, 45, 46, 47, 48, 49, 50, 51, 52, 53, 54, 55, 56, 57, 67, 68, 69, 70] (by decide +kernel) (by decide +kernel)
set_option maxRecDepth 20000 in
theorem gX4_sameSigns_J0_charAt_5068e : GoodIn wsX4_sameSigns (wsV RX4 93 RJ0 yJ0_charAt_5068e wsJ0_charAt_5068e) := goodIn_app (goodIn_of _ (by decide +kernel)) ggX4_sameSigns_J0_charAt_5068e
theorem dX4_sameSigns_0 : decode cX4_sameSigns 0 = .ok (.iconst 0, 1) := by decide +kernel
theorem dX4_sameSigns_1 : decode cX4_sameSigns 1 = .ok (.istore_n 2, 1) := by decide +kernel
theorem dX4_sameSigns_2 : decode cX4_sameSigns 2 = .ok (.iload_n 2, 1) := by decide +kernel
theorem dX4_sameSigns_3 : decode cX4_sameSigns 3 = .ok (.aload_n 1, 1) := by decide +kernel
theorem dX4_sameSigns_4 : decode cX4_sameSigns 4 = .ok (.invokevirtual 82, 3) := by decide +kernel
theorem dX4_sameSigns_7 : decode cX4_sameSigns 7 = .ok (.if_icmp .ge 29, 3) := by decide +kernel
theorem dX4_sameSigns_10 : decode cX4_sameSigns 10 = .ok (.aload_n 0, 1) := by decide +kernel
theorem dX4_sameSigns_11 : decode cX4_sameSigns 11 = .ok (.aload_n 0, 1) := by decide +kernel
theorem dX4_sameSigns_12 : decode cX4_sameSigns 12 = .ok (.getfield 19, 3) := by decide +kernel
theorem dX4_sameSigns_15 : decode cX4_sameSigns 15 = .ok (.iload_n 2, 1) := by decide +kernel
theorem dX4_sameSigns_16 : decode cX4_sameSigns 16 = .ok (.iadd, 1) := by decide +kernel
theorem dX4_sameSigns_17 : decode cX4_sameSigns 17 = .ok (.invokevirtual 70, 3) := by decide +kernel
theorem dX4_sameSigns_20 : decode cX4_sameSigns 20 = .ok (.aload_n 1, 1) := by decide +kernel
theorem dX4_sameSigns_21 : decode cX4_sameSigns 21 = .ok (.iload_n 2, 1) := by decide +kernel
theorem dX4_sameSigns_22 : decode cX4_sameSigns 22 = .ok (.invokevirtual 93, 3) := by decide +kernel
theorem dX4_sameSigns_25 : decode cX4_sameSigns 25 = .ok (.if_icmp .eq 5, 3) := by decide +kernel
theorem dX4_sameSigns_28 : decode cX4_sameSigns 28 = .ok (.iload_n 2, 1) := by decide +kernel
theorem dX4_sameSigns_29 : decode cX4_sameSigns 29 = .ok (.ireturn, 1) := by decide +kernel
theorem dX4_sameSigns_30 : decode cX4_sameSigns 30 = .ok (.iinc 2 1, 3) := by decide +kernel
theorem dX4_sameSigns_33 : decode cX4_sameSigns 33 = .ok (.goto (-31), 3) := by decide +kernel
theorem dX4_sameSigns_36 : decode cX4_sameSigns 36 = .ok (.aload_n 1, 1) := by decide +kernel
theorem dX4_sameSigns_37 : decode cX4_sameSigns 37 = .ok (.invokevirtual 82, 3) := by decide +kernel
theorem dX4_sameSigns_40 : decode cX4_sameSigns 40 = .ok (.ireturn, 1) := by decide +kernel
set_option maxRecDepth 20000 in
theorem ggX4_readPlace_X4_readDigit : GoodIn wsX4_readPlace wsX4_readDigit := goodIn_ca (goodIn_r _ [8, 9, 1, 10, 11, 12, 7, 13, 14, 15, 16, 17, 18, 27, 28, 29, 30, 31, 32, 33, 34, 35] (by decide +kernel) (by decide +kernel)) (goodIn_sub (fun _ h => List.mem_cons_of_mem _ (List.mem_append_right _ h)) (by decide +kernel))
set_option maxRecDepth 20000 in
theorem gX4_readPlace_X4_readDigit : GoodIn wsX4_readPlace (wsV RX4 61 RX4 yX4_readDigit wsX4_readDigit) := goodIn_app (goodIn_of _ (by decide +kernel)) ggX4_readPlace_X4_readDigit
set_option maxRecDepth 20000 in
theorem ggX4_readPlace_X4_readSign : GoodIn wsX4_readPlace wsX4_readSign := goodIn_ca (goodIn_r _ [22, 9, 10, 11, 12, 7, 13, 14, 15, 27, 28, 29, 30, 31, 32, 33, 34, 35] (by decide +kernel) (by decide +kernel)) (goodIn_sub (fun _ h => List.mem_cons_of_mem _ (List.mem_append_right _ h)) (by decide +kernel))
set_option maxRecDepth 20000 in
theorem gX4_readPlace_X4_readSign : GoodIn wsX4_readPlace (wsV RX4 51 RX4 yX4_readSign wsX4_readSign) := goodIn_app (goodIn_of _ (by decide +kernel)) ggX4_readPlace_X4_readSign
set_option maxRecDepth 20000 in
theorem ggX4_readPlace_X4_readNumber : GoodIn wsX4_readPlace wsX4_readNumber := goodIn_ca (goodIn_r _ [26, 1, 4, 5, 6, 7, 8, 9, 10, 11, 12, 13, 14, 15, 16, 17, 18, 27, 28, 29, 30, 31, 32, 33, 34, 35] (by decide +kernel) (by decide +kernel)) (goodIn_sub (fun _ h => List.mem_cons_of_mem _ (List.mem_append_right _ h)) (by decide +kernel))
set_option maxRecDepth 20000 in
theorem gX4_readPlace_X4_readNumber : GoodIn wsX4_readPlace (wsV RX4 58 RX4 yX4_readNumber wsX4_readNumber) := goodIn_app (goodIn_of _ (by decide +kernel)) ggX4_readPlace_X4_readNumber
theorem dX4_readPlace_0 : decode cX4_readPlace 0 = .ok (.aload_n 0, 1) := by decide +kernel
theorem dX4_readPlace_1 : decode cX4_readPlace 1 = .ok (.invokevirtual 61, 3) := by decide +kernel
theorem dX4_readPlace_4 : decode cX4_readPlace 4 = .ok (.istore_n 1, 1) := by decide +kernel
theorem dX4_readPlace_5 : decode cX4_readPlace 5 = .ok (.aload_n 0, 1) := by decide +kernel
theorem dX4_readPlace_6 : decode cX4_readPlace 6 = .ok (.aload_n 0, 1) := by decide +kernel
theorem dX4_readPlace_7 : decode cX4_readPlace 7 = .ok (.getfield 37, 3) := by decide +kernel
theorem dX4_readPlace_10 : decode cX4_readPlace 10 = .ok (.putfield 28, 3) := by decide +kernel
theorem dX4_readPlace_13 : decode cX4_readPlace 13 = .ok (.iload_n 1, 1) := by decide +kernel
theorem dX4_readPlace_14 : decode cX4_readPlace 14 = .ok (.ifCond .eq 23, 3) := by decide +kernel
theorem dX4_readPlace_17 : decode cX4_readPlace 17 = .ok (.aload_n 0, 1) := by decide +kernel
theorem dX4_readPlace_18 : decode cX4_readPlace 18 = .ok (.bipush 47, 2) := by decide +kernel
theorem dX4_readPlace_20 : decode cX4_readPlace 20 = .ok (.invokevirtual 51, 3) := by decide +kernel
theorem dX4_readPlace_23 : decode cX4_readPlace 23 = .ok (.ifCond .eq 14, 3) := by decide +kernel
theorem dX4_readPlace_26 : decode cX4_readPlace 26 = .ok (.aload_n 0, 1) := by decide +kernel
theorem dX4_readPlace_27 : decode cX4_readPlace 27 = .ok (.invokevirtual 58, 3) := by decide +kernel
theorem dX4_readPlace_30 : decode cX4_readPlace 30 = .ok (.ifCond .eq 7, 3) := by decide +kernel
theorem dX4_readPlace_33 : decode cX4_readPlace 33 = .ok (.iconst 1, 1) := by decide +kernel
theorem dX4_readPlace_34 : decode cX4_readPlace 34 = .ok (.goto 4, 3) := by decide +kernel
theorem dX4_readPlace_37 : decode cX4_readPlace 37 = .ok (.iconst 0, 1) := by decide +kernel
theorem dX4_readPlace_38 : decode cX4_readPlace 38 = .ok (.istore_n 2, 1) := by decide +kernel
theorem dX4_readPlace_39 : decode cX4_readPlace 39 = .ok (.aload_n 0, 1) := by decide +kernel
theorem dX4_readPlace_40 : decode cX4_readPlace 40 = .ok (.aload_n 0, 1) := by decide +kernel
theorem dX4_readPlace_41 : decode cX4_readPlace 41 = .ok (.getfield 37, 3) := by decide +kernel
theorem dX4_readPlace_44 : decode cX4_readPlace 44 = .ok (.putfield 31, 3) := by decide +kernel
theorem dX4_readPlace_47 : decode cX4_readPlace 47 = .ok (.iload_n 2, 1) := by decide +kernel
theorem dX4_readPlace_48 : decode cX4_readPlace 48 = .ok (.ireturn, 1) := by decide +kernel
set_option maxRecDepth 20000 in
theorem ggX4_readMany_X4_readSign : GoodIn wsX4_readMany wsX4_readSign := goodIn_ca (goodIn_r _ [8, 9, 10, 11, 12, 7, 13, 14, 15, 27, 28, 29, 30, 31, 32, 33, 34, 35] (by decide +kernel) (by decide +kernel)) (goodIn_sub (fun _ h => List.mem_cons_of_mem _ (List.mem_append_right _ h)) (by decide +kernel))
set_option maxRecDepth 20000 in
theorem gX4_readMany_X4_readSign : GoodIn wsX4_readMany (wsV RX4 51 RX4 yX4_readSign wsX4_readSign) := goodIn_app (goodIn_of _ (by decide +kernel)) ggX4_readMany_X4_readSign
set_option maxRecDepth 20000 in
theorem ggX4_readMany_X4_readNumber : GoodIn wsX4_readMany wsX4_readNumber := goodIn_ca (goodIn_r _ [19, 3, 20, 21, 22, 7, 23, 9, 10, 11, 12, 13, 14, 15, 24, 25, 26, 27, 28, 29, 30, 31, 32, 33, 34, 35] (by decide +kernel) (by decide +kernel)) (goodIn_sub (fun _ h => List.mem_cons_of_mem _ (List.mem_append_right _ h)) (by decide +kernel))
set_option maxRecDepth 20000 in
theorem gX4_readMany_X4_readNumber : GoodIn wsX4_readMany (wsV RX4 58 RX4 yX4_readNumber wsX4_readNumber) := goodIn_app (goodIn_of _ (by decide +kernel)) ggX4_readMany_X4_readNumber
set_option maxRecDepth 20000 in
theorem ggX4_readMany_X4_readDigit : GoodIn wsX4_readMany wsX4_readDigit := goodIn_ca (goodIn_r _ [23, 9, 3, 10, 11, 12, 7, 13, 14, 15, 24, 25, 26, 27, 28, 29, 30, 31, 32, 33, 34, 35] (by decide +kernel) (by decide +kernel)) (goodIn_sub (fun _ h => List.mem_cons_of_mem _ (List.mem_append_right _ h)) (by decide +kernel))
set_option maxRecDepth 20000 in
theorem gX4_readMany_X4_readDigit : GoodIn wsX4_readMany (wsV RX4 61 RX4 yX4_readDigit wsX4_readDigit) := goodIn_app (goodIn_of _ (by decide +kernel)) ggX4_readMany_X4_readDigit
theorem dX4_readMany_0 : decode cX4_readMany 0 = .ok (.aload_n 0, 1) := by decide +kernel
theorem dX4_readMany_1 : decode cX4_readMany 1 = .ok (.getfield 22, 3) := by decide +kernel
theorem dX4_readMany_4 : decode cX4_readMany 4 = .ok (.iconst 1, 1) := by decide +kernel
theorem dX4_readMany_5 : decode cX4_readMany 5 = .ok (.if_icmp .ne 10, 3) := by decide +kernel
theorem dX4_readMany_8 : decode cX4_readMany 8 = .ok (.aload_n 0, 1) := by decide +kernel
theorem dX4_readMany_9 : decode cX4_readMany 9 = .ok (.iconst 1, 1) := by decide +kernel
theorem dX4_readMany_10 : decode cX4_readMany 10 = .ok (.putfield 34, 3) := by decide +kernel
theorem dX4_readMany_13 : decode cX4_readMany 13 = .ok (.iconst 1, 1) := by decide +kernel
theorem dX4_readMany_14 : decode cX4_readMany 14 = .ok (.ireturn, 1) := by decide +kernel
theorem dX4_readMany_15 : decode cX4_readMany 15 = .ok (.aload_n 0, 1) := by decide +kernel
theorem dX4_readMany_16 : decode cX4_readMany 16 = .ok (.bipush 120, 2) := by decide +kernel
theorem dX4_readMany_18 : decode cX4_readMany 18 = .ok (.invokevirtual 51, 3) := by decide +kernel
theorem dX4_readMany_21 : decode cX4_readMany 21 = .ok (.ifCond .eq 32, 3) := by decide +kernel
theorem dX4_readMany_24 : decode cX4_readMany 24 = .ok (.aload_n 0, 1) := by decide +kernel
theorem dX4_readMany_25 : decode cX4_readMany 25 = .ok (.getfield 22, 3) := by decide +kernel
theorem dX4_readMany_28 : decode cX4_readMany 28 = .ok (.iconst 3, 1) := by decide +kernel
theorem dX4_readMany_29 : decode cX4_readMany 29 = .ok (.if_icmp .ne 13, 3) := by decide +kernel
theorem dX4_readMany_32 : decode cX4_readMany 32 = .ok (.aload_n 0, 1) := by decide +kernel
theorem dX4_readMany_33 : decode cX4_readMany 33 = .ok (.invokevirtual 58, 3) := by decide +kernel
theorem dX4_readMany_36 : decode cX4_readMany 36 = .ok (.ifCond .eq 17, 3) := by decide +kernel
theorem dX4_readMany_39 : decode cX4_readMany 39 = .ok (.goto 10, 3) := by decide +kernel
theorem dX4_readMany_42 : decode cX4_readMany 42 = .ok (.aload_n 0, 1) := by decide +kernel
theorem dX4_readMany_43 : decode cX4_readMany 43 = .ok (.invokevirtual 61, 3) := by decide +kernel
theorem dX4_readMany_46 : decode cX4_readMany 46 = .ok (.ifCond .eq 7, 3) := by decide +kernel
theorem dX4_readMany_49 : decode cX4_readMany 49 = .ok (.iconst 1, 1) := by decide +kernel
theorem dX4_readMany_50 : decode cX4_readMany 50 = .ok (.goto 4, 3) := by decide +kernel
theorem dX4_readMany_53 : decode cX4_readMany 53 = .ok (.iconst 0, 1) := by decide +kernel
theorem dX4_readMany_54 : decode cX4_readMany 54 = .ok (.istore_n 1, 1) := by decide +kernel
theorem dX4_readMany_55 : decode cX4_readMany 55 = .ok (.aload_n 0, 1) := by decide +kernel
theorem dX4_readMany_56 : decode cX4_readMany 56 = .ok (.aload_n 0, 1) := by decide +kernel
theorem dX4_readMany_57 : decode cX4_readMany 57 = .ok (.getfield 37, 3) := by decide +kernel
theorem dX4_readMany_60 : decode cX4_readMany 60 = .ok (.putfield 34, 3) := by decide +kernel
theorem dX4_readMany_63 : decode cX4_readMany 63 = .ok (.iload_n 1, 1) := by decide +kernel
theorem dX4_readMany_64 : decode cX4_readMany 64 = .ok (.ireturn, 1) := by decide +kernel
set_option maxRecDepth 20000 in
theorem ggX4_readDigit_X4_signAt : GoodIn wsX4_readDigit wsX4_signAt := goodIn_ca (goodIn_r _ [7, 8, 9, 13, 14, 15, 16, 17, 18, 19, 20, 21] (by decide +kernel) (by decide +kernel)) (goodIn_sub (fun _ h => List.mem_cons_of_mem _ (List.mem_append_right _ h)) (by decide +kernel))
set_option maxRecDepth 20000 in
theorem gX4_readDigit_X4_signAt : GoodIn wsX4_readDigit (wsV RX4 70 RX4 yX4_signAt wsX4_signAt) := goodIn_app (goodIn_of _ (by decide +kernel)) ggX4_readDigit_X4_signAt
set_option maxRecDepth 20000 in
theorem ggX4_readDigit_X4_isDigit : GoodIn wsX4_readDigit wsX4_isDigit := goodIn_r _ [12] (by decide +kernel) (by decide +kernel)
set_option maxRecDepth 20000 in
theorem gX4_readDigit_X4_isDigit : GoodIn wsX4_readDigit (va_wsS RX4 96 yX4_isDigit wsX4_isDigit) := goodIn_app (goodIn_of _ (by decide +kernel)) ggX4_readDigit_X4_isDigit
theorem dX4_readDigit_0 : decode cX4_readDigit 0 = .ok (.aload_n 0, 1) := by decide +kernel
theorem dX4_readDigit_1 : decode cX4_readDigit 1 = .ok (.aload_n 0, 1) := by decide +kernel
theorem dX4_readDigit_2 : decode cX4_readDigit 2 = .ok (.getfield 19, 3) := by decide +kernel
theorem dX4_readDigit_5 : decode cX4_readDigit 5 = .ok (.invokevirtual 70, 3) := by decide +kernel
theorem dX4_readDigit_8 : decode cX4_readDigit 8 = .ok (.invokestatic 96, 3) := by decide +kernel
theorem dX4_readDigit_11 : decode cX4_readDigit 11 = .ok (.ifCond .ne 5, 3) := by decide +kernel
theorem dX4_readDigit_14 : decode cX4_readDigit 14 = .ok (.iconst 0, 1) := by decide +kernel
theorem dX4_readDigit_15 : decode cX4_readDigit 15 = .ok (.ireturn, 1) := by decide +kernel
theorem dX4_readDigit_16 : decode cX4_readDigit 16 = .ok (.aload_n 0, 1) := by decide +kernel
theorem dX4_readDigit_17 : decode cX4_readDigit 17 = .ok (.aload_n 0, 1) := by decide +kernel
theorem dX4_readDigit_18 : decode cX4_readDigit 18 = .ok (.aload_n 0, 1) := by decide +kernel
theorem dX4_readDigit_19 : decode cX4_readDigit 19 = .ok (.getfield 19, 3) := by decide +kernel
theorem dX4_readDigit_22 : decode cX4_readDigit 22 = .ok (.invokevirtual 70, 3) := by decide +kernel
theorem dX4_readDigit_25 : decode cX4_readDigit 25 = .ok (.bipush 48, 2) := by decide +kernel
theorem dX4_readDigit_27 : decode cX4_readDigit 27 = .ok (.isub, 1) := by decide +kernel
theorem dX4_readDigit_28 : decode cX4_readDigit 28 = .ok (.putfield 37, 3) := by decide +kernel
theorem dX4_readDigit_31 : decode cX4_readDigit 31 = .ok (.aload_n 0, 1) := by decide +kernel
theorem dX4_readDigit_32 : decode cX4_readDigit 32 = .ok (.dup, 1) := by decide +kernel
theorem dX4_readDigit_33 : decode cX4_readDigit 33 = .ok (.getfield 19, 3) := by decide +kernel
theorem dX4_readDigit_36 : decode cX4_readDigit 36 = .ok (.iconst 1, 1) := by decide +kernel
theorem dX4_readDigit_37 : decode cX4_readDigit 37 = .ok (.iadd, 1) := by decide +kernel
theorem dX4_readDigit_38 : decode cX4_readDigit 38 = .ok (.putfield 19, 3) := by decide +kernel
theorem dX4_readDigit_41 : decode cX4_readDigit 41 = .ok (.iconst 1, 1) := by decide +kernel
theorem dX4_readDigit_42 : decode cX4_readDigit 42 = .ok (.ireturn, 1) := by decide +kernel
set_option maxRecDepth 20000 in
theorem ggX4_readNumber_X4_readDigit : GoodIn wsX4_readNumber wsX4_readDigit := goodIn_ca (goodIn_r _ [6, 7, 1, 8, 9, 10, 5, 11, 12, 13, 14, 15, 16, 17, 18, 19, 20, 21, 22, 23, 24, 25] (by decide +kernel) (by decide +kernel)) (goodIn_sub (fun _ h => List.mem_cons_of_mem _ (List.mem_append_right _ h)) (by decide +kernel))
set_option maxRecDepth 20000 in
theorem gX4_readNumber_X4_readDigit : GoodIn wsX4_readNumber (wsV RX4 61 RX4 yX4_readDigit wsX4_readDigit) := goodIn_app (goodIn_of _ (by decide +kernel)) ggX4_readNumber_X4_readDigit
theorem dX4_readNumber_0 : decode cX4_readNumber 0 = .ok (.aload_n 0, 1) := by decide +kernel
theorem dX4_readNumber_1 : decode cX4_readNumber 1 = .ok (.invokevirtual 61, 3) := by decide +kernel
theorem dX4_readNumber_4 : decode cX4_readNumber 4 = .ok (.ifCond .ne 5, 3) := by decide +kernel
theorem dX4_readNumber_7 : decode cX4_readNumber 7 = .ok (.iconst 0, 1) := by decide +kernel
theorem dX4_readNumber_8 : decode cX4_readNumber 8 = .ok (.ireturn, 1) := by decide +kernel
theorem dX4_readNumber_9 : decode cX4_readNumber 9 = .ok (.aload_n 0, 1) := by decide +kernel
theorem dX4_readNumber_10 : decode cX4_readNumber 10 = .ok (.getfield 37, 3) := by decide +kernel
theorem dX4_readNumber_13 : decode cX4_readNumber 13 = .ok (.istore_n 1, 1) := by decide +kernel
theorem dX4_readNumber_14 : decode cX4_readNumber 14 = .ok (.aload_n 0, 1) := by decide +kernel
theorem dX4_readNumber_15 : decode cX4_readNumber 15 = .ok (.invokevirtual 61, 3) := by decide +kernel
theorem dX4_readNumber_18 : decode cX4_readNumber 18 = .ok (.ifCond .eq 16, 3) := by decide +kernel
theorem dX4_readNumber_21 : decode cX4_readNumber 21 = .ok (.aload_n 0, 1) := by decide +kernel
theorem dX4_readNumber_22 : decode cX4_readNumber 22 = .ok (.dup, 1) := by decide +kernel
theorem dX4_readNumber_23 : decode cX4_readNumber 23 = .ok (.getfield 37, 3) := by decide +kernel
theorem dX4_readNumber_26 : decode cX4_readNumber 26 = .ok (.iload_n 1, 1) := by decide +kernel
theorem dX4_readNumber_27 : decode cX4_readNumber 27 = .ok (.bipush 10, 2) := by decide +kernel
theorem dX4_readNumber_29 : decode cX4_readNumber 29 = .ok (.imul, 1) := by decide +kernel
theorem dX4_readNumber_30 : decode cX4_readNumber 30 = .ok (.iadd, 1) := by decide +kernel
theorem dX4_readNumber_31 : decode cX4_readNumber 31 = .ok (.putfield 37, 3) := by decide +kernel
theorem dX4_readNumber_34 : decode cX4_readNumber 34 = .ok (.iconst 1, 1) := by decide +kernel
theorem dX4_readNumber_35 : decode cX4_readNumber 35 = .ok (.ireturn, 1) := by decide +kernel
theorem dX4_isDigit_0 : decode cX4_isDigit 0 = .ok (.iload_n 0, 1) := by decide +kernel
theorem dX4_isDigit_1 : decode cX4_isDigit 1 = .ok (.bipush 48, 2) := by decide +kernel
theorem dX4_isDigit_3 : decode cX4_isDigit 3 = .ok (.if_icmp .lt 13, 3) := by decide +kernel
theorem dX4_isDigit_6 : decode cX4_isDigit 6 = .ok (.iload_n 0, 1) := by decide +kernel
theorem dX4_isDigit_7 : decode cX4_isDigit 7 = .ok (.bipush 57, 2) := by decide +kernel
theorem dX4_isDigit_9 : decode cX4_isDigit 9 = .ok (.if_icmp .gt 7, 3) := by decide +kernel
theorem dX4_isDigit_12 : decode cX4_isDigit 12 = .ok (.iconst 1, 1) := by decide +kernel
theorem dX4_isDigit_13 : decode cX4_isDigit 13 = .ok (.goto 4, 3) := by decide +kernel
theorem dX4_isDigit_16 : decode cX4_isDigit 16 = .ok (.iconst 0, 1) := by decide +kernel
theorem dX4_isDigit_17 : decode cX4_isDigit 17 = .ok (.ireturn, 1) := by decide +kernel
theorem dX4_signAt_0 : decode cX4_signAt 0 = .ok (.iload_n 1, 1) := by decide +kernel
theorem dX4_signAt_1 : decode cX4_signAt 1 = .ok (.ifCond .lt 29, 3) := by decide +kernel
theorem dX4_signAt_4 : decode cX4_signAt 4 = .ok (.iload_n 1, 1) := by decide +kernel
theorem dX4_signAt_5 : decode cX4_signAt 5 = .ok (.aload_n 0, 1) := by decide +kernel
theorem dX4_signAt_6 : decode cX4_signAt 6 = .ok (.getfield 15, 3) := by decide +kernel
theorem dX4_signAt_9 : decode cX4_signAt 9 = .ok (.if_icmp .ge 21, 3) := by decide +kernel
theorem dX4_signAt_12 : decode cX4_signAt 12 = .ok (.iload_n 1, 1) := by decide +kernel
theorem dX4_signAt_13 : decode cX4_signAt 13 = .ok (.aload_n 0, 1) := by decide +kernel
theorem dX4_signAt_14 : decode cX4_signAt 14 = .ok (.getfield 9, 3) := by decide +kernel
theorem dX4_signAt_17 : decode cX4_signAt 17 = .ok (.arraylength, 1) := by decide +kernel
theorem dX4_signAt_18 : decode cX4_signAt 18 = .ok (.if_icmp .ge 12, 3) := by decide +kernel
theorem dX4_signAt_21 : decode cX4_signAt 21 = .ok (.aload_n 0, 1) := by decide +kernel
theorem dX4_signAt_22 : decode cX4_signAt 22 = .ok (.getfield 9, 3) := by decide +kernel
theorem dX4_signAt_25 : decode cX4_signAt 25 = .ok (.iload_n 1, 1) := by decide +kernel
theorem dX4_signAt_26 : decode cX4_signAt 26 = .ok (.caload, 1) := by decide +kernel
theorem dX4_signAt_27 : decode cX4_signAt 27 = .ok (.goto 4, 3) := by decide +kernel
theorem dX4_signAt_30 : decode cX4_signAt 30 = .ok (.iconst 0, 1) := by decide +kernel
theorem dX4_signAt_31 : decode cX4_signAt 31 = .ok (.ireturn, 1) := by decide +kernel
set_option maxRecDepth 20000 in
theorem ggX5_init_X0_init : GoodIn wsX5_init wsX0_init := goodIn_ca (goodIn_r _ [10, 11, 2, 3, 12, 13, 14, 15, 16, 6, 17, 18, 19, 20, 21, 22, 23, 24, 25] (by decide +kernel) (by decide +kernel)) (goodIn_sub (fun _ h => List.mem_cons_of_mem _ (List.mem_append_right _ h)) (by decide +kernel))
set_option maxRecDepth 20000 in
theorem gX5_init_X0_init : GoodIn wsX5_init (wsX0_init) := ggX5_init_X0_init
theorem dX5_init_0 : decode cX5_init 0 = .ok (.aload_n 0, 1) := by decide +kernel
theorem dX5_init_1 : decode cX5_init 1 = .ok (.invokespecial 3, 3) := by decide +kernel
theorem dX5_init_4 : decode cX5_init 4 = .ok (.aload_n 0, 1) := by decide +kernel
theorem dX5_init_5 : decode cX5_init 5 = .ok (.new 9, 3) := by decide +kernel
theorem dX5_init_8 : decode cX5_init 8 = .ok (.dup, 1) := by decide +kernel
theorem dX5_init_9 : decode cX5_init 9 = .ok (.invokespecial 11, 3) := by decide +kernel
theorem dX5_init_12 : decode cX5_init 12 = .ok (.putfield 12, 3) := by decide +kernel
theorem dX5_init_15 : decode cX5_init 15 = .ok (.return_, 1) := by decide +kernel
set_option maxRecDepth 20000 in
theorem ggX5_planTour_X0_get : GoodIn wsX5_planTour wsX0_get := goodIn_ca (goodIn_r _ [6, 7, 20] (by decide +kernel) (by decide +kernel)) (goodIn_sub (fun _ h => List.mem_cons_of_mem _ (List.mem_append_right _ h)) (by decide +kernel))
set_option maxRecDepth 20000 in
theorem gX5_planTour_X0_get : GoodIn wsX5_planTour (wsV RX5 18 RX0 yX0_get wsX0_get) := goodIn_app (goodIn_of _ (by decide +kernel)) ggX5_planTour_X0_get
set_option maxRecDepth 20000 in
theorem ggX5_planTour_X6_ofTour : GoodIn wsX5_planTour wsX6_ofTour := goodIn_r _ [10] (by decide +kernel) (by decide +kernel)
set_option maxRecDepth 20000 in
theorem gX5_planTour_X6_ofTour_n22 : GoodIn wsX5_planTour (wsX6_ofTour) := ggX5_planTour_X6_ofTour
set_option maxRecDepth 20000 in
theorem ggX5_planTour_X0_set : GoodIn wsX5_planTour wsX0_set := goodIn_ca (goodIn_r _ [14, 7, 20] (by decide +kernel) (by decide +kernel)) (goodIn_sub (fun _ h => List.mem_cons_of_mem _ (List.mem_append_right _ h)) (by decide +kernel))
set_option maxRecDepth 20000 in
theorem gX5_planTour_X0_set : GoodIn wsX5_planTour (wsV RX5 26 RX0 yX0_set wsX0_set) := goodIn_app (goodIn_of _ (by decide +kernel)) ggX5_planTour_X0_set
set_option maxRecDepth 20000 in
theorem ggX5_planTour_X0_add : GoodIn wsX5_planTour wsX0_add := goodIn_ca (goodIn_r _ [18, 7, 20] (by decide +kernel) (by decide +kernel)) (goodIn_sub (fun _ h => List.mem_cons_of_mem _ (List.mem_append_right _ h)) (by decide +kernel))
set_option maxRecDepth 20000 in
theorem gX5_planTour_X0_add : GoodIn wsX5_planTour (wsV RX5 30 RX0 yX0_add wsX0_add) := goodIn_app (goodIn_of _ (by decide +kernel)) ggX5_planTour_X0_add
theorem dX5_planTour_0 : decode cX5_planTour 0 = .ok (.aload_n 0, 1) := by decide +kernel
theorem dX5_planTour_1 : decode cX5_planTour 1 = .ok (.getfield 12, 3) := by decide +kernel
theorem dX5_planTour_4 : decode cX5_planTour 4 = .ok (.iconst 1, 1) := by decide +kernel
theorem dX5_planTour_5 : decode cX5_planTour 5 = .ok (.invokevirtual 18, 3) := by decide +kernel
theorem dX5_planTour_8 : decode cX5_planTour 8 = .ok (.istore_n 2, 1) := by decide +kernel
theorem dX5_planTour_9 : decode cX5_planTour 9 = .ok (.aload_n 0, 1) := by decide +kernel
theorem dX5_planTour_10 : decode cX5_planTour 10 = .ok (.getfield 12, 3) := by decide +kernel
theorem dX5_planTour_13 : decode cX5_planTour 13 = .ok (.iload_n 2, 1) := by decide +kernel
theorem dX5_planTour_14 : decode cX5_planTour 14 = .ok (.iconst 1, 1) := by decide +kernel
theorem dX5_planTour_15 : decode cX5_planTour 15 = .ok (.invokestatic 22, 3) := by decide +kernel
theorem dX5_planTour_18 : decode cX5_planTour 18 = .ok (.iload_n 1, 1) := by decide +kernel
theorem dX5_planTour_19 : decode cX5_planTour 19 = .ok (.invokevirtual 26, 3) := by decide +kernel
theorem dX5_planTour_22 : decode cX5_planTour 22 = .ok (.aload_n 0, 1) := by decide +kernel
theorem dX5_planTour_23 : decode cX5_planTour 23 = .ok (.getfield 12, 3) := by decide +kernel
theorem dX5_planTour_26 : decode cX5_planTour 26 = .ok (.iconst 1, 1) := by decide +kernel
theorem dX5_planTour_27 : decode cX5_planTour 27 = .ok (.iconst 1, 1) := by decide +kernel
theorem dX5_planTour_28 : decode cX5_planTour 28 = .ok (.invokevirtual 30, 3) := by decide +kernel
theorem dX5_planTour_31 : decode cX5_planTour 31 = .ok (.iload_n 2, 1) := by decide +kernel
theorem dX5_planTour_32 : decode cX5_planTour 32 = .ok (.ireturn, 1) := by decide +kernel
set_option maxRecDepth 20000 in
theorem ggX5_giveStep_X6_ofTour : GoodIn wsX5_giveStep wsX6_ofTour := goodIn_r _ [4] (by decide +kernel) (by decide +kernel)
set_option maxRecDepth 20000 in
theorem gX5_giveStep_X6_ofTour_n22 : GoodIn wsX5_giveStep (wsX6_ofTour) := ggX5_giveStep_X6_ofTour
set_option maxRecDepth 20000 in
theorem ggX5_giveStep_X0_get : GoodIn wsX5_giveStep wsX0_get := goodIn_ca (goodIn_r _ [9, 10, 18] (by decide +kernel) (by decide +kernel)) (goodIn_sub (fun _ h => List.mem_cons_of_mem _ (List.mem_append_right _ h)) (by decide +kernel))
set_option maxRecDepth 20000 in
theorem gX5_giveStep_X0_get : GoodIn wsX5_giveStep (wsV RX5 18 RX0 yX0_get wsX0_get) := goodIn_app (goodIn_of _ (by decide +kernel)) ggX5_giveStep_X0_get
set_option maxRecDepth 20000 in
theorem ggX5_giveStep_X6_ofStep : GoodIn wsX5_giveStep wsX6_ofStep := goodIn_r _ [12] (by decide +kernel) (by decide +kernel)
set_option maxRecDepth 20000 in
theorem gX5_giveStep_X6_ofStep_n33 : GoodIn wsX5_giveStep (wsX6_ofStep) := ggX5_giveStep_X6_ofStep
set_option maxRecDepth 20000 in
theorem ggX5_giveStep_X0_set : GoodIn wsX5_giveStep wsX0_set := goodIn_ca (goodIn_r _ [16, 10, 18] (by decide +kernel) (by decide +kernel)) (goodIn_sub (fun _ h => List.mem_cons_of_mem _ (List.mem_append_right _ h)) (by decide +kernel))
set_option maxRecDepth 20000 in
theorem gX5_giveStep_X0_set : GoodIn wsX5_giveStep (wsV RX5 26 RX0 yX0_set wsX0_set) := goodIn_app (goodIn_of _ (by decide +kernel)) ggX5_giveStep_X0_set
theorem dX5_giveStep_0 : decode cX5_giveStep 0 = .ok (.aload_n 0, 1) := by decide +kernel
theorem dX5_giveStep_1 : decode cX5_giveStep 1 = .ok (.getfield 12, 3) := by decide +kernel
theorem dX5_giveStep_4 : decode cX5_giveStep 4 = .ok (.iload_n 1, 1) := by decide +kernel
theorem dX5_giveStep_5 : decode cX5_giveStep 5 = .ok (.iconst 2, 1) := by decide +kernel
theorem dX5_giveStep_6 : decode cX5_giveStep 6 = .ok (.invokestatic 22, 3) := by decide +kernel
theorem dX5_giveStep_9 : decode cX5_giveStep 9 = .ok (.invokevirtual 18, 3) := by decide +kernel
theorem dX5_giveStep_12 : decode cX5_giveStep 12 = .ok (.istore 6, 2) := by decide +kernel
theorem dX5_giveStep_14 : decode cX5_giveStep 14 = .ok (.aload_n 0, 1) := by decide +kernel
theorem dX5_giveStep_15 : decode cX5_giveStep 15 = .ok (.getfield 12, 3) := by decide +kernel
theorem dX5_giveStep_18 : decode cX5_giveStep 18 = .ok (.iload_n 1, 1) := by decide +kernel
theorem dX5_giveStep_19 : decode cX5_giveStep 19 = .ok (.iload 6, 2) := by decide +kernel
theorem dX5_giveStep_21 : decode cX5_giveStep 21 = .ok (.iconst 0, 1) := by decide +kernel
theorem dX5_giveStep_22 : decode cX5_giveStep 22 = .ok (.invokestatic 33, 3) := by decide +kernel
theorem dX5_giveStep_25 : decode cX5_giveStep 25 = .ok (.iload_n 2, 1) := by decide +kernel
theorem dX5_giveStep_26 : decode cX5_giveStep 26 = .ok (.invokevirtual 26, 3) := by decide +kernel
theorem dX5_giveStep_29 : decode cX5_giveStep 29 = .ok (.aload_n 0, 1) := by decide +kernel
theorem dX5_giveStep_30 : decode cX5_giveStep 30 = .ok (.getfield 12, 3) := by decide +kernel
theorem dX5_giveStep_33 : decode cX5_giveStep 33 = .ok (.iload_n 1, 1) := by decide +kernel
theorem dX5_giveStep_34 : decode cX5_giveStep 34 = .ok (.iload 6, 2) := by decide +kernel
theorem dX5_giveStep_36 : decode cX5_giveStep 36 = .ok (.iconst 1, 1) := by decide +kernel
theorem dX5_giveStep_37 : decode cX5_giveStep 37 = .ok (.invokestatic 33, 3) := by decide +kernel
theorem dX5_giveStep_40 : decode cX5_giveStep 40 = .ok (.iload_n 3, 1) := by decide +kernel
theorem dX5_giveStep_41 : decode cX5_giveStep 41 = .ok (.invokevirtual 26, 3) := by decide +kernel
theorem dX5_giveStep_44 : decode cX5_giveStep 44 = .ok (.aload_n 0, 1) := by decide +kernel
theorem dX5_giveStep_45 : decode cX5_giveStep 45 = .ok (.getfield 12, 3) := by decide +kernel
theorem dX5_giveStep_48 : decode cX5_giveStep 48 = .ok (.iload_n 1, 1) := by decide +kernel
theorem dX5_giveStep_49 : decode cX5_giveStep 49 = .ok (.iload 6, 2) := by decide +kernel
theorem dX5_giveStep_51 : decode cX5_giveStep 51 = .ok (.iconst 2, 1) := by decide +kernel
theorem dX5_giveStep_52 : decode cX5_giveStep 52 = .ok (.invokestatic 33, 3) := by decide +kernel
theorem dX5_giveStep_55 : decode cX5_giveStep 55 = .ok (.iload 4, 2) := by decide +kernel
theorem dX5_giveStep_57 : decode cX5_giveStep 57 = .ok (.invokevirtual 26, 3) := by decide +kernel
theorem dX5_giveStep_60 : decode cX5_giveStep 60 = .ok (.aload_n 0, 1) := by decide +kernel
theorem dX5_giveStep_61 : decode cX5_giveStep 61 = .ok (.getfield 12, 3) := by decide +kernel
theorem dX5_giveStep_64 : decode cX5_giveStep 64 = .ok (.iload_n 1, 1) := by decide +kernel
theorem dX5_giveStep_65 : decode cX5_giveStep 65 = .ok (.iload 6, 2) := by decide +kernel
theorem dX5_giveStep_67 : decode cX5_giveStep 67 = .ok (.iconst 3, 1) := by decide +kernel
theorem dX5_giveStep_68 : decode cX5_giveStep 68 = .ok (.invokestatic 33, 3) := by decide +kernel
theorem dX5_giveStep_71 : decode cX5_giveStep 71 = .ok (.iload 5, 2) := by decide +kernel
theorem dX5_giveStep_73 : decode cX5_giveStep 73 = .ok (.invokevirtual 26, 3) := by decide +kernel
theorem dX5_giveStep_76 : decode cX5_giveStep 76 = .ok (.aload_n 0, 1) := by decide +kernel
theorem dX5_giveStep_77 : decode cX5_giveStep 77 = .ok (.getfield 12, 3) := by decide +kernel
theorem dX5_giveStep_80 : decode cX5_giveStep 80 = .ok (.iload_n 1, 1) := by decide +kernel
theorem dX5_giveStep_81 : decode cX5_giveStep 81 = .ok (.iconst 2, 1) := by decide +kernel
theorem dX5_giveStep_82 : decode cX5_giveStep 82 = .ok (.invokestatic 22, 3) := by decide +kernel
theorem dX5_giveStep_85 : decode cX5_giveStep 85 = .ok (.iload 6, 2) := by decide +kernel
theorem dX5_giveStep_87 : decode cX5_giveStep 87 = .ok (.iconst 1, 1) := by decide +kernel
theorem dX5_giveStep_88 : decode cX5_giveStep 88 = .ok (.iadd, 1) := by decide +kernel
theorem dX5_giveStep_89 : decode cX5_giveStep 89 = .ok (.invokevirtual 26, 3) := by decide +kernel
theorem dX5_giveStep_92 : decode cX5_giveStep 92 = .ok (.iload 6, 2) := by decide +kernel
theorem dX5_giveStep_94 : decode cX5_giveStep 94 = .ok (.iconst 1, 1) := by decide +kernel
theorem dX5_giveStep_95 : decode cX5_giveStep 95 = .ok (.iadd, 1) := by decide +kernel
theorem dX5_giveStep_96 : decode cX5_giveStep 96 = .ok (.ireturn, 1) := by decide +kernel
set_option maxRecDepth 20000 in
theorem ggX5_startTour_X6_ofTour : GoodIn wsX5_startTour wsX6_ofTour := goodIn_r _ [4] (by decide +kernel) (by decide +kernel)
set_option maxRecDepth 20000 in
theorem gX5_startTour_X6_ofTour_n22 : GoodIn wsX5_startTour (wsX6_ofTour) := ggX5_startTour_X6_ofTour
set_option maxRecDepth 20000 in
theorem ggX5_startTour_X0_set : GoodIn wsX5_startTour wsX0_set := goodIn_ca (goodIn_r _ [9, 10, 21] (by decide +kernel) (by decide +kernel)) (goodIn_sub (fun _ h => List.mem_cons_of_mem _ (List.mem_append_right _ h)) (by decide +kernel))
set_option maxRecDepth 20000 in
theorem gX5_startTour_X0_set : GoodIn wsX5_startTour (wsV RX5 26 RX0 yX0_set wsX0_set) := goodIn_app (goodIn_of _ (by decide +kernel)) ggX5_startTour_X0_set
set_option maxRecDepth 20000 in
theorem ggX5_startTour_X5_toursThatAre : GoodIn wsX5_startTour wsX5_toursThatAre := goodIn_ca (goodIn_r _ [15, 1, 16, 17, 18, 8, 19, 10, 2, 3, 4, 20, 21] (by decide +kernel) (by decide +kernel)) (goodIn_sub (fun _ h => List.mem_cons_of_mem _ (List.mem_append_right _ h)) (by decide +kernel))
set_option maxRecDepth 20000 in
theorem gX5_startTour_X5_toursThatAre : GoodIn wsX5_startTour (wsV RX5 37 RX5 yX5_toursThatAre wsX5_toursThatAre) := goodIn_app (goodIn_of _ (by decide +kernel)) ggX5_startTour_X5_toursThatAre
theorem dX5_startTour_0 : decode cX5_startTour 0 = .ok (.aload_n 0, 1) := by decide +kernel
theorem dX5_startTour_1 : decode cX5_startTour 1 = .ok (.getfield 12, 3) := by decide +kernel
theorem dX5_startTour_4 : decode cX5_startTour 4 = .ok (.iload_n 1, 1) := by decide +kernel
theorem dX5_startTour_5 : decode cX5_startTour 5 = .ok (.iconst 0, 1) := by decide +kernel
theorem dX5_startTour_6 : decode cX5_startTour 6 = .ok (.invokestatic 22, 3) := by decide +kernel
theorem dX5_startTour_9 : decode cX5_startTour 9 = .ok (.iconst 1, 1) := by decide +kernel
theorem dX5_startTour_10 : decode cX5_startTour 10 = .ok (.invokevirtual 26, 3) := by decide +kernel
theorem dX5_startTour_13 : decode cX5_startTour 13 = .ok (.aload_n 0, 1) := by decide +kernel
theorem dX5_startTour_14 : decode cX5_startTour 14 = .ok (.iconst 1, 1) := by decide +kernel
theorem dX5_startTour_15 : decode cX5_startTour 15 = .ok (.invokevirtual 37, 3) := by decide +kernel
theorem dX5_startTour_18 : decode cX5_startTour 18 = .ok (.ireturn, 1) := by decide +kernel
set_option maxRecDepth 20000 in
theorem ggX5_callBack_X6_ofTour : GoodIn wsX5_callBack wsX6_ofTour := goodIn_r _ [4] (by decide +kernel) (by decide +kernel)
set_option maxRecDepth 20000 in
theorem gX5_callBack_X6_ofTour_n22 : GoodIn wsX5_callBack (wsX6_ofTour) := ggX5_callBack_X6_ofTour
set_option maxRecDepth 20000 in
theorem ggX5_callBack_X0_set : GoodIn wsX5_callBack wsX0_set := goodIn_ca (goodIn_r _ [9, 10, 21] (by decide +kernel) (by decide +kernel)) (goodIn_sub (fun _ h => List.mem_cons_of_mem _ (List.mem_append_right _ h)) (by decide +kernel))
set_option maxRecDepth 20000 in
theorem gX5_callBack_X0_set : GoodIn wsX5_callBack (wsV RX5 26 RX0 yX0_set wsX0_set) := goodIn_app (goodIn_of _ (by decide +kernel)) ggX5_callBack_X0_set
set_option maxRecDepth 20000 in
theorem ggX5_callBack_X5_turnBack : GoodIn wsX5_callBack wsX5_turnBack := goodIn_ca (goodIn_r _ [15, 1, 2, 3, 4, 5, 6, 7, 8, 9, 10, 16, 17, 18, 19, 20, 21] (by decide +kernel) (by decide +kernel)) (goodIn_sub (fun _ h => List.mem_cons_of_mem _ (List.mem_append_right _ h)) (by decide +kernel))
set_option maxRecDepth 20000 in
theorem gX5_callBack_X5_turnBack : GoodIn wsX5_callBack (wsV RX5 40 RX5 yX5_turnBack wsX5_turnBack) := goodIn_app (goodIn_of _ (by decide +kernel)) ggX5_callBack_X5_turnBack
set_option maxRecDepth 20000 in
theorem ggX5_callBack_X0_get : GoodIn wsX5_callBack wsX0_get := goodIn_ca (goodIn_r _ [19, 10, 21] (by decide +kernel) (by decide +kernel)) (goodIn_sub (fun _ h => List.mem_cons_of_mem _ (List.mem_append_right _ h)) (by decide +kernel))
set_option maxRecDepth 20000 in
theorem gX5_callBack_X0_get : GoodIn wsX5_callBack (wsV RX5 18 RX0 yX0_get wsX0_get) := goodIn_app (goodIn_of _ (by decide +kernel)) ggX5_callBack_X0_get
theorem dX5_callBack_0 : decode cX5_callBack 0 = .ok (.aload_n 0, 1) := by decide +kernel
theorem dX5_callBack_1 : decode cX5_callBack 1 = .ok (.getfield 12, 3) := by decide +kernel
theorem dX5_callBack_4 : decode cX5_callBack 4 = .ok (.iload_n 1, 1) := by decide +kernel
theorem dX5_callBack_5 : decode cX5_callBack 5 = .ok (.iconst 5, 1) := by decide +kernel
theorem dX5_callBack_6 : decode cX5_callBack 6 = .ok (.invokestatic 22, 3) := by decide +kernel
theorem dX5_callBack_9 : decode cX5_callBack 9 = .ok (.iconst 4, 1) := by decide +kernel
theorem dX5_callBack_10 : decode cX5_callBack 10 = .ok (.invokevirtual 26, 3) := by decide +kernel
theorem dX5_callBack_13 : decode cX5_callBack 13 = .ok (.aload_n 0, 1) := by decide +kernel
theorem dX5_callBack_14 : decode cX5_callBack 14 = .ok (.iload_n 1, 1) := by decide +kernel
theorem dX5_callBack_15 : decode cX5_callBack 15 = .ok (.invokevirtual 40, 3) := by decide +kernel
theorem dX5_callBack_18 : decode cX5_callBack 18 = .ok (.aload_n 0, 1) := by decide +kernel
theorem dX5_callBack_19 : decode cX5_callBack 19 = .ok (.getfield 12, 3) := by decide +kernel
theorem dX5_callBack_22 : decode cX5_callBack 22 = .ok (.iload_n 1, 1) := by decide +kernel
theorem dX5_callBack_23 : decode cX5_callBack 23 = .ok (.iconst 3, 1) := by decide +kernel
theorem dX5_callBack_24 : decode cX5_callBack 24 = .ok (.invokestatic 22, 3) := by decide +kernel
theorem dX5_callBack_27 : decode cX5_callBack 27 = .ok (.invokevirtual 18, 3) := by decide +kernel
theorem dX5_callBack_30 : decode cX5_callBack 30 = .ok (.ireturn, 1) := by decide +kernel
set_option maxRecDepth 20000 in
theorem ggX5_shutTown_X6_ofTown : GoodIn wsX5_shutTown wsX6_ofTown := goodIn_r _ [4] (by decide +kernel) (by decide +kernel)
set_option maxRecDepth 20000 in
theorem gX5_shutTown_X6_ofTown_n44 : GoodIn wsX5_shutTown (wsX6_ofTown) := ggX5_shutTown_X6_ofTown
set_option maxRecDepth 20000 in
theorem ggX5_shutTown_X0_set : GoodIn wsX5_shutTown wsX0_set := goodIn_ca (goodIn_r _ [9, 10, 21] (by decide +kernel) (by decide +kernel)) (goodIn_sub (fun _ h => List.mem_cons_of_mem _ (List.mem_append_right _ h)) (by decide +kernel))
set_option maxRecDepth 20000 in
theorem gX5_shutTown_X0_set : GoodIn wsX5_shutTown (wsV RX5 26 RX0 yX0_set wsX0_set) := goodIn_app (goodIn_of _ (by decide +kernel)) ggX5_shutTown_X0_set
set_option maxRecDepth 20000 in
theorem ggX5_shutTown_X5_openTowns : GoodIn wsX5_shutTown wsX5_openTowns := goodIn_ca (goodIn_r _ [15, 1, 2, 3, 4, 16, 17, 18, 8, 19, 10, 20, 21] (by decide +kernel) (by decide +kernel)) (goodIn_sub (fun _ h => List.mem_cons_of_mem _ (List.mem_append_right _ h)) (by decide +kernel))
set_option maxRecDepth 20000 in
theorem gX5_shutTown_X5_openTowns : GoodIn wsX5_shutTown (wsV RX5 47 RX5 yX5_openTowns wsX5_openTowns) := goodIn_app (goodIn_of _ (by decide +kernel)) ggX5_shutTown_X5_openTowns
theorem dX5_shutTown_0 : decode cX5_shutTown 0 = .ok (.aload_n 0, 1) := by decide +kernel
theorem dX5_shutTown_1 : decode cX5_shutTown 1 = .ok (.getfield 12, 3) := by decide +kernel
theorem dX5_shutTown_4 : decode cX5_shutTown 4 = .ok (.iload_n 1, 1) := by decide +kernel
theorem dX5_shutTown_5 : decode cX5_shutTown 5 = .ok (.iconst 0, 1) := by decide +kernel
theorem dX5_shutTown_6 : decode cX5_shutTown 6 = .ok (.invokestatic 44, 3) := by decide +kernel
theorem dX5_shutTown_9 : decode cX5_shutTown 9 = .ok (.iload_n 2, 1) := by decide +kernel
theorem dX5_shutTown_10 : decode cX5_shutTown 10 = .ok (.ifCond .eq 7, 3) := by decide +kernel
theorem dX5_shutTown_13 : decode cX5_shutTown 13 = .ok (.iconst 0, 1) := by decide +kernel
theorem dX5_shutTown_14 : decode cX5_shutTown 14 = .ok (.goto 4, 3) := by decide +kernel
theorem dX5_shutTown_17 : decode cX5_shutTown 17 = .ok (.iconst 1, 1) := by decide +kernel
theorem dX5_shutTown_18 : decode cX5_shutTown 18 = .ok (.invokevirtual 26, 3) := by decide +kernel
theorem dX5_shutTown_21 : decode cX5_shutTown 21 = .ok (.aload_n 0, 1) := by decide +kernel
theorem dX5_shutTown_22 : decode cX5_shutTown 22 = .ok (.invokevirtual 47, 3) := by decide +kernel
theorem dX5_shutTown_25 : decode cX5_shutTown 25 = .ok (.ireturn, 1) := by decide +kernel
set_option maxRecDepth 20000 in
theorem ggX5_passHours_X5_isUnderWay : GoodIn wsX5_passHours wsX5_isUnderWay := goodIn_ca (goodIn_r _ [6, 1, 7, 8, 9, 10, 11, 12, 13, 14, 15, 76, 77] (by decide +kernel) (by decide +kernel)) (goodIn_sub (fun _ h => List.mem_cons_of_mem _ (List.mem_append_right _ h)) (by decide +kernel))
set_option maxRecDepth 20000 in
theorem gX5_passHours_X5_isUnderWay : GoodIn wsX5_passHours (wsV RX5 51 RX5 yX5_isUnderWay wsX5_isUnderWay) := goodIn_app (goodIn_of _ (by decide +kernel)) ggX5_passHours_X5_isUnderWay
set_option maxRecDepth 20000 in
theorem ggX5_passHours_X5_makeTry : GoodIn wsX5_passHours wsX5_makeTry := goodIn_ca (goodIn_r _ [19, 1, 20, 21, 22, 13, 23, 15, 24, 25, 26, 5, 27, 7, 8, 9, 10, 11, 12, 14, 28, 29, 30, 31, 32, 33, 34, 35, 36, 37, 38, 39, 40, 41, 42, 43, 44, 45, 46, 47, 48, 49, 50, 51, 52, 53, 54, 55, 56, 57, 58, 59, 60, 61, 62, 63, 64, 65, 66, 67, 68, 69, 70, 71, 72, 73, 74, 75, 76, 77] (by decide +kernel) (by decide +kernel)) (goodIn_sub (fun _ h => List.mem_cons_of_mem _ (List.mem_append_right _ h)) (by decide +kernel))
set_option maxRecDepth 20000 in
theorem gX5_passHours_X5_makeTry : GoodIn wsX5_passHours (wsV RX5 55 RX5 yX5_makeTry wsX5_makeTry) := goodIn_app (goodIn_of _ (by decide +kernel)) ggX5_passHours_X5_makeTry
set_option maxRecDepth 20000 in
theorem ggX5_passHours_X0_add : GoodIn wsX5_passHours wsX0_add := goodIn_ca (goodIn_r _ [23, 15, 77] (by decide +kernel) (by decide +kernel)) (goodIn_sub (fun _ h => List.mem_cons_of_mem _ (List.mem_append_right _ h)) (by decide +kernel))
set_option maxRecDepth 20000 in
theorem gX5_passHours_X0_add : GoodIn wsX5_passHours (wsV RX5 30 RX0 yX0_add wsX0_add) := goodIn_app (goodIn_of _ (by decide +kernel)) ggX5_passHours_X0_add
theorem dX5_passHours_0 : decode cX5_passHours 0 = .ok (.iconst 0, 1) := by decide +kernel
theorem dX5_passHours_1 : decode cX5_passHours 1 = .ok (.istore_n 2, 1) := by decide +kernel
theorem dX5_passHours_2 : decode cX5_passHours 2 = .ok (.iconst 0, 1) := by decide +kernel
theorem dX5_passHours_3 : decode cX5_passHours 3 = .ok (.istore_n 3, 1) := by decide +kernel
theorem dX5_passHours_4 : decode cX5_passHours 4 = .ok (.iload_n 3, 1) := by decide +kernel
theorem dX5_passHours_5 : decode cX5_passHours 5 = .ok (.iload_n 1, 1) := by decide +kernel
theorem dX5_passHours_6 : decode cX5_passHours 6 = .ok (.if_icmp .ge 66, 3) := by decide +kernel
theorem dX5_passHours_9 : decode cX5_passHours 9 = .ok (.iconst 0, 1) := by decide +kernel
theorem dX5_passHours_10 : decode cX5_passHours 10 = .ok (.istore 4, 2) := by decide +kernel
theorem dX5_passHours_12 : decode cX5_passHours 12 = .ok (.iload 4, 2) := by decide +kernel
theorem dX5_passHours_14 : decode cX5_passHours 14 = .ok (.bipush 6, 2) := by decide +kernel
theorem dX5_passHours_16 : decode cX5_passHours 16 = .ok (.if_icmp .ge 41, 3) := by decide +kernel
theorem dX5_passHours_19 : decode cX5_passHours 19 = .ok (.aload_n 0, 1) := by decide +kernel
theorem dX5_passHours_20 : decode cX5_passHours 20 = .ok (.iload 4, 2) := by decide +kernel
theorem dX5_passHours_22 : decode cX5_passHours 22 = .ok (.invokevirtual 51, 3) := by decide +kernel
theorem dX5_passHours_25 : decode cX5_passHours 25 = .ok (.ifCond .eq 26, 3) := by decide +kernel
theorem dX5_passHours_28 : decode cX5_passHours 28 = .ok (.aload_n 0, 1) := by decide +kernel
theorem dX5_passHours_29 : decode cX5_passHours 29 = .ok (.iload 4, 2) := by decide +kernel
theorem dX5_passHours_31 : decode cX5_passHours 31 = .ok (.invokevirtual 55, 3) := by decide +kernel
theorem dX5_passHours_34 : decode cX5_passHours 34 = .ok (.iload_n 2, 1) := by decide +kernel
theorem dX5_passHours_35 : decode cX5_passHours 35 = .ok (.aload_n 0, 1) := by decide +kernel
theorem dX5_passHours_36 : decode cX5_passHours 36 = .ok (.iload 4, 2) := by decide +kernel
theorem dX5_passHours_38 : decode cX5_passHours 38 = .ok (.invokevirtual 51, 3) := by decide +kernel
theorem dX5_passHours_41 : decode cX5_passHours 41 = .ok (.ifCond .eq 7, 3) := by decide +kernel
theorem dX5_passHours_44 : decode cX5_passHours 44 = .ok (.iconst 0, 1) := by decide +kernel
theorem dX5_passHours_45 : decode cX5_passHours 45 = .ok (.goto 4, 3) := by decide +kernel
theorem dX5_passHours_48 : decode cX5_passHours 48 = .ok (.iconst 1, 1) := by decide +kernel
theorem dX5_passHours_49 : decode cX5_passHours 49 = .ok (.iadd, 1) := by decide +kernel
theorem dX5_passHours_50 : decode cX5_passHours 50 = .ok (.istore_n 2, 1) := by decide +kernel
theorem dX5_passHours_51 : decode cX5_passHours 51 = .ok (.iinc 4 1, 3) := by decide +kernel
theorem dX5_passHours_54 : decode cX5_passHours 54 = .ok (.goto (-42), 3) := by decide +kernel
theorem dX5_passHours_57 : decode cX5_passHours 57 = .ok (.aload_n 0, 1) := by decide +kernel
theorem dX5_passHours_58 : decode cX5_passHours 58 = .ok (.getfield 12, 3) := by decide +kernel
theorem dX5_passHours_61 : decode cX5_passHours 61 = .ok (.iconst 0, 1) := by decide +kernel
theorem dX5_passHours_62 : decode cX5_passHours 62 = .ok (.iconst 1, 1) := by decide +kernel
theorem dX5_passHours_63 : decode cX5_passHours 63 = .ok (.invokevirtual 30, 3) := by decide +kernel
theorem dX5_passHours_66 : decode cX5_passHours 66 = .ok (.iinc 3 1, 3) := by decide +kernel
theorem dX5_passHours_69 : decode cX5_passHours 69 = .ok (.goto (-65), 3) := by decide +kernel
theorem dX5_passHours_72 : decode cX5_passHours 72 = .ok (.iload_n 2, 1) := by decide +kernel
theorem dX5_passHours_73 : decode cX5_passHours 73 = .ok (.ireturn, 1) := by decide +kernel
set_option maxRecDepth 20000 in
theorem ggX5_makeTry_X0_add : GoodIn wsX5_makeTry wsX0_add := goodIn_ca (goodIn_r _ [6, 7, 69] (by decide +kernel) (by decide +kernel)) (goodIn_sub (fun _ h => List.mem_cons_of_mem _ (List.mem_append_right _ h)) (by decide +kernel))
set_option maxRecDepth 20000 in
theorem gX5_makeTry_X0_add : GoodIn wsX5_makeTry (wsV RX5 30 RX0 yX0_add wsX0_add) := goodIn_app (goodIn_of _ (by decide +kernel)) ggX5_makeTry_X0_add
set_option maxRecDepth 20000 in
theorem ggX5_makeTry_X5_nextFault : GoodIn wsX5_makeTry wsX5_nextFault := goodIn_ca (goodIn_r _ [12, 1, 13, 14, 15, 16, 17, 18, 5, 19, 7, 20, 21, 22, 23, 24, 25, 26, 27, 28, 11, 29, 30, 31, 68, 69] (by decide +kernel) (by decide +kernel)) (goodIn_sub (fun _ h => List.mem_cons_of_mem _ (List.mem_append_right _ h)) (by decide +kernel))
set_option maxRecDepth 20000 in
theorem gX5_makeTry_X5_nextFault : GoodIn wsX5_makeTry (wsV RX5 58 RX5 yX5_nextFault wsX5_nextFault) := goodIn_app (goodIn_of _ (by decide +kernel)) ggX5_makeTry_X5_nextFault
set_option maxRecDepth 20000 in
theorem ggX5_makeTry_X5_failTry : GoodIn wsX5_makeTry wsX5_failTry := goodIn_ca (goodIn_r _ [35, 1, 2, 3, 4, 5, 6, 7, 13, 14, 15, 36, 37, 38, 39, 16, 17, 18, 19, 40, 41, 42, 11, 43, 68, 69] (by decide +kernel) (by decide +kernel)) (goodIn_sub (fun _ h => List.mem_cons_of_mem _ (List.mem_append_right _ h)) (by decide +kernel))
set_option maxRecDepth 20000 in
theorem gX5_makeTry_X5_failTry : GoodIn wsX5_makeTry (wsV RX5 61 RX5 yX5_failTry wsX5_failTry) := goodIn_app (goodIn_of _ (by decide +kernel)) ggX5_makeTry_X5_failTry
set_option maxRecDepth 20000 in
theorem ggX5_makeTry_X6_ofTour : GoodIn wsX5_makeTry wsX6_ofTour := goodIn_r _ [15] (by decide +kernel) (by decide +kernel)
set_option maxRecDepth 20000 in
theorem gX5_makeTry_X6_ofTour_n22 : GoodIn wsX5_makeTry (wsX6_ofTour) := ggX5_makeTry_X6_ofTour
set_option maxRecDepth 20000 in
theorem ggX5_makeTry_X0_get : GoodIn wsX5_makeTry wsX0_get := goodIn_ca (goodIn_r _ [19, 7, 69] (by decide +kernel) (by decide +kernel)) (goodIn_sub (fun _ h => List.mem_cons_of_mem _ (List.mem_append_right _ h)) (by decide +kernel))
set_option maxRecDepth 20000 in
theorem gX5_makeTry_X0_get : GoodIn wsX5_makeTry (wsV RX5 18 RX0 yX0_get wsX0_get) := goodIn_app (goodIn_of _ (by decide +kernel)) ggX5_makeTry_X0_get
set_option maxRecDepth 20000 in
theorem ggX5_makeTry_X5_bookNextStep : GoodIn wsX5_makeTry wsX5_bookNextStep := goodIn_ca (goodIn_r _ [47, 1, 13, 14, 15, 16, 17, 18, 5, 19, 7, 20, 21, 26, 27, 28, 11, 29, 30, 31, 22, 23, 36, 37, 38, 39, 2, 3, 4, 6, 48, 49, 50, 51, 24, 25, 68, 69] (by decide +kernel) (by decide +kernel)) (goodIn_sub (fun _ h => List.mem_cons_of_mem _ (List.mem_append_right _ h)) (by decide +kernel))
set_option maxRecDepth 20000 in
theorem gX5_makeTry_X5_bookNextStep : GoodIn wsX5_makeTry (wsV RX5 64 RX5 yX5_bookNextStep wsX5_bookNextStep) := goodIn_app (goodIn_of _ (by decide +kernel)) ggX5_makeTry_X5_bookNextStep
set_option maxRecDepth 20000 in
theorem ggX5_makeTry_X5_finishTour : GoodIn wsX5_makeTry wsX5_finishTour := goodIn_ca (goodIn_r _ [55, 1, 13, 14, 15, 16, 17, 18, 5, 19, 7, 20, 21, 36, 37, 38, 39, 2, 3, 4, 6, 56, 57, 58, 11, 59, 60, 61, 62, 63, 68, 69] (by decide +kernel) (by decide +kernel)) (goodIn_sub (fun _ h => List.mem_cons_of_mem _ (List.mem_append_right _ h)) (by decide +kernel))
set_option maxRecDepth 20000 in
theorem gX5_makeTry_X5_finishTour : GoodIn wsX5_makeTry (wsV RX5 67 RX5 yX5_finishTour wsX5_finishTour) := goodIn_app (goodIn_of _ (by decide +kernel)) ggX5_makeTry_X5_finishTour
set_option maxRecDepth 20000 in
theorem ggX5_makeTry_X5_undoLastStep : GoodIn wsX5_makeTry wsX5_undoLastStep := goodIn_ca (goodIn_r _ [67, 1, 13, 14, 15, 16, 17, 18, 5, 19, 7, 20, 21, 36, 37, 38, 39, 2, 3, 4, 6, 56, 57, 58, 11, 59, 60, 61, 62, 63, 48, 49, 50, 51, 24, 25, 22, 23, 68, 69] (by decide +kernel) (by decide +kernel)) (goodIn_sub (fun _ h => List.mem_cons_of_mem _ (List.mem_append_right _ h)) (by decide +kernel))
set_option maxRecDepth 20000 in
theorem gX5_makeTry_X5_undoLastStep : GoodIn wsX5_makeTry (wsV RX5 70 RX5 yX5_undoLastStep wsX5_undoLastStep) := goodIn_app (goodIn_of _ (by decide +kernel)) ggX5_makeTry_X5_undoLastStep
set_option maxRecDepth 20000 in
theorem ggX5_makeTry_X0_set : GoodIn wsX5_makeTry wsX0_set := goodIn_ca (goodIn_r _ [39, 7, 69] (by decide +kernel) (by decide +kernel)) (goodIn_sub (fun _ h => List.mem_cons_of_mem _ (List.mem_append_right _ h)) (by decide +kernel))
set_option maxRecDepth 20000 in
theorem gX5_makeTry_X0_set : GoodIn wsX5_makeTry (wsV RX5 26 RX0 yX0_set wsX0_set) := goodIn_app (goodIn_of _ (by decide +kernel)) ggX5_makeTry_X0_set
theorem dX5_makeTry_0 : decode cX5_makeTry 0 = .ok (.aload_n 0, 1) := by decide +kernel
theorem dX5_makeTry_1 : decode cX5_makeTry 1 = .ok (.getfield 12, 3) := by decide +kernel
theorem dX5_makeTry_4 : decode cX5_makeTry 4 = .ok (.bipush 12, 2) := by decide +kernel
theorem dX5_makeTry_6 : decode cX5_makeTry 6 = .ok (.iconst 1, 1) := by decide +kernel
theorem dX5_makeTry_7 : decode cX5_makeTry 7 = .ok (.invokevirtual 30, 3) := by decide +kernel
theorem dX5_makeTry_10 : decode cX5_makeTry 10 = .ok (.aload_n 0, 1) := by decide +kernel
theorem dX5_makeTry_11 : decode cX5_makeTry 11 = .ok (.iload_n 1, 1) := by decide +kernel
theorem dX5_makeTry_12 : decode cX5_makeTry 12 = .ok (.invokevirtual 58, 3) := by decide +kernel
theorem dX5_makeTry_15 : decode cX5_makeTry 15 = .ok (.istore_n 2, 1) := by decide +kernel
theorem dX5_makeTry_16 : decode cX5_makeTry 16 = .ok (.iload_n 2, 1) := by decide +kernel
theorem dX5_makeTry_17 : decode cX5_makeTry 17 = .ok (.ifCond .eq 12, 3) := by decide +kernel
theorem dX5_makeTry_20 : decode cX5_makeTry 20 = .ok (.aload_n 0, 1) := by decide +kernel
theorem dX5_makeTry_21 : decode cX5_makeTry 21 = .ok (.iload_n 1, 1) := by decide +kernel
theorem dX5_makeTry_22 : decode cX5_makeTry 22 = .ok (.iload_n 2, 1) := by decide +kernel
theorem dX5_makeTry_23 : decode cX5_makeTry 23 = .ok (.invokevirtual 61, 3) := by decide +kernel
theorem dX5_makeTry_26 : decode cX5_makeTry 26 = .ok (.goto 92, 3) := by decide +kernel
theorem dX5_makeTry_29 : decode cX5_makeTry 29 = .ok (.aload_n 0, 1) := by decide +kernel
theorem dX5_makeTry_30 : decode cX5_makeTry 30 = .ok (.getfield 12, 3) := by decide +kernel
theorem dX5_makeTry_33 : decode cX5_makeTry 33 = .ok (.iload_n 1, 1) := by decide +kernel
theorem dX5_makeTry_34 : decode cX5_makeTry 34 = .ok (.iconst 0, 1) := by decide +kernel
theorem dX5_makeTry_35 : decode cX5_makeTry 35 = .ok (.invokestatic 22, 3) := by decide +kernel
theorem dX5_makeTry_38 : decode cX5_makeTry 38 = .ok (.invokevirtual 18, 3) := by decide +kernel
theorem dX5_makeTry_41 : decode cX5_makeTry 41 = .ok (.iconst 1, 1) := by decide +kernel
theorem dX5_makeTry_42 : decode cX5_makeTry 42 = .ok (.if_icmp .ne 43, 3) := by decide +kernel
theorem dX5_makeTry_45 : decode cX5_makeTry 45 = .ok (.aload_n 0, 1) := by decide +kernel
theorem dX5_makeTry_46 : decode cX5_makeTry 46 = .ok (.iload_n 1, 1) := by decide +kernel
theorem dX5_makeTry_47 : decode cX5_makeTry 47 = .ok (.invokevirtual 64, 3) := by decide +kernel
theorem dX5_makeTry_50 : decode cX5_makeTry 50 = .ok (.aload_n 0, 1) := by decide +kernel
theorem dX5_makeTry_51 : decode cX5_makeTry 51 = .ok (.getfield 12, 3) := by decide +kernel
theorem dX5_makeTry_54 : decode cX5_makeTry 54 = .ok (.iload_n 1, 1) := by decide +kernel
theorem dX5_makeTry_55 : decode cX5_makeTry 55 = .ok (.iconst 3, 1) := by decide +kernel
theorem dX5_makeTry_56 : decode cX5_makeTry 56 = .ok (.invokestatic 22, 3) := by decide +kernel
theorem dX5_makeTry_59 : decode cX5_makeTry 59 = .ok (.invokevirtual 18, 3) := by decide +kernel
theorem dX5_makeTry_62 : decode cX5_makeTry 62 = .ok (.aload_n 0, 1) := by decide +kernel
theorem dX5_makeTry_63 : decode cX5_makeTry 63 = .ok (.getfield 12, 3) := by decide +kernel
theorem dX5_makeTry_66 : decode cX5_makeTry 66 = .ok (.iload_n 1, 1) := by decide +kernel
theorem dX5_makeTry_67 : decode cX5_makeTry 67 = .ok (.iconst 2, 1) := by decide +kernel
theorem dX5_makeTry_68 : decode cX5_makeTry 68 = .ok (.invokestatic 22, 3) := by decide +kernel
theorem dX5_makeTry_71 : decode cX5_makeTry 71 = .ok (.invokevirtual 18, 3) := by decide +kernel
theorem dX5_makeTry_74 : decode cX5_makeTry 74 = .ok (.if_icmp .ne 44, 3) := by decide +kernel
theorem dX5_makeTry_77 : decode cX5_makeTry 77 = .ok (.aload_n 0, 1) := by decide +kernel
theorem dX5_makeTry_78 : decode cX5_makeTry 78 = .ok (.iload_n 1, 1) := by decide +kernel
theorem dX5_makeTry_79 : decode cX5_makeTry 79 = .ok (.invokevirtual 67, 3) := by decide +kernel
theorem dX5_makeTry_82 : decode cX5_makeTry 82 = .ok (.goto 36, 3) := by decide +kernel
theorem dX5_makeTry_85 : decode cX5_makeTry 85 = .ok (.aload_n 0, 1) := by decide +kernel
theorem dX5_makeTry_86 : decode cX5_makeTry 86 = .ok (.iload_n 1, 1) := by decide +kernel
theorem dX5_makeTry_87 : decode cX5_makeTry 87 = .ok (.invokevirtual 70, 3) := by decide +kernel
theorem dX5_makeTry_90 : decode cX5_makeTry 90 = .ok (.aload_n 0, 1) := by decide +kernel
theorem dX5_makeTry_91 : decode cX5_makeTry 91 = .ok (.getfield 12, 3) := by decide +kernel
theorem dX5_makeTry_94 : decode cX5_makeTry 94 = .ok (.iload_n 1, 1) := by decide +kernel
theorem dX5_makeTry_95 : decode cX5_makeTry 95 = .ok (.iconst 3, 1) := by decide +kernel
theorem dX5_makeTry_96 : decode cX5_makeTry 96 = .ok (.invokestatic 22, 3) := by decide +kernel
theorem dX5_makeTry_99 : decode cX5_makeTry 99 = .ok (.invokevirtual 18, 3) := by decide +kernel
theorem dX5_makeTry_102 : decode cX5_makeTry 102 = .ok (.ifCond .ne 16, 3) := by decide +kernel
theorem dX5_makeTry_105 : decode cX5_makeTry 105 = .ok (.aload_n 0, 1) := by decide +kernel
theorem dX5_makeTry_106 : decode cX5_makeTry 106 = .ok (.getfield 12, 3) := by decide +kernel
theorem dX5_makeTry_109 : decode cX5_makeTry 109 = .ok (.iload_n 1, 1) := by decide +kernel
theorem dX5_makeTry_110 : decode cX5_makeTry 110 = .ok (.iconst 0, 1) := by decide +kernel
theorem dX5_makeTry_111 : decode cX5_makeTry 111 = .ok (.invokestatic 22, 3) := by decide +kernel
theorem dX5_makeTry_114 : decode cX5_makeTry 114 = .ok (.iconst 4, 1) := by decide +kernel
theorem dX5_makeTry_115 : decode cX5_makeTry 115 = .ok (.invokevirtual 26, 3) := by decide +kernel
theorem dX5_makeTry_118 : decode cX5_makeTry 118 = .ok (.return_, 1) := by decide +kernel
set_option maxRecDepth 20000 in
theorem ggX5_failTry_X0_add : GoodIn wsX5_failTry wsX0_add := goodIn_ca (goodIn_r _ [6, 7, 25] (by decide +kernel) (by decide +kernel)) (goodIn_sub (fun _ h => List.mem_cons_of_mem _ (List.mem_append_right _ h)) (by decide +kernel))
set_option maxRecDepth 20000 in
theorem gX5_failTry_X0_add : GoodIn wsX5_failTry (wsV RX5 30 RX0 yX0_add wsX0_add) := goodIn_app (goodIn_of _ (by decide +kernel)) ggX5_failTry_X0_add
set_option maxRecDepth 20000 in
theorem ggX5_failTry_X6_ofTour : GoodIn wsX5_failTry wsX6_ofTour := goodIn_r _ [10] (by decide +kernel) (by decide +kernel)
set_option maxRecDepth 20000 in
theorem gX5_failTry_X6_ofTour_n22 : GoodIn wsX5_failTry (wsX6_ofTour) := ggX5_failTry_X6_ofTour
set_option maxRecDepth 20000 in
theorem ggX5_failTry_X0_set : GoodIn wsX5_failTry wsX0_set := goodIn_ca (goodIn_r _ [14, 7, 25] (by decide +kernel) (by decide +kernel)) (goodIn_sub (fun _ h => List.mem_cons_of_mem _ (List.mem_append_right _ h)) (by decide +kernel))
set_option maxRecDepth 20000 in
theorem gX5_failTry_X0_set : GoodIn wsX5_failTry (wsV RX5 26 RX0 yX0_set wsX0_set) := goodIn_app (goodIn_of _ (by decide +kernel)) ggX5_failTry_X0_set
set_option maxRecDepth 20000 in
theorem ggX5_failTry_X0_get : GoodIn wsX5_failTry wsX0_get := goodIn_ca (goodIn_r _ [18, 7, 25] (by decide +kernel) (by decide +kernel)) (goodIn_sub (fun _ h => List.mem_cons_of_mem _ (List.mem_append_right _ h)) (by decide +kernel))
set_option maxRecDepth 20000 in
theorem gX5_failTry_X0_get : GoodIn wsX5_failTry (wsV RX5 18 RX0 yX0_get wsX0_get) := goodIn_app (goodIn_of _ (by decide +kernel)) ggX5_failTry_X0_get
set_option maxRecDepth 20000 in
theorem ggX5_failTry_X5_turnBack : GoodIn wsX5_failTry wsX5_turnBack := goodIn_ca (goodIn_r _ [23, 1, 8, 9, 10, 11, 12, 13, 5, 14, 7, 15, 16, 17, 18, 24, 25] (by decide +kernel) (by decide +kernel)) (goodIn_sub (fun _ h => List.mem_cons_of_mem _ (List.mem_append_right _ h)) (by decide +kernel))
set_option maxRecDepth 20000 in
theorem gX5_failTry_X5_turnBack : GoodIn wsX5_failTry (wsV RX5 40 RX5 yX5_turnBack wsX5_turnBack) := goodIn_app (goodIn_of _ (by decide +kernel)) ggX5_failTry_X5_turnBack
theorem dX5_failTry_0 : decode cX5_failTry 0 = .ok (.aload_n 0, 1) := by decide +kernel
theorem dX5_failTry_1 : decode cX5_failTry 1 = .ok (.getfield 12, 3) := by decide +kernel
theorem dX5_failTry_4 : decode cX5_failTry 4 = .ok (.bipush 13, 2) := by decide +kernel
theorem dX5_failTry_6 : decode cX5_failTry 6 = .ok (.iconst 1, 1) := by decide +kernel
theorem dX5_failTry_7 : decode cX5_failTry 7 = .ok (.invokevirtual 30, 3) := by decide +kernel
theorem dX5_failTry_10 : decode cX5_failTry 10 = .ok (.aload_n 0, 1) := by decide +kernel
theorem dX5_failTry_11 : decode cX5_failTry 11 = .ok (.getfield 12, 3) := by decide +kernel
theorem dX5_failTry_14 : decode cX5_failTry 14 = .ok (.iload_n 1, 1) := by decide +kernel
theorem dX5_failTry_15 : decode cX5_failTry 15 = .ok (.iconst 4, 1) := by decide +kernel
theorem dX5_failTry_16 : decode cX5_failTry 16 = .ok (.invokestatic 22, 3) := by decide +kernel
theorem dX5_failTry_19 : decode cX5_failTry 19 = .ok (.iconst 1, 1) := by decide +kernel
theorem dX5_failTry_20 : decode cX5_failTry 20 = .ok (.invokevirtual 30, 3) := by decide +kernel
theorem dX5_failTry_23 : decode cX5_failTry 23 = .ok (.aload_n 0, 1) := by decide +kernel
theorem dX5_failTry_24 : decode cX5_failTry 24 = .ok (.getfield 12, 3) := by decide +kernel
theorem dX5_failTry_27 : decode cX5_failTry 27 = .ok (.iload_n 1, 1) := by decide +kernel
theorem dX5_failTry_28 : decode cX5_failTry 28 = .ok (.iconst 5, 1) := by decide +kernel
theorem dX5_failTry_29 : decode cX5_failTry 29 = .ok (.invokestatic 22, 3) := by decide +kernel
theorem dX5_failTry_32 : decode cX5_failTry 32 = .ok (.iload_n 2, 1) := by decide +kernel
theorem dX5_failTry_33 : decode cX5_failTry 33 = .ok (.invokevirtual 26, 3) := by decide +kernel
theorem dX5_failTry_36 : decode cX5_failTry 36 = .ok (.aload_n 0, 1) := by decide +kernel
theorem dX5_failTry_37 : decode cX5_failTry 37 = .ok (.getfield 12, 3) := by decide +kernel
theorem dX5_failTry_40 : decode cX5_failTry 40 = .ok (.iload_n 1, 1) := by decide +kernel
theorem dX5_failTry_41 : decode cX5_failTry 41 = .ok (.iconst 4, 1) := by decide +kernel
theorem dX5_failTry_42 : decode cX5_failTry 42 = .ok (.invokestatic 22, 3) := by decide +kernel
theorem dX5_failTry_45 : decode cX5_failTry 45 = .ok (.invokevirtual 18, 3) := by decide +kernel
theorem dX5_failTry_48 : decode cX5_failTry 48 = .ok (.aload_n 0, 1) := by decide +kernel
theorem dX5_failTry_49 : decode cX5_failTry 49 = .ok (.getfield 12, 3) := by decide +kernel
theorem dX5_failTry_52 : decode cX5_failTry 52 = .ok (.iload_n 1, 1) := by decide +kernel
theorem dX5_failTry_53 : decode cX5_failTry 53 = .ok (.iconst 1, 1) := by decide +kernel
theorem dX5_failTry_54 : decode cX5_failTry 54 = .ok (.invokestatic 22, 3) := by decide +kernel
theorem dX5_failTry_57 : decode cX5_failTry 57 = .ok (.invokevirtual 18, 3) := by decide +kernel
theorem dX5_failTry_60 : decode cX5_failTry 60 = .ok (.if_icmp .le 7, 3) := by decide +kernel
theorem dX5_failTry_63 : decode cX5_failTry 63 = .ok (.iconst 1, 1) := by decide +kernel
theorem dX5_failTry_64 : decode cX5_failTry 64 = .ok (.goto 4, 3) := by decide +kernel
theorem dX5_failTry_67 : decode cX5_failTry 67 = .ok (.iconst 0, 1) := by decide +kernel
theorem dX5_failTry_68 : decode cX5_failTry 68 = .ok (.istore_n 3, 1) := by decide +kernel
theorem dX5_failTry_69 : decode cX5_failTry 69 = .ok (.iload_n 3, 1) := by decide +kernel
theorem dX5_failTry_70 : decode cX5_failTry 70 = .ok (.ifCond .eq 24, 3) := by decide +kernel
theorem dX5_failTry_73 : decode cX5_failTry 73 = .ok (.aload_n 0, 1) := by decide +kernel
theorem dX5_failTry_74 : decode cX5_failTry 74 = .ok (.getfield 12, 3) := by decide +kernel
theorem dX5_failTry_77 : decode cX5_failTry 77 = .ok (.iload_n 1, 1) := by decide +kernel
theorem dX5_failTry_78 : decode cX5_failTry 78 = .ok (.iconst 0, 1) := by decide +kernel
theorem dX5_failTry_79 : decode cX5_failTry 79 = .ok (.invokestatic 22, 3) := by decide +kernel
theorem dX5_failTry_82 : decode cX5_failTry 82 = .ok (.invokevirtual 18, 3) := by decide +kernel
theorem dX5_failTry_85 : decode cX5_failTry 85 = .ok (.iconst 1, 1) := by decide +kernel
theorem dX5_failTry_86 : decode cX5_failTry 86 = .ok (.if_icmp .ne 8, 3) := by decide +kernel
theorem dX5_failTry_89 : decode cX5_failTry 89 = .ok (.aload_n 0, 1) := by decide +kernel
theorem dX5_failTry_90 : decode cX5_failTry 90 = .ok (.iload_n 1, 1) := by decide +kernel
theorem dX5_failTry_91 : decode cX5_failTry 91 = .ok (.invokevirtual 40, 3) := by decide +kernel
theorem dX5_failTry_94 : decode cX5_failTry 94 = .ok (.return_, 1) := by decide +kernel
set_option maxRecDepth 20000 in
theorem ggX5_turnBack_X6_ofTour : GoodIn wsX5_turnBack wsX6_ofTour := goodIn_r _ [4] (by decide +kernel) (by decide +kernel)
set_option maxRecDepth 20000 in
theorem gX5_turnBack_X6_ofTour_n22 : GoodIn wsX5_turnBack (wsX6_ofTour) := ggX5_turnBack_X6_ofTour
set_option maxRecDepth 20000 in
theorem ggX5_turnBack_X0_set : GoodIn wsX5_turnBack wsX0_set := goodIn_ca (goodIn_r _ [9, 10, 16] (by decide +kernel) (by decide +kernel)) (goodIn_sub (fun _ h => List.mem_cons_of_mem _ (List.mem_append_right _ h)) (by decide +kernel))
set_option maxRecDepth 20000 in
theorem gX5_turnBack_X0_set : GoodIn wsX5_turnBack (wsV RX5 26 RX0 yX0_set wsX0_set) := goodIn_app (goodIn_of _ (by decide +kernel)) ggX5_turnBack_X0_set
set_option maxRecDepth 20000 in
theorem ggX5_turnBack_X0_get : GoodIn wsX5_turnBack wsX0_get := goodIn_ca (goodIn_r _ [14, 10, 16] (by decide +kernel) (by decide +kernel)) (goodIn_sub (fun _ h => List.mem_cons_of_mem _ (List.mem_append_right _ h)) (by decide +kernel))
set_option maxRecDepth 20000 in
theorem gX5_turnBack_X0_get : GoodIn wsX5_turnBack (wsV RX5 18 RX0 yX0_get wsX0_get) := goodIn_app (goodIn_of _ (by decide +kernel)) ggX5_turnBack_X0_get
theorem dX5_turnBack_0 : decode cX5_turnBack 0 = .ok (.aload_n 0, 1) := by decide +kernel
theorem dX5_turnBack_1 : decode cX5_turnBack 1 = .ok (.getfield 12, 3) := by decide +kernel
theorem dX5_turnBack_4 : decode cX5_turnBack 4 = .ok (.iload_n 1, 1) := by decide +kernel
theorem dX5_turnBack_5 : decode cX5_turnBack 5 = .ok (.iconst 4, 1) := by decide +kernel
theorem dX5_turnBack_6 : decode cX5_turnBack 6 = .ok (.invokestatic 22, 3) := by decide +kernel
theorem dX5_turnBack_9 : decode cX5_turnBack 9 = .ok (.iconst 0, 1) := by decide +kernel
theorem dX5_turnBack_10 : decode cX5_turnBack 10 = .ok (.invokevirtual 26, 3) := by decide +kernel
theorem dX5_turnBack_13 : decode cX5_turnBack 13 = .ok (.aload_n 0, 1) := by decide +kernel
theorem dX5_turnBack_14 : decode cX5_turnBack 14 = .ok (.getfield 12, 3) := by decide +kernel
theorem dX5_turnBack_17 : decode cX5_turnBack 17 = .ok (.iload_n 1, 1) := by decide +kernel
theorem dX5_turnBack_18 : decode cX5_turnBack 18 = .ok (.iconst 0, 1) := by decide +kernel
theorem dX5_turnBack_19 : decode cX5_turnBack 19 = .ok (.invokestatic 22, 3) := by decide +kernel
theorem dX5_turnBack_22 : decode cX5_turnBack 22 = .ok (.aload_n 0, 1) := by decide +kernel
theorem dX5_turnBack_23 : decode cX5_turnBack 23 = .ok (.getfield 12, 3) := by decide +kernel
theorem dX5_turnBack_26 : decode cX5_turnBack 26 = .ok (.iload_n 1, 1) := by decide +kernel
theorem dX5_turnBack_27 : decode cX5_turnBack 27 = .ok (.iconst 3, 1) := by decide +kernel
theorem dX5_turnBack_28 : decode cX5_turnBack 28 = .ok (.invokestatic 22, 3) := by decide +kernel
theorem dX5_turnBack_31 : decode cX5_turnBack 31 = .ok (.invokevirtual 18, 3) := by decide +kernel
theorem dX5_turnBack_34 : decode cX5_turnBack 34 = .ok (.ifCond .ne 7, 3) := by decide +kernel
theorem dX5_turnBack_37 : decode cX5_turnBack 37 = .ok (.iconst 4, 1) := by decide +kernel
theorem dX5_turnBack_38 : decode cX5_turnBack 38 = .ok (.goto 4, 3) := by decide +kernel
theorem dX5_turnBack_41 : decode cX5_turnBack 41 = .ok (.iconst 2, 1) := by decide +kernel
theorem dX5_turnBack_42 : decode cX5_turnBack 42 = .ok (.invokevirtual 26, 3) := by decide +kernel
theorem dX5_turnBack_45 : decode cX5_turnBack 45 = .ok (.return_, 1) := by decide +kernel
set_option maxRecDepth 20000 in
theorem ggX5_bookNextStep_X6_ofTour : GoodIn wsX5_bookNextStep wsX6_ofTour := goodIn_r _ [4] (by decide +kernel) (by decide +kernel)
set_option maxRecDepth 20000 in
theorem gX5_bookNextStep_X6_ofTour_n22 : GoodIn wsX5_bookNextStep (wsX6_ofTour) := ggX5_bookNextStep_X6_ofTour
set_option maxRecDepth 20000 in
theorem ggX5_bookNextStep_X0_get : GoodIn wsX5_bookNextStep wsX0_get := goodIn_ca (goodIn_r _ [9, 10, 37] (by decide +kernel) (by decide +kernel)) (goodIn_sub (fun _ h => List.mem_cons_of_mem _ (List.mem_append_right _ h)) (by decide +kernel))
set_option maxRecDepth 20000 in
theorem gX5_bookNextStep_X0_get : GoodIn wsX5_bookNextStep (wsV RX5 18 RX0 yX0_get wsX0_get) := goodIn_app (goodIn_of _ (by decide +kernel)) ggX5_bookNextStep_X0_get
set_option maxRecDepth 20000 in
theorem ggX5_bookNextStep_X6_ofStep : GoodIn wsX5_bookNextStep wsX6_ofStep := goodIn_r _ [12] (by decide +kernel) (by decide +kernel)
set_option maxRecDepth 20000 in
theorem gX5_bookNextStep_X6_ofStep_n33 : GoodIn wsX5_bookNextStep (wsX6_ofStep) := ggX5_bookNextStep_X6_ofStep
set_option maxRecDepth 20000 in
theorem ggX5_bookNextStep_X5_priceOf : GoodIn wsX5_bookNextStep wsX5_priceOf := goodIn_ca (goodIn_r _ [17, 1, 11, 3, 12, 5, 6, 7, 8, 9, 10, 18, 19, 20, 21, 36, 37] (by decide +kernel) (by decide +kernel)) (goodIn_sub (fun _ h => List.mem_cons_of_mem _ (List.mem_append_right _ h)) (by decide +kernel))
set_option maxRecDepth 20000 in
theorem gX5_bookNextStep_X5_priceOf : GoodIn wsX5_bookNextStep (wsV RX5 73 RX5 yX5_priceOf wsX5_priceOf) := goodIn_app (goodIn_of _ (by decide +kernel)) ggX5_bookNextStep_X5_priceOf
set_option maxRecDepth 20000 in
theorem ggX5_bookNextStep_X0_set : GoodIn wsX5_bookNextStep wsX0_set := goodIn_ca (goodIn_r _ [25, 10, 37] (by decide +kernel) (by decide +kernel)) (goodIn_sub (fun _ h => List.mem_cons_of_mem _ (List.mem_append_right _ h)) (by decide +kernel))
set_option maxRecDepth 20000 in
theorem gX5_bookNextStep_X0_set : GoodIn wsX5_bookNextStep (wsV RX5 26 RX0 yX0_set wsX0_set) := goodIn_app (goodIn_of _ (by decide +kernel)) ggX5_bookNextStep_X0_set
set_option maxRecDepth 20000 in
theorem ggX5_bookNextStep_X0_add : GoodIn wsX5_bookNextStep wsX0_add := goodIn_ca (goodIn_r _ [29, 10, 37] (by decide +kernel) (by decide +kernel)) (goodIn_sub (fun _ h => List.mem_cons_of_mem _ (List.mem_append_right _ h)) (by decide +kernel))
set_option maxRecDepth 20000 in
theorem gX5_bookNextStep_X0_add : GoodIn wsX5_bookNextStep (wsV RX5 30 RX0 yX0_add wsX0_add) := goodIn_app (goodIn_of _ (by decide +kernel)) ggX5_bookNextStep_X0_add
set_option maxRecDepth 20000 in
theorem ggX5_bookNextStep_X6_ofTown : GoodIn wsX5_bookNextStep wsX6_ofTown := goodIn_r _ [21] (by decide +kernel) (by decide +kernel)
set_option maxRecDepth 20000 in
theorem gX5_bookNextStep_X6_ofTown_n44 : GoodIn wsX5_bookNextStep (wsX6_ofTown) := ggX5_bookNextStep_X6_ofTown
set_option maxRecDepth 20000 in
theorem ggX5_bookNextStep_X5_countBooking : GoodIn wsX5_bookNextStep wsX5_countBooking := goodIn_ca (goodIn_r _ [33, 1, 11, 3, 12, 5, 6, 7, 8, 9, 10, 34, 35, 26, 27, 28, 29, 20, 21, 2, 4, 22, 23, 24, 25, 36, 37] (by decide +kernel) (by decide +kernel)) (goodIn_sub (fun _ h => List.mem_cons_of_mem _ (List.mem_append_right _ h)) (by decide +kernel))
set_option maxRecDepth 20000 in
theorem gX5_bookNextStep_X5_countBooking : GoodIn wsX5_bookNextStep (wsV RX5 76 RX5 yX5_countBooking wsX5_countBooking) := goodIn_app (goodIn_of _ (by decide +kernel)) ggX5_bookNextStep_X5_countBooking
theorem dX5_bookNextStep_0 : decode cX5_bookNextStep 0 = .ok (.aload_n 0, 1) := by decide +kernel
theorem dX5_bookNextStep_1 : decode cX5_bookNextStep 1 = .ok (.getfield 12, 3) := by decide +kernel
theorem dX5_bookNextStep_4 : decode cX5_bookNextStep 4 = .ok (.iload_n 1, 1) := by decide +kernel
theorem dX5_bookNextStep_5 : decode cX5_bookNextStep 5 = .ok (.iconst 3, 1) := by decide +kernel
theorem dX5_bookNextStep_6 : decode cX5_bookNextStep 6 = .ok (.invokestatic 22, 3) := by decide +kernel
theorem dX5_bookNextStep_9 : decode cX5_bookNextStep 9 = .ok (.invokevirtual 18, 3) := by decide +kernel
theorem dX5_bookNextStep_12 : decode cX5_bookNextStep 12 = .ok (.istore_n 2, 1) := by decide +kernel
theorem dX5_bookNextStep_13 : decode cX5_bookNextStep 13 = .ok (.aload_n 0, 1) := by decide +kernel
theorem dX5_bookNextStep_14 : decode cX5_bookNextStep 14 = .ok (.getfield 12, 3) := by decide +kernel
theorem dX5_bookNextStep_17 : decode cX5_bookNextStep 17 = .ok (.iload_n 1, 1) := by decide +kernel
theorem dX5_bookNextStep_18 : decode cX5_bookNextStep 18 = .ok (.iload_n 2, 1) := by decide +kernel
theorem dX5_bookNextStep_19 : decode cX5_bookNextStep 19 = .ok (.iconst 1, 1) := by decide +kernel
theorem dX5_bookNextStep_20 : decode cX5_bookNextStep 20 = .ok (.invokestatic 33, 3) := by decide +kernel
theorem dX5_bookNextStep_23 : decode cX5_bookNextStep 23 = .ok (.invokevirtual 18, 3) := by decide +kernel
theorem dX5_bookNextStep_26 : decode cX5_bookNextStep 26 = .ok (.istore_n 3, 1) := by decide +kernel
theorem dX5_bookNextStep_27 : decode cX5_bookNextStep 27 = .ok (.aload_n 0, 1) := by decide +kernel
theorem dX5_bookNextStep_28 : decode cX5_bookNextStep 28 = .ok (.iload_n 1, 1) := by decide +kernel
theorem dX5_bookNextStep_29 : decode cX5_bookNextStep 29 = .ok (.iload_n 2, 1) := by decide +kernel
theorem dX5_bookNextStep_30 : decode cX5_bookNextStep 30 = .ok (.invokevirtual 73, 3) := by decide +kernel
theorem dX5_bookNextStep_33 : decode cX5_bookNextStep 33 = .ok (.istore 4, 2) := by decide +kernel
theorem dX5_bookNextStep_35 : decode cX5_bookNextStep 35 = .ok (.aload_n 0, 1) := by decide +kernel
theorem dX5_bookNextStep_36 : decode cX5_bookNextStep 36 = .ok (.getfield 12, 3) := by decide +kernel
theorem dX5_bookNextStep_39 : decode cX5_bookNextStep 39 = .ok (.iload_n 1, 1) := by decide +kernel
theorem dX5_bookNextStep_40 : decode cX5_bookNextStep 40 = .ok (.iload_n 2, 1) := by decide +kernel
theorem dX5_bookNextStep_41 : decode cX5_bookNextStep 41 = .ok (.iconst 4, 1) := by decide +kernel
theorem dX5_bookNextStep_42 : decode cX5_bookNextStep 42 = .ok (.invokestatic 33, 3) := by decide +kernel
theorem dX5_bookNextStep_45 : decode cX5_bookNextStep 45 = .ok (.iload 4, 2) := by decide +kernel
theorem dX5_bookNextStep_47 : decode cX5_bookNextStep 47 = .ok (.invokevirtual 26, 3) := by decide +kernel
theorem dX5_bookNextStep_50 : decode cX5_bookNextStep 50 = .ok (.aload_n 0, 1) := by decide +kernel
theorem dX5_bookNextStep_51 : decode cX5_bookNextStep 51 = .ok (.getfield 12, 3) := by decide +kernel
theorem dX5_bookNextStep_54 : decode cX5_bookNextStep 54 = .ok (.iload_n 1, 1) := by decide +kernel
theorem dX5_bookNextStep_55 : decode cX5_bookNextStep 55 = .ok (.bipush 6, 2) := by decide +kernel
theorem dX5_bookNextStep_57 : decode cX5_bookNextStep 57 = .ok (.invokestatic 22, 3) := by decide +kernel
theorem dX5_bookNextStep_60 : decode cX5_bookNextStep 60 = .ok (.iload 4, 2) := by decide +kernel
theorem dX5_bookNextStep_62 : decode cX5_bookNextStep 62 = .ok (.invokevirtual 30, 3) := by decide +kernel
theorem dX5_bookNextStep_65 : decode cX5_bookNextStep 65 = .ok (.aload_n 0, 1) := by decide +kernel
theorem dX5_bookNextStep_66 : decode cX5_bookNextStep 66 = .ok (.getfield 12, 3) := by decide +kernel
theorem dX5_bookNextStep_69 : decode cX5_bookNextStep 69 = .ok (.iload_n 3, 1) := by decide +kernel
theorem dX5_bookNextStep_70 : decode cX5_bookNextStep 70 = .ok (.iconst 3, 1) := by decide +kernel
theorem dX5_bookNextStep_71 : decode cX5_bookNextStep 71 = .ok (.invokestatic 44, 3) := by decide +kernel
theorem dX5_bookNextStep_74 : decode cX5_bookNextStep 74 = .ok (.iload 4, 2) := by decide +kernel
theorem dX5_bookNextStep_76 : decode cX5_bookNextStep 76 = .ok (.invokevirtual 30, 3) := by decide +kernel
theorem dX5_bookNextStep_79 : decode cX5_bookNextStep 79 = .ok (.aload_n 0, 1) := by decide +kernel
theorem dX5_bookNextStep_80 : decode cX5_bookNextStep 80 = .ok (.getfield 12, 3) := by decide +kernel
theorem dX5_bookNextStep_83 : decode cX5_bookNextStep 83 = .ok (.bipush 8, 2) := by decide +kernel
theorem dX5_bookNextStep_85 : decode cX5_bookNextStep 85 = .ok (.iload 4, 2) := by decide +kernel
theorem dX5_bookNextStep_87 : decode cX5_bookNextStep 87 = .ok (.invokevirtual 30, 3) := by decide +kernel
theorem dX5_bookNextStep_90 : decode cX5_bookNextStep 90 = .ok (.aload_n 0, 1) := by decide +kernel
theorem dX5_bookNextStep_91 : decode cX5_bookNextStep 91 = .ok (.getfield 12, 3) := by decide +kernel
theorem dX5_bookNextStep_94 : decode cX5_bookNextStep 94 = .ok (.bipush 7, 2) := by decide +kernel
theorem dX5_bookNextStep_96 : decode cX5_bookNextStep 96 = .ok (.iload 4, 2) := by decide +kernel
theorem dX5_bookNextStep_98 : decode cX5_bookNextStep 98 = .ok (.ineg, 1) := by decide +kernel
theorem dX5_bookNextStep_99 : decode cX5_bookNextStep 99 = .ok (.invokevirtual 30, 3) := by decide +kernel
theorem dX5_bookNextStep_102 : decode cX5_bookNextStep 102 = .ok (.aload_n 0, 1) := by decide +kernel
theorem dX5_bookNextStep_103 : decode cX5_bookNextStep 103 = .ok (.iload_n 1, 1) := by decide +kernel
theorem dX5_bookNextStep_104 : decode cX5_bookNextStep 104 = .ok (.iload_n 2, 1) := by decide +kernel
theorem dX5_bookNextStep_105 : decode cX5_bookNextStep 105 = .ok (.iconst 1, 1) := by decide +kernel
theorem dX5_bookNextStep_106 : decode cX5_bookNextStep 106 = .ok (.invokevirtual 76, 3) := by decide +kernel
theorem dX5_bookNextStep_109 : decode cX5_bookNextStep 109 = .ok (.return_, 1) := by decide +kernel
set_option maxRecDepth 20000 in
theorem ggX5_undoLastStep_X6_ofTour : GoodIn wsX5_undoLastStep wsX6_ofTour := goodIn_r _ [4] (by decide +kernel) (by decide +kernel)
set_option maxRecDepth 20000 in
theorem gX5_undoLastStep_X6_ofTour_n22 : GoodIn wsX5_undoLastStep (wsX6_ofTour) := ggX5_undoLastStep_X6_ofTour
set_option maxRecDepth 20000 in
theorem ggX5_undoLastStep_X0_get : GoodIn wsX5_undoLastStep wsX0_get := goodIn_ca (goodIn_r _ [9, 10, 39] (by decide +kernel) (by decide +kernel)) (goodIn_sub (fun _ h => List.mem_cons_of_mem _ (List.mem_append_right _ h)) (by decide +kernel))
set_option maxRecDepth 20000 in
theorem gX5_undoLastStep_X0_get : GoodIn wsX5_undoLastStep (wsV RX5 18 RX0 yX0_get wsX0_get) := goodIn_app (goodIn_of _ (by decide +kernel)) ggX5_undoLastStep_X0_get
set_option maxRecDepth 20000 in
theorem ggX5_undoLastStep_X6_ofStep : GoodIn wsX5_undoLastStep wsX6_ofStep := goodIn_r _ [12] (by decide +kernel) (by decide +kernel)
set_option maxRecDepth 20000 in
theorem gX5_undoLastStep_X6_ofStep_n33 : GoodIn wsX5_undoLastStep (wsX6_ofStep) := ggX5_undoLastStep_X6_ofStep
set_option maxRecDepth 20000 in
theorem ggX5_undoLastStep_X0_set : GoodIn wsX5_undoLastStep wsX0_set := goodIn_ca (goodIn_r _ [16, 10, 39] (by decide +kernel) (by decide +kernel)) (goodIn_sub (fun _ h => List.mem_cons_of_mem _ (List.mem_append_right _ h)) (by decide +kernel))
set_option maxRecDepth 20000 in
theorem gX5_undoLastStep_X0_set : GoodIn wsX5_undoLastStep (wsV RX5 26 RX0 yX0_set wsX0_set) := goodIn_app (goodIn_of _ (by decide +kernel)) ggX5_undoLastStep_X0_set
set_option maxRecDepth 20000 in
theorem ggX5_undoLastStep_X0_add : GoodIn wsX5_undoLastStep wsX0_add := goodIn_ca (goodIn_r _ [20, 10, 39] (by decide +kernel) (by decide +kernel)) (goodIn_sub (fun _ h => List.mem_cons_of_mem _ (List.mem_append_right _ h)) (by decide +kernel))
set_option maxRecDepth 20000 in
theorem gX5_undoLastStep_X0_add : GoodIn wsX5_undoLastStep (wsV RX5 30 RX0 yX0_add wsX0_add) := goodIn_app (goodIn_of _ (by decide +kernel)) ggX5_undoLastStep_X0_add
set_option maxRecDepth 20000 in
theorem ggX5_undoLastStep_X5_gainCoins : GoodIn wsX5_undoLastStep wsX5_gainCoins := goodIn_ca (goodIn_r _ [25, 1, 26, 27, 28, 29, 5, 6, 7, 8, 9, 10, 17, 18, 19, 20, 38, 39] (by decide +kernel) (by decide +kernel)) (goodIn_sub (fun _ h => List.mem_cons_of_mem _ (List.mem_append_right _ h)) (by decide +kernel))
set_option maxRecDepth 20000 in
theorem gX5_undoLastStep_X5_gainCoins : GoodIn wsX5_undoLastStep (wsV RX5 80 RX5 yX5_gainCoins wsX5_gainCoins) := goodIn_app (goodIn_of _ (by decide +kernel)) ggX5_undoLastStep_X5_gainCoins
set_option maxRecDepth 20000 in
theorem ggX5_undoLastStep_X5_countBooking : GoodIn wsX5_undoLastStep wsX5_countBooking := goodIn_ca (goodIn_r _ [33, 1, 11, 3, 12, 5, 6, 7, 8, 9, 10, 34, 35, 17, 18, 19, 20, 36, 37, 2, 4, 13, 14, 15, 16, 38, 39] (by decide +kernel) (by decide +kernel)) (goodIn_sub (fun _ h => List.mem_cons_of_mem _ (List.mem_append_right _ h)) (by decide +kernel))
set_option maxRecDepth 20000 in
theorem gX5_undoLastStep_X5_countBooking : GoodIn wsX5_undoLastStep (wsV RX5 76 RX5 yX5_countBooking wsX5_countBooking) := goodIn_app (goodIn_of _ (by decide +kernel)) ggX5_undoLastStep_X5_countBooking
theorem dX5_undoLastStep_0 : decode cX5_undoLastStep 0 = .ok (.aload_n 0, 1) := by decide +kernel
theorem dX5_undoLastStep_1 : decode cX5_undoLastStep 1 = .ok (.getfield 12, 3) := by decide +kernel
theorem dX5_undoLastStep_4 : decode cX5_undoLastStep 4 = .ok (.iload_n 1, 1) := by decide +kernel
theorem dX5_undoLastStep_5 : decode cX5_undoLastStep 5 = .ok (.iconst 3, 1) := by decide +kernel
theorem dX5_undoLastStep_6 : decode cX5_undoLastStep 6 = .ok (.invokestatic 22, 3) := by decide +kernel
theorem dX5_undoLastStep_9 : decode cX5_undoLastStep 9 = .ok (.invokevirtual 18, 3) := by decide +kernel
theorem dX5_undoLastStep_12 : decode cX5_undoLastStep 12 = .ok (.iconst 1, 1) := by decide +kernel
theorem dX5_undoLastStep_13 : decode cX5_undoLastStep 13 = .ok (.isub, 1) := by decide +kernel
theorem dX5_undoLastStep_14 : decode cX5_undoLastStep 14 = .ok (.istore_n 2, 1) := by decide +kernel
theorem dX5_undoLastStep_15 : decode cX5_undoLastStep 15 = .ok (.aload_n 0, 1) := by decide +kernel
theorem dX5_undoLastStep_16 : decode cX5_undoLastStep 16 = .ok (.getfield 12, 3) := by decide +kernel
theorem dX5_undoLastStep_19 : decode cX5_undoLastStep 19 = .ok (.iload_n 1, 1) := by decide +kernel
theorem dX5_undoLastStep_20 : decode cX5_undoLastStep 20 = .ok (.iload_n 2, 1) := by decide +kernel
theorem dX5_undoLastStep_21 : decode cX5_undoLastStep 21 = .ok (.iconst 4, 1) := by decide +kernel
theorem dX5_undoLastStep_22 : decode cX5_undoLastStep 22 = .ok (.invokestatic 33, 3) := by decide +kernel
theorem dX5_undoLastStep_25 : decode cX5_undoLastStep 25 = .ok (.invokevirtual 18, 3) := by decide +kernel
theorem dX5_undoLastStep_28 : decode cX5_undoLastStep 28 = .ok (.iconst 2, 1) := by decide +kernel
theorem dX5_undoLastStep_29 : decode cX5_undoLastStep 29 = .ok (.idiv, 1) := by decide +kernel
theorem dX5_undoLastStep_30 : decode cX5_undoLastStep 30 = .ok (.istore_n 3, 1) := by decide +kernel
theorem dX5_undoLastStep_31 : decode cX5_undoLastStep 31 = .ok (.aload_n 0, 1) := by decide +kernel
theorem dX5_undoLastStep_32 : decode cX5_undoLastStep 32 = .ok (.getfield 12, 3) := by decide +kernel
theorem dX5_undoLastStep_35 : decode cX5_undoLastStep 35 = .ok (.iload_n 1, 1) := by decide +kernel
theorem dX5_undoLastStep_36 : decode cX5_undoLastStep 36 = .ok (.iload_n 2, 1) := by decide +kernel
theorem dX5_undoLastStep_37 : decode cX5_undoLastStep 37 = .ok (.iconst 4, 1) := by decide +kernel
theorem dX5_undoLastStep_38 : decode cX5_undoLastStep 38 = .ok (.invokestatic 33, 3) := by decide +kernel
theorem dX5_undoLastStep_41 : decode cX5_undoLastStep 41 = .ok (.iconst 0, 1) := by decide +kernel
theorem dX5_undoLastStep_42 : decode cX5_undoLastStep 42 = .ok (.invokevirtual 26, 3) := by decide +kernel
theorem dX5_undoLastStep_45 : decode cX5_undoLastStep 45 = .ok (.aload_n 0, 1) := by decide +kernel
theorem dX5_undoLastStep_46 : decode cX5_undoLastStep 46 = .ok (.getfield 12, 3) := by decide +kernel
theorem dX5_undoLastStep_49 : decode cX5_undoLastStep 49 = .ok (.iload_n 1, 1) := by decide +kernel
theorem dX5_undoLastStep_50 : decode cX5_undoLastStep 50 = .ok (.bipush 7, 2) := by decide +kernel
theorem dX5_undoLastStep_52 : decode cX5_undoLastStep 52 = .ok (.invokestatic 22, 3) := by decide +kernel
theorem dX5_undoLastStep_55 : decode cX5_undoLastStep 55 = .ok (.iload_n 3, 1) := by decide +kernel
theorem dX5_undoLastStep_56 : decode cX5_undoLastStep 56 = .ok (.invokevirtual 30, 3) := by decide +kernel
theorem dX5_undoLastStep_59 : decode cX5_undoLastStep 59 = .ok (.aload_n 0, 1) := by decide +kernel
theorem dX5_undoLastStep_60 : decode cX5_undoLastStep 60 = .ok (.getfield 12, 3) := by decide +kernel
theorem dX5_undoLastStep_63 : decode cX5_undoLastStep 63 = .ok (.bipush 9, 2) := by decide +kernel
theorem dX5_undoLastStep_65 : decode cX5_undoLastStep 65 = .ok (.iload_n 3, 1) := by decide +kernel
theorem dX5_undoLastStep_66 : decode cX5_undoLastStep 66 = .ok (.invokevirtual 30, 3) := by decide +kernel
theorem dX5_undoLastStep_69 : decode cX5_undoLastStep 69 = .ok (.aload_n 0, 1) := by decide +kernel
theorem dX5_undoLastStep_70 : decode cX5_undoLastStep 70 = .ok (.iload_n 3, 1) := by decide +kernel
theorem dX5_undoLastStep_71 : decode cX5_undoLastStep 71 = .ok (.invokevirtual 80, 3) := by decide +kernel
theorem dX5_undoLastStep_74 : decode cX5_undoLastStep 74 = .ok (.aload_n 0, 1) := by decide +kernel
theorem dX5_undoLastStep_75 : decode cX5_undoLastStep 75 = .ok (.iload_n 1, 1) := by decide +kernel
theorem dX5_undoLastStep_76 : decode cX5_undoLastStep 76 = .ok (.iload_n 2, 1) := by decide +kernel
theorem dX5_undoLastStep_77 : decode cX5_undoLastStep 77 = .ok (.iconst (-1), 1) := by decide +kernel
theorem dX5_undoLastStep_78 : decode cX5_undoLastStep 78 = .ok (.invokevirtual 76, 3) := by decide +kernel
theorem dX5_undoLastStep_81 : decode cX5_undoLastStep 81 = .ok (.return_, 1) := by decide +kernel
set_option maxRecDepth 20000 in
theorem ggX5_countBooking_X6_ofStep : GoodIn wsX5_countBooking wsX6_ofStep := goodIn_r _ [4] (by decide +kernel) (by decide +kernel)
set_option maxRecDepth 20000 in
theorem gX5_countBooking_X6_ofStep_n33 : GoodIn wsX5_countBooking (wsX6_ofStep) := ggX5_countBooking_X6_ofStep
set_option maxRecDepth 20000 in
theorem ggX5_countBooking_X0_get : GoodIn wsX5_countBooking wsX0_get := goodIn_ca (goodIn_r _ [9, 10, 26] (by decide +kernel) (by decide +kernel)) (goodIn_sub (fun _ h => List.mem_cons_of_mem _ (List.mem_append_right _ h)) (by decide +kernel))
set_option maxRecDepth 20000 in
theorem gX5_countBooking_X0_get : GoodIn wsX5_countBooking (wsV RX5 18 RX0 yX0_get wsX0_get) := goodIn_app (goodIn_of _ (by decide +kernel)) ggX5_countBooking_X0_get
set_option maxRecDepth 20000 in
theorem ggX5_countBooking_X6_ofLeft : GoodIn wsX5_countBooking wsX6_ofLeft := goodIn_r _ [12] (by decide +kernel) (by decide +kernel)
set_option maxRecDepth 20000 in
theorem gX5_countBooking_X6_ofLeft_n83 : GoodIn wsX5_countBooking (wsX6_ofLeft) := ggX5_countBooking_X6_ofLeft
set_option maxRecDepth 20000 in
theorem ggX5_countBooking_X0_add : GoodIn wsX5_countBooking wsX0_add := goodIn_ca (goodIn_r _ [16, 10, 26] (by decide +kernel) (by decide +kernel)) (goodIn_sub (fun _ h => List.mem_cons_of_mem _ (List.mem_append_right _ h)) (by decide +kernel))
set_option maxRecDepth 20000 in
theorem gX5_countBooking_X0_add : GoodIn wsX5_countBooking (wsV RX5 30 RX0 yX0_add wsX0_add) := goodIn_app (goodIn_of _ (by decide +kernel)) ggX5_countBooking_X0_add
set_option maxRecDepth 20000 in
theorem ggX5_countBooking_X6_ofTown : GoodIn wsX5_countBooking wsX6_ofTown := goodIn_r _ [18] (by decide +kernel) (by decide +kernel)
set_option maxRecDepth 20000 in
theorem gX5_countBooking_X6_ofTown_n44 : GoodIn wsX5_countBooking (wsX6_ofTown) := ggX5_countBooking_X6_ofTown
set_option maxRecDepth 20000 in
theorem ggX5_countBooking_X6_ofTour : GoodIn wsX5_countBooking wsX6_ofTour := goodIn_r _ [20] (by decide +kernel) (by decide +kernel)
set_option maxRecDepth 20000 in
theorem gX5_countBooking_X6_ofTour_n22 : GoodIn wsX5_countBooking (wsX6_ofTour) := ggX5_countBooking_X6_ofTour
set_option maxRecDepth 20000 in
theorem ggX5_countBooking_X0_set : GoodIn wsX5_countBooking wsX0_set := goodIn_ca (goodIn_r _ [24, 10, 26] (by decide +kernel) (by decide +kernel)) (goodIn_sub (fun _ h => List.mem_cons_of_mem _ (List.mem_append_right _ h)) (by decide +kernel))
set_option maxRecDepth 20000 in
theorem gX5_countBooking_X0_set : GoodIn wsX5_countBooking (wsV RX5 26 RX0 yX0_set wsX0_set) := goodIn_app (goodIn_of _ (by decide +kernel)) ggX5_countBooking_X0_set
theorem dX5_countBooking_0 : decode cX5_countBooking 0 = .ok (.aload_n 0, 1) := by decide +kernel
theorem dX5_countBooking_1 : decode cX5_countBooking 1 = .ok (.getfield 12, 3) := by decide +kernel
theorem dX5_countBooking_4 : decode cX5_countBooking 4 = .ok (.iload_n 1, 1) := by decide +kernel
theorem dX5_countBooking_5 : decode cX5_countBooking 5 = .ok (.iload_n 2, 1) := by decide +kernel
theorem dX5_countBooking_6 : decode cX5_countBooking 6 = .ok (.iconst 0, 1) := by decide +kernel
theorem dX5_countBooking_7 : decode cX5_countBooking 7 = .ok (.invokestatic 33, 3) := by decide +kernel
theorem dX5_countBooking_10 : decode cX5_countBooking 10 = .ok (.invokevirtual 18, 3) := by decide +kernel
theorem dX5_countBooking_13 : decode cX5_countBooking 13 = .ok (.istore 4, 2) := by decide +kernel
theorem dX5_countBooking_15 : decode cX5_countBooking 15 = .ok (.aload_n 0, 1) := by decide +kernel
theorem dX5_countBooking_16 : decode cX5_countBooking 16 = .ok (.getfield 12, 3) := by decide +kernel
theorem dX5_countBooking_19 : decode cX5_countBooking 19 = .ok (.iload_n 1, 1) := by decide +kernel
theorem dX5_countBooking_20 : decode cX5_countBooking 20 = .ok (.iload_n 2, 1) := by decide +kernel
theorem dX5_countBooking_21 : decode cX5_countBooking 21 = .ok (.iconst 1, 1) := by decide +kernel
theorem dX5_countBooking_22 : decode cX5_countBooking 22 = .ok (.invokestatic 33, 3) := by decide +kernel
theorem dX5_countBooking_25 : decode cX5_countBooking 25 = .ok (.invokevirtual 18, 3) := by decide +kernel
theorem dX5_countBooking_28 : decode cX5_countBooking 28 = .ok (.istore 5, 2) := by decide +kernel
theorem dX5_countBooking_30 : decode cX5_countBooking 30 = .ok (.aload_n 0, 1) := by decide +kernel
theorem dX5_countBooking_31 : decode cX5_countBooking 31 = .ok (.getfield 12, 3) := by decide +kernel
theorem dX5_countBooking_34 : decode cX5_countBooking 34 = .ok (.iload_n 1, 1) := by decide +kernel
theorem dX5_countBooking_35 : decode cX5_countBooking 35 = .ok (.iload_n 2, 1) := by decide +kernel
theorem dX5_countBooking_36 : decode cX5_countBooking 36 = .ok (.iconst 2, 1) := by decide +kernel
theorem dX5_countBooking_37 : decode cX5_countBooking 37 = .ok (.invokestatic 33, 3) := by decide +kernel
theorem dX5_countBooking_40 : decode cX5_countBooking 40 = .ok (.invokevirtual 18, 3) := by decide +kernel
theorem dX5_countBooking_43 : decode cX5_countBooking 43 = .ok (.istore 6, 2) := by decide +kernel
theorem dX5_countBooking_45 : decode cX5_countBooking 45 = .ok (.aload_n 0, 1) := by decide +kernel
theorem dX5_countBooking_46 : decode cX5_countBooking 46 = .ok (.getfield 12, 3) := by decide +kernel
theorem dX5_countBooking_49 : decode cX5_countBooking 49 = .ok (.iload 4, 2) := by decide +kernel
theorem dX5_countBooking_51 : decode cX5_countBooking 51 = .ok (.iload 5, 2) := by decide +kernel
theorem dX5_countBooking_53 : decode cX5_countBooking 53 = .ok (.iload 6, 2) := by decide +kernel
theorem dX5_countBooking_55 : decode cX5_countBooking 55 = .ok (.invokestatic 83, 3) := by decide +kernel
theorem dX5_countBooking_58 : decode cX5_countBooking 58 = .ok (.iload_n 3, 1) := by decide +kernel
theorem dX5_countBooking_59 : decode cX5_countBooking 59 = .ok (.ineg, 1) := by decide +kernel
theorem dX5_countBooking_60 : decode cX5_countBooking 60 = .ok (.aload_n 0, 1) := by decide +kernel
theorem dX5_countBooking_61 : decode cX5_countBooking 61 = .ok (.getfield 12, 3) := by decide +kernel
theorem dX5_countBooking_64 : decode cX5_countBooking 64 = .ok (.iload_n 1, 1) := by decide +kernel
theorem dX5_countBooking_65 : decode cX5_countBooking 65 = .ok (.iload_n 2, 1) := by decide +kernel
theorem dX5_countBooking_66 : decode cX5_countBooking 66 = .ok (.iconst 3, 1) := by decide +kernel
theorem dX5_countBooking_67 : decode cX5_countBooking 67 = .ok (.invokestatic 33, 3) := by decide +kernel
theorem dX5_countBooking_70 : decode cX5_countBooking 70 = .ok (.invokevirtual 18, 3) := by decide +kernel
theorem dX5_countBooking_73 : decode cX5_countBooking 73 = .ok (.imul, 1) := by decide +kernel
theorem dX5_countBooking_74 : decode cX5_countBooking 74 = .ok (.invokevirtual 30, 3) := by decide +kernel
theorem dX5_countBooking_77 : decode cX5_countBooking 77 = .ok (.aload_n 0, 1) := by decide +kernel
theorem dX5_countBooking_78 : decode cX5_countBooking 78 = .ok (.getfield 12, 3) := by decide +kernel
theorem dX5_countBooking_81 : decode cX5_countBooking 81 = .ok (.iload 5, 2) := by decide +kernel
theorem dX5_countBooking_83 : decode cX5_countBooking 83 = .ok (.iconst 2, 1) := by decide +kernel
theorem dX5_countBooking_84 : decode cX5_countBooking 84 = .ok (.invokestatic 44, 3) := by decide +kernel
theorem dX5_countBooking_87 : decode cX5_countBooking 87 = .ok (.iload_n 3, 1) := by decide +kernel
theorem dX5_countBooking_88 : decode cX5_countBooking 88 = .ok (.invokevirtual 30, 3) := by decide +kernel
theorem dX5_countBooking_91 : decode cX5_countBooking 91 = .ok (.aload_n 0, 1) := by decide +kernel
theorem dX5_countBooking_92 : decode cX5_countBooking 92 = .ok (.getfield 12, 3) := by decide +kernel
theorem dX5_countBooking_95 : decode cX5_countBooking 95 = .ok (.iload_n 1, 1) := by decide +kernel
theorem dX5_countBooking_96 : decode cX5_countBooking 96 = .ok (.iconst 3, 1) := by decide +kernel
theorem dX5_countBooking_97 : decode cX5_countBooking 97 = .ok (.invokestatic 22, 3) := by decide +kernel
theorem dX5_countBooking_100 : decode cX5_countBooking 100 = .ok (.iload_n 3, 1) := by decide +kernel
theorem dX5_countBooking_101 : decode cX5_countBooking 101 = .ok (.invokevirtual 30, 3) := by decide +kernel
theorem dX5_countBooking_104 : decode cX5_countBooking 104 = .ok (.aload_n 0, 1) := by decide +kernel
theorem dX5_countBooking_105 : decode cX5_countBooking 105 = .ok (.getfield 12, 3) := by decide +kernel
theorem dX5_countBooking_108 : decode cX5_countBooking 108 = .ok (.iload_n 1, 1) := by decide +kernel
theorem dX5_countBooking_109 : decode cX5_countBooking 109 = .ok (.iconst 4, 1) := by decide +kernel
theorem dX5_countBooking_110 : decode cX5_countBooking 110 = .ok (.invokestatic 22, 3) := by decide +kernel
theorem dX5_countBooking_113 : decode cX5_countBooking 113 = .ok (.iconst 0, 1) := by decide +kernel
theorem dX5_countBooking_114 : decode cX5_countBooking 114 = .ok (.invokevirtual 26, 3) := by decide +kernel
theorem dX5_countBooking_117 : decode cX5_countBooking 117 = .ok (.return_, 1) := by decide +kernel
set_option maxRecDepth 20000 in
theorem ggX5_finishTour_X6_ofTour : GoodIn wsX5_finishTour wsX6_ofTour := goodIn_r _ [4] (by decide +kernel) (by decide +kernel)
set_option maxRecDepth 20000 in
theorem gX5_finishTour_X6_ofTour_n22 : GoodIn wsX5_finishTour (wsX6_ofTour) := ggX5_finishTour_X6_ofTour
set_option maxRecDepth 20000 in
theorem ggX5_finishTour_X0_get : GoodIn wsX5_finishTour wsX0_get := goodIn_ca (goodIn_r _ [9, 10, 31] (by decide +kernel) (by decide +kernel)) (goodIn_sub (fun _ h => List.mem_cons_of_mem _ (List.mem_append_right _ h)) (by decide +kernel))
set_option maxRecDepth 20000 in
theorem gX5_finishTour_X0_get : GoodIn wsX5_finishTour (wsV RX5 18 RX0 yX0_get wsX0_get) := goodIn_app (goodIn_of _ (by decide +kernel)) ggX5_finishTour_X0_get
set_option maxRecDepth 20000 in
theorem ggX5_finishTour_X6_ofStep : GoodIn wsX5_finishTour wsX6_ofStep := goodIn_r _ [12] (by decide +kernel) (by decide +kernel)
set_option maxRecDepth 20000 in
theorem gX5_finishTour_X6_ofStep_n33 : GoodIn wsX5_finishTour (wsX6_ofStep) := ggX5_finishTour_X6_ofStep
set_option maxRecDepth 20000 in
theorem ggX5_finishTour_X0_set : GoodIn wsX5_finishTour wsX0_set := goodIn_ca (goodIn_r _ [16, 10, 31] (by decide +kernel) (by decide +kernel)) (goodIn_sub (fun _ h => List.mem_cons_of_mem _ (List.mem_append_right _ h)) (by decide +kernel))
set_option maxRecDepth 20000 in
theorem gX5_finishTour_X0_set : GoodIn wsX5_finishTour (wsV RX5 26 RX0 yX0_set wsX0_set) := goodIn_app (goodIn_of _ (by decide +kernel)) ggX5_finishTour_X0_set
set_option maxRecDepth 20000 in
theorem ggX5_finishTour_X0_add : GoodIn wsX5_finishTour wsX0_add := goodIn_ca (goodIn_r _ [20, 10, 31] (by decide +kernel) (by decide +kernel)) (goodIn_sub (fun _ h => List.mem_cons_of_mem _ (List.mem_append_right _ h)) (by decide +kernel))
set_option maxRecDepth 20000 in
theorem gX5_finishTour_X0_add : GoodIn wsX5_finishTour (wsV RX5 30 RX0 yX0_add wsX0_add) := goodIn_app (goodIn_of _ (by decide +kernel)) ggX5_finishTour_X0_add
set_option maxRecDepth 20000 in
theorem ggX5_finishTour_X5_gainCoins : GoodIn wsX5_finishTour wsX5_gainCoins := goodIn_ca (goodIn_r _ [25, 1, 26, 27, 28, 29, 5, 6, 7, 8, 9, 10, 17, 18, 19, 20, 30, 31] (by decide +kernel) (by decide +kernel)) (goodIn_sub (fun _ h => List.mem_cons_of_mem _ (List.mem_append_right _ h)) (by decide +kernel))
set_option maxRecDepth 20000 in
theorem gX5_finishTour_X5_gainCoins : GoodIn wsX5_finishTour (wsV RX5 80 RX5 yX5_gainCoins wsX5_gainCoins) := goodIn_app (goodIn_of _ (by decide +kernel)) ggX5_finishTour_X5_gainCoins
theorem dX5_finishTour_0 : decode cX5_finishTour 0 = .ok (.iconst 0, 1) := by decide +kernel
theorem dX5_finishTour_1 : decode cX5_finishTour 1 = .ok (.istore_n 2, 1) := by decide +kernel
theorem dX5_finishTour_2 : decode cX5_finishTour 2 = .ok (.iconst 0, 1) := by decide +kernel
theorem dX5_finishTour_3 : decode cX5_finishTour 3 = .ok (.istore_n 3, 1) := by decide +kernel
theorem dX5_finishTour_4 : decode cX5_finishTour 4 = .ok (.iload_n 3, 1) := by decide +kernel
theorem dX5_finishTour_5 : decode cX5_finishTour 5 = .ok (.aload_n 0, 1) := by decide +kernel
theorem dX5_finishTour_6 : decode cX5_finishTour 6 = .ok (.getfield 12, 3) := by decide +kernel
theorem dX5_finishTour_9 : decode cX5_finishTour 9 = .ok (.iload_n 1, 1) := by decide +kernel
theorem dX5_finishTour_10 : decode cX5_finishTour 10 = .ok (.iconst 2, 1) := by decide +kernel
theorem dX5_finishTour_11 : decode cX5_finishTour 11 = .ok (.invokestatic 22, 3) := by decide +kernel
theorem dX5_finishTour_14 : decode cX5_finishTour 14 = .ok (.invokevirtual 18, 3) := by decide +kernel
theorem dX5_finishTour_17 : decode cX5_finishTour 17 = .ok (.if_icmp .ge 34, 3) := by decide +kernel
theorem dX5_finishTour_20 : decode cX5_finishTour 20 = .ok (.iload_n 2, 1) := by decide +kernel
theorem dX5_finishTour_21 : decode cX5_finishTour 21 = .ok (.aload_n 0, 1) := by decide +kernel
theorem dX5_finishTour_22 : decode cX5_finishTour 22 = .ok (.getfield 12, 3) := by decide +kernel
theorem dX5_finishTour_25 : decode cX5_finishTour 25 = .ok (.iload_n 1, 1) := by decide +kernel
theorem dX5_finishTour_26 : decode cX5_finishTour 26 = .ok (.iload_n 3, 1) := by decide +kernel
theorem dX5_finishTour_27 : decode cX5_finishTour 27 = .ok (.iconst 0, 1) := by decide +kernel
theorem dX5_finishTour_28 : decode cX5_finishTour 28 = .ok (.invokestatic 33, 3) := by decide +kernel
theorem dX5_finishTour_31 : decode cX5_finishTour 31 = .ok (.invokevirtual 18, 3) := by decide +kernel
theorem dX5_finishTour_34 : decode cX5_finishTour 34 = .ok (.ifCond .ne 8, 3) := by decide +kernel
theorem dX5_finishTour_37 : decode cX5_finishTour 37 = .ok (.bipush 10, 2) := by decide +kernel
theorem dX5_finishTour_39 : decode cX5_finishTour 39 = .ok (.goto 4, 3) := by decide +kernel
theorem dX5_finishTour_42 : decode cX5_finishTour 42 = .ok (.iconst 0, 1) := by decide +kernel
theorem dX5_finishTour_43 : decode cX5_finishTour 43 = .ok (.iadd, 1) := by decide +kernel
theorem dX5_finishTour_44 : decode cX5_finishTour 44 = .ok (.istore_n 2, 1) := by decide +kernel
theorem dX5_finishTour_45 : decode cX5_finishTour 45 = .ok (.iinc 3 1, 3) := by decide +kernel
theorem dX5_finishTour_48 : decode cX5_finishTour 48 = .ok (.goto (-44), 3) := by decide +kernel
theorem dX5_finishTour_51 : decode cX5_finishTour 51 = .ok (.aload_n 0, 1) := by decide +kernel
theorem dX5_finishTour_52 : decode cX5_finishTour 52 = .ok (.getfield 12, 3) := by decide +kernel
theorem dX5_finishTour_55 : decode cX5_finishTour 55 = .ok (.iload_n 1, 1) := by decide +kernel
theorem dX5_finishTour_56 : decode cX5_finishTour 56 = .ok (.iconst 0, 1) := by decide +kernel
theorem dX5_finishTour_57 : decode cX5_finishTour 57 = .ok (.invokestatic 22, 3) := by decide +kernel
theorem dX5_finishTour_60 : decode cX5_finishTour 60 = .ok (.iconst 3, 1) := by decide +kernel
theorem dX5_finishTour_61 : decode cX5_finishTour 61 = .ok (.invokevirtual 26, 3) := by decide +kernel
theorem dX5_finishTour_64 : decode cX5_finishTour 64 = .ok (.aload_n 0, 1) := by decide +kernel
theorem dX5_finishTour_65 : decode cX5_finishTour 65 = .ok (.getfield 12, 3) := by decide +kernel
theorem dX5_finishTour_68 : decode cX5_finishTour 68 = .ok (.iload_n 1, 1) := by decide +kernel
theorem dX5_finishTour_69 : decode cX5_finishTour 69 = .ok (.bipush 8, 2) := by decide +kernel
theorem dX5_finishTour_71 : decode cX5_finishTour 71 = .ok (.invokestatic 22, 3) := by decide +kernel
theorem dX5_finishTour_74 : decode cX5_finishTour 74 = .ok (.iload_n 2, 1) := by decide +kernel
theorem dX5_finishTour_75 : decode cX5_finishTour 75 = .ok (.invokevirtual 30, 3) := by decide +kernel
theorem dX5_finishTour_78 : decode cX5_finishTour 78 = .ok (.aload_n 0, 1) := by decide +kernel
theorem dX5_finishTour_79 : decode cX5_finishTour 79 = .ok (.getfield 12, 3) := by decide +kernel
theorem dX5_finishTour_82 : decode cX5_finishTour 82 = .ok (.bipush 10, 2) := by decide +kernel
theorem dX5_finishTour_84 : decode cX5_finishTour 84 = .ok (.iload_n 2, 1) := by decide +kernel
theorem dX5_finishTour_85 : decode cX5_finishTour 85 = .ok (.invokevirtual 30, 3) := by decide +kernel
theorem dX5_finishTour_88 : decode cX5_finishTour 88 = .ok (.aload_n 0, 1) := by decide +kernel
theorem dX5_finishTour_89 : decode cX5_finishTour 89 = .ok (.iload_n 2, 1) := by decide +kernel
theorem dX5_finishTour_90 : decode cX5_finishTour 90 = .ok (.invokevirtual 80, 3) := by decide +kernel
theorem dX5_finishTour_93 : decode cX5_finishTour 93 = .ok (.return_, 1) := by decide +kernel
set_option maxRecDepth 20000 in
theorem ggX5_gainCoins_X0_get : GoodIn wsX5_gainCoins wsX0_get := goodIn_ca (goodIn_r _ [10, 11, 17] (by decide +kernel) (by decide +kernel)) (goodIn_sub (fun _ h => List.mem_cons_of_mem _ (List.mem_append_right _ h)) (by decide +kernel))
set_option maxRecDepth 20000 in
theorem gX5_gainCoins_X0_get : GoodIn wsX5_gainCoins (wsV RX5 18 RX0 yX0_get wsX0_get) := goodIn_app (goodIn_of _ (by decide +kernel)) ggX5_gainCoins_X0_get
set_option maxRecDepth 20000 in
theorem ggX5_gainCoins_X0_add : GoodIn wsX5_gainCoins wsX0_add := goodIn_ca (goodIn_r _ [15, 11, 17] (by decide +kernel) (by decide +kernel)) (goodIn_sub (fun _ h => List.mem_cons_of_mem _ (List.mem_append_right _ h)) (by decide +kernel))
set_option maxRecDepth 20000 in
theorem gX5_gainCoins_X0_add : GoodIn wsX5_gainCoins (wsV RX5 30 RX0 yX0_add wsX0_add) := goodIn_app (goodIn_of _ (by decide +kernel)) ggX5_gainCoins_X0_add
theorem dX5_gainCoins_0 : decode cX5_gainCoins 0 = .ok (.iconst 0, 1) := by decide +kernel
theorem dX5_gainCoins_1 : decode cX5_gainCoins 1 = .ok (.aload_n 0, 1) := by decide +kernel
theorem dX5_gainCoins_2 : decode cX5_gainCoins 2 = .ok (.getfield 12, 3) := by decide +kernel
theorem dX5_gainCoins_5 : decode cX5_gainCoins 5 = .ok (.bipush 7, 2) := by decide +kernel
theorem dX5_gainCoins_7 : decode cX5_gainCoins 7 = .ok (.invokevirtual 18, 3) := by decide +kernel
theorem dX5_gainCoins_10 : decode cX5_gainCoins 10 = .ok (.iload_n 1, 1) := by decide +kernel
theorem dX5_gainCoins_11 : decode cX5_gainCoins 11 = .ok (.iadd, 1) := by decide +kernel
theorem dX5_gainCoins_12 : decode cX5_gainCoins 12 = .ok (.sipush 9999, 3) := by decide +kernel
theorem dX5_gainCoins_15 : decode cX5_gainCoins 15 = .ok (.isub, 1) := by decide +kernel
theorem dX5_gainCoins_16 : decode cX5_gainCoins 16 = .ok (.invokestatic 86, 3) := by decide +kernel
theorem dX5_gainCoins_19 : decode cX5_gainCoins 19 = .ok (.istore_n 2, 1) := by decide +kernel
theorem dX5_gainCoins_20 : decode cX5_gainCoins 20 = .ok (.aload_n 0, 1) := by decide +kernel
theorem dX5_gainCoins_21 : decode cX5_gainCoins 21 = .ok (.getfield 12, 3) := by decide +kernel
theorem dX5_gainCoins_24 : decode cX5_gainCoins 24 = .ok (.bipush 7, 2) := by decide +kernel
theorem dX5_gainCoins_26 : decode cX5_gainCoins 26 = .ok (.iload_n 1, 1) := by decide +kernel
theorem dX5_gainCoins_27 : decode cX5_gainCoins 27 = .ok (.iload_n 2, 1) := by decide +kernel
theorem dX5_gainCoins_28 : decode cX5_gainCoins 28 = .ok (.isub, 1) := by decide +kernel
theorem dX5_gainCoins_29 : decode cX5_gainCoins 29 = .ok (.invokevirtual 30, 3) := by decide +kernel
theorem dX5_gainCoins_32 : decode cX5_gainCoins 32 = .ok (.aload_n 0, 1) := by decide +kernel
theorem dX5_gainCoins_33 : decode cX5_gainCoins 33 = .ok (.getfield 12, 3) := by decide +kernel
theorem dX5_gainCoins_36 : decode cX5_gainCoins 36 = .ok (.bipush 11, 2) := by decide +kernel
theorem dX5_gainCoins_38 : decode cX5_gainCoins 38 = .ok (.iload_n 2, 1) := by decide +kernel
theorem dX5_gainCoins_39 : decode cX5_gainCoins 39 = .ok (.invokevirtual 30, 3) := by decide +kernel
theorem dX5_gainCoins_42 : decode cX5_gainCoins 42 = .ok (.return_, 1) := by decide +kernel
set_option maxRecDepth 20000 in
theorem ggX5_isUnderWay_X6_ofTour : GoodIn wsX5_isUnderWay wsX6_ofTour := goodIn_r _ [4] (by decide +kernel) (by decide +kernel)
set_option maxRecDepth 20000 in
theorem gX5_isUnderWay_X6_ofTour_n22 : GoodIn wsX5_isUnderWay (wsX6_ofTour) := ggX5_isUnderWay_X6_ofTour
set_option maxRecDepth 20000 in
theorem ggX5_isUnderWay_X0_get : GoodIn wsX5_isUnderWay wsX0_get := goodIn_ca (goodIn_r _ [9, 10, 12] (by decide +kernel) (by decide +kernel)) (goodIn_sub (fun _ h => List.mem_cons_of_mem _ (List.mem_append_right _ h)) (by decide +kernel))
set_option maxRecDepth 20000 in
theorem gX5_isUnderWay_X0_get : GoodIn wsX5_isUnderWay (wsV RX5 18 RX0 yX0_get wsX0_get) := goodIn_app (goodIn_of _ (by decide +kernel)) ggX5_isUnderWay_X0_get
theorem dX5_isUnderWay_0 : decode cX5_isUnderWay 0 = .ok (.aload_n 0, 1) := by decide +kernel
theorem dX5_isUnderWay_1 : decode cX5_isUnderWay 1 = .ok (.getfield 12, 3) := by decide +kernel
theorem dX5_isUnderWay_4 : decode cX5_isUnderWay 4 = .ok (.iload_n 1, 1) := by decide +kernel
theorem dX5_isUnderWay_5 : decode cX5_isUnderWay 5 = .ok (.iconst 0, 1) := by decide +kernel
theorem dX5_isUnderWay_6 : decode cX5_isUnderWay 6 = .ok (.invokestatic 22, 3) := by decide +kernel
theorem dX5_isUnderWay_9 : decode cX5_isUnderWay 9 = .ok (.invokevirtual 18, 3) := by decide +kernel
theorem dX5_isUnderWay_12 : decode cX5_isUnderWay 12 = .ok (.istore_n 2, 1) := by decide +kernel
theorem dX5_isUnderWay_13 : decode cX5_isUnderWay 13 = .ok (.iload_n 2, 1) := by decide +kernel
theorem dX5_isUnderWay_14 : decode cX5_isUnderWay 14 = .ok (.iconst 1, 1) := by decide +kernel
theorem dX5_isUnderWay_15 : decode cX5_isUnderWay 15 = .ok (.if_icmp .eq 8, 3) := by decide +kernel
theorem dX5_isUnderWay_18 : decode cX5_isUnderWay 18 = .ok (.iload_n 2, 1) := by decide +kernel
theorem dX5_isUnderWay_19 : decode cX5_isUnderWay 19 = .ok (.iconst 2, 1) := by decide +kernel
theorem dX5_isUnderWay_20 : decode cX5_isUnderWay 20 = .ok (.if_icmp .ne 7, 3) := by decide +kernel
theorem dX5_isUnderWay_23 : decode cX5_isUnderWay 23 = .ok (.iconst 1, 1) := by decide +kernel
theorem dX5_isUnderWay_24 : decode cX5_isUnderWay 24 = .ok (.goto 4, 3) := by decide +kernel
theorem dX5_isUnderWay_27 : decode cX5_isUnderWay 27 = .ok (.iconst 0, 1) := by decide +kernel
theorem dX5_isUnderWay_28 : decode cX5_isUnderWay 28 = .ok (.ireturn, 1) := by decide +kernel
set_option maxRecDepth 20000 in
theorem ggX5_nextFault_X6_ofTour : GoodIn wsX5_nextFault wsX6_ofTour := goodIn_r _ [4] (by decide +kernel) (by decide +kernel)
set_option maxRecDepth 20000 in
theorem gX5_nextFault_X6_ofTour_n22 : GoodIn wsX5_nextFault (wsX6_ofTour) := ggX5_nextFault_X6_ofTour
set_option maxRecDepth 20000 in
theorem ggX5_nextFault_X0_get : GoodIn wsX5_nextFault wsX0_get := goodIn_ca (goodIn_r _ [9, 10, 25] (by decide +kernel) (by decide +kernel)) (goodIn_sub (fun _ h => List.mem_cons_of_mem _ (List.mem_append_right _ h)) (by decide +kernel))
set_option maxRecDepth 20000 in
theorem gX5_nextFault_X0_get : GoodIn wsX5_nextFault (wsV RX5 18 RX0 yX0_get wsX0_get) := goodIn_app (goodIn_of _ (by decide +kernel)) ggX5_nextFault_X0_get
set_option maxRecDepth 20000 in
theorem ggX5_nextFault_X6_ofStep : GoodIn wsX5_nextFault wsX6_ofStep := goodIn_r _ [12] (by decide +kernel) (by decide +kernel)
set_option maxRecDepth 20000 in
theorem gX5_nextFault_X6_ofStep_n33 : GoodIn wsX5_nextFault (wsX6_ofStep) := ggX5_nextFault_X6_ofStep
set_option maxRecDepth 20000 in
theorem ggX5_nextFault_X6_ofTown : GoodIn wsX5_nextFault wsX6_ofTown := goodIn_r _ [14] (by decide +kernel) (by decide +kernel)
set_option maxRecDepth 20000 in
theorem gX5_nextFault_X6_ofTown_n44 : GoodIn wsX5_nextFault (wsX6_ofTown) := ggX5_nextFault_X6_ofTown
set_option maxRecDepth 20000 in
theorem ggX5_nextFault_X6_ofLeft : GoodIn wsX5_nextFault wsX6_ofLeft := goodIn_r _ [16] (by decide +kernel) (by decide +kernel)
set_option maxRecDepth 20000 in
theorem gX5_nextFault_X6_ofLeft_n83 : GoodIn wsX5_nextFault (wsX6_ofLeft) := ggX5_nextFault_X6_ofLeft
set_option maxRecDepth 20000 in
theorem ggX5_nextFault_X5_priceOf : GoodIn wsX5_nextFault wsX5_priceOf := goodIn_ca (goodIn_r _ [21, 1, 11, 3, 12, 5, 6, 7, 8, 9, 10, 22, 23, 13, 14, 24, 25] (by decide +kernel) (by decide +kernel)) (goodIn_sub (fun _ h => List.mem_cons_of_mem _ (List.mem_append_right _ h)) (by decide +kernel))
set_option maxRecDepth 20000 in
theorem gX5_nextFault_X5_priceOf : GoodIn wsX5_nextFault (wsV RX5 73 RX5 yX5_priceOf wsX5_priceOf) := goodIn_app (goodIn_of _ (by decide +kernel)) ggX5_nextFault_X5_priceOf
theorem dX5_nextFault_0 : decode cX5_nextFault 0 = .ok (.aload_n 0, 1) := by decide +kernel
theorem dX5_nextFault_1 : decode cX5_nextFault 1 = .ok (.getfield 12, 3) := by decide +kernel
theorem dX5_nextFault_4 : decode cX5_nextFault 4 = .ok (.iload_n 1, 1) := by decide +kernel
theorem dX5_nextFault_5 : decode cX5_nextFault 5 = .ok (.iconst 0, 1) := by decide +kernel
theorem dX5_nextFault_6 : decode cX5_nextFault 6 = .ok (.invokestatic 22, 3) := by decide +kernel
theorem dX5_nextFault_9 : decode cX5_nextFault 9 = .ok (.invokevirtual 18, 3) := by decide +kernel
theorem dX5_nextFault_12 : decode cX5_nextFault 12 = .ok (.iconst 1, 1) := by decide +kernel
theorem dX5_nextFault_13 : decode cX5_nextFault 13 = .ok (.if_icmp .ne 7, 3) := by decide +kernel
theorem dX5_nextFault_16 : decode cX5_nextFault 16 = .ok (.iconst 1, 1) := by decide +kernel
theorem dX5_nextFault_17 : decode cX5_nextFault 17 = .ok (.goto 4, 3) := by decide +kernel
theorem dX5_nextFault_20 : decode cX5_nextFault 20 = .ok (.iconst 0, 1) := by decide +kernel
theorem dX5_nextFault_21 : decode cX5_nextFault 21 = .ok (.istore_n 2, 1) := by decide +kernel
theorem dX5_nextFault_22 : decode cX5_nextFault 22 = .ok (.iload_n 2, 1) := by decide +kernel
theorem dX5_nextFault_23 : decode cX5_nextFault 23 = .ok (.ifCond .eq 18, 3) := by decide +kernel
theorem dX5_nextFault_26 : decode cX5_nextFault 26 = .ok (.aload_n 0, 1) := by decide +kernel
theorem dX5_nextFault_27 : decode cX5_nextFault 27 = .ok (.getfield 12, 3) := by decide +kernel
theorem dX5_nextFault_30 : decode cX5_nextFault 30 = .ok (.iload_n 1, 1) := by decide +kernel
theorem dX5_nextFault_31 : decode cX5_nextFault 31 = .ok (.iconst 3, 1) := by decide +kernel
theorem dX5_nextFault_32 : decode cX5_nextFault 32 = .ok (.invokestatic 22, 3) := by decide +kernel
theorem dX5_nextFault_35 : decode cX5_nextFault 35 = .ok (.invokevirtual 18, 3) := by decide +kernel
theorem dX5_nextFault_38 : decode cX5_nextFault 38 = .ok (.goto 17, 3) := by decide +kernel
theorem dX5_nextFault_41 : decode cX5_nextFault 41 = .ok (.aload_n 0, 1) := by decide +kernel
theorem dX5_nextFault_42 : decode cX5_nextFault 42 = .ok (.getfield 12, 3) := by decide +kernel
theorem dX5_nextFault_45 : decode cX5_nextFault 45 = .ok (.iload_n 1, 1) := by decide +kernel
theorem dX5_nextFault_46 : decode cX5_nextFault 46 = .ok (.iconst 3, 1) := by decide +kernel
theorem dX5_nextFault_47 : decode cX5_nextFault 47 = .ok (.invokestatic 22, 3) := by decide +kernel
theorem dX5_nextFault_50 : decode cX5_nextFault 50 = .ok (.invokevirtual 18, 3) := by decide +kernel
theorem dX5_nextFault_53 : decode cX5_nextFault 53 = .ok (.iconst 1, 1) := by decide +kernel
theorem dX5_nextFault_54 : decode cX5_nextFault 54 = .ok (.isub, 1) := by decide +kernel
theorem dX5_nextFault_55 : decode cX5_nextFault 55 = .ok (.istore_n 3, 1) := by decide +kernel
theorem dX5_nextFault_56 : decode cX5_nextFault 56 = .ok (.aload_n 0, 1) := by decide +kernel
theorem dX5_nextFault_57 : decode cX5_nextFault 57 = .ok (.getfield 12, 3) := by decide +kernel
theorem dX5_nextFault_60 : decode cX5_nextFault 60 = .ok (.iload_n 1, 1) := by decide +kernel
theorem dX5_nextFault_61 : decode cX5_nextFault 61 = .ok (.iload_n 3, 1) := by decide +kernel
theorem dX5_nextFault_62 : decode cX5_nextFault 62 = .ok (.iconst 0, 1) := by decide +kernel
theorem dX5_nextFault_63 : decode cX5_nextFault 63 = .ok (.invokestatic 33, 3) := by decide +kernel
theorem dX5_nextFault_66 : decode cX5_nextFault 66 = .ok (.invokevirtual 18, 3) := by decide +kernel
theorem dX5_nextFault_69 : decode cX5_nextFault 69 = .ok (.istore 4, 2) := by decide +kernel
theorem dX5_nextFault_71 : decode cX5_nextFault 71 = .ok (.aload_n 0, 1) := by decide +kernel
theorem dX5_nextFault_72 : decode cX5_nextFault 72 = .ok (.getfield 12, 3) := by decide +kernel
theorem dX5_nextFault_75 : decode cX5_nextFault 75 = .ok (.iload_n 1, 1) := by decide +kernel
theorem dX5_nextFault_76 : decode cX5_nextFault 76 = .ok (.iload_n 3, 1) := by decide +kernel
theorem dX5_nextFault_77 : decode cX5_nextFault 77 = .ok (.iconst 1, 1) := by decide +kernel
theorem dX5_nextFault_78 : decode cX5_nextFault 78 = .ok (.invokestatic 33, 3) := by decide +kernel
theorem dX5_nextFault_81 : decode cX5_nextFault 81 = .ok (.invokevirtual 18, 3) := by decide +kernel
theorem dX5_nextFault_84 : decode cX5_nextFault 84 = .ok (.istore 5, 2) := by decide +kernel
theorem dX5_nextFault_86 : decode cX5_nextFault 86 = .ok (.aload_n 0, 1) := by decide +kernel
theorem dX5_nextFault_87 : decode cX5_nextFault 87 = .ok (.getfield 12, 3) := by decide +kernel
theorem dX5_nextFault_90 : decode cX5_nextFault 90 = .ok (.iload_n 1, 1) := by decide +kernel
theorem dX5_nextFault_91 : decode cX5_nextFault 91 = .ok (.iload_n 3, 1) := by decide +kernel
theorem dX5_nextFault_92 : decode cX5_nextFault 92 = .ok (.iconst 2, 1) := by decide +kernel
theorem dX5_nextFault_93 : decode cX5_nextFault 93 = .ok (.invokestatic 33, 3) := by decide +kernel
theorem dX5_nextFault_96 : decode cX5_nextFault 96 = .ok (.invokevirtual 18, 3) := by decide +kernel
theorem dX5_nextFault_99 : decode cX5_nextFault 99 = .ok (.istore 6, 2) := by decide +kernel
theorem dX5_nextFault_101 : decode cX5_nextFault 101 = .ok (.aload_n 0, 1) := by decide +kernel
theorem dX5_nextFault_102 : decode cX5_nextFault 102 = .ok (.getfield 12, 3) := by decide +kernel
theorem dX5_nextFault_105 : decode cX5_nextFault 105 = .ok (.iload 5, 2) := by decide +kernel
theorem dX5_nextFault_107 : decode cX5_nextFault 107 = .ok (.iconst 0, 1) := by decide +kernel
theorem dX5_nextFault_108 : decode cX5_nextFault 108 = .ok (.invokestatic 44, 3) := by decide +kernel
theorem dX5_nextFault_111 : decode cX5_nextFault 111 = .ok (.invokevirtual 18, 3) := by decide +kernel
theorem dX5_nextFault_114 : decode cX5_nextFault 114 = .ok (.ifCond .ne 5, 3) := by decide +kernel
theorem dX5_nextFault_117 : decode cX5_nextFault 117 = .ok (.iconst 1, 1) := by decide +kernel
theorem dX5_nextFault_118 : decode cX5_nextFault 118 = .ok (.ireturn, 1) := by decide +kernel
theorem dX5_nextFault_119 : decode cX5_nextFault 119 = .ok (.iload_n 2, 1) := by decide +kernel
theorem dX5_nextFault_120 : decode cX5_nextFault 120 = .ok (.ifCond .eq 37, 3) := by decide +kernel
theorem dX5_nextFault_123 : decode cX5_nextFault 123 = .ok (.aload_n 0, 1) := by decide +kernel
theorem dX5_nextFault_124 : decode cX5_nextFault 124 = .ok (.getfield 12, 3) := by decide +kernel
theorem dX5_nextFault_127 : decode cX5_nextFault 127 = .ok (.iload 4, 2) := by decide +kernel
theorem dX5_nextFault_129 : decode cX5_nextFault 129 = .ok (.iload 5, 2) := by decide +kernel
theorem dX5_nextFault_131 : decode cX5_nextFault 131 = .ok (.iload 6, 2) := by decide +kernel
theorem dX5_nextFault_133 : decode cX5_nextFault 133 = .ok (.invokestatic 83, 3) := by decide +kernel
theorem dX5_nextFault_136 : decode cX5_nextFault 136 = .ok (.invokevirtual 18, 3) := by decide +kernel
theorem dX5_nextFault_139 : decode cX5_nextFault 139 = .ok (.aload_n 0, 1) := by decide +kernel
theorem dX5_nextFault_140 : decode cX5_nextFault 140 = .ok (.getfield 12, 3) := by decide +kernel
theorem dX5_nextFault_143 : decode cX5_nextFault 143 = .ok (.iload_n 1, 1) := by decide +kernel
theorem dX5_nextFault_144 : decode cX5_nextFault 144 = .ok (.iload_n 3, 1) := by decide +kernel
theorem dX5_nextFault_145 : decode cX5_nextFault 145 = .ok (.iconst 3, 1) := by decide +kernel
theorem dX5_nextFault_146 : decode cX5_nextFault 146 = .ok (.invokestatic 33, 3) := by decide +kernel
theorem dX5_nextFault_149 : decode cX5_nextFault 149 = .ok (.invokevirtual 18, 3) := by decide +kernel
theorem dX5_nextFault_152 : decode cX5_nextFault 152 = .ok (.if_icmp .ge 5, 3) := by decide +kernel
theorem dX5_nextFault_155 : decode cX5_nextFault 155 = .ok (.iconst 2, 1) := by decide +kernel
theorem dX5_nextFault_156 : decode cX5_nextFault 156 = .ok (.ireturn, 1) := by decide +kernel
theorem dX5_nextFault_157 : decode cX5_nextFault 157 = .ok (.iload_n 2, 1) := by decide +kernel
theorem dX5_nextFault_158 : decode cX5_nextFault 158 = .ok (.ifCond .eq 23, 3) := by decide +kernel
theorem dX5_nextFault_161 : decode cX5_nextFault 161 = .ok (.aload_n 0, 1) := by decide +kernel
theorem dX5_nextFault_162 : decode cX5_nextFault 162 = .ok (.getfield 12, 3) := by decide +kernel
theorem dX5_nextFault_165 : decode cX5_nextFault 165 = .ok (.bipush 7, 2) := by decide +kernel
theorem dX5_nextFault_167 : decode cX5_nextFault 167 = .ok (.invokevirtual 18, 3) := by decide +kernel
theorem dX5_nextFault_170 : decode cX5_nextFault 170 = .ok (.aload_n 0, 1) := by decide +kernel
theorem dX5_nextFault_171 : decode cX5_nextFault 171 = .ok (.iload_n 1, 1) := by decide +kernel
theorem dX5_nextFault_172 : decode cX5_nextFault 172 = .ok (.iload_n 3, 1) := by decide +kernel
theorem dX5_nextFault_173 : decode cX5_nextFault 173 = .ok (.invokevirtual 73, 3) := by decide +kernel
theorem dX5_nextFault_176 : decode cX5_nextFault 176 = .ok (.if_icmp .ge 5, 3) := by decide +kernel
theorem dX5_nextFault_179 : decode cX5_nextFault 179 = .ok (.iconst 3, 1) := by decide +kernel
theorem dX5_nextFault_180 : decode cX5_nextFault 180 = .ok (.ireturn, 1) := by decide +kernel
theorem dX5_nextFault_181 : decode cX5_nextFault 181 = .ok (.iconst 0, 1) := by decide +kernel
theorem dX5_nextFault_182 : decode cX5_nextFault 182 = .ok (.ireturn, 1) := by decide +kernel
set_option maxRecDepth 20000 in
theorem ggX5_priceOf_X6_ofStep : GoodIn wsX5_priceOf wsX6_ofStep := goodIn_r _ [4] (by decide +kernel) (by decide +kernel)
set_option maxRecDepth 20000 in
theorem gX5_priceOf_X6_ofStep_n33 : GoodIn wsX5_priceOf (wsX6_ofStep) := ggX5_priceOf_X6_ofStep
set_option maxRecDepth 20000 in
theorem ggX5_priceOf_X0_get : GoodIn wsX5_priceOf wsX0_get := goodIn_ca (goodIn_r _ [9, 10, 16] (by decide +kernel) (by decide +kernel)) (goodIn_sub (fun _ h => List.mem_cons_of_mem _ (List.mem_append_right _ h)) (by decide +kernel))
set_option maxRecDepth 20000 in
theorem gX5_priceOf_X0_get : GoodIn wsX5_priceOf (wsV RX5 18 RX0 yX0_get wsX0_get) := goodIn_app (goodIn_of _ (by decide +kernel)) ggX5_priceOf_X0_get
set_option maxRecDepth 20000 in
theorem ggX5_priceOf_X6_coinsOf : GoodIn wsX5_priceOf wsX6_coinsOf := goodIn_r _ [12] (by decide +kernel) (by decide +kernel)
set_option maxRecDepth 20000 in
theorem gX5_priceOf_X6_coinsOf_n91 : GoodIn wsX5_priceOf (wsX6_coinsOf) := ggX5_priceOf_X6_coinsOf
set_option maxRecDepth 20000 in
theorem ggX5_priceOf_X6_ofTown : GoodIn wsX5_priceOf wsX6_ofTown := goodIn_r _ [14] (by decide +kernel) (by decide +kernel)
set_option maxRecDepth 20000 in
theorem gX5_priceOf_X6_ofTown_n44 : GoodIn wsX5_priceOf (wsX6_ofTown) := ggX5_priceOf_X6_ofTown
theorem dX5_priceOf_0 : decode cX5_priceOf 0 = .ok (.aload_n 0, 1) := by decide +kernel
theorem dX5_priceOf_1 : decode cX5_priceOf 1 = .ok (.getfield 12, 3) := by decide +kernel
theorem dX5_priceOf_4 : decode cX5_priceOf 4 = .ok (.iload_n 1, 1) := by decide +kernel
theorem dX5_priceOf_5 : decode cX5_priceOf 5 = .ok (.iload_n 2, 1) := by decide +kernel
theorem dX5_priceOf_6 : decode cX5_priceOf 6 = .ok (.iconst 0, 1) := by decide +kernel
theorem dX5_priceOf_7 : decode cX5_priceOf 7 = .ok (.invokestatic 33, 3) := by decide +kernel
theorem dX5_priceOf_10 : decode cX5_priceOf 10 = .ok (.invokevirtual 18, 3) := by decide +kernel
theorem dX5_priceOf_13 : decode cX5_priceOf 13 = .ok (.istore_n 3, 1) := by decide +kernel
theorem dX5_priceOf_14 : decode cX5_priceOf 14 = .ok (.aload_n 0, 1) := by decide +kernel
theorem dX5_priceOf_15 : decode cX5_priceOf 15 = .ok (.getfield 12, 3) := by decide +kernel
theorem dX5_priceOf_18 : decode cX5_priceOf 18 = .ok (.iload_n 1, 1) := by decide +kernel
theorem dX5_priceOf_19 : decode cX5_priceOf 19 = .ok (.iload_n 2, 1) := by decide +kernel
theorem dX5_priceOf_20 : decode cX5_priceOf 20 = .ok (.iconst 1, 1) := by decide +kernel
theorem dX5_priceOf_21 : decode cX5_priceOf 21 = .ok (.invokestatic 33, 3) := by decide +kernel
theorem dX5_priceOf_24 : decode cX5_priceOf 24 = .ok (.invokevirtual 18, 3) := by decide +kernel
theorem dX5_priceOf_27 : decode cX5_priceOf 27 = .ok (.istore 4, 2) := by decide +kernel
theorem dX5_priceOf_29 : decode cX5_priceOf 29 = .ok (.iload_n 3, 1) := by decide +kernel
theorem dX5_priceOf_30 : decode cX5_priceOf 30 = .ok (.invokestatic 91, 3) := by decide +kernel
theorem dX5_priceOf_33 : decode cX5_priceOf 33 = .ok (.aload_n 0, 1) := by decide +kernel
theorem dX5_priceOf_34 : decode cX5_priceOf 34 = .ok (.getfield 12, 3) := by decide +kernel
theorem dX5_priceOf_37 : decode cX5_priceOf 37 = .ok (.iload_n 1, 1) := by decide +kernel
theorem dX5_priceOf_38 : decode cX5_priceOf 38 = .ok (.iload_n 2, 1) := by decide +kernel
theorem dX5_priceOf_39 : decode cX5_priceOf 39 = .ok (.iconst 3, 1) := by decide +kernel
theorem dX5_priceOf_40 : decode cX5_priceOf 40 = .ok (.invokestatic 33, 3) := by decide +kernel
theorem dX5_priceOf_43 : decode cX5_priceOf 43 = .ok (.invokevirtual 18, 3) := by decide +kernel
theorem dX5_priceOf_46 : decode cX5_priceOf 46 = .ok (.imul, 1) := by decide +kernel
theorem dX5_priceOf_47 : decode cX5_priceOf 47 = .ok (.aload_n 0, 1) := by decide +kernel
theorem dX5_priceOf_48 : decode cX5_priceOf 48 = .ok (.getfield 12, 3) := by decide +kernel
theorem dX5_priceOf_51 : decode cX5_priceOf 51 = .ok (.iload 4, 2) := by decide +kernel
theorem dX5_priceOf_53 : decode cX5_priceOf 53 = .ok (.iconst 1, 1) := by decide +kernel
theorem dX5_priceOf_54 : decode cX5_priceOf 54 = .ok (.invokestatic 44, 3) := by decide +kernel
theorem dX5_priceOf_57 : decode cX5_priceOf 57 = .ok (.invokevirtual 18, 3) := by decide +kernel
theorem dX5_priceOf_60 : decode cX5_priceOf 60 = .ok (.imul, 1) := by decide +kernel
theorem dX5_priceOf_61 : decode cX5_priceOf 61 = .ok (.ireturn, 1) := by decide +kernel
set_option maxRecDepth 20000 in
theorem ggX5_hoursToTheEnd_X5_isUnderWay : GoodIn wsX5_hoursToTheEnd wsX5_isUnderWay := goodIn_ca (goodIn_r _ [5, 6, 7, 8, 9, 10, 11, 12, 13, 14, 15, 80, 81] (by decide +kernel) (by decide +kernel)) (goodIn_sub (fun _ h => List.mem_cons_of_mem _ (List.mem_append_right _ h)) (by decide +kernel))
set_option maxRecDepth 20000 in
theorem gX5_hoursToTheEnd_X5_isUnderWay : GoodIn wsX5_hoursToTheEnd (wsV RX5 51 RX5 yX5_isUnderWay wsX5_isUnderWay) := goodIn_app (goodIn_of _ (by decide +kernel)) ggX5_hoursToTheEnd_X5_isUnderWay
set_option maxRecDepth 20000 in
theorem ggX5_hoursToTheEnd_X5_passHours : GoodIn wsX5_hoursToTheEnd wsX5_passHours := goodIn_ca (goodIn_r _ [19, 6, 1, 2, 3, 4, 5, 7, 8, 9, 10, 11, 12, 13, 14, 15, 20, 21, 22, 23, 24, 25, 26, 27, 28, 29, 30, 31, 32, 33, 34, 35, 36, 37, 38, 39, 40, 41, 42, 43, 44, 45, 46, 47, 48, 49, 50, 51, 52, 53, 54, 55, 56, 57, 58, 59, 60, 61, 62, 63, 64, 65, 66, 67, 68, 69, 70, 71, 72, 73, 74, 75, 76, 77, 78, 79, 80, 81] (by decide +kernel) (by decide +kernel)) (goodIn_sub (fun _ h => List.mem_cons_of_mem _ (List.mem_append_right _ h)) (by decide +kernel))
set_option maxRecDepth 20000 in
theorem gX5_hoursToTheEnd_X5_passHours : GoodIn wsX5_hoursToTheEnd (wsV RX5 94 RX5 yX5_passHours wsX5_passHours) := goodIn_app (goodIn_of _ (by decide +kernel)) ggX5_hoursToTheEnd_X5_passHours
theorem dX5_hoursToTheEnd_0 : decode cX5_hoursToTheEnd 0 = .ok (.iconst 0, 1) := by decide +kernel
theorem dX5_hoursToTheEnd_1 : decode cX5_hoursToTheEnd 1 = .ok (.istore_n 2, 1) := by decide +kernel
theorem dX5_hoursToTheEnd_2 : decode cX5_hoursToTheEnd 2 = .ok (.iload_n 2, 1) := by decide +kernel
theorem dX5_hoursToTheEnd_3 : decode cX5_hoursToTheEnd 3 = .ok (.bipush 60, 2) := by decide +kernel
theorem dX5_hoursToTheEnd_5 : decode cX5_hoursToTheEnd 5 = .ok (.if_icmp .gt 25, 3) := by decide +kernel
theorem dX5_hoursToTheEnd_8 : decode cX5_hoursToTheEnd 8 = .ok (.aload_n 0, 1) := by decide +kernel
theorem dX5_hoursToTheEnd_9 : decode cX5_hoursToTheEnd 9 = .ok (.iload_n 1, 1) := by decide +kernel
theorem dX5_hoursToTheEnd_10 : decode cX5_hoursToTheEnd 10 = .ok (.invokevirtual 51, 3) := by decide +kernel
theorem dX5_hoursToTheEnd_13 : decode cX5_hoursToTheEnd 13 = .ok (.ifCond .ne 5, 3) := by decide +kernel
theorem dX5_hoursToTheEnd_16 : decode cX5_hoursToTheEnd 16 = .ok (.iload_n 2, 1) := by decide +kernel
theorem dX5_hoursToTheEnd_17 : decode cX5_hoursToTheEnd 17 = .ok (.ireturn, 1) := by decide +kernel
theorem dX5_hoursToTheEnd_18 : decode cX5_hoursToTheEnd 18 = .ok (.aload_n 0, 1) := by decide +kernel
theorem dX5_hoursToTheEnd_19 : decode cX5_hoursToTheEnd 19 = .ok (.iconst 1, 1) := by decide +kernel
theorem dX5_hoursToTheEnd_20 : decode cX5_hoursToTheEnd 20 = .ok (.invokevirtual 94, 3) := by decide +kernel
theorem dX5_hoursToTheEnd_23 : decode cX5_hoursToTheEnd 23 = .ok (.pop, 1) := by decide +kernel
theorem dX5_hoursToTheEnd_24 : decode cX5_hoursToTheEnd 24 = .ok (.iinc 2 1, 3) := by decide +kernel
theorem dX5_hoursToTheEnd_27 : decode cX5_hoursToTheEnd 27 = .ok (.goto (-25), 3) := by decide +kernel
theorem dX5_hoursToTheEnd_30 : decode cX5_hoursToTheEnd 30 = .ok (.iconst (-1), 1) := by decide +kernel
theorem dX5_hoursToTheEnd_31 : decode cX5_hoursToTheEnd 31 = .ok (.ireturn, 1) := by decide +kernel
set_option maxRecDepth 20000 in
theorem ggX5_costsOfTheRest_X6_ofTour : GoodIn wsX5_costsOfTheRest wsX6_ofTour := goodIn_r _ [4] (by decide +kernel) (by decide +kernel)
set_option maxRecDepth 20000 in
theorem gX5_costsOfTheRest_X6_ofTour_n22 : GoodIn wsX5_costsOfTheRest (wsX6_ofTour) := ggX5_costsOfTheRest_X6_ofTour
set_option maxRecDepth 20000 in
theorem ggX5_costsOfTheRest_X0_get : GoodIn wsX5_costsOfTheRest wsX0_get := goodIn_ca (goodIn_r _ [9, 10, 23] (by decide +kernel) (by decide +kernel)) (goodIn_sub (fun _ h => List.mem_cons_of_mem _ (List.mem_append_right _ h)) (by decide +kernel))
set_option maxRecDepth 20000 in
theorem gX5_costsOfTheRest_X0_get : GoodIn wsX5_costsOfTheRest (wsV RX5 18 RX0 yX0_get wsX0_get) := goodIn_app (goodIn_of _ (by decide +kernel)) ggX5_costsOfTheRest_X0_get
set_option maxRecDepth 20000 in
theorem ggX5_costsOfTheRest_X5_priceOf : GoodIn wsX5_costsOfTheRest wsX5_priceOf := goodIn_ca (goodIn_r _ [15, 1, 16, 3, 17, 5, 6, 7, 8, 9, 10, 18, 19, 20, 21, 22, 23] (by decide +kernel) (by decide +kernel)) (goodIn_sub (fun _ h => List.mem_cons_of_mem _ (List.mem_append_right _ h)) (by decide +kernel))
set_option maxRecDepth 20000 in
theorem gX5_costsOfTheRest_X5_priceOf : GoodIn wsX5_costsOfTheRest (wsV RX5 73 RX5 yX5_priceOf wsX5_priceOf) := goodIn_app (goodIn_of _ (by decide +kernel)) ggX5_costsOfTheRest_X5_priceOf
theorem dX5_costsOfTheRest_0 : decode cX5_costsOfTheRest 0 = .ok (.iconst 0, 1) := by decide +kernel
theorem dX5_costsOfTheRest_1 : decode cX5_costsOfTheRest 1 = .ok (.istore_n 2, 1) := by decide +kernel
theorem dX5_costsOfTheRest_2 : decode cX5_costsOfTheRest 2 = .ok (.aload_n 0, 1) := by decide +kernel
theorem dX5_costsOfTheRest_3 : decode cX5_costsOfTheRest 3 = .ok (.getfield 12, 3) := by decide +kernel
theorem dX5_costsOfTheRest_6 : decode cX5_costsOfTheRest 6 = .ok (.iload_n 1, 1) := by decide +kernel
theorem dX5_costsOfTheRest_7 : decode cX5_costsOfTheRest 7 = .ok (.iconst 3, 1) := by decide +kernel
theorem dX5_costsOfTheRest_8 : decode cX5_costsOfTheRest 8 = .ok (.invokestatic 22, 3) := by decide +kernel
theorem dX5_costsOfTheRest_11 : decode cX5_costsOfTheRest 11 = .ok (.invokevirtual 18, 3) := by decide +kernel
theorem dX5_costsOfTheRest_14 : decode cX5_costsOfTheRest 14 = .ok (.istore_n 3, 1) := by decide +kernel
theorem dX5_costsOfTheRest_15 : decode cX5_costsOfTheRest 15 = .ok (.iload_n 3, 1) := by decide +kernel
theorem dX5_costsOfTheRest_16 : decode cX5_costsOfTheRest 16 = .ok (.aload_n 0, 1) := by decide +kernel
theorem dX5_costsOfTheRest_17 : decode cX5_costsOfTheRest 17 = .ok (.getfield 12, 3) := by decide +kernel
theorem dX5_costsOfTheRest_20 : decode cX5_costsOfTheRest 20 = .ok (.iload_n 1, 1) := by decide +kernel
theorem dX5_costsOfTheRest_21 : decode cX5_costsOfTheRest 21 = .ok (.iconst 2, 1) := by decide +kernel
theorem dX5_costsOfTheRest_22 : decode cX5_costsOfTheRest 22 = .ok (.invokestatic 22, 3) := by decide +kernel
theorem dX5_costsOfTheRest_25 : decode cX5_costsOfTheRest 25 = .ok (.invokevirtual 18, 3) := by decide +kernel
theorem dX5_costsOfTheRest_28 : decode cX5_costsOfTheRest 28 = .ok (.if_icmp .ge 18, 3) := by decide +kernel
theorem dX5_costsOfTheRest_31 : decode cX5_costsOfTheRest 31 = .ok (.iload_n 2, 1) := by decide +kernel
theorem dX5_costsOfTheRest_32 : decode cX5_costsOfTheRest 32 = .ok (.aload_n 0, 1) := by decide +kernel
theorem dX5_costsOfTheRest_33 : decode cX5_costsOfTheRest 33 = .ok (.iload_n 1, 1) := by decide +kernel
theorem dX5_costsOfTheRest_34 : decode cX5_costsOfTheRest 34 = .ok (.iload_n 3, 1) := by decide +kernel
theorem dX5_costsOfTheRest_35 : decode cX5_costsOfTheRest 35 = .ok (.invokevirtual 73, 3) := by decide +kernel
theorem dX5_costsOfTheRest_38 : decode cX5_costsOfTheRest 38 = .ok (.iadd, 1) := by decide +kernel
theorem dX5_costsOfTheRest_39 : decode cX5_costsOfTheRest 39 = .ok (.istore_n 2, 1) := by decide +kernel
theorem dX5_costsOfTheRest_40 : decode cX5_costsOfTheRest 40 = .ok (.iinc 3 1, 3) := by decide +kernel
theorem dX5_costsOfTheRest_43 : decode cX5_costsOfTheRest 43 = .ok (.goto (-28), 3) := by decide +kernel
theorem dX5_costsOfTheRest_46 : decode cX5_costsOfTheRest 46 = .ok (.iload_n 2, 1) := by decide +kernel
theorem dX5_costsOfTheRest_47 : decode cX5_costsOfTheRest 47 = .ok (.ireturn, 1) := by decide +kernel
set_option maxRecDepth 20000 in
theorem ggX5_leftByStepsOf_X6_mostOf : GoodIn wsX5_leftByStepsOf wsX6_mostOf := goodIn_r _ [4] (by decide +kernel) (by decide +kernel)
set_option maxRecDepth 20000 in
theorem gX5_leftByStepsOf_X6_mostOf_n97 : GoodIn wsX5_leftByStepsOf (wsX6_mostOf) := ggX5_leftByStepsOf_X6_mostOf
set_option maxRecDepth 20000 in
theorem ggX5_leftByStepsOf_X6_findStep : GoodIn wsX5_leftByStepsOf wsX6_findStep := goodIn_ca (goodIn_r _ [6, 7, 8, 3, 9, 10, 11, 12, 13, 14, 15, 16, 17, 18, 21] (by decide +kernel) (by decide +kernel)) (goodIn_sub (fun _ h => List.mem_cons_of_mem _ (List.mem_append_right _ h)) (by decide +kernel))
set_option maxRecDepth 20000 in
theorem gX5_leftByStepsOf_X6_findStep_n100 : GoodIn wsX5_leftByStepsOf (wsX6_findStep) := ggX5_leftByStepsOf_X6_findStep
set_option maxRecDepth 20000 in
theorem ggX5_leftByStepsOf_X6_ofTour : GoodIn wsX5_leftByStepsOf wsX6_ofTour := goodIn_r _ [9] (by decide +kernel) (by decide +kernel)
set_option maxRecDepth 20000 in
theorem gX5_leftByStepsOf_X6_ofTour_n22 : GoodIn wsX5_leftByStepsOf (wsX6_ofTour) := ggX5_leftByStepsOf_X6_ofTour
set_option maxRecDepth 20000 in
theorem ggX5_leftByStepsOf_X0_get : GoodIn wsX5_leftByStepsOf wsX0_get := goodIn_ca (goodIn_r _ [14, 15, 21] (by decide +kernel) (by decide +kernel)) (goodIn_sub (fun _ h => List.mem_cons_of_mem _ (List.mem_append_right _ h)) (by decide +kernel))
set_option maxRecDepth 20000 in
theorem gX5_leftByStepsOf_X0_get : GoodIn wsX5_leftByStepsOf (wsV RX5 18 RX0 yX0_get wsX0_get) := goodIn_app (goodIn_of _ (by decide +kernel)) ggX5_leftByStepsOf_X0_get
set_option maxRecDepth 20000 in
theorem ggX5_leftByStepsOf_X6_ofStep : GoodIn wsX5_leftByStepsOf wsX6_ofStep := goodIn_r _ [18] (by decide +kernel) (by decide +kernel)
set_option maxRecDepth 20000 in
theorem gX5_leftByStepsOf_X6_ofStep_n33 : GoodIn wsX5_leftByStepsOf (wsX6_ofStep) := ggX5_leftByStepsOf_X6_ofStep
theorem dX5_leftByStepsOf_0 : decode cX5_leftByStepsOf 0 = .ok (.iload_n 1, 1) := by decide +kernel
theorem dX5_leftByStepsOf_1 : decode cX5_leftByStepsOf 1 = .ok (.invokestatic 97, 3) := by decide +kernel
theorem dX5_leftByStepsOf_4 : decode cX5_leftByStepsOf 4 = .ok (.istore 4, 2) := by decide +kernel
theorem dX5_leftByStepsOf_6 : decode cX5_leftByStepsOf 6 = .ok (.iconst 0, 1) := by decide +kernel
theorem dX5_leftByStepsOf_7 : decode cX5_leftByStepsOf 7 = .ok (.istore 5, 2) := by decide +kernel
theorem dX5_leftByStepsOf_9 : decode cX5_leftByStepsOf 9 = .ok (.iload 5, 2) := by decide +kernel
