theorem inJ6 : ∀ w ∈ wsJ60, w ∈ lw_tbl := by decide +kernel
theorem inJ9 : ∀ w ∈ wsJ90, w ∈ lw_tbl := by decide +kernel
theorem inJ0 : ∀ w ∈ wsJ00, w ∈ lw_tbl := by decide +kernel
theorem inJ1 : ∀ w ∈ wsJ10, w ∈ lw_tbl := by decide +kernel
theorem inJ2 : ∀ w ∈ wsJ20, w ∈ lw_tbl := by decide +kernel
theorem inJ3 : ∀ w ∈ wsJ30, w ∈ lw_tbl := by decide +kernel
theorem dX0_init_0 : decode cX0_init 0 = .ok (.aload_n 0, 1) := by decide +kernel
theorem dX0_init_1 : decode cX0_init 1 = .ok (.invokespecial 3, 3) := by decide +kernel
theorem dX0_init_4 : decode cX0_init 4 = .ok (.aload_n 0, 1) := by decide +kernel
theorem dX0_init_5 : decode cX0_init 5 = .ok (.bipush 6, 2) := by decide +kernel
theorem dX0_init_7 : decode cX0_init 7 = .ok (.newarray .int, 2) := by decide +kernel
theorem dX0_init_9 : decode cX0_init 9 = .ok (.putfield 9, 3) := by decide +kernel
theorem dX0_init_12 : decode cX0_init 12 = .ok (.aload_n 0, 1) := by decide +kernel
theorem dX0_init_13 : decode cX0_init 13 = .ok (.bipush 6, 2) := by decide +kernel
theorem dX0_init_15 : decode cX0_init 15 = .ok (.newarray .int, 2) := by decide +kernel
theorem dX0_init_17 : decode cX0_init 17 = .ok (.putfield 15, 3) := by decide +kernel
theorem dX0_init_20 : decode cX0_init 20 = .ok (.aload_n 0, 1) := by decide +kernel
theorem dX0_init_21 : decode cX0_init 21 = .ok (.bipush 6, 2) := by decide +kernel
theorem dX0_init_23 : decode cX0_init 23 = .ok (.newarray .int, 2) := by decide +kernel
theorem dX0_init_25 : decode cX0_init 25 = .ok (.putfield 18, 3) := by decide +kernel
theorem dX0_init_28 : decode cX0_init 28 = .ok (.return_, 1) := by decide +kernel
theorem dX0_begin_0 : decode cX0_begin 0 = .ok (.aload_n 0, 1) := by decide +kernel
theorem dX0_begin_1 : decode cX0_begin 1 = .ok (.iconst 0, 1) := by decide +kernel
theorem dX0_begin_2 : decode cX0_begin 2 = .ok (.putfield 21, 3) := by decide +kernel
theorem dX0_begin_5 : decode cX0_begin 5 = .ok (.aload_n 0, 1) := by decide +kernel
theorem dX0_begin_6 : decode cX0_begin 6 = .ok (.iload_n 1, 1) := by decide +kernel
theorem dX0_begin_7 : decode cX0_begin 7 = .ok (.putfield 25, 3) := by decide +kernel
theorem dX0_begin_10 : decode cX0_begin 10 = .ok (.aload_n 0, 1) := by decide +kernel
theorem dX0_begin_11 : decode cX0_begin 11 = .ok (.iload_n 2, 1) := by decide +kernel
theorem dX0_begin_12 : decode cX0_begin 12 = .ok (.putfield 28, 3) := by decide +kernel
theorem dX0_begin_15 : decode cX0_begin 15 = .ok (.iconst 0, 1) := by decide +kernel
theorem dX0_begin_16 : decode cX0_begin 16 = .ok (.istore_n 3, 1) := by decide +kernel
theorem dX0_begin_17 : decode cX0_begin 17 = .ok (.iload_n 3, 1) := by decide +kernel
theorem dX0_begin_18 : decode cX0_begin 18 = .ok (.bipush 6, 2) := by decide +kernel
theorem dX0_begin_20 : decode cX0_begin 20 = .ok (.if_icmp .ge 30, 3) := by decide +kernel
theorem dX0_begin_23 : decode cX0_begin 23 = .ok (.aload_n 0, 1) := by decide +kernel
theorem dX0_begin_24 : decode cX0_begin 24 = .ok (.getfield 9, 3) := by decide +kernel
theorem dX0_begin_27 : decode cX0_begin 27 = .ok (.iload_n 3, 1) := by decide +kernel
theorem dX0_begin_28 : decode cX0_begin 28 = .ok (.iconst 0, 1) := by decide +kernel
theorem dX0_begin_29 : decode cX0_begin 29 = .ok (.iastore, 1) := by decide +kernel
theorem dX0_begin_30 : decode cX0_begin 30 = .ok (.aload_n 0, 1) := by decide +kernel
theorem dX0_begin_31 : decode cX0_begin 31 = .ok (.getfield 15, 3) := by decide +kernel
theorem dX0_begin_34 : decode cX0_begin 34 = .ok (.iload_n 3, 1) := by decide +kernel
theorem dX0_begin_35 : decode cX0_begin 35 = .ok (.iconst 0, 1) := by decide +kernel
theorem dX0_begin_36 : decode cX0_begin 36 = .ok (.iastore, 1) := by decide +kernel
theorem dX0_begin_37 : decode cX0_begin 37 = .ok (.aload_n 0, 1) := by decide +kernel
theorem dX0_begin_38 : decode cX0_begin 38 = .ok (.getfield 18, 3) := by decide +kernel
theorem dX0_begin_41 : decode cX0_begin 41 = .ok (.iload_n 3, 1) := by decide +kernel
theorem dX0_begin_42 : decode cX0_begin 42 = .ok (.iconst 0, 1) := by decide +kernel
theorem dX0_begin_43 : decode cX0_begin 43 = .ok (.iastore, 1) := by decide +kernel
theorem dX0_begin_44 : decode cX0_begin 44 = .ok (.iinc 3 1, 3) := by decide +kernel
theorem dX0_begin_47 : decode cX0_begin 47 = .ok (.goto (-30), 3) := by decide +kernel
theorem dX0_begin_50 : decode cX0_begin 50 = .ok (.return_, 1) := by decide +kernel
set_option maxRecDepth 20000 in
theorem ggX0_become_X4_copyRow : GoodIn wsX0_become wsX4_copyRow := goodIn_r _ [9] (by decide +kernel) (by decide +kernel)
set_option maxRecDepth 20000 in
theorem gX0_become_X4_copyRow_n31 : GoodIn wsX0_become (wsX4_copyRow) := ggX0_become_X4_copyRow
theorem dX0_become_0 : decode cX0_become 0 = .ok (.aload_n 0, 1) := by decide +kernel
theorem dX0_become_1 : decode cX0_become 1 = .ok (.aload_n 1, 1) := by decide +kernel
theorem dX0_become_2 : decode cX0_become 2 = .ok (.getfield 21, 3) := by decide +kernel
theorem dX0_become_5 : decode cX0_become 5 = .ok (.putfield 21, 3) := by decide +kernel
theorem dX0_become_8 : decode cX0_become 8 = .ok (.aload_n 0, 1) := by decide +kernel
theorem dX0_become_9 : decode cX0_become 9 = .ok (.aload_n 1, 1) := by decide +kernel
theorem dX0_become_10 : decode cX0_become 10 = .ok (.getfield 25, 3) := by decide +kernel
theorem dX0_become_13 : decode cX0_become 13 = .ok (.putfield 25, 3) := by decide +kernel
theorem dX0_become_16 : decode cX0_become 16 = .ok (.aload_n 0, 1) := by decide +kernel
theorem dX0_become_17 : decode cX0_become 17 = .ok (.aload_n 1, 1) := by decide +kernel
theorem dX0_become_18 : decode cX0_become 18 = .ok (.getfield 28, 3) := by decide +kernel
theorem dX0_become_21 : decode cX0_become 21 = .ok (.putfield 28, 3) := by decide +kernel
theorem dX0_become_24 : decode cX0_become 24 = .ok (.aload_n 1, 1) := by decide +kernel
theorem dX0_become_25 : decode cX0_become 25 = .ok (.getfield 9, 3) := by decide +kernel
theorem dX0_become_28 : decode cX0_become 28 = .ok (.aload_n 0, 1) := by decide +kernel
theorem dX0_become_29 : decode cX0_become 29 = .ok (.getfield 9, 3) := by decide +kernel
theorem dX0_become_32 : decode cX0_become 32 = .ok (.invokestatic 31, 3) := by decide +kernel
theorem dX0_become_35 : decode cX0_become 35 = .ok (.aload_n 1, 1) := by decide +kernel
theorem dX0_become_36 : decode cX0_become 36 = .ok (.getfield 15, 3) := by decide +kernel
theorem dX0_become_39 : decode cX0_become 39 = .ok (.aload_n 0, 1) := by decide +kernel
theorem dX0_become_40 : decode cX0_become 40 = .ok (.getfield 15, 3) := by decide +kernel
theorem dX0_become_43 : decode cX0_become 43 = .ok (.invokestatic 31, 3) := by decide +kernel
theorem dX0_become_46 : decode cX0_become 46 = .ok (.aload_n 1, 1) := by decide +kernel
theorem dX0_become_47 : decode cX0_become 47 = .ok (.getfield 18, 3) := by decide +kernel
theorem dX0_become_50 : decode cX0_become 50 = .ok (.aload_n 0, 1) := by decide +kernel
theorem dX0_become_51 : decode cX0_become 51 = .ok (.getfield 18, 3) := by decide +kernel
theorem dX0_become_54 : decode cX0_become 54 = .ok (.invokestatic 31, 3) := by decide +kernel
theorem dX0_become_57 : decode cX0_become 57 = .ok (.return_, 1) := by decide +kernel
theorem dX0_doneBy_0 : decode cX0_doneBy 0 = .ok (.iload_n 1, 1) := by decide +kernel
theorem dX0_doneBy_1 : decode cX0_doneBy 1 = .ok (.ifCond .lt 21, 3) := by decide +kernel
theorem dX0_doneBy_4 : decode cX0_doneBy 4 = .ok (.iload_n 1, 1) := by decide +kernel
theorem dX0_doneBy_5 : decode cX0_doneBy 5 = .ok (.aload_n 0, 1) := by decide +kernel
theorem dX0_doneBy_6 : decode cX0_doneBy 6 = .ok (.getfield 9, 3) := by decide +kernel
theorem dX0_doneBy_9 : decode cX0_doneBy 9 = .ok (.arraylength, 1) := by decide +kernel
theorem dX0_doneBy_10 : decode cX0_doneBy 10 = .ok (.if_icmp .ge 12, 3) := by decide +kernel
theorem dX0_doneBy_13 : decode cX0_doneBy 13 = .ok (.aload_n 0, 1) := by decide +kernel
theorem dX0_doneBy_14 : decode cX0_doneBy 14 = .ok (.getfield 9, 3) := by decide +kernel
theorem dX0_doneBy_17 : decode cX0_doneBy 17 = .ok (.iload_n 1, 1) := by decide +kernel
theorem dX0_doneBy_18 : decode cX0_doneBy 18 = .ok (.iaload, 1) := by decide +kernel
theorem dX0_doneBy_19 : decode cX0_doneBy 19 = .ok (.goto 4, 3) := by decide +kernel
theorem dX0_doneBy_22 : decode cX0_doneBy 22 = .ok (.iconst 0, 1) := by decide +kernel
theorem dX0_doneBy_23 : decode cX0_doneBy 23 = .ok (.ireturn, 1) := by decide +kernel
theorem dX0_leftFor_0 : decode cX0_leftFor 0 = .ok (.iload_n 1, 1) := by decide +kernel
theorem dX0_leftFor_1 : decode cX0_leftFor 1 = .ok (.ifCond .lt 21, 3) := by decide +kernel
theorem dX0_leftFor_4 : decode cX0_leftFor 4 = .ok (.iload_n 1, 1) := by decide +kernel
theorem dX0_leftFor_5 : decode cX0_leftFor 5 = .ok (.aload_n 0, 1) := by decide +kernel
theorem dX0_leftFor_6 : decode cX0_leftFor 6 = .ok (.getfield 15, 3) := by decide +kernel
theorem dX0_leftFor_9 : decode cX0_leftFor 9 = .ok (.arraylength, 1) := by decide +kernel
theorem dX0_leftFor_10 : decode cX0_leftFor 10 = .ok (.if_icmp .ge 12, 3) := by decide +kernel
theorem dX0_leftFor_13 : decode cX0_leftFor 13 = .ok (.aload_n 0, 1) := by decide +kernel
theorem dX0_leftFor_14 : decode cX0_leftFor 14 = .ok (.getfield 15, 3) := by decide +kernel
theorem dX0_leftFor_17 : decode cX0_leftFor 17 = .ok (.iload_n 1, 1) := by decide +kernel
theorem dX0_leftFor_18 : decode cX0_leftFor 18 = .ok (.iaload, 1) := by decide +kernel
theorem dX0_leftFor_19 : decode cX0_leftFor 19 = .ok (.goto 4, 3) := by decide +kernel
theorem dX0_leftFor_22 : decode cX0_leftFor 22 = .ok (.iconst 0, 1) := by decide +kernel
theorem dX0_leftFor_23 : decode cX0_leftFor 23 = .ok (.ireturn, 1) := by decide +kernel
theorem dX0_takenBy_0 : decode cX0_takenBy 0 = .ok (.iload_n 1, 1) := by decide +kernel
theorem dX0_takenBy_1 : decode cX0_takenBy 1 = .ok (.ifCond .lt 21, 3) := by decide +kernel
theorem dX0_takenBy_4 : decode cX0_takenBy 4 = .ok (.iload_n 1, 1) := by decide +kernel
theorem dX0_takenBy_5 : decode cX0_takenBy 5 = .ok (.aload_n 0, 1) := by decide +kernel
theorem dX0_takenBy_6 : decode cX0_takenBy 6 = .ok (.getfield 18, 3) := by decide +kernel
theorem dX0_takenBy_9 : decode cX0_takenBy 9 = .ok (.arraylength, 1) := by decide +kernel
theorem dX0_takenBy_10 : decode cX0_takenBy 10 = .ok (.if_icmp .ge 12, 3) := by decide +kernel
theorem dX0_takenBy_13 : decode cX0_takenBy 13 = .ok (.aload_n 0, 1) := by decide +kernel
theorem dX0_takenBy_14 : decode cX0_takenBy 14 = .ok (.getfield 18, 3) := by decide +kernel
theorem dX0_takenBy_17 : decode cX0_takenBy 17 = .ok (.iload_n 1, 1) := by decide +kernel
theorem dX0_takenBy_18 : decode cX0_takenBy 18 = .ok (.iaload, 1) := by decide +kernel
theorem dX0_takenBy_19 : decode cX0_takenBy 19 = .ok (.goto 4, 3) := by decide +kernel
theorem dX0_takenBy_22 : decode cX0_takenBy 22 = .ok (.iconst 0, 1) := by decide +kernel
theorem dX0_takenBy_23 : decode cX0_takenBy 23 = .ok (.ireturn, 1) := by decide +kernel
theorem dX0_peopleOnWays_0 : decode cX0_peopleOnWays 0 = .ok (.iconst 0, 1) := by decide +kernel
theorem dX0_peopleOnWays_1 : decode cX0_peopleOnWays 1 = .ok (.istore_n 1, 1) := by decide +kernel
theorem dX0_peopleOnWays_2 : decode cX0_peopleOnWays 2 = .ok (.iconst 0, 1) := by decide +kernel
theorem dX0_peopleOnWays_3 : decode cX0_peopleOnWays 3 = .ok (.istore_n 2, 1) := by decide +kernel
theorem dX0_peopleOnWays_4 : decode cX0_peopleOnWays 4 = .ok (.iload_n 2, 1) := by decide +kernel
theorem dX0_peopleOnWays_5 : decode cX0_peopleOnWays 5 = .ok (.bipush 6, 2) := by decide +kernel
theorem dX0_peopleOnWays_7 : decode cX0_peopleOnWays 7 = .ok (.if_icmp .ge 21, 3) := by decide +kernel
theorem dX0_peopleOnWays_10 : decode cX0_peopleOnWays 10 = .ok (.aload_n 0, 1) := by decide +kernel
theorem dX0_peopleOnWays_11 : decode cX0_peopleOnWays 11 = .ok (.getfield 15, 3) := by decide +kernel
theorem dX0_peopleOnWays_14 : decode cX0_peopleOnWays 14 = .ok (.iload_n 2, 1) := by decide +kernel
theorem dX0_peopleOnWays_15 : decode cX0_peopleOnWays 15 = .ok (.iaload, 1) := by decide +kernel
theorem dX0_peopleOnWays_16 : decode cX0_peopleOnWays 16 = .ok (.ifCond .le 6, 3) := by decide +kernel
theorem dX0_peopleOnWays_19 : decode cX0_peopleOnWays 19 = .ok (.iinc 1 1, 3) := by decide +kernel
theorem dX0_peopleOnWays_22 : decode cX0_peopleOnWays 22 = .ok (.iinc 2 1, 3) := by decide +kernel
theorem dX0_peopleOnWays_25 : decode cX0_peopleOnWays 25 = .ok (.goto (-21), 3) := by decide +kernel
theorem dX0_peopleOnWays_28 : decode cX0_peopleOnWays 28 = .ok (.iload_n 1, 1) := by decide +kernel
theorem dX0_peopleOnWays_29 : decode cX0_peopleOnWays 29 = .ok (.ireturn, 1) := by decide +kernel
set_option maxRecDepth 20000 in
theorem ggX0_passMinute_X1_hourOf : GoodIn wsX0_passMinute wsX1_hourOf := goodIn_r _ [8, 9, 53, 54, 55, 56, 57, 58, 59, 60] (by decide +kernel) (by decide +kernel)
set_option maxRecDepth 20000 in
theorem gX0_passMinute_X1_hourOf : GoodIn wsX0_passMinute (wsV RX0 35 RX1 yX1_hourOf wsX1_hourOf) := goodIn_app (goodIn_of _ (by decide +kernel)) ggX0_passMinute_X1_hourOf
set_option maxRecDepth 20000 in
theorem ggX0_passMinute_X1_marchSteps : GoodIn wsX0_passMinute wsX1_marchSteps := goodIn_r _ [13, 14, 15, 16, 17, 7, 18, 19, 53, 54, 55, 56, 57, 58, 59, 60] (by decide +kernel) (by decide +kernel)
set_option maxRecDepth 20000 in
theorem gX0_passMinute_X1_marchSteps : GoodIn wsX0_passMinute (wsV RX0 41 RX1 yX1_marchSteps wsX1_marchSteps) := goodIn_app (goodIn_of _ (by decide +kernel)) ggX0_passMinute_X1_marchSteps
set_option maxRecDepth 20000 in
theorem ggX0_passMinute_X0_walk : GoodIn wsX0_passMinute wsX0_walk := goodIn_r _ [24, 25, 26, 27, 28, 29, 30, 31, 32, 33, 34, 23, 35, 2, 36, 37, 38, 7, 39, 40, 41, 42, 43, 44, 45, 46, 47, 48, 49, 50, 51, 52, 53, 54, 55, 56, 57, 58, 59, 60] (by decide +kernel) (by decide +kernel)
set_option maxRecDepth 20000 in
theorem gX0_passMinute_X0_walk : GoodIn wsX0_passMinute (wsV RX0 47 RX0 yX0_walk wsX0_walk) := goodIn_app (goodIn_of _ (by decide +kernel)) ggX0_passMinute_X0_walk
theorem dX0_passMinute_0 : decode cX0_passMinute 0 = .ok (.aload_n 1, 1) := by decide +kernel
theorem dX0_passMinute_1 : decode cX0_passMinute 1 = .ok (.aload_n 0, 1) := by decide +kernel
theorem dX0_passMinute_2 : decode cX0_passMinute 2 = .ok (.getfield 25, 3) := by decide +kernel
theorem dX0_passMinute_5 : decode cX0_passMinute 5 = .ok (.invokevirtual 35, 3) := by decide +kernel
theorem dX0_passMinute_8 : decode cX0_passMinute 8 = .ok (.istore_n 2, 1) := by decide +kernel
theorem dX0_passMinute_9 : decode cX0_passMinute 9 = .ok (.aload_n 1, 1) := by decide +kernel
theorem dX0_passMinute_10 : decode cX0_passMinute 10 = .ok (.aload_n 0, 1) := by decide +kernel
theorem dX0_passMinute_11 : decode cX0_passMinute 11 = .ok (.getfield 21, 3) := by decide +kernel
theorem dX0_passMinute_14 : decode cX0_passMinute 14 = .ok (.invokevirtual 41, 3) := by decide +kernel
theorem dX0_passMinute_17 : decode cX0_passMinute 17 = .ok (.istore_n 3, 1) := by decide +kernel
theorem dX0_passMinute_18 : decode cX0_passMinute 18 = .ok (.iconst 0, 1) := by decide +kernel
theorem dX0_passMinute_19 : decode cX0_passMinute 19 = .ok (.istore 4, 2) := by decide +kernel
theorem dX0_passMinute_21 : decode cX0_passMinute 21 = .ok (.iload 4, 2) := by decide +kernel
theorem dX0_passMinute_23 : decode cX0_passMinute 23 = .ok (.aload_n 1, 1) := by decide +kernel
theorem dX0_passMinute_24 : decode cX0_passMinute 24 = .ok (.getfield 44, 3) := by decide +kernel
theorem dX0_passMinute_27 : decode cX0_passMinute 27 = .ok (.if_icmp .ge 39, 3) := by decide +kernel
theorem dX0_passMinute_30 : decode cX0_passMinute 30 = .ok (.iload 4, 2) := by decide +kernel
theorem dX0_passMinute_32 : decode cX0_passMinute 32 = .ok (.bipush 6, 2) := by decide +kernel
theorem dX0_passMinute_34 : decode cX0_passMinute 34 = .ok (.if_icmp .ge 32, 3) := by decide +kernel
theorem dX0_passMinute_37 : decode cX0_passMinute 37 = .ok (.aload_n 0, 1) := by decide +kernel
theorem dX0_passMinute_38 : decode cX0_passMinute 38 = .ok (.getfield 28, 3) := by decide +kernel
theorem dX0_passMinute_41 : decode cX0_passMinute 41 = .ok (.iload 4, 2) := by decide +kernel
theorem dX0_passMinute_43 : decode cX0_passMinute 43 = .ok (.ishr, 1) := by decide +kernel
theorem dX0_passMinute_44 : decode cX0_passMinute 44 = .ok (.iconst 1, 1) := by decide +kernel
theorem dX0_passMinute_45 : decode cX0_passMinute 45 = .ok (.iand, 1) := by decide +kernel
theorem dX0_passMinute_46 : decode cX0_passMinute 46 = .ok (.ifCond .ne 14, 3) := by decide +kernel
theorem dX0_passMinute_49 : decode cX0_passMinute 49 = .ok (.iload_n 3, 1) := by decide +kernel
theorem dX0_passMinute_50 : decode cX0_passMinute 50 = .ok (.aload_n 0, 1) := by decide +kernel
theorem dX0_passMinute_51 : decode cX0_passMinute 51 = .ok (.aload_n 1, 1) := by decide +kernel
theorem dX0_passMinute_52 : decode cX0_passMinute 52 = .ok (.iload 4, 2) := by decide +kernel
theorem dX0_passMinute_54 : decode cX0_passMinute 54 = .ok (.iload_n 2, 1) := by decide +kernel
theorem dX0_passMinute_55 : decode cX0_passMinute 55 = .ok (.invokevirtual 47, 3) := by decide +kernel
theorem dX0_passMinute_58 : decode cX0_passMinute 58 = .ok (.iadd, 1) := by decide +kernel
theorem dX0_passMinute_59 : decode cX0_passMinute 59 = .ok (.istore_n 3, 1) := by decide +kernel
theorem dX0_passMinute_60 : decode cX0_passMinute 60 = .ok (.iinc 4 1, 3) := by decide +kernel
theorem dX0_passMinute_63 : decode cX0_passMinute 63 = .ok (.goto (-42), 3) := by decide +kernel
theorem dX0_passMinute_66 : decode cX0_passMinute 66 = .ok (.aload_n 0, 1) := by decide +kernel
theorem dX0_passMinute_67 : decode cX0_passMinute 67 = .ok (.dup, 1) := by decide +kernel
theorem dX0_passMinute_68 : decode cX0_passMinute 68 = .ok (.getfield 25, 3) := by decide +kernel
theorem dX0_passMinute_71 : decode cX0_passMinute 71 = .ok (.iload_n 3, 1) := by decide +kernel
theorem dX0_passMinute_72 : decode cX0_passMinute 72 = .ok (.iadd, 1) := by decide +kernel
theorem dX0_passMinute_73 : decode cX0_passMinute 73 = .ok (.putfield 25, 3) := by decide +kernel
theorem dX0_passMinute_76 : decode cX0_passMinute 76 = .ok (.aload_n 0, 1) := by decide +kernel
theorem dX0_passMinute_77 : decode cX0_passMinute 77 = .ok (.dup, 1) := by decide +kernel
theorem dX0_passMinute_78 : decode cX0_passMinute 78 = .ok (.getfield 21, 3) := by decide +kernel
theorem dX0_passMinute_81 : decode cX0_passMinute 81 = .ok (.iconst 1, 1) := by decide +kernel
theorem dX0_passMinute_82 : decode cX0_passMinute 82 = .ok (.iadd, 1) := by decide +kernel
theorem dX0_passMinute_83 : decode cX0_passMinute 83 = .ok (.putfield 21, 3) := by decide +kernel
theorem dX0_passMinute_86 : decode cX0_passMinute 86 = .ok (.return_, 1) := by decide +kernel
set_option maxRecDepth 20000 in
theorem ggX0_walk_X0_maySetOut : GoodIn wsX0_walk wsX0_maySetOut := goodIn_r _ [12, 2, 13, 14, 15, 16, 17, 18, 19, 20, 21, 22, 23, 24, 25, 26, 27, 28, 29, 30, 31, 32, 33, 34, 35, 36, 37, 38, 39] (by decide +kernel) (by decide +kernel)
set_option maxRecDepth 20000 in
theorem gX0_walk_X0_maySetOut : GoodIn wsX0_walk (wsV RX0 51 RX0 yX0_maySetOut wsX0_maySetOut) := goodIn_app (goodIn_of _ (by decide +kernel)) ggX0_walk_X0_maySetOut
set_option maxRecDepth 20000 in
theorem ggX0_walk_X1_wayPart : GoodIn wsX0_walk wsX1_wayPart := goodIn_r _ [24, 25, 32, 33, 34, 35, 36, 37, 38, 39] (by decide +kernel) (by decide +kernel)
set_option maxRecDepth 20000 in
theorem gX0_walk_X1_wayPart : GoodIn wsX0_walk (wsV RX0 55 RX1 yX1_wayPart wsX1_wayPart) := goodIn_app (goodIn_of _ (by decide +kernel)) ggX0_walk_X1_wayPart
theorem dX0_walk_0 : decode cX0_walk 0 = .ok (.aload_n 0, 1) := by decide +kernel
theorem dX0_walk_1 : decode cX0_walk 1 = .ok (.getfield 15, 3) := by decide +kernel
theorem dX0_walk_4 : decode cX0_walk 4 = .ok (.iload_n 2, 1) := by decide +kernel
theorem dX0_walk_5 : decode cX0_walk 5 = .ok (.iaload, 1) := by decide +kernel
theorem dX0_walk_6 : decode cX0_walk 6 = .ok (.ifCond .ne 31, 3) := by decide +kernel
theorem dX0_walk_9 : decode cX0_walk 9 = .ok (.aload_n 0, 1) := by decide +kernel
theorem dX0_walk_10 : decode cX0_walk 10 = .ok (.aload_n 1, 1) := by decide +kernel
theorem dX0_walk_11 : decode cX0_walk 11 = .ok (.iload_n 2, 1) := by decide +kernel
theorem dX0_walk_12 : decode cX0_walk 12 = .ok (.iload_n 3, 1) := by decide +kernel
theorem dX0_walk_13 : decode cX0_walk 13 = .ok (.invokevirtual 51, 3) := by decide +kernel
theorem dX0_walk_16 : decode cX0_walk 16 = .ok (.ifCond .eq 21, 3) := by decide +kernel
theorem dX0_walk_19 : decode cX0_walk 19 = .ok (.aload_n 0, 1) := by decide +kernel
theorem dX0_walk_20 : decode cX0_walk 20 = .ok (.getfield 15, 3) := by decide +kernel
theorem dX0_walk_23 : decode cX0_walk 23 = .ok (.iload_n 2, 1) := by decide +kernel
theorem dX0_walk_24 : decode cX0_walk 24 = .ok (.aload_n 1, 1) := by decide +kernel
theorem dX0_walk_25 : decode cX0_walk 25 = .ok (.iload_n 2, 1) := by decide +kernel
theorem dX0_walk_26 : decode cX0_walk 26 = .ok (.aload_n 0, 1) := by decide +kernel
theorem dX0_walk_27 : decode cX0_walk 27 = .ok (.getfield 9, 3) := by decide +kernel
theorem dX0_walk_30 : decode cX0_walk 30 = .ok (.iload_n 2, 1) := by decide +kernel
theorem dX0_walk_31 : decode cX0_walk 31 = .ok (.iaload, 1) := by decide +kernel
theorem dX0_walk_32 : decode cX0_walk 32 = .ok (.iconst 2, 1) := by decide +kernel
theorem dX0_walk_33 : decode cX0_walk 33 = .ok (.invokevirtual 55, 3) := by decide +kernel
theorem dX0_walk_36 : decode cX0_walk 36 = .ok (.iastore, 1) := by decide +kernel
theorem dX0_walk_37 : decode cX0_walk 37 = .ok (.aload_n 0, 1) := by decide +kernel
theorem dX0_walk_38 : decode cX0_walk 38 = .ok (.getfield 15, 3) := by decide +kernel
theorem dX0_walk_41 : decode cX0_walk 41 = .ok (.iload_n 2, 1) := by decide +kernel
theorem dX0_walk_42 : decode cX0_walk 42 = .ok (.iaload, 1) := by decide +kernel
theorem dX0_walk_43 : decode cX0_walk 43 = .ok (.ifCond .ne 5, 3) := by decide +kernel
theorem dX0_walk_46 : decode cX0_walk 46 = .ok (.iconst 0, 1) := by decide +kernel
theorem dX0_walk_47 : decode cX0_walk 47 = .ok (.ireturn, 1) := by decide +kernel
theorem dX0_walk_48 : decode cX0_walk 48 = .ok (.aload_n 1, 1) := by decide +kernel
theorem dX0_walk_49 : decode cX0_walk 49 = .ok (.iload_n 2, 1) := by decide +kernel
theorem dX0_walk_50 : decode cX0_walk 50 = .ok (.aload_n 0, 1) := by decide +kernel
theorem dX0_walk_51 : decode cX0_walk 51 = .ok (.getfield 9, 3) := by decide +kernel
theorem dX0_walk_54 : decode cX0_walk 54 = .ok (.iload_n 2, 1) := by decide +kernel
theorem dX0_walk_55 : decode cX0_walk 55 = .ok (.iaload, 1) := by decide +kernel
theorem dX0_walk_56 : decode cX0_walk 56 = .ok (.iconst 3, 1) := by decide +kernel
theorem dX0_walk_57 : decode cX0_walk 57 = .ok (.invokevirtual 55, 3) := by decide +kernel
theorem dX0_walk_60 : decode cX0_walk 60 = .ok (.aload_n 0, 1) := by decide +kernel
theorem dX0_walk_61 : decode cX0_walk 61 = .ok (.getfield 15, 3) := by decide +kernel
theorem dX0_walk_64 : decode cX0_walk 64 = .ok (.iload_n 2, 1) := by decide +kernel
theorem dX0_walk_65 : decode cX0_walk 65 = .ok (.iaload, 1) := by decide +kernel
theorem dX0_walk_66 : decode cX0_walk 66 = .ok (.invokestatic 59, 3) := by decide +kernel
theorem dX0_walk_69 : decode cX0_walk 69 = .ok (.istore 4, 2) := by decide +kernel
theorem dX0_walk_71 : decode cX0_walk 71 = .ok (.aload_n 0, 1) := by decide +kernel
theorem dX0_walk_72 : decode cX0_walk 72 = .ok (.getfield 15, 3) := by decide +kernel
theorem dX0_walk_75 : decode cX0_walk 75 = .ok (.iload_n 2, 1) := by decide +kernel
theorem dX0_walk_76 : decode cX0_walk 76 = .ok (.dup2, 1) := by decide +kernel
theorem dX0_walk_77 : decode cX0_walk 77 = .ok (.iaload, 1) := by decide +kernel
theorem dX0_walk_78 : decode cX0_walk 78 = .ok (.iload 4, 2) := by decide +kernel
theorem dX0_walk_80 : decode cX0_walk 80 = .ok (.isub, 1) := by decide +kernel
theorem dX0_walk_81 : decode cX0_walk 81 = .ok (.iastore, 1) := by decide +kernel
theorem dX0_walk_82 : decode cX0_walk 82 = .ok (.aload_n 0, 1) := by decide +kernel
theorem dX0_walk_83 : decode cX0_walk 83 = .ok (.getfield 18, 3) := by decide +kernel
theorem dX0_walk_86 : decode cX0_walk 86 = .ok (.iload_n 2, 1) := by decide +kernel
theorem dX0_walk_87 : decode cX0_walk 87 = .ok (.dup2, 1) := by decide +kernel
theorem dX0_walk_88 : decode cX0_walk 88 = .ok (.iaload, 1) := by decide +kernel
theorem dX0_walk_89 : decode cX0_walk 89 = .ok (.iload 4, 2) := by decide +kernel
theorem dX0_walk_91 : decode cX0_walk 91 = .ok (.iadd, 1) := by decide +kernel
theorem dX0_walk_92 : decode cX0_walk 92 = .ok (.iastore, 1) := by decide +kernel
theorem dX0_walk_93 : decode cX0_walk 93 = .ok (.aload_n 0, 1) := by decide +kernel
theorem dX0_walk_94 : decode cX0_walk 94 = .ok (.getfield 15, 3) := by decide +kernel
theorem dX0_walk_97 : decode cX0_walk 97 = .ok (.iload_n 2, 1) := by decide +kernel
theorem dX0_walk_98 : decode cX0_walk 98 = .ok (.iaload, 1) := by decide +kernel
theorem dX0_walk_99 : decode cX0_walk 99 = .ok (.ifCond .ne 13, 3) := by decide +kernel
theorem dX0_walk_102 : decode cX0_walk 102 = .ok (.aload_n 0, 1) := by decide +kernel
theorem dX0_walk_103 : decode cX0_walk 103 = .ok (.getfield 9, 3) := by decide +kernel
theorem dX0_walk_106 : decode cX0_walk 106 = .ok (.iload_n 2, 1) := by decide +kernel
theorem dX0_walk_107 : decode cX0_walk 107 = .ok (.dup2, 1) := by decide +kernel
theorem dX0_walk_108 : decode cX0_walk 108 = .ok (.iaload, 1) := by decide +kernel
theorem dX0_walk_109 : decode cX0_walk 109 = .ok (.iconst 1, 1) := by decide +kernel
theorem dX0_walk_110 : decode cX0_walk 110 = .ok (.iadd, 1) := by decide +kernel
theorem dX0_walk_111 : decode cX0_walk 111 = .ok (.iastore, 1) := by decide +kernel
theorem dX0_walk_112 : decode cX0_walk 112 = .ok (.iload 4, 2) := by decide +kernel
theorem dX0_walk_114 : decode cX0_walk 114 = .ok (.ireturn, 1) := by decide +kernel
set_option maxRecDepth 20000 in
theorem ggX0_maySetOut_X1_isWay : GoodIn wsX0_maySetOut wsX1_isWay := goodIn_r _ [7, 8, 9, 21, 22, 23, 24, 25, 26, 27, 28] (by decide +kernel) (by decide +kernel)
set_option maxRecDepth 20000 in
theorem gX0_maySetOut_X1_isWay : GoodIn wsX0_maySetOut (wsV RX0 65 RX1 yX1_isWay wsX1_isWay) := goodIn_app (goodIn_of _ (by decide +kernel)) ggX0_maySetOut_X1_isWay
set_option maxRecDepth 20000 in
theorem ggX0_maySetOut_X1_wayPart : GoodIn wsX0_maySetOut wsX1_wayPart := goodIn_r _ [13, 14, 21, 22, 23, 24, 25, 26, 27, 28] (by decide +kernel) (by decide +kernel)
set_option maxRecDepth 20000 in
theorem gX0_maySetOut_X1_wayPart : GoodIn wsX0_maySetOut (wsV RX0 55 RX1 yX1_wayPart wsX1_wayPart) := goodIn_app (goodIn_of _ (by decide +kernel)) ggX0_maySetOut_X1_wayPart
theorem dX0_maySetOut_0 : decode cX0_maySetOut 0 = .ok (.aload_n 1, 1) := by decide +kernel
theorem dX0_maySetOut_1 : decode cX0_maySetOut 1 = .ok (.iload_n 2, 1) := by decide +kernel
theorem dX0_maySetOut_2 : decode cX0_maySetOut 2 = .ok (.aload_n 0, 1) := by decide +kernel
theorem dX0_maySetOut_3 : decode cX0_maySetOut 3 = .ok (.getfield 9, 3) := by decide +kernel
theorem dX0_maySetOut_6 : decode cX0_maySetOut 6 = .ok (.iload_n 2, 1) := by decide +kernel
theorem dX0_maySetOut_7 : decode cX0_maySetOut 7 = .ok (.iaload, 1) := by decide +kernel
theorem dX0_maySetOut_8 : decode cX0_maySetOut 8 = .ok (.invokevirtual 65, 3) := by decide +kernel
theorem dX0_maySetOut_11 : decode cX0_maySetOut 11 = .ok (.ifCond .ne 5, 3) := by decide +kernel
theorem dX0_maySetOut_14 : decode cX0_maySetOut 14 = .ok (.iconst 0, 1) := by decide +kernel
theorem dX0_maySetOut_15 : decode cX0_maySetOut 15 = .ok (.ireturn, 1) := by decide +kernel
theorem dX0_maySetOut_16 : decode cX0_maySetOut 16 = .ok (.aload_n 1, 1) := by decide +kernel
theorem dX0_maySetOut_17 : decode cX0_maySetOut 17 = .ok (.iload_n 2, 1) := by decide +kernel
theorem dX0_maySetOut_18 : decode cX0_maySetOut 18 = .ok (.aload_n 0, 1) := by decide +kernel
theorem dX0_maySetOut_19 : decode cX0_maySetOut 19 = .ok (.getfield 9, 3) := by decide +kernel
theorem dX0_maySetOut_22 : decode cX0_maySetOut 22 = .ok (.iload_n 2, 1) := by decide +kernel
theorem dX0_maySetOut_23 : decode cX0_maySetOut 23 = .ok (.iaload, 1) := by decide +kernel
theorem dX0_maySetOut_24 : decode cX0_maySetOut 24 = .ok (.iconst 0, 1) := by decide +kernel
theorem dX0_maySetOut_25 : decode cX0_maySetOut 25 = .ok (.invokevirtual 55, 3) := by decide +kernel
theorem dX0_maySetOut_28 : decode cX0_maySetOut 28 = .ok (.iconst 1, 1) := by decide +kernel
theorem dX0_maySetOut_29 : decode cX0_maySetOut 29 = .ok (.if_icmp .ne 7, 3) := by decide +kernel
theorem dX0_maySetOut_32 : decode cX0_maySetOut 32 = .ok (.iload_n 3, 1) := by decide +kernel
theorem dX0_maySetOut_33 : decode cX0_maySetOut 33 = .ok (.goto 7, 3) := by decide +kernel
theorem dX0_maySetOut_36 : decode cX0_maySetOut 36 = .ok (.aload_n 0, 1) := by decide +kernel
theorem dX0_maySetOut_37 : decode cX0_maySetOut 37 = .ok (.getfield 21, 3) := by decide +kernel
theorem dX0_maySetOut_40 : decode cX0_maySetOut 40 = .ok (.istore 4, 2) := by decide +kernel
theorem dX0_maySetOut_42 : decode cX0_maySetOut 42 = .ok (.iload 4, 2) := by decide +kernel
theorem dX0_maySetOut_44 : decode cX0_maySetOut 44 = .ok (.aload_n 1, 1) := by decide +kernel
theorem dX0_maySetOut_45 : decode cX0_maySetOut 45 = .ok (.iload_n 2, 1) := by decide +kernel
theorem dX0_maySetOut_46 : decode cX0_maySetOut 46 = .ok (.aload_n 0, 1) := by decide +kernel
theorem dX0_maySetOut_47 : decode cX0_maySetOut 47 = .ok (.getfield 9, 3) := by decide +kernel
theorem dX0_maySetOut_50 : decode cX0_maySetOut 50 = .ok (.iload_n 2, 1) := by decide +kernel
theorem dX0_maySetOut_51 : decode cX0_maySetOut 51 = .ok (.iaload, 1) := by decide +kernel
theorem dX0_maySetOut_52 : decode cX0_maySetOut 52 = .ok (.iconst 1, 1) := by decide +kernel
theorem dX0_maySetOut_53 : decode cX0_maySetOut 53 = .ok (.invokevirtual 55, 3) := by decide +kernel
theorem dX0_maySetOut_56 : decode cX0_maySetOut 56 = .ok (.if_icmp .lt 7, 3) := by decide +kernel
theorem dX0_maySetOut_59 : decode cX0_maySetOut 59 = .ok (.iconst 1, 1) := by decide +kernel
theorem dX0_maySetOut_60 : decode cX0_maySetOut 60 = .ok (.goto 4, 3) := by decide +kernel
theorem dX0_maySetOut_63 : decode cX0_maySetOut 63 = .ok (.iconst 0, 1) := by decide +kernel
theorem dX0_maySetOut_64 : decode cX0_maySetOut 64 = .ok (.ireturn, 1) := by decide +kernel
set_option maxRecDepth 20000 in
theorem ggX0_waitingInVain_X1_hourOf : GoodIn wsX0_waitingInVain wsX1_hourOf := goodIn_r _ [8, 9, 27, 28, 29, 30, 31, 32, 33, 34] (by decide +kernel) (by decide +kernel)
set_option maxRecDepth 20000 in
theorem gX0_waitingInVain_X1_hourOf : GoodIn wsX0_waitingInVain (wsV RX0 35 RX1 yX1_hourOf wsX1_hourOf) := goodIn_app (goodIn_of _ (by decide +kernel)) ggX0_waitingInVain_X1_hourOf
set_option maxRecDepth 20000 in
theorem ggX0_waitingInVain_X1_isWay : GoodIn wsX0_waitingInVain wsX1_isWay := goodIn_r _ [13, 14, 15, 27, 28, 29, 30, 31, 32, 33, 34] (by decide +kernel) (by decide +kernel)
set_option maxRecDepth 20000 in
theorem gX0_waitingInVain_X1_isWay : GoodIn wsX0_waitingInVain (wsV RX0 65 RX1 yX1_isWay wsX1_isWay) := goodIn_app (goodIn_of _ (by decide +kernel)) ggX0_waitingInVain_X1_isWay
set_option maxRecDepth 20000 in
theorem ggX0_waitingInVain_X1_wayPart : GoodIn wsX0_waitingInVain wsX1_wayPart := goodIn_r _ [19, 20, 27, 28, 29, 30, 31, 32, 33, 34] (by decide +kernel) (by decide +kernel)
set_option maxRecDepth 20000 in
theorem gX0_waitingInVain_X1_wayPart : GoodIn wsX0_waitingInVain (wsV RX0 55 RX1 yX1_wayPart wsX1_wayPart) := goodIn_app (goodIn_of _ (by decide +kernel)) ggX0_waitingInVain_X1_wayPart
theorem dX0_waitingInVain_0 : decode cX0_waitingInVain 0 = .ok (.aload_n 1, 1) := by decide +kernel
theorem dX0_waitingInVain_1 : decode cX0_waitingInVain 1 = .ok (.aload_n 0, 1) := by decide +kernel
theorem dX0_waitingInVain_2 : decode cX0_waitingInVain 2 = .ok (.getfield 25, 3) := by decide +kernel
theorem dX0_waitingInVain_5 : decode cX0_waitingInVain 5 = .ok (.invokevirtual 35, 3) := by decide +kernel
theorem dX0_waitingInVain_8 : decode cX0_waitingInVain 8 = .ok (.istore_n 2, 1) := by decide +kernel
theorem dX0_waitingInVain_9 : decode cX0_waitingInVain 9 = .ok (.iconst 0, 1) := by decide +kernel
theorem dX0_waitingInVain_10 : decode cX0_waitingInVain 10 = .ok (.istore_n 3, 1) := by decide +kernel
theorem dX0_waitingInVain_11 : decode cX0_waitingInVain 11 = .ok (.iconst 0, 1) := by decide +kernel
theorem dX0_waitingInVain_12 : decode cX0_waitingInVain 12 = .ok (.istore 4, 2) := by decide +kernel
theorem dX0_waitingInVain_14 : decode cX0_waitingInVain 14 = .ok (.iload 4, 2) := by decide +kernel
theorem dX0_waitingInVain_16 : decode cX0_waitingInVain 16 = .ok (.aload_n 1, 1) := by decide +kernel
theorem dX0_waitingInVain_17 : decode cX0_waitingInVain 17 = .ok (.getfield 44, 3) := by decide +kernel
theorem dX0_waitingInVain_20 : decode cX0_waitingInVain 20 = .ok (.if_icmp .ge 97, 3) := by decide +kernel
theorem dX0_waitingInVain_23 : decode cX0_waitingInVain 23 = .ok (.iload 4, 2) := by decide +kernel
theorem dX0_waitingInVain_25 : decode cX0_waitingInVain 25 = .ok (.bipush 6, 2) := by decide +kernel
theorem dX0_waitingInVain_27 : decode cX0_waitingInVain 27 = .ok (.if_icmp .ge 90, 3) := by decide +kernel
theorem dX0_waitingInVain_30 : decode cX0_waitingInVain 30 = .ok (.aload_n 0, 1) := by decide +kernel
theorem dX0_waitingInVain_31 : decode cX0_waitingInVain 31 = .ok (.getfield 15, 3) := by decide +kernel
theorem dX0_waitingInVain_34 : decode cX0_waitingInVain 34 = .ok (.iload 4, 2) := by decide +kernel
theorem dX0_waitingInVain_36 : decode cX0_waitingInVain 36 = .ok (.iaload, 1) := by decide +kernel
theorem dX0_waitingInVain_37 : decode cX0_waitingInVain 37 = .ok (.ifCond .ne 41, 3) := by decide +kernel
theorem dX0_waitingInVain_40 : decode cX0_waitingInVain 40 = .ok (.aload_n 1, 1) := by decide +kernel
theorem dX0_waitingInVain_41 : decode cX0_waitingInVain 41 = .ok (.iload 4, 2) := by decide +kernel
theorem dX0_waitingInVain_43 : decode cX0_waitingInVain 43 = .ok (.aload_n 0, 1) := by decide +kernel
theorem dX0_waitingInVain_44 : decode cX0_waitingInVain 44 = .ok (.getfield 9, 3) := by decide +kernel
theorem dX0_waitingInVain_47 : decode cX0_waitingInVain 47 = .ok (.iload 4, 2) := by decide +kernel
theorem dX0_waitingInVain_49 : decode cX0_waitingInVain 49 = .ok (.iaload, 1) := by decide +kernel
theorem dX0_waitingInVain_50 : decode cX0_waitingInVain 50 = .ok (.invokevirtual 65, 3) := by decide +kernel
theorem dX0_waitingInVain_53 : decode cX0_waitingInVain 53 = .ok (.ifCond .eq 25, 3) := by decide +kernel
theorem dX0_waitingInVain_56 : decode cX0_waitingInVain 56 = .ok (.aload_n 1, 1) := by decide +kernel
theorem dX0_waitingInVain_57 : decode cX0_waitingInVain 57 = .ok (.iload 4, 2) := by decide +kernel
theorem dX0_waitingInVain_59 : decode cX0_waitingInVain 59 = .ok (.aload_n 0, 1) := by decide +kernel
theorem dX0_waitingInVain_60 : decode cX0_waitingInVain 60 = .ok (.getfield 9, 3) := by decide +kernel
theorem dX0_waitingInVain_63 : decode cX0_waitingInVain 63 = .ok (.iload 4, 2) := by decide +kernel
theorem dX0_waitingInVain_65 : decode cX0_waitingInVain 65 = .ok (.iaload, 1) := by decide +kernel
theorem dX0_waitingInVain_66 : decode cX0_waitingInVain 66 = .ok (.iconst 0, 1) := by decide +kernel
theorem dX0_waitingInVain_67 : decode cX0_waitingInVain 67 = .ok (.invokevirtual 55, 3) := by decide +kernel
theorem dX0_waitingInVain_70 : decode cX0_waitingInVain 70 = .ok (.iconst 1, 1) := by decide +kernel
theorem dX0_waitingInVain_71 : decode cX0_waitingInVain 71 = .ok (.if_icmp .ne 7, 3) := by decide +kernel
theorem dX0_waitingInVain_74 : decode cX0_waitingInVain 74 = .ok (.iconst 1, 1) := by decide +kernel
theorem dX0_waitingInVain_75 : decode cX0_waitingInVain 75 = .ok (.goto 4, 3) := by decide +kernel
theorem dX0_waitingInVain_78 : decode cX0_waitingInVain 78 = .ok (.iconst 0, 1) := by decide +kernel
theorem dX0_waitingInVain_79 : decode cX0_waitingInVain 79 = .ok (.istore 5, 2) := by decide +kernel
theorem dX0_waitingInVain_81 : decode cX0_waitingInVain 81 = .ok (.iload 5, 2) := by decide +kernel
theorem dX0_waitingInVain_83 : decode cX0_waitingInVain 83 = .ok (.ifCond .eq 28, 3) := by decide +kernel
theorem dX0_waitingInVain_86 : decode cX0_waitingInVain 86 = .ok (.iload_n 2, 1) := by decide +kernel
theorem dX0_waitingInVain_87 : decode cX0_waitingInVain 87 = .ok (.aload_n 1, 1) := by decide +kernel
theorem dX0_waitingInVain_88 : decode cX0_waitingInVain 88 = .ok (.iload 4, 2) := by decide +kernel
theorem dX0_waitingInVain_90 : decode cX0_waitingInVain 90 = .ok (.aload_n 0, 1) := by decide +kernel
theorem dX0_waitingInVain_91 : decode cX0_waitingInVain 91 = .ok (.getfield 9, 3) := by decide +kernel
theorem dX0_waitingInVain_94 : decode cX0_waitingInVain 94 = .ok (.iload 4, 2) := by decide +kernel
theorem dX0_waitingInVain_96 : decode cX0_waitingInVain 96 = .ok (.iaload, 1) := by decide +kernel
theorem dX0_waitingInVain_97 : decode cX0_waitingInVain 97 = .ok (.iconst 1, 1) := by decide +kernel
theorem dX0_waitingInVain_98 : decode cX0_waitingInVain 98 = .ok (.invokevirtual 55, 3) := by decide +kernel
theorem dX0_waitingInVain_101 : decode cX0_waitingInVain 101 = .ok (.if_icmp .ge 10, 3) := by decide +kernel
theorem dX0_waitingInVain_104 : decode cX0_waitingInVain 104 = .ok (.iload_n 3, 1) := by decide +kernel
theorem dX0_waitingInVain_105 : decode cX0_waitingInVain 105 = .ok (.iconst 1, 1) := by decide +kernel
theorem dX0_waitingInVain_106 : decode cX0_waitingInVain 106 = .ok (.iload 4, 2) := by decide +kernel
theorem dX0_waitingInVain_108 : decode cX0_waitingInVain 108 = .ok (.ishl, 1) := by decide +kernel
theorem dX0_waitingInVain_109 : decode cX0_waitingInVain 109 = .ok (.ior, 1) := by decide +kernel
theorem dX0_waitingInVain_110 : decode cX0_waitingInVain 110 = .ok (.istore_n 3, 1) := by decide +kernel
theorem dX0_waitingInVain_111 : decode cX0_waitingInVain 111 = .ok (.iinc 4 1, 3) := by decide +kernel
theorem dX0_waitingInVain_114 : decode cX0_waitingInVain 114 = .ok (.goto (-100), 3) := by decide +kernel
theorem dX0_waitingInVain_117 : decode cX0_waitingInVain 117 = .ok (.iload_n 3, 1) := by decide +kernel
theorem dX0_waitingInVain_118 : decode cX0_waitingInVain 118 = .ok (.ireturn, 1) := by decide +kernel
theorem dX1_init_0 : decode cX1_init 0 = .ok (.aload_n 0, 1) := by decide +kernel
theorem dX1_init_1 : decode cX1_init 1 = .ok (.invokespecial 3, 3) := by decide +kernel
theorem dX1_init_4 : decode cX1_init 4 = .ok (.aload_n 0, 1) := by decide +kernel
theorem dX1_init_5 : decode cX1_init 5 = .ok (.bipush 6, 2) := by decide +kernel
theorem dX1_init_7 : decode cX1_init 7 = .ok (.newarray .int, 2) := by decide +kernel
theorem dX1_init_9 : decode cX1_init 9 = .ok (.putfield 9, 3) := by decide +kernel
theorem dX1_init_12 : decode cX1_init 12 = .ok (.aload_n 0, 1) := by decide +kernel
theorem dX1_init_13 : decode cX1_init 13 = .ok (.bipush 96, 2) := by decide +kernel
theorem dX1_init_15 : decode cX1_init 15 = .ok (.newarray .int, 2) := by decide +kernel
theorem dX1_init_17 : decode cX1_init 17 = .ok (.putfield 15, 3) := by decide +kernel
theorem dX1_init_20 : decode cX1_init 20 = .ok (.aload_n 0, 1) := by decide +kernel
theorem dX1_init_21 : decode cX1_init 21 = .ok (.bipush 12, 2) := by decide +kernel
theorem dX1_init_23 : decode cX1_init 23 = .ok (.newarray .int, 2) := by decide +kernel
theorem dX1_init_25 : decode cX1_init 25 = .ok (.putfield 18, 3) := by decide +kernel
theorem dX1_init_28 : decode cX1_init 28 = .ok (.aload_n 0, 1) := by decide +kernel
theorem dX1_init_29 : decode cX1_init 29 = .ok (.bipush 18, 2) := by decide +kernel
theorem dX1_init_31 : decode cX1_init 31 = .ok (.newarray .int, 2) := by decide +kernel
theorem dX1_init_33 : decode cX1_init 33 = .ok (.putfield 21, 3) := by decide +kernel
theorem dX1_init_36 : decode cX1_init 36 = .ok (.aload_n 0, 1) := by decide +kernel
theorem dX1_init_37 : decode cX1_init 37 = .ok (.bipush 90, 2) := by decide +kernel
theorem dX1_init_39 : decode cX1_init 39 = .ok (.putfield 24, 3) := by decide +kernel
theorem dX1_init_42 : decode cX1_init 42 = .ok (.return_, 1) := by decide +kernel
theorem dX1_empty_0 : decode cX1_empty 0 = .ok (.aload_n 0, 1) := by decide +kernel
theorem dX1_empty_1 : decode cX1_empty 1 = .ok (.bipush 90, 2) := by decide +kernel
theorem dX1_empty_3 : decode cX1_empty 3 = .ok (.putfield 24, 3) := by decide +kernel
theorem dX1_empty_6 : decode cX1_empty 6 = .ok (.aload_n 0, 1) := by decide +kernel
theorem dX1_empty_7 : decode cX1_empty 7 = .ok (.iconst 0, 1) := by decide +kernel
theorem dX1_empty_8 : decode cX1_empty 8 = .ok (.putfield 28, 3) := by decide +kernel
theorem dX1_empty_11 : decode cX1_empty 11 = .ok (.aload_n 0, 1) := by decide +kernel
theorem dX1_empty_12 : decode cX1_empty 12 = .ok (.iconst 0, 1) := by decide +kernel
theorem dX1_empty_13 : decode cX1_empty 13 = .ok (.putfield 31, 3) := by decide +kernel
theorem dX1_empty_16 : decode cX1_empty 16 = .ok (.aload_n 0, 1) := by decide +kernel
theorem dX1_empty_17 : decode cX1_empty 17 = .ok (.iconst 0, 1) := by decide +kernel
theorem dX1_empty_18 : decode cX1_empty 18 = .ok (.putfield 34, 3) := by decide +kernel
theorem dX1_empty_21 : decode cX1_empty 21 = .ok (.return_, 1) := by decide +kernel
set_option maxRecDepth 20000 in
theorem ggX1_become_X4_copyRow : GoodIn wsX1_become wsX4_copyRow := goodIn_r _ [11] (by decide +kernel) (by decide +kernel)
set_option maxRecDepth 20000 in
theorem gX1_become_X4_copyRow_n37 : GoodIn wsX1_become (wsX4_copyRow) := ggX1_become_X4_copyRow
theorem dX1_become_0 : decode cX1_become 0 = .ok (.aload_n 0, 1) := by decide +kernel
theorem dX1_become_1 : decode cX1_become 1 = .ok (.aload_n 1, 1) := by decide +kernel
theorem dX1_become_2 : decode cX1_become 2 = .ok (.getfield 24, 3) := by decide +kernel
theorem dX1_become_5 : decode cX1_become 5 = .ok (.putfield 24, 3) := by decide +kernel
theorem dX1_become_8 : decode cX1_become 8 = .ok (.aload_n 0, 1) := by decide +kernel
theorem dX1_become_9 : decode cX1_become 9 = .ok (.aload_n 1, 1) := by decide +kernel
theorem dX1_become_10 : decode cX1_become 10 = .ok (.getfield 28, 3) := by decide +kernel
theorem dX1_become_13 : decode cX1_become 13 = .ok (.putfield 28, 3) := by decide +kernel
theorem dX1_become_16 : decode cX1_become 16 = .ok (.aload_n 0, 1) := by decide +kernel
theorem dX1_become_17 : decode cX1_become 17 = .ok (.aload_n 1, 1) := by decide +kernel
theorem dX1_become_18 : decode cX1_become 18 = .ok (.getfield 31, 3) := by decide +kernel
theorem dX1_become_21 : decode cX1_become 21 = .ok (.putfield 31, 3) := by decide +kernel
theorem dX1_become_24 : decode cX1_become 24 = .ok (.aload_n 0, 1) := by decide +kernel
theorem dX1_become_25 : decode cX1_become 25 = .ok (.aload_n 1, 1) := by decide +kernel
theorem dX1_become_26 : decode cX1_become 26 = .ok (.getfield 34, 3) := by decide +kernel
theorem dX1_become_29 : decode cX1_become 29 = .ok (.putfield 34, 3) := by decide +kernel
theorem dX1_become_32 : decode cX1_become 32 = .ok (.aload_n 1, 1) := by decide +kernel
theorem dX1_become_33 : decode cX1_become 33 = .ok (.getfield 9, 3) := by decide +kernel
theorem dX1_become_36 : decode cX1_become 36 = .ok (.aload_n 0, 1) := by decide +kernel
theorem dX1_become_37 : decode cX1_become 37 = .ok (.getfield 9, 3) := by decide +kernel
theorem dX1_become_40 : decode cX1_become 40 = .ok (.invokestatic 37, 3) := by decide +kernel
theorem dX1_become_43 : decode cX1_become 43 = .ok (.aload_n 1, 1) := by decide +kernel
theorem dX1_become_44 : decode cX1_become 44 = .ok (.getfield 15, 3) := by decide +kernel
theorem dX1_become_47 : decode cX1_become 47 = .ok (.aload_n 0, 1) := by decide +kernel
theorem dX1_become_48 : decode cX1_become 48 = .ok (.getfield 15, 3) := by decide +kernel
theorem dX1_become_51 : decode cX1_become 51 = .ok (.invokestatic 37, 3) := by decide +kernel
theorem dX1_become_54 : decode cX1_become 54 = .ok (.aload_n 1, 1) := by decide +kernel
theorem dX1_become_55 : decode cX1_become 55 = .ok (.getfield 18, 3) := by decide +kernel
theorem dX1_become_58 : decode cX1_become 58 = .ok (.aload_n 0, 1) := by decide +kernel
theorem dX1_become_59 : decode cX1_become 59 = .ok (.getfield 18, 3) := by decide +kernel
theorem dX1_become_62 : decode cX1_become 62 = .ok (.invokestatic 37, 3) := by decide +kernel
theorem dX1_become_65 : decode cX1_become 65 = .ok (.aload_n 1, 1) := by decide +kernel
theorem dX1_become_66 : decode cX1_become 66 = .ok (.getfield 21, 3) := by decide +kernel
theorem dX1_become_69 : decode cX1_become 69 = .ok (.aload_n 0, 1) := by decide +kernel
theorem dX1_become_70 : decode cX1_become 70 = .ok (.getfield 21, 3) := by decide +kernel
theorem dX1_become_73 : decode cX1_become 73 = .ok (.invokestatic 37, 3) := by decide +kernel
theorem dX1_become_76 : decode cX1_become 76 = .ok (.return_, 1) := by decide +kernel
theorem dX1_hourOf_0 : decode cX1_hourOf 0 = .ok (.aload_n 0, 1) := by decide +kernel
theorem dX1_hourOf_1 : decode cX1_hourOf 1 = .ok (.getfield 24, 3) := by decide +kernel
theorem dX1_hourOf_4 : decode cX1_hourOf 4 = .ok (.ifCond .le 12, 3) := by decide +kernel
theorem dX1_hourOf_7 : decode cX1_hourOf 7 = .ok (.iload_n 1, 1) := by decide +kernel
theorem dX1_hourOf_8 : decode cX1_hourOf 8 = .ok (.aload_n 0, 1) := by decide +kernel
theorem dX1_hourOf_9 : decode cX1_hourOf 9 = .ok (.getfield 24, 3) := by decide +kernel
theorem dX1_hourOf_12 : decode cX1_hourOf 12 = .ok (.idiv, 1) := by decide +kernel
theorem dX1_hourOf_13 : decode cX1_hourOf 13 = .ok (.goto 4, 3) := by decide +kernel
theorem dX1_hourOf_16 : decode cX1_hourOf 16 = .ok (.iconst 0, 1) := by decide +kernel
theorem dX1_hourOf_17 : decode cX1_hourOf 17 = .ok (.ireturn, 1) := by decide +kernel
theorem dX1_isPerson_0 : decode cX1_isPerson 0 = .ok (.iload_n 1, 1) := by decide +kernel
theorem dX1_isPerson_1 : decode cX1_isPerson 1 = .ok (.ifCond .lt 24, 3) := by decide +kernel
theorem dX1_isPerson_4 : decode cX1_isPerson 4 = .ok (.iload_n 1, 1) := by decide +kernel
theorem dX1_isPerson_5 : decode cX1_isPerson 5 = .ok (.aload_n 0, 1) := by decide +kernel
theorem dX1_isPerson_6 : decode cX1_isPerson 6 = .ok (.getfield 28, 3) := by decide +kernel
theorem dX1_isPerson_9 : decode cX1_isPerson 9 = .ok (.if_icmp .ge 16, 3) := by decide +kernel
theorem dX1_isPerson_12 : decode cX1_isPerson 12 = .ok (.iload_n 1, 1) := by decide +kernel
theorem dX1_isPerson_13 : decode cX1_isPerson 13 = .ok (.aload_n 0, 1) := by decide +kernel
theorem dX1_isPerson_14 : decode cX1_isPerson 14 = .ok (.getfield 9, 3) := by decide +kernel
theorem dX1_isPerson_17 : decode cX1_isPerson 17 = .ok (.arraylength, 1) := by decide +kernel
theorem dX1_isPerson_18 : decode cX1_isPerson 18 = .ok (.if_icmp .ge 7, 3) := by decide +kernel
theorem dX1_isPerson_21 : decode cX1_isPerson 21 = .ok (.iconst 1, 1) := by decide +kernel
theorem dX1_isPerson_22 : decode cX1_isPerson 22 = .ok (.goto 4, 3) := by decide +kernel
theorem dX1_isPerson_25 : decode cX1_isPerson 25 = .ok (.iconst 0, 1) := by decide +kernel
theorem dX1_isPerson_26 : decode cX1_isPerson 26 = .ok (.ireturn, 1) := by decide +kernel
theorem dX1_isWay_0 : decode cX1_isWay 0 = .ok (.iload_n 1, 1) := by decide +kernel
theorem dX1_isWay_1 : decode cX1_isWay 1 = .ok (.ifCond .lt 38, 3) := by decide +kernel
theorem dX1_isWay_4 : decode cX1_isWay 4 = .ok (.iload_n 1, 1) := by decide +kernel
theorem dX1_isWay_5 : decode cX1_isWay 5 = .ok (.aload_n 0, 1) := by decide +kernel
theorem dX1_isWay_6 : decode cX1_isWay 6 = .ok (.getfield 28, 3) := by decide +kernel
theorem dX1_isWay_9 : decode cX1_isWay 9 = .ok (.if_icmp .ge 30, 3) := by decide +kernel
theorem dX1_isWay_12 : decode cX1_isWay 12 = .ok (.iload_n 1, 1) := by decide +kernel
theorem dX1_isWay_13 : decode cX1_isWay 13 = .ok (.aload_n 0, 1) := by decide +kernel
theorem dX1_isWay_14 : decode cX1_isWay 14 = .ok (.getfield 9, 3) := by decide +kernel
theorem dX1_isWay_17 : decode cX1_isWay 17 = .ok (.arraylength, 1) := by decide +kernel
theorem dX1_isWay_18 : decode cX1_isWay 18 = .ok (.if_icmp .ge 21, 3) := by decide +kernel
theorem dX1_isWay_21 : decode cX1_isWay 21 = .ok (.iload_n 2, 1) := by decide +kernel
theorem dX1_isWay_22 : decode cX1_isWay 22 = .ok (.ifCond .lt 17, 3) := by decide +kernel
theorem dX1_isWay_25 : decode cX1_isWay 25 = .ok (.iload_n 2, 1) := by decide +kernel
theorem dX1_isWay_26 : decode cX1_isWay 26 = .ok (.aload_n 0, 1) := by decide +kernel
theorem dX1_isWay_27 : decode cX1_isWay 27 = .ok (.getfield 9, 3) := by decide +kernel
theorem dX1_isWay_30 : decode cX1_isWay 30 = .ok (.iload_n 1, 1) := by decide +kernel
theorem dX1_isWay_31 : decode cX1_isWay 31 = .ok (.iaload, 1) := by decide +kernel
theorem dX1_isWay_32 : decode cX1_isWay 32 = .ok (.if_icmp .ge 7, 3) := by decide +kernel
theorem dX1_isWay_35 : decode cX1_isWay 35 = .ok (.iconst 1, 1) := by decide +kernel
theorem dX1_isWay_36 : decode cX1_isWay 36 = .ok (.goto 4, 3) := by decide +kernel
theorem dX1_isWay_39 : decode cX1_isWay 39 = .ok (.iconst 0, 1) := by decide +kernel
theorem dX1_isWay_40 : decode cX1_isWay 40 = .ok (.ireturn, 1) := by decide +kernel
theorem dX1_wayPart_0 : decode cX1_wayPart 0 = .ok (.iload_n 1, 1) := by decide +kernel
theorem dX1_wayPart_1 : decode cX1_wayPart 1 = .ok (.iconst 4, 1) := by decide +kernel
theorem dX1_wayPart_2 : decode cX1_wayPart 2 = .ok (.imul, 1) := by decide +kernel
theorem dX1_wayPart_3 : decode cX1_wayPart 3 = .ok (.iload_n 2, 1) := by decide +kernel
theorem dX1_wayPart_4 : decode cX1_wayPart 4 = .ok (.iadd, 1) := by decide +kernel
theorem dX1_wayPart_5 : decode cX1_wayPart 5 = .ok (.iconst 4, 1) := by decide +kernel
theorem dX1_wayPart_6 : decode cX1_wayPart 6 = .ok (.imul, 1) := by decide +kernel
theorem dX1_wayPart_7 : decode cX1_wayPart 7 = .ok (.iload_n 3, 1) := by decide +kernel
theorem dX1_wayPart_8 : decode cX1_wayPart 8 = .ok (.iadd, 1) := by decide +kernel
theorem dX1_wayPart_9 : decode cX1_wayPart 9 = .ok (.istore 4, 2) := by decide +kernel
theorem dX1_wayPart_11 : decode cX1_wayPart 11 = .ok (.iload 4, 2) := by decide +kernel
theorem dX1_wayPart_13 : decode cX1_wayPart 13 = .ok (.ifCond .lt 23, 3) := by decide +kernel
theorem dX1_wayPart_16 : decode cX1_wayPart 16 = .ok (.iload 4, 2) := by decide +kernel
theorem dX1_wayPart_18 : decode cX1_wayPart 18 = .ok (.aload_n 0, 1) := by decide +kernel
theorem dX1_wayPart_19 : decode cX1_wayPart 19 = .ok (.getfield 15, 3) := by decide +kernel
theorem dX1_wayPart_22 : decode cX1_wayPart 22 = .ok (.arraylength, 1) := by decide +kernel
theorem dX1_wayPart_23 : decode cX1_wayPart 23 = .ok (.if_icmp .ge 13, 3) := by decide +kernel
theorem dX1_wayPart_26 : decode cX1_wayPart 26 = .ok (.aload_n 0, 1) := by decide +kernel
theorem dX1_wayPart_27 : decode cX1_wayPart 27 = .ok (.getfield 15, 3) := by decide +kernel
theorem dX1_wayPart_30 : decode cX1_wayPart 30 = .ok (.iload 4, 2) := by decide +kernel
theorem dX1_wayPart_32 : decode cX1_wayPart 32 = .ok (.iaload, 1) := by decide +kernel
theorem dX1_wayPart_33 : decode cX1_wayPart 33 = .ok (.goto 4, 3) := by decide +kernel
theorem dX1_wayPart_36 : decode cX1_wayPart 36 = .ok (.iconst 0, 1) := by decide +kernel
theorem dX1_wayPart_37 : decode cX1_wayPart 37 = .ok (.ireturn, 1) := by decide +kernel
theorem dX1_marchPart_0 : decode cX1_marchPart 0 = .ok (.iload_n 1, 1) := by decide +kernel
theorem dX1_marchPart_1 : decode cX1_marchPart 1 = .ok (.iconst 3, 1) := by decide +kernel
theorem dX1_marchPart_2 : decode cX1_marchPart 2 = .ok (.imul, 1) := by decide +kernel
theorem dX1_marchPart_3 : decode cX1_marchPart 3 = .ok (.iload_n 2, 1) := by decide +kernel
theorem dX1_marchPart_4 : decode cX1_marchPart 4 = .ok (.iadd, 1) := by decide +kernel
theorem dX1_marchPart_5 : decode cX1_marchPart 5 = .ok (.istore_n 3, 1) := by decide +kernel
theorem dX1_marchPart_6 : decode cX1_marchPart 6 = .ok (.iload_n 3, 1) := by decide +kernel
theorem dX1_marchPart_7 : decode cX1_marchPart 7 = .ok (.ifCond .lt 21, 3) := by decide +kernel
theorem dX1_marchPart_10 : decode cX1_marchPart 10 = .ok (.iload_n 3, 1) := by decide +kernel
theorem dX1_marchPart_11 : decode cX1_marchPart 11 = .ok (.aload_n 0, 1) := by decide +kernel
theorem dX1_marchPart_12 : decode cX1_marchPart 12 = .ok (.getfield 18, 3) := by decide +kernel
theorem dX1_marchPart_15 : decode cX1_marchPart 15 = .ok (.arraylength, 1) := by decide +kernel
theorem dX1_marchPart_16 : decode cX1_marchPart 16 = .ok (.if_icmp .ge 12, 3) := by decide +kernel
theorem dX1_marchPart_19 : decode cX1_marchPart 19 = .ok (.aload_n 0, 1) := by decide +kernel
theorem dX1_marchPart_20 : decode cX1_marchPart 20 = .ok (.getfield 18, 3) := by decide +kernel
theorem dX1_marchPart_23 : decode cX1_marchPart 23 = .ok (.iload_n 3, 1) := by decide +kernel
theorem dX1_marchPart_24 : decode cX1_marchPart 24 = .ok (.iaload, 1) := by decide +kernel
theorem dX1_marchPart_25 : decode cX1_marchPart 25 = .ok (.goto 4, 3) := by decide +kernel
theorem dX1_marchPart_28 : decode cX1_marchPart 28 = .ok (.iconst 0, 1) := by decide +kernel
theorem dX1_marchPart_29 : decode cX1_marchPart 29 = .ok (.ireturn, 1) := by decide +kernel
theorem dX1_workPart_0 : decode cX1_workPart 0 = .ok (.iload_n 1, 1) := by decide +kernel
theorem dX1_workPart_1 : decode cX1_workPart 1 = .ok (.iconst 3, 1) := by decide +kernel
theorem dX1_workPart_2 : decode cX1_workPart 2 = .ok (.imul, 1) := by decide +kernel
theorem dX1_workPart_3 : decode cX1_workPart 3 = .ok (.iload_n 2, 1) := by decide +kernel
theorem dX1_workPart_4 : decode cX1_workPart 4 = .ok (.iadd, 1) := by decide +kernel
theorem dX1_workPart_5 : decode cX1_workPart 5 = .ok (.istore_n 3, 1) := by decide +kernel
theorem dX1_workPart_6 : decode cX1_workPart 6 = .ok (.iload_n 3, 1) := by decide +kernel
theorem dX1_workPart_7 : decode cX1_workPart 7 = .ok (.ifCond .lt 21, 3) := by decide +kernel
theorem dX1_workPart_10 : decode cX1_workPart 10 = .ok (.iload_n 3, 1) := by decide +kernel
theorem dX1_workPart_11 : decode cX1_workPart 11 = .ok (.aload_n 0, 1) := by decide +kernel
theorem dX1_workPart_12 : decode cX1_workPart 12 = .ok (.getfield 21, 3) := by decide +kernel
theorem dX1_workPart_15 : decode cX1_workPart 15 = .ok (.arraylength, 1) := by decide +kernel
theorem dX1_workPart_16 : decode cX1_workPart 16 = .ok (.if_icmp .ge 12, 3) := by decide +kernel
theorem dX1_workPart_19 : decode cX1_workPart 19 = .ok (.aload_n 0, 1) := by decide +kernel
theorem dX1_workPart_20 : decode cX1_workPart 20 = .ok (.getfield 21, 3) := by decide +kernel
theorem dX1_workPart_23 : decode cX1_workPart 23 = .ok (.iload_n 3, 1) := by decide +kernel
theorem dX1_workPart_24 : decode cX1_workPart 24 = .ok (.iaload, 1) := by decide +kernel
theorem dX1_workPart_25 : decode cX1_workPart 25 = .ok (.goto 4, 3) := by decide +kernel
theorem dX1_workPart_28 : decode cX1_workPart 28 = .ok (.iconst 0, 1) := by decide +kernel
theorem dX1_workPart_29 : decode cX1_workPart 29 = .ok (.ireturn, 1) := by decide +kernel
theorem dX1_canAddPerson_0 : decode cX1_canAddPerson 0 = .ok (.aload_n 0, 1) := by decide +kernel
theorem dX1_canAddPerson_1 : decode cX1_canAddPerson 1 = .ok (.getfield 28, 3) := by decide +kernel
theorem dX1_canAddPerson_4 : decode cX1_canAddPerson 4 = .ok (.ifCond .lt 19, 3) := by decide +kernel
theorem dX1_canAddPerson_7 : decode cX1_canAddPerson 7 = .ok (.aload_n 0, 1) := by decide +kernel
theorem dX1_canAddPerson_8 : decode cX1_canAddPerson 8 = .ok (.getfield 28, 3) := by decide +kernel
theorem dX1_canAddPerson_11 : decode cX1_canAddPerson 11 = .ok (.aload_n 0, 1) := by decide +kernel
theorem dX1_canAddPerson_12 : decode cX1_canAddPerson 12 = .ok (.getfield 9, 3) := by decide +kernel
theorem dX1_canAddPerson_15 : decode cX1_canAddPerson 15 = .ok (.arraylength, 1) := by decide +kernel
theorem dX1_canAddPerson_16 : decode cX1_canAddPerson 16 = .ok (.if_icmp .ge 7, 3) := by decide +kernel
theorem dX1_canAddPerson_19 : decode cX1_canAddPerson 19 = .ok (.iconst 1, 1) := by decide +kernel
theorem dX1_canAddPerson_20 : decode cX1_canAddPerson 20 = .ok (.goto 4, 3) := by decide +kernel
theorem dX1_canAddPerson_23 : decode cX1_canAddPerson 23 = .ok (.iconst 0, 1) := by decide +kernel
theorem dX1_canAddPerson_24 : decode cX1_canAddPerson 24 = .ok (.ireturn, 1) := by decide +kernel
set_option maxRecDepth 20000 in
theorem ggX1_addPerson_X1_canAddPerson : GoodIn wsX1_addPerson wsX1_canAddPerson := goodIn_r _ [7, 2, 1, 8, 9, 10, 11, 12, 13, 14, 15] (by decide +kernel) (by decide +kernel)
set_option maxRecDepth 20000 in
theorem gX1_addPerson_X1_canAddPerson : GoodIn wsX1_addPerson (wsV RX1 41 RX1 yX1_canAddPerson wsX1_canAddPerson) := goodIn_app (goodIn_of _ (by decide +kernel)) ggX1_addPerson_X1_canAddPerson
theorem dX1_addPerson_0 : decode cX1_addPerson 0 = .ok (.aload_n 0, 1) := by decide +kernel
theorem dX1_addPerson_1 : decode cX1_addPerson 1 = .ok (.invokevirtual 41, 3) := by decide +kernel
theorem dX1_addPerson_4 : decode cX1_addPerson 4 = .ok (.ifCond .eq 23, 3) := by decide +kernel
theorem dX1_addPerson_7 : decode cX1_addPerson 7 = .ok (.aload_n 0, 1) := by decide +kernel
theorem dX1_addPerson_8 : decode cX1_addPerson 8 = .ok (.getfield 9, 3) := by decide +kernel
theorem dX1_addPerson_11 : decode cX1_addPerson 11 = .ok (.aload_n 0, 1) := by decide +kernel
theorem dX1_addPerson_12 : decode cX1_addPerson 12 = .ok (.getfield 28, 3) := by decide +kernel
theorem dX1_addPerson_15 : decode cX1_addPerson 15 = .ok (.iconst 0, 1) := by decide +kernel
theorem dX1_addPerson_16 : decode cX1_addPerson 16 = .ok (.iastore, 1) := by decide +kernel
theorem dX1_addPerson_17 : decode cX1_addPerson 17 = .ok (.aload_n 0, 1) := by decide +kernel
theorem dX1_addPerson_18 : decode cX1_addPerson 18 = .ok (.dup, 1) := by decide +kernel
theorem dX1_addPerson_19 : decode cX1_addPerson 19 = .ok (.getfield 28, 3) := by decide +kernel
theorem dX1_addPerson_22 : decode cX1_addPerson 22 = .ok (.iconst 1, 1) := by decide +kernel
theorem dX1_addPerson_23 : decode cX1_addPerson 23 = .ok (.iadd, 1) := by decide +kernel
theorem dX1_addPerson_24 : decode cX1_addPerson 24 = .ok (.putfield 28, 3) := by decide +kernel
theorem dX1_addPerson_27 : decode cX1_addPerson 27 = .ok (.return_, 1) := by decide +kernel
set_option maxRecDepth 20000 in
theorem ggX1_canAddWay_X1_isPerson : GoodIn wsX1_canAddWay wsX1_isPerson := goodIn_r _ [7, 1, 2, 8, 9, 10, 11, 12, 13, 14, 15] (by decide +kernel) (by decide +kernel)
set_option maxRecDepth 20000 in
theorem gX1_canAddWay_X1_isPerson : GoodIn wsX1_canAddWay (wsV RX1 45 RX1 yX1_isPerson wsX1_isPerson) := goodIn_app (goodIn_of _ (by decide +kernel)) ggX1_canAddWay_X1_isPerson
theorem dX1_canAddWay_0 : decode cX1_canAddWay 0 = .ok (.aload_n 0, 1) := by decide +kernel
theorem dX1_canAddWay_1 : decode cX1_canAddWay 1 = .ok (.aload_n 0, 1) := by decide +kernel
theorem dX1_canAddWay_2 : decode cX1_canAddWay 2 = .ok (.getfield 28, 3) := by decide +kernel
theorem dX1_canAddWay_5 : decode cX1_canAddWay 5 = .ok (.iconst 1, 1) := by decide +kernel
theorem dX1_canAddWay_6 : decode cX1_canAddWay 6 = .ok (.isub, 1) := by decide +kernel
theorem dX1_canAddWay_7 : decode cX1_canAddWay 7 = .ok (.invokevirtual 45, 3) := by decide +kernel
theorem dX1_canAddWay_10 : decode cX1_canAddWay 10 = .ok (.ifCond .eq 22, 3) := by decide +kernel
theorem dX1_canAddWay_13 : decode cX1_canAddWay 13 = .ok (.aload_n 0, 1) := by decide +kernel
theorem dX1_canAddWay_14 : decode cX1_canAddWay 14 = .ok (.getfield 9, 3) := by decide +kernel
theorem dX1_canAddWay_17 : decode cX1_canAddWay 17 = .ok (.aload_n 0, 1) := by decide +kernel
theorem dX1_canAddWay_18 : decode cX1_canAddWay 18 = .ok (.getfield 28, 3) := by decide +kernel
theorem dX1_canAddWay_21 : decode cX1_canAddWay 21 = .ok (.iconst 1, 1) := by decide +kernel
theorem dX1_canAddWay_22 : decode cX1_canAddWay 22 = .ok (.isub, 1) := by decide +kernel
theorem dX1_canAddWay_23 : decode cX1_canAddWay 23 = .ok (.iaload, 1) := by decide +kernel
theorem dX1_canAddWay_24 : decode cX1_canAddWay 24 = .ok (.iconst 4, 1) := by decide +kernel
theorem dX1_canAddWay_25 : decode cX1_canAddWay 25 = .ok (.if_icmp .ge 7, 3) := by decide +kernel
theorem dX1_canAddWay_28 : decode cX1_canAddWay 28 = .ok (.iconst 1, 1) := by decide +kernel
theorem dX1_canAddWay_29 : decode cX1_canAddWay 29 = .ok (.goto 4, 3) := by decide +kernel
theorem dX1_canAddWay_32 : decode cX1_canAddWay 32 = .ok (.iconst 0, 1) := by decide +kernel
theorem dX1_canAddWay_33 : decode cX1_canAddWay 33 = .ok (.ireturn, 1) := by decide +kernel
set_option maxRecDepth 20000 in
theorem ggX1_addWay_X1_canAddWay : GoodIn wsX1_addWay wsX1_canAddWay := goodIn_r _ [8, 1, 2, 9, 10, 11, 7, 12, 13, 14, 15, 16, 17, 18, 19, 20] (by decide +kernel) (by decide +kernel)
set_option maxRecDepth 20000 in
theorem gX1_addWay_X1_canAddWay : GoodIn wsX1_addWay (wsV RX1 49 RX1 yX1_canAddWay wsX1_canAddWay) := goodIn_app (goodIn_of _ (by decide +kernel)) ggX1_addWay_X1_canAddWay
theorem dX1_addWay_0 : decode cX1_addWay 0 = .ok (.aload_n 0, 1) := by decide +kernel
theorem dX1_addWay_1 : decode cX1_addWay 1 = .ok (.invokevirtual 49, 3) := by decide +kernel
theorem dX1_addWay_4 : decode cX1_addWay 4 = .ok (.ifCond .ne 4, 3) := by decide +kernel
theorem dX1_addWay_7 : decode cX1_addWay 7 = .ok (.return_, 1) := by decide +kernel
theorem dX1_addWay_8 : decode cX1_addWay 8 = .ok (.aload_n 0, 1) := by decide +kernel
theorem dX1_addWay_9 : decode cX1_addWay 9 = .ok (.getfield 28, 3) := by decide +kernel
theorem dX1_addWay_12 : decode cX1_addWay 12 = .ok (.iconst 1, 1) := by decide +kernel
theorem dX1_addWay_13 : decode cX1_addWay 13 = .ok (.isub, 1) := by decide +kernel
theorem dX1_addWay_14 : decode cX1_addWay 14 = .ok (.istore 5, 2) := by decide +kernel
theorem dX1_addWay_16 : decode cX1_addWay 16 = .ok (.iload 5, 2) := by decide +kernel
theorem dX1_addWay_18 : decode cX1_addWay 18 = .ok (.iconst 4, 1) := by decide +kernel
theorem dX1_addWay_19 : decode cX1_addWay 19 = .ok (.imul, 1) := by decide +kernel
theorem dX1_addWay_20 : decode cX1_addWay 20 = .ok (.aload_n 0, 1) := by decide +kernel
theorem dX1_addWay_21 : decode cX1_addWay 21 = .ok (.getfield 9, 3) := by decide +kernel
theorem dX1_addWay_24 : decode cX1_addWay 24 = .ok (.iload 5, 2) := by decide +kernel
theorem dX1_addWay_26 : decode cX1_addWay 26 = .ok (.iaload, 1) := by decide +kernel
theorem dX1_addWay_27 : decode cX1_addWay 27 = .ok (.iadd, 1) := by decide +kernel
theorem dX1_addWay_28 : decode cX1_addWay 28 = .ok (.iconst 4, 1) := by decide +kernel
theorem dX1_addWay_29 : decode cX1_addWay 29 = .ok (.imul, 1) := by decide +kernel
theorem dX1_addWay_30 : decode cX1_addWay 30 = .ok (.istore 6, 2) := by decide +kernel
theorem dX1_addWay_32 : decode cX1_addWay 32 = .ok (.iload 6, 2) := by decide +kernel
theorem dX1_addWay_34 : decode cX1_addWay 34 = .ok (.ifCond .lt 65, 3) := by decide +kernel
theorem dX1_addWay_37 : decode cX1_addWay 37 = .ok (.iload 6, 2) := by decide +kernel
theorem dX1_addWay_39 : decode cX1_addWay 39 = .ok (.iconst 3, 1) := by decide +kernel
theorem dX1_addWay_40 : decode cX1_addWay 40 = .ok (.iadd, 1) := by decide +kernel
theorem dX1_addWay_41 : decode cX1_addWay 41 = .ok (.aload_n 0, 1) := by decide +kernel
theorem dX1_addWay_42 : decode cX1_addWay 42 = .ok (.getfield 15, 3) := by decide +kernel
theorem dX1_addWay_45 : decode cX1_addWay 45 = .ok (.arraylength, 1) := by decide +kernel
theorem dX1_addWay_46 : decode cX1_addWay 46 = .ok (.if_icmp .ge 53, 3) := by decide +kernel
theorem dX1_addWay_49 : decode cX1_addWay 49 = .ok (.aload_n 0, 1) := by decide +kernel
theorem dX1_addWay_50 : decode cX1_addWay 50 = .ok (.getfield 15, 3) := by decide +kernel
theorem dX1_addWay_53 : decode cX1_addWay 53 = .ok (.iload 6, 2) := by decide +kernel
theorem dX1_addWay_55 : decode cX1_addWay 55 = .ok (.iload_n 1, 1) := by decide +kernel
theorem dX1_addWay_56 : decode cX1_addWay 56 = .ok (.iastore, 1) := by decide +kernel
theorem dX1_addWay_57 : decode cX1_addWay 57 = .ok (.aload_n 0, 1) := by decide +kernel
theorem dX1_addWay_58 : decode cX1_addWay 58 = .ok (.getfield 15, 3) := by decide +kernel
theorem dX1_addWay_61 : decode cX1_addWay 61 = .ok (.iload 6, 2) := by decide +kernel
theorem dX1_addWay_63 : decode cX1_addWay 63 = .ok (.iconst 1, 1) := by decide +kernel
theorem dX1_addWay_64 : decode cX1_addWay 64 = .ok (.iadd, 1) := by decide +kernel
theorem dX1_addWay_65 : decode cX1_addWay 65 = .ok (.iload_n 2, 1) := by decide +kernel
theorem dX1_addWay_66 : decode cX1_addWay 66 = .ok (.iastore, 1) := by decide +kernel
theorem dX1_addWay_67 : decode cX1_addWay 67 = .ok (.aload_n 0, 1) := by decide +kernel
theorem dX1_addWay_68 : decode cX1_addWay 68 = .ok (.getfield 15, 3) := by decide +kernel
theorem dX1_addWay_71 : decode cX1_addWay 71 = .ok (.iload 6, 2) := by decide +kernel
theorem dX1_addWay_73 : decode cX1_addWay 73 = .ok (.iconst 2, 1) := by decide +kernel
theorem dX1_addWay_74 : decode cX1_addWay 74 = .ok (.iadd, 1) := by decide +kernel
theorem dX1_addWay_75 : decode cX1_addWay 75 = .ok (.iload_n 3, 1) := by decide +kernel
theorem dX1_addWay_76 : decode cX1_addWay 76 = .ok (.iastore, 1) := by decide +kernel
theorem dX1_addWay_77 : decode cX1_addWay 77 = .ok (.aload_n 0, 1) := by decide +kernel
theorem dX1_addWay_78 : decode cX1_addWay 78 = .ok (.getfield 15, 3) := by decide +kernel
theorem dX1_addWay_81 : decode cX1_addWay 81 = .ok (.iload 6, 2) := by decide +kernel
theorem dX1_addWay_83 : decode cX1_addWay 83 = .ok (.iconst 3, 1) := by decide +kernel
theorem dX1_addWay_84 : decode cX1_addWay 84 = .ok (.iadd, 1) := by decide +kernel
theorem dX1_addWay_85 : decode cX1_addWay 85 = .ok (.iload 4, 2) := by decide +kernel
theorem dX1_addWay_87 : decode cX1_addWay 87 = .ok (.iastore, 1) := by decide +kernel
theorem dX1_addWay_88 : decode cX1_addWay 88 = .ok (.aload_n 0, 1) := by decide +kernel
theorem dX1_addWay_89 : decode cX1_addWay 89 = .ok (.getfield 9, 3) := by decide +kernel
theorem dX1_addWay_92 : decode cX1_addWay 92 = .ok (.iload 5, 2) := by decide +kernel
theorem dX1_addWay_94 : decode cX1_addWay 94 = .ok (.dup2, 1) := by decide +kernel
theorem dX1_addWay_95 : decode cX1_addWay 95 = .ok (.iaload, 1) := by decide +kernel
theorem dX1_addWay_96 : decode cX1_addWay 96 = .ok (.iconst 1, 1) := by decide +kernel
theorem dX1_addWay_97 : decode cX1_addWay 97 = .ok (.iadd, 1) := by decide +kernel
theorem dX1_addWay_98 : decode cX1_addWay 98 = .ok (.iastore, 1) := by decide +kernel
theorem dX1_addWay_99 : decode cX1_addWay 99 = .ok (.return_, 1) := by decide +kernel
theorem dX1_canAddMarch_0 : decode cX1_canAddMarch 0 = .ok (.aload_n 0, 1) := by decide +kernel
theorem dX1_canAddMarch_1 : decode cX1_canAddMarch 1 = .ok (.getfield 31, 3) := by decide +kernel
theorem dX1_canAddMarch_4 : decode cX1_canAddMarch 4 = .ok (.iconst 4, 1) := by decide +kernel
theorem dX1_canAddMarch_5 : decode cX1_canAddMarch 5 = .ok (.if_icmp .ge 7, 3) := by decide +kernel
theorem dX1_canAddMarch_8 : decode cX1_canAddMarch 8 = .ok (.iconst 1, 1) := by decide +kernel
theorem dX1_canAddMarch_9 : decode cX1_canAddMarch 9 = .ok (.goto 4, 3) := by decide +kernel
theorem dX1_canAddMarch_12 : decode cX1_canAddMarch 12 = .ok (.iconst 0, 1) := by decide +kernel
theorem dX1_canAddMarch_13 : decode cX1_canAddMarch 13 = .ok (.ireturn, 1) := by decide +kernel
theorem dX1_addMarch_0 : decode cX1_addMarch 0 = .ok (.aload_n 0, 1) := by decide +kernel
theorem dX1_addMarch_1 : decode cX1_addMarch 1 = .ok (.getfield 31, 3) := by decide +kernel
theorem dX1_addMarch_4 : decode cX1_addMarch 4 = .ok (.iconst 3, 1) := by decide +kernel
theorem dX1_addMarch_5 : decode cX1_addMarch 5 = .ok (.imul, 1) := by decide +kernel
theorem dX1_addMarch_6 : decode cX1_addMarch 6 = .ok (.istore 4, 2) := by decide +kernel
theorem dX1_addMarch_8 : decode cX1_addMarch 8 = .ok (.iload 4, 2) := by decide +kernel
theorem dX1_addMarch_10 : decode cX1_addMarch 10 = .ok (.ifCond .lt 53, 3) := by decide +kernel
theorem dX1_addMarch_13 : decode cX1_addMarch 13 = .ok (.iload 4, 2) := by decide +kernel
theorem dX1_addMarch_15 : decode cX1_addMarch 15 = .ok (.iconst 2, 1) := by decide +kernel
theorem dX1_addMarch_16 : decode cX1_addMarch 16 = .ok (.iadd, 1) := by decide +kernel
theorem dX1_addMarch_17 : decode cX1_addMarch 17 = .ok (.aload_n 0, 1) := by decide +kernel
theorem dX1_addMarch_18 : decode cX1_addMarch 18 = .ok (.getfield 18, 3) := by decide +kernel
theorem dX1_addMarch_21 : decode cX1_addMarch 21 = .ok (.arraylength, 1) := by decide +kernel
theorem dX1_addMarch_22 : decode cX1_addMarch 22 = .ok (.if_icmp .ge 41, 3) := by decide +kernel
theorem dX1_addMarch_25 : decode cX1_addMarch 25 = .ok (.aload_n 0, 1) := by decide +kernel
theorem dX1_addMarch_26 : decode cX1_addMarch 26 = .ok (.getfield 18, 3) := by decide +kernel
theorem dX1_addMarch_29 : decode cX1_addMarch 29 = .ok (.iload 4, 2) := by decide +kernel
theorem dX1_addMarch_31 : decode cX1_addMarch 31 = .ok (.iload_n 1, 1) := by decide +kernel
theorem dX1_addMarch_32 : decode cX1_addMarch 32 = .ok (.iastore, 1) := by decide +kernel
theorem dX1_addMarch_33 : decode cX1_addMarch 33 = .ok (.aload_n 0, 1) := by decide +kernel
theorem dX1_addMarch_34 : decode cX1_addMarch 34 = .ok (.getfield 18, 3) := by decide +kernel
theorem dX1_addMarch_37 : decode cX1_addMarch 37 = .ok (.iload 4, 2) := by decide +kernel
theorem dX1_addMarch_39 : decode cX1_addMarch 39 = .ok (.iconst 1, 1) := by decide +kernel
theorem dX1_addMarch_40 : decode cX1_addMarch 40 = .ok (.iadd, 1) := by decide +kernel
theorem dX1_addMarch_41 : decode cX1_addMarch 41 = .ok (.iload_n 2, 1) := by decide +kernel
theorem dX1_addMarch_42 : decode cX1_addMarch 42 = .ok (.iastore, 1) := by decide +kernel
theorem dX1_addMarch_43 : decode cX1_addMarch 43 = .ok (.aload_n 0, 1) := by decide +kernel
theorem dX1_addMarch_44 : decode cX1_addMarch 44 = .ok (.getfield 18, 3) := by decide +kernel
theorem dX1_addMarch_47 : decode cX1_addMarch 47 = .ok (.iload 4, 2) := by decide +kernel
theorem dX1_addMarch_49 : decode cX1_addMarch 49 = .ok (.iconst 2, 1) := by decide +kernel
theorem dX1_addMarch_50 : decode cX1_addMarch 50 = .ok (.iadd, 1) := by decide +kernel
theorem dX1_addMarch_51 : decode cX1_addMarch 51 = .ok (.iload_n 3, 1) := by decide +kernel
theorem dX1_addMarch_52 : decode cX1_addMarch 52 = .ok (.iastore, 1) := by decide +kernel
theorem dX1_addMarch_53 : decode cX1_addMarch 53 = .ok (.aload_n 0, 1) := by decide +kernel
theorem dX1_addMarch_54 : decode cX1_addMarch 54 = .ok (.dup, 1) := by decide +kernel
theorem dX1_addMarch_55 : decode cX1_addMarch 55 = .ok (.getfield 31, 3) := by decide +kernel
theorem dX1_addMarch_58 : decode cX1_addMarch 58 = .ok (.iconst 1, 1) := by decide +kernel
theorem dX1_addMarch_59 : decode cX1_addMarch 59 = .ok (.iadd, 1) := by decide +kernel
theorem dX1_addMarch_60 : decode cX1_addMarch 60 = .ok (.putfield 31, 3) := by decide +kernel
theorem dX1_addMarch_63 : decode cX1_addMarch 63 = .ok (.return_, 1) := by decide +kernel
theorem dX1_canAddWork_0 : decode cX1_canAddWork 0 = .ok (.aload_n 0, 1) := by decide +kernel
theorem dX1_canAddWork_1 : decode cX1_canAddWork 1 = .ok (.getfield 34, 3) := by decide +kernel
theorem dX1_canAddWork_4 : decode cX1_canAddWork 4 = .ok (.bipush 6, 2) := by decide +kernel
theorem dX1_canAddWork_6 : decode cX1_canAddWork 6 = .ok (.if_icmp .ge 7, 3) := by decide +kernel
theorem dX1_canAddWork_9 : decode cX1_canAddWork 9 = .ok (.iconst 1, 1) := by decide +kernel
theorem dX1_canAddWork_10 : decode cX1_canAddWork 10 = .ok (.goto 4, 3) := by decide +kernel
theorem dX1_canAddWork_13 : decode cX1_canAddWork 13 = .ok (.iconst 0, 1) := by decide +kernel
theorem dX1_canAddWork_14 : decode cX1_canAddWork 14 = .ok (.ireturn, 1) := by decide +kernel
theorem dX1_addWork_0 : decode cX1_addWork 0 = .ok (.aload_n 0, 1) := by decide +kernel
theorem dX1_addWork_1 : decode cX1_addWork 1 = .ok (.getfield 34, 3) := by decide +kernel
theorem dX1_addWork_4 : decode cX1_addWork 4 = .ok (.iconst 3, 1) := by decide +kernel
theorem dX1_addWork_5 : decode cX1_addWork 5 = .ok (.imul, 1) := by decide +kernel
theorem dX1_addWork_6 : decode cX1_addWork 6 = .ok (.istore 4, 2) := by decide +kernel
theorem dX1_addWork_8 : decode cX1_addWork 8 = .ok (.iload 4, 2) := by decide +kernel
theorem dX1_addWork_10 : decode cX1_addWork 10 = .ok (.ifCond .lt 53, 3) := by decide +kernel
theorem dX1_addWork_13 : decode cX1_addWork 13 = .ok (.iload 4, 2) := by decide +kernel
theorem dX1_addWork_15 : decode cX1_addWork 15 = .ok (.iconst 2, 1) := by decide +kernel
theorem dX1_addWork_16 : decode cX1_addWork 16 = .ok (.iadd, 1) := by decide +kernel
theorem dX1_addWork_17 : decode cX1_addWork 17 = .ok (.aload_n 0, 1) := by decide +kernel
theorem dX1_addWork_18 : decode cX1_addWork 18 = .ok (.getfield 21, 3) := by decide +kernel
theorem dX1_addWork_21 : decode cX1_addWork 21 = .ok (.arraylength, 1) := by decide +kernel
theorem dX1_addWork_22 : decode cX1_addWork 22 = .ok (.if_icmp .ge 41, 3) := by decide +kernel
theorem dX1_addWork_25 : decode cX1_addWork 25 = .ok (.aload_n 0, 1) := by decide +kernel
theorem dX1_addWork_26 : decode cX1_addWork 26 = .ok (.getfield 21, 3) := by decide +kernel
theorem dX1_addWork_29 : decode cX1_addWork 29 = .ok (.iload 4, 2) := by decide +kernel
theorem dX1_addWork_31 : decode cX1_addWork 31 = .ok (.iload_n 1, 1) := by decide +kernel
theorem dX1_addWork_32 : decode cX1_addWork 32 = .ok (.iastore, 1) := by decide +kernel
theorem dX1_addWork_33 : decode cX1_addWork 33 = .ok (.aload_n 0, 1) := by decide +kernel
theorem dX1_addWork_34 : decode cX1_addWork 34 = .ok (.getfield 21, 3) := by decide +kernel
theorem dX1_addWork_37 : decode cX1_addWork 37 = .ok (.iload 4, 2) := by decide +kernel
theorem dX1_addWork_39 : decode cX1_addWork 39 = .ok (.iconst 1, 1) := by decide +kernel
theorem dX1_addWork_40 : decode cX1_addWork 40 = .ok (.iadd, 1) := by decide +kernel
theorem dX1_addWork_41 : decode cX1_addWork 41 = .ok (.iload_n 2, 1) := by decide +kernel
theorem dX1_addWork_42 : decode cX1_addWork 42 = .ok (.iastore, 1) := by decide +kernel
theorem dX1_addWork_43 : decode cX1_addWork 43 = .ok (.aload_n 0, 1) := by decide +kernel
theorem dX1_addWork_44 : decode cX1_addWork 44 = .ok (.getfield 21, 3) := by decide +kernel
theorem dX1_addWork_47 : decode cX1_addWork 47 = .ok (.iload 4, 2) := by decide +kernel
theorem dX1_addWork_49 : decode cX1_addWork 49 = .ok (.iconst 2, 1) := by decide +kernel
theorem dX1_addWork_50 : decode cX1_addWork 50 = .ok (.iadd, 1) := by decide +kernel
theorem dX1_addWork_51 : decode cX1_addWork 51 = .ok (.iload_n 3, 1) := by decide +kernel
theorem dX1_addWork_52 : decode cX1_addWork 52 = .ok (.iastore, 1) := by decide +kernel
theorem dX1_addWork_53 : decode cX1_addWork 53 = .ok (.aload_n 0, 1) := by decide +kernel
theorem dX1_addWork_54 : decode cX1_addWork 54 = .ok (.dup, 1) := by decide +kernel
theorem dX1_addWork_55 : decode cX1_addWork 55 = .ok (.getfield 34, 3) := by decide +kernel
theorem dX1_addWork_58 : decode cX1_addWork 58 = .ok (.iconst 1, 1) := by decide +kernel
theorem dX1_addWork_59 : decode cX1_addWork 59 = .ok (.iadd, 1) := by decide +kernel
theorem dX1_addWork_60 : decode cX1_addWork 60 = .ok (.putfield 34, 3) := by decide +kernel
theorem dX1_addWork_63 : decode cX1_addWork 63 = .ok (.return_, 1) := by decide +kernel
set_option maxRecDepth 20000 in
theorem ggX1_marchSteps_X1_marchPart : GoodIn wsX1_marchSteps wsX1_marchPart := goodIn_r _ [6, 7, 8, 9, 10, 11, 12, 13, 14, 15] (by decide +kernel) (by decide +kernel)
set_option maxRecDepth 20000 in
theorem gX1_marchSteps_X1_marchPart : GoodIn wsX1_marchSteps (wsV RX1 52 RX1 yX1_marchPart wsX1_marchPart) := goodIn_app (goodIn_of _ (by decide +kernel)) ggX1_marchSteps_X1_marchPart
theorem dX1_marchSteps_0 : decode cX1_marchSteps 0 = .ok (.iconst 0, 1) := by decide +kernel
theorem dX1_marchSteps_1 : decode cX1_marchSteps 1 = .ok (.istore_n 2, 1) := by decide +kernel
theorem dX1_marchSteps_2 : decode cX1_marchSteps 2 = .ok (.iconst 0, 1) := by decide +kernel
theorem dX1_marchSteps_3 : decode cX1_marchSteps 3 = .ok (.istore_n 3, 1) := by decide +kernel
theorem dX1_marchSteps_4 : decode cX1_marchSteps 4 = .ok (.iload_n 3, 1) := by decide +kernel
theorem dX1_marchSteps_5 : decode cX1_marchSteps 5 = .ok (.aload_n 0, 1) := by decide +kernel
theorem dX1_marchSteps_6 : decode cX1_marchSteps 6 = .ok (.getfield 31, 3) := by decide +kernel
theorem dX1_marchSteps_9 : decode cX1_marchSteps 9 = .ok (.if_icmp .ge 45, 3) := by decide +kernel
theorem dX1_marchSteps_12 : decode cX1_marchSteps 12 = .ok (.aload_n 0, 1) := by decide +kernel
theorem dX1_marchSteps_13 : decode cX1_marchSteps 13 = .ok (.iload_n 3, 1) := by decide +kernel
theorem dX1_marchSteps_14 : decode cX1_marchSteps 14 = .ok (.iconst 0, 1) := by decide +kernel
theorem dX1_marchSteps_15 : decode cX1_marchSteps 15 = .ok (.invokevirtual 52, 3) := by decide +kernel
theorem dX1_marchSteps_18 : decode cX1_marchSteps 18 = .ok (.istore 4, 2) := by decide +kernel
theorem dX1_marchSteps_20 : decode cX1_marchSteps 20 = .ok (.iload_n 1, 1) := by decide +kernel
theorem dX1_marchSteps_21 : decode cX1_marchSteps 21 = .ok (.iload 4, 2) := by decide +kernel
theorem dX1_marchSteps_23 : decode cX1_marchSteps 23 = .ok (.if_icmp .lt 25, 3) := by decide +kernel
theorem dX1_marchSteps_26 : decode cX1_marchSteps 26 = .ok (.iload_n 1, 1) := by decide +kernel
theorem dX1_marchSteps_27 : decode cX1_marchSteps 27 = .ok (.iload 4, 2) := by decide +kernel
theorem dX1_marchSteps_29 : decode cX1_marchSteps 29 = .ok (.aload_n 0, 1) := by decide +kernel
theorem dX1_marchSteps_30 : decode cX1_marchSteps 30 = .ok (.iload_n 3, 1) := by decide +kernel
theorem dX1_marchSteps_31 : decode cX1_marchSteps 31 = .ok (.iconst 1, 1) := by decide +kernel
theorem dX1_marchSteps_32 : decode cX1_marchSteps 32 = .ok (.invokevirtual 52, 3) := by decide +kernel
theorem dX1_marchSteps_35 : decode cX1_marchSteps 35 = .ok (.iadd, 1) := by decide +kernel
theorem dX1_marchSteps_36 : decode cX1_marchSteps 36 = .ok (.if_icmp .ge 12, 3) := by decide +kernel
theorem dX1_marchSteps_39 : decode cX1_marchSteps 39 = .ok (.iload_n 2, 1) := by decide +kernel
theorem dX1_marchSteps_40 : decode cX1_marchSteps 40 = .ok (.aload_n 0, 1) := by decide +kernel
theorem dX1_marchSteps_41 : decode cX1_marchSteps 41 = .ok (.iload_n 3, 1) := by decide +kernel
theorem dX1_marchSteps_42 : decode cX1_marchSteps 42 = .ok (.iconst 2, 1) := by decide +kernel
theorem dX1_marchSteps_43 : decode cX1_marchSteps 43 = .ok (.invokevirtual 52, 3) := by decide +kernel
theorem dX1_marchSteps_46 : decode cX1_marchSteps 46 = .ok (.iadd, 1) := by decide +kernel
theorem dX1_marchSteps_47 : decode cX1_marchSteps 47 = .ok (.istore_n 2, 1) := by decide +kernel
theorem dX1_marchSteps_48 : decode cX1_marchSteps 48 = .ok (.iinc 3 1, 3) := by decide +kernel
theorem dX1_marchSteps_51 : decode cX1_marchSteps 51 = .ok (.goto (-47), 3) := by decide +kernel
theorem dX1_marchSteps_54 : decode cX1_marchSteps 54 = .ok (.iload_n 2, 1) := by decide +kernel
theorem dX1_marchSteps_55 : decode cX1_marchSteps 55 = .ok (.ireturn, 1) := by decide +kernel
theorem dX2_init_0 : decode cX2_init 0 = .ok (.aload_n 0, 1) := by decide +kernel
theorem dX2_init_1 : decode cX2_init 1 = .ok (.invokespecial 3, 3) := by decide +kernel
theorem dX2_init_4 : decode cX2_init 4 = .ok (.aload_n 0, 1) := by decide +kernel
theorem dX2_init_5 : decode cX2_init 5 = .ok (.bipush 20, 2) := by decide +kernel
theorem dX2_init_7 : decode cX2_init 7 = .ok (.newarray .int, 2) := by decide +kernel
theorem dX2_init_9 : decode cX2_init 9 = .ok (.putfield 9, 3) := by decide +kernel
theorem dX2_init_12 : decode cX2_init 12 = .ok (.return_, 1) := by decide +kernel
theorem dX2_append_0 : decode cX2_append 0 = .ok (.aload_n 0, 1) := by decide +kernel
theorem dX2_append_1 : decode cX2_append 1 = .ok (.getfield 15, 3) := by decide +kernel
theorem dX2_append_4 : decode cX2_append 4 = .ok (.ifCond .lt 35, 3) := by decide +kernel
theorem dX2_append_7 : decode cX2_append 7 = .ok (.aload_n 0, 1) := by decide +kernel
theorem dX2_append_8 : decode cX2_append 8 = .ok (.getfield 15, 3) := by decide +kernel
theorem dX2_append_11 : decode cX2_append 11 = .ok (.aload_n 0, 1) := by decide +kernel
theorem dX2_append_12 : decode cX2_append 12 = .ok (.getfield 9, 3) := by decide +kernel
theorem dX2_append_15 : decode cX2_append 15 = .ok (.arraylength, 1) := by decide +kernel
theorem dX2_append_16 : decode cX2_append 16 = .ok (.if_icmp .ge 23, 3) := by decide +kernel
theorem dX2_append_19 : decode cX2_append 19 = .ok (.aload_n 0, 1) := by decide +kernel
theorem dX2_append_20 : decode cX2_append 20 = .ok (.getfield 9, 3) := by decide +kernel
theorem dX2_append_23 : decode cX2_append 23 = .ok (.aload_n 0, 1) := by decide +kernel
theorem dX2_append_24 : decode cX2_append 24 = .ok (.getfield 15, 3) := by decide +kernel
theorem dX2_append_27 : decode cX2_append 27 = .ok (.iload_n 1, 1) := by decide +kernel
theorem dX2_append_28 : decode cX2_append 28 = .ok (.iastore, 1) := by decide +kernel
theorem dX2_append_29 : decode cX2_append 29 = .ok (.aload_n 0, 1) := by decide +kernel
theorem dX2_append_30 : decode cX2_append 30 = .ok (.dup, 1) := by decide +kernel
theorem dX2_append_31 : decode cX2_append 31 = .ok (.getfield 15, 3) := by decide +kernel
theorem dX2_append_34 : decode cX2_append 34 = .ok (.iconst 1, 1) := by decide +kernel
theorem dX2_append_35 : decode cX2_append 35 = .ok (.iadd, 1) := by decide +kernel
theorem dX2_append_36 : decode cX2_append 36 = .ok (.putfield 15, 3) := by decide +kernel
theorem dX2_append_39 : decode cX2_append 39 = .ok (.return_, 1) := by decide +kernel
set_option maxRecDepth 20000 in
theorem ggX2_findRows_X2_takeRow : GoodIn wsX2_findRows wsX2_takeRow := goodIn_r _ [10, 1, 2, 3, 11, 12, 13, 14, 15] (by decide +kernel) (by decide +kernel)
set_option maxRecDepth 20000 in
theorem gX2_findRows_X2_takeRow : GoodIn wsX2_findRows (wsV RX2 28 RX2 yX2_takeRow wsX2_takeRow) := goodIn_app (goodIn_of _ (by decide +kernel)) ggX2_findRows_X2_takeRow
theorem dX2_findRows_0 : decode cX2_findRows 0 = .ok (.aload_n 0, 1) := by decide +kernel
theorem dX2_findRows_1 : decode cX2_findRows 1 = .ok (.iconst 0, 1) := by decide +kernel
theorem dX2_findRows_2 : decode cX2_findRows 2 = .ok (.putfield 19, 3) := by decide +kernel
theorem dX2_findRows_5 : decode cX2_findRows 5 = .ok (.aload_n 0, 1) := by decide +kernel
theorem dX2_findRows_6 : decode cX2_findRows 6 = .ok (.bipush (-9), 2) := by decide +kernel
theorem dX2_findRows_8 : decode cX2_findRows 8 = .ok (.putfield 22, 3) := by decide +kernel
theorem dX2_findRows_11 : decode cX2_findRows 11 = .ok (.aload_n 0, 1) := by decide +kernel
theorem dX2_findRows_12 : decode cX2_findRows 12 = .ok (.bipush (-9), 2) := by decide +kernel
theorem dX2_findRows_14 : decode cX2_findRows 14 = .ok (.putfield 25, 3) := by decide +kernel
theorem dX2_findRows_17 : decode cX2_findRows 17 = .ok (.iconst 0, 1) := by decide +kernel
theorem dX2_findRows_18 : decode cX2_findRows 18 = .ok (.istore_n 3, 1) := by decide +kernel
theorem dX2_findRows_19 : decode cX2_findRows 19 = .ok (.iload_n 3, 1) := by decide +kernel
theorem dX2_findRows_20 : decode cX2_findRows 20 = .ok (.aload_n 0, 1) := by decide +kernel
theorem dX2_findRows_21 : decode cX2_findRows 21 = .ok (.getfield 15, 3) := by decide +kernel
theorem dX2_findRows_24 : decode cX2_findRows 24 = .ok (.if_icmp .ge 71, 3) := by decide +kernel
theorem dX2_findRows_27 : decode cX2_findRows 27 = .ok (.iconst 0, 1) := by decide +kernel
theorem dX2_findRows_28 : decode cX2_findRows 28 = .ok (.istore 4, 2) := by decide +kernel
theorem dX2_findRows_30 : decode cX2_findRows 30 = .ok (.iload_n 3, 1) := by decide +kernel
theorem dX2_findRows_31 : decode cX2_findRows 31 = .ok (.istore 5, 2) := by decide +kernel
theorem dX2_findRows_33 : decode cX2_findRows 33 = .ok (.iload 5, 2) := by decide +kernel
theorem dX2_findRows_35 : decode cX2_findRows 35 = .ok (.aload_n 0, 1) := by decide +kernel
theorem dX2_findRows_36 : decode cX2_findRows 36 = .ok (.getfield 15, 3) := by decide +kernel
theorem dX2_findRows_39 : decode cX2_findRows 39 = .ok (.if_icmp .ge 50, 3) := by decide +kernel
theorem dX2_findRows_42 : decode cX2_findRows 42 = .ok (.iload 5, 2) := by decide +kernel
theorem dX2_findRows_44 : decode cX2_findRows 44 = .ok (.aload_n 0, 1) := by decide +kernel
theorem dX2_findRows_45 : decode cX2_findRows 45 = .ok (.getfield 9, 3) := by decide +kernel
theorem dX2_findRows_48 : decode cX2_findRows 48 = .ok (.arraylength, 1) := by decide +kernel
theorem dX2_findRows_49 : decode cX2_findRows 49 = .ok (.if_icmp .ge 40, 3) := by decide +kernel
theorem dX2_findRows_52 : decode cX2_findRows 52 = .ok (.iload 4, 2) := by decide +kernel
theorem dX2_findRows_54 : decode cX2_findRows 54 = .ok (.aload_n 0, 1) := by decide +kernel
theorem dX2_findRows_55 : decode cX2_findRows 55 = .ok (.getfield 9, 3) := by decide +kernel
theorem dX2_findRows_58 : decode cX2_findRows 58 = .ok (.iload 5, 2) := by decide +kernel
theorem dX2_findRows_60 : decode cX2_findRows 60 = .ok (.iaload, 1) := by decide +kernel
theorem dX2_findRows_61 : decode cX2_findRows 61 = .ok (.iadd, 1) := by decide +kernel
theorem dX2_findRows_62 : decode cX2_findRows 62 = .ok (.istore 4, 2) := by decide +kernel
theorem dX2_findRows_64 : decode cX2_findRows 64 = .ok (.iload 4, 2) := by decide +kernel
theorem dX2_findRows_66 : decode cX2_findRows 66 = .ok (.iload_n 1, 1) := by decide +kernel
theorem dX2_findRows_67 : decode cX2_findRows 67 = .ok (.if_icmp .lt 16, 3) := by decide +kernel
theorem dX2_findRows_70 : decode cX2_findRows 70 = .ok (.iload 4, 2) := by decide +kernel
theorem dX2_findRows_72 : decode cX2_findRows 72 = .ok (.iload_n 2, 1) := by decide +kernel
theorem dX2_findRows_73 : decode cX2_findRows 73 = .ok (.if_icmp .gt 10, 3) := by decide +kernel
theorem dX2_findRows_76 : decode cX2_findRows 76 = .ok (.aload_n 0, 1) := by decide +kernel
theorem dX2_findRows_77 : decode cX2_findRows 77 = .ok (.iload_n 3, 1) := by decide +kernel
theorem dX2_findRows_78 : decode cX2_findRows 78 = .ok (.iload 5, 2) := by decide +kernel
theorem dX2_findRows_80 : decode cX2_findRows 80 = .ok (.invokevirtual 28, 3) := by decide +kernel
theorem dX2_findRows_83 : decode cX2_findRows 83 = .ok (.iinc 5 1, 3) := by decide +kernel
theorem dX2_findRows_86 : decode cX2_findRows 86 = .ok (.goto (-53), 3) := by decide +kernel
theorem dX2_findRows_89 : decode cX2_findRows 89 = .ok (.iinc 3 1, 3) := by decide +kernel
theorem dX2_findRows_92 : decode cX2_findRows 92 = .ok (.goto (-73), 3) := by decide +kernel
theorem dX2_findRows_95 : decode cX2_findRows 95 = .ok (.return_, 1) := by decide +kernel
theorem dX2_takeRow_0 : decode cX2_takeRow 0 = .ok (.aload_n 0, 1) := by decide +kernel
theorem dX2_takeRow_1 : decode cX2_takeRow 1 = .ok (.getfield 19, 3) := by decide +kernel
theorem dX2_takeRow_4 : decode cX2_takeRow 4 = .ok (.ifCond .ne 13, 3) := by decide +kernel
theorem dX2_takeRow_7 : decode cX2_takeRow 7 = .ok (.aload_n 0, 1) := by decide +kernel
theorem dX2_takeRow_8 : decode cX2_takeRow 8 = .ok (.iload_n 1, 1) := by decide +kernel
theorem dX2_takeRow_9 : decode cX2_takeRow 9 = .ok (.putfield 22, 3) := by decide +kernel
theorem dX2_takeRow_12 : decode cX2_takeRow 12 = .ok (.aload_n 0, 1) := by decide +kernel
theorem dX2_takeRow_13 : decode cX2_takeRow 13 = .ok (.iload_n 2, 1) := by decide +kernel
theorem dX2_takeRow_14 : decode cX2_takeRow 14 = .ok (.putfield 25, 3) := by decide +kernel
theorem dX2_takeRow_17 : decode cX2_takeRow 17 = .ok (.aload_n 0, 1) := by decide +kernel
theorem dX2_takeRow_18 : decode cX2_takeRow 18 = .ok (.dup, 1) := by decide +kernel
theorem dX2_takeRow_19 : decode cX2_takeRow 19 = .ok (.getfield 19, 3) := by decide +kernel
theorem dX2_takeRow_22 : decode cX2_takeRow 22 = .ok (.iconst 1, 1) := by decide +kernel
theorem dX2_takeRow_23 : decode cX2_takeRow 23 = .ok (.iadd, 1) := by decide +kernel
theorem dX2_takeRow_24 : decode cX2_takeRow 24 = .ok (.putfield 19, 3) := by decide +kernel
theorem dX2_takeRow_27 : decode cX2_takeRow 27 = .ok (.return_, 1) := by decide +kernel
theorem dX3_init_0 : decode cX3_init 0 = .ok (.aload_n 0, 1) := by decide +kernel
theorem dX3_init_1 : decode cX3_init 1 = .ok (.invokespecial 3, 3) := by decide +kernel
theorem dX3_init_4 : decode cX3_init 4 = .ok (.aload_n 0, 1) := by decide +kernel
theorem dX3_init_5 : decode cX3_init 5 = .ok (.sipush 400, 3) := by decide +kernel
theorem dX3_init_8 : decode cX3_init 8 = .ok (.newarray .int, 2) := by decide +kernel
theorem dX3_init_10 : decode cX3_init 10 = .ok (.putfield 9, 3) := by decide +kernel
theorem dX3_init_13 : decode cX3_init 13 = .ok (.return_, 1) := by decide +kernel
theorem dX3_append_0 : decode cX3_append 0 = .ok (.aload_n 0, 1) := by decide +kernel
theorem dX3_append_1 : decode cX3_append 1 = .ok (.getfield 15, 3) := by decide +kernel
theorem dX3_append_4 : decode cX3_append 4 = .ok (.ifCond .lt 35, 3) := by decide +kernel
theorem dX3_append_7 : decode cX3_append 7 = .ok (.aload_n 0, 1) := by decide +kernel
theorem dX3_append_8 : decode cX3_append 8 = .ok (.getfield 15, 3) := by decide +kernel
theorem dX3_append_11 : decode cX3_append 11 = .ok (.aload_n 0, 1) := by decide +kernel
theorem dX3_append_12 : decode cX3_append 12 = .ok (.getfield 9, 3) := by decide +kernel
theorem dX3_append_15 : decode cX3_append 15 = .ok (.arraylength, 1) := by decide +kernel
theorem dX3_append_16 : decode cX3_append 16 = .ok (.if_icmp .ge 23, 3) := by decide +kernel
theorem dX3_append_19 : decode cX3_append 19 = .ok (.aload_n 0, 1) := by decide +kernel
theorem dX3_append_20 : decode cX3_append 20 = .ok (.getfield 9, 3) := by decide +kernel
theorem dX3_append_23 : decode cX3_append 23 = .ok (.aload_n 0, 1) := by decide +kernel
theorem dX3_append_24 : decode cX3_append 24 = .ok (.getfield 15, 3) := by decide +kernel
theorem dX3_append_27 : decode cX3_append 27 = .ok (.iload_n 1, 1) := by decide +kernel
theorem dX3_append_28 : decode cX3_append 28 = .ok (.iastore, 1) := by decide +kernel
theorem dX3_append_29 : decode cX3_append 29 = .ok (.aload_n 0, 1) := by decide +kernel
theorem dX3_append_30 : decode cX3_append 30 = .ok (.dup, 1) := by decide +kernel
theorem dX3_append_31 : decode cX3_append 31 = .ok (.getfield 15, 3) := by decide +kernel
theorem dX3_append_34 : decode cX3_append 34 = .ok (.iconst 1, 1) := by decide +kernel
theorem dX3_append_35 : decode cX3_append 35 = .ok (.iadd, 1) := by decide +kernel
theorem dX3_append_36 : decode cX3_append 36 = .ok (.putfield 15, 3) := by decide +kernel
theorem dX3_append_39 : decode cX3_append 39 = .ok (.return_, 1) := by decide +kernel
theorem dX3_empty_0 : decode cX3_empty 0 = .ok (.aload_n 0, 1) := by decide +kernel
theorem dX3_empty_1 : decode cX3_empty 1 = .ok (.iconst 0, 1) := by decide +kernel
theorem dX3_empty_2 : decode cX3_empty 2 = .ok (.putfield 15, 3) := by decide +kernel
theorem dX3_empty_5 : decode cX3_empty 5 = .ok (.return_, 1) := by decide +kernel
set_option maxRecDepth 20000 in
theorem ggX3_readPlan_X1_empty : GoodIn wsX3_readPlan wsX1_empty := goodIn_r _ [9, 10, 11, 12, 13, 162, 163, 164, 165, 166, 167, 168, 169] (by decide +kernel) (by decide +kernel)
set_option maxRecDepth 20000 in
theorem gX3_readPlan_X1_empty : GoodIn wsX3_readPlan (wsV RX3 19 RX1 yX1_empty wsX1_empty) := goodIn_app (goodIn_of _ (by decide +kernel)) ggX3_readPlan_X1_empty
set_option maxRecDepth 20000 in
theorem ggX3_readPlan_X3_nextToken : GoodIn wsX3_readPlan wsX3_nextToken := goodIn_r _ [18, 2, 4, 19, 3, 20, 21, 22, 23, 17, 24, 25, 26, 27, 28, 29, 30, 31, 155, 156, 157, 158, 159, 160, 161] (by decide +kernel) (by decide +kernel)
set_option maxRecDepth 20000 in
theorem gX3_readPlan_X3_nextToken : GoodIn wsX3_readPlan (wsV RX3 31 RX3 yX3_nextToken wsX3_nextToken) := goodIn_app (goodIn_of _ (by decide +kernel)) ggX3_readPlan_X3_nextToken
set_option maxRecDepth 20000 in
theorem ggX3_readPlan_X3_readItem : GoodIn wsX3_readPlan wsX3_readItem := goodIn_r _ [35, 36, 37, 38, 17, 39, 3, 2, 4, 40, 41, 42, 43, 44, 45, 46, 47, 48, 49, 50, 51, 21, 22, 23, 24, 19, 25, 52, 53, 54, 55, 56, 57, 58, 59, 60, 61, 62, 63, 64, 65, 66, 67, 68, 69, 70, 71, 72, 73, 74, 75, 76, 77, 78, 79, 80, 81, 82, 83, 84, 85, 86, 87, 88, 89, 90, 91, 92, 1, 14, 15, 16, 18, 20, 26, 27, 28, 29, 30, 31, 93, 94, 95, 96, 97, 98, 99, 100, 101, 102, 103, 8, 104, 11, 105, 106, 107, 108, 109, 110, 111, 112, 113, 114, 115, 116, 117, 118, 119, 120, 121, 122, 123, 124, 125, 126, 127, 128, 129, 130, 131, 132, 133, 134, 135, 136, 12, 137, 138, 139, 140, 141, 142, 143, 144, 145, 146, 147, 148, 149, 13, 150, 151, 152, 153, 154, 155, 156, 157, 158, 159, 160, 161, 162, 163, 164, 165, 166, 167, 168, 169] (by decide +kernel) (by decide +kernel)
set_option maxRecDepth 20000 in
theorem gX3_readPlan_X3_readItem : GoodIn wsX3_readPlan (wsV RX3 37 RX3 yX3_readItem wsX3_readItem) := goodIn_app (goodIn_of _ (by decide +kernel)) ggX3_readPlan_X3_readItem
theorem dX3_readPlan_0 : decode cX3_readPlan 0 = .ok (.aload_n 1, 1) := by decide +kernel
theorem dX3_readPlan_1 : decode cX3_readPlan 1 = .ok (.invokevirtual 19, 3) := by decide +kernel
theorem dX3_readPlan_4 : decode cX3_readPlan 4 = .ok (.aload_n 0, 1) := by decide +kernel
theorem dX3_readPlan_5 : decode cX3_readPlan 5 = .ok (.iconst 0, 1) := by decide +kernel
theorem dX3_readPlan_6 : decode cX3_readPlan 6 = .ok (.putfield 24, 3) := by decide +kernel
theorem dX3_readPlan_9 : decode cX3_readPlan 9 = .ok (.aload_n 0, 1) := by decide +kernel
theorem dX3_readPlan_10 : decode cX3_readPlan 10 = .ok (.iconst 0, 1) := by decide +kernel
theorem dX3_readPlan_11 : decode cX3_readPlan 11 = .ok (.putfield 28, 3) := by decide +kernel
theorem dX3_readPlan_14 : decode cX3_readPlan 14 = .ok (.aload_n 0, 1) := by decide +kernel
theorem dX3_readPlan_15 : decode cX3_readPlan 15 = .ok (.invokevirtual 31, 3) := by decide +kernel
theorem dX3_readPlan_18 : decode cX3_readPlan 18 = .ok (.iconst 0, 1) := by decide +kernel
theorem dX3_readPlan_19 : decode cX3_readPlan 19 = .ok (.istore_n 2, 1) := by decide +kernel
theorem dX3_readPlan_20 : decode cX3_readPlan 20 = .ok (.iload_n 2, 1) := by decide +kernel
theorem dX3_readPlan_21 : decode cX3_readPlan 21 = .ok (.sipush 400, 3) := by decide +kernel
theorem dX3_readPlan_24 : decode cX3_readPlan 24 = .ok (.if_icmp .gt 41, 3) := by decide +kernel
theorem dX3_readPlan_27 : decode cX3_readPlan 27 = .ok (.aload_n 0, 1) := by decide +kernel
theorem dX3_readPlan_28 : decode cX3_readPlan 28 = .ok (.getfield 34, 3) := by decide +kernel
theorem dX3_readPlan_31 : decode cX3_readPlan 31 = .ok (.ifCond .ne 5, 3) := by decide +kernel
theorem dX3_readPlan_34 : decode cX3_readPlan 34 = .ok (.iload_n 2, 1) := by decide +kernel
theorem dX3_readPlan_35 : decode cX3_readPlan 35 = .ok (.ireturn, 1) := by decide +kernel
theorem dX3_readPlan_36 : decode cX3_readPlan 36 = .ok (.aload_n 0, 1) := by decide +kernel
theorem dX3_readPlan_37 : decode cX3_readPlan 37 = .ok (.aload_n 1, 1) := by decide +kernel
theorem dX3_readPlan_38 : decode cX3_readPlan 38 = .ok (.invokevirtual 37, 3) := by decide +kernel
theorem dX3_readPlan_41 : decode cX3_readPlan 41 = .ok (.ifCond .eq 24, 3) := by decide +kernel
theorem dX3_readPlan_44 : decode cX3_readPlan 44 = .ok (.aload_n 0, 1) := by decide +kernel
theorem dX3_readPlan_45 : decode cX3_readPlan 45 = .ok (.getfield 34, 3) := by decide +kernel
theorem dX3_readPlan_48 : decode cX3_readPlan 48 = .ok (.iconst 1, 1) := by decide +kernel
theorem dX3_readPlan_49 : decode cX3_readPlan 49 = .ok (.if_icmp .eq 6, 3) := by decide +kernel
theorem dX3_readPlan_52 : decode cX3_readPlan 52 = .ok (.goto 13, 3) := by decide +kernel
theorem dX3_readPlan_55 : decode cX3_readPlan 55 = .ok (.aload_n 0, 1) := by decide +kernel
theorem dX3_readPlan_56 : decode cX3_readPlan 56 = .ok (.invokevirtual 31, 3) := by decide +kernel
theorem dX3_readPlan_59 : decode cX3_readPlan 59 = .ok (.iinc 2 1, 3) := by decide +kernel
theorem dX3_readPlan_62 : decode cX3_readPlan 62 = .ok (.goto (-42), 3) := by decide +kernel
theorem dX3_readPlan_65 : decode cX3_readPlan 65 = .ok (.bipush (-10), 2) := by decide +kernel
theorem dX3_readPlan_67 : decode cX3_readPlan 67 = .ok (.aload_n 0, 1) := by decide +kernel
theorem dX3_readPlan_68 : decode cX3_readPlan 68 = .ok (.getfield 41, 3) := by decide +kernel
theorem dX3_readPlan_71 : decode cX3_readPlan 71 = .ok (.isub, 1) := by decide +kernel
theorem dX3_readPlan_72 : decode cX3_readPlan 72 = .ok (.ireturn, 1) := by decide +kernel
set_option maxRecDepth 20000 in
theorem ggX3_readItem_X3_isWord : GoodIn wsX3_readItem wsX3_isWord := goodIn_r _ [5, 6, 7, 8, 9, 10, 11, 12, 13, 14, 15, 16, 17, 18, 19, 20, 21, 22, 23, 4, 24, 25, 26, 27, 28, 29, 30, 31, 32, 33, 34, 35, 36, 37, 38, 39, 40, 41, 42, 43, 44, 45, 46, 47, 48, 49, 50, 51, 52, 53, 54, 55, 56, 57, 58, 59, 60, 61, 62, 63, 146, 147, 148, 149, 150, 151, 152] (by decide +kernel) (by decide +kernel)
set_option maxRecDepth 20000 in
theorem gX3_readItem_X3_isWord : GoodIn wsX3_readItem (wsV RX3 46 RX3 yX3_isWord wsX3_isWord) := goodIn_app (goodIn_of _ (by decide +kernel)) ggX3_readItem_X3_isWord
set_option maxRecDepth 20000 in
theorem ggX3_readItem_X3_readClock : GoodIn wsX3_readItem wsX3_readClock := goodIn_r _ [67, 68, 69, 70, 71, 4, 72, 7, 8, 25, 6, 73, 21, 22, 23, 24, 26, 74, 75, 76, 77, 78, 79, 80, 81, 82, 83, 146, 147, 148, 149, 150, 151, 152, 153, 154, 155, 156, 157, 158, 159, 160] (by decide +kernel) (by decide +kernel)
set_option maxRecDepth 20000 in
theorem gX3_readItem_X3_readClock : GoodIn wsX3_readItem (wsV RX3 50 RX3 yX3_readClock wsX3_readClock) := goodIn_app (goodIn_of _ (by decide +kernel)) ggX3_readItem_X3_readClock
set_option maxRecDepth 20000 in
theorem ggX3_readItem_X3_readPerson : GoodIn wsX3_readItem wsX3_readPerson := goodIn_r _ [87, 88, 89, 90, 91, 92, 93, 94, 95, 96, 97, 98, 99, 69, 70, 71, 4, 72, 7, 8, 25, 6, 73, 21, 22, 23, 24, 26, 74, 75, 76, 77, 78, 79, 153, 154, 155, 156, 157, 158, 159, 160, 146, 147, 148, 149, 150, 151, 152] (by decide +kernel) (by decide +kernel)
set_option maxRecDepth 20000 in
theorem gX3_readItem_X3_readPerson : GoodIn wsX3_readItem (wsV RX3 55 RX3 yX3_readPerson wsX3_readPerson) := goodIn_app (goodIn_of _ (by decide +kernel)) ggX3_readItem_X3_readPerson
set_option maxRecDepth 20000 in
theorem ggX3_readItem_X3_readWay : GoodIn wsX3_readItem wsX3_readWay := goodIn_r _ [103, 104, 105, 106, 91, 107, 93, 94, 108, 109, 110, 111, 69, 70, 71, 4, 72, 7, 8, 25, 6, 73, 21, 22, 23, 24, 26, 74, 75, 76, 77, 78, 79, 80, 81, 82, 83, 112, 113, 114, 115, 116, 117, 153, 154, 155, 156, 157, 158, 159, 160, 146, 147, 148, 149, 150, 151, 152] (by decide +kernel) (by decide +kernel)
set_option maxRecDepth 20000 in
theorem gX3_readItem_X3_readWay : GoodIn wsX3_readItem (wsV RX3 60 RX3 yX3_readWay wsX3_readWay) := goodIn_app (goodIn_of _ (by decide +kernel)) ggX3_readItem_X3_readWay
set_option maxRecDepth 20000 in
theorem ggX3_readItem_X3_readMarch : GoodIn wsX3_readItem wsX3_readMarch := goodIn_r _ [121, 122, 123, 124, 91, 125, 126, 69, 70, 71, 4, 72, 7, 8, 25, 6, 73, 21, 22, 23, 24, 26, 74, 75, 76, 77, 78, 79, 80, 81, 82, 83, 127, 128, 129, 130, 131, 153, 154, 155, 156, 157, 158, 159, 160, 146, 147, 148, 149, 150, 151, 152] (by decide +kernel) (by decide +kernel)
set_option maxRecDepth 20000 in
theorem gX3_readItem_X3_readMarch : GoodIn wsX3_readItem (wsV RX3 68 RX3 yX3_readMarch wsX3_readMarch) := goodIn_app (goodIn_of _ (by decide +kernel)) ggX3_readItem_X3_readMarch
set_option maxRecDepth 20000 in
theorem ggX3_readItem_X3_readWork : GoodIn wsX3_readItem wsX3_readWork := goodIn_r _ [135, 136, 137, 138, 91, 139, 140, 69, 70, 71, 4, 72, 7, 8, 25, 6, 73, 21, 22, 23, 24, 26, 74, 75, 76, 77, 78, 79, 1, 2, 3, 5, 9, 10, 11, 12, 13, 14, 15, 16, 17, 18, 19, 20, 27, 28, 29, 30, 31, 32, 33, 34, 35, 36, 37, 38, 39, 40, 41, 42, 43, 44, 45, 46, 47, 48, 49, 50, 51, 52, 53, 54, 55, 56, 57, 58, 59, 60, 61, 62, 63, 80, 81, 82, 83, 141, 142, 143, 144, 145, 153, 154, 155, 156, 157, 158, 159, 160, 146, 147, 148, 149, 150, 151, 152] (by decide +kernel) (by decide +kernel)
set_option maxRecDepth 20000 in
theorem gX3_readItem_X3_readWork : GoodIn wsX3_readItem (wsV RX3 73 RX3 yX3_readWork wsX3_readWork) := goodIn_app (goodIn_of _ (by decide +kernel)) ggX3_readItem_X3_readWork
theorem dX3_readItem_0 : decode cX3_readItem 0 = .ok (.aload_n 0, 1) := by decide +kernel
theorem dX3_readItem_1 : decode cX3_readItem 1 = .ok (.ldc 44, 2) := by decide +kernel
theorem dX3_readItem_3 : decode cX3_readItem 3 = .ok (.invokevirtual 46, 3) := by decide +kernel
theorem dX3_readItem_6 : decode cX3_readItem 6 = .ok (.ifCond .eq 9, 3) := by decide +kernel
theorem dX3_readItem_9 : decode cX3_readItem 9 = .ok (.aload_n 0, 1) := by decide +kernel
theorem dX3_readItem_10 : decode cX3_readItem 10 = .ok (.aload_n 1, 1) := by decide +kernel
theorem dX3_readItem_11 : decode cX3_readItem 11 = .ok (.invokevirtual 50, 3) := by decide +kernel
theorem dX3_readItem_14 : decode cX3_readItem 14 = .ok (.ireturn, 1) := by decide +kernel
theorem dX3_readItem_15 : decode cX3_readItem 15 = .ok (.aload_n 0, 1) := by decide +kernel
theorem dX3_readItem_16 : decode cX3_readItem 16 = .ok (.ldc 53, 2) := by decide +kernel
theorem dX3_readItem_18 : decode cX3_readItem 18 = .ok (.invokevirtual 46, 3) := by decide +kernel
theorem dX3_readItem_21 : decode cX3_readItem 21 = .ok (.ifCond .eq 9, 3) := by decide +kernel
theorem dX3_readItem_24 : decode cX3_readItem 24 = .ok (.aload_n 0, 1) := by decide +kernel
theorem dX3_readItem_25 : decode cX3_readItem 25 = .ok (.aload_n 1, 1) := by decide +kernel
theorem dX3_readItem_26 : decode cX3_readItem 26 = .ok (.invokevirtual 55, 3) := by decide +kernel
theorem dX3_readItem_29 : decode cX3_readItem 29 = .ok (.ireturn, 1) := by decide +kernel
theorem dX3_readItem_30 : decode cX3_readItem 30 = .ok (.aload_n 0, 1) := by decide +kernel
theorem dX3_readItem_31 : decode cX3_readItem 31 = .ok (.ldc 58, 2) := by decide +kernel
theorem dX3_readItem_33 : decode cX3_readItem 33 = .ok (.invokevirtual 46, 3) := by decide +kernel
theorem dX3_readItem_36 : decode cX3_readItem 36 = .ok (.ifCond .eq 14, 3) := by decide +kernel
theorem dX3_readItem_39 : decode cX3_readItem 39 = .ok (.aload_n 0, 1) := by decide +kernel
theorem dX3_readItem_40 : decode cX3_readItem 40 = .ok (.aload_n 1, 1) := by decide +kernel
theorem dX3_readItem_41 : decode cX3_readItem 41 = .ok (.iconst 0, 1) := by decide +kernel
theorem dX3_readItem_42 : decode cX3_readItem 42 = .ok (.iconst 0, 1) := by decide +kernel
theorem dX3_readItem_43 : decode cX3_readItem 43 = .ok (.sipush 239, 3) := by decide +kernel
theorem dX3_readItem_46 : decode cX3_readItem 46 = .ok (.invokevirtual 60, 3) := by decide +kernel
theorem dX3_readItem_49 : decode cX3_readItem 49 = .ok (.ireturn, 1) := by decide +kernel
theorem dX3_readItem_50 : decode cX3_readItem 50 = .ok (.aload_n 0, 1) := by decide +kernel
theorem dX3_readItem_51 : decode cX3_readItem 51 = .ok (.ldc 64, 2) := by decide +kernel
theorem dX3_readItem_53 : decode cX3_readItem 53 = .ok (.invokevirtual 46, 3) := by decide +kernel
theorem dX3_readItem_56 : decode cX3_readItem 56 = .ok (.ifCond .eq 13, 3) := by decide +kernel
theorem dX3_readItem_59 : decode cX3_readItem 59 = .ok (.aload_n 0, 1) := by decide +kernel
theorem dX3_readItem_60 : decode cX3_readItem 60 = .ok (.aload_n 1, 1) := by decide +kernel
theorem dX3_readItem_61 : decode cX3_readItem 61 = .ok (.iconst 1, 1) := by decide +kernel
theorem dX3_readItem_62 : decode cX3_readItem 62 = .ok (.iconst 1, 1) := by decide +kernel
theorem dX3_readItem_63 : decode cX3_readItem 63 = .ok (.bipush 99, 2) := by decide +kernel
theorem dX3_readItem_65 : decode cX3_readItem 65 = .ok (.invokevirtual 60, 3) := by decide +kernel
theorem dX3_readItem_68 : decode cX3_readItem 68 = .ok (.ireturn, 1) := by decide +kernel
theorem dX3_readItem_69 : decode cX3_readItem 69 = .ok (.aload_n 0, 1) := by decide +kernel
theorem dX3_readItem_70 : decode cX3_readItem 70 = .ok (.ldc 66, 2) := by decide +kernel
theorem dX3_readItem_72 : decode cX3_readItem 72 = .ok (.invokevirtual 46, 3) := by decide +kernel
theorem dX3_readItem_75 : decode cX3_readItem 75 = .ok (.ifCond .eq 9, 3) := by decide +kernel
theorem dX3_readItem_78 : decode cX3_readItem 78 = .ok (.aload_n 0, 1) := by decide +kernel
theorem dX3_readItem_79 : decode cX3_readItem 79 = .ok (.aload_n 1, 1) := by decide +kernel
theorem dX3_readItem_80 : decode cX3_readItem 80 = .ok (.invokevirtual 68, 3) := by decide +kernel
theorem dX3_readItem_83 : decode cX3_readItem 83 = .ok (.ireturn, 1) := by decide +kernel
theorem dX3_readItem_84 : decode cX3_readItem 84 = .ok (.aload_n 0, 1) := by decide +kernel
theorem dX3_readItem_85 : decode cX3_readItem 85 = .ok (.ldc 71, 2) := by decide +kernel
theorem dX3_readItem_87 : decode cX3_readItem 87 = .ok (.invokevirtual 46, 3) := by decide +kernel
theorem dX3_readItem_90 : decode cX3_readItem 90 = .ok (.ifCond .eq 15, 3) := by decide +kernel
theorem dX3_readItem_93 : decode cX3_readItem 93 = .ok (.aload_n 0, 1) := by decide +kernel
theorem dX3_readItem_94 : decode cX3_readItem 94 = .ok (.aload_n 1, 1) := by decide +kernel
theorem dX3_readItem_95 : decode cX3_readItem 95 = .ok (.invokevirtual 73, 3) := by decide +kernel
theorem dX3_readItem_98 : decode cX3_readItem 98 = .ok (.ifCond .eq 7, 3) := by decide +kernel
theorem dX3_readItem_101 : decode cX3_readItem 101 = .ok (.iconst 1, 1) := by decide +kernel
theorem dX3_readItem_102 : decode cX3_readItem 102 = .ok (.goto 4, 3) := by decide +kernel
theorem dX3_readItem_105 : decode cX3_readItem 105 = .ok (.iconst 0, 1) := by decide +kernel
theorem dX3_readItem_106 : decode cX3_readItem 106 = .ok (.ireturn, 1) := by decide +kernel
set_option maxRecDepth 20000 in
theorem ggX3_readClock_X3_nextToken : GoodIn wsX3_readClock wsX3_nextToken := goodIn_r _ [6, 7, 8, 9, 10, 11, 12, 13, 14, 5, 15, 16, 17, 18, 19, 20, 21, 22, 27, 28, 29, 30, 31, 32, 33] (by decide +kernel) (by decide +kernel)
set_option maxRecDepth 20000 in
theorem gX3_readClock_X3_nextToken : GoodIn wsX3_readClock (wsV RX3 31 RX3 yX3_nextToken wsX3_nextToken) := goodIn_app (goodIn_of _ (by decide +kernel)) ggX3_readClock_X3_nextToken
set_option maxRecDepth 20000 in
theorem ggX3_readClock_X3_readNumber : GoodIn wsX3_readClock wsX3_readNumber := goodIn_r _ [26, 10, 11, 2, 3, 4, 5, 6, 7, 8, 9, 12, 13, 14, 15, 16, 17, 18, 19, 20, 21, 22, 27, 28, 29, 30, 31, 32, 33] (by decide +kernel) (by decide +kernel)
set_option maxRecDepth 20000 in
theorem gX3_readClock_X3_readNumber : GoodIn wsX3_readClock (wsV RX3 76 RX3 yX3_readNumber wsX3_readNumber) := goodIn_app (goodIn_of _ (by decide +kernel)) ggX3_readClock_X3_readNumber
theorem dX3_readClock_0 : decode cX3_readClock 0 = .ok (.aload_n 0, 1) := by decide +kernel
theorem dX3_readClock_1 : decode cX3_readClock 1 = .ok (.getfield 24, 3) := by decide +kernel
theorem dX3_readClock_4 : decode cX3_readClock 4 = .ok (.ifCond .eq 5, 3) := by decide +kernel
theorem dX3_readClock_7 : decode cX3_readClock 7 = .ok (.iconst 0, 1) := by decide +kernel
theorem dX3_readClock_8 : decode cX3_readClock 8 = .ok (.ireturn, 1) := by decide +kernel
theorem dX3_readClock_9 : decode cX3_readClock 9 = .ok (.aload_n 0, 1) := by decide +kernel
theorem dX3_readClock_10 : decode cX3_readClock 10 = .ok (.iconst 1, 1) := by decide +kernel
theorem dX3_readClock_11 : decode cX3_readClock 11 = .ok (.putfield 24, 3) := by decide +kernel
theorem dX3_readClock_14 : decode cX3_readClock 14 = .ok (.aload_n 0, 1) := by decide +kernel
theorem dX3_readClock_15 : decode cX3_readClock 15 = .ok (.invokevirtual 31, 3) := by decide +kernel
theorem dX3_readClock_18 : decode cX3_readClock 18 = .ok (.aload_n 0, 1) := by decide +kernel
theorem dX3_readClock_19 : decode cX3_readClock 19 = .ok (.bipush 10, 2) := by decide +kernel
theorem dX3_readClock_21 : decode cX3_readClock 21 = .ok (.sipush 999, 3) := by decide +kernel
theorem dX3_readClock_24 : decode cX3_readClock 24 = .ok (.invokevirtual 76, 3) := by decide +kernel
theorem dX3_readClock_27 : decode cX3_readClock 27 = .ok (.istore_n 2, 1) := by decide +kernel
theorem dX3_readClock_28 : decode cX3_readClock 28 = .ok (.iload_n 2, 1) := by decide +kernel
theorem dX3_readClock_29 : decode cX3_readClock 29 = .ok (.ifCond .ge 5, 3) := by decide +kernel
theorem dX3_readClock_32 : decode cX3_readClock 32 = .ok (.iconst 0, 1) := by decide +kernel
theorem dX3_readClock_33 : decode cX3_readClock 33 = .ok (.ireturn, 1) := by decide +kernel
theorem dX3_readClock_34 : decode cX3_readClock 34 = .ok (.aload_n 1, 1) := by decide +kernel
theorem dX3_readClock_35 : decode cX3_readClock 35 = .ok (.iload_n 2, 1) := by decide +kernel
theorem dX3_readClock_36 : decode cX3_readClock 36 = .ok (.putfield 80, 3) := by decide +kernel
theorem dX3_readClock_39 : decode cX3_readClock 39 = .ok (.iconst 1, 1) := by decide +kernel
theorem dX3_readClock_40 : decode cX3_readClock 40 = .ok (.ireturn, 1) := by decide +kernel
set_option maxRecDepth 20000 in
theorem ggX3_readPerson_X1_canAddPerson : GoodIn wsX3_readPerson wsX1_canAddPerson := goodIn_r _ [5, 6, 7, 34, 35, 36, 37, 38, 39, 40, 41] (by decide +kernel) (by decide +kernel)
set_option maxRecDepth 20000 in
theorem gX3_readPerson_X1_canAddPerson : GoodIn wsX3_readPerson (wsV RX3 83 RX1 yX1_canAddPerson wsX1_canAddPerson) := goodIn_app (goodIn_of _ (by decide +kernel)) ggX3_readPerson_X1_canAddPerson
set_option maxRecDepth 20000 in
theorem ggX3_readPerson_X1_addPerson : GoodIn wsX3_readPerson wsX1_addPerson := goodIn_r _ [11, 7, 6, 12, 2, 3, 4, 5, 34, 35, 36, 37, 38, 39, 40, 41] (by decide +kernel) (by decide +kernel)
set_option maxRecDepth 20000 in
theorem gX3_readPerson_X1_addPerson : GoodIn wsX3_readPerson (wsV RX3 87 RX1 yX1_addPerson wsX1_addPerson) := goodIn_app (goodIn_of _ (by decide +kernel)) ggX3_readPerson_X1_addPerson
set_option maxRecDepth 20000 in
theorem ggX3_readPerson_X3_nextToken : GoodIn wsX3_readPerson wsX3_nextToken := goodIn_r _ [17, 18, 19, 20, 21, 22, 23, 24, 25, 16, 26, 27, 28, 29, 30, 31, 32, 33, 42, 43, 44, 45, 46, 47, 48] (by decide +kernel) (by decide +kernel)
set_option maxRecDepth 20000 in
theorem gX3_readPerson_X3_nextToken : GoodIn wsX3_readPerson (wsV RX3 31 RX3 yX3_nextToken wsX3_nextToken) := goodIn_app (goodIn_of _ (by decide +kernel)) ggX3_readPerson_X3_nextToken
theorem dX3_readPerson_0 : decode cX3_readPerson 0 = .ok (.aload_n 1, 1) := by decide +kernel
theorem dX3_readPerson_1 : decode cX3_readPerson 1 = .ok (.invokevirtual 83, 3) := by decide +kernel
theorem dX3_readPerson_4 : decode cX3_readPerson 4 = .ok (.ifCond .ne 5, 3) := by decide +kernel
theorem dX3_readPerson_7 : decode cX3_readPerson 7 = .ok (.iconst 0, 1) := by decide +kernel
theorem dX3_readPerson_8 : decode cX3_readPerson 8 = .ok (.ireturn, 1) := by decide +kernel
theorem dX3_readPerson_9 : decode cX3_readPerson 9 = .ok (.aload_n 1, 1) := by decide +kernel
theorem dX3_readPerson_10 : decode cX3_readPerson 10 = .ok (.invokevirtual 87, 3) := by decide +kernel
theorem dX3_readPerson_13 : decode cX3_readPerson 13 = .ok (.aload_n 0, 1) := by decide +kernel
theorem dX3_readPerson_14 : decode cX3_readPerson 14 = .ok (.invokevirtual 31, 3) := by decide +kernel
theorem dX3_readPerson_17 : decode cX3_readPerson 17 = .ok (.iconst 1, 1) := by decide +kernel
theorem dX3_readPerson_18 : decode cX3_readPerson 18 = .ok (.ireturn, 1) := by decide +kernel
set_option maxRecDepth 20000 in
theorem ggX3_readWay_X1_canAddWay : GoodIn wsX3_readWay wsX1_canAddWay := goodIn_r _ [5, 6, 7, 8, 9, 10, 4, 11, 43, 44, 45, 46, 47, 48, 49, 50] (by decide +kernel) (by decide +kernel)
set_option maxRecDepth 20000 in
theorem gX3_readWay_X1_canAddWay : GoodIn wsX3_readWay (wsV RX3 90 RX1 yX1_canAddWay wsX1_canAddWay) := goodIn_app (goodIn_of _ (by decide +kernel)) ggX3_readWay_X1_canAddWay
set_option maxRecDepth 20000 in
theorem ggX3_readWay_X3_nextToken : GoodIn wsX3_readWay wsX3_nextToken := goodIn_r _ [16, 17, 18, 19, 20, 21, 22, 23, 24, 15, 25, 26, 27, 28, 29, 30, 31, 32, 51, 52, 53, 54, 55, 56, 57] (by decide +kernel) (by decide +kernel)
set_option maxRecDepth 20000 in
theorem gX3_readWay_X3_nextToken : GoodIn wsX3_readWay (wsV RX3 31 RX3 yX3_nextToken wsX3_nextToken) := goodIn_app (goodIn_of _ (by decide +kernel)) ggX3_readWay_X3_nextToken
set_option maxRecDepth 20000 in
theorem ggX3_readWay_X3_readNumber : GoodIn wsX3_readWay wsX3_readNumber := goodIn_r _ [36, 20, 21, 12, 13, 14, 15, 16, 17, 18, 19, 22, 23, 24, 25, 26, 27, 28, 29, 30, 31, 32, 51, 52, 53, 54, 55, 56, 57] (by decide +kernel) (by decide +kernel)
set_option maxRecDepth 20000 in
theorem gX3_readWay_X3_readNumber : GoodIn wsX3_readWay (wsV RX3 76 RX3 yX3_readNumber wsX3_readNumber) := goodIn_app (goodIn_of _ (by decide +kernel)) ggX3_readWay_X3_readNumber
set_option maxRecDepth 20000 in
theorem ggX3_readWay_X1_addWay : GoodIn wsX3_readWay wsX1_addWay := goodIn_r _ [40, 6, 7, 41, 42, 2, 3, 4, 5, 8, 9, 10, 11, 43, 44, 45, 46, 47, 48, 49, 50] (by decide +kernel) (by decide +kernel)
set_option maxRecDepth 20000 in
theorem gX3_readWay_X1_addWay : GoodIn wsX3_readWay (wsV RX3 93 RX1 yX1_addWay wsX1_addWay) := goodIn_app (goodIn_of _ (by decide +kernel)) ggX3_readWay_X1_addWay
theorem dX3_readWay_0 : decode cX3_readWay 0 = .ok (.aload_n 1, 1) := by decide +kernel
theorem dX3_readWay_1 : decode cX3_readWay 1 = .ok (.invokevirtual 90, 3) := by decide +kernel
theorem dX3_readWay_4 : decode cX3_readWay 4 = .ok (.ifCond .ne 5, 3) := by decide +kernel
theorem dX3_readWay_7 : decode cX3_readWay 7 = .ok (.iconst 0, 1) := by decide +kernel
theorem dX3_readWay_8 : decode cX3_readWay 8 = .ok (.ireturn, 1) := by decide +kernel
theorem dX3_readWay_9 : decode cX3_readWay 9 = .ok (.aload_n 0, 1) := by decide +kernel
theorem dX3_readWay_10 : decode cX3_readWay 10 = .ok (.invokevirtual 31, 3) := by decide +kernel
theorem dX3_readWay_13 : decode cX3_readWay 13 = .ok (.aload_n 0, 1) := by decide +kernel
theorem dX3_readWay_14 : decode cX3_readWay 14 = .ok (.iload_n 3, 1) := by decide +kernel
theorem dX3_readWay_15 : decode cX3_readWay 15 = .ok (.iload 4, 2) := by decide +kernel
theorem dX3_readWay_17 : decode cX3_readWay 17 = .ok (.invokevirtual 76, 3) := by decide +kernel
theorem dX3_readWay_20 : decode cX3_readWay 20 = .ok (.istore 5, 2) := by decide +kernel
theorem dX3_readWay_22 : decode cX3_readWay 22 = .ok (.iload 5, 2) := by decide +kernel
theorem dX3_readWay_24 : decode cX3_readWay 24 = .ok (.ifCond .ge 8, 3) := by decide +kernel
theorem dX3_readWay_27 : decode cX3_readWay 27 = .ok (.bipush (-9), 2) := by decide +kernel
theorem dX3_readWay_29 : decode cX3_readWay 29 = .ok (.goto 11, 3) := by decide +kernel
theorem dX3_readWay_32 : decode cX3_readWay 32 = .ok (.aload_n 0, 1) := by decide +kernel
theorem dX3_readWay_33 : decode cX3_readWay 33 = .ok (.iconst 1, 1) := by decide +kernel
theorem dX3_readWay_34 : decode cX3_readWay 34 = .ok (.sipush 999, 3) := by decide +kernel
theorem dX3_readWay_37 : decode cX3_readWay 37 = .ok (.invokevirtual 76, 3) := by decide +kernel
theorem dX3_readWay_40 : decode cX3_readWay 40 = .ok (.istore 6, 2) := by decide +kernel
theorem dX3_readWay_42 : decode cX3_readWay 42 = .ok (.iload 6, 2) := by decide +kernel
theorem dX3_readWay_44 : decode cX3_readWay 44 = .ok (.ifCond .ge 8, 3) := by decide +kernel
theorem dX3_readWay_47 : decode cX3_readWay 47 = .ok (.bipush (-9), 2) := by decide +kernel
theorem dX3_readWay_49 : decode cX3_readWay 49 = .ok (.goto 10, 3) := by decide +kernel
theorem dX3_readWay_52 : decode cX3_readWay 52 = .ok (.aload_n 0, 1) := by decide +kernel
theorem dX3_readWay_53 : decode cX3_readWay 53 = .ok (.iconst 1, 1) := by decide +kernel
theorem dX3_readWay_54 : decode cX3_readWay 54 = .ok (.bipush 99, 2) := by decide +kernel
theorem dX3_readWay_56 : decode cX3_readWay 56 = .ok (.invokevirtual 76, 3) := by decide +kernel
theorem dX3_readWay_59 : decode cX3_readWay 59 = .ok (.istore 7, 2) := by decide +kernel
theorem dX3_readWay_61 : decode cX3_readWay 61 = .ok (.iload 7, 2) := by decide +kernel
theorem dX3_readWay_63 : decode cX3_readWay 63 = .ok (.ifCond .ge 5, 3) := by decide +kernel
theorem dX3_readWay_66 : decode cX3_readWay 66 = .ok (.iconst 0, 1) := by decide +kernel
theorem dX3_readWay_67 : decode cX3_readWay 67 = .ok (.ireturn, 1) := by decide +kernel
theorem dX3_readWay_68 : decode cX3_readWay 68 = .ok (.aload_n 1, 1) := by decide +kernel
theorem dX3_readWay_69 : decode cX3_readWay 69 = .ok (.iload_n 2, 1) := by decide +kernel
theorem dX3_readWay_70 : decode cX3_readWay 70 = .ok (.iload 5, 2) := by decide +kernel
theorem dX3_readWay_72 : decode cX3_readWay 72 = .ok (.iload 6, 2) := by decide +kernel
theorem dX3_readWay_74 : decode cX3_readWay 74 = .ok (.iload 7, 2) := by decide +kernel
theorem dX3_readWay_76 : decode cX3_readWay 76 = .ok (.invokevirtual 93, 3) := by decide +kernel
theorem dX3_readWay_79 : decode cX3_readWay 79 = .ok (.iconst 1, 1) := by decide +kernel
theorem dX3_readWay_80 : decode cX3_readWay 80 = .ok (.ireturn, 1) := by decide +kernel
set_option maxRecDepth 20000 in
theorem ggX3_readMarch_X1_canAddMarch : GoodIn wsX3_readMarch wsX1_canAddMarch := goodIn_r _ [5, 6, 37, 38, 39, 40, 41, 42, 43, 44] (by decide +kernel) (by decide +kernel)
set_option maxRecDepth 20000 in
theorem gX3_readMarch_X1_canAddMarch : GoodIn wsX3_readMarch (wsV RX3 97 RX1 yX1_canAddMarch wsX1_canAddMarch) := goodIn_app (goodIn_of _ (by decide +kernel)) ggX3_readMarch_X1_canAddMarch
set_option maxRecDepth 20000 in
theorem ggX3_readMarch_X3_nextToken : GoodIn wsX3_readMarch wsX3_nextToken := goodIn_r _ [11, 12, 13, 14, 15, 16, 17, 18, 19, 10, 20, 21, 22, 23, 24, 25, 26, 27, 45, 46, 47, 48, 49, 50, 51] (by decide +kernel) (by decide +kernel)
set_option maxRecDepth 20000 in
theorem gX3_readMarch_X3_nextToken : GoodIn wsX3_readMarch (wsV RX3 31 RX3 yX3_nextToken wsX3_nextToken) := goodIn_app (goodIn_of _ (by decide +kernel)) ggX3_readMarch_X3_nextToken
set_option maxRecDepth 20000 in
theorem ggX3_readMarch_X3_readNumber : GoodIn wsX3_readMarch wsX3_readNumber := goodIn_r _ [31, 15, 16, 7, 8, 9, 10, 11, 12, 13, 14, 17, 18, 19, 20, 21, 22, 23, 24, 25, 26, 27, 45, 46, 47, 48, 49, 50, 51] (by decide +kernel) (by decide +kernel)
set_option maxRecDepth 20000 in
theorem gX3_readMarch_X3_readNumber : GoodIn wsX3_readMarch (wsV RX3 76 RX3 yX3_readNumber wsX3_readNumber) := goodIn_app (goodIn_of _ (by decide +kernel)) ggX3_readMarch_X3_readNumber
set_option maxRecDepth 20000 in
theorem ggX3_readMarch_X1_addMarch : GoodIn wsX3_readMarch wsX1_addMarch := goodIn_r _ [35, 6, 36, 37, 38, 39, 40, 41, 42, 43, 44] (by decide +kernel) (by decide +kernel)
set_option maxRecDepth 20000 in
theorem gX3_readMarch_X1_addMarch : GoodIn wsX3_readMarch (wsV RX3 100 RX1 yX1_addMarch wsX1_addMarch) := goodIn_app (goodIn_of _ (by decide +kernel)) ggX3_readMarch_X1_addMarch
theorem dX3_readMarch_0 : decode cX3_readMarch 0 = .ok (.aload_n 1, 1) := by decide +kernel
theorem dX3_readMarch_1 : decode cX3_readMarch 1 = .ok (.invokevirtual 97, 3) := by decide +kernel
theorem dX3_readMarch_4 : decode cX3_readMarch 4 = .ok (.ifCond .ne 5, 3) := by decide +kernel
theorem dX3_readMarch_7 : decode cX3_readMarch 7 = .ok (.iconst 0, 1) := by decide +kernel
theorem dX3_readMarch_8 : decode cX3_readMarch 8 = .ok (.ireturn, 1) := by decide +kernel
theorem dX3_readMarch_9 : decode cX3_readMarch 9 = .ok (.aload_n 0, 1) := by decide +kernel
theorem dX3_readMarch_10 : decode cX3_readMarch 10 = .ok (.invokevirtual 31, 3) := by decide +kernel
theorem dX3_readMarch_13 : decode cX3_readMarch 13 = .ok (.aload_n 0, 1) := by decide +kernel
theorem dX3_readMarch_14 : decode cX3_readMarch 14 = .ok (.iconst 0, 1) := by decide +kernel
theorem dX3_readMarch_15 : decode cX3_readMarch 15 = .ok (.sipush 239, 3) := by decide +kernel
theorem dX3_readMarch_18 : decode cX3_readMarch 18 = .ok (.invokevirtual 76, 3) := by decide +kernel
theorem dX3_readMarch_21 : decode cX3_readMarch 21 = .ok (.istore_n 2, 1) := by decide +kernel
theorem dX3_readMarch_22 : decode cX3_readMarch 22 = .ok (.iload_n 2, 1) := by decide +kernel
theorem dX3_readMarch_23 : decode cX3_readMarch 23 = .ok (.ifCond .ge 8, 3) := by decide +kernel
theorem dX3_readMarch_26 : decode cX3_readMarch 26 = .ok (.bipush (-9), 2) := by decide +kernel
theorem dX3_readMarch_28 : decode cX3_readMarch 28 = .ok (.goto 11, 3) := by decide +kernel
theorem dX3_readMarch_31 : decode cX3_readMarch 31 = .ok (.aload_n 0, 1) := by decide +kernel
theorem dX3_readMarch_32 : decode cX3_readMarch 32 = .ok (.iconst 1, 1) := by decide +kernel
theorem dX3_readMarch_33 : decode cX3_readMarch 33 = .ok (.sipush 240, 3) := by decide +kernel
theorem dX3_readMarch_36 : decode cX3_readMarch 36 = .ok (.invokevirtual 76, 3) := by decide +kernel
theorem dX3_readMarch_39 : decode cX3_readMarch 39 = .ok (.istore_n 3, 1) := by decide +kernel
theorem dX3_readMarch_40 : decode cX3_readMarch 40 = .ok (.iload_n 3, 1) := by decide +kernel
theorem dX3_readMarch_41 : decode cX3_readMarch 41 = .ok (.ifCond .ge 8, 3) := by decide +kernel
theorem dX3_readMarch_44 : decode cX3_readMarch 44 = .ok (.bipush (-9), 2) := by decide +kernel
theorem dX3_readMarch_46 : decode cX3_readMarch 46 = .ok (.goto 11, 3) := by decide +kernel
theorem dX3_readMarch_49 : decode cX3_readMarch 49 = .ok (.aload_n 0, 1) := by decide +kernel
theorem dX3_readMarch_50 : decode cX3_readMarch 50 = .ok (.iconst 1, 1) := by decide +kernel
theorem dX3_readMarch_51 : decode cX3_readMarch 51 = .ok (.sipush 999, 3) := by decide +kernel
theorem dX3_readMarch_54 : decode cX3_readMarch 54 = .ok (.invokevirtual 76, 3) := by decide +kernel
theorem dX3_readMarch_57 : decode cX3_readMarch 57 = .ok (.istore 4, 2) := by decide +kernel
theorem dX3_readMarch_59 : decode cX3_readMarch 59 = .ok (.iload 4, 2) := by decide +kernel
theorem dX3_readMarch_61 : decode cX3_readMarch 61 = .ok (.ifCond .ge 5, 3) := by decide +kernel
theorem dX3_readMarch_64 : decode cX3_readMarch 64 = .ok (.iconst 0, 1) := by decide +kernel
theorem dX3_readMarch_65 : decode cX3_readMarch 65 = .ok (.ireturn, 1) := by decide +kernel
theorem dX3_readMarch_66 : decode cX3_readMarch 66 = .ok (.aload_n 1, 1) := by decide +kernel
theorem dX3_readMarch_67 : decode cX3_readMarch 67 = .ok (.iload_n 2, 1) := by decide +kernel
theorem dX3_readMarch_68 : decode cX3_readMarch 68 = .ok (.iload_n 3, 1) := by decide +kernel
theorem dX3_readMarch_69 : decode cX3_readMarch 69 = .ok (.iload 4, 2) := by decide +kernel
theorem dX3_readMarch_71 : decode cX3_readMarch 71 = .ok (.invokevirtual 100, 3) := by decide +kernel
theorem dX3_readMarch_74 : decode cX3_readMarch 74 = .ok (.iconst 1, 1) := by decide +kernel
theorem dX3_readMarch_75 : decode cX3_readMarch 75 = .ok (.ireturn, 1) := by decide +kernel
set_option maxRecDepth 20000 in
theorem ggX3_readWork_X1_canAddWork : GoodIn wsX3_readWork wsX1_canAddWork := goodIn_r _ [5, 6, 90, 91, 92, 93, 94, 95, 96, 97] (by decide +kernel) (by decide +kernel)
set_option maxRecDepth 20000 in
theorem gX3_readWork_X1_canAddWork : GoodIn wsX3_readWork (wsV RX3 104 RX1 yX1_canAddWork wsX1_canAddWork) := goodIn_app (goodIn_of _ (by decide +kernel)) ggX3_readWork_X1_canAddWork
set_option maxRecDepth 20000 in
theorem ggX3_readWork_X3_nextToken : GoodIn wsX3_readWork wsX3_nextToken := goodIn_r _ [11, 12, 13, 14, 15, 16, 17, 18, 19, 10, 20, 21, 22, 23, 24, 25, 26, 27, 98, 99, 100, 101, 102, 103, 104] (by decide +kernel) (by decide +kernel)
set_option maxRecDepth 20000 in
theorem gX3_readWork_X3_nextToken : GoodIn wsX3_readWork (wsV RX3 31 RX3 yX3_nextToken wsX3_nextToken) := goodIn_app (goodIn_of _ (by decide +kernel)) ggX3_readWork_X3_nextToken
set_option maxRecDepth 20000 in
theorem ggX3_readWork_X3_isWord : GoodIn wsX3_readWork wsX3_isWord := goodIn_r _ [31, 15, 12, 13, 32, 33, 34, 35, 36, 37, 38, 39, 40, 41, 42, 43, 17, 18, 19, 10, 20, 14, 21, 44, 45, 46, 47, 48, 49, 50, 51, 52, 53, 54, 55, 56, 57, 58, 59, 60, 61, 62, 63, 64, 65, 66, 67, 68, 69, 70, 71, 72, 73, 74, 75, 76, 77, 78, 79, 80, 98, 99, 100, 101, 102, 103, 104] (by decide +kernel) (by decide +kernel)
set_option maxRecDepth 20000 in
theorem gX3_readWork_X3_isWord : GoodIn wsX3_readWork (wsV RX3 46 RX3 yX3_isWord wsX3_isWord) := goodIn_app (goodIn_of _ (by decide +kernel)) ggX3_readWork_X3_isWord
set_option maxRecDepth 20000 in
theorem ggX3_readWork_X3_readNumber : GoodIn wsX3_readWork wsX3_readNumber := goodIn_r _ [84, 15, 16, 7, 8, 9, 10, 11, 12, 13, 14, 17, 18, 19, 20, 21, 22, 23, 24, 25, 26, 27, 98, 99, 100, 101, 102, 103, 104] (by decide +kernel) (by decide +kernel)
set_option maxRecDepth 20000 in
theorem gX3_readWork_X3_readNumber : GoodIn wsX3_readWork (wsV RX3 76 RX3 yX3_readNumber wsX3_readNumber) := goodIn_app (goodIn_of _ (by decide +kernel)) ggX3_readWork_X3_readNumber
set_option maxRecDepth 20000 in
theorem ggX3_readWork_X1_addWork : GoodIn wsX3_readWork wsX1_addWork := goodIn_r _ [88, 6, 89, 90, 91, 92, 93, 94, 95, 96, 97] (by decide +kernel) (by decide +kernel)
set_option maxRecDepth 20000 in
theorem gX3_readWork_X1_addWork : GoodIn wsX3_readWork (wsV RX3 111 RX1 yX1_addWork wsX1_addWork) := goodIn_app (goodIn_of _ (by decide +kernel)) ggX3_readWork_X1_addWork
theorem dX3_readWork_0 : decode cX3_readWork 0 = .ok (.aload_n 1, 1) := by decide +kernel
theorem dX3_readWork_1 : decode cX3_readWork 1 = .ok (.invokevirtual 104, 3) := by decide +kernel
theorem dX3_readWork_4 : decode cX3_readWork 4 = .ok (.ifCond .ne 5, 3) := by decide +kernel
theorem dX3_readWork_7 : decode cX3_readWork 7 = .ok (.iconst 0, 1) := by decide +kernel
theorem dX3_readWork_8 : decode cX3_readWork 8 = .ok (.ireturn, 1) := by decide +kernel
theorem dX3_readWork_9 : decode cX3_readWork 9 = .ok (.aload_n 0, 1) := by decide +kernel
theorem dX3_readWork_10 : decode cX3_readWork 10 = .ok (.invokevirtual 31, 3) := by decide +kernel
theorem dX3_readWork_13 : decode cX3_readWork 13 = .ok (.aload_n 0, 1) := by decide +kernel
theorem dX3_readWork_14 : decode cX3_readWork 14 = .ok (.ldc 107, 2) := by decide +kernel
theorem dX3_readWork_16 : decode cX3_readWork 16 = .ok (.invokevirtual 46, 3) := by decide +kernel
theorem dX3_readWork_19 : decode cX3_readWork 19 = .ok (.istore_n 2, 1) := by decide +kernel
theorem dX3_readWork_20 : decode cX3_readWork 20 = .ok (.iload_n 2, 1) := by decide +kernel
theorem dX3_readWork_21 : decode cX3_readWork 21 = .ok (.ifCond .ne 14, 3) := by decide +kernel
theorem dX3_readWork_24 : decode cX3_readWork 24 = .ok (.aload_n 0, 1) := by decide +kernel
theorem dX3_readWork_25 : decode cX3_readWork 25 = .ok (.ldc 109, 2) := by decide +kernel
theorem dX3_readWork_27 : decode cX3_readWork 27 = .ok (.invokevirtual 46, 3) := by decide +kernel
theorem dX3_readWork_30 : decode cX3_readWork 30 = .ok (.ifCond .ne 5, 3) := by decide +kernel
theorem dX3_readWork_33 : decode cX3_readWork 33 = .ok (.iconst 0, 1) := by decide +kernel
theorem dX3_readWork_34 : decode cX3_readWork 34 = .ok (.ireturn, 1) := by decide +kernel
theorem dX3_readWork_35 : decode cX3_readWork 35 = .ok (.aload_n 0, 1) := by decide +kernel
theorem dX3_readWork_36 : decode cX3_readWork 36 = .ok (.invokevirtual 31, 3) := by decide +kernel
theorem dX3_readWork_39 : decode cX3_readWork 39 = .ok (.aload_n 0, 1) := by decide +kernel
theorem dX3_readWork_40 : decode cX3_readWork 40 = .ok (.iconst 1, 1) := by decide +kernel
theorem dX3_readWork_41 : decode cX3_readWork 41 = .ok (.iload_n 2, 1) := by decide +kernel
theorem dX3_readWork_42 : decode cX3_readWork 42 = .ok (.ifCond .eq 9, 3) := by decide +kernel
theorem dX3_readWork_45 : decode cX3_readWork 45 = .ok (.sipush 240, 3) := by decide +kernel
theorem dX3_readWork_48 : decode cX3_readWork 48 = .ok (.goto 6, 3) := by decide +kernel
theorem dX3_readWork_51 : decode cX3_readWork 51 = .ok (.sipush 999, 3) := by decide +kernel
theorem dX3_readWork_54 : decode cX3_readWork 54 = .ok (.invokevirtual 76, 3) := by decide +kernel
theorem dX3_readWork_57 : decode cX3_readWork 57 = .ok (.istore_n 3, 1) := by decide +kernel
theorem dX3_readWork_58 : decode cX3_readWork 58 = .ok (.iload_n 3, 1) := by decide +kernel
theorem dX3_readWork_59 : decode cX3_readWork 59 = .ok (.ifCond .ge 8, 3) := by decide +kernel
theorem dX3_readWork_62 : decode cX3_readWork 62 = .ok (.bipush (-9), 2) := by decide +kernel
theorem dX3_readWork_64 : decode cX3_readWork 64 = .ok (.goto 10, 3) := by decide +kernel
theorem dX3_readWork_67 : decode cX3_readWork 67 = .ok (.aload_n 0, 1) := by decide +kernel
theorem dX3_readWork_68 : decode cX3_readWork 68 = .ok (.iconst 0, 1) := by decide +kernel
theorem dX3_readWork_69 : decode cX3_readWork 69 = .ok (.bipush 99, 2) := by decide +kernel
theorem dX3_readWork_71 : decode cX3_readWork 71 = .ok (.invokevirtual 76, 3) := by decide +kernel
theorem dX3_readWork_74 : decode cX3_readWork 74 = .ok (.istore 4, 2) := by decide +kernel
theorem dX3_readWork_76 : decode cX3_readWork 76 = .ok (.iload 4, 2) := by decide +kernel
theorem dX3_readWork_78 : decode cX3_readWork 78 = .ok (.ifCond .ge 5, 3) := by decide +kernel
theorem dX3_readWork_81 : decode cX3_readWork 81 = .ok (.iconst 0, 1) := by decide +kernel
theorem dX3_readWork_82 : decode cX3_readWork 82 = .ok (.ireturn, 1) := by decide +kernel
theorem dX3_readWork_83 : decode cX3_readWork 83 = .ok (.aload_n 1, 1) := by decide +kernel
theorem dX3_readWork_84 : decode cX3_readWork 84 = .ok (.iload_n 2, 1) := by decide +kernel
theorem dX3_readWork_85 : decode cX3_readWork 85 = .ok (.ifCond .eq 7, 3) := by decide +kernel
theorem dX3_readWork_88 : decode cX3_readWork 88 = .ok (.iconst 1, 1) := by decide +kernel
theorem dX3_readWork_89 : decode cX3_readWork 89 = .ok (.goto 4, 3) := by decide +kernel
theorem dX3_readWork_92 : decode cX3_readWork 92 = .ok (.iconst 0, 1) := by decide +kernel
theorem dX3_readWork_93 : decode cX3_readWork 93 = .ok (.iload_n 3, 1) := by decide +kernel
theorem dX3_readWork_94 : decode cX3_readWork 94 = .ok (.iload 4, 2) := by decide +kernel
theorem dX3_readWork_96 : decode cX3_readWork 96 = .ok (.invokevirtual 111, 3) := by decide +kernel
theorem dX3_readWork_99 : decode cX3_readWork 99 = .ok (.iconst 1, 1) := by decide +kernel
theorem dX3_readWork_100 : decode cX3_readWork 100 = .ok (.ireturn, 1) := by decide +kernel
set_option maxRecDepth 20000 in
theorem ggX3_readNumber_X3_nextToken : GoodIn wsX3_readNumber wsX3_nextToken := goodIn_r _ [7, 8, 9, 10, 1, 2, 11, 12, 13, 6, 14, 15, 16, 17, 18, 19, 20, 21, 22, 23, 24, 25, 26, 27, 28] (by decide +kernel) (by decide +kernel)
set_option maxRecDepth 20000 in
theorem gX3_readNumber_X3_nextToken : GoodIn wsX3_readNumber (wsV RX3 31 RX3 yX3_nextToken wsX3_nextToken) := goodIn_app (goodIn_of _ (by decide +kernel)) ggX3_readNumber_X3_nextToken
theorem dX3_readNumber_0 : decode cX3_readNumber 0 = .ok (.aload_n 0, 1) := by decide +kernel
theorem dX3_readNumber_1 : decode cX3_readNumber 1 = .ok (.getfield 34, 3) := by decide +kernel
theorem dX3_readNumber_4 : decode cX3_readNumber 4 = .ok (.iconst 2, 1) := by decide +kernel
theorem dX3_readNumber_5 : decode cX3_readNumber 5 = .ok (.if_icmp .ne 19, 3) := by decide +kernel
theorem dX3_readNumber_8 : decode cX3_readNumber 8 = .ok (.aload_n 0, 1) := by decide +kernel
theorem dX3_readNumber_9 : decode cX3_readNumber 9 = .ok (.getfield 114, 3) := by decide +kernel
theorem dX3_readNumber_12 : decode cX3_readNumber 12 = .ok (.iload_n 1, 1) := by decide +kernel
theorem dX3_readNumber_13 : decode cX3_readNumber 13 = .ok (.if_icmp .lt 11, 3) := by decide +kernel
theorem dX3_readNumber_16 : decode cX3_readNumber 16 = .ok (.aload_n 0, 1) := by decide +kernel
theorem dX3_readNumber_17 : decode cX3_readNumber 17 = .ok (.getfield 114, 3) := by decide +kernel
theorem dX3_readNumber_20 : decode cX3_readNumber 20 = .ok (.iload_n 2, 1) := by decide +kernel
theorem dX3_readNumber_21 : decode cX3_readNumber 21 = .ok (.if_icmp .le 6, 3) := by decide +kernel
theorem dX3_readNumber_24 : decode cX3_readNumber 24 = .ok (.bipush (-9), 2) := by decide +kernel
theorem dX3_readNumber_26 : decode cX3_readNumber 26 = .ok (.ireturn, 1) := by decide +kernel
theorem dX3_readNumber_27 : decode cX3_readNumber 27 = .ok (.aload_n 0, 1) := by decide +kernel
theorem dX3_readNumber_28 : decode cX3_readNumber 28 = .ok (.getfield 114, 3) := by decide +kernel
theorem dX3_readNumber_31 : decode cX3_readNumber 31 = .ok (.istore_n 3, 1) := by decide +kernel
theorem dX3_readNumber_32 : decode cX3_readNumber 32 = .ok (.aload_n 0, 1) := by decide +kernel
theorem dX3_readNumber_33 : decode cX3_readNumber 33 = .ok (.invokevirtual 31, 3) := by decide +kernel
theorem dX3_readNumber_36 : decode cX3_readNumber 36 = .ok (.iload_n 3, 1) := by decide +kernel
theorem dX3_readNumber_37 : decode cX3_readNumber 37 = .ok (.ireturn, 1) := by decide +kernel
set_option maxRecDepth 20000 in
theorem ggX3_nextToken_X3_byteAt : GoodIn wsX3_nextToken wsX3_byteAt := goodIn_r _ [10, 3, 11, 18, 19, 20, 21, 22, 23, 24] (by decide +kernel) (by decide +kernel)
set_option maxRecDepth 20000 in
theorem gX3_nextToken_X3_byteAt : GoodIn wsX3_nextToken (wsV RX3 117 RX3 yX3_byteAt wsX3_byteAt) := goodIn_app (goodIn_of _ (by decide +kernel)) ggX3_nextToken_X3_byteAt
set_option maxRecDepth 20000 in
theorem ggX3_nextToken_X3_isLetter : GoodIn wsX3_nextToken wsX3_isLetter := goodIn_r _ [14] (by decide +kernel) (by decide +kernel)
set_option maxRecDepth 20000 in
theorem gX3_nextToken_X3_isLetter : GoodIn wsX3_nextToken (va_wsS RX3 121 yX3_isLetter wsX3_isLetter) := goodIn_app (goodIn_of _ (by decide +kernel)) ggX3_nextToken_X3_isLetter
set_option maxRecDepth 20000 in
theorem ggX3_nextToken_X3_isDigit : GoodIn wsX3_nextToken wsX3_isDigit := goodIn_r _ [17] (by decide +kernel) (by decide +kernel)
set_option maxRecDepth 20000 in
theorem gX3_nextToken_X3_isDigit : GoodIn wsX3_nextToken (va_wsS RX3 125 yX3_isDigit wsX3_isDigit) := goodIn_app (goodIn_of _ (by decide +kernel)) ggX3_nextToken_X3_isDigit
theorem dX3_nextToken_0 : decode cX3_nextToken 0 = .ok (.aload_n 0, 1) := by decide +kernel
theorem dX3_nextToken_1 : decode cX3_nextToken 1 = .ok (.aload_n 0, 1) := by decide +kernel
theorem dX3_nextToken_2 : decode cX3_nextToken 2 = .ok (.getfield 28, 3) := by decide +kernel
theorem dX3_nextToken_5 : decode cX3_nextToken 5 = .ok (.putfield 41, 3) := by decide +kernel
theorem dX3_nextToken_8 : decode cX3_nextToken 8 = .ok (.aload_n 0, 1) := by decide +kernel
theorem dX3_nextToken_9 : decode cX3_nextToken 9 = .ok (.getfield 41, 3) := by decide +kernel
theorem dX3_nextToken_12 : decode cX3_nextToken 12 = .ok (.aload_n 0, 1) := by decide +kernel
theorem dX3_nextToken_13 : decode cX3_nextToken 13 = .ok (.getfield 15, 3) := by decide +kernel
theorem dX3_nextToken_16 : decode cX3_nextToken 16 = .ok (.if_icmp .ge 29, 3) := by decide +kernel
theorem dX3_nextToken_19 : decode cX3_nextToken 19 = .ok (.aload_n 0, 1) := by decide +kernel
theorem dX3_nextToken_20 : decode cX3_nextToken 20 = .ok (.aload_n 0, 1) := by decide +kernel
theorem dX3_nextToken_21 : decode cX3_nextToken 21 = .ok (.getfield 41, 3) := by decide +kernel
theorem dX3_nextToken_24 : decode cX3_nextToken 24 = .ok (.invokevirtual 117, 3) := by decide +kernel
theorem dX3_nextToken_27 : decode cX3_nextToken 27 = .ok (.bipush 32, 2) := by decide +kernel
theorem dX3_nextToken_29 : decode cX3_nextToken 29 = .ok (.if_icmp .ne 16, 3) := by decide +kernel
theorem dX3_nextToken_32 : decode cX3_nextToken 32 = .ok (.aload_n 0, 1) := by decide +kernel
theorem dX3_nextToken_33 : decode cX3_nextToken 33 = .ok (.dup, 1) := by decide +kernel
theorem dX3_nextToken_34 : decode cX3_nextToken 34 = .ok (.getfield 41, 3) := by decide +kernel
theorem dX3_nextToken_37 : decode cX3_nextToken 37 = .ok (.iconst 1, 1) := by decide +kernel
theorem dX3_nextToken_38 : decode cX3_nextToken 38 = .ok (.iadd, 1) := by decide +kernel
theorem dX3_nextToken_39 : decode cX3_nextToken 39 = .ok (.putfield 41, 3) := by decide +kernel
theorem dX3_nextToken_42 : decode cX3_nextToken 42 = .ok (.goto (-34), 3) := by decide +kernel
theorem dX3_nextToken_45 : decode cX3_nextToken 45 = .ok (.aload_n 0, 1) := by decide +kernel
theorem dX3_nextToken_46 : decode cX3_nextToken 46 = .ok (.aload_n 0, 1) := by decide +kernel
theorem dX3_nextToken_47 : decode cX3_nextToken 47 = .ok (.getfield 41, 3) := by decide +kernel
theorem dX3_nextToken_50 : decode cX3_nextToken 50 = .ok (.putfield 28, 3) := by decide +kernel
theorem dX3_nextToken_53 : decode cX3_nextToken 53 = .ok (.aload_n 0, 1) := by decide +kernel
theorem dX3_nextToken_54 : decode cX3_nextToken 54 = .ok (.aload_n 0, 1) := by decide +kernel
theorem dX3_nextToken_55 : decode cX3_nextToken 55 = .ok (.getfield 41, 3) := by decide +kernel
theorem dX3_nextToken_58 : decode cX3_nextToken 58 = .ok (.invokevirtual 117, 3) := by decide +kernel
theorem dX3_nextToken_61 : decode cX3_nextToken 61 = .ok (.istore_n 1, 1) := by decide +kernel
theorem dX3_nextToken_62 : decode cX3_nextToken 62 = .ok (.iload_n 1, 1) := by decide +kernel
theorem dX3_nextToken_63 : decode cX3_nextToken 63 = .ok (.bipush (-9), 2) := by decide +kernel
theorem dX3_nextToken_65 : decode cX3_nextToken 65 = .ok (.if_icmp .ne 11, 3) := by decide +kernel
theorem dX3_nextToken_68 : decode cX3_nextToken 68 = .ok (.aload_n 0, 1) := by decide +kernel
theorem dX3_nextToken_69 : decode cX3_nextToken 69 = .ok (.iconst 0, 1) := by decide +kernel
theorem dX3_nextToken_70 : decode cX3_nextToken 70 = .ok (.putfield 34, 3) := by decide +kernel
theorem dX3_nextToken_73 : decode cX3_nextToken 73 = .ok (.goto 222, 3) := by decide +kernel
theorem dX3_nextToken_76 : decode cX3_nextToken 76 = .ok (.iload_n 1, 1) := by decide +kernel
theorem dX3_nextToken_77 : decode cX3_nextToken 77 = .ok (.invokestatic 121, 3) := by decide +kernel
theorem dX3_nextToken_80 : decode cX3_nextToken 80 = .ok (.ifCond .eq 49, 3) := by decide +kernel
theorem dX3_nextToken_83 : decode cX3_nextToken 83 = .ok (.aload_n 0, 1) := by decide +kernel
theorem dX3_nextToken_84 : decode cX3_nextToken 84 = .ok (.getfield 28, 3) := by decide +kernel
theorem dX3_nextToken_87 : decode cX3_nextToken 87 = .ok (.aload_n 0, 1) := by decide +kernel
theorem dX3_nextToken_88 : decode cX3_nextToken 88 = .ok (.getfield 15, 3) := by decide +kernel
theorem dX3_nextToken_91 : decode cX3_nextToken 91 = .ok (.if_icmp .ge 30, 3) := by decide +kernel
theorem dX3_nextToken_94 : decode cX3_nextToken 94 = .ok (.aload_n 0, 1) := by decide +kernel
theorem dX3_nextToken_95 : decode cX3_nextToken 95 = .ok (.aload_n 0, 1) := by decide +kernel
theorem dX3_nextToken_96 : decode cX3_nextToken 96 = .ok (.getfield 28, 3) := by decide +kernel
theorem dX3_nextToken_99 : decode cX3_nextToken 99 = .ok (.invokevirtual 117, 3) := by decide +kernel
theorem dX3_nextToken_102 : decode cX3_nextToken 102 = .ok (.invokestatic 121, 3) := by decide +kernel
theorem dX3_nextToken_105 : decode cX3_nextToken 105 = .ok (.ifCond .eq 16, 3) := by decide +kernel
theorem dX3_nextToken_108 : decode cX3_nextToken 108 = .ok (.aload_n 0, 1) := by decide +kernel
theorem dX3_nextToken_109 : decode cX3_nextToken 109 = .ok (.dup, 1) := by decide +kernel
theorem dX3_nextToken_110 : decode cX3_nextToken 110 = .ok (.getfield 28, 3) := by decide +kernel
theorem dX3_nextToken_113 : decode cX3_nextToken 113 = .ok (.iconst 1, 1) := by decide +kernel
theorem dX3_nextToken_114 : decode cX3_nextToken 114 = .ok (.iadd, 1) := by decide +kernel
theorem dX3_nextToken_115 : decode cX3_nextToken 115 = .ok (.putfield 28, 3) := by decide +kernel
theorem dX3_nextToken_118 : decode cX3_nextToken 118 = .ok (.goto (-35), 3) := by decide +kernel
theorem dX3_nextToken_121 : decode cX3_nextToken 121 = .ok (.aload_n 0, 1) := by decide +kernel
theorem dX3_nextToken_122 : decode cX3_nextToken 122 = .ok (.iconst 3, 1) := by decide +kernel
theorem dX3_nextToken_123 : decode cX3_nextToken 123 = .ok (.putfield 34, 3) := by decide +kernel
theorem dX3_nextToken_126 : decode cX3_nextToken 126 = .ok (.goto 169, 3) := by decide +kernel
theorem dX3_nextToken_129 : decode cX3_nextToken 129 = .ok (.iload_n 1, 1) := by decide +kernel
theorem dX3_nextToken_130 : decode cX3_nextToken 130 = .ok (.invokestatic 125, 3) := by decide +kernel
theorem dX3_nextToken_133 : decode cX3_nextToken 133 = .ok (.ifCond .eq 137, 3) := by decide +kernel
theorem dX3_nextToken_136 : decode cX3_nextToken 136 = .ok (.aload_n 0, 1) := by decide +kernel
theorem dX3_nextToken_137 : decode cX3_nextToken 137 = .ok (.iconst 0, 1) := by decide +kernel
theorem dX3_nextToken_138 : decode cX3_nextToken 138 = .ok (.putfield 114, 3) := by decide +kernel
theorem dX3_nextToken_141 : decode cX3_nextToken 141 = .ok (.aload_n 0, 1) := by decide +kernel
theorem dX3_nextToken_142 : decode cX3_nextToken 142 = .ok (.getfield 28, 3) := by decide +kernel
theorem dX3_nextToken_145 : decode cX3_nextToken 145 = .ok (.aload_n 0, 1) := by decide +kernel
theorem dX3_nextToken_146 : decode cX3_nextToken 146 = .ok (.getfield 15, 3) := by decide +kernel
theorem dX3_nextToken_149 : decode cX3_nextToken 149 = .ok (.if_icmp .ge 70, 3) := by decide +kernel
theorem dX3_nextToken_152 : decode cX3_nextToken 152 = .ok (.aload_n 0, 1) := by decide +kernel
theorem dX3_nextToken_153 : decode cX3_nextToken 153 = .ok (.aload_n 0, 1) := by decide +kernel
theorem dX3_nextToken_154 : decode cX3_nextToken 154 = .ok (.getfield 28, 3) := by decide +kernel
theorem dX3_nextToken_157 : decode cX3_nextToken 157 = .ok (.invokevirtual 117, 3) := by decide +kernel
theorem dX3_nextToken_160 : decode cX3_nextToken 160 = .ok (.invokestatic 125, 3) := by decide +kernel
theorem dX3_nextToken_163 : decode cX3_nextToken 163 = .ok (.ifCond .eq 56, 3) := by decide +kernel
theorem dX3_nextToken_166 : decode cX3_nextToken 166 = .ok (.aload_n 0, 1) := by decide +kernel
theorem dX3_nextToken_167 : decode cX3_nextToken 167 = .ok (.aload_n 0, 1) := by decide +kernel
theorem dX3_nextToken_168 : decode cX3_nextToken 168 = .ok (.getfield 114, 3) := by decide +kernel
theorem dX3_nextToken_171 : decode cX3_nextToken 171 = .ok (.sipush 999, 3) := by decide +kernel
theorem dX3_nextToken_174 : decode cX3_nextToken 174 = .ok (.if_icmp .le 10, 3) := by decide +kernel
theorem dX3_nextToken_177 : decode cX3_nextToken 177 = .ok (.aload_n 0, 1) := by decide +kernel
theorem dX3_nextToken_178 : decode cX3_nextToken 178 = .ok (.getfield 114, 3) := by decide +kernel
theorem dX3_nextToken_181 : decode cX3_nextToken 181 = .ok (.goto 22, 3) := by decide +kernel
theorem dX3_nextToken_184 : decode cX3_nextToken 184 = .ok (.aload_n 0, 1) := by decide +kernel
theorem dX3_nextToken_185 : decode cX3_nextToken 185 = .ok (.getfield 114, 3) := by decide +kernel
theorem dX3_nextToken_188 : decode cX3_nextToken 188 = .ok (.bipush 10, 2) := by decide +kernel
theorem dX3_nextToken_190 : decode cX3_nextToken 190 = .ok (.imul, 1) := by decide +kernel
theorem dX3_nextToken_191 : decode cX3_nextToken 191 = .ok (.aload_n 0, 1) := by decide +kernel
theorem dX3_nextToken_192 : decode cX3_nextToken 192 = .ok (.aload_n 0, 1) := by decide +kernel
theorem dX3_nextToken_193 : decode cX3_nextToken 193 = .ok (.getfield 28, 3) := by decide +kernel
theorem dX3_nextToken_196 : decode cX3_nextToken 196 = .ok (.invokevirtual 117, 3) := by decide +kernel
theorem dX3_nextToken_199 : decode cX3_nextToken 199 = .ok (.iadd, 1) := by decide +kernel
theorem dX3_nextToken_200 : decode cX3_nextToken 200 = .ok (.bipush 48, 2) := by decide +kernel
theorem dX3_nextToken_202 : decode cX3_nextToken 202 = .ok (.isub, 1) := by decide +kernel
theorem dX3_nextToken_203 : decode cX3_nextToken 203 = .ok (.putfield 114, 3) := by decide +kernel
theorem dX3_nextToken_206 : decode cX3_nextToken 206 = .ok (.aload_n 0, 1) := by decide +kernel
theorem dX3_nextToken_207 : decode cX3_nextToken 207 = .ok (.dup, 1) := by decide +kernel
theorem dX3_nextToken_208 : decode cX3_nextToken 208 = .ok (.getfield 28, 3) := by decide +kernel
theorem dX3_nextToken_211 : decode cX3_nextToken 211 = .ok (.iconst 1, 1) := by decide +kernel
theorem dX3_nextToken_212 : decode cX3_nextToken 212 = .ok (.iadd, 1) := by decide +kernel
theorem dX3_nextToken_213 : decode cX3_nextToken 213 = .ok (.putfield 28, 3) := by decide +kernel
theorem dX3_nextToken_216 : decode cX3_nextToken 216 = .ok (.goto (-75), 3) := by decide +kernel
theorem dX3_nextToken_219 : decode cX3_nextToken 219 = .ok (.iload_n 1, 1) := by decide +kernel
theorem dX3_nextToken_220 : decode cX3_nextToken 220 = .ok (.bipush 48, 2) := by decide +kernel
theorem dX3_nextToken_222 : decode cX3_nextToken 222 = .ok (.if_icmp .ne 20, 3) := by decide +kernel
theorem dX3_nextToken_225 : decode cX3_nextToken 225 = .ok (.aload_n 0, 1) := by decide +kernel
theorem dX3_nextToken_226 : decode cX3_nextToken 226 = .ok (.getfield 28, 3) := by decide +kernel
theorem dX3_nextToken_229 : decode cX3_nextToken 229 = .ok (.aload_n 0, 1) := by decide +kernel
theorem dX3_nextToken_230 : decode cX3_nextToken 230 = .ok (.getfield 41, 3) := by decide +kernel
theorem dX3_nextToken_233 : decode cX3_nextToken 233 = .ok (.isub, 1) := by decide +kernel
theorem dX3_nextToken_234 : decode cX3_nextToken 234 = .ok (.iconst 1, 1) := by decide +kernel
theorem dX3_nextToken_235 : decode cX3_nextToken 235 = .ok (.if_icmp .le 7, 3) := by decide +kernel
theorem dX3_nextToken_238 : decode cX3_nextToken 238 = .ok (.iconst 1, 1) := by decide +kernel
theorem dX3_nextToken_239 : decode cX3_nextToken 239 = .ok (.goto 4, 3) := by decide +kernel
theorem dX3_nextToken_242 : decode cX3_nextToken 242 = .ok (.iconst 0, 1) := by decide +kernel
theorem dX3_nextToken_243 : decode cX3_nextToken 243 = .ok (.istore_n 2, 1) := by decide +kernel
theorem dX3_nextToken_244 : decode cX3_nextToken 244 = .ok (.aload_n 0, 1) := by decide +kernel
theorem dX3_nextToken_245 : decode cX3_nextToken 245 = .ok (.iload_n 2, 1) := by decide +kernel
theorem dX3_nextToken_246 : decode cX3_nextToken 246 = .ok (.ifCond .ne 13, 3) := by decide +kernel
theorem dX3_nextToken_249 : decode cX3_nextToken 249 = .ok (.aload_n 0, 1) := by decide +kernel
theorem dX3_nextToken_250 : decode cX3_nextToken 250 = .ok (.getfield 114, 3) := by decide +kernel
theorem dX3_nextToken_253 : decode cX3_nextToken 253 = .ok (.sipush 999, 3) := by decide +kernel
theorem dX3_nextToken_256 : decode cX3_nextToken 256 = .ok (.if_icmp .le 7, 3) := by decide +kernel
theorem dX3_nextToken_259 : decode cX3_nextToken 259 = .ok (.iconst 4, 1) := by decide +kernel
theorem dX3_nextToken_260 : decode cX3_nextToken 260 = .ok (.goto 4, 3) := by decide +kernel
theorem dX3_nextToken_263 : decode cX3_nextToken 263 = .ok (.iconst 2, 1) := by decide +kernel
theorem dX3_nextToken_264 : decode cX3_nextToken 264 = .ok (.putfield 34, 3) := by decide +kernel
theorem dX3_nextToken_267 : decode cX3_nextToken 267 = .ok (.goto 28, 3) := by decide +kernel
theorem dX3_nextToken_270 : decode cX3_nextToken 270 = .ok (.aload_n 0, 1) := by decide +kernel
theorem dX3_nextToken_271 : decode cX3_nextToken 271 = .ok (.dup, 1) := by decide +kernel
theorem dX3_nextToken_272 : decode cX3_nextToken 272 = .ok (.getfield 28, 3) := by decide +kernel
theorem dX3_nextToken_275 : decode cX3_nextToken 275 = .ok (.iconst 1, 1) := by decide +kernel
theorem dX3_nextToken_276 : decode cX3_nextToken 276 = .ok (.iadd, 1) := by decide +kernel
theorem dX3_nextToken_277 : decode cX3_nextToken 277 = .ok (.putfield 28, 3) := by decide +kernel
theorem dX3_nextToken_280 : decode cX3_nextToken 280 = .ok (.aload_n 0, 1) := by decide +kernel
theorem dX3_nextToken_281 : decode cX3_nextToken 281 = .ok (.iload_n 1, 1) := by decide +kernel
theorem dX3_nextToken_282 : decode cX3_nextToken 282 = .ok (.bipush 59, 2) := by decide +kernel
theorem dX3_nextToken_284 : decode cX3_nextToken 284 = .ok (.if_icmp .ne 7, 3) := by decide +kernel
theorem dX3_nextToken_287 : decode cX3_nextToken 287 = .ok (.iconst 1, 1) := by decide +kernel
theorem dX3_nextToken_288 : decode cX3_nextToken 288 = .ok (.goto 4, 3) := by decide +kernel
theorem dX3_nextToken_291 : decode cX3_nextToken 291 = .ok (.iconst 4, 1) := by decide +kernel
theorem dX3_nextToken_292 : decode cX3_nextToken 292 = .ok (.putfield 34, 3) := by decide +kernel
theorem dX3_nextToken_295 : decode cX3_nextToken 295 = .ok (.return_, 1) := by decide +kernel
set_option maxRecDepth 20000 in
theorem ggX3_isWord_J0_length_8abf5 : GoodIn wsX3_isWord wsJ0_length_8abf5 := goodIn_r _ [8, 9, 10, 11, 12, 7, 13, 14, 15] (by decide +kernel) (by decide +kernel)
set_option maxRecDepth 20000 in
theorem gX3_isWord_J0_length_8abf5 : GoodIn wsX3_isWord (wsV RX3 128 RJ0 yJ0_length_8abf5 wsJ0_length_8abf5) := goodIn_app (goodIn_of _ (by decide +kernel)) ggX3_isWord_J0_length_8abf5
set_option maxRecDepth 20000 in
theorem ggX3_isWord_X3_byteAt : GoodIn wsX3_isWord wsX3_byteAt := goodIn_r _ [20, 21, 22, 60, 61, 62, 63, 64, 65, 66] (by decide +kernel) (by decide +kernel)
set_option maxRecDepth 20000 in
theorem gX3_isWord_X3_byteAt : GoodIn wsX3_isWord (wsV RX3 117 RX3 yX3_byteAt wsX3_byteAt) := goodIn_app (goodIn_of _ (by decide +kernel)) ggX3_isWord_X3_byteAt
set_option maxRecDepth 20000 in
theorem ggX3_isWord_J0_charAt_5068e : GoodIn wsX3_isWord wsJ0_charAt_5068e := goodIn_r _ [26, 9, 27, 28, 29, 7, 30, 14, 15, 31, 32, 33, 34, 35, 36, 37, 38, 39, 40, 41, 42, 43, 44, 45, 46, 47, 48, 49, 50, 51, 52, 53, 54, 55, 56, 57, 58, 59] (by decide +kernel) (by decide +kernel)
set_option maxRecDepth 20000 in
theorem gX3_isWord_J0_charAt_5068e : GoodIn wsX3_isWord (wsV RX3 133 RJ0 yJ0_charAt_5068e wsJ0_charAt_5068e) := goodIn_app (goodIn_of _ (by decide +kernel)) ggX3_isWord_J0_charAt_5068e
theorem dX3_isWord_0 : decode cX3_isWord 0 = .ok (.aload_n 0, 1) := by decide +kernel
theorem dX3_isWord_1 : decode cX3_isWord 1 = .ok (.getfield 34, 3) := by decide +kernel
theorem dX3_isWord_4 : decode cX3_isWord 4 = .ok (.iconst 3, 1) := by decide +kernel
theorem dX3_isWord_5 : decode cX3_isWord 5 = .ok (.if_icmp .ne 19, 3) := by decide +kernel
theorem dX3_isWord_8 : decode cX3_isWord 8 = .ok (.aload_n 0, 1) := by decide +kernel
theorem dX3_isWord_9 : decode cX3_isWord 9 = .ok (.getfield 28, 3) := by decide +kernel
theorem dX3_isWord_12 : decode cX3_isWord 12 = .ok (.aload_n 0, 1) := by decide +kernel
theorem dX3_isWord_13 : decode cX3_isWord 13 = .ok (.getfield 41, 3) := by decide +kernel
theorem dX3_isWord_16 : decode cX3_isWord 16 = .ok (.isub, 1) := by decide +kernel
theorem dX3_isWord_17 : decode cX3_isWord 17 = .ok (.aload_n 1, 1) := by decide +kernel
theorem dX3_isWord_18 : decode cX3_isWord 18 = .ok (.invokevirtual 128, 3) := by decide +kernel
theorem dX3_isWord_21 : decode cX3_isWord 21 = .ok (.if_icmp .eq 5, 3) := by decide +kernel
theorem dX3_isWord_24 : decode cX3_isWord 24 = .ok (.iconst 0, 1) := by decide +kernel
theorem dX3_isWord_25 : decode cX3_isWord 25 = .ok (.ireturn, 1) := by decide +kernel
theorem dX3_isWord_26 : decode cX3_isWord 26 = .ok (.iconst 0, 1) := by decide +kernel
theorem dX3_isWord_27 : decode cX3_isWord 27 = .ok (.istore_n 2, 1) := by decide +kernel
theorem dX3_isWord_28 : decode cX3_isWord 28 = .ok (.iload_n 2, 1) := by decide +kernel
theorem dX3_isWord_29 : decode cX3_isWord 29 = .ok (.aload_n 1, 1) := by decide +kernel
theorem dX3_isWord_30 : decode cX3_isWord 30 = .ok (.invokevirtual 128, 3) := by decide +kernel
theorem dX3_isWord_33 : decode cX3_isWord 33 = .ok (.if_icmp .ge 29, 3) := by decide +kernel
theorem dX3_isWord_36 : decode cX3_isWord 36 = .ok (.aload_n 0, 1) := by decide +kernel
theorem dX3_isWord_37 : decode cX3_isWord 37 = .ok (.aload_n 0, 1) := by decide +kernel
theorem dX3_isWord_38 : decode cX3_isWord 38 = .ok (.getfield 41, 3) := by decide +kernel
theorem dX3_isWord_41 : decode cX3_isWord 41 = .ok (.iload_n 2, 1) := by decide +kernel
theorem dX3_isWord_42 : decode cX3_isWord 42 = .ok (.iadd, 1) := by decide +kernel
theorem dX3_isWord_43 : decode cX3_isWord 43 = .ok (.invokevirtual 117, 3) := by decide +kernel
theorem dX3_isWord_46 : decode cX3_isWord 46 = .ok (.aload_n 1, 1) := by decide +kernel
theorem dX3_isWord_47 : decode cX3_isWord 47 = .ok (.iload_n 2, 1) := by decide +kernel
theorem dX3_isWord_48 : decode cX3_isWord 48 = .ok (.invokevirtual 133, 3) := by decide +kernel
theorem dX3_isWord_51 : decode cX3_isWord 51 = .ok (.if_icmp .eq 5, 3) := by decide +kernel
theorem dX3_isWord_54 : decode cX3_isWord 54 = .ok (.iconst 0, 1) := by decide +kernel
theorem dX3_isWord_55 : decode cX3_isWord 55 = .ok (.ireturn, 1) := by decide +kernel
theorem dX3_isWord_56 : decode cX3_isWord 56 = .ok (.iinc 2 1, 3) := by decide +kernel
theorem dX3_isWord_59 : decode cX3_isWord 59 = .ok (.goto (-31), 3) := by decide +kernel
theorem dX3_isWord_62 : decode cX3_isWord 62 = .ok (.iconst 1, 1) := by decide +kernel
theorem dX3_isWord_63 : decode cX3_isWord 63 = .ok (.ireturn, 1) := by decide +kernel
theorem dX3_byteAt_0 : decode cX3_byteAt 0 = .ok (.iload_n 1, 1) := by decide +kernel
theorem dX3_byteAt_1 : decode cX3_byteAt 1 = .ok (.ifCond .lt 29, 3) := by decide +kernel
theorem dX3_byteAt_4 : decode cX3_byteAt 4 = .ok (.iload_n 1, 1) := by decide +kernel
theorem dX3_byteAt_5 : decode cX3_byteAt 5 = .ok (.aload_n 0, 1) := by decide +kernel
theorem dX3_byteAt_6 : decode cX3_byteAt 6 = .ok (.getfield 15, 3) := by decide +kernel
theorem dX3_byteAt_9 : decode cX3_byteAt 9 = .ok (.if_icmp .ge 21, 3) := by decide +kernel
theorem dX3_byteAt_12 : decode cX3_byteAt 12 = .ok (.iload_n 1, 1) := by decide +kernel
theorem dX3_byteAt_13 : decode cX3_byteAt 13 = .ok (.aload_n 0, 1) := by decide +kernel
theorem dX3_byteAt_14 : decode cX3_byteAt 14 = .ok (.getfield 9, 3) := by decide +kernel
theorem dX3_byteAt_17 : decode cX3_byteAt 17 = .ok (.arraylength, 1) := by decide +kernel
theorem dX3_byteAt_18 : decode cX3_byteAt 18 = .ok (.if_icmp .ge 12, 3) := by decide +kernel
theorem dX3_byteAt_21 : decode cX3_byteAt 21 = .ok (.aload_n 0, 1) := by decide +kernel
theorem dX3_byteAt_22 : decode cX3_byteAt 22 = .ok (.getfield 9, 3) := by decide +kernel
theorem dX3_byteAt_25 : decode cX3_byteAt 25 = .ok (.iload_n 1, 1) := by decide +kernel
theorem dX3_byteAt_26 : decode cX3_byteAt 26 = .ok (.iaload, 1) := by decide +kernel
theorem dX3_byteAt_27 : decode cX3_byteAt 27 = .ok (.goto 5, 3) := by decide +kernel
theorem dX3_byteAt_30 : decode cX3_byteAt 30 = .ok (.bipush (-9), 2) := by decide +kernel
theorem dX3_byteAt_32 : decode cX3_byteAt 32 = .ok (.ireturn, 1) := by decide +kernel
theorem dX3_isLetter_0 : decode cX3_isLetter 0 = .ok (.iload_n 0, 1) := by decide +kernel
theorem dX3_isLetter_1 : decode cX3_isLetter 1 = .ok (.bipush 97, 2) := by decide +kernel
theorem dX3_isLetter_3 : decode cX3_isLetter 3 = .ok (.if_icmp .lt 13, 3) := by decide +kernel
theorem dX3_isLetter_6 : decode cX3_isLetter 6 = .ok (.iload_n 0, 1) := by decide +kernel
theorem dX3_isLetter_7 : decode cX3_isLetter 7 = .ok (.bipush 122, 2) := by decide +kernel
theorem dX3_isLetter_9 : decode cX3_isLetter 9 = .ok (.if_icmp .gt 7, 3) := by decide +kernel
theorem dX3_isLetter_12 : decode cX3_isLetter 12 = .ok (.iconst 1, 1) := by decide +kernel
theorem dX3_isLetter_13 : decode cX3_isLetter 13 = .ok (.goto 4, 3) := by decide +kernel
theorem dX3_isLetter_16 : decode cX3_isLetter 16 = .ok (.iconst 0, 1) := by decide +kernel
theorem dX3_isLetter_17 : decode cX3_isLetter 17 = .ok (.ireturn, 1) := by decide +kernel
theorem dX3_isDigit_0 : decode cX3_isDigit 0 = .ok (.iload_n 0, 1) := by decide +kernel
theorem dX3_isDigit_1 : decode cX3_isDigit 1 = .ok (.bipush 48, 2) := by decide +kernel
theorem dX3_isDigit_3 : decode cX3_isDigit 3 = .ok (.if_icmp .lt 13, 3) := by decide +kernel
theorem dX3_isDigit_6 : decode cX3_isDigit 6 = .ok (.iload_n 0, 1) := by decide +kernel
theorem dX3_isDigit_7 : decode cX3_isDigit 7 = .ok (.bipush 57, 2) := by decide +kernel
theorem dX3_isDigit_9 : decode cX3_isDigit 9 = .ok (.if_icmp .gt 7, 3) := by decide +kernel
theorem dX3_isDigit_12 : decode cX3_isDigit 12 = .ok (.iconst 1, 1) := by decide +kernel
theorem dX3_isDigit_13 : decode cX3_isDigit 13 = .ok (.goto 4, 3) := by decide +kernel
theorem dX3_isDigit_16 : decode cX3_isDigit 16 = .ok (.iconst 0, 1) := by decide +kernel
theorem dX3_isDigit_17 : decode cX3_isDigit 17 = .ok (.ireturn, 1) := by decide +kernel
set_option maxRecDepth 20000 in
theorem ggX4_init_X3_init : GoodIn wsX4_init wsX3_init := goodIn_r _ [29, 30, 2, 3, 24, 31, 53, 54, 55, 56, 57, 58, 59] (by decide +kernel) (by decide +kernel)
set_option maxRecDepth 20000 in
theorem gX4_init_X3_init : GoodIn wsX4_init (wsX3_init) := ggX4_init_X3_init
set_option maxRecDepth 20000 in
theorem ggX4_init_X1_init : GoodIn wsX4_init wsX1_init := goodIn_r _ [34, 35, 2, 3, 24, 36, 37, 38, 39, 40, 74, 75, 76, 77, 78, 79, 80, 81] (by decide +kernel) (by decide +kernel)
set_option maxRecDepth 20000 in
theorem gX4_init_X1_init : GoodIn wsX4_init (wsX1_init) := ggX4_init_X1_init
set_option maxRecDepth 20000 in
theorem ggX4_init_X0_init : GoodIn wsX4_init wsX0_init := goodIn_r _ [43, 44, 2, 3, 24, 45, 46, 47, 82, 83, 84, 85, 86, 87] (by decide +kernel) (by decide +kernel)
set_option maxRecDepth 20000 in
theorem gX4_init_X0_init : GoodIn wsX4_init (wsX0_init) := ggX4_init_X0_init
set_option maxRecDepth 20000 in
theorem ggX4_init_X2_init : GoodIn wsX4_init wsX2_init := goodIn_r _ [50, 51, 2, 3, 24, 52, 88, 89, 90, 91, 92] (by decide +kernel) (by decide +kernel)
set_option maxRecDepth 20000 in
theorem gX4_init_X2_init : GoodIn wsX4_init (wsX2_init) := ggX4_init_X2_init
theorem dX4_init_0 : decode cX4_init 0 = .ok (.aload_n 0, 1) := by decide +kernel
theorem dX4_init_1 : decode cX4_init 1 = .ok (.invokespecial 3, 3) := by decide +kernel
theorem dX4_init_4 : decode cX4_init 4 = .ok (.aload_n 0, 1) := by decide +kernel
theorem dX4_init_5 : decode cX4_init 5 = .ok (.new 9, 3) := by decide +kernel
theorem dX4_init_8 : decode cX4_init 8 = .ok (.dup, 1) := by decide +kernel
theorem dX4_init_9 : decode cX4_init 9 = .ok (.invokespecial 11, 3) := by decide +kernel
theorem dX4_init_12 : decode cX4_init 12 = .ok (.putfield 12, 3) := by decide +kernel
theorem dX4_init_15 : decode cX4_init 15 = .ok (.aload_n 0, 1) := by decide +kernel
theorem dX4_init_16 : decode cX4_init 16 = .ok (.new 16, 3) := by decide +kernel
theorem dX4_init_19 : decode cX4_init 19 = .ok (.dup, 1) := by decide +kernel
theorem dX4_init_20 : decode cX4_init 20 = .ok (.invokespecial 18, 3) := by decide +kernel
theorem dX4_init_23 : decode cX4_init 23 = .ok (.putfield 19, 3) := by decide +kernel
theorem dX4_init_26 : decode cX4_init 26 = .ok (.aload_n 0, 1) := by decide +kernel
theorem dX4_init_27 : decode cX4_init 27 = .ok (.new 16, 3) := by decide +kernel
theorem dX4_init_30 : decode cX4_init 30 = .ok (.dup, 1) := by decide +kernel
theorem dX4_init_31 : decode cX4_init 31 = .ok (.invokespecial 18, 3) := by decide +kernel
theorem dX4_init_34 : decode cX4_init 34 = .ok (.putfield 23, 3) := by decide +kernel
theorem dX4_init_37 : decode cX4_init 37 = .ok (.aload_n 0, 1) := by decide +kernel
theorem dX4_init_38 : decode cX4_init 38 = .ok (.new 26, 3) := by decide +kernel
theorem dX4_init_41 : decode cX4_init 41 = .ok (.dup, 1) := by decide +kernel
theorem dX4_init_42 : decode cX4_init 42 = .ok (.invokespecial 28, 3) := by decide +kernel
theorem dX4_init_45 : decode cX4_init 45 = .ok (.putfield 29, 3) := by decide +kernel
theorem dX4_init_48 : decode cX4_init 48 = .ok (.aload_n 0, 1) := by decide +kernel
theorem dX4_init_49 : decode cX4_init 49 = .ok (.new 26, 3) := by decide +kernel
theorem dX4_init_52 : decode cX4_init 52 = .ok (.dup, 1) := by decide +kernel
theorem dX4_init_53 : decode cX4_init 53 = .ok (.invokespecial 28, 3) := by decide +kernel
theorem dX4_init_56 : decode cX4_init 56 = .ok (.putfield 33, 3) := by decide +kernel
theorem dX4_init_59 : decode cX4_init 59 = .ok (.aload_n 0, 1) := by decide +kernel
theorem dX4_init_60 : decode cX4_init 60 = .ok (.new 26, 3) := by decide +kernel
theorem dX4_init_63 : decode cX4_init 63 = .ok (.dup, 1) := by decide +kernel
theorem dX4_init_64 : decode cX4_init 64 = .ok (.invokespecial 28, 3) := by decide +kernel
theorem dX4_init_67 : decode cX4_init 67 = .ok (.putfield 36, 3) := by decide +kernel
theorem dX4_init_70 : decode cX4_init 70 = .ok (.aload_n 0, 1) := by decide +kernel
theorem dX4_init_71 : decode cX4_init 71 = .ok (.new 26, 3) := by decide +kernel
theorem dX4_init_74 : decode cX4_init 74 = .ok (.dup, 1) := by decide +kernel
theorem dX4_init_75 : decode cX4_init 75 = .ok (.invokespecial 28, 3) := by decide +kernel
theorem dX4_init_78 : decode cX4_init 78 = .ok (.putfield 39, 3) := by decide +kernel
theorem dX4_init_81 : decode cX4_init 81 = .ok (.aload_n 0, 1) := by decide +kernel
theorem dX4_init_82 : decode cX4_init 82 = .ok (.new 42, 3) := by decide +kernel
theorem dX4_init_85 : decode cX4_init 85 = .ok (.dup, 1) := by decide +kernel
theorem dX4_init_86 : decode cX4_init 86 = .ok (.invokespecial 44, 3) := by decide +kernel
theorem dX4_init_89 : decode cX4_init 89 = .ok (.putfield 45, 3) := by decide +kernel
theorem dX4_init_92 : decode cX4_init 92 = .ok (.aload_n 0, 1) := by decide +kernel
theorem dX4_init_93 : decode cX4_init 93 = .ok (.sipush 241, 3) := by decide +kernel
theorem dX4_init_96 : decode cX4_init 96 = .ok (.newarray .int, 2) := by decide +kernel
theorem dX4_init_98 : decode cX4_init 98 = .ok (.putfield 49, 3) := by decide +kernel
theorem dX4_init_101 : decode cX4_init 101 = .ok (.aload_n 0, 1) := by decide +kernel
theorem dX4_init_102 : decode cX4_init 102 = .ok (.bipush 64, 2) := by decide +kernel
theorem dX4_init_104 : decode cX4_init 104 = .ok (.newarray .int, 2) := by decide +kernel
theorem dX4_init_106 : decode cX4_init 106 = .ok (.putfield 53, 3) := by decide +kernel
theorem dX4_init_109 : decode cX4_init 109 = .ok (.return_, 1) := by decide +kernel
set_option maxRecDepth 20000 in
theorem ggX4_type_X4_within : GoodIn wsX4_type wsX4_within := goodIn_r _ [5] (by decide +kernel) (by decide +kernel)
set_option maxRecDepth 20000 in
theorem gX4_type_X4_within : GoodIn wsX4_type (va_wsS RX4 56 yX4_within wsX4_within) := goodIn_app (goodIn_of _ (by decide +kernel)) ggX4_type_X4_within
set_option maxRecDepth 20000 in
theorem ggX4_type_X3_append : GoodIn wsX4_type wsX3_append := goodIn_r _ [10, 11, 12, 27, 28, 29, 30, 31, 32, 33] (by decide +kernel) (by decide +kernel)
set_option maxRecDepth 20000 in
theorem gX4_type_X3_append : GoodIn wsX4_type (wsV RX4 64 RX3 yX3_append wsX3_append) := goodIn_app (goodIn_of _ (by decide +kernel)) ggX4_type_X3_append
theorem dX4_type_0 : decode cX4_type 0 = .ok (.iload_n 3, 1) := by decide +kernel
theorem dX4_type_1 : decode cX4_type 1 = .ok (.iconst 1, 1) := by decide +kernel
theorem dX4_type_2 : decode cX4_type 2 = .ok (.bipush 8, 2) := by decide +kernel
theorem dX4_type_4 : decode cX4_type 4 = .ok (.invokestatic 56, 3) := by decide +kernel
theorem dX4_type_7 : decode cX4_type 7 = .ok (.ifCond .ne 5, 3) := by decide +kernel
theorem dX4_type_10 : decode cX4_type 10 = .ok (.iconst (-1), 1) := by decide +kernel
theorem dX4_type_11 : decode cX4_type 11 = .ok (.ireturn, 1) := by decide +kernel
theorem dX4_type_12 : decode cX4_type 12 = .ok (.aload_n 0, 1) := by decide +kernel
theorem dX4_type_13 : decode cX4_type 13 = .ok (.getfield 12, 3) := by decide +kernel
theorem dX4_type_16 : decode cX4_type 16 = .ok (.getfield 60, 3) := by decide +kernel
theorem dX4_type_19 : decode cX4_type 19 = .ok (.iload_n 3, 1) := by decide +kernel
theorem dX4_type_20 : decode cX4_type 20 = .ok (.iadd, 1) := by decide +kernel
theorem dX4_type_21 : decode cX4_type 21 = .ok (.sipush 400, 3) := by decide +kernel
theorem dX4_type_24 : decode cX4_type 24 = .ok (.if_icmp .le 6, 3) := by decide +kernel
theorem dX4_type_27 : decode cX4_type 27 = .ok (.bipush (-3), 2) := by decide +kernel
theorem dX4_type_29 : decode cX4_type 29 = .ok (.ireturn, 1) := by decide +kernel
theorem dX4_type_30 : decode cX4_type 30 = .ok (.iload_n 3, 1) := by decide +kernel
theorem dX4_type_31 : decode cX4_type 31 = .ok (.iconst 1, 1) := by decide +kernel
theorem dX4_type_32 : decode cX4_type 32 = .ok (.isub, 1) := by decide +kernel
theorem dX4_type_33 : decode cX4_type 33 = .ok (.istore 4, 2) := by decide +kernel
theorem dX4_type_35 : decode cX4_type 35 = .ok (.iload 4, 2) := by decide +kernel
theorem dX4_type_37 : decode cX4_type 37 = .ok (.ifCond .lt 28, 3) := by decide +kernel
theorem dX4_type_40 : decode cX4_type 40 = .ok (.aload_n 0, 1) := by decide +kernel
theorem dX4_type_41 : decode cX4_type 41 = .ok (.getfield 12, 3) := by decide +kernel
theorem dX4_type_44 : decode cX4_type 44 = .ok (.lload_n 1, 1) := by decide +kernel
theorem dX4_type_45 : decode cX4_type 45 = .ok (.bipush 8, 2) := by decide +kernel
theorem dX4_type_47 : decode cX4_type 47 = .ok (.iload 4, 2) := by decide +kernel
theorem dX4_type_49 : decode cX4_type 49 = .ok (.imul, 1) := by decide +kernel
theorem dX4_type_50 : decode cX4_type 50 = .ok (.lushr, 1) := by decide +kernel
theorem dX4_type_51 : decode cX4_type 51 = .ok (.l2i, 1) := by decide +kernel
theorem dX4_type_52 : decode cX4_type 52 = .ok (.sipush 255, 3) := by decide +kernel
theorem dX4_type_55 : decode cX4_type 55 = .ok (.iand, 1) := by decide +kernel
theorem dX4_type_56 : decode cX4_type 56 = .ok (.invokevirtual 64, 3) := by decide +kernel
theorem dX4_type_59 : decode cX4_type 59 = .ok (.iinc 4 (-1), 3) := by decide +kernel
theorem dX4_type_62 : decode cX4_type 62 = .ok (.goto (-27), 3) := by decide +kernel
theorem dX4_type_65 : decode cX4_type 65 = .ok (.aload_n 0, 1) := by decide +kernel
theorem dX4_type_66 : decode cX4_type 66 = .ok (.getfield 12, 3) := by decide +kernel
theorem dX4_type_69 : decode cX4_type 69 = .ok (.getfield 60, 3) := by decide +kernel
theorem dX4_type_72 : decode cX4_type 72 = .ok (.ireturn, 1) := by decide +kernel
set_option maxRecDepth 20000 in
theorem ggX4_clear_X3_empty : GoodIn wsX4_clear wsX3_empty := goodIn_r _ [6, 7, 22, 23, 24, 25, 26, 27, 28] (by decide +kernel) (by decide +kernel)
set_option maxRecDepth 20000 in
theorem gX4_clear_X3_empty : GoodIn wsX4_clear (wsV RX4 68 RX3 yX3_empty wsX3_empty) := goodIn_app (goodIn_of _ (by decide +kernel)) ggX4_clear_X3_empty
theorem dX4_clear_0 : decode cX4_clear 0 = .ok (.aload_n 0, 1) := by decide +kernel
theorem dX4_clear_1 : decode cX4_clear 1 = .ok (.getfield 12, 3) := by decide +kernel
theorem dX4_clear_4 : decode cX4_clear 4 = .ok (.getfield 60, 3) := by decide +kernel
theorem dX4_clear_7 : decode cX4_clear 7 = .ok (.istore_n 1, 1) := by decide +kernel
theorem dX4_clear_8 : decode cX4_clear 8 = .ok (.aload_n 0, 1) := by decide +kernel
theorem dX4_clear_9 : decode cX4_clear 9 = .ok (.getfield 12, 3) := by decide +kernel
theorem dX4_clear_12 : decode cX4_clear 12 = .ok (.invokevirtual 68, 3) := by decide +kernel
theorem dX4_clear_15 : decode cX4_clear 15 = .ok (.iload_n 1, 1) := by decide +kernel
theorem dX4_clear_16 : decode cX4_clear 16 = .ok (.ireturn, 1) := by decide +kernel
set_option maxRecDepth 20000 in
theorem ggX4_day_X3_readPlan : GoodIn wsX4_day wsX3_readPlan := goodIn_r _ [11, 12, 13, 14, 15, 16, 17, 18, 19, 20, 21, 22, 23, 24, 25, 26, 27, 10, 28, 29, 30, 31, 32, 33, 34, 35, 36, 37, 38, 39, 40, 41, 42, 43, 44, 45, 46, 47, 48, 49, 50, 51, 52, 53, 54, 55, 56, 57, 58, 59, 60, 61, 62, 63, 64, 65, 66, 67, 68, 69, 70, 71, 72, 73, 74, 75, 76, 77, 78, 79, 80, 81, 82, 83, 84, 85, 86, 87, 88, 89, 90, 91, 92, 93, 94, 95, 96, 97, 98, 99, 100, 101, 102, 103, 104, 105, 106, 107, 108, 109, 110, 111, 112, 113, 114, 115, 116, 117, 118, 119, 120, 121, 122, 123, 124, 125, 126, 127, 128, 129, 130, 131, 132, 133, 134, 135, 136, 137, 138, 139, 140, 141, 142, 143, 144, 145, 146, 147, 148, 149, 150, 151, 152, 153, 154, 155, 156, 157, 158, 159, 160, 161, 162, 163, 164, 248, 249, 250, 251, 252, 253, 254, 255, 256, 257, 258, 259, 260, 261, 262] (by decide +kernel) (by decide +kernel)
set_option maxRecDepth 20000 in
theorem gX4_day_X3_readPlan : GoodIn wsX4_day (wsV RX4 71 RX3 yX3_readPlan wsX3_readPlan) := goodIn_app (goodIn_of _ (by decide +kernel)) ggX4_day_X3_readPlan
set_option maxRecDepth 20000 in
theorem ggX4_day_X1_become : GoodIn wsX4_day wsX1_become := goodIn_r _ [168, 21, 22, 23, 24, 115, 137, 151, 164, 169, 170, 171, 255, 256, 257, 258, 259, 260, 261, 262] (by decide +kernel) (by decide +kernel)
set_option maxRecDepth 20000 in
theorem gX4_day_X1_become : GoodIn wsX4_day (wsV RX4 75 RX1 yX1_become wsX1_become) := goodIn_app (goodIn_of _ (by decide +kernel)) ggX4_day_X1_become
set_option maxRecDepth 20000 in
theorem ggX4_day_X3_empty : GoodIn wsX4_day wsX3_empty := goodIn_r _ [175, 29, 248, 249, 250, 251, 252, 253, 254] (by decide +kernel) (by decide +kernel)
set_option maxRecDepth 20000 in
theorem gX4_day_X3_empty : GoodIn wsX4_day (wsV RX4 68 RX3 yX3_empty wsX3_empty) := goodIn_app (goodIn_of _ (by decide +kernel)) ggX4_day_X3_empty
set_option maxRecDepth 20000 in
theorem ggX4_day_X0_begin : GoodIn wsX4_day wsX0_begin := goodIn_r _ [180, 181, 182, 183, 184, 185, 186, 263, 264, 265, 266, 267, 268] (by decide +kernel) (by decide +kernel)
set_option maxRecDepth 20000 in
theorem gX4_day_X0_begin : GoodIn wsX4_day (wsV RX4 79 RX0 yX0_begin wsX0_begin) := goodIn_app (goodIn_of _ (by decide +kernel)) ggX4_day_X0_begin
set_option maxRecDepth 20000 in
theorem ggX4_day_X4_tellSteps : GoodIn wsX4_day wsX4_tellSteps := goodIn_r _ [190, 191, 192, 3, 193, 176, 177, 178, 179, 180, 181, 182, 183, 184, 185, 186, 194, 195, 196, 197, 198, 199, 200, 19, 201, 21, 202, 203, 204, 205, 23, 206, 207, 208, 209, 151, 210, 211, 212, 213, 214, 215, 216, 217, 218, 219, 220, 221, 222, 223, 224, 225, 22, 115, 226, 227, 228, 229, 137, 230, 231, 232, 233, 234, 235, 236, 237, 238, 239, 240, 241, 242, 243, 244, 245, 246, 247, 263, 264, 265, 266, 267, 268, 255, 256, 257, 258, 259, 260, 261, 262] (by decide +kernel) (by decide +kernel)
set_option maxRecDepth 20000 in
theorem gX4_day_X4_tellSteps : GoodIn wsX4_day (wsV RX4 90 RX4 yX4_tellSteps wsX4_tellSteps) := goodIn_app (goodIn_of _ (by decide +kernel)) ggX4_day_X4_tellSteps
theorem dX4_day_0 : decode cX4_day 0 = .ok (.aload_n 0, 1) := by decide +kernel
theorem dX4_day_1 : decode cX4_day 1 = .ok (.getfield 12, 3) := by decide +kernel
theorem dX4_day_4 : decode cX4_day 4 = .ok (.aload_n 0, 1) := by decide +kernel
theorem dX4_day_5 : decode cX4_day 5 = .ok (.getfield 23, 3) := by decide +kernel
theorem dX4_day_8 : decode cX4_day 8 = .ok (.invokevirtual 71, 3) := by decide +kernel
theorem dX4_day_11 : decode cX4_day 11 = .ok (.istore_n 1, 1) := by decide +kernel
theorem dX4_day_12 : decode cX4_day 12 = .ok (.iload_n 1, 1) := by decide +kernel
theorem dX4_day_13 : decode cX4_day 13 = .ok (.ifCond .ge 5, 3) := by decide +kernel
theorem dX4_day_16 : decode cX4_day 16 = .ok (.iload_n 1, 1) := by decide +kernel
theorem dX4_day_17 : decode cX4_day 17 = .ok (.ireturn, 1) := by decide +kernel
theorem dX4_day_18 : decode cX4_day 18 = .ok (.aload_n 0, 1) := by decide +kernel
theorem dX4_day_19 : decode cX4_day 19 = .ok (.getfield 19, 3) := by decide +kernel
theorem dX4_day_22 : decode cX4_day 22 = .ok (.aload_n 0, 1) := by decide +kernel
theorem dX4_day_23 : decode cX4_day 23 = .ok (.getfield 23, 3) := by decide +kernel
theorem dX4_day_26 : decode cX4_day 26 = .ok (.invokevirtual 75, 3) := by decide +kernel
theorem dX4_day_29 : decode cX4_day 29 = .ok (.aload_n 0, 1) := by decide +kernel
theorem dX4_day_30 : decode cX4_day 30 = .ok (.getfield 12, 3) := by decide +kernel
theorem dX4_day_33 : decode cX4_day 33 = .ok (.invokevirtual 68, 3) := by decide +kernel
theorem dX4_day_36 : decode cX4_day 36 = .ok (.aload_n 0, 1) := by decide +kernel
theorem dX4_day_37 : decode cX4_day 37 = .ok (.getfield 29, 3) := by decide +kernel
theorem dX4_day_40 : decode cX4_day 40 = .ok (.iconst 0, 1) := by decide +kernel
theorem dX4_day_41 : decode cX4_day 41 = .ok (.iconst 0, 1) := by decide +kernel
theorem dX4_day_42 : decode cX4_day 42 = .ok (.invokevirtual 79, 3) := by decide +kernel
theorem dX4_day_45 : decode cX4_day 45 = .ok (.aload_n 0, 1) := by decide +kernel
theorem dX4_day_46 : decode cX4_day 46 = .ok (.iconst 0, 1) := by decide +kernel
theorem dX4_day_47 : decode cX4_day 47 = .ok (.putfield 83, 3) := by decide +kernel
theorem dX4_day_50 : decode cX4_day 50 = .ok (.aload_n 0, 1) := by decide +kernel
theorem dX4_day_51 : decode cX4_day 51 = .ok (.iconst 0, 1) := by decide +kernel
theorem dX4_day_52 : decode cX4_day 52 = .ok (.putfield 87, 3) := by decide +kernel
theorem dX4_day_55 : decode cX4_day 55 = .ok (.aload_n 0, 1) := by decide +kernel
theorem dX4_day_56 : decode cX4_day 56 = .ok (.invokevirtual 90, 3) := by decide +kernel
theorem dX4_day_59 : decode cX4_day 59 = .ok (.iload_n 1, 1) := by decide +kernel
theorem dX4_day_60 : decode cX4_day 60 = .ok (.ireturn, 1) := by decide +kernel
set_option maxRecDepth 20000 in
theorem ggX4_way_X1_isWay : GoodIn wsX4_way wsX1_isWay := goodIn_r _ [6, 7, 8, 32, 33, 34, 35, 36, 37, 38, 39] (by decide +kernel) (by decide +kernel)
set_option maxRecDepth 20000 in
theorem gX4_way_X1_isWay : GoodIn wsX4_way (wsV RX4 93 RX1 yX1_isWay wsX1_isWay) := goodIn_app (goodIn_of _ (by decide +kernel)) ggX4_way_X1_isWay
set_option maxRecDepth 20000 in
theorem ggX4_way_X4_within : GoodIn wsX4_way wsX4_within := goodIn_r _ [12] (by decide +kernel) (by decide +kernel)
set_option maxRecDepth 20000 in
theorem gX4_way_X4_within : GoodIn wsX4_way (va_wsS RX4 56 yX4_within wsX4_within) := goodIn_app (goodIn_of _ (by decide +kernel)) ggX4_way_X4_within
set_option maxRecDepth 20000 in
theorem ggX4_way_X1_wayPart : GoodIn wsX4_way wsX1_wayPart := goodIn_r _ [16, 17, 32, 33, 34, 35, 36, 37, 38, 39] (by decide +kernel) (by decide +kernel)
set_option maxRecDepth 20000 in
theorem gX4_way_X1_wayPart : GoodIn wsX4_way (wsV RX4 97 RX1 yX1_wayPart wsX1_wayPart) := goodIn_app (goodIn_of _ (by decide +kernel)) ggX4_way_X1_wayPart
theorem dX4_way_0 : decode cX4_way 0 = .ok (.aload_n 0, 1) := by decide +kernel
theorem dX4_way_1 : decode cX4_way 1 = .ok (.getfield 19, 3) := by decide +kernel
theorem dX4_way_4 : decode cX4_way 4 = .ok (.iload_n 1, 1) := by decide +kernel
theorem dX4_way_5 : decode cX4_way 5 = .ok (.iload_n 2, 1) := by decide +kernel
theorem dX4_way_6 : decode cX4_way 6 = .ok (.invokevirtual 93, 3) := by decide +kernel
theorem dX4_way_9 : decode cX4_way 9 = .ok (.ifCond .eq 12, 3) := by decide +kernel
theorem dX4_way_12 : decode cX4_way 12 = .ok (.iload_n 3, 1) := by decide +kernel
theorem dX4_way_13 : decode cX4_way 13 = .ok (.iconst 0, 1) := by decide +kernel
theorem dX4_way_14 : decode cX4_way 14 = .ok (.iconst 3, 1) := by decide +kernel
theorem dX4_way_15 : decode cX4_way 15 = .ok (.invokestatic 56, 3) := by decide +kernel
theorem dX4_way_18 : decode cX4_way 18 = .ok (.ifCond .ne 5, 3) := by decide +kernel
theorem dX4_way_21 : decode cX4_way 21 = .ok (.iconst (-1), 1) := by decide +kernel
theorem dX4_way_22 : decode cX4_way 22 = .ok (.ireturn, 1) := by decide +kernel
theorem dX4_way_23 : decode cX4_way 23 = .ok (.aload_n 0, 1) := by decide +kernel
theorem dX4_way_24 : decode cX4_way 24 = .ok (.getfield 19, 3) := by decide +kernel
theorem dX4_way_27 : decode cX4_way 27 = .ok (.iload_n 1, 1) := by decide +kernel
theorem dX4_way_28 : decode cX4_way 28 = .ok (.iload_n 2, 1) := by decide +kernel
theorem dX4_way_29 : decode cX4_way 29 = .ok (.iload_n 3, 1) := by decide +kernel
theorem dX4_way_30 : decode cX4_way 30 = .ok (.invokevirtual 97, 3) := by decide +kernel
theorem dX4_way_33 : decode cX4_way 33 = .ok (.ireturn, 1) := by decide +kernel
set_option maxRecDepth 20000 in
theorem ggX4_march_X4_within : GoodIn wsX4_march wsX4_within := goodIn_r _ [5] (by decide +kernel) (by decide +kernel)
set_option maxRecDepth 20000 in
theorem gX4_march_X4_within : GoodIn wsX4_march (va_wsS RX4 56 yX4_within wsX4_within) := goodIn_app (goodIn_of _ (by decide +kernel)) ggX4_march_X4_within
set_option maxRecDepth 20000 in
theorem ggX4_march_X1_marchPart : GoodIn wsX4_march wsX1_marchPart := goodIn_r _ [10, 11, 26, 27, 28, 29, 30, 31, 32, 33] (by decide +kernel) (by decide +kernel)
set_option maxRecDepth 20000 in
theorem gX4_march_X1_marchPart : GoodIn wsX4_march (wsV RX4 104 RX1 yX1_marchPart wsX1_marchPart) := goodIn_app (goodIn_of _ (by decide +kernel)) ggX4_march_X1_marchPart
theorem dX4_march_0 : decode cX4_march 0 = .ok (.iload_n 1, 1) := by decide +kernel
theorem dX4_march_1 : decode cX4_march 1 = .ok (.iconst 0, 1) := by decide +kernel
theorem dX4_march_2 : decode cX4_march 2 = .ok (.aload_n 0, 1) := by decide +kernel
theorem dX4_march_3 : decode cX4_march 3 = .ok (.getfield 19, 3) := by decide +kernel
theorem dX4_march_6 : decode cX4_march 6 = .ok (.getfield 101, 3) := by decide +kernel
theorem dX4_march_9 : decode cX4_march 9 = .ok (.iconst 1, 1) := by decide +kernel
theorem dX4_march_10 : decode cX4_march 10 = .ok (.isub, 1) := by decide +kernel
theorem dX4_march_11 : decode cX4_march 11 = .ok (.invokestatic 56, 3) := by decide +kernel
theorem dX4_march_14 : decode cX4_march 14 = .ok (.ifCond .eq 12, 3) := by decide +kernel
theorem dX4_march_17 : decode cX4_march 17 = .ok (.iload_n 2, 1) := by decide +kernel
theorem dX4_march_18 : decode cX4_march 18 = .ok (.iconst 0, 1) := by decide +kernel
theorem dX4_march_19 : decode cX4_march 19 = .ok (.iconst 2, 1) := by decide +kernel
theorem dX4_march_20 : decode cX4_march 20 = .ok (.invokestatic 56, 3) := by decide +kernel
theorem dX4_march_23 : decode cX4_march 23 = .ok (.ifCond .ne 5, 3) := by decide +kernel
theorem dX4_march_26 : decode cX4_march 26 = .ok (.iconst (-1), 1) := by decide +kernel
theorem dX4_march_27 : decode cX4_march 27 = .ok (.ireturn, 1) := by decide +kernel
theorem dX4_march_28 : decode cX4_march 28 = .ok (.aload_n 0, 1) := by decide +kernel
theorem dX4_march_29 : decode cX4_march 29 = .ok (.getfield 19, 3) := by decide +kernel
theorem dX4_march_32 : decode cX4_march 32 = .ok (.iload_n 1, 1) := by decide +kernel
theorem dX4_march_33 : decode cX4_march 33 = .ok (.iload_n 2, 1) := by decide +kernel
theorem dX4_march_34 : decode cX4_march 34 = .ok (.invokevirtual 104, 3) := by decide +kernel
theorem dX4_march_37 : decode cX4_march 37 = .ok (.ireturn, 1) := by decide +kernel
set_option maxRecDepth 20000 in
theorem ggX4_work_X4_isWork : GoodIn wsX4_work wsX4_isWork := goodIn_r _ [6, 1, 7, 8, 5, 9, 16, 17, 18, 19, 20, 21, 22, 23, 24, 25, 26, 27, 28, 29, 30, 31, 32, 33, 34, 35, 36, 37] (by decide +kernel) (by decide +kernel)
set_option maxRecDepth 20000 in
theorem gX4_work_X4_isWork : GoodIn wsX4_work (wsV RX4 108 RX4 yX4_isWork wsX4_isWork) := goodIn_app (goodIn_of _ (by decide +kernel)) ggX4_work_X4_isWork
set_option maxRecDepth 20000 in
theorem ggX4_work_X4_within : GoodIn wsX4_work wsX4_within := goodIn_r _ [9] (by decide +kernel) (by decide +kernel)
set_option maxRecDepth 20000 in
theorem gX4_work_X4_within : GoodIn wsX4_work (va_wsS RX4 56 yX4_within wsX4_within) := goodIn_app (goodIn_of _ (by decide +kernel)) ggX4_work_X4_within
set_option maxRecDepth 20000 in
theorem ggX4_work_X1_workPart : GoodIn wsX4_work wsX1_workPart := goodIn_r _ [14, 15, 30, 31, 32, 33, 34, 35, 36, 37] (by decide +kernel) (by decide +kernel)
set_option maxRecDepth 20000 in
theorem gX4_work_X1_workPart : GoodIn wsX4_work (wsV RX4 112 RX1 yX1_workPart wsX1_workPart) := goodIn_app (goodIn_of _ (by decide +kernel)) ggX4_work_X1_workPart
theorem dX4_work_0 : decode cX4_work 0 = .ok (.aload_n 0, 1) := by decide +kernel
theorem dX4_work_1 : decode cX4_work 1 = .ok (.iload_n 1, 1) := by decide +kernel
theorem dX4_work_2 : decode cX4_work 2 = .ok (.invokevirtual 108, 3) := by decide +kernel
theorem dX4_work_5 : decode cX4_work 5 = .ok (.ifCond .eq 12, 3) := by decide +kernel
theorem dX4_work_8 : decode cX4_work 8 = .ok (.iload_n 2, 1) := by decide +kernel
theorem dX4_work_9 : decode cX4_work 9 = .ok (.iconst 0, 1) := by decide +kernel
theorem dX4_work_10 : decode cX4_work 10 = .ok (.iconst 2, 1) := by decide +kernel
theorem dX4_work_11 : decode cX4_work 11 = .ok (.invokestatic 56, 3) := by decide +kernel
theorem dX4_work_14 : decode cX4_work 14 = .ok (.ifCond .ne 5, 3) := by decide +kernel
theorem dX4_work_17 : decode cX4_work 17 = .ok (.iconst (-1), 1) := by decide +kernel
theorem dX4_work_18 : decode cX4_work 18 = .ok (.ireturn, 1) := by decide +kernel
theorem dX4_work_19 : decode cX4_work 19 = .ok (.aload_n 0, 1) := by decide +kernel
theorem dX4_work_20 : decode cX4_work 20 = .ok (.getfield 19, 3) := by decide +kernel
theorem dX4_work_23 : decode cX4_work 23 = .ok (.iload_n 1, 1) := by decide +kernel
theorem dX4_work_24 : decode cX4_work 24 = .ok (.iload_n 2, 1) := by decide +kernel
theorem dX4_work_25 : decode cX4_work 25 = .ok (.invokevirtual 112, 3) := by decide +kernel
theorem dX4_work_28 : decode cX4_work 28 = .ok (.ireturn, 1) := by decide +kernel
set_option maxRecDepth 20000 in
theorem ggX4_go_X4_within : GoodIn wsX4_go wsX4_within := goodIn_r _ [6] (by decide +kernel) (by decide +kernel)
set_option maxRecDepth 20000 in
theorem gX4_go_X4_within : GoodIn wsX4_go (va_wsS RX4 56 yX4_within wsX4_within) := goodIn_app (goodIn_of _ (by decide +kernel)) ggX4_go_X4_within
set_option maxRecDepth 20000 in
theorem ggX4_go_X0_passMinute : GoodIn wsX4_go wsX0_passMinute := goodIn_r _ [11, 12, 13, 14, 15, 16, 17, 18, 19, 20, 21, 22, 23, 24, 25, 26, 27, 28, 29, 30, 31, 32, 33, 10, 34, 35, 36, 37, 38, 39, 40, 41, 42, 43, 44, 45, 46, 47, 48, 49, 50, 51, 52, 53, 54, 55, 56, 71, 72, 73, 74, 75, 76, 77, 78, 79, 80, 81, 82, 83, 84] (by decide +kernel) (by decide +kernel)
set_option maxRecDepth 20000 in
theorem gX4_go_X0_passMinute : GoodIn wsX4_go (wsV RX4 121 RX0 yX0_passMinute wsX0_passMinute) := goodIn_app (goodIn_of _ (by decide +kernel)) ggX4_go_X0_passMinute
theorem dX4_go_0 : decode cX4_go 0 = .ok (.iload_n 1, 1) := by decide +kernel
theorem dX4_go_1 : decode cX4_go 1 = .ok (.iconst 1, 1) := by decide +kernel
theorem dX4_go_2 : decode cX4_go 2 = .ok (.sipush 240, 3) := by decide +kernel
theorem dX4_go_5 : decode cX4_go 5 = .ok (.invokestatic 56, 3) := by decide +kernel
theorem dX4_go_8 : decode cX4_go 8 = .ok (.ifCond .ne 5, 3) := by decide +kernel
theorem dX4_go_11 : decode cX4_go 11 = .ok (.iconst (-1), 1) := by decide +kernel
theorem dX4_go_12 : decode cX4_go 12 = .ok (.ireturn, 1) := by decide +kernel
theorem dX4_go_13 : decode cX4_go 13 = .ok (.aload_n 0, 1) := by decide +kernel
theorem dX4_go_14 : decode cX4_go 14 = .ok (.getfield 29, 3) := by decide +kernel
theorem dX4_go_17 : decode cX4_go 17 = .ok (.getfield 115, 3) := by decide +kernel
theorem dX4_go_20 : decode cX4_go 20 = .ok (.sipush 240, 3) := by decide +kernel
theorem dX4_go_23 : decode cX4_go 23 = .ok (.if_icmp .lt 6, 3) := by decide +kernel
theorem dX4_go_26 : decode cX4_go 26 = .ok (.bipush (-2), 2) := by decide +kernel
theorem dX4_go_28 : decode cX4_go 28 = .ok (.ireturn, 1) := by decide +kernel
theorem dX4_go_29 : decode cX4_go 29 = .ok (.aload_n 0, 1) := by decide +kernel
theorem dX4_go_30 : decode cX4_go 30 = .ok (.getfield 29, 3) := by decide +kernel
theorem dX4_go_33 : decode cX4_go 33 = .ok (.getfield 118, 3) := by decide +kernel
theorem dX4_go_36 : decode cX4_go 36 = .ok (.istore_n 2, 1) := by decide +kernel
theorem dX4_go_37 : decode cX4_go 37 = .ok (.iconst 0, 1) := by decide +kernel
theorem dX4_go_38 : decode cX4_go 38 = .ok (.istore_n 3, 1) := by decide +kernel
theorem dX4_go_39 : decode cX4_go 39 = .ok (.iload_n 3, 1) := by decide +kernel
theorem dX4_go_40 : decode cX4_go 40 = .ok (.iload_n 1, 1) := by decide +kernel
theorem dX4_go_41 : decode cX4_go 41 = .ok (.if_icmp .ge 33, 3) := by decide +kernel
theorem dX4_go_44 : decode cX4_go 44 = .ok (.aload_n 0, 1) := by decide +kernel
theorem dX4_go_45 : decode cX4_go 45 = .ok (.getfield 29, 3) := by decide +kernel
theorem dX4_go_48 : decode cX4_go 48 = .ok (.getfield 115, 3) := by decide +kernel
theorem dX4_go_51 : decode cX4_go 51 = .ok (.sipush 240, 3) := by decide +kernel
theorem dX4_go_54 : decode cX4_go 54 = .ok (.if_icmp .ge 20, 3) := by decide +kernel
theorem dX4_go_57 : decode cX4_go 57 = .ok (.aload_n 0, 1) := by decide +kernel
theorem dX4_go_58 : decode cX4_go 58 = .ok (.getfield 29, 3) := by decide +kernel
theorem dX4_go_61 : decode cX4_go 61 = .ok (.aload_n 0, 1) := by decide +kernel
theorem dX4_go_62 : decode cX4_go 62 = .ok (.getfield 19, 3) := by decide +kernel
theorem dX4_go_65 : decode cX4_go 65 = .ok (.invokevirtual 121, 3) := by decide +kernel
theorem dX4_go_68 : decode cX4_go 68 = .ok (.iinc 3 1, 3) := by decide +kernel
theorem dX4_go_71 : decode cX4_go 71 = .ok (.goto (-32), 3) := by decide +kernel
theorem dX4_go_74 : decode cX4_go 74 = .ok (.aload_n 0, 1) := by decide +kernel
theorem dX4_go_75 : decode cX4_go 75 = .ok (.getfield 29, 3) := by decide +kernel
theorem dX4_go_78 : decode cX4_go 78 = .ok (.getfield 118, 3) := by decide +kernel
theorem dX4_go_81 : decode cX4_go 81 = .ok (.iload_n 2, 1) := by decide +kernel
theorem dX4_go_82 : decode cX4_go 82 = .ok (.isub, 1) := by decide +kernel
theorem dX4_go_83 : decode cX4_go 83 = .ok (.ireturn, 1) := by decide +kernel
set_option maxRecDepth 20000 in
theorem ggX4_sits_X4_everybody : GoodIn wsX4_sits wsX4_everybody := goodIn_r _ [6, 7, 8, 9, 10, 11, 12, 13, 14, 15, 16, 17, 18, 19, 20, 21, 28, 29, 30, 31, 32, 33, 34, 35] (by decide +kernel) (by decide +kernel)
set_option maxRecDepth 20000 in
theorem gX4_sits_X4_everybody : GoodIn wsX4_sits (wsV RX4 127 RX4 yX4_everybody wsX4_everybody) := goodIn_app (goodIn_of _ (by decide +kernel)) ggX4_sits_X4_everybody
theorem dX4_sits_0 : decode cX4_sits 0 = .ok (.aload_n 0, 1) := by decide +kernel
theorem dX4_sits_1 : decode cX4_sits 1 = .ok (.getfield 29, 3) := by decide +kernel
theorem dX4_sits_4 : decode cX4_sits 4 = .ok (.getfield 124, 3) := by decide +kernel
theorem dX4_sits_7 : decode cX4_sits 7 = .ok (.istore_n 2, 1) := by decide +kernel
theorem dX4_sits_8 : decode cX4_sits 8 = .ok (.aload_n 0, 1) := by decide +kernel
theorem dX4_sits_9 : decode cX4_sits 9 = .ok (.getfield 29, 3) := by decide +kernel
theorem dX4_sits_12 : decode cX4_sits 12 = .ok (.iload_n 1, 1) := by decide +kernel
theorem dX4_sits_13 : decode cX4_sits 13 = .ok (.aload_n 0, 1) := by decide +kernel
theorem dX4_sits_14 : decode cX4_sits 14 = .ok (.invokevirtual 127, 3) := by decide +kernel
theorem dX4_sits_17 : decode cX4_sits 17 = .ok (.iand, 1) := by decide +kernel
theorem dX4_sits_18 : decode cX4_sits 18 = .ok (.putfield 124, 3) := by decide +kernel
theorem dX4_sits_21 : decode cX4_sits 21 = .ok (.iload_n 2, 1) := by decide +kernel
theorem dX4_sits_22 : decode cX4_sits 22 = .ok (.ireturn, 1) := by decide +kernel
set_option maxRecDepth 20000 in
theorem ggX4_one_X4_within : GoodIn wsX4_one wsX4_within := goodIn_r _ [5] (by decide +kernel) (by decide +kernel)
set_option maxRecDepth 20000 in
theorem gX4_one_X4_within : GoodIn wsX4_one (va_wsS RX4 56 yX4_within wsX4_within) := goodIn_app (goodIn_of _ (by decide +kernel)) ggX4_one_X4_within
set_option maxRecDepth 20000 in
theorem ggX4_one_X4_hourNow : GoodIn wsX4_one wsX4_hourNow := goodIn_r _ [9, 10, 1, 11, 12, 13, 14, 15, 16, 17, 18, 19, 20, 21, 22, 23, 24, 25, 26, 27, 28, 29, 30, 31, 32, 33, 34, 35, 36, 37, 38, 39, 40, 41, 42, 43, 44] (by decide +kernel) (by decide +kernel)
set_option maxRecDepth 20000 in
theorem gX4_one_X4_hourNow : GoodIn wsX4_one (wsV RX4 131 RX4 yX4_hourNow wsX4_hourNow) := goodIn_app (goodIn_of _ (by decide +kernel)) ggX4_one_X4_hourNow
theorem dX4_one_0 : decode cX4_one 0 = .ok (.iload_n 1, 1) := by decide +kernel
theorem dX4_one_1 : decode cX4_one 1 = .ok (.iconst 1, 1) := by decide +kernel
theorem dX4_one_2 : decode cX4_one 2 = .ok (.sipush 9999, 3) := by decide +kernel
theorem dX4_one_5 : decode cX4_one 5 = .ok (.invokestatic 56, 3) := by decide +kernel
theorem dX4_one_8 : decode cX4_one 8 = .ok (.ifCond .ne 5, 3) := by decide +kernel
theorem dX4_one_11 : decode cX4_one 11 = .ok (.iconst (-1), 1) := by decide +kernel
theorem dX4_one_12 : decode cX4_one 12 = .ok (.ireturn, 1) := by decide +kernel
theorem dX4_one_13 : decode cX4_one 13 = .ok (.aload_n 0, 1) := by decide +kernel
theorem dX4_one_14 : decode cX4_one 14 = .ok (.getfield 29, 3) := by decide +kernel
theorem dX4_one_17 : decode cX4_one 17 = .ok (.getfield 115, 3) := by decide +kernel
theorem dX4_one_20 : decode cX4_one 20 = .ok (.sipush 240, 3) := by decide +kernel
theorem dX4_one_23 : decode cX4_one 23 = .ok (.if_icmp .lt 6, 3) := by decide +kernel
theorem dX4_one_26 : decode cX4_one 26 = .ok (.bipush (-2), 2) := by decide +kernel
theorem dX4_one_28 : decode cX4_one 28 = .ok (.ireturn, 1) := by decide +kernel
theorem dX4_one_29 : decode cX4_one 29 = .ok (.aload_n 0, 1) := by decide +kernel
theorem dX4_one_30 : decode cX4_one 30 = .ok (.getfield 29, 3) := by decide +kernel
theorem dX4_one_33 : decode cX4_one 33 = .ok (.dup, 1) := by decide +kernel
theorem dX4_one_34 : decode cX4_one 34 = .ok (.getfield 118, 3) := by decide +kernel
theorem dX4_one_37 : decode cX4_one 37 = .ok (.iload_n 1, 1) := by decide +kernel
theorem dX4_one_38 : decode cX4_one 38 = .ok (.iadd, 1) := by decide +kernel
theorem dX4_one_39 : decode cX4_one 39 = .ok (.putfield 118, 3) := by decide +kernel
theorem dX4_one_42 : decode cX4_one 42 = .ok (.aload_n 0, 1) := by decide +kernel
theorem dX4_one_43 : decode cX4_one 43 = .ok (.invokevirtual 131, 3) := by decide +kernel
theorem dX4_one_46 : decode cX4_one 46 = .ok (.ireturn, 1) := by decide +kernel
set_option maxRecDepth 20000 in
theorem ggX4_now_X4_hourNow : GoodIn wsX4_now wsX4_hourNow := goodIn_r _ [6, 7, 1, 8, 9, 10, 11, 12, 13, 20, 21, 22, 23, 24, 25, 26, 27, 28, 29, 30, 31, 32, 33, 34, 35, 36, 37, 38, 39, 40, 41, 42, 43, 44, 45, 46, 47] (by decide +kernel) (by decide +kernel)
set_option maxRecDepth 20000 in
theorem gX4_now_X4_hourNow : GoodIn wsX4_now (wsV RX4 131 RX4 yX4_hourNow wsX4_hourNow) := goodIn_app (goodIn_of _ (by decide +kernel)) ggX4_now_X4_hourNow
set_option maxRecDepth 20000 in
theorem ggX4_now_X0_peopleOnWays : GoodIn wsX4_now wsX0_peopleOnWays := goodIn_r _ [18, 19, 34, 35, 36, 37, 38, 39] (by decide +kernel) (by decide +kernel)
set_option maxRecDepth 20000 in
theorem gX4_now_X0_peopleOnWays : GoodIn wsX4_now (wsV RX4 134 RX0 yX0_peopleOnWays wsX0_peopleOnWays) := goodIn_app (goodIn_of _ (by decide +kernel)) ggX4_now_X0_peopleOnWays
theorem dX4_now_0 : decode cX4_now 0 = .ok (.iload_n 1, 1) := by decide +kernel
theorem dX4_now_1 : decode cX4_now 1 = .ok (.tableswitch 87 0 5 #[39, 47, 55, 60, 68, 76], 39) := by decide +kernel
theorem dX4_now_40 : decode cX4_now 40 = .ok (.aload_n 0, 1) := by decide +kernel
theorem dX4_now_41 : decode cX4_now 41 = .ok (.getfield 29, 3) := by decide +kernel
theorem dX4_now_44 : decode cX4_now 44 = .ok (.getfield 115, 3) := by decide +kernel
theorem dX4_now_47 : decode cX4_now 47 = .ok (.ireturn, 1) := by decide +kernel
theorem dX4_now_48 : decode cX4_now 48 = .ok (.aload_n 0, 1) := by decide +kernel
theorem dX4_now_49 : decode cX4_now 49 = .ok (.getfield 29, 3) := by decide +kernel
theorem dX4_now_52 : decode cX4_now 52 = .ok (.getfield 118, 3) := by decide +kernel
theorem dX4_now_55 : decode cX4_now 55 = .ok (.ireturn, 1) := by decide +kernel
theorem dX4_now_56 : decode cX4_now 56 = .ok (.aload_n 0, 1) := by decide +kernel
theorem dX4_now_57 : decode cX4_now 57 = .ok (.invokevirtual 131, 3) := by decide +kernel
theorem dX4_now_60 : decode cX4_now 60 = .ok (.ireturn, 1) := by decide +kernel
theorem dX4_now_61 : decode cX4_now 61 = .ok (.aload_n 0, 1) := by decide +kernel
theorem dX4_now_62 : decode cX4_now 62 = .ok (.getfield 29, 3) := by decide +kernel
theorem dX4_now_65 : decode cX4_now 65 = .ok (.invokevirtual 134, 3) := by decide +kernel
theorem dX4_now_68 : decode cX4_now 68 = .ok (.ireturn, 1) := by decide +kernel
theorem dX4_now_69 : decode cX4_now 69 = .ok (.aload_n 0, 1) := by decide +kernel
theorem dX4_now_70 : decode cX4_now 70 = .ok (.getfield 29, 3) := by decide +kernel
theorem dX4_now_73 : decode cX4_now 73 = .ok (.getfield 124, 3) := by decide +kernel
theorem dX4_now_76 : decode cX4_now 76 = .ok (.ireturn, 1) := by decide +kernel
theorem dX4_now_77 : decode cX4_now 77 = .ok (.aload_n 0, 1) := by decide +kernel
theorem dX4_now_78 : decode cX4_now 78 = .ok (.getfield 29, 3) := by decide +kernel
theorem dX4_now_81 : decode cX4_now 81 = .ok (.getfield 115, 3) := by decide +kernel
theorem dX4_now_84 : decode cX4_now 84 = .ok (.bipush 60, 2) := by decide +kernel
theorem dX4_now_86 : decode cX4_now 86 = .ok (.idiv, 1) := by decide +kernel
theorem dX4_now_87 : decode cX4_now 87 = .ok (.ireturn, 1) := by decide +kernel
theorem dX4_now_88 : decode cX4_now 88 = .ok (.iconst (-1), 1) := by decide +kernel
theorem dX4_now_89 : decode cX4_now 89 = .ok (.ireturn, 1) := by decide +kernel
set_option maxRecDepth 20000 in
theorem ggX4_person_X1_isPerson : GoodIn wsX4_person wsX1_isPerson := goodIn_r _ [7, 8, 9, 40, 41, 42, 43, 44, 45, 46, 47] (by decide +kernel) (by decide +kernel)
set_option maxRecDepth 20000 in
theorem gX4_person_X1_isPerson : GoodIn wsX4_person (wsV RX4 137 RX1 yX1_isPerson wsX1_isPerson) := goodIn_app (goodIn_of _ (by decide +kernel)) ggX4_person_X1_isPerson
set_option maxRecDepth 20000 in
theorem ggX4_person_X0_doneBy : GoodIn wsX4_person wsX0_doneBy := goodIn_r _ [14, 15, 48, 49, 50, 51, 52, 53] (by decide +kernel) (by decide +kernel)
set_option maxRecDepth 20000 in
theorem gX4_person_X0_doneBy : GoodIn wsX4_person (wsV RX4 140 RX0 yX0_doneBy wsX0_doneBy) := goodIn_app (goodIn_of _ (by decide +kernel)) ggX4_person_X0_doneBy
set_option maxRecDepth 20000 in
theorem ggX4_person_X0_leftFor : GoodIn wsX4_person wsX0_leftFor := goodIn_r _ [19, 20, 48, 49, 50, 51, 52, 53] (by decide +kernel) (by decide +kernel)
set_option maxRecDepth 20000 in
theorem gX4_person_X0_leftFor : GoodIn wsX4_person (wsV RX4 144 RX0 yX0_leftFor wsX0_leftFor) := goodIn_app (goodIn_of _ (by decide +kernel)) ggX4_person_X0_leftFor
set_option maxRecDepth 20000 in
theorem ggX4_person_X0_takenBy : GoodIn wsX4_person wsX0_takenBy := goodIn_r _ [24, 25, 48, 49, 50, 51, 52, 53] (by decide +kernel) (by decide +kernel)
set_option maxRecDepth 20000 in
theorem gX4_person_X0_takenBy : GoodIn wsX4_person (wsV RX4 147 RX0 yX0_takenBy wsX0_takenBy) := goodIn_app (goodIn_of _ (by decide +kernel)) ggX4_person_X0_takenBy
theorem dX4_person_0 : decode cX4_person 0 = .ok (.aload_n 0, 1) := by decide +kernel
theorem dX4_person_1 : decode cX4_person 1 = .ok (.getfield 19, 3) := by decide +kernel
theorem dX4_person_4 : decode cX4_person 4 = .ok (.iload_n 1, 1) := by decide +kernel
theorem dX4_person_5 : decode cX4_person 5 = .ok (.invokevirtual 137, 3) := by decide +kernel
theorem dX4_person_8 : decode cX4_person 8 = .ok (.ifCond .ne 5, 3) := by decide +kernel
theorem dX4_person_11 : decode cX4_person 11 = .ok (.iconst (-1), 1) := by decide +kernel
theorem dX4_person_12 : decode cX4_person 12 = .ok (.ireturn, 1) := by decide +kernel
theorem dX4_person_13 : decode cX4_person 13 = .ok (.iload_n 2, 1) := by decide +kernel
theorem dX4_person_14 : decode cX4_person 14 = .ok (.tableswitch 74 0 3 #[30, 39, 56, 65], 30) := by decide +kernel
theorem dX4_person_44 : decode cX4_person 44 = .ok (.aload_n 0, 1) := by decide +kernel
theorem dX4_person_45 : decode cX4_person 45 = .ok (.getfield 29, 3) := by decide +kernel
theorem dX4_person_48 : decode cX4_person 48 = .ok (.iload_n 1, 1) := by decide +kernel
theorem dX4_person_49 : decode cX4_person 49 = .ok (.invokevirtual 140, 3) := by decide +kernel
theorem dX4_person_52 : decode cX4_person 52 = .ok (.ireturn, 1) := by decide +kernel
theorem dX4_person_53 : decode cX4_person 53 = .ok (.aload_n 0, 1) := by decide +kernel
theorem dX4_person_54 : decode cX4_person 54 = .ok (.getfield 29, 3) := by decide +kernel
theorem dX4_person_57 : decode cX4_person 57 = .ok (.iload_n 1, 1) := by decide +kernel
theorem dX4_person_58 : decode cX4_person 58 = .ok (.invokevirtual 144, 3) := by decide +kernel
theorem dX4_person_61 : decode cX4_person 61 = .ok (.ifCond .le 7, 3) := by decide +kernel
theorem dX4_person_64 : decode cX4_person 64 = .ok (.iconst 1, 1) := by decide +kernel
theorem dX4_person_65 : decode cX4_person 65 = .ok (.goto 4, 3) := by decide +kernel
theorem dX4_person_68 : decode cX4_person 68 = .ok (.iconst 0, 1) := by decide +kernel
theorem dX4_person_69 : decode cX4_person 69 = .ok (.ireturn, 1) := by decide +kernel
theorem dX4_person_70 : decode cX4_person 70 = .ok (.aload_n 0, 1) := by decide +kernel
theorem dX4_person_71 : decode cX4_person 71 = .ok (.getfield 29, 3) := by decide +kernel
theorem dX4_person_74 : decode cX4_person 74 = .ok (.iload_n 1, 1) := by decide +kernel
theorem dX4_person_75 : decode cX4_person 75 = .ok (.invokevirtual 144, 3) := by decide +kernel
theorem dX4_person_78 : decode cX4_person 78 = .ok (.ireturn, 1) := by decide +kernel
theorem dX4_person_79 : decode cX4_person 79 = .ok (.aload_n 0, 1) := by decide +kernel
theorem dX4_person_80 : decode cX4_person 80 = .ok (.getfield 29, 3) := by decide +kernel
theorem dX4_person_83 : decode cX4_person 83 = .ok (.iload_n 1, 1) := by decide +kernel
theorem dX4_person_84 : decode cX4_person 84 = .ok (.invokevirtual 147, 3) := by decide +kernel
theorem dX4_person_87 : decode cX4_person 87 = .ok (.ireturn, 1) := by decide +kernel
theorem dX4_person_88 : decode cX4_person 88 = .ok (.iconst (-1), 1) := by decide +kernel
theorem dX4_person_89 : decode cX4_person 89 = .ok (.ireturn, 1) := by decide +kernel
set_option maxRecDepth 20000 in
theorem ggX4_anew_X0_begin : GoodIn wsX4_anew wsX0_begin := goodIn_r _ [6, 7, 8, 9, 10, 11, 12, 27, 28, 29, 30, 31, 32] (by decide +kernel) (by decide +kernel)
set_option maxRecDepth 20000 in
theorem gX4_anew_X0_begin : GoodIn wsX4_anew (wsV RX4 79 RX0 yX0_begin wsX0_begin) := goodIn_app (goodIn_of _ (by decide +kernel)) ggX4_anew_X0_begin
theorem dX4_anew_0 : decode cX4_anew 0 = .ok (.aload_n 0, 1) := by decide +kernel
theorem dX4_anew_1 : decode cX4_anew 1 = .ok (.getfield 29, 3) := by decide +kernel
theorem dX4_anew_4 : decode cX4_anew 4 = .ok (.getfield 115, 3) := by decide +kernel
theorem dX4_anew_7 : decode cX4_anew 7 = .ok (.istore_n 1, 1) := by decide +kernel
theorem dX4_anew_8 : decode cX4_anew 8 = .ok (.aload_n 0, 1) := by decide +kernel
theorem dX4_anew_9 : decode cX4_anew 9 = .ok (.getfield 29, 3) := by decide +kernel
theorem dX4_anew_12 : decode cX4_anew 12 = .ok (.iconst 0, 1) := by decide +kernel
theorem dX4_anew_13 : decode cX4_anew 13 = .ok (.iconst 0, 1) := by decide +kernel
theorem dX4_anew_14 : decode cX4_anew 14 = .ok (.invokevirtual 79, 3) := by decide +kernel
theorem dX4_anew_17 : decode cX4_anew 17 = .ok (.iload_n 1, 1) := by decide +kernel
theorem dX4_anew_18 : decode cX4_anew 18 = .ok (.ireturn, 1) := by decide +kernel
set_option maxRecDepth 20000 in
theorem ggX4_comes_X4_isHour : GoodIn wsX4_comes wsX4_isHour := goodIn_r _ [4, 5, 6, 3, 7] (by decide +kernel) (by decide +kernel)
set_option maxRecDepth 20000 in
theorem gX4_comes_X4_isHour : GoodIn wsX4_comes (va_wsS RX4 150 yX4_isHour wsX4_isHour) := goodIn_app (goodIn_of _ (by decide +kernel)) ggX4_comes_X4_isHour
set_option maxRecDepth 20000 in
theorem ggX4_comes_X4_firstMinute : GoodIn wsX4_comes wsX4_firstMinute := goodIn_r _ [11, 12, 13, 14, 15, 16, 3, 17, 18, 19, 20, 21, 22, 23, 24, 25, 26, 27, 28, 29, 30, 31, 32, 33, 34, 35, 36, 37, 38, 39, 40, 41, 42, 43, 44, 45, 46, 47, 48, 49, 50, 51, 52, 53, 54, 55, 56, 57, 58, 59, 60, 61, 62, 63, 64, 65, 66, 67, 68, 69, 70, 71, 72, 73, 74, 75, 76, 77, 78, 79, 80, 81, 82, 83, 84, 85, 86, 87, 88, 89, 90, 91, 92, 93, 94, 95, 96, 97, 98, 99, 100] (by decide +kernel) (by decide +kernel)
set_option maxRecDepth 20000 in
theorem gX4_comes_X4_firstMinute : GoodIn wsX4_comes (wsV RX4 153 RX4 yX4_firstMinute wsX4_firstMinute) := goodIn_app (goodIn_of _ (by decide +kernel)) ggX4_comes_X4_firstMinute
theorem dX4_comes_0 : decode cX4_comes 0 = .ok (.iload_n 1, 1) := by decide +kernel
theorem dX4_comes_1 : decode cX4_comes 1 = .ok (.invokestatic 150, 3) := by decide +kernel
theorem dX4_comes_4 : decode cX4_comes 4 = .ok (.ifCond .ne 5, 3) := by decide +kernel
theorem dX4_comes_7 : decode cX4_comes 7 = .ok (.iconst (-1), 1) := by decide +kernel
theorem dX4_comes_8 : decode cX4_comes 8 = .ok (.ireturn, 1) := by decide +kernel
theorem dX4_comes_9 : decode cX4_comes 9 = .ok (.aload_n 0, 1) := by decide +kernel
theorem dX4_comes_10 : decode cX4_comes 10 = .ok (.iload_n 1, 1) := by decide +kernel
theorem dX4_comes_11 : decode cX4_comes 11 = .ok (.iload_n 2, 1) := by decide +kernel
theorem dX4_comes_12 : decode cX4_comes 12 = .ok (.iconst 0, 1) := by decide +kernel
theorem dX4_comes_13 : decode cX4_comes 13 = .ok (.sipush 240, 3) := by decide +kernel
theorem dX4_comes_16 : decode cX4_comes 16 = .ok (.invokevirtual 153, 3) := by decide +kernel
theorem dX4_comes_19 : decode cX4_comes 19 = .ok (.ireturn, 1) := by decide +kernel
set_option maxRecDepth 20000 in
theorem ggX4_steps_X4_isMinute : GoodIn wsX4_steps wsX4_isMinute := goodIn_r _ [4, 5, 6, 3, 7] (by decide +kernel) (by decide +kernel)
set_option maxRecDepth 20000 in
theorem gX4_steps_X4_isMinute : GoodIn wsX4_steps (va_wsS RX4 157 yX4_isMinute wsX4_isMinute) := goodIn_app (goodIn_of _ (by decide +kernel)) ggX4_steps_X4_isMinute
set_option maxRecDepth 20000 in
theorem ggX4_steps_X4_toldSteps : GoodIn wsX4_steps wsX4_toldSteps := goodIn_r _ [11, 12, 13, 14, 15, 16, 17, 18, 19, 20, 21, 22, 23, 24, 25, 26] (by decide +kernel) (by decide +kernel)
set_option maxRecDepth 20000 in
theorem gX4_steps_X4_toldSteps : GoodIn wsX4_steps (wsV RX4 160 RX4 yX4_toldSteps wsX4_toldSteps) := goodIn_app (goodIn_of _ (by decide +kernel)) ggX4_steps_X4_toldSteps
theorem dX4_steps_0 : decode cX4_steps 0 = .ok (.iload_n 1, 1) := by decide +kernel
theorem dX4_steps_1 : decode cX4_steps 1 = .ok (.invokestatic 157, 3) := by decide +kernel
theorem dX4_steps_4 : decode cX4_steps 4 = .ok (.ifCond .ne 5, 3) := by decide +kernel
theorem dX4_steps_7 : decode cX4_steps 7 = .ok (.iconst (-1), 1) := by decide +kernel
theorem dX4_steps_8 : decode cX4_steps 8 = .ok (.ireturn, 1) := by decide +kernel
theorem dX4_steps_9 : decode cX4_steps 9 = .ok (.aload_n 0, 1) := by decide +kernel
theorem dX4_steps_10 : decode cX4_steps 10 = .ok (.iload_n 1, 1) := by decide +kernel
theorem dX4_steps_11 : decode cX4_steps 11 = .ok (.invokevirtual 160, 3) := by decide +kernel
theorem dX4_steps_14 : decode cX4_steps 14 = .ok (.ireturn, 1) := by decide +kernel
set_option maxRecDepth 20000 in
theorem ggX4_hangs_X4_standsBehind : GoodIn wsX4_hangs wsX4_standsBehind := goodIn_r _ [6, 7, 8, 9, 5, 10, 11, 12, 13, 14, 15, 16, 17, 18, 19, 20, 21, 22, 23, 24, 25] (by decide +kernel) (by decide +kernel)
set_option maxRecDepth 20000 in
theorem gX4_hangs_X4_standsBehind : GoodIn wsX4_hangs (wsV RX4 166 RX4 yX4_standsBehind wsX4_standsBehind) := goodIn_app (goodIn_of _ (by decide +kernel)) ggX4_hangs_X4_standsBehind
theorem dX4_hangs_0 : decode cX4_hangs 0 = .ok (.iload_n 1, 1) := by decide +kernel
theorem dX4_hangs_1 : decode cX4_hangs 1 = .ok (.lookupswitch 37 #[(0, 27), (1, 32)], 27) := by decide +kernel
theorem dX4_hangs_28 : decode cX4_hangs 28 = .ok (.aload_n 0, 1) := by decide +kernel
theorem dX4_hangs_29 : decode cX4_hangs 29 = .ok (.getfield 163, 3) := by decide +kernel
theorem dX4_hangs_32 : decode cX4_hangs 32 = .ok (.ireturn, 1) := by decide +kernel
theorem dX4_hangs_33 : decode cX4_hangs 33 = .ok (.aload_n 0, 1) := by decide +kernel
theorem dX4_hangs_34 : decode cX4_hangs 34 = .ok (.invokevirtual 166, 3) := by decide +kernel
theorem dX4_hangs_37 : decode cX4_hangs 37 = .ok (.ireturn, 1) := by decide +kernel
theorem dX4_hangs_38 : decode cX4_hangs 38 = .ok (.iconst (-1), 1) := by decide +kernel
theorem dX4_hangs_39 : decode cX4_hangs 39 = .ok (.ireturn, 1) := by decide +kernel
set_option maxRecDepth 20000 in
theorem ggX4_least_X4_isHour : GoodIn wsX4_least wsX4_isHour := goodIn_r _ [9, 10, 11, 8, 12] (by decide +kernel) (by decide +kernel)
set_option maxRecDepth 20000 in
theorem gX4_least_X4_isHour : GoodIn wsX4_least (va_wsS RX4 150 yX4_isHour wsX4_isHour) := goodIn_app (goodIn_of _ (by decide +kernel)) ggX4_least_X4_isHour
set_option maxRecDepth 20000 in
theorem ggX4_least_X4_within : GoodIn wsX4_least wsX4_within := goodIn_r _ [12] (by decide +kernel) (by decide +kernel)
set_option maxRecDepth 20000 in
theorem gX4_least_X4_within : GoodIn wsX4_least (va_wsS RX4 56 yX4_within wsX4_within) := goodIn_app (goodIn_of _ (by decide +kernel)) ggX4_least_X4_within
set_option maxRecDepth 20000 in
theorem ggX4_least_X4_toldSteps : GoodIn wsX4_least wsX4_toldSteps := goodIn_r _ [16, 17, 24, 25, 26, 27, 28, 29, 30, 31, 32, 33, 34, 35, 36, 37] (by decide +kernel) (by decide +kernel)
set_option maxRecDepth 20000 in
theorem gX4_least_X4_toldSteps : GoodIn wsX4_least (wsV RX4 160 RX4 yX4_toldSteps wsX4_toldSteps) := goodIn_app (goodIn_of _ (by decide +kernel)) ggX4_least_X4_toldSteps
set_option maxRecDepth 20000 in
theorem ggX4_least_X1_hourOf : GoodIn wsX4_least wsX1_hourOf := goodIn_r _ [22, 23, 38, 39, 40, 41, 42, 43, 44, 45] (by decide +kernel) (by decide +kernel)
set_option maxRecDepth 20000 in
theorem gX4_least_X1_hourOf : GoodIn wsX4_least (wsV RX4 169 RX1 yX1_hourOf wsX1_hourOf) := goodIn_app (goodIn_of _ (by decide +kernel)) ggX4_least_X1_hourOf
theorem dX4_least_0 : decode cX4_least 0 = .ok (.iload_n 1, 1) := by decide +kernel
theorem dX4_least_1 : decode cX4_least 1 = .ok (.invokestatic 150, 3) := by decide +kernel
theorem dX4_least_4 : decode cX4_least 4 = .ok (.ifCond .eq 14, 3) := by decide +kernel
theorem dX4_least_7 : decode cX4_least 7 = .ok (.iload_n 2, 1) := by decide +kernel
theorem dX4_least_8 : decode cX4_least 8 = .ok (.iconst 1, 1) := by decide +kernel
theorem dX4_least_9 : decode cX4_least 9 = .ok (.sipush 240, 3) := by decide +kernel
theorem dX4_least_12 : decode cX4_least 12 = .ok (.invokestatic 56, 3) := by decide +kernel
theorem dX4_least_15 : decode cX4_least 15 = .ok (.ifCond .ne 5, 3) := by decide +kernel
theorem dX4_least_18 : decode cX4_least 18 = .ok (.iconst (-1), 1) := by decide +kernel
theorem dX4_least_19 : decode cX4_least 19 = .ok (.ireturn, 1) := by decide +kernel
theorem dX4_least_20 : decode cX4_least 20 = .ok (.aload_n 0, 1) := by decide +kernel
theorem dX4_least_21 : decode cX4_least 21 = .ok (.getfield 19, 3) := by decide +kernel
theorem dX4_least_24 : decode cX4_least 24 = .ok (.aload_n 0, 1) := by decide +kernel
theorem dX4_least_25 : decode cX4_least 25 = .ok (.iload_n 2, 1) := by decide +kernel
theorem dX4_least_26 : decode cX4_least 26 = .ok (.iconst 1, 1) := by decide +kernel
theorem dX4_least_27 : decode cX4_least 27 = .ok (.isub, 1) := by decide +kernel
theorem dX4_least_28 : decode cX4_least 28 = .ok (.invokevirtual 160, 3) := by decide +kernel
theorem dX4_least_31 : decode cX4_least 31 = .ok (.invokevirtual 169, 3) := by decide +kernel
theorem dX4_least_34 : decode cX4_least 34 = .ok (.iload_n 1, 1) := by decide +kernel
theorem dX4_least_35 : decode cX4_least 35 = .ok (.if_icmp .lt 6, 3) := by decide +kernel
theorem dX4_least_38 : decode cX4_least 38 = .ok (.bipush (-9), 2) := by decide +kernel
theorem dX4_least_40 : decode cX4_least 40 = .ok (.ireturn, 1) := by decide +kernel
theorem dX4_least_41 : decode cX4_least 41 = .ok (.iconst 0, 1) := by decide +kernel
theorem dX4_least_42 : decode cX4_least 42 = .ok (.iload_n 1, 1) := by decide +kernel
theorem dX4_least_43 : decode cX4_least 43 = .ok (.aload_n 0, 1) := by decide +kernel
theorem dX4_least_44 : decode cX4_least 44 = .ok (.getfield 19, 3) := by decide +kernel
theorem dX4_least_47 : decode cX4_least 47 = .ok (.getfield 172, 3) := by decide +kernel
theorem dX4_least_50 : decode cX4_least 50 = .ok (.imul, 1) := by decide +kernel
theorem dX4_least_51 : decode cX4_least 51 = .ok (.aload_n 0, 1) := by decide +kernel
theorem dX4_least_52 : decode cX4_least 52 = .ok (.iload_n 2, 1) := by decide +kernel
theorem dX4_least_53 : decode cX4_least 53 = .ok (.invokevirtual 160, 3) := by decide +kernel
theorem dX4_least_56 : decode cX4_least 56 = .ok (.isub, 1) := by decide +kernel
theorem dX4_least_57 : decode cX4_least 57 = .ok (.invokestatic 175, 3) := by decide +kernel
theorem dX4_least_60 : decode cX4_least 60 = .ok (.ireturn, 1) := by decide +kernel
set_option maxRecDepth 20000 in
theorem ggX4_ends_X4_isWork : GoodIn wsX4_ends wsX4_isWork := goodIn_r _ [5, 6, 7, 8, 4, 9, 28, 29, 30, 31, 32, 33, 34, 35, 36, 37, 38, 39, 40, 41, 42, 43, 44, 45, 46, 47, 48, 49] (by decide +kernel) (by decide +kernel)
set_option maxRecDepth 20000 in
theorem gX4_ends_X4_isWork : GoodIn wsX4_ends (wsV RX4 108 RX4 yX4_isWork wsX4_isWork) := goodIn_app (goodIn_of _ (by decide +kernel)) ggX4_ends_X4_isWork
set_option maxRecDepth 20000 in
theorem ggX4_ends_X4_isMinute : GoodIn wsX4_ends wsX4_isMinute := goodIn_r _ [12, 7, 8, 4, 9] (by decide +kernel) (by decide +kernel)
set_option maxRecDepth 20000 in
theorem gX4_ends_X4_isMinute : GoodIn wsX4_ends (va_wsS RX4 157 yX4_isMinute wsX4_isMinute) := goodIn_app (goodIn_of _ (by decide +kernel)) ggX4_ends_X4_isMinute
set_option maxRecDepth 20000 in
theorem ggX4_ends_X4_workEnd : GoodIn wsX4_ends wsX4_workEnd := goodIn_r _ [16, 6, 17, 18, 19, 20, 21, 22, 23, 24, 25, 4, 26, 27, 28, 29, 30, 31, 32, 33, 34, 35, 36, 37, 38, 39, 40, 41, 42, 43, 44, 45, 46, 47, 48, 49] (by decide +kernel) (by decide +kernel)
set_option maxRecDepth 20000 in
theorem gX4_ends_X4_workEnd : GoodIn wsX4_ends (wsV RX4 180 RX4 yX4_workEnd wsX4_workEnd) := goodIn_app (goodIn_of _ (by decide +kernel)) ggX4_ends_X4_workEnd
theorem dX4_ends_0 : decode cX4_ends 0 = .ok (.aload_n 0, 1) := by decide +kernel
theorem dX4_ends_1 : decode cX4_ends 1 = .ok (.iload_n 1, 1) := by decide +kernel
theorem dX4_ends_2 : decode cX4_ends 2 = .ok (.invokevirtual 108, 3) := by decide +kernel
theorem dX4_ends_5 : decode cX4_ends 5 = .ok (.ifCond .eq 10, 3) := by decide +kernel
theorem dX4_ends_8 : decode cX4_ends 8 = .ok (.iload_n 2, 1) := by decide +kernel
theorem dX4_ends_9 : decode cX4_ends 9 = .ok (.invokestatic 157, 3) := by decide +kernel
theorem dX4_ends_12 : decode cX4_ends 12 = .ok (.ifCond .ne 5, 3) := by decide +kernel
theorem dX4_ends_15 : decode cX4_ends 15 = .ok (.iconst (-1), 1) := by decide +kernel
theorem dX4_ends_16 : decode cX4_ends 16 = .ok (.ireturn, 1) := by decide +kernel
theorem dX4_ends_17 : decode cX4_ends 17 = .ok (.aload_n 0, 1) := by decide +kernel
theorem dX4_ends_18 : decode cX4_ends 18 = .ok (.iload_n 1, 1) := by decide +kernel
theorem dX4_ends_19 : decode cX4_ends 19 = .ok (.iload_n 2, 1) := by decide +kernel
theorem dX4_ends_20 : decode cX4_ends 20 = .ok (.invokevirtual 180, 3) := by decide +kernel
theorem dX4_ends_23 : decode cX4_ends 23 = .ok (.ireturn, 1) := by decide +kernel
set_option maxRecDepth 20000 in
theorem ggX4_oneDay_X4_within : GoodIn wsX4_oneDay wsX4_within := goodIn_r _ [4] (by decide +kernel) (by decide +kernel)
set_option maxRecDepth 20000 in
theorem gX4_oneDay_X4_within : GoodIn wsX4_oneDay (va_wsS RX4 56 yX4_within wsX4_within) := goodIn_app (goodIn_of _ (by decide +kernel)) ggX4_oneDay_X4_within
set_option maxRecDepth 20000 in
theorem ggX4_oneDay_X4_findSetEnds : GoodIn wsX4_oneDay wsX4_findSetEnds := goodIn_r _ [8, 9, 10, 11, 12, 13, 14, 15, 16, 17, 3, 18, 19, 20, 21, 22, 23, 24, 25, 26, 27, 28, 29, 30, 31, 32, 33, 34, 35, 36, 37, 46, 47, 48, 49, 50, 51, 52, 53, 54, 55, 56, 57, 58, 59, 60, 61, 62, 63, 64, 65, 66, 67] (by decide +kernel) (by decide +kernel)
set_option maxRecDepth 20000 in
theorem gX4_oneDay_X4_findSetEnds : GoodIn wsX4_oneDay (wsV RX4 183 RX4 yX4_findSetEnds wsX4_findSetEnds) := goodIn_app (goodIn_of _ (by decide +kernel)) ggX4_oneDay_X4_findSetEnds
set_option maxRecDepth 20000 in
theorem ggX4_oneDay_X4_bestSet : GoodIn wsX4_oneDay wsX4_bestSet := goodIn_r _ [41, 9, 19, 20, 21, 3, 22, 10, 42, 43, 44, 45, 27, 28, 29, 30, 31, 32, 46, 47, 48, 49, 50, 51, 52, 53, 54, 55, 56, 57, 58, 59, 60, 61, 62, 63, 64, 65, 66, 67] (by decide +kernel) (by decide +kernel)
set_option maxRecDepth 20000 in
theorem gX4_oneDay_X4_bestSet : GoodIn wsX4_oneDay (wsV RX4 186 RX4 yX4_bestSet wsX4_bestSet) := goodIn_app (goodIn_of _ (by decide +kernel)) ggX4_oneDay_X4_bestSet
set_option maxRecDepth 20000 in
theorem ggX4_oneDay_X4_worthOf : GoodIn wsX4_oneDay wsX4_worthOf := goodIn_r _ [45, 9, 27, 28, 29, 30, 31, 32, 46, 47, 48, 49, 50, 51, 52, 53, 54, 55, 56, 57, 58, 59, 60, 61, 62, 63, 64, 65, 66, 67] (by decide +kernel) (by decide +kernel)
set_option maxRecDepth 20000 in
theorem gX4_oneDay_X4_worthOf : GoodIn wsX4_oneDay (wsV RX4 189 RX4 yX4_worthOf wsX4_worthOf) := goodIn_app (goodIn_of _ (by decide +kernel)) ggX4_oneDay_X4_worthOf
set_option maxRecDepth 20000 in
theorem ggX4_oneDay_X4_endOfSet : GoodIn wsX4_oneDay wsX4_endOfSet := goodIn_r _ [22, 10, 46, 47, 48, 49, 50, 51, 52, 53, 54, 55, 56, 57, 58, 59] (by decide +kernel) (by decide +kernel)
set_option maxRecDepth 20000 in
theorem gX4_oneDay_X4_endOfSet : GoodIn wsX4_oneDay (wsV RX4 192 RX4 yX4_endOfSet wsX4_endOfSet) := goodIn_app (goodIn_of _ (by decide +kernel)) ggX4_oneDay_X4_endOfSet
theorem dX4_oneDay_0 : decode cX4_oneDay 0 = .ok (.iload_n 1, 1) := by decide +kernel
theorem dX4_oneDay_1 : decode cX4_oneDay 1 = .ok (.iconst 0, 1) := by decide +kernel
theorem dX4_oneDay_2 : decode cX4_oneDay 2 = .ok (.iconst 2, 1) := by decide +kernel
theorem dX4_oneDay_3 : decode cX4_oneDay 3 = .ok (.invokestatic 56, 3) := by decide +kernel
theorem dX4_oneDay_6 : decode cX4_oneDay 6 = .ok (.ifCond .ne 5, 3) := by decide +kernel
theorem dX4_oneDay_9 : decode cX4_oneDay 9 = .ok (.iconst (-1), 1) := by decide +kernel
theorem dX4_oneDay_10 : decode cX4_oneDay 10 = .ok (.ireturn, 1) := by decide +kernel
theorem dX4_oneDay_11 : decode cX4_oneDay 11 = .ok (.aload_n 0, 1) := by decide +kernel
theorem dX4_oneDay_12 : decode cX4_oneDay 12 = .ok (.invokevirtual 183, 3) := by decide +kernel
theorem dX4_oneDay_15 : decode cX4_oneDay 15 = .ok (.aload_n 0, 1) := by decide +kernel
theorem dX4_oneDay_16 : decode cX4_oneDay 16 = .ok (.invokevirtual 186, 3) := by decide +kernel
theorem dX4_oneDay_19 : decode cX4_oneDay 19 = .ok (.istore_n 2, 1) := by decide +kernel
theorem dX4_oneDay_20 : decode cX4_oneDay 20 = .ok (.iload_n 1, 1) := by decide +kernel
theorem dX4_oneDay_21 : decode cX4_oneDay 21 = .ok (.lookupswitch 35 #[(0, 27), (1, 33)], 27) := by decide +kernel
theorem dX4_oneDay_48 : decode cX4_oneDay 48 = .ok (.aload_n 0, 1) := by decide +kernel
theorem dX4_oneDay_49 : decode cX4_oneDay 49 = .ok (.iload_n 2, 1) := by decide +kernel
theorem dX4_oneDay_50 : decode cX4_oneDay 50 = .ok (.invokevirtual 189, 3) := by decide +kernel
theorem dX4_oneDay_53 : decode cX4_oneDay 53 = .ok (.ireturn, 1) := by decide +kernel
theorem dX4_oneDay_54 : decode cX4_oneDay 54 = .ok (.iload_n 2, 1) := by decide +kernel
theorem dX4_oneDay_55 : decode cX4_oneDay 55 = .ok (.ireturn, 1) := by decide +kernel
theorem dX4_oneDay_56 : decode cX4_oneDay 56 = .ok (.aload_n 0, 1) := by decide +kernel
theorem dX4_oneDay_57 : decode cX4_oneDay 57 = .ok (.iload_n 2, 1) := by decide +kernel
theorem dX4_oneDay_58 : decode cX4_oneDay 58 = .ok (.invokevirtual 192, 3) := by decide +kernel
theorem dX4_oneDay_61 : decode cX4_oneDay 61 = .ok (.ireturn, 1) := by decide +kernel
set_option maxRecDepth 20000 in
theorem ggX4_wages_X4_within : GoodIn wsX4_wages wsX4_within := goodIn_r _ [4] (by decide +kernel) (by decide +kernel)
set_option maxRecDepth 20000 in
theorem gX4_wages_X4_within : GoodIn wsX4_wages (va_wsS RX4 56 yX4_within wsX4_within) := goodIn_app (goodIn_of _ (by decide +kernel)) ggX4_wages_X4_within
set_option maxRecDepth 20000 in
theorem ggX4_wages_X4_bestForAll : GoodIn wsX4_wages wsX4_bestForAll := goodIn_r _ [8, 9, 10, 11, 3, 12, 13, 14, 15, 16, 17, 18, 19, 24, 25, 26, 27, 28, 29, 30, 31, 32, 33, 34, 35, 36, 37, 38, 39, 40, 41, 42, 43, 44, 45] (by decide +kernel) (by decide +kernel)
set_option maxRecDepth 20000 in
theorem gX4_wages_X4_bestForAll : GoodIn wsX4_wages (wsV RX4 195 RX4 yX4_bestForAll wsX4_bestForAll) := goodIn_app (goodIn_of _ (by decide +kernel)) ggX4_wages_X4_bestForAll
set_option maxRecDepth 20000 in
theorem ggX4_wages_X4_isRest : GoodIn wsX4_wages wsX4_isRest := goodIn_r _ [23, 9, 10, 11, 3, 12, 13, 14, 15, 16, 17, 18, 19, 24, 25, 26, 27, 28, 29, 30, 31, 32, 33, 34, 35, 36, 37, 38, 39, 40, 41, 42, 43, 44, 45] (by decide +kernel) (by decide +kernel)
set_option maxRecDepth 20000 in
theorem gX4_wages_X4_isRest : GoodIn wsX4_wages (wsV RX4 199 RX4 yX4_isRest wsX4_isRest) := goodIn_app (goodIn_of _ (by decide +kernel)) ggX4_wages_X4_isRest
theorem dX4_wages_0 : decode cX4_wages 0 = .ok (.iload_n 1, 1) := by decide +kernel
theorem dX4_wages_1 : decode cX4_wages 1 = .ok (.iconst 1, 1) := by decide +kernel
theorem dX4_wages_2 : decode cX4_wages 2 = .ok (.bipush 8, 2) := by decide +kernel
theorem dX4_wages_4 : decode cX4_wages 4 = .ok (.invokestatic 56, 3) := by decide +kernel
theorem dX4_wages_7 : decode cX4_wages 7 = .ok (.ifCond .eq 25, 3) := by decide +kernel
theorem dX4_wages_10 : decode cX4_wages 10 = .ok (.iload_n 2, 1) := by decide +kernel
theorem dX4_wages_11 : decode cX4_wages 11 = .ok (.iconst 0, 1) := by decide +kernel
theorem dX4_wages_12 : decode cX4_wages 12 = .ok (.sipush 9999, 3) := by decide +kernel
theorem dX4_wages_15 : decode cX4_wages 15 = .ok (.invokestatic 56, 3) := by decide +kernel
theorem dX4_wages_18 : decode cX4_wages 18 = .ok (.ifCond .eq 14, 3) := by decide +kernel
theorem dX4_wages_21 : decode cX4_wages 21 = .ok (.iload_n 3, 1) := by decide +kernel
theorem dX4_wages_22 : decode cX4_wages 22 = .ok (.iconst 1, 1) := by decide +kernel
theorem dX4_wages_23 : decode cX4_wages 23 = .ok (.sipush 999, 3) := by decide +kernel
theorem dX4_wages_26 : decode cX4_wages 26 = .ok (.invokestatic 56, 3) := by decide +kernel
theorem dX4_wages_29 : decode cX4_wages 29 = .ok (.ifCond .ne 5, 3) := by decide +kernel
theorem dX4_wages_32 : decode cX4_wages 32 = .ok (.iconst (-1), 1) := by decide +kernel
theorem dX4_wages_33 : decode cX4_wages 33 = .ok (.ireturn, 1) := by decide +kernel
theorem dX4_wages_34 : decode cX4_wages 34 = .ok (.iload 4, 2) := by decide +kernel
theorem dX4_wages_36 : decode cX4_wages 36 = .ok (.iconst 0, 1) := by decide +kernel
theorem dX4_wages_37 : decode cX4_wages 37 = .ok (.bipush 99, 2) := by decide +kernel
theorem dX4_wages_39 : decode cX4_wages 39 = .ok (.invokestatic 56, 3) := by decide +kernel
theorem dX4_wages_42 : decode cX4_wages 42 = .ok (.ifCond .eq 24, 3) := by decide +kernel
theorem dX4_wages_45 : decode cX4_wages 45 = .ok (.iload 5, 2) := by decide +kernel
theorem dX4_wages_47 : decode cX4_wages 47 = .ok (.iconst 0, 1) := by decide +kernel
theorem dX4_wages_48 : decode cX4_wages 48 = .ok (.bipush 99, 2) := by decide +kernel
theorem dX4_wages_50 : decode cX4_wages 50 = .ok (.invokestatic 56, 3) := by decide +kernel
theorem dX4_wages_53 : decode cX4_wages 53 = .ok (.ifCond .eq 13, 3) := by decide +kernel
theorem dX4_wages_56 : decode cX4_wages 56 = .ok (.iload 6, 2) := by decide +kernel
theorem dX4_wages_58 : decode cX4_wages 58 = .ok (.iconst 0, 1) := by decide +kernel
theorem dX4_wages_59 : decode cX4_wages 59 = .ok (.iconst 3, 1) := by decide +kernel
theorem dX4_wages_60 : decode cX4_wages 60 = .ok (.invokestatic 56, 3) := by decide +kernel
theorem dX4_wages_63 : decode cX4_wages 63 = .ok (.ifCond .ne 5, 3) := by decide +kernel
theorem dX4_wages_66 : decode cX4_wages 66 = .ok (.iconst (-1), 1) := by decide +kernel
theorem dX4_wages_67 : decode cX4_wages 67 = .ok (.ireturn, 1) := by decide +kernel
theorem dX4_wages_68 : decode cX4_wages 68 = .ok (.iload 6, 2) := by decide +kernel
theorem dX4_wages_70 : decode cX4_wages 70 = .ok (.iconst 3, 1) := by decide +kernel
theorem dX4_wages_71 : decode cX4_wages 71 = .ok (.if_icmp .ne 15, 3) := by decide +kernel
theorem dX4_wages_74 : decode cX4_wages 74 = .ok (.aload_n 0, 1) := by decide +kernel
theorem dX4_wages_75 : decode cX4_wages 75 = .ok (.iload_n 1, 1) := by decide +kernel
theorem dX4_wages_76 : decode cX4_wages 76 = .ok (.iload_n 2, 1) := by decide +kernel
theorem dX4_wages_77 : decode cX4_wages 77 = .ok (.iload_n 3, 1) := by decide +kernel
theorem dX4_wages_78 : decode cX4_wages 78 = .ok (.iload 4, 2) := by decide +kernel
theorem dX4_wages_80 : decode cX4_wages 80 = .ok (.iload 5, 2) := by decide +kernel
theorem dX4_wages_82 : decode cX4_wages 82 = .ok (.invokevirtual 195, 3) := by decide +kernel
theorem dX4_wages_85 : decode cX4_wages 85 = .ok (.ireturn, 1) := by decide +kernel
theorem dX4_wages_86 : decode cX4_wages 86 = .ok (.bipush (-9), 2) := by decide +kernel
theorem dX4_wages_88 : decode cX4_wages 88 = .ok (.istore 7, 2) := by decide +kernel
theorem dX4_wages_90 : decode cX4_wages 90 = .ok (.bipush (-9), 2) := by decide +kernel
theorem dX4_wages_92 : decode cX4_wages 92 = .ok (.istore 8, 2) := by decide +kernel
theorem dX4_wages_94 : decode cX4_wages 94 = .ok (.iconst 0, 1) := by decide +kernel
theorem dX4_wages_95 : decode cX4_wages 95 = .ok (.istore 9, 2) := by decide +kernel
theorem dX4_wages_97 : decode cX4_wages 97 = .ok (.iconst 0, 1) := by decide +kernel
theorem dX4_wages_98 : decode cX4_wages 98 = .ok (.istore 10, 2) := by decide +kernel
theorem dX4_wages_100 : decode cX4_wages 100 = .ok (.iload 10, 2) := by decide +kernel
theorem dX4_wages_102 : decode cX4_wages 102 = .ok (.iload_n 1, 1) := by decide +kernel
theorem dX4_wages_103 : decode cX4_wages 103 = .ok (.if_icmp .gt 46, 3) := by decide +kernel
theorem dX4_wages_106 : decode cX4_wages 106 = .ok (.aload_n 0, 1) := by decide +kernel
theorem dX4_wages_107 : decode cX4_wages 107 = .ok (.iload 10, 2) := by decide +kernel
theorem dX4_wages_109 : decode cX4_wages 109 = .ok (.iload_n 1, 1) := by decide +kernel
theorem dX4_wages_110 : decode cX4_wages 110 = .ok (.iload_n 2, 1) := by decide +kernel
theorem dX4_wages_111 : decode cX4_wages 111 = .ok (.iload_n 3, 1) := by decide +kernel
theorem dX4_wages_112 : decode cX4_wages 112 = .ok (.iload 4, 2) := by decide +kernel
theorem dX4_wages_114 : decode cX4_wages 114 = .ok (.iload 5, 2) := by decide +kernel
theorem dX4_wages_116 : decode cX4_wages 116 = .ok (.invokevirtual 199, 3) := by decide +kernel
theorem dX4_wages_119 : decode cX4_wages 119 = .ok (.ifCond .eq 24, 3) := by decide +kernel
theorem dX4_wages_122 : decode cX4_wages 122 = .ok (.iload 9, 2) := by decide +kernel
theorem dX4_wages_124 : decode cX4_wages 124 = .ok (.ifCond .ne 8, 3) := by decide +kernel
theorem dX4_wages_127 : decode cX4_wages 127 = .ok (.iload 10, 2) := by decide +kernel
theorem dX4_wages_129 : decode cX4_wages 129 = .ok (.goto 5, 3) := by decide +kernel
theorem dX4_wages_132 : decode cX4_wages 132 = .ok (.iload 7, 2) := by decide +kernel
theorem dX4_wages_134 : decode cX4_wages 134 = .ok (.istore 7, 2) := by decide +kernel
theorem dX4_wages_136 : decode cX4_wages 136 = .ok (.iload 10, 2) := by decide +kernel
theorem dX4_wages_138 : decode cX4_wages 138 = .ok (.istore 8, 2) := by decide +kernel
theorem dX4_wages_140 : decode cX4_wages 140 = .ok (.iinc 9 1, 3) := by decide +kernel
theorem dX4_wages_143 : decode cX4_wages 143 = .ok (.iinc 10 1, 3) := by decide +kernel
theorem dX4_wages_146 : decode cX4_wages 146 = .ok (.goto (-46), 3) := by decide +kernel
theorem dX4_wages_149 : decode cX4_wages 149 = .ok (.iload 6, 2) := by decide +kernel
theorem dX4_wages_151 : decode cX4_wages 151 = .ok (.iconst 2, 1) := by decide +kernel
theorem dX4_wages_152 : decode cX4_wages 152 = .ok (.if_icmp .ne 6, 3) := by decide +kernel
theorem dX4_wages_155 : decode cX4_wages 155 = .ok (.iload 9, 2) := by decide +kernel
theorem dX4_wages_157 : decode cX4_wages 157 = .ok (.ireturn, 1) := by decide +kernel
theorem dX4_wages_158 : decode cX4_wages 158 = .ok (.iload 6, 2) := by decide +kernel
theorem dX4_wages_160 : decode cX4_wages 160 = .ok (.ifCond .ne 8, 3) := by decide +kernel
theorem dX4_wages_163 : decode cX4_wages 163 = .ok (.iload 7, 2) := by decide +kernel
theorem dX4_wages_165 : decode cX4_wages 165 = .ok (.goto 5, 3) := by decide +kernel
theorem dX4_wages_168 : decode cX4_wages 168 = .ok (.iload 8, 2) := by decide +kernel
theorem dX4_wages_170 : decode cX4_wages 170 = .ok (.ireturn, 1) := by decide +kernel
set_option maxRecDepth 20000 in
theorem ggX4_even_X4_isMinute : GoodIn wsX4_even wsX4_isMinute := goodIn_r _ [5, 6, 7, 4, 8] (by decide +kernel) (by decide +kernel)
set_option maxRecDepth 20000 in
theorem gX4_even_X4_isMinute : GoodIn wsX4_even (va_wsS RX4 157 yX4_isMinute wsX4_isMinute) := goodIn_app (goodIn_of _ (by decide +kernel)) ggX4_even_X4_isMinute
set_option maxRecDepth 20000 in
theorem ggX4_even_X4_toldSteps : GoodIn wsX4_even wsX4_toldSteps := goodIn_r _ [12, 13, 32, 33, 34, 35, 36, 37, 38, 39, 40, 41, 42, 43, 44, 45] (by decide +kernel) (by decide +kernel)
set_option maxRecDepth 20000 in
theorem gX4_even_X4_toldSteps : GoodIn wsX4_even (wsV RX4 160 RX4 yX4_toldSteps wsX4_toldSteps) := goodIn_app (goodIn_of _ (by decide +kernel)) ggX4_even_X4_toldSteps
set_option maxRecDepth 20000 in
theorem ggX4_even_X1_hourOf : GoodIn wsX4_even wsX1_hourOf := goodIn_r _ [18, 19, 46, 47, 48, 49, 50, 51, 52, 53] (by decide +kernel) (by decide +kernel)
set_option maxRecDepth 20000 in
theorem gX4_even_X1_hourOf : GoodIn wsX4_even (wsV RX4 169 RX1 yX1_hourOf wsX1_hourOf) := goodIn_app (goodIn_of _ (by decide +kernel)) ggX4_even_X1_hourOf
set_option maxRecDepth 20000 in
theorem ggX4_even_X4_minutesAlike : GoodIn wsX4_even wsX4_minutesAlike := goodIn_r _ [23, 24, 25, 26, 4, 27, 1, 9, 10, 11, 12, 13, 14, 15, 16, 17, 18, 19, 32, 33, 34, 35, 36, 37, 38, 39, 40, 41, 42, 43, 44, 45, 46, 47, 48, 49, 50, 51, 52, 53] (by decide +kernel) (by decide +kernel)
set_option maxRecDepth 20000 in
theorem gX4_even_X4_minutesAlike : GoodIn wsX4_even (wsV RX4 203 RX4 yX4_minutesAlike wsX4_minutesAlike) := goodIn_app (goodIn_of _ (by decide +kernel)) ggX4_even_X4_minutesAlike
set_option maxRecDepth 20000 in
theorem ggX4_even_X4_lastMinuteAlike : GoodIn wsX4_even wsX4_lastMinuteAlike := goodIn_r _ [31, 24, 25, 26, 4, 27, 1, 9, 10, 11, 12, 13, 14, 15, 16, 17, 18, 19, 32, 33, 34, 35, 36, 37, 38, 39, 40, 41, 42, 43, 44, 45, 46, 47, 48, 49, 50, 51, 52, 53] (by decide +kernel) (by decide +kernel)
set_option maxRecDepth 20000 in
theorem gX4_even_X4_lastMinuteAlike : GoodIn wsX4_even (wsV RX4 206 RX4 yX4_lastMinuteAlike wsX4_lastMinuteAlike) := goodIn_app (goodIn_of _ (by decide +kernel)) ggX4_even_X4_lastMinuteAlike
theorem dX4_even_0 : decode cX4_even 0 = .ok (.iload_n 1, 1) := by decide +kernel
theorem dX4_even_1 : decode cX4_even 1 = .ok (.invokestatic 157, 3) := by decide +kernel
theorem dX4_even_4 : decode cX4_even 4 = .ok (.ifCond .ne 5, 3) := by decide +kernel
theorem dX4_even_7 : decode cX4_even 7 = .ok (.iconst (-1), 1) := by decide +kernel
theorem dX4_even_8 : decode cX4_even 8 = .ok (.ireturn, 1) := by decide +kernel
theorem dX4_even_9 : decode cX4_even 9 = .ok (.iload_n 2, 1) := by decide +kernel
theorem dX4_even_10 : decode cX4_even 10 = .ok (.tableswitch 58 0 3 #[30, 35, 48, 53], 30) := by decide +kernel
theorem dX4_even_40 : decode cX4_even 40 = .ok (.iload_n 1, 1) := by decide +kernel
theorem dX4_even_41 : decode cX4_even 41 = .ok (.bipush 60, 2) := by decide +kernel
theorem dX4_even_43 : decode cX4_even 43 = .ok (.idiv, 1) := by decide +kernel
theorem dX4_even_44 : decode cX4_even 44 = .ok (.ireturn, 1) := by decide +kernel
theorem dX4_even_45 : decode cX4_even 45 = .ok (.aload_n 0, 1) := by decide +kernel
theorem dX4_even_46 : decode cX4_even 46 = .ok (.getfield 19, 3) := by decide +kernel
theorem dX4_even_49 : decode cX4_even 49 = .ok (.aload_n 0, 1) := by decide +kernel
theorem dX4_even_50 : decode cX4_even 50 = .ok (.iload_n 1, 1) := by decide +kernel
theorem dX4_even_51 : decode cX4_even 51 = .ok (.invokevirtual 160, 3) := by decide +kernel
theorem dX4_even_54 : decode cX4_even 54 = .ok (.invokevirtual 169, 3) := by decide +kernel
theorem dX4_even_57 : decode cX4_even 57 = .ok (.ireturn, 1) := by decide +kernel
theorem dX4_even_58 : decode cX4_even 58 = .ok (.aload_n 0, 1) := by decide +kernel
theorem dX4_even_59 : decode cX4_even 59 = .ok (.invokevirtual 203, 3) := by decide +kernel
theorem dX4_even_62 : decode cX4_even 62 = .ok (.ireturn, 1) := by decide +kernel
theorem dX4_even_63 : decode cX4_even 63 = .ok (.aload_n 0, 1) := by decide +kernel
theorem dX4_even_64 : decode cX4_even 64 = .ok (.invokevirtual 206, 3) := by decide +kernel
theorem dX4_even_67 : decode cX4_even 67 = .ok (.ireturn, 1) := by decide +kernel
theorem dX4_even_68 : decode cX4_even 68 = .ok (.iconst (-1), 1) := by decide +kernel
theorem dX4_even_69 : decode cX4_even 69 = .ok (.ireturn, 1) := by decide +kernel
set_option maxRecDepth 20000 in
theorem ggX4_strike_X4_isHour : GoodIn wsX4_strike wsX4_isHour := goodIn_r _ [4, 5, 6, 3, 7] (by decide +kernel) (by decide +kernel)
set_option maxRecDepth 20000 in
theorem gX4_strike_X4_isHour : GoodIn wsX4_strike (va_wsS RX4 150 yX4_isHour wsX4_isHour) := goodIn_app (goodIn_of _ (by decide +kernel)) ggX4_strike_X4_isHour
set_option maxRecDepth 20000 in
theorem ggX4_strike_X4_within : GoodIn wsX4_strike wsX4_within := goodIn_r _ [7] (by decide +kernel) (by decide +kernel)
set_option maxRecDepth 20000 in
theorem gX4_strike_X4_within : GoodIn wsX4_strike (va_wsS RX4 56 yX4_within wsX4_within) := goodIn_app (goodIn_of _ (by decide +kernel)) ggX4_strike_X4_within
set_option maxRecDepth 20000 in
theorem ggX4_strike_X4_fewestWhoStop : GoodIn wsX4_strike wsX4_fewestWhoStop := goodIn_r _ [11, 12, 13, 14, 15, 3, 16, 17, 18, 19, 20, 21, 22, 23, 24, 25, 26, 27, 28, 29, 30, 31, 32, 33, 34, 35, 36, 37, 38, 39, 40, 41, 42, 43, 44, 45, 46, 47, 48, 49, 50, 51, 52, 53, 54, 55, 56, 57, 58, 59, 60, 61, 62, 63, 64, 65, 66, 67, 68, 69, 70, 71, 72, 73, 74, 75, 76, 77, 78, 79, 80, 81, 82, 83, 84, 85, 86, 87, 88, 89, 90, 91, 92, 93, 94, 95, 96, 97, 98, 99, 100, 101, 102, 103, 104, 105, 106, 107, 108, 109, 110, 111] (by decide +kernel) (by decide +kernel)
set_option maxRecDepth 20000 in
theorem gX4_strike_X4_fewestWhoStop : GoodIn wsX4_strike (wsV RX4 209 RX4 yX4_fewestWhoStop wsX4_fewestWhoStop) := goodIn_app (goodIn_of _ (by decide +kernel)) ggX4_strike_X4_fewestWhoStop
set_option maxRecDepth 20000 in
theorem ggX4_strike_J6_bitCount_0f7a4 : GoodIn wsX4_strike wsJ6_bitCount_0f7a4 := goodIn_r _ [80, 81, 82, 83] (by decide +kernel) (by decide +kernel)
set_option maxRecDepth 20000 in
theorem gX4_strike_J6_bitCount_0f7a4 : GoodIn wsX4_strike (va_wsS RX4 212 yJ6_bitCount_0f7a4 wsJ6_bitCount_0f7a4) := goodIn_app (goodIn_of _ (by decide +kernel)) ggX4_strike_J6_bitCount_0f7a4
theorem dX4_strike_0 : decode cX4_strike 0 = .ok (.iload_n 1, 1) := by decide +kernel
theorem dX4_strike_1 : decode cX4_strike 1 = .ok (.invokestatic 150, 3) := by decide +kernel
theorem dX4_strike_4 : decode cX4_strike 4 = .ok (.ifCond .eq 23, 3) := by decide +kernel
theorem dX4_strike_7 : decode cX4_strike 7 = .ok (.iload_n 2, 1) := by decide +kernel
theorem dX4_strike_8 : decode cX4_strike 8 = .ok (.iconst 1, 1) := by decide +kernel
theorem dX4_strike_9 : decode cX4_strike 9 = .ok (.sipush 240, 3) := by decide +kernel
theorem dX4_strike_12 : decode cX4_strike 12 = .ok (.invokestatic 56, 3) := by decide +kernel
theorem dX4_strike_15 : decode cX4_strike 15 = .ok (.ifCond .eq 12, 3) := by decide +kernel
theorem dX4_strike_18 : decode cX4_strike 18 = .ok (.iload_n 3, 1) := by decide +kernel
theorem dX4_strike_19 : decode cX4_strike 19 = .ok (.iconst 0, 1) := by decide +kernel
theorem dX4_strike_20 : decode cX4_strike 20 = .ok (.iconst 1, 1) := by decide +kernel
theorem dX4_strike_21 : decode cX4_strike 21 = .ok (.invokestatic 56, 3) := by decide +kernel
theorem dX4_strike_24 : decode cX4_strike 24 = .ok (.ifCond .ne 5, 3) := by decide +kernel
theorem dX4_strike_27 : decode cX4_strike 27 = .ok (.iconst (-1), 1) := by decide +kernel
theorem dX4_strike_28 : decode cX4_strike 28 = .ok (.ireturn, 1) := by decide +kernel
theorem dX4_strike_29 : decode cX4_strike 29 = .ok (.aload_n 0, 1) := by decide +kernel
theorem dX4_strike_30 : decode cX4_strike 30 = .ok (.iload_n 1, 1) := by decide +kernel
theorem dX4_strike_31 : decode cX4_strike 31 = .ok (.iload_n 2, 1) := by decide +kernel
theorem dX4_strike_32 : decode cX4_strike 32 = .ok (.invokevirtual 209, 3) := by decide +kernel
theorem dX4_strike_35 : decode cX4_strike 35 = .ok (.istore 4, 2) := by decide +kernel
theorem dX4_strike_37 : decode cX4_strike 37 = .ok (.iload 4, 2) := by decide +kernel
theorem dX4_strike_39 : decode cX4_strike 39 = .ok (.bipush (-9), 2) := by decide +kernel
theorem dX4_strike_41 : decode cX4_strike 41 = .ok (.if_icmp .ne 6, 3) := by decide +kernel
theorem dX4_strike_44 : decode cX4_strike 44 = .ok (.bipush (-9), 2) := by decide +kernel
theorem dX4_strike_46 : decode cX4_strike 46 = .ok (.ireturn, 1) := by decide +kernel
theorem dX4_strike_47 : decode cX4_strike 47 = .ok (.iload_n 3, 1) := by decide +kernel
theorem dX4_strike_48 : decode cX4_strike 48 = .ok (.ifCond .ne 8, 3) := by decide +kernel
theorem dX4_strike_51 : decode cX4_strike 51 = .ok (.iload 4, 2) := by decide +kernel
theorem dX4_strike_53 : decode cX4_strike 53 = .ok (.goto 8, 3) := by decide +kernel
theorem dX4_strike_56 : decode cX4_strike 56 = .ok (.iload 4, 2) := by decide +kernel
theorem dX4_strike_58 : decode cX4_strike 58 = .ok (.invokestatic 212, 3) := by decide +kernel
theorem dX4_strike_61 : decode cX4_strike 61 = .ok (.ireturn, 1) := by decide +kernel
set_option maxRecDepth 20000 in
theorem ggX4_undone_X4_isHour : GoodIn wsX4_undone wsX4_isHour := goodIn_r _ [4, 5, 6, 3, 7] (by decide +kernel) (by decide +kernel)
set_option maxRecDepth 20000 in
theorem gX4_undone_X4_isHour : GoodIn wsX4_undone (va_wsS RX4 150 yX4_isHour wsX4_isHour) := goodIn_app (goodIn_of _ (by decide +kernel)) ggX4_undone_X4_isHour
set_option maxRecDepth 20000 in
theorem ggX4_undone_X4_within : GoodIn wsX4_undone wsX4_within := goodIn_r _ [7] (by decide +kernel) (by decide +kernel)
set_option maxRecDepth 20000 in
theorem gX4_undone_X4_within : GoodIn wsX4_undone (va_wsS RX4 56 yX4_within wsX4_within) := goodIn_app (goodIn_of _ (by decide +kernel)) ggX4_undone_X4_within
set_option maxRecDepth 20000 in
theorem ggX4_undone_X4_firstMinute : GoodIn wsX4_undone wsX4_firstMinute := goodIn_r _ [11, 12, 13, 14, 15, 16, 3, 17, 18, 19, 20, 21, 22, 23, 24, 25, 26, 27, 28, 29, 30, 31, 32, 33, 34, 35, 36, 37, 38, 39, 40, 41, 42, 43, 44, 45, 46, 47, 48, 49, 50, 51, 52, 53, 54, 55, 56, 57, 58, 59, 60, 61, 62, 63, 64, 65, 66, 67, 68, 69, 70, 71, 72, 73, 74, 75, 76, 77, 78, 79, 80, 81, 82, 83, 84, 85, 86, 87, 88, 89, 90, 91, 92, 93, 94, 95, 96, 97, 98, 99, 100] (by decide +kernel) (by decide +kernel)
set_option maxRecDepth 20000 in
theorem gX4_undone_X4_firstMinute : GoodIn wsX4_undone (wsV RX4 153 RX4 yX4_firstMinute wsX4_firstMinute) := goodIn_app (goodIn_of _ (by decide +kernel)) ggX4_undone_X4_firstMinute
theorem dX4_undone_0 : decode cX4_undone 0 = .ok (.iload_n 2, 1) := by decide +kernel
theorem dX4_undone_1 : decode cX4_undone 1 = .ok (.invokestatic 150, 3) := by decide +kernel
theorem dX4_undone_4 : decode cX4_undone 4 = .ok (.ifCond .eq 14, 3) := by decide +kernel
theorem dX4_undone_7 : decode cX4_undone 7 = .ok (.iload_n 3, 1) := by decide +kernel
theorem dX4_undone_8 : decode cX4_undone 8 = .ok (.iconst 1, 1) := by decide +kernel
theorem dX4_undone_9 : decode cX4_undone 9 = .ok (.sipush 240, 3) := by decide +kernel
theorem dX4_undone_12 : decode cX4_undone 12 = .ok (.invokestatic 56, 3) := by decide +kernel
theorem dX4_undone_15 : decode cX4_undone 15 = .ok (.ifCond .ne 5, 3) := by decide +kernel
theorem dX4_undone_18 : decode cX4_undone 18 = .ok (.iconst (-1), 1) := by decide +kernel
theorem dX4_undone_19 : decode cX4_undone 19 = .ok (.ireturn, 1) := by decide +kernel
theorem dX4_undone_20 : decode cX4_undone 20 = .ok (.iconst 0, 1) := by decide +kernel
theorem dX4_undone_21 : decode cX4_undone 21 = .ok (.istore 4, 2) := by decide +kernel
theorem dX4_undone_23 : decode cX4_undone 23 = .ok (.sipush 8192, 3) := by decide +kernel
theorem dX4_undone_26 : decode cX4_undone 26 = .ok (.istore 5, 2) := by decide +kernel
theorem dX4_undone_28 : decode cX4_undone 28 = .ok (.iload 5, 2) := by decide +kernel
theorem dX4_undone_30 : decode cX4_undone 30 = .ok (.ifCond .le 47, 3) := by decide +kernel
theorem dX4_undone_33 : decode cX4_undone 33 = .ok (.iload 4, 2) := by decide +kernel
theorem dX4_undone_35 : decode cX4_undone 35 = .ok (.iload 5, 2) := by decide +kernel
theorem dX4_undone_37 : decode cX4_undone 37 = .ok (.iadd, 1) := by decide +kernel
theorem dX4_undone_38 : decode cX4_undone 38 = .ok (.istore 6, 2) := by decide +kernel
theorem dX4_undone_40 : decode cX4_undone 40 = .ok (.iload 6, 2) := by decide +kernel
theorem dX4_undone_42 : decode cX4_undone 42 = .ok (.sipush 10000, 3) := by decide +kernel
theorem dX4_undone_45 : decode cX4_undone 45 = .ok (.if_icmp .gt 23, 3) := by decide +kernel
theorem dX4_undone_48 : decode cX4_undone 48 = .ok (.aload_n 0, 1) := by decide +kernel
theorem dX4_undone_49 : decode cX4_undone 49 = .ok (.iload_n 2, 1) := by decide +kernel
theorem dX4_undone_50 : decode cX4_undone 50 = .ok (.iload_n 1, 1) := by decide +kernel
theorem dX4_undone_51 : decode cX4_undone 51 = .ok (.iload 6, 2) := by decide +kernel
theorem dX4_undone_53 : decode cX4_undone 53 = .ok (.iconst 1, 1) := by decide +kernel
theorem dX4_undone_54 : decode cX4_undone 54 = .ok (.isub, 1) := by decide +kernel
theorem dX4_undone_55 : decode cX4_undone 55 = .ok (.iload_n 3, 1) := by decide +kernel
theorem dX4_undone_56 : decode cX4_undone 56 = .ok (.invokevirtual 153, 3) := by decide +kernel
theorem dX4_undone_59 : decode cX4_undone 59 = .ok (.bipush (-9), 2) := by decide +kernel
theorem dX4_undone_61 : decode cX4_undone 61 = .ok (.if_icmp .ne 7, 3) := by decide +kernel
theorem dX4_undone_64 : decode cX4_undone 64 = .ok (.iload 6, 2) := by decide +kernel
theorem dX4_undone_66 : decode cX4_undone 66 = .ok (.istore 4, 2) := by decide +kernel
theorem dX4_undone_68 : decode cX4_undone 68 = .ok (.iload 5, 2) := by decide +kernel
theorem dX4_undone_70 : decode cX4_undone 70 = .ok (.iconst 1, 1) := by decide +kernel
theorem dX4_undone_71 : decode cX4_undone 71 = .ok (.ishr, 1) := by decide +kernel
theorem dX4_undone_72 : decode cX4_undone 72 = .ok (.istore 5, 2) := by decide +kernel
theorem dX4_undone_74 : decode cX4_undone 74 = .ok (.goto (-46), 3) := by decide +kernel
theorem dX4_undone_77 : decode cX4_undone 77 = .ok (.iload 4, 2) := by decide +kernel
theorem dX4_undone_79 : decode cX4_undone 79 = .ok (.sipush 9999, 3) := by decide +kernel
theorem dX4_undone_82 : decode cX4_undone 82 = .ok (.if_icmp .le 8, 3) := by decide +kernel
theorem dX4_undone_85 : decode cX4_undone 85 = .ok (.bipush (-9), 2) := by decide +kernel
theorem dX4_undone_87 : decode cX4_undone 87 = .ok (.goto 5, 3) := by decide +kernel
theorem dX4_undone_90 : decode cX4_undone 90 = .ok (.iload 4, 2) := by decide +kernel
theorem dX4_undone_92 : decode cX4_undone 92 = .ok (.ireturn, 1) := by decide +kernel
set_option maxRecDepth 20000 in
theorem ggX4_stair_X4_within : GoodIn wsX4_stair wsX4_within := goodIn_r _ [5] (by decide +kernel) (by decide +kernel)
set_option maxRecDepth 20000 in
theorem gX4_stair_X4_within : GoodIn wsX4_stair (va_wsS RX4 56 yX4_within wsX4_within) := goodIn_app (goodIn_of _ (by decide +kernel)) ggX4_stair_X4_within
set_option maxRecDepth 20000 in
theorem ggX4_stair_X2_append : GoodIn wsX4_stair wsX2_append := goodIn_r _ [10, 11, 12, 27, 28, 29, 30, 31] (by decide +kernel) (by decide +kernel)
set_option maxRecDepth 20000 in
theorem gX4_stair_X2_append : GoodIn wsX4_stair (wsV RX4 220 RX2 yX2_append wsX2_append) := goodIn_app (goodIn_of _ (by decide +kernel)) ggX4_stair_X2_append
theorem dX4_stair_0 : decode cX4_stair 0 = .ok (.iload_n 1, 1) := by decide +kernel
theorem dX4_stair_1 : decode cX4_stair 1 = .ok (.iconst 0, 1) := by decide +kernel
theorem dX4_stair_2 : decode cX4_stair 2 = .ok (.sipush 9999, 3) := by decide +kernel
theorem dX4_stair_5 : decode cX4_stair 5 = .ok (.invokestatic 56, 3) := by decide +kernel
theorem dX4_stair_8 : decode cX4_stair 8 = .ok (.ifCond .ne 5, 3) := by decide +kernel
theorem dX4_stair_11 : decode cX4_stair 11 = .ok (.iconst (-1), 1) := by decide +kernel
theorem dX4_stair_12 : decode cX4_stair 12 = .ok (.ireturn, 1) := by decide +kernel
theorem dX4_stair_13 : decode cX4_stair 13 = .ok (.aload_n 0, 1) := by decide +kernel
theorem dX4_stair_14 : decode cX4_stair 14 = .ok (.getfield 45, 3) := by decide +kernel
theorem dX4_stair_17 : decode cX4_stair 17 = .ok (.getfield 217, 3) := by decide +kernel
theorem dX4_stair_20 : decode cX4_stair 20 = .ok (.bipush 20, 2) := by decide +kernel
theorem dX4_stair_22 : decode cX4_stair 22 = .ok (.if_icmp .lt 6, 3) := by decide +kernel
theorem dX4_stair_25 : decode cX4_stair 25 = .ok (.bipush (-3), 2) := by decide +kernel
theorem dX4_stair_27 : decode cX4_stair 27 = .ok (.ireturn, 1) := by decide +kernel
theorem dX4_stair_28 : decode cX4_stair 28 = .ok (.aload_n 0, 1) := by decide +kernel
theorem dX4_stair_29 : decode cX4_stair 29 = .ok (.getfield 45, 3) := by decide +kernel
theorem dX4_stair_32 : decode cX4_stair 32 = .ok (.iload_n 1, 1) := by decide +kernel
theorem dX4_stair_33 : decode cX4_stair 33 = .ok (.invokevirtual 220, 3) := by decide +kernel
theorem dX4_stair_36 : decode cX4_stair 36 = .ok (.aload_n 0, 1) := by decide +kernel
theorem dX4_stair_37 : decode cX4_stair 37 = .ok (.getfield 45, 3) := by decide +kernel
theorem dX4_stair_40 : decode cX4_stair 40 = .ok (.getfield 217, 3) := by decide +kernel
theorem dX4_stair_43 : decode cX4_stair 43 = .ok (.ireturn, 1) := by decide +kernel
set_option maxRecDepth 20000 in
theorem ggX4_worn_X4_within : GoodIn wsX4_worn wsX4_within := goodIn_r _ [6] (by decide +kernel) (by decide +kernel)
set_option maxRecDepth 20000 in
theorem gX4_worn_X4_within : GoodIn wsX4_worn (va_wsS RX4 56 yX4_within wsX4_within) := goodIn_app (goodIn_of _ (by decide +kernel)) ggX4_worn_X4_within
set_option maxRecDepth 20000 in
theorem ggX4_worn_X2_findRows : GoodIn wsX4_worn wsX2_findRows := goodIn_r _ [11, 12, 13, 14, 15, 16, 17, 18, 19, 10, 20, 35, 36, 37, 38, 39] (by decide +kernel) (by decide +kernel)
set_option maxRecDepth 20000 in
theorem gX4_worn_X2_findRows : GoodIn wsX4_worn (wsV RX4 222 RX2 yX2_findRows wsX2_findRows) := goodIn_app (goodIn_of _ (by decide +kernel)) ggX4_worn_X2_findRows
theorem dX4_worn_0 : decode cX4_worn 0 = .ok (.iload_n 1, 1) := by decide +kernel
theorem dX4_worn_1 : decode cX4_worn 1 = .ok (.iconst 0, 1) := by decide +kernel
theorem dX4_worn_2 : decode cX4_worn 2 = .ok (.ldc 221, 2) := by decide +kernel
theorem dX4_worn_4 : decode cX4_worn 4 = .ok (.invokestatic 56, 3) := by decide +kernel
theorem dX4_worn_7 : decode cX4_worn 7 = .ok (.ifCond .eq 23, 3) := by decide +kernel
theorem dX4_worn_10 : decode cX4_worn 10 = .ok (.iload_n 2, 1) := by decide +kernel
theorem dX4_worn_11 : decode cX4_worn 11 = .ok (.iconst 0, 1) := by decide +kernel
theorem dX4_worn_12 : decode cX4_worn 12 = .ok (.sipush 999, 3) := by decide +kernel
theorem dX4_worn_15 : decode cX4_worn 15 = .ok (.invokestatic 56, 3) := by decide +kernel
theorem dX4_worn_18 : decode cX4_worn 18 = .ok (.ifCond .eq 12, 3) := by decide +kernel
theorem dX4_worn_21 : decode cX4_worn 21 = .ok (.iload_n 3, 1) := by decide +kernel
theorem dX4_worn_22 : decode cX4_worn 22 = .ok (.iconst 0, 1) := by decide +kernel
theorem dX4_worn_23 : decode cX4_worn 23 = .ok (.iconst 2, 1) := by decide +kernel
theorem dX4_worn_24 : decode cX4_worn 24 = .ok (.invokestatic 56, 3) := by decide +kernel
theorem dX4_worn_27 : decode cX4_worn 27 = .ok (.ifCond .ne 5, 3) := by decide +kernel
theorem dX4_worn_30 : decode cX4_worn 30 = .ok (.iconst (-1), 1) := by decide +kernel
theorem dX4_worn_31 : decode cX4_worn 31 = .ok (.ireturn, 1) := by decide +kernel
theorem dX4_worn_32 : decode cX4_worn 32 = .ok (.aload_n 0, 1) := by decide +kernel
theorem dX4_worn_33 : decode cX4_worn 33 = .ok (.getfield 45, 3) := by decide +kernel
theorem dX4_worn_36 : decode cX4_worn 36 = .ok (.iload_n 1, 1) := by decide +kernel
theorem dX4_worn_37 : decode cX4_worn 37 = .ok (.iload_n 2, 1) := by decide +kernel
theorem dX4_worn_38 : decode cX4_worn 38 = .ok (.isub, 1) := by decide +kernel
theorem dX4_worn_39 : decode cX4_worn 39 = .ok (.iload_n 1, 1) := by decide +kernel
theorem dX4_worn_40 : decode cX4_worn 40 = .ok (.iload_n 2, 1) := by decide +kernel
theorem dX4_worn_41 : decode cX4_worn 41 = .ok (.iadd, 1) := by decide +kernel
theorem dX4_worn_42 : decode cX4_worn 42 = .ok (.invokevirtual 222, 3) := by decide +kernel
theorem dX4_worn_45 : decode cX4_worn 45 = .ok (.iload_n 3, 1) := by decide +kernel
theorem dX4_worn_46 : decode cX4_worn 46 = .ok (.lookupswitch 42 #[(0, 26), (1, 34)], 26) := by decide +kernel
theorem dX4_worn_72 : decode cX4_worn 72 = .ok (.aload_n 0, 1) := by decide +kernel
theorem dX4_worn_73 : decode cX4_worn 73 = .ok (.getfield 45, 3) := by decide +kernel
theorem dX4_worn_76 : decode cX4_worn 76 = .ok (.getfield 225, 3) := by decide +kernel
theorem dX4_worn_79 : decode cX4_worn 79 = .ok (.ireturn, 1) := by decide +kernel
theorem dX4_worn_80 : decode cX4_worn 80 = .ok (.aload_n 0, 1) := by decide +kernel
theorem dX4_worn_81 : decode cX4_worn 81 = .ok (.getfield 45, 3) := by decide +kernel
theorem dX4_worn_84 : decode cX4_worn 84 = .ok (.getfield 228, 3) := by decide +kernel
theorem dX4_worn_87 : decode cX4_worn 87 = .ok (.ireturn, 1) := by decide +kernel
theorem dX4_worn_88 : decode cX4_worn 88 = .ok (.aload_n 0, 1) := by decide +kernel
theorem dX4_worn_89 : decode cX4_worn 89 = .ok (.getfield 45, 3) := by decide +kernel
theorem dX4_worn_92 : decode cX4_worn 92 = .ok (.getfield 231, 3) := by decide +kernel
theorem dX4_worn_95 : decode cX4_worn 95 = .ok (.ireturn, 1) := by decide +kernel
set_option maxRecDepth 20000 in
theorem ggX4_mark_X1_isPerson : GoodIn wsX4_mark wsX1_isPerson := goodIn_r _ [7, 8, 9, 76, 77, 78, 79, 80, 81, 82, 83] (by decide +kernel) (by decide +kernel)
set_option maxRecDepth 20000 in
theorem gX4_mark_X1_isPerson : GoodIn wsX4_mark (wsV RX4 137 RX1 yX1_isPerson wsX1_isPerson) := goodIn_app (goodIn_of _ (by decide +kernel)) ggX4_mark_X1_isPerson
set_option maxRecDepth 20000 in
theorem ggX4_mark_X4_personMark : GoodIn wsX4_mark wsX4_personMark := goodIn_r _ [14, 15, 16, 17, 18, 19, 20, 21, 22, 62, 63, 64, 65, 66, 67, 68, 69, 70, 71, 72, 73, 74, 75, 84, 85, 86, 87, 88, 89] (by decide +kernel) (by decide +kernel)
set_option maxRecDepth 20000 in
theorem gX4_mark_X4_personMark : GoodIn wsX4_mark (wsV RX4 235 RX4 yX4_personMark wsX4_personMark) := goodIn_app (goodIn_of _ (by decide +kernel)) ggX4_mark_X4_personMark
set_option maxRecDepth 20000 in
theorem ggX4_mark_X4_walkerMark : GoodIn wsX4_mark wsX4_walkerMark := goodIn_r _ [26, 15, 27, 16, 10, 11, 12, 13, 14, 17, 18, 19, 20, 21, 22, 28, 29, 30, 31, 32, 62, 63, 64, 65, 66, 67, 68, 69, 70, 71, 72, 73, 74, 75, 84, 85, 86, 87, 88, 89] (by decide +kernel) (by decide +kernel)
set_option maxRecDepth 20000 in
theorem gX4_mark_X4_walkerMark : GoodIn wsX4_mark (wsV RX4 238 RX4 yX4_walkerMark wsX4_walkerMark) := goodIn_app (goodIn_of _ (by decide +kernel)) ggX4_mark_X4_walkerMark
set_option maxRecDepth 20000 in
theorem ggX4_mark_X4_sitterMark : GoodIn wsX4_mark wsX4_sitterMark := goodIn_r _ [36, 15, 37, 10, 11, 12, 13, 14, 16, 17, 18, 19, 20, 21, 22, 38, 39, 40, 41, 1, 42, 43, 44, 6, 45, 46, 62, 63, 64, 65, 66, 67, 68, 69, 70, 71, 72, 73, 74, 75, 84, 85, 86, 87, 88, 89, 76, 77, 78, 79, 80, 81, 82, 83] (by decide +kernel) (by decide +kernel)
set_option maxRecDepth 20000 in
theorem gX4_mark_X4_sitterMark : GoodIn wsX4_mark (wsV RX4 241 RX4 yX4_sitterMark wsX4_sitterMark) := goodIn_app (goodIn_of _ (by decide +kernel)) ggX4_mark_X4_sitterMark
set_option maxRecDepth 20000 in
theorem ggX4_mark_X4_soldierMark : GoodIn wsX4_mark wsX4_soldierMark := goodIn_r _ [50, 15, 51, 23, 24, 25, 13, 26, 27, 16, 10, 11, 12, 14, 17, 18, 19, 20, 21, 22, 28, 29, 30, 31, 32, 62, 63, 64, 65, 66, 67, 68, 69, 70, 71, 72, 73, 74, 75, 84, 85, 86, 87, 88, 89] (by decide +kernel) (by decide +kernel)
set_option maxRecDepth 20000 in
theorem gX4_mark_X4_soldierMark : GoodIn wsX4_mark (wsV RX4 244 RX4 yX4_soldierMark wsX4_soldierMark) := goodIn_app (goodIn_of _ (by decide +kernel)) ggX4_mark_X4_soldierMark
set_option maxRecDepth 20000 in
theorem ggX4_mark_X4_strikerMark : GoodIn wsX4_mark wsX4_strikerMark := goodIn_r _ [55, 15, 56, 16, 33, 34, 35, 13, 36, 37, 10, 11, 12, 14, 17, 18, 19, 20, 21, 22, 38, 39, 40, 41, 1, 42, 43, 44, 6, 45, 46, 62, 63, 64, 65, 66, 67, 68, 69, 70, 71, 72, 73, 74, 75, 84, 85, 86, 87, 88, 89, 76, 77, 78, 79, 80, 81, 82, 83] (by decide +kernel) (by decide +kernel)
set_option maxRecDepth 20000 in
theorem gX4_mark_X4_strikerMark : GoodIn wsX4_mark (wsV RX4 247 RX4 yX4_strikerMark wsX4_strikerMark) := goodIn_app (goodIn_of _ (by decide +kernel)) ggX4_mark_X4_strikerMark
set_option maxRecDepth 20000 in
theorem ggX4_mark_X4_guestMark : GoodIn wsX4_mark wsX4_guestMark := goodIn_r _ [60, 15, 61, 16, 10, 11, 12, 13, 14, 17, 18, 19, 20, 21, 22, 62, 63, 64, 65, 66, 67, 68, 69, 70, 71, 72, 73, 74, 75, 84, 85, 86, 87, 88, 89] (by decide +kernel) (by decide +kernel)
set_option maxRecDepth 20000 in
theorem gX4_mark_X4_guestMark : GoodIn wsX4_mark (wsV RX4 250 RX4 yX4_guestMark wsX4_guestMark) := goodIn_app (goodIn_of _ (by decide +kernel)) ggX4_mark_X4_guestMark
theorem dX4_mark_0 : decode cX4_mark 0 = .ok (.aload_n 0, 1) := by decide +kernel
theorem dX4_mark_1 : decode cX4_mark 1 = .ok (.getfield 19, 3) := by decide +kernel
theorem dX4_mark_4 : decode cX4_mark 4 = .ok (.iload_n 2, 1) := by decide +kernel
theorem dX4_mark_5 : decode cX4_mark 5 = .ok (.invokevirtual 137, 3) := by decide +kernel
theorem dX4_mark_8 : decode cX4_mark 8 = .ok (.ifCond .ne 6, 3) := by decide +kernel
theorem dX4_mark_11 : decode cX4_mark 11 = .ok (.ldc 234, 2) := by decide +kernel
theorem dX4_mark_13 : decode cX4_mark 13 = .ok (.ireturn, 1) := by decide +kernel
theorem dX4_mark_14 : decode cX4_mark 14 = .ok (.iload_n 1, 1) := by decide +kernel
theorem dX4_mark_15 : decode cX4_mark 15 = .ok (.tableswitch 73 0 5 #[37, 43, 49, 55, 61, 67], 37) := by decide +kernel
theorem dX4_mark_52 : decode cX4_mark 52 = .ok (.aload_n 0, 1) := by decide +kernel
theorem dX4_mark_53 : decode cX4_mark 53 = .ok (.iload_n 2, 1) := by decide +kernel
theorem dX4_mark_54 : decode cX4_mark 54 = .ok (.invokevirtual 235, 3) := by decide +kernel
theorem dX4_mark_57 : decode cX4_mark 57 = .ok (.ireturn, 1) := by decide +kernel
theorem dX4_mark_58 : decode cX4_mark 58 = .ok (.aload_n 0, 1) := by decide +kernel
theorem dX4_mark_59 : decode cX4_mark 59 = .ok (.iload_n 2, 1) := by decide +kernel
theorem dX4_mark_60 : decode cX4_mark 60 = .ok (.invokevirtual 238, 3) := by decide +kernel
theorem dX4_mark_63 : decode cX4_mark 63 = .ok (.ireturn, 1) := by decide +kernel
theorem dX4_mark_64 : decode cX4_mark 64 = .ok (.aload_n 0, 1) := by decide +kernel
theorem dX4_mark_65 : decode cX4_mark 65 = .ok (.iload_n 2, 1) := by decide +kernel
theorem dX4_mark_66 : decode cX4_mark 66 = .ok (.invokevirtual 241, 3) := by decide +kernel
theorem dX4_mark_69 : decode cX4_mark 69 = .ok (.ireturn, 1) := by decide +kernel
theorem dX4_mark_70 : decode cX4_mark 70 = .ok (.aload_n 0, 1) := by decide +kernel
theorem dX4_mark_71 : decode cX4_mark 71 = .ok (.iload_n 2, 1) := by decide +kernel
theorem dX4_mark_72 : decode cX4_mark 72 = .ok (.invokevirtual 244, 3) := by decide +kernel
theorem dX4_mark_75 : decode cX4_mark 75 = .ok (.ireturn, 1) := by decide +kernel
theorem dX4_mark_76 : decode cX4_mark 76 = .ok (.aload_n 0, 1) := by decide +kernel
theorem dX4_mark_77 : decode cX4_mark 77 = .ok (.iload_n 2, 1) := by decide +kernel
theorem dX4_mark_78 : decode cX4_mark 78 = .ok (.invokevirtual 247, 3) := by decide +kernel
theorem dX4_mark_81 : decode cX4_mark 81 = .ok (.ireturn, 1) := by decide +kernel
theorem dX4_mark_82 : decode cX4_mark 82 = .ok (.aload_n 0, 1) := by decide +kernel
theorem dX4_mark_83 : decode cX4_mark 83 = .ok (.iload_n 2, 1) := by decide +kernel
theorem dX4_mark_84 : decode cX4_mark 84 = .ok (.invokevirtual 250, 3) := by decide +kernel
theorem dX4_mark_87 : decode cX4_mark 87 = .ok (.ireturn, 1) := by decide +kernel
theorem dX4_mark_88 : decode cX4_mark 88 = .ok (.ldc 234, 2) := by decide +kernel
theorem dX4_mark_90 : decode cX4_mark 90 = .ok (.ireturn, 1) := by decide +kernel
set_option maxRecDepth 20000 in
theorem ggX4_keep_X4_within : GoodIn wsX4_keep wsX4_within := goodIn_r _ [9] (by decide +kernel) (by decide +kernel)
set_option maxRecDepth 20000 in
theorem gX4_keep_X4_within : GoodIn wsX4_keep (va_wsS RX4 56 yX4_within wsX4_within) := goodIn_app (goodIn_of _ (by decide +kernel)) ggX4_keep_X4_within
set_option maxRecDepth 20000 in
theorem ggX4_keep_X0_become : GoodIn wsX4_keep wsX0_become := goodIn_r _ [14, 15, 16, 17, 18, 19, 20, 21, 8, 22, 37, 38, 39, 40, 41, 42] (by decide +kernel) (by decide +kernel)
set_option maxRecDepth 20000 in
theorem gX4_keep_X0_become : GoodIn wsX4_keep (wsV RX4 253 RX0 yX0_become wsX0_become) := goodIn_app (goodIn_of _ (by decide +kernel)) ggX4_keep_X0_become
theorem dX4_keep_0 : decode cX4_keep 0 = .ok (.iload_n 1, 1) := by decide +kernel
theorem dX4_keep_1 : decode cX4_keep 1 = .ok (.iconst 0, 1) := by decide +kernel
theorem dX4_keep_2 : decode cX4_keep 2 = .ok (.iconst 1, 1) := by decide +kernel
theorem dX4_keep_3 : decode cX4_keep 3 = .ok (.invokestatic 56, 3) := by decide +kernel
theorem dX4_keep_6 : decode cX4_keep 6 = .ok (.ifCond .ne 5, 3) := by decide +kernel
theorem dX4_keep_9 : decode cX4_keep 9 = .ok (.iconst (-1), 1) := by decide +kernel
theorem dX4_keep_10 : decode cX4_keep 10 = .ok (.ireturn, 1) := by decide +kernel
theorem dX4_keep_11 : decode cX4_keep 11 = .ok (.iload_n 1, 1) := by decide +kernel
theorem dX4_keep_12 : decode cX4_keep 12 = .ok (.ifCond .ne 22, 3) := by decide +kernel
theorem dX4_keep_15 : decode cX4_keep 15 = .ok (.aload_n 0, 1) := by decide +kernel
theorem dX4_keep_16 : decode cX4_keep 16 = .ok (.getfield 36, 3) := by decide +kernel
theorem dX4_keep_19 : decode cX4_keep 19 = .ok (.aload_n 0, 1) := by decide +kernel
theorem dX4_keep_20 : decode cX4_keep 20 = .ok (.getfield 29, 3) := by decide +kernel
theorem dX4_keep_23 : decode cX4_keep 23 = .ok (.invokevirtual 253, 3) := by decide +kernel
theorem dX4_keep_26 : decode cX4_keep 26 = .ok (.aload_n 0, 1) := by decide +kernel
theorem dX4_keep_27 : decode cX4_keep 27 = .ok (.iconst 1, 1) := by decide +kernel
theorem dX4_keep_28 : decode cX4_keep 28 = .ok (.putfield 83, 3) := by decide +kernel
theorem dX4_keep_31 : decode cX4_keep 31 = .ok (.goto 19, 3) := by decide +kernel
theorem dX4_keep_34 : decode cX4_keep 34 = .ok (.aload_n 0, 1) := by decide +kernel
theorem dX4_keep_35 : decode cX4_keep 35 = .ok (.getfield 39, 3) := by decide +kernel
theorem dX4_keep_38 : decode cX4_keep 38 = .ok (.aload_n 0, 1) := by decide +kernel
theorem dX4_keep_39 : decode cX4_keep 39 = .ok (.getfield 29, 3) := by decide +kernel
theorem dX4_keep_42 : decode cX4_keep 42 = .ok (.invokevirtual 253, 3) := by decide +kernel
theorem dX4_keep_45 : decode cX4_keep 45 = .ok (.aload_n 0, 1) := by decide +kernel
theorem dX4_keep_46 : decode cX4_keep 46 = .ok (.iconst 1, 1) := by decide +kernel
theorem dX4_keep_47 : decode cX4_keep 47 = .ok (.putfield 87, 3) := by decide +kernel
theorem dX4_keep_50 : decode cX4_keep 50 = .ok (.aload_n 0, 1) := by decide +kernel
theorem dX4_keep_51 : decode cX4_keep 51 = .ok (.getfield 29, 3) := by decide +kernel
theorem dX4_keep_54 : decode cX4_keep 54 = .ok (.getfield 115, 3) := by decide +kernel
theorem dX4_keep_57 : decode cX4_keep 57 = .ok (.ireturn, 1) := by decide +kernel
set_option maxRecDepth 20000 in
theorem ggX4_back_X4_within : GoodIn wsX4_back wsX4_within := goodIn_r _ [9] (by decide +kernel) (by decide +kernel)
set_option maxRecDepth 20000 in
theorem gX4_back_X4_within : GoodIn wsX4_back (va_wsS RX4 56 yX4_within wsX4_within) := goodIn_app (goodIn_of _ (by decide +kernel)) ggX4_back_X4_within
set_option maxRecDepth 20000 in
theorem ggX4_back_X0_become : GoodIn wsX4_back wsX0_become := goodIn_r _ [14, 15, 16, 17, 18, 19, 20, 21, 8, 22, 37, 38, 39, 40, 41, 42] (by decide +kernel) (by decide +kernel)
set_option maxRecDepth 20000 in
theorem gX4_back_X0_become : GoodIn wsX4_back (wsV RX4 253 RX0 yX0_become wsX0_become) := goodIn_app (goodIn_of _ (by decide +kernel)) ggX4_back_X0_become
theorem dX4_back_0 : decode cX4_back 0 = .ok (.iload_n 1, 1) := by decide +kernel
theorem dX4_back_1 : decode cX4_back 1 = .ok (.iconst 0, 1) := by decide +kernel
theorem dX4_back_2 : decode cX4_back 2 = .ok (.iconst 1, 1) := by decide +kernel
theorem dX4_back_3 : decode cX4_back 3 = .ok (.invokestatic 56, 3) := by decide +kernel
theorem dX4_back_6 : decode cX4_back 6 = .ok (.ifCond .ne 5, 3) := by decide +kernel
theorem dX4_back_9 : decode cX4_back 9 = .ok (.iconst (-1), 1) := by decide +kernel
theorem dX4_back_10 : decode cX4_back 10 = .ok (.ireturn, 1) := by decide +kernel
theorem dX4_back_11 : decode cX4_back 11 = .ok (.iload_n 1, 1) := by decide +kernel
theorem dX4_back_12 : decode cX4_back 12 = .ok (.ifCond .ne 10, 3) := by decide +kernel
theorem dX4_back_15 : decode cX4_back 15 = .ok (.aload_n 0, 1) := by decide +kernel
theorem dX4_back_16 : decode cX4_back 16 = .ok (.getfield 83, 3) := by decide +kernel
theorem dX4_back_19 : decode cX4_back 19 = .ok (.goto 7, 3) := by decide +kernel
theorem dX4_back_22 : decode cX4_back 22 = .ok (.aload_n 0, 1) := by decide +kernel
theorem dX4_back_23 : decode cX4_back 23 = .ok (.getfield 87, 3) := by decide +kernel
theorem dX4_back_26 : decode cX4_back 26 = .ok (.istore_n 2, 1) := by decide +kernel
theorem dX4_back_27 : decode cX4_back 27 = .ok (.iload_n 2, 1) := by decide +kernel
theorem dX4_back_28 : decode cX4_back 28 = .ok (.ifCond .ne 6, 3) := by decide +kernel
theorem dX4_back_31 : decode cX4_back 31 = .ok (.bipush (-2), 2) := by decide +kernel
theorem dX4_back_33 : decode cX4_back 33 = .ok (.ireturn, 1) := by decide +kernel
theorem dX4_back_34 : decode cX4_back 34 = .ok (.aload_n 0, 1) := by decide +kernel
theorem dX4_back_35 : decode cX4_back 35 = .ok (.getfield 29, 3) := by decide +kernel
theorem dX4_back_38 : decode cX4_back 38 = .ok (.iload_n 1, 1) := by decide +kernel
theorem dX4_back_39 : decode cX4_back 39 = .ok (.ifCond .ne 10, 3) := by decide +kernel
theorem dX4_back_42 : decode cX4_back 42 = .ok (.aload_n 0, 1) := by decide +kernel
theorem dX4_back_43 : decode cX4_back 43 = .ok (.getfield 36, 3) := by decide +kernel
theorem dX4_back_46 : decode cX4_back 46 = .ok (.goto 7, 3) := by decide +kernel
theorem dX4_back_49 : decode cX4_back 49 = .ok (.aload_n 0, 1) := by decide +kernel
theorem dX4_back_50 : decode cX4_back 50 = .ok (.getfield 39, 3) := by decide +kernel
theorem dX4_back_53 : decode cX4_back 53 = .ok (.invokevirtual 253, 3) := by decide +kernel
theorem dX4_back_56 : decode cX4_back 56 = .ok (.aload_n 0, 1) := by decide +kernel
theorem dX4_back_57 : decode cX4_back 57 = .ok (.getfield 29, 3) := by decide +kernel
theorem dX4_back_60 : decode cX4_back 60 = .ok (.getfield 115, 3) := by decide +kernel
theorem dX4_back_63 : decode cX4_back 63 = .ok (.ireturn, 1) := by decide +kernel
theorem dX4_count_0 : decode cX4_count 0 = .ok (.iload_n 1, 1) := by decide +kernel
theorem dX4_count_1 : decode cX4_count 1 = .ok (.tableswitch 87 0 5 #[39, 47, 55, 63, 71, 79], 39) := by decide +kernel
theorem dX4_count_40 : decode cX4_count 40 = .ok (.aload_n 0, 1) := by decide +kernel
theorem dX4_count_41 : decode cX4_count 41 = .ok (.getfield 19, 3) := by decide +kernel
theorem dX4_count_44 : decode cX4_count 44 = .ok (.getfield 256, 3) := by decide +kernel
theorem dX4_count_47 : decode cX4_count 47 = .ok (.ireturn, 1) := by decide +kernel
theorem dX4_count_48 : decode cX4_count 48 = .ok (.aload_n 0, 1) := by decide +kernel
theorem dX4_count_49 : decode cX4_count 49 = .ok (.getfield 19, 3) := by decide +kernel
theorem dX4_count_52 : decode cX4_count 52 = .ok (.getfield 101, 3) := by decide +kernel
theorem dX4_count_55 : decode cX4_count 55 = .ok (.ireturn, 1) := by decide +kernel
theorem dX4_count_56 : decode cX4_count 56 = .ok (.aload_n 0, 1) := by decide +kernel
theorem dX4_count_57 : decode cX4_count 57 = .ok (.getfield 19, 3) := by decide +kernel
theorem dX4_count_60 : decode cX4_count 60 = .ok (.getfield 259, 3) := by decide +kernel
theorem dX4_count_63 : decode cX4_count 63 = .ok (.ireturn, 1) := by decide +kernel
theorem dX4_count_64 : decode cX4_count 64 = .ok (.aload_n 0, 1) := by decide +kernel
theorem dX4_count_65 : decode cX4_count 65 = .ok (.getfield 45, 3) := by decide +kernel
theorem dX4_count_68 : decode cX4_count 68 = .ok (.getfield 217, 3) := by decide +kernel
theorem dX4_count_71 : decode cX4_count 71 = .ok (.ireturn, 1) := by decide +kernel
theorem dX4_count_72 : decode cX4_count 72 = .ok (.aload_n 0, 1) := by decide +kernel
theorem dX4_count_73 : decode cX4_count 73 = .ok (.getfield 12, 3) := by decide +kernel
theorem dX4_count_76 : decode cX4_count 76 = .ok (.getfield 60, 3) := by decide +kernel
theorem dX4_count_79 : decode cX4_count 79 = .ok (.ireturn, 1) := by decide +kernel
theorem dX4_count_80 : decode cX4_count 80 = .ok (.aload_n 0, 1) := by decide +kernel
theorem dX4_count_81 : decode cX4_count 81 = .ok (.getfield 19, 3) := by decide +kernel
theorem dX4_count_84 : decode cX4_count 84 = .ok (.getfield 172, 3) := by decide +kernel
theorem dX4_count_87 : decode cX4_count 87 = .ok (.ireturn, 1) := by decide +kernel
theorem dX4_count_88 : decode cX4_count 88 = .ok (.iconst (-1), 1) := by decide +kernel
theorem dX4_count_89 : decode cX4_count 89 = .ok (.ireturn, 1) := by decide +kernel
theorem dX4_trace_0 : decode cX4_trace 0 = .ok (.aload_n 0, 1) := by decide +kernel
theorem dX4_trace_1 : decode cX4_trace 1 = .ok (.getfield 262, 3) := by decide +kernel
theorem dX4_trace_4 : decode cX4_trace 4 = .ok (.lreturn, 1) := by decide +kernel
theorem dX4_within_0 : decode cX4_within 0 = .ok (.iload_n 0, 1) := by decide +kernel
theorem dX4_within_1 : decode cX4_within 1 = .ok (.iload_n 1, 1) := by decide +kernel
theorem dX4_within_2 : decode cX4_within 2 = .ok (.if_icmp .lt 12, 3) := by decide +kernel
theorem dX4_within_5 : decode cX4_within 5 = .ok (.iload_n 0, 1) := by decide +kernel
theorem dX4_within_6 : decode cX4_within 6 = .ok (.iload_n 2, 1) := by decide +kernel
theorem dX4_within_7 : decode cX4_within 7 = .ok (.if_icmp .gt 7, 3) := by decide +kernel
theorem dX4_within_10 : decode cX4_within 10 = .ok (.iconst 1, 1) := by decide +kernel
theorem dX4_within_11 : decode cX4_within 11 = .ok (.goto 4, 3) := by decide +kernel
theorem dX4_within_14 : decode cX4_within 14 = .ok (.iconst 0, 1) := by decide +kernel
theorem dX4_within_15 : decode cX4_within 15 = .ok (.ireturn, 1) := by decide +kernel
set_option maxRecDepth 20000 in
theorem ggX4_isHour_X4_within : GoodIn wsX4_isHour wsX4_within := goodIn_r _ [4] (by decide +kernel) (by decide +kernel)
set_option maxRecDepth 20000 in
theorem gX4_isHour_X4_within : GoodIn wsX4_isHour (va_wsS RX4 56 yX4_within wsX4_within) := goodIn_app (goodIn_of _ (by decide +kernel)) ggX4_isHour_X4_within
theorem dX4_isHour_0 : decode cX4_isHour 0 = .ok (.iload_n 0, 1) := by decide +kernel
theorem dX4_isHour_1 : decode cX4_isHour 1 = .ok (.iconst 1, 1) := by decide +kernel
theorem dX4_isHour_2 : decode cX4_isHour 2 = .ok (.sipush 9999, 3) := by decide +kernel
theorem dX4_isHour_5 : decode cX4_isHour 5 = .ok (.invokestatic 56, 3) := by decide +kernel
theorem dX4_isHour_8 : decode cX4_isHour 8 = .ok (.ireturn, 1) := by decide +kernel
set_option maxRecDepth 20000 in
theorem ggX4_isMinute_X4_within : GoodIn wsX4_isMinute wsX4_within := goodIn_r _ [4] (by decide +kernel) (by decide +kernel)
set_option maxRecDepth 20000 in
theorem gX4_isMinute_X4_within : GoodIn wsX4_isMinute (va_wsS RX4 56 yX4_within wsX4_within) := goodIn_app (goodIn_of _ (by decide +kernel)) ggX4_isMinute_X4_within
theorem dX4_isMinute_0 : decode cX4_isMinute 0 = .ok (.iload_n 0, 1) := by decide +kernel
theorem dX4_isMinute_1 : decode cX4_isMinute 1 = .ok (.iconst 0, 1) := by decide +kernel
theorem dX4_isMinute_2 : decode cX4_isMinute 2 = .ok (.sipush 240, 3) := by decide +kernel
theorem dX4_isMinute_5 : decode cX4_isMinute 5 = .ok (.invokestatic 56, 3) := by decide +kernel
theorem dX4_isMinute_8 : decode cX4_isMinute 8 = .ok (.ireturn, 1) := by decide +kernel
set_option maxRecDepth 20000 in
theorem ggX4_isWork_X4_within : GoodIn wsX4_isWork wsX4_within := goodIn_r _ [5] (by decide +kernel) (by decide +kernel)
set_option maxRecDepth 20000 in
theorem gX4_isWork_X4_within : GoodIn wsX4_isWork (va_wsS RX4 56 yX4_within wsX4_within) := goodIn_app (goodIn_of _ (by decide +kernel)) ggX4_isWork_X4_within
theorem dX4_isWork_0 : decode cX4_isWork 0 = .ok (.iload_n 1, 1) := by decide +kernel
theorem dX4_isWork_1 : decode cX4_isWork 1 = .ok (.iconst 0, 1) := by decide +kernel
theorem dX4_isWork_2 : decode cX4_isWork 2 = .ok (.aload_n 0, 1) := by decide +kernel
theorem dX4_isWork_3 : decode cX4_isWork 3 = .ok (.getfield 19, 3) := by decide +kernel
theorem dX4_isWork_6 : decode cX4_isWork 6 = .ok (.getfield 259, 3) := by decide +kernel
theorem dX4_isWork_9 : decode cX4_isWork 9 = .ok (.iconst 1, 1) := by decide +kernel
theorem dX4_isWork_10 : decode cX4_isWork 10 = .ok (.isub, 1) := by decide +kernel
theorem dX4_isWork_11 : decode cX4_isWork 11 = .ok (.invokestatic 56, 3) := by decide +kernel
theorem dX4_isWork_14 : decode cX4_isWork 14 = .ok (.ireturn, 1) := by decide +kernel
theorem dX4_copyRow_0 : decode cX4_copyRow 0 = .ok (.iconst 0, 1) := by decide +kernel
theorem dX4_copyRow_1 : decode cX4_copyRow 1 = .ok (.istore_n 2, 1) := by decide +kernel
theorem dX4_copyRow_2 : decode cX4_copyRow 2 = .ok (.iload_n 2, 1) := by decide +kernel
theorem dX4_copyRow_3 : decode cX4_copyRow 3 = .ok (.aload_n 0, 1) := by decide +kernel
theorem dX4_copyRow_4 : decode cX4_copyRow 4 = .ok (.arraylength, 1) := by decide +kernel
theorem dX4_copyRow_5 : decode cX4_copyRow 5 = .ok (.if_icmp .ge 21, 3) := by decide +kernel
theorem dX4_copyRow_8 : decode cX4_copyRow 8 = .ok (.iload_n 2, 1) := by decide +kernel
theorem dX4_copyRow_9 : decode cX4_copyRow 9 = .ok (.aload_n 1, 1) := by decide +kernel
theorem dX4_copyRow_10 : decode cX4_copyRow 10 = .ok (.arraylength, 1) := by decide +kernel
theorem dX4_copyRow_11 : decode cX4_copyRow 11 = .ok (.if_icmp .ge 15, 3) := by decide +kernel
theorem dX4_copyRow_14 : decode cX4_copyRow 14 = .ok (.aload_n 1, 1) := by decide +kernel
theorem dX4_copyRow_15 : decode cX4_copyRow 15 = .ok (.iload_n 2, 1) := by decide +kernel
theorem dX4_copyRow_16 : decode cX4_copyRow 16 = .ok (.aload_n 0, 1) := by decide +kernel
theorem dX4_copyRow_17 : decode cX4_copyRow 17 = .ok (.iload_n 2, 1) := by decide +kernel
theorem dX4_copyRow_18 : decode cX4_copyRow 18 = .ok (.iaload, 1) := by decide +kernel
theorem dX4_copyRow_19 : decode cX4_copyRow 19 = .ok (.iastore, 1) := by decide +kernel
theorem dX4_copyRow_20 : decode cX4_copyRow 20 = .ok (.iinc 2 1, 3) := by decide +kernel
theorem dX4_copyRow_23 : decode cX4_copyRow 23 = .ok (.goto (-21), 3) := by decide +kernel
theorem dX4_copyRow_26 : decode cX4_copyRow 26 = .ok (.return_, 1) := by decide +kernel
theorem dX4_everybody_0 : decode cX4_everybody 0 = .ok (.iconst 1, 1) := by decide +kernel
theorem dX4_everybody_1 : decode cX4_everybody 1 = .ok (.aload_n 0, 1) := by decide +kernel
theorem dX4_everybody_2 : decode cX4_everybody 2 = .ok (.getfield 19, 3) := by decide +kernel
theorem dX4_everybody_5 : decode cX4_everybody 5 = .ok (.getfield 256, 3) := by decide +kernel
theorem dX4_everybody_8 : decode cX4_everybody 8 = .ok (.ishl, 1) := by decide +kernel
theorem dX4_everybody_9 : decode cX4_everybody 9 = .ok (.iconst 1, 1) := by decide +kernel
theorem dX4_everybody_10 : decode cX4_everybody 10 = .ok (.isub, 1) := by decide +kernel
theorem dX4_everybody_11 : decode cX4_everybody 11 = .ok (.ireturn, 1) := by decide +kernel
set_option maxRecDepth 20000 in
theorem ggX4_hourNow_X1_hourOf : GoodIn wsX4_hourNow wsX1_hourOf := goodIn_r _ [7, 8, 29, 30, 31, 32, 33, 34, 35, 36] (by decide +kernel) (by decide +kernel)
set_option maxRecDepth 20000 in
theorem gX4_hourNow_X1_hourOf : GoodIn wsX4_hourNow (wsV RX4 169 RX1 yX1_hourOf wsX1_hourOf) := goodIn_app (goodIn_of _ (by decide +kernel)) ggX4_hourNow_X1_hourOf
theorem dX4_hourNow_0 : decode cX4_hourNow 0 = .ok (.aload_n 0, 1) := by decide +kernel
theorem dX4_hourNow_1 : decode cX4_hourNow 1 = .ok (.getfield 19, 3) := by decide +kernel
theorem dX4_hourNow_4 : decode cX4_hourNow 4 = .ok (.aload_n 0, 1) := by decide +kernel
theorem dX4_hourNow_5 : decode cX4_hourNow 5 = .ok (.getfield 29, 3) := by decide +kernel
theorem dX4_hourNow_8 : decode cX4_hourNow 8 = .ok (.getfield 118, 3) := by decide +kernel
theorem dX4_hourNow_11 : decode cX4_hourNow 11 = .ok (.invokevirtual 169, 3) := by decide +kernel
theorem dX4_hourNow_14 : decode cX4_hourNow 14 = .ok (.ireturn, 1) := by decide +kernel
set_option maxRecDepth 20000 in
theorem ggX4_tellSteps_X0_begin : GoodIn wsX4_tellSteps wsX0_begin := goodIn_r _ [9, 10, 11, 12, 13, 14, 15, 77, 78, 79, 80, 81, 82] (by decide +kernel) (by decide +kernel)
set_option maxRecDepth 20000 in
theorem gX4_tellSteps_X0_begin : GoodIn wsX4_tellSteps (wsV RX4 79 RX0 yX0_begin wsX0_begin) := goodIn_app (goodIn_of _ (by decide +kernel)) ggX4_tellSteps_X0_begin
set_option maxRecDepth 20000 in
theorem ggX4_tellSteps_X0_passMinute : GoodIn wsX4_tellSteps wsX0_passMinute := goodIn_r _ [19, 11, 10, 12, 20, 21, 22, 23, 24, 25, 26, 27, 28, 29, 30, 31, 32, 33, 34, 35, 36, 37, 38, 8, 39, 14, 13, 40, 41, 42, 43, 15, 44, 45, 46, 47, 48, 49, 50, 51, 52, 53, 54, 55, 56, 57, 58, 77, 78, 79, 80, 81, 82, 83, 84, 85, 86, 87, 88, 89, 90] (by decide +kernel) (by decide +kernel)
set_option maxRecDepth 20000 in
theorem gX4_tellSteps_X0_passMinute : GoodIn wsX4_tellSteps (wsV RX4 121 RX0 yX0_passMinute wsX0_passMinute) := goodIn_app (goodIn_of _ (by decide +kernel)) ggX4_tellSteps_X0_passMinute
set_option maxRecDepth 20000 in
theorem ggX4_tellSteps_X0_waitingInVain : GoodIn wsX4_tellSteps wsX0_waitingInVain := goodIn_r _ [62, 11, 14, 13, 20, 21, 22, 23, 24, 25, 48, 49, 50, 51, 52, 53, 54, 55, 56, 57, 58, 77, 78, 79, 80, 81, 82, 83, 84, 85, 86, 87, 88, 89, 90] (by decide +kernel) (by decide +kernel)
set_option maxRecDepth 20000 in
theorem gX4_tellSteps_X0_waitingInVain : GoodIn wsX4_tellSteps (wsV RX4 266 RX0 yX0_waitingInVain wsX0_waitingInVain) := goodIn_app (goodIn_of _ (by decide +kernel)) ggX4_tellSteps_X0_waitingInVain
theorem dX4_tellSteps_0 : decode cX4_tellSteps 0 = .ok (.aload_n 0, 1) := by decide +kernel
theorem dX4_tellSteps_1 : decode cX4_tellSteps 1 = .ok (.getfield 33, 3) := by decide +kernel
theorem dX4_tellSteps_4 : decode cX4_tellSteps 4 = .ok (.iconst 0, 1) := by decide +kernel
theorem dX4_tellSteps_5 : decode cX4_tellSteps 5 = .ok (.iconst 0, 1) := by decide +kernel
theorem dX4_tellSteps_6 : decode cX4_tellSteps 6 = .ok (.invokevirtual 79, 3) := by decide +kernel
theorem dX4_tellSteps_9 : decode cX4_tellSteps 9 = .ok (.aload_n 0, 1) := by decide +kernel
theorem dX4_tellSteps_10 : decode cX4_tellSteps 10 = .ok (.getfield 49, 3) := by decide +kernel
theorem dX4_tellSteps_13 : decode cX4_tellSteps 13 = .ok (.iconst 0, 1) := by decide +kernel
theorem dX4_tellSteps_14 : decode cX4_tellSteps 14 = .ok (.iconst 0, 1) := by decide +kernel
theorem dX4_tellSteps_15 : decode cX4_tellSteps 15 = .ok (.iastore, 1) := by decide +kernel
theorem dX4_tellSteps_16 : decode cX4_tellSteps 16 = .ok (.iconst 1, 1) := by decide +kernel
theorem dX4_tellSteps_17 : decode cX4_tellSteps 17 = .ok (.istore_n 1, 1) := by decide +kernel
theorem dX4_tellSteps_18 : decode cX4_tellSteps 18 = .ok (.iload_n 1, 1) := by decide +kernel
theorem dX4_tellSteps_19 : decode cX4_tellSteps 19 = .ok (.sipush 240, 3) := by decide +kernel
theorem dX4_tellSteps_22 : decode cX4_tellSteps 22 = .ok (.if_icmp .gt 42, 3) := by decide +kernel
theorem dX4_tellSteps_25 : decode cX4_tellSteps 25 = .ok (.iload_n 1, 1) := by decide +kernel
theorem dX4_tellSteps_26 : decode cX4_tellSteps 26 = .ok (.aload_n 0, 1) := by decide +kernel
theorem dX4_tellSteps_27 : decode cX4_tellSteps 27 = .ok (.getfield 49, 3) := by decide +kernel
theorem dX4_tellSteps_30 : decode cX4_tellSteps 30 = .ok (.arraylength, 1) := by decide +kernel
theorem dX4_tellSteps_31 : decode cX4_tellSteps 31 = .ok (.if_icmp .ge 33, 3) := by decide +kernel
theorem dX4_tellSteps_34 : decode cX4_tellSteps 34 = .ok (.aload_n 0, 1) := by decide +kernel
theorem dX4_tellSteps_35 : decode cX4_tellSteps 35 = .ok (.getfield 33, 3) := by decide +kernel
theorem dX4_tellSteps_38 : decode cX4_tellSteps 38 = .ok (.aload_n 0, 1) := by decide +kernel
theorem dX4_tellSteps_39 : decode cX4_tellSteps 39 = .ok (.getfield 19, 3) := by decide +kernel
theorem dX4_tellSteps_42 : decode cX4_tellSteps 42 = .ok (.invokevirtual 121, 3) := by decide +kernel
theorem dX4_tellSteps_45 : decode cX4_tellSteps 45 = .ok (.aload_n 0, 1) := by decide +kernel
theorem dX4_tellSteps_46 : decode cX4_tellSteps 46 = .ok (.getfield 49, 3) := by decide +kernel
theorem dX4_tellSteps_49 : decode cX4_tellSteps 49 = .ok (.iload_n 1, 1) := by decide +kernel
theorem dX4_tellSteps_50 : decode cX4_tellSteps 50 = .ok (.aload_n 0, 1) := by decide +kernel
theorem dX4_tellSteps_51 : decode cX4_tellSteps 51 = .ok (.getfield 33, 3) := by decide +kernel
theorem dX4_tellSteps_54 : decode cX4_tellSteps 54 = .ok (.getfield 118, 3) := by decide +kernel
theorem dX4_tellSteps_57 : decode cX4_tellSteps 57 = .ok (.iastore, 1) := by decide +kernel
theorem dX4_tellSteps_58 : decode cX4_tellSteps 58 = .ok (.iinc 1 1, 3) := by decide +kernel
theorem dX4_tellSteps_61 : decode cX4_tellSteps 61 = .ok (.goto (-43), 3) := by decide +kernel
theorem dX4_tellSteps_64 : decode cX4_tellSteps 64 = .ok (.aload_n 0, 1) := by decide +kernel
theorem dX4_tellSteps_65 : decode cX4_tellSteps 65 = .ok (.aload_n 0, 1) := by decide +kernel
theorem dX4_tellSteps_66 : decode cX4_tellSteps 66 = .ok (.getfield 33, 3) := by decide +kernel
theorem dX4_tellSteps_69 : decode cX4_tellSteps 69 = .ok (.aload_n 0, 1) := by decide +kernel
theorem dX4_tellSteps_70 : decode cX4_tellSteps 70 = .ok (.getfield 19, 3) := by decide +kernel
theorem dX4_tellSteps_73 : decode cX4_tellSteps 73 = .ok (.invokevirtual 266, 3) := by decide +kernel
theorem dX4_tellSteps_76 : decode cX4_tellSteps 76 = .ok (.putfield 163, 3) := by decide +kernel
theorem dX4_tellSteps_79 : decode cX4_tellSteps 79 = .ok (.return_, 1) := by decide +kernel
theorem dX4_toldSteps_0 : decode cX4_toldSteps 0 = .ok (.iload_n 1, 1) := by decide +kernel
theorem dX4_toldSteps_1 : decode cX4_toldSteps 1 = .ok (.ifCond .lt 21, 3) := by decide +kernel
theorem dX4_toldSteps_4 : decode cX4_toldSteps 4 = .ok (.iload_n 1, 1) := by decide +kernel
theorem dX4_toldSteps_5 : decode cX4_toldSteps 5 = .ok (.aload_n 0, 1) := by decide +kernel
theorem dX4_toldSteps_6 : decode cX4_toldSteps 6 = .ok (.getfield 49, 3) := by decide +kernel
theorem dX4_toldSteps_9 : decode cX4_toldSteps 9 = .ok (.arraylength, 1) := by decide +kernel
theorem dX4_toldSteps_10 : decode cX4_toldSteps 10 = .ok (.if_icmp .ge 12, 3) := by decide +kernel
theorem dX4_toldSteps_13 : decode cX4_toldSteps 13 = .ok (.aload_n 0, 1) := by decide +kernel
theorem dX4_toldSteps_14 : decode cX4_toldSteps 14 = .ok (.getfield 49, 3) := by decide +kernel
theorem dX4_toldSteps_17 : decode cX4_toldSteps 17 = .ok (.iload_n 1, 1) := by decide +kernel
theorem dX4_toldSteps_18 : decode cX4_toldSteps 18 = .ok (.iaload, 1) := by decide +kernel
theorem dX4_toldSteps_19 : decode cX4_toldSteps 19 = .ok (.goto 4, 3) := by decide +kernel
theorem dX4_toldSteps_22 : decode cX4_toldSteps 22 = .ok (.iconst 0, 1) := by decide +kernel
theorem dX4_toldSteps_23 : decode cX4_toldSteps 23 = .ok (.ireturn, 1) := by decide +kernel
set_option maxRecDepth 20000 in
theorem ggX4_standsBehind_X4_toldSteps : GoodIn wsX4_standsBehind wsX4_toldSteps := goodIn_r _ [5, 6, 7, 8, 9, 10, 11, 12, 13, 14, 15, 16, 17, 18, 19, 20] (by decide +kernel) (by decide +kernel)
set_option maxRecDepth 20000 in
theorem gX4_standsBehind_X4_toldSteps : GoodIn wsX4_standsBehind (wsV RX4 160 RX4 yX4_toldSteps wsX4_toldSteps) := goodIn_app (goodIn_of _ (by decide +kernel)) ggX4_standsBehind_X4_toldSteps
theorem dX4_standsBehind_0 : decode cX4_standsBehind 0 = .ok (.sipush 240, 3) := by decide +kernel
theorem dX4_standsBehind_3 : decode cX4_standsBehind 3 = .ok (.istore_n 1, 1) := by decide +kernel
theorem dX4_standsBehind_4 : decode cX4_standsBehind 4 = .ok (.iload_n 1, 1) := by decide +kernel
theorem dX4_standsBehind_5 : decode cX4_standsBehind 5 = .ok (.ifCond .le 26, 3) := by decide +kernel
theorem dX4_standsBehind_8 : decode cX4_standsBehind 8 = .ok (.aload_n 0, 1) := by decide +kernel
theorem dX4_standsBehind_9 : decode cX4_standsBehind 9 = .ok (.iload_n 1, 1) := by decide +kernel
theorem dX4_standsBehind_10 : decode cX4_standsBehind 10 = .ok (.invokevirtual 160, 3) := by decide +kernel
theorem dX4_standsBehind_13 : decode cX4_standsBehind 13 = .ok (.aload_n 0, 1) := by decide +kernel
theorem dX4_standsBehind_14 : decode cX4_standsBehind 14 = .ok (.iload_n 1, 1) := by decide +kernel
theorem dX4_standsBehind_15 : decode cX4_standsBehind 15 = .ok (.iconst 1, 1) := by decide +kernel
theorem dX4_standsBehind_16 : decode cX4_standsBehind 16 = .ok (.isub, 1) := by decide +kernel
theorem dX4_standsBehind_17 : decode cX4_standsBehind 17 = .ok (.invokevirtual 160, 3) := by decide +kernel
theorem dX4_standsBehind_20 : decode cX4_standsBehind 20 = .ok (.if_icmp .le 5, 3) := by decide +kernel
theorem dX4_standsBehind_23 : decode cX4_standsBehind 23 = .ok (.iload_n 1, 1) := by decide +kernel
theorem dX4_standsBehind_24 : decode cX4_standsBehind 24 = .ok (.ireturn, 1) := by decide +kernel
theorem dX4_standsBehind_25 : decode cX4_standsBehind 25 = .ok (.iinc 1 (-1), 3) := by decide +kernel
theorem dX4_standsBehind_28 : decode cX4_standsBehind 28 = .ok (.goto (-24), 3) := by decide +kernel
theorem dX4_standsBehind_31 : decode cX4_standsBehind 31 = .ok (.iconst 0, 1) := by decide +kernel
theorem dX4_standsBehind_32 : decode cX4_standsBehind 32 = .ok (.ireturn, 1) := by decide +kernel
set_option maxRecDepth 20000 in
theorem ggX4_firstMinute_X4_everybody : GoodIn wsX4_firstMinute wsX4_everybody := goodIn_r _ [7, 2, 63, 64, 65, 66, 67, 68, 69, 70, 71, 72, 73, 74, 75, 76, 83, 84, 85, 86, 87, 88, 89, 90] (by decide +kernel) (by decide +kernel)
set_option maxRecDepth 20000 in
theorem gX4_firstMinute_X4_everybody : GoodIn wsX4_firstMinute (wsV RX4 127 RX4 yX4_everybody wsX4_everybody) := goodIn_app (goodIn_of _ (by decide +kernel)) ggX4_firstMinute_X4_everybody
set_option maxRecDepth 20000 in
theorem ggX4_firstMinute_X0_begin : GoodIn wsX4_firstMinute wsX0_begin := goodIn_r _ [12, 13, 14, 15, 16, 17, 18, 77, 78, 79, 80, 81, 82] (by decide +kernel) (by decide +kernel)
set_option maxRecDepth 20000 in
theorem gX4_firstMinute_X0_begin : GoodIn wsX4_firstMinute (wsV RX4 79 RX0 yX0_begin wsX0_begin) := goodIn_app (goodIn_of _ (by decide +kernel)) ggX4_firstMinute_X0_begin
set_option maxRecDepth 20000 in
theorem ggX4_firstMinute_X1_hourOf : GoodIn wsX4_firstMinute wsX1_hourOf := goodIn_r _ [23, 24, 83, 84, 85, 86, 87, 88, 89, 90] (by decide +kernel) (by decide +kernel)
set_option maxRecDepth 20000 in
theorem gX4_firstMinute_X1_hourOf : GoodIn wsX4_firstMinute (wsV RX4 169 RX1 yX1_hourOf wsX1_hourOf) := goodIn_app (goodIn_of _ (by decide +kernel)) ggX4_firstMinute_X1_hourOf
set_option maxRecDepth 20000 in
theorem ggX4_firstMinute_X0_passMinute : GoodIn wsX4_firstMinute wsX0_passMinute := goodIn_r _ [28, 14, 13, 15, 29, 20, 21, 22, 23, 24, 30, 31, 32, 33, 34, 35, 36, 37, 38, 39, 40, 41, 42, 11, 43, 17, 16, 44, 45, 46, 47, 18, 48, 49, 50, 51, 52, 53, 54, 55, 56, 57, 58, 59, 60, 61, 62, 77, 78, 79, 80, 81, 82, 83, 84, 85, 86, 87, 88, 89, 90] (by decide +kernel) (by decide +kernel)
set_option maxRecDepth 20000 in
theorem gX4_firstMinute_X0_passMinute : GoodIn wsX4_firstMinute (wsV RX4 121 RX0 yX0_passMinute wsX0_passMinute) := goodIn_app (goodIn_of _ (by decide +kernel)) ggX4_firstMinute_X0_passMinute
theorem dX4_firstMinute_0 : decode cX4_firstMinute 0 = .ok (.aload_n 0, 1) := by decide +kernel
theorem dX4_firstMinute_1 : decode cX4_firstMinute 1 = .ok (.getfield 33, 3) := by decide +kernel
theorem dX4_firstMinute_4 : decode cX4_firstMinute 4 = .ok (.iload_n 3, 1) := by decide +kernel
theorem dX4_firstMinute_5 : decode cX4_firstMinute 5 = .ok (.iload_n 2, 1) := by decide +kernel
theorem dX4_firstMinute_6 : decode cX4_firstMinute 6 = .ok (.aload_n 0, 1) := by decide +kernel
theorem dX4_firstMinute_7 : decode cX4_firstMinute 7 = .ok (.invokevirtual 127, 3) := by decide +kernel
theorem dX4_firstMinute_10 : decode cX4_firstMinute 10 = .ok (.iand, 1) := by decide +kernel
theorem dX4_firstMinute_11 : decode cX4_firstMinute 11 = .ok (.invokevirtual 79, 3) := by decide +kernel
theorem dX4_firstMinute_14 : decode cX4_firstMinute 14 = .ok (.iconst 0, 1) := by decide +kernel
theorem dX4_firstMinute_15 : decode cX4_firstMinute 15 = .ok (.istore 5, 2) := by decide +kernel
theorem dX4_firstMinute_17 : decode cX4_firstMinute 17 = .ok (.iload 5, 2) := by decide +kernel
theorem dX4_firstMinute_19 : decode cX4_firstMinute 19 = .ok (.iload 4, 2) := by decide +kernel
theorem dX4_firstMinute_21 : decode cX4_firstMinute 21 = .ok (.if_icmp .ge 41, 3) := by decide +kernel
theorem dX4_firstMinute_24 : decode cX4_firstMinute 24 = .ok (.aload_n 0, 1) := by decide +kernel
theorem dX4_firstMinute_25 : decode cX4_firstMinute 25 = .ok (.getfield 19, 3) := by decide +kernel
theorem dX4_firstMinute_28 : decode cX4_firstMinute 28 = .ok (.aload_n 0, 1) := by decide +kernel
theorem dX4_firstMinute_29 : decode cX4_firstMinute 29 = .ok (.getfield 33, 3) := by decide +kernel
theorem dX4_firstMinute_32 : decode cX4_firstMinute 32 = .ok (.getfield 118, 3) := by decide +kernel
theorem dX4_firstMinute_35 : decode cX4_firstMinute 35 = .ok (.invokevirtual 169, 3) := by decide +kernel
theorem dX4_firstMinute_38 : decode cX4_firstMinute 38 = .ok (.iload_n 1, 1) := by decide +kernel
theorem dX4_firstMinute_39 : decode cX4_firstMinute 39 = .ok (.if_icmp .lt 6, 3) := by decide +kernel
theorem dX4_firstMinute_42 : decode cX4_firstMinute 42 = .ok (.iload 5, 2) := by decide +kernel
theorem dX4_firstMinute_44 : decode cX4_firstMinute 44 = .ok (.ireturn, 1) := by decide +kernel
theorem dX4_firstMinute_45 : decode cX4_firstMinute 45 = .ok (.aload_n 0, 1) := by decide +kernel
theorem dX4_firstMinute_46 : decode cX4_firstMinute 46 = .ok (.getfield 33, 3) := by decide +kernel
theorem dX4_firstMinute_49 : decode cX4_firstMinute 49 = .ok (.aload_n 0, 1) := by decide +kernel
theorem dX4_firstMinute_50 : decode cX4_firstMinute 50 = .ok (.getfield 19, 3) := by decide +kernel
theorem dX4_firstMinute_53 : decode cX4_firstMinute 53 = .ok (.invokevirtual 121, 3) := by decide +kernel
theorem dX4_firstMinute_56 : decode cX4_firstMinute 56 = .ok (.iinc 5 1, 3) := by decide +kernel
theorem dX4_firstMinute_59 : decode cX4_firstMinute 59 = .ok (.goto (-42), 3) := by decide +kernel
theorem dX4_firstMinute_62 : decode cX4_firstMinute 62 = .ok (.aload_n 0, 1) := by decide +kernel
theorem dX4_firstMinute_63 : decode cX4_firstMinute 63 = .ok (.getfield 19, 3) := by decide +kernel
theorem dX4_firstMinute_66 : decode cX4_firstMinute 66 = .ok (.aload_n 0, 1) := by decide +kernel
theorem dX4_firstMinute_67 : decode cX4_firstMinute 67 = .ok (.getfield 33, 3) := by decide +kernel
theorem dX4_firstMinute_70 : decode cX4_firstMinute 70 = .ok (.getfield 118, 3) := by decide +kernel
theorem dX4_firstMinute_73 : decode cX4_firstMinute 73 = .ok (.invokevirtual 169, 3) := by decide +kernel
theorem dX4_firstMinute_76 : decode cX4_firstMinute 76 = .ok (.iload_n 1, 1) := by decide +kernel
theorem dX4_firstMinute_77 : decode cX4_firstMinute 77 = .ok (.if_icmp .lt 8, 3) := by decide +kernel
theorem dX4_firstMinute_80 : decode cX4_firstMinute 80 = .ok (.iload 4, 2) := by decide +kernel
theorem dX4_firstMinute_82 : decode cX4_firstMinute 82 = .ok (.goto 5, 3) := by decide +kernel
theorem dX4_firstMinute_85 : decode cX4_firstMinute 85 = .ok (.bipush (-9), 2) := by decide +kernel
theorem dX4_firstMinute_87 : decode cX4_firstMinute 87 = .ok (.ireturn, 1) := by decide +kernel
set_option maxRecDepth 20000 in
theorem ggX4_fewestWhoStop_X4_everybody : GoodIn wsX4_fewestWhoStop wsX4_everybody := goodIn_r _ [6, 1, 74, 75, 76, 77, 78, 79, 80, 81, 82, 83, 84, 85, 86, 87, 88, 89, 90, 91, 92, 93, 94, 95] (by decide +kernel) (by decide +kernel)
set_option maxRecDepth 20000 in
theorem gX4_fewestWhoStop_X4_everybody : GoodIn wsX4_fewestWhoStop (wsV RX4 127 RX4 yX4_everybody wsX4_everybody) := goodIn_app (goodIn_of _ (by decide +kernel)) ggX4_fewestWhoStop_X4_everybody
set_option maxRecDepth 20000 in
theorem ggX4_fewestWhoStop_X4_firstMinute : GoodIn wsX4_fewestWhoStop wsX4_firstMinute := goodIn_r _ [10, 11, 1, 2, 3, 4, 5, 6, 12, 13, 14, 15, 16, 17, 18, 19, 20, 21, 22, 23, 24, 25, 26, 27, 28, 29, 30, 31, 32, 33, 34, 35, 36, 37, 38, 39, 40, 41, 42, 43, 44, 45, 46, 47, 48, 49, 50, 51, 52, 53, 54, 55, 56, 57, 58, 59, 60, 61, 62, 63, 64, 65, 66, 74, 75, 76, 77, 78, 79, 80, 81, 82, 83, 84, 85, 86, 87, 96, 97, 98, 99, 100, 101, 88, 89, 90, 91, 92, 93, 94, 95] (by decide +kernel) (by decide +kernel)
set_option maxRecDepth 20000 in
theorem gX4_fewestWhoStop_X4_firstMinute : GoodIn wsX4_fewestWhoStop (wsV RX4 153 RX4 yX4_firstMinute wsX4_firstMinute) := goodIn_app (goodIn_of _ (by decide +kernel)) ggX4_fewestWhoStop_X4_firstMinute
set_option maxRecDepth 20000 in
theorem ggX4_fewestWhoStop_J6_bitCount_0f7a4 : GoodIn wsX4_fewestWhoStop wsJ6_bitCount_0f7a4 := goodIn_r _ [70, 71, 72, 73] (by decide +kernel) (by decide +kernel)
set_option maxRecDepth 20000 in
theorem gX4_fewestWhoStop_J6_bitCount_0f7a4 : GoodIn wsX4_fewestWhoStop (va_wsS RX4 212 yJ6_bitCount_0f7a4 wsJ6_bitCount_0f7a4) := goodIn_app (goodIn_of _ (by decide +kernel)) ggX4_fewestWhoStop_J6_bitCount_0f7a4
theorem dX4_fewestWhoStop_0 : decode cX4_fewestWhoStop 0 = .ok (.aload_n 0, 1) := by decide +kernel
theorem dX4_fewestWhoStop_1 : decode cX4_fewestWhoStop 1 = .ok (.iload_n 1, 1) := by decide +kernel
theorem dX4_fewestWhoStop_2 : decode cX4_fewestWhoStop 2 = .ok (.aload_n 0, 1) := by decide +kernel
theorem dX4_fewestWhoStop_3 : decode cX4_fewestWhoStop 3 = .ok (.invokevirtual 127, 3) := by decide +kernel
theorem dX4_fewestWhoStop_6 : decode cX4_fewestWhoStop 6 = .ok (.iconst 0, 1) := by decide +kernel
theorem dX4_fewestWhoStop_7 : decode cX4_fewestWhoStop 7 = .ok (.iload_n 2, 1) := by decide +kernel
theorem dX4_fewestWhoStop_8 : decode cX4_fewestWhoStop 8 = .ok (.invokevirtual 153, 3) := by decide +kernel
theorem dX4_fewestWhoStop_11 : decode cX4_fewestWhoStop 11 = .ok (.bipush (-9), 2) := by decide +kernel
theorem dX4_fewestWhoStop_13 : decode cX4_fewestWhoStop 13 = .ok (.if_icmp .eq 6, 3) := by decide +kernel
theorem dX4_fewestWhoStop_16 : decode cX4_fewestWhoStop 16 = .ok (.bipush (-9), 2) := by decide +kernel
theorem dX4_fewestWhoStop_18 : decode cX4_fewestWhoStop 18 = .ok (.ireturn, 1) := by decide +kernel
theorem dX4_fewestWhoStop_19 : decode cX4_fewestWhoStop 19 = .ok (.iconst 0, 1) := by decide +kernel
theorem dX4_fewestWhoStop_20 : decode cX4_fewestWhoStop 20 = .ok (.istore_n 3, 1) := by decide +kernel
theorem dX4_fewestWhoStop_21 : decode cX4_fewestWhoStop 21 = .ok (.iload_n 3, 1) := by decide +kernel
theorem dX4_fewestWhoStop_22 : decode cX4_fewestWhoStop 22 = .ok (.aload_n 0, 1) := by decide +kernel
theorem dX4_fewestWhoStop_23 : decode cX4_fewestWhoStop 23 = .ok (.getfield 19, 3) := by decide +kernel
theorem dX4_fewestWhoStop_26 : decode cX4_fewestWhoStop 26 = .ok (.getfield 256, 3) := by decide +kernel
theorem dX4_fewestWhoStop_29 : decode cX4_fewestWhoStop 29 = .ok (.if_icmp .ge 53, 3) := by decide +kernel
theorem dX4_fewestWhoStop_32 : decode cX4_fewestWhoStop 32 = .ok (.iconst 0, 1) := by decide +kernel
theorem dX4_fewestWhoStop_33 : decode cX4_fewestWhoStop 33 = .ok (.istore 4, 2) := by decide +kernel
theorem dX4_fewestWhoStop_35 : decode cX4_fewestWhoStop 35 = .ok (.iload 4, 2) := by decide +kernel
theorem dX4_fewestWhoStop_37 : decode cX4_fewestWhoStop 37 = .ok (.aload_n 0, 1) := by decide +kernel
theorem dX4_fewestWhoStop_38 : decode cX4_fewestWhoStop 38 = .ok (.invokevirtual 127, 3) := by decide +kernel
theorem dX4_fewestWhoStop_41 : decode cX4_fewestWhoStop 41 = .ok (.if_icmp .ge 35, 3) := by decide +kernel
theorem dX4_fewestWhoStop_44 : decode cX4_fewestWhoStop 44 = .ok (.iload 4, 2) := by decide +kernel
theorem dX4_fewestWhoStop_46 : decode cX4_fewestWhoStop 46 = .ok (.invokestatic 212, 3) := by decide +kernel
theorem dX4_fewestWhoStop_49 : decode cX4_fewestWhoStop 49 = .ok (.iload_n 3, 1) := by decide +kernel
theorem dX4_fewestWhoStop_50 : decode cX4_fewestWhoStop 50 = .ok (.if_icmp .ne 20, 3) := by decide +kernel
theorem dX4_fewestWhoStop_53 : decode cX4_fewestWhoStop 53 = .ok (.aload_n 0, 1) := by decide +kernel
theorem dX4_fewestWhoStop_54 : decode cX4_fewestWhoStop 54 = .ok (.iload_n 1, 1) := by decide +kernel
theorem dX4_fewestWhoStop_55 : decode cX4_fewestWhoStop 55 = .ok (.iload 4, 2) := by decide +kernel
theorem dX4_fewestWhoStop_57 : decode cX4_fewestWhoStop 57 = .ok (.iconst 0, 1) := by decide +kernel
theorem dX4_fewestWhoStop_58 : decode cX4_fewestWhoStop 58 = .ok (.iload_n 2, 1) := by decide +kernel
theorem dX4_fewestWhoStop_59 : decode cX4_fewestWhoStop 59 = .ok (.invokevirtual 153, 3) := by decide +kernel
theorem dX4_fewestWhoStop_62 : decode cX4_fewestWhoStop 62 = .ok (.bipush (-9), 2) := by decide +kernel
theorem dX4_fewestWhoStop_64 : decode cX4_fewestWhoStop 64 = .ok (.if_icmp .ne 6, 3) := by decide +kernel
theorem dX4_fewestWhoStop_67 : decode cX4_fewestWhoStop 67 = .ok (.iload 4, 2) := by decide +kernel
theorem dX4_fewestWhoStop_69 : decode cX4_fewestWhoStop 69 = .ok (.ireturn, 1) := by decide +kernel
theorem dX4_fewestWhoStop_70 : decode cX4_fewestWhoStop 70 = .ok (.iinc 4 1, 3) := by decide +kernel
theorem dX4_fewestWhoStop_73 : decode cX4_fewestWhoStop 73 = .ok (.goto (-38), 3) := by decide +kernel
theorem dX4_fewestWhoStop_76 : decode cX4_fewestWhoStop 76 = .ok (.iinc 3 1, 3) := by decide +kernel
theorem dX4_fewestWhoStop_79 : decode cX4_fewestWhoStop 79 = .ok (.goto (-58), 3) := by decide +kernel
theorem dX4_fewestWhoStop_82 : decode cX4_fewestWhoStop 82 = .ok (.aload_n 0, 1) := by decide +kernel
theorem dX4_fewestWhoStop_83 : decode cX4_fewestWhoStop 83 = .ok (.invokevirtual 127, 3) := by decide +kernel
theorem dX4_fewestWhoStop_86 : decode cX4_fewestWhoStop 86 = .ok (.ireturn, 1) := by decide +kernel
set_option maxRecDepth 20000 in
theorem ggX4_isAlike_X4_toldSteps : GoodIn wsX4_isAlike wsX4_toldSteps := goodIn_r _ [6, 7, 14, 15, 16, 17, 18, 19, 20, 21, 22, 23, 24, 25, 26, 27] (by decide +kernel) (by decide +kernel)
set_option maxRecDepth 20000 in
theorem gX4_isAlike_X4_toldSteps : GoodIn wsX4_isAlike (wsV RX4 160 RX4 yX4_toldSteps wsX4_toldSteps) := goodIn_app (goodIn_of _ (by decide +kernel)) ggX4_isAlike_X4_toldSteps
set_option maxRecDepth 20000 in
theorem ggX4_isAlike_X1_hourOf : GoodIn wsX4_isAlike wsX1_hourOf := goodIn_r _ [12, 13, 28, 29, 30, 31, 32, 33, 34, 35] (by decide +kernel) (by decide +kernel)
set_option maxRecDepth 20000 in
theorem gX4_isAlike_X1_hourOf : GoodIn wsX4_isAlike (wsV RX4 169 RX1 yX1_hourOf wsX1_hourOf) := goodIn_app (goodIn_of _ (by decide +kernel)) ggX4_isAlike_X1_hourOf
theorem dX4_isAlike_0 : decode cX4_isAlike 0 = .ok (.iload_n 1, 1) := by decide +kernel
theorem dX4_isAlike_1 : decode cX4_isAlike 1 = .ok (.bipush 60, 2) := by decide +kernel
theorem dX4_isAlike_3 : decode cX4_isAlike 3 = .ok (.idiv, 1) := by decide +kernel
theorem dX4_isAlike_4 : decode cX4_isAlike 4 = .ok (.aload_n 0, 1) := by decide +kernel
theorem dX4_isAlike_5 : decode cX4_isAlike 5 = .ok (.getfield 19, 3) := by decide +kernel
theorem dX4_isAlike_8 : decode cX4_isAlike 8 = .ok (.aload_n 0, 1) := by decide +kernel
theorem dX4_isAlike_9 : decode cX4_isAlike 9 = .ok (.iload_n 1, 1) := by decide +kernel
theorem dX4_isAlike_10 : decode cX4_isAlike 10 = .ok (.invokevirtual 160, 3) := by decide +kernel
theorem dX4_isAlike_13 : decode cX4_isAlike 13 = .ok (.invokevirtual 169, 3) := by decide +kernel
theorem dX4_isAlike_16 : decode cX4_isAlike 16 = .ok (.if_icmp .ne 7, 3) := by decide +kernel
theorem dX4_isAlike_19 : decode cX4_isAlike 19 = .ok (.iconst 1, 1) := by decide +kernel
theorem dX4_isAlike_20 : decode cX4_isAlike 20 = .ok (.goto 4, 3) := by decide +kernel
theorem dX4_isAlike_23 : decode cX4_isAlike 23 = .ok (.iconst 0, 1) := by decide +kernel
theorem dX4_isAlike_24 : decode cX4_isAlike 24 = .ok (.ireturn, 1) := by decide +kernel
set_option maxRecDepth 20000 in
theorem ggX4_minutesAlike_X4_isAlike : GoodIn wsX4_minutesAlike wsX4_isAlike := goodIn_r _ [5, 6, 7, 8, 9, 4, 10, 11, 12, 13, 14, 15, 16, 17, 18, 19, 20, 21, 22, 23, 24, 25, 26, 27, 28, 29, 30, 31, 32, 33, 34, 35, 36, 37, 38, 39] (by decide +kernel) (by decide +kernel)
set_option maxRecDepth 20000 in
theorem gX4_minutesAlike_X4_isAlike : GoodIn wsX4_minutesAlike (wsV RX4 269 RX4 yX4_isAlike wsX4_isAlike) := goodIn_app (goodIn_of _ (by decide +kernel)) ggX4_minutesAlike_X4_isAlike
theorem dX4_minutesAlike_0 : decode cX4_minutesAlike 0 = .ok (.iconst 0, 1) := by decide +kernel
theorem dX4_minutesAlike_1 : decode cX4_minutesAlike 1 = .ok (.istore_n 1, 1) := by decide +kernel
theorem dX4_minutesAlike_2 : decode cX4_minutesAlike 2 = .ok (.iconst 0, 1) := by decide +kernel
theorem dX4_minutesAlike_3 : decode cX4_minutesAlike 3 = .ok (.istore_n 2, 1) := by decide +kernel
theorem dX4_minutesAlike_4 : decode cX4_minutesAlike 4 = .ok (.iload_n 2, 1) := by decide +kernel
theorem dX4_minutesAlike_5 : decode cX4_minutesAlike 5 = .ok (.sipush 240, 3) := by decide +kernel
theorem dX4_minutesAlike_8 : decode cX4_minutesAlike 8 = .ok (.if_icmp .gt 20, 3) := by decide +kernel
theorem dX4_minutesAlike_11 : decode cX4_minutesAlike 11 = .ok (.aload_n 0, 1) := by decide +kernel
theorem dX4_minutesAlike_12 : decode cX4_minutesAlike 12 = .ok (.iload_n 2, 1) := by decide +kernel
theorem dX4_minutesAlike_13 : decode cX4_minutesAlike 13 = .ok (.invokevirtual 269, 3) := by decide +kernel
theorem dX4_minutesAlike_16 : decode cX4_minutesAlike 16 = .ok (.ifCond .eq 6, 3) := by decide +kernel
theorem dX4_minutesAlike_19 : decode cX4_minutesAlike 19 = .ok (.iinc 1 1, 3) := by decide +kernel
theorem dX4_minutesAlike_22 : decode cX4_minutesAlike 22 = .ok (.iinc 2 1, 3) := by decide +kernel
theorem dX4_minutesAlike_25 : decode cX4_minutesAlike 25 = .ok (.goto (-21), 3) := by decide +kernel
theorem dX4_minutesAlike_28 : decode cX4_minutesAlike 28 = .ok (.iload_n 1, 1) := by decide +kernel
theorem dX4_minutesAlike_29 : decode cX4_minutesAlike 29 = .ok (.ireturn, 1) := by decide +kernel
set_option maxRecDepth 20000 in
theorem ggX4_lastMinuteAlike_X4_isAlike : GoodIn wsX4_lastMinuteAlike wsX4_isAlike := goodIn_r _ [5, 6, 7, 8, 9, 4, 10, 11, 12, 13, 14, 15, 16, 17, 18, 19, 20, 21, 22, 23, 24, 25, 26, 27, 28, 29, 30, 31, 32, 33, 34, 35, 36, 37, 38, 39] (by decide +kernel) (by decide +kernel)
set_option maxRecDepth 20000 in
theorem gX4_lastMinuteAlike_X4_isAlike : GoodIn wsX4_lastMinuteAlike (wsV RX4 269 RX4 yX4_isAlike wsX4_isAlike) := goodIn_app (goodIn_of _ (by decide +kernel)) ggX4_lastMinuteAlike_X4_isAlike
theorem dX4_lastMinuteAlike_0 : decode cX4_lastMinuteAlike 0 = .ok (.sipush 240, 3) := by decide +kernel
theorem dX4_lastMinuteAlike_3 : decode cX4_lastMinuteAlike 3 = .ok (.istore_n 1, 1) := by decide +kernel
theorem dX4_lastMinuteAlike_4 : decode cX4_lastMinuteAlike 4 = .ok (.iload_n 1, 1) := by decide +kernel
theorem dX4_lastMinuteAlike_5 : decode cX4_lastMinuteAlike 5 = .ok (.ifCond .lt 19, 3) := by decide +kernel
theorem dX4_lastMinuteAlike_8 : decode cX4_lastMinuteAlike 8 = .ok (.aload_n 0, 1) := by decide +kernel
theorem dX4_lastMinuteAlike_9 : decode cX4_lastMinuteAlike 9 = .ok (.iload_n 1, 1) := by decide +kernel
theorem dX4_lastMinuteAlike_10 : decode cX4_lastMinuteAlike 10 = .ok (.invokevirtual 269, 3) := by decide +kernel
theorem dX4_lastMinuteAlike_13 : decode cX4_lastMinuteAlike 13 = .ok (.ifCond .eq 5, 3) := by decide +kernel
theorem dX4_lastMinuteAlike_16 : decode cX4_lastMinuteAlike 16 = .ok (.iload_n 1, 1) := by decide +kernel
theorem dX4_lastMinuteAlike_17 : decode cX4_lastMinuteAlike 17 = .ok (.ireturn, 1) := by decide +kernel
theorem dX4_lastMinuteAlike_18 : decode cX4_lastMinuteAlike 18 = .ok (.iinc 1 (-1), 3) := by decide +kernel
theorem dX4_lastMinuteAlike_21 : decode cX4_lastMinuteAlike 21 = .ok (.goto (-17), 3) := by decide +kernel
theorem dX4_lastMinuteAlike_24 : decode cX4_lastMinuteAlike 24 = .ok (.bipush (-9), 2) := by decide +kernel
theorem dX4_lastMinuteAlike_26 : decode cX4_lastMinuteAlike 26 = .ok (.ireturn, 1) := by decide +kernel
set_option maxRecDepth 20000 in
theorem ggX4_workEnd_X1_workPart : GoodIn wsX4_workEnd wsX1_workPart := goodIn_r _ [6, 7, 28, 29, 30, 31, 32, 33, 34, 35] (by decide +kernel) (by decide +kernel)
set_option maxRecDepth 20000 in
theorem gX4_workEnd_X1_workPart : GoodIn wsX4_workEnd (wsV RX4 112 RX1 yX1_workPart wsX1_workPart) := goodIn_app (goodIn_of _ (by decide +kernel)) ggX4_workEnd_X1_workPart
set_option maxRecDepth 20000 in
theorem ggX4_workEnd_X4_toldSteps : GoodIn wsX4_workEnd wsX4_toldSteps := goodIn_r _ [12, 13, 14, 15, 16, 17, 18, 19, 20, 21, 22, 23, 24, 25, 26, 27] (by decide +kernel) (by decide +kernel)
set_option maxRecDepth 20000 in
theorem gX4_workEnd_X4_toldSteps : GoodIn wsX4_workEnd (wsV RX4 160 RX4 yX4_toldSteps wsX4_toldSteps) := goodIn_app (goodIn_of _ (by decide +kernel)) ggX4_workEnd_X4_toldSteps
theorem dX4_workEnd_0 : decode cX4_workEnd 0 = .ok (.aload_n 0, 1) := by decide +kernel
theorem dX4_workEnd_1 : decode cX4_workEnd 1 = .ok (.getfield 19, 3) := by decide +kernel
theorem dX4_workEnd_4 : decode cX4_workEnd 4 = .ok (.iload_n 1, 1) := by decide +kernel
theorem dX4_workEnd_5 : decode cX4_workEnd 5 = .ok (.iconst 1, 1) := by decide +kernel
theorem dX4_workEnd_6 : decode cX4_workEnd 6 = .ok (.invokevirtual 112, 3) := by decide +kernel
theorem dX4_workEnd_9 : decode cX4_workEnd 9 = .ok (.istore_n 3, 1) := by decide +kernel
theorem dX4_workEnd_10 : decode cX4_workEnd 10 = .ok (.aload_n 0, 1) := by decide +kernel
theorem dX4_workEnd_11 : decode cX4_workEnd 11 = .ok (.getfield 19, 3) := by decide +kernel
theorem dX4_workEnd_14 : decode cX4_workEnd 14 = .ok (.iload_n 1, 1) := by decide +kernel
theorem dX4_workEnd_15 : decode cX4_workEnd 15 = .ok (.iconst 0, 1) := by decide +kernel
theorem dX4_workEnd_16 : decode cX4_workEnd 16 = .ok (.invokevirtual 112, 3) := by decide +kernel
theorem dX4_workEnd_19 : decode cX4_workEnd 19 = .ok (.iconst 1, 1) := by decide +kernel
theorem dX4_workEnd_20 : decode cX4_workEnd 20 = .ok (.if_icmp .ne 21, 3) := by decide +kernel
theorem dX4_workEnd_23 : decode cX4_workEnd 23 = .ok (.iload_n 2, 1) := by decide +kernel
theorem dX4_workEnd_24 : decode cX4_workEnd 24 = .ok (.iload_n 3, 1) := by decide +kernel
theorem dX4_workEnd_25 : decode cX4_workEnd 25 = .ok (.iadd, 1) := by decide +kernel
theorem dX4_workEnd_26 : decode cX4_workEnd 26 = .ok (.sipush 240, 3) := by decide +kernel
theorem dX4_workEnd_29 : decode cX4_workEnd 29 = .ok (.if_icmp .gt 9, 3) := by decide +kernel
theorem dX4_workEnd_32 : decode cX4_workEnd 32 = .ok (.iload_n 2, 1) := by decide +kernel
theorem dX4_workEnd_33 : decode cX4_workEnd 33 = .ok (.iload_n 3, 1) := by decide +kernel
theorem dX4_workEnd_34 : decode cX4_workEnd 34 = .ok (.iadd, 1) := by decide +kernel
theorem dX4_workEnd_35 : decode cX4_workEnd 35 = .ok (.goto 5, 3) := by decide +kernel
theorem dX4_workEnd_38 : decode cX4_workEnd 38 = .ok (.bipush (-9), 2) := by decide +kernel
theorem dX4_workEnd_40 : decode cX4_workEnd 40 = .ok (.ireturn, 1) := by decide +kernel
theorem dX4_workEnd_41 : decode cX4_workEnd 41 = .ok (.aload_n 0, 1) := by decide +kernel
theorem dX4_workEnd_42 : decode cX4_workEnd 42 = .ok (.iload_n 2, 1) := by decide +kernel
theorem dX4_workEnd_43 : decode cX4_workEnd 43 = .ok (.invokevirtual 160, 3) := by decide +kernel
theorem dX4_workEnd_46 : decode cX4_workEnd 46 = .ok (.iload_n 3, 1) := by decide +kernel
theorem dX4_workEnd_47 : decode cX4_workEnd 47 = .ok (.iadd, 1) := by decide +kernel
theorem dX4_workEnd_48 : decode cX4_workEnd 48 = .ok (.istore 4, 2) := by decide +kernel
theorem dX4_workEnd_50 : decode cX4_workEnd 50 = .ok (.iload_n 2, 1) := by decide +kernel
theorem dX4_workEnd_51 : decode cX4_workEnd 51 = .ok (.istore 5, 2) := by decide +kernel
theorem dX4_workEnd_53 : decode cX4_workEnd 53 = .ok (.iload 5, 2) := by decide +kernel
theorem dX4_workEnd_55 : decode cX4_workEnd 55 = .ok (.sipush 240, 3) := by decide +kernel
theorem dX4_workEnd_58 : decode cX4_workEnd 58 = .ok (.if_icmp .gt 23, 3) := by decide +kernel
theorem dX4_workEnd_61 : decode cX4_workEnd 61 = .ok (.aload_n 0, 1) := by decide +kernel
theorem dX4_workEnd_62 : decode cX4_workEnd 62 = .ok (.iload 5, 2) := by decide +kernel
theorem dX4_workEnd_64 : decode cX4_workEnd 64 = .ok (.invokevirtual 160, 3) := by decide +kernel
theorem dX4_workEnd_67 : decode cX4_workEnd 67 = .ok (.iload 4, 2) := by decide +kernel
theorem dX4_workEnd_69 : decode cX4_workEnd 69 = .ok (.if_icmp .lt 6, 3) := by decide +kernel
theorem dX4_workEnd_72 : decode cX4_workEnd 72 = .ok (.iload 5, 2) := by decide +kernel
theorem dX4_workEnd_74 : decode cX4_workEnd 74 = .ok (.ireturn, 1) := by decide +kernel
theorem dX4_workEnd_75 : decode cX4_workEnd 75 = .ok (.iinc 5 1, 3) := by decide +kernel
theorem dX4_workEnd_78 : decode cX4_workEnd 78 = .ok (.goto (-25), 3) := by decide +kernel
theorem dX4_workEnd_81 : decode cX4_workEnd 81 = .ok (.bipush (-9), 2) := by decide +kernel
theorem dX4_workEnd_83 : decode cX4_workEnd 83 = .ok (.ireturn, 1) := by decide +kernel
theorem dX4_endOfSet_0 : decode cX4_endOfSet 0 = .ok (.iload_n 1, 1) := by decide +kernel
theorem dX4_endOfSet_1 : decode cX4_endOfSet 1 = .ok (.ifCond .lt 21, 3) := by decide +kernel
theorem dX4_endOfSet_4 : decode cX4_endOfSet 4 = .ok (.iload_n 1, 1) := by decide +kernel
theorem dX4_endOfSet_5 : decode cX4_endOfSet 5 = .ok (.aload_n 0, 1) := by decide +kernel
theorem dX4_endOfSet_6 : decode cX4_endOfSet 6 = .ok (.getfield 53, 3) := by decide +kernel
theorem dX4_endOfSet_9 : decode cX4_endOfSet 9 = .ok (.arraylength, 1) := by decide +kernel
theorem dX4_endOfSet_10 : decode cX4_endOfSet 10 = .ok (.if_icmp .ge 12, 3) := by decide +kernel
theorem dX4_endOfSet_13 : decode cX4_endOfSet 13 = .ok (.aload_n 0, 1) := by decide +kernel
theorem dX4_endOfSet_14 : decode cX4_endOfSet 14 = .ok (.getfield 53, 3) := by decide +kernel
theorem dX4_endOfSet_17 : decode cX4_endOfSet 17 = .ok (.iload_n 1, 1) := by decide +kernel
theorem dX4_endOfSet_18 : decode cX4_endOfSet 18 = .ok (.iaload, 1) := by decide +kernel
theorem dX4_endOfSet_19 : decode cX4_endOfSet 19 = .ok (.goto 5, 3) := by decide +kernel
theorem dX4_endOfSet_22 : decode cX4_endOfSet 22 = .ok (.bipush (-9), 2) := by decide +kernel
theorem dX4_endOfSet_24 : decode cX4_endOfSet 24 = .ok (.ireturn, 1) := by decide +kernel
set_option maxRecDepth 20000 in
theorem ggX4_findSetEnds_X4_earliestEnd : GoodIn wsX4_findSetEnds wsX4_earliestEnd := goodIn_r _ [11, 1, 12, 13, 14, 10, 15, 2, 16, 17, 18, 19, 20, 21, 22, 23, 24, 25, 26, 27, 28, 29, 30, 31, 32, 33, 34, 35, 36, 37, 38, 39, 40, 41, 42, 43, 44, 45, 46, 47, 48, 49, 50, 51, 52] (by decide +kernel) (by decide +kernel)
set_option maxRecDepth 20000 in
theorem gX4_findSetEnds_X4_earliestEnd : GoodIn wsX4_findSetEnds (wsV RX4 275 RX4 yX4_earliestEnd wsX4_earliestEnd) := goodIn_app (goodIn_of _ (by decide +kernel)) ggX4_findSetEnds_X4_earliestEnd
theorem dX4_findSetEnds_0 : decode cX4_findSetEnds 0 = .ok (.iconst 1, 1) := by decide +kernel
theorem dX4_findSetEnds_1 : decode cX4_findSetEnds 1 = .ok (.aload_n 0, 1) := by decide +kernel
theorem dX4_findSetEnds_2 : decode cX4_findSetEnds 2 = .ok (.getfield 19, 3) := by decide +kernel
theorem dX4_findSetEnds_5 : decode cX4_findSetEnds 5 = .ok (.getfield 259, 3) := by decide +kernel
theorem dX4_findSetEnds_8 : decode cX4_findSetEnds 8 = .ok (.ishl, 1) := by decide +kernel
theorem dX4_findSetEnds_9 : decode cX4_findSetEnds 9 = .ok (.aload_n 0, 1) := by decide +kernel
theorem dX4_findSetEnds_10 : decode cX4_findSetEnds 10 = .ok (.getfield 53, 3) := by decide +kernel
theorem dX4_findSetEnds_13 : decode cX4_findSetEnds 13 = .ok (.arraylength, 1) := by decide +kernel
theorem dX4_findSetEnds_14 : decode cX4_findSetEnds 14 = .ok (.invokestatic 272, 3) := by decide +kernel
theorem dX4_findSetEnds_17 : decode cX4_findSetEnds 17 = .ok (.istore_n 1, 1) := by decide +kernel
theorem dX4_findSetEnds_18 : decode cX4_findSetEnds 18 = .ok (.iconst 0, 1) := by decide +kernel
theorem dX4_findSetEnds_19 : decode cX4_findSetEnds 19 = .ok (.istore_n 2, 1) := by decide +kernel
theorem dX4_findSetEnds_20 : decode cX4_findSetEnds 20 = .ok (.iload_n 2, 1) := by decide +kernel
theorem dX4_findSetEnds_21 : decode cX4_findSetEnds 21 = .ok (.iload_n 1, 1) := by decide +kernel
theorem dX4_findSetEnds_22 : decode cX4_findSetEnds 22 = .ok (.if_icmp .ge 28, 3) := by decide +kernel
theorem dX4_findSetEnds_25 : decode cX4_findSetEnds 25 = .ok (.aload_n 0, 1) := by decide +kernel
theorem dX4_findSetEnds_26 : decode cX4_findSetEnds 26 = .ok (.getfield 53, 3) := by decide +kernel
theorem dX4_findSetEnds_29 : decode cX4_findSetEnds 29 = .ok (.iload_n 2, 1) := by decide +kernel
theorem dX4_findSetEnds_30 : decode cX4_findSetEnds 30 = .ok (.iload_n 2, 1) := by decide +kernel
theorem dX4_findSetEnds_31 : decode cX4_findSetEnds 31 = .ok (.ifCond .ne 7, 3) := by decide +kernel
theorem dX4_findSetEnds_34 : decode cX4_findSetEnds 34 = .ok (.iconst 0, 1) := by decide +kernel
theorem dX4_findSetEnds_35 : decode cX4_findSetEnds 35 = .ok (.goto 8, 3) := by decide +kernel
theorem dX4_findSetEnds_38 : decode cX4_findSetEnds 38 = .ok (.aload_n 0, 1) := by decide +kernel
theorem dX4_findSetEnds_39 : decode cX4_findSetEnds 39 = .ok (.iload_n 2, 1) := by decide +kernel
theorem dX4_findSetEnds_40 : decode cX4_findSetEnds 40 = .ok (.invokevirtual 275, 3) := by decide +kernel
theorem dX4_findSetEnds_43 : decode cX4_findSetEnds 43 = .ok (.iastore, 1) := by decide +kernel
theorem dX4_findSetEnds_44 : decode cX4_findSetEnds 44 = .ok (.iinc 2 1, 3) := by decide +kernel
theorem dX4_findSetEnds_47 : decode cX4_findSetEnds 47 = .ok (.goto (-27), 3) := by decide +kernel
theorem dX4_findSetEnds_50 : decode cX4_findSetEnds 50 = .ok (.return_, 1) := by decide +kernel
set_option maxRecDepth 20000 in
theorem ggX4_earliestEnd_X4_endOfSet : GoodIn wsX4_earliestEnd wsX4_endOfSet := goodIn_r _ [6, 7, 23, 24, 25, 26, 27, 28, 29, 30, 31, 32, 33, 34, 35, 36] (by decide +kernel) (by decide +kernel)
set_option maxRecDepth 20000 in
theorem gX4_earliestEnd_X4_endOfSet : GoodIn wsX4_earliestEnd (wsV RX4 192 RX4 yX4_endOfSet wsX4_endOfSet) := goodIn_app (goodIn_of _ (by decide +kernel)) ggX4_earliestEnd_X4_endOfSet
set_option maxRecDepth 20000 in
theorem ggX4_earliestEnd_X4_workEnd : GoodIn wsX4_earliestEnd wsX4_workEnd := goodIn_r _ [11, 1, 12, 13, 14, 15, 16, 17, 18, 19, 20, 5, 21, 22, 23, 24, 25, 26, 27, 28, 29, 30, 31, 32, 33, 34, 35, 36, 37, 38, 39, 40, 41, 42, 43, 44] (by decide +kernel) (by decide +kernel)
set_option maxRecDepth 20000 in
theorem gX4_earliestEnd_X4_workEnd : GoodIn wsX4_earliestEnd (wsV RX4 180 RX4 yX4_workEnd wsX4_workEnd) := goodIn_app (goodIn_of _ (by decide +kernel)) ggX4_earliestEnd_X4_workEnd
theorem dX4_earliestEnd_0 : decode cX4_earliestEnd 0 = .ok (.bipush (-9), 2) := by decide +kernel
theorem dX4_earliestEnd_2 : decode cX4_earliestEnd 2 = .ok (.istore_n 2, 1) := by decide +kernel
theorem dX4_earliestEnd_3 : decode cX4_earliestEnd 3 = .ok (.iconst 0, 1) := by decide +kernel
theorem dX4_earliestEnd_4 : decode cX4_earliestEnd 4 = .ok (.istore_n 3, 1) := by decide +kernel
theorem dX4_earliestEnd_5 : decode cX4_earliestEnd 5 = .ok (.iload_n 3, 1) := by decide +kernel
theorem dX4_earliestEnd_6 : decode cX4_earliestEnd 6 = .ok (.aload_n 0, 1) := by decide +kernel
theorem dX4_earliestEnd_7 : decode cX4_earliestEnd 7 = .ok (.getfield 19, 3) := by decide +kernel
theorem dX4_earliestEnd_10 : decode cX4_earliestEnd 10 = .ok (.getfield 259, 3) := by decide +kernel
theorem dX4_earliestEnd_13 : decode cX4_earliestEnd 13 = .ok (.if_icmp .ge 79, 3) := by decide +kernel
theorem dX4_earliestEnd_16 : decode cX4_earliestEnd 16 = .ok (.iload_n 1, 1) := by decide +kernel
theorem dX4_earliestEnd_17 : decode cX4_earliestEnd 17 = .ok (.iload_n 3, 1) := by decide +kernel
theorem dX4_earliestEnd_18 : decode cX4_earliestEnd 18 = .ok (.ishr, 1) := by decide +kernel
theorem dX4_earliestEnd_19 : decode cX4_earliestEnd 19 = .ok (.iconst 1, 1) := by decide +kernel
theorem dX4_earliestEnd_20 : decode cX4_earliestEnd 20 = .ok (.iand, 1) := by decide +kernel
theorem dX4_earliestEnd_21 : decode cX4_earliestEnd 21 = .ok (.iconst 1, 1) := by decide +kernel
theorem dX4_earliestEnd_22 : decode cX4_earliestEnd 22 = .ok (.if_icmp .ne 17, 3) := by decide +kernel
theorem dX4_earliestEnd_25 : decode cX4_earliestEnd 25 = .ok (.aload_n 0, 1) := by decide +kernel
theorem dX4_earliestEnd_26 : decode cX4_earliestEnd 26 = .ok (.iload_n 1, 1) := by decide +kernel
theorem dX4_earliestEnd_27 : decode cX4_earliestEnd 27 = .ok (.iconst 1, 1) := by decide +kernel
theorem dX4_earliestEnd_28 : decode cX4_earliestEnd 28 = .ok (.iload_n 3, 1) := by decide +kernel
theorem dX4_earliestEnd_29 : decode cX4_earliestEnd 29 = .ok (.ishl, 1) := by decide +kernel
theorem dX4_earliestEnd_30 : decode cX4_earliestEnd 30 = .ok (.iconst (-1), 1) := by decide +kernel
theorem dX4_earliestEnd_31 : decode cX4_earliestEnd 31 = .ok (.ixor, 1) := by decide +kernel
theorem dX4_earliestEnd_32 : decode cX4_earliestEnd 32 = .ok (.iand, 1) := by decide +kernel
theorem dX4_earliestEnd_33 : decode cX4_earliestEnd 33 = .ok (.invokevirtual 192, 3) := by decide +kernel
theorem dX4_earliestEnd_36 : decode cX4_earliestEnd 36 = .ok (.goto 5, 3) := by decide +kernel
theorem dX4_earliestEnd_39 : decode cX4_earliestEnd 39 = .ok (.bipush (-9), 2) := by decide +kernel
theorem dX4_earliestEnd_41 : decode cX4_earliestEnd 41 = .ok (.istore 4, 2) := by decide +kernel
theorem dX4_earliestEnd_43 : decode cX4_earliestEnd 43 = .ok (.iload 4, 2) := by decide +kernel
theorem dX4_earliestEnd_45 : decode cX4_earliestEnd 45 = .ok (.bipush (-9), 2) := by decide +kernel
theorem dX4_earliestEnd_47 : decode cX4_earliestEnd 47 = .ok (.if_icmp .ne 8, 3) := by decide +kernel
theorem dX4_earliestEnd_50 : decode cX4_earliestEnd 50 = .ok (.bipush (-9), 2) := by decide +kernel
theorem dX4_earliestEnd_52 : decode cX4_earliestEnd 52 = .ok (.goto 10, 3) := by decide +kernel
theorem dX4_earliestEnd_55 : decode cX4_earliestEnd 55 = .ok (.aload_n 0, 1) := by decide +kernel
theorem dX4_earliestEnd_56 : decode cX4_earliestEnd 56 = .ok (.iload_n 3, 1) := by decide +kernel
theorem dX4_earliestEnd_57 : decode cX4_earliestEnd 57 = .ok (.iload 4, 2) := by decide +kernel
theorem dX4_earliestEnd_59 : decode cX4_earliestEnd 59 = .ok (.invokevirtual 180, 3) := by decide +kernel
theorem dX4_earliestEnd_62 : decode cX4_earliestEnd 62 = .ok (.istore 5, 2) := by decide +kernel
theorem dX4_earliestEnd_64 : decode cX4_earliestEnd 64 = .ok (.iload 5, 2) := by decide +kernel
theorem dX4_earliestEnd_66 : decode cX4_earliestEnd 66 = .ok (.bipush (-9), 2) := by decide +kernel
theorem dX4_earliestEnd_68 : decode cX4_earliestEnd 68 = .ok (.if_icmp .eq 18, 3) := by decide +kernel
theorem dX4_earliestEnd_71 : decode cX4_earliestEnd 71 = .ok (.iload_n 2, 1) := by decide +kernel
theorem dX4_earliestEnd_72 : decode cX4_earliestEnd 72 = .ok (.bipush (-9), 2) := by decide +kernel
theorem dX4_earliestEnd_74 : decode cX4_earliestEnd 74 = .ok (.if_icmp .eq 9, 3) := by decide +kernel
theorem dX4_earliestEnd_77 : decode cX4_earliestEnd 77 = .ok (.iload 5, 2) := by decide +kernel
theorem dX4_earliestEnd_79 : decode cX4_earliestEnd 79 = .ok (.iload_n 2, 1) := by decide +kernel
theorem dX4_earliestEnd_80 : decode cX4_earliestEnd 80 = .ok (.if_icmp .ge 6, 3) := by decide +kernel
theorem dX4_earliestEnd_83 : decode cX4_earliestEnd 83 = .ok (.iload 5, 2) := by decide +kernel
theorem dX4_earliestEnd_85 : decode cX4_earliestEnd 85 = .ok (.istore_n 2, 1) := by decide +kernel
theorem dX4_earliestEnd_86 : decode cX4_earliestEnd 86 = .ok (.iinc 3 1, 3) := by decide +kernel
theorem dX4_earliestEnd_89 : decode cX4_earliestEnd 89 = .ok (.goto (-84), 3) := by decide +kernel
theorem dX4_earliestEnd_92 : decode cX4_earliestEnd 92 = .ok (.iload_n 2, 1) := by decide +kernel
theorem dX4_earliestEnd_93 : decode cX4_earliestEnd 93 = .ok (.ireturn, 1) := by decide +kernel
set_option maxRecDepth 20000 in
theorem ggX4_worthOf_X1_workPart : GoodIn wsX4_worthOf wsX1_workPart := goodIn_r _ [6, 7, 22, 23, 24, 25, 26, 27, 28, 29] (by decide +kernel) (by decide +kernel)
set_option maxRecDepth 20000 in
theorem gX4_worthOf_X1_workPart : GoodIn wsX4_worthOf (wsV RX4 112 RX1 yX1_workPart wsX1_workPart) := goodIn_app (goodIn_of _ (by decide +kernel)) ggX4_worthOf_X1_workPart
theorem dX4_worthOf_0 : decode cX4_worthOf 0 = .ok (.iconst 0, 1) := by decide +kernel
theorem dX4_worthOf_1 : decode cX4_worthOf 1 = .ok (.istore_n 2, 1) := by decide +kernel
theorem dX4_worthOf_2 : decode cX4_worthOf 2 = .ok (.iconst 0, 1) := by decide +kernel
theorem dX4_worthOf_3 : decode cX4_worthOf 3 = .ok (.istore_n 3, 1) := by decide +kernel
theorem dX4_worthOf_4 : decode cX4_worthOf 4 = .ok (.iload_n 3, 1) := by decide +kernel
theorem dX4_worthOf_5 : decode cX4_worthOf 5 = .ok (.aload_n 0, 1) := by decide +kernel
theorem dX4_worthOf_6 : decode cX4_worthOf 6 = .ok (.getfield 19, 3) := by decide +kernel
theorem dX4_worthOf_9 : decode cX4_worthOf 9 = .ok (.getfield 259, 3) := by decide +kernel
theorem dX4_worthOf_12 : decode cX4_worthOf 12 = .ok (.if_icmp .ge 30, 3) := by decide +kernel
theorem dX4_worthOf_15 : decode cX4_worthOf 15 = .ok (.iload_n 1, 1) := by decide +kernel
theorem dX4_worthOf_16 : decode cX4_worthOf 16 = .ok (.iload_n 3, 1) := by decide +kernel
theorem dX4_worthOf_17 : decode cX4_worthOf 17 = .ok (.ishr, 1) := by decide +kernel
theorem dX4_worthOf_18 : decode cX4_worthOf 18 = .ok (.iconst 1, 1) := by decide +kernel
theorem dX4_worthOf_19 : decode cX4_worthOf 19 = .ok (.iand, 1) := by decide +kernel
theorem dX4_worthOf_20 : decode cX4_worthOf 20 = .ok (.iconst 1, 1) := by decide +kernel
theorem dX4_worthOf_21 : decode cX4_worthOf 21 = .ok (.if_icmp .ne 15, 3) := by decide +kernel
theorem dX4_worthOf_24 : decode cX4_worthOf 24 = .ok (.iload_n 2, 1) := by decide +kernel
theorem dX4_worthOf_25 : decode cX4_worthOf 25 = .ok (.aload_n 0, 1) := by decide +kernel
theorem dX4_worthOf_26 : decode cX4_worthOf 26 = .ok (.getfield 19, 3) := by decide +kernel
theorem dX4_worthOf_29 : decode cX4_worthOf 29 = .ok (.iload_n 3, 1) := by decide +kernel
theorem dX4_worthOf_30 : decode cX4_worthOf 30 = .ok (.iconst 2, 1) := by decide +kernel
theorem dX4_worthOf_31 : decode cX4_worthOf 31 = .ok (.invokevirtual 112, 3) := by decide +kernel
theorem dX4_worthOf_34 : decode cX4_worthOf 34 = .ok (.iadd, 1) := by decide +kernel
theorem dX4_worthOf_35 : decode cX4_worthOf 35 = .ok (.istore_n 2, 1) := by decide +kernel
theorem dX4_worthOf_36 : decode cX4_worthOf 36 = .ok (.iinc 3 1, 3) := by decide +kernel
theorem dX4_worthOf_39 : decode cX4_worthOf 39 = .ok (.goto (-35), 3) := by decide +kernel
theorem dX4_worthOf_42 : decode cX4_worthOf 42 = .ok (.iload_n 2, 1) := by decide +kernel
theorem dX4_worthOf_43 : decode cX4_worthOf 43 = .ok (.ireturn, 1) := by decide +kernel
set_option maxRecDepth 20000 in
theorem ggX4_bestSet_X4_endOfSet : GoodIn wsX4_bestSet wsX4_endOfSet := goodIn_r _ [6, 7, 18, 19, 20, 21, 22, 23, 24, 25, 26, 27, 28, 29, 30, 31] (by decide +kernel) (by decide +kernel)
set_option maxRecDepth 20000 in
theorem gX4_bestSet_X4_endOfSet : GoodIn wsX4_bestSet (wsV RX4 192 RX4 yX4_endOfSet wsX4_endOfSet) := goodIn_app (goodIn_of _ (by decide +kernel)) ggX4_bestSet_X4_endOfSet
set_option maxRecDepth 20000 in
theorem ggX4_bestSet_X4_worthOf : GoodIn wsX4_bestSet wsX4_worthOf := goodIn_r _ [11, 1, 12, 13, 14, 15, 16, 17, 18, 19, 20, 21, 22, 23, 24, 25, 26, 27, 28, 29, 30, 31, 32, 33, 34, 35, 36, 37, 38, 39] (by decide +kernel) (by decide +kernel)
set_option maxRecDepth 20000 in
theorem gX4_bestSet_X4_worthOf : GoodIn wsX4_bestSet (wsV RX4 189 RX4 yX4_worthOf wsX4_worthOf) := goodIn_app (goodIn_of _ (by decide +kernel)) ggX4_bestSet_X4_worthOf
theorem dX4_bestSet_0 : decode cX4_bestSet 0 = .ok (.iconst 0, 1) := by decide +kernel
theorem dX4_bestSet_1 : decode cX4_bestSet 1 = .ok (.istore_n 1, 1) := by decide +kernel
theorem dX4_bestSet_2 : decode cX4_bestSet 2 = .ok (.iconst 1, 1) := by decide +kernel
theorem dX4_bestSet_3 : decode cX4_bestSet 3 = .ok (.istore_n 2, 1) := by decide +kernel
theorem dX4_bestSet_4 : decode cX4_bestSet 4 = .ok (.iload_n 2, 1) := by decide +kernel
theorem dX4_bestSet_5 : decode cX4_bestSet 5 = .ok (.iconst 1, 1) := by decide +kernel
theorem dX4_bestSet_6 : decode cX4_bestSet 6 = .ok (.aload_n 0, 1) := by decide +kernel
theorem dX4_bestSet_7 : decode cX4_bestSet 7 = .ok (.getfield 19, 3) := by decide +kernel
theorem dX4_bestSet_10 : decode cX4_bestSet 10 = .ok (.getfield 259, 3) := by decide +kernel
theorem dX4_bestSet_13 : decode cX4_bestSet 13 = .ok (.ishl, 1) := by decide +kernel
theorem dX4_bestSet_14 : decode cX4_bestSet 14 = .ok (.if_icmp .ge 34, 3) := by decide +kernel
theorem dX4_bestSet_17 : decode cX4_bestSet 17 = .ok (.aload_n 0, 1) := by decide +kernel
theorem dX4_bestSet_18 : decode cX4_bestSet 18 = .ok (.iload_n 2, 1) := by decide +kernel
theorem dX4_bestSet_19 : decode cX4_bestSet 19 = .ok (.invokevirtual 192, 3) := by decide +kernel
theorem dX4_bestSet_22 : decode cX4_bestSet 22 = .ok (.bipush (-9), 2) := by decide +kernel
theorem dX4_bestSet_24 : decode cX4_bestSet 24 = .ok (.if_icmp .eq 18, 3) := by decide +kernel
theorem dX4_bestSet_27 : decode cX4_bestSet 27 = .ok (.aload_n 0, 1) := by decide +kernel
theorem dX4_bestSet_28 : decode cX4_bestSet 28 = .ok (.iload_n 2, 1) := by decide +kernel
theorem dX4_bestSet_29 : decode cX4_bestSet 29 = .ok (.invokevirtual 189, 3) := by decide +kernel
theorem dX4_bestSet_32 : decode cX4_bestSet 32 = .ok (.aload_n 0, 1) := by decide +kernel
theorem dX4_bestSet_33 : decode cX4_bestSet 33 = .ok (.iload_n 1, 1) := by decide +kernel
theorem dX4_bestSet_34 : decode cX4_bestSet 34 = .ok (.invokevirtual 189, 3) := by decide +kernel
theorem dX4_bestSet_37 : decode cX4_bestSet 37 = .ok (.if_icmp .le 5, 3) := by decide +kernel
theorem dX4_bestSet_40 : decode cX4_bestSet 40 = .ok (.iload_n 2, 1) := by decide +kernel
theorem dX4_bestSet_41 : decode cX4_bestSet 41 = .ok (.istore_n 1, 1) := by decide +kernel
theorem dX4_bestSet_42 : decode cX4_bestSet 42 = .ok (.iinc 2 1, 3) := by decide +kernel
theorem dX4_bestSet_45 : decode cX4_bestSet 45 = .ok (.goto (-41), 3) := by decide +kernel
theorem dX4_bestSet_48 : decode cX4_bestSet 48 = .ok (.iload_n 1, 1) := by decide +kernel
theorem dX4_bestSet_49 : decode cX4_bestSet 49 = .ok (.ireturn, 1) := by decide +kernel
set_option maxRecDepth 20000 in
theorem ggX4_hoursPay_X1_hourOf : GoodIn wsX4_hoursPay wsX1_hourOf := goodIn_r _ [6, 7, 22, 23, 24, 25, 26, 27, 28, 29] (by decide +kernel) (by decide +kernel)
set_option maxRecDepth 20000 in
theorem gX4_hoursPay_X1_hourOf : GoodIn wsX4_hoursPay (wsV RX4 169 RX1 yX1_hourOf wsX1_hourOf) := goodIn_app (goodIn_of _ (by decide +kernel)) ggX4_hoursPay_X1_hourOf
theorem dX4_hoursPay_0 : decode cX4_hoursPay 0 = .ok (.aload_n 0, 1) := by decide +kernel
theorem dX4_hoursPay_1 : decode cX4_hoursPay 1 = .ok (.getfield 19, 3) := by decide +kernel
theorem dX4_hoursPay_4 : decode cX4_hoursPay 4 = .ok (.iload_n 1, 1) := by decide +kernel
theorem dX4_hoursPay_5 : decode cX4_hoursPay 5 = .ok (.invokevirtual 169, 3) := by decide +kernel
theorem dX4_hoursPay_8 : decode cX4_hoursPay 8 = .ok (.iload_n 2, 1) := by decide +kernel
theorem dX4_hoursPay_9 : decode cX4_hoursPay 9 = .ok (.imul, 1) := by decide +kernel
theorem dX4_hoursPay_10 : decode cX4_hoursPay 10 = .ok (.ireturn, 1) := by decide +kernel
set_option maxRecDepth 20000 in
theorem ggX4_isRest_X4_hoursPay : GoodIn wsX4_isRest wsX4_hoursPay := goodIn_r _ [5, 6, 7, 8, 9, 10, 11, 12, 13, 14, 15, 16, 17, 18, 19, 20, 21, 22, 23, 24, 25, 26, 27, 28, 29, 30, 31, 32, 33, 34] (by decide +kernel) (by decide +kernel)
set_option maxRecDepth 20000 in
theorem gX4_isRest_X4_hoursPay : GoodIn wsX4_isRest (wsV RX4 278 RX4 yX4_hoursPay wsX4_hoursPay) := goodIn_app (goodIn_of _ (by decide +kernel)) ggX4_isRest_X4_hoursPay
theorem dX4_isRest_0 : decode cX4_isRest 0 = .ok (.aload_n 0, 1) := by decide +kernel
theorem dX4_isRest_1 : decode cX4_isRest 1 = .ok (.iload_n 3, 1) := by decide +kernel
theorem dX4_isRest_2 : decode cX4_isRest 2 = .ok (.iload_n 1, 1) := by decide +kernel
theorem dX4_isRest_3 : decode cX4_isRest 3 = .ok (.iload 4, 2) := by decide +kernel
theorem dX4_isRest_5 : decode cX4_isRest 5 = .ok (.imul, 1) := by decide +kernel
theorem dX4_isRest_6 : decode cX4_isRest 6 = .ok (.iadd, 1) := by decide +kernel
theorem dX4_isRest_7 : decode cX4_isRest 7 = .ok (.iload 5, 2) := by decide +kernel
theorem dX4_isRest_9 : decode cX4_isRest 9 = .ok (.invokevirtual 278, 3) := by decide +kernel
theorem dX4_isRest_12 : decode cX4_isRest 12 = .ok (.istore 7, 2) := by decide +kernel
theorem dX4_isRest_14 : decode cX4_isRest 14 = .ok (.iload_n 1, 1) := by decide +kernel
theorem dX4_isRest_15 : decode cX4_isRest 15 = .ok (.ifCond .eq 25, 3) := by decide +kernel
theorem dX4_isRest_18 : decode cX4_isRest 18 = .ok (.aload_n 0, 1) := by decide +kernel
theorem dX4_isRest_19 : decode cX4_isRest 19 = .ok (.iload_n 3, 1) := by decide +kernel
theorem dX4_isRest_20 : decode cX4_isRest 20 = .ok (.iload_n 1, 1) := by decide +kernel
theorem dX4_isRest_21 : decode cX4_isRest 21 = .ok (.iconst 1, 1) := by decide +kernel
theorem dX4_isRest_22 : decode cX4_isRest 22 = .ok (.isub, 1) := by decide +kernel
theorem dX4_isRest_23 : decode cX4_isRest 23 = .ok (.iload 4, 2) := by decide +kernel
theorem dX4_isRest_25 : decode cX4_isRest 25 = .ok (.imul, 1) := by decide +kernel
theorem dX4_isRest_26 : decode cX4_isRest 26 = .ok (.iadd, 1) := by decide +kernel
theorem dX4_isRest_27 : decode cX4_isRest 27 = .ok (.iload 5, 2) := by decide +kernel
theorem dX4_isRest_29 : decode cX4_isRest 29 = .ok (.invokevirtual 278, 3) := by decide +kernel
theorem dX4_isRest_32 : decode cX4_isRest 32 = .ok (.iload 7, 2) := by decide +kernel
theorem dX4_isRest_34 : decode cX4_isRest 34 = .ok (.iload 6, 2) := by decide +kernel
theorem dX4_isRest_36 : decode cX4_isRest 36 = .ok (.isub, 1) := by decide +kernel
theorem dX4_isRest_37 : decode cX4_isRest 37 = .ok (.if_icmp .gt 7, 3) := by decide +kernel
theorem dX4_isRest_40 : decode cX4_isRest 40 = .ok (.iconst 1, 1) := by decide +kernel
theorem dX4_isRest_41 : decode cX4_isRest 41 = .ok (.goto 4, 3) := by decide +kernel
theorem dX4_isRest_44 : decode cX4_isRest 44 = .ok (.iconst 0, 1) := by decide +kernel
theorem dX4_isRest_45 : decode cX4_isRest 45 = .ok (.istore 8, 2) := by decide +kernel
theorem dX4_isRest_47 : decode cX4_isRest 47 = .ok (.iload_n 1, 1) := by decide +kernel
theorem dX4_isRest_48 : decode cX4_isRest 48 = .ok (.iload_n 2, 1) := by decide +kernel
theorem dX4_isRest_49 : decode cX4_isRest 49 = .ok (.if_icmp .eq 25, 3) := by decide +kernel
theorem dX4_isRest_52 : decode cX4_isRest 52 = .ok (.aload_n 0, 1) := by decide +kernel
theorem dX4_isRest_53 : decode cX4_isRest 53 = .ok (.iload_n 3, 1) := by decide +kernel
theorem dX4_isRest_54 : decode cX4_isRest 54 = .ok (.iload_n 1, 1) := by decide +kernel
theorem dX4_isRest_55 : decode cX4_isRest 55 = .ok (.iconst 1, 1) := by decide +kernel
theorem dX4_isRest_56 : decode cX4_isRest 56 = .ok (.iadd, 1) := by decide +kernel
theorem dX4_isRest_57 : decode cX4_isRest 57 = .ok (.iload 4, 2) := by decide +kernel
theorem dX4_isRest_59 : decode cX4_isRest 59 = .ok (.imul, 1) := by decide +kernel
theorem dX4_isRest_60 : decode cX4_isRest 60 = .ok (.iadd, 1) := by decide +kernel
theorem dX4_isRest_61 : decode cX4_isRest 61 = .ok (.iload 5, 2) := by decide +kernel
theorem dX4_isRest_63 : decode cX4_isRest 63 = .ok (.invokevirtual 278, 3) := by decide +kernel
theorem dX4_isRest_66 : decode cX4_isRest 66 = .ok (.iload 6, 2) := by decide +kernel
theorem dX4_isRest_68 : decode cX4_isRest 68 = .ok (.isub, 1) := by decide +kernel
theorem dX4_isRest_69 : decode cX4_isRest 69 = .ok (.iload 7, 2) := by decide +kernel
theorem dX4_isRest_71 : decode cX4_isRest 71 = .ok (.if_icmp .gt 7, 3) := by decide +kernel
theorem dX4_isRest_74 : decode cX4_isRest 74 = .ok (.iconst 1, 1) := by decide +kernel
theorem dX4_isRest_75 : decode cX4_isRest 75 = .ok (.goto 4, 3) := by decide +kernel
theorem dX4_isRest_78 : decode cX4_isRest 78 = .ok (.iconst 0, 1) := by decide +kernel
theorem dX4_isRest_79 : decode cX4_isRest 79 = .ok (.istore 9, 2) := by decide +kernel
theorem dX4_isRest_81 : decode cX4_isRest 81 = .ok (.iload 8, 2) := by decide +kernel
theorem dX4_isRest_83 : decode cX4_isRest 83 = .ok (.ifCond .eq 12, 3) := by decide +kernel
theorem dX4_isRest_86 : decode cX4_isRest 86 = .ok (.iload 9, 2) := by decide +kernel
theorem dX4_isRest_88 : decode cX4_isRest 88 = .ok (.ifCond .eq 7, 3) := by decide +kernel
theorem dX4_isRest_91 : decode cX4_isRest 91 = .ok (.iconst 1, 1) := by decide +kernel
theorem dX4_isRest_92 : decode cX4_isRest 92 = .ok (.goto 4, 3) := by decide +kernel
theorem dX4_isRest_95 : decode cX4_isRest 95 = .ok (.iconst 0, 1) := by decide +kernel
theorem dX4_isRest_96 : decode cX4_isRest 96 = .ok (.ireturn, 1) := by decide +kernel
set_option maxRecDepth 20000 in
theorem ggX4_bestForAll_X4_hoursPay : GoodIn wsX4_bestForAll wsX4_hoursPay := goodIn_r _ [5, 6, 7, 8, 9, 10, 11, 12, 13, 14, 15, 16, 17, 18, 19, 20, 21, 22, 23, 24, 25, 26, 27, 28, 29, 30, 31, 32, 33, 34] (by decide +kernel) (by decide +kernel)
set_option maxRecDepth 20000 in
theorem gX4_bestForAll_X4_hoursPay : GoodIn wsX4_bestForAll (wsV RX4 278 RX4 yX4_hoursPay wsX4_hoursPay) := goodIn_app (goodIn_of _ (by decide +kernel)) ggX4_bestForAll_X4_hoursPay
theorem dX4_bestForAll_0 : decode cX4_bestForAll 0 = .ok (.iconst 0, 1) := by decide +kernel
theorem dX4_bestForAll_1 : decode cX4_bestForAll 1 = .ok (.istore 6, 2) := by decide +kernel
theorem dX4_bestForAll_3 : decode cX4_bestForAll 3 = .ok (.iload_n 1, 1) := by decide +kernel
theorem dX4_bestForAll_4 : decode cX4_bestForAll 4 = .ok (.aload_n 0, 1) := by decide +kernel
theorem dX4_bestForAll_5 : decode cX4_bestForAll 5 = .ok (.iload_n 2, 1) := by decide +kernel
theorem dX4_bestForAll_6 : decode cX4_bestForAll 6 = .ok (.iload 4, 2) := by decide +kernel
theorem dX4_bestForAll_8 : decode cX4_bestForAll 8 = .ok (.invokevirtual 278, 3) := by decide +kernel
theorem dX4_bestForAll_11 : decode cX4_bestForAll 11 = .ok (.imul, 1) := by decide +kernel
theorem dX4_bestForAll_12 : decode cX4_bestForAll 12 = .ok (.istore 7, 2) := by decide +kernel
theorem dX4_bestForAll_14 : decode cX4_bestForAll 14 = .ok (.iconst 1, 1) := by decide +kernel
theorem dX4_bestForAll_15 : decode cX4_bestForAll 15 = .ok (.istore 8, 2) := by decide +kernel
theorem dX4_bestForAll_17 : decode cX4_bestForAll 17 = .ok (.iload 8, 2) := by decide +kernel
theorem dX4_bestForAll_19 : decode cX4_bestForAll 19 = .ok (.iload_n 1, 1) := by decide +kernel
theorem dX4_bestForAll_20 : decode cX4_bestForAll 20 = .ok (.if_icmp .gt 46, 3) := by decide +kernel
theorem dX4_bestForAll_23 : decode cX4_bestForAll 23 = .ok (.iload_n 1, 1) := by decide +kernel
theorem dX4_bestForAll_24 : decode cX4_bestForAll 24 = .ok (.aload_n 0, 1) := by decide +kernel
theorem dX4_bestForAll_25 : decode cX4_bestForAll 25 = .ok (.iload_n 2, 1) := by decide +kernel
theorem dX4_bestForAll_26 : decode cX4_bestForAll 26 = .ok (.iload 8, 2) := by decide +kernel
theorem dX4_bestForAll_28 : decode cX4_bestForAll 28 = .ok (.iload_n 3, 1) := by decide +kernel
theorem dX4_bestForAll_29 : decode cX4_bestForAll 29 = .ok (.imul, 1) := by decide +kernel
theorem dX4_bestForAll_30 : decode cX4_bestForAll 30 = .ok (.iadd, 1) := by decide +kernel
theorem dX4_bestForAll_31 : decode cX4_bestForAll 31 = .ok (.iload 4, 2) := by decide +kernel
theorem dX4_bestForAll_33 : decode cX4_bestForAll 33 = .ok (.invokevirtual 278, 3) := by decide +kernel
theorem dX4_bestForAll_36 : decode cX4_bestForAll 36 = .ok (.imul, 1) := by decide +kernel
theorem dX4_bestForAll_37 : decode cX4_bestForAll 37 = .ok (.iload 8, 2) := by decide +kernel
theorem dX4_bestForAll_39 : decode cX4_bestForAll 39 = .ok (.iload 5, 2) := by decide +kernel
theorem dX4_bestForAll_41 : decode cX4_bestForAll 41 = .ok (.imul, 1) := by decide +kernel
theorem dX4_bestForAll_42 : decode cX4_bestForAll 42 = .ok (.isub, 1) := by decide +kernel
theorem dX4_bestForAll_43 : decode cX4_bestForAll 43 = .ok (.istore 9, 2) := by decide +kernel
theorem dX4_bestForAll_45 : decode cX4_bestForAll 45 = .ok (.iload 9, 2) := by decide +kernel
theorem dX4_bestForAll_47 : decode cX4_bestForAll 47 = .ok (.iload 7, 2) := by decide +kernel
theorem dX4_bestForAll_49 : decode cX4_bestForAll 49 = .ok (.if_icmp .le 11, 3) := by decide +kernel
theorem dX4_bestForAll_52 : decode cX4_bestForAll 52 = .ok (.iload 9, 2) := by decide +kernel
theorem dX4_bestForAll_54 : decode cX4_bestForAll 54 = .ok (.istore 7, 2) := by decide +kernel
theorem dX4_bestForAll_56 : decode cX4_bestForAll 56 = .ok (.iload 8, 2) := by decide +kernel
theorem dX4_bestForAll_58 : decode cX4_bestForAll 58 = .ok (.istore 6, 2) := by decide +kernel
theorem dX4_bestForAll_60 : decode cX4_bestForAll 60 = .ok (.iinc 8 1, 3) := by decide +kernel
theorem dX4_bestForAll_63 : decode cX4_bestForAll 63 = .ok (.goto (-46), 3) := by decide +kernel
theorem dX4_bestForAll_66 : decode cX4_bestForAll 66 = .ok (.iload 6, 2) := by decide +kernel
theorem dX4_bestForAll_68 : decode cX4_bestForAll 68 = .ok (.ireturn, 1) := by decide +kernel
set_option maxRecDepth 20000 in
theorem ggX4_personMark_X0_takenBy : GoodIn wsX4_personMark wsX0_takenBy := goodIn_r _ [7, 8, 23, 24, 25, 26, 27, 28] (by decide +kernel) (by decide +kernel)
set_option maxRecDepth 20000 in
theorem gX4_personMark_X0_takenBy : GoodIn wsX4_personMark (wsV RX4 147 RX0 yX0_takenBy wsX0_takenBy) := goodIn_app (goodIn_of _ (by decide +kernel)) ggX4_personMark_X0_takenBy
theorem dX4_personMark_0 : decode cX4_personMark 0 = .ok (.aload_n 0, 1) := by decide +kernel
theorem dX4_personMark_1 : decode cX4_personMark 1 = .ok (.dup, 1) := by decide +kernel
theorem dX4_personMark_2 : decode cX4_personMark 2 = .ok (.getfield 262, 3) := by decide +kernel
theorem dX4_personMark_5 : decode cX4_personMark 5 = .ok (.lconst 1, 1) := by decide +kernel
theorem dX4_personMark_6 : decode cX4_personMark 6 = .ok (.ladd, 1) := by decide +kernel
theorem dX4_personMark_7 : decode cX4_personMark 7 = .ok (.putfield 262, 3) := by decide +kernel
theorem dX4_personMark_10 : decode cX4_personMark 10 = .ok (.aload_n 0, 1) := by decide +kernel
theorem dX4_personMark_11 : decode cX4_personMark 11 = .ok (.getfield 29, 3) := by decide +kernel
theorem dX4_personMark_14 : decode cX4_personMark 14 = .ok (.iload_n 1, 1) := by decide +kernel
theorem dX4_personMark_15 : decode cX4_personMark 15 = .ok (.invokevirtual 147, 3) := by decide +kernel
theorem dX4_personMark_18 : decode cX4_personMark 18 = .ok (.ireturn, 1) := by decide +kernel
set_option maxRecDepth 20000 in
theorem ggX4_walkerMark_X4_personMark : GoodIn wsX4_walkerMark wsX4_personMark := goodIn_r _ [8, 1, 3, 9, 10, 11, 12, 13, 14, 20, 21, 22, 23, 24, 25, 26, 27, 28, 29, 30, 31, 32, 33, 34, 35, 36, 37, 38, 39] (by decide +kernel) (by decide +kernel)
set_option maxRecDepth 20000 in
theorem gX4_walkerMark_X4_personMark : GoodIn wsX4_walkerMark (wsV RX4 235 RX4 yX4_personMark wsX4_personMark) := goodIn_app (goodIn_of _ (by decide +kernel)) ggX4_walkerMark_X4_personMark
set_option maxRecDepth 20000 in
theorem ggX4_walkerMark_X0_leftFor : GoodIn wsX4_walkerMark wsX0_leftFor := goodIn_r _ [18, 19, 34, 35, 36, 37, 38, 39] (by decide +kernel) (by decide +kernel)
set_option maxRecDepth 20000 in
theorem gX4_walkerMark_X0_leftFor : GoodIn wsX4_walkerMark (wsV RX4 144 RX0 yX0_leftFor wsX0_leftFor) := goodIn_app (goodIn_of _ (by decide +kernel)) ggX4_walkerMark_X0_leftFor
theorem dX4_walkerMark_0 : decode cX4_walkerMark 0 = .ok (.aload_n 0, 1) := by decide +kernel
theorem dX4_walkerMark_1 : decode cX4_walkerMark 1 = .ok (.dup, 1) := by decide +kernel
theorem dX4_walkerMark_2 : decode cX4_walkerMark 2 = .ok (.getfield 262, 3) := by decide +kernel
theorem dX4_walkerMark_5 : decode cX4_walkerMark 5 = .ok (.ldc2_w 281, 3) := by decide +kernel
theorem dX4_walkerMark_8 : decode cX4_walkerMark 8 = .ok (.ladd, 1) := by decide +kernel
theorem dX4_walkerMark_9 : decode cX4_walkerMark 9 = .ok (.putfield 262, 3) := by decide +kernel
theorem dX4_walkerMark_12 : decode cX4_walkerMark 12 = .ok (.aload_n 0, 1) := by decide +kernel
theorem dX4_walkerMark_13 : decode cX4_walkerMark 13 = .ok (.iload_n 1, 1) := by decide +kernel
theorem dX4_walkerMark_14 : decode cX4_walkerMark 14 = .ok (.invokevirtual 235, 3) := by decide +kernel
theorem dX4_walkerMark_17 : decode cX4_walkerMark 17 = .ok (.aload_n 0, 1) := by decide +kernel
theorem dX4_walkerMark_18 : decode cX4_walkerMark 18 = .ok (.getfield 29, 3) := by decide +kernel
theorem dX4_walkerMark_21 : decode cX4_walkerMark 21 = .ok (.iload_n 1, 1) := by decide +kernel
theorem dX4_walkerMark_22 : decode cX4_walkerMark 22 = .ok (.invokevirtual 144, 3) := by decide +kernel
theorem dX4_walkerMark_25 : decode cX4_walkerMark 25 = .ok (.iadd, 1) := by decide +kernel
theorem dX4_walkerMark_26 : decode cX4_walkerMark 26 = .ok (.ireturn, 1) := by decide +kernel
set_option maxRecDepth 20000 in
theorem ggX4_sitterMark_X4_personMark : GoodIn wsX4_sitterMark wsX4_personMark := goodIn_r _ [7, 1, 8, 9, 10, 11, 12, 13, 14, 26, 27, 28, 29, 30, 31, 32, 33, 34, 35, 36, 37, 38, 39, 40, 41, 42, 43, 44, 45] (by decide +kernel) (by decide +kernel)
set_option maxRecDepth 20000 in
theorem gX4_sitterMark_X4_personMark : GoodIn wsX4_sitterMark (wsV RX4 235 RX4 yX4_personMark wsX4_personMark) := goodIn_app (goodIn_of _ (by decide +kernel)) ggX4_sitterMark_X4_personMark
set_option maxRecDepth 20000 in
theorem ggX4_sitterMark_X4_hourNow : GoodIn wsX4_sitterMark wsX4_hourNow := goodIn_r _ [18, 19, 8, 20, 21, 22, 23, 24, 25, 26, 27, 28, 29, 30, 31, 32, 33, 34, 35, 36, 37, 38, 39, 40, 41, 42, 43, 44, 45, 46, 47, 48, 49, 50, 51, 52, 53] (by decide +kernel) (by decide +kernel)
set_option maxRecDepth 20000 in
theorem gX4_sitterMark_X4_hourNow : GoodIn wsX4_sitterMark (wsV RX4 131 RX4 yX4_hourNow wsX4_hourNow) := goodIn_app (goodIn_of _ (by decide +kernel)) ggX4_sitterMark_X4_hourNow
theorem dX4_sitterMark_0 : decode cX4_sitterMark 0 = .ok (.aload_n 0, 1) := by decide +kernel
theorem dX4_sitterMark_1 : decode cX4_sitterMark 1 = .ok (.dup, 1) := by decide +kernel
theorem dX4_sitterMark_2 : decode cX4_sitterMark 2 = .ok (.getfield 262, 3) := by decide +kernel
theorem dX4_sitterMark_5 : decode cX4_sitterMark 5 = .ok (.ldc2_w 283, 3) := by decide +kernel
theorem dX4_sitterMark_8 : decode cX4_sitterMark 8 = .ok (.ladd, 1) := by decide +kernel
theorem dX4_sitterMark_9 : decode cX4_sitterMark 9 = .ok (.putfield 262, 3) := by decide +kernel
theorem dX4_sitterMark_12 : decode cX4_sitterMark 12 = .ok (.aload_n 0, 1) := by decide +kernel
theorem dX4_sitterMark_13 : decode cX4_sitterMark 13 = .ok (.iload_n 1, 1) := by decide +kernel
theorem dX4_sitterMark_14 : decode cX4_sitterMark 14 = .ok (.invokevirtual 235, 3) := by decide +kernel
theorem dX4_sitterMark_17 : decode cX4_sitterMark 17 = .ok (.aload_n 0, 1) := by decide +kernel
theorem dX4_sitterMark_18 : decode cX4_sitterMark 18 = .ok (.invokevirtual 131, 3) := by decide +kernel
theorem dX4_sitterMark_21 : decode cX4_sitterMark 21 = .ok (.isub, 1) := by decide +kernel
theorem dX4_sitterMark_22 : decode cX4_sitterMark 22 = .ok (.ireturn, 1) := by decide +kernel
set_option maxRecDepth 20000 in
theorem ggX4_soldierMark_X4_walkerMark : GoodIn wsX4_soldierMark wsX4_walkerMark := goodIn_r _ [7, 1, 8, 9, 10, 11, 12, 6, 13, 14, 15, 16, 17, 18, 19, 20, 21, 22, 23, 24, 25, 26, 27, 28, 29, 30, 31, 32, 33, 34, 35, 36, 37, 38, 39, 40, 41, 42, 43, 44] (by decide +kernel) (by decide +kernel)
set_option maxRecDepth 20000 in
theorem gX4_soldierMark_X4_walkerMark : GoodIn wsX4_soldierMark (wsV RX4 238 RX4 yX4_walkerMark wsX4_walkerMark) := goodIn_app (goodIn_of _ (by decide +kernel)) ggX4_soldierMark_X4_walkerMark
theorem dX4_soldierMark_0 : decode cX4_soldierMark 0 = .ok (.aload_n 0, 1) := by decide +kernel
theorem dX4_soldierMark_1 : decode cX4_soldierMark 1 = .ok (.dup, 1) := by decide +kernel
theorem dX4_soldierMark_2 : decode cX4_soldierMark 2 = .ok (.getfield 262, 3) := by decide +kernel
theorem dX4_soldierMark_5 : decode cX4_soldierMark 5 = .ok (.ldc2_w 285, 3) := by decide +kernel
theorem dX4_soldierMark_8 : decode cX4_soldierMark 8 = .ok (.ladd, 1) := by decide +kernel
theorem dX4_soldierMark_9 : decode cX4_soldierMark 9 = .ok (.putfield 262, 3) := by decide +kernel
theorem dX4_soldierMark_12 : decode cX4_soldierMark 12 = .ok (.aload_n 0, 1) := by decide +kernel
theorem dX4_soldierMark_13 : decode cX4_soldierMark 13 = .ok (.iload_n 1, 1) := by decide +kernel
theorem dX4_soldierMark_14 : decode cX4_soldierMark 14 = .ok (.invokevirtual 238, 3) := by decide +kernel
theorem dX4_soldierMark_17 : decode cX4_soldierMark 17 = .ok (.iconst 2, 1) := by decide +kernel
theorem dX4_soldierMark_18 : decode cX4_soldierMark 18 = .ok (.imul, 1) := by decide +kernel
theorem dX4_soldierMark_19 : decode cX4_soldierMark 19 = .ok (.ireturn, 1) := by decide +kernel
set_option maxRecDepth 20000 in
theorem ggX4_strikerMark_X4_sitterMark : GoodIn wsX4_strikerMark wsX4_sitterMark := goodIn_r _ [8, 1, 9, 10, 11, 12, 7, 13, 3, 14, 15, 16, 17, 18, 19, 20, 21, 22, 23, 24, 25, 26, 27, 28, 29, 30, 31, 32, 33, 34, 35, 36, 37, 38, 39, 40, 41, 42, 43, 44, 45, 46, 47, 48, 49, 50, 51, 52, 53, 54, 55, 56, 57, 58] (by decide +kernel) (by decide +kernel)
set_option maxRecDepth 20000 in
theorem gX4_strikerMark_X4_sitterMark : GoodIn wsX4_strikerMark (wsV RX4 241 RX4 yX4_sitterMark wsX4_sitterMark) := goodIn_app (goodIn_of _ (by decide +kernel)) ggX4_strikerMark_X4_sitterMark
theorem dX4_strikerMark_0 : decode cX4_strikerMark 0 = .ok (.aload_n 0, 1) := by decide +kernel
theorem dX4_strikerMark_1 : decode cX4_strikerMark 1 = .ok (.dup, 1) := by decide +kernel
theorem dX4_strikerMark_2 : decode cX4_strikerMark 2 = .ok (.getfield 262, 3) := by decide +kernel
theorem dX4_strikerMark_5 : decode cX4_strikerMark 5 = .ok (.ldc2_w 287, 3) := by decide +kernel
theorem dX4_strikerMark_8 : decode cX4_strikerMark 8 = .ok (.ladd, 1) := by decide +kernel
theorem dX4_strikerMark_9 : decode cX4_strikerMark 9 = .ok (.putfield 262, 3) := by decide +kernel
theorem dX4_strikerMark_12 : decode cX4_strikerMark 12 = .ok (.aload_n 0, 1) := by decide +kernel
theorem dX4_strikerMark_13 : decode cX4_strikerMark 13 = .ok (.iload_n 1, 1) := by decide +kernel
theorem dX4_strikerMark_14 : decode cX4_strikerMark 14 = .ok (.invokevirtual 241, 3) := by decide +kernel
theorem dX4_strikerMark_17 : decode cX4_strikerMark 17 = .ok (.aload_n 0, 1) := by decide +kernel
theorem dX4_strikerMark_18 : decode cX4_strikerMark 18 = .ok (.getfield 29, 3) := by decide +kernel
theorem dX4_strikerMark_21 : decode cX4_strikerMark 21 = .ok (.getfield 115, 3) := by decide +kernel
theorem dX4_strikerMark_24 : decode cX4_strikerMark 24 = .ok (.iadd, 1) := by decide +kernel
theorem dX4_strikerMark_25 : decode cX4_strikerMark 25 = .ok (.ireturn, 1) := by decide +kernel
set_option maxRecDepth 20000 in
theorem ggX4_guestMark_X4_personMark : GoodIn wsX4_guestMark wsX4_personMark := goodIn_r _ [8, 1, 3, 9, 10, 11, 12, 13, 14, 15, 16, 17, 18, 19, 20, 21, 22, 23, 24, 25, 26, 27, 28, 29, 30, 31, 32, 33, 34] (by decide +kernel) (by decide +kernel)
set_option maxRecDepth 20000 in
theorem gX4_guestMark_X4_personMark : GoodIn wsX4_guestMark (wsV RX4 235 RX4 yX4_personMark wsX4_personMark) := goodIn_app (goodIn_of _ (by decide +kernel)) ggX4_guestMark_X4_personMark
theorem dX4_guestMark_0 : decode cX4_guestMark 0 = .ok (.aload_n 0, 1) := by decide +kernel
theorem dX4_guestMark_1 : decode cX4_guestMark 1 = .ok (.dup, 1) := by decide +kernel
theorem dX4_guestMark_2 : decode cX4_guestMark 2 = .ok (.getfield 262, 3) := by decide +kernel
theorem dX4_guestMark_5 : decode cX4_guestMark 5 = .ok (.ldc2_w 289, 3) := by decide +kernel
theorem dX4_guestMark_8 : decode cX4_guestMark 8 = .ok (.ladd, 1) := by decide +kernel
theorem dX4_guestMark_9 : decode cX4_guestMark 9 = .ok (.putfield 262, 3) := by decide +kernel
theorem dX4_guestMark_12 : decode cX4_guestMark 12 = .ok (.aload_n 0, 1) := by decide +kernel
theorem dX4_guestMark_13 : decode cX4_guestMark 13 = .ok (.iload_n 1, 1) := by decide +kernel
theorem dX4_guestMark_14 : decode cX4_guestMark 14 = .ok (.invokevirtual 235, 3) := by decide +kernel
theorem dX4_guestMark_17 : decode cX4_guestMark 17 = .ok (.aload_n 0, 1) := by decide +kernel
theorem dX4_guestMark_18 : decode cX4_guestMark 18 = .ok (.getfield 29, 3) := by decide +kernel
theorem dX4_guestMark_21 : decode cX4_guestMark 21 = .ok (.getfield 115, 3) := by decide +kernel
theorem dX4_guestMark_24 : decode cX4_guestMark 24 = .ok (.bipush 60, 2) := by decide +kernel
theorem dX4_guestMark_26 : decode cX4_guestMark 26 = .ok (.idiv, 1) := by decide +kernel
theorem dX4_guestMark_27 : decode cX4_guestMark 27 = .ok (.iadd, 1) := by decide +kernel
theorem dX4_guestMark_28 : decode cX4_guestMark 28 = .ok (.ireturn, 1) := by decide +kernel
theorem dX5_init_0 : decode cX5_init 0 = .ok (.aload_n 0, 1) := by decide +kernel
theorem dX5_init_1 : decode cX5_init 1 = .ok (.invokespecial 1, 3) := by decide +kernel
theorem dX5_init_4 : decode cX5_init 4 = .ok (.aload_n 0, 1) := by decide +kernel
theorem dX5_init_5 : decode cX5_init 5 = .ok (.sipush 400, 3) := by decide +kernel
theorem dX5_init_8 : decode cX5_init 8 = .ok (.newarray .byte, 2) := by decide +kernel
theorem dX5_init_10 : decode cX5_init 10 = .ok (.putfield 7, 3) := by decide +kernel
theorem dX5_init_13 : decode cX5_init 13 = .ok (.aload_n 0, 1) := by decide +kernel
theorem dX5_init_14 : decode cX5_init 14 = .ok (.iconst 2, 1) := by decide +kernel
theorem dX5_init_15 : decode cX5_init 15 = .ok (.newarray .int, 2) := by decide +kernel
theorem dX5_init_17 : decode cX5_init 17 = .ok (.putfield 13, 3) := by decide +kernel
theorem dX5_init_20 : decode cX5_init 20 = .ok (.aload_n 0, 1) := by decide +kernel
theorem dX5_init_21 : decode cX5_init 21 = .ok (.iconst 2, 1) := by decide +kernel
theorem dX5_init_22 : decode cX5_init 22 = .ok (.newarray .int, 2) := by decide +kernel
theorem dX5_init_24 : decode cX5_init 24 = .ok (.putfield 17, 3) := by decide +kernel
theorem dX5_init_27 : decode cX5_init 27 = .ok (.aload_n 0, 1) := by decide +kernel
theorem dX5_init_28 : decode cX5_init 28 = .ok (.bipush 12, 2) := by decide +kernel
theorem dX5_init_30 : decode cX5_init 30 = .ok (.newarray .int, 2) := by decide +kernel
theorem dX5_init_32 : decode cX5_init 32 = .ok (.putfield 20, 3) := by decide +kernel
theorem dX5_init_35 : decode cX5_init 35 = .ok (.aload_n 0, 1) := by decide +kernel
theorem dX5_init_36 : decode cX5_init 36 = .ok (.sipush 192, 3) := by decide +kernel
theorem dX5_init_39 : decode cX5_init 39 = .ok (.newarray .int, 2) := by decide +kernel
theorem dX5_init_41 : decode cX5_init 41 = .ok (.putfield 23, 3) := by decide +kernel
theorem dX5_init_44 : decode cX5_init 44 = .ok (.aload_n 0, 1) := by decide +kernel
theorem dX5_init_45 : decode cX5_init 45 = .ok (.iconst 2, 1) := by decide +kernel
theorem dX5_init_46 : decode cX5_init 46 = .ok (.newarray .int, 2) := by decide +kernel
theorem dX5_init_48 : decode cX5_init 48 = .ok (.putfield 26, 3) := by decide +kernel
theorem dX5_init_51 : decode cX5_init 51 = .ok (.aload_n 0, 1) := by decide +kernel
theorem dX5_init_52 : decode cX5_init 52 = .ok (.bipush 24, 2) := by decide +kernel
theorem dX5_init_54 : decode cX5_init 54 = .ok (.newarray .int, 2) := by decide +kernel
theorem dX5_init_56 : decode cX5_init 56 = .ok (.putfield 29, 3) := by decide +kernel
theorem dX5_init_59 : decode cX5_init 59 = .ok (.aload_n 0, 1) := by decide +kernel
theorem dX5_init_60 : decode cX5_init 60 = .ok (.iconst 2, 1) := by decide +kernel
theorem dX5_init_61 : decode cX5_init 61 = .ok (.newarray .int, 2) := by decide +kernel
theorem dX5_init_63 : decode cX5_init 63 = .ok (.putfield 32, 3) := by decide +kernel
theorem dX5_init_66 : decode cX5_init 66 = .ok (.aload_n 0, 1) := by decide +kernel
theorem dX5_init_67 : decode cX5_init 67 = .ok (.bipush 36, 2) := by decide +kernel
theorem dX5_init_69 : decode cX5_init 69 = .ok (.newarray .int, 2) := by decide +kernel
theorem dX5_init_71 : decode cX5_init 71 = .ok (.putfield 35, 3) := by decide +kernel
theorem dX5_init_74 : decode cX5_init 74 = .ok (.aload_n 0, 1) := by decide +kernel
theorem dX5_init_75 : decode cX5_init 75 = .ok (.bipush 108, 2) := by decide +kernel
theorem dX5_init_77 : decode cX5_init 77 = .ok (.newarray .int, 2) := by decide +kernel
theorem dX5_init_79 : decode cX5_init 79 = .ok (.putfield 38, 3) := by decide +kernel
theorem dX5_init_82 : decode cX5_init 82 = .ok (.aload_n 0, 1) := by decide +kernel
theorem dX5_init_83 : decode cX5_init 83 = .ok (.iconst 2, 1) := by decide +kernel
theorem dX5_init_84 : decode cX5_init 84 = .ok (.newarray .boolean, 2) := by decide +kernel
theorem dX5_init_86 : decode cX5_init 86 = .ok (.putfield 41, 3) := by decide +kernel
theorem dX5_init_89 : decode cX5_init 89 = .ok (.aload_n 0, 1) := by decide +kernel
theorem dX5_init_90 : decode cX5_init 90 = .ok (.sipush 241, 3) := by decide +kernel
theorem dX5_init_93 : decode cX5_init 93 = .ok (.newarray .int, 2) := by decide +kernel
theorem dX5_init_95 : decode cX5_init 95 = .ok (.putfield 45, 3) := by decide +kernel
theorem dX5_init_98 : decode cX5_init 98 = .ok (.aload_n 0, 1) := by decide +kernel
theorem dX5_init_99 : decode cX5_init 99 = .ok (.bipush 64, 2) := by decide +kernel
theorem dX5_init_101 : decode cX5_init 101 = .ok (.newarray .int, 2) := by decide +kernel
theorem dX5_init_103 : decode cX5_init 103 = .ok (.putfield 48, 3) := by decide +kernel
theorem dX5_init_106 : decode cX5_init 106 = .ok (.aload_n 0, 1) := by decide +kernel
theorem dX5_init_107 : decode cX5_init 107 = .ok (.bipush 20, 2) := by decide +kernel
theorem dX5_init_109 : decode cX5_init 109 = .ok (.newarray .int, 2) := by decide +kernel
theorem dX5_init_111 : decode cX5_init 111 = .ok (.putfield 51, 3) := by decide +kernel
theorem dX5_init_114 : decode cX5_init 114 = .ok (.aload_n 0, 1) := by decide +kernel
theorem dX5_init_115 : decode cX5_init 115 = .ok (.getfield 13, 3) := by decide +kernel
theorem dX5_init_118 : decode cX5_init 118 = .ok (.iconst 0, 1) := by decide +kernel
theorem dX5_init_119 : decode cX5_init 119 = .ok (.bipush 90, 2) := by decide +kernel
theorem dX5_init_121 : decode cX5_init 121 = .ok (.iastore, 1) := by decide +kernel
theorem dX5_init_122 : decode cX5_init 122 = .ok (.return_, 1) := by decide +kernel
theorem dX5_in_0 : decode cX5_in 0 = .ok (.iload_n 0, 1) := by decide +kernel
theorem dX5_in_1 : decode cX5_in 1 = .ok (.iload_n 1, 1) := by decide +kernel
theorem dX5_in_2 : decode cX5_in 2 = .ok (.if_icmp .lt 12, 3) := by decide +kernel
theorem dX5_in_5 : decode cX5_in 5 = .ok (.iload_n 0, 1) := by decide +kernel
theorem dX5_in_6 : decode cX5_in 6 = .ok (.iload_n 2, 1) := by decide +kernel
theorem dX5_in_7 : decode cX5_in 7 = .ok (.if_icmp .gt 7, 3) := by decide +kernel
theorem dX5_in_10 : decode cX5_in 10 = .ok (.iconst 1, 1) := by decide +kernel
theorem dX5_in_11 : decode cX5_in 11 = .ok (.goto 4, 3) := by decide +kernel
theorem dX5_in_14 : decode cX5_in 14 = .ok (.iconst 0, 1) := by decide +kernel
theorem dX5_in_15 : decode cX5_in 15 = .ok (.ireturn, 1) := by decide +kernel
set_option maxRecDepth 20000 in
theorem ggX5_type_X5_in : GoodIn wsX5_type wsX5_in := goodIn_r _ [7] (by decide +kernel) (by decide +kernel)
set_option maxRecDepth 20000 in
theorem gX5_type_X5_in : GoodIn wsX5_type (va_wsS RX5 54 yX5_in wsX5_in) := goodIn_app (goodIn_of _ (by decide +kernel)) ggX5_type_X5_in
theorem dX5_type_0 : decode cX5_type 0 = .ok (.iload_n 3, 1) := by decide +kernel
theorem dX5_type_1 : decode cX5_type 1 = .ok (.iconst 1, 1) := by decide +kernel
theorem dX5_type_2 : decode cX5_type 2 = .ok (.bipush 8, 2) := by decide +kernel
theorem dX5_type_4 : decode cX5_type 4 = .ok (.invokestatic 54, 3) := by decide +kernel
theorem dX5_type_7 : decode cX5_type 7 = .ok (.ifCond .ne 5, 3) := by decide +kernel
theorem dX5_type_10 : decode cX5_type 10 = .ok (.iconst (-1), 1) := by decide +kernel
theorem dX5_type_11 : decode cX5_type 11 = .ok (.ireturn, 1) := by decide +kernel
theorem dX5_type_12 : decode cX5_type 12 = .ok (.aload_n 0, 1) := by decide +kernel
theorem dX5_type_13 : decode cX5_type 13 = .ok (.getfield 58, 3) := by decide +kernel
theorem dX5_type_16 : decode cX5_type 16 = .ok (.iload_n 3, 1) := by decide +kernel
theorem dX5_type_17 : decode cX5_type 17 = .ok (.iadd, 1) := by decide +kernel
theorem dX5_type_18 : decode cX5_type 18 = .ok (.sipush 400, 3) := by decide +kernel
theorem dX5_type_21 : decode cX5_type 21 = .ok (.if_icmp .le 6, 3) := by decide +kernel
theorem dX5_type_24 : decode cX5_type 24 = .ok (.bipush (-3), 2) := by decide +kernel
theorem dX5_type_26 : decode cX5_type 26 = .ok (.ireturn, 1) := by decide +kernel
theorem dX5_type_27 : decode cX5_type 27 = .ok (.iload_n 3, 1) := by decide +kernel
theorem dX5_type_28 : decode cX5_type 28 = .ok (.iconst 1, 1) := by decide +kernel
theorem dX5_type_29 : decode cX5_type 29 = .ok (.isub, 1) := by decide +kernel
theorem dX5_type_30 : decode cX5_type 30 = .ok (.istore 4, 2) := by decide +kernel
theorem dX5_type_32 : decode cX5_type 32 = .ok (.iload 4, 2) := by decide +kernel
theorem dX5_type_34 : decode cX5_type 34 = .ok (.ifCond .lt 41, 3) := by decide +kernel
theorem dX5_type_37 : decode cX5_type 37 = .ok (.aload_n 0, 1) := by decide +kernel
theorem dX5_type_38 : decode cX5_type 38 = .ok (.getfield 7, 3) := by decide +kernel
theorem dX5_type_41 : decode cX5_type 41 = .ok (.aload_n 0, 1) := by decide +kernel
theorem dX5_type_42 : decode cX5_type 42 = .ok (.getfield 58, 3) := by decide +kernel
theorem dX5_type_45 : decode cX5_type 45 = .ok (.lload_n 1, 1) := by decide +kernel
theorem dX5_type_46 : decode cX5_type 46 = .ok (.bipush 8, 2) := by decide +kernel
theorem dX5_type_48 : decode cX5_type 48 = .ok (.iload 4, 2) := by decide +kernel
theorem dX5_type_50 : decode cX5_type 50 = .ok (.imul, 1) := by decide +kernel
theorem dX5_type_51 : decode cX5_type 51 = .ok (.lshr, 1) := by decide +kernel
theorem dX5_type_52 : decode cX5_type 52 = .ok (.ldc2_w 62, 3) := by decide +kernel
theorem dX5_type_55 : decode cX5_type 55 = .ok (.land, 1) := by decide +kernel
theorem dX5_type_56 : decode cX5_type 56 = .ok (.l2i, 1) := by decide +kernel
theorem dX5_type_57 : decode cX5_type 57 = .ok (.i2b, 1) := by decide +kernel
theorem dX5_type_58 : decode cX5_type 58 = .ok (.bastore, 1) := by decide +kernel
theorem dX5_type_59 : decode cX5_type 59 = .ok (.aload_n 0, 1) := by decide +kernel
theorem dX5_type_60 : decode cX5_type 60 = .ok (.dup, 1) := by decide +kernel
theorem dX5_type_61 : decode cX5_type 61 = .ok (.getfield 58, 3) := by decide +kernel
theorem dX5_type_64 : decode cX5_type 64 = .ok (.iconst 1, 1) := by decide +kernel
theorem dX5_type_65 : decode cX5_type 65 = .ok (.iadd, 1) := by decide +kernel
theorem dX5_type_66 : decode cX5_type 66 = .ok (.putfield 58, 3) := by decide +kernel
theorem dX5_type_69 : decode cX5_type 69 = .ok (.iinc 4 (-1), 3) := by decide +kernel
theorem dX5_type_72 : decode cX5_type 72 = .ok (.goto (-40), 3) := by decide +kernel
theorem dX5_type_75 : decode cX5_type 75 = .ok (.aload_n 0, 1) := by decide +kernel
theorem dX5_type_76 : decode cX5_type 76 = .ok (.getfield 58, 3) := by decide +kernel
theorem dX5_type_79 : decode cX5_type 79 = .ok (.ireturn, 1) := by decide +kernel
theorem dX5_clear_0 : decode cX5_clear 0 = .ok (.aload_n 0, 1) := by decide +kernel
theorem dX5_clear_1 : decode cX5_clear 1 = .ok (.getfield 58, 3) := by decide +kernel
theorem dX5_clear_4 : decode cX5_clear 4 = .ok (.istore_n 1, 1) := by decide +kernel
theorem dX5_clear_5 : decode cX5_clear 5 = .ok (.aload_n 0, 1) := by decide +kernel
theorem dX5_clear_6 : decode cX5_clear 6 = .ok (.iconst 0, 1) := by decide +kernel
theorem dX5_clear_7 : decode cX5_clear 7 = .ok (.putfield 58, 3) := by decide +kernel
theorem dX5_clear_10 : decode cX5_clear 10 = .ok (.iload_n 1, 1) := by decide +kernel
theorem dX5_clear_11 : decode cX5_clear 11 = .ok (.ireturn, 1) := by decide +kernel
theorem dX5_here_0 : decode cX5_here 0 = .ok (.aload_n 0, 1) := by decide +kernel
theorem dX5_here_1 : decode cX5_here 1 = .ok (.getfield 64, 3) := by decide +kernel
theorem dX5_here_4 : decode cX5_here 4 = .ok (.aload_n 0, 1) := by decide +kernel
theorem dX5_here_5 : decode cX5_here 5 = .ok (.getfield 58, 3) := by decide +kernel
theorem dX5_here_8 : decode cX5_here 8 = .ok (.if_icmp .ge 19, 3) := by decide +kernel
theorem dX5_here_11 : decode cX5_here 11 = .ok (.aload_n 0, 1) := by decide +kernel
theorem dX5_here_12 : decode cX5_here 12 = .ok (.getfield 7, 3) := by decide +kernel
theorem dX5_here_15 : decode cX5_here 15 = .ok (.aload_n 0, 1) := by decide +kernel
theorem dX5_here_16 : decode cX5_here 16 = .ok (.getfield 64, 3) := by decide +kernel
theorem dX5_here_19 : decode cX5_here 19 = .ok (.baload, 1) := by decide +kernel
theorem dX5_here_20 : decode cX5_here 20 = .ok (.sipush 255, 3) := by decide +kernel
theorem dX5_here_23 : decode cX5_here 23 = .ok (.iand, 1) := by decide +kernel
theorem dX5_here_24 : decode cX5_here 24 = .ok (.goto 4, 3) := by decide +kernel
theorem dX5_here_27 : decode cX5_here 27 = .ok (.iconst (-1), 1) := by decide +kernel
theorem dX5_here_28 : decode cX5_here 28 = .ok (.ireturn, 1) := by decide +kernel
theorem dX5_meaning_0 : decode cX5_meaning 0 = .ok (.iload_n 0, 1) := by decide +kernel
theorem dX5_meaning_1 : decode cX5_meaning 1 = .ok (.lookupswitch 93 #[(204, 79), (125150, 90), (453701, 81), (464141, 85), (1841546, 75), (4562587, 87), (6941627, 83), (232608281, 77)], 75) := by decide +kernel
theorem dX5_meaning_76 : decode cX5_meaning 76 = .ok (.iconst 0, 1) := by decide +kernel
theorem dX5_meaning_77 : decode cX5_meaning 77 = .ok (.ireturn, 1) := by decide +kernel
theorem dX5_meaning_78 : decode cX5_meaning 78 = .ok (.iconst 1, 1) := by decide +kernel
theorem dX5_meaning_79 : decode cX5_meaning 79 = .ok (.ireturn, 1) := by decide +kernel
theorem dX5_meaning_80 : decode cX5_meaning 80 = .ok (.iconst 2, 1) := by decide +kernel
theorem dX5_meaning_81 : decode cX5_meaning 81 = .ok (.ireturn, 1) := by decide +kernel
theorem dX5_meaning_82 : decode cX5_meaning 82 = .ok (.iconst 3, 1) := by decide +kernel
theorem dX5_meaning_83 : decode cX5_meaning 83 = .ok (.ireturn, 1) := by decide +kernel
theorem dX5_meaning_84 : decode cX5_meaning 84 = .ok (.iconst 4, 1) := by decide +kernel
theorem dX5_meaning_85 : decode cX5_meaning 85 = .ok (.ireturn, 1) := by decide +kernel
theorem dX5_meaning_86 : decode cX5_meaning 86 = .ok (.iconst 5, 1) := by decide +kernel
theorem dX5_meaning_87 : decode cX5_meaning 87 = .ok (.ireturn, 1) := by decide +kernel
theorem dX5_meaning_88 : decode cX5_meaning 88 = .ok (.bipush 6, 2) := by decide +kernel
theorem dX5_meaning_90 : decode cX5_meaning 90 = .ok (.ireturn, 1) := by decide +kernel
theorem dX5_meaning_91 : decode cX5_meaning 91 = .ok (.bipush 7, 2) := by decide +kernel
theorem dX5_meaning_93 : decode cX5_meaning 93 = .ok (.ireturn, 1) := by decide +kernel
theorem dX5_meaning_94 : decode cX5_meaning 94 = .ok (.bipush 11, 2) := by decide +kernel
theorem dX5_meaning_96 : decode cX5_meaning 96 = .ok (.ireturn, 1) := by decide +kernel
set_option maxRecDepth 20000 in
theorem ggX5_next_X5_here : GoodIn wsX5_next wsX5_here := goodIn_r _ [9, 1, 10, 11, 18, 19, 20, 21, 22, 23, 24, 25, 26, 27, 28, 29, 30, 31, 32, 33, 34, 35, 36, 37, 38, 39, 40] (by decide +kernel) (by decide +kernel)
set_option maxRecDepth 20000 in
theorem gX5_next_X5_here : GoodIn wsX5_next (wsV RX5 67 RX5 yX5_here wsX5_here) := goodIn_app (goodIn_of _ (by decide +kernel)) ggX5_next_X5_here
set_option maxRecDepth 20000 in
theorem ggX5_next_X5_in : GoodIn wsX5_next wsX5_in := goodIn_r _ [14] (by decide +kernel) (by decide +kernel)
set_option maxRecDepth 20000 in
theorem gX5_next_X5_in : GoodIn wsX5_next (va_wsS RX5 54 yX5_in wsX5_in) := goodIn_app (goodIn_of _ (by decide +kernel)) ggX5_next_X5_in
set_option maxRecDepth 20000 in
theorem ggX5_next_X5_meaning : GoodIn wsX5_next wsX5_meaning := goodIn_r _ [17] (by decide +kernel) (by decide +kernel)
set_option maxRecDepth 20000 in
theorem gX5_next_X5_meaning : GoodIn wsX5_next (va_wsS RX5 80 yX5_meaning wsX5_meaning) := goodIn_app (goodIn_of _ (by decide +kernel)) ggX5_next_X5_meaning
theorem dX5_next_0 : decode cX5_next 0 = .ok (.aload_n 0, 1) := by decide +kernel
theorem dX5_next_1 : decode cX5_next 1 = .ok (.invokevirtual 67, 3) := by decide +kernel
theorem dX5_next_4 : decode cX5_next 4 = .ok (.bipush 32, 2) := by decide +kernel
theorem dX5_next_6 : decode cX5_next 6 = .ok (.if_icmp .ne 16, 3) := by decide +kernel
theorem dX5_next_9 : decode cX5_next 9 = .ok (.aload_n 0, 1) := by decide +kernel
theorem dX5_next_10 : decode cX5_next 10 = .ok (.dup, 1) := by decide +kernel
theorem dX5_next_11 : decode cX5_next 11 = .ok (.getfield 64, 3) := by decide +kernel
theorem dX5_next_14 : decode cX5_next 14 = .ok (.iconst 1, 1) := by decide +kernel
theorem dX5_next_15 : decode cX5_next 15 = .ok (.iadd, 1) := by decide +kernel
theorem dX5_next_16 : decode cX5_next 16 = .ok (.putfield 64, 3) := by decide +kernel
theorem dX5_next_19 : decode cX5_next 19 = .ok (.goto (-19), 3) := by decide +kernel
theorem dX5_next_22 : decode cX5_next 22 = .ok (.aload_n 0, 1) := by decide +kernel
theorem dX5_next_23 : decode cX5_next 23 = .ok (.aload_n 0, 1) := by decide +kernel
theorem dX5_next_24 : decode cX5_next 24 = .ok (.getfield 64, 3) := by decide +kernel
theorem dX5_next_27 : decode cX5_next 27 = .ok (.putfield 71, 3) := by decide +kernel
theorem dX5_next_30 : decode cX5_next 30 = .ok (.aload_n 0, 1) := by decide +kernel
theorem dX5_next_31 : decode cX5_next 31 = .ok (.iconst 0, 1) := by decide +kernel
theorem dX5_next_32 : decode cX5_next 32 = .ok (.putfield 74, 3) := by decide +kernel
theorem dX5_next_35 : decode cX5_next 35 = .ok (.aload_n 0, 1) := by decide +kernel
theorem dX5_next_36 : decode cX5_next 36 = .ok (.invokevirtual 67, 3) := by decide +kernel
theorem dX5_next_39 : decode cX5_next 39 = .ok (.istore_n 1, 1) := by decide +kernel
theorem dX5_next_40 : decode cX5_next 40 = .ok (.iload_n 1, 1) := by decide +kernel
theorem dX5_next_41 : decode cX5_next 41 = .ok (.ifCond .ge 12, 3) := by decide +kernel
theorem dX5_next_44 : decode cX5_next 44 = .ok (.aload_n 0, 1) := by decide +kernel
theorem dX5_next_45 : decode cX5_next 45 = .ok (.bipush 8, 2) := by decide +kernel
theorem dX5_next_47 : decode cX5_next 47 = .ok (.putfield 77, 3) := by decide +kernel
theorem dX5_next_50 : decode cX5_next 50 = .ok (.goto 247, 3) := by decide +kernel
theorem dX5_next_53 : decode cX5_next 53 = .ok (.iload_n 1, 1) := by decide +kernel
theorem dX5_next_54 : decode cX5_next 54 = .ok (.bipush 97, 2) := by decide +kernel
theorem dX5_next_56 : decode cX5_next 56 = .ok (.bipush 122, 2) := by decide +kernel
theorem dX5_next_58 : decode cX5_next 58 = .ok (.invokestatic 54, 3) := by decide +kernel
theorem dX5_next_61 : decode cX5_next 61 = .ok (.ifCond .eq 92, 3) := by decide +kernel
theorem dX5_next_64 : decode cX5_next 64 = .ok (.iconst 0, 1) := by decide +kernel
theorem dX5_next_65 : decode cX5_next 65 = .ok (.istore_n 2, 1) := by decide +kernel
theorem dX5_next_66 : decode cX5_next 66 = .ok (.aload_n 0, 1) := by decide +kernel
theorem dX5_next_67 : decode cX5_next 67 = .ok (.invokevirtual 67, 3) := by decide +kernel
theorem dX5_next_70 : decode cX5_next 70 = .ok (.bipush 97, 2) := by decide +kernel
theorem dX5_next_72 : decode cX5_next 72 = .ok (.bipush 122, 2) := by decide +kernel
theorem dX5_next_74 : decode cX5_next 74 = .ok (.invokestatic 54, 3) := by decide +kernel
theorem dX5_next_77 : decode cX5_next 77 = .ok (.ifCond .eq 47, 3) := by decide +kernel
theorem dX5_next_80 : decode cX5_next 80 = .ok (.aload_n 0, 1) := by decide +kernel
theorem dX5_next_81 : decode cX5_next 81 = .ok (.getfield 64, 3) := by decide +kernel
theorem dX5_next_84 : decode cX5_next 84 = .ok (.aload_n 0, 1) := by decide +kernel
theorem dX5_next_85 : decode cX5_next 85 = .ok (.getfield 71, 3) := by decide +kernel
theorem dX5_next_88 : decode cX5_next 88 = .ok (.isub, 1) := by decide +kernel
theorem dX5_next_89 : decode cX5_next 89 = .ok (.bipush 6, 2) := by decide +kernel
theorem dX5_next_91 : decode cX5_next 91 = .ok (.if_icmp .ge 18, 3) := by decide +kernel
theorem dX5_next_94 : decode cX5_next 94 = .ok (.bipush 27, 2) := by decide +kernel
theorem dX5_next_96 : decode cX5_next 96 = .ok (.iload_n 2, 1) := by decide +kernel
theorem dX5_next_97 : decode cX5_next 97 = .ok (.imul, 1) := by decide +kernel
theorem dX5_next_98 : decode cX5_next 98 = .ok (.aload_n 0, 1) := by decide +kernel
theorem dX5_next_99 : decode cX5_next 99 = .ok (.invokevirtual 67, 3) := by decide +kernel
theorem dX5_next_102 : decode cX5_next 102 = .ok (.iadd, 1) := by decide +kernel
theorem dX5_next_103 : decode cX5_next 103 = .ok (.bipush 96, 2) := by decide +kernel
theorem dX5_next_105 : decode cX5_next 105 = .ok (.isub, 1) := by decide +kernel
theorem dX5_next_106 : decode cX5_next 106 = .ok (.goto 4, 3) := by decide +kernel
theorem dX5_next_109 : decode cX5_next 109 = .ok (.iconst 0, 1) := by decide +kernel
theorem dX5_next_110 : decode cX5_next 110 = .ok (.istore_n 2, 1) := by decide +kernel
theorem dX5_next_111 : decode cX5_next 111 = .ok (.aload_n 0, 1) := by decide +kernel
theorem dX5_next_112 : decode cX5_next 112 = .ok (.dup, 1) := by decide +kernel
theorem dX5_next_113 : decode cX5_next 113 = .ok (.getfield 64, 3) := by decide +kernel
theorem dX5_next_116 : decode cX5_next 116 = .ok (.iconst 1, 1) := by decide +kernel
theorem dX5_next_117 : decode cX5_next 117 = .ok (.iadd, 1) := by decide +kernel
theorem dX5_next_118 : decode cX5_next 118 = .ok (.putfield 64, 3) := by decide +kernel
theorem dX5_next_121 : decode cX5_next 121 = .ok (.goto (-55), 3) := by decide +kernel
theorem dX5_next_124 : decode cX5_next 124 = .ok (.aload_n 0, 1) := by decide +kernel
theorem dX5_next_125 : decode cX5_next 125 = .ok (.aload_n 0, 1) := by decide +kernel
theorem dX5_next_126 : decode cX5_next 126 = .ok (.getfield 64, 3) := by decide +kernel
theorem dX5_next_129 : decode cX5_next 129 = .ok (.aload_n 0, 1) := by decide +kernel
theorem dX5_next_130 : decode cX5_next 130 = .ok (.getfield 71, 3) := by decide +kernel
theorem dX5_next_133 : decode cX5_next 133 = .ok (.isub, 1) := by decide +kernel
theorem dX5_next_134 : decode cX5_next 134 = .ok (.bipush 6, 2) := by decide +kernel
theorem dX5_next_136 : decode cX5_next 136 = .ok (.if_icmp .le 7, 3) := by decide +kernel
theorem dX5_next_139 : decode cX5_next 139 = .ok (.iconst 0, 1) := by decide +kernel
theorem dX5_next_140 : decode cX5_next 140 = .ok (.goto 4, 3) := by decide +kernel
theorem dX5_next_143 : decode cX5_next 143 = .ok (.iload_n 2, 1) := by decide +kernel
theorem dX5_next_144 : decode cX5_next 144 = .ok (.invokestatic 80, 3) := by decide +kernel
theorem dX5_next_147 : decode cX5_next 147 = .ok (.putfield 77, 3) := by decide +kernel
theorem dX5_next_150 : decode cX5_next 150 = .ok (.goto 147, 3) := by decide +kernel
theorem dX5_next_153 : decode cX5_next 153 = .ok (.iload_n 1, 1) := by decide +kernel
theorem dX5_next_154 : decode cX5_next 154 = .ok (.bipush 48, 2) := by decide +kernel
theorem dX5_next_156 : decode cX5_next 156 = .ok (.bipush 57, 2) := by decide +kernel
theorem dX5_next_158 : decode cX5_next 158 = .ok (.invokestatic 54, 3) := by decide +kernel
theorem dX5_next_161 : decode cX5_next 161 = .ok (.ifCond .eq 109, 3) := by decide +kernel
theorem dX5_next_164 : decode cX5_next 164 = .ok (.aload_n 0, 1) := by decide +kernel
theorem dX5_next_165 : decode cX5_next 165 = .ok (.invokevirtual 67, 3) := by decide +kernel
theorem dX5_next_168 : decode cX5_next 168 = .ok (.bipush 48, 2) := by decide +kernel
theorem dX5_next_170 : decode cX5_next 170 = .ok (.bipush 57, 2) := by decide +kernel
theorem dX5_next_172 : decode cX5_next 172 = .ok (.invokestatic 54, 3) := by decide +kernel
theorem dX5_next_175 : decode cX5_next 175 = .ok (.ifCond .eq 52, 3) := by decide +kernel
theorem dX5_next_178 : decode cX5_next 178 = .ok (.aload_n 0, 1) := by decide +kernel
theorem dX5_next_179 : decode cX5_next 179 = .ok (.aload_n 0, 1) := by decide +kernel
theorem dX5_next_180 : decode cX5_next 180 = .ok (.getfield 74, 3) := by decide +kernel
theorem dX5_next_183 : decode cX5_next 183 = .ok (.sipush 999, 3) := by decide +kernel
theorem dX5_next_186 : decode cX5_next 186 = .ok (.if_icmp .le 10, 3) := by decide +kernel
theorem dX5_next_189 : decode cX5_next 189 = .ok (.aload_n 0, 1) := by decide +kernel
theorem dX5_next_190 : decode cX5_next 190 = .ok (.getfield 74, 3) := by decide +kernel
theorem dX5_next_193 : decode cX5_next 193 = .ok (.goto 18, 3) := by decide +kernel
theorem dX5_next_196 : decode cX5_next 196 = .ok (.bipush 10, 2) := by decide +kernel
theorem dX5_next_198 : decode cX5_next 198 = .ok (.aload_n 0, 1) := by decide +kernel
theorem dX5_next_199 : decode cX5_next 199 = .ok (.getfield 74, 3) := by decide +kernel
theorem dX5_next_202 : decode cX5_next 202 = .ok (.imul, 1) := by decide +kernel
theorem dX5_next_203 : decode cX5_next 203 = .ok (.aload_n 0, 1) := by decide +kernel
theorem dX5_next_204 : decode cX5_next 204 = .ok (.invokevirtual 67, 3) := by decide +kernel
theorem dX5_next_207 : decode cX5_next 207 = .ok (.iadd, 1) := by decide +kernel
theorem dX5_next_208 : decode cX5_next 208 = .ok (.bipush 48, 2) := by decide +kernel
theorem dX5_next_210 : decode cX5_next 210 = .ok (.isub, 1) := by decide +kernel
theorem dX5_next_211 : decode cX5_next 211 = .ok (.putfield 74, 3) := by decide +kernel
theorem dX5_next_214 : decode cX5_next 214 = .ok (.aload_n 0, 1) := by decide +kernel
theorem dX5_next_215 : decode cX5_next 215 = .ok (.dup, 1) := by decide +kernel
theorem dX5_next_216 : decode cX5_next 216 = .ok (.getfield 64, 3) := by decide +kernel
theorem dX5_next_219 : decode cX5_next 219 = .ok (.iconst 1, 1) := by decide +kernel
