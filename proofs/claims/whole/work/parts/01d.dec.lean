theorem dX0_init_0 : decode cX0_init 0 = .ok (.aload_n 0, 1) := by decide +kernel
theorem dX0_init_1 : decode cX0_init 1 = .ok (.invokespecial 3, 3) := by decide +kernel
theorem dX0_init_4 : decode cX0_init 4 = .ok (.aload_n 0, 1) := by decide +kernel
theorem dX0_init_5 : decode cX0_init 5 = .ok (.bipush 30, 2) := by decide +kernel
theorem dX0_init_7 : decode cX0_init 7 = .ok (.newarray .int, 2) := by decide +kernel
theorem dX0_init_9 : decode cX0_init 9 = .ok (.putfield 9, 3) := by decide +kernel
theorem dX0_init_12 : decode cX0_init 12 = .ok (.aload_n 0, 1) := by decide +kernel
theorem dX0_init_13 : decode cX0_init 13 = .ok (.bipush 24, 2) := by decide +kernel
theorem dX0_init_15 : decode cX0_init 15 = .ok (.newarray .int, 2) := by decide +kernel
theorem dX0_init_17 : decode cX0_init 17 = .ok (.putfield 15, 3) := by decide +kernel
theorem dX0_init_20 : decode cX0_init 20 = .ok (.aload_n 0, 1) := by decide +kernel
theorem dX0_init_21 : decode cX0_init 21 = .ok (.bipush 24, 2) := by decide +kernel
theorem dX0_init_23 : decode cX0_init 23 = .ok (.newarray .int, 2) := by decide +kernel
theorem dX0_init_25 : decode cX0_init 25 = .ok (.putfield 18, 3) := by decide +kernel
theorem dX0_init_28 : decode cX0_init 28 = .ok (.aload_n 0, 1) := by decide +kernel
theorem dX0_init_29 : decode cX0_init 29 = .ok (.bipush 24, 2) := by decide +kernel
theorem dX0_init_31 : decode cX0_init 31 = .ok (.newarray .int, 2) := by decide +kernel
theorem dX0_init_33 : decode cX0_init 33 = .ok (.putfield 21, 3) := by decide +kernel
theorem dX0_init_36 : decode cX0_init 36 = .ok (.aload_n 0, 1) := by decide +kernel
theorem dX0_init_37 : decode cX0_init 37 = .ok (.bipush 24, 2) := by decide +kernel
theorem dX0_init_39 : decode cX0_init 39 = .ok (.newarray .boolean, 2) := by decide +kernel
theorem dX0_init_41 : decode cX0_init 41 = .ok (.putfield 24, 3) := by decide +kernel
theorem dX0_init_44 : decode cX0_init 44 = .ok (.iconst 0, 1) := by decide +kernel
theorem dX0_init_45 : decode cX0_init 45 = .ok (.istore_n 1, 1) := by decide +kernel
theorem dX0_init_46 : decode cX0_init 46 = .ok (.iload_n 1, 1) := by decide +kernel
theorem dX0_init_47 : decode cX0_init 47 = .ok (.bipush 30, 2) := by decide +kernel
theorem dX0_init_49 : decode cX0_init 49 = .ok (.if_icmp .ge 16, 3) := by decide +kernel
theorem dX0_init_52 : decode cX0_init 52 = .ok (.aload_n 0, 1) := by decide +kernel
theorem dX0_init_53 : decode cX0_init 53 = .ok (.getfield 9, 3) := by decide +kernel
theorem dX0_init_56 : decode cX0_init 56 = .ok (.iload_n 1, 1) := by decide +kernel
theorem dX0_init_57 : decode cX0_init 57 = .ok (.iconst (-1), 1) := by decide +kernel
theorem dX0_init_58 : decode cX0_init 58 = .ok (.iastore, 1) := by decide +kernel
theorem dX0_init_59 : decode cX0_init 59 = .ok (.iinc 1 1, 3) := by decide +kernel
theorem dX0_init_62 : decode cX0_init 62 = .ok (.goto (-16), 3) := by decide +kernel
theorem dX0_init_65 : decode cX0_init 65 = .ok (.return_, 1) := by decide +kernel
theorem dX0_has_0 : decode cX0_has 0 = .ok (.iload_n 1, 1) := by decide +kernel
theorem dX0_has_1 : decode cX0_has 1 = .ok (.ifCond .lt 15, 3) := by decide +kernel
theorem dX0_has_4 : decode cX0_has 4 = .ok (.iload_n 1, 1) := by decide +kernel
theorem dX0_has_5 : decode cX0_has 5 = .ok (.aload_n 0, 1) := by decide +kernel
theorem dX0_has_6 : decode cX0_has 6 = .ok (.getfield 28, 3) := by decide +kernel
theorem dX0_has_9 : decode cX0_has 9 = .ok (.if_icmp .ge 7, 3) := by decide +kernel
theorem dX0_has_12 : decode cX0_has 12 = .ok (.iconst 1, 1) := by decide +kernel
theorem dX0_has_13 : decode cX0_has 13 = .ok (.goto 4, 3) := by decide +kernel
theorem dX0_has_16 : decode cX0_has 16 = .ok (.iconst 0, 1) := by decide +kernel
theorem dX0_has_17 : decode cX0_has 17 = .ok (.ireturn, 1) := by decide +kernel
theorem dX0_hasPlace_0 : decode cX0_hasPlace 0 = .ok (.aload_n 0, 1) := by decide +kernel
theorem dX0_hasPlace_1 : decode cX0_hasPlace 1 = .ok (.getfield 28, 3) := by decide +kernel
theorem dX0_hasPlace_4 : decode cX0_hasPlace 4 = .ok (.bipush 24, 2) := by decide +kernel
theorem dX0_hasPlace_6 : decode cX0_hasPlace 6 = .ok (.if_icmp .ge 7, 3) := by decide +kernel
theorem dX0_hasPlace_9 : decode cX0_hasPlace 9 = .ok (.iconst 1, 1) := by decide +kernel
theorem dX0_hasPlace_10 : decode cX0_hasPlace 10 = .ok (.goto 4, 3) := by decide +kernel
theorem dX0_hasPlace_13 : decode cX0_hasPlace 13 = .ok (.iconst 0, 1) := by decide +kernel
theorem dX0_hasPlace_14 : decode cX0_hasPlace 14 = .ok (.ireturn, 1) := by decide +kernel
theorem dX0_enter_0 : decode cX0_enter 0 = .ok (.aload_n 0, 1) := by decide +kernel
theorem dX0_enter_1 : decode cX0_enter 1 = .ok (.getfield 28, 3) := by decide +kernel
theorem dX0_enter_4 : decode cX0_enter 4 = .ok (.istore 5, 2) := by decide +kernel
theorem dX0_enter_6 : decode cX0_enter 6 = .ok (.aload_n 0, 1) := by decide +kernel
theorem dX0_enter_7 : decode cX0_enter 7 = .ok (.getfield 9, 3) := by decide +kernel
theorem dX0_enter_10 : decode cX0_enter 10 = .ok (.iload_n 1, 1) := by decide +kernel
theorem dX0_enter_11 : decode cX0_enter 11 = .ok (.iload 5, 2) := by decide +kernel
theorem dX0_enter_13 : decode cX0_enter 13 = .ok (.iastore, 1) := by decide +kernel
theorem dX0_enter_14 : decode cX0_enter 14 = .ok (.aload_n 0, 1) := by decide +kernel
theorem dX0_enter_15 : decode cX0_enter 15 = .ok (.getfield 15, 3) := by decide +kernel
theorem dX0_enter_18 : decode cX0_enter 18 = .ok (.iload 5, 2) := by decide +kernel
theorem dX0_enter_20 : decode cX0_enter 20 = .ok (.iload_n 2, 1) := by decide +kernel
theorem dX0_enter_21 : decode cX0_enter 21 = .ok (.iastore, 1) := by decide +kernel
theorem dX0_enter_22 : decode cX0_enter 22 = .ok (.aload_n 0, 1) := by decide +kernel
theorem dX0_enter_23 : decode cX0_enter 23 = .ok (.getfield 18, 3) := by decide +kernel
theorem dX0_enter_26 : decode cX0_enter 26 = .ok (.iload 5, 2) := by decide +kernel
theorem dX0_enter_28 : decode cX0_enter 28 = .ok (.iload_n 3, 1) := by decide +kernel
theorem dX0_enter_29 : decode cX0_enter 29 = .ok (.iastore, 1) := by decide +kernel
theorem dX0_enter_30 : decode cX0_enter 30 = .ok (.aload_n 0, 1) := by decide +kernel
theorem dX0_enter_31 : decode cX0_enter 31 = .ok (.getfield 21, 3) := by decide +kernel
theorem dX0_enter_34 : decode cX0_enter 34 = .ok (.iload 5, 2) := by decide +kernel
theorem dX0_enter_36 : decode cX0_enter 36 = .ok (.iload 4, 2) := by decide +kernel
theorem dX0_enter_38 : decode cX0_enter 38 = .ok (.iastore, 1) := by decide +kernel
theorem dX0_enter_39 : decode cX0_enter 39 = .ok (.aload_n 0, 1) := by decide +kernel
theorem dX0_enter_40 : decode cX0_enter 40 = .ok (.dup, 1) := by decide +kernel
theorem dX0_enter_41 : decode cX0_enter 41 = .ok (.getfield 28, 3) := by decide +kernel
theorem dX0_enter_44 : decode cX0_enter 44 = .ok (.iconst 1, 1) := by decide +kernel
theorem dX0_enter_45 : decode cX0_enter 45 = .ok (.iadd, 1) := by decide +kernel
theorem dX0_enter_46 : decode cX0_enter 46 = .ok (.putfield 28, 3) := by decide +kernel
theorem dX0_enter_49 : decode cX0_enter 49 = .ok (.iload 5, 2) := by decide +kernel
theorem dX0_enter_51 : decode cX0_enter 51 = .ok (.ireturn, 1) := by decide +kernel
theorem dX0_join_0 : decode cX0_join 0 = .ok (.aload_n 0, 1) := by decide +kernel
theorem dX0_join_1 : decode cX0_join 1 = .ok (.getfield 15, 3) := by decide +kernel
theorem dX0_join_4 : decode cX0_join 4 = .ok (.iload_n 1, 1) := by decide +kernel
theorem dX0_join_5 : decode cX0_join 5 = .ok (.aload_n 0, 1) := by decide +kernel
theorem dX0_join_6 : decode cX0_join 6 = .ok (.getfield 15, 3) := by decide +kernel
theorem dX0_join_9 : decode cX0_join 9 = .ok (.iload_n 1, 1) := by decide +kernel
theorem dX0_join_10 : decode cX0_join 10 = .ok (.iaload, 1) := by decide +kernel
theorem dX0_join_11 : decode cX0_join 11 = .ok (.iload_n 2, 1) := by decide +kernel
theorem dX0_join_12 : decode cX0_join 12 = .ok (.invokestatic 32, 3) := by decide +kernel
theorem dX0_join_15 : decode cX0_join 15 = .ok (.iastore, 1) := by decide +kernel
theorem dX0_join_16 : decode cX0_join 16 = .ok (.iload_n 3, 1) := by decide +kernel
theorem dX0_join_17 : decode cX0_join 17 = .ok (.ifCond .ne 30, 3) := by decide +kernel
theorem dX0_join_20 : decode cX0_join 20 = .ok (.aload_n 0, 1) := by decide +kernel
theorem dX0_join_21 : decode cX0_join 21 = .ok (.getfield 18, 3) := by decide +kernel
theorem dX0_join_24 : decode cX0_join 24 = .ok (.iload_n 1, 1) := by decide +kernel
theorem dX0_join_25 : decode cX0_join 25 = .ok (.iaload, 1) := by decide +kernel
theorem dX0_join_26 : decode cX0_join 26 = .ok (.iconst 1, 1) := by decide +kernel
theorem dX0_join_27 : decode cX0_join 27 = .ok (.if_icmp .eq 13, 3) := by decide +kernel
theorem dX0_join_30 : decode cX0_join 30 = .ok (.aload_n 0, 1) := by decide +kernel
theorem dX0_join_31 : decode cX0_join 31 = .ok (.getfield 18, 3) := by decide +kernel
theorem dX0_join_34 : decode cX0_join 34 = .ok (.iload_n 1, 1) := by decide +kernel
theorem dX0_join_35 : decode cX0_join 35 = .ok (.iaload, 1) := by decide +kernel
theorem dX0_join_36 : decode cX0_join 36 = .ok (.iconst 2, 1) := by decide +kernel
theorem dX0_join_37 : decode cX0_join 37 = .ok (.if_icmp .ne 10, 3) := by decide +kernel
theorem dX0_join_40 : decode cX0_join 40 = .ok (.aload_n 0, 1) := by decide +kernel
theorem dX0_join_41 : decode cX0_join 41 = .ok (.getfield 18, 3) := by decide +kernel
theorem dX0_join_44 : decode cX0_join 44 = .ok (.iload_n 1, 1) := by decide +kernel
theorem dX0_join_45 : decode cX0_join 45 = .ok (.iconst 0, 1) := by decide +kernel
theorem dX0_join_46 : decode cX0_join 46 = .ok (.iastore, 1) := by decide +kernel
theorem dX0_join_47 : decode cX0_join 47 = .ok (.return_, 1) := by decide +kernel
theorem dX0_denyLate_0 : decode cX0_denyLate 0 = .ok (.iconst 0, 1) := by decide +kernel
theorem dX0_denyLate_1 : decode cX0_denyLate 1 = .ok (.istore_n 2, 1) := by decide +kernel
theorem dX0_denyLate_2 : decode cX0_denyLate 2 = .ok (.iload_n 2, 1) := by decide +kernel
theorem dX0_denyLate_3 : decode cX0_denyLate 3 = .ok (.aload_n 0, 1) := by decide +kernel
theorem dX0_denyLate_4 : decode cX0_denyLate 4 = .ok (.getfield 28, 3) := by decide +kernel
theorem dX0_denyLate_7 : decode cX0_denyLate 7 = .ok (.if_icmp .ge 36, 3) := by decide +kernel
theorem dX0_denyLate_10 : decode cX0_denyLate 10 = .ok (.aload_n 0, 1) := by decide +kernel
theorem dX0_denyLate_11 : decode cX0_denyLate 11 = .ok (.getfield 18, 3) := by decide +kernel
theorem dX0_denyLate_14 : decode cX0_denyLate 14 = .ok (.iload_n 2, 1) := by decide +kernel
theorem dX0_denyLate_15 : decode cX0_denyLate 15 = .ok (.iaload, 1) := by decide +kernel
theorem dX0_denyLate_16 : decode cX0_denyLate 16 = .ok (.iconst 1, 1) := by decide +kernel
theorem dX0_denyLate_17 : decode cX0_denyLate 17 = .ok (.if_icmp .ne 20, 3) := by decide +kernel
theorem dX0_denyLate_20 : decode cX0_denyLate 20 = .ok (.aload_n 0, 1) := by decide +kernel
theorem dX0_denyLate_21 : decode cX0_denyLate 21 = .ok (.getfield 21, 3) := by decide +kernel
theorem dX0_denyLate_24 : decode cX0_denyLate 24 = .ok (.iload_n 2, 1) := by decide +kernel
theorem dX0_denyLate_25 : decode cX0_denyLate 25 = .ok (.iaload, 1) := by decide +kernel
theorem dX0_denyLate_26 : decode cX0_denyLate 26 = .ok (.iload_n 1, 1) := by decide +kernel
theorem dX0_denyLate_27 : decode cX0_denyLate 27 = .ok (.if_icmp .ge 10, 3) := by decide +kernel
theorem dX0_denyLate_30 : decode cX0_denyLate 30 = .ok (.aload_n 0, 1) := by decide +kernel
theorem dX0_denyLate_31 : decode cX0_denyLate 31 = .ok (.getfield 18, 3) := by decide +kernel
theorem dX0_denyLate_34 : decode cX0_denyLate 34 = .ok (.iload_n 2, 1) := by decide +kernel
theorem dX0_denyLate_35 : decode cX0_denyLate 35 = .ok (.iconst 2, 1) := by decide +kernel
theorem dX0_denyLate_36 : decode cX0_denyLate 36 = .ok (.iastore, 1) := by decide +kernel
theorem dX0_denyLate_37 : decode cX0_denyLate 37 = .ok (.iinc 2 1, 3) := by decide +kernel
theorem dX0_denyLate_40 : decode cX0_denyLate 40 = .ok (.goto (-38), 3) := by decide +kernel
theorem dX0_denyLate_43 : decode cX0_denyLate 43 = .ok (.return_, 1) := by decide +kernel
theorem dX0_tally_0 : decode cX0_tally 0 = .ok (.iconst 0, 1) := by decide +kernel
theorem dX0_tally_1 : decode cX0_tally 1 = .ok (.istore_n 2, 1) := by decide +kernel
theorem dX0_tally_2 : decode cX0_tally 2 = .ok (.iconst 0, 1) := by decide +kernel
theorem dX0_tally_3 : decode cX0_tally 3 = .ok (.istore_n 3, 1) := by decide +kernel
theorem dX0_tally_4 : decode cX0_tally 4 = .ok (.iload_n 3, 1) := by decide +kernel
theorem dX0_tally_5 : decode cX0_tally 5 = .ok (.aload_n 0, 1) := by decide +kernel
theorem dX0_tally_6 : decode cX0_tally 6 = .ok (.getfield 28, 3) := by decide +kernel
theorem dX0_tally_9 : decode cX0_tally 9 = .ok (.if_icmp .ge 22, 3) := by decide +kernel
theorem dX0_tally_12 : decode cX0_tally 12 = .ok (.aload_n 0, 1) := by decide +kernel
theorem dX0_tally_13 : decode cX0_tally 13 = .ok (.getfield 18, 3) := by decide +kernel
theorem dX0_tally_16 : decode cX0_tally 16 = .ok (.iload_n 3, 1) := by decide +kernel
theorem dX0_tally_17 : decode cX0_tally 17 = .ok (.iaload, 1) := by decide +kernel
theorem dX0_tally_18 : decode cX0_tally 18 = .ok (.iload_n 1, 1) := by decide +kernel
theorem dX0_tally_19 : decode cX0_tally 19 = .ok (.if_icmp .ne 6, 3) := by decide +kernel
theorem dX0_tally_22 : decode cX0_tally 22 = .ok (.iinc 2 1, 3) := by decide +kernel
theorem dX0_tally_25 : decode cX0_tally 25 = .ok (.iinc 3 1, 3) := by decide +kernel
theorem dX0_tally_28 : decode cX0_tally 28 = .ok (.goto (-24), 3) := by decide +kernel
theorem dX0_tally_31 : decode cX0_tally 31 = .ok (.iload_n 2, 1) := by decide +kernel
theorem dX0_tally_32 : decode cX0_tally 32 = .ok (.ireturn, 1) := by decide +kernel
theorem dX1_init_0 : decode cX1_init 0 = .ok (.aload_n 0, 1) := by decide +kernel
theorem dX1_init_1 : decode cX1_init 1 = .ok (.invokespecial 3, 3) := by decide +kernel
theorem dX1_init_4 : decode cX1_init 4 = .ok (.aload_n 0, 1) := by decide +kernel
theorem dX1_init_5 : decode cX1_init 5 = .ok (.bipush 100, 2) := by decide +kernel
theorem dX1_init_7 : decode cX1_init 7 = .ok (.newarray .int, 2) := by decide +kernel
theorem dX1_init_9 : decode cX1_init 9 = .ok (.putfield 9, 3) := by decide +kernel
theorem dX1_init_12 : decode cX1_init 12 = .ok (.aload_n 0, 1) := by decide +kernel
theorem dX1_init_13 : decode cX1_init 13 = .ok (.bipush 100, 2) := by decide +kernel
theorem dX1_init_15 : decode cX1_init 15 = .ok (.newarray .int, 2) := by decide +kernel
theorem dX1_init_17 : decode cX1_init 17 = .ok (.putfield 15, 3) := by decide +kernel
theorem dX1_init_20 : decode cX1_init 20 = .ok (.aload_n 0, 1) := by decide +kernel
theorem dX1_init_21 : decode cX1_init 21 = .ok (.bipush 100, 2) := by decide +kernel
theorem dX1_init_23 : decode cX1_init 23 = .ok (.newarray .int, 2) := by decide +kernel
theorem dX1_init_25 : decode cX1_init 25 = .ok (.putfield 18, 3) := by decide +kernel
theorem dX1_init_28 : decode cX1_init 28 = .ok (.aload_n 0, 1) := by decide +kernel
theorem dX1_init_29 : decode cX1_init 29 = .ok (.bipush 100, 2) := by decide +kernel
theorem dX1_init_31 : decode cX1_init 31 = .ok (.newarray .int, 2) := by decide +kernel
theorem dX1_init_33 : decode cX1_init 33 = .ok (.putfield 21, 3) := by decide +kernel
theorem dX1_init_36 : decode cX1_init 36 = .ok (.return_, 1) := by decide +kernel
theorem dX1_has_0 : decode cX1_has 0 = .ok (.iload_n 1, 1) := by decide +kernel
theorem dX1_has_1 : decode cX1_has 1 = .ok (.ifCond .lt 15, 3) := by decide +kernel
theorem dX1_has_4 : decode cX1_has 4 = .ok (.iload_n 1, 1) := by decide +kernel
theorem dX1_has_5 : decode cX1_has 5 = .ok (.aload_n 0, 1) := by decide +kernel
theorem dX1_has_6 : decode cX1_has 6 = .ok (.getfield 24, 3) := by decide +kernel
theorem dX1_has_9 : decode cX1_has 9 = .ok (.if_icmp .ge 7, 3) := by decide +kernel
theorem dX1_has_12 : decode cX1_has 12 = .ok (.iconst 1, 1) := by decide +kernel
theorem dX1_has_13 : decode cX1_has 13 = .ok (.goto 4, 3) := by decide +kernel
theorem dX1_has_16 : decode cX1_has 16 = .ok (.iconst 0, 1) := by decide +kernel
theorem dX1_has_17 : decode cX1_has 17 = .ok (.ireturn, 1) := by decide +kernel
theorem dX1_hasPlacesFor_0 : decode cX1_hasPlacesFor 0 = .ok (.iload_n 1, 1) := by decide +kernel
theorem dX1_hasPlacesFor_1 : decode cX1_hasPlacesFor 1 = .ok (.bipush 100, 2) := by decide +kernel
theorem dX1_hasPlacesFor_3 : decode cX1_hasPlacesFor 3 = .ok (.aload_n 0, 1) := by decide +kernel
theorem dX1_hasPlacesFor_4 : decode cX1_hasPlacesFor 4 = .ok (.getfield 24, 3) := by decide +kernel
theorem dX1_hasPlacesFor_7 : decode cX1_hasPlacesFor 7 = .ok (.isub, 1) := by decide +kernel
theorem dX1_hasPlacesFor_8 : decode cX1_hasPlacesFor 8 = .ok (.if_icmp .gt 7, 3) := by decide +kernel
theorem dX1_hasPlacesFor_11 : decode cX1_hasPlacesFor 11 = .ok (.iconst 1, 1) := by decide +kernel
theorem dX1_hasPlacesFor_12 : decode cX1_hasPlacesFor 12 = .ok (.goto 4, 3) := by decide +kernel
theorem dX1_hasPlacesFor_15 : decode cX1_hasPlacesFor 15 = .ok (.iconst 0, 1) := by decide +kernel
theorem dX1_hasPlacesFor_16 : decode cX1_hasPlacesFor 16 = .ok (.ireturn, 1) := by decide +kernel
set_option maxRecDepth 20000 in
theorem ggX1_add_X1_hasPlacesFor : GoodIn wsX1_add wsX1_hasPlacesFor := goodIn_r _ [10, 2, 11, 12, 13, 14, 15] (by decide +kernel) (by decide +kernel)
set_option maxRecDepth 20000 in
theorem gX1_add_X1_hasPlacesFor : GoodIn wsX1_add (wsV RX1 28 RX1 yX1_hasPlacesFor wsX1_hasPlacesFor) := goodIn_app (goodIn_of _ (by decide +kernel)) ggX1_add_X1_hasPlacesFor
theorem dX1_add_0 : decode cX1_add 0 = .ok (.aload_n 0, 1) := by decide +kernel
theorem dX1_add_1 : decode cX1_add 1 = .ok (.iconst 1, 1) := by decide +kernel
theorem dX1_add_2 : decode cX1_add 2 = .ok (.invokevirtual 28, 3) := by decide +kernel
theorem dX1_add_5 : decode cX1_add 5 = .ok (.ifCond .eq 53, 3) := by decide +kernel
theorem dX1_add_8 : decode cX1_add 8 = .ok (.aload_n 0, 1) := by decide +kernel
theorem dX1_add_9 : decode cX1_add 9 = .ok (.getfield 9, 3) := by decide +kernel
theorem dX1_add_12 : decode cX1_add 12 = .ok (.aload_n 0, 1) := by decide +kernel
theorem dX1_add_13 : decode cX1_add 13 = .ok (.getfield 24, 3) := by decide +kernel
theorem dX1_add_16 : decode cX1_add 16 = .ok (.iload_n 1, 1) := by decide +kernel
theorem dX1_add_17 : decode cX1_add 17 = .ok (.iastore, 1) := by decide +kernel
theorem dX1_add_18 : decode cX1_add 18 = .ok (.aload_n 0, 1) := by decide +kernel
theorem dX1_add_19 : decode cX1_add 19 = .ok (.getfield 15, 3) := by decide +kernel
theorem dX1_add_22 : decode cX1_add 22 = .ok (.aload_n 0, 1) := by decide +kernel
theorem dX1_add_23 : decode cX1_add 23 = .ok (.getfield 24, 3) := by decide +kernel
theorem dX1_add_26 : decode cX1_add 26 = .ok (.iload_n 2, 1) := by decide +kernel
theorem dX1_add_27 : decode cX1_add 27 = .ok (.iastore, 1) := by decide +kernel
theorem dX1_add_28 : decode cX1_add 28 = .ok (.aload_n 0, 1) := by decide +kernel
theorem dX1_add_29 : decode cX1_add 29 = .ok (.getfield 18, 3) := by decide +kernel
theorem dX1_add_32 : decode cX1_add 32 = .ok (.aload_n 0, 1) := by decide +kernel
theorem dX1_add_33 : decode cX1_add 33 = .ok (.getfield 24, 3) := by decide +kernel
theorem dX1_add_36 : decode cX1_add 36 = .ok (.iconst 0, 1) := by decide +kernel
theorem dX1_add_37 : decode cX1_add 37 = .ok (.iastore, 1) := by decide +kernel
theorem dX1_add_38 : decode cX1_add 38 = .ok (.aload_n 0, 1) := by decide +kernel
theorem dX1_add_39 : decode cX1_add 39 = .ok (.getfield 21, 3) := by decide +kernel
theorem dX1_add_42 : decode cX1_add 42 = .ok (.aload_n 0, 1) := by decide +kernel
theorem dX1_add_43 : decode cX1_add 43 = .ok (.getfield 24, 3) := by decide +kernel
theorem dX1_add_46 : decode cX1_add 46 = .ok (.iload_n 3, 1) := by decide +kernel
theorem dX1_add_47 : decode cX1_add 47 = .ok (.iastore, 1) := by decide +kernel
theorem dX1_add_48 : decode cX1_add 48 = .ok (.aload_n 0, 1) := by decide +kernel
theorem dX1_add_49 : decode cX1_add 49 = .ok (.dup, 1) := by decide +kernel
theorem dX1_add_50 : decode cX1_add 50 = .ok (.getfield 24, 3) := by decide +kernel
theorem dX1_add_53 : decode cX1_add 53 = .ok (.iconst 1, 1) := by decide +kernel
theorem dX1_add_54 : decode cX1_add 54 = .ok (.iadd, 1) := by decide +kernel
theorem dX1_add_55 : decode cX1_add 55 = .ok (.putfield 24, 3) := by decide +kernel
theorem dX1_add_58 : decode cX1_add 58 = .ok (.return_, 1) := by decide +kernel
theorem dX1_voidLate_0 : decode cX1_voidLate 0 = .ok (.iconst 0, 1) := by decide +kernel
theorem dX1_voidLate_1 : decode cX1_voidLate 1 = .ok (.istore_n 2, 1) := by decide +kernel
theorem dX1_voidLate_2 : decode cX1_voidLate 2 = .ok (.iload_n 2, 1) := by decide +kernel
theorem dX1_voidLate_3 : decode cX1_voidLate 3 = .ok (.aload_n 0, 1) := by decide +kernel
theorem dX1_voidLate_4 : decode cX1_voidLate 4 = .ok (.getfield 24, 3) := by decide +kernel
theorem dX1_voidLate_7 : decode cX1_voidLate 7 = .ok (.if_icmp .ge 38, 3) := by decide +kernel
theorem dX1_voidLate_10 : decode cX1_voidLate 10 = .ok (.aload_n 0, 1) := by decide +kernel
theorem dX1_voidLate_11 : decode cX1_voidLate 11 = .ok (.getfield 18, 3) := by decide +kernel
theorem dX1_voidLate_14 : decode cX1_voidLate 14 = .ok (.iload_n 2, 1) := by decide +kernel
theorem dX1_voidLate_15 : decode cX1_voidLate 15 = .ok (.iaload, 1) := by decide +kernel
theorem dX1_voidLate_16 : decode cX1_voidLate 16 = .ok (.ifCond .ne 23, 3) := by decide +kernel
theorem dX1_voidLate_19 : decode cX1_voidLate 19 = .ok (.iload_n 1, 1) := by decide +kernel
theorem dX1_voidLate_20 : decode cX1_voidLate 20 = .ok (.aload_n 0, 1) := by decide +kernel
theorem dX1_voidLate_21 : decode cX1_voidLate 21 = .ok (.getfield 21, 3) := by decide +kernel
theorem dX1_voidLate_24 : decode cX1_voidLate 24 = .ok (.iload_n 2, 1) := by decide +kernel
theorem dX1_voidLate_25 : decode cX1_voidLate 25 = .ok (.iaload, 1) := by decide +kernel
theorem dX1_voidLate_26 : decode cX1_voidLate 26 = .ok (.isub, 1) := by decide +kernel
theorem dX1_voidLate_27 : decode cX1_voidLate 27 = .ok (.bipush 30, 2) := by decide +kernel
theorem dX1_voidLate_29 : decode cX1_voidLate 29 = .ok (.if_icmp .le 10, 3) := by decide +kernel
theorem dX1_voidLate_32 : decode cX1_voidLate 32 = .ok (.aload_n 0, 1) := by decide +kernel
theorem dX1_voidLate_33 : decode cX1_voidLate 33 = .ok (.getfield 18, 3) := by decide +kernel
theorem dX1_voidLate_36 : decode cX1_voidLate 36 = .ok (.iload_n 2, 1) := by decide +kernel
theorem dX1_voidLate_37 : decode cX1_voidLate 37 = .ok (.iconst 2, 1) := by decide +kernel
theorem dX1_voidLate_38 : decode cX1_voidLate 38 = .ok (.iastore, 1) := by decide +kernel
theorem dX1_voidLate_39 : decode cX1_voidLate 39 = .ok (.iinc 2 1, 3) := by decide +kernel
theorem dX1_voidLate_42 : decode cX1_voidLate 42 = .ok (.goto (-40), 3) := by decide +kernel
theorem dX1_voidLate_45 : decode cX1_voidLate 45 = .ok (.return_, 1) := by decide +kernel
theorem dX1_hasOpen_0 : decode cX1_hasOpen 0 = .ok (.iconst 0, 1) := by decide +kernel
theorem dX1_hasOpen_1 : decode cX1_hasOpen 1 = .ok (.istore_n 1, 1) := by decide +kernel
theorem dX1_hasOpen_2 : decode cX1_hasOpen 2 = .ok (.iload_n 1, 1) := by decide +kernel
theorem dX1_hasOpen_3 : decode cX1_hasOpen 3 = .ok (.aload_n 0, 1) := by decide +kernel
theorem dX1_hasOpen_4 : decode cX1_hasOpen 4 = .ok (.getfield 24, 3) := by decide +kernel
theorem dX1_hasOpen_7 : decode cX1_hasOpen 7 = .ok (.if_icmp .ge 20, 3) := by decide +kernel
theorem dX1_hasOpen_10 : decode cX1_hasOpen 10 = .ok (.aload_n 0, 1) := by decide +kernel
theorem dX1_hasOpen_11 : decode cX1_hasOpen 11 = .ok (.getfield 18, 3) := by decide +kernel
theorem dX1_hasOpen_14 : decode cX1_hasOpen 14 = .ok (.iload_n 1, 1) := by decide +kernel
theorem dX1_hasOpen_15 : decode cX1_hasOpen 15 = .ok (.iaload, 1) := by decide +kernel
theorem dX1_hasOpen_16 : decode cX1_hasOpen 16 = .ok (.ifCond .ne 5, 3) := by decide +kernel
theorem dX1_hasOpen_19 : decode cX1_hasOpen 19 = .ok (.iconst 1, 1) := by decide +kernel
theorem dX1_hasOpen_20 : decode cX1_hasOpen 20 = .ok (.ireturn, 1) := by decide +kernel
theorem dX1_hasOpen_21 : decode cX1_hasOpen 21 = .ok (.iinc 1 1, 3) := by decide +kernel
theorem dX1_hasOpen_24 : decode cX1_hasOpen 24 = .ok (.goto (-22), 3) := by decide +kernel
theorem dX1_hasOpen_27 : decode cX1_hasOpen 27 = .ok (.iconst 0, 1) := by decide +kernel
theorem dX1_hasOpen_28 : decode cX1_hasOpen 28 = .ok (.ireturn, 1) := by decide +kernel
theorem dX1_hasVoidFor_0 : decode cX1_hasVoidFor 0 = .ok (.iconst 0, 1) := by decide +kernel
theorem dX1_hasVoidFor_1 : decode cX1_hasVoidFor 1 = .ok (.istore_n 2, 1) := by decide +kernel
theorem dX1_hasVoidFor_2 : decode cX1_hasVoidFor 2 = .ok (.iload_n 2, 1) := by decide +kernel
theorem dX1_hasVoidFor_3 : decode cX1_hasVoidFor 3 = .ok (.aload_n 0, 1) := by decide +kernel
theorem dX1_hasVoidFor_4 : decode cX1_hasVoidFor 4 = .ok (.getfield 24, 3) := by decide +kernel
theorem dX1_hasVoidFor_7 : decode cX1_hasVoidFor 7 = .ok (.if_icmp .ge 31, 3) := by decide +kernel
theorem dX1_hasVoidFor_10 : decode cX1_hasVoidFor 10 = .ok (.aload_n 0, 1) := by decide +kernel
theorem dX1_hasVoidFor_11 : decode cX1_hasVoidFor 11 = .ok (.getfield 9, 3) := by decide +kernel
theorem dX1_hasVoidFor_14 : decode cX1_hasVoidFor 14 = .ok (.iload_n 2, 1) := by decide +kernel
theorem dX1_hasVoidFor_15 : decode cX1_hasVoidFor 15 = .ok (.iaload, 1) := by decide +kernel
theorem dX1_hasVoidFor_16 : decode cX1_hasVoidFor 16 = .ok (.iload_n 1, 1) := by decide +kernel
theorem dX1_hasVoidFor_17 : decode cX1_hasVoidFor 17 = .ok (.if_icmp .ne 15, 3) := by decide +kernel
theorem dX1_hasVoidFor_20 : decode cX1_hasVoidFor 20 = .ok (.aload_n 0, 1) := by decide +kernel
theorem dX1_hasVoidFor_21 : decode cX1_hasVoidFor 21 = .ok (.getfield 18, 3) := by decide +kernel
theorem dX1_hasVoidFor_24 : decode cX1_hasVoidFor 24 = .ok (.iload_n 2, 1) := by decide +kernel
theorem dX1_hasVoidFor_25 : decode cX1_hasVoidFor 25 = .ok (.iaload, 1) := by decide +kernel
theorem dX1_hasVoidFor_26 : decode cX1_hasVoidFor 26 = .ok (.iconst 2, 1) := by decide +kernel
theorem dX1_hasVoidFor_27 : decode cX1_hasVoidFor 27 = .ok (.if_icmp .ne 5, 3) := by decide +kernel
theorem dX1_hasVoidFor_30 : decode cX1_hasVoidFor 30 = .ok (.iconst 1, 1) := by decide +kernel
theorem dX1_hasVoidFor_31 : decode cX1_hasVoidFor 31 = .ok (.ireturn, 1) := by decide +kernel
theorem dX1_hasVoidFor_32 : decode cX1_hasVoidFor 32 = .ok (.iinc 2 1, 3) := by decide +kernel
theorem dX1_hasVoidFor_35 : decode cX1_hasVoidFor 35 = .ok (.goto (-33), 3) := by decide +kernel
theorem dX1_hasVoidFor_38 : decode cX1_hasVoidFor 38 = .ok (.iconst 0, 1) := by decide +kernel
theorem dX1_hasVoidFor_39 : decode cX1_hasVoidFor 39 = .ok (.ireturn, 1) := by decide +kernel
theorem dX1_sumFor_0 : decode cX1_sumFor 0 = .ok (.iconst 0, 1) := by decide +kernel
theorem dX1_sumFor_1 : decode cX1_sumFor 1 = .ok (.istore_n 2, 1) := by decide +kernel
theorem dX1_sumFor_2 : decode cX1_sumFor 2 = .ok (.iconst 0, 1) := by decide +kernel
theorem dX1_sumFor_3 : decode cX1_sumFor 3 = .ok (.istore_n 3, 1) := by decide +kernel
theorem dX1_sumFor_4 : decode cX1_sumFor 4 = .ok (.iload_n 3, 1) := by decide +kernel
theorem dX1_sumFor_5 : decode cX1_sumFor 5 = .ok (.aload_n 0, 1) := by decide +kernel
theorem dX1_sumFor_6 : decode cX1_sumFor 6 = .ok (.getfield 24, 3) := by decide +kernel
theorem dX1_sumFor_9 : decode cX1_sumFor 9 = .ok (.if_icmp .ge 38, 3) := by decide +kernel
theorem dX1_sumFor_12 : decode cX1_sumFor 12 = .ok (.aload_n 0, 1) := by decide +kernel
theorem dX1_sumFor_13 : decode cX1_sumFor 13 = .ok (.getfield 9, 3) := by decide +kernel
theorem dX1_sumFor_16 : decode cX1_sumFor 16 = .ok (.iload_n 3, 1) := by decide +kernel
theorem dX1_sumFor_17 : decode cX1_sumFor 17 = .ok (.iaload, 1) := by decide +kernel
theorem dX1_sumFor_18 : decode cX1_sumFor 18 = .ok (.iload_n 1, 1) := by decide +kernel
theorem dX1_sumFor_19 : decode cX1_sumFor 19 = .ok (.if_icmp .ne 22, 3) := by decide +kernel
theorem dX1_sumFor_22 : decode cX1_sumFor 22 = .ok (.aload_n 0, 1) := by decide +kernel
theorem dX1_sumFor_23 : decode cX1_sumFor 23 = .ok (.getfield 18, 3) := by decide +kernel
theorem dX1_sumFor_26 : decode cX1_sumFor 26 = .ok (.iload_n 3, 1) := by decide +kernel
theorem dX1_sumFor_27 : decode cX1_sumFor 27 = .ok (.iaload, 1) := by decide +kernel
theorem dX1_sumFor_28 : decode cX1_sumFor 28 = .ok (.iconst 2, 1) := by decide +kernel
theorem dX1_sumFor_29 : decode cX1_sumFor 29 = .ok (.if_icmp .eq 12, 3) := by decide +kernel
theorem dX1_sumFor_32 : decode cX1_sumFor 32 = .ok (.iload_n 2, 1) := by decide +kernel
theorem dX1_sumFor_33 : decode cX1_sumFor 33 = .ok (.aload_n 0, 1) := by decide +kernel
theorem dX1_sumFor_34 : decode cX1_sumFor 34 = .ok (.getfield 15, 3) := by decide +kernel
theorem dX1_sumFor_37 : decode cX1_sumFor 37 = .ok (.iload_n 3, 1) := by decide +kernel
theorem dX1_sumFor_38 : decode cX1_sumFor 38 = .ok (.iaload, 1) := by decide +kernel
theorem dX1_sumFor_39 : decode cX1_sumFor 39 = .ok (.iadd, 1) := by decide +kernel
theorem dX1_sumFor_40 : decode cX1_sumFor 40 = .ok (.istore_n 2, 1) := by decide +kernel
theorem dX1_sumFor_41 : decode cX1_sumFor 41 = .ok (.iinc 3 1, 3) := by decide +kernel
theorem dX1_sumFor_44 : decode cX1_sumFor 44 = .ok (.goto (-40), 3) := by decide +kernel
theorem dX1_sumFor_47 : decode cX1_sumFor 47 = .ok (.iload_n 2, 1) := by decide +kernel
theorem dX1_sumFor_48 : decode cX1_sumFor 48 = .ok (.ireturn, 1) := by decide +kernel
theorem dX1_sumOfAll_0 : decode cX1_sumOfAll 0 = .ok (.iconst 0, 1) := by decide +kernel
theorem dX1_sumOfAll_1 : decode cX1_sumOfAll 1 = .ok (.istore_n 1, 1) := by decide +kernel
theorem dX1_sumOfAll_2 : decode cX1_sumOfAll 2 = .ok (.iconst 0, 1) := by decide +kernel
theorem dX1_sumOfAll_3 : decode cX1_sumOfAll 3 = .ok (.istore_n 2, 1) := by decide +kernel
theorem dX1_sumOfAll_4 : decode cX1_sumOfAll 4 = .ok (.iload_n 2, 1) := by decide +kernel
theorem dX1_sumOfAll_5 : decode cX1_sumOfAll 5 = .ok (.aload_n 0, 1) := by decide +kernel
theorem dX1_sumOfAll_6 : decode cX1_sumOfAll 6 = .ok (.getfield 24, 3) := by decide +kernel
theorem dX1_sumOfAll_9 : decode cX1_sumOfAll 9 = .ok (.if_icmp .ge 28, 3) := by decide +kernel
theorem dX1_sumOfAll_12 : decode cX1_sumOfAll 12 = .ok (.aload_n 0, 1) := by decide +kernel
theorem dX1_sumOfAll_13 : decode cX1_sumOfAll 13 = .ok (.getfield 18, 3) := by decide +kernel
theorem dX1_sumOfAll_16 : decode cX1_sumOfAll 16 = .ok (.iload_n 2, 1) := by decide +kernel
theorem dX1_sumOfAll_17 : decode cX1_sumOfAll 17 = .ok (.iaload, 1) := by decide +kernel
theorem dX1_sumOfAll_18 : decode cX1_sumOfAll 18 = .ok (.iconst 2, 1) := by decide +kernel
theorem dX1_sumOfAll_19 : decode cX1_sumOfAll 19 = .ok (.if_icmp .eq 12, 3) := by decide +kernel
theorem dX1_sumOfAll_22 : decode cX1_sumOfAll 22 = .ok (.iload_n 1, 1) := by decide +kernel
theorem dX1_sumOfAll_23 : decode cX1_sumOfAll 23 = .ok (.aload_n 0, 1) := by decide +kernel
theorem dX1_sumOfAll_24 : decode cX1_sumOfAll 24 = .ok (.getfield 15, 3) := by decide +kernel
theorem dX1_sumOfAll_27 : decode cX1_sumOfAll 27 = .ok (.iload_n 2, 1) := by decide +kernel
theorem dX1_sumOfAll_28 : decode cX1_sumOfAll 28 = .ok (.iaload, 1) := by decide +kernel
theorem dX1_sumOfAll_29 : decode cX1_sumOfAll 29 = .ok (.iadd, 1) := by decide +kernel
theorem dX1_sumOfAll_30 : decode cX1_sumOfAll 30 = .ok (.istore_n 1, 1) := by decide +kernel
theorem dX1_sumOfAll_31 : decode cX1_sumOfAll 31 = .ok (.iinc 2 1, 3) := by decide +kernel
theorem dX1_sumOfAll_34 : decode cX1_sumOfAll 34 = .ok (.goto (-30), 3) := by decide +kernel
theorem dX1_sumOfAll_37 : decode cX1_sumOfAll 37 = .ok (.iload_n 1, 1) := by decide +kernel
theorem dX1_sumOfAll_38 : decode cX1_sumOfAll 38 = .ok (.ireturn, 1) := by decide +kernel
theorem dX2_init_0 : decode cX2_init 0 = .ok (.aload_n 0, 1) := by decide +kernel
theorem dX2_init_1 : decode cX2_init 1 = .ok (.invokespecial 3, 3) := by decide +kernel
theorem dX2_init_4 : decode cX2_init 4 = .ok (.aload_n 0, 1) := by decide +kernel
theorem dX2_init_5 : decode cX2_init 5 = .ok (.bipush 24, 2) := by decide +kernel
theorem dX2_init_7 : decode cX2_init 7 = .ok (.newarray .int, 2) := by decide +kernel
theorem dX2_init_9 : decode cX2_init 9 = .ok (.putfield 9, 3) := by decide +kernel
theorem dX2_init_12 : decode cX2_init 12 = .ok (.aload_n 0, 1) := by decide +kernel
theorem dX2_init_13 : decode cX2_init 13 = .ok (.bipush 24, 2) := by decide +kernel
theorem dX2_init_15 : decode cX2_init 15 = .ok (.newarray .int, 2) := by decide +kernel
theorem dX2_init_17 : decode cX2_init 17 = .ok (.putfield 15, 3) := by decide +kernel
theorem dX2_init_20 : decode cX2_init 20 = .ok (.aload_n 0, 1) := by decide +kernel
theorem dX2_init_21 : decode cX2_init 21 = .ok (.bipush 24, 2) := by decide +kernel
theorem dX2_init_23 : decode cX2_init 23 = .ok (.newarray .int, 2) := by decide +kernel
theorem dX2_init_25 : decode cX2_init 25 = .ok (.putfield 18, 3) := by decide +kernel
theorem dX2_init_28 : decode cX2_init 28 = .ok (.aload_n 0, 1) := by decide +kernel
theorem dX2_init_29 : decode cX2_init 29 = .ok (.bipush 24, 2) := by decide +kernel
theorem dX2_init_31 : decode cX2_init 31 = .ok (.newarray .int, 2) := by decide +kernel
theorem dX2_init_33 : decode cX2_init 33 = .ok (.putfield 21, 3) := by decide +kernel
theorem dX2_init_36 : decode cX2_init 36 = .ok (.aload_n 0, 1) := by decide +kernel
theorem dX2_init_37 : decode cX2_init 37 = .ok (.bipush 24, 2) := by decide +kernel
theorem dX2_init_39 : decode cX2_init 39 = .ok (.newarray .boolean, 2) := by decide +kernel
theorem dX2_init_41 : decode cX2_init 41 = .ok (.putfield 24, 3) := by decide +kernel
theorem dX2_init_44 : decode cX2_init 44 = .ok (.return_, 1) := by decide +kernel
theorem dX2_clear_0 : decode cX2_clear 0 = .ok (.aload_n 0, 1) := by decide +kernel
theorem dX2_clear_1 : decode cX2_clear 1 = .ok (.iconst 0, 1) := by decide +kernel
theorem dX2_clear_2 : decode cX2_clear 2 = .ok (.putfield 28, 3) := by decide +kernel
theorem dX2_clear_5 : decode cX2_clear 5 = .ok (.return_, 1) := by decide +kernel
theorem dX2_add_0 : decode cX2_add 0 = .ok (.aload_n 0, 1) := by decide +kernel
theorem dX2_add_1 : decode cX2_add 1 = .ok (.getfield 28, 3) := by decide +kernel
theorem dX2_add_4 : decode cX2_add 4 = .ok (.bipush 24, 2) := by decide +kernel
theorem dX2_add_6 : decode cX2_add 6 = .ok (.if_icmp .ge 43, 3) := by decide +kernel
theorem dX2_add_9 : decode cX2_add 9 = .ok (.aload_n 0, 1) := by decide +kernel
theorem dX2_add_10 : decode cX2_add 10 = .ok (.getfield 9, 3) := by decide +kernel
theorem dX2_add_13 : decode cX2_add 13 = .ok (.aload_n 0, 1) := by decide +kernel
theorem dX2_add_14 : decode cX2_add 14 = .ok (.getfield 28, 3) := by decide +kernel
theorem dX2_add_17 : decode cX2_add 17 = .ok (.iload_n 1, 1) := by decide +kernel
theorem dX2_add_18 : decode cX2_add 18 = .ok (.iastore, 1) := by decide +kernel
theorem dX2_add_19 : decode cX2_add 19 = .ok (.aload_n 0, 1) := by decide +kernel
theorem dX2_add_20 : decode cX2_add 20 = .ok (.getfield 15, 3) := by decide +kernel
theorem dX2_add_23 : decode cX2_add 23 = .ok (.aload_n 0, 1) := by decide +kernel
theorem dX2_add_24 : decode cX2_add 24 = .ok (.getfield 28, 3) := by decide +kernel
theorem dX2_add_27 : decode cX2_add 27 = .ok (.iload_n 2, 1) := by decide +kernel
theorem dX2_add_28 : decode cX2_add 28 = .ok (.iastore, 1) := by decide +kernel
theorem dX2_add_29 : decode cX2_add 29 = .ok (.aload_n 0, 1) := by decide +kernel
theorem dX2_add_30 : decode cX2_add 30 = .ok (.getfield 18, 3) := by decide +kernel
theorem dX2_add_33 : decode cX2_add 33 = .ok (.aload_n 0, 1) := by decide +kernel
theorem dX2_add_34 : decode cX2_add 34 = .ok (.getfield 28, 3) := by decide +kernel
theorem dX2_add_37 : decode cX2_add 37 = .ok (.iload_n 3, 1) := by decide +kernel
theorem dX2_add_38 : decode cX2_add 38 = .ok (.iastore, 1) := by decide +kernel
theorem dX2_add_39 : decode cX2_add 39 = .ok (.aload_n 0, 1) := by decide +kernel
theorem dX2_add_40 : decode cX2_add 40 = .ok (.dup, 1) := by decide +kernel
theorem dX2_add_41 : decode cX2_add 41 = .ok (.getfield 28, 3) := by decide +kernel
theorem dX2_add_44 : decode cX2_add 44 = .ok (.iconst 1, 1) := by decide +kernel
theorem dX2_add_45 : decode cX2_add 45 = .ok (.iadd, 1) := by decide +kernel
theorem dX2_add_46 : decode cX2_add 46 = .ok (.putfield 28, 3) := by decide +kernel
theorem dX2_add_49 : decode cX2_add 49 = .ok (.return_, 1) := by decide +kernel
set_option maxRecDepth 20000 in
theorem ggX2_shareOut_X2_sortByRoomPerPoint : GoodIn wsX2_shareOut wsX2_sortByRoomPerPoint := goodIn_r _ [7, 1, 8, 9, 10, 6, 11, 12, 13, 14, 15, 16, 17, 18, 19, 20, 21, 22, 62, 63, 64, 65, 66, 67, 68, 69] (by decide +kernel) (by decide +kernel)
set_option maxRecDepth 20000 in
theorem gX2_shareOut_X2_sortByRoomPerPoint : GoodIn wsX2_shareOut (wsV RX2 32 RX2 yX2_sortByRoomPerPoint wsX2_sortByRoomPerPoint) := goodIn_app (goodIn_of _ (by decide +kernel)) ggX2_shareOut_X2_sortByRoomPerPoint
set_option maxRecDepth 20000 in
theorem ggX2_shareOut_X2_shareOnce : GoodIn wsX2_shareOut wsX2_shareOnce := goodIn_r _ [26, 27, 28, 1, 29, 13, 30, 31, 32, 6, 33, 34, 35, 36, 37, 12, 38, 39, 40, 41, 2, 42, 43, 44, 45, 46, 47, 48, 49, 18, 50, 51, 52, 53, 62, 63, 64, 65, 66, 67, 68, 69] (by decide +kernel) (by decide +kernel)
set_option maxRecDepth 20000 in
theorem gX2_shareOut_X2_shareOnce : GoodIn wsX2_shareOut (wsV RX2 35 RX2 yX2_shareOnce wsX2_shareOnce) := goodIn_app (goodIn_of _ (by decide +kernel)) ggX2_shareOut_X2_shareOnce
set_option maxRecDepth 20000 in
theorem ggX2_shareOut_X2_placeOfSmallest : GoodIn wsX2_shareOut wsX2_placeOfSmallest := goodIn_r _ [57, 1, 2, 18, 62, 63, 64, 65, 66, 67, 68, 69] (by decide +kernel) (by decide +kernel)
set_option maxRecDepth 20000 in
theorem gX2_shareOut_X2_placeOfSmallest : GoodIn wsX2_shareOut (wsV RX2 39 RX2 yX2_placeOfSmallest wsX2_placeOfSmallest) := goodIn_app (goodIn_of _ (by decide +kernel)) ggX2_shareOut_X2_placeOfSmallest
set_option maxRecDepth 20000 in
theorem ggX2_shareOut_X2_takeOut : GoodIn wsX2_shareOut wsX2_takeOut := goodIn_r _ [61, 1, 19, 20, 21, 6, 22, 18, 13, 12, 62, 63, 64, 65, 66, 67, 68, 69] (by decide +kernel) (by decide +kernel)
set_option maxRecDepth 20000 in
theorem gX2_shareOut_X2_takeOut : GoodIn wsX2_shareOut (wsV RX2 43 RX2 yX2_takeOut wsX2_takeOut) := goodIn_app (goodIn_of _ (by decide +kernel)) ggX2_shareOut_X2_takeOut
theorem dX2_shareOut_0 : decode cX2_shareOut 0 = .ok (.iload_n 3, 1) := by decide +kernel
theorem dX2_shareOut_1 : decode cX2_shareOut 1 = .ok (.ifCond .eq 7, 3) := by decide +kernel
theorem dX2_shareOut_4 : decode cX2_shareOut 4 = .ok (.aload_n 0, 1) := by decide +kernel
theorem dX2_shareOut_5 : decode cX2_shareOut 5 = .ok (.invokevirtual 32, 3) := by decide +kernel
theorem dX2_shareOut_8 : decode cX2_shareOut 8 = .ok (.aload_n 0, 1) := by decide +kernel
theorem dX2_shareOut_9 : decode cX2_shareOut 9 = .ok (.getfield 28, 3) := by decide +kernel
theorem dX2_shareOut_12 : decode cX2_shareOut 12 = .ok (.istore 4, 2) := by decide +kernel
theorem dX2_shareOut_14 : decode cX2_shareOut 14 = .ok (.iload 4, 2) := by decide +kernel
theorem dX2_shareOut_16 : decode cX2_shareOut 16 = .ok (.ifCond .le 45, 3) := by decide +kernel
theorem dX2_shareOut_19 : decode cX2_shareOut 19 = .ok (.aload_n 0, 1) := by decide +kernel
theorem dX2_shareOut_20 : decode cX2_shareOut 20 = .ok (.iload_n 1, 1) := by decide +kernel
theorem dX2_shareOut_21 : decode cX2_shareOut 21 = .ok (.iload_n 3, 1) := by decide +kernel
theorem dX2_shareOut_22 : decode cX2_shareOut 22 = .ok (.invokevirtual 35, 3) := by decide +kernel
theorem dX2_shareOut_25 : decode cX2_shareOut 25 = .ok (.aload_n 0, 1) := by decide +kernel
theorem dX2_shareOut_26 : decode cX2_shareOut 26 = .ok (.invokevirtual 39, 3) := by decide +kernel
theorem dX2_shareOut_29 : decode cX2_shareOut 29 = .ok (.istore 5, 2) := by decide +kernel
theorem dX2_shareOut_31 : decode cX2_shareOut 31 = .ok (.iload 5, 2) := by decide +kernel
theorem dX2_shareOut_33 : decode cX2_shareOut 33 = .ok (.iconst (-1), 1) := by decide +kernel
theorem dX2_shareOut_34 : decode cX2_shareOut 34 = .ok (.if_icmp .eq 14, 3) := by decide +kernel
theorem dX2_shareOut_37 : decode cX2_shareOut 37 = .ok (.aload_n 0, 1) := by decide +kernel
theorem dX2_shareOut_38 : decode cX2_shareOut 38 = .ok (.getfield 21, 3) := by decide +kernel
theorem dX2_shareOut_41 : decode cX2_shareOut 41 = .ok (.iload 5, 2) := by decide +kernel
theorem dX2_shareOut_43 : decode cX2_shareOut 43 = .ok (.iaload, 1) := by decide +kernel
theorem dX2_shareOut_44 : decode cX2_shareOut 44 = .ok (.iload_n 2, 1) := by decide +kernel
theorem dX2_shareOut_45 : decode cX2_shareOut 45 = .ok (.if_icmp .lt 4, 3) := by decide +kernel
theorem dX2_shareOut_48 : decode cX2_shareOut 48 = .ok (.return_, 1) := by decide +kernel
theorem dX2_shareOut_49 : decode cX2_shareOut 49 = .ok (.aload_n 0, 1) := by decide +kernel
theorem dX2_shareOut_50 : decode cX2_shareOut 50 = .ok (.iload 5, 2) := by decide +kernel
theorem dX2_shareOut_52 : decode cX2_shareOut 52 = .ok (.invokevirtual 43, 3) := by decide +kernel
theorem dX2_shareOut_55 : decode cX2_shareOut 55 = .ok (.iinc 4 (-1), 3) := by decide +kernel
theorem dX2_shareOut_58 : decode cX2_shareOut 58 = .ok (.goto (-44), 3) := by decide +kernel
theorem dX2_shareOut_61 : decode cX2_shareOut 61 = .ok (.return_, 1) := by decide +kernel
theorem dX2_shareGivenTo_0 : decode cX2_shareGivenTo 0 = .ok (.iconst 0, 1) := by decide +kernel
theorem dX2_shareGivenTo_1 : decode cX2_shareGivenTo 1 = .ok (.istore_n 2, 1) := by decide +kernel
theorem dX2_shareGivenTo_2 : decode cX2_shareGivenTo 2 = .ok (.iload_n 2, 1) := by decide +kernel
theorem dX2_shareGivenTo_3 : decode cX2_shareGivenTo 3 = .ok (.aload_n 0, 1) := by decide +kernel
theorem dX2_shareGivenTo_4 : decode cX2_shareGivenTo 4 = .ok (.getfield 28, 3) := by decide +kernel
theorem dX2_shareGivenTo_7 : decode cX2_shareGivenTo 7 = .ok (.if_icmp .ge 26, 3) := by decide +kernel
theorem dX2_shareGivenTo_10 : decode cX2_shareGivenTo 10 = .ok (.aload_n 0, 1) := by decide +kernel
theorem dX2_shareGivenTo_11 : decode cX2_shareGivenTo 11 = .ok (.getfield 9, 3) := by decide +kernel
theorem dX2_shareGivenTo_14 : decode cX2_shareGivenTo 14 = .ok (.iload_n 2, 1) := by decide +kernel
theorem dX2_shareGivenTo_15 : decode cX2_shareGivenTo 15 = .ok (.iaload, 1) := by decide +kernel
theorem dX2_shareGivenTo_16 : decode cX2_shareGivenTo 16 = .ok (.iload_n 1, 1) := by decide +kernel
theorem dX2_shareGivenTo_17 : decode cX2_shareGivenTo 17 = .ok (.if_icmp .ne 10, 3) := by decide +kernel
theorem dX2_shareGivenTo_20 : decode cX2_shareGivenTo 20 = .ok (.aload_n 0, 1) := by decide +kernel
theorem dX2_shareGivenTo_21 : decode cX2_shareGivenTo 21 = .ok (.getfield 21, 3) := by decide +kernel
theorem dX2_shareGivenTo_24 : decode cX2_shareGivenTo 24 = .ok (.iload_n 2, 1) := by decide +kernel
theorem dX2_shareGivenTo_25 : decode cX2_shareGivenTo 25 = .ok (.iaload, 1) := by decide +kernel
theorem dX2_shareGivenTo_26 : decode cX2_shareGivenTo 26 = .ok (.ireturn, 1) := by decide +kernel
theorem dX2_shareGivenTo_27 : decode cX2_shareGivenTo 27 = .ok (.iinc 2 1, 3) := by decide +kernel
theorem dX2_shareGivenTo_30 : decode cX2_shareGivenTo 30 = .ok (.goto (-28), 3) := by decide +kernel
theorem dX2_shareGivenTo_33 : decode cX2_shareGivenTo 33 = .ok (.iconst 0, 1) := by decide +kernel
theorem dX2_shareGivenTo_34 : decode cX2_shareGivenTo 34 = .ok (.ireturn, 1) := by decide +kernel
theorem dX2_gainers_0 : decode cX2_gainers 0 = .ok (.iconst 0, 1) := by decide +kernel
theorem dX2_gainers_1 : decode cX2_gainers 1 = .ok (.istore_n 1, 1) := by decide +kernel
theorem dX2_gainers_2 : decode cX2_gainers 2 = .ok (.iconst 0, 1) := by decide +kernel
theorem dX2_gainers_3 : decode cX2_gainers 3 = .ok (.istore_n 2, 1) := by decide +kernel
theorem dX2_gainers_4 : decode cX2_gainers 4 = .ok (.iload_n 2, 1) := by decide +kernel
theorem dX2_gainers_5 : decode cX2_gainers 5 = .ok (.aload_n 0, 1) := by decide +kernel
theorem dX2_gainers_6 : decode cX2_gainers 6 = .ok (.getfield 28, 3) := by decide +kernel
theorem dX2_gainers_9 : decode cX2_gainers 9 = .ok (.if_icmp .ge 21, 3) := by decide +kernel
theorem dX2_gainers_12 : decode cX2_gainers 12 = .ok (.aload_n 0, 1) := by decide +kernel
theorem dX2_gainers_13 : decode cX2_gainers 13 = .ok (.getfield 21, 3) := by decide +kernel
theorem dX2_gainers_16 : decode cX2_gainers 16 = .ok (.iload_n 2, 1) := by decide +kernel
theorem dX2_gainers_17 : decode cX2_gainers 17 = .ok (.iaload, 1) := by decide +kernel
theorem dX2_gainers_18 : decode cX2_gainers 18 = .ok (.ifCond .le 6, 3) := by decide +kernel
theorem dX2_gainers_21 : decode cX2_gainers 21 = .ok (.iinc 1 1, 3) := by decide +kernel
theorem dX2_gainers_24 : decode cX2_gainers 24 = .ok (.iinc 2 1, 3) := by decide +kernel
theorem dX2_gainers_27 : decode cX2_gainers 27 = .ok (.goto (-23), 3) := by decide +kernel
theorem dX2_gainers_30 : decode cX2_gainers 30 = .ok (.iload_n 1, 1) := by decide +kernel
theorem dX2_gainers_31 : decode cX2_gainers 31 = .ok (.ireturn, 1) := by decide +kernel
set_option maxRecDepth 20000 in
theorem ggX2_shareOnce_X2_fillFromFront : GoodIn wsX2_shareOnce wsX2_fillFromFront := goodIn_r _ [10, 3, 1, 2, 11, 12, 13, 9, 14, 5, 15, 16, 17, 18, 19, 4, 20, 34, 35, 36, 37, 38, 39, 40, 41] (by decide +kernel) (by decide +kernel)
set_option maxRecDepth 20000 in
theorem gX2_shareOnce_X2_fillFromFront : GoodIn wsX2_shareOnce (wsV RX2 54 RX2 yX2_fillFromFront wsX2_fillFromFront) := goodIn_app (goodIn_of _ (by decide +kernel)) ggX2_shareOnce_X2_fillFromFront
set_option maxRecDepth 20000 in
theorem ggX2_shareOnce_X2_fillInLooks : GoodIn wsX2_shareOnce wsX2_fillInLooks := goodIn_r _ [24, 3, 1, 2, 4, 11, 12, 13, 9, 14, 5, 15, 16, 17, 18, 19, 20, 34, 35, 36, 37, 38, 39, 40, 41] (by decide +kernel) (by decide +kernel)
set_option maxRecDepth 20000 in
theorem gX2_shareOnce_X2_fillInLooks : GoodIn wsX2_shareOnce (wsV RX2 57 RX2 yX2_fillInLooks wsX2_fillInLooks) := goodIn_app (goodIn_of _ (by decide +kernel)) ggX2_shareOnce_X2_fillInLooks
set_option maxRecDepth 20000 in
theorem ggX2_shareOnce_X2_shareRestByPoints : GoodIn wsX2_shareOnce wsX2_shareRestByPoints := goodIn_r _ [28, 2, 1, 3, 4, 20, 5, 29, 30, 31, 32, 9, 33, 34, 35, 36, 37, 38, 39, 40, 41] (by decide +kernel) (by decide +kernel)
set_option maxRecDepth 20000 in
theorem gX2_shareOnce_X2_shareRestByPoints : GoodIn wsX2_shareOnce (wsV RX2 60 RX2 yX2_shareRestByPoints wsX2_shareRestByPoints) := goodIn_app (goodIn_of _ (by decide +kernel)) ggX2_shareOnce_X2_shareRestByPoints
theorem dX2_shareOnce_0 : decode cX2_shareOnce 0 = .ok (.aload_n 0, 1) := by decide +kernel
theorem dX2_shareOnce_1 : decode cX2_shareOnce 1 = .ok (.iload_n 1, 1) := by decide +kernel
theorem dX2_shareOnce_2 : decode cX2_shareOnce 2 = .ok (.i2l, 1) := by decide +kernel
theorem dX2_shareOnce_3 : decode cX2_shareOnce 3 = .ok (.putfield 47, 3) := by decide +kernel
theorem dX2_shareOnce_6 : decode cX2_shareOnce 6 = .ok (.aload_n 0, 1) := by decide +kernel
theorem dX2_shareOnce_7 : decode cX2_shareOnce 7 = .ok (.lconst 0, 1) := by decide +kernel
theorem dX2_shareOnce_8 : decode cX2_shareOnce 8 = .ok (.putfield 51, 3) := by decide +kernel
theorem dX2_shareOnce_11 : decode cX2_shareOnce 11 = .ok (.iconst 0, 1) := by decide +kernel
theorem dX2_shareOnce_12 : decode cX2_shareOnce 12 = .ok (.istore_n 3, 1) := by decide +kernel
theorem dX2_shareOnce_13 : decode cX2_shareOnce 13 = .ok (.iload_n 3, 1) := by decide +kernel
theorem dX2_shareOnce_14 : decode cX2_shareOnce 14 = .ok (.aload_n 0, 1) := by decide +kernel
theorem dX2_shareOnce_15 : decode cX2_shareOnce 15 = .ok (.getfield 28, 3) := by decide +kernel
theorem dX2_shareOnce_18 : decode cX2_shareOnce 18 = .ok (.if_icmp .ge 32, 3) := by decide +kernel
theorem dX2_shareOnce_21 : decode cX2_shareOnce 21 = .ok (.aload_n 0, 1) := by decide +kernel
theorem dX2_shareOnce_22 : decode cX2_shareOnce 22 = .ok (.getfield 24, 3) := by decide +kernel
theorem dX2_shareOnce_25 : decode cX2_shareOnce 25 = .ok (.iload_n 3, 1) := by decide +kernel
theorem dX2_shareOnce_26 : decode cX2_shareOnce 26 = .ok (.iconst 0, 1) := by decide +kernel
theorem dX2_shareOnce_27 : decode cX2_shareOnce 27 = .ok (.bastore, 1) := by decide +kernel
theorem dX2_shareOnce_28 : decode cX2_shareOnce 28 = .ok (.aload_n 0, 1) := by decide +kernel
theorem dX2_shareOnce_29 : decode cX2_shareOnce 29 = .ok (.dup, 1) := by decide +kernel
theorem dX2_shareOnce_30 : decode cX2_shareOnce 30 = .ok (.getfield 51, 3) := by decide +kernel
theorem dX2_shareOnce_33 : decode cX2_shareOnce 33 = .ok (.aload_n 0, 1) := by decide +kernel
theorem dX2_shareOnce_34 : decode cX2_shareOnce 34 = .ok (.getfield 15, 3) := by decide +kernel
theorem dX2_shareOnce_37 : decode cX2_shareOnce 37 = .ok (.iload_n 3, 1) := by decide +kernel
theorem dX2_shareOnce_38 : decode cX2_shareOnce 38 = .ok (.iaload, 1) := by decide +kernel
theorem dX2_shareOnce_39 : decode cX2_shareOnce 39 = .ok (.i2l, 1) := by decide +kernel
theorem dX2_shareOnce_40 : decode cX2_shareOnce 40 = .ok (.ladd, 1) := by decide +kernel
theorem dX2_shareOnce_41 : decode cX2_shareOnce 41 = .ok (.putfield 51, 3) := by decide +kernel
theorem dX2_shareOnce_44 : decode cX2_shareOnce 44 = .ok (.iinc 3 1, 3) := by decide +kernel
theorem dX2_shareOnce_47 : decode cX2_shareOnce 47 = .ok (.goto (-34), 3) := by decide +kernel
theorem dX2_shareOnce_50 : decode cX2_shareOnce 50 = .ok (.iload_n 2, 1) := by decide +kernel
theorem dX2_shareOnce_51 : decode cX2_shareOnce 51 = .ok (.ifCond .eq 10, 3) := by decide +kernel
theorem dX2_shareOnce_54 : decode cX2_shareOnce 54 = .ok (.aload_n 0, 1) := by decide +kernel
theorem dX2_shareOnce_55 : decode cX2_shareOnce 55 = .ok (.invokevirtual 54, 3) := by decide +kernel
theorem dX2_shareOnce_58 : decode cX2_shareOnce 58 = .ok (.goto 7, 3) := by decide +kernel
theorem dX2_shareOnce_61 : decode cX2_shareOnce 61 = .ok (.aload_n 0, 1) := by decide +kernel
theorem dX2_shareOnce_62 : decode cX2_shareOnce 62 = .ok (.invokevirtual 57, 3) := by decide +kernel
theorem dX2_shareOnce_65 : decode cX2_shareOnce 65 = .ok (.aload_n 0, 1) := by decide +kernel
theorem dX2_shareOnce_66 : decode cX2_shareOnce 66 = .ok (.invokevirtual 60, 3) := by decide +kernel
theorem dX2_shareOnce_69 : decode cX2_shareOnce 69 = .ok (.return_, 1) := by decide +kernel
set_option maxRecDepth 20000 in
theorem ggX2_fillInLooks_X2_reachesRoom : GoodIn wsX2_fillInLooks wsX2_reachesRoom := goodIn_r _ [9, 10, 11, 17, 18, 19, 20, 21, 22, 23, 24] (by decide +kernel) (by decide +kernel)
set_option maxRecDepth 20000 in
theorem gX2_fillInLooks_X2_reachesRoom : GoodIn wsX2_fillInLooks (wsV RX2 63 RX2 yX2_reachesRoom wsX2_reachesRoom) := goodIn_app (goodIn_of _ (by decide +kernel)) ggX2_fillInLooks_X2_reachesRoom
set_option maxRecDepth 20000 in
theorem ggX2_fillInLooks_X2_fill : GoodIn wsX2_fillInLooks wsX2_fill := goodIn_r _ [15, 4, 16, 11, 2, 3, 10, 17, 18, 19, 20, 21, 22, 23, 24] (by decide +kernel) (by decide +kernel)
set_option maxRecDepth 20000 in
theorem gX2_fillInLooks_X2_fill : GoodIn wsX2_fillInLooks (wsV RX2 67 RX2 yX2_fill wsX2_fill) := goodIn_app (goodIn_of _ (by decide +kernel)) ggX2_fillInLooks_X2_fill
theorem dX2_fillInLooks_0 : decode cX2_fillInLooks 0 = .ok (.iconst 1, 1) := by decide +kernel
theorem dX2_fillInLooks_1 : decode cX2_fillInLooks 1 = .ok (.istore_n 1, 1) := by decide +kernel
theorem dX2_fillInLooks_2 : decode cX2_fillInLooks 2 = .ok (.iconst 0, 1) := by decide +kernel
theorem dX2_fillInLooks_3 : decode cX2_fillInLooks 3 = .ok (.istore_n 2, 1) := by decide +kernel
theorem dX2_fillInLooks_4 : decode cX2_fillInLooks 4 = .ok (.iload_n 1, 1) := by decide +kernel
theorem dX2_fillInLooks_5 : decode cX2_fillInLooks 5 = .ok (.ifCond .eq 78, 3) := by decide +kernel
theorem dX2_fillInLooks_8 : decode cX2_fillInLooks 8 = .ok (.iload_n 2, 1) := by decide +kernel
theorem dX2_fillInLooks_9 : decode cX2_fillInLooks 9 = .ok (.aload_n 0, 1) := by decide +kernel
theorem dX2_fillInLooks_10 : decode cX2_fillInLooks 10 = .ok (.getfield 28, 3) := by decide +kernel
theorem dX2_fillInLooks_13 : decode cX2_fillInLooks 13 = .ok (.if_icmp .gt 70, 3) := by decide +kernel
theorem dX2_fillInLooks_16 : decode cX2_fillInLooks 16 = .ok (.aload_n 0, 1) := by decide +kernel
theorem dX2_fillInLooks_17 : decode cX2_fillInLooks 17 = .ok (.getfield 47, 3) := by decide +kernel
theorem dX2_fillInLooks_20 : decode cX2_fillInLooks 20 = .ok (.lstore_n 3, 1) := by decide +kernel
theorem dX2_fillInLooks_21 : decode cX2_fillInLooks 21 = .ok (.aload_n 0, 1) := by decide +kernel
theorem dX2_fillInLooks_22 : decode cX2_fillInLooks 22 = .ok (.getfield 51, 3) := by decide +kernel
theorem dX2_fillInLooks_25 : decode cX2_fillInLooks 25 = .ok (.lstore 5, 2) := by decide +kernel
theorem dX2_fillInLooks_27 : decode cX2_fillInLooks 27 = .ok (.iconst 0, 1) := by decide +kernel
theorem dX2_fillInLooks_28 : decode cX2_fillInLooks 28 = .ok (.istore_n 1, 1) := by decide +kernel
theorem dX2_fillInLooks_29 : decode cX2_fillInLooks 29 = .ok (.iconst 0, 1) := by decide +kernel
theorem dX2_fillInLooks_30 : decode cX2_fillInLooks 30 = .ok (.istore 7, 2) := by decide +kernel
theorem dX2_fillInLooks_32 : decode cX2_fillInLooks 32 = .ok (.iload 7, 2) := by decide +kernel
theorem dX2_fillInLooks_34 : decode cX2_fillInLooks 34 = .ok (.aload_n 0, 1) := by decide +kernel
theorem dX2_fillInLooks_35 : decode cX2_fillInLooks 35 = .ok (.getfield 28, 3) := by decide +kernel
theorem dX2_fillInLooks_38 : decode cX2_fillInLooks 38 = .ok (.if_icmp .ge 39, 3) := by decide +kernel
theorem dX2_fillInLooks_41 : decode cX2_fillInLooks 41 = .ok (.aload_n 0, 1) := by decide +kernel
theorem dX2_fillInLooks_42 : decode cX2_fillInLooks 42 = .ok (.getfield 24, 3) := by decide +kernel
theorem dX2_fillInLooks_45 : decode cX2_fillInLooks 45 = .ok (.iload 7, 2) := by decide +kernel
theorem dX2_fillInLooks_47 : decode cX2_fillInLooks 47 = .ok (.baload, 1) := by decide +kernel
theorem dX2_fillInLooks_48 : decode cX2_fillInLooks 48 = .ok (.ifCond .ne 23, 3) := by decide +kernel
theorem dX2_fillInLooks_51 : decode cX2_fillInLooks 51 = .ok (.aload_n 0, 1) := by decide +kernel
theorem dX2_fillInLooks_52 : decode cX2_fillInLooks 52 = .ok (.iload 7, 2) := by decide +kernel
theorem dX2_fillInLooks_54 : decode cX2_fillInLooks 54 = .ok (.lload_n 3, 1) := by decide +kernel
theorem dX2_fillInLooks_55 : decode cX2_fillInLooks 55 = .ok (.lload 5, 2) := by decide +kernel
theorem dX2_fillInLooks_57 : decode cX2_fillInLooks 57 = .ok (.invokevirtual 63, 3) := by decide +kernel
theorem dX2_fillInLooks_60 : decode cX2_fillInLooks 60 = .ok (.ifCond .eq 11, 3) := by decide +kernel
theorem dX2_fillInLooks_63 : decode cX2_fillInLooks 63 = .ok (.aload_n 0, 1) := by decide +kernel
theorem dX2_fillInLooks_64 : decode cX2_fillInLooks 64 = .ok (.iload 7, 2) := by decide +kernel
theorem dX2_fillInLooks_66 : decode cX2_fillInLooks 66 = .ok (.invokevirtual 67, 3) := by decide +kernel
theorem dX2_fillInLooks_69 : decode cX2_fillInLooks 69 = .ok (.iconst 1, 1) := by decide +kernel
theorem dX2_fillInLooks_70 : decode cX2_fillInLooks 70 = .ok (.istore_n 1, 1) := by decide +kernel
theorem dX2_fillInLooks_71 : decode cX2_fillInLooks 71 = .ok (.iinc 7 1, 3) := by decide +kernel
theorem dX2_fillInLooks_74 : decode cX2_fillInLooks 74 = .ok (.goto (-42), 3) := by decide +kernel
theorem dX2_fillInLooks_77 : decode cX2_fillInLooks 77 = .ok (.iinc 2 1, 3) := by decide +kernel
theorem dX2_fillInLooks_80 : decode cX2_fillInLooks 80 = .ok (.goto (-76), 3) := by decide +kernel
theorem dX2_fillInLooks_83 : decode cX2_fillInLooks 83 = .ok (.return_, 1) := by decide +kernel
set_option maxRecDepth 20000 in
theorem ggX2_fillFromFront_X2_reachesRoom : GoodIn wsX2_fillFromFront wsX2_reachesRoom := goodIn_r _ [8, 9, 10, 17, 18, 19, 20, 21, 22, 23, 24] (by decide +kernel) (by decide +kernel)
set_option maxRecDepth 20000 in
theorem gX2_fillFromFront_X2_reachesRoom : GoodIn wsX2_fillFromFront (wsV RX2 63 RX2 yX2_reachesRoom wsX2_reachesRoom) := goodIn_app (goodIn_of _ (by decide +kernel)) ggX2_fillFromFront_X2_reachesRoom
set_option maxRecDepth 20000 in
theorem ggX2_fillFromFront_X2_fill : GoodIn wsX2_fillFromFront wsX2_fill := goodIn_r _ [14, 15, 16, 10, 2, 3, 9, 17, 18, 19, 20, 21, 22, 23, 24] (by decide +kernel) (by decide +kernel)
set_option maxRecDepth 20000 in
theorem gX2_fillFromFront_X2_fill : GoodIn wsX2_fillFromFront (wsV RX2 67 RX2 yX2_fill wsX2_fill) := goodIn_app (goodIn_of _ (by decide +kernel)) ggX2_fillFromFront_X2_fill
theorem dX2_fillFromFront_0 : decode cX2_fillFromFront 0 = .ok (.iconst 0, 1) := by decide +kernel
theorem dX2_fillFromFront_1 : decode cX2_fillFromFront 1 = .ok (.istore_n 1, 1) := by decide +kernel
theorem dX2_fillFromFront_2 : decode cX2_fillFromFront 2 = .ok (.iload_n 1, 1) := by decide +kernel
theorem dX2_fillFromFront_3 : decode cX2_fillFromFront 3 = .ok (.aload_n 0, 1) := by decide +kernel
theorem dX2_fillFromFront_4 : decode cX2_fillFromFront 4 = .ok (.getfield 28, 3) := by decide +kernel
theorem dX2_fillFromFront_7 : decode cX2_fillFromFront 7 = .ok (.if_icmp .ge 30, 3) := by decide +kernel
theorem dX2_fillFromFront_10 : decode cX2_fillFromFront 10 = .ok (.aload_n 0, 1) := by decide +kernel
theorem dX2_fillFromFront_11 : decode cX2_fillFromFront 11 = .ok (.iload_n 1, 1) := by decide +kernel
theorem dX2_fillFromFront_12 : decode cX2_fillFromFront 12 = .ok (.aload_n 0, 1) := by decide +kernel
theorem dX2_fillFromFront_13 : decode cX2_fillFromFront 13 = .ok (.getfield 47, 3) := by decide +kernel
theorem dX2_fillFromFront_16 : decode cX2_fillFromFront 16 = .ok (.aload_n 0, 1) := by decide +kernel
theorem dX2_fillFromFront_17 : decode cX2_fillFromFront 17 = .ok (.getfield 51, 3) := by decide +kernel
theorem dX2_fillFromFront_20 : decode cX2_fillFromFront 20 = .ok (.invokevirtual 63, 3) := by decide +kernel
theorem dX2_fillFromFront_23 : decode cX2_fillFromFront 23 = .ok (.ifCond .eq 14, 3) := by decide +kernel
theorem dX2_fillFromFront_26 : decode cX2_fillFromFront 26 = .ok (.aload_n 0, 1) := by decide +kernel
theorem dX2_fillFromFront_27 : decode cX2_fillFromFront 27 = .ok (.iload_n 1, 1) := by decide +kernel
theorem dX2_fillFromFront_28 : decode cX2_fillFromFront 28 = .ok (.invokevirtual 67, 3) := by decide +kernel
theorem dX2_fillFromFront_31 : decode cX2_fillFromFront 31 = .ok (.iinc 1 1, 3) := by decide +kernel
theorem dX2_fillFromFront_34 : decode cX2_fillFromFront 34 = .ok (.goto (-32), 3) := by decide +kernel
theorem dX2_fillFromFront_37 : decode cX2_fillFromFront 37 = .ok (.return_, 1) := by decide +kernel
theorem dX2_reachesRoom_0 : decode cX2_reachesRoom 0 = .ok (.aload_n 0, 1) := by decide +kernel
theorem dX2_reachesRoom_1 : decode cX2_reachesRoom 1 = .ok (.getfield 15, 3) := by decide +kernel
theorem dX2_reachesRoom_4 : decode cX2_reachesRoom 4 = .ok (.iload_n 1, 1) := by decide +kernel
theorem dX2_reachesRoom_5 : decode cX2_reachesRoom 5 = .ok (.iaload, 1) := by decide +kernel
theorem dX2_reachesRoom_6 : decode cX2_reachesRoom 6 = .ok (.i2l, 1) := by decide +kernel
theorem dX2_reachesRoom_7 : decode cX2_reachesRoom 7 = .ok (.lload_n 2, 1) := by decide +kernel
theorem dX2_reachesRoom_8 : decode cX2_reachesRoom 8 = .ok (.lmul, 1) := by decide +kernel
theorem dX2_reachesRoom_9 : decode cX2_reachesRoom 9 = .ok (.aload_n 0, 1) := by decide +kernel
theorem dX2_reachesRoom_10 : decode cX2_reachesRoom 10 = .ok (.getfield 18, 3) := by decide +kernel
theorem dX2_reachesRoom_13 : decode cX2_reachesRoom 13 = .ok (.iload_n 1, 1) := by decide +kernel
theorem dX2_reachesRoom_14 : decode cX2_reachesRoom 14 = .ok (.iaload, 1) := by decide +kernel
theorem dX2_reachesRoom_15 : decode cX2_reachesRoom 15 = .ok (.i2l, 1) := by decide +kernel
theorem dX2_reachesRoom_16 : decode cX2_reachesRoom 16 = .ok (.lload 4, 2) := by decide +kernel
theorem dX2_reachesRoom_18 : decode cX2_reachesRoom 18 = .ok (.lmul, 1) := by decide +kernel
theorem dX2_reachesRoom_19 : decode cX2_reachesRoom 19 = .ok (.lcmp, 1) := by decide +kernel
theorem dX2_reachesRoom_20 : decode cX2_reachesRoom 20 = .ok (.ifCond .lt 7, 3) := by decide +kernel
theorem dX2_reachesRoom_23 : decode cX2_reachesRoom 23 = .ok (.iconst 1, 1) := by decide +kernel
theorem dX2_reachesRoom_24 : decode cX2_reachesRoom 24 = .ok (.goto 4, 3) := by decide +kernel
theorem dX2_reachesRoom_27 : decode cX2_reachesRoom 27 = .ok (.iconst 0, 1) := by decide +kernel
theorem dX2_reachesRoom_28 : decode cX2_reachesRoom 28 = .ok (.ireturn, 1) := by decide +kernel
theorem dX2_fill_0 : decode cX2_fill 0 = .ok (.aload_n 0, 1) := by decide +kernel
theorem dX2_fill_1 : decode cX2_fill 1 = .ok (.getfield 24, 3) := by decide +kernel
theorem dX2_fill_4 : decode cX2_fill 4 = .ok (.iload_n 1, 1) := by decide +kernel
theorem dX2_fill_5 : decode cX2_fill 5 = .ok (.iconst 1, 1) := by decide +kernel
theorem dX2_fill_6 : decode cX2_fill 6 = .ok (.bastore, 1) := by decide +kernel
theorem dX2_fill_7 : decode cX2_fill 7 = .ok (.aload_n 0, 1) := by decide +kernel
theorem dX2_fill_8 : decode cX2_fill 8 = .ok (.getfield 21, 3) := by decide +kernel
theorem dX2_fill_11 : decode cX2_fill 11 = .ok (.iload_n 1, 1) := by decide +kernel
theorem dX2_fill_12 : decode cX2_fill 12 = .ok (.aload_n 0, 1) := by decide +kernel
theorem dX2_fill_13 : decode cX2_fill 13 = .ok (.getfield 18, 3) := by decide +kernel
theorem dX2_fill_16 : decode cX2_fill 16 = .ok (.iload_n 1, 1) := by decide +kernel
theorem dX2_fill_17 : decode cX2_fill 17 = .ok (.iaload, 1) := by decide +kernel
theorem dX2_fill_18 : decode cX2_fill 18 = .ok (.iastore, 1) := by decide +kernel
theorem dX2_fill_19 : decode cX2_fill 19 = .ok (.aload_n 0, 1) := by decide +kernel
theorem dX2_fill_20 : decode cX2_fill 20 = .ok (.dup, 1) := by decide +kernel
theorem dX2_fill_21 : decode cX2_fill 21 = .ok (.getfield 47, 3) := by decide +kernel
theorem dX2_fill_24 : decode cX2_fill 24 = .ok (.aload_n 0, 1) := by decide +kernel
theorem dX2_fill_25 : decode cX2_fill 25 = .ok (.getfield 18, 3) := by decide +kernel
theorem dX2_fill_28 : decode cX2_fill 28 = .ok (.iload_n 1, 1) := by decide +kernel
theorem dX2_fill_29 : decode cX2_fill 29 = .ok (.iaload, 1) := by decide +kernel
theorem dX2_fill_30 : decode cX2_fill 30 = .ok (.i2l, 1) := by decide +kernel
theorem dX2_fill_31 : decode cX2_fill 31 = .ok (.lsub, 1) := by decide +kernel
theorem dX2_fill_32 : decode cX2_fill 32 = .ok (.putfield 47, 3) := by decide +kernel
theorem dX2_fill_35 : decode cX2_fill 35 = .ok (.aload_n 0, 1) := by decide +kernel
theorem dX2_fill_36 : decode cX2_fill 36 = .ok (.dup, 1) := by decide +kernel
theorem dX2_fill_37 : decode cX2_fill 37 = .ok (.getfield 51, 3) := by decide +kernel
theorem dX2_fill_40 : decode cX2_fill 40 = .ok (.aload_n 0, 1) := by decide +kernel
theorem dX2_fill_41 : decode cX2_fill 41 = .ok (.getfield 15, 3) := by decide +kernel
theorem dX2_fill_44 : decode cX2_fill 44 = .ok (.iload_n 1, 1) := by decide +kernel
theorem dX2_fill_45 : decode cX2_fill 45 = .ok (.iaload, 1) := by decide +kernel
theorem dX2_fill_46 : decode cX2_fill 46 = .ok (.i2l, 1) := by decide +kernel
theorem dX2_fill_47 : decode cX2_fill 47 = .ok (.lsub, 1) := by decide +kernel
theorem dX2_fill_48 : decode cX2_fill 48 = .ok (.putfield 51, 3) := by decide +kernel
theorem dX2_fill_51 : decode cX2_fill 51 = .ok (.return_, 1) := by decide +kernel
set_option maxRecDepth 20000 in
theorem ggX2_shareRestByPoints_X2_notFullBelow : GoodIn wsX2_shareRestByPoints wsX2_notFullBelow := goodIn_r _ [12, 3, 4, 7, 13, 14, 15, 16, 17, 18, 19, 20] (by decide +kernel) (by decide +kernel)
set_option maxRecDepth 20000 in
theorem gX2_shareRestByPoints_X2_notFullBelow : GoodIn wsX2_shareRestByPoints (wsV RX2 70 RX2 yX2_notFullBelow wsX2_notFullBelow) := goodIn_app (goodIn_of _ (by decide +kernel)) ggX2_shareRestByPoints_X2_notFullBelow
theorem dX2_shareRestByPoints_0 : decode cX2_shareRestByPoints 0 = .ok (.aload_n 0, 1) := by decide +kernel
theorem dX2_shareRestByPoints_1 : decode cX2_shareRestByPoints 1 = .ok (.getfield 51, 3) := by decide +kernel
theorem dX2_shareRestByPoints_4 : decode cX2_shareRestByPoints 4 = .ok (.lconst 1, 1) := by decide +kernel
theorem dX2_shareRestByPoints_5 : decode cX2_shareRestByPoints 5 = .ok (.lcmp, 1) := by decide +kernel
theorem dX2_shareRestByPoints_6 : decode cX2_shareRestByPoints 6 = .ok (.ifCond .ge 4, 3) := by decide +kernel
theorem dX2_shareRestByPoints_9 : decode cX2_shareRestByPoints 9 = .ok (.return_, 1) := by decide +kernel
theorem dX2_shareRestByPoints_10 : decode cX2_shareRestByPoints 10 = .ok (.aload_n 0, 1) := by decide +kernel
theorem dX2_shareRestByPoints_11 : decode cX2_shareRestByPoints 11 = .ok (.getfield 47, 3) := by decide +kernel
theorem dX2_shareRestByPoints_14 : decode cX2_shareRestByPoints 14 = .ok (.lstore_n 1, 1) := by decide +kernel
theorem dX2_shareRestByPoints_15 : decode cX2_shareRestByPoints 15 = .ok (.iconst 0, 1) := by decide +kernel
theorem dX2_shareRestByPoints_16 : decode cX2_shareRestByPoints 16 = .ok (.istore_n 3, 1) := by decide +kernel
theorem dX2_shareRestByPoints_17 : decode cX2_shareRestByPoints 17 = .ok (.iload_n 3, 1) := by decide +kernel
theorem dX2_shareRestByPoints_18 : decode cX2_shareRestByPoints 18 = .ok (.aload_n 0, 1) := by decide +kernel
theorem dX2_shareRestByPoints_19 : decode cX2_shareRestByPoints 19 = .ok (.getfield 28, 3) := by decide +kernel
theorem dX2_shareRestByPoints_22 : decode cX2_shareRestByPoints 22 = .ok (.if_icmp .ge 52, 3) := by decide +kernel
theorem dX2_shareRestByPoints_25 : decode cX2_shareRestByPoints 25 = .ok (.aload_n 0, 1) := by decide +kernel
theorem dX2_shareRestByPoints_26 : decode cX2_shareRestByPoints 26 = .ok (.getfield 24, 3) := by decide +kernel
theorem dX2_shareRestByPoints_29 : decode cX2_shareRestByPoints 29 = .ok (.iload_n 3, 1) := by decide +kernel
theorem dX2_shareRestByPoints_30 : decode cX2_shareRestByPoints 30 = .ok (.baload, 1) := by decide +kernel
theorem dX2_shareRestByPoints_31 : decode cX2_shareRestByPoints 31 = .ok (.ifCond .ne 37, 3) := by decide +kernel
theorem dX2_shareRestByPoints_34 : decode cX2_shareRestByPoints 34 = .ok (.aload_n 0, 1) := by decide +kernel
theorem dX2_shareRestByPoints_35 : decode cX2_shareRestByPoints 35 = .ok (.getfield 21, 3) := by decide +kernel
theorem dX2_shareRestByPoints_38 : decode cX2_shareRestByPoints 38 = .ok (.iload_n 3, 1) := by decide +kernel
theorem dX2_shareRestByPoints_39 : decode cX2_shareRestByPoints 39 = .ok (.aload_n 0, 1) := by decide +kernel
theorem dX2_shareRestByPoints_40 : decode cX2_shareRestByPoints 40 = .ok (.getfield 15, 3) := by decide +kernel
theorem dX2_shareRestByPoints_43 : decode cX2_shareRestByPoints 43 = .ok (.iload_n 3, 1) := by decide +kernel
theorem dX2_shareRestByPoints_44 : decode cX2_shareRestByPoints 44 = .ok (.iaload, 1) := by decide +kernel
theorem dX2_shareRestByPoints_45 : decode cX2_shareRestByPoints 45 = .ok (.i2l, 1) := by decide +kernel
theorem dX2_shareRestByPoints_46 : decode cX2_shareRestByPoints 46 = .ok (.aload_n 0, 1) := by decide +kernel
theorem dX2_shareRestByPoints_47 : decode cX2_shareRestByPoints 47 = .ok (.getfield 47, 3) := by decide +kernel
theorem dX2_shareRestByPoints_50 : decode cX2_shareRestByPoints 50 = .ok (.lmul, 1) := by decide +kernel
theorem dX2_shareRestByPoints_51 : decode cX2_shareRestByPoints 51 = .ok (.aload_n 0, 1) := by decide +kernel
theorem dX2_shareRestByPoints_52 : decode cX2_shareRestByPoints 52 = .ok (.getfield 51, 3) := by decide +kernel
theorem dX2_shareRestByPoints_55 : decode cX2_shareRestByPoints 55 = .ok (.ldiv, 1) := by decide +kernel
theorem dX2_shareRestByPoints_56 : decode cX2_shareRestByPoints 56 = .ok (.l2i, 1) := by decide +kernel
theorem dX2_shareRestByPoints_57 : decode cX2_shareRestByPoints 57 = .ok (.iastore, 1) := by decide +kernel
theorem dX2_shareRestByPoints_58 : decode cX2_shareRestByPoints 58 = .ok (.lload_n 1, 1) := by decide +kernel
theorem dX2_shareRestByPoints_59 : decode cX2_shareRestByPoints 59 = .ok (.aload_n 0, 1) := by decide +kernel
theorem dX2_shareRestByPoints_60 : decode cX2_shareRestByPoints 60 = .ok (.getfield 21, 3) := by decide +kernel
theorem dX2_shareRestByPoints_63 : decode cX2_shareRestByPoints 63 = .ok (.iload_n 3, 1) := by decide +kernel
theorem dX2_shareRestByPoints_64 : decode cX2_shareRestByPoints 64 = .ok (.iaload, 1) := by decide +kernel
theorem dX2_shareRestByPoints_65 : decode cX2_shareRestByPoints 65 = .ok (.i2l, 1) := by decide +kernel
theorem dX2_shareRestByPoints_66 : decode cX2_shareRestByPoints 66 = .ok (.lsub, 1) := by decide +kernel
theorem dX2_shareRestByPoints_67 : decode cX2_shareRestByPoints 67 = .ok (.lstore_n 1, 1) := by decide +kernel
theorem dX2_shareRestByPoints_68 : decode cX2_shareRestByPoints 68 = .ok (.iinc 3 1, 3) := by decide +kernel
theorem dX2_shareRestByPoints_71 : decode cX2_shareRestByPoints 71 = .ok (.goto (-54), 3) := by decide +kernel
theorem dX2_shareRestByPoints_74 : decode cX2_shareRestByPoints 74 = .ok (.iconst 0, 1) := by decide +kernel
theorem dX2_shareRestByPoints_75 : decode cX2_shareRestByPoints 75 = .ok (.istore_n 3, 1) := by decide +kernel
theorem dX2_shareRestByPoints_76 : decode cX2_shareRestByPoints 76 = .ok (.iload_n 3, 1) := by decide +kernel
theorem dX2_shareRestByPoints_77 : decode cX2_shareRestByPoints 77 = .ok (.aload_n 0, 1) := by decide +kernel
theorem dX2_shareRestByPoints_78 : decode cX2_shareRestByPoints 78 = .ok (.getfield 28, 3) := by decide +kernel
theorem dX2_shareRestByPoints_81 : decode cX2_shareRestByPoints 81 = .ok (.if_icmp .ge 44, 3) := by decide +kernel
theorem dX2_shareRestByPoints_84 : decode cX2_shareRestByPoints 84 = .ok (.aload_n 0, 1) := by decide +kernel
theorem dX2_shareRestByPoints_85 : decode cX2_shareRestByPoints 85 = .ok (.getfield 24, 3) := by decide +kernel
theorem dX2_shareRestByPoints_88 : decode cX2_shareRestByPoints 88 = .ok (.iload_n 3, 1) := by decide +kernel
theorem dX2_shareRestByPoints_89 : decode cX2_shareRestByPoints 89 = .ok (.baload, 1) := by decide +kernel
theorem dX2_shareRestByPoints_90 : decode cX2_shareRestByPoints 90 = .ok (.ifCond .ne 29, 3) := by decide +kernel
theorem dX2_shareRestByPoints_93 : decode cX2_shareRestByPoints 93 = .ok (.aload_n 0, 1) := by decide +kernel
theorem dX2_shareRestByPoints_94 : decode cX2_shareRestByPoints 94 = .ok (.aload_n 0, 1) := by decide +kernel
theorem dX2_shareRestByPoints_95 : decode cX2_shareRestByPoints 95 = .ok (.getfield 9, 3) := by decide +kernel
theorem dX2_shareRestByPoints_98 : decode cX2_shareRestByPoints 98 = .ok (.iload_n 3, 1) := by decide +kernel
theorem dX2_shareRestByPoints_99 : decode cX2_shareRestByPoints 99 = .ok (.iaload, 1) := by decide +kernel
theorem dX2_shareRestByPoints_100 : decode cX2_shareRestByPoints 100 = .ok (.invokevirtual 70, 3) := by decide +kernel
theorem dX2_shareRestByPoints_103 : decode cX2_shareRestByPoints 103 = .ok (.i2l, 1) := by decide +kernel
theorem dX2_shareRestByPoints_104 : decode cX2_shareRestByPoints 104 = .ok (.lload_n 1, 1) := by decide +kernel
theorem dX2_shareRestByPoints_105 : decode cX2_shareRestByPoints 105 = .ok (.lcmp, 1) := by decide +kernel
theorem dX2_shareRestByPoints_106 : decode cX2_shareRestByPoints 106 = .ok (.ifCond .ge 13, 3) := by decide +kernel
theorem dX2_shareRestByPoints_109 : decode cX2_shareRestByPoints 109 = .ok (.aload_n 0, 1) := by decide +kernel
theorem dX2_shareRestByPoints_110 : decode cX2_shareRestByPoints 110 = .ok (.getfield 21, 3) := by decide +kernel
theorem dX2_shareRestByPoints_113 : decode cX2_shareRestByPoints 113 = .ok (.iload_n 3, 1) := by decide +kernel
theorem dX2_shareRestByPoints_114 : decode cX2_shareRestByPoints 114 = .ok (.dup2, 1) := by decide +kernel
theorem dX2_shareRestByPoints_115 : decode cX2_shareRestByPoints 115 = .ok (.iaload, 1) := by decide +kernel
theorem dX2_shareRestByPoints_116 : decode cX2_shareRestByPoints 116 = .ok (.iconst 1, 1) := by decide +kernel
theorem dX2_shareRestByPoints_117 : decode cX2_shareRestByPoints 117 = .ok (.iadd, 1) := by decide +kernel
theorem dX2_shareRestByPoints_118 : decode cX2_shareRestByPoints 118 = .ok (.iastore, 1) := by decide +kernel
theorem dX2_shareRestByPoints_119 : decode cX2_shareRestByPoints 119 = .ok (.iinc 3 1, 3) := by decide +kernel
theorem dX2_shareRestByPoints_122 : decode cX2_shareRestByPoints 122 = .ok (.goto (-46), 3) := by decide +kernel
theorem dX2_shareRestByPoints_125 : decode cX2_shareRestByPoints 125 = .ok (.return_, 1) := by decide +kernel
theorem dX2_notFullBelow_0 : decode cX2_notFullBelow 0 = .ok (.iconst 0, 1) := by decide +kernel
theorem dX2_notFullBelow_1 : decode cX2_notFullBelow 1 = .ok (.istore_n 2, 1) := by decide +kernel
theorem dX2_notFullBelow_2 : decode cX2_notFullBelow 2 = .ok (.iconst 0, 1) := by decide +kernel
theorem dX2_notFullBelow_3 : decode cX2_notFullBelow 3 = .ok (.istore_n 3, 1) := by decide +kernel
theorem dX2_notFullBelow_4 : decode cX2_notFullBelow 4 = .ok (.iload_n 3, 1) := by decide +kernel
theorem dX2_notFullBelow_5 : decode cX2_notFullBelow 5 = .ok (.aload_n 0, 1) := by decide +kernel
theorem dX2_notFullBelow_6 : decode cX2_notFullBelow 6 = .ok (.getfield 28, 3) := by decide +kernel
theorem dX2_notFullBelow_9 : decode cX2_notFullBelow 9 = .ok (.if_icmp .ge 31, 3) := by decide +kernel
theorem dX2_notFullBelow_12 : decode cX2_notFullBelow 12 = .ok (.aload_n 0, 1) := by decide +kernel
theorem dX2_notFullBelow_13 : decode cX2_notFullBelow 13 = .ok (.getfield 24, 3) := by decide +kernel
theorem dX2_notFullBelow_16 : decode cX2_notFullBelow 16 = .ok (.iload_n 3, 1) := by decide +kernel
theorem dX2_notFullBelow_17 : decode cX2_notFullBelow 17 = .ok (.baload, 1) := by decide +kernel
theorem dX2_notFullBelow_18 : decode cX2_notFullBelow 18 = .ok (.ifCond .ne 16, 3) := by decide +kernel
theorem dX2_notFullBelow_21 : decode cX2_notFullBelow 21 = .ok (.aload_n 0, 1) := by decide +kernel
theorem dX2_notFullBelow_22 : decode cX2_notFullBelow 22 = .ok (.getfield 9, 3) := by decide +kernel
theorem dX2_notFullBelow_25 : decode cX2_notFullBelow 25 = .ok (.iload_n 3, 1) := by decide +kernel
theorem dX2_notFullBelow_26 : decode cX2_notFullBelow 26 = .ok (.iaload, 1) := by decide +kernel
theorem dX2_notFullBelow_27 : decode cX2_notFullBelow 27 = .ok (.iload_n 1, 1) := by decide +kernel
theorem dX2_notFullBelow_28 : decode cX2_notFullBelow 28 = .ok (.if_icmp .ge 6, 3) := by decide +kernel
theorem dX2_notFullBelow_31 : decode cX2_notFullBelow 31 = .ok (.iinc 2 1, 3) := by decide +kernel
theorem dX2_notFullBelow_34 : decode cX2_notFullBelow 34 = .ok (.iinc 3 1, 3) := by decide +kernel
theorem dX2_notFullBelow_37 : decode cX2_notFullBelow 37 = .ok (.goto (-33), 3) := by decide +kernel
theorem dX2_notFullBelow_40 : decode cX2_notFullBelow 40 = .ok (.iload_n 2, 1) := by decide +kernel
theorem dX2_notFullBelow_41 : decode cX2_notFullBelow 41 = .ok (.ireturn, 1) := by decide +kernel
theorem dX2_placeOfSmallest_0 : decode cX2_placeOfSmallest 0 = .ok (.iconst (-1), 1) := by decide +kernel
theorem dX2_placeOfSmallest_1 : decode cX2_placeOfSmallest 1 = .ok (.istore_n 1, 1) := by decide +kernel
theorem dX2_placeOfSmallest_2 : decode cX2_placeOfSmallest 2 = .ok (.iconst 0, 1) := by decide +kernel
theorem dX2_placeOfSmallest_3 : decode cX2_placeOfSmallest 3 = .ok (.istore_n 2, 1) := by decide +kernel
theorem dX2_placeOfSmallest_4 : decode cX2_placeOfSmallest 4 = .ok (.iload_n 2, 1) := by decide +kernel
theorem dX2_placeOfSmallest_5 : decode cX2_placeOfSmallest 5 = .ok (.aload_n 0, 1) := by decide +kernel
theorem dX2_placeOfSmallest_6 : decode cX2_placeOfSmallest 6 = .ok (.getfield 28, 3) := by decide +kernel
theorem dX2_placeOfSmallest_9 : decode cX2_placeOfSmallest 9 = .ok (.if_icmp .ge 61, 3) := by decide +kernel
theorem dX2_placeOfSmallest_12 : decode cX2_placeOfSmallest 12 = .ok (.iload_n 1, 1) := by decide +kernel
theorem dX2_placeOfSmallest_13 : decode cX2_placeOfSmallest 13 = .ok (.iconst (-1), 1) := by decide +kernel
theorem dX2_placeOfSmallest_14 : decode cX2_placeOfSmallest 14 = .ok (.if_icmp .eq 48, 3) := by decide +kernel
theorem dX2_placeOfSmallest_17 : decode cX2_placeOfSmallest 17 = .ok (.aload_n 0, 1) := by decide +kernel
theorem dX2_placeOfSmallest_18 : decode cX2_placeOfSmallest 18 = .ok (.getfield 21, 3) := by decide +kernel
theorem dX2_placeOfSmallest_21 : decode cX2_placeOfSmallest 21 = .ok (.iload_n 2, 1) := by decide +kernel
theorem dX2_placeOfSmallest_22 : decode cX2_placeOfSmallest 22 = .ok (.iaload, 1) := by decide +kernel
theorem dX2_placeOfSmallest_23 : decode cX2_placeOfSmallest 23 = .ok (.aload_n 0, 1) := by decide +kernel
theorem dX2_placeOfSmallest_24 : decode cX2_placeOfSmallest 24 = .ok (.getfield 21, 3) := by decide +kernel
theorem dX2_placeOfSmallest_27 : decode cX2_placeOfSmallest 27 = .ok (.iload_n 1, 1) := by decide +kernel
theorem dX2_placeOfSmallest_28 : decode cX2_placeOfSmallest 28 = .ok (.iaload, 1) := by decide +kernel
theorem dX2_placeOfSmallest_29 : decode cX2_placeOfSmallest 29 = .ok (.if_icmp .lt 33, 3) := by decide +kernel
theorem dX2_placeOfSmallest_32 : decode cX2_placeOfSmallest 32 = .ok (.aload_n 0, 1) := by decide +kernel
theorem dX2_placeOfSmallest_33 : decode cX2_placeOfSmallest 33 = .ok (.getfield 21, 3) := by decide +kernel
theorem dX2_placeOfSmallest_36 : decode cX2_placeOfSmallest 36 = .ok (.iload_n 2, 1) := by decide +kernel
theorem dX2_placeOfSmallest_37 : decode cX2_placeOfSmallest 37 = .ok (.iaload, 1) := by decide +kernel
theorem dX2_placeOfSmallest_38 : decode cX2_placeOfSmallest 38 = .ok (.aload_n 0, 1) := by decide +kernel
theorem dX2_placeOfSmallest_39 : decode cX2_placeOfSmallest 39 = .ok (.getfield 21, 3) := by decide +kernel
theorem dX2_placeOfSmallest_42 : decode cX2_placeOfSmallest 42 = .ok (.iload_n 1, 1) := by decide +kernel
theorem dX2_placeOfSmallest_43 : decode cX2_placeOfSmallest 43 = .ok (.iaload, 1) := by decide +kernel
theorem dX2_placeOfSmallest_44 : decode cX2_placeOfSmallest 44 = .ok (.if_icmp .ne 20, 3) := by decide +kernel
theorem dX2_placeOfSmallest_47 : decode cX2_placeOfSmallest 47 = .ok (.aload_n 0, 1) := by decide +kernel
theorem dX2_placeOfSmallest_48 : decode cX2_placeOfSmallest 48 = .ok (.getfield 9, 3) := by decide +kernel
theorem dX2_placeOfSmallest_51 : decode cX2_placeOfSmallest 51 = .ok (.iload_n 2, 1) := by decide +kernel
theorem dX2_placeOfSmallest_52 : decode cX2_placeOfSmallest 52 = .ok (.iaload, 1) := by decide +kernel
theorem dX2_placeOfSmallest_53 : decode cX2_placeOfSmallest 53 = .ok (.aload_n 0, 1) := by decide +kernel
theorem dX2_placeOfSmallest_54 : decode cX2_placeOfSmallest 54 = .ok (.getfield 9, 3) := by decide +kernel
theorem dX2_placeOfSmallest_57 : decode cX2_placeOfSmallest 57 = .ok (.iload_n 1, 1) := by decide +kernel
theorem dX2_placeOfSmallest_58 : decode cX2_placeOfSmallest 58 = .ok (.iaload, 1) := by decide +kernel
theorem dX2_placeOfSmallest_59 : decode cX2_placeOfSmallest 59 = .ok (.if_icmp .le 5, 3) := by decide +kernel
theorem dX2_placeOfSmallest_62 : decode cX2_placeOfSmallest 62 = .ok (.iload_n 2, 1) := by decide +kernel
theorem dX2_placeOfSmallest_63 : decode cX2_placeOfSmallest 63 = .ok (.istore_n 1, 1) := by decide +kernel
theorem dX2_placeOfSmallest_64 : decode cX2_placeOfSmallest 64 = .ok (.iinc 2 1, 3) := by decide +kernel
theorem dX2_placeOfSmallest_67 : decode cX2_placeOfSmallest 67 = .ok (.goto (-63), 3) := by decide +kernel
theorem dX2_placeOfSmallest_70 : decode cX2_placeOfSmallest 70 = .ok (.iload_n 1, 1) := by decide +kernel
theorem dX2_placeOfSmallest_71 : decode cX2_placeOfSmallest 71 = .ok (.ireturn, 1) := by decide +kernel
set_option maxRecDepth 20000 in
theorem ggX2_takeOut_X2_copyPlace : GoodIn wsX2_takeOut wsX2_copyPlace := goodIn_r _ [6, 7, 8, 9, 10, 11, 12, 13, 14, 15, 16, 17] (by decide +kernel) (by decide +kernel)
set_option maxRecDepth 20000 in
theorem gX2_takeOut_X2_copyPlace : GoodIn wsX2_takeOut (wsV RX2 74 RX2 yX2_copyPlace wsX2_copyPlace) := goodIn_app (goodIn_of _ (by decide +kernel)) ggX2_takeOut_X2_copyPlace
theorem dX2_takeOut_0 : decode cX2_takeOut 0 = .ok (.iload_n 1, 1) := by decide +kernel
theorem dX2_takeOut_1 : decode cX2_takeOut 1 = .ok (.istore_n 2, 1) := by decide +kernel
theorem dX2_takeOut_2 : decode cX2_takeOut 2 = .ok (.iload_n 2, 1) := by decide +kernel
theorem dX2_takeOut_3 : decode cX2_takeOut 3 = .ok (.iconst 1, 1) := by decide +kernel
theorem dX2_takeOut_4 : decode cX2_takeOut 4 = .ok (.iadd, 1) := by decide +kernel
theorem dX2_takeOut_5 : decode cX2_takeOut 5 = .ok (.aload_n 0, 1) := by decide +kernel
theorem dX2_takeOut_6 : decode cX2_takeOut 6 = .ok (.getfield 28, 3) := by decide +kernel
theorem dX2_takeOut_9 : decode cX2_takeOut 9 = .ok (.if_icmp .ge 17, 3) := by decide +kernel
theorem dX2_takeOut_12 : decode cX2_takeOut 12 = .ok (.aload_n 0, 1) := by decide +kernel
theorem dX2_takeOut_13 : decode cX2_takeOut 13 = .ok (.iload_n 2, 1) := by decide +kernel
theorem dX2_takeOut_14 : decode cX2_takeOut 14 = .ok (.iconst 1, 1) := by decide +kernel
theorem dX2_takeOut_15 : decode cX2_takeOut 15 = .ok (.iadd, 1) := by decide +kernel
theorem dX2_takeOut_16 : decode cX2_takeOut 16 = .ok (.iload_n 2, 1) := by decide +kernel
theorem dX2_takeOut_17 : decode cX2_takeOut 17 = .ok (.invokevirtual 74, 3) := by decide +kernel
theorem dX2_takeOut_20 : decode cX2_takeOut 20 = .ok (.iinc 2 1, 3) := by decide +kernel
theorem dX2_takeOut_23 : decode cX2_takeOut 23 = .ok (.goto (-21), 3) := by decide +kernel
theorem dX2_takeOut_26 : decode cX2_takeOut 26 = .ok (.aload_n 0, 1) := by decide +kernel
theorem dX2_takeOut_27 : decode cX2_takeOut 27 = .ok (.dup, 1) := by decide +kernel
theorem dX2_takeOut_28 : decode cX2_takeOut 28 = .ok (.getfield 28, 3) := by decide +kernel
theorem dX2_takeOut_31 : decode cX2_takeOut 31 = .ok (.iconst 1, 1) := by decide +kernel
theorem dX2_takeOut_32 : decode cX2_takeOut 32 = .ok (.isub, 1) := by decide +kernel
theorem dX2_takeOut_33 : decode cX2_takeOut 33 = .ok (.putfield 28, 3) := by decide +kernel
theorem dX2_takeOut_36 : decode cX2_takeOut 36 = .ok (.return_, 1) := by decide +kernel
theorem dX2_copyPlace_0 : decode cX2_copyPlace 0 = .ok (.aload_n 0, 1) := by decide +kernel
theorem dX2_copyPlace_1 : decode cX2_copyPlace 1 = .ok (.getfield 9, 3) := by decide +kernel
theorem dX2_copyPlace_4 : decode cX2_copyPlace 4 = .ok (.iload_n 2, 1) := by decide +kernel
theorem dX2_copyPlace_5 : decode cX2_copyPlace 5 = .ok (.aload_n 0, 1) := by decide +kernel
theorem dX2_copyPlace_6 : decode cX2_copyPlace 6 = .ok (.getfield 9, 3) := by decide +kernel
theorem dX2_copyPlace_9 : decode cX2_copyPlace 9 = .ok (.iload_n 1, 1) := by decide +kernel
theorem dX2_copyPlace_10 : decode cX2_copyPlace 10 = .ok (.iaload, 1) := by decide +kernel
theorem dX2_copyPlace_11 : decode cX2_copyPlace 11 = .ok (.iastore, 1) := by decide +kernel
theorem dX2_copyPlace_12 : decode cX2_copyPlace 12 = .ok (.aload_n 0, 1) := by decide +kernel
theorem dX2_copyPlace_13 : decode cX2_copyPlace 13 = .ok (.getfield 15, 3) := by decide +kernel
theorem dX2_copyPlace_16 : decode cX2_copyPlace 16 = .ok (.iload_n 2, 1) := by decide +kernel
theorem dX2_copyPlace_17 : decode cX2_copyPlace 17 = .ok (.aload_n 0, 1) := by decide +kernel
theorem dX2_copyPlace_18 : decode cX2_copyPlace 18 = .ok (.getfield 15, 3) := by decide +kernel
theorem dX2_copyPlace_21 : decode cX2_copyPlace 21 = .ok (.iload_n 1, 1) := by decide +kernel
theorem dX2_copyPlace_22 : decode cX2_copyPlace 22 = .ok (.iaload, 1) := by decide +kernel
theorem dX2_copyPlace_23 : decode cX2_copyPlace 23 = .ok (.iastore, 1) := by decide +kernel
theorem dX2_copyPlace_24 : decode cX2_copyPlace 24 = .ok (.aload_n 0, 1) := by decide +kernel
theorem dX2_copyPlace_25 : decode cX2_copyPlace 25 = .ok (.getfield 18, 3) := by decide +kernel
theorem dX2_copyPlace_28 : decode cX2_copyPlace 28 = .ok (.iload_n 2, 1) := by decide +kernel
theorem dX2_copyPlace_29 : decode cX2_copyPlace 29 = .ok (.aload_n 0, 1) := by decide +kernel
theorem dX2_copyPlace_30 : decode cX2_copyPlace 30 = .ok (.getfield 18, 3) := by decide +kernel
theorem dX2_copyPlace_33 : decode cX2_copyPlace 33 = .ok (.iload_n 1, 1) := by decide +kernel
theorem dX2_copyPlace_34 : decode cX2_copyPlace 34 = .ok (.iaload, 1) := by decide +kernel
theorem dX2_copyPlace_35 : decode cX2_copyPlace 35 = .ok (.iastore, 1) := by decide +kernel
theorem dX2_copyPlace_36 : decode cX2_copyPlace 36 = .ok (.return_, 1) := by decide +kernel
set_option maxRecDepth 20000 in
theorem ggX2_sortByRoomPerPoint_X2_hasLessRoomPerPoint : GoodIn wsX2_sortByRoomPerPoint wsX2_hasLessRoomPerPoint := goodIn_r _ [6, 7, 8, 18, 19, 20, 21, 22, 23, 24, 25] (by decide +kernel) (by decide +kernel)
set_option maxRecDepth 20000 in
theorem gX2_sortByRoomPerPoint_X2_hasLessRoomPerPoint : GoodIn wsX2_sortByRoomPerPoint (wsV RX2 78 RX2 yX2_hasLessRoomPerPoint wsX2_hasLessRoomPerPoint) := goodIn_app (goodIn_of _ (by decide +kernel)) ggX2_sortByRoomPerPoint_X2_hasLessRoomPerPoint
set_option maxRecDepth 20000 in
theorem ggX2_sortByRoomPerPoint_X2_swapPlaces : GoodIn wsX2_sortByRoomPerPoint wsX2_swapPlaces := goodIn_r _ [12, 13, 8, 7, 14, 15, 16, 5, 17, 18, 19, 20, 21, 22, 23, 24, 25] (by decide +kernel) (by decide +kernel)
set_option maxRecDepth 20000 in
theorem gX2_sortByRoomPerPoint_X2_swapPlaces : GoodIn wsX2_sortByRoomPerPoint (wsV RX2 82 RX2 yX2_swapPlaces wsX2_swapPlaces) := goodIn_app (goodIn_of _ (by decide +kernel)) ggX2_sortByRoomPerPoint_X2_swapPlaces
theorem dX2_sortByRoomPerPoint_0 : decode cX2_sortByRoomPerPoint 0 = .ok (.iconst 1, 1) := by decide +kernel
theorem dX2_sortByRoomPerPoint_1 : decode cX2_sortByRoomPerPoint 1 = .ok (.istore_n 1, 1) := by decide +kernel
theorem dX2_sortByRoomPerPoint_2 : decode cX2_sortByRoomPerPoint 2 = .ok (.iload_n 1, 1) := by decide +kernel
theorem dX2_sortByRoomPerPoint_3 : decode cX2_sortByRoomPerPoint 3 = .ok (.aload_n 0, 1) := by decide +kernel
theorem dX2_sortByRoomPerPoint_4 : decode cX2_sortByRoomPerPoint 4 = .ok (.getfield 28, 3) := by decide +kernel
theorem dX2_sortByRoomPerPoint_7 : decode cX2_sortByRoomPerPoint 7 = .ok (.if_icmp .ge 40, 3) := by decide +kernel
theorem dX2_sortByRoomPerPoint_10 : decode cX2_sortByRoomPerPoint 10 = .ok (.iload_n 1, 1) := by decide +kernel
theorem dX2_sortByRoomPerPoint_11 : decode cX2_sortByRoomPerPoint 11 = .ok (.istore_n 2, 1) := by decide +kernel
theorem dX2_sortByRoomPerPoint_12 : decode cX2_sortByRoomPerPoint 12 = .ok (.iload_n 2, 1) := by decide +kernel
theorem dX2_sortByRoomPerPoint_13 : decode cX2_sortByRoomPerPoint 13 = .ok (.ifCond .le 28, 3) := by decide +kernel
theorem dX2_sortByRoomPerPoint_16 : decode cX2_sortByRoomPerPoint 16 = .ok (.aload_n 0, 1) := by decide +kernel
theorem dX2_sortByRoomPerPoint_17 : decode cX2_sortByRoomPerPoint 17 = .ok (.iload_n 2, 1) := by decide +kernel
theorem dX2_sortByRoomPerPoint_18 : decode cX2_sortByRoomPerPoint 18 = .ok (.iload_n 2, 1) := by decide +kernel
theorem dX2_sortByRoomPerPoint_19 : decode cX2_sortByRoomPerPoint 19 = .ok (.iconst 1, 1) := by decide +kernel
theorem dX2_sortByRoomPerPoint_20 : decode cX2_sortByRoomPerPoint 20 = .ok (.isub, 1) := by decide +kernel
theorem dX2_sortByRoomPerPoint_21 : decode cX2_sortByRoomPerPoint 21 = .ok (.invokevirtual 78, 3) := by decide +kernel
theorem dX2_sortByRoomPerPoint_24 : decode cX2_sortByRoomPerPoint 24 = .ok (.ifCond .eq 17, 3) := by decide +kernel
theorem dX2_sortByRoomPerPoint_27 : decode cX2_sortByRoomPerPoint 27 = .ok (.aload_n 0, 1) := by decide +kernel
theorem dX2_sortByRoomPerPoint_28 : decode cX2_sortByRoomPerPoint 28 = .ok (.iload_n 2, 1) := by decide +kernel
theorem dX2_sortByRoomPerPoint_29 : decode cX2_sortByRoomPerPoint 29 = .ok (.iload_n 2, 1) := by decide +kernel
theorem dX2_sortByRoomPerPoint_30 : decode cX2_sortByRoomPerPoint 30 = .ok (.iconst 1, 1) := by decide +kernel
theorem dX2_sortByRoomPerPoint_31 : decode cX2_sortByRoomPerPoint 31 = .ok (.isub, 1) := by decide +kernel
theorem dX2_sortByRoomPerPoint_32 : decode cX2_sortByRoomPerPoint 32 = .ok (.invokevirtual 82, 3) := by decide +kernel
theorem dX2_sortByRoomPerPoint_35 : decode cX2_sortByRoomPerPoint 35 = .ok (.iinc 2 (-1), 3) := by decide +kernel
theorem dX2_sortByRoomPerPoint_38 : decode cX2_sortByRoomPerPoint 38 = .ok (.goto (-26), 3) := by decide +kernel
theorem dX2_sortByRoomPerPoint_41 : decode cX2_sortByRoomPerPoint 41 = .ok (.iinc 1 1, 3) := by decide +kernel
theorem dX2_sortByRoomPerPoint_44 : decode cX2_sortByRoomPerPoint 44 = .ok (.goto (-42), 3) := by decide +kernel
theorem dX2_sortByRoomPerPoint_47 : decode cX2_sortByRoomPerPoint 47 = .ok (.return_, 1) := by decide +kernel
theorem dX2_hasLessRoomPerPoint_0 : decode cX2_hasLessRoomPerPoint 0 = .ok (.aload_n 0, 1) := by decide +kernel
theorem dX2_hasLessRoomPerPoint_1 : decode cX2_hasLessRoomPerPoint 1 = .ok (.getfield 18, 3) := by decide +kernel
theorem dX2_hasLessRoomPerPoint_4 : decode cX2_hasLessRoomPerPoint 4 = .ok (.iload_n 1, 1) := by decide +kernel
theorem dX2_hasLessRoomPerPoint_5 : decode cX2_hasLessRoomPerPoint 5 = .ok (.iaload, 1) := by decide +kernel
theorem dX2_hasLessRoomPerPoint_6 : decode cX2_hasLessRoomPerPoint 6 = .ok (.i2l, 1) := by decide +kernel
theorem dX2_hasLessRoomPerPoint_7 : decode cX2_hasLessRoomPerPoint 7 = .ok (.aload_n 0, 1) := by decide +kernel
theorem dX2_hasLessRoomPerPoint_8 : decode cX2_hasLessRoomPerPoint 8 = .ok (.getfield 15, 3) := by decide +kernel
theorem dX2_hasLessRoomPerPoint_11 : decode cX2_hasLessRoomPerPoint 11 = .ok (.iload_n 2, 1) := by decide +kernel
theorem dX2_hasLessRoomPerPoint_12 : decode cX2_hasLessRoomPerPoint 12 = .ok (.iaload, 1) := by decide +kernel
theorem dX2_hasLessRoomPerPoint_13 : decode cX2_hasLessRoomPerPoint 13 = .ok (.i2l, 1) := by decide +kernel
theorem dX2_hasLessRoomPerPoint_14 : decode cX2_hasLessRoomPerPoint 14 = .ok (.lmul, 1) := by decide +kernel
theorem dX2_hasLessRoomPerPoint_15 : decode cX2_hasLessRoomPerPoint 15 = .ok (.aload_n 0, 1) := by decide +kernel
theorem dX2_hasLessRoomPerPoint_16 : decode cX2_hasLessRoomPerPoint 16 = .ok (.getfield 18, 3) := by decide +kernel
theorem dX2_hasLessRoomPerPoint_19 : decode cX2_hasLessRoomPerPoint 19 = .ok (.iload_n 2, 1) := by decide +kernel
theorem dX2_hasLessRoomPerPoint_20 : decode cX2_hasLessRoomPerPoint 20 = .ok (.iaload, 1) := by decide +kernel
theorem dX2_hasLessRoomPerPoint_21 : decode cX2_hasLessRoomPerPoint 21 = .ok (.i2l, 1) := by decide +kernel
theorem dX2_hasLessRoomPerPoint_22 : decode cX2_hasLessRoomPerPoint 22 = .ok (.aload_n 0, 1) := by decide +kernel
theorem dX2_hasLessRoomPerPoint_23 : decode cX2_hasLessRoomPerPoint 23 = .ok (.getfield 15, 3) := by decide +kernel
theorem dX2_hasLessRoomPerPoint_26 : decode cX2_hasLessRoomPerPoint 26 = .ok (.iload_n 1, 1) := by decide +kernel
theorem dX2_hasLessRoomPerPoint_27 : decode cX2_hasLessRoomPerPoint 27 = .ok (.iaload, 1) := by decide +kernel
theorem dX2_hasLessRoomPerPoint_28 : decode cX2_hasLessRoomPerPoint 28 = .ok (.i2l, 1) := by decide +kernel
theorem dX2_hasLessRoomPerPoint_29 : decode cX2_hasLessRoomPerPoint 29 = .ok (.lmul, 1) := by decide +kernel
theorem dX2_hasLessRoomPerPoint_30 : decode cX2_hasLessRoomPerPoint 30 = .ok (.lcmp, 1) := by decide +kernel
theorem dX2_hasLessRoomPerPoint_31 : decode cX2_hasLessRoomPerPoint 31 = .ok (.ifCond .ge 7, 3) := by decide +kernel
theorem dX2_hasLessRoomPerPoint_34 : decode cX2_hasLessRoomPerPoint 34 = .ok (.iconst 1, 1) := by decide +kernel
theorem dX2_hasLessRoomPerPoint_35 : decode cX2_hasLessRoomPerPoint 35 = .ok (.goto 4, 3) := by decide +kernel
theorem dX2_hasLessRoomPerPoint_38 : decode cX2_hasLessRoomPerPoint 38 = .ok (.iconst 0, 1) := by decide +kernel
theorem dX2_hasLessRoomPerPoint_39 : decode cX2_hasLessRoomPerPoint 39 = .ok (.ireturn, 1) := by decide +kernel
set_option maxRecDepth 20000 in
theorem ggX2_swapPlaces_X2_copyPlace : GoodIn wsX2_swapPlaces wsX2_copyPlace := goodIn_r _ [8, 1, 2, 3, 9, 10, 11, 12, 13, 14, 15, 16] (by decide +kernel) (by decide +kernel)
set_option maxRecDepth 20000 in
theorem gX2_swapPlaces_X2_copyPlace : GoodIn wsX2_swapPlaces (wsV RX2 74 RX2 yX2_copyPlace wsX2_copyPlace) := goodIn_app (goodIn_of _ (by decide +kernel)) ggX2_swapPlaces_X2_copyPlace
theorem dX2_swapPlaces_0 : decode cX2_swapPlaces 0 = .ok (.aload_n 0, 1) := by decide +kernel
theorem dX2_swapPlaces_1 : decode cX2_swapPlaces 1 = .ok (.getfield 9, 3) := by decide +kernel
theorem dX2_swapPlaces_4 : decode cX2_swapPlaces 4 = .ok (.iload_n 1, 1) := by decide +kernel
theorem dX2_swapPlaces_5 : decode cX2_swapPlaces 5 = .ok (.iaload, 1) := by decide +kernel
theorem dX2_swapPlaces_6 : decode cX2_swapPlaces 6 = .ok (.istore_n 3, 1) := by decide +kernel
theorem dX2_swapPlaces_7 : decode cX2_swapPlaces 7 = .ok (.aload_n 0, 1) := by decide +kernel
theorem dX2_swapPlaces_8 : decode cX2_swapPlaces 8 = .ok (.getfield 15, 3) := by decide +kernel
theorem dX2_swapPlaces_11 : decode cX2_swapPlaces 11 = .ok (.iload_n 1, 1) := by decide +kernel
theorem dX2_swapPlaces_12 : decode cX2_swapPlaces 12 = .ok (.iaload, 1) := by decide +kernel
theorem dX2_swapPlaces_13 : decode cX2_swapPlaces 13 = .ok (.istore 4, 2) := by decide +kernel
theorem dX2_swapPlaces_15 : decode cX2_swapPlaces 15 = .ok (.aload_n 0, 1) := by decide +kernel
theorem dX2_swapPlaces_16 : decode cX2_swapPlaces 16 = .ok (.getfield 18, 3) := by decide +kernel
theorem dX2_swapPlaces_19 : decode cX2_swapPlaces 19 = .ok (.iload_n 1, 1) := by decide +kernel
theorem dX2_swapPlaces_20 : decode cX2_swapPlaces 20 = .ok (.iaload, 1) := by decide +kernel
theorem dX2_swapPlaces_21 : decode cX2_swapPlaces 21 = .ok (.istore 5, 2) := by decide +kernel
theorem dX2_swapPlaces_23 : decode cX2_swapPlaces 23 = .ok (.aload_n 0, 1) := by decide +kernel
theorem dX2_swapPlaces_24 : decode cX2_swapPlaces 24 = .ok (.iload_n 2, 1) := by decide +kernel
theorem dX2_swapPlaces_25 : decode cX2_swapPlaces 25 = .ok (.iload_n 1, 1) := by decide +kernel
theorem dX2_swapPlaces_26 : decode cX2_swapPlaces 26 = .ok (.invokevirtual 74, 3) := by decide +kernel
theorem dX2_swapPlaces_29 : decode cX2_swapPlaces 29 = .ok (.aload_n 0, 1) := by decide +kernel
theorem dX2_swapPlaces_30 : decode cX2_swapPlaces 30 = .ok (.getfield 9, 3) := by decide +kernel
theorem dX2_swapPlaces_33 : decode cX2_swapPlaces 33 = .ok (.iload_n 2, 1) := by decide +kernel
theorem dX2_swapPlaces_34 : decode cX2_swapPlaces 34 = .ok (.iload_n 3, 1) := by decide +kernel
theorem dX2_swapPlaces_35 : decode cX2_swapPlaces 35 = .ok (.iastore, 1) := by decide +kernel
theorem dX2_swapPlaces_36 : decode cX2_swapPlaces 36 = .ok (.aload_n 0, 1) := by decide +kernel
theorem dX2_swapPlaces_37 : decode cX2_swapPlaces 37 = .ok (.getfield 15, 3) := by decide +kernel
theorem dX2_swapPlaces_40 : decode cX2_swapPlaces 40 = .ok (.iload_n 2, 1) := by decide +kernel
theorem dX2_swapPlaces_41 : decode cX2_swapPlaces 41 = .ok (.iload 4, 2) := by decide +kernel
theorem dX2_swapPlaces_43 : decode cX2_swapPlaces 43 = .ok (.iastore, 1) := by decide +kernel
theorem dX2_swapPlaces_44 : decode cX2_swapPlaces 44 = .ok (.aload_n 0, 1) := by decide +kernel
theorem dX2_swapPlaces_45 : decode cX2_swapPlaces 45 = .ok (.getfield 18, 3) := by decide +kernel
theorem dX2_swapPlaces_48 : decode cX2_swapPlaces 48 = .ok (.iload_n 2, 1) := by decide +kernel
theorem dX2_swapPlaces_49 : decode cX2_swapPlaces 49 = .ok (.iload 5, 2) := by decide +kernel
theorem dX2_swapPlaces_51 : decode cX2_swapPlaces 51 = .ok (.iastore, 1) := by decide +kernel
theorem dX2_swapPlaces_52 : decode cX2_swapPlaces 52 = .ok (.return_, 1) := by decide +kernel
set_option maxRecDepth 20000 in
theorem ggX3_init_X0_init : GoodIn wsX3_init wsX0_init := goodIn_r _ [22, 23, 2, 3, 4, 24, 25, 26, 27, 28, 29, 54, 55, 56, 57, 58, 59] (by decide +kernel) (by decide +kernel)
set_option maxRecDepth 20000 in
theorem gX3_init_X0_init : GoodIn wsX3_init (wsX0_init) := ggX3_init_X0_init
set_option maxRecDepth 20000 in
theorem ggX3_init_X1_init : GoodIn wsX3_init wsX1_init := goodIn_r _ [31, 32, 2, 3, 4, 33, 34, 35, 36, 60, 61, 62, 63, 64] (by decide +kernel) (by decide +kernel)
set_option maxRecDepth 20000 in
theorem gX3_init_X1_init_n25 : GoodIn wsX3_init (wsX1_init) := ggX3_init_X1_init
set_option maxRecDepth 20000 in
theorem ggX3_init_X2_init : GoodIn wsX3_init wsX2_init := goodIn_r _ [38, 39, 2, 3, 4, 40, 41, 42, 43, 28, 44, 65, 66, 67, 68, 69, 70, 71, 72] (by decide +kernel) (by decide +kernel)
set_option maxRecDepth 20000 in
theorem gX3_init_X2_init_n32 : GoodIn wsX3_init (wsX2_init) := ggX3_init_X2_init
