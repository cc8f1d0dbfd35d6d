theorem dX8_init_0 : decode cX8_init 0 = .ok (.aload_n 0, 1) := by decide +kernel
theorem dX8_init_1 : decode cX8_init 1 = .ok (.invokespecial 1, 3) := by decide +kernel
theorem dX8_init_4 : decode cX8_init 4 = .ok (.aload_n 0, 1) := by decide +kernel
theorem dX8_init_5 : decode cX8_init 5 = .ok (.sipush 1330, 3) := by decide +kernel
theorem dX8_init_8 : decode cX8_init 8 = .ok (.newarray .int, 2) := by decide +kernel
theorem dX8_init_10 : decode cX8_init 10 = .ok (.putfield 7, 3) := by decide +kernel
theorem dX8_init_13 : decode cX8_init 13 = .ok (.aload_n 0, 1) := by decide +kernel
theorem dX8_init_14 : decode cX8_init 14 = .ok (.bipush 60, 2) := by decide +kernel
theorem dX8_init_16 : decode cX8_init 16 = .ok (.newarray .char, 2) := by decide +kernel
theorem dX8_init_18 : decode cX8_init 18 = .ok (.putfield 13, 3) := by decide +kernel
theorem dX8_init_21 : decode cX8_init 21 = .ok (.aload_n 0, 1) := by decide +kernel
theorem dX8_init_22 : decode cX8_init 22 = .ok (.bipush 6, 2) := by decide +kernel
theorem dX8_init_24 : decode cX8_init 24 = .ok (.newarray .int, 2) := by decide +kernel
theorem dX8_init_26 : decode cX8_init 26 = .ok (.putfield 17, 3) := by decide +kernel
theorem dX8_init_29 : decode cX8_init 29 = .ok (.iconst 0, 1) := by decide +kernel
theorem dX8_init_30 : decode cX8_init 30 = .ok (.istore_n 1, 1) := by decide +kernel
theorem dX8_init_31 : decode cX8_init 31 = .ok (.iload_n 1, 1) := by decide +kernel
theorem dX8_init_32 : decode cX8_init 32 = .ok (.bipush 8, 2) := by decide +kernel
theorem dX8_init_34 : decode cX8_init 34 = .ok (.if_icmp .ge 40, 3) := by decide +kernel
theorem dX8_init_37 : decode cX8_init 37 = .ok (.aload_n 0, 1) := by decide +kernel
theorem dX8_init_38 : decode cX8_init 38 = .ok (.getfield 7, 3) := by decide +kernel
theorem dX8_init_41 : decode cX8_init 41 = .ok (.iconst 0, 1) := by decide +kernel
theorem dX8_init_42 : decode cX8_init 42 = .ok (.iconst 2, 1) := by decide +kernel
theorem dX8_init_43 : decode cX8_init 43 = .ok (.iload_n 1, 1) := by decide +kernel
theorem dX8_init_44 : decode cX8_init 44 = .ok (.imul, 1) := by decide +kernel
theorem dX8_init_45 : decode cX8_init 45 = .ok (.iadd, 1) := by decide +kernel
theorem dX8_init_46 : decode cX8_init 46 = .ok (.bipush 10, 2) := by decide +kernel
theorem dX8_init_48 : decode cX8_init 48 = .ok (.iload_n 1, 1) := by decide +kernel
theorem dX8_init_49 : decode cX8_init 49 = .ok (.imul, 1) := by decide +kernel
theorem dX8_init_50 : decode cX8_init 50 = .ok (.iastore, 1) := by decide +kernel
theorem dX8_init_51 : decode cX8_init 51 = .ok (.aload_n 0, 1) := by decide +kernel
theorem dX8_init_52 : decode cX8_init 52 = .ok (.getfield 7, 3) := by decide +kernel
theorem dX8_init_55 : decode cX8_init 55 = .ok (.iconst 0, 1) := by decide +kernel
theorem dX8_init_56 : decode cX8_init 56 = .ok (.iconst 2, 1) := by decide +kernel
theorem dX8_init_57 : decode cX8_init 57 = .ok (.iload_n 1, 1) := by decide +kernel
theorem dX8_init_58 : decode cX8_init 58 = .ok (.imul, 1) := by decide +kernel
theorem dX8_init_59 : decode cX8_init 59 = .ok (.iadd, 1) := by decide +kernel
theorem dX8_init_60 : decode cX8_init 60 = .ok (.iconst 1, 1) := by decide +kernel
theorem dX8_init_61 : decode cX8_init 61 = .ok (.iadd, 1) := by decide +kernel
theorem dX8_init_62 : decode cX8_init 62 = .ok (.iconst 5, 1) := by decide +kernel
theorem dX8_init_63 : decode cX8_init 63 = .ok (.iload_n 1, 1) := by decide +kernel
theorem dX8_init_64 : decode cX8_init 64 = .ok (.iconst 3, 1) := by decide +kernel
theorem dX8_init_65 : decode cX8_init 65 = .ok (.irem, 1) := by decide +kernel
theorem dX8_init_66 : decode cX8_init 66 = .ok (.imul, 1) := by decide +kernel
theorem dX8_init_67 : decode cX8_init 67 = .ok (.iastore, 1) := by decide +kernel
theorem dX8_init_68 : decode cX8_init 68 = .ok (.iinc 1 1, 3) := by decide +kernel
theorem dX8_init_71 : decode cX8_init 71 = .ok (.goto (-40), 3) := by decide +kernel
theorem dX8_init_74 : decode cX8_init 74 = .ok (.return_, 1) := by decide +kernel
theorem dX8_in_0 : decode cX8_in 0 = .ok (.iload_n 0, 1) := by decide +kernel
theorem dX8_in_1 : decode cX8_in 1 = .ok (.iload_n 1, 1) := by decide +kernel
theorem dX8_in_2 : decode cX8_in 2 = .ok (.if_icmp .lt 12, 3) := by decide +kernel
theorem dX8_in_5 : decode cX8_in 5 = .ok (.iload_n 0, 1) := by decide +kernel
theorem dX8_in_6 : decode cX8_in 6 = .ok (.iload_n 2, 1) := by decide +kernel
theorem dX8_in_7 : decode cX8_in 7 = .ok (.if_icmp .gt 7, 3) := by decide +kernel
theorem dX8_in_10 : decode cX8_in 10 = .ok (.iconst 1, 1) := by decide +kernel
theorem dX8_in_11 : decode cX8_in 11 = .ok (.goto 4, 3) := by decide +kernel
theorem dX8_in_14 : decode cX8_in 14 = .ok (.iconst 0, 1) := by decide +kernel
theorem dX8_in_15 : decode cX8_in 15 = .ok (.ireturn, 1) := by decide +kernel
theorem dX8_copies_0 : decode cX8_copies 0 = .ok (.iconst 0, 1) := by decide +kernel
theorem dX8_copies_1 : decode cX8_copies 1 = .ok (.istore_n 3, 1) := by decide +kernel
theorem dX8_copies_2 : decode cX8_copies 2 = .ok (.iload_n 3, 1) := by decide +kernel
theorem dX8_copies_3 : decode cX8_copies 3 = .ok (.sipush 190, 3) := by decide +kernel
theorem dX8_copies_6 : decode cX8_copies 6 = .ok (.if_icmp .ge 33, 3) := by decide +kernel
theorem dX8_copies_9 : decode cX8_copies 9 = .ok (.aload_n 0, 1) := by decide +kernel
theorem dX8_copies_10 : decode cX8_copies 10 = .ok (.getfield 7, 3) := by decide +kernel
theorem dX8_copies_13 : decode cX8_copies 13 = .ok (.sipush 190, 3) := by decide +kernel
theorem dX8_copies_16 : decode cX8_copies 16 = .ok (.iload_n 2, 1) := by decide +kernel
theorem dX8_copies_17 : decode cX8_copies 17 = .ok (.imul, 1) := by decide +kernel
theorem dX8_copies_18 : decode cX8_copies 18 = .ok (.iload_n 3, 1) := by decide +kernel
theorem dX8_copies_19 : decode cX8_copies 19 = .ok (.iadd, 1) := by decide +kernel
theorem dX8_copies_20 : decode cX8_copies 20 = .ok (.aload_n 0, 1) := by decide +kernel
theorem dX8_copies_21 : decode cX8_copies 21 = .ok (.getfield 7, 3) := by decide +kernel
theorem dX8_copies_24 : decode cX8_copies 24 = .ok (.sipush 190, 3) := by decide +kernel
theorem dX8_copies_27 : decode cX8_copies 27 = .ok (.iload_n 1, 1) := by decide +kernel
theorem dX8_copies_28 : decode cX8_copies 28 = .ok (.imul, 1) := by decide +kernel
theorem dX8_copies_29 : decode cX8_copies 29 = .ok (.iload_n 3, 1) := by decide +kernel
theorem dX8_copies_30 : decode cX8_copies 30 = .ok (.iadd, 1) := by decide +kernel
theorem dX8_copies_31 : decode cX8_copies 31 = .ok (.iaload, 1) := by decide +kernel
theorem dX8_copies_32 : decode cX8_copies 32 = .ok (.iastore, 1) := by decide +kernel
theorem dX8_copies_33 : decode cX8_copies 33 = .ok (.iinc 3 1, 3) := by decide +kernel
theorem dX8_copies_36 : decode cX8_copies 36 = .ok (.goto (-34), 3) := by decide +kernel
theorem dX8_copies_39 : decode cX8_copies 39 = .ok (.return_, 1) := by decide +kernel
theorem dX8_keeps_0 : decode cX8_keeps 0 = .ok (.aload_n 0, 1) := by decide +kernel
theorem dX8_keeps_1 : decode cX8_keeps 1 = .ok (.iconst 0, 1) := by decide +kernel
theorem dX8_keeps_2 : decode cX8_keeps 2 = .ok (.bipush 6, 2) := by decide +kernel
theorem dX8_keeps_4 : decode cX8_keeps 4 = .ok (.invokevirtual 20, 3) := by decide +kernel
theorem dX8_keeps_7 : decode cX8_keeps 7 = .ok (.return_, 1) := by decide +kernel
theorem dX8_acted_0 : decode cX8_acted 0 = .ok (.iload_n 1, 1) := by decide +kernel
theorem dX8_acted_1 : decode cX8_acted 1 = .ok (.ldc 24, 2) := by decide +kernel
theorem dX8_acted_3 : decode cX8_acted 3 = .ok (.if_icmp .le 57, 3) := by decide +kernel
theorem dX8_acted_6 : decode cX8_acted 6 = .ok (.aload_n 0, 1) := by decide +kernel
theorem dX8_acted_7 : decode cX8_acted 7 = .ok (.getfield 25, 3) := by decide +kernel
theorem dX8_acted_10 : decode cX8_acted 10 = .ok (.iconst 4, 1) := by decide +kernel
theorem dX8_acted_11 : decode cX8_acted 11 = .ok (.if_icmp .ne 29, 3) := by decide +kernel
theorem dX8_acted_14 : decode cX8_acted 14 = .ok (.iconst 1, 1) := by decide +kernel
theorem dX8_acted_15 : decode cX8_acted 15 = .ok (.istore_n 2, 1) := by decide +kernel
theorem dX8_acted_16 : decode cX8_acted 16 = .ok (.iload_n 2, 1) := by decide +kernel
theorem dX8_acted_17 : decode cX8_acted 17 = .ok (.iconst 4, 1) := by decide +kernel
theorem dX8_acted_18 : decode cX8_acted 18 = .ok (.if_icmp .ge 17, 3) := by decide +kernel
theorem dX8_acted_21 : decode cX8_acted 21 = .ok (.aload_n 0, 1) := by decide +kernel
theorem dX8_acted_22 : decode cX8_acted 22 = .ok (.iload_n 2, 1) := by decide +kernel
theorem dX8_acted_23 : decode cX8_acted 23 = .ok (.iconst 1, 1) := by decide +kernel
theorem dX8_acted_24 : decode cX8_acted 24 = .ok (.iadd, 1) := by decide +kernel
theorem dX8_acted_25 : decode cX8_acted 25 = .ok (.iload_n 2, 1) := by decide +kernel
theorem dX8_acted_26 : decode cX8_acted 26 = .ok (.invokevirtual 20, 3) := by decide +kernel
theorem dX8_acted_29 : decode cX8_acted 29 = .ok (.iinc 2 1, 3) := by decide +kernel
theorem dX8_acted_32 : decode cX8_acted 32 = .ok (.goto (-16), 3) := by decide +kernel
theorem dX8_acted_35 : decode cX8_acted 35 = .ok (.aload_n 0, 1) := by decide +kernel
theorem dX8_acted_36 : decode cX8_acted 36 = .ok (.iconst 3, 1) := by decide +kernel
theorem dX8_acted_37 : decode cX8_acted 37 = .ok (.putfield 25, 3) := by decide +kernel
theorem dX8_acted_40 : decode cX8_acted 40 = .ok (.aload_n 0, 1) := by decide +kernel
theorem dX8_acted_41 : decode cX8_acted 41 = .ok (.dup, 1) := by decide +kernel
theorem dX8_acted_42 : decode cX8_acted 42 = .ok (.getfield 25, 3) := by decide +kernel
theorem dX8_acted_45 : decode cX8_acted 45 = .ok (.iconst 1, 1) := by decide +kernel
theorem dX8_acted_46 : decode cX8_acted 46 = .ok (.iadd, 1) := by decide +kernel
theorem dX8_acted_47 : decode cX8_acted 47 = .ok (.putfield 25, 3) := by decide +kernel
theorem dX8_acted_50 : decode cX8_acted 50 = .ok (.aload_n 0, 1) := by decide +kernel
theorem dX8_acted_51 : decode cX8_acted 51 = .ok (.bipush 6, 2) := by decide +kernel
theorem dX8_acted_53 : decode cX8_acted 53 = .ok (.aload_n 0, 1) := by decide +kernel
theorem dX8_acted_54 : decode cX8_acted 54 = .ok (.getfield 25, 3) := by decide +kernel
theorem dX8_acted_57 : decode cX8_acted 57 = .ok (.invokevirtual 20, 3) := by decide +kernel
theorem dX8_acted_60 : decode cX8_acted 60 = .ok (.iload_n 1, 1) := by decide +kernel
theorem dX8_acted_61 : decode cX8_acted 61 = .ok (.ireturn, 1) := by decide +kernel
theorem dX8_isShip_0 : decode cX8_isShip 0 = .ok (.iload_n 1, 1) := by decide +kernel
theorem dX8_isShip_1 : decode cX8_isShip 1 = .ok (.iconst 0, 1) := by decide +kernel
theorem dX8_isShip_2 : decode cX8_isShip 2 = .ok (.aload_n 0, 1) := by decide +kernel
theorem dX8_isShip_3 : decode cX8_isShip 3 = .ok (.getfield 7, 3) := by decide +kernel
theorem dX8_isShip_6 : decode cX8_isShip 6 = .ok (.bipush 16, 2) := by decide +kernel
theorem dX8_isShip_8 : decode cX8_isShip 8 = .ok (.iaload, 1) := by decide +kernel
theorem dX8_isShip_9 : decode cX8_isShip 9 = .ok (.iconst 1, 1) := by decide +kernel
theorem dX8_isShip_10 : decode cX8_isShip 10 = .ok (.isub, 1) := by decide +kernel
theorem dX8_isShip_11 : decode cX8_isShip 11 = .ok (.invokestatic 29, 3) := by decide +kernel
theorem dX8_isShip_14 : decode cX8_isShip 14 = .ok (.ireturn, 1) := by decide +kernel
theorem dX8_isCargo_0 : decode cX8_isCargo 0 = .ok (.iload_n 1, 1) := by decide +kernel
theorem dX8_isCargo_1 : decode cX8_isCargo 1 = .ok (.iconst 0, 1) := by decide +kernel
theorem dX8_isCargo_2 : decode cX8_isCargo 2 = .ok (.aload_n 0, 1) := by decide +kernel
theorem dX8_isCargo_3 : decode cX8_isCargo 3 = .ok (.getfield 7, 3) := by decide +kernel
theorem dX8_isCargo_6 : decode cX8_isCargo 6 = .ok (.bipush 107, 2) := by decide +kernel
theorem dX8_isCargo_8 : decode cX8_isCargo 8 = .ok (.iaload, 1) := by decide +kernel
theorem dX8_isCargo_9 : decode cX8_isCargo 9 = .ok (.iconst 1, 1) := by decide +kernel
theorem dX8_isCargo_10 : decode cX8_isCargo 10 = .ok (.isub, 1) := by decide +kernel
theorem dX8_isCargo_11 : decode cX8_isCargo 11 = .ok (.invokestatic 29, 3) := by decide +kernel
theorem dX8_isCargo_14 : decode cX8_isCargo 14 = .ok (.ireturn, 1) := by decide +kernel
theorem dX8_shipAt_0 : decode cX8_shipAt 0 = .ok (.sipush 190, 3) := by decide +kernel
theorem dX8_shipAt_3 : decode cX8_shipAt 3 = .ok (.iload_n 0, 1) := by decide +kernel
theorem dX8_shipAt_4 : decode cX8_shipAt 4 = .ok (.imul, 1) := by decide +kernel
theorem dX8_shipAt_5 : decode cX8_shipAt 5 = .ok (.bipush 17, 2) := by decide +kernel
theorem dX8_shipAt_7 : decode cX8_shipAt 7 = .ok (.iadd, 1) := by decide +kernel
theorem dX8_shipAt_8 : decode cX8_shipAt 8 = .ok (.bipush 18, 2) := by decide +kernel
theorem dX8_shipAt_10 : decode cX8_shipAt 10 = .ok (.iload_n 1, 1) := by decide +kernel
theorem dX8_shipAt_11 : decode cX8_shipAt 11 = .ok (.imul, 1) := by decide +kernel
theorem dX8_shipAt_12 : decode cX8_shipAt 12 = .ok (.iadd, 1) := by decide +kernel
theorem dX8_shipAt_13 : decode cX8_shipAt 13 = .ok (.iload_n 2, 1) := by decide +kernel
theorem dX8_shipAt_14 : decode cX8_shipAt 14 = .ok (.iadd, 1) := by decide +kernel
theorem dX8_shipAt_15 : decode cX8_shipAt 15 = .ok (.ireturn, 1) := by decide +kernel
theorem dX8_cargoAt_0 : decode cX8_cargoAt 0 = .ok (.sipush 190, 3) := by decide +kernel
theorem dX8_cargoAt_3 : decode cX8_cargoAt 3 = .ok (.iload_n 0, 1) := by decide +kernel
theorem dX8_cargoAt_4 : decode cX8_cargoAt 4 = .ok (.imul, 1) := by decide +kernel
theorem dX8_cargoAt_5 : decode cX8_cargoAt 5 = .ok (.bipush 108, 2) := by decide +kernel
theorem dX8_cargoAt_7 : decode cX8_cargoAt 7 = .ok (.iadd, 1) := by decide +kernel
theorem dX8_cargoAt_8 : decode cX8_cargoAt 8 = .ok (.bipush 8, 2) := by decide +kernel
theorem dX8_cargoAt_10 : decode cX8_cargoAt 10 = .ok (.iload_n 1, 1) := by decide +kernel
theorem dX8_cargoAt_11 : decode cX8_cargoAt 11 = .ok (.imul, 1) := by decide +kernel
theorem dX8_cargoAt_12 : decode cX8_cargoAt 12 = .ok (.iadd, 1) := by decide +kernel
theorem dX8_cargoAt_13 : decode cX8_cargoAt 13 = .ok (.iload_n 2, 1) := by decide +kernel
theorem dX8_cargoAt_14 : decode cX8_cargoAt 14 = .ok (.iadd, 1) := by decide +kernel
theorem dX8_cargoAt_15 : decode cX8_cargoAt 15 = .ok (.ireturn, 1) := by decide +kernel
theorem dX8_apart_0 : decode cX8_apart 0 = .ok (.iload_n 0, 1) := by decide +kernel
theorem dX8_apart_1 : decode cX8_apart 1 = .ok (.iload_n 1, 1) := by decide +kernel
theorem dX8_apart_2 : decode cX8_apart 2 = .ok (.if_icmp .le 9, 3) := by decide +kernel
theorem dX8_apart_5 : decode cX8_apart 5 = .ok (.iload_n 0, 1) := by decide +kernel
theorem dX8_apart_6 : decode cX8_apart 6 = .ok (.iload_n 1, 1) := by decide +kernel
theorem dX8_apart_7 : decode cX8_apart 7 = .ok (.isub, 1) := by decide +kernel
theorem dX8_apart_8 : decode cX8_apart 8 = .ok (.goto 6, 3) := by decide +kernel
theorem dX8_apart_11 : decode cX8_apart 11 = .ok (.iload_n 1, 1) := by decide +kernel
theorem dX8_apart_12 : decode cX8_apart 12 = .ok (.iload_n 0, 1) := by decide +kernel
theorem dX8_apart_13 : decode cX8_apart 13 = .ok (.isub, 1) := by decide +kernel
theorem dX8_apart_14 : decode cX8_apart 14 = .ok (.ireturn, 1) := by decide +kernel
theorem dX8_far_0 : decode cX8_far 0 = .ok (.bipush 10, 2) := by decide +kernel
theorem dX8_far_2 : decode cX8_far 2 = .ok (.aload_n 0, 1) := by decide +kernel
theorem dX8_far_3 : decode cX8_far 3 = .ok (.getfield 7, 3) := by decide +kernel
theorem dX8_far_6 : decode cX8_far 6 = .ok (.iconst 0, 1) := by decide +kernel
theorem dX8_far_7 : decode cX8_far 7 = .ok (.iconst 2, 1) := by decide +kernel
theorem dX8_far_8 : decode cX8_far 8 = .ok (.iload_n 1, 1) := by decide +kernel
theorem dX8_far_9 : decode cX8_far 9 = .ok (.imul, 1) := by decide +kernel
theorem dX8_far_10 : decode cX8_far 10 = .ok (.iadd, 1) := by decide +kernel
theorem dX8_far_11 : decode cX8_far 11 = .ok (.iaload, 1) := by decide +kernel
theorem dX8_far_12 : decode cX8_far 12 = .ok (.aload_n 0, 1) := by decide +kernel
theorem dX8_far_13 : decode cX8_far 13 = .ok (.getfield 7, 3) := by decide +kernel
theorem dX8_far_16 : decode cX8_far 16 = .ok (.iconst 0, 1) := by decide +kernel
theorem dX8_far_17 : decode cX8_far 17 = .ok (.iconst 2, 1) := by decide +kernel
theorem dX8_far_18 : decode cX8_far 18 = .ok (.iload_n 2, 1) := by decide +kernel
theorem dX8_far_19 : decode cX8_far 19 = .ok (.imul, 1) := by decide +kernel
theorem dX8_far_20 : decode cX8_far 20 = .ok (.iadd, 1) := by decide +kernel
theorem dX8_far_21 : decode cX8_far 21 = .ok (.iaload, 1) := by decide +kernel
theorem dX8_far_22 : decode cX8_far 22 = .ok (.invokestatic 33, 3) := by decide +kernel
theorem dX8_far_25 : decode cX8_far 25 = .ok (.aload_n 0, 1) := by decide +kernel
theorem dX8_far_26 : decode cX8_far 26 = .ok (.getfield 7, 3) := by decide +kernel
theorem dX8_far_29 : decode cX8_far 29 = .ok (.iconst 0, 1) := by decide +kernel
theorem dX8_far_30 : decode cX8_far 30 = .ok (.iconst 2, 1) := by decide +kernel
theorem dX8_far_31 : decode cX8_far 31 = .ok (.iload_n 1, 1) := by decide +kernel
theorem dX8_far_32 : decode cX8_far 32 = .ok (.imul, 1) := by decide +kernel
theorem dX8_far_33 : decode cX8_far 33 = .ok (.iadd, 1) := by decide +kernel
theorem dX8_far_34 : decode cX8_far 34 = .ok (.iconst 1, 1) := by decide +kernel
theorem dX8_far_35 : decode cX8_far 35 = .ok (.iadd, 1) := by decide +kernel
theorem dX8_far_36 : decode cX8_far 36 = .ok (.iaload, 1) := by decide +kernel
theorem dX8_far_37 : decode cX8_far 37 = .ok (.aload_n 0, 1) := by decide +kernel
theorem dX8_far_38 : decode cX8_far 38 = .ok (.getfield 7, 3) := by decide +kernel
theorem dX8_far_41 : decode cX8_far 41 = .ok (.iconst 0, 1) := by decide +kernel
theorem dX8_far_42 : decode cX8_far 42 = .ok (.iconst 2, 1) := by decide +kernel
theorem dX8_far_43 : decode cX8_far 43 = .ok (.iload_n 2, 1) := by decide +kernel
theorem dX8_far_44 : decode cX8_far 44 = .ok (.imul, 1) := by decide +kernel
theorem dX8_far_45 : decode cX8_far 45 = .ok (.iadd, 1) := by decide +kernel
theorem dX8_far_46 : decode cX8_far 46 = .ok (.iconst 1, 1) := by decide +kernel
theorem dX8_far_47 : decode cX8_far 47 = .ok (.iadd, 1) := by decide +kernel
theorem dX8_far_48 : decode cX8_far 48 = .ok (.iaload, 1) := by decide +kernel
theorem dX8_far_49 : decode cX8_far 49 = .ok (.invokestatic 33, 3) := by decide +kernel
theorem dX8_far_52 : decode cX8_far 52 = .ok (.iadd, 1) := by decide +kernel
theorem dX8_far_53 : decode cX8_far 53 = .ok (.imul, 1) := by decide +kernel
theorem dX8_far_54 : decode cX8_far 54 = .ok (.ireturn, 1) := by decide +kernel
theorem dX8_sails_0 : decode cX8_sails 0 = .ok (.bipush 24, 2) := by decide +kernel
theorem dX8_sails_2 : decode cX8_sails 2 = .ok (.aload_n 0, 1) := by decide +kernel
theorem dX8_sails_3 : decode cX8_sails 3 = .ok (.getfield 7, 3) := by decide +kernel
theorem dX8_sails_6 : decode cX8_sails 6 = .ok (.iload_n 1, 1) := by decide +kernel
theorem dX8_sails_7 : decode cX8_sails 7 = .ok (.iload_n 2, 1) := by decide +kernel
theorem dX8_sails_8 : decode cX8_sails 8 = .ok (.iconst 1, 1) := by decide +kernel
theorem dX8_sails_9 : decode cX8_sails 9 = .ok (.invokestatic 37, 3) := by decide +kernel
theorem dX8_sails_12 : decode cX8_sails 12 = .ok (.iaload, 1) := by decide +kernel
theorem dX8_sails_13 : decode cX8_sails 13 = .ok (.imul, 1) := by decide +kernel
theorem dX8_sails_14 : decode cX8_sails 14 = .ok (.istore 5, 2) := by decide +kernel
theorem dX8_sails_16 : decode cX8_sails 16 = .ok (.aload_n 0, 1) := by decide +kernel
theorem dX8_sails_17 : decode cX8_sails 17 = .ok (.iload_n 3, 1) := by decide +kernel
theorem dX8_sails_18 : decode cX8_sails 18 = .ok (.iload 4, 2) := by decide +kernel
theorem dX8_sails_20 : decode cX8_sails 20 = .ok (.invokevirtual 41, 3) := by decide +kernel
theorem dX8_sails_23 : decode cX8_sails 23 = .ok (.iload 5, 2) := by decide +kernel
theorem dX8_sails_25 : decode cX8_sails 25 = .ok (.iadd, 1) := by decide +kernel
theorem dX8_sails_26 : decode cX8_sails 26 = .ok (.iconst 1, 1) := by decide +kernel
theorem dX8_sails_27 : decode cX8_sails 27 = .ok (.isub, 1) := by decide +kernel
theorem dX8_sails_28 : decode cX8_sails 28 = .ok (.iload 5, 2) := by decide +kernel
theorem dX8_sails_30 : decode cX8_sails 30 = .ok (.idiv, 1) := by decide +kernel
theorem dX8_sails_31 : decode cX8_sails 31 = .ok (.ireturn, 1) := by decide +kernel
theorem dX8_looks_0 : decode cX8_looks 0 = .ok (.aload_n 0, 1) := by decide +kernel
theorem dX8_looks_1 : decode cX8_looks 1 = .ok (.getfield 7, 3) := by decide +kernel
theorem dX8_looks_4 : decode cX8_looks 4 = .ok (.iload_n 1, 1) := by decide +kernel
theorem dX8_looks_5 : decode cX8_looks 5 = .ok (.iload_n 3, 1) := by decide +kernel
theorem dX8_looks_6 : decode cX8_looks 6 = .ok (.iconst 1, 1) := by decide +kernel
theorem dX8_looks_7 : decode cX8_looks 7 = .ok (.invokestatic 44, 3) := by decide +kernel
theorem dX8_looks_10 : decode cX8_looks 10 = .ok (.iaload, 1) := by decide +kernel
theorem dX8_looks_11 : decode cX8_looks 11 = .ok (.istore 6, 2) := by decide +kernel
theorem dX8_looks_13 : decode cX8_looks 13 = .ok (.aload_n 0, 1) := by decide +kernel
theorem dX8_looks_14 : decode cX8_looks 14 = .ok (.iload 5, 2) := by decide +kernel
theorem dX8_looks_16 : decode cX8_looks 16 = .ok (.aload_n 0, 1) := by decide +kernel
theorem dX8_looks_17 : decode cX8_looks 17 = .ok (.iload_n 1, 1) := by decide +kernel
theorem dX8_looks_18 : decode cX8_looks 18 = .ok (.iload_n 2, 1) := by decide +kernel
theorem dX8_looks_19 : decode cX8_looks 19 = .ok (.iload 4, 2) := by decide +kernel
theorem dX8_looks_21 : decode cX8_looks 21 = .ok (.iload 6, 2) := by decide +kernel
theorem dX8_looks_23 : decode cX8_looks 23 = .ok (.invokevirtual 47, 3) := by decide +kernel
theorem dX8_looks_26 : decode cX8_looks 26 = .ok (.iadd, 1) := by decide +kernel
theorem dX8_looks_27 : decode cX8_looks 27 = .ok (.putfield 51, 3) := by decide +kernel
theorem dX8_looks_30 : decode cX8_looks 30 = .ok (.aload_n 0, 1) := by decide +kernel
theorem dX8_looks_31 : decode cX8_looks 31 = .ok (.getfield 7, 3) := by decide +kernel
theorem dX8_looks_34 : decode cX8_looks 34 = .ok (.iload_n 1, 1) := by decide +kernel
theorem dX8_looks_35 : decode cX8_looks 35 = .ok (.iload_n 3, 1) := by decide +kernel
theorem dX8_looks_36 : decode cX8_looks 36 = .ok (.iconst 3, 1) := by decide +kernel
theorem dX8_looks_37 : decode cX8_looks 37 = .ok (.invokestatic 44, 3) := by decide +kernel
theorem dX8_looks_40 : decode cX8_looks 40 = .ok (.iaload, 1) := by decide +kernel
theorem dX8_looks_41 : decode cX8_looks 41 = .ok (.istore 7, 2) := by decide +kernel
theorem dX8_looks_43 : decode cX8_looks 43 = .ok (.aload_n 0, 1) := by decide +kernel
theorem dX8_looks_44 : decode cX8_looks 44 = .ok (.aload_n 0, 1) := by decide +kernel
theorem dX8_looks_45 : decode cX8_looks 45 = .ok (.getfield 51, 3) := by decide +kernel
theorem dX8_looks_48 : decode cX8_looks 48 = .ok (.iload 7, 2) := by decide +kernel
theorem dX8_looks_50 : decode cX8_looks 50 = .ok (.if_icmp .ge 8, 3) := by decide +kernel
theorem dX8_looks_53 : decode cX8_looks 53 = .ok (.iload 7, 2) := by decide +kernel
theorem dX8_looks_55 : decode cX8_looks 55 = .ok (.goto 7, 3) := by decide +kernel
theorem dX8_looks_58 : decode cX8_looks 58 = .ok (.aload_n 0, 1) := by decide +kernel
theorem dX8_looks_59 : decode cX8_looks 59 = .ok (.getfield 51, 3) := by decide +kernel
theorem dX8_looks_62 : decode cX8_looks 62 = .ok (.putfield 54, 3) := by decide +kernel
theorem dX8_looks_65 : decode cX8_looks 65 = .ok (.aload_n 0, 1) := by decide +kernel
theorem dX8_looks_66 : decode cX8_looks 66 = .ok (.aload_n 0, 1) := by decide +kernel
theorem dX8_looks_67 : decode cX8_looks 67 = .ok (.getfield 54, 3) := by decide +kernel
theorem dX8_looks_70 : decode cX8_looks 70 = .ok (.iconst 4, 1) := by decide +kernel
theorem dX8_looks_71 : decode cX8_looks 71 = .ok (.iadd, 1) := by decide +kernel
theorem dX8_looks_72 : decode cX8_looks 72 = .ok (.aload_n 0, 1) := by decide +kernel
theorem dX8_looks_73 : decode cX8_looks 73 = .ok (.iload_n 1, 1) := by decide +kernel
theorem dX8_looks_74 : decode cX8_looks 74 = .ok (.iload_n 2, 1) := by decide +kernel
theorem dX8_looks_75 : decode cX8_looks 75 = .ok (.iload 6, 2) := by decide +kernel
theorem dX8_looks_77 : decode cX8_looks 77 = .ok (.aload_n 0, 1) := by decide +kernel
theorem dX8_looks_78 : decode cX8_looks 78 = .ok (.getfield 7, 3) := by decide +kernel
theorem dX8_looks_81 : decode cX8_looks 81 = .ok (.iload_n 1, 1) := by decide +kernel
theorem dX8_looks_82 : decode cX8_looks 82 = .ok (.iload_n 3, 1) := by decide +kernel
theorem dX8_looks_83 : decode cX8_looks 83 = .ok (.iconst 2, 1) := by decide +kernel
theorem dX8_looks_84 : decode cX8_looks 84 = .ok (.invokestatic 44, 3) := by decide +kernel
theorem dX8_looks_87 : decode cX8_looks 87 = .ok (.iaload, 1) := by decide +kernel
theorem dX8_looks_88 : decode cX8_looks 88 = .ok (.invokevirtual 47, 3) := by decide +kernel
theorem dX8_looks_91 : decode cX8_looks 91 = .ok (.iadd, 1) := by decide +kernel
theorem dX8_looks_92 : decode cX8_looks 92 = .ok (.putfield 57, 3) := by decide +kernel
theorem dX8_looks_95 : decode cX8_looks 95 = .ok (.aload_n 0, 1) := by decide +kernel
theorem dX8_looks_96 : decode cX8_looks 96 = .ok (.aload_n 0, 1) := by decide +kernel
theorem dX8_looks_97 : decode cX8_looks 97 = .ok (.getfield 7, 3) := by decide +kernel
theorem dX8_looks_100 : decode cX8_looks 100 = .ok (.iload_n 1, 1) := by decide +kernel
theorem dX8_looks_101 : decode cX8_looks 101 = .ok (.iload_n 3, 1) := by decide +kernel
theorem dX8_looks_102 : decode cX8_looks 102 = .ok (.iconst 0, 1) := by decide +kernel
theorem dX8_looks_103 : decode cX8_looks 103 = .ok (.invokestatic 44, 3) := by decide +kernel
theorem dX8_looks_106 : decode cX8_looks 106 = .ok (.iaload, 1) := by decide +kernel
theorem dX8_looks_107 : decode cX8_looks 107 = .ok (.aload_n 0, 1) := by decide +kernel
theorem dX8_looks_108 : decode cX8_looks 108 = .ok (.getfield 7, 3) := by decide +kernel
theorem dX8_looks_111 : decode cX8_looks 111 = .ok (.iload_n 1, 1) := by decide +kernel
theorem dX8_looks_112 : decode cX8_looks 112 = .ok (.iload_n 3, 1) := by decide +kernel
theorem dX8_looks_113 : decode cX8_looks 113 = .ok (.iconst 5, 1) := by decide +kernel
theorem dX8_looks_114 : decode cX8_looks 114 = .ok (.invokestatic 44, 3) := by decide +kernel
theorem dX8_looks_117 : decode cX8_looks 117 = .ok (.iaload, 1) := by decide +kernel
theorem dX8_looks_118 : decode cX8_looks 118 = .ok (.imul, 1) := by decide +kernel
theorem dX8_looks_119 : decode cX8_looks 119 = .ok (.aload_n 0, 1) := by decide +kernel
theorem dX8_looks_120 : decode cX8_looks 120 = .ok (.getfield 57, 3) := by decide +kernel
theorem dX8_looks_123 : decode cX8_looks 123 = .ok (.iload 5, 2) := by decide +kernel
theorem dX8_looks_125 : decode cX8_looks 125 = .ok (.isub, 1) := by decide +kernel
theorem dX8_looks_126 : decode cX8_looks 126 = .ok (.aload_n 0, 1) := by decide +kernel
theorem dX8_looks_127 : decode cX8_looks 127 = .ok (.getfield 7, 3) := by decide +kernel
theorem dX8_looks_130 : decode cX8_looks 130 = .ok (.iload_n 1, 1) := by decide +kernel
theorem dX8_looks_131 : decode cX8_looks 131 = .ok (.iload_n 2, 1) := by decide +kernel
theorem dX8_looks_132 : decode cX8_looks 132 = .ok (.iconst 2, 1) := by decide +kernel
theorem dX8_looks_133 : decode cX8_looks 133 = .ok (.invokestatic 37, 3) := by decide +kernel
theorem dX8_looks_136 : decode cX8_looks 136 = .ok (.iaload, 1) := by decide +kernel
theorem dX8_looks_137 : decode cX8_looks 137 = .ok (.imul, 1) := by decide +kernel
theorem dX8_looks_138 : decode cX8_looks 138 = .ok (.isub, 1) := by decide +kernel
theorem dX8_looks_139 : decode cX8_looks 139 = .ok (.putfield 60, 3) := by decide +kernel
theorem dX8_looks_142 : decode cX8_looks 142 = .ok (.return_, 1) := by decide +kernel
theorem dX8_isLate_0 : decode cX8_isLate 0 = .ok (.aload_n 0, 1) := by decide +kernel
theorem dX8_isLate_1 : decode cX8_isLate 1 = .ok (.getfield 51, 3) := by decide +kernel
theorem dX8_isLate_4 : decode cX8_isLate 4 = .ok (.aload_n 0, 1) := by decide +kernel
theorem dX8_isLate_5 : decode cX8_isLate 5 = .ok (.getfield 7, 3) := by decide +kernel
theorem dX8_isLate_8 : decode cX8_isLate 8 = .ok (.iload_n 1, 1) := by decide +kernel
theorem dX8_isLate_9 : decode cX8_isLate 9 = .ok (.iload_n 2, 1) := by decide +kernel
theorem dX8_isLate_10 : decode cX8_isLate 10 = .ok (.iconst 4, 1) := by decide +kernel
theorem dX8_isLate_11 : decode cX8_isLate 11 = .ok (.invokestatic 44, 3) := by decide +kernel
theorem dX8_isLate_14 : decode cX8_isLate 14 = .ok (.iaload, 1) := by decide +kernel
theorem dX8_isLate_15 : decode cX8_isLate 15 = .ok (.if_icmp .le 7, 3) := by decide +kernel
theorem dX8_isLate_18 : decode cX8_isLate 18 = .ok (.iconst 1, 1) := by decide +kernel
theorem dX8_isLate_19 : decode cX8_isLate 19 = .ok (.goto 4, 3) := by decide +kernel
theorem dX8_isLate_22 : decode cX8_isLate 22 = .ok (.iconst 0, 1) := by decide +kernel
theorem dX8_isLate_23 : decode cX8_isLate 23 = .ok (.ireturn, 1) := by decide +kernel
theorem dX8_goes_0 : decode cX8_goes 0 = .ok (.aload_n 0, 1) := by decide +kernel
theorem dX8_goes_1 : decode cX8_goes 1 = .ok (.aload_n 0, 1) := by decide +kernel
theorem dX8_goes_2 : decode cX8_goes 2 = .ok (.getfield 7, 3) := by decide +kernel
theorem dX8_goes_5 : decode cX8_goes 5 = .ok (.iload_n 1, 1) := by decide +kernel
theorem dX8_goes_6 : decode cX8_goes 6 = .ok (.iload_n 2, 1) := by decide +kernel
theorem dX8_goes_7 : decode cX8_goes 7 = .ok (.iconst 3, 1) := by decide +kernel
theorem dX8_goes_8 : decode cX8_goes 8 = .ok (.invokestatic 37, 3) := by decide +kernel
theorem dX8_goes_11 : decode cX8_goes 11 = .ok (.iaload, 1) := by decide +kernel
theorem dX8_goes_12 : decode cX8_goes 12 = .ok (.putfield 63, 3) := by decide +kernel
theorem dX8_goes_15 : decode cX8_goes 15 = .ok (.aload_n 0, 1) := by decide +kernel
theorem dX8_goes_16 : decode cX8_goes 16 = .ok (.aload_n 0, 1) := by decide +kernel
theorem dX8_goes_17 : decode cX8_goes 17 = .ok (.getfield 7, 3) := by decide +kernel
theorem dX8_goes_20 : decode cX8_goes 20 = .ok (.iload_n 1, 1) := by decide +kernel
theorem dX8_goes_21 : decode cX8_goes 21 = .ok (.iload_n 2, 1) := by decide +kernel
theorem dX8_goes_22 : decode cX8_goes 22 = .ok (.iconst 4, 1) := by decide +kernel
theorem dX8_goes_23 : decode cX8_goes 23 = .ok (.invokestatic 37, 3) := by decide +kernel
theorem dX8_goes_26 : decode cX8_goes 26 = .ok (.iaload, 1) := by decide +kernel
theorem dX8_goes_27 : decode cX8_goes 27 = .ok (.putfield 66, 3) := by decide +kernel
theorem dX8_goes_30 : decode cX8_goes 30 = .ok (.aload_n 0, 1) := by decide +kernel
theorem dX8_goes_31 : decode cX8_goes 31 = .ok (.iconst 0, 1) := by decide +kernel
theorem dX8_goes_32 : decode cX8_goes 32 = .ok (.putfield 69, 3) := by decide +kernel
theorem dX8_goes_35 : decode cX8_goes 35 = .ok (.aload_n 0, 1) := by decide +kernel
theorem dX8_goes_36 : decode cX8_goes 36 = .ok (.iconst 0, 1) := by decide +kernel
theorem dX8_goes_37 : decode cX8_goes 37 = .ok (.putfield 72, 3) := by decide +kernel
theorem dX8_goes_40 : decode cX8_goes 40 = .ok (.iconst 1, 1) := by decide +kernel
theorem dX8_goes_41 : decode cX8_goes 41 = .ok (.istore 4, 2) := by decide +kernel
theorem dX8_goes_43 : decode cX8_goes 43 = .ok (.iconst 0, 1) := by decide +kernel
theorem dX8_goes_44 : decode cX8_goes 44 = .ok (.istore 5, 2) := by decide +kernel
theorem dX8_goes_46 : decode cX8_goes 46 = .ok (.iload 5, 2) := by decide +kernel
theorem dX8_goes_48 : decode cX8_goes 48 = .ok (.iload_n 3, 1) := by decide +kernel
theorem dX8_goes_49 : decode cX8_goes 49 = .ok (.if_icmp .ge 116, 3) := by decide +kernel
theorem dX8_goes_52 : decode cX8_goes 52 = .ok (.iload 4, 2) := by decide +kernel
theorem dX8_goes_54 : decode cX8_goes 54 = .ok (.ifCond .eq 111, 3) := by decide +kernel
theorem dX8_goes_57 : decode cX8_goes 57 = .ok (.aload_n 0, 1) := by decide +kernel
theorem dX8_goes_58 : decode cX8_goes 58 = .ok (.getfield 7, 3) := by decide +kernel
theorem dX8_goes_61 : decode cX8_goes 61 = .ok (.iload_n 1, 1) := by decide +kernel
theorem dX8_goes_62 : decode cX8_goes 62 = .ok (.iload_n 2, 1) := by decide +kernel
theorem dX8_goes_63 : decode cX8_goes 63 = .ok (.bipush 7, 2) := by decide +kernel
theorem dX8_goes_65 : decode cX8_goes 65 = .ok (.iload 5, 2) := by decide +kernel
theorem dX8_goes_67 : decode cX8_goes 67 = .ok (.iadd, 1) := by decide +kernel
theorem dX8_goes_68 : decode cX8_goes 68 = .ok (.invokestatic 37, 3) := by decide +kernel
theorem dX8_goes_71 : decode cX8_goes 71 = .ok (.iaload, 1) := by decide +kernel
theorem dX8_goes_72 : decode cX8_goes 72 = .ok (.istore 6, 2) := by decide +kernel
theorem dX8_goes_74 : decode cX8_goes 74 = .ok (.aload_n 0, 1) := by decide +kernel
theorem dX8_goes_75 : decode cX8_goes 75 = .ok (.iload_n 1, 1) := by decide +kernel
theorem dX8_goes_76 : decode cX8_goes 76 = .ok (.iload_n 2, 1) := by decide +kernel
theorem dX8_goes_77 : decode cX8_goes 77 = .ok (.iload 6, 2) := by decide +kernel
theorem dX8_goes_79 : decode cX8_goes 79 = .ok (.aload_n 0, 1) := by decide +kernel
theorem dX8_goes_80 : decode cX8_goes 80 = .ok (.getfield 63, 3) := by decide +kernel
theorem dX8_goes_83 : decode cX8_goes 83 = .ok (.aload_n 0, 1) := by decide +kernel
theorem dX8_goes_84 : decode cX8_goes 84 = .ok (.getfield 66, 3) := by decide +kernel
theorem dX8_goes_87 : decode cX8_goes 87 = .ok (.invokevirtual 75, 3) := by decide +kernel
theorem dX8_goes_90 : decode cX8_goes 90 = .ok (.aload_n 0, 1) := by decide +kernel
theorem dX8_goes_91 : decode cX8_goes 91 = .ok (.iload_n 1, 1) := by decide +kernel
theorem dX8_goes_92 : decode cX8_goes 92 = .ok (.iload 6, 2) := by decide +kernel
theorem dX8_goes_94 : decode cX8_goes 94 = .ok (.invokevirtual 79, 3) := by decide +kernel
theorem dX8_goes_97 : decode cX8_goes 97 = .ok (.ifCond .ne 7, 3) := by decide +kernel
theorem dX8_goes_100 : decode cX8_goes 100 = .ok (.iconst 1, 1) := by decide +kernel
theorem dX8_goes_101 : decode cX8_goes 101 = .ok (.goto 4, 3) := by decide +kernel
theorem dX8_goes_104 : decode cX8_goes 104 = .ok (.iconst 0, 1) := by decide +kernel
theorem dX8_goes_105 : decode cX8_goes 105 = .ok (.istore 4, 2) := by decide +kernel
theorem dX8_goes_107 : decode cX8_goes 107 = .ok (.iload 4, 2) := by decide +kernel
theorem dX8_goes_109 : decode cX8_goes 109 = .ok (.ifCond .eq 50, 3) := by decide +kernel
theorem dX8_goes_112 : decode cX8_goes 112 = .ok (.aload_n 0, 1) := by decide +kernel
theorem dX8_goes_113 : decode cX8_goes 113 = .ok (.aload_n 0, 1) := by decide +kernel
theorem dX8_goes_114 : decode cX8_goes 114 = .ok (.getfield 7, 3) := by decide +kernel
theorem dX8_goes_117 : decode cX8_goes 117 = .ok (.iload_n 1, 1) := by decide +kernel
theorem dX8_goes_118 : decode cX8_goes 118 = .ok (.iload 6, 2) := by decide +kernel
theorem dX8_goes_120 : decode cX8_goes 120 = .ok (.iconst 2, 1) := by decide +kernel
theorem dX8_goes_121 : decode cX8_goes 121 = .ok (.invokestatic 44, 3) := by decide +kernel
theorem dX8_goes_124 : decode cX8_goes 124 = .ok (.iaload, 1) := by decide +kernel
theorem dX8_goes_125 : decode cX8_goes 125 = .ok (.putfield 63, 3) := by decide +kernel
theorem dX8_goes_128 : decode cX8_goes 128 = .ok (.aload_n 0, 1) := by decide +kernel
theorem dX8_goes_129 : decode cX8_goes 129 = .ok (.aload_n 0, 1) := by decide +kernel
theorem dX8_goes_130 : decode cX8_goes 130 = .ok (.getfield 57, 3) := by decide +kernel
theorem dX8_goes_133 : decode cX8_goes 133 = .ok (.putfield 66, 3) := by decide +kernel
theorem dX8_goes_136 : decode cX8_goes 136 = .ok (.aload_n 0, 1) := by decide +kernel
theorem dX8_goes_137 : decode cX8_goes 137 = .ok (.dup, 1) := by decide +kernel
theorem dX8_goes_138 : decode cX8_goes 138 = .ok (.getfield 69, 3) := by decide +kernel
theorem dX8_goes_141 : decode cX8_goes 141 = .ok (.aload_n 0, 1) := by decide +kernel
theorem dX8_goes_142 : decode cX8_goes 142 = .ok (.getfield 60, 3) := by decide +kernel
theorem dX8_goes_145 : decode cX8_goes 145 = .ok (.iadd, 1) := by decide +kernel
theorem dX8_goes_146 : decode cX8_goes 146 = .ok (.putfield 69, 3) := by decide +kernel
theorem dX8_goes_149 : decode cX8_goes 149 = .ok (.aload_n 0, 1) := by decide +kernel
theorem dX8_goes_150 : decode cX8_goes 150 = .ok (.dup, 1) := by decide +kernel
theorem dX8_goes_151 : decode cX8_goes 151 = .ok (.getfield 72, 3) := by decide +kernel
theorem dX8_goes_154 : decode cX8_goes 154 = .ok (.iconst 1, 1) := by decide +kernel
theorem dX8_goes_155 : decode cX8_goes 155 = .ok (.iadd, 1) := by decide +kernel
theorem dX8_goes_156 : decode cX8_goes 156 = .ok (.putfield 72, 3) := by decide +kernel
theorem dX8_goes_159 : decode cX8_goes 159 = .ok (.iinc 5 1, 3) := by decide +kernel
theorem dX8_goes_162 : decode cX8_goes 162 = .ok (.goto (-116), 3) := by decide +kernel
theorem dX8_goes_165 : decode cX8_goes 165 = .ok (.return_, 1) := by decide +kernel
theorem dX8_goesAll_0 : decode cX8_goesAll 0 = .ok (.aload_n 0, 1) := by decide +kernel
theorem dX8_goesAll_1 : decode cX8_goesAll 1 = .ok (.iload_n 1, 1) := by decide +kernel
theorem dX8_goesAll_2 : decode cX8_goesAll 2 = .ok (.iload_n 2, 1) := by decide +kernel
theorem dX8_goesAll_3 : decode cX8_goesAll 3 = .ok (.aload_n 0, 1) := by decide +kernel
theorem dX8_goesAll_4 : decode cX8_goesAll 4 = .ok (.getfield 7, 3) := by decide +kernel
theorem dX8_goesAll_7 : decode cX8_goesAll 7 = .ok (.iload_n 1, 1) := by decide +kernel
theorem dX8_goesAll_8 : decode cX8_goesAll 8 = .ok (.iload_n 2, 1) := by decide +kernel
theorem dX8_goesAll_9 : decode cX8_goesAll 9 = .ok (.bipush 6, 2) := by decide +kernel
theorem dX8_goesAll_11 : decode cX8_goesAll 11 = .ok (.invokestatic 37, 3) := by decide +kernel
theorem dX8_goesAll_14 : decode cX8_goesAll 14 = .ok (.iaload, 1) := by decide +kernel
theorem dX8_goesAll_15 : decode cX8_goesAll 15 = .ok (.invokevirtual 83, 3) := by decide +kernel
theorem dX8_goesAll_18 : decode cX8_goesAll 18 = .ok (.return_, 1) := by decide +kernel
theorem dX8_could_0 : decode cX8_could 0 = .ok (.aload_n 0, 1) := by decide +kernel
theorem dX8_could_1 : decode cX8_could 1 = .ok (.iload_n 1, 1) := by decide +kernel
theorem dX8_could_2 : decode cX8_could 2 = .ok (.iload_n 2, 1) := by decide +kernel
theorem dX8_could_3 : decode cX8_could 3 = .ok (.invokevirtual 87, 3) := by decide +kernel
theorem dX8_could_6 : decode cX8_could 6 = .ok (.aload_n 0, 1) := by decide +kernel
theorem dX8_could_7 : decode cX8_could 7 = .ok (.iload_n 1, 1) := by decide +kernel
theorem dX8_could_8 : decode cX8_could 8 = .ok (.iload_n 2, 1) := by decide +kernel
theorem dX8_could_9 : decode cX8_could 9 = .ok (.iload_n 3, 1) := by decide +kernel
theorem dX8_could_10 : decode cX8_could 10 = .ok (.aload_n 0, 1) := by decide +kernel
theorem dX8_could_11 : decode cX8_could 11 = .ok (.getfield 63, 3) := by decide +kernel
theorem dX8_could_14 : decode cX8_could 14 = .ok (.aload_n 0, 1) := by decide +kernel
theorem dX8_could_15 : decode cX8_could 15 = .ok (.getfield 66, 3) := by decide +kernel
theorem dX8_could_18 : decode cX8_could 18 = .ok (.invokevirtual 75, 3) := by decide +kernel
theorem dX8_could_21 : decode cX8_could 21 = .ok (.aload_n 0, 1) := by decide +kernel
theorem dX8_could_22 : decode cX8_could 22 = .ok (.getfield 7, 3) := by decide +kernel
theorem dX8_could_25 : decode cX8_could 25 = .ok (.iload_n 1, 1) := by decide +kernel
theorem dX8_could_26 : decode cX8_could 26 = .ok (.iload_n 3, 1) := by decide +kernel
theorem dX8_could_27 : decode cX8_could 27 = .ok (.iconst 0, 1) := by decide +kernel
theorem dX8_could_28 : decode cX8_could 28 = .ok (.invokestatic 44, 3) := by decide +kernel
theorem dX8_could_31 : decode cX8_could 31 = .ok (.iaload, 1) := by decide +kernel
theorem dX8_could_32 : decode cX8_could 32 = .ok (.aload_n 0, 1) := by decide +kernel
theorem dX8_could_33 : decode cX8_could 33 = .ok (.getfield 7, 3) := by decide +kernel
theorem dX8_could_36 : decode cX8_could 36 = .ok (.iload_n 1, 1) := by decide +kernel
theorem dX8_could_37 : decode cX8_could 37 = .ok (.iload_n 2, 1) := by decide +kernel
theorem dX8_could_38 : decode cX8_could 38 = .ok (.iconst 0, 1) := by decide +kernel
theorem dX8_could_39 : decode cX8_could 39 = .ok (.invokestatic 37, 3) := by decide +kernel
theorem dX8_could_42 : decode cX8_could 42 = .ok (.iaload, 1) := by decide +kernel
theorem dX8_could_43 : decode cX8_could 43 = .ok (.if_icmp .le 7, 3) := by decide +kernel
theorem dX8_could_46 : decode cX8_could 46 = .ok (.iconst 1, 1) := by decide +kernel
theorem dX8_could_47 : decode cX8_could 47 = .ok (.goto 17, 3) := by decide +kernel
theorem dX8_could_50 : decode cX8_could 50 = .ok (.aload_n 0, 1) := by decide +kernel
theorem dX8_could_51 : decode cX8_could 51 = .ok (.iload_n 1, 1) := by decide +kernel
theorem dX8_could_52 : decode cX8_could 52 = .ok (.iload_n 3, 1) := by decide +kernel
theorem dX8_could_53 : decode cX8_could 53 = .ok (.invokevirtual 79, 3) := by decide +kernel
theorem dX8_could_56 : decode cX8_could 56 = .ok (.ifCond .eq 7, 3) := by decide +kernel
theorem dX8_could_59 : decode cX8_could 59 = .ok (.iconst 2, 1) := by decide +kernel
theorem dX8_could_60 : decode cX8_could 60 = .ok (.goto 4, 3) := by decide +kernel
theorem dX8_could_63 : decode cX8_could 63 = .ok (.iconst 0, 1) := by decide +kernel
theorem dX8_could_64 : decode cX8_could 64 = .ok (.ireturn, 1) := by decide +kernel
theorem dX8_fixes_0 : decode cX8_fixes 0 = .ok (.iload_n 1, 1) := by decide +kernel
theorem dX8_fixes_1 : decode cX8_fixes 1 = .ok (.iload_n 2, 1) := by decide +kernel
theorem dX8_fixes_2 : decode cX8_fixes 2 = .ok (.bipush 6, 2) := by decide +kernel
theorem dX8_fixes_4 : decode cX8_fixes 4 = .ok (.invokestatic 37, 3) := by decide +kernel
theorem dX8_fixes_7 : decode cX8_fixes 7 = .ok (.istore 4, 2) := by decide +kernel
theorem dX8_fixes_9 : decode cX8_fixes 9 = .ok (.aload_n 0, 1) := by decide +kernel
theorem dX8_fixes_10 : decode cX8_fixes 10 = .ok (.getfield 7, 3) := by decide +kernel
theorem dX8_fixes_13 : decode cX8_fixes 13 = .ok (.iload_n 1, 1) := by decide +kernel
theorem dX8_fixes_14 : decode cX8_fixes 14 = .ok (.iload_n 2, 1) := by decide +kernel
theorem dX8_fixes_15 : decode cX8_fixes 15 = .ok (.bipush 7, 2) := by decide +kernel
theorem dX8_fixes_17 : decode cX8_fixes 17 = .ok (.aload_n 0, 1) := by decide +kernel
theorem dX8_fixes_18 : decode cX8_fixes 18 = .ok (.getfield 7, 3) := by decide +kernel
theorem dX8_fixes_21 : decode cX8_fixes 21 = .ok (.iload 4, 2) := by decide +kernel
theorem dX8_fixes_23 : decode cX8_fixes 23 = .ok (.iaload, 1) := by decide +kernel
theorem dX8_fixes_24 : decode cX8_fixes 24 = .ok (.iadd, 1) := by decide +kernel
theorem dX8_fixes_25 : decode cX8_fixes 25 = .ok (.invokestatic 37, 3) := by decide +kernel
theorem dX8_fixes_28 : decode cX8_fixes 28 = .ok (.iload_n 3, 1) := by decide +kernel
theorem dX8_fixes_29 : decode cX8_fixes 29 = .ok (.iastore, 1) := by decide +kernel
theorem dX8_fixes_30 : decode cX8_fixes 30 = .ok (.aload_n 0, 1) := by decide +kernel
theorem dX8_fixes_31 : decode cX8_fixes 31 = .ok (.getfield 7, 3) := by decide +kernel
theorem dX8_fixes_34 : decode cX8_fixes 34 = .ok (.iload 4, 2) := by decide +kernel
theorem dX8_fixes_36 : decode cX8_fixes 36 = .ok (.dup2, 1) := by decide +kernel
theorem dX8_fixes_37 : decode cX8_fixes 37 = .ok (.iaload, 1) := by decide +kernel
theorem dX8_fixes_38 : decode cX8_fixes 38 = .ok (.iconst 1, 1) := by decide +kernel
theorem dX8_fixes_39 : decode cX8_fixes 39 = .ok (.iadd, 1) := by decide +kernel
theorem dX8_fixes_40 : decode cX8_fixes 40 = .ok (.iastore, 1) := by decide +kernel
theorem dX8_fixes_41 : decode cX8_fixes 41 = .ok (.aload_n 0, 1) := by decide +kernel
theorem dX8_fixes_42 : decode cX8_fixes 42 = .ok (.getfield 7, 3) := by decide +kernel
theorem dX8_fixes_45 : decode cX8_fixes 45 = .ok (.iload_n 1, 1) := by decide +kernel
theorem dX8_fixes_46 : decode cX8_fixes 46 = .ok (.iload_n 3, 1) := by decide +kernel
theorem dX8_fixes_47 : decode cX8_fixes 47 = .ok (.bipush 6, 2) := by decide +kernel
theorem dX8_fixes_49 : decode cX8_fixes 49 = .ok (.invokestatic 44, 3) := by decide +kernel
theorem dX8_fixes_52 : decode cX8_fixes 52 = .ok (.iconst 1, 1) := by decide +kernel
theorem dX8_fixes_53 : decode cX8_fixes 53 = .ok (.iastore, 1) := by decide +kernel
theorem dX8_fixes_54 : decode cX8_fixes 54 = .ok (.aload_n 0, 1) := by decide +kernel
theorem dX8_fixes_55 : decode cX8_fixes 55 = .ok (.getfield 7, 3) := by decide +kernel
theorem dX8_fixes_58 : decode cX8_fixes 58 = .ok (.iload_n 1, 1) := by decide +kernel
theorem dX8_fixes_59 : decode cX8_fixes 59 = .ok (.iload_n 3, 1) := by decide +kernel
theorem dX8_fixes_60 : decode cX8_fixes 60 = .ok (.bipush 7, 2) := by decide +kernel
theorem dX8_fixes_62 : decode cX8_fixes 62 = .ok (.invokestatic 44, 3) := by decide +kernel
theorem dX8_fixes_65 : decode cX8_fixes 65 = .ok (.iload_n 2, 1) := by decide +kernel
theorem dX8_fixes_66 : decode cX8_fixes 66 = .ok (.iastore, 1) := by decide +kernel
theorem dX8_fixes_67 : decode cX8_fixes 67 = .ok (.return_, 1) := by decide +kernel
theorem dX8_doShip_0 : decode cX8_doShip 0 = .ok (.iload_n 1, 1) := by decide +kernel
theorem dX8_doShip_1 : decode cX8_doShip 1 = .ok (.iconst 1, 1) := by decide +kernel
theorem dX8_doShip_2 : decode cX8_doShip 2 = .ok (.bipush 99, 2) := by decide +kernel
theorem dX8_doShip_4 : decode cX8_doShip 4 = .ok (.invokestatic 29, 3) := by decide +kernel
theorem dX8_doShip_7 : decode cX8_doShip 7 = .ok (.ifCond .eq 46, 3) := by decide +kernel
theorem dX8_doShip_10 : decode cX8_doShip 10 = .ok (.iload_n 2, 1) := by decide +kernel
theorem dX8_doShip_11 : decode cX8_doShip 11 = .ok (.iconst 1, 1) := by decide +kernel
theorem dX8_doShip_12 : decode cX8_doShip 12 = .ok (.bipush 20, 2) := by decide +kernel
theorem dX8_doShip_14 : decode cX8_doShip 14 = .ok (.invokestatic 29, 3) := by decide +kernel
theorem dX8_doShip_17 : decode cX8_doShip 17 = .ok (.ifCond .eq 36, 3) := by decide +kernel
theorem dX8_doShip_20 : decode cX8_doShip 20 = .ok (.iload_n 3, 1) := by decide +kernel
theorem dX8_doShip_21 : decode cX8_doShip 21 = .ok (.iconst 1, 1) := by decide +kernel
theorem dX8_doShip_22 : decode cX8_doShip 22 = .ok (.bipush 99, 2) := by decide +kernel
theorem dX8_doShip_24 : decode cX8_doShip 24 = .ok (.invokestatic 29, 3) := by decide +kernel
theorem dX8_doShip_27 : decode cX8_doShip 27 = .ok (.ifCond .eq 26, 3) := by decide +kernel
theorem dX8_doShip_30 : decode cX8_doShip 30 = .ok (.iload 4, 2) := by decide +kernel
theorem dX8_doShip_32 : decode cX8_doShip 32 = .ok (.iconst 0, 1) := by decide +kernel
theorem dX8_doShip_33 : decode cX8_doShip 33 = .ok (.bipush 7, 2) := by decide +kernel
theorem dX8_doShip_35 : decode cX8_doShip 35 = .ok (.invokestatic 29, 3) := by decide +kernel
theorem dX8_doShip_38 : decode cX8_doShip 38 = .ok (.ifCond .eq 15, 3) := by decide +kernel
theorem dX8_doShip_41 : decode cX8_doShip 41 = .ok (.iload 5, 2) := by decide +kernel
theorem dX8_doShip_43 : decode cX8_doShip 43 = .ok (.iconst 0, 1) := by decide +kernel
theorem dX8_doShip_44 : decode cX8_doShip 44 = .ok (.sipush 999, 3) := by decide +kernel
theorem dX8_doShip_47 : decode cX8_doShip 47 = .ok (.invokestatic 29, 3) := by decide +kernel
theorem dX8_doShip_50 : decode cX8_doShip 50 = .ok (.ifCond .ne 6, 3) := by decide +kernel
theorem dX8_doShip_53 : decode cX8_doShip 53 = .ok (.ldc 24, 2) := by decide +kernel
theorem dX8_doShip_55 : decode cX8_doShip 55 = .ok (.ireturn, 1) := by decide +kernel
theorem dX8_doShip_56 : decode cX8_doShip 56 = .ok (.aload_n 0, 1) := by decide +kernel
theorem dX8_doShip_57 : decode cX8_doShip 57 = .ok (.getfield 7, 3) := by decide +kernel
theorem dX8_doShip_60 : decode cX8_doShip 60 = .ok (.bipush 16, 2) := by decide +kernel
theorem dX8_doShip_62 : decode cX8_doShip 62 = .ok (.iaload, 1) := by decide +kernel
theorem dX8_doShip_63 : decode cX8_doShip 63 = .ok (.iconst 5, 1) := by decide +kernel
theorem dX8_doShip_64 : decode cX8_doShip 64 = .ok (.if_icmp .ne 6, 3) := by decide +kernel
theorem dX8_doShip_67 : decode cX8_doShip 67 = .ok (.ldc 90, 2) := by decide +kernel
theorem dX8_doShip_69 : decode cX8_doShip 69 = .ok (.ireturn, 1) := by decide +kernel
theorem dX8_doShip_70 : decode cX8_doShip 70 = .ok (.aload_n 0, 1) := by decide +kernel
theorem dX8_doShip_71 : decode cX8_doShip 71 = .ok (.getfield 7, 3) := by decide +kernel
theorem dX8_doShip_74 : decode cX8_doShip 74 = .ok (.bipush 16, 2) := by decide +kernel
theorem dX8_doShip_76 : decode cX8_doShip 76 = .ok (.iaload, 1) := by decide +kernel
theorem dX8_doShip_77 : decode cX8_doShip 77 = .ok (.istore 6, 2) := by decide +kernel
theorem dX8_doShip_79 : decode cX8_doShip 79 = .ok (.aload_n 0, 1) := by decide +kernel
theorem dX8_doShip_80 : decode cX8_doShip 80 = .ok (.getfield 7, 3) := by decide +kernel
theorem dX8_doShip_83 : decode cX8_doShip 83 = .ok (.iconst 0, 1) := by decide +kernel
theorem dX8_doShip_84 : decode cX8_doShip 84 = .ok (.iload 6, 2) := by decide +kernel
theorem dX8_doShip_86 : decode cX8_doShip 86 = .ok (.iconst 0, 1) := by decide +kernel
theorem dX8_doShip_87 : decode cX8_doShip 87 = .ok (.invokestatic 37, 3) := by decide +kernel
theorem dX8_doShip_90 : decode cX8_doShip 90 = .ok (.iload_n 1, 1) := by decide +kernel
theorem dX8_doShip_91 : decode cX8_doShip 91 = .ok (.iastore, 1) := by decide +kernel
theorem dX8_doShip_92 : decode cX8_doShip 92 = .ok (.aload_n 0, 1) := by decide +kernel
theorem dX8_doShip_93 : decode cX8_doShip 93 = .ok (.getfield 7, 3) := by decide +kernel
theorem dX8_doShip_96 : decode cX8_doShip 96 = .ok (.iconst 0, 1) := by decide +kernel
theorem dX8_doShip_97 : decode cX8_doShip 97 = .ok (.iload 6, 2) := by decide +kernel
theorem dX8_doShip_99 : decode cX8_doShip 99 = .ok (.iconst 1, 1) := by decide +kernel
theorem dX8_doShip_100 : decode cX8_doShip 100 = .ok (.invokestatic 37, 3) := by decide +kernel
theorem dX8_doShip_103 : decode cX8_doShip 103 = .ok (.iload_n 2, 1) := by decide +kernel
theorem dX8_doShip_104 : decode cX8_doShip 104 = .ok (.iastore, 1) := by decide +kernel
theorem dX8_doShip_105 : decode cX8_doShip 105 = .ok (.aload_n 0, 1) := by decide +kernel
theorem dX8_doShip_106 : decode cX8_doShip 106 = .ok (.getfield 7, 3) := by decide +kernel
theorem dX8_doShip_109 : decode cX8_doShip 109 = .ok (.iconst 0, 1) := by decide +kernel
theorem dX8_doShip_110 : decode cX8_doShip 110 = .ok (.iload 6, 2) := by decide +kernel
theorem dX8_doShip_112 : decode cX8_doShip 112 = .ok (.iconst 2, 1) := by decide +kernel
theorem dX8_doShip_113 : decode cX8_doShip 113 = .ok (.invokestatic 37, 3) := by decide +kernel
theorem dX8_doShip_116 : decode cX8_doShip 116 = .ok (.iload_n 3, 1) := by decide +kernel
theorem dX8_doShip_117 : decode cX8_doShip 117 = .ok (.iastore, 1) := by decide +kernel
theorem dX8_doShip_118 : decode cX8_doShip 118 = .ok (.aload_n 0, 1) := by decide +kernel
theorem dX8_doShip_119 : decode cX8_doShip 119 = .ok (.getfield 7, 3) := by decide +kernel
theorem dX8_doShip_122 : decode cX8_doShip 122 = .ok (.iconst 0, 1) := by decide +kernel
theorem dX8_doShip_123 : decode cX8_doShip 123 = .ok (.iload 6, 2) := by decide +kernel
theorem dX8_doShip_125 : decode cX8_doShip 125 = .ok (.iconst 3, 1) := by decide +kernel
theorem dX8_doShip_126 : decode cX8_doShip 126 = .ok (.invokestatic 37, 3) := by decide +kernel
theorem dX8_doShip_129 : decode cX8_doShip 129 = .ok (.iload 4, 2) := by decide +kernel
theorem dX8_doShip_131 : decode cX8_doShip 131 = .ok (.iastore, 1) := by decide +kernel
theorem dX8_doShip_132 : decode cX8_doShip 132 = .ok (.aload_n 0, 1) := by decide +kernel
theorem dX8_doShip_133 : decode cX8_doShip 133 = .ok (.getfield 7, 3) := by decide +kernel
theorem dX8_doShip_136 : decode cX8_doShip 136 = .ok (.iconst 0, 1) := by decide +kernel
theorem dX8_doShip_137 : decode cX8_doShip 137 = .ok (.iload 6, 2) := by decide +kernel
theorem dX8_doShip_139 : decode cX8_doShip 139 = .ok (.iconst 4, 1) := by decide +kernel
theorem dX8_doShip_140 : decode cX8_doShip 140 = .ok (.invokestatic 37, 3) := by decide +kernel
theorem dX8_doShip_143 : decode cX8_doShip 143 = .ok (.iload 5, 2) := by decide +kernel
theorem dX8_doShip_145 : decode cX8_doShip 145 = .ok (.iastore, 1) := by decide +kernel
theorem dX8_doShip_146 : decode cX8_doShip 146 = .ok (.aload_n 0, 1) := by decide +kernel
theorem dX8_doShip_147 : decode cX8_doShip 147 = .ok (.getfield 7, 3) := by decide +kernel
theorem dX8_doShip_150 : decode cX8_doShip 150 = .ok (.iconst 0, 1) := by decide +kernel
theorem dX8_doShip_151 : decode cX8_doShip 151 = .ok (.iload 6, 2) := by decide +kernel
theorem dX8_doShip_153 : decode cX8_doShip 153 = .ok (.iconst 5, 1) := by decide +kernel
theorem dX8_doShip_154 : decode cX8_doShip 154 = .ok (.invokestatic 37, 3) := by decide +kernel
theorem dX8_doShip_157 : decode cX8_doShip 157 = .ok (.iconst 0, 1) := by decide +kernel
theorem dX8_doShip_158 : decode cX8_doShip 158 = .ok (.iastore, 1) := by decide +kernel
theorem dX8_doShip_159 : decode cX8_doShip 159 = .ok (.aload_n 0, 1) := by decide +kernel
theorem dX8_doShip_160 : decode cX8_doShip 160 = .ok (.getfield 7, 3) := by decide +kernel
theorem dX8_doShip_163 : decode cX8_doShip 163 = .ok (.iconst 0, 1) := by decide +kernel
theorem dX8_doShip_164 : decode cX8_doShip 164 = .ok (.iload 6, 2) := by decide +kernel
theorem dX8_doShip_166 : decode cX8_doShip 166 = .ok (.bipush 6, 2) := by decide +kernel
theorem dX8_doShip_168 : decode cX8_doShip 168 = .ok (.invokestatic 37, 3) := by decide +kernel
theorem dX8_doShip_171 : decode cX8_doShip 171 = .ok (.iconst 0, 1) := by decide +kernel
theorem dX8_doShip_172 : decode cX8_doShip 172 = .ok (.iastore, 1) := by decide +kernel
theorem dX8_doShip_173 : decode cX8_doShip 173 = .ok (.aload_n 0, 1) := by decide +kernel
theorem dX8_doShip_174 : decode cX8_doShip 174 = .ok (.getfield 7, 3) := by decide +kernel
theorem dX8_doShip_177 : decode cX8_doShip 177 = .ok (.bipush 16, 2) := by decide +kernel
theorem dX8_doShip_179 : decode cX8_doShip 179 = .ok (.dup2, 1) := by decide +kernel
theorem dX8_doShip_180 : decode cX8_doShip 180 = .ok (.iaload, 1) := by decide +kernel
theorem dX8_doShip_181 : decode cX8_doShip 181 = .ok (.iconst 1, 1) := by decide +kernel
theorem dX8_doShip_182 : decode cX8_doShip 182 = .ok (.iadd, 1) := by decide +kernel
theorem dX8_doShip_183 : decode cX8_doShip 183 = .ok (.iastore, 1) := by decide +kernel
theorem dX8_doShip_184 : decode cX8_doShip 184 = .ok (.iload 6, 2) := by decide +kernel
theorem dX8_doShip_186 : decode cX8_doShip 186 = .ok (.ireturn, 1) := by decide +kernel
theorem dX8_doCargo_0 : decode cX8_doCargo 0 = .ok (.iload_n 1, 1) := by decide +kernel
theorem dX8_doCargo_1 : decode cX8_doCargo 1 = .ok (.iconst 1, 1) := by decide +kernel
theorem dX8_doCargo_2 : decode cX8_doCargo 2 = .ok (.bipush 99, 2) := by decide +kernel
theorem dX8_doCargo_4 : decode cX8_doCargo 4 = .ok (.invokestatic 29, 3) := by decide +kernel
theorem dX8_doCargo_7 : decode cX8_doCargo 7 = .ok (.ifCond .eq 64, 3) := by decide +kernel
theorem dX8_doCargo_10 : decode cX8_doCargo 10 = .ok (.iload_n 2, 1) := by decide +kernel
theorem dX8_doCargo_11 : decode cX8_doCargo 11 = .ok (.iconst 0, 1) := by decide +kernel
theorem dX8_doCargo_12 : decode cX8_doCargo 12 = .ok (.bipush 7, 2) := by decide +kernel
theorem dX8_doCargo_14 : decode cX8_doCargo 14 = .ok (.invokestatic 29, 3) := by decide +kernel
theorem dX8_doCargo_17 : decode cX8_doCargo 17 = .ok (.ifCond .eq 54, 3) := by decide +kernel
theorem dX8_doCargo_20 : decode cX8_doCargo 20 = .ok (.iload_n 3, 1) := by decide +kernel
theorem dX8_doCargo_21 : decode cX8_doCargo 21 = .ok (.iconst 0, 1) := by decide +kernel
theorem dX8_doCargo_22 : decode cX8_doCargo 22 = .ok (.bipush 7, 2) := by decide +kernel
theorem dX8_doCargo_24 : decode cX8_doCargo 24 = .ok (.invokestatic 29, 3) := by decide +kernel
theorem dX8_doCargo_27 : decode cX8_doCargo 27 = .ok (.ifCond .eq 44, 3) := by decide +kernel
theorem dX8_doCargo_30 : decode cX8_doCargo 30 = .ok (.iload_n 2, 1) := by decide +kernel
theorem dX8_doCargo_31 : decode cX8_doCargo 31 = .ok (.iload_n 3, 1) := by decide +kernel
theorem dX8_doCargo_32 : decode cX8_doCargo 32 = .ok (.if_icmp .eq 39, 3) := by decide +kernel
theorem dX8_doCargo_35 : decode cX8_doCargo 35 = .ok (.iload 4, 2) := by decide +kernel
theorem dX8_doCargo_37 : decode cX8_doCargo 37 = .ok (.iconst 0, 1) := by decide +kernel
theorem dX8_doCargo_38 : decode cX8_doCargo 38 = .ok (.sipush 999, 3) := by decide +kernel
theorem dX8_doCargo_41 : decode cX8_doCargo 41 = .ok (.invokestatic 29, 3) := by decide +kernel
theorem dX8_doCargo_44 : decode cX8_doCargo 44 = .ok (.ifCond .eq 27, 3) := by decide +kernel
theorem dX8_doCargo_47 : decode cX8_doCargo 47 = .ok (.iload 5, 2) := by decide +kernel
theorem dX8_doCargo_49 : decode cX8_doCargo 49 = .ok (.iload 4, 2) := by decide +kernel
theorem dX8_doCargo_51 : decode cX8_doCargo 51 = .ok (.sipush 999, 3) := by decide +kernel
theorem dX8_doCargo_54 : decode cX8_doCargo 54 = .ok (.invokestatic 29, 3) := by decide +kernel
theorem dX8_doCargo_57 : decode cX8_doCargo 57 = .ok (.ifCond .eq 14, 3) := by decide +kernel
theorem dX8_doCargo_60 : decode cX8_doCargo 60 = .ok (.iload 6, 2) := by decide +kernel
theorem dX8_doCargo_62 : decode cX8_doCargo 62 = .ok (.iconst 1, 1) := by decide +kernel
theorem dX8_doCargo_63 : decode cX8_doCargo 63 = .ok (.bipush 99, 2) := by decide +kernel
theorem dX8_doCargo_65 : decode cX8_doCargo 65 = .ok (.invokestatic 29, 3) := by decide +kernel
theorem dX8_doCargo_68 : decode cX8_doCargo 68 = .ok (.ifCond .ne 6, 3) := by decide +kernel
theorem dX8_doCargo_71 : decode cX8_doCargo 71 = .ok (.ldc 24, 2) := by decide +kernel
theorem dX8_doCargo_73 : decode cX8_doCargo 73 = .ok (.ireturn, 1) := by decide +kernel
theorem dX8_doCargo_74 : decode cX8_doCargo 74 = .ok (.aload_n 0, 1) := by decide +kernel
theorem dX8_doCargo_75 : decode cX8_doCargo 75 = .ok (.getfield 7, 3) := by decide +kernel
theorem dX8_doCargo_78 : decode cX8_doCargo 78 = .ok (.bipush 107, 2) := by decide +kernel
theorem dX8_doCargo_80 : decode cX8_doCargo 80 = .ok (.iaload, 1) := by decide +kernel
theorem dX8_doCargo_81 : decode cX8_doCargo 81 = .ok (.bipush 10, 2) := by decide +kernel
theorem dX8_doCargo_83 : decode cX8_doCargo 83 = .ok (.if_icmp .ne 6, 3) := by decide +kernel
theorem dX8_doCargo_86 : decode cX8_doCargo 86 = .ok (.ldc 90, 2) := by decide +kernel
theorem dX8_doCargo_88 : decode cX8_doCargo 88 = .ok (.ireturn, 1) := by decide +kernel
theorem dX8_doCargo_89 : decode cX8_doCargo 89 = .ok (.aload_n 0, 1) := by decide +kernel
theorem dX8_doCargo_90 : decode cX8_doCargo 90 = .ok (.getfield 7, 3) := by decide +kernel
theorem dX8_doCargo_93 : decode cX8_doCargo 93 = .ok (.bipush 107, 2) := by decide +kernel
theorem dX8_doCargo_95 : decode cX8_doCargo 95 = .ok (.iaload, 1) := by decide +kernel
theorem dX8_doCargo_96 : decode cX8_doCargo 96 = .ok (.istore 7, 2) := by decide +kernel
theorem dX8_doCargo_98 : decode cX8_doCargo 98 = .ok (.aload_n 0, 1) := by decide +kernel
theorem dX8_doCargo_99 : decode cX8_doCargo 99 = .ok (.getfield 7, 3) := by decide +kernel
theorem dX8_doCargo_102 : decode cX8_doCargo 102 = .ok (.iconst 0, 1) := by decide +kernel
theorem dX8_doCargo_103 : decode cX8_doCargo 103 = .ok (.iload 7, 2) := by decide +kernel
theorem dX8_doCargo_105 : decode cX8_doCargo 105 = .ok (.iconst 0, 1) := by decide +kernel
theorem dX8_doCargo_106 : decode cX8_doCargo 106 = .ok (.invokestatic 44, 3) := by decide +kernel
theorem dX8_doCargo_109 : decode cX8_doCargo 109 = .ok (.iload_n 1, 1) := by decide +kernel
theorem dX8_doCargo_110 : decode cX8_doCargo 110 = .ok (.iastore, 1) := by decide +kernel
theorem dX8_doCargo_111 : decode cX8_doCargo 111 = .ok (.aload_n 0, 1) := by decide +kernel
theorem dX8_doCargo_112 : decode cX8_doCargo 112 = .ok (.getfield 7, 3) := by decide +kernel
theorem dX8_doCargo_115 : decode cX8_doCargo 115 = .ok (.iconst 0, 1) := by decide +kernel
theorem dX8_doCargo_116 : decode cX8_doCargo 116 = .ok (.iload 7, 2) := by decide +kernel
theorem dX8_doCargo_118 : decode cX8_doCargo 118 = .ok (.iconst 1, 1) := by decide +kernel
theorem dX8_doCargo_119 : decode cX8_doCargo 119 = .ok (.invokestatic 44, 3) := by decide +kernel
theorem dX8_doCargo_122 : decode cX8_doCargo 122 = .ok (.iload_n 2, 1) := by decide +kernel
theorem dX8_doCargo_123 : decode cX8_doCargo 123 = .ok (.iastore, 1) := by decide +kernel
theorem dX8_doCargo_124 : decode cX8_doCargo 124 = .ok (.aload_n 0, 1) := by decide +kernel
theorem dX8_doCargo_125 : decode cX8_doCargo 125 = .ok (.getfield 7, 3) := by decide +kernel
theorem dX8_doCargo_128 : decode cX8_doCargo 128 = .ok (.iconst 0, 1) := by decide +kernel
theorem dX8_doCargo_129 : decode cX8_doCargo 129 = .ok (.iload 7, 2) := by decide +kernel
theorem dX8_doCargo_131 : decode cX8_doCargo 131 = .ok (.iconst 2, 1) := by decide +kernel
theorem dX8_doCargo_132 : decode cX8_doCargo 132 = .ok (.invokestatic 44, 3) := by decide +kernel
theorem dX8_doCargo_135 : decode cX8_doCargo 135 = .ok (.iload_n 3, 1) := by decide +kernel
theorem dX8_doCargo_136 : decode cX8_doCargo 136 = .ok (.iastore, 1) := by decide +kernel
theorem dX8_doCargo_137 : decode cX8_doCargo 137 = .ok (.aload_n 0, 1) := by decide +kernel
theorem dX8_doCargo_138 : decode cX8_doCargo 138 = .ok (.getfield 7, 3) := by decide +kernel
theorem dX8_doCargo_141 : decode cX8_doCargo 141 = .ok (.iconst 0, 1) := by decide +kernel
theorem dX8_doCargo_142 : decode cX8_doCargo 142 = .ok (.iload 7, 2) := by decide +kernel
theorem dX8_doCargo_144 : decode cX8_doCargo 144 = .ok (.iconst 3, 1) := by decide +kernel
theorem dX8_doCargo_145 : decode cX8_doCargo 145 = .ok (.invokestatic 44, 3) := by decide +kernel
theorem dX8_doCargo_148 : decode cX8_doCargo 148 = .ok (.iload 4, 2) := by decide +kernel
theorem dX8_doCargo_150 : decode cX8_doCargo 150 = .ok (.iastore, 1) := by decide +kernel
theorem dX8_doCargo_151 : decode cX8_doCargo 151 = .ok (.aload_n 0, 1) := by decide +kernel
theorem dX8_doCargo_152 : decode cX8_doCargo 152 = .ok (.getfield 7, 3) := by decide +kernel
theorem dX8_doCargo_155 : decode cX8_doCargo 155 = .ok (.iconst 0, 1) := by decide +kernel
theorem dX8_doCargo_156 : decode cX8_doCargo 156 = .ok (.iload 7, 2) := by decide +kernel
theorem dX8_doCargo_158 : decode cX8_doCargo 158 = .ok (.iconst 4, 1) := by decide +kernel
theorem dX8_doCargo_159 : decode cX8_doCargo 159 = .ok (.invokestatic 44, 3) := by decide +kernel
theorem dX8_doCargo_162 : decode cX8_doCargo 162 = .ok (.iload 5, 2) := by decide +kernel
theorem dX8_doCargo_164 : decode cX8_doCargo 164 = .ok (.iastore, 1) := by decide +kernel
theorem dX8_doCargo_165 : decode cX8_doCargo 165 = .ok (.aload_n 0, 1) := by decide +kernel
theorem dX8_doCargo_166 : decode cX8_doCargo 166 = .ok (.getfield 7, 3) := by decide +kernel
theorem dX8_doCargo_169 : decode cX8_doCargo 169 = .ok (.iconst 0, 1) := by decide +kernel
theorem dX8_doCargo_170 : decode cX8_doCargo 170 = .ok (.iload 7, 2) := by decide +kernel
theorem dX8_doCargo_172 : decode cX8_doCargo 172 = .ok (.iconst 5, 1) := by decide +kernel
theorem dX8_doCargo_173 : decode cX8_doCargo 173 = .ok (.invokestatic 44, 3) := by decide +kernel
theorem dX8_doCargo_176 : decode cX8_doCargo 176 = .ok (.iload 6, 2) := by decide +kernel
theorem dX8_doCargo_178 : decode cX8_doCargo 178 = .ok (.iastore, 1) := by decide +kernel
theorem dX8_doCargo_179 : decode cX8_doCargo 179 = .ok (.aload_n 0, 1) := by decide +kernel
theorem dX8_doCargo_180 : decode cX8_doCargo 180 = .ok (.getfield 7, 3) := by decide +kernel
theorem dX8_doCargo_183 : decode cX8_doCargo 183 = .ok (.iconst 0, 1) := by decide +kernel
theorem dX8_doCargo_184 : decode cX8_doCargo 184 = .ok (.iload 7, 2) := by decide +kernel
theorem dX8_doCargo_186 : decode cX8_doCargo 186 = .ok (.bipush 6, 2) := by decide +kernel
theorem dX8_doCargo_188 : decode cX8_doCargo 188 = .ok (.invokestatic 44, 3) := by decide +kernel
theorem dX8_doCargo_191 : decode cX8_doCargo 191 = .ok (.iconst 0, 1) := by decide +kernel
theorem dX8_doCargo_192 : decode cX8_doCargo 192 = .ok (.iastore, 1) := by decide +kernel
theorem dX8_doCargo_193 : decode cX8_doCargo 193 = .ok (.aload_n 0, 1) := by decide +kernel
theorem dX8_doCargo_194 : decode cX8_doCargo 194 = .ok (.getfield 7, 3) := by decide +kernel
theorem dX8_doCargo_197 : decode cX8_doCargo 197 = .ok (.bipush 107, 2) := by decide +kernel
theorem dX8_doCargo_199 : decode cX8_doCargo 199 = .ok (.dup2, 1) := by decide +kernel
theorem dX8_doCargo_200 : decode cX8_doCargo 200 = .ok (.iaload, 1) := by decide +kernel
theorem dX8_doCargo_201 : decode cX8_doCargo 201 = .ok (.iconst 1, 1) := by decide +kernel
theorem dX8_doCargo_202 : decode cX8_doCargo 202 = .ok (.iadd, 1) := by decide +kernel
theorem dX8_doCargo_203 : decode cX8_doCargo 203 = .ok (.iastore, 1) := by decide +kernel
theorem dX8_doCargo_204 : decode cX8_doCargo 204 = .ok (.iload 7, 2) := by decide +kernel
theorem dX8_doCargo_206 : decode cX8_doCargo 206 = .ok (.ireturn, 1) := by decide +kernel
theorem dX8_doFix_0 : decode cX8_doFix 0 = .ok (.aload_n 0, 1) := by decide +kernel
theorem dX8_doFix_1 : decode cX8_doFix 1 = .ok (.iload_n 1, 1) := by decide +kernel
theorem dX8_doFix_2 : decode cX8_doFix 2 = .ok (.invokevirtual 91, 3) := by decide +kernel
theorem dX8_doFix_5 : decode cX8_doFix 5 = .ok (.ifCond .eq 11, 3) := by decide +kernel
theorem dX8_doFix_8 : decode cX8_doFix 8 = .ok (.aload_n 0, 1) := by decide +kernel
theorem dX8_doFix_9 : decode cX8_doFix 9 = .ok (.iload_n 2, 1) := by decide +kernel
theorem dX8_doFix_10 : decode cX8_doFix 10 = .ok (.invokevirtual 95, 3) := by decide +kernel
theorem dX8_doFix_13 : decode cX8_doFix 13 = .ok (.ifCond .ne 6, 3) := by decide +kernel
theorem dX8_doFix_16 : decode cX8_doFix 16 = .ok (.ldc 24, 2) := by decide +kernel
theorem dX8_doFix_18 : decode cX8_doFix 18 = .ok (.ireturn, 1) := by decide +kernel
theorem dX8_doFix_19 : decode cX8_doFix 19 = .ok (.aload_n 0, 1) := by decide +kernel
theorem dX8_doFix_20 : decode cX8_doFix 20 = .ok (.getfield 7, 3) := by decide +kernel
theorem dX8_doFix_23 : decode cX8_doFix 23 = .ok (.iconst 0, 1) := by decide +kernel
theorem dX8_doFix_24 : decode cX8_doFix 24 = .ok (.iload_n 2, 1) := by decide +kernel
theorem dX8_doFix_25 : decode cX8_doFix 25 = .ok (.bipush 6, 2) := by decide +kernel
theorem dX8_doFix_27 : decode cX8_doFix 27 = .ok (.invokestatic 44, 3) := by decide +kernel
theorem dX8_doFix_30 : decode cX8_doFix 30 = .ok (.iaload, 1) := by decide +kernel
theorem dX8_doFix_31 : decode cX8_doFix 31 = .ok (.ifCond .ne 13, 3) := by decide +kernel
theorem dX8_doFix_34 : decode cX8_doFix 34 = .ok (.aload_n 0, 1) := by decide +kernel
theorem dX8_doFix_35 : decode cX8_doFix 35 = .ok (.iconst 0, 1) := by decide +kernel
theorem dX8_doFix_36 : decode cX8_doFix 36 = .ok (.iload_n 1, 1) := by decide +kernel
theorem dX8_doFix_37 : decode cX8_doFix 37 = .ok (.iload_n 2, 1) := by decide +kernel
theorem dX8_doFix_38 : decode cX8_doFix 38 = .ok (.invokevirtual 98, 3) := by decide +kernel
theorem dX8_doFix_41 : decode cX8_doFix 41 = .ok (.ifCond .le 6, 3) := by decide +kernel
theorem dX8_doFix_44 : decode cX8_doFix 44 = .ok (.ldc 101, 2) := by decide +kernel
theorem dX8_doFix_46 : decode cX8_doFix 46 = .ok (.ireturn, 1) := by decide +kernel
theorem dX8_doFix_47 : decode cX8_doFix 47 = .ok (.aload_n 0, 1) := by decide +kernel
theorem dX8_doFix_48 : decode cX8_doFix 48 = .ok (.iconst 0, 1) := by decide +kernel
theorem dX8_doFix_49 : decode cX8_doFix 49 = .ok (.iload_n 1, 1) := by decide +kernel
theorem dX8_doFix_50 : decode cX8_doFix 50 = .ok (.iload_n 2, 1) := by decide +kernel
theorem dX8_doFix_51 : decode cX8_doFix 51 = .ok (.invokevirtual 102, 3) := by decide +kernel
theorem dX8_doFix_54 : decode cX8_doFix 54 = .ok (.aload_n 0, 1) := by decide +kernel
theorem dX8_doFix_55 : decode cX8_doFix 55 = .ok (.getfield 57, 3) := by decide +kernel
theorem dX8_doFix_58 : decode cX8_doFix 58 = .ok (.ireturn, 1) := by decide +kernel
theorem dX8_doDelay_0 : decode cX8_doDelay 0 = .ok (.aload_n 0, 1) := by decide +kernel
theorem dX8_doDelay_1 : decode cX8_doDelay 1 = .ok (.iload_n 1, 1) := by decide +kernel
theorem dX8_doDelay_2 : decode cX8_doDelay 2 = .ok (.invokevirtual 91, 3) := by decide +kernel
theorem dX8_doDelay_5 : decode cX8_doDelay 5 = .ok (.ifCond .eq 13, 3) := by decide +kernel
theorem dX8_doDelay_8 : decode cX8_doDelay 8 = .ok (.iload_n 2, 1) := by decide +kernel
theorem dX8_doDelay_9 : decode cX8_doDelay 9 = .ok (.iconst 1, 1) := by decide +kernel
theorem dX8_doDelay_10 : decode cX8_doDelay 10 = .ok (.bipush 99, 2) := by decide +kernel
theorem dX8_doDelay_12 : decode cX8_doDelay 12 = .ok (.invokestatic 29, 3) := by decide +kernel
theorem dX8_doDelay_15 : decode cX8_doDelay 15 = .ok (.ifCond .ne 6, 3) := by decide +kernel
theorem dX8_doDelay_18 : decode cX8_doDelay 18 = .ok (.ldc 24, 2) := by decide +kernel
theorem dX8_doDelay_20 : decode cX8_doDelay 20 = .ok (.ireturn, 1) := by decide +kernel
theorem dX8_doDelay_21 : decode cX8_doDelay 21 = .ok (.aload_n 0, 1) := by decide +kernel
theorem dX8_doDelay_22 : decode cX8_doDelay 22 = .ok (.getfield 7, 3) := by decide +kernel
theorem dX8_doDelay_25 : decode cX8_doDelay 25 = .ok (.iconst 0, 1) := by decide +kernel
theorem dX8_doDelay_26 : decode cX8_doDelay 26 = .ok (.iload_n 1, 1) := by decide +kernel
theorem dX8_doDelay_27 : decode cX8_doDelay 27 = .ok (.iconst 4, 1) := by decide +kernel
theorem dX8_doDelay_28 : decode cX8_doDelay 28 = .ok (.invokestatic 37, 3) := by decide +kernel
theorem dX8_doDelay_31 : decode cX8_doDelay 31 = .ok (.iaload, 1) := by decide +kernel
theorem dX8_doDelay_32 : decode cX8_doDelay 32 = .ok (.iload_n 2, 1) := by decide +kernel
theorem dX8_doDelay_33 : decode cX8_doDelay 33 = .ok (.iadd, 1) := by decide +kernel
theorem dX8_doDelay_34 : decode cX8_doDelay 34 = .ok (.sipush 1999, 3) := by decide +kernel
theorem dX8_doDelay_37 : decode cX8_doDelay 37 = .ok (.if_icmp .le 6, 3) := by decide +kernel
theorem dX8_doDelay_40 : decode cX8_doDelay 40 = .ok (.ldc 90, 2) := by decide +kernel
theorem dX8_doDelay_42 : decode cX8_doDelay 42 = .ok (.ireturn, 1) := by decide +kernel
theorem dX8_doDelay_43 : decode cX8_doDelay 43 = .ok (.aload_n 0, 1) := by decide +kernel
theorem dX8_doDelay_44 : decode cX8_doDelay 44 = .ok (.getfield 7, 3) := by decide +kernel
theorem dX8_doDelay_47 : decode cX8_doDelay 47 = .ok (.iconst 0, 1) := by decide +kernel
theorem dX8_doDelay_48 : decode cX8_doDelay 48 = .ok (.iload_n 1, 1) := by decide +kernel
theorem dX8_doDelay_49 : decode cX8_doDelay 49 = .ok (.iconst 4, 1) := by decide +kernel
theorem dX8_doDelay_50 : decode cX8_doDelay 50 = .ok (.invokestatic 37, 3) := by decide +kernel
theorem dX8_doDelay_53 : decode cX8_doDelay 53 = .ok (.dup2, 1) := by decide +kernel
theorem dX8_doDelay_54 : decode cX8_doDelay 54 = .ok (.iaload, 1) := by decide +kernel
theorem dX8_doDelay_55 : decode cX8_doDelay 55 = .ok (.iload_n 2, 1) := by decide +kernel
theorem dX8_doDelay_56 : decode cX8_doDelay 56 = .ok (.iadd, 1) := by decide +kernel
theorem dX8_doDelay_57 : decode cX8_doDelay 57 = .ok (.iastore, 1) := by decide +kernel
theorem dX8_doDelay_58 : decode cX8_doDelay 58 = .ok (.aload_n 0, 1) := by decide +kernel
theorem dX8_doDelay_59 : decode cX8_doDelay 59 = .ok (.iconst 0, 1) := by decide +kernel
theorem dX8_doDelay_60 : decode cX8_doDelay 60 = .ok (.iload_n 1, 1) := by decide +kernel
theorem dX8_doDelay_61 : decode cX8_doDelay 61 = .ok (.invokevirtual 87, 3) := by decide +kernel
theorem dX8_doDelay_64 : decode cX8_doDelay 64 = .ok (.aload_n 0, 1) := by decide +kernel
theorem dX8_doDelay_65 : decode cX8_doDelay 65 = .ok (.getfield 7, 3) := by decide +kernel
theorem dX8_doDelay_68 : decode cX8_doDelay 68 = .ok (.iconst 0, 1) := by decide +kernel
theorem dX8_doDelay_69 : decode cX8_doDelay 69 = .ok (.iload_n 1, 1) := by decide +kernel
theorem dX8_doDelay_70 : decode cX8_doDelay 70 = .ok (.bipush 6, 2) := by decide +kernel
theorem dX8_doDelay_72 : decode cX8_doDelay 72 = .ok (.invokestatic 37, 3) := by decide +kernel
theorem dX8_doDelay_75 : decode cX8_doDelay 75 = .ok (.iaload, 1) := by decide +kernel
theorem dX8_doDelay_76 : decode cX8_doDelay 76 = .ok (.aload_n 0, 1) := by decide +kernel
theorem dX8_doDelay_77 : decode cX8_doDelay 77 = .ok (.getfield 72, 3) := by decide +kernel
theorem dX8_doDelay_80 : decode cX8_doDelay 80 = .ok (.isub, 1) := by decide +kernel
theorem dX8_doDelay_81 : decode cX8_doDelay 81 = .ok (.istore_n 3, 1) := by decide +kernel
theorem dX8_doDelay_82 : decode cX8_doDelay 82 = .ok (.aload_n 0, 1) := by decide +kernel
theorem dX8_doDelay_83 : decode cX8_doDelay 83 = .ok (.getfield 72, 3) := by decide +kernel
theorem dX8_doDelay_86 : decode cX8_doDelay 86 = .ok (.istore 4, 2) := by decide +kernel
theorem dX8_doDelay_88 : decode cX8_doDelay 88 = .ok (.iload 4, 2) := by decide +kernel
theorem dX8_doDelay_90 : decode cX8_doDelay 90 = .ok (.aload_n 0, 1) := by decide +kernel
theorem dX8_doDelay_91 : decode cX8_doDelay 91 = .ok (.getfield 7, 3) := by decide +kernel
theorem dX8_doDelay_94 : decode cX8_doDelay 94 = .ok (.iconst 0, 1) := by decide +kernel
theorem dX8_doDelay_95 : decode cX8_doDelay 95 = .ok (.iload_n 1, 1) := by decide +kernel
theorem dX8_doDelay_96 : decode cX8_doDelay 96 = .ok (.bipush 6, 2) := by decide +kernel
theorem dX8_doDelay_98 : decode cX8_doDelay 98 = .ok (.invokestatic 37, 3) := by decide +kernel
theorem dX8_doDelay_101 : decode cX8_doDelay 101 = .ok (.iaload, 1) := by decide +kernel
theorem dX8_doDelay_102 : decode cX8_doDelay 102 = .ok (.if_icmp .ge 36, 3) := by decide +kernel
theorem dX8_doDelay_105 : decode cX8_doDelay 105 = .ok (.aload_n 0, 1) := by decide +kernel
theorem dX8_doDelay_106 : decode cX8_doDelay 106 = .ok (.getfield 7, 3) := by decide +kernel
theorem dX8_doDelay_109 : decode cX8_doDelay 109 = .ok (.iconst 0, 1) := by decide +kernel
theorem dX8_doDelay_110 : decode cX8_doDelay 110 = .ok (.aload_n 0, 1) := by decide +kernel
theorem dX8_doDelay_111 : decode cX8_doDelay 111 = .ok (.getfield 7, 3) := by decide +kernel
theorem dX8_doDelay_114 : decode cX8_doDelay 114 = .ok (.iconst 0, 1) := by decide +kernel
theorem dX8_doDelay_115 : decode cX8_doDelay 115 = .ok (.iload_n 1, 1) := by decide +kernel
theorem dX8_doDelay_116 : decode cX8_doDelay 116 = .ok (.bipush 7, 2) := by decide +kernel
theorem dX8_doDelay_118 : decode cX8_doDelay 118 = .ok (.iload 4, 2) := by decide +kernel
theorem dX8_doDelay_120 : decode cX8_doDelay 120 = .ok (.iadd, 1) := by decide +kernel
theorem dX8_doDelay_121 : decode cX8_doDelay 121 = .ok (.invokestatic 37, 3) := by decide +kernel
theorem dX8_doDelay_124 : decode cX8_doDelay 124 = .ok (.iaload, 1) := by decide +kernel
theorem dX8_doDelay_125 : decode cX8_doDelay 125 = .ok (.bipush 6, 2) := by decide +kernel
theorem dX8_doDelay_127 : decode cX8_doDelay 127 = .ok (.invokestatic 44, 3) := by decide +kernel
theorem dX8_doDelay_130 : decode cX8_doDelay 130 = .ok (.iconst 2, 1) := by decide +kernel
theorem dX8_doDelay_131 : decode cX8_doDelay 131 = .ok (.iastore, 1) := by decide +kernel
theorem dX8_doDelay_132 : decode cX8_doDelay 132 = .ok (.iinc 4 1, 3) := by decide +kernel
theorem dX8_doDelay_135 : decode cX8_doDelay 135 = .ok (.goto (-47), 3) := by decide +kernel
theorem dX8_doDelay_138 : decode cX8_doDelay 138 = .ok (.aload_n 0, 1) := by decide +kernel
theorem dX8_doDelay_139 : decode cX8_doDelay 139 = .ok (.getfield 7, 3) := by decide +kernel
theorem dX8_doDelay_142 : decode cX8_doDelay 142 = .ok (.iconst 0, 1) := by decide +kernel
theorem dX8_doDelay_143 : decode cX8_doDelay 143 = .ok (.iload_n 1, 1) := by decide +kernel
theorem dX8_doDelay_144 : decode cX8_doDelay 144 = .ok (.bipush 6, 2) := by decide +kernel
theorem dX8_doDelay_146 : decode cX8_doDelay 146 = .ok (.invokestatic 37, 3) := by decide +kernel
theorem dX8_doDelay_149 : decode cX8_doDelay 149 = .ok (.aload_n 0, 1) := by decide +kernel
theorem dX8_doDelay_150 : decode cX8_doDelay 150 = .ok (.getfield 72, 3) := by decide +kernel
theorem dX8_doDelay_153 : decode cX8_doDelay 153 = .ok (.iastore, 1) := by decide +kernel
theorem dX8_doDelay_154 : decode cX8_doDelay 154 = .ok (.aload_n 0, 1) := by decide +kernel
theorem dX8_doDelay_155 : decode cX8_doDelay 155 = .ok (.getfield 7, 3) := by decide +kernel
theorem dX8_doDelay_158 : decode cX8_doDelay 158 = .ok (.sipush 188, 3) := by decide +kernel
theorem dX8_doDelay_161 : decode cX8_doDelay 161 = .ok (.dup2, 1) := by decide +kernel
theorem dX8_doDelay_162 : decode cX8_doDelay 162 = .ok (.iaload, 1) := by decide +kernel
theorem dX8_doDelay_163 : decode cX8_doDelay 163 = .ok (.iload_n 3, 1) := by decide +kernel
theorem dX8_doDelay_164 : decode cX8_doDelay 164 = .ok (.iadd, 1) := by decide +kernel
theorem dX8_doDelay_165 : decode cX8_doDelay 165 = .ok (.iastore, 1) := by decide +kernel
theorem dX8_doDelay_166 : decode cX8_doDelay 166 = .ok (.iload_n 3, 1) := by decide +kernel
theorem dX8_doDelay_167 : decode cX8_doDelay 167 = .ok (.ireturn, 1) := by decide +kernel
theorem dX8_port_0 : decode cX8_port 0 = .ok (.iload_n 1, 1) := by decide +kernel
theorem dX8_port_1 : decode cX8_port 1 = .ok (.iconst 0, 1) := by decide +kernel
theorem dX8_port_2 : decode cX8_port 2 = .ok (.bipush 7, 2) := by decide +kernel
theorem dX8_port_4 : decode cX8_port 4 = .ok (.invokestatic 29, 3) := by decide +kernel
theorem dX8_port_7 : decode cX8_port 7 = .ok (.ifCond .eq 23, 3) := by decide +kernel
theorem dX8_port_10 : decode cX8_port 10 = .ok (.iload_n 2, 1) := by decide +kernel
theorem dX8_port_11 : decode cX8_port 11 = .ok (.iconst 0, 1) := by decide +kernel
theorem dX8_port_12 : decode cX8_port 12 = .ok (.bipush 99, 2) := by decide +kernel
theorem dX8_port_14 : decode cX8_port 14 = .ok (.invokestatic 29, 3) := by decide +kernel
theorem dX8_port_17 : decode cX8_port 17 = .ok (.ifCond .eq 13, 3) := by decide +kernel
theorem dX8_port_20 : decode cX8_port 20 = .ok (.iload_n 3, 1) := by decide +kernel
theorem dX8_port_21 : decode cX8_port 21 = .ok (.iconst 0, 1) := by decide +kernel
theorem dX8_port_22 : decode cX8_port 22 = .ok (.bipush 99, 2) := by decide +kernel
theorem dX8_port_24 : decode cX8_port 24 = .ok (.invokestatic 29, 3) := by decide +kernel
theorem dX8_port_27 : decode cX8_port 27 = .ok (.ifCond .ne 6, 3) := by decide +kernel
theorem dX8_port_30 : decode cX8_port 30 = .ok (.ldc 24, 2) := by decide +kernel
theorem dX8_port_32 : decode cX8_port 32 = .ok (.ireturn, 1) := by decide +kernel
theorem dX8_port_33 : decode cX8_port 33 = .ok (.aload_n 0, 1) := by decide +kernel
theorem dX8_port_34 : decode cX8_port 34 = .ok (.iconst 1, 1) := by decide +kernel
theorem dX8_port_35 : decode cX8_port 35 = .ok (.invokevirtual 105, 3) := by decide +kernel
theorem dX8_port_38 : decode cX8_port 38 = .ok (.ifCond .le 6, 3) := by decide +kernel
theorem dX8_port_41 : decode cX8_port 41 = .ok (.ldc 101, 2) := by decide +kernel
theorem dX8_port_43 : decode cX8_port 43 = .ok (.ireturn, 1) := by decide +kernel
theorem dX8_port_44 : decode cX8_port 44 = .ok (.aload_n 0, 1) := by decide +kernel
theorem dX8_port_45 : decode cX8_port 45 = .ok (.invokevirtual 109, 3) := by decide +kernel
theorem dX8_port_48 : decode cX8_port 48 = .ok (.bipush 100, 2) := by decide +kernel
theorem dX8_port_50 : decode cX8_port 50 = .ok (.aload_n 0, 1) := by decide +kernel
theorem dX8_port_51 : decode cX8_port 51 = .ok (.getfield 7, 3) := by decide +kernel
theorem dX8_port_54 : decode cX8_port 54 = .ok (.iconst 0, 1) := by decide +kernel
theorem dX8_port_55 : decode cX8_port 55 = .ok (.iconst 2, 1) := by decide +kernel
theorem dX8_port_56 : decode cX8_port 56 = .ok (.iload_n 1, 1) := by decide +kernel
theorem dX8_port_57 : decode cX8_port 57 = .ok (.imul, 1) := by decide +kernel
theorem dX8_port_58 : decode cX8_port 58 = .ok (.iadd, 1) := by decide +kernel
theorem dX8_port_59 : decode cX8_port 59 = .ok (.iaload, 1) := by decide +kernel
theorem dX8_port_60 : decode cX8_port 60 = .ok (.imul, 1) := by decide +kernel
theorem dX8_port_61 : decode cX8_port 61 = .ok (.aload_n 0, 1) := by decide +kernel
theorem dX8_port_62 : decode cX8_port 62 = .ok (.getfield 7, 3) := by decide +kernel
theorem dX8_port_65 : decode cX8_port 65 = .ok (.iconst 0, 1) := by decide +kernel
theorem dX8_port_66 : decode cX8_port 66 = .ok (.iconst 2, 1) := by decide +kernel
theorem dX8_port_67 : decode cX8_port 67 = .ok (.iload_n 1, 1) := by decide +kernel
theorem dX8_port_68 : decode cX8_port 68 = .ok (.imul, 1) := by decide +kernel
theorem dX8_port_69 : decode cX8_port 69 = .ok (.iadd, 1) := by decide +kernel
theorem dX8_port_70 : decode cX8_port 70 = .ok (.iconst 1, 1) := by decide +kernel
theorem dX8_port_71 : decode cX8_port 71 = .ok (.iadd, 1) := by decide +kernel
theorem dX8_port_72 : decode cX8_port 72 = .ok (.iaload, 1) := by decide +kernel
theorem dX8_port_73 : decode cX8_port 73 = .ok (.iadd, 1) := by decide +kernel
theorem dX8_port_74 : decode cX8_port 74 = .ok (.istore 4, 2) := by decide +kernel
theorem dX8_port_76 : decode cX8_port 76 = .ok (.aload_n 0, 1) := by decide +kernel
theorem dX8_port_77 : decode cX8_port 77 = .ok (.getfield 7, 3) := by decide +kernel
theorem dX8_port_80 : decode cX8_port 80 = .ok (.iconst 0, 1) := by decide +kernel
theorem dX8_port_81 : decode cX8_port 81 = .ok (.iconst 2, 1) := by decide +kernel
theorem dX8_port_82 : decode cX8_port 82 = .ok (.iload_n 1, 1) := by decide +kernel
theorem dX8_port_83 : decode cX8_port 83 = .ok (.imul, 1) := by decide +kernel
theorem dX8_port_84 : decode cX8_port 84 = .ok (.iadd, 1) := by decide +kernel
theorem dX8_port_85 : decode cX8_port 85 = .ok (.iload_n 2, 1) := by decide +kernel
theorem dX8_port_86 : decode cX8_port 86 = .ok (.iastore, 1) := by decide +kernel
theorem dX8_port_87 : decode cX8_port 87 = .ok (.aload_n 0, 1) := by decide +kernel
theorem dX8_port_88 : decode cX8_port 88 = .ok (.getfield 7, 3) := by decide +kernel
theorem dX8_port_91 : decode cX8_port 91 = .ok (.iconst 0, 1) := by decide +kernel
theorem dX8_port_92 : decode cX8_port 92 = .ok (.iconst 2, 1) := by decide +kernel
theorem dX8_port_93 : decode cX8_port 93 = .ok (.iload_n 1, 1) := by decide +kernel
theorem dX8_port_94 : decode cX8_port 94 = .ok (.imul, 1) := by decide +kernel
theorem dX8_port_95 : decode cX8_port 95 = .ok (.iadd, 1) := by decide +kernel
theorem dX8_port_96 : decode cX8_port 96 = .ok (.iconst 1, 1) := by decide +kernel
theorem dX8_port_97 : decode cX8_port 97 = .ok (.iadd, 1) := by decide +kernel
theorem dX8_port_98 : decode cX8_port 98 = .ok (.iload_n 3, 1) := by decide +kernel
theorem dX8_port_99 : decode cX8_port 99 = .ok (.iastore, 1) := by decide +kernel
theorem dX8_port_100 : decode cX8_port 100 = .ok (.aload_n 0, 1) := by decide +kernel
theorem dX8_port_101 : decode cX8_port 101 = .ok (.iload 4, 2) := by decide +kernel
theorem dX8_port_103 : decode cX8_port 103 = .ok (.invokevirtual 112, 3) := by decide +kernel
theorem dX8_port_106 : decode cX8_port 106 = .ok (.ireturn, 1) := by decide +kernel
theorem dX8_ship_0 : decode cX8_ship 0 = .ok (.aload_n 0, 1) := by decide +kernel
theorem dX8_ship_1 : decode cX8_ship 1 = .ok (.invokevirtual 109, 3) := by decide +kernel
theorem dX8_ship_4 : decode cX8_ship 4 = .ok (.aload_n 0, 1) := by decide +kernel
theorem dX8_ship_5 : decode cX8_ship 5 = .ok (.aload_n 0, 1) := by decide +kernel
theorem dX8_ship_6 : decode cX8_ship 6 = .ok (.iload_n 1, 1) := by decide +kernel
theorem dX8_ship_7 : decode cX8_ship 7 = .ok (.iload_n 2, 1) := by decide +kernel
theorem dX8_ship_8 : decode cX8_ship 8 = .ok (.iload_n 3, 1) := by decide +kernel
theorem dX8_ship_9 : decode cX8_ship 9 = .ok (.iload 4, 2) := by decide +kernel
theorem dX8_ship_11 : decode cX8_ship 11 = .ok (.iload 5, 2) := by decide +kernel
theorem dX8_ship_13 : decode cX8_ship 13 = .ok (.invokevirtual 115, 3) := by decide +kernel
theorem dX8_ship_16 : decode cX8_ship 16 = .ok (.invokevirtual 112, 3) := by decide +kernel
theorem dX8_ship_19 : decode cX8_ship 19 = .ok (.ireturn, 1) := by decide +kernel
theorem dX8_cargo_0 : decode cX8_cargo 0 = .ok (.aload_n 0, 1) := by decide +kernel
theorem dX8_cargo_1 : decode cX8_cargo 1 = .ok (.invokevirtual 109, 3) := by decide +kernel
theorem dX8_cargo_4 : decode cX8_cargo 4 = .ok (.aload_n 0, 1) := by decide +kernel
theorem dX8_cargo_5 : decode cX8_cargo 5 = .ok (.aload_n 0, 1) := by decide +kernel
theorem dX8_cargo_6 : decode cX8_cargo 6 = .ok (.iload_n 1, 1) := by decide +kernel
theorem dX8_cargo_7 : decode cX8_cargo 7 = .ok (.iload_n 2, 1) := by decide +kernel
theorem dX8_cargo_8 : decode cX8_cargo 8 = .ok (.iload_n 3, 1) := by decide +kernel
theorem dX8_cargo_9 : decode cX8_cargo 9 = .ok (.iload 4, 2) := by decide +kernel
theorem dX8_cargo_11 : decode cX8_cargo 11 = .ok (.iload 5, 2) := by decide +kernel
theorem dX8_cargo_13 : decode cX8_cargo 13 = .ok (.iload 6, 2) := by decide +kernel
theorem dX8_cargo_15 : decode cX8_cargo 15 = .ok (.invokevirtual 119, 3) := by decide +kernel
theorem dX8_cargo_18 : decode cX8_cargo 18 = .ok (.invokevirtual 112, 3) := by decide +kernel
theorem dX8_cargo_21 : decode cX8_cargo 21 = .ok (.ireturn, 1) := by decide +kernel
theorem dX8_fix_0 : decode cX8_fix 0 = .ok (.aload_n 0, 1) := by decide +kernel
theorem dX8_fix_1 : decode cX8_fix 1 = .ok (.invokevirtual 109, 3) := by decide +kernel
theorem dX8_fix_4 : decode cX8_fix 4 = .ok (.aload_n 0, 1) := by decide +kernel
theorem dX8_fix_5 : decode cX8_fix 5 = .ok (.aload_n 0, 1) := by decide +kernel
theorem dX8_fix_6 : decode cX8_fix 6 = .ok (.iload_n 1, 1) := by decide +kernel
theorem dX8_fix_7 : decode cX8_fix 7 = .ok (.iload_n 2, 1) := by decide +kernel
theorem dX8_fix_8 : decode cX8_fix 8 = .ok (.invokevirtual 123, 3) := by decide +kernel
theorem dX8_fix_11 : decode cX8_fix 11 = .ok (.invokevirtual 112, 3) := by decide +kernel
theorem dX8_fix_14 : decode cX8_fix 14 = .ok (.ireturn, 1) := by decide +kernel
theorem dX8_delay_0 : decode cX8_delay 0 = .ok (.aload_n 0, 1) := by decide +kernel
theorem dX8_delay_1 : decode cX8_delay 1 = .ok (.invokevirtual 109, 3) := by decide +kernel
theorem dX8_delay_4 : decode cX8_delay 4 = .ok (.aload_n 0, 1) := by decide +kernel
theorem dX8_delay_5 : decode cX8_delay 5 = .ok (.aload_n 0, 1) := by decide +kernel
theorem dX8_delay_6 : decode cX8_delay 6 = .ok (.iload_n 1, 1) := by decide +kernel
theorem dX8_delay_7 : decode cX8_delay 7 = .ok (.iload_n 2, 1) := by decide +kernel
theorem dX8_delay_8 : decode cX8_delay 8 = .ok (.invokevirtual 126, 3) := by decide +kernel
theorem dX8_delay_11 : decode cX8_delay 11 = .ok (.invokevirtual 112, 3) := by decide +kernel
theorem dX8_delay_14 : decode cX8_delay 14 = .ok (.ireturn, 1) := by decide +kernel
theorem dX8_callOff_0 : decode cX8_callOff 0 = .ok (.aload_n 0, 1) := by decide +kernel
theorem dX8_callOff_1 : decode cX8_callOff 1 = .ok (.iload_n 1, 1) := by decide +kernel
theorem dX8_callOff_2 : decode cX8_callOff 2 = .ok (.invokevirtual 91, 3) := by decide +kernel
theorem dX8_callOff_5 : decode cX8_callOff 5 = .ok (.ifCond .ne 6, 3) := by decide +kernel
theorem dX8_callOff_8 : decode cX8_callOff 8 = .ok (.ldc 24, 2) := by decide +kernel
theorem dX8_callOff_10 : decode cX8_callOff 10 = .ok (.ireturn, 1) := by decide +kernel
theorem dX8_callOff_11 : decode cX8_callOff 11 = .ok (.iconst 0, 1) := by decide +kernel
theorem dX8_callOff_12 : decode cX8_callOff 12 = .ok (.iload_n 1, 1) := by decide +kernel
theorem dX8_callOff_13 : decode cX8_callOff 13 = .ok (.bipush 6, 2) := by decide +kernel
theorem dX8_callOff_15 : decode cX8_callOff 15 = .ok (.invokestatic 37, 3) := by decide +kernel
theorem dX8_callOff_18 : decode cX8_callOff 18 = .ok (.istore_n 2, 1) := by decide +kernel
theorem dX8_callOff_19 : decode cX8_callOff 19 = .ok (.aload_n 0, 1) := by decide +kernel
theorem dX8_callOff_20 : decode cX8_callOff 20 = .ok (.getfield 7, 3) := by decide +kernel
theorem dX8_callOff_23 : decode cX8_callOff 23 = .ok (.iload_n 2, 1) := by decide +kernel
theorem dX8_callOff_24 : decode cX8_callOff 24 = .ok (.iaload, 1) := by decide +kernel
theorem dX8_callOff_25 : decode cX8_callOff 25 = .ok (.ifCond .ne 6, 3) := by decide +kernel
theorem dX8_callOff_28 : decode cX8_callOff 28 = .ok (.ldc 101, 2) := by decide +kernel
theorem dX8_callOff_30 : decode cX8_callOff 30 = .ok (.ireturn, 1) := by decide +kernel
theorem dX8_callOff_31 : decode cX8_callOff 31 = .ok (.aload_n 0, 1) := by decide +kernel
theorem dX8_callOff_32 : decode cX8_callOff 32 = .ok (.invokevirtual 109, 3) := by decide +kernel
theorem dX8_callOff_35 : decode cX8_callOff 35 = .ok (.aload_n 0, 1) := by decide +kernel
theorem dX8_callOff_36 : decode cX8_callOff 36 = .ok (.getfield 7, 3) := by decide +kernel
theorem dX8_callOff_39 : decode cX8_callOff 39 = .ok (.iload_n 2, 1) := by decide +kernel
theorem dX8_callOff_40 : decode cX8_callOff 40 = .ok (.dup2, 1) := by decide +kernel
theorem dX8_callOff_41 : decode cX8_callOff 41 = .ok (.iaload, 1) := by decide +kernel
theorem dX8_callOff_42 : decode cX8_callOff 42 = .ok (.iconst 1, 1) := by decide +kernel
theorem dX8_callOff_43 : decode cX8_callOff 43 = .ok (.isub, 1) := by decide +kernel
theorem dX8_callOff_44 : decode cX8_callOff 44 = .ok (.iastore, 1) := by decide +kernel
theorem dX8_callOff_45 : decode cX8_callOff 45 = .ok (.aload_n 0, 1) := by decide +kernel
theorem dX8_callOff_46 : decode cX8_callOff 46 = .ok (.getfield 7, 3) := by decide +kernel
theorem dX8_callOff_49 : decode cX8_callOff 49 = .ok (.iconst 0, 1) := by decide +kernel
theorem dX8_callOff_50 : decode cX8_callOff 50 = .ok (.iload_n 1, 1) := by decide +kernel
theorem dX8_callOff_51 : decode cX8_callOff 51 = .ok (.bipush 7, 2) := by decide +kernel
theorem dX8_callOff_53 : decode cX8_callOff 53 = .ok (.aload_n 0, 1) := by decide +kernel
theorem dX8_callOff_54 : decode cX8_callOff 54 = .ok (.getfield 7, 3) := by decide +kernel
theorem dX8_callOff_57 : decode cX8_callOff 57 = .ok (.iload_n 2, 1) := by decide +kernel
theorem dX8_callOff_58 : decode cX8_callOff 58 = .ok (.iaload, 1) := by decide +kernel
theorem dX8_callOff_59 : decode cX8_callOff 59 = .ok (.iadd, 1) := by decide +kernel
theorem dX8_callOff_60 : decode cX8_callOff 60 = .ok (.invokestatic 37, 3) := by decide +kernel
theorem dX8_callOff_63 : decode cX8_callOff 63 = .ok (.iaload, 1) := by decide +kernel
theorem dX8_callOff_64 : decode cX8_callOff 64 = .ok (.istore_n 3, 1) := by decide +kernel
theorem dX8_callOff_65 : decode cX8_callOff 65 = .ok (.aload_n 0, 1) := by decide +kernel
theorem dX8_callOff_66 : decode cX8_callOff 66 = .ok (.getfield 7, 3) := by decide +kernel
theorem dX8_callOff_69 : decode cX8_callOff 69 = .ok (.iconst 0, 1) := by decide +kernel
theorem dX8_callOff_70 : decode cX8_callOff 70 = .ok (.iload_n 3, 1) := by decide +kernel
theorem dX8_callOff_71 : decode cX8_callOff 71 = .ok (.iconst 0, 1) := by decide +kernel
theorem dX8_callOff_72 : decode cX8_callOff 72 = .ok (.invokestatic 44, 3) := by decide +kernel
theorem dX8_callOff_75 : decode cX8_callOff 75 = .ok (.iaload, 1) := by decide +kernel
theorem dX8_callOff_76 : decode cX8_callOff 76 = .ok (.aload_n 0, 1) := by decide +kernel
theorem dX8_callOff_77 : decode cX8_callOff 77 = .ok (.getfield 7, 3) := by decide +kernel
theorem dX8_callOff_80 : decode cX8_callOff 80 = .ok (.iconst 0, 1) := by decide +kernel
theorem dX8_callOff_81 : decode cX8_callOff 81 = .ok (.iload_n 3, 1) := by decide +kernel
theorem dX8_callOff_82 : decode cX8_callOff 82 = .ok (.iconst 5, 1) := by decide +kernel
theorem dX8_callOff_83 : decode cX8_callOff 83 = .ok (.invokestatic 44, 3) := by decide +kernel
theorem dX8_callOff_86 : decode cX8_callOff 86 = .ok (.iaload, 1) := by decide +kernel
theorem dX8_callOff_87 : decode cX8_callOff 87 = .ok (.imul, 1) := by decide +kernel
theorem dX8_callOff_88 : decode cX8_callOff 88 = .ok (.bipush 9, 2) := by decide +kernel
theorem dX8_callOff_90 : decode cX8_callOff 90 = .ok (.iadd, 1) := by decide +kernel
theorem dX8_callOff_91 : decode cX8_callOff 91 = .ok (.bipush 10, 2) := by decide +kernel
theorem dX8_callOff_93 : decode cX8_callOff 93 = .ok (.idiv, 1) := by decide +kernel
theorem dX8_callOff_94 : decode cX8_callOff 94 = .ok (.istore 4, 2) := by decide +kernel
theorem dX8_callOff_96 : decode cX8_callOff 96 = .ok (.aload_n 0, 1) := by decide +kernel
theorem dX8_callOff_97 : decode cX8_callOff 97 = .ok (.getfield 7, 3) := by decide +kernel
theorem dX8_callOff_100 : decode cX8_callOff 100 = .ok (.iconst 0, 1) := by decide +kernel
theorem dX8_callOff_101 : decode cX8_callOff 101 = .ok (.iload_n 3, 1) := by decide +kernel
theorem dX8_callOff_102 : decode cX8_callOff 102 = .ok (.bipush 6, 2) := by decide +kernel
theorem dX8_callOff_104 : decode cX8_callOff 104 = .ok (.invokestatic 44, 3) := by decide +kernel
theorem dX8_callOff_107 : decode cX8_callOff 107 = .ok (.iconst 0, 1) := by decide +kernel
theorem dX8_callOff_108 : decode cX8_callOff 108 = .ok (.iastore, 1) := by decide +kernel
theorem dX8_callOff_109 : decode cX8_callOff 109 = .ok (.aload_n 0, 1) := by decide +kernel
theorem dX8_callOff_110 : decode cX8_callOff 110 = .ok (.getfield 7, 3) := by decide +kernel
theorem dX8_callOff_113 : decode cX8_callOff 113 = .ok (.iconst 0, 1) := by decide +kernel
theorem dX8_callOff_114 : decode cX8_callOff 114 = .ok (.iload_n 1, 1) := by decide +kernel
theorem dX8_callOff_115 : decode cX8_callOff 115 = .ok (.iconst 5, 1) := by decide +kernel
theorem dX8_callOff_116 : decode cX8_callOff 116 = .ok (.invokestatic 37, 3) := by decide +kernel
theorem dX8_callOff_119 : decode cX8_callOff 119 = .ok (.dup2, 1) := by decide +kernel
theorem dX8_callOff_120 : decode cX8_callOff 120 = .ok (.iaload, 1) := by decide +kernel
theorem dX8_callOff_121 : decode cX8_callOff 121 = .ok (.iload 4, 2) := by decide +kernel
theorem dX8_callOff_123 : decode cX8_callOff 123 = .ok (.isub, 1) := by decide +kernel
theorem dX8_callOff_124 : decode cX8_callOff 124 = .ok (.iastore, 1) := by decide +kernel
theorem dX8_callOff_125 : decode cX8_callOff 125 = .ok (.aload_n 0, 1) := by decide +kernel
theorem dX8_callOff_126 : decode cX8_callOff 126 = .ok (.getfield 7, 3) := by decide +kernel
theorem dX8_callOff_129 : decode cX8_callOff 129 = .ok (.sipush 189, 3) := by decide +kernel
theorem dX8_callOff_132 : decode cX8_callOff 132 = .ok (.dup2, 1) := by decide +kernel
theorem dX8_callOff_133 : decode cX8_callOff 133 = .ok (.iaload, 1) := by decide +kernel
theorem dX8_callOff_134 : decode cX8_callOff 134 = .ok (.iconst 1, 1) := by decide +kernel
theorem dX8_callOff_135 : decode cX8_callOff 135 = .ok (.iadd, 1) := by decide +kernel
theorem dX8_callOff_136 : decode cX8_callOff 136 = .ok (.iastore, 1) := by decide +kernel
theorem dX8_callOff_137 : decode cX8_callOff 137 = .ok (.aload_n 0, 1) := by decide +kernel
theorem dX8_callOff_138 : decode cX8_callOff 138 = .ok (.iload 4, 2) := by decide +kernel
theorem dX8_callOff_140 : decode cX8_callOff 140 = .ok (.invokevirtual 112, 3) := by decide +kernel
theorem dX8_callOff_143 : decode cX8_callOff 143 = .ok (.ireturn, 1) := by decide +kernel
theorem dX8_settle_0 : decode cX8_settle 0 = .ok (.aload_n 0, 1) := by decide +kernel
theorem dX8_settle_1 : decode cX8_settle 1 = .ok (.iload_n 1, 1) := by decide +kernel
theorem dX8_settle_2 : decode cX8_settle 2 = .ok (.invokevirtual 91, 3) := by decide +kernel
theorem dX8_settle_5 : decode cX8_settle 5 = .ok (.ifCond .ne 6, 3) := by decide +kernel
theorem dX8_settle_8 : decode cX8_settle 8 = .ok (.ldc 24, 2) := by decide +kernel
theorem dX8_settle_10 : decode cX8_settle 10 = .ok (.ireturn, 1) := by decide +kernel
theorem dX8_settle_11 : decode cX8_settle 11 = .ok (.aload_n 0, 1) := by decide +kernel
theorem dX8_settle_12 : decode cX8_settle 12 = .ok (.getfield 7, 3) := by decide +kernel
theorem dX8_settle_15 : decode cX8_settle 15 = .ok (.iconst 0, 1) := by decide +kernel
theorem dX8_settle_16 : decode cX8_settle 16 = .ok (.iload_n 1, 1) := by decide +kernel
theorem dX8_settle_17 : decode cX8_settle 17 = .ok (.bipush 6, 2) := by decide +kernel
theorem dX8_settle_19 : decode cX8_settle 19 = .ok (.invokestatic 37, 3) := by decide +kernel
theorem dX8_settle_22 : decode cX8_settle 22 = .ok (.iaload, 1) := by decide +kernel
theorem dX8_settle_23 : decode cX8_settle 23 = .ok (.istore_n 2, 1) := by decide +kernel
theorem dX8_settle_24 : decode cX8_settle 24 = .ok (.iload_n 2, 1) := by decide +kernel
theorem dX8_settle_25 : decode cX8_settle 25 = .ok (.ifCond .ne 6, 3) := by decide +kernel
theorem dX8_settle_28 : decode cX8_settle 28 = .ok (.ldc 101, 2) := by decide +kernel
theorem dX8_settle_30 : decode cX8_settle 30 = .ok (.ireturn, 1) := by decide +kernel
theorem dX8_settle_31 : decode cX8_settle 31 = .ok (.aload_n 0, 1) := by decide +kernel
theorem dX8_settle_32 : decode cX8_settle 32 = .ok (.invokevirtual 109, 3) := by decide +kernel
theorem dX8_settle_35 : decode cX8_settle 35 = .ok (.aload_n 0, 1) := by decide +kernel
theorem dX8_settle_36 : decode cX8_settle 36 = .ok (.iconst 0, 1) := by decide +kernel
theorem dX8_settle_37 : decode cX8_settle 37 = .ok (.iload_n 1, 1) := by decide +kernel
theorem dX8_settle_38 : decode cX8_settle 38 = .ok (.invokevirtual 87, 3) := by decide +kernel
theorem dX8_settle_41 : decode cX8_settle 41 = .ok (.iconst 0, 1) := by decide +kernel
theorem dX8_settle_42 : decode cX8_settle 42 = .ok (.istore_n 3, 1) := by decide +kernel
theorem dX8_settle_43 : decode cX8_settle 43 = .ok (.iload_n 3, 1) := by decide +kernel
theorem dX8_settle_44 : decode cX8_settle 44 = .ok (.iload_n 2, 1) := by decide +kernel
theorem dX8_settle_45 : decode cX8_settle 45 = .ok (.if_icmp .ge 35, 3) := by decide +kernel
theorem dX8_settle_48 : decode cX8_settle 48 = .ok (.aload_n 0, 1) := by decide +kernel
theorem dX8_settle_49 : decode cX8_settle 49 = .ok (.getfield 7, 3) := by decide +kernel
theorem dX8_settle_52 : decode cX8_settle 52 = .ok (.iconst 0, 1) := by decide +kernel
theorem dX8_settle_53 : decode cX8_settle 53 = .ok (.aload_n 0, 1) := by decide +kernel
theorem dX8_settle_54 : decode cX8_settle 54 = .ok (.getfield 7, 3) := by decide +kernel
theorem dX8_settle_57 : decode cX8_settle 57 = .ok (.iconst 0, 1) := by decide +kernel
theorem dX8_settle_58 : decode cX8_settle 58 = .ok (.iload_n 1, 1) := by decide +kernel
theorem dX8_settle_59 : decode cX8_settle 59 = .ok (.bipush 7, 2) := by decide +kernel
theorem dX8_settle_61 : decode cX8_settle 61 = .ok (.iload_n 3, 1) := by decide +kernel
theorem dX8_settle_62 : decode cX8_settle 62 = .ok (.iadd, 1) := by decide +kernel
theorem dX8_settle_63 : decode cX8_settle 63 = .ok (.invokestatic 37, 3) := by decide +kernel
theorem dX8_settle_66 : decode cX8_settle 66 = .ok (.iaload, 1) := by decide +kernel
theorem dX8_settle_67 : decode cX8_settle 67 = .ok (.bipush 6, 2) := by decide +kernel
theorem dX8_settle_69 : decode cX8_settle 69 = .ok (.invokestatic 44, 3) := by decide +kernel
theorem dX8_settle_72 : decode cX8_settle 72 = .ok (.iconst 2, 1) := by decide +kernel
theorem dX8_settle_73 : decode cX8_settle 73 = .ok (.iastore, 1) := by decide +kernel
theorem dX8_settle_74 : decode cX8_settle 74 = .ok (.iinc 3 1, 3) := by decide +kernel
theorem dX8_settle_77 : decode cX8_settle 77 = .ok (.goto (-34), 3) := by decide +kernel
theorem dX8_settle_80 : decode cX8_settle 80 = .ok (.aload_n 0, 1) := by decide +kernel
theorem dX8_settle_81 : decode cX8_settle 81 = .ok (.getfield 7, 3) := by decide +kernel
theorem dX8_settle_84 : decode cX8_settle 84 = .ok (.iconst 0, 1) := by decide +kernel
theorem dX8_settle_85 : decode cX8_settle 85 = .ok (.iload_n 1, 1) := by decide +kernel
theorem dX8_settle_86 : decode cX8_settle 86 = .ok (.iconst 5, 1) := by decide +kernel
theorem dX8_settle_87 : decode cX8_settle 87 = .ok (.invokestatic 37, 3) := by decide +kernel
theorem dX8_settle_90 : decode cX8_settle 90 = .ok (.dup2, 1) := by decide +kernel
theorem dX8_settle_91 : decode cX8_settle 91 = .ok (.iaload, 1) := by decide +kernel
theorem dX8_settle_92 : decode cX8_settle 92 = .ok (.aload_n 0, 1) := by decide +kernel
theorem dX8_settle_93 : decode cX8_settle 93 = .ok (.getfield 69, 3) := by decide +kernel
theorem dX8_settle_96 : decode cX8_settle 96 = .ok (.iadd, 1) := by decide +kernel
theorem dX8_settle_97 : decode cX8_settle 97 = .ok (.iastore, 1) := by decide +kernel
theorem dX8_settle_98 : decode cX8_settle 98 = .ok (.aload_n 0, 1) := by decide +kernel
theorem dX8_settle_99 : decode cX8_settle 99 = .ok (.getfield 7, 3) := by decide +kernel
theorem dX8_settle_102 : decode cX8_settle 102 = .ok (.iconst 0, 1) := by decide +kernel
theorem dX8_settle_103 : decode cX8_settle 103 = .ok (.iload_n 1, 1) := by decide +kernel
theorem dX8_settle_104 : decode cX8_settle 104 = .ok (.iconst 3, 1) := by decide +kernel
theorem dX8_settle_105 : decode cX8_settle 105 = .ok (.invokestatic 37, 3) := by decide +kernel
theorem dX8_settle_108 : decode cX8_settle 108 = .ok (.aload_n 0, 1) := by decide +kernel
theorem dX8_settle_109 : decode cX8_settle 109 = .ok (.getfield 63, 3) := by decide +kernel
theorem dX8_settle_112 : decode cX8_settle 112 = .ok (.iastore, 1) := by decide +kernel
theorem dX8_settle_113 : decode cX8_settle 113 = .ok (.aload_n 0, 1) := by decide +kernel
theorem dX8_settle_114 : decode cX8_settle 114 = .ok (.getfield 7, 3) := by decide +kernel
theorem dX8_settle_117 : decode cX8_settle 117 = .ok (.iconst 0, 1) := by decide +kernel
theorem dX8_settle_118 : decode cX8_settle 118 = .ok (.iload_n 1, 1) := by decide +kernel
theorem dX8_settle_119 : decode cX8_settle 119 = .ok (.iconst 4, 1) := by decide +kernel
theorem dX8_settle_120 : decode cX8_settle 120 = .ok (.invokestatic 37, 3) := by decide +kernel
theorem dX8_settle_123 : decode cX8_settle 123 = .ok (.aload_n 0, 1) := by decide +kernel
theorem dX8_settle_124 : decode cX8_settle 124 = .ok (.getfield 66, 3) := by decide +kernel
theorem dX8_settle_127 : decode cX8_settle 127 = .ok (.iastore, 1) := by decide +kernel
theorem dX8_settle_128 : decode cX8_settle 128 = .ok (.aload_n 0, 1) := by decide +kernel
theorem dX8_settle_129 : decode cX8_settle 129 = .ok (.getfield 7, 3) := by decide +kernel
theorem dX8_settle_132 : decode cX8_settle 132 = .ok (.iconst 0, 1) := by decide +kernel
theorem dX8_settle_133 : decode cX8_settle 133 = .ok (.iload_n 1, 1) := by decide +kernel
theorem dX8_settle_134 : decode cX8_settle 134 = .ok (.bipush 6, 2) := by decide +kernel
theorem dX8_settle_136 : decode cX8_settle 136 = .ok (.invokestatic 37, 3) := by decide +kernel
theorem dX8_settle_139 : decode cX8_settle 139 = .ok (.iconst 0, 1) := by decide +kernel
theorem dX8_settle_140 : decode cX8_settle 140 = .ok (.iastore, 1) := by decide +kernel
theorem dX8_settle_141 : decode cX8_settle 141 = .ok (.aload_n 0, 1) := by decide +kernel
theorem dX8_settle_142 : decode cX8_settle 142 = .ok (.aload_n 0, 1) := by decide +kernel
theorem dX8_settle_143 : decode cX8_settle 143 = .ok (.getfield 69, 3) := by decide +kernel
theorem dX8_settle_146 : decode cX8_settle 146 = .ok (.ldc 129, 2) := by decide +kernel
theorem dX8_settle_148 : decode cX8_settle 148 = .ok (.iadd, 1) := by decide +kernel
theorem dX8_settle_149 : decode cX8_settle 149 = .ok (.invokevirtual 112, 3) := by decide +kernel
theorem dX8_settle_152 : decode cX8_settle 152 = .ok (.ireturn, 1) := by decide +kernel
theorem dX8_shipOf_0 : decode cX8_shipOf 0 = .ok (.aload_n 0, 1) := by decide +kernel
theorem dX8_shipOf_1 : decode cX8_shipOf 1 = .ok (.iload_n 1, 1) := by decide +kernel
theorem dX8_shipOf_2 : decode cX8_shipOf 2 = .ok (.invokevirtual 91, 3) := by decide +kernel
theorem dX8_shipOf_5 : decode cX8_shipOf 5 = .ok (.ifCond .eq 13, 3) := by decide +kernel
theorem dX8_shipOf_8 : decode cX8_shipOf 8 = .ok (.iload_n 2, 1) := by decide +kernel
theorem dX8_shipOf_9 : decode cX8_shipOf 9 = .ok (.iconst 0, 1) := by decide +kernel
theorem dX8_shipOf_10 : decode cX8_shipOf 10 = .ok (.bipush 9, 2) := by decide +kernel
theorem dX8_shipOf_12 : decode cX8_shipOf 12 = .ok (.invokestatic 29, 3) := by decide +kernel
theorem dX8_shipOf_15 : decode cX8_shipOf 15 = .ok (.ifCond .ne 6, 3) := by decide +kernel
theorem dX8_shipOf_18 : decode cX8_shipOf 18 = .ok (.ldc 24, 2) := by decide +kernel
theorem dX8_shipOf_20 : decode cX8_shipOf 20 = .ok (.ireturn, 1) := by decide +kernel
theorem dX8_shipOf_21 : decode cX8_shipOf 21 = .ok (.aload_n 0, 1) := by decide +kernel
theorem dX8_shipOf_22 : decode cX8_shipOf 22 = .ok (.iconst 0, 1) := by decide +kernel
theorem dX8_shipOf_23 : decode cX8_shipOf 23 = .ok (.iload_n 1, 1) := by decide +kernel
theorem dX8_shipOf_24 : decode cX8_shipOf 24 = .ok (.invokevirtual 87, 3) := by decide +kernel
theorem dX8_shipOf_27 : decode cX8_shipOf 27 = .ok (.iload_n 2, 1) := by decide +kernel
theorem dX8_shipOf_28 : decode cX8_shipOf 28 = .ok (.tableswitch 126 0 8 #[52, 52, 52, 64, 69, 74, 86, 98, 111], 52) := by decide +kernel
theorem dX8_shipOf_80 : decode cX8_shipOf 80 = .ok (.aload_n 0, 1) := by decide +kernel
theorem dX8_shipOf_81 : decode cX8_shipOf 81 = .ok (.getfield 7, 3) := by decide +kernel
theorem dX8_shipOf_84 : decode cX8_shipOf 84 = .ok (.iconst 0, 1) := by decide +kernel
theorem dX8_shipOf_85 : decode cX8_shipOf 85 = .ok (.iload_n 1, 1) := by decide +kernel
theorem dX8_shipOf_86 : decode cX8_shipOf 86 = .ok (.iload_n 2, 1) := by decide +kernel
theorem dX8_shipOf_87 : decode cX8_shipOf 87 = .ok (.invokestatic 37, 3) := by decide +kernel
theorem dX8_shipOf_90 : decode cX8_shipOf 90 = .ok (.iaload, 1) := by decide +kernel
theorem dX8_shipOf_91 : decode cX8_shipOf 91 = .ok (.ireturn, 1) := by decide +kernel
theorem dX8_shipOf_92 : decode cX8_shipOf 92 = .ok (.aload_n 0, 1) := by decide +kernel
theorem dX8_shipOf_93 : decode cX8_shipOf 93 = .ok (.getfield 63, 3) := by decide +kernel
theorem dX8_shipOf_96 : decode cX8_shipOf 96 = .ok (.ireturn, 1) := by decide +kernel
theorem dX8_shipOf_97 : decode cX8_shipOf 97 = .ok (.aload_n 0, 1) := by decide +kernel
theorem dX8_shipOf_98 : decode cX8_shipOf 98 = .ok (.getfield 66, 3) := by decide +kernel
theorem dX8_shipOf_101 : decode cX8_shipOf 101 = .ok (.ireturn, 1) := by decide +kernel
theorem dX8_shipOf_102 : decode cX8_shipOf 102 = .ok (.aload_n 0, 1) := by decide +kernel
theorem dX8_shipOf_103 : decode cX8_shipOf 103 = .ok (.getfield 7, 3) := by decide +kernel
theorem dX8_shipOf_106 : decode cX8_shipOf 106 = .ok (.iconst 0, 1) := by decide +kernel
theorem dX8_shipOf_107 : decode cX8_shipOf 107 = .ok (.iload_n 1, 1) := by decide +kernel
theorem dX8_shipOf_108 : decode cX8_shipOf 108 = .ok (.iconst 3, 1) := by decide +kernel
theorem dX8_shipOf_109 : decode cX8_shipOf 109 = .ok (.invokestatic 37, 3) := by decide +kernel
theorem dX8_shipOf_112 : decode cX8_shipOf 112 = .ok (.iaload, 1) := by decide +kernel
theorem dX8_shipOf_113 : decode cX8_shipOf 113 = .ok (.ireturn, 1) := by decide +kernel
theorem dX8_shipOf_114 : decode cX8_shipOf 114 = .ok (.aload_n 0, 1) := by decide +kernel
theorem dX8_shipOf_115 : decode cX8_shipOf 115 = .ok (.getfield 7, 3) := by decide +kernel
theorem dX8_shipOf_118 : decode cX8_shipOf 118 = .ok (.iconst 0, 1) := by decide +kernel
theorem dX8_shipOf_119 : decode cX8_shipOf 119 = .ok (.iload_n 1, 1) := by decide +kernel
theorem dX8_shipOf_120 : decode cX8_shipOf 120 = .ok (.iconst 4, 1) := by decide +kernel
theorem dX8_shipOf_121 : decode cX8_shipOf 121 = .ok (.invokestatic 37, 3) := by decide +kernel
theorem dX8_shipOf_124 : decode cX8_shipOf 124 = .ok (.iaload, 1) := by decide +kernel
theorem dX8_shipOf_125 : decode cX8_shipOf 125 = .ok (.ireturn, 1) := by decide +kernel
theorem dX8_shipOf_126 : decode cX8_shipOf 126 = .ok (.aload_n 0, 1) := by decide +kernel
theorem dX8_shipOf_127 : decode cX8_shipOf 127 = .ok (.getfield 7, 3) := by decide +kernel
theorem dX8_shipOf_130 : decode cX8_shipOf 130 = .ok (.iconst 0, 1) := by decide +kernel
theorem dX8_shipOf_131 : decode cX8_shipOf 131 = .ok (.iload_n 1, 1) := by decide +kernel
theorem dX8_shipOf_132 : decode cX8_shipOf 132 = .ok (.bipush 6, 2) := by decide +kernel
theorem dX8_shipOf_134 : decode cX8_shipOf 134 = .ok (.invokestatic 37, 3) := by decide +kernel
theorem dX8_shipOf_137 : decode cX8_shipOf 137 = .ok (.iaload, 1) := by decide +kernel
theorem dX8_shipOf_138 : decode cX8_shipOf 138 = .ok (.ireturn, 1) := by decide +kernel
theorem dX8_shipOf_139 : decode cX8_shipOf 139 = .ok (.aload_n 0, 1) := by decide +kernel
theorem dX8_shipOf_140 : decode cX8_shipOf 140 = .ok (.getfield 7, 3) := by decide +kernel
theorem dX8_shipOf_143 : decode cX8_shipOf 143 = .ok (.iconst 0, 1) := by decide +kernel
theorem dX8_shipOf_144 : decode cX8_shipOf 144 = .ok (.iload_n 1, 1) := by decide +kernel
theorem dX8_shipOf_145 : decode cX8_shipOf 145 = .ok (.iconst 5, 1) := by decide +kernel
theorem dX8_shipOf_146 : decode cX8_shipOf 146 = .ok (.invokestatic 37, 3) := by decide +kernel
theorem dX8_shipOf_149 : decode cX8_shipOf 149 = .ok (.iaload, 1) := by decide +kernel
theorem dX8_shipOf_150 : decode cX8_shipOf 150 = .ok (.ldc 129, 2) := by decide +kernel
theorem dX8_shipOf_152 : decode cX8_shipOf 152 = .ok (.iadd, 1) := by decide +kernel
theorem dX8_shipOf_153 : decode cX8_shipOf 153 = .ok (.ireturn, 1) := by decide +kernel
theorem dX8_shipOf_154 : decode cX8_shipOf 154 = .ok (.aload_n 0, 1) := by decide +kernel
theorem dX8_shipOf_155 : decode cX8_shipOf 155 = .ok (.getfield 69, 3) := by decide +kernel
theorem dX8_shipOf_158 : decode cX8_shipOf 158 = .ok (.ldc 129, 2) := by decide +kernel
theorem dX8_shipOf_160 : decode cX8_shipOf 160 = .ok (.iadd, 1) := by decide +kernel
theorem dX8_shipOf_161 : decode cX8_shipOf 161 = .ok (.ireturn, 1) := by decide +kernel
theorem dX8_cargoOf_0 : decode cX8_cargoOf 0 = .ok (.aload_n 0, 1) := by decide +kernel
theorem dX8_cargoOf_1 : decode cX8_cargoOf 1 = .ok (.iload_n 1, 1) := by decide +kernel
theorem dX8_cargoOf_2 : decode cX8_cargoOf 2 = .ok (.invokevirtual 95, 3) := by decide +kernel
theorem dX8_cargoOf_5 : decode cX8_cargoOf 5 = .ok (.ifCond .eq 13, 3) := by decide +kernel
theorem dX8_cargoOf_8 : decode cX8_cargoOf 8 = .ok (.iload_n 2, 1) := by decide +kernel
theorem dX8_cargoOf_9 : decode cX8_cargoOf 9 = .ok (.iconst 0, 1) := by decide +kernel
theorem dX8_cargoOf_10 : decode cX8_cargoOf 10 = .ok (.bipush 7, 2) := by decide +kernel
theorem dX8_cargoOf_12 : decode cX8_cargoOf 12 = .ok (.invokestatic 29, 3) := by decide +kernel
theorem dX8_cargoOf_15 : decode cX8_cargoOf 15 = .ok (.ifCond .ne 6, 3) := by decide +kernel
theorem dX8_cargoOf_18 : decode cX8_cargoOf 18 = .ok (.ldc 24, 2) := by decide +kernel
theorem dX8_cargoOf_20 : decode cX8_cargoOf 20 = .ok (.ireturn, 1) := by decide +kernel
theorem dX8_cargoOf_21 : decode cX8_cargoOf 21 = .ok (.iload_n 2, 1) := by decide +kernel
theorem dX8_cargoOf_22 : decode cX8_cargoOf 22 = .ok (.bipush 7, 2) := by decide +kernel
theorem dX8_cargoOf_24 : decode cX8_cargoOf 24 = .ok (.if_icmp .ne 24, 3) := by decide +kernel
theorem dX8_cargoOf_27 : decode cX8_cargoOf 27 = .ok (.aload_n 0, 1) := by decide +kernel
theorem dX8_cargoOf_28 : decode cX8_cargoOf 28 = .ok (.getfield 7, 3) := by decide +kernel
theorem dX8_cargoOf_31 : decode cX8_cargoOf 31 = .ok (.iconst 0, 1) := by decide +kernel
theorem dX8_cargoOf_32 : decode cX8_cargoOf 32 = .ok (.iload_n 1, 1) := by decide +kernel
theorem dX8_cargoOf_33 : decode cX8_cargoOf 33 = .ok (.bipush 6, 2) := by decide +kernel
theorem dX8_cargoOf_35 : decode cX8_cargoOf 35 = .ok (.invokestatic 44, 3) := by decide +kernel
theorem dX8_cargoOf_38 : decode cX8_cargoOf 38 = .ok (.iaload, 1) := by decide +kernel
theorem dX8_cargoOf_39 : decode cX8_cargoOf 39 = .ok (.iconst 1, 1) := by decide +kernel
theorem dX8_cargoOf_40 : decode cX8_cargoOf 40 = .ok (.if_icmp .eq 8, 3) := by decide +kernel
theorem dX8_cargoOf_43 : decode cX8_cargoOf 43 = .ok (.ldc 130, 2) := by decide +kernel
theorem dX8_cargoOf_45 : decode cX8_cargoOf 45 = .ok (.goto 14, 3) := by decide +kernel
theorem dX8_cargoOf_48 : decode cX8_cargoOf 48 = .ok (.aload_n 0, 1) := by decide +kernel
theorem dX8_cargoOf_49 : decode cX8_cargoOf 49 = .ok (.getfield 7, 3) := by decide +kernel
theorem dX8_cargoOf_52 : decode cX8_cargoOf 52 = .ok (.iconst 0, 1) := by decide +kernel
theorem dX8_cargoOf_53 : decode cX8_cargoOf 53 = .ok (.iload_n 1, 1) := by decide +kernel
theorem dX8_cargoOf_54 : decode cX8_cargoOf 54 = .ok (.iload_n 2, 1) := by decide +kernel
theorem dX8_cargoOf_55 : decode cX8_cargoOf 55 = .ok (.invokestatic 44, 3) := by decide +kernel
theorem dX8_cargoOf_58 : decode cX8_cargoOf 58 = .ok (.iaload, 1) := by decide +kernel
theorem dX8_cargoOf_59 : decode cX8_cargoOf 59 = .ok (.ireturn, 1) := by decide +kernel
theorem dX8_fixtureOf_0 : decode cX8_fixtureOf 0 = .ok (.aload_n 0, 1) := by decide +kernel
theorem dX8_fixtureOf_1 : decode cX8_fixtureOf 1 = .ok (.iload_n 1, 1) := by decide +kernel
theorem dX8_fixtureOf_2 : decode cX8_fixtureOf 2 = .ok (.invokevirtual 91, 3) := by decide +kernel
theorem dX8_fixtureOf_5 : decode cX8_fixtureOf 5 = .ok (.ifCond .eq 16, 3) := by decide +kernel
theorem dX8_fixtureOf_8 : decode cX8_fixtureOf 8 = .ok (.iload_n 2, 1) := by decide +kernel
theorem dX8_fixtureOf_9 : decode cX8_fixtureOf 9 = .ok (.ifCond .lt 12, 3) := by decide +kernel
theorem dX8_fixtureOf_12 : decode cX8_fixtureOf 12 = .ok (.iload_n 3, 1) := by decide +kernel
theorem dX8_fixtureOf_13 : decode cX8_fixtureOf 13 = .ok (.iconst 0, 1) := by decide +kernel
theorem dX8_fixtureOf_14 : decode cX8_fixtureOf 14 = .ok (.iconst 5, 1) := by decide +kernel
theorem dX8_fixtureOf_15 : decode cX8_fixtureOf 15 = .ok (.invokestatic 29, 3) := by decide +kernel
theorem dX8_fixtureOf_18 : decode cX8_fixtureOf 18 = .ok (.ifCond .ne 6, 3) := by decide +kernel
theorem dX8_fixtureOf_21 : decode cX8_fixtureOf 21 = .ok (.ldc 24, 2) := by decide +kernel
theorem dX8_fixtureOf_23 : decode cX8_fixtureOf 23 = .ok (.ireturn, 1) := by decide +kernel
theorem dX8_fixtureOf_24 : decode cX8_fixtureOf 24 = .ok (.iload_n 2, 1) := by decide +kernel
theorem dX8_fixtureOf_25 : decode cX8_fixtureOf 25 = .ok (.aload_n 0, 1) := by decide +kernel
theorem dX8_fixtureOf_26 : decode cX8_fixtureOf 26 = .ok (.getfield 7, 3) := by decide +kernel
theorem dX8_fixtureOf_29 : decode cX8_fixtureOf 29 = .ok (.iconst 0, 1) := by decide +kernel
theorem dX8_fixtureOf_30 : decode cX8_fixtureOf 30 = .ok (.iload_n 1, 1) := by decide +kernel
theorem dX8_fixtureOf_31 : decode cX8_fixtureOf 31 = .ok (.bipush 6, 2) := by decide +kernel
theorem dX8_fixtureOf_33 : decode cX8_fixtureOf 33 = .ok (.invokestatic 37, 3) := by decide +kernel
theorem dX8_fixtureOf_36 : decode cX8_fixtureOf 36 = .ok (.iaload, 1) := by decide +kernel
theorem dX8_fixtureOf_37 : decode cX8_fixtureOf 37 = .ok (.if_icmp .lt 6, 3) := by decide +kernel
theorem dX8_fixtureOf_40 : decode cX8_fixtureOf 40 = .ok (.ldc 130, 2) := by decide +kernel
theorem dX8_fixtureOf_42 : decode cX8_fixtureOf 42 = .ok (.ireturn, 1) := by decide +kernel
theorem dX8_fixtureOf_43 : decode cX8_fixtureOf 43 = .ok (.aload_n 0, 1) := by decide +kernel
theorem dX8_fixtureOf_44 : decode cX8_fixtureOf 44 = .ok (.getfield 7, 3) := by decide +kernel
theorem dX8_fixtureOf_47 : decode cX8_fixtureOf 47 = .ok (.iconst 0, 1) := by decide +kernel
theorem dX8_fixtureOf_48 : decode cX8_fixtureOf 48 = .ok (.iload_n 1, 1) := by decide +kernel
theorem dX8_fixtureOf_49 : decode cX8_fixtureOf 49 = .ok (.bipush 7, 2) := by decide +kernel
theorem dX8_fixtureOf_51 : decode cX8_fixtureOf 51 = .ok (.iload_n 2, 1) := by decide +kernel
theorem dX8_fixtureOf_52 : decode cX8_fixtureOf 52 = .ok (.iadd, 1) := by decide +kernel
theorem dX8_fixtureOf_53 : decode cX8_fixtureOf 53 = .ok (.invokestatic 37, 3) := by decide +kernel
theorem dX8_fixtureOf_56 : decode cX8_fixtureOf 56 = .ok (.iaload, 1) := by decide +kernel
theorem dX8_fixtureOf_57 : decode cX8_fixtureOf 57 = .ok (.istore 4, 2) := by decide +kernel
theorem dX8_fixtureOf_59 : decode cX8_fixtureOf 59 = .ok (.aload_n 0, 1) := by decide +kernel
theorem dX8_fixtureOf_60 : decode cX8_fixtureOf 60 = .ok (.iconst 0, 1) := by decide +kernel
theorem dX8_fixtureOf_61 : decode cX8_fixtureOf 61 = .ok (.iload_n 1, 1) := by decide +kernel
theorem dX8_fixtureOf_62 : decode cX8_fixtureOf 62 = .ok (.iload_n 2, 1) := by decide +kernel
theorem dX8_fixtureOf_63 : decode cX8_fixtureOf 63 = .ok (.invokevirtual 83, 3) := by decide +kernel
theorem dX8_fixtureOf_66 : decode cX8_fixtureOf 66 = .ok (.aload_n 0, 1) := by decide +kernel
theorem dX8_fixtureOf_67 : decode cX8_fixtureOf 67 = .ok (.iconst 0, 1) := by decide +kernel
theorem dX8_fixtureOf_68 : decode cX8_fixtureOf 68 = .ok (.iload_n 1, 1) := by decide +kernel
theorem dX8_fixtureOf_69 : decode cX8_fixtureOf 69 = .ok (.iload 4, 2) := by decide +kernel
theorem dX8_fixtureOf_71 : decode cX8_fixtureOf 71 = .ok (.aload_n 0, 1) := by decide +kernel
theorem dX8_fixtureOf_72 : decode cX8_fixtureOf 72 = .ok (.getfield 63, 3) := by decide +kernel
theorem dX8_fixtureOf_75 : decode cX8_fixtureOf 75 = .ok (.aload_n 0, 1) := by decide +kernel
theorem dX8_fixtureOf_76 : decode cX8_fixtureOf 76 = .ok (.getfield 66, 3) := by decide +kernel
theorem dX8_fixtureOf_79 : decode cX8_fixtureOf 79 = .ok (.invokevirtual 75, 3) := by decide +kernel
theorem dX8_fixtureOf_82 : decode cX8_fixtureOf 82 = .ok (.iload_n 3, 1) := by decide +kernel
theorem dX8_fixtureOf_83 : decode cX8_fixtureOf 83 = .ok (.tableswitch 59 0 4 #[33, 36, 41, 46, 51], 33) := by decide +kernel
theorem dX8_fixtureOf_116 : decode cX8_fixtureOf 116 = .ok (.iload 4, 2) := by decide +kernel
theorem dX8_fixtureOf_118 : decode cX8_fixtureOf 118 = .ok (.ireturn, 1) := by decide +kernel
theorem dX8_fixtureOf_119 : decode cX8_fixtureOf 119 = .ok (.aload_n 0, 1) := by decide +kernel
theorem dX8_fixtureOf_120 : decode cX8_fixtureOf 120 = .ok (.getfield 51, 3) := by decide +kernel
theorem dX8_fixtureOf_123 : decode cX8_fixtureOf 123 = .ok (.ireturn, 1) := by decide +kernel
theorem dX8_fixtureOf_124 : decode cX8_fixtureOf 124 = .ok (.aload_n 0, 1) := by decide +kernel
theorem dX8_fixtureOf_125 : decode cX8_fixtureOf 125 = .ok (.getfield 54, 3) := by decide +kernel
theorem dX8_fixtureOf_128 : decode cX8_fixtureOf 128 = .ok (.ireturn, 1) := by decide +kernel
theorem dX8_fixtureOf_129 : decode cX8_fixtureOf 129 = .ok (.aload_n 0, 1) := by decide +kernel
theorem dX8_fixtureOf_130 : decode cX8_fixtureOf 130 = .ok (.getfield 57, 3) := by decide +kernel
theorem dX8_fixtureOf_133 : decode cX8_fixtureOf 133 = .ok (.ireturn, 1) := by decide +kernel
theorem dX8_fixtureOf_134 : decode cX8_fixtureOf 134 = .ok (.aload_n 0, 1) := by decide +kernel
theorem dX8_fixtureOf_135 : decode cX8_fixtureOf 135 = .ok (.getfield 60, 3) := by decide +kernel
theorem dX8_fixtureOf_138 : decode cX8_fixtureOf 138 = .ok (.ldc 129, 2) := by decide +kernel
theorem dX8_fixtureOf_140 : decode cX8_fixtureOf 140 = .ok (.iadd, 1) := by decide +kernel
theorem dX8_fixtureOf_141 : decode cX8_fixtureOf 141 = .ok (.ireturn, 1) := by decide +kernel
theorem dX8_fixtureOf_142 : decode cX8_fixtureOf 142 = .ok (.aload_n 0, 1) := by decide +kernel
theorem dX8_fixtureOf_143 : decode cX8_fixtureOf 143 = .ok (.getfield 7, 3) := by decide +kernel
theorem dX8_fixtureOf_146 : decode cX8_fixtureOf 146 = .ok (.iconst 0, 1) := by decide +kernel
theorem dX8_fixtureOf_147 : decode cX8_fixtureOf 147 = .ok (.iload 4, 2) := by decide +kernel
theorem dX8_fixtureOf_149 : decode cX8_fixtureOf 149 = .ok (.iconst 4, 1) := by decide +kernel
theorem dX8_fixtureOf_150 : decode cX8_fixtureOf 150 = .ok (.invokestatic 44, 3) := by decide +kernel
theorem dX8_fixtureOf_153 : decode cX8_fixtureOf 153 = .ok (.iaload, 1) := by decide +kernel
theorem dX8_fixtureOf_154 : decode cX8_fixtureOf 154 = .ok (.aload_n 0, 1) := by decide +kernel
theorem dX8_fixtureOf_155 : decode cX8_fixtureOf 155 = .ok (.getfield 51, 3) := by decide +kernel
theorem dX8_fixtureOf_158 : decode cX8_fixtureOf 158 = .ok (.isub, 1) := by decide +kernel
theorem dX8_fixtureOf_159 : decode cX8_fixtureOf 159 = .ok (.ireturn, 1) := by decide +kernel
theorem dX8_distance_0 : decode cX8_distance 0 = .ok (.iload_n 1, 1) := by decide +kernel
theorem dX8_distance_1 : decode cX8_distance 1 = .ok (.iconst 0, 1) := by decide +kernel
theorem dX8_distance_2 : decode cX8_distance 2 = .ok (.bipush 7, 2) := by decide +kernel
theorem dX8_distance_4 : decode cX8_distance 4 = .ok (.invokestatic 29, 3) := by decide +kernel
theorem dX8_distance_7 : decode cX8_distance 7 = .ok (.ifCond .eq 22, 3) := by decide +kernel
theorem dX8_distance_10 : decode cX8_distance 10 = .ok (.iload_n 2, 1) := by decide +kernel
theorem dX8_distance_11 : decode cX8_distance 11 = .ok (.iconst 0, 1) := by decide +kernel
theorem dX8_distance_12 : decode cX8_distance 12 = .ok (.bipush 7, 2) := by decide +kernel
theorem dX8_distance_14 : decode cX8_distance 14 = .ok (.invokestatic 29, 3) := by decide +kernel
theorem dX8_distance_17 : decode cX8_distance 17 = .ok (.ifCond .eq 12, 3) := by decide +kernel
theorem dX8_distance_20 : decode cX8_distance 20 = .ok (.aload_n 0, 1) := by decide +kernel
theorem dX8_distance_21 : decode cX8_distance 21 = .ok (.iload_n 1, 1) := by decide +kernel
theorem dX8_distance_22 : decode cX8_distance 22 = .ok (.iload_n 2, 1) := by decide +kernel
theorem dX8_distance_23 : decode cX8_distance 23 = .ok (.invokevirtual 41, 3) := by decide +kernel
theorem dX8_distance_26 : decode cX8_distance 26 = .ok (.goto 5, 3) := by decide +kernel
theorem dX8_distance_29 : decode cX8_distance 29 = .ok (.ldc 24, 2) := by decide +kernel
theorem dX8_distance_31 : decode cX8_distance 31 = .ok (.ireturn, 1) := by decide +kernel
theorem dX8_voyage_0 : decode cX8_voyage 0 = .ok (.aload_n 0, 1) := by decide +kernel
theorem dX8_voyage_1 : decode cX8_voyage 1 = .ok (.iload_n 1, 1) := by decide +kernel
theorem dX8_voyage_2 : decode cX8_voyage 2 = .ok (.invokevirtual 91, 3) := by decide +kernel
theorem dX8_voyage_5 : decode cX8_voyage 5 = .ok (.ifCond .eq 20, 3) := by decide +kernel
theorem dX8_voyage_8 : decode cX8_voyage 8 = .ok (.aload_n 0, 1) := by decide +kernel
theorem dX8_voyage_9 : decode cX8_voyage 9 = .ok (.iload_n 2, 1) := by decide +kernel
theorem dX8_voyage_10 : decode cX8_voyage 10 = .ok (.invokevirtual 95, 3) := by decide +kernel
theorem dX8_voyage_13 : decode cX8_voyage 13 = .ok (.ifCond .eq 12, 3) := by decide +kernel
theorem dX8_voyage_16 : decode cX8_voyage 16 = .ok (.iload_n 3, 1) := by decide +kernel
theorem dX8_voyage_17 : decode cX8_voyage 17 = .ok (.iconst 0, 1) := by decide +kernel
theorem dX8_voyage_18 : decode cX8_voyage 18 = .ok (.iconst 4, 1) := by decide +kernel
theorem dX8_voyage_19 : decode cX8_voyage 19 = .ok (.invokestatic 29, 3) := by decide +kernel
theorem dX8_voyage_22 : decode cX8_voyage 22 = .ok (.ifCond .ne 6, 3) := by decide +kernel
theorem dX8_voyage_25 : decode cX8_voyage 25 = .ok (.ldc 24, 2) := by decide +kernel
theorem dX8_voyage_27 : decode cX8_voyage 27 = .ok (.ireturn, 1) := by decide +kernel
theorem dX8_voyage_28 : decode cX8_voyage 28 = .ok (.aload_n 0, 1) := by decide +kernel
theorem dX8_voyage_29 : decode cX8_voyage 29 = .ok (.iconst 0, 1) := by decide +kernel
theorem dX8_voyage_30 : decode cX8_voyage 30 = .ok (.iload_n 1, 1) := by decide +kernel
theorem dX8_voyage_31 : decode cX8_voyage 31 = .ok (.iload_n 2, 1) := by decide +kernel
theorem dX8_voyage_32 : decode cX8_voyage 32 = .ok (.invokevirtual 98, 3) := by decide +kernel
theorem dX8_voyage_35 : decode cX8_voyage 35 = .ok (.istore 4, 2) := by decide +kernel
theorem dX8_voyage_37 : decode cX8_voyage 37 = .ok (.iload_n 3, 1) := by decide +kernel
theorem dX8_voyage_38 : decode cX8_voyage 38 = .ok (.tableswitch 56 0 3 #[30, 33, 38, 48], 30) := by decide +kernel
theorem dX8_voyage_68 : decode cX8_voyage 68 = .ok (.iload 4, 2) := by decide +kernel
theorem dX8_voyage_70 : decode cX8_voyage 70 = .ok (.ireturn, 1) := by decide +kernel
theorem dX8_voyage_71 : decode cX8_voyage 71 = .ok (.aload_n 0, 1) := by decide +kernel
theorem dX8_voyage_72 : decode cX8_voyage 72 = .ok (.getfield 54, 3) := by decide +kernel
theorem dX8_voyage_75 : decode cX8_voyage 75 = .ok (.ireturn, 1) := by decide +kernel
theorem dX8_voyage_76 : decode cX8_voyage 76 = .ok (.aload_n 0, 1) := by decide +kernel
theorem dX8_voyage_77 : decode cX8_voyage 77 = .ok (.getfield 57, 3) := by decide +kernel
theorem dX8_voyage_80 : decode cX8_voyage 80 = .ok (.aload_n 0, 1) := by decide +kernel
theorem dX8_voyage_81 : decode cX8_voyage 81 = .ok (.getfield 66, 3) := by decide +kernel
theorem dX8_voyage_84 : decode cX8_voyage 84 = .ok (.isub, 1) := by decide +kernel
theorem dX8_voyage_85 : decode cX8_voyage 85 = .ok (.ireturn, 1) := by decide +kernel
theorem dX8_voyage_86 : decode cX8_voyage 86 = .ok (.aload_n 0, 1) := by decide +kernel
theorem dX8_voyage_87 : decode cX8_voyage 87 = .ok (.getfield 60, 3) := by decide +kernel
theorem dX8_voyage_90 : decode cX8_voyage 90 = .ok (.ldc 129, 2) := by decide +kernel
theorem dX8_voyage_92 : decode cX8_voyage 92 = .ok (.iadd, 1) := by decide +kernel
theorem dX8_voyage_93 : decode cX8_voyage 93 = .ok (.ireturn, 1) := by decide +kernel
theorem dX8_voyage_94 : decode cX8_voyage 94 = .ok (.aload_n 0, 1) := by decide +kernel
theorem dX8_voyage_95 : decode cX8_voyage 95 = .ok (.getfield 60, 3) := by decide +kernel
theorem dX8_voyage_98 : decode cX8_voyage 98 = .ok (.i2f, 1) := by decide +kernel
theorem dX8_voyage_99 : decode cX8_voyage 99 = .ok (.aload_n 0, 1) := by decide +kernel
theorem dX8_voyage_100 : decode cX8_voyage 100 = .ok (.getfield 57, 3) := by decide +kernel
theorem dX8_voyage_103 : decode cX8_voyage 103 = .ok (.aload_n 0, 1) := by decide +kernel
theorem dX8_voyage_104 : decode cX8_voyage 104 = .ok (.getfield 66, 3) := by decide +kernel
theorem dX8_voyage_107 : decode cX8_voyage 107 = .ok (.isub, 1) := by decide +kernel
theorem dX8_voyage_108 : decode cX8_voyage 108 = .ok (.i2f, 1) := by decide +kernel
theorem dX8_voyage_109 : decode cX8_voyage 109 = .ok (.fdiv, 1) := by decide +kernel
theorem dX8_voyage_110 : decode cX8_voyage 110 = .ok (.invokestatic 131, 3) := by decide +kernel
theorem dX8_voyage_113 : decode cX8_voyage 113 = .ok (.ireturn, 1) := by decide +kernel
theorem dX8_bestCargo_0 : decode cX8_bestCargo 0 = .ok (.aload_n 0, 1) := by decide +kernel
theorem dX8_bestCargo_1 : decode cX8_bestCargo 1 = .ok (.iload_n 1, 1) := by decide +kernel
theorem dX8_bestCargo_2 : decode cX8_bestCargo 2 = .ok (.invokevirtual 91, 3) := by decide +kernel
theorem dX8_bestCargo_5 : decode cX8_bestCargo 5 = .ok (.ifCond .ne 6, 3) := by decide +kernel
theorem dX8_bestCargo_8 : decode cX8_bestCargo 8 = .ok (.ldc 24, 2) := by decide +kernel
theorem dX8_bestCargo_10 : decode cX8_bestCargo 10 = .ok (.ireturn, 1) := by decide +kernel
theorem dX8_bestCargo_11 : decode cX8_bestCargo 11 = .ok (.ldc 130, 2) := by decide +kernel
theorem dX8_bestCargo_13 : decode cX8_bestCargo 13 = .ok (.istore_n 2, 1) := by decide +kernel
theorem dX8_bestCargo_14 : decode cX8_bestCargo 14 = .ok (.iconst 0, 1) := by decide +kernel
theorem dX8_bestCargo_15 : decode cX8_bestCargo 15 = .ok (.istore_n 3, 1) := by decide +kernel
theorem dX8_bestCargo_16 : decode cX8_bestCargo 16 = .ok (.iconst 0, 1) := by decide +kernel
theorem dX8_bestCargo_17 : decode cX8_bestCargo 17 = .ok (.istore 4, 2) := by decide +kernel
theorem dX8_bestCargo_19 : decode cX8_bestCargo 19 = .ok (.iload 4, 2) := by decide +kernel
theorem dX8_bestCargo_21 : decode cX8_bestCargo 21 = .ok (.aload_n 0, 1) := by decide +kernel
theorem dX8_bestCargo_22 : decode cX8_bestCargo 22 = .ok (.getfield 7, 3) := by decide +kernel
theorem dX8_bestCargo_25 : decode cX8_bestCargo 25 = .ok (.bipush 107, 2) := by decide +kernel
theorem dX8_bestCargo_27 : decode cX8_bestCargo 27 = .ok (.iaload, 1) := by decide +kernel
theorem dX8_bestCargo_28 : decode cX8_bestCargo 28 = .ok (.if_icmp .ge 68, 3) := by decide +kernel
theorem dX8_bestCargo_31 : decode cX8_bestCargo 31 = .ok (.aload_n 0, 1) := by decide +kernel
theorem dX8_bestCargo_32 : decode cX8_bestCargo 32 = .ok (.getfield 7, 3) := by decide +kernel
theorem dX8_bestCargo_35 : decode cX8_bestCargo 35 = .ok (.iconst 0, 1) := by decide +kernel
theorem dX8_bestCargo_36 : decode cX8_bestCargo 36 = .ok (.iload 4, 2) := by decide +kernel
theorem dX8_bestCargo_38 : decode cX8_bestCargo 38 = .ok (.bipush 6, 2) := by decide +kernel
theorem dX8_bestCargo_40 : decode cX8_bestCargo 40 = .ok (.invokestatic 44, 3) := by decide +kernel
theorem dX8_bestCargo_43 : decode cX8_bestCargo 43 = .ok (.iaload, 1) := by decide +kernel
theorem dX8_bestCargo_44 : decode cX8_bestCargo 44 = .ok (.ifCond .ne 18, 3) := by decide +kernel
theorem dX8_bestCargo_47 : decode cX8_bestCargo 47 = .ok (.aload_n 0, 1) := by decide +kernel
theorem dX8_bestCargo_48 : decode cX8_bestCargo 48 = .ok (.iconst 0, 1) := by decide +kernel
theorem dX8_bestCargo_49 : decode cX8_bestCargo 49 = .ok (.iload_n 1, 1) := by decide +kernel
theorem dX8_bestCargo_50 : decode cX8_bestCargo 50 = .ok (.iload 4, 2) := by decide +kernel
theorem dX8_bestCargo_52 : decode cX8_bestCargo 52 = .ok (.invokevirtual 98, 3) := by decide +kernel
theorem dX8_bestCargo_55 : decode cX8_bestCargo 55 = .ok (.ifCond .ne 7, 3) := by decide +kernel
theorem dX8_bestCargo_58 : decode cX8_bestCargo 58 = .ok (.iconst 1, 1) := by decide +kernel
theorem dX8_bestCargo_59 : decode cX8_bestCargo 59 = .ok (.goto 4, 3) := by decide +kernel
theorem dX8_bestCargo_62 : decode cX8_bestCargo 62 = .ok (.iconst 0, 1) := by decide +kernel
theorem dX8_bestCargo_63 : decode cX8_bestCargo 63 = .ok (.istore 5, 2) := by decide +kernel
theorem dX8_bestCargo_65 : decode cX8_bestCargo 65 = .ok (.iload 5, 2) := by decide +kernel
theorem dX8_bestCargo_67 : decode cX8_bestCargo 67 = .ok (.ifCond .eq 23, 3) := by decide +kernel
theorem dX8_bestCargo_70 : decode cX8_bestCargo 70 = .ok (.iload_n 2, 1) := by decide +kernel
theorem dX8_bestCargo_71 : decode cX8_bestCargo 71 = .ok (.ifCond .lt 11, 3) := by decide +kernel
theorem dX8_bestCargo_74 : decode cX8_bestCargo 74 = .ok (.aload_n 0, 1) := by decide +kernel
theorem dX8_bestCargo_75 : decode cX8_bestCargo 75 = .ok (.getfield 60, 3) := by decide +kernel
theorem dX8_bestCargo_78 : decode cX8_bestCargo 78 = .ok (.iload_n 3, 1) := by decide +kernel
theorem dX8_bestCargo_79 : decode cX8_bestCargo 79 = .ok (.if_icmp .le 11, 3) := by decide +kernel
theorem dX8_bestCargo_82 : decode cX8_bestCargo 82 = .ok (.iload 4, 2) := by decide +kernel
theorem dX8_bestCargo_84 : decode cX8_bestCargo 84 = .ok (.istore_n 2, 1) := by decide +kernel
theorem dX8_bestCargo_85 : decode cX8_bestCargo 85 = .ok (.aload_n 0, 1) := by decide +kernel
theorem dX8_bestCargo_86 : decode cX8_bestCargo 86 = .ok (.getfield 60, 3) := by decide +kernel
theorem dX8_bestCargo_89 : decode cX8_bestCargo 89 = .ok (.istore_n 3, 1) := by decide +kernel
theorem dX8_bestCargo_90 : decode cX8_bestCargo 90 = .ok (.iinc 4 1, 3) := by decide +kernel
theorem dX8_bestCargo_93 : decode cX8_bestCargo 93 = .ok (.goto (-74), 3) := by decide +kernel
theorem dX8_bestCargo_96 : decode cX8_bestCargo 96 = .ok (.iload_n 2, 1) := by decide +kernel
theorem dX8_bestCargo_97 : decode cX8_bestCargo 97 = .ok (.ireturn, 1) := by decide +kernel
theorem dX8_bestShip_0 : decode cX8_bestShip 0 = .ok (.aload_n 0, 1) := by decide +kernel
theorem dX8_bestShip_1 : decode cX8_bestShip 1 = .ok (.iload_n 1, 1) := by decide +kernel
theorem dX8_bestShip_2 : decode cX8_bestShip 2 = .ok (.invokevirtual 95, 3) := by decide +kernel
theorem dX8_bestShip_5 : decode cX8_bestShip 5 = .ok (.ifCond .ne 6, 3) := by decide +kernel
theorem dX8_bestShip_8 : decode cX8_bestShip 8 = .ok (.ldc 24, 2) := by decide +kernel
theorem dX8_bestShip_10 : decode cX8_bestShip 10 = .ok (.ireturn, 1) := by decide +kernel
theorem dX8_bestShip_11 : decode cX8_bestShip 11 = .ok (.aload_n 0, 1) := by decide +kernel
theorem dX8_bestShip_12 : decode cX8_bestShip 12 = .ok (.getfield 7, 3) := by decide +kernel
theorem dX8_bestShip_15 : decode cX8_bestShip 15 = .ok (.iconst 0, 1) := by decide +kernel
theorem dX8_bestShip_16 : decode cX8_bestShip 16 = .ok (.iload_n 1, 1) := by decide +kernel
theorem dX8_bestShip_17 : decode cX8_bestShip 17 = .ok (.bipush 6, 2) := by decide +kernel
theorem dX8_bestShip_19 : decode cX8_bestShip 19 = .ok (.invokestatic 44, 3) := by decide +kernel
theorem dX8_bestShip_22 : decode cX8_bestShip 22 = .ok (.iaload, 1) := by decide +kernel
theorem dX8_bestShip_23 : decode cX8_bestShip 23 = .ok (.ifCond .eq 6, 3) := by decide +kernel
theorem dX8_bestShip_26 : decode cX8_bestShip 26 = .ok (.ldc 101, 2) := by decide +kernel
theorem dX8_bestShip_28 : decode cX8_bestShip 28 = .ok (.ireturn, 1) := by decide +kernel
theorem dX8_bestShip_29 : decode cX8_bestShip 29 = .ok (.ldc 130, 2) := by decide +kernel
theorem dX8_bestShip_31 : decode cX8_bestShip 31 = .ok (.istore_n 2, 1) := by decide +kernel
theorem dX8_bestShip_32 : decode cX8_bestShip 32 = .ok (.iconst 0, 1) := by decide +kernel
theorem dX8_bestShip_33 : decode cX8_bestShip 33 = .ok (.istore_n 3, 1) := by decide +kernel
theorem dX8_bestShip_34 : decode cX8_bestShip 34 = .ok (.iconst 0, 1) := by decide +kernel
theorem dX8_bestShip_35 : decode cX8_bestShip 35 = .ok (.istore 4, 2) := by decide +kernel
theorem dX8_bestShip_37 : decode cX8_bestShip 37 = .ok (.iload 4, 2) := by decide +kernel
theorem dX8_bestShip_39 : decode cX8_bestShip 39 = .ok (.aload_n 0, 1) := by decide +kernel
theorem dX8_bestShip_40 : decode cX8_bestShip 40 = .ok (.getfield 7, 3) := by decide +kernel
theorem dX8_bestShip_43 : decode cX8_bestShip 43 = .ok (.bipush 16, 2) := by decide +kernel
theorem dX8_bestShip_45 : decode cX8_bestShip 45 = .ok (.iaload, 1) := by decide +kernel
theorem dX8_bestShip_46 : decode cX8_bestShip 46 = .ok (.if_icmp .ge 40, 3) := by decide +kernel
theorem dX8_bestShip_49 : decode cX8_bestShip 49 = .ok (.aload_n 0, 1) := by decide +kernel
theorem dX8_bestShip_50 : decode cX8_bestShip 50 = .ok (.iconst 0, 1) := by decide +kernel
theorem dX8_bestShip_51 : decode cX8_bestShip 51 = .ok (.iload 4, 2) := by decide +kernel
theorem dX8_bestShip_53 : decode cX8_bestShip 53 = .ok (.iload_n 1, 1) := by decide +kernel
theorem dX8_bestShip_54 : decode cX8_bestShip 54 = .ok (.invokevirtual 98, 3) := by decide +kernel
theorem dX8_bestShip_57 : decode cX8_bestShip 57 = .ok (.ifCond .ne 23, 3) := by decide +kernel
theorem dX8_bestShip_60 : decode cX8_bestShip 60 = .ok (.iload_n 2, 1) := by decide +kernel
theorem dX8_bestShip_61 : decode cX8_bestShip 61 = .ok (.ifCond .lt 11, 3) := by decide +kernel
theorem dX8_bestShip_64 : decode cX8_bestShip 64 = .ok (.aload_n 0, 1) := by decide +kernel
theorem dX8_bestShip_65 : decode cX8_bestShip 65 = .ok (.getfield 60, 3) := by decide +kernel
theorem dX8_bestShip_68 : decode cX8_bestShip 68 = .ok (.iload_n 3, 1) := by decide +kernel
theorem dX8_bestShip_69 : decode cX8_bestShip 69 = .ok (.if_icmp .le 11, 3) := by decide +kernel
theorem dX8_bestShip_72 : decode cX8_bestShip 72 = .ok (.iload 4, 2) := by decide +kernel
theorem dX8_bestShip_74 : decode cX8_bestShip 74 = .ok (.istore_n 2, 1) := by decide +kernel
theorem dX8_bestShip_75 : decode cX8_bestShip 75 = .ok (.aload_n 0, 1) := by decide +kernel
theorem dX8_bestShip_76 : decode cX8_bestShip 76 = .ok (.getfield 60, 3) := by decide +kernel
theorem dX8_bestShip_79 : decode cX8_bestShip 79 = .ok (.istore_n 3, 1) := by decide +kernel
theorem dX8_bestShip_80 : decode cX8_bestShip 80 = .ok (.iinc 4 1, 3) := by decide +kernel
theorem dX8_bestShip_83 : decode cX8_bestShip 83 = .ok (.goto (-46), 3) := by decide +kernel
theorem dX8_bestShip_86 : decode cX8_bestShip 86 = .ok (.iload_n 2, 1) := by decide +kernel
theorem dX8_bestShip_87 : decode cX8_bestShip 87 = .ok (.ireturn, 1) := by decide +kernel
theorem dX8_plan_0 : decode cX8_plan 0 = .ok (.iload_n 1, 1) := by decide +kernel
theorem dX8_plan_1 : decode cX8_plan 1 = .ok (.iconst 0, 1) := by decide +kernel
theorem dX8_plan_2 : decode cX8_plan 2 = .ok (.iconst 3, 1) := by decide +kernel
theorem dX8_plan_3 : decode cX8_plan 3 = .ok (.invokestatic 29, 3) := by decide +kernel
theorem dX8_plan_6 : decode cX8_plan 6 = .ok (.ifCond .ne 6, 3) := by decide +kernel
theorem dX8_plan_9 : decode cX8_plan 9 = .ok (.ldc 24, 2) := by decide +kernel
theorem dX8_plan_11 : decode cX8_plan 11 = .ok (.ireturn, 1) := by decide +kernel
theorem dX8_plan_12 : decode cX8_plan 12 = .ok (.aload_n 0, 1) := by decide +kernel
theorem dX8_plan_13 : decode cX8_plan 13 = .ok (.iconst 0, 1) := by decide +kernel
theorem dX8_plan_14 : decode cX8_plan 14 = .ok (.iconst 5, 1) := by decide +kernel
theorem dX8_plan_15 : decode cX8_plan 15 = .ok (.invokevirtual 20, 3) := by decide +kernel
theorem dX8_plan_18 : decode cX8_plan 18 = .ok (.iconst 0, 1) := by decide +kernel
theorem dX8_plan_19 : decode cX8_plan 19 = .ok (.istore_n 2, 1) := by decide +kernel
theorem dX8_plan_20 : decode cX8_plan 20 = .ok (.iconst 0, 1) := by decide +kernel
theorem dX8_plan_21 : decode cX8_plan 21 = .ok (.istore_n 3, 1) := by decide +kernel
theorem dX8_plan_22 : decode cX8_plan 22 = .ok (.lconst 0, 1) := by decide +kernel
theorem dX8_plan_23 : decode cX8_plan 23 = .ok (.lstore 4, 2) := by decide +kernel
theorem dX8_plan_25 : decode cX8_plan 25 = .ok (.iconst 1, 1) := by decide +kernel
theorem dX8_plan_26 : decode cX8_plan 26 = .ok (.istore 6, 2) := by decide +kernel
theorem dX8_plan_28 : decode cX8_plan 28 = .ok (.iload 6, 2) := by decide +kernel
theorem dX8_plan_30 : decode cX8_plan 30 = .ok (.ifCond .eq 177, 3) := by decide +kernel
theorem dX8_plan_33 : decode cX8_plan 33 = .ok (.iconst (-1), 1) := by decide +kernel
theorem dX8_plan_34 : decode cX8_plan 34 = .ok (.istore 7, 2) := by decide +kernel
theorem dX8_plan_36 : decode cX8_plan 36 = .ok (.iconst (-1), 1) := by decide +kernel
theorem dX8_plan_37 : decode cX8_plan 37 = .ok (.istore 8, 2) := by decide +kernel
theorem dX8_plan_39 : decode cX8_plan 39 = .ok (.iconst 0, 1) := by decide +kernel
theorem dX8_plan_40 : decode cX8_plan 40 = .ok (.istore 9, 2) := by decide +kernel
theorem dX8_plan_42 : decode cX8_plan 42 = .ok (.iconst 0, 1) := by decide +kernel
theorem dX8_plan_43 : decode cX8_plan 43 = .ok (.istore 10, 2) := by decide +kernel
theorem dX8_plan_45 : decode cX8_plan 45 = .ok (.iload 10, 2) := by decide +kernel
theorem dX8_plan_47 : decode cX8_plan 47 = .ok (.aload_n 0, 1) := by decide +kernel
theorem dX8_plan_48 : decode cX8_plan 48 = .ok (.getfield 7, 3) := by decide +kernel
theorem dX8_plan_51 : decode cX8_plan 51 = .ok (.bipush 16, 2) := by decide +kernel
theorem dX8_plan_53 : decode cX8_plan 53 = .ok (.iaload, 1) := by decide +kernel
theorem dX8_plan_54 : decode cX8_plan 54 = .ok (.if_icmp .ge 81, 3) := by decide +kernel
theorem dX8_plan_57 : decode cX8_plan 57 = .ok (.iconst 0, 1) := by decide +kernel
theorem dX8_plan_58 : decode cX8_plan 58 = .ok (.istore 11, 2) := by decide +kernel
theorem dX8_plan_60 : decode cX8_plan 60 = .ok (.iload 11, 2) := by decide +kernel
theorem dX8_plan_62 : decode cX8_plan 62 = .ok (.aload_n 0, 1) := by decide +kernel
theorem dX8_plan_63 : decode cX8_plan 63 = .ok (.getfield 7, 3) := by decide +kernel
theorem dX8_plan_66 : decode cX8_plan 66 = .ok (.bipush 107, 2) := by decide +kernel
theorem dX8_plan_68 : decode cX8_plan 68 = .ok (.iaload, 1) := by decide +kernel
theorem dX8_plan_69 : decode cX8_plan 69 = .ok (.if_icmp .ge 60, 3) := by decide +kernel
theorem dX8_plan_72 : decode cX8_plan 72 = .ok (.aload_n 0, 1) := by decide +kernel
theorem dX8_plan_73 : decode cX8_plan 73 = .ok (.getfield 7, 3) := by decide +kernel
theorem dX8_plan_76 : decode cX8_plan 76 = .ok (.iconst 5, 1) := by decide +kernel
theorem dX8_plan_77 : decode cX8_plan 77 = .ok (.iload 11, 2) := by decide +kernel
theorem dX8_plan_79 : decode cX8_plan 79 = .ok (.bipush 6, 2) := by decide +kernel
theorem dX8_plan_81 : decode cX8_plan 81 = .ok (.invokestatic 44, 3) := by decide +kernel
theorem dX8_plan_84 : decode cX8_plan 84 = .ok (.iaload, 1) := by decide +kernel
theorem dX8_plan_85 : decode cX8_plan 85 = .ok (.ifCond .ne 38, 3) := by decide +kernel
theorem dX8_plan_88 : decode cX8_plan 88 = .ok (.aload_n 0, 1) := by decide +kernel
theorem dX8_plan_89 : decode cX8_plan 89 = .ok (.iconst 5, 1) := by decide +kernel
theorem dX8_plan_90 : decode cX8_plan 90 = .ok (.iload 10, 2) := by decide +kernel
theorem dX8_plan_92 : decode cX8_plan 92 = .ok (.iload 11, 2) := by decide +kernel
theorem dX8_plan_94 : decode cX8_plan 94 = .ok (.invokevirtual 98, 3) := by decide +kernel
theorem dX8_plan_97 : decode cX8_plan 97 = .ok (.ifCond .ne 26, 3) := by decide +kernel
theorem dX8_plan_100 : decode cX8_plan 100 = .ok (.aload_n 0, 1) := by decide +kernel
theorem dX8_plan_101 : decode cX8_plan 101 = .ok (.getfield 60, 3) := by decide +kernel
theorem dX8_plan_104 : decode cX8_plan 104 = .ok (.iload 9, 2) := by decide +kernel
theorem dX8_plan_106 : decode cX8_plan 106 = .ok (.if_icmp .le 17, 3) := by decide +kernel
theorem dX8_plan_109 : decode cX8_plan 109 = .ok (.iload 10, 2) := by decide +kernel
theorem dX8_plan_111 : decode cX8_plan 111 = .ok (.istore 7, 2) := by decide +kernel
theorem dX8_plan_113 : decode cX8_plan 113 = .ok (.iload 11, 2) := by decide +kernel
theorem dX8_plan_115 : decode cX8_plan 115 = .ok (.istore 8, 2) := by decide +kernel
theorem dX8_plan_117 : decode cX8_plan 117 = .ok (.aload_n 0, 1) := by decide +kernel
theorem dX8_plan_118 : decode cX8_plan 118 = .ok (.getfield 60, 3) := by decide +kernel
theorem dX8_plan_121 : decode cX8_plan 121 = .ok (.istore 9, 2) := by decide +kernel
theorem dX8_plan_123 : decode cX8_plan 123 = .ok (.iinc 11 1, 3) := by decide +kernel
theorem dX8_plan_126 : decode cX8_plan 126 = .ok (.goto (-66), 3) := by decide +kernel
theorem dX8_plan_129 : decode cX8_plan 129 = .ok (.iinc 10 1, 3) := by decide +kernel
theorem dX8_plan_132 : decode cX8_plan 132 = .ok (.goto (-87), 3) := by decide +kernel
theorem dX8_plan_135 : decode cX8_plan 135 = .ok (.iload 7, 2) := by decide +kernel
theorem dX8_plan_137 : decode cX8_plan 137 = .ok (.ifCond .lt 7, 3) := by decide +kernel
theorem dX8_plan_140 : decode cX8_plan 140 = .ok (.iconst 1, 1) := by decide +kernel
theorem dX8_plan_141 : decode cX8_plan 141 = .ok (.goto 4, 3) := by decide +kernel
theorem dX8_plan_144 : decode cX8_plan 144 = .ok (.iconst 0, 1) := by decide +kernel
theorem dX8_plan_145 : decode cX8_plan 145 = .ok (.istore 6, 2) := by decide +kernel
theorem dX8_plan_147 : decode cX8_plan 147 = .ok (.iload 6, 2) := by decide +kernel
theorem dX8_plan_149 : decode cX8_plan 149 = .ok (.ifCond .eq 55, 3) := by decide +kernel
theorem dX8_plan_152 : decode cX8_plan 152 = .ok (.aload_n 0, 1) := by decide +kernel
theorem dX8_plan_153 : decode cX8_plan 153 = .ok (.iconst 5, 1) := by decide +kernel
theorem dX8_plan_154 : decode cX8_plan 154 = .ok (.iload 7, 2) := by decide +kernel
theorem dX8_plan_156 : decode cX8_plan 156 = .ok (.iload 8, 2) := by decide +kernel
theorem dX8_plan_158 : decode cX8_plan 158 = .ok (.invokevirtual 102, 3) := by decide +kernel
theorem dX8_plan_161 : decode cX8_plan 161 = .ok (.iinc 2 1, 3) := by decide +kernel
theorem dX8_plan_164 : decode cX8_plan 164 = .ok (.iload_n 3, 1) := by decide +kernel
theorem dX8_plan_165 : decode cX8_plan 165 = .ok (.iload 9, 2) := by decide +kernel
theorem dX8_plan_167 : decode cX8_plan 167 = .ok (.iadd, 1) := by decide +kernel
theorem dX8_plan_168 : decode cX8_plan 168 = .ok (.istore_n 3, 1) := by decide +kernel
theorem dX8_plan_169 : decode cX8_plan 169 = .ok (.lload 4, 2) := by decide +kernel
theorem dX8_plan_171 : decode cX8_plan 171 = .ok (.lconst 1, 1) := by decide +kernel
theorem dX8_plan_172 : decode cX8_plan 172 = .ok (.bipush 8, 2) := by decide +kernel
theorem dX8_plan_174 : decode cX8_plan 174 = .ok (.aload_n 0, 1) := by decide +kernel
theorem dX8_plan_175 : decode cX8_plan 175 = .ok (.getfield 7, 3) := by decide +kernel
theorem dX8_plan_178 : decode cX8_plan 178 = .ok (.iconst 0, 1) := by decide +kernel
theorem dX8_plan_179 : decode cX8_plan 179 = .ok (.iload 8, 2) := by decide +kernel
theorem dX8_plan_181 : decode cX8_plan 181 = .ok (.iconst 1, 1) := by decide +kernel
theorem dX8_plan_182 : decode cX8_plan 182 = .ok (.invokestatic 44, 3) := by decide +kernel
theorem dX8_plan_185 : decode cX8_plan 185 = .ok (.iaload, 1) := by decide +kernel
theorem dX8_plan_186 : decode cX8_plan 186 = .ok (.imul, 1) := by decide +kernel
theorem dX8_plan_187 : decode cX8_plan 187 = .ok (.aload_n 0, 1) := by decide +kernel
theorem dX8_plan_188 : decode cX8_plan 188 = .ok (.getfield 7, 3) := by decide +kernel
theorem dX8_plan_191 : decode cX8_plan 191 = .ok (.iconst 0, 1) := by decide +kernel
theorem dX8_plan_192 : decode cX8_plan 192 = .ok (.iload 8, 2) := by decide +kernel
theorem dX8_plan_194 : decode cX8_plan 194 = .ok (.iconst 2, 1) := by decide +kernel
theorem dX8_plan_195 : decode cX8_plan 195 = .ok (.invokestatic 44, 3) := by decide +kernel
theorem dX8_plan_198 : decode cX8_plan 198 = .ok (.iaload, 1) := by decide +kernel
theorem dX8_plan_199 : decode cX8_plan 199 = .ok (.iadd, 1) := by decide +kernel
theorem dX8_plan_200 : decode cX8_plan 200 = .ok (.lshl, 1) := by decide +kernel
theorem dX8_plan_201 : decode cX8_plan 201 = .ok (.lor, 1) := by decide +kernel
theorem dX8_plan_202 : decode cX8_plan 202 = .ok (.lstore 4, 2) := by decide +kernel
theorem dX8_plan_204 : decode cX8_plan 204 = .ok (.goto (-176), 3) := by decide +kernel
theorem dX8_plan_207 : decode cX8_plan 207 = .ok (.iconst 0, 1) := by decide +kernel
theorem dX8_plan_208 : decode cX8_plan 208 = .ok (.istore 7, 2) := by decide +kernel
theorem dX8_plan_210 : decode cX8_plan 210 = .ok (.iconst 0, 1) := by decide +kernel
theorem dX8_plan_211 : decode cX8_plan 211 = .ok (.istore 8, 2) := by decide +kernel
theorem dX8_plan_213 : decode cX8_plan 213 = .ok (.iload 8, 2) := by decide +kernel
theorem dX8_plan_215 : decode cX8_plan 215 = .ok (.aload_n 0, 1) := by decide +kernel
theorem dX8_plan_216 : decode cX8_plan 216 = .ok (.getfield 7, 3) := by decide +kernel
theorem dX8_plan_219 : decode cX8_plan 219 = .ok (.bipush 107, 2) := by decide +kernel
theorem dX8_plan_221 : decode cX8_plan 221 = .ok (.iaload, 1) := by decide +kernel
theorem dX8_plan_222 : decode cX8_plan 222 = .ok (.if_icmp .ge 38, 3) := by decide +kernel
theorem dX8_plan_225 : decode cX8_plan 225 = .ok (.iload 7, 2) := by decide +kernel
theorem dX8_plan_227 : decode cX8_plan 227 = .ok (.aload_n 0, 1) := by decide +kernel
theorem dX8_plan_228 : decode cX8_plan 228 = .ok (.getfield 7, 3) := by decide +kernel
theorem dX8_plan_231 : decode cX8_plan 231 = .ok (.iconst 5, 1) := by decide +kernel
theorem dX8_plan_232 : decode cX8_plan 232 = .ok (.iload 8, 2) := by decide +kernel
theorem dX8_plan_234 : decode cX8_plan 234 = .ok (.bipush 6, 2) := by decide +kernel
theorem dX8_plan_236 : decode cX8_plan 236 = .ok (.invokestatic 44, 3) := by decide +kernel
theorem dX8_plan_239 : decode cX8_plan 239 = .ok (.iaload, 1) := by decide +kernel
theorem dX8_plan_240 : decode cX8_plan 240 = .ok (.ifCond .ne 10, 3) := by decide +kernel
theorem dX8_plan_243 : decode cX8_plan 243 = .ok (.iconst 1, 1) := by decide +kernel
theorem dX8_plan_244 : decode cX8_plan 244 = .ok (.iload 8, 2) := by decide +kernel
theorem dX8_plan_246 : decode cX8_plan 246 = .ok (.ishl, 1) := by decide +kernel
theorem dX8_plan_247 : decode cX8_plan 247 = .ok (.goto 4, 3) := by decide +kernel
theorem dX8_plan_250 : decode cX8_plan 250 = .ok (.iconst 0, 1) := by decide +kernel
theorem dX8_plan_251 : decode cX8_plan 251 = .ok (.ior, 1) := by decide +kernel
theorem dX8_plan_252 : decode cX8_plan 252 = .ok (.istore 7, 2) := by decide +kernel
theorem dX8_plan_254 : decode cX8_plan 254 = .ok (.iinc 8 1, 3) := by decide +kernel
theorem dX8_plan_257 : decode cX8_plan 257 = .ok (.goto (-44), 3) := by decide +kernel
theorem dX8_plan_260 : decode cX8_plan 260 = .ok (.iconst 0, 1) := by decide +kernel
theorem dX8_plan_261 : decode cX8_plan 261 = .ok (.istore 8, 2) := by decide +kernel
theorem dX8_plan_263 : decode cX8_plan 263 = .ok (.iconst 0, 1) := by decide +kernel
theorem dX8_plan_264 : decode cX8_plan 264 = .ok (.istore 9, 2) := by decide +kernel
theorem dX8_plan_266 : decode cX8_plan 266 = .ok (.iload 9, 2) := by decide +kernel
theorem dX8_plan_268 : decode cX8_plan 268 = .ok (.bipush 64, 2) := by decide +kernel
theorem dX8_plan_270 : decode cX8_plan 270 = .ok (.if_icmp .ge 22, 3) := by decide +kernel
theorem dX8_plan_273 : decode cX8_plan 273 = .ok (.iload 8, 2) := by decide +kernel
theorem dX8_plan_275 : decode cX8_plan 275 = .ok (.lload 4, 2) := by decide +kernel
theorem dX8_plan_277 : decode cX8_plan 277 = .ok (.iload 9, 2) := by decide +kernel
theorem dX8_plan_279 : decode cX8_plan 279 = .ok (.lshr, 1) := by decide +kernel
theorem dX8_plan_280 : decode cX8_plan 280 = .ok (.lconst 1, 1) := by decide +kernel
theorem dX8_plan_281 : decode cX8_plan 281 = .ok (.land, 1) := by decide +kernel
theorem dX8_plan_282 : decode cX8_plan 282 = .ok (.l2i, 1) := by decide +kernel
theorem dX8_plan_283 : decode cX8_plan 283 = .ok (.iadd, 1) := by decide +kernel
theorem dX8_plan_284 : decode cX8_plan 284 = .ok (.istore 8, 2) := by decide +kernel
theorem dX8_plan_286 : decode cX8_plan 286 = .ok (.iinc 9 1, 3) := by decide +kernel
theorem dX8_plan_289 : decode cX8_plan 289 = .ok (.goto (-23), 3) := by decide +kernel
theorem dX8_plan_292 : decode cX8_plan 292 = .ok (.iload_n 1, 1) := by decide +kernel
theorem dX8_plan_293 : decode cX8_plan 293 = .ok (.ifCond .ne 7, 3) := by decide +kernel
theorem dX8_plan_296 : decode cX8_plan 296 = .ok (.iload_n 2, 1) := by decide +kernel
theorem dX8_plan_297 : decode cX8_plan 297 = .ok (.goto 24, 3) := by decide +kernel
theorem dX8_plan_300 : decode cX8_plan 300 = .ok (.iload_n 1, 1) := by decide +kernel
theorem dX8_plan_301 : decode cX8_plan 301 = .ok (.iconst 1, 1) := by decide +kernel
theorem dX8_plan_302 : decode cX8_plan 302 = .ok (.if_icmp .ne 7, 3) := by decide +kernel
theorem dX8_plan_305 : decode cX8_plan 305 = .ok (.iload_n 3, 1) := by decide +kernel
theorem dX8_plan_306 : decode cX8_plan 306 = .ok (.goto 15, 3) := by decide +kernel
theorem dX8_plan_309 : decode cX8_plan 309 = .ok (.iload_n 1, 1) := by decide +kernel
theorem dX8_plan_310 : decode cX8_plan 310 = .ok (.iconst 2, 1) := by decide +kernel
theorem dX8_plan_311 : decode cX8_plan 311 = .ok (.if_icmp .ne 8, 3) := by decide +kernel
theorem dX8_plan_314 : decode cX8_plan 314 = .ok (.iload 7, 2) := by decide +kernel
theorem dX8_plan_316 : decode cX8_plan 316 = .ok (.goto 5, 3) := by decide +kernel
theorem dX8_plan_319 : decode cX8_plan 319 = .ok (.iload 8, 2) := by decide +kernel
theorem dX8_plan_321 : decode cX8_plan 321 = .ok (.ireturn, 1) := by decide +kernel
theorem dX8_slack_0 : decode cX8_slack 0 = .ok (.aload_n 0, 1) := by decide +kernel
theorem dX8_slack_1 : decode cX8_slack 1 = .ok (.iload_n 1, 1) := by decide +kernel
theorem dX8_slack_2 : decode cX8_slack 2 = .ok (.invokevirtual 91, 3) := by decide +kernel
theorem dX8_slack_5 : decode cX8_slack 5 = .ok (.ifCond .ne 6, 3) := by decide +kernel
theorem dX8_slack_8 : decode cX8_slack 8 = .ok (.ldc 24, 2) := by decide +kernel
theorem dX8_slack_10 : decode cX8_slack 10 = .ok (.ireturn, 1) := by decide +kernel
theorem dX8_slack_11 : decode cX8_slack 11 = .ok (.aload_n 0, 1) := by decide +kernel
theorem dX8_slack_12 : decode cX8_slack 12 = .ok (.getfield 7, 3) := by decide +kernel
theorem dX8_slack_15 : decode cX8_slack 15 = .ok (.iconst 0, 1) := by decide +kernel
theorem dX8_slack_16 : decode cX8_slack 16 = .ok (.iload_n 1, 1) := by decide +kernel
theorem dX8_slack_17 : decode cX8_slack 17 = .ok (.bipush 6, 2) := by decide +kernel
theorem dX8_slack_19 : decode cX8_slack 19 = .ok (.invokestatic 37, 3) := by decide +kernel
theorem dX8_slack_22 : decode cX8_slack 22 = .ok (.iaload, 1) := by decide +kernel
theorem dX8_slack_23 : decode cX8_slack 23 = .ok (.istore_n 2, 1) := by decide +kernel
theorem dX8_slack_24 : decode cX8_slack 24 = .ok (.iload_n 2, 1) := by decide +kernel
theorem dX8_slack_25 : decode cX8_slack 25 = .ok (.ifCond .ne 6, 3) := by decide +kernel
theorem dX8_slack_28 : decode cX8_slack 28 = .ok (.ldc 130, 2) := by decide +kernel
theorem dX8_slack_30 : decode cX8_slack 30 = .ok (.ireturn, 1) := by decide +kernel
theorem dX8_slack_31 : decode cX8_slack 31 = .ok (.aload_n 0, 1) := by decide +kernel
theorem dX8_slack_32 : decode cX8_slack 32 = .ok (.iconst 0, 1) := by decide +kernel
theorem dX8_slack_33 : decode cX8_slack 33 = .ok (.iconst 5, 1) := by decide +kernel
theorem dX8_slack_34 : decode cX8_slack 34 = .ok (.invokevirtual 20, 3) := by decide +kernel
theorem dX8_slack_37 : decode cX8_slack 37 = .ok (.iconst 0, 1) := by decide +kernel
theorem dX8_slack_38 : decode cX8_slack 38 = .ok (.istore_n 3, 1) := by decide +kernel
theorem dX8_slack_39 : decode cX8_slack 39 = .ok (.iconst 1, 1) := by decide +kernel
theorem dX8_slack_40 : decode cX8_slack 40 = .ok (.istore 4, 2) := by decide +kernel
theorem dX8_slack_42 : decode cX8_slack 42 = .ok (.iload 4, 2) := by decide +kernel
theorem dX8_slack_44 : decode cX8_slack 44 = .ok (.ifCond .eq 62, 3) := by decide +kernel
theorem dX8_slack_47 : decode cX8_slack 47 = .ok (.iload_n 3, 1) := by decide +kernel
theorem dX8_slack_48 : decode cX8_slack 48 = .ok (.sipush 999, 3) := by decide +kernel
theorem dX8_slack_51 : decode cX8_slack 51 = .ok (.if_icmp .ge 55, 3) := by decide +kernel
theorem dX8_slack_54 : decode cX8_slack 54 = .ok (.aload_n 0, 1) := by decide +kernel
theorem dX8_slack_55 : decode cX8_slack 55 = .ok (.getfield 7, 3) := by decide +kernel
theorem dX8_slack_58 : decode cX8_slack 58 = .ok (.iconst 5, 1) := by decide +kernel
theorem dX8_slack_59 : decode cX8_slack 59 = .ok (.iload_n 1, 1) := by decide +kernel
theorem dX8_slack_60 : decode cX8_slack 60 = .ok (.iconst 4, 1) := by decide +kernel
theorem dX8_slack_61 : decode cX8_slack 61 = .ok (.invokestatic 37, 3) := by decide +kernel
theorem dX8_slack_64 : decode cX8_slack 64 = .ok (.dup2, 1) := by decide +kernel
theorem dX8_slack_65 : decode cX8_slack 65 = .ok (.iaload, 1) := by decide +kernel
theorem dX8_slack_66 : decode cX8_slack 66 = .ok (.iconst 1, 1) := by decide +kernel
theorem dX8_slack_67 : decode cX8_slack 67 = .ok (.iadd, 1) := by decide +kernel
theorem dX8_slack_68 : decode cX8_slack 68 = .ok (.iastore, 1) := by decide +kernel
theorem dX8_slack_69 : decode cX8_slack 69 = .ok (.aload_n 0, 1) := by decide +kernel
theorem dX8_slack_70 : decode cX8_slack 70 = .ok (.iconst 5, 1) := by decide +kernel
theorem dX8_slack_71 : decode cX8_slack 71 = .ok (.iload_n 1, 1) := by decide +kernel
theorem dX8_slack_72 : decode cX8_slack 72 = .ok (.invokevirtual 87, 3) := by decide +kernel
theorem dX8_slack_75 : decode cX8_slack 75 = .ok (.aload_n 0, 1) := by decide +kernel
theorem dX8_slack_76 : decode cX8_slack 76 = .ok (.getfield 72, 3) := by decide +kernel
theorem dX8_slack_79 : decode cX8_slack 79 = .ok (.iload_n 2, 1) := by decide +kernel
theorem dX8_slack_80 : decode cX8_slack 80 = .ok (.if_icmp .ne 7, 3) := by decide +kernel
theorem dX8_slack_83 : decode cX8_slack 83 = .ok (.iconst 1, 1) := by decide +kernel
theorem dX8_slack_84 : decode cX8_slack 84 = .ok (.goto 4, 3) := by decide +kernel
theorem dX8_slack_87 : decode cX8_slack 87 = .ok (.iconst 0, 1) := by decide +kernel
theorem dX8_slack_88 : decode cX8_slack 88 = .ok (.istore 4, 2) := by decide +kernel
theorem dX8_slack_90 : decode cX8_slack 90 = .ok (.iload_n 3, 1) := by decide +kernel
theorem dX8_slack_91 : decode cX8_slack 91 = .ok (.iload 4, 2) := by decide +kernel
theorem dX8_slack_93 : decode cX8_slack 93 = .ok (.ifCond .eq 7, 3) := by decide +kernel
theorem dX8_slack_96 : decode cX8_slack 96 = .ok (.iconst 1, 1) := by decide +kernel
theorem dX8_slack_97 : decode cX8_slack 97 = .ok (.goto 4, 3) := by decide +kernel
theorem dX8_slack_100 : decode cX8_slack 100 = .ok (.iconst 0, 1) := by decide +kernel
theorem dX8_slack_101 : decode cX8_slack 101 = .ok (.iadd, 1) := by decide +kernel
theorem dX8_slack_102 : decode cX8_slack 102 = .ok (.istore_n 3, 1) := by decide +kernel
theorem dX8_slack_103 : decode cX8_slack 103 = .ok (.goto (-61), 3) := by decide +kernel
theorem dX8_slack_106 : decode cX8_slack 106 = .ok (.iload_n 3, 1) := by decide +kernel
theorem dX8_slack_107 : decode cX8_slack 107 = .ok (.ireturn, 1) := by decide +kernel
theorem dX8_cargoes_0 : decode cX8_cargoes 0 = .ok (.iconst 0, 1) := by decide +kernel
theorem dX8_cargoes_1 : decode cX8_cargoes 1 = .ok (.istore_n 2, 1) := by decide +kernel
theorem dX8_cargoes_2 : decode cX8_cargoes 2 = .ok (.iconst 0, 1) := by decide +kernel
theorem dX8_cargoes_3 : decode cX8_cargoes 3 = .ok (.istore_n 3, 1) := by decide +kernel
theorem dX8_cargoes_4 : decode cX8_cargoes 4 = .ok (.iload_n 3, 1) := by decide +kernel
theorem dX8_cargoes_5 : decode cX8_cargoes 5 = .ok (.aload_n 0, 1) := by decide +kernel
theorem dX8_cargoes_6 : decode cX8_cargoes 6 = .ok (.getfield 7, 3) := by decide +kernel
theorem dX8_cargoes_9 : decode cX8_cargoes 9 = .ok (.bipush 107, 2) := by decide +kernel
theorem dX8_cargoes_11 : decode cX8_cargoes 11 = .ok (.iaload, 1) := by decide +kernel
theorem dX8_cargoes_12 : decode cX8_cargoes 12 = .ok (.if_icmp .ge 33, 3) := by decide +kernel
theorem dX8_cargoes_15 : decode cX8_cargoes 15 = .ok (.iload_n 2, 1) := by decide +kernel
theorem dX8_cargoes_16 : decode cX8_cargoes 16 = .ok (.aload_n 0, 1) := by decide +kernel
theorem dX8_cargoes_17 : decode cX8_cargoes 17 = .ok (.getfield 7, 3) := by decide +kernel
theorem dX8_cargoes_20 : decode cX8_cargoes 20 = .ok (.iconst 0, 1) := by decide +kernel
theorem dX8_cargoes_21 : decode cX8_cargoes 21 = .ok (.iload_n 3, 1) := by decide +kernel
theorem dX8_cargoes_22 : decode cX8_cargoes 22 = .ok (.bipush 6, 2) := by decide +kernel
theorem dX8_cargoes_24 : decode cX8_cargoes 24 = .ok (.invokestatic 44, 3) := by decide +kernel
theorem dX8_cargoes_27 : decode cX8_cargoes 27 = .ok (.iaload, 1) := by decide +kernel
theorem dX8_cargoes_28 : decode cX8_cargoes 28 = .ok (.iload_n 1, 1) := by decide +kernel
theorem dX8_cargoes_29 : decode cX8_cargoes 29 = .ok (.if_icmp .ne 7, 3) := by decide +kernel
theorem dX8_cargoes_32 : decode cX8_cargoes 32 = .ok (.iconst 1, 1) := by decide +kernel
theorem dX8_cargoes_33 : decode cX8_cargoes 33 = .ok (.goto 4, 3) := by decide +kernel
theorem dX8_cargoes_36 : decode cX8_cargoes 36 = .ok (.iconst 0, 1) := by decide +kernel
theorem dX8_cargoes_37 : decode cX8_cargoes 37 = .ok (.iadd, 1) := by decide +kernel
theorem dX8_cargoes_38 : decode cX8_cargoes 38 = .ok (.istore_n 2, 1) := by decide +kernel
theorem dX8_cargoes_39 : decode cX8_cargoes 39 = .ok (.iinc 3 1, 3) := by decide +kernel
theorem dX8_cargoes_42 : decode cX8_cargoes 42 = .ok (.goto (-38), 3) := by decide +kernel
theorem dX8_cargoes_45 : decode cX8_cargoes 45 = .ok (.iload_n 2, 1) := by decide +kernel
theorem dX8_cargoes_46 : decode cX8_cargoes 46 = .ok (.ireturn, 1) := by decide +kernel
theorem dX8_accounts_0 : decode cX8_accounts 0 = .ok (.ldc 129, 2) := by decide +kernel
theorem dX8_accounts_2 : decode cX8_accounts 2 = .ok (.istore_n 1, 1) := by decide +kernel
theorem dX8_accounts_3 : decode cX8_accounts 3 = .ok (.iconst 0, 1) := by decide +kernel
theorem dX8_accounts_4 : decode cX8_accounts 4 = .ok (.istore_n 2, 1) := by decide +kernel
theorem dX8_accounts_5 : decode cX8_accounts 5 = .ok (.iload_n 2, 1) := by decide +kernel
theorem dX8_accounts_6 : decode cX8_accounts 6 = .ok (.aload_n 0, 1) := by decide +kernel
theorem dX8_accounts_7 : decode cX8_accounts 7 = .ok (.getfield 7, 3) := by decide +kernel
theorem dX8_accounts_10 : decode cX8_accounts 10 = .ok (.bipush 16, 2) := by decide +kernel
theorem dX8_accounts_12 : decode cX8_accounts 12 = .ok (.iaload, 1) := by decide +kernel
theorem dX8_accounts_13 : decode cX8_accounts 13 = .ok (.if_icmp .ge 23, 3) := by decide +kernel
theorem dX8_accounts_16 : decode cX8_accounts 16 = .ok (.iload_n 1, 1) := by decide +kernel
theorem dX8_accounts_17 : decode cX8_accounts 17 = .ok (.aload_n 0, 1) := by decide +kernel
theorem dX8_accounts_18 : decode cX8_accounts 18 = .ok (.getfield 7, 3) := by decide +kernel
theorem dX8_accounts_21 : decode cX8_accounts 21 = .ok (.iconst 0, 1) := by decide +kernel
theorem dX8_accounts_22 : decode cX8_accounts 22 = .ok (.iload_n 2, 1) := by decide +kernel
theorem dX8_accounts_23 : decode cX8_accounts 23 = .ok (.iconst 5, 1) := by decide +kernel
theorem dX8_accounts_24 : decode cX8_accounts 24 = .ok (.invokestatic 37, 3) := by decide +kernel
theorem dX8_accounts_27 : decode cX8_accounts 27 = .ok (.iaload, 1) := by decide +kernel
theorem dX8_accounts_28 : decode cX8_accounts 28 = .ok (.iadd, 1) := by decide +kernel
theorem dX8_accounts_29 : decode cX8_accounts 29 = .ok (.istore_n 1, 1) := by decide +kernel
theorem dX8_accounts_30 : decode cX8_accounts 30 = .ok (.iinc 2 1, 3) := by decide +kernel
theorem dX8_accounts_33 : decode cX8_accounts 33 = .ok (.goto (-28), 3) := by decide +kernel
theorem dX8_accounts_36 : decode cX8_accounts 36 = .ok (.iload_n 1, 1) := by decide +kernel
theorem dX8_accounts_37 : decode cX8_accounts 37 = .ok (.ireturn, 1) := by decide +kernel
theorem dX8_count_0 : decode cX8_count 0 = .ok (.iload_n 1, 1) := by decide +kernel
theorem dX8_count_1 : decode cX8_count 1 = .ok (.tableswitch 112 0 8 #[51, 59, 67, 73, 79, 84, 93, 102, 107], 51) := by decide +kernel
theorem dX8_count_52 : decode cX8_count 52 = .ok (.aload_n 0, 1) := by decide +kernel
theorem dX8_count_53 : decode cX8_count 53 = .ok (.getfield 7, 3) := by decide +kernel
theorem dX8_count_56 : decode cX8_count 56 = .ok (.bipush 16, 2) := by decide +kernel
theorem dX8_count_58 : decode cX8_count 58 = .ok (.iaload, 1) := by decide +kernel
theorem dX8_count_59 : decode cX8_count 59 = .ok (.ireturn, 1) := by decide +kernel
theorem dX8_count_60 : decode cX8_count 60 = .ok (.aload_n 0, 1) := by decide +kernel
theorem dX8_count_61 : decode cX8_count 61 = .ok (.getfield 7, 3) := by decide +kernel
theorem dX8_count_64 : decode cX8_count 64 = .ok (.bipush 107, 2) := by decide +kernel
theorem dX8_count_66 : decode cX8_count 66 = .ok (.iaload, 1) := by decide +kernel
theorem dX8_count_67 : decode cX8_count 67 = .ok (.ireturn, 1) := by decide +kernel
theorem dX8_count_68 : decode cX8_count 68 = .ok (.aload_n 0, 1) := by decide +kernel
theorem dX8_count_69 : decode cX8_count 69 = .ok (.iconst 0, 1) := by decide +kernel
theorem dX8_count_70 : decode cX8_count 70 = .ok (.invokevirtual 105, 3) := by decide +kernel
theorem dX8_count_73 : decode cX8_count 73 = .ok (.ireturn, 1) := by decide +kernel
theorem dX8_count_74 : decode cX8_count 74 = .ok (.aload_n 0, 1) := by decide +kernel
theorem dX8_count_75 : decode cX8_count 75 = .ok (.iconst 1, 1) := by decide +kernel
theorem dX8_count_76 : decode cX8_count 76 = .ok (.invokevirtual 105, 3) := by decide +kernel
theorem dX8_count_79 : decode cX8_count 79 = .ok (.ireturn, 1) := by decide +kernel
theorem dX8_count_80 : decode cX8_count 80 = .ok (.aload_n 0, 1) := by decide +kernel
theorem dX8_count_81 : decode cX8_count 81 = .ok (.invokevirtual 137, 3) := by decide +kernel
theorem dX8_count_84 : decode cX8_count 84 = .ok (.ireturn, 1) := by decide +kernel
theorem dX8_count_85 : decode cX8_count 85 = .ok (.aload_n 0, 1) := by decide +kernel
theorem dX8_count_86 : decode cX8_count 86 = .ok (.getfield 7, 3) := by decide +kernel
theorem dX8_count_89 : decode cX8_count 89 = .ok (.sipush 188, 3) := by decide +kernel
theorem dX8_count_92 : decode cX8_count 92 = .ok (.iaload, 1) := by decide +kernel
theorem dX8_count_93 : decode cX8_count 93 = .ok (.ireturn, 1) := by decide +kernel
theorem dX8_count_94 : decode cX8_count 94 = .ok (.aload_n 0, 1) := by decide +kernel
theorem dX8_count_95 : decode cX8_count 95 = .ok (.getfield 7, 3) := by decide +kernel
theorem dX8_count_98 : decode cX8_count 98 = .ok (.sipush 189, 3) := by decide +kernel
theorem dX8_count_101 : decode cX8_count 101 = .ok (.iaload, 1) := by decide +kernel
theorem dX8_count_102 : decode cX8_count 102 = .ok (.ireturn, 1) := by decide +kernel
theorem dX8_count_103 : decode cX8_count 103 = .ok (.aload_n 0, 1) := by decide +kernel
theorem dX8_count_104 : decode cX8_count 104 = .ok (.getfield 25, 3) := by decide +kernel
theorem dX8_count_107 : decode cX8_count 107 = .ok (.ireturn, 1) := by decide +kernel
theorem dX8_count_108 : decode cX8_count 108 = .ok (.aload_n 0, 1) := by decide +kernel
theorem dX8_count_109 : decode cX8_count 109 = .ok (.getfield 141, 3) := by decide +kernel
theorem dX8_count_112 : decode cX8_count 112 = .ok (.ireturn, 1) := by decide +kernel
theorem dX8_count_113 : decode cX8_count 113 = .ok (.ldc 24, 2) := by decide +kernel
theorem dX8_count_115 : decode cX8_count 115 = .ok (.ireturn, 1) := by decide +kernel
theorem dX8_undo_0 : decode cX8_undo 0 = .ok (.aload_n 0, 1) := by decide +kernel
theorem dX8_undo_1 : decode cX8_undo 1 = .ok (.getfield 25, 3) := by decide +kernel
theorem dX8_undo_4 : decode cX8_undo 4 = .ok (.ifCond .ne 6, 3) := by decide +kernel
theorem dX8_undo_7 : decode cX8_undo 7 = .ok (.ldc 101, 2) := by decide +kernel
theorem dX8_undo_9 : decode cX8_undo 9 = .ok (.ireturn, 1) := by decide +kernel
theorem dX8_undo_10 : decode cX8_undo 10 = .ok (.aload_n 0, 1) := by decide +kernel
theorem dX8_undo_11 : decode cX8_undo 11 = .ok (.aload_n 0, 1) := by decide +kernel
theorem dX8_undo_12 : decode cX8_undo 12 = .ok (.getfield 25, 3) := by decide +kernel
theorem dX8_undo_15 : decode cX8_undo 15 = .ok (.iconst 0, 1) := by decide +kernel
theorem dX8_undo_16 : decode cX8_undo 16 = .ok (.invokevirtual 20, 3) := by decide +kernel
theorem dX8_undo_19 : decode cX8_undo 19 = .ok (.aload_n 0, 1) := by decide +kernel
theorem dX8_undo_20 : decode cX8_undo 20 = .ok (.dup, 1) := by decide +kernel
theorem dX8_undo_21 : decode cX8_undo 21 = .ok (.getfield 25, 3) := by decide +kernel
theorem dX8_undo_24 : decode cX8_undo 24 = .ok (.iconst 1, 1) := by decide +kernel
theorem dX8_undo_25 : decode cX8_undo 25 = .ok (.isub, 1) := by decide +kernel
theorem dX8_undo_26 : decode cX8_undo 26 = .ok (.putfield 25, 3) := by decide +kernel
theorem dX8_undo_29 : decode cX8_undo 29 = .ok (.aload_n 0, 1) := by decide +kernel
theorem dX8_undo_30 : decode cX8_undo 30 = .ok (.getfield 25, 3) := by decide +kernel
theorem dX8_undo_33 : decode cX8_undo 33 = .ok (.ireturn, 1) := by decide +kernel
theorem dX8_type_0 : decode cX8_type 0 = .ok (.iload_n 1, 1) := by decide +kernel
theorem dX8_type_1 : decode cX8_type 1 = .ok (.bipush 32, 2) := by decide +kernel
theorem dX8_type_3 : decode cX8_type 3 = .ok (.bipush 126, 2) := by decide +kernel
theorem dX8_type_5 : decode cX8_type 5 = .ok (.invokestatic 29, 3) := by decide +kernel
theorem dX8_type_8 : decode cX8_type 8 = .ok (.ifCond .ne 6, 3) := by decide +kernel
theorem dX8_type_11 : decode cX8_type 11 = .ok (.ldc 24, 2) := by decide +kernel
theorem dX8_type_13 : decode cX8_type 13 = .ok (.ireturn, 1) := by decide +kernel
theorem dX8_type_14 : decode cX8_type 14 = .ok (.aload_n 0, 1) := by decide +kernel
theorem dX8_type_15 : decode cX8_type 15 = .ok (.getfield 141, 3) := by decide +kernel
theorem dX8_type_18 : decode cX8_type 18 = .ok (.bipush 60, 2) := by decide +kernel
theorem dX8_type_20 : decode cX8_type 20 = .ok (.if_icmp .ne 6, 3) := by decide +kernel
theorem dX8_type_23 : decode cX8_type 23 = .ok (.ldc 90, 2) := by decide +kernel
theorem dX8_type_25 : decode cX8_type 25 = .ok (.ireturn, 1) := by decide +kernel
theorem dX8_type_26 : decode cX8_type 26 = .ok (.aload_n 0, 1) := by decide +kernel
theorem dX8_type_27 : decode cX8_type 27 = .ok (.getfield 13, 3) := by decide +kernel
theorem dX8_type_30 : decode cX8_type 30 = .ok (.aload_n 0, 1) := by decide +kernel
theorem dX8_type_31 : decode cX8_type 31 = .ok (.getfield 141, 3) := by decide +kernel
theorem dX8_type_34 : decode cX8_type 34 = .ok (.iload_n 1, 1) := by decide +kernel
theorem dX8_type_35 : decode cX8_type 35 = .ok (.i2c, 1) := by decide +kernel
theorem dX8_type_36 : decode cX8_type 36 = .ok (.castore, 1) := by decide +kernel
theorem dX8_type_37 : decode cX8_type 37 = .ok (.aload_n 0, 1) := by decide +kernel
theorem dX8_type_38 : decode cX8_type 38 = .ok (.dup, 1) := by decide +kernel
theorem dX8_type_39 : decode cX8_type 39 = .ok (.getfield 141, 3) := by decide +kernel
theorem dX8_type_42 : decode cX8_type 42 = .ok (.iconst 1, 1) := by decide +kernel
theorem dX8_type_43 : decode cX8_type 43 = .ok (.iadd, 1) := by decide +kernel
theorem dX8_type_44 : decode cX8_type 44 = .ok (.putfield 141, 3) := by decide +kernel
theorem dX8_type_47 : decode cX8_type 47 = .ok (.aload_n 0, 1) := by decide +kernel
theorem dX8_type_48 : decode cX8_type 48 = .ok (.getfield 141, 3) := by decide +kernel
theorem dX8_type_51 : decode cX8_type 51 = .ok (.ireturn, 1) := by decide +kernel
theorem dX8_clearText_0 : decode cX8_clearText 0 = .ok (.aload_n 0, 1) := by decide +kernel
theorem dX8_clearText_1 : decode cX8_clearText 1 = .ok (.getfield 141, 3) := by decide +kernel
theorem dX8_clearText_4 : decode cX8_clearText 4 = .ok (.istore_n 1, 1) := by decide +kernel
theorem dX8_clearText_5 : decode cX8_clearText 5 = .ok (.aload_n 0, 1) := by decide +kernel
theorem dX8_clearText_6 : decode cX8_clearText 6 = .ok (.iconst 0, 1) := by decide +kernel
theorem dX8_clearText_7 : decode cX8_clearText 7 = .ok (.putfield 141, 3) := by decide +kernel
theorem dX8_clearText_10 : decode cX8_clearText 10 = .ok (.iload_n 1, 1) := by decide +kernel
theorem dX8_clearText_11 : decode cX8_clearText 11 = .ok (.ireturn, 1) := by decide +kernel
theorem dX8_sign_0 : decode cX8_sign 0 = .ok (.aload_n 0, 1) := by decide +kernel
theorem dX8_sign_1 : decode cX8_sign 1 = .ok (.getfield 144, 3) := by decide +kernel
theorem dX8_sign_4 : decode cX8_sign 4 = .ok (.aload_n 0, 1) := by decide +kernel
theorem dX8_sign_5 : decode cX8_sign 5 = .ok (.getfield 141, 3) := by decide +kernel
theorem dX8_sign_8 : decode cX8_sign 8 = .ok (.if_icmp .ge 15, 3) := by decide +kernel
theorem dX8_sign_11 : decode cX8_sign 11 = .ok (.aload_n 0, 1) := by decide +kernel
theorem dX8_sign_12 : decode cX8_sign 12 = .ok (.getfield 13, 3) := by decide +kernel
theorem dX8_sign_15 : decode cX8_sign 15 = .ok (.aload_n 0, 1) := by decide +kernel
theorem dX8_sign_16 : decode cX8_sign 16 = .ok (.getfield 144, 3) := by decide +kernel
theorem dX8_sign_19 : decode cX8_sign 19 = .ok (.caload, 1) := by decide +kernel
theorem dX8_sign_20 : decode cX8_sign 20 = .ok (.goto 4, 3) := by decide +kernel
theorem dX8_sign_23 : decode cX8_sign 23 = .ok (.iconst 0, 1) := by decide +kernel
theorem dX8_sign_24 : decode cX8_sign 24 = .ok (.ireturn, 1) := by decide +kernel
theorem dX8_number_0 : decode cX8_number 0 = .ok (.aload_n 0, 1) := by decide +kernel
theorem dX8_number_1 : decode cX8_number 1 = .ok (.getfield 144, 3) := by decide +kernel
theorem dX8_number_4 : decode cX8_number 4 = .ok (.istore_n 2, 1) := by decide +kernel
theorem dX8_number_5 : decode cX8_number 5 = .ok (.iconst 0, 1) := by decide +kernel
theorem dX8_number_6 : decode cX8_number 6 = .ok (.istore_n 3, 1) := by decide +kernel
theorem dX8_number_7 : decode cX8_number 7 = .ok (.aload_n 0, 1) := by decide +kernel
theorem dX8_number_8 : decode cX8_number 8 = .ok (.getfield 144, 3) := by decide +kernel
theorem dX8_number_11 : decode cX8_number 11 = .ok (.iload_n 2, 1) := by decide +kernel
theorem dX8_number_12 : decode cX8_number 12 = .ok (.iconst 3, 1) := by decide +kernel
theorem dX8_number_13 : decode cX8_number 13 = .ok (.iadd, 1) := by decide +kernel
theorem dX8_number_14 : decode cX8_number 14 = .ok (.if_icmp .ge 43, 3) := by decide +kernel
theorem dX8_number_17 : decode cX8_number 17 = .ok (.aload_n 0, 1) := by decide +kernel
theorem dX8_number_18 : decode cX8_number 18 = .ok (.invokevirtual 147, 3) := by decide +kernel
theorem dX8_number_21 : decode cX8_number 21 = .ok (.bipush 48, 2) := by decide +kernel
theorem dX8_number_23 : decode cX8_number 23 = .ok (.bipush 57, 2) := by decide +kernel
theorem dX8_number_25 : decode cX8_number 25 = .ok (.invokestatic 29, 3) := by decide +kernel
theorem dX8_number_28 : decode cX8_number 28 = .ok (.ifCond .eq 29, 3) := by decide +kernel
theorem dX8_number_31 : decode cX8_number 31 = .ok (.bipush 10, 2) := by decide +kernel
theorem dX8_number_33 : decode cX8_number 33 = .ok (.iload_n 3, 1) := by decide +kernel
theorem dX8_number_34 : decode cX8_number 34 = .ok (.imul, 1) := by decide +kernel
theorem dX8_number_35 : decode cX8_number 35 = .ok (.aload_n 0, 1) := by decide +kernel
theorem dX8_number_36 : decode cX8_number 36 = .ok (.invokevirtual 147, 3) := by decide +kernel
theorem dX8_number_39 : decode cX8_number 39 = .ok (.iadd, 1) := by decide +kernel
theorem dX8_number_40 : decode cX8_number 40 = .ok (.bipush 48, 2) := by decide +kernel
theorem dX8_number_42 : decode cX8_number 42 = .ok (.isub, 1) := by decide +kernel
theorem dX8_number_43 : decode cX8_number 43 = .ok (.istore_n 3, 1) := by decide +kernel
theorem dX8_number_44 : decode cX8_number 44 = .ok (.aload_n 0, 1) := by decide +kernel
theorem dX8_number_45 : decode cX8_number 45 = .ok (.dup, 1) := by decide +kernel
theorem dX8_number_46 : decode cX8_number 46 = .ok (.getfield 144, 3) := by decide +kernel
theorem dX8_number_49 : decode cX8_number 49 = .ok (.iconst 1, 1) := by decide +kernel
theorem dX8_number_50 : decode cX8_number 50 = .ok (.iadd, 1) := by decide +kernel
theorem dX8_number_51 : decode cX8_number 51 = .ok (.putfield 144, 3) := by decide +kernel
theorem dX8_number_54 : decode cX8_number 54 = .ok (.goto (-47), 3) := by decide +kernel
theorem dX8_number_57 : decode cX8_number 57 = .ok (.aload_n 0, 1) := by decide +kernel
theorem dX8_number_58 : decode cX8_number 58 = .ok (.getfield 17, 3) := by decide +kernel
theorem dX8_number_61 : decode cX8_number 61 = .ok (.iload_n 1, 1) := by decide +kernel
theorem dX8_number_62 : decode cX8_number 62 = .ok (.iload_n 3, 1) := by decide +kernel
theorem dX8_number_63 : decode cX8_number 63 = .ok (.iastore, 1) := by decide +kernel
theorem dX8_number_64 : decode cX8_number 64 = .ok (.aload_n 0, 1) := by decide +kernel
theorem dX8_number_65 : decode cX8_number 65 = .ok (.getfield 144, 3) := by decide +kernel
theorem dX8_number_68 : decode cX8_number 68 = .ok (.iload_n 2, 1) := by decide +kernel
theorem dX8_number_69 : decode cX8_number 69 = .ok (.if_icmp .le 7, 3) := by decide +kernel
theorem dX8_number_72 : decode cX8_number 72 = .ok (.iconst 1, 1) := by decide +kernel
theorem dX8_number_73 : decode cX8_number 73 = .ok (.goto 4, 3) := by decide +kernel
theorem dX8_number_76 : decode cX8_number 76 = .ok (.iconst 0, 1) := by decide +kernel
theorem dX8_number_77 : decode cX8_number 77 = .ok (.ireturn, 1) := by decide +kernel
theorem dX8_takes_0 : decode cX8_takes 0 = .ok (.aload_n 0, 1) := by decide +kernel
theorem dX8_takes_1 : decode cX8_takes 1 = .ok (.invokevirtual 147, 3) := by decide +kernel
theorem dX8_takes_4 : decode cX8_takes 4 = .ok (.iload_n 1, 1) := by decide +kernel
theorem dX8_takes_5 : decode cX8_takes 5 = .ok (.if_icmp .eq 5, 3) := by decide +kernel
theorem dX8_takes_8 : decode cX8_takes 8 = .ok (.iconst 0, 1) := by decide +kernel
theorem dX8_takes_9 : decode cX8_takes 9 = .ok (.ireturn, 1) := by decide +kernel
theorem dX8_takes_10 : decode cX8_takes 10 = .ok (.aload_n 0, 1) := by decide +kernel
theorem dX8_takes_11 : decode cX8_takes 11 = .ok (.dup, 1) := by decide +kernel
theorem dX8_takes_12 : decode cX8_takes 12 = .ok (.getfield 144, 3) := by decide +kernel
theorem dX8_takes_15 : decode cX8_takes 15 = .ok (.iconst 1, 1) := by decide +kernel
theorem dX8_takes_16 : decode cX8_takes 16 = .ok (.iadd, 1) := by decide +kernel
theorem dX8_takes_17 : decode cX8_takes 17 = .ok (.putfield 144, 3) := by decide +kernel
theorem dX8_takes_20 : decode cX8_takes 20 = .ok (.iconst 1, 1) := by decide +kernel
theorem dX8_takes_21 : decode cX8_takes 21 = .ok (.ireturn, 1) := by decide +kernel
theorem dX8_order_0 : decode cX8_order 0 = .ok (.iload_n 1, 1) := by decide +kernel
theorem dX8_order_1 : decode cX8_order 1 = .ok (.bipush 115, 2) := by decide +kernel
theorem dX8_order_3 : decode cX8_order 3 = .ok (.if_icmp .ne 7, 3) := by decide +kernel
theorem dX8_order_6 : decode cX8_order 6 = .ok (.iconst 5, 1) := by decide +kernel
theorem dX8_order_7 : decode cX8_order 7 = .ok (.goto 31, 3) := by decide +kernel
theorem dX8_order_10 : decode cX8_order 10 = .ok (.iload_n 1, 1) := by decide +kernel
theorem dX8_order_11 : decode cX8_order 11 = .ok (.bipush 99, 2) := by decide +kernel
theorem dX8_order_13 : decode cX8_order 13 = .ok (.if_icmp .ne 8, 3) := by decide +kernel
theorem dX8_order_16 : decode cX8_order 16 = .ok (.bipush 6, 2) := by decide +kernel
theorem dX8_order_18 : decode cX8_order 18 = .ok (.goto 20, 3) := by decide +kernel
theorem dX8_order_21 : decode cX8_order 21 = .ok (.iload_n 1, 1) := by decide +kernel
theorem dX8_order_22 : decode cX8_order 22 = .ok (.bipush 102, 2) := by decide +kernel
theorem dX8_order_24 : decode cX8_order 24 = .ok (.if_icmp .eq 9, 3) := by decide +kernel
theorem dX8_order_27 : decode cX8_order 27 = .ok (.iload_n 1, 1) := by decide +kernel
theorem dX8_order_28 : decode cX8_order 28 = .ok (.bipush 100, 2) := by decide +kernel
theorem dX8_order_30 : decode cX8_order 30 = .ok (.if_icmp .ne 7, 3) := by decide +kernel
theorem dX8_order_33 : decode cX8_order 33 = .ok (.iconst 2, 1) := by decide +kernel
theorem dX8_order_34 : decode cX8_order 34 = .ok (.goto 4, 3) := by decide +kernel
theorem dX8_order_37 : decode cX8_order 37 = .ok (.iconst 0, 1) := by decide +kernel
theorem dX8_order_38 : decode cX8_order 38 = .ok (.istore_n 2, 1) := by decide +kernel
theorem dX8_order_39 : decode cX8_order 39 = .ok (.iload_n 2, 1) := by decide +kernel
theorem dX8_order_40 : decode cX8_order 40 = .ok (.ifCond .ne 5, 3) := by decide +kernel
theorem dX8_order_43 : decode cX8_order 43 = .ok (.iconst 0, 1) := by decide +kernel
theorem dX8_order_44 : decode cX8_order 44 = .ok (.ireturn, 1) := by decide +kernel
theorem dX8_order_45 : decode cX8_order 45 = .ok (.aload_n 0, 1) := by decide +kernel
theorem dX8_order_46 : decode cX8_order 46 = .ok (.dup, 1) := by decide +kernel
theorem dX8_order_47 : decode cX8_order 47 = .ok (.getfield 144, 3) := by decide +kernel
theorem dX8_order_50 : decode cX8_order 50 = .ok (.iconst 1, 1) := by decide +kernel
theorem dX8_order_51 : decode cX8_order 51 = .ok (.iadd, 1) := by decide +kernel
theorem dX8_order_52 : decode cX8_order 52 = .ok (.putfield 144, 3) := by decide +kernel
theorem dX8_order_55 : decode cX8_order 55 = .ok (.iconst 1, 1) := by decide +kernel
theorem dX8_order_56 : decode cX8_order 56 = .ok (.istore_n 3, 1) := by decide +kernel
theorem dX8_order_57 : decode cX8_order 57 = .ok (.iconst 0, 1) := by decide +kernel
theorem dX8_order_58 : decode cX8_order 58 = .ok (.istore 4, 2) := by decide +kernel
theorem dX8_order_60 : decode cX8_order 60 = .ok (.iload 4, 2) := by decide +kernel
theorem dX8_order_62 : decode cX8_order 62 = .ok (.iload_n 2, 1) := by decide +kernel
theorem dX8_order_63 : decode cX8_order 63 = .ok (.if_icmp .ge 42, 3) := by decide +kernel
theorem dX8_order_66 : decode cX8_order 66 = .ok (.iload_n 3, 1) := by decide +kernel
theorem dX8_order_67 : decode cX8_order 67 = .ok (.ifCond .eq 38, 3) := by decide +kernel
theorem dX8_order_70 : decode cX8_order 70 = .ok (.iload 4, 2) := by decide +kernel
theorem dX8_order_72 : decode cX8_order 72 = .ok (.ifCond .eq 12, 3) := by decide +kernel
theorem dX8_order_75 : decode cX8_order 75 = .ok (.aload_n 0, 1) := by decide +kernel
theorem dX8_order_76 : decode cX8_order 76 = .ok (.bipush 44, 2) := by decide +kernel
theorem dX8_order_78 : decode cX8_order 78 = .ok (.invokevirtual 150, 3) := by decide +kernel
theorem dX8_order_81 : decode cX8_order 81 = .ok (.ifCond .eq 16, 3) := by decide +kernel
theorem dX8_order_84 : decode cX8_order 84 = .ok (.aload_n 0, 1) := by decide +kernel
theorem dX8_order_85 : decode cX8_order 85 = .ok (.iload 4, 2) := by decide +kernel
theorem dX8_order_87 : decode cX8_order 87 = .ok (.invokevirtual 153, 3) := by decide +kernel
theorem dX8_order_90 : decode cX8_order 90 = .ok (.ifCond .eq 7, 3) := by decide +kernel
theorem dX8_order_93 : decode cX8_order 93 = .ok (.iconst 1, 1) := by decide +kernel
theorem dX8_order_94 : decode cX8_order 94 = .ok (.goto 4, 3) := by decide +kernel
theorem dX8_order_97 : decode cX8_order 97 = .ok (.iconst 0, 1) := by decide +kernel
theorem dX8_order_98 : decode cX8_order 98 = .ok (.istore_n 3, 1) := by decide +kernel
theorem dX8_order_99 : decode cX8_order 99 = .ok (.iinc 4 1, 3) := by decide +kernel
theorem dX8_order_102 : decode cX8_order 102 = .ok (.goto (-42), 3) := by decide +kernel
theorem dX8_order_105 : decode cX8_order 105 = .ok (.iload_n 3, 1) := by decide +kernel
theorem dX8_order_106 : decode cX8_order 106 = .ok (.ifCond .eq 16, 3) := by decide +kernel
theorem dX8_order_109 : decode cX8_order 109 = .ok (.aload_n 0, 1) := by decide +kernel
theorem dX8_order_110 : decode cX8_order 110 = .ok (.bipush 59, 2) := by decide +kernel
theorem dX8_order_112 : decode cX8_order 112 = .ok (.invokevirtual 150, 3) := by decide +kernel
theorem dX8_order_115 : decode cX8_order 115 = .ok (.ifCond .eq 7, 3) := by decide +kernel
theorem dX8_order_118 : decode cX8_order 118 = .ok (.iconst 1, 1) := by decide +kernel
theorem dX8_order_119 : decode cX8_order 119 = .ok (.goto 4, 3) := by decide +kernel
theorem dX8_order_122 : decode cX8_order 122 = .ok (.iconst 0, 1) := by decide +kernel
theorem dX8_order_123 : decode cX8_order 123 = .ok (.ireturn, 1) := by decide +kernel
theorem dX8_does_0 : decode cX8_does 0 = .ok (.iload_n 1, 1) := by decide +kernel
theorem dX8_does_1 : decode cX8_does 1 = .ok (.lookupswitch 128 #[(99, 70), (102, 111), (115, 35)], 35) := by decide +kernel
theorem dX8_does_36 : decode cX8_does 36 = .ok (.aload_n 0, 1) := by decide +kernel
theorem dX8_does_37 : decode cX8_does 37 = .ok (.aload_n 0, 1) := by decide +kernel
theorem dX8_does_38 : decode cX8_does 38 = .ok (.getfield 17, 3) := by decide +kernel
theorem dX8_does_41 : decode cX8_does 41 = .ok (.iconst 0, 1) := by decide +kernel
theorem dX8_does_42 : decode cX8_does 42 = .ok (.iaload, 1) := by decide +kernel
theorem dX8_does_43 : decode cX8_does 43 = .ok (.aload_n 0, 1) := by decide +kernel
theorem dX8_does_44 : decode cX8_does 44 = .ok (.getfield 17, 3) := by decide +kernel
theorem dX8_does_47 : decode cX8_does 47 = .ok (.iconst 1, 1) := by decide +kernel
theorem dX8_does_48 : decode cX8_does 48 = .ok (.iaload, 1) := by decide +kernel
theorem dX8_does_49 : decode cX8_does 49 = .ok (.aload_n 0, 1) := by decide +kernel
theorem dX8_does_50 : decode cX8_does 50 = .ok (.getfield 17, 3) := by decide +kernel
theorem dX8_does_53 : decode cX8_does 53 = .ok (.iconst 2, 1) := by decide +kernel
theorem dX8_does_54 : decode cX8_does 54 = .ok (.iaload, 1) := by decide +kernel
theorem dX8_does_55 : decode cX8_does 55 = .ok (.aload_n 0, 1) := by decide +kernel
theorem dX8_does_56 : decode cX8_does 56 = .ok (.getfield 17, 3) := by decide +kernel
theorem dX8_does_59 : decode cX8_does 59 = .ok (.iconst 3, 1) := by decide +kernel
theorem dX8_does_60 : decode cX8_does 60 = .ok (.iaload, 1) := by decide +kernel
theorem dX8_does_61 : decode cX8_does 61 = .ok (.aload_n 0, 1) := by decide +kernel
theorem dX8_does_62 : decode cX8_does 62 = .ok (.getfield 17, 3) := by decide +kernel
theorem dX8_does_65 : decode cX8_does 65 = .ok (.iconst 4, 1) := by decide +kernel
theorem dX8_does_66 : decode cX8_does 66 = .ok (.iaload, 1) := by decide +kernel
theorem dX8_does_67 : decode cX8_does 67 = .ok (.invokevirtual 115, 3) := by decide +kernel
theorem dX8_does_70 : decode cX8_does 70 = .ok (.ireturn, 1) := by decide +kernel
theorem dX8_does_71 : decode cX8_does 71 = .ok (.aload_n 0, 1) := by decide +kernel
theorem dX8_does_72 : decode cX8_does 72 = .ok (.aload_n 0, 1) := by decide +kernel
theorem dX8_does_73 : decode cX8_does 73 = .ok (.getfield 17, 3) := by decide +kernel
theorem dX8_does_76 : decode cX8_does 76 = .ok (.iconst 0, 1) := by decide +kernel
theorem dX8_does_77 : decode cX8_does 77 = .ok (.iaload, 1) := by decide +kernel
theorem dX8_does_78 : decode cX8_does 78 = .ok (.aload_n 0, 1) := by decide +kernel
theorem dX8_does_79 : decode cX8_does 79 = .ok (.getfield 17, 3) := by decide +kernel
theorem dX8_does_82 : decode cX8_does 82 = .ok (.iconst 1, 1) := by decide +kernel
theorem dX8_does_83 : decode cX8_does 83 = .ok (.iaload, 1) := by decide +kernel
theorem dX8_does_84 : decode cX8_does 84 = .ok (.aload_n 0, 1) := by decide +kernel
theorem dX8_does_85 : decode cX8_does 85 = .ok (.getfield 17, 3) := by decide +kernel
theorem dX8_does_88 : decode cX8_does 88 = .ok (.iconst 2, 1) := by decide +kernel
theorem dX8_does_89 : decode cX8_does 89 = .ok (.iaload, 1) := by decide +kernel
theorem dX8_does_90 : decode cX8_does 90 = .ok (.aload_n 0, 1) := by decide +kernel
theorem dX8_does_91 : decode cX8_does 91 = .ok (.getfield 17, 3) := by decide +kernel
theorem dX8_does_94 : decode cX8_does 94 = .ok (.iconst 3, 1) := by decide +kernel
theorem dX8_does_95 : decode cX8_does 95 = .ok (.iaload, 1) := by decide +kernel
theorem dX8_does_96 : decode cX8_does 96 = .ok (.aload_n 0, 1) := by decide +kernel
theorem dX8_does_97 : decode cX8_does 97 = .ok (.getfield 17, 3) := by decide +kernel
theorem dX8_does_100 : decode cX8_does 100 = .ok (.iconst 4, 1) := by decide +kernel
theorem dX8_does_101 : decode cX8_does 101 = .ok (.iaload, 1) := by decide +kernel
theorem dX8_does_102 : decode cX8_does 102 = .ok (.aload_n 0, 1) := by decide +kernel
theorem dX8_does_103 : decode cX8_does 103 = .ok (.getfield 17, 3) := by decide +kernel
theorem dX8_does_106 : decode cX8_does 106 = .ok (.iconst 5, 1) := by decide +kernel
theorem dX8_does_107 : decode cX8_does 107 = .ok (.iaload, 1) := by decide +kernel
theorem dX8_does_108 : decode cX8_does 108 = .ok (.invokevirtual 119, 3) := by decide +kernel
theorem dX8_does_111 : decode cX8_does 111 = .ok (.ireturn, 1) := by decide +kernel
theorem dX8_does_112 : decode cX8_does 112 = .ok (.aload_n 0, 1) := by decide +kernel
theorem dX8_does_113 : decode cX8_does 113 = .ok (.aload_n 0, 1) := by decide +kernel
theorem dX8_does_114 : decode cX8_does 114 = .ok (.getfield 17, 3) := by decide +kernel
theorem dX8_does_117 : decode cX8_does 117 = .ok (.iconst 0, 1) := by decide +kernel
theorem dX8_does_118 : decode cX8_does 118 = .ok (.iaload, 1) := by decide +kernel
theorem dX8_does_119 : decode cX8_does 119 = .ok (.aload_n 0, 1) := by decide +kernel
theorem dX8_does_120 : decode cX8_does 120 = .ok (.getfield 17, 3) := by decide +kernel
theorem dX8_does_123 : decode cX8_does 123 = .ok (.iconst 1, 1) := by decide +kernel
theorem dX8_does_124 : decode cX8_does 124 = .ok (.iaload, 1) := by decide +kernel
theorem dX8_does_125 : decode cX8_does 125 = .ok (.invokevirtual 123, 3) := by decide +kernel
theorem dX8_does_128 : decode cX8_does 128 = .ok (.ireturn, 1) := by decide +kernel
theorem dX8_does_129 : decode cX8_does 129 = .ok (.aload_n 0, 1) := by decide +kernel
theorem dX8_does_130 : decode cX8_does 130 = .ok (.aload_n 0, 1) := by decide +kernel
theorem dX8_does_131 : decode cX8_does 131 = .ok (.getfield 17, 3) := by decide +kernel
theorem dX8_does_134 : decode cX8_does 134 = .ok (.iconst 0, 1) := by decide +kernel
theorem dX8_does_135 : decode cX8_does 135 = .ok (.iaload, 1) := by decide +kernel
theorem dX8_does_136 : decode cX8_does 136 = .ok (.aload_n 0, 1) := by decide +kernel
theorem dX8_does_137 : decode cX8_does 137 = .ok (.getfield 17, 3) := by decide +kernel
theorem dX8_does_140 : decode cX8_does 140 = .ok (.iconst 1, 1) := by decide +kernel
theorem dX8_does_141 : decode cX8_does 141 = .ok (.iaload, 1) := by decide +kernel
theorem dX8_does_142 : decode cX8_does 142 = .ok (.invokevirtual 126, 3) := by decide +kernel
theorem dX8_does_145 : decode cX8_does 145 = .ok (.ireturn, 1) := by decide +kernel
theorem dX8_goesOn_0 : decode cX8_goesOn 0 = .ok (.aload_n 0, 1) := by decide +kernel
theorem dX8_goesOn_1 : decode cX8_goesOn 1 = .ok (.iconst 0, 1) := by decide +kernel
theorem dX8_goesOn_2 : decode cX8_goesOn 2 = .ok (.putfield 144, 3) := by decide +kernel
theorem dX8_goesOn_5 : decode cX8_goesOn 5 = .ok (.iconst 0, 1) := by decide +kernel
theorem dX8_goesOn_6 : decode cX8_goesOn 6 = .ok (.istore_n 1, 1) := by decide +kernel
theorem dX8_goesOn_7 : decode cX8_goesOn 7 = .ok (.aload_n 0, 1) := by decide +kernel
theorem dX8_goesOn_8 : decode cX8_goesOn 8 = .ok (.getfield 144, 3) := by decide +kernel
theorem dX8_goesOn_11 : decode cX8_goesOn 11 = .ok (.aload_n 0, 1) := by decide +kernel
theorem dX8_goesOn_12 : decode cX8_goesOn 12 = .ok (.getfield 141, 3) := by decide +kernel
theorem dX8_goesOn_15 : decode cX8_goesOn 15 = .ok (.if_icmp .ge 77, 3) := by decide +kernel
theorem dX8_goesOn_18 : decode cX8_goesOn 18 = .ok (.aload_n 0, 1) := by decide +kernel
theorem dX8_goesOn_19 : decode cX8_goesOn 19 = .ok (.getfield 144, 3) := by decide +kernel
theorem dX8_goesOn_22 : decode cX8_goesOn 22 = .ok (.istore_n 2, 1) := by decide +kernel
theorem dX8_goesOn_23 : decode cX8_goesOn 23 = .ok (.aload_n 0, 1) := by decide +kernel
theorem dX8_goesOn_24 : decode cX8_goesOn 24 = .ok (.invokevirtual 147, 3) := by decide +kernel
theorem dX8_goesOn_27 : decode cX8_goesOn 27 = .ok (.istore_n 3, 1) := by decide +kernel
theorem dX8_goesOn_28 : decode cX8_goesOn 28 = .ok (.aload_n 0, 1) := by decide +kernel
theorem dX8_goesOn_29 : decode cX8_goesOn 29 = .ok (.iload_n 3, 1) := by decide +kernel
theorem dX8_goesOn_30 : decode cX8_goesOn 30 = .ok (.invokevirtual 156, 3) := by decide +kernel
theorem dX8_goesOn_33 : decode cX8_goesOn 33 = .ok (.ifCond .ne 23, 3) := by decide +kernel
theorem dX8_goesOn_36 : decode cX8_goesOn 36 = .ok (.aload_n 0, 1) := by decide +kernel
theorem dX8_goesOn_37 : decode cX8_goesOn 37 = .ok (.iconst 1, 1) := by decide +kernel
theorem dX8_goesOn_38 : decode cX8_goesOn 38 = .ok (.putfield 159, 3) := by decide +kernel
theorem dX8_goesOn_41 : decode cX8_goesOn 41 = .ok (.aload_n 0, 1) := by decide +kernel
theorem dX8_goesOn_42 : decode cX8_goesOn 42 = .ok (.aload_n 0, 1) := by decide +kernel
theorem dX8_goesOn_43 : decode cX8_goesOn 43 = .ok (.getfield 144, 3) := by decide +kernel
theorem dX8_goesOn_46 : decode cX8_goesOn 46 = .ok (.iload_n 2, 1) := by decide +kernel
theorem dX8_goesOn_47 : decode cX8_goesOn 47 = .ok (.isub, 1) := by decide +kernel
theorem dX8_goesOn_48 : decode cX8_goesOn 48 = .ok (.putfield 162, 3) := by decide +kernel
theorem dX8_goesOn_51 : decode cX8_goesOn 51 = .ok (.iload_n 2, 1) := by decide +kernel
theorem dX8_goesOn_52 : decode cX8_goesOn 52 = .ok (.ineg, 1) := by decide +kernel
theorem dX8_goesOn_53 : decode cX8_goesOn 53 = .ok (.iconst 1, 1) := by decide +kernel
theorem dX8_goesOn_54 : decode cX8_goesOn 54 = .ok (.isub, 1) := by decide +kernel
theorem dX8_goesOn_55 : decode cX8_goesOn 55 = .ok (.ireturn, 1) := by decide +kernel
theorem dX8_goesOn_56 : decode cX8_goesOn 56 = .ok (.aload_n 0, 1) := by decide +kernel
theorem dX8_goesOn_57 : decode cX8_goesOn 57 = .ok (.iload_n 3, 1) := by decide +kernel
theorem dX8_goesOn_58 : decode cX8_goesOn 58 = .ok (.invokevirtual 165, 3) := by decide +kernel
theorem dX8_goesOn_61 : decode cX8_goesOn 61 = .ok (.istore 4, 2) := by decide +kernel
theorem dX8_goesOn_63 : decode cX8_goesOn 63 = .ok (.iload 4, 2) := by decide +kernel
theorem dX8_goesOn_65 : decode cX8_goesOn 65 = .ok (.ldc 24, 2) := by decide +kernel
theorem dX8_goesOn_67 : decode cX8_goesOn 67 = .ok (.if_icmp .gt 19, 3) := by decide +kernel
theorem dX8_goesOn_70 : decode cX8_goesOn 70 = .ok (.aload_n 0, 1) := by decide +kernel
theorem dX8_goesOn_71 : decode cX8_goesOn 71 = .ok (.iconst 2, 1) := by decide +kernel
theorem dX8_goesOn_72 : decode cX8_goesOn 72 = .ok (.putfield 159, 3) := by decide +kernel
theorem dX8_goesOn_75 : decode cX8_goesOn 75 = .ok (.aload_n 0, 1) := by decide +kernel
theorem dX8_goesOn_76 : decode cX8_goesOn 76 = .ok (.iload 4, 2) := by decide +kernel
theorem dX8_goesOn_78 : decode cX8_goesOn 78 = .ok (.putfield 162, 3) := by decide +kernel
theorem dX8_goesOn_81 : decode cX8_goesOn 81 = .ok (.iload_n 2, 1) := by decide +kernel
theorem dX8_goesOn_82 : decode cX8_goesOn 82 = .ok (.ineg, 1) := by decide +kernel
theorem dX8_goesOn_83 : decode cX8_goesOn 83 = .ok (.iconst 1, 1) := by decide +kernel
theorem dX8_goesOn_84 : decode cX8_goesOn 84 = .ok (.isub, 1) := by decide +kernel
theorem dX8_goesOn_85 : decode cX8_goesOn 85 = .ok (.ireturn, 1) := by decide +kernel
theorem dX8_goesOn_86 : decode cX8_goesOn 86 = .ok (.iinc 1 1, 3) := by decide +kernel
theorem dX8_goesOn_89 : decode cX8_goesOn 89 = .ok (.goto (-82), 3) := by decide +kernel
theorem dX8_goesOn_92 : decode cX8_goesOn 92 = .ok (.iload_n 1, 1) := by decide +kernel
theorem dX8_goesOn_93 : decode cX8_goesOn 93 = .ok (.ireturn, 1) := by decide +kernel
theorem dX8_fault_0 : decode cX8_fault 0 = .ok (.iload_n 1, 1) := by decide +kernel
theorem dX8_fault_1 : decode cX8_fault 1 = .ok (.iconst 0, 1) := by decide +kernel
theorem dX8_fault_2 : decode cX8_fault 2 = .ok (.iconst 2, 1) := by decide +kernel
theorem dX8_fault_3 : decode cX8_fault 3 = .ok (.invokestatic 29, 3) := by decide +kernel
theorem dX8_fault_6 : decode cX8_fault 6 = .ok (.ifCond .ne 6, 3) := by decide +kernel
theorem dX8_fault_9 : decode cX8_fault 9 = .ok (.ldc 24, 2) := by decide +kernel
theorem dX8_fault_11 : decode cX8_fault 11 = .ok (.ireturn, 1) := by decide +kernel
theorem dX8_fault_12 : decode cX8_fault 12 = .ok (.aload_n 0, 1) := by decide +kernel
theorem dX8_fault_13 : decode cX8_fault 13 = .ok (.invokevirtual 109, 3) := by decide +kernel
theorem dX8_fault_16 : decode cX8_fault 16 = .ok (.aload_n 0, 1) := by decide +kernel
theorem dX8_fault_17 : decode cX8_fault 17 = .ok (.invokevirtual 168, 3) := by decide +kernel
theorem dX8_fault_20 : decode cX8_fault 20 = .ok (.istore_n 2, 1) := by decide +kernel
theorem dX8_fault_21 : decode cX8_fault 21 = .ok (.aload_n 0, 1) := by decide +kernel
theorem dX8_fault_22 : decode cX8_fault 22 = .ok (.bipush 6, 2) := by decide +kernel
theorem dX8_fault_24 : decode cX8_fault 24 = .ok (.iconst 0, 1) := by decide +kernel
theorem dX8_fault_25 : decode cX8_fault 25 = .ok (.invokevirtual 20, 3) := by decide +kernel
theorem dX8_fault_28 : decode cX8_fault 28 = .ok (.iload_n 2, 1) := by decide +kernel
theorem dX8_fault_29 : decode cX8_fault 29 = .ok (.ifCond .lt 8, 3) := by decide +kernel
theorem dX8_fault_32 : decode cX8_fault 32 = .ok (.ldc 130, 2) := by decide +kernel
theorem dX8_fault_34 : decode cX8_fault 34 = .ok (.goto 30, 3) := by decide +kernel
theorem dX8_fault_37 : decode cX8_fault 37 = .ok (.iload_n 1, 1) := by decide +kernel
theorem dX8_fault_38 : decode cX8_fault 38 = .ok (.ifCond .ne 10, 3) := by decide +kernel
theorem dX8_fault_41 : decode cX8_fault 41 = .ok (.iload_n 2, 1) := by decide +kernel
theorem dX8_fault_42 : decode cX8_fault 42 = .ok (.ineg, 1) := by decide +kernel
theorem dX8_fault_43 : decode cX8_fault 43 = .ok (.iconst 1, 1) := by decide +kernel
theorem dX8_fault_44 : decode cX8_fault 44 = .ok (.isub, 1) := by decide +kernel
theorem dX8_fault_45 : decode cX8_fault 45 = .ok (.goto 19, 3) := by decide +kernel
theorem dX8_fault_48 : decode cX8_fault 48 = .ok (.iload_n 1, 1) := by decide +kernel
theorem dX8_fault_49 : decode cX8_fault 49 = .ok (.iconst 1, 1) := by decide +kernel
theorem dX8_fault_50 : decode cX8_fault 50 = .ok (.if_icmp .ne 10, 3) := by decide +kernel
theorem dX8_fault_53 : decode cX8_fault 53 = .ok (.aload_n 0, 1) := by decide +kernel
theorem dX8_fault_54 : decode cX8_fault 54 = .ok (.getfield 159, 3) := by decide +kernel
theorem dX8_fault_57 : decode cX8_fault 57 = .ok (.goto 7, 3) := by decide +kernel
theorem dX8_fault_60 : decode cX8_fault 60 = .ok (.aload_n 0, 1) := by decide +kernel
theorem dX8_fault_61 : decode cX8_fault 61 = .ok (.getfield 162, 3) := by decide +kernel
theorem dX8_fault_64 : decode cX8_fault 64 = .ok (.ireturn, 1) := by decide +kernel
theorem dX8_play_0 : decode cX8_play 0 = .ok (.aload_n 0, 1) := by decide +kernel
theorem dX8_play_1 : decode cX8_play 1 = .ok (.invokevirtual 109, 3) := by decide +kernel
theorem dX8_play_4 : decode cX8_play 4 = .ok (.aload_n 0, 1) := by decide +kernel
theorem dX8_play_5 : decode cX8_play 5 = .ok (.invokevirtual 168, 3) := by decide +kernel
theorem dX8_play_8 : decode cX8_play 8 = .ok (.istore_n 1, 1) := by decide +kernel
theorem dX8_play_9 : decode cX8_play 9 = .ok (.iload_n 1, 1) := by decide +kernel
theorem dX8_play_10 : decode cX8_play 10 = .ok (.ifCond .ge 13, 3) := by decide +kernel
theorem dX8_play_13 : decode cX8_play 13 = .ok (.aload_n 0, 1) := by decide +kernel
theorem dX8_play_14 : decode cX8_play 14 = .ok (.bipush 6, 2) := by decide +kernel
theorem dX8_play_16 : decode cX8_play 16 = .ok (.iconst 0, 1) := by decide +kernel
theorem dX8_play_17 : decode cX8_play 17 = .ok (.invokevirtual 20, 3) := by decide +kernel
theorem dX8_play_20 : decode cX8_play 20 = .ok (.ldc 101, 2) := by decide +kernel
theorem dX8_play_22 : decode cX8_play 22 = .ok (.ireturn, 1) := by decide +kernel
theorem dX8_play_23 : decode cX8_play 23 = .ok (.aload_n 0, 1) := by decide +kernel
theorem dX8_play_24 : decode cX8_play 24 = .ok (.iload_n 1, 1) := by decide +kernel
theorem dX8_play_25 : decode cX8_play 25 = .ok (.invokevirtual 112, 3) := by decide +kernel
theorem dX8_play_28 : decode cX8_play 28 = .ok (.ireturn, 1) := by decide +kernel
theorem dJxf58ca_isNaN_12338_0 : decode cJxf58ca_isNaN_12338 0 = .ok (.fload_n 0, 1) := by decide +kernel
theorem dJxf58ca_isNaN_12338_1 : decode cJxf58ca_isNaN_12338 1 = .ok (.fload_n 0, 1) := by decide +kernel
theorem dJxf58ca_isNaN_12338_2 : decode cJxf58ca_isNaN_12338 2 = .ok (.fcmp .l, 1) := by decide +kernel
theorem dJxf58ca_isNaN_12338_3 : decode cJxf58ca_isNaN_12338 3 = .ok (.ifCond .eq 7, 3) := by decide +kernel
theorem dJxf58ca_isNaN_12338_6 : decode cJxf58ca_isNaN_12338 6 = .ok (.iconst 1, 1) := by decide +kernel
theorem dJxf58ca_isNaN_12338_7 : decode cJxf58ca_isNaN_12338 7 = .ok (.goto 4, 3) := by decide +kernel
theorem dJxf58ca_isNaN_12338_10 : decode cJxf58ca_isNaN_12338 10 = .ok (.iconst 0, 1) := by decide +kernel
theorem dJxf58ca_isNaN_12338_11 : decode cJxf58ca_isNaN_12338 11 = .ok (.ireturn, 1) := by decide +kernel
theorem dJxf58ca_floatToIntBits_5c35a_0 : decode cJxf58ca_floatToIntBits_5c35a 0 = .ok (.fload_n 0, 1) := by decide +kernel
theorem dJxf58ca_floatToIntBits_5c35a_1 : decode cJxf58ca_floatToIntBits_5c35a 1 = .ok (.invokestatic 59, 3) := by decide +kernel
theorem dJxf58ca_floatToIntBits_5c35a_4 : decode cJxf58ca_floatToIntBits_5c35a 4 = .ok (.ifCond .ne 8, 3) := by decide +kernel
theorem dJxf58ca_floatToIntBits_5c35a_7 : decode cJxf58ca_floatToIntBits_5c35a 7 = .ok (.fload_n 0, 1) := by decide +kernel
theorem dJxf58ca_floatToIntBits_5c35a_8 : decode cJxf58ca_floatToIntBits_5c35a 8 = .ok (.invokestatic 74, 3) := by decide +kernel
theorem dJxf58ca_floatToIntBits_5c35a_11 : decode cJxf58ca_floatToIntBits_5c35a 11 = .ok (.ireturn, 1) := by decide +kernel
theorem dJxf58ca_floatToIntBits_5c35a_12 : decode cJxf58ca_floatToIntBits_5c35a 12 = .ok (.ldc 77, 2) := by decide +kernel
theorem dJxf58ca_floatToIntBits_5c35a_14 : decode cJxf58ca_floatToIntBits_5c35a 14 = .ok (.ireturn, 1) := by decide +kernel
theorem dJ13_bitCount_95d88_0 : decode cJ13_bitCount_95d88 0 = .ok (.lload_n 0, 1) := by decide +kernel
theorem dJ13_bitCount_95d88_1 : decode cJ13_bitCount_95d88 1 = .ok (.lload_n 0, 1) := by decide +kernel
theorem dJ13_bitCount_95d88_2 : decode cJ13_bitCount_95d88 2 = .ok (.iconst 1, 1) := by decide +kernel
theorem dJ13_bitCount_95d88_3 : decode cJ13_bitCount_95d88 3 = .ok (.lushr, 1) := by decide +kernel
theorem dJ13_bitCount_95d88_4 : decode cJ13_bitCount_95d88 4 = .ok (.ldc2_w 314, 3) := by decide +kernel
theorem dJ13_bitCount_95d88_7 : decode cJ13_bitCount_95d88 7 = .ok (.land, 1) := by decide +kernel
theorem dJ13_bitCount_95d88_8 : decode cJ13_bitCount_95d88 8 = .ok (.lsub, 1) := by decide +kernel
theorem dJ13_bitCount_95d88_9 : decode cJ13_bitCount_95d88 9 = .ok (.lstore_n 0, 1) := by decide +kernel
theorem dJ13_bitCount_95d88_10 : decode cJ13_bitCount_95d88 10 = .ok (.lload_n 0, 1) := by decide +kernel
theorem dJ13_bitCount_95d88_11 : decode cJ13_bitCount_95d88 11 = .ok (.ldc2_w 316, 3) := by decide +kernel
theorem dJ13_bitCount_95d88_14 : decode cJ13_bitCount_95d88 14 = .ok (.land, 1) := by decide +kernel
theorem dJ13_bitCount_95d88_15 : decode cJ13_bitCount_95d88 15 = .ok (.lload_n 0, 1) := by decide +kernel
theorem dJ13_bitCount_95d88_16 : decode cJ13_bitCount_95d88 16 = .ok (.iconst 2, 1) := by decide +kernel
theorem dJ13_bitCount_95d88_17 : decode cJ13_bitCount_95d88 17 = .ok (.lushr, 1) := by decide +kernel
theorem dJ13_bitCount_95d88_18 : decode cJ13_bitCount_95d88 18 = .ok (.ldc2_w 316, 3) := by decide +kernel
theorem dJ13_bitCount_95d88_21 : decode cJ13_bitCount_95d88 21 = .ok (.land, 1) := by decide +kernel
theorem dJ13_bitCount_95d88_22 : decode cJ13_bitCount_95d88 22 = .ok (.ladd, 1) := by decide +kernel
theorem dJ13_bitCount_95d88_23 : decode cJ13_bitCount_95d88 23 = .ok (.lstore_n 0, 1) := by decide +kernel
theorem dJ13_bitCount_95d88_24 : decode cJ13_bitCount_95d88 24 = .ok (.lload_n 0, 1) := by decide +kernel
theorem dJ13_bitCount_95d88_25 : decode cJ13_bitCount_95d88 25 = .ok (.lload_n 0, 1) := by decide +kernel
theorem dJ13_bitCount_95d88_26 : decode cJ13_bitCount_95d88 26 = .ok (.iconst 4, 1) := by decide +kernel
theorem dJ13_bitCount_95d88_27 : decode cJ13_bitCount_95d88 27 = .ok (.lushr, 1) := by decide +kernel
theorem dJ13_bitCount_95d88_28 : decode cJ13_bitCount_95d88 28 = .ok (.ladd, 1) := by decide +kernel
theorem dJ13_bitCount_95d88_29 : decode cJ13_bitCount_95d88 29 = .ok (.ldc2_w 318, 3) := by decide +kernel
theorem dJ13_bitCount_95d88_32 : decode cJ13_bitCount_95d88 32 = .ok (.land, 1) := by decide +kernel
theorem dJ13_bitCount_95d88_33 : decode cJ13_bitCount_95d88 33 = .ok (.lstore_n 0, 1) := by decide +kernel
theorem dJ13_bitCount_95d88_34 : decode cJ13_bitCount_95d88 34 = .ok (.lload_n 0, 1) := by decide +kernel
theorem dJ13_bitCount_95d88_35 : decode cJ13_bitCount_95d88 35 = .ok (.lload_n 0, 1) := by decide +kernel
theorem dJ13_bitCount_95d88_36 : decode cJ13_bitCount_95d88 36 = .ok (.bipush 8, 2) := by decide +kernel
theorem dJ13_bitCount_95d88_38 : decode cJ13_bitCount_95d88 38 = .ok (.lushr, 1) := by decide +kernel
theorem dJ13_bitCount_95d88_39 : decode cJ13_bitCount_95d88 39 = .ok (.ladd, 1) := by decide +kernel
theorem dJ13_bitCount_95d88_40 : decode cJ13_bitCount_95d88 40 = .ok (.lstore_n 0, 1) := by decide +kernel
theorem dJ13_bitCount_95d88_41 : decode cJ13_bitCount_95d88 41 = .ok (.lload_n 0, 1) := by decide +kernel
theorem dJ13_bitCount_95d88_42 : decode cJ13_bitCount_95d88 42 = .ok (.lload_n 0, 1) := by decide +kernel
theorem dJ13_bitCount_95d88_43 : decode cJ13_bitCount_95d88 43 = .ok (.bipush 16, 2) := by decide +kernel
theorem dJ13_bitCount_95d88_45 : decode cJ13_bitCount_95d88 45 = .ok (.lushr, 1) := by decide +kernel
theorem dJ13_bitCount_95d88_46 : decode cJ13_bitCount_95d88 46 = .ok (.ladd, 1) := by decide +kernel
theorem dJ13_bitCount_95d88_47 : decode cJ13_bitCount_95d88 47 = .ok (.lstore_n 0, 1) := by decide +kernel
theorem dJ13_bitCount_95d88_48 : decode cJ13_bitCount_95d88 48 = .ok (.lload_n 0, 1) := by decide +kernel
theorem dJ13_bitCount_95d88_49 : decode cJ13_bitCount_95d88 49 = .ok (.lload_n 0, 1) := by decide +kernel
theorem dJ13_bitCount_95d88_50 : decode cJ13_bitCount_95d88 50 = .ok (.bipush 32, 2) := by decide +kernel
theorem dJ13_bitCount_95d88_52 : decode cJ13_bitCount_95d88 52 = .ok (.lushr, 1) := by decide +kernel
theorem dJ13_bitCount_95d88_53 : decode cJ13_bitCount_95d88 53 = .ok (.ladd, 1) := by decide +kernel
theorem dJ13_bitCount_95d88_54 : decode cJ13_bitCount_95d88 54 = .ok (.lstore_n 0, 1) := by decide +kernel
theorem dJ13_bitCount_95d88_55 : decode cJ13_bitCount_95d88 55 = .ok (.lload_n 0, 1) := by decide +kernel
theorem dJ13_bitCount_95d88_56 : decode cJ13_bitCount_95d88 56 = .ok (.l2i, 1) := by decide +kernel
theorem dJ13_bitCount_95d88_57 : decode cJ13_bitCount_95d88 57 = .ok (.bipush 127, 2) := by decide +kernel
theorem dJ13_bitCount_95d88_59 : decode cJ13_bitCount_95d88 59 = .ok (.iand, 1) := by decide +kernel
theorem dJ13_bitCount_95d88_60 : decode cJ13_bitCount_95d88 60 = .ok (.ireturn, 1) := by decide +kernel
theorem dJ9_max_7cf53_0 : decode cJ9_max_7cf53 0 = .ok (.iload_n 0, 1) := by decide +kernel
theorem dJ9_max_7cf53_1 : decode cJ9_max_7cf53 1 = .ok (.iload_n 1, 1) := by decide +kernel
theorem dJ9_max_7cf53_2 : decode cJ9_max_7cf53 2 = .ok (.if_icmp .lt 7, 3) := by decide +kernel
theorem dJ9_max_7cf53_5 : decode cJ9_max_7cf53 5 = .ok (.iload_n 0, 1) := by decide +kernel
theorem dJ9_max_7cf53_6 : decode cJ9_max_7cf53 6 = .ok (.goto 4, 3) := by decide +kernel
theorem dJ9_max_7cf53_9 : decode cJ9_max_7cf53 9 = .ok (.iload_n 1, 1) := by decide +kernel
theorem dJ9_max_7cf53_10 : decode cJ9_max_7cf53 10 = .ok (.ireturn, 1) := by decide +kernel
theorem dJ9_min_7cf53_0 : decode cJ9_min_7cf53 0 = .ok (.iload_n 0, 1) := by decide +kernel
theorem dJ9_min_7cf53_1 : decode cJ9_min_7cf53 1 = .ok (.iload_n 1, 1) := by decide +kernel
theorem dJ9_min_7cf53_2 : decode cJ9_min_7cf53 2 = .ok (.if_icmp .gt 7, 3) := by decide +kernel
theorem dJ9_min_7cf53_5 : decode cJ9_min_7cf53 5 = .ok (.iload_n 0, 1) := by decide +kernel
theorem dJ9_min_7cf53_6 : decode cJ9_min_7cf53 6 = .ok (.goto 4, 3) := by decide +kernel
theorem dJ9_min_7cf53_9 : decode cJ9_min_7cf53 9 = .ok (.iload_n 1, 1) := by decide +kernel
theorem dJ9_min_7cf53_10 : decode cJ9_min_7cf53 10 = .ok (.ireturn, 1) := by decide +kernel
