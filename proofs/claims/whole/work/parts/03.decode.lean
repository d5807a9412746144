theorem dX0_init_0 : decode cX0_init 0 = .ok (.aload_n 0, 1) := by decide +kernel
theorem dX0_init_1 : decode cX0_init 1 = .ok (.invokespecial 3, 3) := by decide +kernel
theorem dX0_init_4 : decode cX0_init 4 = .ok (.aload_n 0, 1) := by decide +kernel
theorem dX0_init_5 : decode cX0_init 5 = .ok (.bipush 30, 2) := by decide +kernel
theorem dX0_init_7 : decode cX0_init 7 = .ok (.anewarray 9, 3) := by decide +kernel
theorem dX0_init_10 : decode cX0_init 10 = .ok (.putfield 11, 3) := by decide +kernel
theorem dX0_init_13 : decode cX0_init 13 = .ok (.aload_n 0, 1) := by decide +kernel
theorem dX0_init_14 : decode cX0_init 14 = .ok (.iconst 0, 1) := by decide +kernel
theorem dX0_init_15 : decode cX0_init 15 = .ok (.putfield 17, 3) := by decide +kernel
theorem dX0_init_18 : decode cX0_init 18 = .ok (.aload_n 0, 1) := by decide +kernel
theorem dX0_init_19 : decode cX0_init 19 = .ok (.iconst 0, 1) := by decide +kernel
theorem dX0_init_20 : decode cX0_init 20 = .ok (.putfield 21, 3) := by decide +kernel
theorem dX0_init_23 : decode cX0_init 23 = .ok (.iconst 0, 1) := by decide +kernel
theorem dX0_init_24 : decode cX0_init 24 = .ok (.istore_n 1, 1) := by decide +kernel
theorem dX0_init_25 : decode cX0_init 25 = .ok (.iload_n 1, 1) := by decide +kernel
theorem dX0_init_26 : decode cX0_init 26 = .ok (.bipush 30, 2) := by decide +kernel
theorem dX0_init_28 : decode cX0_init 28 = .ok (.if_icmp .ge 22, 3) := by decide +kernel
theorem dX0_init_31 : decode cX0_init 31 = .ok (.aload_n 0, 1) := by decide +kernel
theorem dX0_init_32 : decode cX0_init 32 = .ok (.getfield 11, 3) := by decide +kernel
theorem dX0_init_35 : decode cX0_init 35 = .ok (.iload_n 1, 1) := by decide +kernel
theorem dX0_init_36 : decode cX0_init 36 = .ok (.new 9, 3) := by decide +kernel
theorem dX0_init_39 : decode cX0_init 39 = .ok (.dup, 1) := by decide +kernel
theorem dX0_init_40 : decode cX0_init 40 = .ok (.invokespecial 24, 3) := by decide +kernel
theorem dX0_init_43 : decode cX0_init 43 = .ok (.aastore, 1) := by decide +kernel
theorem dX0_init_44 : decode cX0_init 44 = .ok (.iinc 1 1, 3) := by decide +kernel
theorem dX0_init_47 : decode cX0_init 47 = .ok (.goto (-22), 3) := by decide +kernel
theorem dX0_init_50 : decode cX0_init 50 = .ok (.return_, 1) := by decide +kernel
theorem dX0_remember_0 : decode cX0_remember 0 = .ok (.aload_n 0, 1) := by decide +kernel
theorem dX0_remember_1 : decode cX0_remember 1 = .ok (.aload_n 0, 1) := by decide +kernel
theorem dX0_remember_2 : decode cX0_remember 2 = .ok (.getfield 17, 3) := by decide +kernel
theorem dX0_remember_5 : decode cX0_remember 5 = .ok (.invokevirtual 25, 3) := by decide +kernel
theorem dX0_remember_8 : decode cX0_remember 8 = .ok (.astore_n 2, 1) := by decide +kernel
theorem dX0_remember_9 : decode cX0_remember 9 = .ok (.aload_n 2, 1) := by decide +kernel
theorem dX0_remember_10 : decode cX0_remember 10 = .ok (.ifnonnull 4, 3) := by decide +kernel
theorem dX0_remember_13 : decode cX0_remember 13 = .ok (.return_, 1) := by decide +kernel
theorem dX0_remember_14 : decode cX0_remember 14 = .ok (.aload_n 2, 1) := by decide +kernel
theorem dX0_remember_15 : decode cX0_remember 15 = .ok (.aload_n 1, 1) := by decide +kernel
theorem dX0_remember_16 : decode cX0_remember 16 = .ok (.invokevirtual 29, 3) := by decide +kernel
theorem dX0_remember_19 : decode cX0_remember 19 = .ok (.aload_n 0, 1) := by decide +kernel
theorem dX0_remember_20 : decode cX0_remember 20 = .ok (.aload_n 0, 1) := by decide +kernel
theorem dX0_remember_21 : decode cX0_remember 21 = .ok (.getfield 17, 3) := by decide +kernel
theorem dX0_remember_24 : decode cX0_remember 24 = .ok (.iconst 1, 1) := by decide +kernel
theorem dX0_remember_25 : decode cX0_remember 25 = .ok (.iadd, 1) := by decide +kernel
theorem dX0_remember_26 : decode cX0_remember 26 = .ok (.bipush 30, 2) := by decide +kernel
theorem dX0_remember_28 : decode cX0_remember 28 = .ok (.if_icmp .ge 12, 3) := by decide +kernel
theorem dX0_remember_31 : decode cX0_remember 31 = .ok (.aload_n 0, 1) := by decide +kernel
theorem dX0_remember_32 : decode cX0_remember 32 = .ok (.getfield 17, 3) := by decide +kernel
theorem dX0_remember_35 : decode cX0_remember 35 = .ok (.iconst 1, 1) := by decide +kernel
theorem dX0_remember_36 : decode cX0_remember 36 = .ok (.iadd, 1) := by decide +kernel
theorem dX0_remember_37 : decode cX0_remember 37 = .ok (.goto 4, 3) := by decide +kernel
theorem dX0_remember_40 : decode cX0_remember 40 = .ok (.iconst 0, 1) := by decide +kernel
theorem dX0_remember_41 : decode cX0_remember 41 = .ok (.putfield 17, 3) := by decide +kernel
theorem dX0_remember_44 : decode cX0_remember 44 = .ok (.aload_n 0, 1) := by decide +kernel
theorem dX0_remember_45 : decode cX0_remember 45 = .ok (.aload_n 0, 1) := by decide +kernel
theorem dX0_remember_46 : decode cX0_remember 46 = .ok (.getfield 21, 3) := by decide +kernel
theorem dX0_remember_49 : decode cX0_remember 49 = .ok (.iconst 1, 1) := by decide +kernel
theorem dX0_remember_50 : decode cX0_remember 50 = .ok (.iadd, 1) := by decide +kernel
theorem dX0_remember_51 : decode cX0_remember 51 = .ok (.bipush 30, 2) := by decide +kernel
theorem dX0_remember_53 : decode cX0_remember 53 = .ok (.invokestatic 33, 3) := by decide +kernel
theorem dX0_remember_56 : decode cX0_remember 56 = .ok (.putfield 21, 3) := by decide +kernel
theorem dX0_remember_59 : decode cX0_remember 59 = .ok (.return_, 1) := by decide +kernel
theorem dX0_takeBack_0 : decode cX0_takeBack 0 = .ok (.aload_n 0, 1) := by decide +kernel
theorem dX0_takeBack_1 : decode cX0_takeBack 1 = .ok (.getfield 17, 3) := by decide +kernel
theorem dX0_takeBack_4 : decode cX0_takeBack 4 = .ok (.ifCond .le 12, 3) := by decide +kernel
theorem dX0_takeBack_7 : decode cX0_takeBack 7 = .ok (.aload_n 0, 1) := by decide +kernel
theorem dX0_takeBack_8 : decode cX0_takeBack 8 = .ok (.getfield 17, 3) := by decide +kernel
theorem dX0_takeBack_11 : decode cX0_takeBack 11 = .ok (.iconst 1, 1) := by decide +kernel
theorem dX0_takeBack_12 : decode cX0_takeBack 12 = .ok (.isub, 1) := by decide +kernel
theorem dX0_takeBack_13 : decode cX0_takeBack 13 = .ok (.goto 5, 3) := by decide +kernel
theorem dX0_takeBack_16 : decode cX0_takeBack 16 = .ok (.bipush 29, 2) := by decide +kernel
theorem dX0_takeBack_18 : decode cX0_takeBack 18 = .ok (.istore_n 2, 1) := by decide +kernel
theorem dX0_takeBack_19 : decode cX0_takeBack 19 = .ok (.aload_n 0, 1) := by decide +kernel
theorem dX0_takeBack_20 : decode cX0_takeBack 20 = .ok (.iload_n 2, 1) := by decide +kernel
theorem dX0_takeBack_21 : decode cX0_takeBack 21 = .ok (.invokevirtual 25, 3) := by decide +kernel
theorem dX0_takeBack_24 : decode cX0_takeBack 24 = .ok (.astore_n 3, 1) := by decide +kernel
theorem dX0_takeBack_25 : decode cX0_takeBack 25 = .ok (.aload_n 0, 1) := by decide +kernel
theorem dX0_takeBack_26 : decode cX0_takeBack 26 = .ok (.getfield 21, 3) := by decide +kernel
theorem dX0_takeBack_29 : decode cX0_takeBack 29 = .ok (.iconst 1, 1) := by decide +kernel
theorem dX0_takeBack_30 : decode cX0_takeBack 30 = .ok (.if_icmp .lt 7, 3) := by decide +kernel
theorem dX0_takeBack_33 : decode cX0_takeBack 33 = .ok (.aload_n 3, 1) := by decide +kernel
theorem dX0_takeBack_34 : decode cX0_takeBack 34 = .ok (.ifnonnull 5, 3) := by decide +kernel
theorem dX0_takeBack_37 : decode cX0_takeBack 37 = .ok (.iconst 0, 1) := by decide +kernel
theorem dX0_takeBack_38 : decode cX0_takeBack 38 = .ok (.ireturn, 1) := by decide +kernel
theorem dX0_takeBack_39 : decode cX0_takeBack 39 = .ok (.aload_n 1, 1) := by decide +kernel
theorem dX0_takeBack_40 : decode cX0_takeBack 40 = .ok (.aload_n 3, 1) := by decide +kernel
theorem dX0_takeBack_41 : decode cX0_takeBack 41 = .ok (.invokevirtual 29, 3) := by decide +kernel
theorem dX0_takeBack_44 : decode cX0_takeBack 44 = .ok (.aload_n 0, 1) := by decide +kernel
theorem dX0_takeBack_45 : decode cX0_takeBack 45 = .ok (.iload_n 2, 1) := by decide +kernel
theorem dX0_takeBack_46 : decode cX0_takeBack 46 = .ok (.putfield 17, 3) := by decide +kernel
theorem dX0_takeBack_49 : decode cX0_takeBack 49 = .ok (.aload_n 0, 1) := by decide +kernel
theorem dX0_takeBack_50 : decode cX0_takeBack 50 = .ok (.dup, 1) := by decide +kernel
theorem dX0_takeBack_51 : decode cX0_takeBack 51 = .ok (.getfield 21, 3) := by decide +kernel
theorem dX0_takeBack_54 : decode cX0_takeBack 54 = .ok (.iconst 1, 1) := by decide +kernel
theorem dX0_takeBack_55 : decode cX0_takeBack 55 = .ok (.isub, 1) := by decide +kernel
theorem dX0_takeBack_56 : decode cX0_takeBack 56 = .ok (.putfield 21, 3) := by decide +kernel
theorem dX0_takeBack_59 : decode cX0_takeBack 59 = .ok (.iconst 1, 1) := by decide +kernel
theorem dX0_takeBack_60 : decode cX0_takeBack 60 = .ok (.ireturn, 1) := by decide +kernel
theorem dX0_forget_0 : decode cX0_forget 0 = .ok (.aload_n 0, 1) := by decide +kernel
theorem dX0_forget_1 : decode cX0_forget 1 = .ok (.iconst 0, 1) := by decide +kernel
theorem dX0_forget_2 : decode cX0_forget 2 = .ok (.putfield 21, 3) := by decide +kernel
theorem dX0_forget_5 : decode cX0_forget 5 = .ok (.return_, 1) := by decide +kernel
theorem dX0_slotAt_0 : decode cX0_slotAt 0 = .ok (.iload_n 1, 1) := by decide +kernel
theorem dX0_slotAt_1 : decode cX0_slotAt 1 = .ok (.ifCond .lt 18, 3) := by decide +kernel
theorem dX0_slotAt_4 : decode cX0_slotAt 4 = .ok (.iload_n 1, 1) := by decide +kernel
theorem dX0_slotAt_5 : decode cX0_slotAt 5 = .ok (.bipush 30, 2) := by decide +kernel
theorem dX0_slotAt_7 : decode cX0_slotAt 7 = .ok (.if_icmp .ge 12, 3) := by decide +kernel
theorem dX0_slotAt_10 : decode cX0_slotAt 10 = .ok (.aload_n 0, 1) := by decide +kernel
theorem dX0_slotAt_11 : decode cX0_slotAt 11 = .ok (.getfield 11, 3) := by decide +kernel
theorem dX0_slotAt_14 : decode cX0_slotAt 14 = .ok (.iload_n 1, 1) := by decide +kernel
theorem dX0_slotAt_15 : decode cX0_slotAt 15 = .ok (.aaload, 1) := by decide +kernel
theorem dX0_slotAt_16 : decode cX0_slotAt 16 = .ok (.goto 4, 3) := by decide +kernel
theorem dX0_slotAt_19 : decode cX0_slotAt 19 = .ok (.aconst_null, 1) := by decide +kernel
theorem dX0_slotAt_20 : decode cX0_slotAt 20 = .ok (.areturn, 1) := by decide +kernel
theorem dX1_init_0 : decode cX1_init 0 = .ok (.aload_n 0, 1) := by decide +kernel
theorem dX1_init_1 : decode cX1_init 1 = .ok (.invokespecial 3, 3) := by decide +kernel
theorem dX1_init_4 : decode cX1_init 4 = .ok (.aload_n 0, 1) := by decide +kernel
theorem dX1_init_5 : decode cX1_init 5 = .ok (.bipush 6, 2) := by decide +kernel
theorem dX1_init_7 : decode cX1_init 7 = .ok (.newarray .int, 2) := by decide +kernel
theorem dX1_init_9 : decode cX1_init 9 = .ok (.putfield 9, 3) := by decide +kernel
theorem dX1_init_12 : decode cX1_init 12 = .ok (.aload_n 0, 1) := by decide +kernel
theorem dX1_init_13 : decode cX1_init 13 = .ok (.bipush 6, 2) := by decide +kernel
theorem dX1_init_15 : decode cX1_init 15 = .ok (.newarray .int, 2) := by decide +kernel
theorem dX1_init_17 : decode cX1_init 17 = .ok (.putfield 15, 3) := by decide +kernel
theorem dX1_init_20 : decode cX1_init 20 = .ok (.aload_n 0, 1) := by decide +kernel
theorem dX1_init_21 : decode cX1_init 21 = .ok (.bipush 6, 2) := by decide +kernel
theorem dX1_init_23 : decode cX1_init 23 = .ok (.newarray .int, 2) := by decide +kernel
theorem dX1_init_25 : decode cX1_init 25 = .ok (.putfield 18, 3) := by decide +kernel
theorem dX1_init_28 : decode cX1_init 28 = .ok (.aload_n 0, 1) := by decide +kernel
theorem dX1_init_29 : decode cX1_init 29 = .ok (.bipush 6, 2) := by decide +kernel
theorem dX1_init_31 : decode cX1_init 31 = .ok (.newarray .int, 2) := by decide +kernel
theorem dX1_init_33 : decode cX1_init 33 = .ok (.putfield 21, 3) := by decide +kernel
theorem dX1_init_36 : decode cX1_init 36 = .ok (.aload_n 0, 1) := by decide +kernel
theorem dX1_init_37 : decode cX1_init 37 = .ok (.iconst 0, 1) := by decide +kernel
theorem dX1_init_38 : decode cX1_init 38 = .ok (.putfield 24, 3) := by decide +kernel
theorem dX1_init_41 : decode cX1_init 41 = .ok (.aload_n 0, 1) := by decide +kernel
theorem dX1_init_42 : decode cX1_init 42 = .ok (.iconst 1, 1) := by decide +kernel
theorem dX1_init_43 : decode cX1_init 43 = .ok (.putfield 28, 3) := by decide +kernel
theorem dX1_init_46 : decode cX1_init 46 = .ok (.return_, 1) := by decide +kernel
theorem dX1_hasRay_0 : decode cX1_hasRay 0 = .ok (.iload_n 1, 1) := by decide +kernel
theorem dX1_hasRay_1 : decode cX1_hasRay 1 = .ok (.ifCond .lt 21, 3) := by decide +kernel
theorem dX1_hasRay_4 : decode cX1_hasRay 4 = .ok (.iload_n 1, 1) := by decide +kernel
theorem dX1_hasRay_5 : decode cX1_hasRay 5 = .ok (.aload_n 0, 1) := by decide +kernel
theorem dX1_hasRay_6 : decode cX1_hasRay 6 = .ok (.getfield 24, 3) := by decide +kernel
theorem dX1_hasRay_9 : decode cX1_hasRay 9 = .ok (.if_icmp .ge 13, 3) := by decide +kernel
theorem dX1_hasRay_12 : decode cX1_hasRay 12 = .ok (.iload_n 1, 1) := by decide +kernel
theorem dX1_hasRay_13 : decode cX1_hasRay 13 = .ok (.bipush 6, 2) := by decide +kernel
theorem dX1_hasRay_15 : decode cX1_hasRay 15 = .ok (.if_icmp .ge 7, 3) := by decide +kernel
theorem dX1_hasRay_18 : decode cX1_hasRay 18 = .ok (.iconst 1, 1) := by decide +kernel
theorem dX1_hasRay_19 : decode cX1_hasRay 19 = .ok (.goto 4, 3) := by decide +kernel
theorem dX1_hasRay_22 : decode cX1_hasRay 22 = .ok (.iconst 0, 1) := by decide +kernel
theorem dX1_hasRay_23 : decode cX1_hasRay 23 = .ok (.ireturn, 1) := by decide +kernel
theorem dX1_chambers_0 : decode cX1_chambers 0 = .ok (.iconst 0, 1) := by decide +kernel
theorem dX1_chambers_1 : decode cX1_chambers 1 = .ok (.aload_n 0, 1) := by decide +kernel
theorem dX1_chambers_2 : decode cX1_chambers 2 = .ok (.getfield 24, 3) := by decide +kernel
theorem dX1_chambers_5 : decode cX1_chambers 5 = .ok (.iconst 1, 1) := by decide +kernel
theorem dX1_chambers_6 : decode cX1_chambers 6 = .ok (.isub, 1) := by decide +kernel
theorem dX1_chambers_7 : decode cX1_chambers 7 = .ok (.invokestatic 31, 3) := by decide +kernel
theorem dX1_chambers_10 : decode cX1_chambers 10 = .ok (.ireturn, 1) := by decide +kernel
theorem dX1_hasFormulas_0 : decode cX1_hasFormulas 0 = .ok (.aload_n 0, 1) := by decide +kernel
theorem dX1_hasFormulas_1 : decode cX1_hasFormulas 1 = .ok (.invokevirtual 37, 3) := by decide +kernel
theorem dX1_hasFormulas_4 : decode cX1_hasFormulas 4 = .ok (.ifCond .le 16, 3) := by decide +kernel
theorem dX1_hasFormulas_7 : decode cX1_hasFormulas 7 = .ok (.aload_n 0, 1) := by decide +kernel
theorem dX1_hasFormulas_8 : decode cX1_hasFormulas 8 = .ok (.getfield 28, 3) := by decide +kernel
theorem dX1_hasFormulas_11 : decode cX1_hasFormulas 11 = .ok (.bipush 6, 2) := by decide +kernel
theorem dX1_hasFormulas_13 : decode cX1_hasFormulas 13 = .ok (.if_icmp .gt 7, 3) := by decide +kernel
theorem dX1_hasFormulas_16 : decode cX1_hasFormulas 16 = .ok (.iconst 1, 1) := by decide +kernel
theorem dX1_hasFormulas_17 : decode cX1_hasFormulas 17 = .ok (.goto 4, 3) := by decide +kernel
theorem dX1_hasFormulas_20 : decode cX1_hasFormulas 20 = .ok (.iconst 0, 1) := by decide +kernel
theorem dX1_hasFormulas_21 : decode cX1_hasFormulas 21 = .ok (.ireturn, 1) := by decide +kernel
theorem dX1_spread_0 : decode cX1_spread 0 = .ok (.aload_n 0, 1) := by decide +kernel
theorem dX1_spread_1 : decode cX1_spread 1 = .ok (.iconst 0, 1) := by decide +kernel
theorem dX1_spread_2 : decode cX1_spread 2 = .ok (.putfield 24, 3) := by decide +kernel
theorem dX1_spread_5 : decode cX1_spread 5 = .ok (.iconst 0, 1) := by decide +kernel
theorem dX1_spread_6 : decode cX1_spread 6 = .ok (.istore_n 2, 1) := by decide +kernel
theorem dX1_spread_7 : decode cX1_spread 7 = .ok (.iload_n 2, 1) := by decide +kernel
theorem dX1_spread_8 : decode cX1_spread 8 = .ok (.aload_n 1, 1) := by decide +kernel
theorem dX1_spread_9 : decode cX1_spread 9 = .ok (.getfield 41, 3) := by decide +kernel
theorem dX1_spread_12 : decode cX1_spread 12 = .ok (.if_icmp .ge 31, 3) := by decide +kernel
theorem dX1_spread_15 : decode cX1_spread 15 = .ok (.iload_n 2, 1) := by decide +kernel
theorem dX1_spread_16 : decode cX1_spread 16 = .ok (.bipush 6, 2) := by decide +kernel
theorem dX1_spread_18 : decode cX1_spread 18 = .ok (.if_icmp .ge 25, 3) := by decide +kernel
theorem dX1_spread_21 : decode cX1_spread 21 = .ok (.aload_n 0, 1) := by decide +kernel
theorem dX1_spread_22 : decode cX1_spread 22 = .ok (.aload_n 1, 1) := by decide +kernel
theorem dX1_spread_23 : decode cX1_spread 23 = .ok (.getfield 46, 3) := by decide +kernel
theorem dX1_spread_26 : decode cX1_spread 26 = .ok (.iload_n 2, 1) := by decide +kernel
theorem dX1_spread_27 : decode cX1_spread 27 = .ok (.iaload, 1) := by decide +kernel
theorem dX1_spread_28 : decode cX1_spread 28 = .ok (.aload_n 1, 1) := by decide +kernel
theorem dX1_spread_29 : decode cX1_spread 29 = .ok (.getfield 47, 3) := by decide +kernel
theorem dX1_spread_32 : decode cX1_spread 32 = .ok (.iload_n 2, 1) := by decide +kernel
theorem dX1_spread_33 : decode cX1_spread 33 = .ok (.iaload, 1) := by decide +kernel
theorem dX1_spread_34 : decode cX1_spread 34 = .ok (.invokevirtual 48, 3) := by decide +kernel
theorem dX1_spread_37 : decode cX1_spread 37 = .ok (.iinc 2 1, 3) := by decide +kernel
theorem dX1_spread_40 : decode cX1_spread 40 = .ok (.goto (-33), 3) := by decide +kernel
theorem dX1_spread_43 : decode cX1_spread 43 = .ok (.aload_n 0, 1) := by decide +kernel
theorem dX1_spread_44 : decode cX1_spread 44 = .ok (.getfield 18, 3) := by decide +kernel
theorem dX1_spread_47 : decode cX1_spread 47 = .ok (.iconst 0, 1) := by decide +kernel
theorem dX1_spread_48 : decode cX1_spread 48 = .ok (.invokestatic 52, 3) := by decide +kernel
theorem dX1_spread_51 : decode cX1_spread 51 = .ok (.iconst 0, 1) := by decide +kernel
theorem dX1_spread_52 : decode cX1_spread 52 = .ok (.istore_n 2, 1) := by decide +kernel
theorem dX1_spread_53 : decode cX1_spread 53 = .ok (.iload_n 2, 1) := by decide +kernel
theorem dX1_spread_54 : decode cX1_spread 54 = .ok (.aload_n 1, 1) := by decide +kernel
theorem dX1_spread_55 : decode cX1_spread 55 = .ok (.getfield 41, 3) := by decide +kernel
theorem dX1_spread_58 : decode cX1_spread 58 = .ok (.if_icmp .ge 59, 3) := by decide +kernel
theorem dX1_spread_61 : decode cX1_spread 61 = .ok (.iload_n 2, 1) := by decide +kernel
theorem dX1_spread_62 : decode cX1_spread 62 = .ok (.bipush 6, 2) := by decide +kernel
theorem dX1_spread_64 : decode cX1_spread 64 = .ok (.if_icmp .ge 53, 3) := by decide +kernel
theorem dX1_spread_67 : decode cX1_spread 67 = .ok (.aload_n 0, 1) := by decide +kernel
theorem dX1_spread_68 : decode cX1_spread 68 = .ok (.aload_n 1, 1) := by decide +kernel
theorem dX1_spread_69 : decode cX1_spread 69 = .ok (.getfield 46, 3) := by decide +kernel
theorem dX1_spread_72 : decode cX1_spread 72 = .ok (.iload_n 2, 1) := by decide +kernel
theorem dX1_spread_73 : decode cX1_spread 73 = .ok (.iaload, 1) := by decide +kernel
theorem dX1_spread_74 : decode cX1_spread 74 = .ok (.aload_n 1, 1) := by decide +kernel
theorem dX1_spread_75 : decode cX1_spread 75 = .ok (.getfield 47, 3) := by decide +kernel
theorem dX1_spread_78 : decode cX1_spread 78 = .ok (.iload_n 2, 1) := by decide +kernel
theorem dX1_spread_79 : decode cX1_spread 79 = .ok (.iaload, 1) := by decide +kernel
theorem dX1_spread_80 : decode cX1_spread 80 = .ok (.invokevirtual 58, 3) := by decide +kernel
theorem dX1_spread_83 : decode cX1_spread 83 = .ok (.istore_n 3, 1) := by decide +kernel
theorem dX1_spread_84 : decode cX1_spread 84 = .ok (.aload_n 0, 1) := by decide +kernel
theorem dX1_spread_85 : decode cX1_spread 85 = .ok (.getfield 21, 3) := by decide +kernel
theorem dX1_spread_88 : decode cX1_spread 88 = .ok (.iload_n 2, 1) := by decide +kernel
theorem dX1_spread_89 : decode cX1_spread 89 = .ok (.iload_n 3, 1) := by decide +kernel
theorem dX1_spread_90 : decode cX1_spread 90 = .ok (.iastore, 1) := by decide +kernel
theorem dX1_spread_91 : decode cX1_spread 91 = .ok (.iload_n 3, 1) := by decide +kernel
theorem dX1_spread_92 : decode cX1_spread 92 = .ok (.ifCond .lt 19, 3) := by decide +kernel
theorem dX1_spread_95 : decode cX1_spread 95 = .ok (.iload_n 3, 1) := by decide +kernel
theorem dX1_spread_96 : decode cX1_spread 96 = .ok (.bipush 6, 2) := by decide +kernel
theorem dX1_spread_98 : decode cX1_spread 98 = .ok (.if_icmp .ge 13, 3) := by decide +kernel
theorem dX1_spread_101 : decode cX1_spread 101 = .ok (.aload_n 0, 1) := by decide +kernel
theorem dX1_spread_102 : decode cX1_spread 102 = .ok (.getfield 18, 3) := by decide +kernel
theorem dX1_spread_105 : decode cX1_spread 105 = .ok (.iload_n 3, 1) := by decide +kernel
theorem dX1_spread_106 : decode cX1_spread 106 = .ok (.dup2, 1) := by decide +kernel
theorem dX1_spread_107 : decode cX1_spread 107 = .ok (.iaload, 1) := by decide +kernel
theorem dX1_spread_108 : decode cX1_spread 108 = .ok (.iconst 1, 1) := by decide +kernel
theorem dX1_spread_109 : decode cX1_spread 109 = .ok (.iadd, 1) := by decide +kernel
theorem dX1_spread_110 : decode cX1_spread 110 = .ok (.iastore, 1) := by decide +kernel
theorem dX1_spread_111 : decode cX1_spread 111 = .ok (.iinc 2 1, 3) := by decide +kernel
theorem dX1_spread_114 : decode cX1_spread 114 = .ok (.goto (-61), 3) := by decide +kernel
theorem dX1_spread_117 : decode cX1_spread 117 = .ok (.aload_n 0, 1) := by decide +kernel
theorem dX1_spread_118 : decode cX1_spread 118 = .ok (.aload_n 1, 1) := by decide +kernel
theorem dX1_spread_119 : decode cX1_spread 119 = .ok (.invokevirtual 61, 3) := by decide +kernel
theorem dX1_spread_122 : decode cX1_spread 122 = .ok (.return_, 1) := by decide +kernel
theorem dX1_addRay_0 : decode cX1_addRay 0 = .ok (.iconst 0, 1) := by decide +kernel
theorem dX1_addRay_1 : decode cX1_addRay 1 = .ok (.istore_n 3, 1) := by decide +kernel
theorem dX1_addRay_2 : decode cX1_addRay 2 = .ok (.iload_n 3, 1) := by decide +kernel
theorem dX1_addRay_3 : decode cX1_addRay 3 = .ok (.bipush 6, 2) := by decide +kernel
theorem dX1_addRay_5 : decode cX1_addRay 5 = .ok (.if_icmp .ge 37, 3) := by decide +kernel
theorem dX1_addRay_8 : decode cX1_addRay 8 = .ok (.aload_n 0, 1) := by decide +kernel
theorem dX1_addRay_9 : decode cX1_addRay 9 = .ok (.iload_n 3, 1) := by decide +kernel
theorem dX1_addRay_10 : decode cX1_addRay 10 = .ok (.invokevirtual 65, 3) := by decide +kernel
theorem dX1_addRay_13 : decode cX1_addRay 13 = .ok (.ifCond .eq 29, 3) := by decide +kernel
theorem dX1_addRay_16 : decode cX1_addRay 16 = .ok (.aload_n 0, 1) := by decide +kernel
theorem dX1_addRay_17 : decode cX1_addRay 17 = .ok (.getfield 9, 3) := by decide +kernel
theorem dX1_addRay_20 : decode cX1_addRay 20 = .ok (.iload_n 3, 1) := by decide +kernel
theorem dX1_addRay_21 : decode cX1_addRay 21 = .ok (.iaload, 1) := by decide +kernel
theorem dX1_addRay_22 : decode cX1_addRay 22 = .ok (.aload_n 0, 1) := by decide +kernel
theorem dX1_addRay_23 : decode cX1_addRay 23 = .ok (.getfield 15, 3) := by decide +kernel
theorem dX1_addRay_26 : decode cX1_addRay 26 = .ok (.iload_n 3, 1) := by decide +kernel
theorem dX1_addRay_27 : decode cX1_addRay 27 = .ok (.iaload, 1) := by decide +kernel
theorem dX1_addRay_28 : decode cX1_addRay 28 = .ok (.iload_n 1, 1) := by decide +kernel
theorem dX1_addRay_29 : decode cX1_addRay 29 = .ok (.iload_n 2, 1) := by decide +kernel
theorem dX1_addRay_30 : decode cX1_addRay 30 = .ok (.invokestatic 69, 3) := by decide +kernel
theorem dX1_addRay_33 : decode cX1_addRay 33 = .ok (.ifCond .le 9, 3) := by decide +kernel
theorem dX1_addRay_36 : decode cX1_addRay 36 = .ok (.iinc 3 1, 3) := by decide +kernel
theorem dX1_addRay_39 : decode cX1_addRay 39 = .ok (.goto (-37), 3) := by decide +kernel
theorem dX1_addRay_42 : decode cX1_addRay 42 = .ok (.aload_n 0, 1) := by decide +kernel
theorem dX1_addRay_43 : decode cX1_addRay 43 = .ok (.iload_n 3, 1) := by decide +kernel
theorem dX1_addRay_44 : decode cX1_addRay 44 = .ok (.invokevirtual 65, 3) := by decide +kernel
theorem dX1_addRay_47 : decode cX1_addRay 47 = .ok (.ifCond .eq 27, 3) := by decide +kernel
theorem dX1_addRay_50 : decode cX1_addRay 50 = .ok (.aload_n 0, 1) := by decide +kernel
theorem dX1_addRay_51 : decode cX1_addRay 51 = .ok (.getfield 9, 3) := by decide +kernel
theorem dX1_addRay_54 : decode cX1_addRay 54 = .ok (.iload_n 3, 1) := by decide +kernel
theorem dX1_addRay_55 : decode cX1_addRay 55 = .ok (.iaload, 1) := by decide +kernel
theorem dX1_addRay_56 : decode cX1_addRay 56 = .ok (.aload_n 0, 1) := by decide +kernel
theorem dX1_addRay_57 : decode cX1_addRay 57 = .ok (.getfield 15, 3) := by decide +kernel
theorem dX1_addRay_60 : decode cX1_addRay 60 = .ok (.iload_n 3, 1) := by decide +kernel
theorem dX1_addRay_61 : decode cX1_addRay 61 = .ok (.iaload, 1) := by decide +kernel
theorem dX1_addRay_62 : decode cX1_addRay 62 = .ok (.iload_n 1, 1) := by decide +kernel
theorem dX1_addRay_63 : decode cX1_addRay 63 = .ok (.iload_n 2, 1) := by decide +kernel
theorem dX1_addRay_64 : decode cX1_addRay 64 = .ok (.invokestatic 69, 3) := by decide +kernel
theorem dX1_addRay_67 : decode cX1_addRay 67 = .ok (.ifCond .ne 7, 3) := by decide +kernel
theorem dX1_addRay_70 : decode cX1_addRay 70 = .ok (.iconst 1, 1) := by decide +kernel
theorem dX1_addRay_71 : decode cX1_addRay 71 = .ok (.goto 4, 3) := by decide +kernel
theorem dX1_addRay_74 : decode cX1_addRay 74 = .ok (.iconst 0, 1) := by decide +kernel
theorem dX1_addRay_75 : decode cX1_addRay 75 = .ok (.istore 4, 2) := by decide +kernel
theorem dX1_addRay_77 : decode cX1_addRay 77 = .ok (.iload 4, 2) := by decide +kernel
theorem dX1_addRay_79 : decode cX1_addRay 79 = .ok (.ifCond .ne 19, 3) := by decide +kernel
theorem dX1_addRay_82 : decode cX1_addRay 82 = .ok (.aload_n 0, 1) := by decide +kernel
theorem dX1_addRay_83 : decode cX1_addRay 83 = .ok (.getfield 24, 3) := by decide +kernel
theorem dX1_addRay_86 : decode cX1_addRay 86 = .ok (.ifCond .lt 12, 3) := by decide +kernel
theorem dX1_addRay_89 : decode cX1_addRay 89 = .ok (.aload_n 0, 1) := by decide +kernel
theorem dX1_addRay_90 : decode cX1_addRay 90 = .ok (.getfield 24, 3) := by decide +kernel
theorem dX1_addRay_93 : decode cX1_addRay 93 = .ok (.bipush 6, 2) := by decide +kernel
theorem dX1_addRay_95 : decode cX1_addRay 95 = .ok (.if_icmp .lt 4, 3) := by decide +kernel
theorem dX1_addRay_98 : decode cX1_addRay 98 = .ok (.return_, 1) := by decide +kernel
theorem dX1_addRay_99 : decode cX1_addRay 99 = .ok (.aload_n 0, 1) := by decide +kernel
theorem dX1_addRay_100 : decode cX1_addRay 100 = .ok (.getfield 24, 3) := by decide +kernel
theorem dX1_addRay_103 : decode cX1_addRay 103 = .ok (.istore 5, 2) := by decide +kernel
theorem dX1_addRay_105 : decode cX1_addRay 105 = .ok (.iload 5, 2) := by decide +kernel
theorem dX1_addRay_107 : decode cX1_addRay 107 = .ok (.iload_n 3, 1) := by decide +kernel
theorem dX1_addRay_108 : decode cX1_addRay 108 = .ok (.if_icmp .le 46, 3) := by decide +kernel
theorem dX1_addRay_111 : decode cX1_addRay 111 = .ok (.iload 5, 2) := by decide +kernel
theorem dX1_addRay_113 : decode cX1_addRay 113 = .ok (.ifCond .le 41, 3) := by decide +kernel
theorem dX1_addRay_116 : decode cX1_addRay 116 = .ok (.aload_n 0, 1) := by decide +kernel
theorem dX1_addRay_117 : decode cX1_addRay 117 = .ok (.getfield 9, 3) := by decide +kernel
theorem dX1_addRay_120 : decode cX1_addRay 120 = .ok (.iload 5, 2) := by decide +kernel
theorem dX1_addRay_122 : decode cX1_addRay 122 = .ok (.aload_n 0, 1) := by decide +kernel
theorem dX1_addRay_123 : decode cX1_addRay 123 = .ok (.getfield 9, 3) := by decide +kernel
theorem dX1_addRay_126 : decode cX1_addRay 126 = .ok (.iload 5, 2) := by decide +kernel
theorem dX1_addRay_128 : decode cX1_addRay 128 = .ok (.iconst 1, 1) := by decide +kernel
theorem dX1_addRay_129 : decode cX1_addRay 129 = .ok (.isub, 1) := by decide +kernel
theorem dX1_addRay_130 : decode cX1_addRay 130 = .ok (.iaload, 1) := by decide +kernel
theorem dX1_addRay_131 : decode cX1_addRay 131 = .ok (.iastore, 1) := by decide +kernel
theorem dX1_addRay_132 : decode cX1_addRay 132 = .ok (.aload_n 0, 1) := by decide +kernel
theorem dX1_addRay_133 : decode cX1_addRay 133 = .ok (.getfield 15, 3) := by decide +kernel
theorem dX1_addRay_136 : decode cX1_addRay 136 = .ok (.iload 5, 2) := by decide +kernel
theorem dX1_addRay_138 : decode cX1_addRay 138 = .ok (.aload_n 0, 1) := by decide +kernel
theorem dX1_addRay_139 : decode cX1_addRay 139 = .ok (.getfield 15, 3) := by decide +kernel
theorem dX1_addRay_142 : decode cX1_addRay 142 = .ok (.iload 5, 2) := by decide +kernel
theorem dX1_addRay_144 : decode cX1_addRay 144 = .ok (.iconst 1, 1) := by decide +kernel
theorem dX1_addRay_145 : decode cX1_addRay 145 = .ok (.isub, 1) := by decide +kernel
theorem dX1_addRay_146 : decode cX1_addRay 146 = .ok (.iaload, 1) := by decide +kernel
theorem dX1_addRay_147 : decode cX1_addRay 147 = .ok (.iastore, 1) := by decide +kernel
theorem dX1_addRay_148 : decode cX1_addRay 148 = .ok (.iinc 5 (-1), 3) := by decide +kernel
theorem dX1_addRay_151 : decode cX1_addRay 151 = .ok (.goto (-46), 3) := by decide +kernel
theorem dX1_addRay_154 : decode cX1_addRay 154 = .ok (.iload_n 1, 1) := by decide +kernel
theorem dX1_addRay_155 : decode cX1_addRay 155 = .ok (.iload_n 2, 1) := by decide +kernel
theorem dX1_addRay_156 : decode cX1_addRay 156 = .ok (.invokestatic 73, 3) := by decide +kernel
theorem dX1_addRay_159 : decode cX1_addRay 159 = .ok (.istore 5, 2) := by decide +kernel
theorem dX1_addRay_161 : decode cX1_addRay 161 = .ok (.aload_n 0, 1) := by decide +kernel
theorem dX1_addRay_162 : decode cX1_addRay 162 = .ok (.getfield 9, 3) := by decide +kernel
theorem dX1_addRay_165 : decode cX1_addRay 165 = .ok (.iload_n 3, 1) := by decide +kernel
theorem dX1_addRay_166 : decode cX1_addRay 166 = .ok (.iload 5, 2) := by decide +kernel
theorem dX1_addRay_168 : decode cX1_addRay 168 = .ok (.iconst 1, 1) := by decide +kernel
theorem dX1_addRay_169 : decode cX1_addRay 169 = .ok (.if_icmp .ge 7, 3) := by decide +kernel
theorem dX1_addRay_172 : decode cX1_addRay 172 = .ok (.iload_n 1, 1) := by decide +kernel
theorem dX1_addRay_173 : decode cX1_addRay 173 = .ok (.goto 7, 3) := by decide +kernel
theorem dX1_addRay_176 : decode cX1_addRay 176 = .ok (.iload_n 1, 1) := by decide +kernel
theorem dX1_addRay_177 : decode cX1_addRay 177 = .ok (.iload 5, 2) := by decide +kernel
theorem dX1_addRay_179 : decode cX1_addRay 179 = .ok (.idiv, 1) := by decide +kernel
theorem dX1_addRay_180 : decode cX1_addRay 180 = .ok (.iastore, 1) := by decide +kernel
theorem dX1_addRay_181 : decode cX1_addRay 181 = .ok (.aload_n 0, 1) := by decide +kernel
theorem dX1_addRay_182 : decode cX1_addRay 182 = .ok (.getfield 15, 3) := by decide +kernel
theorem dX1_addRay_185 : decode cX1_addRay 185 = .ok (.iload_n 3, 1) := by decide +kernel
theorem dX1_addRay_186 : decode cX1_addRay 186 = .ok (.iload 5, 2) := by decide +kernel
theorem dX1_addRay_188 : decode cX1_addRay 188 = .ok (.iconst 1, 1) := by decide +kernel
theorem dX1_addRay_189 : decode cX1_addRay 189 = .ok (.if_icmp .ge 7, 3) := by decide +kernel
theorem dX1_addRay_192 : decode cX1_addRay 192 = .ok (.iload_n 2, 1) := by decide +kernel
theorem dX1_addRay_193 : decode cX1_addRay 193 = .ok (.goto 7, 3) := by decide +kernel
theorem dX1_addRay_196 : decode cX1_addRay 196 = .ok (.iload_n 2, 1) := by decide +kernel
theorem dX1_addRay_197 : decode cX1_addRay 197 = .ok (.iload 5, 2) := by decide +kernel
theorem dX1_addRay_199 : decode cX1_addRay 199 = .ok (.idiv, 1) := by decide +kernel
theorem dX1_addRay_200 : decode cX1_addRay 200 = .ok (.iastore, 1) := by decide +kernel
theorem dX1_addRay_201 : decode cX1_addRay 201 = .ok (.aload_n 0, 1) := by decide +kernel
theorem dX1_addRay_202 : decode cX1_addRay 202 = .ok (.dup, 1) := by decide +kernel
theorem dX1_addRay_203 : decode cX1_addRay 203 = .ok (.getfield 24, 3) := by decide +kernel
theorem dX1_addRay_206 : decode cX1_addRay 206 = .ok (.iconst 1, 1) := by decide +kernel
theorem dX1_addRay_207 : decode cX1_addRay 207 = .ok (.iadd, 1) := by decide +kernel
theorem dX1_addRay_208 : decode cX1_addRay 208 = .ok (.putfield 24, 3) := by decide +kernel
theorem dX1_addRay_211 : decode cX1_addRay 211 = .ok (.return_, 1) := by decide +kernel
theorem dX1_rayTowards_0 : decode cX1_rayTowards 0 = .ok (.iconst 0, 1) := by decide +kernel
theorem dX1_rayTowards_1 : decode cX1_rayTowards 1 = .ok (.istore_n 3, 1) := by decide +kernel
theorem dX1_rayTowards_2 : decode cX1_rayTowards 2 = .ok (.iload_n 3, 1) := by decide +kernel
theorem dX1_rayTowards_3 : decode cX1_rayTowards 3 = .ok (.bipush 6, 2) := by decide +kernel
theorem dX1_rayTowards_5 : decode cX1_rayTowards 5 = .ok (.if_icmp .ge 39, 3) := by decide +kernel
theorem dX1_rayTowards_8 : decode cX1_rayTowards 8 = .ok (.aload_n 0, 1) := by decide +kernel
theorem dX1_rayTowards_9 : decode cX1_rayTowards 9 = .ok (.iload_n 3, 1) := by decide +kernel
theorem dX1_rayTowards_10 : decode cX1_rayTowards 10 = .ok (.invokevirtual 65, 3) := by decide +kernel
theorem dX1_rayTowards_13 : decode cX1_rayTowards 13 = .ok (.ifCond .eq 31, 3) := by decide +kernel
theorem dX1_rayTowards_16 : decode cX1_rayTowards 16 = .ok (.aload_n 0, 1) := by decide +kernel
theorem dX1_rayTowards_17 : decode cX1_rayTowards 17 = .ok (.getfield 9, 3) := by decide +kernel
theorem dX1_rayTowards_20 : decode cX1_rayTowards 20 = .ok (.iload_n 3, 1) := by decide +kernel
theorem dX1_rayTowards_21 : decode cX1_rayTowards 21 = .ok (.iaload, 1) := by decide +kernel
theorem dX1_rayTowards_22 : decode cX1_rayTowards 22 = .ok (.aload_n 0, 1) := by decide +kernel
theorem dX1_rayTowards_23 : decode cX1_rayTowards 23 = .ok (.getfield 15, 3) := by decide +kernel
theorem dX1_rayTowards_26 : decode cX1_rayTowards 26 = .ok (.iload_n 3, 1) := by decide +kernel
theorem dX1_rayTowards_27 : decode cX1_rayTowards 27 = .ok (.iaload, 1) := by decide +kernel
theorem dX1_rayTowards_28 : decode cX1_rayTowards 28 = .ok (.iload_n 1, 1) := by decide +kernel
theorem dX1_rayTowards_29 : decode cX1_rayTowards 29 = .ok (.iload_n 2, 1) := by decide +kernel
theorem dX1_rayTowards_30 : decode cX1_rayTowards 30 = .ok (.invokestatic 69, 3) := by decide +kernel
theorem dX1_rayTowards_33 : decode cX1_rayTowards 33 = .ok (.ifCond .ne 5, 3) := by decide +kernel
theorem dX1_rayTowards_36 : decode cX1_rayTowards 36 = .ok (.iload_n 3, 1) := by decide +kernel
theorem dX1_rayTowards_37 : decode cX1_rayTowards 37 = .ok (.ireturn, 1) := by decide +kernel
theorem dX1_rayTowards_38 : decode cX1_rayTowards 38 = .ok (.iinc 3 1, 3) := by decide +kernel
theorem dX1_rayTowards_41 : decode cX1_rayTowards 41 = .ok (.goto (-39), 3) := by decide +kernel
theorem dX1_rayTowards_44 : decode cX1_rayTowards 44 = .ok (.iconst 0, 1) := by decide +kernel
theorem dX1_rayTowards_45 : decode cX1_rayTowards 45 = .ok (.ireturn, 1) := by decide +kernel
theorem dX1_findPeriod_0 : decode cX1_findPeriod 0 = .ok (.aload_n 0, 1) := by decide +kernel
theorem dX1_findPeriod_1 : decode cX1_findPeriod 1 = .ok (.iconst 1, 1) := by decide +kernel
theorem dX1_findPeriod_2 : decode cX1_findPeriod 2 = .ok (.putfield 28, 3) := by decide +kernel
theorem dX1_findPeriod_5 : decode cX1_findPeriod 5 = .ok (.iconst 0, 1) := by decide +kernel
theorem dX1_findPeriod_6 : decode cX1_findPeriod 6 = .ok (.istore_n 2, 1) := by decide +kernel
theorem dX1_findPeriod_7 : decode cX1_findPeriod 7 = .ok (.iload_n 2, 1) := by decide +kernel
theorem dX1_findPeriod_8 : decode cX1_findPeriod 8 = .ok (.aload_n 1, 1) := by decide +kernel
theorem dX1_findPeriod_9 : decode cX1_findPeriod 9 = .ok (.getfield 41, 3) := by decide +kernel
theorem dX1_findPeriod_12 : decode cX1_findPeriod 12 = .ok (.if_icmp .ge 69, 3) := by decide +kernel
theorem dX1_findPeriod_15 : decode cX1_findPeriod 15 = .ok (.iload_n 2, 1) := by decide +kernel
theorem dX1_findPeriod_16 : decode cX1_findPeriod 16 = .ok (.bipush 6, 2) := by decide +kernel
theorem dX1_findPeriod_18 : decode cX1_findPeriod 18 = .ok (.if_icmp .ge 63, 3) := by decide +kernel
theorem dX1_findPeriod_21 : decode cX1_findPeriod 21 = .ok (.iconst 0, 1) := by decide +kernel
theorem dX1_findPeriod_22 : decode cX1_findPeriod 22 = .ok (.istore_n 3, 1) := by decide +kernel
theorem dX1_findPeriod_23 : decode cX1_findPeriod 23 = .ok (.iload_n 3, 1) := by decide +kernel
theorem dX1_findPeriod_24 : decode cX1_findPeriod 24 = .ok (.iload_n 2, 1) := by decide +kernel
theorem dX1_findPeriod_25 : decode cX1_findPeriod 25 = .ok (.if_icmp .ge 50, 3) := by decide +kernel
theorem dX1_findPeriod_28 : decode cX1_findPeriod 28 = .ok (.aload_n 0, 1) := by decide +kernel
theorem dX1_findPeriod_29 : decode cX1_findPeriod 29 = .ok (.aload_n 0, 1) := by decide +kernel
theorem dX1_findPeriod_30 : decode cX1_findPeriod 30 = .ok (.getfield 28, 3) := by decide +kernel
theorem dX1_findPeriod_33 : decode cX1_findPeriod 33 = .ok (.aload_n 1, 1) := by decide +kernel
theorem dX1_findPeriod_34 : decode cX1_findPeriod 34 = .ok (.getfield 46, 3) := by decide +kernel
theorem dX1_findPeriod_37 : decode cX1_findPeriod 37 = .ok (.iload_n 2, 1) := by decide +kernel
theorem dX1_findPeriod_38 : decode cX1_findPeriod 38 = .ok (.iaload, 1) := by decide +kernel
theorem dX1_findPeriod_39 : decode cX1_findPeriod 39 = .ok (.aload_n 1, 1) := by decide +kernel
theorem dX1_findPeriod_40 : decode cX1_findPeriod 40 = .ok (.getfield 47, 3) := by decide +kernel
theorem dX1_findPeriod_43 : decode cX1_findPeriod 43 = .ok (.iload_n 2, 1) := by decide +kernel
theorem dX1_findPeriod_44 : decode cX1_findPeriod 44 = .ok (.iaload, 1) := by decide +kernel
theorem dX1_findPeriod_45 : decode cX1_findPeriod 45 = .ok (.aload_n 1, 1) := by decide +kernel
theorem dX1_findPeriod_46 : decode cX1_findPeriod 46 = .ok (.getfield 46, 3) := by decide +kernel
theorem dX1_findPeriod_49 : decode cX1_findPeriod 49 = .ok (.iload_n 3, 1) := by decide +kernel
theorem dX1_findPeriod_50 : decode cX1_findPeriod 50 = .ok (.iaload, 1) := by decide +kernel
theorem dX1_findPeriod_51 : decode cX1_findPeriod 51 = .ok (.aload_n 1, 1) := by decide +kernel
theorem dX1_findPeriod_52 : decode cX1_findPeriod 52 = .ok (.getfield 47, 3) := by decide +kernel
theorem dX1_findPeriod_55 : decode cX1_findPeriod 55 = .ok (.iload_n 3, 1) := by decide +kernel
theorem dX1_findPeriod_56 : decode cX1_findPeriod 56 = .ok (.iaload, 1) := by decide +kernel
theorem dX1_findPeriod_57 : decode cX1_findPeriod 57 = .ok (.invokestatic 69, 3) := by decide +kernel
theorem dX1_findPeriod_60 : decode cX1_findPeriod 60 = .ok (.invokestatic 76, 3) := by decide +kernel
theorem dX1_findPeriod_63 : decode cX1_findPeriod 63 = .ok (.invokestatic 80, 3) := by decide +kernel
theorem dX1_findPeriod_66 : decode cX1_findPeriod 66 = .ok (.putfield 28, 3) := by decide +kernel
theorem dX1_findPeriod_69 : decode cX1_findPeriod 69 = .ok (.iinc 3 1, 3) := by decide +kernel
theorem dX1_findPeriod_72 : decode cX1_findPeriod 72 = .ok (.goto (-49), 3) := by decide +kernel
theorem dX1_findPeriod_75 : decode cX1_findPeriod 75 = .ok (.iinc 2 1, 3) := by decide +kernel
theorem dX1_findPeriod_78 : decode cX1_findPeriod 78 = .ok (.goto (-71), 3) := by decide +kernel
theorem dX1_findPeriod_81 : decode cX1_findPeriod 81 = .ok (.return_, 1) := by decide +kernel
theorem dX1_size_0 : decode cX1_size 0 = .ok (.aload_n 0, 1) := by decide +kernel
theorem dX1_size_1 : decode cX1_size 1 = .ok (.iload_n 1, 1) := by decide +kernel
theorem dX1_size_2 : decode cX1_size 2 = .ok (.invokevirtual 65, 3) := by decide +kernel
theorem dX1_size_5 : decode cX1_size 5 = .ok (.ifCond .eq 13, 3) := by decide +kernel
theorem dX1_size_8 : decode cX1_size 8 = .ok (.aload_n 0, 1) := by decide +kernel
theorem dX1_size_9 : decode cX1_size 9 = .ok (.iload_n 1, 1) := by decide +kernel
theorem dX1_size_10 : decode cX1_size 10 = .ok (.iconst 1, 1) := by decide +kernel
theorem dX1_size_11 : decode cX1_size 11 = .ok (.iadd, 1) := by decide +kernel
theorem dX1_size_12 : decode cX1_size 12 = .ok (.invokevirtual 65, 3) := by decide +kernel
theorem dX1_size_15 : decode cX1_size 15 = .ok (.ifCond .ne 5, 3) := by decide +kernel
theorem dX1_size_18 : decode cX1_size 18 = .ok (.iconst 0, 1) := by decide +kernel
theorem dX1_size_19 : decode cX1_size 19 = .ok (.ireturn, 1) := by decide +kernel
theorem dX1_size_20 : decode cX1_size 20 = .ok (.aload_n 0, 1) := by decide +kernel
theorem dX1_size_21 : decode cX1_size 21 = .ok (.getfield 9, 3) := by decide +kernel
theorem dX1_size_24 : decode cX1_size 24 = .ok (.iload_n 1, 1) := by decide +kernel
theorem dX1_size_25 : decode cX1_size 25 = .ok (.iaload, 1) := by decide +kernel
theorem dX1_size_26 : decode cX1_size 26 = .ok (.aload_n 0, 1) := by decide +kernel
theorem dX1_size_27 : decode cX1_size 27 = .ok (.getfield 15, 3) := by decide +kernel
theorem dX1_size_30 : decode cX1_size 30 = .ok (.iload_n 1, 1) := by decide +kernel
theorem dX1_size_31 : decode cX1_size 31 = .ok (.iaload, 1) := by decide +kernel
theorem dX1_size_32 : decode cX1_size 32 = .ok (.aload_n 0, 1) := by decide +kernel
theorem dX1_size_33 : decode cX1_size 33 = .ok (.getfield 9, 3) := by decide +kernel
theorem dX1_size_36 : decode cX1_size 36 = .ok (.iload_n 1, 1) := by decide +kernel
theorem dX1_size_37 : decode cX1_size 37 = .ok (.iconst 1, 1) := by decide +kernel
theorem dX1_size_38 : decode cX1_size 38 = .ok (.iadd, 1) := by decide +kernel
theorem dX1_size_39 : decode cX1_size 39 = .ok (.iaload, 1) := by decide +kernel
theorem dX1_size_40 : decode cX1_size 40 = .ok (.aload_n 0, 1) := by decide +kernel
theorem dX1_size_41 : decode cX1_size 41 = .ok (.getfield 15, 3) := by decide +kernel
theorem dX1_size_44 : decode cX1_size 44 = .ok (.iload_n 1, 1) := by decide +kernel
theorem dX1_size_45 : decode cX1_size 45 = .ok (.iconst 1, 1) := by decide +kernel
theorem dX1_size_46 : decode cX1_size 46 = .ok (.iadd, 1) := by decide +kernel
theorem dX1_size_47 : decode cX1_size 47 = .ok (.iaload, 1) := by decide +kernel
theorem dX1_size_48 : decode cX1_size 48 = .ok (.invokestatic 69, 3) := by decide +kernel
theorem dX1_size_51 : decode cX1_size 51 = .ok (.ireturn, 1) := by decide +kernel
theorem dX1_firstSpan_0 : decode cX1_firstSpan 0 = .ok (.aload_n 0, 1) := by decide +kernel
theorem dX1_firstSpan_1 : decode cX1_firstSpan 1 = .ok (.iload_n 1, 1) := by decide +kernel
theorem dX1_firstSpan_2 : decode cX1_firstSpan 2 = .ok (.iconst 1, 1) := by decide +kernel
theorem dX1_firstSpan_3 : decode cX1_firstSpan 3 = .ok (.iadd, 1) := by decide +kernel
theorem dX1_firstSpan_4 : decode cX1_firstSpan 4 = .ok (.invokevirtual 65, 3) := by decide +kernel
theorem dX1_firstSpan_7 : decode cX1_firstSpan 7 = .ok (.ifCond .ne 5, 3) := by decide +kernel
theorem dX1_firstSpan_10 : decode cX1_firstSpan 10 = .ok (.iconst 0, 1) := by decide +kernel
theorem dX1_firstSpan_11 : decode cX1_firstSpan 11 = .ok (.ireturn, 1) := by decide +kernel
theorem dX1_firstSpan_12 : decode cX1_firstSpan 12 = .ok (.iload_n 2, 1) := by decide +kernel
theorem dX1_firstSpan_13 : decode cX1_firstSpan 13 = .ok (.iload_n 3, 1) := by decide +kernel
theorem dX1_firstSpan_14 : decode cX1_firstSpan 14 = .ok (.aload_n 0, 1) := by decide +kernel
theorem dX1_firstSpan_15 : decode cX1_firstSpan 15 = .ok (.getfield 9, 3) := by decide +kernel
theorem dX1_firstSpan_18 : decode cX1_firstSpan 18 = .ok (.iload_n 1, 1) := by decide +kernel
theorem dX1_firstSpan_19 : decode cX1_firstSpan 19 = .ok (.iconst 1, 1) := by decide +kernel
theorem dX1_firstSpan_20 : decode cX1_firstSpan 20 = .ok (.iadd, 1) := by decide +kernel
theorem dX1_firstSpan_21 : decode cX1_firstSpan 21 = .ok (.iaload, 1) := by decide +kernel
theorem dX1_firstSpan_22 : decode cX1_firstSpan 22 = .ok (.aload_n 0, 1) := by decide +kernel
theorem dX1_firstSpan_23 : decode cX1_firstSpan 23 = .ok (.getfield 15, 3) := by decide +kernel
theorem dX1_firstSpan_26 : decode cX1_firstSpan 26 = .ok (.iload_n 1, 1) := by decide +kernel
theorem dX1_firstSpan_27 : decode cX1_firstSpan 27 = .ok (.iconst 1, 1) := by decide +kernel
theorem dX1_firstSpan_28 : decode cX1_firstSpan 28 = .ok (.iadd, 1) := by decide +kernel
theorem dX1_firstSpan_29 : decode cX1_firstSpan 29 = .ok (.iaload, 1) := by decide +kernel
theorem dX1_firstSpan_30 : decode cX1_firstSpan 30 = .ok (.invokestatic 69, 3) := by decide +kernel
theorem dX1_firstSpan_33 : decode cX1_firstSpan 33 = .ok (.ireturn, 1) := by decide +kernel
theorem dX1_secondSpan_0 : decode cX1_secondSpan 0 = .ok (.aload_n 0, 1) := by decide +kernel
theorem dX1_secondSpan_1 : decode cX1_secondSpan 1 = .ok (.iload_n 1, 1) := by decide +kernel
theorem dX1_secondSpan_2 : decode cX1_secondSpan 2 = .ok (.invokevirtual 65, 3) := by decide +kernel
theorem dX1_secondSpan_5 : decode cX1_secondSpan 5 = .ok (.ifCond .ne 5, 3) := by decide +kernel
theorem dX1_secondSpan_8 : decode cX1_secondSpan 8 = .ok (.iconst 0, 1) := by decide +kernel
theorem dX1_secondSpan_9 : decode cX1_secondSpan 9 = .ok (.ireturn, 1) := by decide +kernel
theorem dX1_secondSpan_10 : decode cX1_secondSpan 10 = .ok (.aload_n 0, 1) := by decide +kernel
theorem dX1_secondSpan_11 : decode cX1_secondSpan 11 = .ok (.getfield 9, 3) := by decide +kernel
theorem dX1_secondSpan_14 : decode cX1_secondSpan 14 = .ok (.iload_n 1, 1) := by decide +kernel
theorem dX1_secondSpan_15 : decode cX1_secondSpan 15 = .ok (.iaload, 1) := by decide +kernel
theorem dX1_secondSpan_16 : decode cX1_secondSpan 16 = .ok (.aload_n 0, 1) := by decide +kernel
theorem dX1_secondSpan_17 : decode cX1_secondSpan 17 = .ok (.getfield 15, 3) := by decide +kernel
theorem dX1_secondSpan_20 : decode cX1_secondSpan 20 = .ok (.iload_n 1, 1) := by decide +kernel
theorem dX1_secondSpan_21 : decode cX1_secondSpan 21 = .ok (.iaload, 1) := by decide +kernel
theorem dX1_secondSpan_22 : decode cX1_secondSpan 22 = .ok (.iload_n 2, 1) := by decide +kernel
theorem dX1_secondSpan_23 : decode cX1_secondSpan 23 = .ok (.iload_n 3, 1) := by decide +kernel
theorem dX1_secondSpan_24 : decode cX1_secondSpan 24 = .ok (.invokestatic 69, 3) := by decide +kernel
theorem dX1_secondSpan_27 : decode cX1_secondSpan 27 = .ok (.ireturn, 1) := by decide +kernel
theorem dX1_turn_0 : decode cX1_turn 0 = .ok (.iload_n 0, 1) := by decide +kernel
theorem dX1_turn_1 : decode cX1_turn 1 = .ok (.iload_n 3, 1) := by decide +kernel
theorem dX1_turn_2 : decode cX1_turn 2 = .ok (.imul, 1) := by decide +kernel
theorem dX1_turn_3 : decode cX1_turn 3 = .ok (.iload_n 1, 1) := by decide +kernel
theorem dX1_turn_4 : decode cX1_turn 4 = .ok (.iload_n 2, 1) := by decide +kernel
theorem dX1_turn_5 : decode cX1_turn 5 = .ok (.imul, 1) := by decide +kernel
theorem dX1_turn_6 : decode cX1_turn 6 = .ok (.isub, 1) := by decide +kernel
theorem dX1_turn_7 : decode cX1_turn 7 = .ok (.ireturn, 1) := by decide +kernel
theorem dX1_commonDivisor_0 : decode cX1_commonDivisor 0 = .ok (.iconst 4, 1) := by decide +kernel
theorem dX1_commonDivisor_1 : decode cX1_commonDivisor 1 = .ok (.istore_n 2, 1) := by decide +kernel
theorem dX1_commonDivisor_2 : decode cX1_commonDivisor 2 = .ok (.iload_n 2, 1) := by decide +kernel
theorem dX1_commonDivisor_3 : decode cX1_commonDivisor 3 = .ok (.iconst 1, 1) := by decide +kernel
theorem dX1_commonDivisor_4 : decode cX1_commonDivisor 4 = .ok (.if_icmp .le 23, 3) := by decide +kernel
theorem dX1_commonDivisor_7 : decode cX1_commonDivisor 7 = .ok (.iload_n 0, 1) := by decide +kernel
theorem dX1_commonDivisor_8 : decode cX1_commonDivisor 8 = .ok (.iload_n 2, 1) := by decide +kernel
theorem dX1_commonDivisor_9 : decode cX1_commonDivisor 9 = .ok (.irem, 1) := by decide +kernel
theorem dX1_commonDivisor_10 : decode cX1_commonDivisor 10 = .ok (.ifCond .ne 11, 3) := by decide +kernel
theorem dX1_commonDivisor_13 : decode cX1_commonDivisor 13 = .ok (.iload_n 1, 1) := by decide +kernel
theorem dX1_commonDivisor_14 : decode cX1_commonDivisor 14 = .ok (.iload_n 2, 1) := by decide +kernel
theorem dX1_commonDivisor_15 : decode cX1_commonDivisor 15 = .ok (.irem, 1) := by decide +kernel
theorem dX1_commonDivisor_16 : decode cX1_commonDivisor 16 = .ok (.ifCond .ne 5, 3) := by decide +kernel
theorem dX1_commonDivisor_19 : decode cX1_commonDivisor 19 = .ok (.iload_n 2, 1) := by decide +kernel
theorem dX1_commonDivisor_20 : decode cX1_commonDivisor 20 = .ok (.ireturn, 1) := by decide +kernel
theorem dX1_commonDivisor_21 : decode cX1_commonDivisor 21 = .ok (.iinc 2 (-1), 3) := by decide +kernel
theorem dX1_commonDivisor_24 : decode cX1_commonDivisor 24 = .ok (.goto (-22), 3) := by decide +kernel
theorem dX1_commonDivisor_27 : decode cX1_commonDivisor 27 = .ok (.iconst 1, 1) := by decide +kernel
theorem dX1_commonDivisor_28 : decode cX1_commonDivisor 28 = .ok (.ireturn, 1) := by decide +kernel
theorem dX1_commonMultiple_0 : decode cX1_commonMultiple 0 = .ok (.iload_n 1, 1) := by decide +kernel
theorem dX1_commonMultiple_1 : decode cX1_commonMultiple 1 = .ok (.iconst 1, 1) := by decide +kernel
theorem dX1_commonMultiple_2 : decode cX1_commonMultiple 2 = .ok (.if_icmp .ge 5, 3) := by decide +kernel
theorem dX1_commonMultiple_5 : decode cX1_commonMultiple 5 = .ok (.iload_n 0, 1) := by decide +kernel
theorem dX1_commonMultiple_6 : decode cX1_commonMultiple 6 = .ok (.ireturn, 1) := by decide +kernel
theorem dX1_commonMultiple_7 : decode cX1_commonMultiple 7 = .ok (.iconst 1, 1) := by decide +kernel
theorem dX1_commonMultiple_8 : decode cX1_commonMultiple 8 = .ok (.istore_n 2, 1) := by decide +kernel
theorem dX1_commonMultiple_9 : decode cX1_commonMultiple 9 = .ok (.iload_n 2, 1) := by decide +kernel
theorem dX1_commonMultiple_10 : decode cX1_commonMultiple 10 = .ok (.iload_n 1, 1) := by decide +kernel
theorem dX1_commonMultiple_11 : decode cX1_commonMultiple 11 = .ok (.if_icmp .ge 21, 3) := by decide +kernel
theorem dX1_commonMultiple_14 : decode cX1_commonMultiple 14 = .ok (.iload_n 0, 1) := by decide +kernel
theorem dX1_commonMultiple_15 : decode cX1_commonMultiple 15 = .ok (.iload_n 2, 1) := by decide +kernel
theorem dX1_commonMultiple_16 : decode cX1_commonMultiple 16 = .ok (.imul, 1) := by decide +kernel
theorem dX1_commonMultiple_17 : decode cX1_commonMultiple 17 = .ok (.iload_n 1, 1) := by decide +kernel
theorem dX1_commonMultiple_18 : decode cX1_commonMultiple 18 = .ok (.irem, 1) := by decide +kernel
theorem dX1_commonMultiple_19 : decode cX1_commonMultiple 19 = .ok (.ifCond .ne 7, 3) := by decide +kernel
theorem dX1_commonMultiple_22 : decode cX1_commonMultiple 22 = .ok (.iload_n 0, 1) := by decide +kernel
theorem dX1_commonMultiple_23 : decode cX1_commonMultiple 23 = .ok (.iload_n 2, 1) := by decide +kernel
theorem dX1_commonMultiple_24 : decode cX1_commonMultiple 24 = .ok (.imul, 1) := by decide +kernel
theorem dX1_commonMultiple_25 : decode cX1_commonMultiple 25 = .ok (.ireturn, 1) := by decide +kernel
theorem dX1_commonMultiple_26 : decode cX1_commonMultiple 26 = .ok (.iinc 2 1, 3) := by decide +kernel
theorem dX1_commonMultiple_29 : decode cX1_commonMultiple 29 = .ok (.goto (-20), 3) := by decide +kernel
theorem dX1_commonMultiple_32 : decode cX1_commonMultiple 32 = .ok (.iload_n 0, 1) := by decide +kernel
theorem dX1_commonMultiple_33 : decode cX1_commonMultiple 33 = .ok (.iload_n 1, 1) := by decide +kernel
theorem dX1_commonMultiple_34 : decode cX1_commonMultiple 34 = .ok (.imul, 1) := by decide +kernel
theorem dX1_commonMultiple_35 : decode cX1_commonMultiple 35 = .ok (.ireturn, 1) := by decide +kernel
theorem dX2_init_0 : decode cX2_init 0 = .ok (.aload_n 0, 1) := by decide +kernel
theorem dX2_init_1 : decode cX2_init 1 = .ok (.invokespecial 3, 3) := by decide +kernel
theorem dX2_init_4 : decode cX2_init 4 = .ok (.aload_n 0, 1) := by decide +kernel
theorem dX2_init_5 : decode cX2_init 5 = .ok (.sipush 961, 3) := by decide +kernel
theorem dX2_init_8 : decode cX2_init 8 = .ok (.newarray .long, 2) := by decide +kernel
theorem dX2_init_10 : decode cX2_init 10 = .ok (.putfield 11, 3) := by decide +kernel
theorem dX2_init_13 : decode cX2_init 13 = .ok (.return_, 1) := by decide +kernel
theorem dX2_folded_0 : decode cX2_folded 0 = .ok (.aload_n 0, 1) := by decide +kernel
theorem dX2_folded_1 : decode cX2_folded 1 = .ok (.getfield 11, 3) := by decide +kernel
theorem dX2_folded_4 : decode cX2_folded 4 = .ok (.ldc2_w 15, 3) := by decide +kernel
theorem dX2_folded_7 : decode cX2_folded 7 = .ok (.invokestatic 17, 3) := by decide +kernel
theorem dX2_folded_10 : decode cX2_folded 10 = .ok (.aload_n 0, 1) := by decide +kernel
theorem dX2_folded_11 : decode cX2_folded 11 = .ok (.getfield 11, 3) := by decide +kernel
theorem dX2_folded_14 : decode cX2_folded 14 = .ok (.iconst 0, 1) := by decide +kernel
theorem dX2_folded_15 : decode cX2_folded 15 = .ok (.iload_n 1, 1) := by decide +kernel
theorem dX2_folded_16 : decode cX2_folded 16 = .ok (.iconst 1, 1) := by decide +kernel
theorem dX2_folded_17 : decode cX2_folded 17 = .ok (.if_icmp .eq 8, 3) := by decide +kernel
theorem dX2_folded_20 : decode cX2_folded 20 = .ok (.iload_n 1, 1) := by decide +kernel
theorem dX2_folded_21 : decode cX2_folded 21 = .ok (.iconst 2, 1) := by decide +kernel
theorem dX2_folded_22 : decode cX2_folded 22 = .ok (.if_icmp .ne 7, 3) := by decide +kernel
theorem dX2_folded_25 : decode cX2_folded 25 = .ok (.lconst 0, 1) := by decide +kernel
theorem dX2_folded_26 : decode cX2_folded 26 = .ok (.goto 4, 3) := by decide +kernel
theorem dX2_folded_29 : decode cX2_folded 29 = .ok (.lconst 1, 1) := by decide +kernel
theorem dX2_folded_30 : decode cX2_folded 30 = .ok (.lastore, 1) := by decide +kernel
theorem dX2_folded_31 : decode cX2_folded 31 = .ok (.iconst 0, 1) := by decide +kernel
theorem dX2_folded_32 : decode cX2_folded 32 = .ok (.istore 5, 2) := by decide +kernel
theorem dX2_folded_34 : decode cX2_folded 34 = .ok (.iload 5, 2) := by decide +kernel
theorem dX2_folded_36 : decode cX2_folded 36 = .ok (.aload 4, 2) := by decide +kernel
theorem dX2_folded_38 : decode cX2_folded 38 = .ok (.getfield 23, 3) := by decide +kernel
theorem dX2_folded_41 : decode cX2_folded 41 = .ok (.if_icmp .ge 65, 3) := by decide +kernel
theorem dX2_folded_44 : decode cX2_folded 44 = .ok (.iload 5, 2) := by decide +kernel
theorem dX2_folded_46 : decode cX2_folded 46 = .ok (.bipush 6, 2) := by decide +kernel
theorem dX2_folded_48 : decode cX2_folded 48 = .ok (.if_icmp .ge 58, 3) := by decide +kernel
theorem dX2_folded_51 : decode cX2_folded 51 = .ok (.iload_n 2, 1) := by decide +kernel
theorem dX2_folded_52 : decode cX2_folded 52 = .ok (.istore 6, 2) := by decide +kernel
theorem dX2_folded_54 : decode cX2_folded 54 = .ok (.iload 6, 2) := by decide +kernel
theorem dX2_folded_56 : decode cX2_folded 56 = .ok (.ifCond .lt 44, 3) := by decide +kernel
theorem dX2_folded_59 : decode cX2_folded 59 = .ok (.iload_n 3, 1) := by decide +kernel
theorem dX2_folded_60 : decode cX2_folded 60 = .ok (.istore 7, 2) := by decide +kernel
theorem dX2_folded_62 : decode cX2_folded 62 = .ok (.iload 7, 2) := by decide +kernel
theorem dX2_folded_64 : decode cX2_folded 64 = .ok (.ifCond .lt 30, 3) := by decide +kernel
theorem dX2_folded_67 : decode cX2_folded 67 = .ok (.aload_n 0, 1) := by decide +kernel
theorem dX2_folded_68 : decode cX2_folded 68 = .ok (.iload 6, 2) := by decide +kernel
theorem dX2_folded_70 : decode cX2_folded 70 = .ok (.iload 7, 2) := by decide +kernel
theorem dX2_folded_72 : decode cX2_folded 72 = .ok (.aload_n 0, 1) := by decide +kernel
theorem dX2_folded_73 : decode cX2_folded 73 = .ok (.iload 5, 2) := by decide +kernel
theorem dX2_folded_75 : decode cX2_folded 75 = .ok (.iload_n 1, 1) := by decide +kernel
theorem dX2_folded_76 : decode cX2_folded 76 = .ok (.iload 6, 2) := by decide +kernel
theorem dX2_folded_78 : decode cX2_folded 78 = .ok (.iload 7, 2) := by decide +kernel
theorem dX2_folded_80 : decode cX2_folded 80 = .ok (.aload 4, 2) := by decide +kernel
theorem dX2_folded_82 : decode cX2_folded 82 = .ok (.invokevirtual 29, 3) := by decide +kernel
theorem dX2_folded_85 : decode cX2_folded 85 = .ok (.invokevirtual 33, 3) := by decide +kernel
theorem dX2_folded_88 : decode cX2_folded 88 = .ok (.iinc 7 (-1), 3) := by decide +kernel
theorem dX2_folded_91 : decode cX2_folded 91 = .ok (.goto (-29), 3) := by decide +kernel
theorem dX2_folded_94 : decode cX2_folded 94 = .ok (.iinc 6 (-1), 3) := by decide +kernel
theorem dX2_folded_97 : decode cX2_folded 97 = .ok (.goto (-43), 3) := by decide +kernel
theorem dX2_folded_100 : decode cX2_folded 100 = .ok (.iinc 5 1, 3) := by decide +kernel
theorem dX2_folded_103 : decode cX2_folded 103 = .ok (.goto (-69), 3) := by decide +kernel
theorem dX2_folded_106 : decode cX2_folded 106 = .ok (.aload_n 0, 1) := by decide +kernel
theorem dX2_folded_107 : decode cX2_folded 107 = .ok (.iload_n 2, 1) := by decide +kernel
theorem dX2_folded_108 : decode cX2_folded 108 = .ok (.iload_n 3, 1) := by decide +kernel
theorem dX2_folded_109 : decode cX2_folded 109 = .ok (.invokevirtual 37, 3) := by decide +kernel
theorem dX2_folded_112 : decode cX2_folded 112 = .ok (.lreturn, 1) := by decide +kernel
theorem dX2_foldedWith_0 : decode cX2_foldedWith 0 = .ok (.ldc2_w 15, 3) := by decide +kernel
theorem dX2_foldedWith_3 : decode cX2_foldedWith 3 = .ok (.lstore 6, 2) := by decide +kernel
theorem dX2_foldedWith_5 : decode cX2_foldedWith 5 = .ok (.lconst 1, 1) := by decide +kernel
theorem dX2_foldedWith_6 : decode cX2_foldedWith 6 = .ok (.lstore 8, 2) := by decide +kernel
theorem dX2_foldedWith_8 : decode cX2_foldedWith 8 = .ok (.iconst 0, 1) := by decide +kernel
theorem dX2_foldedWith_9 : decode cX2_foldedWith 9 = .ok (.istore 10, 2) := by decide +kernel
theorem dX2_foldedWith_11 : decode cX2_foldedWith 11 = .ok (.iload 10, 2) := by decide +kernel
theorem dX2_foldedWith_13 : decode cX2_foldedWith 13 = .ok (.bipush 60, 2) := by decide +kernel
theorem dX2_foldedWith_15 : decode cX2_foldedWith 15 = .ok (.if_icmp .gt 151, 3) := by decide +kernel
theorem dX2_foldedWith_18 : decode cX2_foldedWith 18 = .ok (.aload 5, 2) := by decide +kernel
theorem dX2_foldedWith_20 : decode cX2_foldedWith 20 = .ok (.iload_n 1, 1) := by decide +kernel
theorem dX2_foldedWith_21 : decode cX2_foldedWith 21 = .ok (.invokevirtual 41, 3) := by decide +kernel
theorem dX2_foldedWith_24 : decode cX2_foldedWith 24 = .ok (.ifCond .eq 142, 3) := by decide +kernel
theorem dX2_foldedWith_27 : decode cX2_foldedWith 27 = .ok (.iload_n 3, 1) := by decide +kernel
theorem dX2_foldedWith_28 : decode cX2_foldedWith 28 = .ok (.iload 10, 2) := by decide +kernel
theorem dX2_foldedWith_30 : decode cX2_foldedWith 30 = .ok (.aload 5, 2) := by decide +kernel
theorem dX2_foldedWith_32 : decode cX2_foldedWith 32 = .ok (.getfield 45, 3) := by decide +kernel
theorem dX2_foldedWith_35 : decode cX2_foldedWith 35 = .ok (.iload_n 1, 1) := by decide +kernel
theorem dX2_foldedWith_36 : decode cX2_foldedWith 36 = .ok (.iaload, 1) := by decide +kernel
theorem dX2_foldedWith_37 : decode cX2_foldedWith 37 = .ok (.imul, 1) := by decide +kernel
theorem dX2_foldedWith_38 : decode cX2_foldedWith 38 = .ok (.isub, 1) := by decide +kernel
theorem dX2_foldedWith_39 : decode cX2_foldedWith 39 = .ok (.istore 11, 2) := by decide +kernel
theorem dX2_foldedWith_41 : decode cX2_foldedWith 41 = .ok (.iload 4, 2) := by decide +kernel
theorem dX2_foldedWith_43 : decode cX2_foldedWith 43 = .ok (.iload 10, 2) := by decide +kernel
theorem dX2_foldedWith_45 : decode cX2_foldedWith 45 = .ok (.aload 5, 2) := by decide +kernel
theorem dX2_foldedWith_47 : decode cX2_foldedWith 47 = .ok (.getfield 49, 3) := by decide +kernel
theorem dX2_foldedWith_50 : decode cX2_foldedWith 50 = .ok (.iload_n 1, 1) := by decide +kernel
theorem dX2_foldedWith_51 : decode cX2_foldedWith 51 = .ok (.iaload, 1) := by decide +kernel
theorem dX2_foldedWith_52 : decode cX2_foldedWith 52 = .ok (.imul, 1) := by decide +kernel
theorem dX2_foldedWith_53 : decode cX2_foldedWith 53 = .ok (.isub, 1) := by decide +kernel
theorem dX2_foldedWith_54 : decode cX2_foldedWith 54 = .ok (.istore 12, 2) := by decide +kernel
theorem dX2_foldedWith_56 : decode cX2_foldedWith 56 = .ok (.iload 11, 2) := by decide +kernel
theorem dX2_foldedWith_58 : decode cX2_foldedWith 58 = .ok (.ifCond .lt 108, 3) := by decide +kernel
theorem dX2_foldedWith_61 : decode cX2_foldedWith 61 = .ok (.iload 12, 2) := by decide +kernel
theorem dX2_foldedWith_63 : decode cX2_foldedWith 63 = .ok (.ifCond .ge 6, 3) := by decide +kernel
theorem dX2_foldedWith_66 : decode cX2_foldedWith 66 = .ok (.goto 100, 3) := by decide +kernel
theorem dX2_foldedWith_69 : decode cX2_foldedWith 69 = .ok (.aload_n 0, 1) := by decide +kernel
theorem dX2_foldedWith_70 : decode cX2_foldedWith 70 = .ok (.iload 11, 2) := by decide +kernel
theorem dX2_foldedWith_72 : decode cX2_foldedWith 72 = .ok (.iload 12, 2) := by decide +kernel
theorem dX2_foldedWith_74 : decode cX2_foldedWith 74 = .ok (.invokevirtual 37, 3) := by decide +kernel
theorem dX2_foldedWith_77 : decode cX2_foldedWith 77 = .ok (.lstore 13, 2) := by decide +kernel
theorem dX2_foldedWith_79 : decode cX2_foldedWith 79 = .ok (.lload 13, 2) := by decide +kernel
theorem dX2_foldedWith_81 : decode cX2_foldedWith 81 = .ok (.ldc2_w 15, 3) := by decide +kernel
theorem dX2_foldedWith_84 : decode cX2_foldedWith 84 = .ok (.lcmp, 1) := by decide +kernel
theorem dX2_foldedWith_85 : decode cX2_foldedWith 85 = .ok (.ifCond .eq 60, 3) := by decide +kernel
theorem dX2_foldedWith_88 : decode cX2_foldedWith 88 = .ok (.aload 5, 2) := by decide +kernel
theorem dX2_foldedWith_90 : decode cX2_foldedWith 90 = .ok (.iload_n 1, 1) := by decide +kernel
theorem dX2_foldedWith_91 : decode cX2_foldedWith 91 = .ok (.iload 10, 2) := by decide +kernel
theorem dX2_foldedWith_93 : decode cX2_foldedWith 93 = .ok (.invokevirtual 52, 3) := by decide +kernel
theorem dX2_foldedWith_96 : decode cX2_foldedWith 96 = .ok (.ifCond .eq 49, 3) := by decide +kernel
theorem dX2_foldedWith_99 : decode cX2_foldedWith 99 = .ok (.iload_n 2, 1) := by decide +kernel
theorem dX2_foldedWith_100 : decode cX2_foldedWith 100 = .ok (.iconst 1, 1) := by decide +kernel
theorem dX2_foldedWith_101 : decode cX2_foldedWith 101 = .ok (.if_icmp .eq 8, 3) := by decide +kernel
theorem dX2_foldedWith_104 : decode cX2_foldedWith 104 = .ok (.iload_n 2, 1) := by decide +kernel
theorem dX2_foldedWith_105 : decode cX2_foldedWith 105 = .ok (.iconst 2, 1) := by decide +kernel
theorem dX2_foldedWith_106 : decode cX2_foldedWith 106 = .ok (.if_icmp .ne 7, 3) := by decide +kernel
theorem dX2_foldedWith_109 : decode cX2_foldedWith 109 = .ok (.iconst 1, 1) := by decide +kernel
theorem dX2_foldedWith_110 : decode cX2_foldedWith 110 = .ok (.goto 4, 3) := by decide +kernel
theorem dX2_foldedWith_113 : decode cX2_foldedWith 113 = .ok (.iconst 0, 1) := by decide +kernel
theorem dX2_foldedWith_114 : decode cX2_foldedWith 114 = .ok (.istore 15, 2) := by decide +kernel
theorem dX2_foldedWith_116 : decode cX2_foldedWith 116 = .ok (.iload_n 2, 1) := by decide +kernel
theorem dX2_foldedWith_117 : decode cX2_foldedWith 117 = .ok (.lload 6, 2) := by decide +kernel
theorem dX2_foldedWith_119 : decode cX2_foldedWith 119 = .ok (.iload 15, 2) := by decide +kernel
theorem dX2_foldedWith_121 : decode cX2_foldedWith 121 = .ok (.ifCond .eq 12, 3) := by decide +kernel
theorem dX2_foldedWith_124 : decode cX2_foldedWith 124 = .ok (.lload 13, 2) := by decide +kernel
theorem dX2_foldedWith_126 : decode cX2_foldedWith 126 = .ok (.iload 10, 2) := by decide +kernel
theorem dX2_foldedWith_128 : decode cX2_foldedWith 128 = .ok (.i2l, 1) := by decide +kernel
theorem dX2_foldedWith_129 : decode cX2_foldedWith 129 = .ok (.ladd, 1) := by decide +kernel
theorem dX2_foldedWith_130 : decode cX2_foldedWith 130 = .ok (.goto 10, 3) := by decide +kernel
theorem dX2_foldedWith_133 : decode cX2_foldedWith 133 = .ok (.lload 13, 2) := by decide +kernel
theorem dX2_foldedWith_135 : decode cX2_foldedWith 135 = .ok (.lload 8, 2) := by decide +kernel
theorem dX2_foldedWith_137 : decode cX2_foldedWith 137 = .ok (.invokestatic 56, 3) := by decide +kernel
theorem dX2_foldedWith_140 : decode cX2_foldedWith 140 = .ok (.invokestatic 60, 3) := by decide +kernel
theorem dX2_foldedWith_143 : decode cX2_foldedWith 143 = .ok (.lstore 6, 2) := by decide +kernel
theorem dX2_foldedWith_145 : decode cX2_foldedWith 145 = .ok (.lload 8, 2) := by decide +kernel
theorem dX2_foldedWith_147 : decode cX2_foldedWith 147 = .ok (.aload 5, 2) := by decide +kernel
theorem dX2_foldedWith_149 : decode cX2_foldedWith 149 = .ok (.getfield 64, 3) := by decide +kernel
theorem dX2_foldedWith_152 : decode cX2_foldedWith 152 = .ok (.iload_n 1, 1) := by decide +kernel
theorem dX2_foldedWith_153 : decode cX2_foldedWith 153 = .ok (.iaload, 1) := by decide +kernel
theorem dX2_foldedWith_154 : decode cX2_foldedWith 154 = .ok (.i2l, 1) := by decide +kernel
theorem dX2_foldedWith_155 : decode cX2_foldedWith 155 = .ok (.invokestatic 56, 3) := by decide +kernel
theorem dX2_foldedWith_158 : decode cX2_foldedWith 158 = .ok (.lstore 8, 2) := by decide +kernel
theorem dX2_foldedWith_160 : decode cX2_foldedWith 160 = .ok (.iinc 10 1, 3) := by decide +kernel
theorem dX2_foldedWith_163 : decode cX2_foldedWith 163 = .ok (.goto (-152), 3) := by decide +kernel
theorem dX2_foldedWith_166 : decode cX2_foldedWith 166 = .ok (.lload 6, 2) := by decide +kernel
theorem dX2_foldedWith_168 : decode cX2_foldedWith 168 = .ok (.lreturn, 1) := by decide +kernel
theorem dX2_joined_0 : decode cX2_joined 0 = .ok (.lload_n 1, 1) := by decide +kernel
theorem dX2_joined_1 : decode cX2_joined 1 = .ok (.ldc2_w 15, 3) := by decide +kernel
theorem dX2_joined_4 : decode cX2_joined 4 = .ok (.lcmp, 1) := by decide +kernel
theorem dX2_joined_5 : decode cX2_joined 5 = .ok (.ifCond .ne 5, 3) := by decide +kernel
theorem dX2_joined_8 : decode cX2_joined 8 = .ok (.lload_n 3, 1) := by decide +kernel
theorem dX2_joined_9 : decode cX2_joined 9 = .ok (.lreturn, 1) := by decide +kernel
theorem dX2_joined_10 : decode cX2_joined 10 = .ok (.iload_n 0, 1) := by decide +kernel
theorem dX2_joined_11 : decode cX2_joined 11 = .ok (.iconst 2, 1) := by decide +kernel
theorem dX2_joined_12 : decode cX2_joined 12 = .ok (.if_icmp .ne 9, 3) := by decide +kernel
theorem dX2_joined_15 : decode cX2_joined 15 = .ok (.lload_n 1, 1) := by decide +kernel
theorem dX2_joined_16 : decode cX2_joined 16 = .ok (.lload_n 3, 1) := by decide +kernel
theorem dX2_joined_17 : decode cX2_joined 17 = .ok (.invokestatic 67, 3) := by decide +kernel
theorem dX2_joined_20 : decode cX2_joined 20 = .ok (.lreturn, 1) := by decide +kernel
theorem dX2_joined_21 : decode cX2_joined 21 = .ok (.lload_n 1, 1) := by decide +kernel
theorem dX2_joined_22 : decode cX2_joined 22 = .ok (.ldc2_w 72, 3) := by decide +kernel
theorem dX2_joined_25 : decode cX2_joined 25 = .ok (.lcmp, 1) := by decide +kernel
theorem dX2_joined_26 : decode cX2_joined 26 = .ok (.ifCond .eq 11, 3) := by decide +kernel
theorem dX2_joined_29 : decode cX2_joined 29 = .ok (.lload_n 3, 1) := by decide +kernel
theorem dX2_joined_30 : decode cX2_joined 30 = .ok (.ldc2_w 72, 3) := by decide +kernel
theorem dX2_joined_33 : decode cX2_joined 33 = .ok (.lcmp, 1) := by decide +kernel
theorem dX2_joined_34 : decode cX2_joined 34 = .ok (.ifCond .ne 7, 3) := by decide +kernel
theorem dX2_joined_37 : decode cX2_joined 37 = .ok (.ldc2_w 72, 3) := by decide +kernel
theorem dX2_joined_40 : decode cX2_joined 40 = .ok (.lreturn, 1) := by decide +kernel
theorem dX2_joined_41 : decode cX2_joined 41 = .ok (.iload_n 0, 1) := by decide +kernel
theorem dX2_joined_42 : decode cX2_joined 42 = .ok (.ifCond .ne 23, 3) := by decide +kernel
theorem dX2_joined_45 : decode cX2_joined 45 = .ok (.lload_n 1, 1) := by decide +kernel
theorem dX2_joined_46 : decode cX2_joined 46 = .ok (.ldc2_w 74, 3) := by decide +kernel
theorem dX2_joined_49 : decode cX2_joined 49 = .ok (.lload_n 3, 1) := by decide +kernel
theorem dX2_joined_50 : decode cX2_joined 50 = .ok (.lsub, 1) := by decide +kernel
theorem dX2_joined_51 : decode cX2_joined 51 = .ok (.lcmp, 1) := by decide +kernel
theorem dX2_joined_52 : decode cX2_joined 52 = .ok (.ifCond .le 9, 3) := by decide +kernel
theorem dX2_joined_55 : decode cX2_joined 55 = .ok (.ldc2_w 72, 3) := by decide +kernel
theorem dX2_joined_58 : decode cX2_joined 58 = .ok (.goto 6, 3) := by decide +kernel
theorem dX2_joined_61 : decode cX2_joined 61 = .ok (.lload_n 1, 1) := by decide +kernel
theorem dX2_joined_62 : decode cX2_joined 62 = .ok (.lload_n 3, 1) := by decide +kernel
theorem dX2_joined_63 : decode cX2_joined 63 = .ok (.ladd, 1) := by decide +kernel
theorem dX2_joined_64 : decode cX2_joined 64 = .ok (.lreturn, 1) := by decide +kernel
theorem dX2_joined_65 : decode cX2_joined 65 = .ok (.lload_n 1, 1) := by decide +kernel
theorem dX2_joined_66 : decode cX2_joined 66 = .ok (.lload_n 3, 1) := by decide +kernel
theorem dX2_joined_67 : decode cX2_joined 67 = .ok (.invokestatic 76, 3) := by decide +kernel
theorem dX2_joined_70 : decode cX2_joined 70 = .ok (.lreturn, 1) := by decide +kernel
theorem dX2_product_0 : decode cX2_product 0 = .ok (.lload_n 0, 1) := by decide +kernel
theorem dX2_product_1 : decode cX2_product 1 = .ok (.ldc2_w 72, 3) := by decide +kernel
theorem dX2_product_4 : decode cX2_product 4 = .ok (.lcmp, 1) := by decide +kernel
theorem dX2_product_5 : decode cX2_product 5 = .ok (.ifCond .eq 11, 3) := by decide +kernel
theorem dX2_product_8 : decode cX2_product 8 = .ok (.lload_n 2, 1) := by decide +kernel
theorem dX2_product_9 : decode cX2_product 9 = .ok (.ldc2_w 72, 3) := by decide +kernel
theorem dX2_product_12 : decode cX2_product 12 = .ok (.lcmp, 1) := by decide +kernel
theorem dX2_product_13 : decode cX2_product 13 = .ok (.ifCond .ne 7, 3) := by decide +kernel
theorem dX2_product_16 : decode cX2_product 16 = .ok (.ldc2_w 72, 3) := by decide +kernel
theorem dX2_product_19 : decode cX2_product 19 = .ok (.lreturn, 1) := by decide +kernel
theorem dX2_product_20 : decode cX2_product 20 = .ok (.lload_n 2, 1) := by decide +kernel
theorem dX2_product_21 : decode cX2_product 21 = .ok (.lconst 0, 1) := by decide +kernel
theorem dX2_product_22 : decode cX2_product 22 = .ok (.lcmp, 1) := by decide +kernel
theorem dX2_product_23 : decode cX2_product 23 = .ok (.ifCond .le 19, 3) := by decide +kernel
theorem dX2_product_26 : decode cX2_product 26 = .ok (.lload_n 0, 1) := by decide +kernel
theorem dX2_product_27 : decode cX2_product 27 = .ok (.ldc2_w 74, 3) := by decide +kernel
theorem dX2_product_30 : decode cX2_product 30 = .ok (.lload_n 2, 1) := by decide +kernel
theorem dX2_product_31 : decode cX2_product 31 = .ok (.ldiv, 1) := by decide +kernel
theorem dX2_product_32 : decode cX2_product 32 = .ok (.lcmp, 1) := by decide +kernel
theorem dX2_product_33 : decode cX2_product 33 = .ok (.ifCond .le 9, 3) := by decide +kernel
theorem dX2_product_36 : decode cX2_product 36 = .ok (.ldc2_w 72, 3) := by decide +kernel
theorem dX2_product_39 : decode cX2_product 39 = .ok (.goto 6, 3) := by decide +kernel
theorem dX2_product_42 : decode cX2_product 42 = .ok (.lload_n 0, 1) := by decide +kernel
theorem dX2_product_43 : decode cX2_product 43 = .ok (.lload_n 2, 1) := by decide +kernel
theorem dX2_product_44 : decode cX2_product 44 = .ok (.lmul, 1) := by decide +kernel
theorem dX2_product_45 : decode cX2_product 45 = .ok (.lreturn, 1) := by decide +kernel
theorem dX2_set_0 : decode cX2_set 0 = .ok (.iload_n 1, 1) := by decide +kernel
theorem dX2_set_1 : decode cX2_set 1 = .ok (.ifCond .lt 31, 3) := by decide +kernel
theorem dX2_set_4 : decode cX2_set 4 = .ok (.iload_n 1, 1) := by decide +kernel
theorem dX2_set_5 : decode cX2_set 5 = .ok (.bipush 31, 2) := by decide +kernel
theorem dX2_set_7 : decode cX2_set 7 = .ok (.if_icmp .ge 25, 3) := by decide +kernel
theorem dX2_set_10 : decode cX2_set 10 = .ok (.iload_n 2, 1) := by decide +kernel
theorem dX2_set_11 : decode cX2_set 11 = .ok (.ifCond .lt 21, 3) := by decide +kernel
theorem dX2_set_14 : decode cX2_set 14 = .ok (.iload_n 2, 1) := by decide +kernel
theorem dX2_set_15 : decode cX2_set 15 = .ok (.bipush 31, 2) := by decide +kernel
theorem dX2_set_17 : decode cX2_set 17 = .ok (.if_icmp .ge 15, 3) := by decide +kernel
theorem dX2_set_20 : decode cX2_set 20 = .ok (.aload_n 0, 1) := by decide +kernel
theorem dX2_set_21 : decode cX2_set 21 = .ok (.getfield 11, 3) := by decide +kernel
theorem dX2_set_24 : decode cX2_set 24 = .ok (.iload_n 1, 1) := by decide +kernel
theorem dX2_set_25 : decode cX2_set 25 = .ok (.bipush 31, 2) := by decide +kernel
theorem dX2_set_27 : decode cX2_set 27 = .ok (.imul, 1) := by decide +kernel
theorem dX2_set_28 : decode cX2_set 28 = .ok (.iload_n 2, 1) := by decide +kernel
theorem dX2_set_29 : decode cX2_set 29 = .ok (.iadd, 1) := by decide +kernel
theorem dX2_set_30 : decode cX2_set 30 = .ok (.lload_n 3, 1) := by decide +kernel
theorem dX2_set_31 : decode cX2_set 31 = .ok (.lastore, 1) := by decide +kernel
theorem dX2_set_32 : decode cX2_set 32 = .ok (.return_, 1) := by decide +kernel
theorem dX2_at_0 : decode cX2_at 0 = .ok (.iload_n 1, 1) := by decide +kernel
theorem dX2_at_1 : decode cX2_at 1 = .ok (.ifCond .lt 33, 3) := by decide +kernel
theorem dX2_at_4 : decode cX2_at 4 = .ok (.iload_n 1, 1) := by decide +kernel
theorem dX2_at_5 : decode cX2_at 5 = .ok (.bipush 31, 2) := by decide +kernel
theorem dX2_at_7 : decode cX2_at 7 = .ok (.if_icmp .ge 27, 3) := by decide +kernel
theorem dX2_at_10 : decode cX2_at 10 = .ok (.iload_n 2, 1) := by decide +kernel
theorem dX2_at_11 : decode cX2_at 11 = .ok (.ifCond .lt 23, 3) := by decide +kernel
theorem dX2_at_14 : decode cX2_at 14 = .ok (.iload_n 2, 1) := by decide +kernel
theorem dX2_at_15 : decode cX2_at 15 = .ok (.bipush 31, 2) := by decide +kernel
theorem dX2_at_17 : decode cX2_at 17 = .ok (.if_icmp .ge 17, 3) := by decide +kernel
theorem dX2_at_20 : decode cX2_at 20 = .ok (.aload_n 0, 1) := by decide +kernel
theorem dX2_at_21 : decode cX2_at 21 = .ok (.getfield 11, 3) := by decide +kernel
theorem dX2_at_24 : decode cX2_at 24 = .ok (.iload_n 1, 1) := by decide +kernel
theorem dX2_at_25 : decode cX2_at 25 = .ok (.bipush 31, 2) := by decide +kernel
theorem dX2_at_27 : decode cX2_at 27 = .ok (.imul, 1) := by decide +kernel
theorem dX2_at_28 : decode cX2_at 28 = .ok (.iload_n 2, 1) := by decide +kernel
theorem dX2_at_29 : decode cX2_at 29 = .ok (.iadd, 1) := by decide +kernel
theorem dX2_at_30 : decode cX2_at 30 = .ok (.laload, 1) := by decide +kernel
theorem dX2_at_31 : decode cX2_at 31 = .ok (.goto 6, 3) := by decide +kernel
theorem dX2_at_34 : decode cX2_at 34 = .ok (.ldc2_w 15, 3) := by decide +kernel
theorem dX2_at_37 : decode cX2_at 37 = .ok (.lreturn, 1) := by decide +kernel
theorem dX3_init_0 : decode cX3_init 0 = .ok (.aload_n 0, 1) := by decide +kernel
theorem dX3_init_1 : decode cX3_init 1 = .ok (.invokespecial 3, 3) := by decide +kernel
theorem dX3_init_4 : decode cX3_init 4 = .ok (.aload_n 0, 1) := by decide +kernel
theorem dX3_init_5 : decode cX3_init 5 = .ok (.bipush 25, 2) := by decide +kernel
theorem dX3_init_7 : decode cX3_init 7 = .ok (.newarray .long, 2) := by decide +kernel
theorem dX3_init_9 : decode cX3_init 9 = .ok (.putfield 11, 3) := by decide +kernel
theorem dX3_init_12 : decode cX3_init 12 = .ok (.aload_n 0, 1) := by decide +kernel
theorem dX3_init_13 : decode cX3_init 13 = .ok (.iconst 0, 1) := by decide +kernel
theorem dX3_init_14 : decode cX3_init 14 = .ok (.putfield 15, 3) := by decide +kernel
theorem dX3_init_17 : decode cX3_init 17 = .ok (.aload_n 0, 1) := by decide +kernel
theorem dX3_init_18 : decode cX3_init 18 = .ok (.iconst 0, 1) := by decide +kernel
theorem dX3_init_19 : decode cX3_init 19 = .ok (.putfield 19, 3) := by decide +kernel
theorem dX3_init_22 : decode cX3_init 22 = .ok (.aload_n 0, 1) := by decide +kernel
theorem dX3_init_23 : decode cX3_init 23 = .ok (.iconst 0, 1) := by decide +kernel
theorem dX3_init_24 : decode cX3_init 24 = .ok (.putfield 22, 3) := by decide +kernel
theorem dX3_init_27 : decode cX3_init 27 = .ok (.aload_n 0, 1) := by decide +kernel
theorem dX3_init_28 : decode cX3_init 28 = .ok (.iconst 0, 1) := by decide +kernel
theorem dX3_init_29 : decode cX3_init 29 = .ok (.putfield 25, 3) := by decide +kernel
theorem dX3_init_32 : decode cX3_init 32 = .ok (.aload_n 0, 1) := by decide +kernel
theorem dX3_init_33 : decode cX3_init 33 = .ok (.iconst 0, 1) := by decide +kernel
theorem dX3_init_34 : decode cX3_init 34 = .ok (.putfield 28, 3) := by decide +kernel
theorem dX3_init_37 : decode cX3_init 37 = .ok (.aload_n 0, 1) := by decide +kernel
theorem dX3_init_38 : decode cX3_init 38 = .ok (.iconst 0, 1) := by decide +kernel
theorem dX3_init_39 : decode cX3_init 39 = .ok (.putfield 31, 3) := by decide +kernel
theorem dX3_init_42 : decode cX3_init 42 = .ok (.aload_n 0, 1) := by decide +kernel
theorem dX3_init_43 : decode cX3_init 43 = .ok (.iconst 0, 1) := by decide +kernel
theorem dX3_init_44 : decode cX3_init 44 = .ok (.putfield 34, 3) := by decide +kernel
theorem dX3_init_47 : decode cX3_init 47 = .ok (.aload_n 0, 1) := by decide +kernel
theorem dX3_init_48 : decode cX3_init 48 = .ok (.iconst 0, 1) := by decide +kernel
theorem dX3_init_49 : decode cX3_init 49 = .ok (.putfield 37, 3) := by decide +kernel
theorem dX3_init_52 : decode cX3_init 52 = .ok (.return_, 1) := by decide +kernel
theorem dX3_locate_0 : decode cX3_locate 0 = .ok (.aload_n 1, 1) := by decide +kernel
theorem dX3_locate_1 : decode cX3_locate 1 = .ok (.getfield 40, 3) := by decide +kernel
theorem dX3_locate_4 : decode cX3_locate 4 = .ok (.aload_n 1, 1) := by decide +kernel
theorem dX3_locate_5 : decode cX3_locate 5 = .ok (.iload_n 2, 1) := by decide +kernel
theorem dX3_locate_6 : decode cX3_locate 6 = .ok (.invokevirtual 45, 3) := by decide +kernel
theorem dX3_locate_9 : decode cX3_locate 9 = .ok (.imul, 1) := by decide +kernel
theorem dX3_locate_10 : decode cX3_locate 10 = .ok (.istore 5, 2) := by decide +kernel
theorem dX3_locate_12 : decode cX3_locate 12 = .ok (.iload 5, 2) := by decide +kernel
theorem dX3_locate_14 : decode cX3_locate 14 = .ok (.iconst 1, 1) := by decide +kernel
theorem dX3_locate_15 : decode cX3_locate 15 = .ok (.if_icmp .lt 21, 3) := by decide +kernel
theorem dX3_locate_18 : decode cX3_locate 18 = .ok (.aload_n 1, 1) := by decide +kernel
theorem dX3_locate_19 : decode cX3_locate 19 = .ok (.iload_n 2, 1) := by decide +kernel
theorem dX3_locate_20 : decode cX3_locate 20 = .ok (.invokevirtual 49, 3) := by decide +kernel
theorem dX3_locate_23 : decode cX3_locate 23 = .ok (.ifCond .eq 13, 3) := by decide +kernel
theorem dX3_locate_26 : decode cX3_locate 26 = .ok (.aload_n 1, 1) := by decide +kernel
theorem dX3_locate_27 : decode cX3_locate 27 = .ok (.iload_n 2, 1) := by decide +kernel
theorem dX3_locate_28 : decode cX3_locate 28 = .ok (.iconst 1, 1) := by decide +kernel
theorem dX3_locate_29 : decode cX3_locate 29 = .ok (.iadd, 1) := by decide +kernel
theorem dX3_locate_30 : decode cX3_locate 30 = .ok (.invokevirtual 49, 3) := by decide +kernel
theorem dX3_locate_33 : decode cX3_locate 33 = .ok (.ifCond .ne 4, 3) := by decide +kernel
theorem dX3_locate_36 : decode cX3_locate 36 = .ok (.return_, 1) := by decide +kernel
theorem dX3_locate_37 : decode cX3_locate 37 = .ok (.aload_n 0, 1) := by decide +kernel
theorem dX3_locate_38 : decode cX3_locate 38 = .ok (.aload_n 1, 1) := by decide +kernel
theorem dX3_locate_39 : decode cX3_locate 39 = .ok (.getfield 40, 3) := by decide +kernel
theorem dX3_locate_42 : decode cX3_locate 42 = .ok (.aload_n 1, 1) := by decide +kernel
theorem dX3_locate_43 : decode cX3_locate 43 = .ok (.getfield 53, 3) := by decide +kernel
theorem dX3_locate_46 : decode cX3_locate 46 = .ok (.iload_n 2, 1) := by decide +kernel
theorem dX3_locate_47 : decode cX3_locate 47 = .ok (.iaload, 1) := by decide +kernel
theorem dX3_locate_48 : decode cX3_locate 48 = .ok (.imul, 1) := by decide +kernel
theorem dX3_locate_49 : decode cX3_locate 49 = .ok (.putfield 28, 3) := by decide +kernel
theorem dX3_locate_52 : decode cX3_locate 52 = .ok (.aload_n 0, 1) := by decide +kernel
theorem dX3_locate_53 : decode cX3_locate 53 = .ok (.aload_n 1, 1) := by decide +kernel
theorem dX3_locate_54 : decode cX3_locate 54 = .ok (.getfield 40, 3) := by decide +kernel
theorem dX3_locate_57 : decode cX3_locate 57 = .ok (.aload_n 1, 1) := by decide +kernel
theorem dX3_locate_58 : decode cX3_locate 58 = .ok (.getfield 57, 3) := by decide +kernel
theorem dX3_locate_61 : decode cX3_locate 61 = .ok (.iload_n 2, 1) := by decide +kernel
theorem dX3_locate_62 : decode cX3_locate 62 = .ok (.iaload, 1) := by decide +kernel
theorem dX3_locate_63 : decode cX3_locate 63 = .ok (.imul, 1) := by decide +kernel
theorem dX3_locate_64 : decode cX3_locate 64 = .ok (.putfield 31, 3) := by decide +kernel
theorem dX3_locate_67 : decode cX3_locate 67 = .ok (.aload_n 0, 1) := by decide +kernel
theorem dX3_locate_68 : decode cX3_locate 68 = .ok (.aload_n 1, 1) := by decide +kernel
theorem dX3_locate_69 : decode cX3_locate 69 = .ok (.getfield 40, 3) := by decide +kernel
theorem dX3_locate_72 : decode cX3_locate 72 = .ok (.aload_n 1, 1) := by decide +kernel
theorem dX3_locate_73 : decode cX3_locate 73 = .ok (.getfield 53, 3) := by decide +kernel
theorem dX3_locate_76 : decode cX3_locate 76 = .ok (.iload_n 2, 1) := by decide +kernel
theorem dX3_locate_77 : decode cX3_locate 77 = .ok (.iconst 1, 1) := by decide +kernel
theorem dX3_locate_78 : decode cX3_locate 78 = .ok (.iadd, 1) := by decide +kernel
theorem dX3_locate_79 : decode cX3_locate 79 = .ok (.iaload, 1) := by decide +kernel
theorem dX3_locate_80 : decode cX3_locate 80 = .ok (.imul, 1) := by decide +kernel
theorem dX3_locate_81 : decode cX3_locate 81 = .ok (.putfield 34, 3) := by decide +kernel
theorem dX3_locate_84 : decode cX3_locate 84 = .ok (.aload_n 0, 1) := by decide +kernel
theorem dX3_locate_85 : decode cX3_locate 85 = .ok (.aload_n 1, 1) := by decide +kernel
theorem dX3_locate_86 : decode cX3_locate 86 = .ok (.getfield 40, 3) := by decide +kernel
theorem dX3_locate_89 : decode cX3_locate 89 = .ok (.aload_n 1, 1) := by decide +kernel
theorem dX3_locate_90 : decode cX3_locate 90 = .ok (.getfield 57, 3) := by decide +kernel
theorem dX3_locate_93 : decode cX3_locate 93 = .ok (.iload_n 2, 1) := by decide +kernel
theorem dX3_locate_94 : decode cX3_locate 94 = .ok (.iconst 1, 1) := by decide +kernel
theorem dX3_locate_95 : decode cX3_locate 95 = .ok (.iadd, 1) := by decide +kernel
theorem dX3_locate_96 : decode cX3_locate 96 = .ok (.iaload, 1) := by decide +kernel
theorem dX3_locate_97 : decode cX3_locate 97 = .ok (.imul, 1) := by decide +kernel
theorem dX3_locate_98 : decode cX3_locate 98 = .ok (.putfield 37, 3) := by decide +kernel
theorem dX3_locate_101 : decode cX3_locate 101 = .ok (.aload_n 0, 1) := by decide +kernel
theorem dX3_locate_102 : decode cX3_locate 102 = .ok (.aload_n 1, 1) := by decide +kernel
theorem dX3_locate_103 : decode cX3_locate 103 = .ok (.iload_n 2, 1) := by decide +kernel
theorem dX3_locate_104 : decode cX3_locate 104 = .ok (.iload_n 3, 1) := by decide +kernel
theorem dX3_locate_105 : decode cX3_locate 105 = .ok (.iload 4, 2) := by decide +kernel
theorem dX3_locate_107 : decode cX3_locate 107 = .ok (.invokevirtual 60, 3) := by decide +kernel
theorem dX3_locate_110 : decode cX3_locate 110 = .ok (.iload 5, 2) := by decide +kernel
theorem dX3_locate_112 : decode cX3_locate 112 = .ok (.invokestatic 64, 3) := by decide +kernel
theorem dX3_locate_115 : decode cX3_locate 115 = .ok (.putfield 22, 3) := by decide +kernel
theorem dX3_locate_118 : decode cX3_locate 118 = .ok (.aload_n 0, 1) := by decide +kernel
theorem dX3_locate_119 : decode cX3_locate 119 = .ok (.aload_n 1, 1) := by decide +kernel
theorem dX3_locate_120 : decode cX3_locate 120 = .ok (.iload_n 2, 1) := by decide +kernel
theorem dX3_locate_121 : decode cX3_locate 121 = .ok (.iload_n 3, 1) := by decide +kernel
theorem dX3_locate_122 : decode cX3_locate 122 = .ok (.iload 4, 2) := by decide +kernel
theorem dX3_locate_124 : decode cX3_locate 124 = .ok (.invokevirtual 70, 3) := by decide +kernel
theorem dX3_locate_127 : decode cX3_locate 127 = .ok (.iload 5, 2) := by decide +kernel
theorem dX3_locate_129 : decode cX3_locate 129 = .ok (.invokestatic 64, 3) := by decide +kernel
theorem dX3_locate_132 : decode cX3_locate 132 = .ok (.putfield 25, 3) := by decide +kernel
theorem dX3_locate_135 : decode cX3_locate 135 = .ok (.aload_n 0, 1) := by decide +kernel
theorem dX3_locate_136 : decode cX3_locate 136 = .ok (.iload_n 3, 1) := by decide +kernel
theorem dX3_locate_137 : decode cX3_locate 137 = .ok (.aload_n 0, 1) := by decide +kernel
theorem dX3_locate_138 : decode cX3_locate 138 = .ok (.getfield 22, 3) := by decide +kernel
theorem dX3_locate_141 : decode cX3_locate 141 = .ok (.aload_n 0, 1) := by decide +kernel
theorem dX3_locate_142 : decode cX3_locate 142 = .ok (.getfield 28, 3) := by decide +kernel
theorem dX3_locate_145 : decode cX3_locate 145 = .ok (.imul, 1) := by decide +kernel
theorem dX3_locate_146 : decode cX3_locate 146 = .ok (.isub, 1) := by decide +kernel
theorem dX3_locate_147 : decode cX3_locate 147 = .ok (.aload_n 0, 1) := by decide +kernel
theorem dX3_locate_148 : decode cX3_locate 148 = .ok (.getfield 25, 3) := by decide +kernel
theorem dX3_locate_151 : decode cX3_locate 151 = .ok (.aload_n 0, 1) := by decide +kernel
theorem dX3_locate_152 : decode cX3_locate 152 = .ok (.getfield 34, 3) := by decide +kernel
theorem dX3_locate_155 : decode cX3_locate 155 = .ok (.imul, 1) := by decide +kernel
theorem dX3_locate_156 : decode cX3_locate 156 = .ok (.isub, 1) := by decide +kernel
theorem dX3_locate_157 : decode cX3_locate 157 = .ok (.putfield 15, 3) := by decide +kernel
theorem dX3_locate_160 : decode cX3_locate 160 = .ok (.aload_n 0, 1) := by decide +kernel
theorem dX3_locate_161 : decode cX3_locate 161 = .ok (.iload 4, 2) := by decide +kernel
theorem dX3_locate_163 : decode cX3_locate 163 = .ok (.aload_n 0, 1) := by decide +kernel
theorem dX3_locate_164 : decode cX3_locate 164 = .ok (.getfield 22, 3) := by decide +kernel
theorem dX3_locate_167 : decode cX3_locate 167 = .ok (.aload_n 0, 1) := by decide +kernel
theorem dX3_locate_168 : decode cX3_locate 168 = .ok (.getfield 31, 3) := by decide +kernel
theorem dX3_locate_171 : decode cX3_locate 171 = .ok (.imul, 1) := by decide +kernel
theorem dX3_locate_172 : decode cX3_locate 172 = .ok (.isub, 1) := by decide +kernel
theorem dX3_locate_173 : decode cX3_locate 173 = .ok (.aload_n 0, 1) := by decide +kernel
theorem dX3_locate_174 : decode cX3_locate 174 = .ok (.getfield 25, 3) := by decide +kernel
theorem dX3_locate_177 : decode cX3_locate 177 = .ok (.aload_n 0, 1) := by decide +kernel
theorem dX3_locate_178 : decode cX3_locate 178 = .ok (.getfield 37, 3) := by decide +kernel
theorem dX3_locate_181 : decode cX3_locate 181 = .ok (.imul, 1) := by decide +kernel
theorem dX3_locate_182 : decode cX3_locate 182 = .ok (.isub, 1) := by decide +kernel
theorem dX3_locate_183 : decode cX3_locate 183 = .ok (.putfield 19, 3) := by decide +kernel
theorem dX3_locate_186 : decode cX3_locate 186 = .ok (.return_, 1) := by decide +kernel
theorem dX3_farX_0 : decode cX3_farX 0 = .ok (.aload_n 0, 1) := by decide +kernel
theorem dX3_farX_1 : decode cX3_farX 1 = .ok (.getfield 28, 3) := by decide +kernel
theorem dX3_farX_4 : decode cX3_farX 4 = .ok (.aload_n 0, 1) := by decide +kernel
theorem dX3_farX_5 : decode cX3_farX 5 = .ok (.getfield 34, 3) := by decide +kernel
theorem dX3_farX_8 : decode cX3_farX 8 = .ok (.iadd, 1) := by decide +kernel
theorem dX3_farX_9 : decode cX3_farX 9 = .ok (.iload_n 1, 1) := by decide +kernel
theorem dX3_farX_10 : decode cX3_farX 10 = .ok (.aload_n 0, 1) := by decide +kernel
theorem dX3_farX_11 : decode cX3_farX 11 = .ok (.getfield 28, 3) := by decide +kernel
theorem dX3_farX_14 : decode cX3_farX 14 = .ok (.aload_n 0, 1) := by decide +kernel
theorem dX3_farX_15 : decode cX3_farX 15 = .ok (.getfield 34, 3) := by decide +kernel
theorem dX3_farX_18 : decode cX3_farX 18 = .ok (.invokestatic 73, 3) := by decide +kernel
theorem dX3_farX_21 : decode cX3_farX 21 = .ok (.imul, 1) := by decide +kernel
theorem dX3_farX_22 : decode cX3_farX 22 = .ok (.iadd, 1) := by decide +kernel
theorem dX3_farX_23 : decode cX3_farX 23 = .ok (.ireturn, 1) := by decide +kernel
theorem dX3_farY_0 : decode cX3_farY 0 = .ok (.aload_n 0, 1) := by decide +kernel
theorem dX3_farY_1 : decode cX3_farY 1 = .ok (.getfield 31, 3) := by decide +kernel
theorem dX3_farY_4 : decode cX3_farY 4 = .ok (.aload_n 0, 1) := by decide +kernel
theorem dX3_farY_5 : decode cX3_farY 5 = .ok (.getfield 37, 3) := by decide +kernel
theorem dX3_farY_8 : decode cX3_farY 8 = .ok (.iadd, 1) := by decide +kernel
theorem dX3_farY_9 : decode cX3_farY 9 = .ok (.iload_n 1, 1) := by decide +kernel
theorem dX3_farY_10 : decode cX3_farY 10 = .ok (.aload_n 0, 1) := by decide +kernel
theorem dX3_farY_11 : decode cX3_farY 11 = .ok (.getfield 31, 3) := by decide +kernel
theorem dX3_farY_14 : decode cX3_farY 14 = .ok (.aload_n 0, 1) := by decide +kernel
theorem dX3_farY_15 : decode cX3_farY 15 = .ok (.getfield 37, 3) := by decide +kernel
theorem dX3_farY_18 : decode cX3_farY 18 = .ok (.invokestatic 73, 3) := by decide +kernel
theorem dX3_farY_21 : decode cX3_farY 21 = .ok (.imul, 1) := by decide +kernel
theorem dX3_farY_22 : decode cX3_farY 22 = .ok (.iadd, 1) := by decide +kernel
theorem dX3_farY_23 : decode cX3_farY 23 = .ok (.ireturn, 1) := by decide +kernel
theorem dX3_readDifferences_0 : decode cX3_readDifferences 0 = .ok (.iconst 0, 1) := by decide +kernel
theorem dX3_readDifferences_1 : decode cX3_readDifferences 1 = .ok (.istore_n 3, 1) := by decide +kernel
theorem dX3_readDifferences_2 : decode cX3_readDifferences 2 = .ok (.iload_n 3, 1) := by decide +kernel
theorem dX3_readDifferences_3 : decode cX3_readDifferences 3 = .ok (.iload_n 1, 1) := by decide +kernel
theorem dX3_readDifferences_4 : decode cX3_readDifferences 4 = .ok (.if_icmp .gt 75, 3) := by decide +kernel
theorem dX3_readDifferences_7 : decode cX3_readDifferences 7 = .ok (.iconst 0, 1) := by decide +kernel
theorem dX3_readDifferences_8 : decode cX3_readDifferences 8 = .ok (.istore 4, 2) := by decide +kernel
theorem dX3_readDifferences_10 : decode cX3_readDifferences 10 = .ok (.iload_n 3, 1) := by decide +kernel
theorem dX3_readDifferences_11 : decode cX3_readDifferences 11 = .ok (.iload 4, 2) := by decide +kernel
theorem dX3_readDifferences_13 : decode cX3_readDifferences 13 = .ok (.iadd, 1) := by decide +kernel
theorem dX3_readDifferences_14 : decode cX3_readDifferences 14 = .ok (.iload_n 1, 1) := by decide +kernel
theorem dX3_readDifferences_15 : decode cX3_readDifferences 15 = .ok (.if_icmp .gt 58, 3) := by decide +kernel
theorem dX3_readDifferences_18 : decode cX3_readDifferences 18 = .ok (.aload_n 0, 1) := by decide +kernel
theorem dX3_readDifferences_19 : decode cX3_readDifferences 19 = .ok (.iload_n 3, 1) := by decide +kernel
theorem dX3_readDifferences_20 : decode cX3_readDifferences 20 = .ok (.iload 4, 2) := by decide +kernel
theorem dX3_readDifferences_22 : decode cX3_readDifferences 22 = .ok (.aload_n 2, 1) := by decide +kernel
theorem dX3_readDifferences_23 : decode cX3_readDifferences 23 = .ok (.aload_n 0, 1) := by decide +kernel
theorem dX3_readDifferences_24 : decode cX3_readDifferences 24 = .ok (.getfield 15, 3) := by decide +kernel
theorem dX3_readDifferences_27 : decode cX3_readDifferences 27 = .ok (.iload_n 3, 1) := by decide +kernel
theorem dX3_readDifferences_28 : decode cX3_readDifferences 28 = .ok (.aload_n 0, 1) := by decide +kernel
theorem dX3_readDifferences_29 : decode cX3_readDifferences 29 = .ok (.getfield 28, 3) := by decide +kernel
theorem dX3_readDifferences_32 : decode cX3_readDifferences 32 = .ok (.imul, 1) := by decide +kernel
theorem dX3_readDifferences_33 : decode cX3_readDifferences 33 = .ok (.iadd, 1) := by decide +kernel
theorem dX3_readDifferences_34 : decode cX3_readDifferences 34 = .ok (.iload 4, 2) := by decide +kernel
theorem dX3_readDifferences_36 : decode cX3_readDifferences 36 = .ok (.aload_n 0, 1) := by decide +kernel
theorem dX3_readDifferences_37 : decode cX3_readDifferences 37 = .ok (.getfield 34, 3) := by decide +kernel
theorem dX3_readDifferences_40 : decode cX3_readDifferences 40 = .ok (.imul, 1) := by decide +kernel
theorem dX3_readDifferences_41 : decode cX3_readDifferences 41 = .ok (.iadd, 1) := by decide +kernel
theorem dX3_readDifferences_42 : decode cX3_readDifferences 42 = .ok (.aload_n 0, 1) := by decide +kernel
theorem dX3_readDifferences_43 : decode cX3_readDifferences 43 = .ok (.getfield 19, 3) := by decide +kernel
theorem dX3_readDifferences_46 : decode cX3_readDifferences 46 = .ok (.iload_n 3, 1) := by decide +kernel
theorem dX3_readDifferences_47 : decode cX3_readDifferences 47 = .ok (.aload_n 0, 1) := by decide +kernel
theorem dX3_readDifferences_48 : decode cX3_readDifferences 48 = .ok (.getfield 31, 3) := by decide +kernel
theorem dX3_readDifferences_51 : decode cX3_readDifferences 51 = .ok (.imul, 1) := by decide +kernel
theorem dX3_readDifferences_52 : decode cX3_readDifferences 52 = .ok (.iadd, 1) := by decide +kernel
theorem dX3_readDifferences_53 : decode cX3_readDifferences 53 = .ok (.iload 4, 2) := by decide +kernel
theorem dX3_readDifferences_55 : decode cX3_readDifferences 55 = .ok (.aload_n 0, 1) := by decide +kernel
theorem dX3_readDifferences_56 : decode cX3_readDifferences 56 = .ok (.getfield 37, 3) := by decide +kernel
theorem dX3_readDifferences_59 : decode cX3_readDifferences 59 = .ok (.imul, 1) := by decide +kernel
theorem dX3_readDifferences_60 : decode cX3_readDifferences 60 = .ok (.iadd, 1) := by decide +kernel
theorem dX3_readDifferences_61 : decode cX3_readDifferences 61 = .ok (.invokevirtual 76, 3) := by decide +kernel
theorem dX3_readDifferences_64 : decode cX3_readDifferences 64 = .ok (.invokevirtual 82, 3) := by decide +kernel
theorem dX3_readDifferences_67 : decode cX3_readDifferences 67 = .ok (.iinc 4 1, 3) := by decide +kernel
theorem dX3_readDifferences_70 : decode cX3_readDifferences 70 = .ok (.goto (-60), 3) := by decide +kernel
theorem dX3_readDifferences_73 : decode cX3_readDifferences 73 = .ok (.iinc 3 1, 3) := by decide +kernel
theorem dX3_readDifferences_76 : decode cX3_readDifferences 76 = .ok (.goto (-74), 3) := by decide +kernel
theorem dX3_readDifferences_79 : decode cX3_readDifferences 79 = .ok (.iconst 1, 1) := by decide +kernel
theorem dX3_readDifferences_80 : decode cX3_readDifferences 80 = .ok (.istore_n 3, 1) := by decide +kernel
theorem dX3_readDifferences_81 : decode cX3_readDifferences 81 = .ok (.iload_n 3, 1) := by decide +kernel
theorem dX3_readDifferences_82 : decode cX3_readDifferences 82 = .ok (.iload_n 1, 1) := by decide +kernel
theorem dX3_readDifferences_83 : decode cX3_readDifferences 83 = .ok (.if_icmp .gt 69, 3) := by decide +kernel
theorem dX3_readDifferences_86 : decode cX3_readDifferences 86 = .ok (.iload_n 1, 1) := by decide +kernel
theorem dX3_readDifferences_87 : decode cX3_readDifferences 87 = .ok (.istore 4, 2) := by decide +kernel
theorem dX3_readDifferences_89 : decode cX3_readDifferences 89 = .ok (.iload 4, 2) := by decide +kernel
theorem dX3_readDifferences_91 : decode cX3_readDifferences 91 = .ok (.iload_n 3, 1) := by decide +kernel
theorem dX3_readDifferences_92 : decode cX3_readDifferences 92 = .ok (.if_icmp .lt 54, 3) := by decide +kernel
theorem dX3_readDifferences_95 : decode cX3_readDifferences 95 = .ok (.iconst 0, 1) := by decide +kernel
theorem dX3_readDifferences_96 : decode cX3_readDifferences 96 = .ok (.istore 5, 2) := by decide +kernel
theorem dX3_readDifferences_98 : decode cX3_readDifferences 98 = .ok (.iload 4, 2) := by decide +kernel
theorem dX3_readDifferences_100 : decode cX3_readDifferences 100 = .ok (.iload 5, 2) := by decide +kernel
theorem dX3_readDifferences_102 : decode cX3_readDifferences 102 = .ok (.iadd, 1) := by decide +kernel
theorem dX3_readDifferences_103 : decode cX3_readDifferences 103 = .ok (.iload_n 1, 1) := by decide +kernel
theorem dX3_readDifferences_104 : decode cX3_readDifferences 104 = .ok (.if_icmp .gt 36, 3) := by decide +kernel
theorem dX3_readDifferences_107 : decode cX3_readDifferences 107 = .ok (.aload_n 0, 1) := by decide +kernel
theorem dX3_readDifferences_108 : decode cX3_readDifferences 108 = .ok (.iload 4, 2) := by decide +kernel
theorem dX3_readDifferences_110 : decode cX3_readDifferences 110 = .ok (.iload 5, 2) := by decide +kernel
theorem dX3_readDifferences_112 : decode cX3_readDifferences 112 = .ok (.aload_n 0, 1) := by decide +kernel
theorem dX3_readDifferences_113 : decode cX3_readDifferences 113 = .ok (.iload 4, 2) := by decide +kernel
theorem dX3_readDifferences_115 : decode cX3_readDifferences 115 = .ok (.iload 5, 2) := by decide +kernel
theorem dX3_readDifferences_117 : decode cX3_readDifferences 117 = .ok (.invokevirtual 86, 3) := by decide +kernel
theorem dX3_readDifferences_120 : decode cX3_readDifferences 120 = .ok (.aload_n 0, 1) := by decide +kernel
theorem dX3_readDifferences_121 : decode cX3_readDifferences 121 = .ok (.iload 4, 2) := by decide +kernel
theorem dX3_readDifferences_123 : decode cX3_readDifferences 123 = .ok (.iconst 1, 1) := by decide +kernel
theorem dX3_readDifferences_124 : decode cX3_readDifferences 124 = .ok (.isub, 1) := by decide +kernel
theorem dX3_readDifferences_125 : decode cX3_readDifferences 125 = .ok (.iload 5, 2) := by decide +kernel
theorem dX3_readDifferences_127 : decode cX3_readDifferences 127 = .ok (.invokevirtual 86, 3) := by decide +kernel
theorem dX3_readDifferences_130 : decode cX3_readDifferences 130 = .ok (.lsub, 1) := by decide +kernel
theorem dX3_readDifferences_131 : decode cX3_readDifferences 131 = .ok (.invokevirtual 82, 3) := by decide +kernel
theorem dX3_readDifferences_134 : decode cX3_readDifferences 134 = .ok (.iinc 5 1, 3) := by decide +kernel
theorem dX3_readDifferences_137 : decode cX3_readDifferences 137 = .ok (.goto (-39), 3) := by decide +kernel
theorem dX3_readDifferences_140 : decode cX3_readDifferences 140 = .ok (.iinc 4 (-1), 3) := by decide +kernel
theorem dX3_readDifferences_143 : decode cX3_readDifferences 143 = .ok (.goto (-54), 3) := by decide +kernel
theorem dX3_readDifferences_146 : decode cX3_readDifferences 146 = .ok (.iinc 3 1, 3) := by decide +kernel
theorem dX3_readDifferences_149 : decode cX3_readDifferences 149 = .ok (.goto (-68), 3) := by decide +kernel
theorem dX3_readDifferences_152 : decode cX3_readDifferences 152 = .ok (.iconst 1, 1) := by decide +kernel
theorem dX3_readDifferences_153 : decode cX3_readDifferences 153 = .ok (.istore_n 3, 1) := by decide +kernel
theorem dX3_readDifferences_154 : decode cX3_readDifferences 154 = .ok (.iload_n 3, 1) := by decide +kernel
theorem dX3_readDifferences_155 : decode cX3_readDifferences 155 = .ok (.iload_n 1, 1) := by decide +kernel
theorem dX3_readDifferences_156 : decode cX3_readDifferences 156 = .ok (.if_icmp .gt 69, 3) := by decide +kernel
theorem dX3_readDifferences_159 : decode cX3_readDifferences 159 = .ok (.iload_n 1, 1) := by decide +kernel
theorem dX3_readDifferences_160 : decode cX3_readDifferences 160 = .ok (.istore 4, 2) := by decide +kernel
theorem dX3_readDifferences_162 : decode cX3_readDifferences 162 = .ok (.iload 4, 2) := by decide +kernel
theorem dX3_readDifferences_164 : decode cX3_readDifferences 164 = .ok (.iload_n 3, 1) := by decide +kernel
theorem dX3_readDifferences_165 : decode cX3_readDifferences 165 = .ok (.if_icmp .lt 54, 3) := by decide +kernel
theorem dX3_readDifferences_168 : decode cX3_readDifferences 168 = .ok (.iconst 0, 1) := by decide +kernel
theorem dX3_readDifferences_169 : decode cX3_readDifferences 169 = .ok (.istore 5, 2) := by decide +kernel
theorem dX3_readDifferences_171 : decode cX3_readDifferences 171 = .ok (.iload 5, 2) := by decide +kernel
theorem dX3_readDifferences_173 : decode cX3_readDifferences 173 = .ok (.iload 4, 2) := by decide +kernel
theorem dX3_readDifferences_175 : decode cX3_readDifferences 175 = .ok (.iadd, 1) := by decide +kernel
theorem dX3_readDifferences_176 : decode cX3_readDifferences 176 = .ok (.iload_n 1, 1) := by decide +kernel
theorem dX3_readDifferences_177 : decode cX3_readDifferences 177 = .ok (.if_icmp .gt 36, 3) := by decide +kernel
theorem dX3_readDifferences_180 : decode cX3_readDifferences 180 = .ok (.aload_n 0, 1) := by decide +kernel
theorem dX3_readDifferences_181 : decode cX3_readDifferences 181 = .ok (.iload 5, 2) := by decide +kernel
theorem dX3_readDifferences_183 : decode cX3_readDifferences 183 = .ok (.iload 4, 2) := by decide +kernel
theorem dX3_readDifferences_185 : decode cX3_readDifferences 185 = .ok (.aload_n 0, 1) := by decide +kernel
theorem dX3_readDifferences_186 : decode cX3_readDifferences 186 = .ok (.iload 5, 2) := by decide +kernel
theorem dX3_readDifferences_188 : decode cX3_readDifferences 188 = .ok (.iload 4, 2) := by decide +kernel
theorem dX3_readDifferences_190 : decode cX3_readDifferences 190 = .ok (.invokevirtual 86, 3) := by decide +kernel
theorem dX3_readDifferences_193 : decode cX3_readDifferences 193 = .ok (.aload_n 0, 1) := by decide +kernel
theorem dX3_readDifferences_194 : decode cX3_readDifferences 194 = .ok (.iload 5, 2) := by decide +kernel
theorem dX3_readDifferences_196 : decode cX3_readDifferences 196 = .ok (.iload 4, 2) := by decide +kernel
theorem dX3_readDifferences_198 : decode cX3_readDifferences 198 = .ok (.iconst 1, 1) := by decide +kernel
theorem dX3_readDifferences_199 : decode cX3_readDifferences 199 = .ok (.isub, 1) := by decide +kernel
theorem dX3_readDifferences_200 : decode cX3_readDifferences 200 = .ok (.invokevirtual 86, 3) := by decide +kernel
theorem dX3_readDifferences_203 : decode cX3_readDifferences 203 = .ok (.lsub, 1) := by decide +kernel
theorem dX3_readDifferences_204 : decode cX3_readDifferences 204 = .ok (.invokevirtual 82, 3) := by decide +kernel
theorem dX3_readDifferences_207 : decode cX3_readDifferences 207 = .ok (.iinc 5 1, 3) := by decide +kernel
theorem dX3_readDifferences_210 : decode cX3_readDifferences 210 = .ok (.goto (-39), 3) := by decide +kernel
theorem dX3_readDifferences_213 : decode cX3_readDifferences 213 = .ok (.iinc 4 (-1), 3) := by decide +kernel
theorem dX3_readDifferences_216 : decode cX3_readDifferences 216 = .ok (.goto (-54), 3) := by decide +kernel
theorem dX3_readDifferences_219 : decode cX3_readDifferences 219 = .ok (.iinc 3 1, 3) := by decide +kernel
theorem dX3_readDifferences_222 : decode cX3_readDifferences 222 = .ok (.goto (-68), 3) := by decide +kernel
theorem dX3_readDifferences_225 : decode cX3_readDifferences 225 = .ok (.return_, 1) := by decide +kernel
theorem dX3_told_0 : decode cX3_told 0 = .ok (.aload_n 0, 1) := by decide +kernel
theorem dX3_told_1 : decode cX3_told 1 = .ok (.iload_n 1, 1) := by decide +kernel
theorem dX3_told_2 : decode cX3_told 2 = .ok (.aload_n 2, 1) := by decide +kernel
theorem dX3_told_3 : decode cX3_told 3 = .ok (.invokevirtual 89, 3) := by decide +kernel
theorem dX3_told_6 : decode cX3_told 6 = .ok (.lconst 0, 1) := by decide +kernel
theorem dX3_told_7 : decode cX3_told 7 = .ok (.lstore_n 3, 1) := by decide +kernel
theorem dX3_told_8 : decode cX3_told 8 = .ok (.lconst 1, 1) := by decide +kernel
theorem dX3_told_9 : decode cX3_told 9 = .ok (.lstore 5, 2) := by decide +kernel
theorem dX3_told_11 : decode cX3_told 11 = .ok (.iconst 0, 1) := by decide +kernel
theorem dX3_told_12 : decode cX3_told 12 = .ok (.istore 7, 2) := by decide +kernel
theorem dX3_told_14 : decode cX3_told 14 = .ok (.iload 7, 2) := by decide +kernel
theorem dX3_told_16 : decode cX3_told 16 = .ok (.iload_n 1, 1) := by decide +kernel
theorem dX3_told_17 : decode cX3_told 17 = .ok (.if_icmp .gt 73, 3) := by decide +kernel
theorem dX3_told_20 : decode cX3_told 20 = .ok (.lconst 1, 1) := by decide +kernel
theorem dX3_told_21 : decode cX3_told 21 = .ok (.lstore 8, 2) := by decide +kernel
theorem dX3_told_23 : decode cX3_told 23 = .ok (.iconst 0, 1) := by decide +kernel
theorem dX3_told_24 : decode cX3_told 24 = .ok (.istore 10, 2) := by decide +kernel
theorem dX3_told_26 : decode cX3_told 26 = .ok (.iload 7, 2) := by decide +kernel
theorem dX3_told_28 : decode cX3_told 28 = .ok (.iload 10, 2) := by decide +kernel
theorem dX3_told_30 : decode cX3_told 30 = .ok (.iadd, 1) := by decide +kernel
theorem dX3_told_31 : decode cX3_told 31 = .ok (.iload_n 1, 1) := by decide +kernel
theorem dX3_told_32 : decode cX3_told 32 = .ok (.if_icmp .gt 39, 3) := by decide +kernel
theorem dX3_told_35 : decode cX3_told 35 = .ok (.lload_n 3, 1) := by decide +kernel
theorem dX3_told_36 : decode cX3_told 36 = .ok (.aload_n 0, 1) := by decide +kernel
theorem dX3_told_37 : decode cX3_told 37 = .ok (.iload 7, 2) := by decide +kernel
theorem dX3_told_39 : decode cX3_told 39 = .ok (.iload 10, 2) := by decide +kernel
theorem dX3_told_41 : decode cX3_told 41 = .ok (.invokevirtual 86, 3) := by decide +kernel
theorem dX3_told_44 : decode cX3_told 44 = .ok (.lload 5, 2) := by decide +kernel
theorem dX3_told_46 : decode cX3_told 46 = .ok (.lmul, 1) := by decide +kernel
theorem dX3_told_47 : decode cX3_told 47 = .ok (.lload 8, 2) := by decide +kernel
theorem dX3_told_49 : decode cX3_told 49 = .ok (.lmul, 1) := by decide +kernel
theorem dX3_told_50 : decode cX3_told 50 = .ok (.ladd, 1) := by decide +kernel
theorem dX3_told_51 : decode cX3_told 51 = .ok (.lstore_n 3, 1) := by decide +kernel
theorem dX3_told_52 : decode cX3_told 52 = .ok (.lload 8, 2) := by decide +kernel
theorem dX3_told_54 : decode cX3_told 54 = .ok (.aload_n 0, 1) := by decide +kernel
theorem dX3_told_55 : decode cX3_told 55 = .ok (.getfield 25, 3) := by decide +kernel
theorem dX3_told_58 : decode cX3_told 58 = .ok (.iload 10, 2) := by decide +kernel
theorem dX3_told_60 : decode cX3_told 60 = .ok (.invokestatic 93, 3) := by decide +kernel
theorem dX3_told_63 : decode cX3_told 63 = .ok (.lstore 8, 2) := by decide +kernel
theorem dX3_told_65 : decode cX3_told 65 = .ok (.iinc 10 1, 3) := by decide +kernel
theorem dX3_told_68 : decode cX3_told 68 = .ok (.goto (-42), 3) := by decide +kernel
theorem dX3_told_71 : decode cX3_told 71 = .ok (.lload 5, 2) := by decide +kernel
theorem dX3_told_73 : decode cX3_told 73 = .ok (.aload_n 0, 1) := by decide +kernel
theorem dX3_told_74 : decode cX3_told 74 = .ok (.getfield 22, 3) := by decide +kernel
theorem dX3_told_77 : decode cX3_told 77 = .ok (.iload 7, 2) := by decide +kernel
theorem dX3_told_79 : decode cX3_told 79 = .ok (.invokestatic 93, 3) := by decide +kernel
theorem dX3_told_82 : decode cX3_told 82 = .ok (.lstore 5, 2) := by decide +kernel
theorem dX3_told_84 : decode cX3_told 84 = .ok (.iinc 7 1, 3) := by decide +kernel
theorem dX3_told_87 : decode cX3_told 87 = .ok (.goto (-73), 3) := by decide +kernel
theorem dX3_told_90 : decode cX3_told 90 = .ok (.lload_n 3, 1) := by decide +kernel
theorem dX3_told_91 : decode cX3_told 91 = .ok (.lreturn, 1) := by decide +kernel
theorem dX3_chooseNext_0 : decode cX3_chooseNext 0 = .ok (.iload_n 3, 1) := by decide +kernel
theorem dX3_chooseNext_1 : decode cX3_chooseNext 1 = .ok (.ifCond .ge 7, 3) := by decide +kernel
theorem dX3_chooseNext_4 : decode cX3_chooseNext 4 = .ok (.lconst 0, 1) := by decide +kernel
theorem dX3_chooseNext_5 : decode cX3_chooseNext 5 = .ok (.goto 14, 3) := by decide +kernel
theorem dX3_chooseNext_8 : decode cX3_chooseNext 8 = .ok (.lload_n 0, 1) := by decide +kernel
theorem dX3_chooseNext_9 : decode cX3_chooseNext 9 = .ok (.iload_n 2, 1) := by decide +kernel
theorem dX3_chooseNext_10 : decode cX3_chooseNext 10 = .ok (.iload_n 3, 1) := by decide +kernel
theorem dX3_chooseNext_11 : decode cX3_chooseNext 11 = .ok (.isub, 1) := by decide +kernel
theorem dX3_chooseNext_12 : decode cX3_chooseNext 12 = .ok (.i2l, 1) := by decide +kernel
theorem dX3_chooseNext_13 : decode cX3_chooseNext 13 = .ok (.lmul, 1) := by decide +kernel
theorem dX3_chooseNext_14 : decode cX3_chooseNext 14 = .ok (.iload_n 3, 1) := by decide +kernel
theorem dX3_chooseNext_15 : decode cX3_chooseNext 15 = .ok (.iconst 1, 1) := by decide +kernel
theorem dX3_chooseNext_16 : decode cX3_chooseNext 16 = .ok (.iadd, 1) := by decide +kernel
theorem dX3_chooseNext_17 : decode cX3_chooseNext 17 = .ok (.i2l, 1) := by decide +kernel
theorem dX3_chooseNext_18 : decode cX3_chooseNext 18 = .ok (.ldiv, 1) := by decide +kernel
theorem dX3_chooseNext_19 : decode cX3_chooseNext 19 = .ok (.lreturn, 1) := by decide +kernel
theorem dX3_set_0 : decode cX3_set 0 = .ok (.iload_n 1, 1) := by decide +kernel
theorem dX3_set_1 : decode cX3_set 1 = .ok (.ifCond .lt 28, 3) := by decide +kernel
theorem dX3_set_4 : decode cX3_set 4 = .ok (.iload_n 1, 1) := by decide +kernel
theorem dX3_set_5 : decode cX3_set 5 = .ok (.iconst 5, 1) := by decide +kernel
theorem dX3_set_6 : decode cX3_set 6 = .ok (.if_icmp .ge 23, 3) := by decide +kernel
theorem dX3_set_9 : decode cX3_set 9 = .ok (.iload_n 2, 1) := by decide +kernel
theorem dX3_set_10 : decode cX3_set 10 = .ok (.ifCond .lt 19, 3) := by decide +kernel
theorem dX3_set_13 : decode cX3_set 13 = .ok (.iload_n 2, 1) := by decide +kernel
theorem dX3_set_14 : decode cX3_set 14 = .ok (.iconst 5, 1) := by decide +kernel
theorem dX3_set_15 : decode cX3_set 15 = .ok (.if_icmp .ge 14, 3) := by decide +kernel
theorem dX3_set_18 : decode cX3_set 18 = .ok (.aload_n 0, 1) := by decide +kernel
theorem dX3_set_19 : decode cX3_set 19 = .ok (.getfield 11, 3) := by decide +kernel
theorem dX3_set_22 : decode cX3_set 22 = .ok (.iload_n 1, 1) := by decide +kernel
theorem dX3_set_23 : decode cX3_set 23 = .ok (.iconst 5, 1) := by decide +kernel
theorem dX3_set_24 : decode cX3_set 24 = .ok (.imul, 1) := by decide +kernel
theorem dX3_set_25 : decode cX3_set 25 = .ok (.iload_n 2, 1) := by decide +kernel
theorem dX3_set_26 : decode cX3_set 26 = .ok (.iadd, 1) := by decide +kernel
theorem dX3_set_27 : decode cX3_set 27 = .ok (.lload_n 3, 1) := by decide +kernel
theorem dX3_set_28 : decode cX3_set 28 = .ok (.lastore, 1) := by decide +kernel
theorem dX3_set_29 : decode cX3_set 29 = .ok (.return_, 1) := by decide +kernel
theorem dX3_differenceAt_0 : decode cX3_differenceAt 0 = .ok (.iload_n 1, 1) := by decide +kernel
theorem dX3_differenceAt_1 : decode cX3_differenceAt 1 = .ok (.ifCond .lt 30, 3) := by decide +kernel
theorem dX3_differenceAt_4 : decode cX3_differenceAt 4 = .ok (.iload_n 1, 1) := by decide +kernel
theorem dX3_differenceAt_5 : decode cX3_differenceAt 5 = .ok (.iconst 5, 1) := by decide +kernel
theorem dX3_differenceAt_6 : decode cX3_differenceAt 6 = .ok (.if_icmp .ge 25, 3) := by decide +kernel
theorem dX3_differenceAt_9 : decode cX3_differenceAt 9 = .ok (.iload_n 2, 1) := by decide +kernel
theorem dX3_differenceAt_10 : decode cX3_differenceAt 10 = .ok (.ifCond .lt 21, 3) := by decide +kernel
theorem dX3_differenceAt_13 : decode cX3_differenceAt 13 = .ok (.iload_n 2, 1) := by decide +kernel
theorem dX3_differenceAt_14 : decode cX3_differenceAt 14 = .ok (.iconst 5, 1) := by decide +kernel
theorem dX3_differenceAt_15 : decode cX3_differenceAt 15 = .ok (.if_icmp .ge 16, 3) := by decide +kernel
theorem dX3_differenceAt_18 : decode cX3_differenceAt 18 = .ok (.aload_n 0, 1) := by decide +kernel
theorem dX3_differenceAt_19 : decode cX3_differenceAt 19 = .ok (.getfield 11, 3) := by decide +kernel
theorem dX3_differenceAt_22 : decode cX3_differenceAt 22 = .ok (.iload_n 1, 1) := by decide +kernel
theorem dX3_differenceAt_23 : decode cX3_differenceAt 23 = .ok (.iconst 5, 1) := by decide +kernel
theorem dX3_differenceAt_24 : decode cX3_differenceAt 24 = .ok (.imul, 1) := by decide +kernel
theorem dX3_differenceAt_25 : decode cX3_differenceAt 25 = .ok (.iload_n 2, 1) := by decide +kernel
theorem dX3_differenceAt_26 : decode cX3_differenceAt 26 = .ok (.iadd, 1) := by decide +kernel
theorem dX3_differenceAt_27 : decode cX3_differenceAt 27 = .ok (.laload, 1) := by decide +kernel
theorem dX3_differenceAt_28 : decode cX3_differenceAt 28 = .ok (.goto 4, 3) := by decide +kernel
theorem dX3_differenceAt_31 : decode cX3_differenceAt 31 = .ok (.lconst 0, 1) := by decide +kernel
theorem dX3_differenceAt_32 : decode cX3_differenceAt 32 = .ok (.lreturn, 1) := by decide +kernel
theorem dX4_init_0 : decode cX4_init 0 = .ok (.aload_n 0, 1) := by decide +kernel
theorem dX4_init_1 : decode cX4_init 1 = .ok (.invokespecial 3, 3) := by decide +kernel
theorem dX4_init_4 : decode cX4_init 4 = .ok (.aload_n 0, 1) := by decide +kernel
theorem dX4_init_5 : decode cX4_init 5 = .ok (.sipush 20736, 3) := by decide +kernel
theorem dX4_init_8 : decode cX4_init 8 = .ok (.newarray .long, 2) := by decide +kernel
theorem dX4_init_10 : decode cX4_init 10 = .ok (.putfield 11, 3) := by decide +kernel
theorem dX4_init_13 : decode cX4_init 13 = .ok (.aload_n 0, 1) := by decide +kernel
theorem dX4_init_14 : decode cX4_init 14 = .ok (.iconst (-1), 1) := by decide +kernel
theorem dX4_init_15 : decode cX4_init 15 = .ok (.putfield 15, 3) := by decide +kernel
theorem dX4_init_18 : decode cX4_init 18 = .ok (.aload_n 0, 1) := by decide +kernel
theorem dX4_init_19 : decode cX4_init 19 = .ok (.iconst (-1), 1) := by decide +kernel
theorem dX4_init_20 : decode cX4_init 20 = .ok (.putfield 19, 3) := by decide +kernel
theorem dX4_init_23 : decode cX4_init 23 = .ok (.return_, 1) := by decide +kernel
theorem dX4_forget_0 : decode cX4_forget 0 = .ok (.aload_n 0, 1) := by decide +kernel
theorem dX4_forget_1 : decode cX4_forget 1 = .ok (.iconst (-1), 1) := by decide +kernel
theorem dX4_forget_2 : decode cX4_forget 2 = .ok (.putfield 15, 3) := by decide +kernel
theorem dX4_forget_5 : decode cX4_forget 5 = .ok (.aload_n 0, 1) := by decide +kernel
theorem dX4_forget_6 : decode cX4_forget 6 = .ok (.iconst (-1), 1) := by decide +kernel
theorem dX4_forget_7 : decode cX4_forget 7 = .ok (.putfield 19, 3) := by decide +kernel
theorem dX4_forget_10 : decode cX4_forget 10 = .ok (.return_, 1) := by decide +kernel
theorem dX4_reach_0 : decode cX4_reach 0 = .ok (.iload_n 1, 1) := by decide +kernel
theorem dX4_reach_1 : decode cX4_reach 1 = .ok (.aload_n 0, 1) := by decide +kernel
theorem dX4_reach_2 : decode cX4_reach 2 = .ok (.getfield 15, 3) := by decide +kernel
theorem dX4_reach_5 : decode cX4_reach 5 = .ok (.if_icmp .gt 12, 3) := by decide +kernel
theorem dX4_reach_8 : decode cX4_reach 8 = .ok (.iload_n 2, 1) := by decide +kernel
theorem dX4_reach_9 : decode cX4_reach 9 = .ok (.aload_n 0, 1) := by decide +kernel
theorem dX4_reach_10 : decode cX4_reach 10 = .ok (.getfield 19, 3) := by decide +kernel
theorem dX4_reach_13 : decode cX4_reach 13 = .ok (.if_icmp .gt 4, 3) := by decide +kernel
theorem dX4_reach_16 : decode cX4_reach 16 = .ok (.return_, 1) := by decide +kernel
theorem dX4_reach_17 : decode cX4_reach 17 = .ok (.aload_n 0, 1) := by decide +kernel
theorem dX4_reach_18 : decode cX4_reach 18 = .ok (.iload_n 1, 1) := by decide +kernel
theorem dX4_reach_19 : decode cX4_reach 19 = .ok (.aload_n 0, 1) := by decide +kernel
theorem dX4_reach_20 : decode cX4_reach 20 = .ok (.getfield 15, 3) := by decide +kernel
theorem dX4_reach_23 : decode cX4_reach 23 = .ok (.invokestatic 22, 3) := by decide +kernel
theorem dX4_reach_26 : decode cX4_reach 26 = .ok (.sipush 143, 3) := by decide +kernel
theorem dX4_reach_29 : decode cX4_reach 29 = .ok (.invokestatic 28, 3) := by decide +kernel
theorem dX4_reach_32 : decode cX4_reach 32 = .ok (.putfield 15, 3) := by decide +kernel
theorem dX4_reach_35 : decode cX4_reach 35 = .ok (.aload_n 0, 1) := by decide +kernel
theorem dX4_reach_36 : decode cX4_reach 36 = .ok (.iload_n 2, 1) := by decide +kernel
theorem dX4_reach_37 : decode cX4_reach 37 = .ok (.aload_n 0, 1) := by decide +kernel
theorem dX4_reach_38 : decode cX4_reach 38 = .ok (.getfield 19, 3) := by decide +kernel
theorem dX4_reach_41 : decode cX4_reach 41 = .ok (.invokestatic 22, 3) := by decide +kernel
theorem dX4_reach_44 : decode cX4_reach 44 = .ok (.sipush 143, 3) := by decide +kernel
theorem dX4_reach_47 : decode cX4_reach 47 = .ok (.invokestatic 28, 3) := by decide +kernel
theorem dX4_reach_50 : decode cX4_reach 50 = .ok (.putfield 19, 3) := by decide +kernel
theorem dX4_reach_53 : decode cX4_reach 53 = .ok (.aload_n 0, 1) := by decide +kernel
theorem dX4_reach_54 : decode cX4_reach 54 = .ok (.invokevirtual 31, 3) := by decide +kernel
theorem dX4_reach_57 : decode cX4_reach 57 = .ok (.iconst 0, 1) := by decide +kernel
theorem dX4_reach_58 : decode cX4_reach 58 = .ok (.istore 4, 2) := by decide +kernel
theorem dX4_reach_60 : decode cX4_reach 60 = .ok (.iload 4, 2) := by decide +kernel
theorem dX4_reach_62 : decode cX4_reach 62 = .ok (.aload_n 3, 1) := by decide +kernel
theorem dX4_reach_63 : decode cX4_reach 63 = .ok (.getfield 34, 3) := by decide +kernel
theorem dX4_reach_66 : decode cX4_reach 66 = .ok (.if_icmp .ge 34, 3) := by decide +kernel
theorem dX4_reach_69 : decode cX4_reach 69 = .ok (.iload 4, 2) := by decide +kernel
theorem dX4_reach_71 : decode cX4_reach 71 = .ok (.bipush 6, 2) := by decide +kernel
theorem dX4_reach_73 : decode cX4_reach 73 = .ok (.if_icmp .ge 27, 3) := by decide +kernel
theorem dX4_reach_76 : decode cX4_reach 76 = .ok (.aload_n 0, 1) := by decide +kernel
theorem dX4_reach_77 : decode cX4_reach 77 = .ok (.aload_n 3, 1) := by decide +kernel
theorem dX4_reach_78 : decode cX4_reach 78 = .ok (.getfield 39, 3) := by decide +kernel
theorem dX4_reach_81 : decode cX4_reach 81 = .ok (.iload 4, 2) := by decide +kernel
theorem dX4_reach_83 : decode cX4_reach 83 = .ok (.iaload, 1) := by decide +kernel
theorem dX4_reach_84 : decode cX4_reach 84 = .ok (.aload_n 3, 1) := by decide +kernel
theorem dX4_reach_85 : decode cX4_reach 85 = .ok (.getfield 43, 3) := by decide +kernel
theorem dX4_reach_88 : decode cX4_reach 88 = .ok (.iload 4, 2) := by decide +kernel
theorem dX4_reach_90 : decode cX4_reach 90 = .ok (.iaload, 1) := by decide +kernel
theorem dX4_reach_91 : decode cX4_reach 91 = .ok (.invokevirtual 46, 3) := by decide +kernel
theorem dX4_reach_94 : decode cX4_reach 94 = .ok (.iinc 4 1, 3) := by decide +kernel
theorem dX4_reach_97 : decode cX4_reach 97 = .ok (.goto (-37), 3) := by decide +kernel
theorem dX4_reach_100 : decode cX4_reach 100 = .ok (.return_, 1) := by decide +kernel
theorem dX4_begin_0 : decode cX4_begin 0 = .ok (.iconst 0, 1) := by decide +kernel
theorem dX4_begin_1 : decode cX4_begin 1 = .ok (.istore_n 1, 1) := by decide +kernel
theorem dX4_begin_2 : decode cX4_begin 2 = .ok (.iload_n 1, 1) := by decide +kernel
theorem dX4_begin_3 : decode cX4_begin 3 = .ok (.aload_n 0, 1) := by decide +kernel
theorem dX4_begin_4 : decode cX4_begin 4 = .ok (.getfield 15, 3) := by decide +kernel
theorem dX4_begin_7 : decode cX4_begin 7 = .ok (.if_icmp .gt 52, 3) := by decide +kernel
theorem dX4_begin_10 : decode cX4_begin 10 = .ok (.iload_n 1, 1) := by decide +kernel
theorem dX4_begin_11 : decode cX4_begin 11 = .ok (.sipush 144, 3) := by decide +kernel
theorem dX4_begin_14 : decode cX4_begin 14 = .ok (.if_icmp .ge 45, 3) := by decide +kernel
theorem dX4_begin_17 : decode cX4_begin 17 = .ok (.iconst 0, 1) := by decide +kernel
theorem dX4_begin_18 : decode cX4_begin 18 = .ok (.istore_n 2, 1) := by decide +kernel
theorem dX4_begin_19 : decode cX4_begin 19 = .ok (.iload_n 2, 1) := by decide +kernel
theorem dX4_begin_20 : decode cX4_begin 20 = .ok (.aload_n 0, 1) := by decide +kernel
theorem dX4_begin_21 : decode cX4_begin 21 = .ok (.getfield 19, 3) := by decide +kernel
theorem dX4_begin_24 : decode cX4_begin 24 = .ok (.if_icmp .gt 29, 3) := by decide +kernel
theorem dX4_begin_27 : decode cX4_begin 27 = .ok (.iload_n 2, 1) := by decide +kernel
theorem dX4_begin_28 : decode cX4_begin 28 = .ok (.sipush 144, 3) := by decide +kernel
theorem dX4_begin_31 : decode cX4_begin 31 = .ok (.if_icmp .ge 22, 3) := by decide +kernel
theorem dX4_begin_34 : decode cX4_begin 34 = .ok (.aload_n 0, 1) := by decide +kernel
theorem dX4_begin_35 : decode cX4_begin 35 = .ok (.getfield 11, 3) := by decide +kernel
theorem dX4_begin_38 : decode cX4_begin 38 = .ok (.iload_n 1, 1) := by decide +kernel
theorem dX4_begin_39 : decode cX4_begin 39 = .ok (.sipush 144, 3) := by decide +kernel
theorem dX4_begin_42 : decode cX4_begin 42 = .ok (.imul, 1) := by decide +kernel
theorem dX4_begin_43 : decode cX4_begin 43 = .ok (.iload_n 2, 1) := by decide +kernel
theorem dX4_begin_44 : decode cX4_begin 44 = .ok (.iadd, 1) := by decide +kernel
theorem dX4_begin_45 : decode cX4_begin 45 = .ok (.lconst 0, 1) := by decide +kernel
theorem dX4_begin_46 : decode cX4_begin 46 = .ok (.lastore, 1) := by decide +kernel
theorem dX4_begin_47 : decode cX4_begin 47 = .ok (.iinc 2 1, 3) := by decide +kernel
theorem dX4_begin_50 : decode cX4_begin 50 = .ok (.goto (-31), 3) := by decide +kernel
theorem dX4_begin_53 : decode cX4_begin 53 = .ok (.iinc 1 1, 3) := by decide +kernel
theorem dX4_begin_56 : decode cX4_begin 56 = .ok (.goto (-54), 3) := by decide +kernel
theorem dX4_begin_59 : decode cX4_begin 59 = .ok (.aload_n 0, 1) := by decide +kernel
theorem dX4_begin_60 : decode cX4_begin 60 = .ok (.getfield 11, 3) := by decide +kernel
theorem dX4_begin_63 : decode cX4_begin 63 = .ok (.iconst 0, 1) := by decide +kernel
theorem dX4_begin_64 : decode cX4_begin 64 = .ok (.lconst 1, 1) := by decide +kernel
theorem dX4_begin_65 : decode cX4_begin 65 = .ok (.lastore, 1) := by decide +kernel
theorem dX4_begin_66 : decode cX4_begin 66 = .ok (.return_, 1) := by decide +kernel
theorem dX4_add_0 : decode cX4_add 0 = .ok (.iload_n 1, 1) := by decide +kernel
theorem dX4_add_1 : decode cX4_add 1 = .ok (.iconst 0, 1) := by decide +kernel
theorem dX4_add_2 : decode cX4_add 2 = .ok (.invokestatic 22, 3) := by decide +kernel
theorem dX4_add_5 : decode cX4_add 5 = .ok (.istore_n 3, 1) := by decide +kernel
theorem dX4_add_6 : decode cX4_add 6 = .ok (.iload_n 3, 1) := by decide +kernel
theorem dX4_add_7 : decode cX4_add 7 = .ok (.aload_n 0, 1) := by decide +kernel
theorem dX4_add_8 : decode cX4_add 8 = .ok (.getfield 15, 3) := by decide +kernel
theorem dX4_add_11 : decode cX4_add 11 = .ok (.if_icmp .gt 73, 3) := by decide +kernel
theorem dX4_add_14 : decode cX4_add 14 = .ok (.iload_n 3, 1) := by decide +kernel
theorem dX4_add_15 : decode cX4_add 15 = .ok (.sipush 144, 3) := by decide +kernel
theorem dX4_add_18 : decode cX4_add 18 = .ok (.if_icmp .ge 66, 3) := by decide +kernel
theorem dX4_add_21 : decode cX4_add 21 = .ok (.iload_n 2, 1) := by decide +kernel
theorem dX4_add_22 : decode cX4_add 22 = .ok (.iconst 0, 1) := by decide +kernel
theorem dX4_add_23 : decode cX4_add 23 = .ok (.invokestatic 22, 3) := by decide +kernel
theorem dX4_add_26 : decode cX4_add 26 = .ok (.istore 4, 2) := by decide +kernel
theorem dX4_add_28 : decode cX4_add 28 = .ok (.iload 4, 2) := by decide +kernel
theorem dX4_add_30 : decode cX4_add 30 = .ok (.aload_n 0, 1) := by decide +kernel
theorem dX4_add_31 : decode cX4_add 31 = .ok (.getfield 19, 3) := by decide +kernel
theorem dX4_add_34 : decode cX4_add 34 = .ok (.if_icmp .gt 44, 3) := by decide +kernel
theorem dX4_add_37 : decode cX4_add 37 = .ok (.iload 4, 2) := by decide +kernel
theorem dX4_add_39 : decode cX4_add 39 = .ok (.sipush 144, 3) := by decide +kernel
theorem dX4_add_42 : decode cX4_add 42 = .ok (.if_icmp .ge 36, 3) := by decide +kernel
theorem dX4_add_45 : decode cX4_add 45 = .ok (.aload_n 0, 1) := by decide +kernel
theorem dX4_add_46 : decode cX4_add 46 = .ok (.getfield 11, 3) := by decide +kernel
theorem dX4_add_49 : decode cX4_add 49 = .ok (.iload_n 3, 1) := by decide +kernel
theorem dX4_add_50 : decode cX4_add 50 = .ok (.sipush 144, 3) := by decide +kernel
theorem dX4_add_53 : decode cX4_add 53 = .ok (.imul, 1) := by decide +kernel
theorem dX4_add_54 : decode cX4_add 54 = .ok (.iload 4, 2) := by decide +kernel
theorem dX4_add_56 : decode cX4_add 56 = .ok (.iadd, 1) := by decide +kernel
theorem dX4_add_57 : decode cX4_add 57 = .ok (.dup2, 1) := by decide +kernel
theorem dX4_add_58 : decode cX4_add 58 = .ok (.laload, 1) := by decide +kernel
theorem dX4_add_59 : decode cX4_add 59 = .ok (.aload_n 0, 1) := by decide +kernel
theorem dX4_add_60 : decode cX4_add 60 = .ok (.iload_n 3, 1) := by decide +kernel
theorem dX4_add_61 : decode cX4_add 61 = .ok (.iload_n 1, 1) := by decide +kernel
theorem dX4_add_62 : decode cX4_add 62 = .ok (.isub, 1) := by decide +kernel
theorem dX4_add_63 : decode cX4_add 63 = .ok (.iload 4, 2) := by decide +kernel
theorem dX4_add_65 : decode cX4_add 65 = .ok (.iload_n 2, 1) := by decide +kernel
theorem dX4_add_66 : decode cX4_add 66 = .ok (.isub, 1) := by decide +kernel
theorem dX4_add_67 : decode cX4_add 67 = .ok (.invokevirtual 50, 3) := by decide +kernel
theorem dX4_add_70 : decode cX4_add 70 = .ok (.ladd, 1) := by decide +kernel
theorem dX4_add_71 : decode cX4_add 71 = .ok (.lastore, 1) := by decide +kernel
theorem dX4_add_72 : decode cX4_add 72 = .ok (.iinc 4 1, 3) := by decide +kernel
theorem dX4_add_75 : decode cX4_add 75 = .ok (.goto (-47), 3) := by decide +kernel
theorem dX4_add_78 : decode cX4_add 78 = .ok (.iinc 3 1, 3) := by decide +kernel
theorem dX4_add_81 : decode cX4_add 81 = .ok (.goto (-75), 3) := by decide +kernel
theorem dX4_add_84 : decode cX4_add 84 = .ok (.return_, 1) := by decide +kernel
theorem dX4_at_0 : decode cX4_at 0 = .ok (.iload_n 1, 1) := by decide +kernel
theorem dX4_at_1 : decode cX4_at 1 = .ok (.ifCond .lt 41, 3) := by decide +kernel
theorem dX4_at_4 : decode cX4_at 4 = .ok (.iload_n 1, 1) := by decide +kernel
theorem dX4_at_5 : decode cX4_at 5 = .ok (.aload_n 0, 1) := by decide +kernel
theorem dX4_at_6 : decode cX4_at 6 = .ok (.getfield 15, 3) := by decide +kernel
theorem dX4_at_9 : decode cX4_at 9 = .ok (.if_icmp .gt 33, 3) := by decide +kernel
theorem dX4_at_12 : decode cX4_at 12 = .ok (.iload_n 1, 1) := by decide +kernel
theorem dX4_at_13 : decode cX4_at 13 = .ok (.sipush 144, 3) := by decide +kernel
theorem dX4_at_16 : decode cX4_at 16 = .ok (.if_icmp .ge 26, 3) := by decide +kernel
theorem dX4_at_19 : decode cX4_at 19 = .ok (.iload_n 2, 1) := by decide +kernel
theorem dX4_at_20 : decode cX4_at 20 = .ok (.ifCond .lt 22, 3) := by decide +kernel
theorem dX4_at_23 : decode cX4_at 23 = .ok (.iload_n 2, 1) := by decide +kernel
theorem dX4_at_24 : decode cX4_at 24 = .ok (.aload_n 0, 1) := by decide +kernel
theorem dX4_at_25 : decode cX4_at 25 = .ok (.getfield 19, 3) := by decide +kernel
theorem dX4_at_28 : decode cX4_at 28 = .ok (.if_icmp .gt 14, 3) := by decide +kernel
theorem dX4_at_31 : decode cX4_at 31 = .ok (.iload_n 2, 1) := by decide +kernel
theorem dX4_at_32 : decode cX4_at 32 = .ok (.sipush 144, 3) := by decide +kernel
theorem dX4_at_35 : decode cX4_at 35 = .ok (.if_icmp .ge 7, 3) := by decide +kernel
theorem dX4_at_38 : decode cX4_at 38 = .ok (.iconst 1, 1) := by decide +kernel
theorem dX4_at_39 : decode cX4_at 39 = .ok (.goto 4, 3) := by decide +kernel
theorem dX4_at_42 : decode cX4_at 42 = .ok (.iconst 0, 1) := by decide +kernel
theorem dX4_at_43 : decode cX4_at 43 = .ok (.istore_n 3, 1) := by decide +kernel
theorem dX4_at_44 : decode cX4_at 44 = .ok (.iload_n 3, 1) := by decide +kernel
theorem dX4_at_45 : decode cX4_at 45 = .ok (.ifCond .eq 18, 3) := by decide +kernel
theorem dX4_at_48 : decode cX4_at 48 = .ok (.aload_n 0, 1) := by decide +kernel
theorem dX4_at_49 : decode cX4_at 49 = .ok (.getfield 11, 3) := by decide +kernel
theorem dX4_at_52 : decode cX4_at 52 = .ok (.iload_n 1, 1) := by decide +kernel
theorem dX4_at_53 : decode cX4_at 53 = .ok (.sipush 144, 3) := by decide +kernel
theorem dX4_at_56 : decode cX4_at 56 = .ok (.imul, 1) := by decide +kernel
theorem dX4_at_57 : decode cX4_at 57 = .ok (.iload_n 2, 1) := by decide +kernel
theorem dX4_at_58 : decode cX4_at 58 = .ok (.iadd, 1) := by decide +kernel
theorem dX4_at_59 : decode cX4_at 59 = .ok (.laload, 1) := by decide +kernel
theorem dX4_at_60 : decode cX4_at 60 = .ok (.goto 4, 3) := by decide +kernel
theorem dX4_at_63 : decode cX4_at 63 = .ok (.lconst 0, 1) := by decide +kernel
theorem dX4_at_64 : decode cX4_at 64 = .ok (.lreturn, 1) := by decide +kernel
theorem dX4_atWith_0 : decode cX4_atWith 0 = .ok (.lconst 0, 1) := by decide +kernel
theorem dX4_atWith_1 : decode cX4_atWith 1 = .ok (.lstore 5, 2) := by decide +kernel
theorem dX4_atWith_3 : decode cX4_atWith 3 = .ok (.iload_n 1, 1) := by decide +kernel
theorem dX4_atWith_4 : decode cX4_atWith 4 = .ok (.istore 7, 2) := by decide +kernel
theorem dX4_atWith_6 : decode cX4_atWith 6 = .ok (.iload_n 2, 1) := by decide +kernel
theorem dX4_atWith_7 : decode cX4_atWith 7 = .ok (.istore 8, 2) := by decide +kernel
theorem dX4_atWith_9 : decode cX4_atWith 9 = .ok (.iconst 0, 1) := by decide +kernel
theorem dX4_atWith_10 : decode cX4_atWith 10 = .ok (.istore 9, 2) := by decide +kernel
theorem dX4_atWith_12 : decode cX4_atWith 12 = .ok (.iload 9, 2) := by decide +kernel
theorem dX4_atWith_14 : decode cX4_atWith 14 = .ok (.bipush 60, 2) := by decide +kernel
theorem dX4_atWith_16 : decode cX4_atWith 16 = .ok (.if_icmp .gt 45, 3) := by decide +kernel
theorem dX4_atWith_19 : decode cX4_atWith 19 = .ok (.iload 7, 2) := by decide +kernel
theorem dX4_atWith_21 : decode cX4_atWith 21 = .ok (.ifCond .lt 40, 3) := by decide +kernel
theorem dX4_atWith_24 : decode cX4_atWith 24 = .ok (.iload 8, 2) := by decide +kernel
theorem dX4_atWith_26 : decode cX4_atWith 26 = .ok (.ifCond .lt 35, 3) := by decide +kernel
theorem dX4_atWith_29 : decode cX4_atWith 29 = .ok (.lload 5, 2) := by decide +kernel
theorem dX4_atWith_31 : decode cX4_atWith 31 = .ok (.aload_n 0, 1) := by decide +kernel
theorem dX4_atWith_32 : decode cX4_atWith 32 = .ok (.iload 7, 2) := by decide +kernel
theorem dX4_atWith_34 : decode cX4_atWith 34 = .ok (.iload 8, 2) := by decide +kernel
theorem dX4_atWith_36 : decode cX4_atWith 36 = .ok (.invokevirtual 50, 3) := by decide +kernel
theorem dX4_atWith_39 : decode cX4_atWith 39 = .ok (.ladd, 1) := by decide +kernel
theorem dX4_atWith_40 : decode cX4_atWith 40 = .ok (.lstore 5, 2) := by decide +kernel
theorem dX4_atWith_42 : decode cX4_atWith 42 = .ok (.iload 7, 2) := by decide +kernel
theorem dX4_atWith_44 : decode cX4_atWith 44 = .ok (.iload_n 3, 1) := by decide +kernel
theorem dX4_atWith_45 : decode cX4_atWith 45 = .ok (.isub, 1) := by decide +kernel
theorem dX4_atWith_46 : decode cX4_atWith 46 = .ok (.istore 7, 2) := by decide +kernel
theorem dX4_atWith_48 : decode cX4_atWith 48 = .ok (.iload 8, 2) := by decide +kernel
theorem dX4_atWith_50 : decode cX4_atWith 50 = .ok (.iload 4, 2) := by decide +kernel
theorem dX4_atWith_52 : decode cX4_atWith 52 = .ok (.isub, 1) := by decide +kernel
theorem dX4_atWith_53 : decode cX4_atWith 53 = .ok (.istore 8, 2) := by decide +kernel
theorem dX4_atWith_55 : decode cX4_atWith 55 = .ok (.iinc 9 1, 3) := by decide +kernel
theorem dX4_atWith_58 : decode cX4_atWith 58 = .ok (.goto (-46), 3) := by decide +kernel
theorem dX4_atWith_61 : decode cX4_atWith 61 = .ok (.lload 5, 2) := by decide +kernel
theorem dX4_atWith_63 : decode cX4_atWith 63 = .ok (.lreturn, 1) := by decide +kernel
theorem dX5_init_0 : decode cX5_init 0 = .ok (.aload_n 0, 1) := by decide +kernel
theorem dX5_init_1 : decode cX5_init 1 = .ok (.invokespecial 3, 3) := by decide +kernel
theorem dX5_init_4 : decode cX5_init 4 = .ok (.aload_n 0, 1) := by decide +kernel
theorem dX5_init_5 : decode cX5_init 5 = .ok (.bipush 6, 2) := by decide +kernel
theorem dX5_init_7 : decode cX5_init 7 = .ok (.newarray .int, 2) := by decide +kernel
theorem dX5_init_9 : decode cX5_init 9 = .ok (.putfield 9, 3) := by decide +kernel
theorem dX5_init_12 : decode cX5_init 12 = .ok (.aload_n 0, 1) := by decide +kernel
theorem dX5_init_13 : decode cX5_init 13 = .ok (.bipush 6, 2) := by decide +kernel
theorem dX5_init_15 : decode cX5_init 15 = .ok (.newarray .int, 2) := by decide +kernel
theorem dX5_init_17 : decode cX5_init 17 = .ok (.putfield 15, 3) := by decide +kernel
theorem dX5_init_20 : decode cX5_init 20 = .ok (.aload_n 0, 1) := by decide +kernel
theorem dX5_init_21 : decode cX5_init 21 = .ok (.bipush 6, 2) := by decide +kernel
theorem dX5_init_23 : decode cX5_init 23 = .ok (.newarray .int, 2) := by decide +kernel
theorem dX5_init_25 : decode cX5_init 25 = .ok (.putfield 18, 3) := by decide +kernel
theorem dX5_init_28 : decode cX5_init 28 = .ok (.aload_n 0, 1) := by decide +kernel
theorem dX5_init_29 : decode cX5_init 29 = .ok (.bipush 6, 2) := by decide +kernel
theorem dX5_init_31 : decode cX5_init 31 = .ok (.newarray .long, 2) := by decide +kernel
theorem dX5_init_33 : decode cX5_init 33 = .ok (.putfield 21, 3) := by decide +kernel
theorem dX5_init_36 : decode cX5_init 36 = .ok (.aload_n 0, 1) := by decide +kernel
theorem dX5_init_37 : decode cX5_init 37 = .ok (.iconst 0, 1) := by decide +kernel
theorem dX5_init_38 : decode cX5_init 38 = .ok (.putfield 25, 3) := by decide +kernel
theorem dX5_init_41 : decode cX5_init 41 = .ok (.return_, 1) := by decide +kernel
theorem dX5_has_0 : decode cX5_has 0 = .ok (.iload_n 1, 1) := by decide +kernel
theorem dX5_has_1 : decode cX5_has 1 = .ok (.ifCond .lt 21, 3) := by decide +kernel
theorem dX5_has_4 : decode cX5_has 4 = .ok (.iload_n 1, 1) := by decide +kernel
theorem dX5_has_5 : decode cX5_has 5 = .ok (.aload_n 0, 1) := by decide +kernel
theorem dX5_has_6 : decode cX5_has 6 = .ok (.getfield 25, 3) := by decide +kernel
theorem dX5_has_9 : decode cX5_has 9 = .ok (.if_icmp .ge 13, 3) := by decide +kernel
theorem dX5_has_12 : decode cX5_has 12 = .ok (.iload_n 1, 1) := by decide +kernel
theorem dX5_has_13 : decode cX5_has 13 = .ok (.bipush 6, 2) := by decide +kernel
theorem dX5_has_15 : decode cX5_has 15 = .ok (.if_icmp .ge 7, 3) := by decide +kernel
theorem dX5_has_18 : decode cX5_has 18 = .ok (.iconst 1, 1) := by decide +kernel
theorem dX5_has_19 : decode cX5_has 19 = .ok (.goto 4, 3) := by decide +kernel
theorem dX5_has_22 : decode cX5_has 22 = .ok (.iconst 0, 1) := by decide +kernel
theorem dX5_has_23 : decode cX5_has 23 = .ok (.ireturn, 1) := by decide +kernel
theorem dX5_add_0 : decode cX5_add 0 = .ok (.aload_n 0, 1) := by decide +kernel
theorem dX5_add_1 : decode cX5_add 1 = .ok (.getfield 25, 3) := by decide +kernel
theorem dX5_add_4 : decode cX5_add 4 = .ok (.ifCond .lt 12, 3) := by decide +kernel
theorem dX5_add_7 : decode cX5_add 7 = .ok (.aload_n 0, 1) := by decide +kernel
theorem dX5_add_8 : decode cX5_add 8 = .ok (.getfield 25, 3) := by decide +kernel
theorem dX5_add_11 : decode cX5_add 11 = .ok (.bipush 6, 2) := by decide +kernel
theorem dX5_add_13 : decode cX5_add 13 = .ok (.if_icmp .lt 4, 3) := by decide +kernel
theorem dX5_add_16 : decode cX5_add 16 = .ok (.return_, 1) := by decide +kernel
theorem dX5_add_17 : decode cX5_add 17 = .ok (.aload_n 0, 1) := by decide +kernel
theorem dX5_add_18 : decode cX5_add 18 = .ok (.getfield 9, 3) := by decide +kernel
theorem dX5_add_21 : decode cX5_add 21 = .ok (.aload_n 0, 1) := by decide +kernel
theorem dX5_add_22 : decode cX5_add 22 = .ok (.getfield 25, 3) := by decide +kernel
theorem dX5_add_25 : decode cX5_add 25 = .ok (.iload_n 1, 1) := by decide +kernel
theorem dX5_add_26 : decode cX5_add 26 = .ok (.iastore, 1) := by decide +kernel
theorem dX5_add_27 : decode cX5_add 27 = .ok (.aload_n 0, 1) := by decide +kernel
theorem dX5_add_28 : decode cX5_add 28 = .ok (.getfield 15, 3) := by decide +kernel
theorem dX5_add_31 : decode cX5_add 31 = .ok (.aload_n 0, 1) := by decide +kernel
theorem dX5_add_32 : decode cX5_add 32 = .ok (.getfield 25, 3) := by decide +kernel
theorem dX5_add_35 : decode cX5_add 35 = .ok (.iload_n 2, 1) := by decide +kernel
theorem dX5_add_36 : decode cX5_add 36 = .ok (.iastore, 1) := by decide +kernel
theorem dX5_add_37 : decode cX5_add 37 = .ok (.aload_n 0, 1) := by decide +kernel
theorem dX5_add_38 : decode cX5_add 38 = .ok (.getfield 18, 3) := by decide +kernel
theorem dX5_add_41 : decode cX5_add 41 = .ok (.aload_n 0, 1) := by decide +kernel
theorem dX5_add_42 : decode cX5_add 42 = .ok (.getfield 25, 3) := by decide +kernel
theorem dX5_add_45 : decode cX5_add 45 = .ok (.iconst 1, 1) := by decide +kernel
theorem dX5_add_46 : decode cX5_add 46 = .ok (.iastore, 1) := by decide +kernel
theorem dX5_add_47 : decode cX5_add 47 = .ok (.aload_n 0, 1) := by decide +kernel
theorem dX5_add_48 : decode cX5_add 48 = .ok (.getfield 21, 3) := by decide +kernel
theorem dX5_add_51 : decode cX5_add 51 = .ok (.aload_n 0, 1) := by decide +kernel
theorem dX5_add_52 : decode cX5_add 52 = .ok (.getfield 25, 3) := by decide +kernel
theorem dX5_add_55 : decode cX5_add 55 = .ok (.ldc2_w 29, 3) := by decide +kernel
theorem dX5_add_58 : decode cX5_add 58 = .ok (.lastore, 1) := by decide +kernel
theorem dX5_add_59 : decode cX5_add 59 = .ok (.aload_n 0, 1) := by decide +kernel
theorem dX5_add_60 : decode cX5_add 60 = .ok (.dup, 1) := by decide +kernel
theorem dX5_add_61 : decode cX5_add 61 = .ok (.getfield 25, 3) := by decide +kernel
theorem dX5_add_64 : decode cX5_add 64 = .ok (.iconst 1, 1) := by decide +kernel
theorem dX5_add_65 : decode cX5_add 65 = .ok (.iadd, 1) := by decide +kernel
theorem dX5_add_66 : decode cX5_add 66 = .ok (.putfield 25, 3) := by decide +kernel
theorem dX5_add_69 : decode cX5_add 69 = .ok (.return_, 1) := by decide +kernel
theorem dX5_become_0 : decode cX5_become 0 = .ok (.iconst 0, 1) := by decide +kernel
theorem dX5_become_1 : decode cX5_become 1 = .ok (.istore_n 2, 1) := by decide +kernel
theorem dX5_become_2 : decode cX5_become 2 = .ok (.iload_n 2, 1) := by decide +kernel
theorem dX5_become_3 : decode cX5_become 3 = .ok (.bipush 6, 2) := by decide +kernel
theorem dX5_become_5 : decode cX5_become 5 = .ok (.if_icmp .ge 57, 3) := by decide +kernel
theorem dX5_become_8 : decode cX5_become 8 = .ok (.aload_n 0, 1) := by decide +kernel
theorem dX5_become_9 : decode cX5_become 9 = .ok (.getfield 9, 3) := by decide +kernel
theorem dX5_become_12 : decode cX5_become 12 = .ok (.iload_n 2, 1) := by decide +kernel
theorem dX5_become_13 : decode cX5_become 13 = .ok (.aload_n 1, 1) := by decide +kernel
theorem dX5_become_14 : decode cX5_become 14 = .ok (.getfield 9, 3) := by decide +kernel
theorem dX5_become_17 : decode cX5_become 17 = .ok (.iload_n 2, 1) := by decide +kernel
theorem dX5_become_18 : decode cX5_become 18 = .ok (.iaload, 1) := by decide +kernel
theorem dX5_become_19 : decode cX5_become 19 = .ok (.iastore, 1) := by decide +kernel
theorem dX5_become_20 : decode cX5_become 20 = .ok (.aload_n 0, 1) := by decide +kernel
theorem dX5_become_21 : decode cX5_become 21 = .ok (.getfield 15, 3) := by decide +kernel
theorem dX5_become_24 : decode cX5_become 24 = .ok (.iload_n 2, 1) := by decide +kernel
theorem dX5_become_25 : decode cX5_become 25 = .ok (.aload_n 1, 1) := by decide +kernel
theorem dX5_become_26 : decode cX5_become 26 = .ok (.getfield 15, 3) := by decide +kernel
theorem dX5_become_29 : decode cX5_become 29 = .ok (.iload_n 2, 1) := by decide +kernel
theorem dX5_become_30 : decode cX5_become 30 = .ok (.iaload, 1) := by decide +kernel
theorem dX5_become_31 : decode cX5_become 31 = .ok (.iastore, 1) := by decide +kernel
theorem dX5_become_32 : decode cX5_become 32 = .ok (.aload_n 0, 1) := by decide +kernel
theorem dX5_become_33 : decode cX5_become 33 = .ok (.getfield 18, 3) := by decide +kernel
theorem dX5_become_36 : decode cX5_become 36 = .ok (.iload_n 2, 1) := by decide +kernel
theorem dX5_become_37 : decode cX5_become 37 = .ok (.aload_n 1, 1) := by decide +kernel
theorem dX5_become_38 : decode cX5_become 38 = .ok (.getfield 18, 3) := by decide +kernel
theorem dX5_become_41 : decode cX5_become 41 = .ok (.iload_n 2, 1) := by decide +kernel
theorem dX5_become_42 : decode cX5_become 42 = .ok (.iaload, 1) := by decide +kernel
theorem dX5_become_43 : decode cX5_become 43 = .ok (.iastore, 1) := by decide +kernel
theorem dX5_become_44 : decode cX5_become 44 = .ok (.aload_n 0, 1) := by decide +kernel
theorem dX5_become_45 : decode cX5_become 45 = .ok (.getfield 21, 3) := by decide +kernel
theorem dX5_become_48 : decode cX5_become 48 = .ok (.iload_n 2, 1) := by decide +kernel
theorem dX5_become_49 : decode cX5_become 49 = .ok (.aload_n 1, 1) := by decide +kernel
theorem dX5_become_50 : decode cX5_become 50 = .ok (.getfield 21, 3) := by decide +kernel
theorem dX5_become_53 : decode cX5_become 53 = .ok (.iload_n 2, 1) := by decide +kernel
theorem dX5_become_54 : decode cX5_become 54 = .ok (.laload, 1) := by decide +kernel
theorem dX5_become_55 : decode cX5_become 55 = .ok (.lastore, 1) := by decide +kernel
theorem dX5_become_56 : decode cX5_become 56 = .ok (.iinc 2 1, 3) := by decide +kernel
theorem dX5_become_59 : decode cX5_become 59 = .ok (.goto (-57), 3) := by decide +kernel
theorem dX5_become_62 : decode cX5_become 62 = .ok (.aload_n 0, 1) := by decide +kernel
theorem dX5_become_63 : decode cX5_become 63 = .ok (.aload_n 1, 1) := by decide +kernel
theorem dX5_become_64 : decode cX5_become 64 = .ok (.getfield 25, 3) := by decide +kernel
theorem dX5_become_67 : decode cX5_become 67 = .ok (.putfield 25, 3) := by decide +kernel
theorem dX5_become_70 : decode cX5_become 70 = .ok (.return_, 1) := by decide +kernel
theorem dX5_allows_0 : decode cX5_allows 0 = .ok (.aload_n 0, 1) := by decide +kernel
theorem dX5_allows_1 : decode cX5_allows 1 = .ok (.iload_n 1, 1) := by decide +kernel
theorem dX5_allows_2 : decode cX5_allows 2 = .ok (.invokevirtual 31, 3) := by decide +kernel
theorem dX5_allows_5 : decode cX5_allows 5 = .ok (.ifCond .eq 22, 3) := by decide +kernel
theorem dX5_allows_8 : decode cX5_allows 8 = .ok (.aload_n 0, 1) := by decide +kernel
theorem dX5_allows_9 : decode cX5_allows 9 = .ok (.getfield 21, 3) := by decide +kernel
theorem dX5_allows_12 : decode cX5_allows 12 = .ok (.iload_n 1, 1) := by decide +kernel
theorem dX5_allows_13 : decode cX5_allows 13 = .ok (.laload, 1) := by decide +kernel
theorem dX5_allows_14 : decode cX5_allows 14 = .ok (.iload_n 2, 1) := by decide +kernel
theorem dX5_allows_15 : decode cX5_allows 15 = .ok (.lushr, 1) := by decide +kernel
theorem dX5_allows_16 : decode cX5_allows 16 = .ok (.lconst 1, 1) := by decide +kernel
theorem dX5_allows_17 : decode cX5_allows 17 = .ok (.land, 1) := by decide +kernel
theorem dX5_allows_18 : decode cX5_allows 18 = .ok (.lconst 1, 1) := by decide +kernel
theorem dX5_allows_19 : decode cX5_allows 19 = .ok (.lcmp, 1) := by decide +kernel
theorem dX5_allows_20 : decode cX5_allows 20 = .ok (.ifCond .ne 7, 3) := by decide +kernel
theorem dX5_allows_23 : decode cX5_allows 23 = .ok (.iconst 1, 1) := by decide +kernel
theorem dX5_allows_24 : decode cX5_allows 24 = .ok (.goto 4, 3) := by decide +kernel
theorem dX5_allows_27 : decode cX5_allows 27 = .ok (.iconst 0, 1) := by decide +kernel
theorem dX5_allows_28 : decode cX5_allows 28 = .ok (.ireturn, 1) := by decide +kernel
theorem dX5_acrossTogether_0 : decode cX5_acrossTogether 0 = .ok (.iconst 0, 1) := by decide +kernel
theorem dX5_acrossTogether_1 : decode cX5_acrossTogether 1 = .ok (.istore_n 1, 1) := by decide +kernel
theorem dX5_acrossTogether_2 : decode cX5_acrossTogether 2 = .ok (.iconst 0, 1) := by decide +kernel
theorem dX5_acrossTogether_3 : decode cX5_acrossTogether 3 = .ok (.istore_n 2, 1) := by decide +kernel
theorem dX5_acrossTogether_4 : decode cX5_acrossTogether 4 = .ok (.iload_n 2, 1) := by decide +kernel
theorem dX5_acrossTogether_5 : decode cX5_acrossTogether 5 = .ok (.aload_n 0, 1) := by decide +kernel
theorem dX5_acrossTogether_6 : decode cX5_acrossTogether 6 = .ok (.getfield 25, 3) := by decide +kernel
theorem dX5_acrossTogether_9 : decode cX5_acrossTogether 9 = .ok (.if_icmp .ge 24, 3) := by decide +kernel
theorem dX5_acrossTogether_12 : decode cX5_acrossTogether 12 = .ok (.iload_n 2, 1) := by decide +kernel
theorem dX5_acrossTogether_13 : decode cX5_acrossTogether 13 = .ok (.bipush 6, 2) := by decide +kernel
theorem dX5_acrossTogether_15 : decode cX5_acrossTogether 15 = .ok (.if_icmp .ge 18, 3) := by decide +kernel
theorem dX5_acrossTogether_18 : decode cX5_acrossTogether 18 = .ok (.iload_n 1, 1) := by decide +kernel
theorem dX5_acrossTogether_19 : decode cX5_acrossTogether 19 = .ok (.aload_n 0, 1) := by decide +kernel
theorem dX5_acrossTogether_20 : decode cX5_acrossTogether 20 = .ok (.getfield 9, 3) := by decide +kernel
theorem dX5_acrossTogether_23 : decode cX5_acrossTogether 23 = .ok (.iload_n 2, 1) := by decide +kernel
theorem dX5_acrossTogether_24 : decode cX5_acrossTogether 24 = .ok (.iaload, 1) := by decide +kernel
theorem dX5_acrossTogether_25 : decode cX5_acrossTogether 25 = .ok (.iadd, 1) := by decide +kernel
theorem dX5_acrossTogether_26 : decode cX5_acrossTogether 26 = .ok (.istore_n 1, 1) := by decide +kernel
theorem dX5_acrossTogether_27 : decode cX5_acrossTogether 27 = .ok (.iinc 2 1, 3) := by decide +kernel
theorem dX5_acrossTogether_30 : decode cX5_acrossTogether 30 = .ok (.goto (-26), 3) := by decide +kernel
theorem dX5_acrossTogether_33 : decode cX5_acrossTogether 33 = .ok (.iload_n 1, 1) := by decide +kernel
theorem dX5_acrossTogether_34 : decode cX5_acrossTogether 34 = .ok (.ireturn, 1) := by decide +kernel
theorem dX5_upTogether_0 : decode cX5_upTogether 0 = .ok (.iconst 0, 1) := by decide +kernel
theorem dX5_upTogether_1 : decode cX5_upTogether 1 = .ok (.istore_n 1, 1) := by decide +kernel
theorem dX5_upTogether_2 : decode cX5_upTogether 2 = .ok (.iconst 0, 1) := by decide +kernel
theorem dX5_upTogether_3 : decode cX5_upTogether 3 = .ok (.istore_n 2, 1) := by decide +kernel
theorem dX5_upTogether_4 : decode cX5_upTogether 4 = .ok (.iload_n 2, 1) := by decide +kernel
theorem dX5_upTogether_5 : decode cX5_upTogether 5 = .ok (.aload_n 0, 1) := by decide +kernel
theorem dX5_upTogether_6 : decode cX5_upTogether 6 = .ok (.getfield 25, 3) := by decide +kernel
theorem dX5_upTogether_9 : decode cX5_upTogether 9 = .ok (.if_icmp .ge 24, 3) := by decide +kernel
theorem dX5_upTogether_12 : decode cX5_upTogether 12 = .ok (.iload_n 2, 1) := by decide +kernel
theorem dX5_upTogether_13 : decode cX5_upTogether 13 = .ok (.bipush 6, 2) := by decide +kernel
theorem dX5_upTogether_15 : decode cX5_upTogether 15 = .ok (.if_icmp .ge 18, 3) := by decide +kernel
theorem dX5_upTogether_18 : decode cX5_upTogether 18 = .ok (.iload_n 1, 1) := by decide +kernel
theorem dX5_upTogether_19 : decode cX5_upTogether 19 = .ok (.aload_n 0, 1) := by decide +kernel
theorem dX5_upTogether_20 : decode cX5_upTogether 20 = .ok (.getfield 15, 3) := by decide +kernel
theorem dX5_upTogether_23 : decode cX5_upTogether 23 = .ok (.iload_n 2, 1) := by decide +kernel
theorem dX5_upTogether_24 : decode cX5_upTogether 24 = .ok (.iaload, 1) := by decide +kernel
theorem dX5_upTogether_25 : decode cX5_upTogether 25 = .ok (.iadd, 1) := by decide +kernel
theorem dX5_upTogether_26 : decode cX5_upTogether 26 = .ok (.istore_n 1, 1) := by decide +kernel
theorem dX5_upTogether_27 : decode cX5_upTogether 27 = .ok (.iinc 2 1, 3) := by decide +kernel
theorem dX5_upTogether_30 : decode cX5_upTogether 30 = .ok (.goto (-26), 3) := by decide +kernel
theorem dX5_upTogether_33 : decode cX5_upTogether 33 = .ok (.iload_n 1, 1) := by decide +kernel
theorem dX5_upTogether_34 : decode cX5_upTogether 34 = .ok (.ireturn, 1) := by decide +kernel
theorem dX6_init_0 : decode cX6_init 0 = .ok (.aload_n 0, 1) := by decide +kernel
theorem dX6_init_1 : decode cX6_init 1 = .ok (.invokespecial 3, 3) := by decide +kernel
theorem dX6_init_4 : decode cX6_init 4 = .ok (.aload_n 0, 1) := by decide +kernel
theorem dX6_init_5 : decode cX6_init 5 = .ok (.iconst 5, 1) := by decide +kernel
theorem dX6_init_6 : decode cX6_init 6 = .ok (.newarray .long, 2) := by decide +kernel
theorem dX6_init_8 : decode cX6_init 8 = .ok (.putfield 9, 3) := by decide +kernel
theorem dX6_init_11 : decode cX6_init 11 = .ok (.aload_n 0, 1) := by decide +kernel
theorem dX6_init_12 : decode cX6_init 12 = .ok (.iconst 5, 1) := by decide +kernel
theorem dX6_init_13 : decode cX6_init 13 = .ok (.newarray .long, 2) := by decide +kernel
theorem dX6_init_15 : decode cX6_init 15 = .ok (.putfield 15, 3) := by decide +kernel
theorem dX6_init_18 : decode cX6_init 18 = .ok (.aload_n 0, 1) := by decide +kernel
theorem dX6_init_19 : decode cX6_init 19 = .ok (.iconst 5, 1) := by decide +kernel
theorem dX6_init_20 : decode cX6_init 20 = .ok (.newarray .boolean, 2) := by decide +kernel
theorem dX6_init_22 : decode cX6_init 22 = .ok (.putfield 18, 3) := by decide +kernel
theorem dX6_init_25 : decode cX6_init 25 = .ok (.aload_n 0, 1) := by decide +kernel
theorem dX6_init_26 : decode cX6_init 26 = .ok (.iconst 0, 1) := by decide +kernel
theorem dX6_init_27 : decode cX6_init 27 = .ok (.putfield 22, 3) := by decide +kernel
theorem dX6_init_30 : decode cX6_init 30 = .ok (.aload_n 0, 1) := by decide +kernel
theorem dX6_init_31 : decode cX6_init 31 = .ok (.iconst 0, 1) := by decide +kernel
theorem dX6_init_32 : decode cX6_init 32 = .ok (.putfield 26, 3) := by decide +kernel
theorem dX6_init_35 : decode cX6_init 35 = .ok (.aload_n 0, 1) := by decide +kernel
theorem dX6_init_36 : decode cX6_init 36 = .ok (.iconst 0, 1) := by decide +kernel
theorem dX6_init_37 : decode cX6_init 37 = .ok (.putfield 29, 3) := by decide +kernel
theorem dX6_init_40 : decode cX6_init 40 = .ok (.aload_n 0, 1) := by decide +kernel
theorem dX6_init_41 : decode cX6_init 41 = .ok (.ldc2_w 32, 3) := by decide +kernel
theorem dX6_init_44 : decode cX6_init 44 = .ok (.putfield 34, 3) := by decide +kernel
theorem dX6_init_47 : decode cX6_init 47 = .ok (.return_, 1) := by decide +kernel
theorem dX6_faultIn_0 : decode cX6_faultIn 0 = .ok (.aload_n 1, 1) := by decide +kernel
theorem dX6_faultIn_1 : decode cX6_faultIn 1 = .ok (.invokevirtual 38, 3) := by decide +kernel
theorem dX6_faultIn_4 : decode cX6_faultIn 4 = .ok (.aload_n 0, 1) := by decide +kernel
theorem dX6_faultIn_5 : decode cX6_faultIn 5 = .ok (.iconst 0, 1) := by decide +kernel
theorem dX6_faultIn_6 : decode cX6_faultIn 6 = .ok (.putfield 22, 3) := by decide +kernel
theorem dX6_faultIn_9 : decode cX6_faultIn 9 = .ok (.aload_n 0, 1) := by decide +kernel
theorem dX6_faultIn_10 : decode cX6_faultIn 10 = .ok (.lconst 0, 1) := by decide +kernel
theorem dX6_faultIn_11 : decode cX6_faultIn 11 = .ok (.invokevirtual 43, 3) := by decide +kernel
theorem dX6_faultIn_14 : decode cX6_faultIn 14 = .ok (.iconst 0, 1) := by decide +kernel
theorem dX6_faultIn_15 : decode cX6_faultIn 15 = .ok (.istore_n 2, 1) := by decide +kernel
theorem dX6_faultIn_16 : decode cX6_faultIn 16 = .ok (.iload_n 2, 1) := by decide +kernel
theorem dX6_faultIn_17 : decode cX6_faultIn 17 = .ok (.bipush 100, 2) := by decide +kernel
theorem dX6_faultIn_19 : decode cX6_faultIn 19 = .ok (.if_icmp .gt 48, 3) := by decide +kernel
theorem dX6_faultIn_22 : decode cX6_faultIn 22 = .ok (.aload_n 1, 1) := by decide +kernel
theorem dX6_faultIn_23 : decode cX6_faultIn 23 = .ok (.invokevirtual 47, 3) := by decide +kernel
theorem dX6_faultIn_26 : decode cX6_faultIn 26 = .ok (.istore_n 3, 1) := by decide +kernel
theorem dX6_faultIn_27 : decode cX6_faultIn 27 = .ok (.iload_n 3, 1) := by decide +kernel
theorem dX6_faultIn_28 : decode cX6_faultIn 28 = .ok (.ifCond .ne 19, 3) := by decide +kernel
theorem dX6_faultIn_31 : decode cX6_faultIn 31 = .ok (.aload_n 0, 1) := by decide +kernel
theorem dX6_faultIn_32 : decode cX6_faultIn 32 = .ok (.invokevirtual 51, 3) := by decide +kernel
theorem dX6_faultIn_35 : decode cX6_faultIn 35 = .ok (.ifCond .eq 7, 3) := by decide +kernel
theorem dX6_faultIn_38 : decode cX6_faultIn 38 = .ok (.iconst (-1), 1) := by decide +kernel
theorem dX6_faultIn_39 : decode cX6_faultIn 39 = .ok (.goto 7, 3) := by decide +kernel
theorem dX6_faultIn_42 : decode cX6_faultIn 42 = .ok (.aload_n 1, 1) := by decide +kernel
theorem dX6_faultIn_43 : decode cX6_faultIn 43 = .ok (.getfield 55, 3) := by decide +kernel
theorem dX6_faultIn_46 : decode cX6_faultIn 46 = .ok (.ireturn, 1) := by decide +kernel
theorem dX6_faultIn_47 : decode cX6_faultIn 47 = .ok (.aload_n 0, 1) := by decide +kernel
theorem dX6_faultIn_48 : decode cX6_faultIn 48 = .ok (.aload_n 1, 1) := by decide +kernel
theorem dX6_faultIn_49 : decode cX6_faultIn 49 = .ok (.iload_n 3, 1) := by decide +kernel
theorem dX6_faultIn_50 : decode cX6_faultIn 50 = .ok (.invokevirtual 58, 3) := by decide +kernel
theorem dX6_faultIn_53 : decode cX6_faultIn 53 = .ok (.ifCond .ne 8, 3) := by decide +kernel
theorem dX6_faultIn_56 : decode cX6_faultIn 56 = .ok (.aload_n 1, 1) := by decide +kernel
theorem dX6_faultIn_57 : decode cX6_faultIn 57 = .ok (.getfield 55, 3) := by decide +kernel
theorem dX6_faultIn_60 : decode cX6_faultIn 60 = .ok (.ireturn, 1) := by decide +kernel
theorem dX6_faultIn_61 : decode cX6_faultIn 61 = .ok (.iinc 2 1, 3) := by decide +kernel
theorem dX6_faultIn_64 : decode cX6_faultIn 64 = .ok (.goto (-48), 3) := by decide +kernel
theorem dX6_faultIn_67 : decode cX6_faultIn 67 = .ok (.aload_n 1, 1) := by decide +kernel
theorem dX6_faultIn_68 : decode cX6_faultIn 68 = .ok (.getfield 55, 3) := by decide +kernel
theorem dX6_faultIn_71 : decode cX6_faultIn 71 = .ok (.ireturn, 1) := by decide +kernel
theorem dX6_ends_0 : decode cX6_ends 0 = .ok (.aload_n 0, 1) := by decide +kernel
theorem dX6_ends_1 : decode cX6_ends 1 = .ok (.getfield 26, 3) := by decide +kernel
theorem dX6_ends_4 : decode cX6_ends 4 = .ok (.iconst 2, 1) := by decide +kernel
theorem dX6_ends_5 : decode cX6_ends 5 = .ok (.if_icmp .ne 10, 3) := by decide +kernel
theorem dX6_ends_8 : decode cX6_ends 8 = .ok (.aload_n 0, 1) := by decide +kernel
theorem dX6_ends_9 : decode cX6_ends 9 = .ok (.getfield 22, 3) := by decide +kernel
theorem dX6_ends_12 : decode cX6_ends 12 = .ok (.ifCond .eq 5, 3) := by decide +kernel
theorem dX6_ends_15 : decode cX6_ends 15 = .ok (.iconst 0, 1) := by decide +kernel
theorem dX6_ends_16 : decode cX6_ends 16 = .ok (.ireturn, 1) := by decide +kernel
theorem dX6_ends_17 : decode cX6_ends 17 = .ok (.aload_n 0, 1) := by decide +kernel
theorem dX6_ends_18 : decode cX6_ends 18 = .ok (.aload_n 0, 1) := by decide +kernel
theorem dX6_ends_19 : decode cX6_ends 19 = .ok (.invokevirtual 62, 3) := by decide +kernel
theorem dX6_ends_22 : decode cX6_ends 22 = .ok (.putfield 34, 3) := by decide +kernel
theorem dX6_ends_25 : decode cX6_ends 25 = .ok (.iconst 1, 1) := by decide +kernel
theorem dX6_ends_26 : decode cX6_ends 26 = .ok (.ireturn, 1) := by decide +kernel
theorem dX6_takes_0 : decode cX6_takes 0 = .ok (.aload_n 0, 1) := by decide +kernel
theorem dX6_takes_1 : decode cX6_takes 1 = .ok (.getfield 26, 3) := by decide +kernel
theorem dX6_takes_4 : decode cX6_takes 4 = .ok (.iconst 1, 1) := by decide +kernel
theorem dX6_takes_5 : decode cX6_takes 5 = .ok (.if_icmp .ne 25, 3) := by decide +kernel
theorem dX6_takes_8 : decode cX6_takes 8 = .ok (.iload_n 2, 1) := by decide +kernel
theorem dX6_takes_9 : decode cX6_takes 9 = .ok (.iconst 2, 1) := by decide +kernel
theorem dX6_takes_10 : decode cX6_takes 10 = .ok (.if_icmp .ne 18, 3) := by decide +kernel
theorem dX6_takes_13 : decode cX6_takes 13 = .ok (.aload_n 0, 1) := by decide +kernel
theorem dX6_takes_14 : decode cX6_takes 14 = .ok (.aload_n 1, 1) := by decide +kernel
theorem dX6_takes_15 : decode cX6_takes 15 = .ok (.invokevirtual 66, 3) := by decide +kernel
theorem dX6_takes_18 : decode cX6_takes 18 = .ok (.invokevirtual 69, 3) := by decide +kernel
theorem dX6_takes_21 : decode cX6_takes 21 = .ok (.ifCond .eq 7, 3) := by decide +kernel
theorem dX6_takes_24 : decode cX6_takes 24 = .ok (.iconst 1, 1) := by decide +kernel
theorem dX6_takes_25 : decode cX6_takes 25 = .ok (.goto 4, 3) := by decide +kernel
theorem dX6_takes_28 : decode cX6_takes 28 = .ok (.iconst 0, 1) := by decide +kernel
theorem dX6_takes_29 : decode cX6_takes 29 = .ok (.ireturn, 1) := by decide +kernel
theorem dX6_takes_30 : decode cX6_takes 30 = .ok (.iload_n 2, 1) := by decide +kernel
theorem dX6_takes_31 : decode cX6_takes 31 = .ok (.iconst 2, 1) := by decide +kernel
theorem dX6_takes_32 : decode cX6_takes 32 = .ok (.if_icmp .ne 5, 3) := by decide +kernel
theorem dX6_takes_35 : decode cX6_takes 35 = .ok (.iconst 0, 1) := by decide +kernel
theorem dX6_takes_36 : decode cX6_takes 36 = .ok (.ireturn, 1) := by decide +kernel
theorem dX6_takes_37 : decode cX6_takes 37 = .ok (.aload_n 0, 1) := by decide +kernel
theorem dX6_takes_38 : decode cX6_takes 38 = .ok (.getfield 26, 3) := by decide +kernel
theorem dX6_takes_41 : decode cX6_takes 41 = .ok (.ifCond .ne 11, 3) := by decide +kernel
theorem dX6_takes_44 : decode cX6_takes 44 = .ok (.aload_n 0, 1) := by decide +kernel
theorem dX6_takes_45 : decode cX6_takes 45 = .ok (.aload_n 1, 1) := by decide +kernel
theorem dX6_takes_46 : decode cX6_takes 46 = .ok (.invokevirtual 73, 3) := by decide +kernel
theorem dX6_takes_49 : decode cX6_takes 49 = .ok (.goto 8, 3) := by decide +kernel
theorem dX6_takes_52 : decode cX6_takes 52 = .ok (.aload_n 0, 1) := by decide +kernel
theorem dX6_takes_53 : decode cX6_takes 53 = .ok (.aload_n 1, 1) := by decide +kernel
theorem dX6_takes_54 : decode cX6_takes 54 = .ok (.invokevirtual 77, 3) := by decide +kernel
theorem dX6_takes_57 : decode cX6_takes 57 = .ok (.ireturn, 1) := by decide +kernel
theorem dX6_takesBeginning_0 : decode cX6_takesBeginning 0 = .ok (.aload_n 1, 1) := by decide +kernel
theorem dX6_takesBeginning_1 : decode cX6_takesBeginning 1 = .ok (.ldc 80, 2) := by decide +kernel
theorem dX6_takesBeginning_3 : decode cX6_takesBeginning 3 = .ok (.invokevirtual 82, 3) := by decide +kernel
theorem dX6_takesBeginning_6 : decode cX6_takesBeginning 6 = .ok (.ifCond .eq 9, 3) := by decide +kernel
theorem dX6_takesBeginning_9 : decode cX6_takesBeginning 9 = .ok (.aload_n 0, 1) := by decide +kernel
theorem dX6_takesBeginning_10 : decode cX6_takesBeginning 10 = .ok (.invokevirtual 86, 3) := by decide +kernel
theorem dX6_takesBeginning_13 : decode cX6_takesBeginning 13 = .ok (.iconst 1, 1) := by decide +kernel
theorem dX6_takesBeginning_14 : decode cX6_takesBeginning 14 = .ok (.ireturn, 1) := by decide +kernel
theorem dX6_takesBeginning_15 : decode cX6_takesBeginning 15 = .ok (.aload_n 1, 1) := by decide +kernel
theorem dX6_takesBeginning_16 : decode cX6_takesBeginning 16 = .ok (.ldc 89, 2) := by decide +kernel
theorem dX6_takesBeginning_18 : decode cX6_takesBeginning 18 = .ok (.invokevirtual 82, 3) := by decide +kernel
theorem dX6_takesBeginning_21 : decode cX6_takesBeginning 21 = .ok (.ifCond .eq 12, 3) := by decide +kernel
theorem dX6_takesBeginning_24 : decode cX6_takesBeginning 24 = .ok (.aload_n 0, 1) := by decide +kernel
theorem dX6_takesBeginning_25 : decode cX6_takesBeginning 25 = .ok (.ldc2_w 32, 3) := by decide +kernel
theorem dX6_takesBeginning_28 : decode cX6_takesBeginning 28 = .ok (.invokevirtual 91, 3) := by decide +kernel
theorem dX6_takesBeginning_31 : decode cX6_takesBeginning 31 = .ok (.iconst 1, 1) := by decide +kernel
theorem dX6_takesBeginning_32 : decode cX6_takesBeginning 32 = .ok (.ireturn, 1) := by decide +kernel
theorem dX6_takesBeginning_33 : decode cX6_takesBeginning 33 = .ok (.aload_n 1, 1) := by decide +kernel
theorem dX6_takesBeginning_34 : decode cX6_takesBeginning 34 = .ok (.ldc 94, 2) := by decide +kernel
theorem dX6_takesBeginning_36 : decode cX6_takesBeginning 36 = .ok (.invokevirtual 82, 3) := by decide +kernel
theorem dX6_takesBeginning_39 : decode cX6_takesBeginning 39 = .ok (.ifCond .eq 30, 3) := by decide +kernel
theorem dX6_takesBeginning_42 : decode cX6_takesBeginning 42 = .ok (.aload_n 0, 1) := by decide +kernel
theorem dX6_takesBeginning_43 : decode cX6_takesBeginning 43 = .ok (.getfield 22, 3) := by decide +kernel
theorem dX6_takesBeginning_46 : decode cX6_takesBeginning 46 = .ok (.iconst 4, 1) := by decide +kernel
theorem dX6_takesBeginning_47 : decode cX6_takesBeginning 47 = .ok (.if_icmp .lt 5, 3) := by decide +kernel
theorem dX6_takesBeginning_50 : decode cX6_takesBeginning 50 = .ok (.iconst 0, 1) := by decide +kernel
theorem dX6_takesBeginning_51 : decode cX6_takesBeginning 51 = .ok (.ireturn, 1) := by decide +kernel
theorem dX6_takesBeginning_52 : decode cX6_takesBeginning 52 = .ok (.aload_n 0, 1) := by decide +kernel
theorem dX6_takesBeginning_53 : decode cX6_takesBeginning 53 = .ok (.dup, 1) := by decide +kernel
theorem dX6_takesBeginning_54 : decode cX6_takesBeginning 54 = .ok (.getfield 22, 3) := by decide +kernel
theorem dX6_takesBeginning_57 : decode cX6_takesBeginning 57 = .ok (.iconst 1, 1) := by decide +kernel
theorem dX6_takesBeginning_58 : decode cX6_takesBeginning 58 = .ok (.iadd, 1) := by decide +kernel
theorem dX6_takesBeginning_59 : decode cX6_takesBeginning 59 = .ok (.putfield 22, 3) := by decide +kernel
theorem dX6_takesBeginning_62 : decode cX6_takesBeginning 62 = .ok (.aload_n 0, 1) := by decide +kernel
theorem dX6_takesBeginning_63 : decode cX6_takesBeginning 63 = .ok (.lconst 0, 1) := by decide +kernel
theorem dX6_takesBeginning_64 : decode cX6_takesBeginning 64 = .ok (.invokevirtual 43, 3) := by decide +kernel
theorem dX6_takesBeginning_67 : decode cX6_takesBeginning 67 = .ok (.iconst 1, 1) := by decide +kernel
theorem dX6_takesBeginning_68 : decode cX6_takesBeginning 68 = .ok (.ireturn, 1) := by decide +kernel
theorem dX6_takesBeginning_69 : decode cX6_takesBeginning 69 = .ok (.aload_n 0, 1) := by decide +kernel
theorem dX6_takesBeginning_70 : decode cX6_takesBeginning 70 = .ok (.aload_n 1, 1) := by decide +kernel
theorem dX6_takesBeginning_71 : decode cX6_takesBeginning 71 = .ok (.invokevirtual 96, 3) := by decide +kernel
theorem dX6_takesBeginning_74 : decode cX6_takesBeginning 74 = .ok (.ireturn, 1) := by decide +kernel
theorem dX6_takesTest_0 : decode cX6_takesTest 0 = .ok (.aload_n 1, 1) := by decide +kernel
theorem dX6_takesTest_1 : decode cX6_takesTest 1 = .ok (.ldc 99, 2) := by decide +kernel
theorem dX6_takesTest_3 : decode cX6_takesTest 3 = .ok (.invokevirtual 82, 3) := by decide +kernel
theorem dX6_takesTest_6 : decode cX6_takesTest 6 = .ok (.ifCond .eq 11, 3) := by decide +kernel
theorem dX6_takesTest_9 : decode cX6_takesTest 9 = .ok (.aload_n 0, 1) := by decide +kernel
theorem dX6_takesTest_10 : decode cX6_takesTest 10 = .ok (.iconst 0, 1) := by decide +kernel
theorem dX6_takesTest_11 : decode cX6_takesTest 11 = .ok (.putfield 29, 3) := by decide +kernel
theorem dX6_takesTest_14 : decode cX6_takesTest 14 = .ok (.goto 56, 3) := by decide +kernel
theorem dX6_takesTest_17 : decode cX6_takesTest 17 = .ok (.aload_n 1, 1) := by decide +kernel
theorem dX6_takesTest_18 : decode cX6_takesTest 18 = .ok (.ldc 101, 2) := by decide +kernel
theorem dX6_takesTest_20 : decode cX6_takesTest 20 = .ok (.invokevirtual 82, 3) := by decide +kernel
theorem dX6_takesTest_23 : decode cX6_takesTest 23 = .ok (.ifCond .eq 11, 3) := by decide +kernel
theorem dX6_takesTest_26 : decode cX6_takesTest 26 = .ok (.aload_n 0, 1) := by decide +kernel
theorem dX6_takesTest_27 : decode cX6_takesTest 27 = .ok (.iconst 1, 1) := by decide +kernel
theorem dX6_takesTest_28 : decode cX6_takesTest 28 = .ok (.putfield 29, 3) := by decide +kernel
theorem dX6_takesTest_31 : decode cX6_takesTest 31 = .ok (.goto 39, 3) := by decide +kernel
theorem dX6_takesTest_34 : decode cX6_takesTest 34 = .ok (.aload_n 1, 1) := by decide +kernel
theorem dX6_takesTest_35 : decode cX6_takesTest 35 = .ok (.ldc 103, 2) := by decide +kernel
theorem dX6_takesTest_37 : decode cX6_takesTest 37 = .ok (.invokevirtual 82, 3) := by decide +kernel
theorem dX6_takesTest_40 : decode cX6_takesTest 40 = .ok (.ifCond .eq 11, 3) := by decide +kernel
theorem dX6_takesTest_43 : decode cX6_takesTest 43 = .ok (.aload_n 0, 1) := by decide +kernel
theorem dX6_takesTest_44 : decode cX6_takesTest 44 = .ok (.iconst 2, 1) := by decide +kernel
theorem dX6_takesTest_45 : decode cX6_takesTest 45 = .ok (.putfield 29, 3) := by decide +kernel
theorem dX6_takesTest_48 : decode cX6_takesTest 48 = .ok (.goto 22, 3) := by decide +kernel
theorem dX6_takesTest_51 : decode cX6_takesTest 51 = .ok (.aload_n 1, 1) := by decide +kernel
theorem dX6_takesTest_52 : decode cX6_takesTest 52 = .ok (.ldc 105, 2) := by decide +kernel
theorem dX6_takesTest_54 : decode cX6_takesTest 54 = .ok (.invokevirtual 82, 3) := by decide +kernel
theorem dX6_takesTest_57 : decode cX6_takesTest 57 = .ok (.ifCond .eq 11, 3) := by decide +kernel
theorem dX6_takesTest_60 : decode cX6_takesTest 60 = .ok (.aload_n 0, 1) := by decide +kernel
theorem dX6_takesTest_61 : decode cX6_takesTest 61 = .ok (.iconst 3, 1) := by decide +kernel
theorem dX6_takesTest_62 : decode cX6_takesTest 62 = .ok (.putfield 29, 3) := by decide +kernel
theorem dX6_takesTest_65 : decode cX6_takesTest 65 = .ok (.goto 5, 3) := by decide +kernel
theorem dX6_takesTest_68 : decode cX6_takesTest 68 = .ok (.iconst 0, 1) := by decide +kernel
theorem dX6_takesTest_69 : decode cX6_takesTest 69 = .ok (.ireturn, 1) := by decide +kernel
theorem dX6_takesTest_70 : decode cX6_takesTest 70 = .ok (.aload_n 0, 1) := by decide +kernel
theorem dX6_takesTest_71 : decode cX6_takesTest 71 = .ok (.iconst 1, 1) := by decide +kernel
theorem dX6_takesTest_72 : decode cX6_takesTest 72 = .ok (.putfield 26, 3) := by decide +kernel
theorem dX6_takesTest_75 : decode cX6_takesTest 75 = .ok (.iconst 1, 1) := by decide +kernel
theorem dX6_takesTest_76 : decode cX6_takesTest 76 = .ok (.ireturn, 1) := by decide +kernel
theorem dX6_takesNumber_0 : decode cX6_takesNumber 0 = .ok (.iload_n 1, 1) := by decide +kernel
theorem dX6_takesNumber_1 : decode cX6_takesNumber 1 = .ok (.ifCond .lt 15, 3) := by decide +kernel
theorem dX6_takesNumber_4 : decode cX6_takesNumber 4 = .ok (.iload_n 1, 1) := by decide +kernel
theorem dX6_takesNumber_5 : decode cX6_takesNumber 5 = .ok (.ifCond .ne 13, 3) := by decide +kernel
theorem dX6_takesNumber_8 : decode cX6_takesNumber 8 = .ok (.aload_n 0, 1) := by decide +kernel
theorem dX6_takesNumber_9 : decode cX6_takesNumber 9 = .ok (.getfield 29, 3) := by decide +kernel
theorem dX6_takesNumber_12 : decode cX6_takesNumber 12 = .ok (.iconst 2, 1) := by decide +kernel
theorem dX6_takesNumber_13 : decode cX6_takesNumber 13 = .ok (.if_icmp .ne 5, 3) := by decide +kernel
theorem dX6_takesNumber_16 : decode cX6_takesNumber 16 = .ok (.iconst 0, 1) := by decide +kernel
theorem dX6_takesNumber_17 : decode cX6_takesNumber 17 = .ok (.ireturn, 1) := by decide +kernel
theorem dX6_takesNumber_18 : decode cX6_takesNumber 18 = .ok (.aload_n 0, 1) := by decide +kernel
theorem dX6_takesNumber_19 : decode cX6_takesNumber 19 = .ok (.aload_n 0, 1) := by decide +kernel
theorem dX6_takesNumber_20 : decode cX6_takesNumber 20 = .ok (.iload_n 1, 1) := by decide +kernel
theorem dX6_takesNumber_21 : decode cX6_takesNumber 21 = .ok (.invokevirtual 107, 3) := by decide +kernel
theorem dX6_takesNumber_24 : decode cX6_takesNumber 24 = .ok (.invokevirtual 91, 3) := by decide +kernel
theorem dX6_takesNumber_27 : decode cX6_takesNumber 27 = .ok (.iconst 1, 1) := by decide +kernel
theorem dX6_takesNumber_28 : decode cX6_takesNumber 28 = .ok (.ireturn, 1) := by decide +kernel
theorem dX6_takesJoint_0 : decode cX6_takesJoint 0 = .ok (.aload_n 1, 1) := by decide +kernel
theorem dX6_takesJoint_1 : decode cX6_takesJoint 1 = .ok (.ldc 111, 2) := by decide +kernel
theorem dX6_takesJoint_3 : decode cX6_takesJoint 3 = .ok (.invokevirtual 82, 3) := by decide +kernel
theorem dX6_takesJoint_6 : decode cX6_takesJoint 6 = .ok (.ifCond .eq 10, 3) := by decide +kernel
theorem dX6_takesJoint_9 : decode cX6_takesJoint 9 = .ok (.aload_n 0, 1) := by decide +kernel
theorem dX6_takesJoint_10 : decode cX6_takesJoint 10 = .ok (.iconst 0, 1) := by decide +kernel
theorem dX6_takesJoint_11 : decode cX6_takesJoint 11 = .ok (.putfield 26, 3) := by decide +kernel
theorem dX6_takesJoint_14 : decode cX6_takesJoint 14 = .ok (.iconst 1, 1) := by decide +kernel
theorem dX6_takesJoint_15 : decode cX6_takesJoint 15 = .ok (.ireturn, 1) := by decide +kernel
theorem dX6_takesJoint_16 : decode cX6_takesJoint 16 = .ok (.aload_n 1, 1) := by decide +kernel
theorem dX6_takesJoint_17 : decode cX6_takesJoint 17 = .ok (.ldc 113, 2) := by decide +kernel
theorem dX6_takesJoint_19 : decode cX6_takesJoint 19 = .ok (.invokevirtual 82, 3) := by decide +kernel
theorem dX6_takesJoint_22 : decode cX6_takesJoint 22 = .ok (.ifCond .eq 13, 3) := by decide +kernel
theorem dX6_takesJoint_25 : decode cX6_takesJoint 25 = .ok (.aload_n 0, 1) := by decide +kernel
theorem dX6_takesJoint_26 : decode cX6_takesJoint 26 = .ok (.aload_n 0, 1) := by decide +kernel
theorem dX6_takesJoint_27 : decode cX6_takesJoint 27 = .ok (.invokevirtual 62, 3) := by decide +kernel
theorem dX6_takesJoint_30 : decode cX6_takesJoint 30 = .ok (.invokevirtual 43, 3) := by decide +kernel
theorem dX6_takesJoint_33 : decode cX6_takesJoint 33 = .ok (.iconst 1, 1) := by decide +kernel
theorem dX6_takesJoint_34 : decode cX6_takesJoint 34 = .ok (.ireturn, 1) := by decide +kernel
theorem dX6_takesJoint_35 : decode cX6_takesJoint 35 = .ok (.aload_n 1, 1) := by decide +kernel
theorem dX6_takesJoint_36 : decode cX6_takesJoint 36 = .ok (.ldc 115, 2) := by decide +kernel
theorem dX6_takesJoint_38 : decode cX6_takesJoint 38 = .ok (.invokevirtual 82, 3) := by decide +kernel
theorem dX6_takesJoint_41 : decode cX6_takesJoint 41 = .ok (.ifCond .eq 11, 3) := by decide +kernel
theorem dX6_takesJoint_44 : decode cX6_takesJoint 44 = .ok (.aload_n 0, 1) := by decide +kernel
theorem dX6_takesJoint_45 : decode cX6_takesJoint 45 = .ok (.getfield 22, 3) := by decide +kernel
theorem dX6_takesJoint_48 : decode cX6_takesJoint 48 = .ok (.iconst 1, 1) := by decide +kernel
theorem dX6_takesJoint_49 : decode cX6_takesJoint 49 = .ok (.if_icmp .ge 5, 3) := by decide +kernel
theorem dX6_takesJoint_52 : decode cX6_takesJoint 52 = .ok (.iconst 0, 1) := by decide +kernel
theorem dX6_takesJoint_53 : decode cX6_takesJoint 53 = .ok (.ireturn, 1) := by decide +kernel
theorem dX6_takesJoint_54 : decode cX6_takesJoint 54 = .ok (.aload_n 0, 1) := by decide +kernel
theorem dX6_takesJoint_55 : decode cX6_takesJoint 55 = .ok (.invokevirtual 62, 3) := by decide +kernel
theorem dX6_takesJoint_58 : decode cX6_takesJoint 58 = .ok (.lstore_n 2, 1) := by decide +kernel
theorem dX6_takesJoint_59 : decode cX6_takesJoint 59 = .ok (.aload_n 0, 1) := by decide +kernel
theorem dX6_takesJoint_60 : decode cX6_takesJoint 60 = .ok (.dup, 1) := by decide +kernel
theorem dX6_takesJoint_61 : decode cX6_takesJoint 61 = .ok (.getfield 22, 3) := by decide +kernel
theorem dX6_takesJoint_64 : decode cX6_takesJoint 64 = .ok (.iconst 1, 1) := by decide +kernel
theorem dX6_takesJoint_65 : decode cX6_takesJoint 65 = .ok (.isub, 1) := by decide +kernel
theorem dX6_takesJoint_66 : decode cX6_takesJoint 66 = .ok (.putfield 22, 3) := by decide +kernel
theorem dX6_takesJoint_69 : decode cX6_takesJoint 69 = .ok (.aload_n 0, 1) := by decide +kernel
theorem dX6_takesJoint_70 : decode cX6_takesJoint 70 = .ok (.lload_n 2, 1) := by decide +kernel
theorem dX6_takesJoint_71 : decode cX6_takesJoint 71 = .ok (.invokevirtual 91, 3) := by decide +kernel
theorem dX6_takesJoint_74 : decode cX6_takesJoint 74 = .ok (.iconst 1, 1) := by decide +kernel
theorem dX6_takesJoint_75 : decode cX6_takesJoint 75 = .ok (.ireturn, 1) := by decide +kernel
theorem dX6_isLevel_0 : decode cX6_isLevel 0 = .ok (.aload_n 0, 1) := by decide +kernel
theorem dX6_isLevel_1 : decode cX6_isLevel 1 = .ok (.getfield 22, 3) := by decide +kernel
theorem dX6_isLevel_4 : decode cX6_isLevel 4 = .ok (.ifCond .lt 15, 3) := by decide +kernel
theorem dX6_isLevel_7 : decode cX6_isLevel 7 = .ok (.aload_n 0, 1) := by decide +kernel
theorem dX6_isLevel_8 : decode cX6_isLevel 8 = .ok (.getfield 22, 3) := by decide +kernel
theorem dX6_isLevel_11 : decode cX6_isLevel 11 = .ok (.iconst 4, 1) := by decide +kernel
theorem dX6_isLevel_12 : decode cX6_isLevel 12 = .ok (.if_icmp .gt 7, 3) := by decide +kernel
theorem dX6_isLevel_15 : decode cX6_isLevel 15 = .ok (.iconst 1, 1) := by decide +kernel
theorem dX6_isLevel_16 : decode cX6_isLevel 16 = .ok (.goto 4, 3) := by decide +kernel
theorem dX6_isLevel_19 : decode cX6_isLevel 19 = .ok (.iconst 0, 1) := by decide +kernel
theorem dX6_isLevel_20 : decode cX6_isLevel 20 = .ok (.ireturn, 1) := by decide +kernel
theorem dX6_soFar_0 : decode cX6_soFar 0 = .ok (.aload_n 0, 1) := by decide +kernel
theorem dX6_soFar_1 : decode cX6_soFar 1 = .ok (.invokevirtual 117, 3) := by decide +kernel
theorem dX6_soFar_4 : decode cX6_soFar 4 = .ok (.ifCond .eq 25, 3) := by decide +kernel
theorem dX6_soFar_7 : decode cX6_soFar 7 = .ok (.aload_n 0, 1) := by decide +kernel
theorem dX6_soFar_8 : decode cX6_soFar 8 = .ok (.getfield 9, 3) := by decide +kernel
theorem dX6_soFar_11 : decode cX6_soFar 11 = .ok (.aload_n 0, 1) := by decide +kernel
theorem dX6_soFar_12 : decode cX6_soFar 12 = .ok (.getfield 22, 3) := by decide +kernel
theorem dX6_soFar_15 : decode cX6_soFar 15 = .ok (.laload, 1) := by decide +kernel
theorem dX6_soFar_16 : decode cX6_soFar 16 = .ok (.aload_n 0, 1) := by decide +kernel
theorem dX6_soFar_17 : decode cX6_soFar 17 = .ok (.getfield 15, 3) := by decide +kernel
theorem dX6_soFar_20 : decode cX6_soFar 20 = .ok (.aload_n 0, 1) := by decide +kernel
theorem dX6_soFar_21 : decode cX6_soFar 21 = .ok (.getfield 22, 3) := by decide +kernel
theorem dX6_soFar_24 : decode cX6_soFar 24 = .ok (.laload, 1) := by decide +kernel
theorem dX6_soFar_25 : decode cX6_soFar 25 = .ok (.lor, 1) := by decide +kernel
theorem dX6_soFar_26 : decode cX6_soFar 26 = .ok (.goto 4, 3) := by decide +kernel
theorem dX6_soFar_29 : decode cX6_soFar 29 = .ok (.lconst 0, 1) := by decide +kernel
theorem dX6_soFar_30 : decode cX6_soFar 30 = .ok (.lreturn, 1) := by decide +kernel
theorem dX6_begin_0 : decode cX6_begin 0 = .ok (.aload_n 0, 1) := by decide +kernel
theorem dX6_begin_1 : decode cX6_begin 1 = .ok (.invokevirtual 117, 3) := by decide +kernel
theorem dX6_begin_4 : decode cX6_begin 4 = .ok (.ifCond .eq 35, 3) := by decide +kernel
theorem dX6_begin_7 : decode cX6_begin 7 = .ok (.aload_n 0, 1) := by decide +kernel
theorem dX6_begin_8 : decode cX6_begin 8 = .ok (.getfield 9, 3) := by decide +kernel
theorem dX6_begin_11 : decode cX6_begin 11 = .ok (.aload_n 0, 1) := by decide +kernel
theorem dX6_begin_12 : decode cX6_begin 12 = .ok (.getfield 22, 3) := by decide +kernel
theorem dX6_begin_15 : decode cX6_begin 15 = .ok (.lload_n 1, 1) := by decide +kernel
theorem dX6_begin_16 : decode cX6_begin 16 = .ok (.lastore, 1) := by decide +kernel
theorem dX6_begin_17 : decode cX6_begin 17 = .ok (.aload_n 0, 1) := by decide +kernel
theorem dX6_begin_18 : decode cX6_begin 18 = .ok (.getfield 15, 3) := by decide +kernel
theorem dX6_begin_21 : decode cX6_begin 21 = .ok (.aload_n 0, 1) := by decide +kernel
theorem dX6_begin_22 : decode cX6_begin 22 = .ok (.getfield 22, 3) := by decide +kernel
theorem dX6_begin_25 : decode cX6_begin 25 = .ok (.ldc2_w 32, 3) := by decide +kernel
theorem dX6_begin_28 : decode cX6_begin 28 = .ok (.lastore, 1) := by decide +kernel
theorem dX6_begin_29 : decode cX6_begin 29 = .ok (.aload_n 0, 1) := by decide +kernel
theorem dX6_begin_30 : decode cX6_begin 30 = .ok (.getfield 18, 3) := by decide +kernel
theorem dX6_begin_33 : decode cX6_begin 33 = .ok (.aload_n 0, 1) := by decide +kernel
theorem dX6_begin_34 : decode cX6_begin 34 = .ok (.getfield 22, 3) := by decide +kernel
theorem dX6_begin_37 : decode cX6_begin 37 = .ok (.iconst 0, 1) := by decide +kernel
theorem dX6_begin_38 : decode cX6_begin 38 = .ok (.bastore, 1) := by decide +kernel
theorem dX6_begin_39 : decode cX6_begin 39 = .ok (.aload_n 0, 1) := by decide +kernel
theorem dX6_begin_40 : decode cX6_begin 40 = .ok (.iconst 0, 1) := by decide +kernel
theorem dX6_begin_41 : decode cX6_begin 41 = .ok (.putfield 26, 3) := by decide +kernel
theorem dX6_begin_44 : decode cX6_begin 44 = .ok (.return_, 1) := by decide +kernel
theorem dX6_deny_0 : decode cX6_deny 0 = .ok (.aload_n 0, 1) := by decide +kernel
theorem dX6_deny_1 : decode cX6_deny 1 = .ok (.invokevirtual 117, 3) := by decide +kernel
theorem dX6_deny_4 : decode cX6_deny 4 = .ok (.ifCond .eq 29, 3) := by decide +kernel
theorem dX6_deny_7 : decode cX6_deny 7 = .ok (.aload_n 0, 1) := by decide +kernel
theorem dX6_deny_8 : decode cX6_deny 8 = .ok (.getfield 18, 3) := by decide +kernel
theorem dX6_deny_11 : decode cX6_deny 11 = .ok (.aload_n 0, 1) := by decide +kernel
theorem dX6_deny_12 : decode cX6_deny 12 = .ok (.getfield 22, 3) := by decide +kernel
theorem dX6_deny_15 : decode cX6_deny 15 = .ok (.aload_n 0, 1) := by decide +kernel
theorem dX6_deny_16 : decode cX6_deny 16 = .ok (.getfield 18, 3) := by decide +kernel
theorem dX6_deny_19 : decode cX6_deny 19 = .ok (.aload_n 0, 1) := by decide +kernel
theorem dX6_deny_20 : decode cX6_deny 20 = .ok (.getfield 22, 3) := by decide +kernel
theorem dX6_deny_23 : decode cX6_deny 23 = .ok (.baload, 1) := by decide +kernel
theorem dX6_deny_24 : decode cX6_deny 24 = .ok (.ifCond .ne 7, 3) := by decide +kernel
theorem dX6_deny_27 : decode cX6_deny 27 = .ok (.iconst 1, 1) := by decide +kernel
theorem dX6_deny_28 : decode cX6_deny 28 = .ok (.goto 4, 3) := by decide +kernel
theorem dX6_deny_31 : decode cX6_deny 31 = .ok (.iconst 0, 1) := by decide +kernel
theorem dX6_deny_32 : decode cX6_deny 32 = .ok (.bastore, 1) := by decide +kernel
theorem dX6_deny_33 : decode cX6_deny 33 = .ok (.return_, 1) := by decide +kernel
theorem dX6_hold_0 : decode cX6_hold 0 = .ok (.aload_n 0, 1) := by decide +kernel
theorem dX6_hold_1 : decode cX6_hold 1 = .ok (.invokevirtual 117, 3) := by decide +kernel
theorem dX6_hold_4 : decode cX6_hold 4 = .ok (.ifCond .eq 50, 3) := by decide +kernel
theorem dX6_hold_7 : decode cX6_hold 7 = .ok (.aload_n 0, 1) := by decide +kernel
theorem dX6_hold_8 : decode cX6_hold 8 = .ok (.getfield 15, 3) := by decide +kernel
theorem dX6_hold_11 : decode cX6_hold 11 = .ok (.aload_n 0, 1) := by decide +kernel
theorem dX6_hold_12 : decode cX6_hold 12 = .ok (.getfield 22, 3) := by decide +kernel
theorem dX6_hold_15 : decode cX6_hold 15 = .ok (.dup2, 1) := by decide +kernel
theorem dX6_hold_16 : decode cX6_hold 16 = .ok (.laload, 1) := by decide +kernel
theorem dX6_hold_17 : decode cX6_hold 17 = .ok (.aload_n 0, 1) := by decide +kernel
theorem dX6_hold_18 : decode cX6_hold 18 = .ok (.getfield 18, 3) := by decide +kernel
theorem dX6_hold_21 : decode cX6_hold 21 = .ok (.aload_n 0, 1) := by decide +kernel
theorem dX6_hold_22 : decode cX6_hold 22 = .ok (.getfield 22, 3) := by decide +kernel
theorem dX6_hold_25 : decode cX6_hold 25 = .ok (.baload, 1) := by decide +kernel
theorem dX6_hold_26 : decode cX6_hold 26 = .ok (.ifCond .eq 15, 3) := by decide +kernel
theorem dX6_hold_29 : decode cX6_hold 29 = .ok (.ldc2_w 32, 3) := by decide +kernel
theorem dX6_hold_32 : decode cX6_hold 32 = .ok (.lload_n 1, 1) := by decide +kernel
theorem dX6_hold_33 : decode cX6_hold 33 = .ok (.ldc2_w 120, 3) := by decide +kernel
theorem dX6_hold_36 : decode cX6_hold 36 = .ok (.lxor, 1) := by decide +kernel
theorem dX6_hold_37 : decode cX6_hold 37 = .ok (.land, 1) := by decide +kernel
theorem dX6_hold_38 : decode cX6_hold 38 = .ok (.goto 4, 3) := by decide +kernel
theorem dX6_hold_41 : decode cX6_hold 41 = .ok (.lload_n 1, 1) := by decide +kernel
theorem dX6_hold_42 : decode cX6_hold 42 = .ok (.land, 1) := by decide +kernel
theorem dX6_hold_43 : decode cX6_hold 43 = .ok (.lastore, 1) := by decide +kernel
theorem dX6_hold_44 : decode cX6_hold 44 = .ok (.aload_n 0, 1) := by decide +kernel
theorem dX6_hold_45 : decode cX6_hold 45 = .ok (.getfield 18, 3) := by decide +kernel
theorem dX6_hold_48 : decode cX6_hold 48 = .ok (.aload_n 0, 1) := by decide +kernel
theorem dX6_hold_49 : decode cX6_hold 49 = .ok (.getfield 22, 3) := by decide +kernel
theorem dX6_hold_52 : decode cX6_hold 52 = .ok (.iconst 0, 1) := by decide +kernel
theorem dX6_hold_53 : decode cX6_hold 53 = .ok (.bastore, 1) := by decide +kernel
theorem dX6_hold_54 : decode cX6_hold 54 = .ok (.aload_n 0, 1) := by decide +kernel
theorem dX6_hold_55 : decode cX6_hold 55 = .ok (.iconst 2, 1) := by decide +kernel
theorem dX6_hold_56 : decode cX6_hold 56 = .ok (.putfield 26, 3) := by decide +kernel
theorem dX6_hold_59 : decode cX6_hold 59 = .ok (.return_, 1) := by decide +kernel
theorem dX6_setOf_0 : decode cX6_setOf 0 = .ok (.lconst 0, 1) := by decide +kernel
theorem dX6_setOf_1 : decode cX6_setOf 1 = .ok (.lstore_n 2, 1) := by decide +kernel
theorem dX6_setOf_2 : decode cX6_setOf 2 = .ok (.iconst 0, 1) := by decide +kernel
theorem dX6_setOf_3 : decode cX6_setOf 3 = .ok (.istore 4, 2) := by decide +kernel
theorem dX6_setOf_5 : decode cX6_setOf 5 = .ok (.iload 4, 2) := by decide +kernel
theorem dX6_setOf_7 : decode cX6_setOf 7 = .ok (.bipush 60, 2) := by decide +kernel
theorem dX6_setOf_9 : decode cX6_setOf 9 = .ok (.if_icmp .gt 26, 3) := by decide +kernel
theorem dX6_setOf_12 : decode cX6_setOf 12 = .ok (.aload_n 0, 1) := by decide +kernel
theorem dX6_setOf_13 : decode cX6_setOf 13 = .ok (.iload 4, 2) := by decide +kernel
theorem dX6_setOf_15 : decode cX6_setOf 15 = .ok (.iload_n 1, 1) := by decide +kernel
theorem dX6_setOf_16 : decode cX6_setOf 16 = .ok (.invokevirtual 122, 3) := by decide +kernel
theorem dX6_setOf_19 : decode cX6_setOf 19 = .ok (.ifCond .eq 10, 3) := by decide +kernel
theorem dX6_setOf_22 : decode cX6_setOf 22 = .ok (.lload_n 2, 1) := by decide +kernel
theorem dX6_setOf_23 : decode cX6_setOf 23 = .ok (.lconst 1, 1) := by decide +kernel
theorem dX6_setOf_24 : decode cX6_setOf 24 = .ok (.iload 4, 2) := by decide +kernel
theorem dX6_setOf_26 : decode cX6_setOf 26 = .ok (.lshl, 1) := by decide +kernel
theorem dX6_setOf_27 : decode cX6_setOf 27 = .ok (.lor, 1) := by decide +kernel
theorem dX6_setOf_28 : decode cX6_setOf 28 = .ok (.lstore_n 2, 1) := by decide +kernel
theorem dX6_setOf_29 : decode cX6_setOf 29 = .ok (.iinc 4 1, 3) := by decide +kernel
theorem dX6_setOf_32 : decode cX6_setOf 32 = .ok (.goto (-27), 3) := by decide +kernel
theorem dX6_setOf_35 : decode cX6_setOf 35 = .ok (.lload_n 2, 1) := by decide +kernel
theorem dX6_setOf_36 : decode cX6_setOf 36 = .ok (.lreturn, 1) := by decide +kernel
theorem dX6_passes_0 : decode cX6_passes 0 = .ok (.aload_n 0, 1) := by decide +kernel
theorem dX6_passes_1 : decode cX6_passes 1 = .ok (.getfield 29, 3) := by decide +kernel
theorem dX6_passes_4 : decode cX6_passes 4 = .ok (.tableswitch 66 0 2 #[28, 39, 50], 28) := by decide +kernel
theorem dX6_passes_32 : decode cX6_passes 32 = .ok (.iload_n 1, 1) := by decide +kernel
theorem dX6_passes_33 : decode cX6_passes 33 = .ok (.iload_n 2, 1) := by decide +kernel
theorem dX6_passes_34 : decode cX6_passes 34 = .ok (.if_icmp .gt 7, 3) := by decide +kernel
theorem dX6_passes_37 : decode cX6_passes 37 = .ok (.iconst 1, 1) := by decide +kernel
theorem dX6_passes_38 : decode cX6_passes 38 = .ok (.goto 4, 3) := by decide +kernel
theorem dX6_passes_41 : decode cX6_passes 41 = .ok (.iconst 0, 1) := by decide +kernel
theorem dX6_passes_42 : decode cX6_passes 42 = .ok (.ireturn, 1) := by decide +kernel
theorem dX6_passes_43 : decode cX6_passes 43 = .ok (.iload_n 1, 1) := by decide +kernel
theorem dX6_passes_44 : decode cX6_passes 44 = .ok (.iload_n 2, 1) := by decide +kernel
theorem dX6_passes_45 : decode cX6_passes 45 = .ok (.if_icmp .lt 7, 3) := by decide +kernel
theorem dX6_passes_48 : decode cX6_passes 48 = .ok (.iconst 1, 1) := by decide +kernel
theorem dX6_passes_49 : decode cX6_passes 49 = .ok (.goto 4, 3) := by decide +kernel
theorem dX6_passes_52 : decode cX6_passes 52 = .ok (.iconst 0, 1) := by decide +kernel
theorem dX6_passes_53 : decode cX6_passes 53 = .ok (.ireturn, 1) := by decide +kernel
theorem dX6_passes_54 : decode cX6_passes 54 = .ok (.iload_n 2, 1) := by decide +kernel
theorem dX6_passes_55 : decode cX6_passes 55 = .ok (.ifCond .le 13, 3) := by decide +kernel
theorem dX6_passes_58 : decode cX6_passes 58 = .ok (.iload_n 1, 1) := by decide +kernel
theorem dX6_passes_59 : decode cX6_passes 59 = .ok (.iload_n 2, 1) := by decide +kernel
theorem dX6_passes_60 : decode cX6_passes 60 = .ok (.irem, 1) := by decide +kernel
theorem dX6_passes_61 : decode cX6_passes 61 = .ok (.ifCond .ne 7, 3) := by decide +kernel
theorem dX6_passes_64 : decode cX6_passes 64 = .ok (.iconst 1, 1) := by decide +kernel
theorem dX6_passes_65 : decode cX6_passes 65 = .ok (.goto 4, 3) := by decide +kernel
theorem dX6_passes_68 : decode cX6_passes 68 = .ok (.iconst 0, 1) := by decide +kernel
theorem dX6_passes_69 : decode cX6_passes 69 = .ok (.ireturn, 1) := by decide +kernel
theorem dX6_passes_70 : decode cX6_passes 70 = .ok (.iload_n 1, 1) := by decide +kernel
theorem dX6_passes_71 : decode cX6_passes 71 = .ok (.iload_n 2, 1) := by decide +kernel
theorem dX6_passes_72 : decode cX6_passes 72 = .ok (.if_icmp .ne 7, 3) := by decide +kernel
theorem dX6_passes_75 : decode cX6_passes 75 = .ok (.iconst 1, 1) := by decide +kernel
theorem dX6_passes_76 : decode cX6_passes 76 = .ok (.goto 4, 3) := by decide +kernel
theorem dX6_passes_79 : decode cX6_passes 79 = .ok (.iconst 0, 1) := by decide +kernel
theorem dX6_passes_80 : decode cX6_passes 80 = .ok (.ireturn, 1) := by decide +kernel
theorem dX7_init_0 : decode cX7_init 0 = .ok (.aload_n 0, 1) := by decide +kernel
theorem dX7_init_1 : decode cX7_init 1 = .ok (.invokespecial 3, 3) := by decide +kernel
theorem dX7_init_4 : decode cX7_init 4 = .ok (.aload_n 0, 1) := by decide +kernel
theorem dX7_init_5 : decode cX7_init 5 = .ok (.bipush 60, 2) := by decide +kernel
theorem dX7_init_7 : decode cX7_init 7 = .ok (.newarray .long, 2) := by decide +kernel
theorem dX7_init_9 : decode cX7_init 9 = .ok (.putfield 9, 3) := by decide +kernel
theorem dX7_init_12 : decode cX7_init 12 = .ok (.aload_n 0, 1) := by decide +kernel
theorem dX7_init_13 : decode cX7_init 13 = .ok (.iconst (-1), 1) := by decide +kernel
theorem dX7_init_14 : decode cX7_init 14 = .ok (.putfield 15, 3) := by decide +kernel
theorem dX7_init_17 : decode cX7_init 17 = .ok (.aload_n 0, 1) := by decide +kernel
theorem dX7_init_18 : decode cX7_init 18 = .ok (.iconst 0, 1) := by decide +kernel
theorem dX7_init_19 : decode cX7_init 19 = .ok (.putfield 19, 3) := by decide +kernel
theorem dX7_init_22 : decode cX7_init 22 = .ok (.return_, 1) := by decide +kernel
theorem dX7_become_0 : decode cX7_become 0 = .ok (.aload_n 0, 1) := by decide +kernel
theorem dX7_become_1 : decode cX7_become 1 = .ok (.iload_n 1, 1) := by decide +kernel
theorem dX7_become_2 : decode cX7_become 2 = .ok (.putfield 15, 3) := by decide +kernel
theorem dX7_become_5 : decode cX7_become 5 = .ok (.aload_n 0, 1) := by decide +kernel
theorem dX7_become_6 : decode cX7_become 6 = .ok (.iconst 0, 1) := by decide +kernel
theorem dX7_become_7 : decode cX7_become 7 = .ok (.iload_n 2, 1) := by decide +kernel
theorem dX7_become_8 : decode cX7_become 8 = .ok (.bipush 60, 2) := by decide +kernel
theorem dX7_become_10 : decode cX7_become 10 = .ok (.invokestatic 22, 3) := by decide +kernel
theorem dX7_become_13 : decode cX7_become 13 = .ok (.invokestatic 28, 3) := by decide +kernel
theorem dX7_become_16 : decode cX7_become 16 = .ok (.putfield 19, 3) := by decide +kernel
theorem dX7_become_19 : decode cX7_become 19 = .ok (.aload_n 0, 1) := by decide +kernel
theorem dX7_become_20 : decode cX7_become 20 = .ok (.getfield 9, 3) := by decide +kernel
theorem dX7_become_23 : decode cX7_become 23 = .ok (.lconst 0, 1) := by decide +kernel
theorem dX7_become_24 : decode cX7_become 24 = .ok (.invokestatic 31, 3) := by decide +kernel
theorem dX7_become_27 : decode cX7_become 27 = .ok (.return_, 1) := by decide +kernel
theorem dX7_hasPlace_0 : decode cX7_hasPlace 0 = .ok (.iload_n 1, 1) := by decide +kernel
theorem dX7_hasPlace_1 : decode cX7_hasPlace 1 = .ok (.ifCond .lt 21, 3) := by decide +kernel
theorem dX7_hasPlace_4 : decode cX7_hasPlace 4 = .ok (.iload_n 1, 1) := by decide +kernel
theorem dX7_hasPlace_5 : decode cX7_hasPlace 5 = .ok (.aload_n 0, 1) := by decide +kernel
theorem dX7_hasPlace_6 : decode cX7_hasPlace 6 = .ok (.getfield 19, 3) := by decide +kernel
theorem dX7_hasPlace_9 : decode cX7_hasPlace 9 = .ok (.if_icmp .ge 13, 3) := by decide +kernel
theorem dX7_hasPlace_12 : decode cX7_hasPlace 12 = .ok (.iload_n 1, 1) := by decide +kernel
theorem dX7_hasPlace_13 : decode cX7_hasPlace 13 = .ok (.bipush 60, 2) := by decide +kernel
theorem dX7_hasPlace_15 : decode cX7_hasPlace 15 = .ok (.if_icmp .ge 7, 3) := by decide +kernel
theorem dX7_hasPlace_18 : decode cX7_hasPlace 18 = .ok (.iconst 1, 1) := by decide +kernel
theorem dX7_hasPlace_19 : decode cX7_hasPlace 19 = .ok (.goto 4, 3) := by decide +kernel
theorem dX7_hasPlace_22 : decode cX7_hasPlace 22 = .ok (.iconst 0, 1) := by decide +kernel
theorem dX7_hasPlace_23 : decode cX7_hasPlace 23 = .ok (.ireturn, 1) := by decide +kernel
theorem dX7_cut_0 : decode cX7_cut 0 = .ok (.aload_n 0, 1) := by decide +kernel
theorem dX7_cut_1 : decode cX7_cut 1 = .ok (.getfield 15, 3) := by decide +kernel
theorem dX7_cut_4 : decode cX7_cut 4 = .ok (.lookupswitch 38 #[(0, 28), (1, 33)], 28) := by decide +kernel
theorem dX7_cut_32 : decode cX7_cut 32 = .ok (.lload_n 1, 1) := by decide +kernel
theorem dX7_cut_33 : decode cX7_cut 33 = .ok (.l2i, 1) := by decide +kernel
theorem dX7_cut_34 : decode cX7_cut 34 = .ok (.i2b, 1) := by decide +kernel
theorem dX7_cut_35 : decode cX7_cut 35 = .ok (.i2l, 1) := by decide +kernel
theorem dX7_cut_36 : decode cX7_cut 36 = .ok (.lreturn, 1) := by decide +kernel
theorem dX7_cut_37 : decode cX7_cut 37 = .ok (.lload_n 1, 1) := by decide +kernel
theorem dX7_cut_38 : decode cX7_cut 38 = .ok (.l2i, 1) := by decide +kernel
theorem dX7_cut_39 : decode cX7_cut 39 = .ok (.i2s, 1) := by decide +kernel
theorem dX7_cut_40 : decode cX7_cut 40 = .ok (.i2l, 1) := by decide +kernel
theorem dX7_cut_41 : decode cX7_cut 41 = .ok (.lreturn, 1) := by decide +kernel
theorem dX7_cut_42 : decode cX7_cut 42 = .ok (.lload_n 1, 1) := by decide +kernel
theorem dX7_cut_43 : decode cX7_cut 43 = .ok (.lreturn, 1) := by decide +kernel
theorem dX7_greatest_0 : decode cX7_greatest 0 = .ok (.aload_n 0, 1) := by decide +kernel
theorem dX7_greatest_1 : decode cX7_greatest 1 = .ok (.getfield 15, 3) := by decide +kernel
theorem dX7_greatest_4 : decode cX7_greatest 4 = .ok (.ifCond .ne 9, 3) := by decide +kernel
theorem dX7_greatest_7 : decode cX7_greatest 7 = .ok (.ldc2_w 37, 3) := by decide +kernel
theorem dX7_greatest_10 : decode cX7_greatest 10 = .ok (.goto 6, 3) := by decide +kernel
theorem dX7_greatest_13 : decode cX7_greatest 13 = .ok (.ldc2_w 39, 3) := by decide +kernel
theorem dX7_greatest_16 : decode cX7_greatest 16 = .ok (.lreturn, 1) := by decide +kernel
theorem dX7_lastUp_0 : decode cX7_lastUp 0 = .ok (.iload_n 1, 1) := by decide +kernel
theorem dX7_lastUp_1 : decode cX7_lastUp 1 = .ok (.iconst 1, 1) := by decide +kernel
theorem dX7_lastUp_2 : decode cX7_lastUp 2 = .ok (.if_icmp .lt 11, 3) := by decide +kernel
theorem dX7_lastUp_5 : decode cX7_lastUp 5 = .ok (.aload_n 0, 1) := by decide +kernel
theorem dX7_lastUp_6 : decode cX7_lastUp 6 = .ok (.getfield 19, 3) := by decide +kernel
theorem dX7_lastUp_9 : decode cX7_lastUp 9 = .ok (.iconst 1, 1) := by decide +kernel
theorem dX7_lastUp_10 : decode cX7_lastUp 10 = .ok (.if_icmp .ge 7, 3) := by decide +kernel
theorem dX7_lastUp_13 : decode cX7_lastUp 13 = .ok (.iconst 0, 1) := by decide +kernel
theorem dX7_lastUp_14 : decode cX7_lastUp 14 = .ok (.goto 11, 3) := by decide +kernel
theorem dX7_lastUp_17 : decode cX7_lastUp 17 = .ok (.aload_n 0, 1) := by decide +kernel
theorem dX7_lastUp_18 : decode cX7_lastUp 18 = .ok (.getfield 19, 3) := by decide +kernel
theorem dX7_lastUp_21 : decode cX7_lastUp 21 = .ok (.iconst 1, 1) := by decide +kernel
theorem dX7_lastUp_22 : decode cX7_lastUp 22 = .ok (.isub, 1) := by decide +kernel
theorem dX7_lastUp_23 : decode cX7_lastUp 23 = .ok (.iload_n 1, 1) := by decide +kernel
theorem dX7_lastUp_24 : decode cX7_lastUp 24 = .ok (.idiv, 1) := by decide +kernel
theorem dX7_lastUp_25 : decode cX7_lastUp 25 = .ok (.ireturn, 1) := by decide +kernel
theorem dX8_init_0 : decode cX8_init 0 = .ok (.aload_n 0, 1) := by decide +kernel
theorem dX8_init_1 : decode cX8_init 1 = .ok (.invokespecial 3, 3) := by decide +kernel
theorem dX8_init_4 : decode cX8_init 4 = .ok (.aload_n 0, 1) := by decide +kernel
theorem dX8_init_5 : decode cX8_init 5 = .ok (.bipush 100, 2) := by decide +kernel
theorem dX8_init_7 : decode cX8_init 7 = .ok (.newarray .byte, 2) := by decide +kernel
theorem dX8_init_9 : decode cX8_init 9 = .ok (.putfield 9, 3) := by decide +kernel
theorem dX8_init_12 : decode cX8_init 12 = .ok (.aload_n 0, 1) := by decide +kernel
theorem dX8_init_13 : decode cX8_init 13 = .ok (.iconst 0, 1) := by decide +kernel
theorem dX8_init_14 : decode cX8_init 14 = .ok (.putfield 15, 3) := by decide +kernel
theorem dX8_init_17 : decode cX8_init 17 = .ok (.aload_n 0, 1) := by decide +kernel
theorem dX8_init_18 : decode cX8_init 18 = .ok (.iconst 0, 1) := by decide +kernel
theorem dX8_init_19 : decode cX8_init 19 = .ok (.putfield 19, 3) := by decide +kernel
theorem dX8_init_22 : decode cX8_init 22 = .ok (.aload_n 0, 1) := by decide +kernel
theorem dX8_init_23 : decode cX8_init 23 = .ok (.iconst 0, 1) := by decide +kernel
theorem dX8_init_24 : decode cX8_init 24 = .ok (.putfield 22, 3) := by decide +kernel
theorem dX8_init_27 : decode cX8_init 27 = .ok (.return_, 1) := by decide +kernel
theorem dX8_take_0 : decode cX8_take 0 = .ok (.aload_n 0, 1) := by decide +kernel
theorem dX8_take_1 : decode cX8_take 1 = .ok (.getfield 15, 3) := by decide +kernel
theorem dX8_take_4 : decode cX8_take 4 = .ok (.ifCond .lt 32, 3) := by decide +kernel
theorem dX8_take_7 : decode cX8_take 7 = .ok (.aload_n 0, 1) := by decide +kernel
theorem dX8_take_8 : decode cX8_take 8 = .ok (.getfield 15, 3) := by decide +kernel
theorem dX8_take_11 : decode cX8_take 11 = .ok (.bipush 100, 2) := by decide +kernel
theorem dX8_take_13 : decode cX8_take 13 = .ok (.if_icmp .ge 23, 3) := by decide +kernel
theorem dX8_take_16 : decode cX8_take 16 = .ok (.aload_n 0, 1) := by decide +kernel
theorem dX8_take_17 : decode cX8_take 17 = .ok (.getfield 9, 3) := by decide +kernel
theorem dX8_take_20 : decode cX8_take 20 = .ok (.aload_n 0, 1) := by decide +kernel
theorem dX8_take_21 : decode cX8_take 21 = .ok (.getfield 15, 3) := by decide +kernel
theorem dX8_take_24 : decode cX8_take 24 = .ok (.iload_n 1, 1) := by decide +kernel
theorem dX8_take_25 : decode cX8_take 25 = .ok (.bastore, 1) := by decide +kernel
theorem dX8_take_26 : decode cX8_take 26 = .ok (.aload_n 0, 1) := by decide +kernel
theorem dX8_take_27 : decode cX8_take 27 = .ok (.dup, 1) := by decide +kernel
theorem dX8_take_28 : decode cX8_take 28 = .ok (.getfield 15, 3) := by decide +kernel
theorem dX8_take_31 : decode cX8_take 31 = .ok (.iconst 1, 1) := by decide +kernel
theorem dX8_take_32 : decode cX8_take 32 = .ok (.iadd, 1) := by decide +kernel
theorem dX8_take_33 : decode cX8_take 33 = .ok (.putfield 15, 3) := by decide +kernel
theorem dX8_take_36 : decode cX8_take 36 = .ok (.return_, 1) := by decide +kernel
theorem dX8_clear_0 : decode cX8_clear 0 = .ok (.aload_n 0, 1) := by decide +kernel
theorem dX8_clear_1 : decode cX8_clear 1 = .ok (.iconst 0, 1) := by decide +kernel
theorem dX8_clear_2 : decode cX8_clear 2 = .ok (.putfield 15, 3) := by decide +kernel
theorem dX8_clear_5 : decode cX8_clear 5 = .ok (.return_, 1) := by decide +kernel
theorem dX8_rewind_0 : decode cX8_rewind 0 = .ok (.aload_n 0, 1) := by decide +kernel
theorem dX8_rewind_1 : decode cX8_rewind 1 = .ok (.iconst 0, 1) := by decide +kernel
theorem dX8_rewind_2 : decode cX8_rewind 2 = .ok (.putfield 19, 3) := by decide +kernel
theorem dX8_rewind_5 : decode cX8_rewind 5 = .ok (.aload_n 0, 1) := by decide +kernel
theorem dX8_rewind_6 : decode cX8_rewind 6 = .ok (.iconst 0, 1) := by decide +kernel
theorem dX8_rewind_7 : decode cX8_rewind 7 = .ok (.putfield 22, 3) := by decide +kernel
theorem dX8_rewind_10 : decode cX8_rewind 10 = .ok (.return_, 1) := by decide +kernel
theorem dX8_nextSort_0 : decode cX8_nextSort 0 = .ok (.aload_n 0, 1) := by decide +kernel
theorem dX8_nextSort_1 : decode cX8_nextSort 1 = .ok (.aload_n 0, 1) := by decide +kernel
theorem dX8_nextSort_2 : decode cX8_nextSort 2 = .ok (.getfield 22, 3) := by decide +kernel
theorem dX8_nextSort_5 : decode cX8_nextSort 5 = .ok (.putfield 19, 3) := by decide +kernel
theorem dX8_nextSort_8 : decode cX8_nextSort 8 = .ok (.aload_n 0, 1) := by decide +kernel
theorem dX8_nextSort_9 : decode cX8_nextSort 9 = .ok (.getfield 19, 3) := by decide +kernel
theorem dX8_nextSort_12 : decode cX8_nextSort 12 = .ok (.aload_n 0, 1) := by decide +kernel
theorem dX8_nextSort_13 : decode cX8_nextSort 13 = .ok (.getfield 15, 3) := by decide +kernel
theorem dX8_nextSort_16 : decode cX8_nextSort 16 = .ok (.if_icmp .ge 28, 3) := by decide +kernel
theorem dX8_nextSort_19 : decode cX8_nextSort 19 = .ok (.aload_n 0, 1) := by decide +kernel
theorem dX8_nextSort_20 : decode cX8_nextSort 20 = .ok (.aload_n 0, 1) := by decide +kernel
theorem dX8_nextSort_21 : decode cX8_nextSort 21 = .ok (.getfield 19, 3) := by decide +kernel
theorem dX8_nextSort_24 : decode cX8_nextSort 24 = .ok (.invokevirtual 25, 3) := by decide +kernel
theorem dX8_nextSort_27 : decode cX8_nextSort 27 = .ok (.iconst 4, 1) := by decide +kernel
theorem dX8_nextSort_28 : decode cX8_nextSort 28 = .ok (.if_icmp .ne 16, 3) := by decide +kernel
theorem dX8_nextSort_31 : decode cX8_nextSort 31 = .ok (.aload_n 0, 1) := by decide +kernel
theorem dX8_nextSort_32 : decode cX8_nextSort 32 = .ok (.dup, 1) := by decide +kernel
theorem dX8_nextSort_33 : decode cX8_nextSort 33 = .ok (.getfield 19, 3) := by decide +kernel
theorem dX8_nextSort_36 : decode cX8_nextSort 36 = .ok (.iconst 1, 1) := by decide +kernel
theorem dX8_nextSort_37 : decode cX8_nextSort 37 = .ok (.iadd, 1) := by decide +kernel
theorem dX8_nextSort_38 : decode cX8_nextSort 38 = .ok (.putfield 19, 3) := by decide +kernel
theorem dX8_nextSort_41 : decode cX8_nextSort 41 = .ok (.goto (-33), 3) := by decide +kernel
theorem dX8_nextSort_44 : decode cX8_nextSort 44 = .ok (.aload_n 0, 1) := by decide +kernel
theorem dX8_nextSort_45 : decode cX8_nextSort 45 = .ok (.aload_n 0, 1) := by decide +kernel
theorem dX8_nextSort_46 : decode cX8_nextSort 46 = .ok (.getfield 19, 3) := by decide +kernel
theorem dX8_nextSort_49 : decode cX8_nextSort 49 = .ok (.invokevirtual 25, 3) := by decide +kernel
theorem dX8_nextSort_52 : decode cX8_nextSort 52 = .ok (.istore_n 1, 1) := by decide +kernel
theorem dX8_nextSort_53 : decode cX8_nextSort 53 = .ok (.aload_n 0, 1) := by decide +kernel
theorem dX8_nextSort_54 : decode cX8_nextSort 54 = .ok (.iload_n 1, 1) := by decide +kernel
theorem dX8_nextSort_55 : decode cX8_nextSort 55 = .ok (.ifCond .ne 10, 3) := by decide +kernel
theorem dX8_nextSort_58 : decode cX8_nextSort 58 = .ok (.aload_n 0, 1) := by decide +kernel
theorem dX8_nextSort_59 : decode cX8_nextSort 59 = .ok (.getfield 19, 3) := by decide +kernel
theorem dX8_nextSort_62 : decode cX8_nextSort 62 = .ok (.goto 9, 3) := by decide +kernel
theorem dX8_nextSort_65 : decode cX8_nextSort 65 = .ok (.aload_n 0, 1) := by decide +kernel
theorem dX8_nextSort_66 : decode cX8_nextSort 66 = .ok (.getfield 19, 3) := by decide +kernel
theorem dX8_nextSort_69 : decode cX8_nextSort 69 = .ok (.iconst 1, 1) := by decide +kernel
theorem dX8_nextSort_70 : decode cX8_nextSort 70 = .ok (.iadd, 1) := by decide +kernel
theorem dX8_nextSort_71 : decode cX8_nextSort 71 = .ok (.putfield 22, 3) := by decide +kernel
theorem dX8_nextSort_74 : decode cX8_nextSort 74 = .ok (.aload_n 0, 1) := by decide +kernel
theorem dX8_nextSort_75 : decode cX8_nextSort 75 = .ok (.getfield 22, 3) := by decide +kernel
theorem dX8_nextSort_78 : decode cX8_nextSort 78 = .ok (.aload_n 0, 1) := by decide +kernel
theorem dX8_nextSort_79 : decode cX8_nextSort 79 = .ok (.getfield 15, 3) := by decide +kernel
theorem dX8_nextSort_82 : decode cX8_nextSort 82 = .ok (.if_icmp .ge 38, 3) := by decide +kernel
theorem dX8_nextSort_85 : decode cX8_nextSort 85 = .ok (.iload_n 1, 1) := by decide +kernel
theorem dX8_nextSort_86 : decode cX8_nextSort 86 = .ok (.iconst 1, 1) := by decide +kernel
theorem dX8_nextSort_87 : decode cX8_nextSort 87 = .ok (.if_icmp .eq 8, 3) := by decide +kernel
theorem dX8_nextSort_90 : decode cX8_nextSort 90 = .ok (.iload_n 1, 1) := by decide +kernel
theorem dX8_nextSort_91 : decode cX8_nextSort 91 = .ok (.iconst 2, 1) := by decide +kernel
theorem dX8_nextSort_92 : decode cX8_nextSort 92 = .ok (.if_icmp .ne 28, 3) := by decide +kernel
theorem dX8_nextSort_95 : decode cX8_nextSort 95 = .ok (.aload_n 0, 1) := by decide +kernel
theorem dX8_nextSort_96 : decode cX8_nextSort 96 = .ok (.aload_n 0, 1) := by decide +kernel
theorem dX8_nextSort_97 : decode cX8_nextSort 97 = .ok (.getfield 22, 3) := by decide +kernel
theorem dX8_nextSort_100 : decode cX8_nextSort 100 = .ok (.invokevirtual 25, 3) := by decide +kernel
theorem dX8_nextSort_103 : decode cX8_nextSort 103 = .ok (.iload_n 1, 1) := by decide +kernel
theorem dX8_nextSort_104 : decode cX8_nextSort 104 = .ok (.if_icmp .ne 16, 3) := by decide +kernel
theorem dX8_nextSort_107 : decode cX8_nextSort 107 = .ok (.aload_n 0, 1) := by decide +kernel
theorem dX8_nextSort_108 : decode cX8_nextSort 108 = .ok (.dup, 1) := by decide +kernel
theorem dX8_nextSort_109 : decode cX8_nextSort 109 = .ok (.getfield 22, 3) := by decide +kernel
theorem dX8_nextSort_112 : decode cX8_nextSort 112 = .ok (.iconst 1, 1) := by decide +kernel
theorem dX8_nextSort_113 : decode cX8_nextSort 113 = .ok (.iadd, 1) := by decide +kernel
theorem dX8_nextSort_114 : decode cX8_nextSort 114 = .ok (.putfield 22, 3) := by decide +kernel
theorem dX8_nextSort_117 : decode cX8_nextSort 117 = .ok (.goto (-43), 3) := by decide +kernel
theorem dX8_nextSort_120 : decode cX8_nextSort 120 = .ok (.iload_n 1, 1) := by decide +kernel
theorem dX8_nextSort_121 : decode cX8_nextSort 121 = .ok (.ireturn, 1) := by decide +kernel
theorem dX8_sortAt_0 : decode cX8_sortAt 0 = .ok (.iload_n 1, 1) := by decide +kernel
theorem dX8_sortAt_1 : decode cX8_sortAt 1 = .ok (.aload_n 0, 1) := by decide +kernel
theorem dX8_sortAt_2 : decode cX8_sortAt 2 = .ok (.getfield 15, 3) := by decide +kernel
theorem dX8_sortAt_5 : decode cX8_sortAt 5 = .ok (.if_icmp .lt 5, 3) := by decide +kernel
theorem dX8_sortAt_8 : decode cX8_sortAt 8 = .ok (.iconst 0, 1) := by decide +kernel
theorem dX8_sortAt_9 : decode cX8_sortAt 9 = .ok (.ireturn, 1) := by decide +kernel
theorem dX8_sortAt_10 : decode cX8_sortAt 10 = .ok (.aload_n 0, 1) := by decide +kernel
theorem dX8_sortAt_11 : decode cX8_sortAt 11 = .ok (.iload_n 1, 1) := by decide +kernel
theorem dX8_sortAt_12 : decode cX8_sortAt 12 = .ok (.invokevirtual 29, 3) := by decide +kernel
theorem dX8_sortAt_15 : decode cX8_sortAt 15 = .ok (.istore_n 2, 1) := by decide +kernel
theorem dX8_sortAt_16 : decode cX8_sortAt 16 = .ok (.iload_n 2, 1) := by decide +kernel
theorem dX8_sortAt_17 : decode cX8_sortAt 17 = .ok (.bipush 32, 2) := by decide +kernel
theorem dX8_sortAt_19 : decode cX8_sortAt 19 = .ok (.if_icmp .ne 5, 3) := by decide +kernel
theorem dX8_sortAt_22 : decode cX8_sortAt 22 = .ok (.iconst 4, 1) := by decide +kernel
theorem dX8_sortAt_23 : decode cX8_sortAt 23 = .ok (.ireturn, 1) := by decide +kernel
theorem dX8_sortAt_24 : decode cX8_sortAt 24 = .ok (.iload_n 2, 1) := by decide +kernel
theorem dX8_sortAt_25 : decode cX8_sortAt 25 = .ok (.bipush 97, 2) := by decide +kernel
theorem dX8_sortAt_27 : decode cX8_sortAt 27 = .ok (.if_icmp .lt 11, 3) := by decide +kernel
theorem dX8_sortAt_30 : decode cX8_sortAt 30 = .ok (.iload_n 2, 1) := by decide +kernel
theorem dX8_sortAt_31 : decode cX8_sortAt 31 = .ok (.bipush 122, 2) := by decide +kernel
theorem dX8_sortAt_33 : decode cX8_sortAt 33 = .ok (.if_icmp .gt 5, 3) := by decide +kernel
theorem dX8_sortAt_36 : decode cX8_sortAt 36 = .ok (.iconst 1, 1) := by decide +kernel
theorem dX8_sortAt_37 : decode cX8_sortAt 37 = .ok (.ireturn, 1) := by decide +kernel
theorem dX8_sortAt_38 : decode cX8_sortAt 38 = .ok (.iload_n 2, 1) := by decide +kernel
theorem dX8_sortAt_39 : decode cX8_sortAt 39 = .ok (.bipush 48, 2) := by decide +kernel
theorem dX8_sortAt_41 : decode cX8_sortAt 41 = .ok (.if_icmp .lt 13, 3) := by decide +kernel
theorem dX8_sortAt_44 : decode cX8_sortAt 44 = .ok (.iload_n 2, 1) := by decide +kernel
theorem dX8_sortAt_45 : decode cX8_sortAt 45 = .ok (.bipush 57, 2) := by decide +kernel
theorem dX8_sortAt_47 : decode cX8_sortAt 47 = .ok (.if_icmp .gt 7, 3) := by decide +kernel
theorem dX8_sortAt_50 : decode cX8_sortAt 50 = .ok (.iconst 2, 1) := by decide +kernel
theorem dX8_sortAt_51 : decode cX8_sortAt 51 = .ok (.goto 4, 3) := by decide +kernel
theorem dX8_sortAt_54 : decode cX8_sortAt 54 = .ok (.iconst 3, 1) := by decide +kernel
theorem dX8_sortAt_55 : decode cX8_sortAt 55 = .ok (.ireturn, 1) := by decide +kernel
theorem dX8_byteAt_0 : decode cX8_byteAt 0 = .ok (.iload_n 1, 1) := by decide +kernel
theorem dX8_byteAt_1 : decode cX8_byteAt 1 = .ok (.ifCond .lt 26, 3) := by decide +kernel
theorem dX8_byteAt_4 : decode cX8_byteAt 4 = .ok (.iload_n 1, 1) := by decide +kernel
theorem dX8_byteAt_5 : decode cX8_byteAt 5 = .ok (.aload_n 0, 1) := by decide +kernel
theorem dX8_byteAt_6 : decode cX8_byteAt 6 = .ok (.getfield 15, 3) := by decide +kernel
theorem dX8_byteAt_9 : decode cX8_byteAt 9 = .ok (.if_icmp .ge 18, 3) := by decide +kernel
theorem dX8_byteAt_12 : decode cX8_byteAt 12 = .ok (.iload_n 1, 1) := by decide +kernel
theorem dX8_byteAt_13 : decode cX8_byteAt 13 = .ok (.bipush 100, 2) := by decide +kernel
theorem dX8_byteAt_15 : decode cX8_byteAt 15 = .ok (.if_icmp .ge 12, 3) := by decide +kernel
theorem dX8_byteAt_18 : decode cX8_byteAt 18 = .ok (.aload_n 0, 1) := by decide +kernel
theorem dX8_byteAt_19 : decode cX8_byteAt 19 = .ok (.getfield 9, 3) := by decide +kernel
theorem dX8_byteAt_22 : decode cX8_byteAt 22 = .ok (.iload_n 1, 1) := by decide +kernel
theorem dX8_byteAt_23 : decode cX8_byteAt 23 = .ok (.baload, 1) := by decide +kernel
theorem dX8_byteAt_24 : decode cX8_byteAt 24 = .ok (.goto 4, 3) := by decide +kernel
theorem dX8_byteAt_27 : decode cX8_byteAt 27 = .ok (.iconst (-1), 1) := by decide +kernel
theorem dX8_byteAt_28 : decode cX8_byteAt 28 = .ok (.ireturn, 1) := by decide +kernel
theorem dX8_spells_0 : decode cX8_spells 0 = .ok (.aload_n 1, 1) := by decide +kernel
theorem dX8_spells_1 : decode cX8_spells 1 = .ok (.ifnull 19, 3) := by decide +kernel
theorem dX8_spells_4 : decode cX8_spells 4 = .ok (.aload_n 0, 1) := by decide +kernel
theorem dX8_spells_5 : decode cX8_spells 5 = .ok (.getfield 22, 3) := by decide +kernel
theorem dX8_spells_8 : decode cX8_spells 8 = .ok (.aload_n 0, 1) := by decide +kernel
theorem dX8_spells_9 : decode cX8_spells 9 = .ok (.getfield 19, 3) := by decide +kernel
theorem dX8_spells_12 : decode cX8_spells 12 = .ok (.isub, 1) := by decide +kernel
theorem dX8_spells_13 : decode cX8_spells 13 = .ok (.aload_n 1, 1) := by decide +kernel
theorem dX8_spells_14 : decode cX8_spells 14 = .ok (.invokevirtual 32, 3) := by decide +kernel
theorem dX8_spells_17 : decode cX8_spells 17 = .ok (.if_icmp .eq 5, 3) := by decide +kernel
theorem dX8_spells_20 : decode cX8_spells 20 = .ok (.iconst 0, 1) := by decide +kernel
theorem dX8_spells_21 : decode cX8_spells 21 = .ok (.ireturn, 1) := by decide +kernel
theorem dX8_spells_22 : decode cX8_spells 22 = .ok (.iconst 0, 1) := by decide +kernel
theorem dX8_spells_23 : decode cX8_spells 23 = .ok (.istore_n 2, 1) := by decide +kernel
theorem dX8_spells_24 : decode cX8_spells 24 = .ok (.iload_n 2, 1) := by decide +kernel
theorem dX8_spells_25 : decode cX8_spells 25 = .ok (.aload_n 1, 1) := by decide +kernel
theorem dX8_spells_26 : decode cX8_spells 26 = .ok (.invokevirtual 32, 3) := by decide +kernel
theorem dX8_spells_29 : decode cX8_spells 29 = .ok (.if_icmp .ge 29, 3) := by decide +kernel
theorem dX8_spells_32 : decode cX8_spells 32 = .ok (.aload_n 0, 1) := by decide +kernel
theorem dX8_spells_33 : decode cX8_spells 33 = .ok (.aload_n 0, 1) := by decide +kernel
theorem dX8_spells_34 : decode cX8_spells 34 = .ok (.getfield 19, 3) := by decide +kernel
theorem dX8_spells_37 : decode cX8_spells 37 = .ok (.iload_n 2, 1) := by decide +kernel
theorem dX8_spells_38 : decode cX8_spells 38 = .ok (.iadd, 1) := by decide +kernel
theorem dX8_spells_39 : decode cX8_spells 39 = .ok (.invokevirtual 29, 3) := by decide +kernel
theorem dX8_spells_42 : decode cX8_spells 42 = .ok (.aload_n 1, 1) := by decide +kernel
theorem dX8_spells_43 : decode cX8_spells 43 = .ok (.iload_n 2, 1) := by decide +kernel
theorem dX8_spells_44 : decode cX8_spells 44 = .ok (.invokevirtual 38, 3) := by decide +kernel
theorem dX8_spells_47 : decode cX8_spells 47 = .ok (.if_icmp .eq 5, 3) := by decide +kernel
theorem dX8_spells_50 : decode cX8_spells 50 = .ok (.iconst 0, 1) := by decide +kernel
theorem dX8_spells_51 : decode cX8_spells 51 = .ok (.ireturn, 1) := by decide +kernel
theorem dX8_spells_52 : decode cX8_spells 52 = .ok (.iinc 2 1, 3) := by decide +kernel
theorem dX8_spells_55 : decode cX8_spells 55 = .ok (.goto (-31), 3) := by decide +kernel
theorem dX8_spells_58 : decode cX8_spells 58 = .ok (.iconst 1, 1) := by decide +kernel
theorem dX8_spells_59 : decode cX8_spells 59 = .ok (.ireturn, 1) := by decide +kernel
theorem dX8_number_0 : decode cX8_number 0 = .ok (.aload_n 0, 1) := by decide +kernel
theorem dX8_number_1 : decode cX8_number 1 = .ok (.getfield 22, 3) := by decide +kernel
theorem dX8_number_4 : decode cX8_number 4 = .ok (.aload_n 0, 1) := by decide +kernel
theorem dX8_number_5 : decode cX8_number 5 = .ok (.getfield 19, 3) := by decide +kernel
theorem dX8_number_8 : decode cX8_number 8 = .ok (.isub, 1) := by decide +kernel
theorem dX8_number_9 : decode cX8_number 9 = .ok (.iconst 2, 1) := by decide +kernel
theorem dX8_number_10 : decode cX8_number 10 = .ok (.if_icmp .le 5, 3) := by decide +kernel
theorem dX8_number_13 : decode cX8_number 13 = .ok (.iconst (-1), 1) := by decide +kernel
theorem dX8_number_14 : decode cX8_number 14 = .ok (.ireturn, 1) := by decide +kernel
theorem dX8_number_15 : decode cX8_number 15 = .ok (.iconst 0, 1) := by decide +kernel
theorem dX8_number_16 : decode cX8_number 16 = .ok (.istore_n 1, 1) := by decide +kernel
theorem dX8_number_17 : decode cX8_number 17 = .ok (.aload_n 0, 1) := by decide +kernel
theorem dX8_number_18 : decode cX8_number 18 = .ok (.getfield 19, 3) := by decide +kernel
theorem dX8_number_21 : decode cX8_number 21 = .ok (.istore_n 2, 1) := by decide +kernel
theorem dX8_number_22 : decode cX8_number 22 = .ok (.iload_n 2, 1) := by decide +kernel
theorem dX8_number_23 : decode cX8_number 23 = .ok (.aload_n 0, 1) := by decide +kernel
theorem dX8_number_24 : decode cX8_number 24 = .ok (.getfield 22, 3) := by decide +kernel
theorem dX8_number_27 : decode cX8_number 27 = .ok (.if_icmp .ge 23, 3) := by decide +kernel
theorem dX8_number_30 : decode cX8_number 30 = .ok (.bipush 10, 2) := by decide +kernel
theorem dX8_number_32 : decode cX8_number 32 = .ok (.iload_n 1, 1) := by decide +kernel
theorem dX8_number_33 : decode cX8_number 33 = .ok (.imul, 1) := by decide +kernel
theorem dX8_number_34 : decode cX8_number 34 = .ok (.aload_n 0, 1) := by decide +kernel
theorem dX8_number_35 : decode cX8_number 35 = .ok (.iload_n 2, 1) := by decide +kernel
theorem dX8_number_36 : decode cX8_number 36 = .ok (.invokevirtual 29, 3) := by decide +kernel
theorem dX8_number_39 : decode cX8_number 39 = .ok (.iadd, 1) := by decide +kernel
theorem dX8_number_40 : decode cX8_number 40 = .ok (.bipush 48, 2) := by decide +kernel
theorem dX8_number_42 : decode cX8_number 42 = .ok (.isub, 1) := by decide +kernel
theorem dX8_number_43 : decode cX8_number 43 = .ok (.istore_n 1, 1) := by decide +kernel
theorem dX8_number_44 : decode cX8_number 44 = .ok (.iinc 2 1, 3) := by decide +kernel
theorem dX8_number_47 : decode cX8_number 47 = .ok (.goto (-25), 3) := by decide +kernel
theorem dX8_number_50 : decode cX8_number 50 = .ok (.iload_n 1, 1) := by decide +kernel
theorem dX8_number_51 : decode cX8_number 51 = .ok (.ireturn, 1) := by decide +kernel
theorem dX9_init_0 : decode cX9_init 0 = .ok (.aload_n 0, 1) := by decide +kernel
theorem dX9_init_1 : decode cX9_init 1 = .ok (.invokespecial 3, 3) := by decide +kernel
theorem dX9_init_4 : decode cX9_init 4 = .ok (.aload_n 0, 1) := by decide +kernel
theorem dX9_init_5 : decode cX9_init 5 = .ok (.sipush 26047, 3) := by decide +kernel
theorem dX9_init_8 : decode cX9_init 8 = .ok (.newarray .long, 2) := by decide +kernel
theorem dX9_init_10 : decode cX9_init 10 = .ok (.putfield 11, 3) := by decide +kernel
theorem dX9_init_13 : decode cX9_init 13 = .ok (.aload_n 0, 1) := by decide +kernel
theorem dX9_init_14 : decode cX9_init 14 = .ok (.iconst (-1), 1) := by decide +kernel
theorem dX9_init_15 : decode cX9_init 15 = .ok (.putfield 15, 3) := by decide +kernel
theorem dX9_init_18 : decode cX9_init 18 = .ok (.aload_n 0, 1) := by decide +kernel
theorem dX9_init_19 : decode cX9_init 19 = .ok (.iconst (-1), 1) := by decide +kernel
theorem dX9_init_20 : decode cX9_init 20 = .ok (.putfield 19, 3) := by decide +kernel
theorem dX9_init_23 : decode cX9_init 23 = .ok (.return_, 1) := by decide +kernel
theorem dX9_forget_0 : decode cX9_forget 0 = .ok (.aload_n 0, 1) := by decide +kernel
theorem dX9_forget_1 : decode cX9_forget 1 = .ok (.iconst (-1), 1) := by decide +kernel
theorem dX9_forget_2 : decode cX9_forget 2 = .ok (.putfield 15, 3) := by decide +kernel
theorem dX9_forget_5 : decode cX9_forget 5 = .ok (.aload_n 0, 1) := by decide +kernel
theorem dX9_forget_6 : decode cX9_forget 6 = .ok (.iconst (-1), 1) := by decide +kernel
theorem dX9_forget_7 : decode cX9_forget 7 = .ok (.putfield 19, 3) := by decide +kernel
theorem dX9_forget_10 : decode cX9_forget 10 = .ok (.return_, 1) := by decide +kernel
theorem dX9_reach_0 : decode cX9_reach 0 = .ok (.iload_n 1, 1) := by decide +kernel
theorem dX9_reach_1 : decode cX9_reach 1 = .ok (.aload_n 0, 1) := by decide +kernel
theorem dX9_reach_2 : decode cX9_reach 2 = .ok (.getfield 15, 3) := by decide +kernel
theorem dX9_reach_5 : decode cX9_reach 5 = .ok (.if_icmp .gt 12, 3) := by decide +kernel
theorem dX9_reach_8 : decode cX9_reach 8 = .ok (.iload_n 2, 1) := by decide +kernel
theorem dX9_reach_9 : decode cX9_reach 9 = .ok (.aload_n 0, 1) := by decide +kernel
theorem dX9_reach_10 : decode cX9_reach 10 = .ok (.getfield 19, 3) := by decide +kernel
theorem dX9_reach_13 : decode cX9_reach 13 = .ok (.if_icmp .gt 4, 3) := by decide +kernel
theorem dX9_reach_16 : decode cX9_reach 16 = .ok (.return_, 1) := by decide +kernel
theorem dX9_reach_17 : decode cX9_reach 17 = .ok (.aload_n 0, 1) := by decide +kernel
theorem dX9_reach_18 : decode cX9_reach 18 = .ok (.iload_n 1, 1) := by decide +kernel
theorem dX9_reach_19 : decode cX9_reach 19 = .ok (.aload_n 0, 1) := by decide +kernel
theorem dX9_reach_20 : decode cX9_reach 20 = .ok (.getfield 15, 3) := by decide +kernel
theorem dX9_reach_23 : decode cX9_reach 23 = .ok (.invokestatic 22, 3) := by decide +kernel
theorem dX9_reach_26 : decode cX9_reach 26 = .ok (.bipush 60, 2) := by decide +kernel
theorem dX9_reach_28 : decode cX9_reach 28 = .ok (.invokestatic 28, 3) := by decide +kernel
theorem dX9_reach_31 : decode cX9_reach 31 = .ok (.putfield 15, 3) := by decide +kernel
theorem dX9_reach_34 : decode cX9_reach 34 = .ok (.aload_n 0, 1) := by decide +kernel
theorem dX9_reach_35 : decode cX9_reach 35 = .ok (.iload_n 2, 1) := by decide +kernel
theorem dX9_reach_36 : decode cX9_reach 36 = .ok (.aload_n 0, 1) := by decide +kernel
theorem dX9_reach_37 : decode cX9_reach 37 = .ok (.getfield 19, 3) := by decide +kernel
theorem dX9_reach_40 : decode cX9_reach 40 = .ok (.invokestatic 22, 3) := by decide +kernel
theorem dX9_reach_43 : decode cX9_reach 43 = .ok (.bipush 60, 2) := by decide +kernel
theorem dX9_reach_45 : decode cX9_reach 45 = .ok (.invokestatic 28, 3) := by decide +kernel
theorem dX9_reach_48 : decode cX9_reach 48 = .ok (.putfield 19, 3) := by decide +kernel
theorem dX9_reach_51 : decode cX9_reach 51 = .ok (.aload_n 3, 1) := by decide +kernel
theorem dX9_reach_52 : decode cX9_reach 52 = .ok (.getfield 31, 3) := by decide +kernel
theorem dX9_reach_55 : decode cX9_reach 55 = .ok (.istore 4, 2) := by decide +kernel
theorem dX9_reach_57 : decode cX9_reach 57 = .ok (.iload 4, 2) := by decide +kernel
theorem dX9_reach_59 : decode cX9_reach 59 = .ok (.ifCond .lt 66, 3) := by decide +kernel
theorem dX9_reach_62 : decode cX9_reach 62 = .ok (.iconst 0, 1) := by decide +kernel
theorem dX9_reach_63 : decode cX9_reach 63 = .ok (.istore 5, 2) := by decide +kernel
theorem dX9_reach_65 : decode cX9_reach 65 = .ok (.iload 5, 2) := by decide +kernel
theorem dX9_reach_67 : decode cX9_reach 67 = .ok (.aload_n 0, 1) := by decide +kernel
theorem dX9_reach_68 : decode cX9_reach 68 = .ok (.getfield 15, 3) := by decide +kernel
theorem dX9_reach_71 : decode cX9_reach 71 = .ok (.if_icmp .gt 48, 3) := by decide +kernel
theorem dX9_reach_74 : decode cX9_reach 74 = .ok (.iconst 0, 1) := by decide +kernel
theorem dX9_reach_75 : decode cX9_reach 75 = .ok (.istore 6, 2) := by decide +kernel
theorem dX9_reach_77 : decode cX9_reach 77 = .ok (.iload 6, 2) := by decide +kernel
theorem dX9_reach_79 : decode cX9_reach 79 = .ok (.aload_n 0, 1) := by decide +kernel
theorem dX9_reach_80 : decode cX9_reach 80 = .ok (.getfield 19, 3) := by decide +kernel
theorem dX9_reach_83 : decode cX9_reach 83 = .ok (.if_icmp .gt 30, 3) := by decide +kernel
theorem dX9_reach_86 : decode cX9_reach 86 = .ok (.aload_n 0, 1) := by decide +kernel
theorem dX9_reach_87 : decode cX9_reach 87 = .ok (.iload 4, 2) := by decide +kernel
theorem dX9_reach_89 : decode cX9_reach 89 = .ok (.iload 5, 2) := by decide +kernel
theorem dX9_reach_91 : decode cX9_reach 91 = .ok (.iload 6, 2) := by decide +kernel
theorem dX9_reach_93 : decode cX9_reach 93 = .ok (.aload_n 0, 1) := by decide +kernel
theorem dX9_reach_94 : decode cX9_reach 94 = .ok (.iload 4, 2) := by decide +kernel
theorem dX9_reach_96 : decode cX9_reach 96 = .ok (.iload 5, 2) := by decide +kernel
theorem dX9_reach_98 : decode cX9_reach 98 = .ok (.iload 6, 2) := by decide +kernel
theorem dX9_reach_100 : decode cX9_reach 100 = .ok (.aload_n 3, 1) := by decide +kernel
theorem dX9_reach_101 : decode cX9_reach 101 = .ok (.invokevirtual 36, 3) := by decide +kernel
theorem dX9_reach_104 : decode cX9_reach 104 = .ok (.invokevirtual 40, 3) := by decide +kernel
theorem dX9_reach_107 : decode cX9_reach 107 = .ok (.iinc 6 1, 3) := by decide +kernel
theorem dX9_reach_110 : decode cX9_reach 110 = .ok (.goto (-33), 3) := by decide +kernel
theorem dX9_reach_113 : decode cX9_reach 113 = .ok (.iinc 5 1, 3) := by decide +kernel
theorem dX9_reach_116 : decode cX9_reach 116 = .ok (.goto (-51), 3) := by decide +kernel
theorem dX9_reach_119 : decode cX9_reach 119 = .ok (.iinc 4 (-1), 3) := by decide +kernel
theorem dX9_reach_122 : decode cX9_reach 122 = .ok (.goto (-65), 3) := by decide +kernel
theorem dX9_reach_125 : decode cX9_reach 125 = .ok (.return_, 1) := by decide +kernel
theorem dX9_counted_0 : decode cX9_counted 0 = .ok (.aload 4, 2) := by decide +kernel
theorem dX9_counted_2 : decode cX9_counted 2 = .ok (.iload_n 1, 1) := by decide +kernel
theorem dX9_counted_3 : decode cX9_counted 3 = .ok (.invokevirtual 44, 3) := by decide +kernel
theorem dX9_counted_6 : decode cX9_counted 6 = .ok (.ifCond .ne 17, 3) := by decide +kernel
theorem dX9_counted_9 : decode cX9_counted 9 = .ok (.iload_n 2, 1) := by decide +kernel
theorem dX9_counted_10 : decode cX9_counted 10 = .ok (.ifCond .ne 11, 3) := by decide +kernel
theorem dX9_counted_13 : decode cX9_counted 13 = .ok (.iload_n 3, 1) := by decide +kernel
theorem dX9_counted_14 : decode cX9_counted 14 = .ok (.ifCond .ne 7, 3) := by decide +kernel
theorem dX9_counted_17 : decode cX9_counted 17 = .ok (.lconst 1, 1) := by decide +kernel
theorem dX9_counted_18 : decode cX9_counted 18 = .ok (.goto 4, 3) := by decide +kernel
theorem dX9_counted_21 : decode cX9_counted 21 = .ok (.lconst 0, 1) := by decide +kernel
theorem dX9_counted_22 : decode cX9_counted 22 = .ok (.lreturn, 1) := by decide +kernel
theorem dX9_counted_23 : decode cX9_counted 23 = .ok (.aload 4, 2) := by decide +kernel
theorem dX9_counted_25 : decode cX9_counted 25 = .ok (.getfield 48, 3) := by decide +kernel
theorem dX9_counted_28 : decode cX9_counted 28 = .ok (.iload_n 1, 1) := by decide +kernel
theorem dX9_counted_29 : decode cX9_counted 29 = .ok (.iaload, 1) := by decide +kernel
theorem dX9_counted_30 : decode cX9_counted 30 = .ok (.istore 5, 2) := by decide +kernel
theorem dX9_counted_32 : decode cX9_counted 32 = .ok (.aload 4, 2) := by decide +kernel
theorem dX9_counted_34 : decode cX9_counted 34 = .ok (.getfield 52, 3) := by decide +kernel
theorem dX9_counted_37 : decode cX9_counted 37 = .ok (.iload_n 1, 1) := by decide +kernel
theorem dX9_counted_38 : decode cX9_counted 38 = .ok (.iaload, 1) := by decide +kernel
theorem dX9_counted_39 : decode cX9_counted 39 = .ok (.istore 6, 2) := by decide +kernel
theorem dX9_counted_41 : decode cX9_counted 41 = .ok (.aload 4, 2) := by decide +kernel
theorem dX9_counted_43 : decode cX9_counted 43 = .ok (.getfield 55, 3) := by decide +kernel
theorem dX9_counted_46 : decode cX9_counted 46 = .ok (.iload_n 1, 1) := by decide +kernel
theorem dX9_counted_47 : decode cX9_counted 47 = .ok (.laload, 1) := by decide +kernel
theorem dX9_counted_48 : decode cX9_counted 48 = .ok (.ldc2_w 58, 3) := by decide +kernel
theorem dX9_counted_51 : decode cX9_counted 51 = .ok (.lcmp, 1) := by decide +kernel
theorem dX9_counted_52 : decode cX9_counted 52 = .ok (.ifCond .ne 27, 3) := by decide +kernel
theorem dX9_counted_55 : decode cX9_counted 55 = .ok (.aload_n 0, 1) := by decide +kernel
theorem dX9_counted_56 : decode cX9_counted 56 = .ok (.iload_n 1, 1) := by decide +kernel
theorem dX9_counted_57 : decode cX9_counted 57 = .ok (.iconst 1, 1) := by decide +kernel
theorem dX9_counted_58 : decode cX9_counted 58 = .ok (.iadd, 1) := by decide +kernel
theorem dX9_counted_59 : decode cX9_counted 59 = .ok (.iload_n 2, 1) := by decide +kernel
theorem dX9_counted_60 : decode cX9_counted 60 = .ok (.iload_n 3, 1) := by decide +kernel
theorem dX9_counted_61 : decode cX9_counted 61 = .ok (.invokevirtual 60, 3) := by decide +kernel
theorem dX9_counted_64 : decode cX9_counted 64 = .ok (.aload_n 0, 1) := by decide +kernel
theorem dX9_counted_65 : decode cX9_counted 65 = .ok (.iload_n 1, 1) := by decide +kernel
theorem dX9_counted_66 : decode cX9_counted 66 = .ok (.iload_n 2, 1) := by decide +kernel
theorem dX9_counted_67 : decode cX9_counted 67 = .ok (.iload 5, 2) := by decide +kernel
theorem dX9_counted_69 : decode cX9_counted 69 = .ok (.isub, 1) := by decide +kernel
theorem dX9_counted_70 : decode cX9_counted 70 = .ok (.iload_n 3, 1) := by decide +kernel
theorem dX9_counted_71 : decode cX9_counted 71 = .ok (.iload 6, 2) := by decide +kernel
theorem dX9_counted_73 : decode cX9_counted 73 = .ok (.isub, 1) := by decide +kernel
theorem dX9_counted_74 : decode cX9_counted 74 = .ok (.invokevirtual 60, 3) := by decide +kernel
theorem dX9_counted_77 : decode cX9_counted 77 = .ok (.ladd, 1) := by decide +kernel
theorem dX9_counted_78 : decode cX9_counted 78 = .ok (.lreturn, 1) := by decide +kernel
theorem dX9_counted_79 : decode cX9_counted 79 = .ok (.lconst 0, 1) := by decide +kernel
theorem dX9_counted_80 : decode cX9_counted 80 = .ok (.lstore 7, 2) := by decide +kernel
theorem dX9_counted_82 : decode cX9_counted 82 = .ok (.iload_n 2, 1) := by decide +kernel
theorem dX9_counted_83 : decode cX9_counted 83 = .ok (.istore 9, 2) := by decide +kernel
theorem dX9_counted_85 : decode cX9_counted 85 = .ok (.iload_n 3, 1) := by decide +kernel
theorem dX9_counted_86 : decode cX9_counted 86 = .ok (.istore 10, 2) := by decide +kernel
theorem dX9_counted_88 : decode cX9_counted 88 = .ok (.iconst 0, 1) := by decide +kernel
theorem dX9_counted_89 : decode cX9_counted 89 = .ok (.istore 11, 2) := by decide +kernel
theorem dX9_counted_91 : decode cX9_counted 91 = .ok (.iload 11, 2) := by decide +kernel
theorem dX9_counted_93 : decode cX9_counted 93 = .ok (.bipush 60, 2) := by decide +kernel
theorem dX9_counted_95 : decode cX9_counted 95 = .ok (.if_icmp .gt 64, 3) := by decide +kernel
theorem dX9_counted_98 : decode cX9_counted 98 = .ok (.iload 9, 2) := by decide +kernel
theorem dX9_counted_100 : decode cX9_counted 100 = .ok (.ifCond .lt 59, 3) := by decide +kernel
theorem dX9_counted_103 : decode cX9_counted 103 = .ok (.iload 10, 2) := by decide +kernel
theorem dX9_counted_105 : decode cX9_counted 105 = .ok (.ifCond .lt 54, 3) := by decide +kernel
theorem dX9_counted_108 : decode cX9_counted 108 = .ok (.lload 7, 2) := by decide +kernel
theorem dX9_counted_110 : decode cX9_counted 110 = .ok (.aload 4, 2) := by decide +kernel
theorem dX9_counted_112 : decode cX9_counted 112 = .ok (.iload_n 1, 1) := by decide +kernel
theorem dX9_counted_113 : decode cX9_counted 113 = .ok (.iload 11, 2) := by decide +kernel
theorem dX9_counted_115 : decode cX9_counted 115 = .ok (.invokevirtual 64, 3) := by decide +kernel
theorem dX9_counted_118 : decode cX9_counted 118 = .ok (.ifCond .eq 17, 3) := by decide +kernel
theorem dX9_counted_121 : decode cX9_counted 121 = .ok (.aload_n 0, 1) := by decide +kernel
theorem dX9_counted_122 : decode cX9_counted 122 = .ok (.iload_n 1, 1) := by decide +kernel
theorem dX9_counted_123 : decode cX9_counted 123 = .ok (.iconst 1, 1) := by decide +kernel
theorem dX9_counted_124 : decode cX9_counted 124 = .ok (.iadd, 1) := by decide +kernel
theorem dX9_counted_125 : decode cX9_counted 125 = .ok (.iload 9, 2) := by decide +kernel
theorem dX9_counted_127 : decode cX9_counted 127 = .ok (.iload 10, 2) := by decide +kernel
theorem dX9_counted_129 : decode cX9_counted 129 = .ok (.invokevirtual 60, 3) := by decide +kernel
theorem dX9_counted_132 : decode cX9_counted 132 = .ok (.goto 4, 3) := by decide +kernel
theorem dX9_counted_135 : decode cX9_counted 135 = .ok (.lconst 0, 1) := by decide +kernel
theorem dX9_counted_136 : decode cX9_counted 136 = .ok (.ladd, 1) := by decide +kernel
theorem dX9_counted_137 : decode cX9_counted 137 = .ok (.lstore 7, 2) := by decide +kernel
theorem dX9_counted_139 : decode cX9_counted 139 = .ok (.iload 9, 2) := by decide +kernel
theorem dX9_counted_141 : decode cX9_counted 141 = .ok (.iload 5, 2) := by decide +kernel
theorem dX9_counted_143 : decode cX9_counted 143 = .ok (.isub, 1) := by decide +kernel
theorem dX9_counted_144 : decode cX9_counted 144 = .ok (.istore 9, 2) := by decide +kernel
theorem dX9_counted_146 : decode cX9_counted 146 = .ok (.iload 10, 2) := by decide +kernel
theorem dX9_counted_148 : decode cX9_counted 148 = .ok (.iload 6, 2) := by decide +kernel
theorem dX9_counted_150 : decode cX9_counted 150 = .ok (.isub, 1) := by decide +kernel
theorem dX9_counted_151 : decode cX9_counted 151 = .ok (.istore 10, 2) := by decide +kernel
theorem dX9_counted_153 : decode cX9_counted 153 = .ok (.iinc 11 1, 3) := by decide +kernel
theorem dX9_counted_156 : decode cX9_counted 156 = .ok (.goto (-65), 3) := by decide +kernel
theorem dX9_counted_159 : decode cX9_counted 159 = .ok (.lload 7, 2) := by decide +kernel
theorem dX9_counted_161 : decode cX9_counted 161 = .ok (.lreturn, 1) := by decide +kernel
theorem dX9_set_0 : decode cX9_set 0 = .ok (.iload_n 1, 1) := by decide +kernel
theorem dX9_set_1 : decode cX9_set 1 = .ok (.ifCond .lt 47, 3) := by decide +kernel
theorem dX9_set_4 : decode cX9_set 4 = .ok (.iload_n 1, 1) := by decide +kernel
theorem dX9_set_5 : decode cX9_set 5 = .ok (.bipush 7, 2) := by decide +kernel
theorem dX9_set_7 : decode cX9_set 7 = .ok (.if_icmp .ge 41, 3) := by decide +kernel
theorem dX9_set_10 : decode cX9_set 10 = .ok (.iload_n 2, 1) := by decide +kernel
theorem dX9_set_11 : decode cX9_set 11 = .ok (.ifCond .lt 37, 3) := by decide +kernel
theorem dX9_set_14 : decode cX9_set 14 = .ok (.iload_n 2, 1) := by decide +kernel
theorem dX9_set_15 : decode cX9_set 15 = .ok (.bipush 61, 2) := by decide +kernel
theorem dX9_set_17 : decode cX9_set 17 = .ok (.if_icmp .ge 31, 3) := by decide +kernel
theorem dX9_set_20 : decode cX9_set 20 = .ok (.iload_n 3, 1) := by decide +kernel
theorem dX9_set_21 : decode cX9_set 21 = .ok (.ifCond .lt 27, 3) := by decide +kernel
theorem dX9_set_24 : decode cX9_set 24 = .ok (.iload_n 3, 1) := by decide +kernel
theorem dX9_set_25 : decode cX9_set 25 = .ok (.bipush 61, 2) := by decide +kernel
theorem dX9_set_27 : decode cX9_set 27 = .ok (.if_icmp .ge 21, 3) := by decide +kernel
theorem dX9_set_30 : decode cX9_set 30 = .ok (.aload_n 0, 1) := by decide +kernel
theorem dX9_set_31 : decode cX9_set 31 = .ok (.getfield 11, 3) := by decide +kernel
theorem dX9_set_34 : decode cX9_set 34 = .ok (.iload_n 1, 1) := by decide +kernel
theorem dX9_set_35 : decode cX9_set 35 = .ok (.bipush 61, 2) := by decide +kernel
theorem dX9_set_37 : decode cX9_set 37 = .ok (.imul, 1) := by decide +kernel
theorem dX9_set_38 : decode cX9_set 38 = .ok (.iload_n 2, 1) := by decide +kernel
theorem dX9_set_39 : decode cX9_set 39 = .ok (.iadd, 1) := by decide +kernel
theorem dX9_set_40 : decode cX9_set 40 = .ok (.bipush 61, 2) := by decide +kernel
theorem dX9_set_42 : decode cX9_set 42 = .ok (.imul, 1) := by decide +kernel
theorem dX9_set_43 : decode cX9_set 43 = .ok (.iload_n 3, 1) := by decide +kernel
theorem dX9_set_44 : decode cX9_set 44 = .ok (.iadd, 1) := by decide +kernel
theorem dX9_set_45 : decode cX9_set 45 = .ok (.lload 4, 2) := by decide +kernel
theorem dX9_set_47 : decode cX9_set 47 = .ok (.lastore, 1) := by decide +kernel
theorem dX9_set_48 : decode cX9_set 48 = .ok (.return_, 1) := by decide +kernel
theorem dX9_at_0 : decode cX9_at 0 = .ok (.iload_n 1, 1) := by decide +kernel
theorem dX9_at_1 : decode cX9_at 1 = .ok (.ifCond .lt 49, 3) := by decide +kernel
theorem dX9_at_4 : decode cX9_at 4 = .ok (.iload_n 1, 1) := by decide +kernel
theorem dX9_at_5 : decode cX9_at 5 = .ok (.bipush 7, 2) := by decide +kernel
theorem dX9_at_7 : decode cX9_at 7 = .ok (.if_icmp .ge 43, 3) := by decide +kernel
theorem dX9_at_10 : decode cX9_at 10 = .ok (.iload_n 2, 1) := by decide +kernel
theorem dX9_at_11 : decode cX9_at 11 = .ok (.ifCond .lt 39, 3) := by decide +kernel
theorem dX9_at_14 : decode cX9_at 14 = .ok (.iload_n 2, 1) := by decide +kernel
theorem dX9_at_15 : decode cX9_at 15 = .ok (.aload_n 0, 1) := by decide +kernel
theorem dX9_at_16 : decode cX9_at 16 = .ok (.getfield 15, 3) := by decide +kernel
theorem dX9_at_19 : decode cX9_at 19 = .ok (.if_icmp .gt 31, 3) := by decide +kernel
theorem dX9_at_22 : decode cX9_at 22 = .ok (.iload_n 2, 1) := by decide +kernel
theorem dX9_at_23 : decode cX9_at 23 = .ok (.bipush 61, 2) := by decide +kernel
theorem dX9_at_25 : decode cX9_at 25 = .ok (.if_icmp .ge 25, 3) := by decide +kernel
theorem dX9_at_28 : decode cX9_at 28 = .ok (.iload_n 3, 1) := by decide +kernel
theorem dX9_at_29 : decode cX9_at 29 = .ok (.ifCond .lt 21, 3) := by decide +kernel
theorem dX9_at_32 : decode cX9_at 32 = .ok (.iload_n 3, 1) := by decide +kernel
theorem dX9_at_33 : decode cX9_at 33 = .ok (.aload_n 0, 1) := by decide +kernel
theorem dX9_at_34 : decode cX9_at 34 = .ok (.getfield 19, 3) := by decide +kernel
theorem dX9_at_37 : decode cX9_at 37 = .ok (.if_icmp .gt 13, 3) := by decide +kernel
theorem dX9_at_40 : decode cX9_at 40 = .ok (.iload_n 3, 1) := by decide +kernel
theorem dX9_at_41 : decode cX9_at 41 = .ok (.bipush 61, 2) := by decide +kernel
theorem dX9_at_43 : decode cX9_at 43 = .ok (.if_icmp .ge 7, 3) := by decide +kernel
theorem dX9_at_46 : decode cX9_at 46 = .ok (.iconst 1, 1) := by decide +kernel
theorem dX9_at_47 : decode cX9_at 47 = .ok (.goto 4, 3) := by decide +kernel
theorem dX9_at_50 : decode cX9_at 50 = .ok (.iconst 0, 1) := by decide +kernel
theorem dX9_at_51 : decode cX9_at 51 = .ok (.istore 4, 2) := by decide +kernel
theorem dX9_at_53 : decode cX9_at 53 = .ok (.iload 4, 2) := by decide +kernel
theorem dX9_at_55 : decode cX9_at 55 = .ok (.ifCond .eq 22, 3) := by decide +kernel
theorem dX9_at_58 : decode cX9_at 58 = .ok (.aload_n 0, 1) := by decide +kernel
theorem dX9_at_59 : decode cX9_at 59 = .ok (.getfield 11, 3) := by decide +kernel
theorem dX9_at_62 : decode cX9_at 62 = .ok (.iload_n 1, 1) := by decide +kernel
theorem dX9_at_63 : decode cX9_at 63 = .ok (.bipush 61, 2) := by decide +kernel
theorem dX9_at_65 : decode cX9_at 65 = .ok (.imul, 1) := by decide +kernel
theorem dX9_at_66 : decode cX9_at 66 = .ok (.iload_n 2, 1) := by decide +kernel
theorem dX9_at_67 : decode cX9_at 67 = .ok (.iadd, 1) := by decide +kernel
theorem dX9_at_68 : decode cX9_at 68 = .ok (.bipush 61, 2) := by decide +kernel
theorem dX9_at_70 : decode cX9_at 70 = .ok (.imul, 1) := by decide +kernel
theorem dX9_at_71 : decode cX9_at 71 = .ok (.iload_n 3, 1) := by decide +kernel
theorem dX9_at_72 : decode cX9_at 72 = .ok (.iadd, 1) := by decide +kernel
theorem dX9_at_73 : decode cX9_at 73 = .ok (.laload, 1) := by decide +kernel
theorem dX9_at_74 : decode cX9_at 74 = .ok (.goto 4, 3) := by decide +kernel
theorem dX9_at_77 : decode cX9_at 77 = .ok (.lconst 0, 1) := by decide +kernel
theorem dX9_at_78 : decode cX9_at 78 = .ok (.lreturn, 1) := by decide +kernel
theorem dX9_taken_0 : decode cX9_taken 0 = .ok (.iload_n 3, 1) := by decide +kernel
theorem dX9_taken_1 : decode cX9_taken 1 = .ok (.i2l, 1) := by decide +kernel
theorem dX9_taken_2 : decode cX9_taken 2 = .ok (.lstore 6, 2) := by decide +kernel
theorem dX9_taken_4 : decode cX9_taken 4 = .ok (.iload_n 1, 1) := by decide +kernel
theorem dX9_taken_5 : decode cX9_taken 5 = .ok (.istore 8, 2) := by decide +kernel
theorem dX9_taken_7 : decode cX9_taken 7 = .ok (.iload_n 2, 1) := by decide +kernel
theorem dX9_taken_8 : decode cX9_taken 8 = .ok (.istore 9, 2) := by decide +kernel
theorem dX9_taken_10 : decode cX9_taken 10 = .ok (.iconst 0, 1) := by decide +kernel
theorem dX9_taken_11 : decode cX9_taken 11 = .ok (.istore 10, 2) := by decide +kernel
theorem dX9_taken_13 : decode cX9_taken 13 = .ok (.iload 10, 2) := by decide +kernel
theorem dX9_taken_15 : decode cX9_taken 15 = .ok (.iload 4, 2) := by decide +kernel
theorem dX9_taken_17 : decode cX9_taken 17 = .ok (.if_icmp .gt 116, 3) := by decide +kernel
theorem dX9_taken_20 : decode cX9_taken 20 = .ok (.aload 5, 2) := by decide +kernel
theorem dX9_taken_22 : decode cX9_taken 22 = .ok (.iload 10, 2) := by decide +kernel
theorem dX9_taken_24 : decode cX9_taken 24 = .ok (.invokevirtual 44, 3) := by decide +kernel
theorem dX9_taken_27 : decode cX9_taken 27 = .ok (.ifCond .eq 106, 3) := by decide +kernel
theorem dX9_taken_30 : decode cX9_taken 30 = .ok (.iconst 0, 1) := by decide +kernel
