theorem dX0_init_0 : decode cX0_init 0 = .ok (.aload_n 0, 1) := by decide +kernel
theorem dX0_init_1 : decode cX0_init 1 = .ok (.invokespecial 3, 3) := by decide +kernel
theorem dX0_init_4 : decode cX0_init 4 = .ok (.aload_n 0, 1) := by decide +kernel
theorem dX0_init_5 : decode cX0_init 5 = .ok (.new 9, 3) := by decide +kernel
theorem dX0_init_8 : decode cX0_init 8 = .ok (.dup, 1) := by decide +kernel
theorem dX0_init_9 : decode cX0_init 9 = .ok (.bipush 16, 2) := by decide +kernel
theorem dX0_init_11 : decode cX0_init 11 = .ok (.invokespecial 11, 3) := by decide +kernel
theorem dX0_init_14 : decode cX0_init 14 = .ok (.putfield 14, 3) := by decide +kernel
theorem dX0_init_17 : decode cX0_init 17 = .ok (.return_, 1) := by decide +kernel
theorem dX0_admitTune_0 : decode cX0_admitTune 0 = .ok (.aload_n 0, 1) := by decide +kernel
theorem dX0_admitTune_1 : decode cX0_admitTune 1 = .ok (.getfield 14, 3) := by decide +kernel
theorem dX0_admitTune_4 : decode cX0_admitTune 4 = .ok (.iconst 0, 1) := by decide +kernel
theorem dX0_admitTune_5 : decode cX0_admitTune 5 = .ok (.invokevirtual 20, 3) := by decide +kernel
theorem dX0_admitTune_8 : decode cX0_admitTune 8 = .ok (.return_, 1) := by decide +kernel
theorem dX0_areLinked_0 : decode cX0_areLinked 0 = .ok (.aload_n 0, 1) := by decide +kernel
theorem dX0_areLinked_1 : decode cX0_areLinked 1 = .ok (.getfield 14, 3) := by decide +kernel
theorem dX0_areLinked_4 : decode cX0_areLinked 4 = .ok (.iload_n 1, 1) := by decide +kernel
theorem dX0_areLinked_5 : decode cX0_areLinked 5 = .ok (.invokevirtual 23, 3) := by decide +kernel
theorem dX0_areLinked_8 : decode cX0_areLinked 8 = .ok (.iload_n 2, 1) := by decide +kernel
theorem dX0_areLinked_9 : decode cX0_areLinked 9 = .ok (.invokestatic 27, 3) := by decide +kernel
theorem dX0_areLinked_12 : decode cX0_areLinked 12 = .ok (.iand, 1) := by decide +kernel
theorem dX0_areLinked_13 : decode cX0_areLinked 13 = .ok (.ifCond .eq 7, 3) := by decide +kernel
theorem dX0_areLinked_16 : decode cX0_areLinked 16 = .ok (.iconst 1, 1) := by decide +kernel
theorem dX0_areLinked_17 : decode cX0_areLinked 17 = .ok (.goto 4, 3) := by decide +kernel
theorem dX0_areLinked_20 : decode cX0_areLinked 20 = .ok (.iconst 0, 1) := by decide +kernel
theorem dX0_areLinked_21 : decode cX0_areLinked 21 = .ok (.ireturn, 1) := by decide +kernel
theorem dX0_toggle_0 : decode cX0_toggle 0 = .ok (.aload_n 0, 1) := by decide +kernel
theorem dX0_toggle_1 : decode cX0_toggle 1 = .ok (.getfield 14, 3) := by decide +kernel
theorem dX0_toggle_4 : decode cX0_toggle 4 = .ok (.iload_n 1, 1) := by decide +kernel
theorem dX0_toggle_5 : decode cX0_toggle 5 = .ok (.aload_n 0, 1) := by decide +kernel
theorem dX0_toggle_6 : decode cX0_toggle 6 = .ok (.getfield 14, 3) := by decide +kernel
theorem dX0_toggle_9 : decode cX0_toggle 9 = .ok (.iload_n 1, 1) := by decide +kernel
theorem dX0_toggle_10 : decode cX0_toggle 10 = .ok (.invokevirtual 23, 3) := by decide +kernel
theorem dX0_toggle_13 : decode cX0_toggle 13 = .ok (.iload_n 2, 1) := by decide +kernel
theorem dX0_toggle_14 : decode cX0_toggle 14 = .ok (.invokestatic 27, 3) := by decide +kernel
theorem dX0_toggle_17 : decode cX0_toggle 17 = .ok (.ixor, 1) := by decide +kernel
theorem dX0_toggle_18 : decode cX0_toggle 18 = .ok (.invokevirtual 30, 3) := by decide +kernel
theorem dX0_toggle_21 : decode cX0_toggle 21 = .ok (.aload_n 0, 1) := by decide +kernel
theorem dX0_toggle_22 : decode cX0_toggle 22 = .ok (.getfield 14, 3) := by decide +kernel
theorem dX0_toggle_25 : decode cX0_toggle 25 = .ok (.iload_n 2, 1) := by decide +kernel
theorem dX0_toggle_26 : decode cX0_toggle 26 = .ok (.aload_n 0, 1) := by decide +kernel
theorem dX0_toggle_27 : decode cX0_toggle 27 = .ok (.getfield 14, 3) := by decide +kernel
theorem dX0_toggle_30 : decode cX0_toggle 30 = .ok (.iload_n 2, 1) := by decide +kernel
theorem dX0_toggle_31 : decode cX0_toggle 31 = .ok (.invokevirtual 23, 3) := by decide +kernel
theorem dX0_toggle_34 : decode cX0_toggle 34 = .ok (.iload_n 1, 1) := by decide +kernel
theorem dX0_toggle_35 : decode cX0_toggle 35 = .ok (.invokestatic 27, 3) := by decide +kernel
theorem dX0_toggle_38 : decode cX0_toggle 38 = .ok (.ixor, 1) := by decide +kernel
theorem dX0_toggle_39 : decode cX0_toggle 39 = .ok (.invokevirtual 30, 3) := by decide +kernel
theorem dX0_toggle_42 : decode cX0_toggle 42 = .ok (.return_, 1) := by decide +kernel
theorem dX0_countFamilies_0 : decode cX0_countFamilies 0 = .ok (.iconst 0, 1) := by decide +kernel
theorem dX0_countFamilies_1 : decode cX0_countFamilies 1 = .ok (.istore_n 1, 1) := by decide +kernel
theorem dX0_countFamilies_2 : decode cX0_countFamilies 2 = .ok (.iconst 0, 1) := by decide +kernel
theorem dX0_countFamilies_3 : decode cX0_countFamilies 3 = .ok (.istore_n 2, 1) := by decide +kernel
theorem dX0_countFamilies_4 : decode cX0_countFamilies 4 = .ok (.iload_n 2, 1) := by decide +kernel
theorem dX0_countFamilies_5 : decode cX0_countFamilies 5 = .ok (.aload_n 0, 1) := by decide +kernel
theorem dX0_countFamilies_6 : decode cX0_countFamilies 6 = .ok (.getfield 14, 3) := by decide +kernel
theorem dX0_countFamilies_9 : decode cX0_countFamilies 9 = .ok (.invokevirtual 34, 3) := by decide +kernel
theorem dX0_countFamilies_12 : decode cX0_countFamilies 12 = .ok (.if_icmp .ge 21, 3) := by decide +kernel
theorem dX0_countFamilies_15 : decode cX0_countFamilies 15 = .ok (.aload_n 0, 1) := by decide +kernel
theorem dX0_countFamilies_16 : decode cX0_countFamilies 16 = .ok (.iload_n 2, 1) := by decide +kernel
theorem dX0_countFamilies_17 : decode cX0_countFamilies 17 = .ok (.invokevirtual 38, 3) := by decide +kernel
theorem dX0_countFamilies_20 : decode cX0_countFamilies 20 = .ok (.iload_n 2, 1) := by decide +kernel
theorem dX0_countFamilies_21 : decode cX0_countFamilies 21 = .ok (.if_icmp .ne 6, 3) := by decide +kernel
theorem dX0_countFamilies_24 : decode cX0_countFamilies 24 = .ok (.iinc 1 1, 3) := by decide +kernel
theorem dX0_countFamilies_27 : decode cX0_countFamilies 27 = .ok (.iinc 2 1, 3) := by decide +kernel
theorem dX0_countFamilies_30 : decode cX0_countFamilies 30 = .ok (.goto (-26), 3) := by decide +kernel
theorem dX0_countFamilies_33 : decode cX0_countFamilies 33 = .ok (.iload_n 1, 1) := by decide +kernel
theorem dX0_countFamilies_34 : decode cX0_countFamilies 34 = .ok (.ireturn, 1) := by decide +kernel
theorem dX0_lowestOfFamily_0 : decode cX0_lowestOfFamily 0 = .ok (.iload_n 1, 1) := by decide +kernel
theorem dX0_lowestOfFamily_1 : decode cX0_lowestOfFamily 1 = .ok (.invokestatic 27, 3) := by decide +kernel
theorem dX0_lowestOfFamily_4 : decode cX0_lowestOfFamily 4 = .ok (.istore_n 2, 1) := by decide +kernel
theorem dX0_lowestOfFamily_5 : decode cX0_lowestOfFamily 5 = .ok (.iconst 1, 1) := by decide +kernel
theorem dX0_lowestOfFamily_6 : decode cX0_lowestOfFamily 6 = .ok (.istore_n 3, 1) := by decide +kernel
theorem dX0_lowestOfFamily_7 : decode cX0_lowestOfFamily 7 = .ok (.iload_n 3, 1) := by decide +kernel
theorem dX0_lowestOfFamily_8 : decode cX0_lowestOfFamily 8 = .ok (.aload_n 0, 1) := by decide +kernel
theorem dX0_lowestOfFamily_9 : decode cX0_lowestOfFamily 9 = .ok (.getfield 14, 3) := by decide +kernel
theorem dX0_lowestOfFamily_12 : decode cX0_lowestOfFamily 12 = .ok (.invokevirtual 34, 3) := by decide +kernel
theorem dX0_lowestOfFamily_15 : decode cX0_lowestOfFamily 15 = .ok (.if_icmp .ge 15, 3) := by decide +kernel
theorem dX0_lowestOfFamily_18 : decode cX0_lowestOfFamily 18 = .ok (.aload_n 0, 1) := by decide +kernel
theorem dX0_lowestOfFamily_19 : decode cX0_lowestOfFamily 19 = .ok (.iload_n 2, 1) := by decide +kernel
theorem dX0_lowestOfFamily_20 : decode cX0_lowestOfFamily 20 = .ok (.invokevirtual 41, 3) := by decide +kernel
theorem dX0_lowestOfFamily_23 : decode cX0_lowestOfFamily 23 = .ok (.istore_n 2, 1) := by decide +kernel
theorem dX0_lowestOfFamily_24 : decode cX0_lowestOfFamily 24 = .ok (.iinc 3 1, 3) := by decide +kernel
theorem dX0_lowestOfFamily_27 : decode cX0_lowestOfFamily 27 = .ok (.goto (-20), 3) := by decide +kernel
theorem dX0_lowestOfFamily_30 : decode cX0_lowestOfFamily 30 = .ok (.iconst 0, 1) := by decide +kernel
theorem dX0_lowestOfFamily_31 : decode cX0_lowestOfFamily 31 = .ok (.istore_n 3, 1) := by decide +kernel
theorem dX0_lowestOfFamily_32 : decode cX0_lowestOfFamily 32 = .ok (.iload_n 3, 1) := by decide +kernel
theorem dX0_lowestOfFamily_33 : decode cX0_lowestOfFamily 33 = .ok (.iload_n 1, 1) := by decide +kernel
theorem dX0_lowestOfFamily_34 : decode cX0_lowestOfFamily 34 = .ok (.if_icmp .ge 18, 3) := by decide +kernel
theorem dX0_lowestOfFamily_37 : decode cX0_lowestOfFamily 37 = .ok (.iload_n 2, 1) := by decide +kernel
theorem dX0_lowestOfFamily_38 : decode cX0_lowestOfFamily 38 = .ok (.iload_n 3, 1) := by decide +kernel
theorem dX0_lowestOfFamily_39 : decode cX0_lowestOfFamily 39 = .ok (.invokestatic 27, 3) := by decide +kernel
theorem dX0_lowestOfFamily_42 : decode cX0_lowestOfFamily 42 = .ok (.iand, 1) := by decide +kernel
theorem dX0_lowestOfFamily_43 : decode cX0_lowestOfFamily 43 = .ok (.ifCond .ne 9, 3) := by decide +kernel
theorem dX0_lowestOfFamily_46 : decode cX0_lowestOfFamily 46 = .ok (.iinc 3 1, 3) := by decide +kernel
theorem dX0_lowestOfFamily_49 : decode cX0_lowestOfFamily 49 = .ok (.goto (-17), 3) := by decide +kernel
theorem dX0_lowestOfFamily_52 : decode cX0_lowestOfFamily 52 = .ok (.iload_n 3, 1) := by decide +kernel
theorem dX0_lowestOfFamily_53 : decode cX0_lowestOfFamily 53 = .ok (.ireturn, 1) := by decide +kernel
theorem dX0_withPartners_0 : decode cX0_withPartners 0 = .ok (.iload_n 1, 1) := by decide +kernel
theorem dX0_withPartners_1 : decode cX0_withPartners 1 = .ok (.istore_n 2, 1) := by decide +kernel
theorem dX0_withPartners_2 : decode cX0_withPartners 2 = .ok (.iconst 0, 1) := by decide +kernel
theorem dX0_withPartners_3 : decode cX0_withPartners 3 = .ok (.istore_n 3, 1) := by decide +kernel
theorem dX0_withPartners_4 : decode cX0_withPartners 4 = .ok (.iload_n 3, 1) := by decide +kernel
theorem dX0_withPartners_5 : decode cX0_withPartners 5 = .ok (.aload_n 0, 1) := by decide +kernel
theorem dX0_withPartners_6 : decode cX0_withPartners 6 = .ok (.getfield 14, 3) := by decide +kernel
theorem dX0_withPartners_9 : decode cX0_withPartners 9 = .ok (.invokevirtual 34, 3) := by decide +kernel
theorem dX0_withPartners_12 : decode cX0_withPartners 12 = .ok (.if_icmp .ge 29, 3) := by decide +kernel
theorem dX0_withPartners_15 : decode cX0_withPartners 15 = .ok (.iload_n 1, 1) := by decide +kernel
theorem dX0_withPartners_16 : decode cX0_withPartners 16 = .ok (.iload_n 3, 1) := by decide +kernel
theorem dX0_withPartners_17 : decode cX0_withPartners 17 = .ok (.invokestatic 27, 3) := by decide +kernel
theorem dX0_withPartners_20 : decode cX0_withPartners 20 = .ok (.iand, 1) := by decide +kernel
theorem dX0_withPartners_21 : decode cX0_withPartners 21 = .ok (.ifCond .eq 14, 3) := by decide +kernel
theorem dX0_withPartners_24 : decode cX0_withPartners 24 = .ok (.iload_n 2, 1) := by decide +kernel
theorem dX0_withPartners_25 : decode cX0_withPartners 25 = .ok (.aload_n 0, 1) := by decide +kernel
theorem dX0_withPartners_26 : decode cX0_withPartners 26 = .ok (.getfield 14, 3) := by decide +kernel
theorem dX0_withPartners_29 : decode cX0_withPartners 29 = .ok (.iload_n 3, 1) := by decide +kernel
theorem dX0_withPartners_30 : decode cX0_withPartners 30 = .ok (.invokevirtual 23, 3) := by decide +kernel
theorem dX0_withPartners_33 : decode cX0_withPartners 33 = .ok (.ior, 1) := by decide +kernel
theorem dX0_withPartners_34 : decode cX0_withPartners 34 = .ok (.istore_n 2, 1) := by decide +kernel
theorem dX0_withPartners_35 : decode cX0_withPartners 35 = .ok (.iinc 3 1, 3) := by decide +kernel
theorem dX0_withPartners_38 : decode cX0_withPartners 38 = .ok (.goto (-34), 3) := by decide +kernel
theorem dX0_withPartners_41 : decode cX0_withPartners 41 = .ok (.iload_n 2, 1) := by decide +kernel
theorem dX0_withPartners_42 : decode cX0_withPartners 42 = .ok (.ireturn, 1) := by decide +kernel
theorem dX0_setOf_0 : decode cX0_setOf 0 = .ok (.iconst 1, 1) := by decide +kernel
theorem dX0_setOf_1 : decode cX0_setOf 1 = .ok (.iload_n 0, 1) := by decide +kernel
theorem dX0_setOf_2 : decode cX0_setOf 2 = .ok (.ishl, 1) := by decide +kernel
theorem dX0_setOf_3 : decode cX0_setOf 3 = .ok (.ireturn, 1) := by decide +kernel
theorem dX1_init_0 : decode cX1_init 0 = .ok (.aload_n 0, 1) := by decide +kernel
theorem dX1_init_1 : decode cX1_init 1 = .ok (.invokespecial 3, 3) := by decide +kernel
theorem dX1_init_4 : decode cX1_init 4 = .ok (.aload_n 0, 1) := by decide +kernel
theorem dX1_init_5 : decode cX1_init 5 = .ok (.new 9, 3) := by decide +kernel
theorem dX1_init_8 : decode cX1_init 8 = .ok (.dup, 1) := by decide +kernel
theorem dX1_init_9 : decode cX1_init 9 = .ok (.bipush 12, 2) := by decide +kernel
theorem dX1_init_11 : decode cX1_init 11 = .ok (.invokespecial 11, 3) := by decide +kernel
theorem dX1_init_14 : decode cX1_init 14 = .ok (.putfield 14, 3) := by decide +kernel
theorem dX1_init_17 : decode cX1_init 17 = .ok (.aload_n 0, 1) := by decide +kernel
theorem dX1_init_18 : decode cX1_init 18 = .ok (.iconst 2, 1) := by decide +kernel
theorem dX1_init_19 : decode cX1_init 19 = .ok (.putfield 20, 3) := by decide +kernel
theorem dX1_init_22 : decode cX1_init 22 = .ok (.aload_n 0, 1) := by decide +kernel
theorem dX1_init_23 : decode cX1_init 23 = .ok (.iconst 3, 1) := by decide +kernel
theorem dX1_init_24 : decode cX1_init 24 = .ok (.putfield 24, 3) := by decide +kernel
theorem dX1_init_27 : decode cX1_init 27 = .ok (.aload_n 0, 1) := by decide +kernel
theorem dX1_init_28 : decode cX1_init 28 = .ok (.iconst 1, 1) := by decide +kernel
theorem dX1_init_29 : decode cX1_init 29 = .ok (.putfield 27, 3) := by decide +kernel
theorem dX1_init_32 : decode cX1_init 32 = .ok (.aload_n 0, 1) := by decide +kernel
theorem dX1_init_33 : decode cX1_init 33 = .ok (.sipush 288, 3) := by decide +kernel
theorem dX1_init_36 : decode cX1_init 36 = .ok (.newarray .int, 2) := by decide +kernel
theorem dX1_init_38 : decode cX1_init 38 = .ok (.putfield 30, 3) := by decide +kernel
theorem dX1_init_41 : decode cX1_init 41 = .ok (.return_, 1) := by decide +kernel
theorem dX1_cheapestByTable_0 : decode cX1_cheapestByTable 0 = .ok (.iconst 0, 1) := by decide +kernel
theorem dX1_cheapestByTable_1 : decode cX1_cheapestByTable 1 = .ok (.istore_n 2, 1) := by decide +kernel
theorem dX1_cheapestByTable_2 : decode cX1_cheapestByTable 2 = .ok (.iload_n 2, 1) := by decide +kernel
theorem dX1_cheapestByTable_3 : decode cX1_cheapestByTable 3 = .ok (.aload_n 0, 1) := by decide +kernel
theorem dX1_cheapestByTable_4 : decode cX1_cheapestByTable 4 = .ok (.getfield 14, 3) := by decide +kernel
theorem dX1_cheapestByTable_7 : decode cX1_cheapestByTable 7 = .ok (.invokevirtual 34, 3) := by decide +kernel
theorem dX1_cheapestByTable_10 : decode cX1_cheapestByTable 10 = .ok (.if_icmp .ge 38, 3) := by decide +kernel
theorem dX1_cheapestByTable_13 : decode cX1_cheapestByTable 13 = .ok (.iconst 0, 1) := by decide +kernel
theorem dX1_cheapestByTable_14 : decode cX1_cheapestByTable 14 = .ok (.istore_n 3, 1) := by decide +kernel
theorem dX1_cheapestByTable_15 : decode cX1_cheapestByTable 15 = .ok (.iload_n 3, 1) := by decide +kernel
theorem dX1_cheapestByTable_16 : decode cX1_cheapestByTable 16 = .ok (.aload_n 1, 1) := by decide +kernel
theorem dX1_cheapestByTable_17 : decode cX1_cheapestByTable 17 = .ok (.invokevirtual 38, 3) := by decide +kernel
theorem dX1_cheapestByTable_20 : decode cX1_cheapestByTable 20 = .ok (.if_icmp .ge 22, 3) := by decide +kernel
theorem dX1_cheapestByTable_23 : decode cX1_cheapestByTable 23 = .ok (.aload_n 0, 1) := by decide +kernel
theorem dX1_cheapestByTable_24 : decode cX1_cheapestByTable 24 = .ok (.iload_n 2, 1) := by decide +kernel
theorem dX1_cheapestByTable_25 : decode cX1_cheapestByTable 25 = .ok (.iload_n 3, 1) := by decide +kernel
theorem dX1_cheapestByTable_26 : decode cX1_cheapestByTable 26 = .ok (.aload_n 0, 1) := by decide +kernel
theorem dX1_cheapestByTable_27 : decode cX1_cheapestByTable 27 = .ok (.aload_n 1, 1) := by decide +kernel
theorem dX1_cheapestByTable_28 : decode cX1_cheapestByTable 28 = .ok (.iload_n 2, 1) := by decide +kernel
theorem dX1_cheapestByTable_29 : decode cX1_cheapestByTable 29 = .ok (.iload_n 3, 1) := by decide +kernel
theorem dX1_cheapestByTable_30 : decode cX1_cheapestByTable 30 = .ok (.invokevirtual 41, 3) := by decide +kernel
theorem dX1_cheapestByTable_33 : decode cX1_cheapestByTable 33 = .ok (.invokevirtual 45, 3) := by decide +kernel
theorem dX1_cheapestByTable_36 : decode cX1_cheapestByTable 36 = .ok (.iinc 3 1, 3) := by decide +kernel
theorem dX1_cheapestByTable_39 : decode cX1_cheapestByTable 39 = .ok (.goto (-24), 3) := by decide +kernel
theorem dX1_cheapestByTable_42 : decode cX1_cheapestByTable 42 = .ok (.iinc 2 1, 3) := by decide +kernel
theorem dX1_cheapestByTable_45 : decode cX1_cheapestByTable 45 = .ok (.goto (-43), 3) := by decide +kernel
theorem dX1_cheapestByTable_48 : decode cX1_cheapestByTable 48 = .ok (.iconst (-1), 1) := by decide +kernel
theorem dX1_cheapestByTable_49 : decode cX1_cheapestByTable 49 = .ok (.istore_n 2, 1) := by decide +kernel
theorem dX1_cheapestByTable_50 : decode cX1_cheapestByTable 50 = .ok (.iconst 0, 1) := by decide +kernel
theorem dX1_cheapestByTable_51 : decode cX1_cheapestByTable 51 = .ok (.istore_n 3, 1) := by decide +kernel
theorem dX1_cheapestByTable_52 : decode cX1_cheapestByTable 52 = .ok (.iload_n 3, 1) := by decide +kernel
theorem dX1_cheapestByTable_53 : decode cX1_cheapestByTable 53 = .ok (.aload_n 1, 1) := by decide +kernel
theorem dX1_cheapestByTable_54 : decode cX1_cheapestByTable 54 = .ok (.invokevirtual 38, 3) := by decide +kernel
theorem dX1_cheapestByTable_57 : decode cX1_cheapestByTable 57 = .ok (.if_icmp .ge 28, 3) := by decide +kernel
theorem dX1_cheapestByTable_60 : decode cX1_cheapestByTable 60 = .ok (.iload_n 2, 1) := by decide +kernel
theorem dX1_cheapestByTable_61 : decode cX1_cheapestByTable 61 = .ok (.aload_n 0, 1) := by decide +kernel
theorem dX1_cheapestByTable_62 : decode cX1_cheapestByTable 62 = .ok (.aload_n 0, 1) := by decide +kernel
theorem dX1_cheapestByTable_63 : decode cX1_cheapestByTable 63 = .ok (.getfield 14, 3) := by decide +kernel
theorem dX1_cheapestByTable_66 : decode cX1_cheapestByTable 66 = .ok (.invokevirtual 34, 3) := by decide +kernel
theorem dX1_cheapestByTable_69 : decode cX1_cheapestByTable 69 = .ok (.iconst 1, 1) := by decide +kernel
theorem dX1_cheapestByTable_70 : decode cX1_cheapestByTable 70 = .ok (.isub, 1) := by decide +kernel
theorem dX1_cheapestByTable_71 : decode cX1_cheapestByTable 71 = .ok (.iload_n 3, 1) := by decide +kernel
theorem dX1_cheapestByTable_72 : decode cX1_cheapestByTable 72 = .ok (.invokevirtual 49, 3) := by decide +kernel
theorem dX1_cheapestByTable_75 : decode cX1_cheapestByTable 75 = .ok (.invokestatic 53, 3) := by decide +kernel
theorem dX1_cheapestByTable_78 : decode cX1_cheapestByTable 78 = .ok (.istore_n 2, 1) := by decide +kernel
theorem dX1_cheapestByTable_79 : decode cX1_cheapestByTable 79 = .ok (.iinc 3 1, 3) := by decide +kernel
theorem dX1_cheapestByTable_82 : decode cX1_cheapestByTable 82 = .ok (.goto (-30), 3) := by decide +kernel
theorem dX1_cheapestByTable_85 : decode cX1_cheapestByTable 85 = .ok (.iload_n 2, 1) := by decide +kernel
theorem dX1_cheapestByTable_86 : decode cX1_cheapestByTable 86 = .ok (.ireturn, 1) := by decide +kernel
theorem dX1_tableAt_0 : decode cX1_tableAt 0 = .ok (.iload_n 1, 1) := by decide +kernel
theorem dX1_tableAt_1 : decode cX1_tableAt 1 = .ok (.iconst 0, 1) := by decide +kernel
theorem dX1_tableAt_2 : decode cX1_tableAt 2 = .ok (.bipush 11, 2) := by decide +kernel
theorem dX1_tableAt_4 : decode cX1_tableAt 4 = .ok (.invokestatic 60, 3) := by decide +kernel
theorem dX1_tableAt_7 : decode cX1_tableAt 7 = .ok (.ifCond .eq 17, 3) := by decide +kernel
theorem dX1_tableAt_10 : decode cX1_tableAt 10 = .ok (.iload_n 2, 1) := by decide +kernel
theorem dX1_tableAt_11 : decode cX1_tableAt 11 = .ok (.iconst 0, 1) := by decide +kernel
theorem dX1_tableAt_12 : decode cX1_tableAt 12 = .ok (.bipush 23, 2) := by decide +kernel
theorem dX1_tableAt_14 : decode cX1_tableAt 14 = .ok (.invokestatic 60, 3) := by decide +kernel
theorem dX1_tableAt_17 : decode cX1_tableAt 17 = .ok (.ifCond .eq 7, 3) := by decide +kernel
theorem dX1_tableAt_20 : decode cX1_tableAt 20 = .ok (.iconst 1, 1) := by decide +kernel
theorem dX1_tableAt_21 : decode cX1_tableAt 21 = .ok (.goto 4, 3) := by decide +kernel
theorem dX1_tableAt_24 : decode cX1_tableAt 24 = .ok (.iconst 0, 1) := by decide +kernel
theorem dX1_tableAt_25 : decode cX1_tableAt 25 = .ok (.istore_n 3, 1) := by decide +kernel
theorem dX1_tableAt_26 : decode cX1_tableAt 26 = .ok (.iload_n 1, 1) := by decide +kernel
theorem dX1_tableAt_27 : decode cX1_tableAt 27 = .ok (.bipush 24, 2) := by decide +kernel
theorem dX1_tableAt_29 : decode cX1_tableAt 29 = .ok (.imul, 1) := by decide +kernel
theorem dX1_tableAt_30 : decode cX1_tableAt 30 = .ok (.iload_n 2, 1) := by decide +kernel
theorem dX1_tableAt_31 : decode cX1_tableAt 31 = .ok (.iadd, 1) := by decide +kernel
theorem dX1_tableAt_32 : decode cX1_tableAt 32 = .ok (.istore 4, 2) := by decide +kernel
theorem dX1_tableAt_34 : decode cX1_tableAt 34 = .ok (.iload_n 3, 1) := by decide +kernel
theorem dX1_tableAt_35 : decode cX1_tableAt 35 = .ok (.ifCond .eq 28, 3) := by decide +kernel
theorem dX1_tableAt_38 : decode cX1_tableAt 38 = .ok (.iload 4, 2) := by decide +kernel
theorem dX1_tableAt_40 : decode cX1_tableAt 40 = .ok (.ifCond .lt 23, 3) := by decide +kernel
theorem dX1_tableAt_43 : decode cX1_tableAt 43 = .ok (.iload 4, 2) := by decide +kernel
theorem dX1_tableAt_45 : decode cX1_tableAt 45 = .ok (.aload_n 0, 1) := by decide +kernel
theorem dX1_tableAt_46 : decode cX1_tableAt 46 = .ok (.getfield 30, 3) := by decide +kernel
theorem dX1_tableAt_49 : decode cX1_tableAt 49 = .ok (.arraylength, 1) := by decide +kernel
theorem dX1_tableAt_50 : decode cX1_tableAt 50 = .ok (.if_icmp .ge 13, 3) := by decide +kernel
theorem dX1_tableAt_53 : decode cX1_tableAt 53 = .ok (.aload_n 0, 1) := by decide +kernel
theorem dX1_tableAt_54 : decode cX1_tableAt 54 = .ok (.getfield 30, 3) := by decide +kernel
theorem dX1_tableAt_57 : decode cX1_tableAt 57 = .ok (.iload 4, 2) := by decide +kernel
theorem dX1_tableAt_59 : decode cX1_tableAt 59 = .ok (.iaload, 1) := by decide +kernel
theorem dX1_tableAt_60 : decode cX1_tableAt 60 = .ok (.goto 4, 3) := by decide +kernel
theorem dX1_tableAt_63 : decode cX1_tableAt 63 = .ok (.iconst (-1), 1) := by decide +kernel
theorem dX1_tableAt_64 : decode cX1_tableAt 64 = .ok (.ireturn, 1) := by decide +kernel
theorem dX1_setTableAt_0 : decode cX1_setTableAt 0 = .ok (.iload_n 1, 1) := by decide +kernel
theorem dX1_setTableAt_1 : decode cX1_setTableAt 1 = .ok (.bipush 24, 2) := by decide +kernel
theorem dX1_setTableAt_3 : decode cX1_setTableAt 3 = .ok (.imul, 1) := by decide +kernel
theorem dX1_setTableAt_4 : decode cX1_setTableAt 4 = .ok (.iload_n 2, 1) := by decide +kernel
theorem dX1_setTableAt_5 : decode cX1_setTableAt 5 = .ok (.iadd, 1) := by decide +kernel
theorem dX1_setTableAt_6 : decode cX1_setTableAt 6 = .ok (.istore 4, 2) := by decide +kernel
theorem dX1_setTableAt_8 : decode cX1_setTableAt 8 = .ok (.iload 4, 2) := by decide +kernel
theorem dX1_setTableAt_10 : decode cX1_setTableAt 10 = .ok (.ifCond .lt 21, 3) := by decide +kernel
theorem dX1_setTableAt_13 : decode cX1_setTableAt 13 = .ok (.iload 4, 2) := by decide +kernel
theorem dX1_setTableAt_15 : decode cX1_setTableAt 15 = .ok (.aload_n 0, 1) := by decide +kernel
theorem dX1_setTableAt_16 : decode cX1_setTableAt 16 = .ok (.getfield 30, 3) := by decide +kernel
theorem dX1_setTableAt_19 : decode cX1_setTableAt 19 = .ok (.arraylength, 1) := by decide +kernel
theorem dX1_setTableAt_20 : decode cX1_setTableAt 20 = .ok (.if_icmp .ge 11, 3) := by decide +kernel
theorem dX1_setTableAt_23 : decode cX1_setTableAt 23 = .ok (.aload_n 0, 1) := by decide +kernel
theorem dX1_setTableAt_24 : decode cX1_setTableAt 24 = .ok (.getfield 30, 3) := by decide +kernel
theorem dX1_setTableAt_27 : decode cX1_setTableAt 27 = .ok (.iload 4, 2) := by decide +kernel
theorem dX1_setTableAt_29 : decode cX1_setTableAt 29 = .ok (.iload_n 3, 1) := by decide +kernel
theorem dX1_setTableAt_30 : decode cX1_setTableAt 30 = .ok (.iastore, 1) := by decide +kernel
theorem dX1_setTableAt_31 : decode cX1_setTableAt 31 = .ok (.return_, 1) := by decide +kernel
theorem dX1_cheapestTo_0 : decode cX1_cheapestTo 0 = .ok (.iload_n 2, 1) := by decide +kernel
theorem dX1_cheapestTo_1 : decode cX1_cheapestTo 1 = .ok (.ifCond .ne 13, 3) := by decide +kernel
theorem dX1_cheapestTo_4 : decode cX1_cheapestTo 4 = .ok (.iload_n 3, 1) := by decide +kernel
theorem dX1_cheapestTo_5 : decode cX1_cheapestTo 5 = .ok (.ifCond .ne 7, 3) := by decide +kernel
theorem dX1_cheapestTo_8 : decode cX1_cheapestTo 8 = .ok (.iconst 0, 1) := by decide +kernel
theorem dX1_cheapestTo_9 : decode cX1_cheapestTo 9 = .ok (.goto 4, 3) := by decide +kernel
theorem dX1_cheapestTo_12 : decode cX1_cheapestTo 12 = .ok (.iconst (-1), 1) := by decide +kernel
theorem dX1_cheapestTo_13 : decode cX1_cheapestTo 13 = .ok (.ireturn, 1) := by decide +kernel
theorem dX1_cheapestTo_14 : decode cX1_cheapestTo 14 = .ok (.iconst (-1), 1) := by decide +kernel
theorem dX1_cheapestTo_15 : decode cX1_cheapestTo 15 = .ok (.istore 4, 2) := by decide +kernel
theorem dX1_cheapestTo_17 : decode cX1_cheapestTo 17 = .ok (.iconst 0, 1) := by decide +kernel
theorem dX1_cheapestTo_18 : decode cX1_cheapestTo 18 = .ok (.istore 5, 2) := by decide +kernel
theorem dX1_cheapestTo_20 : decode cX1_cheapestTo 20 = .ok (.iload 5, 2) := by decide +kernel
theorem dX1_cheapestTo_22 : decode cX1_cheapestTo 22 = .ok (.iconst 2, 1) := by decide +kernel
theorem dX1_cheapestTo_23 : decode cX1_cheapestTo 23 = .ok (.if_icmp .gt 32, 3) := by decide +kernel
theorem dX1_cheapestTo_26 : decode cX1_cheapestTo 26 = .ok (.iload 4, 2) := by decide +kernel
theorem dX1_cheapestTo_28 : decode cX1_cheapestTo 28 = .ok (.aload_n 0, 1) := by decide +kernel
theorem dX1_cheapestTo_29 : decode cX1_cheapestTo 29 = .ok (.aload_n 1, 1) := by decide +kernel
theorem dX1_cheapestTo_30 : decode cX1_cheapestTo 30 = .ok (.iload_n 2, 1) := by decide +kernel
theorem dX1_cheapestTo_31 : decode cX1_cheapestTo 31 = .ok (.iconst 1, 1) := by decide +kernel
theorem dX1_cheapestTo_32 : decode cX1_cheapestTo 32 = .ok (.isub, 1) := by decide +kernel
theorem dX1_cheapestTo_33 : decode cX1_cheapestTo 33 = .ok (.iload_n 3, 1) := by decide +kernel
theorem dX1_cheapestTo_34 : decode cX1_cheapestTo 34 = .ok (.iconst 1, 1) := by decide +kernel
theorem dX1_cheapestTo_35 : decode cX1_cheapestTo 35 = .ok (.isub, 1) := by decide +kernel
theorem dX1_cheapestTo_36 : decode cX1_cheapestTo 36 = .ok (.iload 5, 2) := by decide +kernel
theorem dX1_cheapestTo_38 : decode cX1_cheapestTo 38 = .ok (.isub, 1) := by decide +kernel
theorem dX1_cheapestTo_39 : decode cX1_cheapestTo 39 = .ok (.iload_n 2, 1) := by decide +kernel
theorem dX1_cheapestTo_40 : decode cX1_cheapestTo 40 = .ok (.iload_n 3, 1) := by decide +kernel
theorem dX1_cheapestTo_41 : decode cX1_cheapestTo 41 = .ok (.invokevirtual 64, 3) := by decide +kernel
theorem dX1_cheapestTo_44 : decode cX1_cheapestTo 44 = .ok (.invokestatic 53, 3) := by decide +kernel
theorem dX1_cheapestTo_47 : decode cX1_cheapestTo 47 = .ok (.istore 4, 2) := by decide +kernel
theorem dX1_cheapestTo_49 : decode cX1_cheapestTo 49 = .ok (.iinc 5 1, 3) := by decide +kernel
theorem dX1_cheapestTo_52 : decode cX1_cheapestTo 52 = .ok (.goto (-32), 3) := by decide +kernel
theorem dX1_cheapestTo_55 : decode cX1_cheapestTo 55 = .ok (.iconst 1, 1) := by decide +kernel
theorem dX1_cheapestTo_56 : decode cX1_cheapestTo 56 = .ok (.istore 5, 2) := by decide +kernel
theorem dX1_cheapestTo_58 : decode cX1_cheapestTo 58 = .ok (.iload 5, 2) := by decide +kernel
theorem dX1_cheapestTo_60 : decode cX1_cheapestTo 60 = .ok (.iconst 2, 1) := by decide +kernel
theorem dX1_cheapestTo_61 : decode cX1_cheapestTo 61 = .ok (.if_icmp .gt 32, 3) := by decide +kernel
theorem dX1_cheapestTo_64 : decode cX1_cheapestTo 64 = .ok (.iload 4, 2) := by decide +kernel
theorem dX1_cheapestTo_66 : decode cX1_cheapestTo 66 = .ok (.aload_n 0, 1) := by decide +kernel
theorem dX1_cheapestTo_67 : decode cX1_cheapestTo 67 = .ok (.aload_n 1, 1) := by decide +kernel
theorem dX1_cheapestTo_68 : decode cX1_cheapestTo 68 = .ok (.iload_n 2, 1) := by decide +kernel
theorem dX1_cheapestTo_69 : decode cX1_cheapestTo 69 = .ok (.iconst 1, 1) := by decide +kernel
theorem dX1_cheapestTo_70 : decode cX1_cheapestTo 70 = .ok (.isub, 1) := by decide +kernel
theorem dX1_cheapestTo_71 : decode cX1_cheapestTo 71 = .ok (.iload 5, 2) := by decide +kernel
theorem dX1_cheapestTo_73 : decode cX1_cheapestTo 73 = .ok (.isub, 1) := by decide +kernel
theorem dX1_cheapestTo_74 : decode cX1_cheapestTo 74 = .ok (.iload_n 3, 1) := by decide +kernel
theorem dX1_cheapestTo_75 : decode cX1_cheapestTo 75 = .ok (.iconst 1, 1) := by decide +kernel
theorem dX1_cheapestTo_76 : decode cX1_cheapestTo 76 = .ok (.isub, 1) := by decide +kernel
theorem dX1_cheapestTo_77 : decode cX1_cheapestTo 77 = .ok (.iload_n 2, 1) := by decide +kernel
theorem dX1_cheapestTo_78 : decode cX1_cheapestTo 78 = .ok (.iload_n 3, 1) := by decide +kernel
theorem dX1_cheapestTo_79 : decode cX1_cheapestTo 79 = .ok (.invokevirtual 64, 3) := by decide +kernel
theorem dX1_cheapestTo_82 : decode cX1_cheapestTo 82 = .ok (.invokestatic 53, 3) := by decide +kernel
theorem dX1_cheapestTo_85 : decode cX1_cheapestTo 85 = .ok (.istore 4, 2) := by decide +kernel
theorem dX1_cheapestTo_87 : decode cX1_cheapestTo 87 = .ok (.iinc 5 1, 3) := by decide +kernel
theorem dX1_cheapestTo_90 : decode cX1_cheapestTo 90 = .ok (.goto (-32), 3) := by decide +kernel
theorem dX1_cheapestTo_93 : decode cX1_cheapestTo 93 = .ok (.iload 4, 2) := by decide +kernel
theorem dX1_cheapestTo_95 : decode cX1_cheapestTo 95 = .ok (.ireturn, 1) := by decide +kernel
theorem dX1_costBy_0 : decode cX1_costBy 0 = .ok (.aload_n 0, 1) := by decide +kernel
theorem dX1_costBy_1 : decode cX1_costBy 1 = .ok (.iload_n 2, 1) := by decide +kernel
theorem dX1_costBy_2 : decode cX1_costBy 2 = .ok (.iload_n 3, 1) := by decide +kernel
theorem dX1_costBy_3 : decode cX1_costBy 3 = .ok (.invokevirtual 49, 3) := by decide +kernel
theorem dX1_costBy_6 : decode cX1_costBy 6 = .ok (.istore 6, 2) := by decide +kernel
theorem dX1_costBy_8 : decode cX1_costBy 8 = .ok (.iload 6, 2) := by decide +kernel
theorem dX1_costBy_10 : decode cX1_costBy 10 = .ok (.iconst (-1), 1) := by decide +kernel
theorem dX1_costBy_11 : decode cX1_costBy 11 = .ok (.if_icmp .ne 7, 3) := by decide +kernel
theorem dX1_costBy_14 : decode cX1_costBy 14 = .ok (.iconst (-1), 1) := by decide +kernel
theorem dX1_costBy_15 : decode cX1_costBy 15 = .ok (.goto 17, 3) := by decide +kernel
theorem dX1_costBy_18 : decode cX1_costBy 18 = .ok (.iload 6, 2) := by decide +kernel
theorem dX1_costBy_20 : decode cX1_costBy 20 = .ok (.aload_n 0, 1) := by decide +kernel
theorem dX1_costBy_21 : decode cX1_costBy 21 = .ok (.aload_n 1, 1) := by decide +kernel
theorem dX1_costBy_22 : decode cX1_costBy 22 = .ok (.iload_n 2, 1) := by decide +kernel
theorem dX1_costBy_23 : decode cX1_costBy 23 = .ok (.iload_n 3, 1) := by decide +kernel
theorem dX1_costBy_24 : decode cX1_costBy 24 = .ok (.iload 4, 2) := by decide +kernel
theorem dX1_costBy_26 : decode cX1_costBy 26 = .ok (.iload 5, 2) := by decide +kernel
theorem dX1_costBy_28 : decode cX1_costBy 28 = .ok (.invokevirtual 68, 3) := by decide +kernel
theorem dX1_costBy_31 : decode cX1_costBy 31 = .ok (.iadd, 1) := by decide +kernel
theorem dX1_costBy_32 : decode cX1_costBy 32 = .ok (.ireturn, 1) := by decide +kernel
theorem dX1_costOfMove_0 : decode cX1_costOfMove 0 = .ok (.aload_n 1, 1) := by decide +kernel
theorem dX1_costOfMove_1 : decode cX1_costOfMove 1 = .ok (.getfield 75, 3) := by decide +kernel
theorem dX1_costOfMove_4 : decode cX1_costOfMove 4 = .ok (.iload 5, 2) := by decide +kernel
theorem dX1_costOfMove_6 : decode cX1_costOfMove 6 = .ok (.invokevirtual 78, 3) := by decide +kernel
theorem dX1_costOfMove_9 : decode cX1_costOfMove 9 = .ok (.aload_n 1, 1) := by decide +kernel
theorem dX1_costOfMove_10 : decode cX1_costOfMove 10 = .ok (.getfield 75, 3) := by decide +kernel
theorem dX1_costOfMove_13 : decode cX1_costOfMove 13 = .ok (.iload_n 3, 1) := by decide +kernel
theorem dX1_costOfMove_14 : decode cX1_costOfMove 14 = .ok (.invokevirtual 78, 3) := by decide +kernel
theorem dX1_costOfMove_17 : decode cX1_costOfMove 17 = .ok (.isub, 1) := by decide +kernel
theorem dX1_costOfMove_18 : decode cX1_costOfMove 18 = .ok (.istore 6, 2) := by decide +kernel
theorem dX1_costOfMove_20 : decode cX1_costOfMove 20 = .ok (.aload_n 0, 1) := by decide +kernel
theorem dX1_costOfMove_21 : decode cX1_costOfMove 21 = .ok (.getfield 14, 3) := by decide +kernel
theorem dX1_costOfMove_24 : decode cX1_costOfMove 24 = .ok (.iload 4, 2) := by decide +kernel
theorem dX1_costOfMove_26 : decode cX1_costOfMove 26 = .ok (.invokevirtual 78, 3) := by decide +kernel
theorem dX1_costOfMove_29 : decode cX1_costOfMove 29 = .ok (.aload_n 0, 1) := by decide +kernel
theorem dX1_costOfMove_30 : decode cX1_costOfMove 30 = .ok (.getfield 14, 3) := by decide +kernel
theorem dX1_costOfMove_33 : decode cX1_costOfMove 33 = .ok (.iload_n 2, 1) := by decide +kernel
theorem dX1_costOfMove_34 : decode cX1_costOfMove 34 = .ok (.invokevirtual 78, 3) := by decide +kernel
theorem dX1_costOfMove_37 : decode cX1_costOfMove 37 = .ok (.isub, 1) := by decide +kernel
theorem dX1_costOfMove_38 : decode cX1_costOfMove 38 = .ok (.istore 7, 2) := by decide +kernel
theorem dX1_costOfMove_40 : decode cX1_costOfMove 40 = .ok (.aload_n 0, 1) := by decide +kernel
theorem dX1_costOfMove_41 : decode cX1_costOfMove 41 = .ok (.getfield 20, 3) := by decide +kernel
theorem dX1_costOfMove_44 : decode cX1_costOfMove 44 = .ok (.iload 6, 2) := by decide +kernel
theorem dX1_costOfMove_46 : decode cX1_costOfMove 46 = .ok (.iload 7, 2) := by decide +kernel
theorem dX1_costOfMove_48 : decode cX1_costOfMove 48 = .ok (.isub, 1) := by decide +kernel
theorem dX1_costOfMove_49 : decode cX1_costOfMove 49 = .ok (.invokestatic 82, 3) := by decide +kernel
theorem dX1_costOfMove_52 : decode cX1_costOfMove 52 = .ok (.imul, 1) := by decide +kernel
theorem dX1_costOfMove_53 : decode cX1_costOfMove 53 = .ok (.istore 8, 2) := by decide +kernel
theorem dX1_costOfMove_55 : decode cX1_costOfMove 55 = .ok (.iload_n 3, 1) := by decide +kernel
theorem dX1_costOfMove_56 : decode cX1_costOfMove 56 = .ok (.iconst 1, 1) := by decide +kernel
theorem dX1_costOfMove_57 : decode cX1_costOfMove 57 = .ok (.iadd, 1) := by decide +kernel
theorem dX1_costOfMove_58 : decode cX1_costOfMove 58 = .ok (.istore 9, 2) := by decide +kernel
theorem dX1_costOfMove_60 : decode cX1_costOfMove 60 = .ok (.iload 9, 2) := by decide +kernel
theorem dX1_costOfMove_62 : decode cX1_costOfMove 62 = .ok (.iload 5, 2) := by decide +kernel
theorem dX1_costOfMove_64 : decode cX1_costOfMove 64 = .ok (.if_icmp .ge 28, 3) := by decide +kernel
theorem dX1_costOfMove_67 : decode cX1_costOfMove 67 = .ok (.iload 8, 2) := by decide +kernel
theorem dX1_costOfMove_69 : decode cX1_costOfMove 69 = .ok (.aload_n 0, 1) := by decide +kernel
theorem dX1_costOfMove_70 : decode cX1_costOfMove 70 = .ok (.getfield 24, 3) := by decide +kernel
theorem dX1_costOfMove_73 : decode cX1_costOfMove 73 = .ok (.aload_n 1, 1) := by decide +kernel
theorem dX1_costOfMove_74 : decode cX1_costOfMove 74 = .ok (.getfield 87, 3) := by decide +kernel
theorem dX1_costOfMove_77 : decode cX1_costOfMove 77 = .ok (.iload 9, 2) := by decide +kernel
theorem dX1_costOfMove_79 : decode cX1_costOfMove 79 = .ok (.invokevirtual 78, 3) := by decide +kernel
theorem dX1_costOfMove_82 : decode cX1_costOfMove 82 = .ok (.imul, 1) := by decide +kernel
theorem dX1_costOfMove_83 : decode cX1_costOfMove 83 = .ok (.iadd, 1) := by decide +kernel
theorem dX1_costOfMove_84 : decode cX1_costOfMove 84 = .ok (.istore 8, 2) := by decide +kernel
theorem dX1_costOfMove_86 : decode cX1_costOfMove 86 = .ok (.iinc 9 1, 3) := by decide +kernel
theorem dX1_costOfMove_89 : decode cX1_costOfMove 89 = .ok (.goto (-29), 3) := by decide +kernel
theorem dX1_costOfMove_92 : decode cX1_costOfMove 92 = .ok (.iload_n 2, 1) := by decide +kernel
theorem dX1_costOfMove_93 : decode cX1_costOfMove 93 = .ok (.iconst 1, 1) := by decide +kernel
theorem dX1_costOfMove_94 : decode cX1_costOfMove 94 = .ok (.iadd, 1) := by decide +kernel
theorem dX1_costOfMove_95 : decode cX1_costOfMove 95 = .ok (.istore 9, 2) := by decide +kernel
theorem dX1_costOfMove_97 : decode cX1_costOfMove 97 = .ok (.iload 9, 2) := by decide +kernel
theorem dX1_costOfMove_99 : decode cX1_costOfMove 99 = .ok (.iload 4, 2) := by decide +kernel
theorem dX1_costOfMove_101 : decode cX1_costOfMove 101 = .ok (.if_icmp .ge 62, 3) := by decide +kernel
theorem dX1_costOfMove_104 : decode cX1_costOfMove 104 = .ok (.aload_n 0, 1) := by decide +kernel
theorem dX1_costOfMove_105 : decode cX1_costOfMove 105 = .ok (.getfield 14, 3) := by decide +kernel
theorem dX1_costOfMove_108 : decode cX1_costOfMove 108 = .ok (.iload 9, 2) := by decide +kernel
theorem dX1_costOfMove_110 : decode cX1_costOfMove 110 = .ok (.invokevirtual 78, 3) := by decide +kernel
theorem dX1_costOfMove_113 : decode cX1_costOfMove 113 = .ok (.aload_n 0, 1) := by decide +kernel
theorem dX1_costOfMove_114 : decode cX1_costOfMove 114 = .ok (.getfield 14, 3) := by decide +kernel
theorem dX1_costOfMove_117 : decode cX1_costOfMove 117 = .ok (.iload 9, 2) := by decide +kernel
theorem dX1_costOfMove_119 : decode cX1_costOfMove 119 = .ok (.iconst 1, 1) := by decide +kernel
theorem dX1_costOfMove_120 : decode cX1_costOfMove 120 = .ok (.isub, 1) := by decide +kernel
theorem dX1_costOfMove_121 : decode cX1_costOfMove 121 = .ok (.invokevirtual 78, 3) := by decide +kernel
theorem dX1_costOfMove_124 : decode cX1_costOfMove 124 = .ok (.if_icmp .ne 7, 3) := by decide +kernel
theorem dX1_costOfMove_127 : decode cX1_costOfMove 127 = .ok (.iconst 1, 1) := by decide +kernel
theorem dX1_costOfMove_128 : decode cX1_costOfMove 128 = .ok (.goto 4, 3) := by decide +kernel
theorem dX1_costOfMove_131 : decode cX1_costOfMove 131 = .ok (.iconst 0, 1) := by decide +kernel
theorem dX1_costOfMove_132 : decode cX1_costOfMove 132 = .ok (.istore 10, 2) := by decide +kernel
theorem dX1_costOfMove_134 : decode cX1_costOfMove 134 = .ok (.iload 8, 2) := by decide +kernel
theorem dX1_costOfMove_136 : decode cX1_costOfMove 136 = .ok (.iload 10, 2) := by decide +kernel
theorem dX1_costOfMove_138 : decode cX1_costOfMove 138 = .ok (.ifCond .eq 10, 3) := by decide +kernel
theorem dX1_costOfMove_141 : decode cX1_costOfMove 141 = .ok (.aload_n 0, 1) := by decide +kernel
theorem dX1_costOfMove_142 : decode cX1_costOfMove 142 = .ok (.getfield 27, 3) := by decide +kernel
theorem dX1_costOfMove_145 : decode cX1_costOfMove 145 = .ok (.goto 9, 3) := by decide +kernel
theorem dX1_costOfMove_148 : decode cX1_costOfMove 148 = .ok (.iconst 3, 1) := by decide +kernel
theorem dX1_costOfMove_149 : decode cX1_costOfMove 149 = .ok (.aload_n 0, 1) := by decide +kernel
theorem dX1_costOfMove_150 : decode cX1_costOfMove 150 = .ok (.getfield 27, 3) := by decide +kernel
theorem dX1_costOfMove_153 : decode cX1_costOfMove 153 = .ok (.imul, 1) := by decide +kernel
theorem dX1_costOfMove_154 : decode cX1_costOfMove 154 = .ok (.iadd, 1) := by decide +kernel
theorem dX1_costOfMove_155 : decode cX1_costOfMove 155 = .ok (.istore 8, 2) := by decide +kernel
theorem dX1_costOfMove_157 : decode cX1_costOfMove 157 = .ok (.iinc 9 1, 3) := by decide +kernel
theorem dX1_costOfMove_160 : decode cX1_costOfMove 160 = .ok (.goto (-63), 3) := by decide +kernel
theorem dX1_costOfMove_163 : decode cX1_costOfMove 163 = .ok (.iload 8, 2) := by decide +kernel
theorem dX1_costOfMove_165 : decode cX1_costOfMove 165 = .ok (.ireturn, 1) := by decide +kernel
theorem dX1_cheaper_0 : decode cX1_cheaper 0 = .ok (.iload_n 0, 1) := by decide +kernel
theorem dX1_cheaper_1 : decode cX1_cheaper 1 = .ok (.iconst (-1), 1) := by decide +kernel
theorem dX1_cheaper_2 : decode cX1_cheaper 2 = .ok (.if_icmp .eq 8, 3) := by decide +kernel
theorem dX1_cheaper_5 : decode cX1_cheaper 5 = .ok (.iload_n 1, 1) := by decide +kernel
theorem dX1_cheaper_6 : decode cX1_cheaper 6 = .ok (.iconst (-1), 1) := by decide +kernel
theorem dX1_cheaper_7 : decode cX1_cheaper 7 = .ok (.if_icmp .ne 9, 3) := by decide +kernel
theorem dX1_cheaper_10 : decode cX1_cheaper 10 = .ok (.iload_n 0, 1) := by decide +kernel
theorem dX1_cheaper_11 : decode cX1_cheaper 11 = .ok (.iload_n 1, 1) := by decide +kernel
theorem dX1_cheaper_12 : decode cX1_cheaper 12 = .ok (.invokestatic 90, 3) := by decide +kernel
theorem dX1_cheaper_15 : decode cX1_cheaper 15 = .ok (.ireturn, 1) := by decide +kernel
theorem dX1_cheaper_16 : decode cX1_cheaper 16 = .ok (.iload_n 0, 1) := by decide +kernel
theorem dX1_cheaper_17 : decode cX1_cheaper 17 = .ok (.iload_n 1, 1) := by decide +kernel
theorem dX1_cheaper_18 : decode cX1_cheaper 18 = .ok (.invokestatic 93, 3) := by decide +kernel
theorem dX1_cheaper_21 : decode cX1_cheaper 21 = .ok (.ireturn, 1) := by decide +kernel
theorem dX2_init_0 : decode cX2_init 0 = .ok (.aload_n 0, 1) := by decide +kernel
theorem dX2_init_1 : decode cX2_init 1 = .ok (.invokespecial 1, 3) := by decide +kernel
theorem dX2_init_4 : decode cX2_init 4 = .ok (.aload_n 0, 1) := by decide +kernel
theorem dX2_init_5 : decode cX2_init 5 = .ok (.iload_n 1, 1) := by decide +kernel
theorem dX2_init_6 : decode cX2_init 6 = .ok (.iconst 0, 1) := by decide +kernel
theorem dX2_init_7 : decode cX2_init 7 = .ok (.invokestatic 7, 3) := by decide +kernel
theorem dX2_init_10 : decode cX2_init 10 = .ok (.newarray .int, 2) := by decide +kernel
theorem dX2_init_12 : decode cX2_init 12 = .ok (.putfield 13, 3) := by decide +kernel
theorem dX2_init_15 : decode cX2_init 15 = .ok (.return_, 1) := by decide +kernel
theorem dX2_size_0 : decode cX2_size 0 = .ok (.aload_n 0, 1) := by decide +kernel
theorem dX2_size_1 : decode cX2_size 1 = .ok (.getfield 19, 3) := by decide +kernel
theorem dX2_size_4 : decode cX2_size 4 = .ok (.ireturn, 1) := by decide +kernel
theorem dX2_isFull_0 : decode cX2_isFull 0 = .ok (.aload_n 0, 1) := by decide +kernel
theorem dX2_isFull_1 : decode cX2_isFull 1 = .ok (.getfield 19, 3) := by decide +kernel
theorem dX2_isFull_4 : decode cX2_isFull 4 = .ok (.aload_n 0, 1) := by decide +kernel
theorem dX2_isFull_5 : decode cX2_isFull 5 = .ok (.getfield 13, 3) := by decide +kernel
theorem dX2_isFull_8 : decode cX2_isFull 8 = .ok (.arraylength, 1) := by decide +kernel
theorem dX2_isFull_9 : decode cX2_isFull 9 = .ok (.if_icmp .lt 7, 3) := by decide +kernel
theorem dX2_isFull_12 : decode cX2_isFull 12 = .ok (.iconst 1, 1) := by decide +kernel
theorem dX2_isFull_13 : decode cX2_isFull 13 = .ok (.goto 4, 3) := by decide +kernel
theorem dX2_isFull_16 : decode cX2_isFull 16 = .ok (.iconst 0, 1) := by decide +kernel
theorem dX2_isFull_17 : decode cX2_isFull 17 = .ok (.ireturn, 1) := by decide +kernel
theorem dX2_at_0 : decode cX2_at 0 = .ok (.iload_n 1, 1) := by decide +kernel
theorem dX2_at_1 : decode cX2_at 1 = .ok (.ifCond .lt 29, 3) := by decide +kernel
theorem dX2_at_4 : decode cX2_at 4 = .ok (.iload_n 1, 1) := by decide +kernel
theorem dX2_at_5 : decode cX2_at 5 = .ok (.aload_n 0, 1) := by decide +kernel
theorem dX2_at_6 : decode cX2_at 6 = .ok (.getfield 19, 3) := by decide +kernel
theorem dX2_at_9 : decode cX2_at 9 = .ok (.if_icmp .ge 21, 3) := by decide +kernel
theorem dX2_at_12 : decode cX2_at 12 = .ok (.iload_n 1, 1) := by decide +kernel
theorem dX2_at_13 : decode cX2_at 13 = .ok (.aload_n 0, 1) := by decide +kernel
theorem dX2_at_14 : decode cX2_at 14 = .ok (.getfield 13, 3) := by decide +kernel
theorem dX2_at_17 : decode cX2_at 17 = .ok (.arraylength, 1) := by decide +kernel
theorem dX2_at_18 : decode cX2_at 18 = .ok (.if_icmp .ge 12, 3) := by decide +kernel
theorem dX2_at_21 : decode cX2_at 21 = .ok (.aload_n 0, 1) := by decide +kernel
theorem dX2_at_22 : decode cX2_at 22 = .ok (.getfield 13, 3) := by decide +kernel
theorem dX2_at_25 : decode cX2_at 25 = .ok (.iload_n 1, 1) := by decide +kernel
theorem dX2_at_26 : decode cX2_at 26 = .ok (.iaload, 1) := by decide +kernel
theorem dX2_at_27 : decode cX2_at 27 = .ok (.goto 4, 3) := by decide +kernel
theorem dX2_at_30 : decode cX2_at 30 = .ok (.iconst 0, 1) := by decide +kernel
theorem dX2_at_31 : decode cX2_at 31 = .ok (.ireturn, 1) := by decide +kernel
theorem dX2_put_0 : decode cX2_put 0 = .ok (.iload_n 1, 1) := by decide +kernel
theorem dX2_put_1 : decode cX2_put 1 = .ok (.ifCond .lt 27, 3) := by decide +kernel
theorem dX2_put_4 : decode cX2_put 4 = .ok (.iload_n 1, 1) := by decide +kernel
theorem dX2_put_5 : decode cX2_put 5 = .ok (.aload_n 0, 1) := by decide +kernel
theorem dX2_put_6 : decode cX2_put 6 = .ok (.getfield 19, 3) := by decide +kernel
theorem dX2_put_9 : decode cX2_put 9 = .ok (.if_icmp .ge 19, 3) := by decide +kernel
theorem dX2_put_12 : decode cX2_put 12 = .ok (.iload_n 1, 1) := by decide +kernel
theorem dX2_put_13 : decode cX2_put 13 = .ok (.aload_n 0, 1) := by decide +kernel
theorem dX2_put_14 : decode cX2_put 14 = .ok (.getfield 13, 3) := by decide +kernel
theorem dX2_put_17 : decode cX2_put 17 = .ok (.arraylength, 1) := by decide +kernel
theorem dX2_put_18 : decode cX2_put 18 = .ok (.if_icmp .ge 10, 3) := by decide +kernel
theorem dX2_put_21 : decode cX2_put 21 = .ok (.aload_n 0, 1) := by decide +kernel
theorem dX2_put_22 : decode cX2_put 22 = .ok (.getfield 13, 3) := by decide +kernel
theorem dX2_put_25 : decode cX2_put 25 = .ok (.iload_n 1, 1) := by decide +kernel
theorem dX2_put_26 : decode cX2_put 26 = .ok (.iload_n 2, 1) := by decide +kernel
theorem dX2_put_27 : decode cX2_put 27 = .ok (.iastore, 1) := by decide +kernel
theorem dX2_put_28 : decode cX2_put 28 = .ok (.return_, 1) := by decide +kernel
theorem dX2_append_0 : decode cX2_append 0 = .ok (.aload_n 0, 1) := by decide +kernel
theorem dX2_append_1 : decode cX2_append 1 = .ok (.getfield 19, 3) := by decide +kernel
theorem dX2_append_4 : decode cX2_append 4 = .ok (.ifCond .lt 35, 3) := by decide +kernel
theorem dX2_append_7 : decode cX2_append 7 = .ok (.aload_n 0, 1) := by decide +kernel
theorem dX2_append_8 : decode cX2_append 8 = .ok (.getfield 19, 3) := by decide +kernel
theorem dX2_append_11 : decode cX2_append 11 = .ok (.aload_n 0, 1) := by decide +kernel
theorem dX2_append_12 : decode cX2_append 12 = .ok (.getfield 13, 3) := by decide +kernel
theorem dX2_append_15 : decode cX2_append 15 = .ok (.arraylength, 1) := by decide +kernel
theorem dX2_append_16 : decode cX2_append 16 = .ok (.if_icmp .ge 23, 3) := by decide +kernel
theorem dX2_append_19 : decode cX2_append 19 = .ok (.aload_n 0, 1) := by decide +kernel
theorem dX2_append_20 : decode cX2_append 20 = .ok (.getfield 13, 3) := by decide +kernel
theorem dX2_append_23 : decode cX2_append 23 = .ok (.aload_n 0, 1) := by decide +kernel
theorem dX2_append_24 : decode cX2_append 24 = .ok (.getfield 19, 3) := by decide +kernel
theorem dX2_append_27 : decode cX2_append 27 = .ok (.iload_n 1, 1) := by decide +kernel
theorem dX2_append_28 : decode cX2_append 28 = .ok (.iastore, 1) := by decide +kernel
theorem dX2_append_29 : decode cX2_append 29 = .ok (.aload_n 0, 1) := by decide +kernel
theorem dX2_append_30 : decode cX2_append 30 = .ok (.dup, 1) := by decide +kernel
theorem dX2_append_31 : decode cX2_append 31 = .ok (.getfield 19, 3) := by decide +kernel
theorem dX2_append_34 : decode cX2_append 34 = .ok (.iconst 1, 1) := by decide +kernel
theorem dX2_append_35 : decode cX2_append 35 = .ok (.iadd, 1) := by decide +kernel
theorem dX2_append_36 : decode cX2_append 36 = .ok (.putfield 19, 3) := by decide +kernel
theorem dX2_append_39 : decode cX2_append 39 = .ok (.return_, 1) := by decide +kernel
theorem dX2_clear_0 : decode cX2_clear 0 = .ok (.aload_n 0, 1) := by decide +kernel
theorem dX2_clear_1 : decode cX2_clear 1 = .ok (.iconst 0, 1) := by decide +kernel
theorem dX2_clear_2 : decode cX2_clear 2 = .ok (.putfield 19, 3) := by decide +kernel
theorem dX2_clear_5 : decode cX2_clear 5 = .ok (.return_, 1) := by decide +kernel
theorem dX2_stepFrom_0 : decode cX2_stepFrom 0 = .ok (.aload_n 0, 1) := by decide +kernel
theorem dX2_stepFrom_1 : decode cX2_stepFrom 1 = .ok (.iload_n 1, 1) := by decide +kernel
theorem dX2_stepFrom_2 : decode cX2_stepFrom 2 = .ok (.iconst 1, 1) := by decide +kernel
theorem dX2_stepFrom_3 : decode cX2_stepFrom 3 = .ok (.iadd, 1) := by decide +kernel
theorem dX2_stepFrom_4 : decode cX2_stepFrom 4 = .ok (.invokevirtual 23, 3) := by decide +kernel
theorem dX2_stepFrom_7 : decode cX2_stepFrom 7 = .ok (.aload_n 0, 1) := by decide +kernel
theorem dX2_stepFrom_8 : decode cX2_stepFrom 8 = .ok (.iload_n 1, 1) := by decide +kernel
theorem dX2_stepFrom_9 : decode cX2_stepFrom 9 = .ok (.invokevirtual 23, 3) := by decide +kernel
theorem dX2_stepFrom_12 : decode cX2_stepFrom 12 = .ok (.isub, 1) := by decide +kernel
theorem dX2_stepFrom_13 : decode cX2_stepFrom 13 = .ok (.ireturn, 1) := by decide +kernel
theorem dX2_stepsInCommon_0 : decode cX2_stepsInCommon 0 = .ok (.aload_n 0, 1) := by decide +kernel
theorem dX2_stepsInCommon_1 : decode cX2_stepsInCommon 1 = .ok (.getfield 19, 3) := by decide +kernel
theorem dX2_stepsInCommon_4 : decode cX2_stepsInCommon 4 = .ok (.iload_n 1, 1) := by decide +kernel
theorem dX2_stepsInCommon_5 : decode cX2_stepsInCommon 5 = .ok (.isub, 1) := by decide +kernel
theorem dX2_stepsInCommon_6 : decode cX2_stepsInCommon 6 = .ok (.aload_n 2, 1) := by decide +kernel
theorem dX2_stepsInCommon_7 : decode cX2_stepsInCommon 7 = .ok (.getfield 19, 3) := by decide +kernel
theorem dX2_stepsInCommon_10 : decode cX2_stepsInCommon 10 = .ok (.iload_n 3, 1) := by decide +kernel
theorem dX2_stepsInCommon_11 : decode cX2_stepsInCommon 11 = .ok (.isub, 1) := by decide +kernel
theorem dX2_stepsInCommon_12 : decode cX2_stepsInCommon 12 = .ok (.invokestatic 27, 3) := by decide +kernel
theorem dX2_stepsInCommon_15 : decode cX2_stepsInCommon 15 = .ok (.iconst 1, 1) := by decide +kernel
theorem dX2_stepsInCommon_16 : decode cX2_stepsInCommon 16 = .ok (.isub, 1) := by decide +kernel
theorem dX2_stepsInCommon_17 : decode cX2_stepsInCommon 17 = .ok (.istore 4, 2) := by decide +kernel
theorem dX2_stepsInCommon_19 : decode cX2_stepsInCommon 19 = .ok (.iconst 0, 1) := by decide +kernel
theorem dX2_stepsInCommon_20 : decode cX2_stepsInCommon 20 = .ok (.istore 5, 2) := by decide +kernel
theorem dX2_stepsInCommon_22 : decode cX2_stepsInCommon 22 = .ok (.iload 5, 2) := by decide +kernel
theorem dX2_stepsInCommon_24 : decode cX2_stepsInCommon 24 = .ok (.iload 4, 2) := by decide +kernel
theorem dX2_stepsInCommon_26 : decode cX2_stepsInCommon 26 = .ok (.if_icmp .ge 28, 3) := by decide +kernel
theorem dX2_stepsInCommon_29 : decode cX2_stepsInCommon 29 = .ok (.aload_n 0, 1) := by decide +kernel
theorem dX2_stepsInCommon_30 : decode cX2_stepsInCommon 30 = .ok (.iload_n 1, 1) := by decide +kernel
theorem dX2_stepsInCommon_31 : decode cX2_stepsInCommon 31 = .ok (.iload 5, 2) := by decide +kernel
theorem dX2_stepsInCommon_33 : decode cX2_stepsInCommon 33 = .ok (.iadd, 1) := by decide +kernel
theorem dX2_stepsInCommon_34 : decode cX2_stepsInCommon 34 = .ok (.invokevirtual 30, 3) := by decide +kernel
theorem dX2_stepsInCommon_37 : decode cX2_stepsInCommon 37 = .ok (.aload_n 2, 1) := by decide +kernel
theorem dX2_stepsInCommon_38 : decode cX2_stepsInCommon 38 = .ok (.iload_n 3, 1) := by decide +kernel
theorem dX2_stepsInCommon_39 : decode cX2_stepsInCommon 39 = .ok (.iload 5, 2) := by decide +kernel
theorem dX2_stepsInCommon_41 : decode cX2_stepsInCommon 41 = .ok (.iadd, 1) := by decide +kernel
theorem dX2_stepsInCommon_42 : decode cX2_stepsInCommon 42 = .ok (.invokevirtual 30, 3) := by decide +kernel
theorem dX2_stepsInCommon_45 : decode cX2_stepsInCommon 45 = .ok (.if_icmp .ne 9, 3) := by decide +kernel
theorem dX2_stepsInCommon_48 : decode cX2_stepsInCommon 48 = .ok (.iinc 5 1, 3) := by decide +kernel
theorem dX2_stepsInCommon_51 : decode cX2_stepsInCommon 51 = .ok (.goto (-29), 3) := by decide +kernel
theorem dX2_stepsInCommon_54 : decode cX2_stepsInCommon 54 = .ok (.iload 5, 2) := by decide +kernel
theorem dX2_stepsInCommon_56 : decode cX2_stepsInCommon 56 = .ok (.ireturn, 1) := by decide +kernel
theorem dX2_beginsWithContourOf_0 : decode cX2_beginsWithContourOf 0 = .ok (.aload_n 1, 1) := by decide +kernel
theorem dX2_beginsWithContourOf_1 : decode cX2_beginsWithContourOf 1 = .ok (.getfield 19, 3) := by decide +kernel
theorem dX2_beginsWithContourOf_4 : decode cX2_beginsWithContourOf 4 = .ok (.aload_n 0, 1) := by decide +kernel
theorem dX2_beginsWithContourOf_5 : decode cX2_beginsWithContourOf 5 = .ok (.getfield 19, 3) := by decide +kernel
theorem dX2_beginsWithContourOf_8 : decode cX2_beginsWithContourOf 8 = .ok (.if_icmp .le 5, 3) := by decide +kernel
theorem dX2_beginsWithContourOf_11 : decode cX2_beginsWithContourOf 11 = .ok (.iconst 0, 1) := by decide +kernel
theorem dX2_beginsWithContourOf_12 : decode cX2_beginsWithContourOf 12 = .ok (.ireturn, 1) := by decide +kernel
theorem dX2_beginsWithContourOf_13 : decode cX2_beginsWithContourOf 13 = .ok (.iconst 0, 1) := by decide +kernel
theorem dX2_beginsWithContourOf_14 : decode cX2_beginsWithContourOf 14 = .ok (.istore_n 2, 1) := by decide +kernel
theorem dX2_beginsWithContourOf_15 : decode cX2_beginsWithContourOf 15 = .ok (.iload_n 2, 1) := by decide +kernel
theorem dX2_beginsWithContourOf_16 : decode cX2_beginsWithContourOf 16 = .ok (.aload_n 1, 1) := by decide +kernel
theorem dX2_beginsWithContourOf_17 : decode cX2_beginsWithContourOf 17 = .ok (.getfield 19, 3) := by decide +kernel
theorem dX2_beginsWithContourOf_20 : decode cX2_beginsWithContourOf 20 = .ok (.iconst 1, 1) := by decide +kernel
theorem dX2_beginsWithContourOf_21 : decode cX2_beginsWithContourOf 21 = .ok (.isub, 1) := by decide +kernel
theorem dX2_beginsWithContourOf_22 : decode cX2_beginsWithContourOf 22 = .ok (.if_icmp .ge 30, 3) := by decide +kernel
theorem dX2_beginsWithContourOf_25 : decode cX2_beginsWithContourOf 25 = .ok (.aload_n 0, 1) := by decide +kernel
theorem dX2_beginsWithContourOf_26 : decode cX2_beginsWithContourOf 26 = .ok (.iload_n 2, 1) := by decide +kernel
theorem dX2_beginsWithContourOf_27 : decode cX2_beginsWithContourOf 27 = .ok (.invokevirtual 30, 3) := by decide +kernel
theorem dX2_beginsWithContourOf_30 : decode cX2_beginsWithContourOf 30 = .ok (.invokestatic 33, 3) := by decide +kernel
theorem dX2_beginsWithContourOf_33 : decode cX2_beginsWithContourOf 33 = .ok (.aload_n 1, 1) := by decide +kernel
theorem dX2_beginsWithContourOf_34 : decode cX2_beginsWithContourOf 34 = .ok (.iload_n 2, 1) := by decide +kernel
theorem dX2_beginsWithContourOf_35 : decode cX2_beginsWithContourOf 35 = .ok (.invokevirtual 30, 3) := by decide +kernel
theorem dX2_beginsWithContourOf_38 : decode cX2_beginsWithContourOf 38 = .ok (.invokestatic 33, 3) := by decide +kernel
theorem dX2_beginsWithContourOf_41 : decode cX2_beginsWithContourOf 41 = .ok (.if_icmp .eq 5, 3) := by decide +kernel
theorem dX2_beginsWithContourOf_44 : decode cX2_beginsWithContourOf 44 = .ok (.iconst 0, 1) := by decide +kernel
theorem dX2_beginsWithContourOf_45 : decode cX2_beginsWithContourOf 45 = .ok (.ireturn, 1) := by decide +kernel
theorem dX2_beginsWithContourOf_46 : decode cX2_beginsWithContourOf 46 = .ok (.iinc 2 1, 3) := by decide +kernel
theorem dX2_beginsWithContourOf_49 : decode cX2_beginsWithContourOf 49 = .ok (.goto (-34), 3) := by decide +kernel
theorem dX2_beginsWithContourOf_52 : decode cX2_beginsWithContourOf 52 = .ok (.iconst 1, 1) := by decide +kernel
theorem dX2_beginsWithContourOf_53 : decode cX2_beginsWithContourOf 53 = .ok (.ireturn, 1) := by decide +kernel
theorem dX2_direction_0 : decode cX2_direction 0 = .ok (.iload_n 0, 1) := by decide +kernel
theorem dX2_direction_1 : decode cX2_direction 1 = .ok (.ifCond .le 7, 3) := by decide +kernel
theorem dX2_direction_4 : decode cX2_direction 4 = .ok (.iconst 1, 1) := by decide +kernel
theorem dX2_direction_5 : decode cX2_direction 5 = .ok (.goto 12, 3) := by decide +kernel
theorem dX2_direction_8 : decode cX2_direction 8 = .ok (.iload_n 0, 1) := by decide +kernel
theorem dX2_direction_9 : decode cX2_direction 9 = .ok (.ifCond .ge 7, 3) := by decide +kernel
theorem dX2_direction_12 : decode cX2_direction 12 = .ok (.iconst (-1), 1) := by decide +kernel
theorem dX2_direction_13 : decode cX2_direction 13 = .ok (.goto 4, 3) := by decide +kernel
theorem dX2_direction_16 : decode cX2_direction 16 = .ok (.iconst 0, 1) := by decide +kernel
theorem dX2_direction_17 : decode cX2_direction 17 = .ok (.ireturn, 1) := by decide +kernel
theorem dX3_init_0 : decode cX3_init 0 = .ok (.aload_n 0, 1) := by decide +kernel
theorem dX3_init_1 : decode cX3_init 1 = .ok (.invokespecial 3, 3) := by decide +kernel
theorem dX3_init_4 : decode cX3_init 4 = .ok (.aload_n 0, 1) := by decide +kernel
theorem dX3_init_5 : decode cX3_init 5 = .ok (.new 9, 3) := by decide +kernel
theorem dX3_init_8 : decode cX3_init 8 = .ok (.dup, 1) := by decide +kernel
theorem dX3_init_9 : decode cX3_init 9 = .ok (.bipush 24, 2) := by decide +kernel
theorem dX3_init_11 : decode cX3_init 11 = .ok (.invokespecial 11, 3) := by decide +kernel
theorem dX3_init_14 : decode cX3_init 14 = .ok (.putfield 14, 3) := by decide +kernel
theorem dX3_init_17 : decode cX3_init 17 = .ok (.aload_n 0, 1) := by decide +kernel
theorem dX3_init_18 : decode cX3_init 18 = .ok (.new 9, 3) := by decide +kernel
theorem dX3_init_21 : decode cX3_init 21 = .ok (.dup, 1) := by decide +kernel
theorem dX3_init_22 : decode cX3_init 22 = .ok (.bipush 24, 2) := by decide +kernel
theorem dX3_init_24 : decode cX3_init 24 = .ok (.invokespecial 11, 3) := by decide +kernel
theorem dX3_init_27 : decode cX3_init 27 = .ok (.putfield 20, 3) := by decide +kernel
theorem dX3_init_30 : decode cX3_init 30 = .ok (.return_, 1) := by decide +kernel
theorem dX3_size_0 : decode cX3_size 0 = .ok (.aload_n 0, 1) := by decide +kernel
theorem dX3_size_1 : decode cX3_size 1 = .ok (.getfield 14, 3) := by decide +kernel
theorem dX3_size_4 : decode cX3_size 4 = .ok (.invokevirtual 23, 3) := by decide +kernel
theorem dX3_size_7 : decode cX3_size 7 = .ok (.ireturn, 1) := by decide +kernel
theorem dX3_append_0 : decode cX3_append 0 = .ok (.aload_n 0, 1) := by decide +kernel
theorem dX3_append_1 : decode cX3_append 1 = .ok (.getfield 14, 3) := by decide +kernel
theorem dX3_append_4 : decode cX3_append 4 = .ok (.iload_n 1, 1) := by decide +kernel
theorem dX3_append_5 : decode cX3_append 5 = .ok (.invokevirtual 27, 3) := by decide +kernel
theorem dX3_append_8 : decode cX3_append 8 = .ok (.aload_n 0, 1) := by decide +kernel
theorem dX3_append_9 : decode cX3_append 9 = .ok (.getfield 20, 3) := by decide +kernel
theorem dX3_append_12 : decode cX3_append 12 = .ok (.iload_n 2, 1) := by decide +kernel
theorem dX3_append_13 : decode cX3_append 13 = .ok (.invokevirtual 27, 3) := by decide +kernel
theorem dX3_append_16 : decode cX3_append 16 = .ok (.return_, 1) := by decide +kernel
theorem dX4_init_0 : decode cX4_init 0 = .ok (.aload_n 0, 1) := by decide +kernel
theorem dX4_init_1 : decode cX4_init 1 = .ok (.invokespecial 1, 3) := by decide +kernel
theorem dX4_init_4 : decode cX4_init 4 = .ok (.aload_n 0, 1) := by decide +kernel
theorem dX4_init_5 : decode cX4_init 5 = .ok (.bipush 16, 2) := by decide +kernel
theorem dX4_init_7 : decode cX4_init 7 = .ok (.anewarray 9, 3) := by decide +kernel
theorem dX4_init_10 : decode cX4_init 10 = .ok (.putfield 11, 3) := by decide +kernel
theorem dX4_init_13 : decode cX4_init 13 = .ok (.aload_n 0, 1) := by decide +kernel
theorem dX4_init_14 : decode cX4_init 14 = .ok (.new 15, 3) := by decide +kernel
theorem dX4_init_17 : decode cX4_init 17 = .ok (.dup, 1) := by decide +kernel
theorem dX4_init_18 : decode cX4_init 18 = .ok (.invokespecial 17, 3) := by decide +kernel
theorem dX4_init_21 : decode cX4_init 21 = .ok (.putfield 18, 3) := by decide +kernel
theorem dX4_init_24 : decode cX4_init 24 = .ok (.aload_n 0, 1) := by decide +kernel
theorem dX4_init_25 : decode cX4_init 25 = .ok (.aload_n 0, 1) := by decide +kernel
theorem dX4_init_26 : decode cX4_init 26 = .ok (.getfield 18, 3) := by decide +kernel
theorem dX4_init_29 : decode cX4_init 29 = .ok (.getfield 22, 3) := by decide +kernel
theorem dX4_init_32 : decode cX4_init 32 = .ok (.putfield 26, 3) := by decide +kernel
theorem dX4_init_35 : decode cX4_init 35 = .ok (.aload_n 0, 1) := by decide +kernel
theorem dX4_init_36 : decode cX4_init 36 = .ok (.new 29, 3) := by decide +kernel
theorem dX4_init_39 : decode cX4_init 39 = .ok (.dup, 1) := by decide +kernel
theorem dX4_init_40 : decode cX4_init 40 = .ok (.invokespecial 31, 3) := by decide +kernel
theorem dX4_init_43 : decode cX4_init 43 = .ok (.putfield 32, 3) := by decide +kernel
theorem dX4_init_46 : decode cX4_init 46 = .ok (.aload_n 0, 1) := by decide +kernel
theorem dX4_init_47 : decode cX4_init 47 = .ok (.new 36, 3) := by decide +kernel
theorem dX4_init_50 : decode cX4_init 50 = .ok (.dup, 1) := by decide +kernel
theorem dX4_init_51 : decode cX4_init 51 = .ok (.bipush 16, 2) := by decide +kernel
theorem dX4_init_53 : decode cX4_init 53 = .ok (.invokespecial 38, 3) := by decide +kernel
theorem dX4_init_56 : decode cX4_init 56 = .ok (.putfield 41, 3) := by decide +kernel
theorem dX4_init_59 : decode cX4_init 59 = .ok (.aload_n 0, 1) := by decide +kernel
theorem dX4_init_60 : decode cX4_init 60 = .ok (.new 36, 3) := by decide +kernel
theorem dX4_init_63 : decode cX4_init 63 = .ok (.dup, 1) := by decide +kernel
theorem dX4_init_64 : decode cX4_init 64 = .ok (.sipush 384, 3) := by decide +kernel
theorem dX4_init_67 : decode cX4_init 67 = .ok (.invokespecial 38, 3) := by decide +kernel
theorem dX4_init_70 : decode cX4_init 70 = .ok (.putfield 44, 3) := by decide +kernel
theorem dX4_init_73 : decode cX4_init 73 = .ok (.return_, 1) := by decide +kernel
theorem dX4_add_0 : decode cX4_add 0 = .ok (.iload_n 1, 1) := by decide +kernel
theorem dX4_add_1 : decode cX4_add 1 = .ok (.iload_n 2, 1) := by decide +kernel
theorem dX4_add_2 : decode cX4_add 2 = .ok (.invokestatic 47, 3) := by decide +kernel
theorem dX4_add_5 : decode cX4_add 5 = .ok (.aload_n 0, 1) := by decide +kernel
theorem dX4_add_6 : decode cX4_add 6 = .ok (.getfield 51, 3) := by decide +kernel
theorem dX4_add_9 : decode cX4_add 9 = .ok (.iconst 0, 1) := by decide +kernel
theorem dX4_add_10 : decode cX4_add 10 = .ok (.aload_n 0, 1) := by decide +kernel
theorem dX4_add_11 : decode cX4_add 11 = .ok (.getfield 11, 3) := by decide +kernel
theorem dX4_add_14 : decode cX4_add 14 = .ok (.arraylength, 1) := by decide +kernel
theorem dX4_add_15 : decode cX4_add 15 = .ok (.iconst 1, 1) := by decide +kernel
theorem dX4_add_16 : decode cX4_add 16 = .ok (.isub, 1) := by decide +kernel
theorem dX4_add_17 : decode cX4_add 17 = .ok (.invokestatic 55, 3) := by decide +kernel
theorem dX4_add_20 : decode cX4_add 20 = .ok (.ifCond .ne 13, 3) := by decide +kernel
theorem dX4_add_23 : decode cX4_add 23 = .ok (.new 59, 3) := by decide +kernel
theorem dX4_add_26 : decode cX4_add 26 = .ok (.dup, 1) := by decide +kernel
theorem dX4_add_27 : decode cX4_add 27 = .ok (.ldc 61, 2) := by decide +kernel
theorem dX4_add_29 : decode cX4_add 29 = .ok (.invokespecial 63, 3) := by decide +kernel
theorem dX4_add_32 : decode cX4_add 32 = .ok (.athrow, 1) := by decide +kernel
theorem dX4_add_33 : decode cX4_add 33 = .ok (.new 9, 3) := by decide +kernel
theorem dX4_add_36 : decode cX4_add 36 = .ok (.dup, 1) := by decide +kernel
theorem dX4_add_37 : decode cX4_add 37 = .ok (.invokespecial 66, 3) := by decide +kernel
theorem dX4_add_40 : decode cX4_add 40 = .ok (.astore_n 3, 1) := by decide +kernel
theorem dX4_add_41 : decode cX4_add 41 = .ok (.aload_n 3, 1) := by decide +kernel
theorem dX4_add_42 : decode cX4_add 42 = .ok (.iload_n 1, 1) := by decide +kernel
theorem dX4_add_43 : decode cX4_add 43 = .ok (.iload_n 2, 1) := by decide +kernel
theorem dX4_add_44 : decode cX4_add 44 = .ok (.invokevirtual 67, 3) := by decide +kernel
theorem dX4_add_47 : decode cX4_add 47 = .ok (.aload_n 0, 1) := by decide +kernel
theorem dX4_add_48 : decode cX4_add 48 = .ok (.getfield 11, 3) := by decide +kernel
theorem dX4_add_51 : decode cX4_add 51 = .ok (.aload_n 0, 1) := by decide +kernel
theorem dX4_add_52 : decode cX4_add 52 = .ok (.getfield 51, 3) := by decide +kernel
theorem dX4_add_55 : decode cX4_add 55 = .ok (.aload_n 3, 1) := by decide +kernel
theorem dX4_add_56 : decode cX4_add 56 = .ok (.aastore, 1) := by decide +kernel
theorem dX4_add_57 : decode cX4_add 57 = .ok (.aload_n 0, 1) := by decide +kernel
theorem dX4_add_58 : decode cX4_add 58 = .ok (.dup, 1) := by decide +kernel
theorem dX4_add_59 : decode cX4_add 59 = .ok (.getfield 51, 3) := by decide +kernel
theorem dX4_add_62 : decode cX4_add 62 = .ok (.iconst 1, 1) := by decide +kernel
theorem dX4_add_63 : decode cX4_add 63 = .ok (.iadd, 1) := by decide +kernel
theorem dX4_add_64 : decode cX4_add 64 = .ok (.putfield 51, 3) := by decide +kernel
theorem dX4_add_67 : decode cX4_add 67 = .ok (.aload_n 0, 1) := by decide +kernel
theorem dX4_add_68 : decode cX4_add 68 = .ok (.getfield 32, 3) := by decide +kernel
theorem dX4_add_71 : decode cX4_add 71 = .ok (.invokevirtual 70, 3) := by decide +kernel
theorem dX4_add_74 : decode cX4_add 74 = .ok (.aload_n 0, 1) := by decide +kernel
theorem dX4_add_75 : decode cX4_add 75 = .ok (.getfield 51, 3) := by decide +kernel
theorem dX4_add_78 : decode cX4_add 78 = .ok (.iconst 1, 1) := by decide +kernel
theorem dX4_add_79 : decode cX4_add 79 = .ok (.isub, 1) := by decide +kernel
theorem dX4_add_80 : decode cX4_add 80 = .ok (.ireturn, 1) := by decide +kernel
theorem dX4_note_0 : decode cX4_note 0 = .ok (.aload_n 0, 1) := by decide +kernel
theorem dX4_note_1 : decode cX4_note 1 = .ok (.iload_n 1, 1) := by decide +kernel
theorem dX4_note_2 : decode cX4_note 2 = .ok (.invokevirtual 73, 3) := by decide +kernel
theorem dX4_note_5 : decode cX4_note 5 = .ok (.astore 4, 2) := by decide +kernel
theorem dX4_note_7 : decode cX4_note 7 = .ok (.iload_n 2, 1) := by decide +kernel
theorem dX4_note_8 : decode cX4_note 8 = .ok (.iload_n 3, 1) := by decide +kernel
theorem dX4_note_9 : decode cX4_note 9 = .ok (.invokestatic 47, 3) := by decide +kernel
theorem dX4_note_12 : decode cX4_note 12 = .ok (.aload 4, 2) := by decide +kernel
theorem dX4_note_14 : decode cX4_note 14 = .ok (.getfield 77, 3) := by decide +kernel
theorem dX4_note_17 : decode cX4_note 17 = .ok (.invokevirtual 80, 3) := by decide +kernel
theorem dX4_note_20 : decode cX4_note 20 = .ok (.ifCond .eq 13, 3) := by decide +kernel
theorem dX4_note_23 : decode cX4_note 23 = .ok (.new 59, 3) := by decide +kernel
theorem dX4_note_26 : decode cX4_note 26 = .ok (.dup, 1) := by decide +kernel
theorem dX4_note_27 : decode cX4_note 27 = .ok (.ldc 84, 2) := by decide +kernel
theorem dX4_note_29 : decode cX4_note 29 = .ok (.invokespecial 63, 3) := by decide +kernel
theorem dX4_note_32 : decode cX4_note 32 = .ok (.athrow, 1) := by decide +kernel
theorem dX4_note_33 : decode cX4_note 33 = .ok (.aload 4, 2) := by decide +kernel
theorem dX4_note_35 : decode cX4_note 35 = .ok (.iload_n 2, 1) := by decide +kernel
theorem dX4_note_36 : decode cX4_note 36 = .ok (.iload_n 3, 1) := by decide +kernel
theorem dX4_note_37 : decode cX4_note 37 = .ok (.invokevirtual 67, 3) := by decide +kernel
theorem dX4_note_40 : decode cX4_note 40 = .ok (.aload 4, 2) := by decide +kernel
theorem dX4_note_42 : decode cX4_note 42 = .ok (.invokevirtual 86, 3) := by decide +kernel
theorem dX4_note_45 : decode cX4_note 45 = .ok (.ireturn, 1) := by decide +kernel
theorem dX4_correct_0 : decode cX4_correct 0 = .ok (.aload_n 0, 1) := by decide +kernel
theorem dX4_correct_1 : decode cX4_correct 1 = .ok (.iload_n 1, 1) := by decide +kernel
theorem dX4_correct_2 : decode cX4_correct 2 = .ok (.invokevirtual 73, 3) := by decide +kernel
theorem dX4_correct_5 : decode cX4_correct 5 = .ok (.astore 5, 2) := by decide +kernel
theorem dX4_correct_7 : decode cX4_correct 7 = .ok (.iload_n 2, 1) := by decide +kernel
theorem dX4_correct_8 : decode cX4_correct 8 = .ok (.ifCond .lt 12, 3) := by decide +kernel
theorem dX4_correct_11 : decode cX4_correct 11 = .ok (.iload_n 2, 1) := by decide +kernel
theorem dX4_correct_12 : decode cX4_correct 12 = .ok (.aload 5, 2) := by decide +kernel
theorem dX4_correct_14 : decode cX4_correct 14 = .ok (.invokevirtual 86, 3) := by decide +kernel
theorem dX4_correct_17 : decode cX4_correct 17 = .ok (.if_icmp .lt 13, 3) := by decide +kernel
theorem dX4_correct_20 : decode cX4_correct 20 = .ok (.new 90, 3) := by decide +kernel
theorem dX4_correct_23 : decode cX4_correct 23 = .ok (.dup, 1) := by decide +kernel
theorem dX4_correct_24 : decode cX4_correct 24 = .ok (.ldc 92, 2) := by decide +kernel
theorem dX4_correct_26 : decode cX4_correct 26 = .ok (.invokespecial 94, 3) := by decide +kernel
theorem dX4_correct_29 : decode cX4_correct 29 = .ok (.athrow, 1) := by decide +kernel
theorem dX4_correct_30 : decode cX4_correct 30 = .ok (.iload_n 3, 1) := by decide +kernel
theorem dX4_correct_31 : decode cX4_correct 31 = .ok (.iload 4, 2) := by decide +kernel
theorem dX4_correct_33 : decode cX4_correct 33 = .ok (.invokestatic 47, 3) := by decide +kernel
theorem dX4_correct_36 : decode cX4_correct 36 = .ok (.aload 5, 2) := by decide +kernel
theorem dX4_correct_38 : decode cX4_correct 38 = .ok (.getfield 77, 3) := by decide +kernel
theorem dX4_correct_41 : decode cX4_correct 41 = .ok (.iload_n 2, 1) := by decide +kernel
theorem dX4_correct_42 : decode cX4_correct 42 = .ok (.invokevirtual 95, 3) := by decide +kernel
theorem dX4_correct_45 : decode cX4_correct 45 = .ok (.istore 6, 2) := by decide +kernel
theorem dX4_correct_47 : decode cX4_correct 47 = .ok (.aload 5, 2) := by decide +kernel
theorem dX4_correct_49 : decode cX4_correct 49 = .ok (.getfield 77, 3) := by decide +kernel
theorem dX4_correct_52 : decode cX4_correct 52 = .ok (.iload_n 2, 1) := by decide +kernel
theorem dX4_correct_53 : decode cX4_correct 53 = .ok (.iload_n 3, 1) := by decide +kernel
theorem dX4_correct_54 : decode cX4_correct 54 = .ok (.invokevirtual 99, 3) := by decide +kernel
theorem dX4_correct_57 : decode cX4_correct 57 = .ok (.aload 5, 2) := by decide +kernel
theorem dX4_correct_59 : decode cX4_correct 59 = .ok (.getfield 102, 3) := by decide +kernel
theorem dX4_correct_62 : decode cX4_correct 62 = .ok (.iload_n 2, 1) := by decide +kernel
theorem dX4_correct_63 : decode cX4_correct 63 = .ok (.iload 4, 2) := by decide +kernel
theorem dX4_correct_65 : decode cX4_correct 65 = .ok (.invokevirtual 99, 3) := by decide +kernel
theorem dX4_correct_68 : decode cX4_correct 68 = .ok (.iload 6, 2) := by decide +kernel
theorem dX4_correct_70 : decode cX4_correct 70 = .ok (.ireturn, 1) := by decide +kernel
theorem dX4_shift_0 : decode cX4_shift 0 = .ok (.aload_n 0, 1) := by decide +kernel
theorem dX4_shift_1 : decode cX4_shift 1 = .ok (.iload_n 1, 1) := by decide +kernel
theorem dX4_shift_2 : decode cX4_shift 2 = .ok (.invokevirtual 73, 3) := by decide +kernel
theorem dX4_shift_5 : decode cX4_shift 5 = .ok (.astore_n 3, 1) := by decide +kernel
theorem dX4_shift_6 : decode cX4_shift 6 = .ok (.iload_n 2, 1) := by decide +kernel
theorem dX4_shift_7 : decode cX4_shift 7 = .ok (.bipush (-60), 2) := by decide +kernel
theorem dX4_shift_9 : decode cX4_shift 9 = .ok (.bipush 60, 2) := by decide +kernel
theorem dX4_shift_11 : decode cX4_shift 11 = .ok (.invokestatic 105, 3) := by decide +kernel
theorem dX4_shift_14 : decode cX4_shift 14 = .ok (.iconst 0, 1) := by decide +kernel
theorem dX4_shift_15 : decode cX4_shift 15 = .ok (.istore 4, 2) := by decide +kernel
theorem dX4_shift_17 : decode cX4_shift 17 = .ok (.iload 4, 2) := by decide +kernel
theorem dX4_shift_19 : decode cX4_shift 19 = .ok (.aload_n 3, 1) := by decide +kernel
theorem dX4_shift_20 : decode cX4_shift 20 = .ok (.invokevirtual 86, 3) := by decide +kernel
theorem dX4_shift_23 : decode cX4_shift 23 = .ok (.if_icmp .ge 39, 3) := by decide +kernel
theorem dX4_shift_26 : decode cX4_shift 26 = .ok (.aload_n 3, 1) := by decide +kernel
theorem dX4_shift_27 : decode cX4_shift 27 = .ok (.getfield 77, 3) := by decide +kernel
theorem dX4_shift_30 : decode cX4_shift 30 = .ok (.iload 4, 2) := by decide +kernel
theorem dX4_shift_32 : decode cX4_shift 32 = .ok (.invokevirtual 95, 3) := by decide +kernel
theorem dX4_shift_35 : decode cX4_shift 35 = .ok (.iload_n 2, 1) := by decide +kernel
theorem dX4_shift_36 : decode cX4_shift 36 = .ok (.iadd, 1) := by decide +kernel
theorem dX4_shift_37 : decode cX4_shift 37 = .ok (.iconst 0, 1) := by decide +kernel
theorem dX4_shift_38 : decode cX4_shift 38 = .ok (.bipush 60, 2) := by decide +kernel
theorem dX4_shift_40 : decode cX4_shift 40 = .ok (.invokestatic 55, 3) := by decide +kernel
theorem dX4_shift_43 : decode cX4_shift 43 = .ok (.ifCond .ne 13, 3) := by decide +kernel
theorem dX4_shift_46 : decode cX4_shift 46 = .ok (.new 59, 3) := by decide +kernel
theorem dX4_shift_49 : decode cX4_shift 49 = .ok (.dup, 1) := by decide +kernel
theorem dX4_shift_50 : decode cX4_shift 50 = .ok (.ldc 109, 2) := by decide +kernel
theorem dX4_shift_52 : decode cX4_shift 52 = .ok (.invokespecial 63, 3) := by decide +kernel
theorem dX4_shift_55 : decode cX4_shift 55 = .ok (.athrow, 1) := by decide +kernel
theorem dX4_shift_56 : decode cX4_shift 56 = .ok (.iinc 4 1, 3) := by decide +kernel
theorem dX4_shift_59 : decode cX4_shift 59 = .ok (.goto (-42), 3) := by decide +kernel
theorem dX4_shift_62 : decode cX4_shift 62 = .ok (.iconst 0, 1) := by decide +kernel
theorem dX4_shift_63 : decode cX4_shift 63 = .ok (.istore 4, 2) := by decide +kernel
theorem dX4_shift_65 : decode cX4_shift 65 = .ok (.iload 4, 2) := by decide +kernel
theorem dX4_shift_67 : decode cX4_shift 67 = .ok (.aload_n 3, 1) := by decide +kernel
theorem dX4_shift_68 : decode cX4_shift 68 = .ok (.invokevirtual 86, 3) := by decide +kernel
theorem dX4_shift_71 : decode cX4_shift 71 = .ok (.if_icmp .ge 29, 3) := by decide +kernel
theorem dX4_shift_74 : decode cX4_shift 74 = .ok (.aload_n 3, 1) := by decide +kernel
theorem dX4_shift_75 : decode cX4_shift 75 = .ok (.getfield 77, 3) := by decide +kernel
theorem dX4_shift_78 : decode cX4_shift 78 = .ok (.iload 4, 2) := by decide +kernel
theorem dX4_shift_80 : decode cX4_shift 80 = .ok (.aload_n 3, 1) := by decide +kernel
theorem dX4_shift_81 : decode cX4_shift 81 = .ok (.getfield 77, 3) := by decide +kernel
theorem dX4_shift_84 : decode cX4_shift 84 = .ok (.iload 4, 2) := by decide +kernel
theorem dX4_shift_86 : decode cX4_shift 86 = .ok (.invokevirtual 95, 3) := by decide +kernel
theorem dX4_shift_89 : decode cX4_shift 89 = .ok (.iload_n 2, 1) := by decide +kernel
theorem dX4_shift_90 : decode cX4_shift 90 = .ok (.iadd, 1) := by decide +kernel
theorem dX4_shift_91 : decode cX4_shift 91 = .ok (.invokevirtual 99, 3) := by decide +kernel
theorem dX4_shift_94 : decode cX4_shift 94 = .ok (.iinc 4 1, 3) := by decide +kernel
theorem dX4_shift_97 : decode cX4_shift 97 = .ok (.goto (-32), 3) := by decide +kernel
theorem dX4_shift_100 : decode cX4_shift 100 = .ok (.return_, 1) := by decide +kernel
theorem dX4_retire_0 : decode cX4_retire 0 = .ok (.aload_n 0, 1) := by decide +kernel
theorem dX4_retire_1 : decode cX4_retire 1 = .ok (.iload_n 1, 1) := by decide +kernel
theorem dX4_retire_2 : decode cX4_retire 2 = .ok (.invokevirtual 73, 3) := by decide +kernel
theorem dX4_retire_5 : decode cX4_retire 5 = .ok (.iconst 1, 1) := by decide +kernel
theorem dX4_retire_6 : decode cX4_retire 6 = .ok (.putfield 111, 3) := by decide +kernel
theorem dX4_retire_9 : decode cX4_retire 9 = .ok (.iconst 0, 1) := by decide +kernel
theorem dX4_retire_10 : decode cX4_retire 10 = .ok (.istore_n 2, 1) := by decide +kernel
theorem dX4_retire_11 : decode cX4_retire 11 = .ok (.iconst 0, 1) := by decide +kernel
theorem dX4_retire_12 : decode cX4_retire 12 = .ok (.istore_n 3, 1) := by decide +kernel
theorem dX4_retire_13 : decode cX4_retire 13 = .ok (.iload_n 3, 1) := by decide +kernel
theorem dX4_retire_14 : decode cX4_retire 14 = .ok (.aload_n 0, 1) := by decide +kernel
theorem dX4_retire_15 : decode cX4_retire 15 = .ok (.getfield 51, 3) := by decide +kernel
theorem dX4_retire_18 : decode cX4_retire 18 = .ok (.if_icmp .ge 20, 3) := by decide +kernel
theorem dX4_retire_21 : decode cX4_retire 21 = .ok (.aload_n 0, 1) := by decide +kernel
theorem dX4_retire_22 : decode cX4_retire 22 = .ok (.iload_n 3, 1) := by decide +kernel
theorem dX4_retire_23 : decode cX4_retire 23 = .ok (.invokevirtual 115, 3) := by decide +kernel
theorem dX4_retire_26 : decode cX4_retire 26 = .ok (.ifnull 6, 3) := by decide +kernel
theorem dX4_retire_29 : decode cX4_retire 29 = .ok (.iinc 2 1, 3) := by decide +kernel
theorem dX4_retire_32 : decode cX4_retire 32 = .ok (.iinc 3 1, 3) := by decide +kernel
theorem dX4_retire_35 : decode cX4_retire 35 = .ok (.goto (-22), 3) := by decide +kernel
theorem dX4_retire_38 : decode cX4_retire 38 = .ok (.iload_n 2, 1) := by decide +kernel
theorem dX4_retire_39 : decode cX4_retire 39 = .ok (.ireturn, 1) := by decide +kernel
theorem dX4_tunes_0 : decode cX4_tunes 0 = .ok (.aload_n 0, 1) := by decide +kernel
theorem dX4_tunes_1 : decode cX4_tunes 1 = .ok (.getfield 51, 3) := by decide +kernel
theorem dX4_tunes_4 : decode cX4_tunes 4 = .ok (.ireturn, 1) := by decide +kernel
theorem dX4_notes_0 : decode cX4_notes 0 = .ok (.aload_n 0, 1) := by decide +kernel
theorem dX4_notes_1 : decode cX4_notes 1 = .ok (.iload_n 1, 1) := by decide +kernel
theorem dX4_notes_2 : decode cX4_notes 2 = .ok (.invokevirtual 118, 3) := by decide +kernel
theorem dX4_notes_5 : decode cX4_notes 5 = .ok (.invokevirtual 86, 3) := by decide +kernel
theorem dX4_notes_8 : decode cX4_notes 8 = .ok (.ireturn, 1) := by decide +kernel
theorem dX4_step_0 : decode cX4_step 0 = .ok (.aload_n 0, 1) := by decide +kernel
theorem dX4_step_1 : decode cX4_step 1 = .ok (.iload_n 1, 1) := by decide +kernel
theorem dX4_step_2 : decode cX4_step 2 = .ok (.invokevirtual 118, 3) := by decide +kernel
theorem dX4_step_5 : decode cX4_step 5 = .ok (.astore_n 3, 1) := by decide +kernel
theorem dX4_step_6 : decode cX4_step 6 = .ok (.iload_n 2, 1) := by decide +kernel
theorem dX4_step_7 : decode cX4_step 7 = .ok (.ifCond .lt 13, 3) := by decide +kernel
theorem dX4_step_10 : decode cX4_step 10 = .ok (.iload_n 2, 1) := by decide +kernel
theorem dX4_step_11 : decode cX4_step 11 = .ok (.aload_n 3, 1) := by decide +kernel
theorem dX4_step_12 : decode cX4_step 12 = .ok (.invokevirtual 86, 3) := by decide +kernel
theorem dX4_step_15 : decode cX4_step 15 = .ok (.iconst 1, 1) := by decide +kernel
theorem dX4_step_16 : decode cX4_step 16 = .ok (.isub, 1) := by decide +kernel
theorem dX4_step_17 : decode cX4_step 17 = .ok (.if_icmp .lt 13, 3) := by decide +kernel
theorem dX4_step_20 : decode cX4_step 20 = .ok (.new 90, 3) := by decide +kernel
theorem dX4_step_23 : decode cX4_step 23 = .ok (.dup, 1) := by decide +kernel
theorem dX4_step_24 : decode cX4_step 24 = .ok (.ldc 121, 2) := by decide +kernel
theorem dX4_step_26 : decode cX4_step 26 = .ok (.invokespecial 94, 3) := by decide +kernel
theorem dX4_step_29 : decode cX4_step 29 = .ok (.athrow, 1) := by decide +kernel
theorem dX4_step_30 : decode cX4_step 30 = .ok (.aload_n 3, 1) := by decide +kernel
theorem dX4_step_31 : decode cX4_step 31 = .ok (.getfield 77, 3) := by decide +kernel
theorem dX4_step_34 : decode cX4_step 34 = .ok (.iload_n 2, 1) := by decide +kernel
theorem dX4_step_35 : decode cX4_step 35 = .ok (.invokevirtual 123, 3) := by decide +kernel
theorem dX4_step_38 : decode cX4_step 38 = .ok (.ireturn, 1) := by decide +kernel
theorem dX4_shared_0 : decode cX4_shared 0 = .ok (.aload_n 0, 1) := by decide +kernel
theorem dX4_shared_1 : decode cX4_shared 1 = .ok (.iload_n 1, 1) := by decide +kernel
theorem dX4_shared_2 : decode cX4_shared 2 = .ok (.invokevirtual 118, 3) := by decide +kernel
theorem dX4_shared_5 : decode cX4_shared 5 = .ok (.getfield 77, 3) := by decide +kernel
theorem dX4_shared_8 : decode cX4_shared 8 = .ok (.astore_n 3, 1) := by decide +kernel
theorem dX4_shared_9 : decode cX4_shared 9 = .ok (.aload_n 0, 1) := by decide +kernel
theorem dX4_shared_10 : decode cX4_shared 10 = .ok (.iload_n 2, 1) := by decide +kernel
theorem dX4_shared_11 : decode cX4_shared 11 = .ok (.invokevirtual 118, 3) := by decide +kernel
theorem dX4_shared_14 : decode cX4_shared 14 = .ok (.getfield 77, 3) := by decide +kernel
theorem dX4_shared_17 : decode cX4_shared 17 = .ok (.astore 4, 2) := by decide +kernel
theorem dX4_shared_19 : decode cX4_shared 19 = .ok (.iconst 0, 1) := by decide +kernel
theorem dX4_shared_20 : decode cX4_shared 20 = .ok (.istore 5, 2) := by decide +kernel
theorem dX4_shared_22 : decode cX4_shared 22 = .ok (.iconst 0, 1) := by decide +kernel
theorem dX4_shared_23 : decode cX4_shared 23 = .ok (.istore 6, 2) := by decide +kernel
theorem dX4_shared_25 : decode cX4_shared 25 = .ok (.iload 6, 2) := by decide +kernel
theorem dX4_shared_27 : decode cX4_shared 27 = .ok (.aload_n 3, 1) := by decide +kernel
theorem dX4_shared_28 : decode cX4_shared 28 = .ok (.invokevirtual 126, 3) := by decide +kernel
theorem dX4_shared_31 : decode cX4_shared 31 = .ok (.if_icmp .ge 45, 3) := by decide +kernel
theorem dX4_shared_34 : decode cX4_shared 34 = .ok (.iconst 0, 1) := by decide +kernel
theorem dX4_shared_35 : decode cX4_shared 35 = .ok (.istore 7, 2) := by decide +kernel
theorem dX4_shared_37 : decode cX4_shared 37 = .ok (.iload 7, 2) := by decide +kernel
theorem dX4_shared_39 : decode cX4_shared 39 = .ok (.aload 4, 2) := by decide +kernel
theorem dX4_shared_41 : decode cX4_shared 41 = .ok (.invokevirtual 126, 3) := by decide +kernel
theorem dX4_shared_44 : decode cX4_shared 44 = .ok (.if_icmp .ge 26, 3) := by decide +kernel
theorem dX4_shared_47 : decode cX4_shared 47 = .ok (.iload 5, 2) := by decide +kernel
theorem dX4_shared_49 : decode cX4_shared 49 = .ok (.aload_n 3, 1) := by decide +kernel
theorem dX4_shared_50 : decode cX4_shared 50 = .ok (.iload 6, 2) := by decide +kernel
theorem dX4_shared_52 : decode cX4_shared 52 = .ok (.aload 4, 2) := by decide +kernel
theorem dX4_shared_54 : decode cX4_shared 54 = .ok (.iload 7, 2) := by decide +kernel
theorem dX4_shared_56 : decode cX4_shared 56 = .ok (.invokevirtual 127, 3) := by decide +kernel
theorem dX4_shared_59 : decode cX4_shared 59 = .ok (.invokestatic 131, 3) := by decide +kernel
theorem dX4_shared_62 : decode cX4_shared 62 = .ok (.istore 5, 2) := by decide +kernel
theorem dX4_shared_64 : decode cX4_shared 64 = .ok (.iinc 7 1, 3) := by decide +kernel
theorem dX4_shared_67 : decode cX4_shared 67 = .ok (.goto (-30), 3) := by decide +kernel
theorem dX4_shared_70 : decode cX4_shared 70 = .ok (.iinc 6 1, 3) := by decide +kernel
theorem dX4_shared_73 : decode cX4_shared 73 = .ok (.goto (-48), 3) := by decide +kernel
theorem dX4_shared_76 : decode cX4_shared 76 = .ok (.iload 5, 2) := by decide +kernel
theorem dX4_shared_78 : decode cX4_shared 78 = .ok (.ireturn, 1) := by decide +kernel
theorem dX4_hum_0 : decode cX4_hum 0 = .ok (.iload_n 1, 1) := by decide +kernel
theorem dX4_hum_1 : decode cX4_hum 1 = .ok (.iconst 0, 1) := by decide +kernel
theorem dX4_hum_2 : decode cX4_hum 2 = .ok (.bipush 60, 2) := by decide +kernel
theorem dX4_hum_4 : decode cX4_hum 4 = .ok (.invokestatic 105, 3) := by decide +kernel
theorem dX4_hum_7 : decode cX4_hum 7 = .ok (.aload_n 0, 1) := by decide +kernel
theorem dX4_hum_8 : decode cX4_hum 8 = .ok (.getfield 26, 3) := by decide +kernel
theorem dX4_hum_11 : decode cX4_hum 11 = .ok (.invokevirtual 80, 3) := by decide +kernel
theorem dX4_hum_14 : decode cX4_hum 14 = .ok (.ifCond .eq 13, 3) := by decide +kernel
theorem dX4_hum_17 : decode cX4_hum 17 = .ok (.new 59, 3) := by decide +kernel
theorem dX4_hum_20 : decode cX4_hum 20 = .ok (.dup, 1) := by decide +kernel
theorem dX4_hum_21 : decode cX4_hum 21 = .ok (.ldc 137, 2) := by decide +kernel
theorem dX4_hum_23 : decode cX4_hum 23 = .ok (.invokespecial 63, 3) := by decide +kernel
theorem dX4_hum_26 : decode cX4_hum 26 = .ok (.athrow, 1) := by decide +kernel
theorem dX4_hum_27 : decode cX4_hum 27 = .ok (.aload_n 0, 1) := by decide +kernel
theorem dX4_hum_28 : decode cX4_hum 28 = .ok (.getfield 26, 3) := by decide +kernel
theorem dX4_hum_31 : decode cX4_hum 31 = .ok (.iload_n 1, 1) := by decide +kernel
theorem dX4_hum_32 : decode cX4_hum 32 = .ok (.invokevirtual 139, 3) := by decide +kernel
theorem dX4_hum_35 : decode cX4_hum 35 = .ok (.aload_n 0, 1) := by decide +kernel
theorem dX4_hum_36 : decode cX4_hum 36 = .ok (.getfield 26, 3) := by decide +kernel
theorem dX4_hum_39 : decode cX4_hum 39 = .ok (.invokevirtual 126, 3) := by decide +kernel
theorem dX4_hum_42 : decode cX4_hum 42 = .ok (.ireturn, 1) := by decide +kernel
theorem dX4_hush_0 : decode cX4_hush 0 = .ok (.aload_n 0, 1) := by decide +kernel
theorem dX4_hush_1 : decode cX4_hush 1 = .ok (.getfield 26, 3) := by decide +kernel
theorem dX4_hush_4 : decode cX4_hush 4 = .ok (.invokevirtual 126, 3) := by decide +kernel
theorem dX4_hush_7 : decode cX4_hush 7 = .ok (.istore_n 1, 1) := by decide +kernel
theorem dX4_hush_8 : decode cX4_hush 8 = .ok (.aload_n 0, 1) := by decide +kernel
theorem dX4_hush_9 : decode cX4_hush 9 = .ok (.getfield 26, 3) := by decide +kernel
theorem dX4_hush_12 : decode cX4_hush 12 = .ok (.invokevirtual 141, 3) := by decide +kernel
theorem dX4_hush_15 : decode cX4_hush 15 = .ok (.iload_n 1, 1) := by decide +kernel
theorem dX4_hush_16 : decode cX4_hush 16 = .ok (.ireturn, 1) := by decide +kernel
theorem dX4_hummed_0 : decode cX4_hummed 0 = .ok (.aload_n 0, 1) := by decide +kernel
theorem dX4_hummed_1 : decode cX4_hummed 1 = .ok (.getfield 26, 3) := by decide +kernel
theorem dX4_hummed_4 : decode cX4_hummed 4 = .ok (.invokevirtual 126, 3) := by decide +kernel
theorem dX4_hummed_7 : decode cX4_hummed 7 = .ok (.ireturn, 1) := by decide +kernel
theorem dX4_setCosts_0 : decode cX4_setCosts 0 = .ok (.iload_n 1, 1) := by decide +kernel
theorem dX4_setCosts_1 : decode cX4_setCosts 1 = .ok (.iconst 0, 1) := by decide +kernel
theorem dX4_setCosts_2 : decode cX4_setCosts 2 = .ok (.bipush 20, 2) := by decide +kernel
theorem dX4_setCosts_4 : decode cX4_setCosts 4 = .ok (.invokestatic 105, 3) := by decide +kernel
theorem dX4_setCosts_7 : decode cX4_setCosts 7 = .ok (.iload_n 2, 1) := by decide +kernel
theorem dX4_setCosts_8 : decode cX4_setCosts 8 = .ok (.iconst 0, 1) := by decide +kernel
theorem dX4_setCosts_9 : decode cX4_setCosts 9 = .ok (.bipush 20, 2) := by decide +kernel
theorem dX4_setCosts_11 : decode cX4_setCosts 11 = .ok (.invokestatic 105, 3) := by decide +kernel
theorem dX4_setCosts_14 : decode cX4_setCosts 14 = .ok (.iload_n 3, 1) := by decide +kernel
theorem dX4_setCosts_15 : decode cX4_setCosts 15 = .ok (.iconst 0, 1) := by decide +kernel
theorem dX4_setCosts_16 : decode cX4_setCosts 16 = .ok (.bipush 20, 2) := by decide +kernel
theorem dX4_setCosts_18 : decode cX4_setCosts 18 = .ok (.invokestatic 105, 3) := by decide +kernel
theorem dX4_setCosts_21 : decode cX4_setCosts 21 = .ok (.aload_n 0, 1) := by decide +kernel
theorem dX4_setCosts_22 : decode cX4_setCosts 22 = .ok (.getfield 18, 3) := by decide +kernel
theorem dX4_setCosts_25 : decode cX4_setCosts 25 = .ok (.iload_n 1, 1) := by decide +kernel
theorem dX4_setCosts_26 : decode cX4_setCosts 26 = .ok (.putfield 144, 3) := by decide +kernel
theorem dX4_setCosts_29 : decode cX4_setCosts 29 = .ok (.aload_n 0, 1) := by decide +kernel
theorem dX4_setCosts_30 : decode cX4_setCosts 30 = .ok (.getfield 18, 3) := by decide +kernel
theorem dX4_setCosts_33 : decode cX4_setCosts 33 = .ok (.iload_n 2, 1) := by decide +kernel
theorem dX4_setCosts_34 : decode cX4_setCosts 34 = .ok (.putfield 147, 3) := by decide +kernel
theorem dX4_setCosts_37 : decode cX4_setCosts 37 = .ok (.aload_n 0, 1) := by decide +kernel
theorem dX4_setCosts_38 : decode cX4_setCosts 38 = .ok (.getfield 18, 3) := by decide +kernel
theorem dX4_setCosts_41 : decode cX4_setCosts 41 = .ok (.iload_n 3, 1) := by decide +kernel
theorem dX4_setCosts_42 : decode cX4_setCosts 42 = .ok (.putfield 150, 3) := by decide +kernel
theorem dX4_setCosts_45 : decode cX4_setCosts 45 = .ok (.return_, 1) := by decide +kernel
theorem dX4_cost_0 : decode cX4_cost 0 = .ok (.aload_n 0, 1) := by decide +kernel
theorem dX4_cost_1 : decode cX4_cost 1 = .ok (.getfield 18, 3) := by decide +kernel
theorem dX4_cost_4 : decode cX4_cost 4 = .ok (.aload_n 0, 1) := by decide +kernel
theorem dX4_cost_5 : decode cX4_cost 5 = .ok (.iload_n 1, 1) := by decide +kernel
theorem dX4_cost_6 : decode cX4_cost 6 = .ok (.invokevirtual 73, 3) := by decide +kernel
theorem dX4_cost_9 : decode cX4_cost 9 = .ok (.invokevirtual 153, 3) := by decide +kernel
theorem dX4_cost_12 : decode cX4_cost 12 = .ok (.ireturn, 1) := by decide +kernel
theorem dX4_matches_0 : decode cX4_matches 0 = .ok (.aload_n 0, 1) := by decide +kernel
theorem dX4_matches_1 : decode cX4_matches 1 = .ok (.invokevirtual 162, 3) := by decide +kernel
theorem dX4_matches_4 : decode cX4_matches 4 = .ok (.iconst 0, 1) := by decide +kernel
theorem dX4_matches_5 : decode cX4_matches 5 = .ok (.istore_n 1, 1) := by decide +kernel
theorem dX4_matches_6 : decode cX4_matches 6 = .ok (.iconst 0, 1) := by decide +kernel
theorem dX4_matches_7 : decode cX4_matches 7 = .ok (.istore_n 2, 1) := by decide +kernel
theorem dX4_matches_8 : decode cX4_matches 8 = .ok (.iload_n 2, 1) := by decide +kernel
theorem dX4_matches_9 : decode cX4_matches 9 = .ok (.aload_n 0, 1) := by decide +kernel
theorem dX4_matches_10 : decode cX4_matches 10 = .ok (.getfield 41, 3) := by decide +kernel
theorem dX4_matches_13 : decode cX4_matches 13 = .ok (.invokevirtual 126, 3) := by decide +kernel
theorem dX4_matches_16 : decode cX4_matches 16 = .ok (.if_icmp .ge 24, 3) := by decide +kernel
theorem dX4_matches_19 : decode cX4_matches 19 = .ok (.aload_n 0, 1) := by decide +kernel
theorem dX4_matches_20 : decode cX4_matches 20 = .ok (.getfield 41, 3) := by decide +kernel
theorem dX4_matches_23 : decode cX4_matches 23 = .ok (.iload_n 2, 1) := by decide +kernel
theorem dX4_matches_24 : decode cX4_matches 24 = .ok (.invokevirtual 95, 3) := by decide +kernel
theorem dX4_matches_27 : decode cX4_matches 27 = .ok (.iconst (-1), 1) := by decide +kernel
theorem dX4_matches_28 : decode cX4_matches 28 = .ok (.if_icmp .eq 6, 3) := by decide +kernel
theorem dX4_matches_31 : decode cX4_matches 31 = .ok (.iinc 1 1, 3) := by decide +kernel
theorem dX4_matches_34 : decode cX4_matches 34 = .ok (.iinc 2 1, 3) := by decide +kernel
theorem dX4_matches_37 : decode cX4_matches 37 = .ok (.goto (-29), 3) := by decide +kernel
theorem dX4_matches_40 : decode cX4_matches 40 = .ok (.iload_n 1, 1) := by decide +kernel
theorem dX4_matches_41 : decode cX4_matches 41 = .ok (.ireturn, 1) := by decide +kernel
theorem dX4_found_0 : decode cX4_found 0 = .ok (.aload_n 0, 1) := by decide +kernel
theorem dX4_found_1 : decode cX4_found 1 = .ok (.invokevirtual 162, 3) := by decide +kernel
theorem dX4_found_4 : decode cX4_found 4 = .ok (.iconst 0, 1) := by decide +kernel
theorem dX4_found_5 : decode cX4_found 5 = .ok (.istore_n 2, 1) := by decide +kernel
theorem dX4_found_6 : decode cX4_found 6 = .ok (.iload_n 2, 1) := by decide +kernel
theorem dX4_found_7 : decode cX4_found 7 = .ok (.aload_n 0, 1) := by decide +kernel
theorem dX4_found_8 : decode cX4_found 8 = .ok (.getfield 41, 3) := by decide +kernel
theorem dX4_found_11 : decode cX4_found 11 = .ok (.invokevirtual 126, 3) := by decide +kernel
theorem dX4_found_14 : decode cX4_found 14 = .ok (.if_icmp .ge 32, 3) := by decide +kernel
theorem dX4_found_17 : decode cX4_found 17 = .ok (.aload_n 0, 1) := by decide +kernel
theorem dX4_found_18 : decode cX4_found 18 = .ok (.getfield 41, 3) := by decide +kernel
theorem dX4_found_21 : decode cX4_found 21 = .ok (.iload_n 2, 1) := by decide +kernel
theorem dX4_found_22 : decode cX4_found 22 = .ok (.invokevirtual 95, 3) := by decide +kernel
theorem dX4_found_25 : decode cX4_found 25 = .ok (.iconst (-1), 1) := by decide +kernel
theorem dX4_found_26 : decode cX4_found 26 = .ok (.if_icmp .eq 14, 3) := by decide +kernel
theorem dX4_found_29 : decode cX4_found 29 = .ok (.aload_n 0, 1) := by decide +kernel
theorem dX4_found_30 : decode cX4_found 30 = .ok (.iload_n 2, 1) := by decide +kernel
theorem dX4_found_31 : decode cX4_found 31 = .ok (.invokevirtual 165, 3) := by decide +kernel
theorem dX4_found_34 : decode cX4_found 34 = .ok (.iload_n 1, 1) := by decide +kernel
theorem dX4_found_35 : decode cX4_found 35 = .ok (.if_icmp .ne 5, 3) := by decide +kernel
theorem dX4_found_38 : decode cX4_found 38 = .ok (.iload_n 2, 1) := by decide +kernel
theorem dX4_found_39 : decode cX4_found 39 = .ok (.ireturn, 1) := by decide +kernel
theorem dX4_found_40 : decode cX4_found 40 = .ok (.iinc 2 1, 3) := by decide +kernel
theorem dX4_found_43 : decode cX4_found 43 = .ok (.goto (-37), 3) := by decide +kernel
theorem dX4_found_46 : decode cX4_found 46 = .ok (.new 90, 3) := by decide +kernel
theorem dX4_found_49 : decode cX4_found 49 = .ok (.dup, 1) := by decide +kernel
theorem dX4_found_50 : decode cX4_found 50 = .ok (.ldc 168, 2) := by decide +kernel
theorem dX4_found_52 : decode cX4_found 52 = .ok (.invokespecial 94, 3) := by decide +kernel
theorem dX4_found_55 : decode cX4_found 55 = .ok (.athrow, 1) := by decide +kernel
theorem dX4_likeContour_0 : decode cX4_likeContour 0 = .ok (.iconst 0, 1) := by decide +kernel
theorem dX4_likeContour_1 : decode cX4_likeContour 1 = .ok (.istore_n 1, 1) := by decide +kernel
theorem dX4_likeContour_2 : decode cX4_likeContour 2 = .ok (.iconst 0, 1) := by decide +kernel
theorem dX4_likeContour_3 : decode cX4_likeContour 3 = .ok (.istore_n 2, 1) := by decide +kernel
theorem dX4_likeContour_4 : decode cX4_likeContour 4 = .ok (.iload_n 2, 1) := by decide +kernel
theorem dX4_likeContour_5 : decode cX4_likeContour 5 = .ok (.aload_n 0, 1) := by decide +kernel
theorem dX4_likeContour_6 : decode cX4_likeContour 6 = .ok (.getfield 51, 3) := by decide +kernel
theorem dX4_likeContour_9 : decode cX4_likeContour 9 = .ok (.if_icmp .ge 39, 3) := by decide +kernel
theorem dX4_likeContour_12 : decode cX4_likeContour 12 = .ok (.aload_n 0, 1) := by decide +kernel
theorem dX4_likeContour_13 : decode cX4_likeContour 13 = .ok (.iload_n 2, 1) := by decide +kernel
theorem dX4_likeContour_14 : decode cX4_likeContour 14 = .ok (.invokevirtual 115, 3) := by decide +kernel
theorem dX4_likeContour_17 : decode cX4_likeContour 17 = .ok (.astore_n 3, 1) := by decide +kernel
theorem dX4_likeContour_18 : decode cX4_likeContour 18 = .ok (.aload_n 3, 1) := by decide +kernel
theorem dX4_likeContour_19 : decode cX4_likeContour 19 = .ok (.ifnull 23, 3) := by decide +kernel
theorem dX4_likeContour_22 : decode cX4_likeContour 22 = .ok (.aload_n 3, 1) := by decide +kernel
theorem dX4_likeContour_23 : decode cX4_likeContour 23 = .ok (.getfield 77, 3) := by decide +kernel
theorem dX4_likeContour_26 : decode cX4_likeContour 26 = .ok (.aload_n 0, 1) := by decide +kernel
theorem dX4_likeContour_27 : decode cX4_likeContour 27 = .ok (.getfield 26, 3) := by decide +kernel
theorem dX4_likeContour_30 : decode cX4_likeContour 30 = .ok (.invokevirtual 170, 3) := by decide +kernel
theorem dX4_likeContour_33 : decode cX4_likeContour 33 = .ok (.ifCond .eq 9, 3) := by decide +kernel
theorem dX4_likeContour_36 : decode cX4_likeContour 36 = .ok (.iload_n 1, 1) := by decide +kernel
theorem dX4_likeContour_37 : decode cX4_likeContour 37 = .ok (.iconst 1, 1) := by decide +kernel
theorem dX4_likeContour_38 : decode cX4_likeContour 38 = .ok (.iload_n 2, 1) := by decide +kernel
theorem dX4_likeContour_39 : decode cX4_likeContour 39 = .ok (.ishl, 1) := by decide +kernel
theorem dX4_likeContour_40 : decode cX4_likeContour 40 = .ok (.ior, 1) := by decide +kernel
theorem dX4_likeContour_41 : decode cX4_likeContour 41 = .ok (.istore_n 1, 1) := by decide +kernel
theorem dX4_likeContour_42 : decode cX4_likeContour 42 = .ok (.iinc 2 1, 3) := by decide +kernel
theorem dX4_likeContour_45 : decode cX4_likeContour 45 = .ok (.goto (-41), 3) := by decide +kernel
theorem dX4_likeContour_48 : decode cX4_likeContour 48 = .ok (.iload_n 1, 1) := by decide +kernel
theorem dX4_likeContour_49 : decode cX4_likeContour 49 = .ok (.ireturn, 1) := by decide +kernel
theorem dX4_places_0 : decode cX4_places 0 = .ok (.aload_n 0, 1) := by decide +kernel
theorem dX4_places_1 : decode cX4_places 1 = .ok (.iload_n 1, 1) := by decide +kernel
theorem dX4_places_2 : decode cX4_places 2 = .ok (.invokevirtual 174, 3) := by decide +kernel
theorem dX4_places_5 : decode cX4_places 5 = .ok (.aload_n 0, 1) := by decide +kernel
theorem dX4_places_6 : decode cX4_places 6 = .ok (.iload_n 1, 1) := by decide +kernel
theorem dX4_places_7 : decode cX4_places 7 = .ok (.invokevirtual 177, 3) := by decide +kernel
theorem dX4_places_10 : decode cX4_places 10 = .ok (.aload_n 0, 1) := by decide +kernel
theorem dX4_places_11 : decode cX4_places 11 = .ok (.getfield 44, 3) := by decide +kernel
theorem dX4_places_14 : decode cX4_places 14 = .ok (.invokevirtual 126, 3) := by decide +kernel
theorem dX4_places_17 : decode cX4_places 17 = .ok (.ireturn, 1) := by decide +kernel
theorem dX4_link_0 : decode cX4_link 0 = .ok (.aload_n 0, 1) := by decide +kernel
theorem dX4_link_1 : decode cX4_link 1 = .ok (.iload_n 1, 1) := by decide +kernel
theorem dX4_link_2 : decode cX4_link 2 = .ok (.iload_n 2, 1) := by decide +kernel
theorem dX4_link_3 : decode cX4_link 3 = .ok (.invokevirtual 182, 3) := by decide +kernel
theorem dX4_link_6 : decode cX4_link 6 = .ok (.iload_n 1, 1) := by decide +kernel
theorem dX4_link_7 : decode cX4_link 7 = .ok (.iload_n 2, 1) := by decide +kernel
theorem dX4_link_8 : decode cX4_link 8 = .ok (.if_icmp .ne 13, 3) := by decide +kernel
theorem dX4_link_11 : decode cX4_link 11 = .ok (.new 185, 3) := by decide +kernel
theorem dX4_link_14 : decode cX4_link 14 = .ok (.dup, 1) := by decide +kernel
theorem dX4_link_15 : decode cX4_link 15 = .ok (.ldc 187, 2) := by decide +kernel
theorem dX4_link_17 : decode cX4_link 17 = .ok (.invokespecial 189, 3) := by decide +kernel
theorem dX4_link_20 : decode cX4_link 20 = .ok (.athrow, 1) := by decide +kernel
theorem dX4_link_21 : decode cX4_link 21 = .ok (.aload_n 0, 1) := by decide +kernel
theorem dX4_link_22 : decode cX4_link 22 = .ok (.getfield 32, 3) := by decide +kernel
theorem dX4_link_25 : decode cX4_link 25 = .ok (.iload_n 1, 1) := by decide +kernel
theorem dX4_link_26 : decode cX4_link 26 = .ok (.iload_n 2, 1) := by decide +kernel
theorem dX4_link_27 : decode cX4_link 27 = .ok (.invokevirtual 190, 3) := by decide +kernel
theorem dX4_link_30 : decode cX4_link 30 = .ok (.ifCond .eq 13, 3) := by decide +kernel
theorem dX4_link_33 : decode cX4_link 33 = .ok (.new 59, 3) := by decide +kernel
theorem dX4_link_36 : decode cX4_link 36 = .ok (.dup, 1) := by decide +kernel
theorem dX4_link_37 : decode cX4_link 37 = .ok (.ldc 194, 2) := by decide +kernel
theorem dX4_link_39 : decode cX4_link 39 = .ok (.invokespecial 63, 3) := by decide +kernel
theorem dX4_link_42 : decode cX4_link 42 = .ok (.athrow, 1) := by decide +kernel
theorem dX4_link_43 : decode cX4_link 43 = .ok (.aload_n 0, 1) := by decide +kernel
theorem dX4_link_44 : decode cX4_link 44 = .ok (.getfield 32, 3) := by decide +kernel
theorem dX4_link_47 : decode cX4_link 47 = .ok (.iload_n 1, 1) := by decide +kernel
theorem dX4_link_48 : decode cX4_link 48 = .ok (.iload_n 2, 1) := by decide +kernel
theorem dX4_link_49 : decode cX4_link 49 = .ok (.invokevirtual 196, 3) := by decide +kernel
theorem dX4_link_52 : decode cX4_link 52 = .ok (.aload_n 0, 1) := by decide +kernel
theorem dX4_link_53 : decode cX4_link 53 = .ok (.getfield 32, 3) := by decide +kernel
theorem dX4_link_56 : decode cX4_link 56 = .ok (.invokevirtual 199, 3) := by decide +kernel
theorem dX4_link_59 : decode cX4_link 59 = .ok (.ireturn, 1) := by decide +kernel
theorem dX4_cut_0 : decode cX4_cut 0 = .ok (.aload_n 0, 1) := by decide +kernel
theorem dX4_cut_1 : decode cX4_cut 1 = .ok (.iload_n 1, 1) := by decide +kernel
theorem dX4_cut_2 : decode cX4_cut 2 = .ok (.iload_n 2, 1) := by decide +kernel
theorem dX4_cut_3 : decode cX4_cut 3 = .ok (.invokevirtual 182, 3) := by decide +kernel
theorem dX4_cut_6 : decode cX4_cut 6 = .ok (.aload_n 0, 1) := by decide +kernel
theorem dX4_cut_7 : decode cX4_cut 7 = .ok (.getfield 32, 3) := by decide +kernel
theorem dX4_cut_10 : decode cX4_cut 10 = .ok (.iload_n 1, 1) := by decide +kernel
theorem dX4_cut_11 : decode cX4_cut 11 = .ok (.iload_n 2, 1) := by decide +kernel
theorem dX4_cut_12 : decode cX4_cut 12 = .ok (.invokevirtual 190, 3) := by decide +kernel
theorem dX4_cut_15 : decode cX4_cut 15 = .ok (.ifCond .ne 13, 3) := by decide +kernel
theorem dX4_cut_18 : decode cX4_cut 18 = .ok (.new 59, 3) := by decide +kernel
theorem dX4_cut_21 : decode cX4_cut 21 = .ok (.dup, 1) := by decide +kernel
theorem dX4_cut_22 : decode cX4_cut 22 = .ok (.ldc 202, 2) := by decide +kernel
theorem dX4_cut_24 : decode cX4_cut 24 = .ok (.invokespecial 63, 3) := by decide +kernel
theorem dX4_cut_27 : decode cX4_cut 27 = .ok (.athrow, 1) := by decide +kernel
theorem dX4_cut_28 : decode cX4_cut 28 = .ok (.aload_n 0, 1) := by decide +kernel
theorem dX4_cut_29 : decode cX4_cut 29 = .ok (.getfield 32, 3) := by decide +kernel
theorem dX4_cut_32 : decode cX4_cut 32 = .ok (.iload_n 1, 1) := by decide +kernel
theorem dX4_cut_33 : decode cX4_cut 33 = .ok (.iload_n 2, 1) := by decide +kernel
theorem dX4_cut_34 : decode cX4_cut 34 = .ok (.invokevirtual 196, 3) := by decide +kernel
theorem dX4_cut_37 : decode cX4_cut 37 = .ok (.aload_n 0, 1) := by decide +kernel
theorem dX4_cut_38 : decode cX4_cut 38 = .ok (.getfield 32, 3) := by decide +kernel
theorem dX4_cut_41 : decode cX4_cut 41 = .ok (.invokevirtual 199, 3) := by decide +kernel
theorem dX4_cut_44 : decode cX4_cut 44 = .ok (.ireturn, 1) := by decide +kernel
theorem dX4_family_0 : decode cX4_family 0 = .ok (.aload_n 0, 1) := by decide +kernel
theorem dX4_family_1 : decode cX4_family 1 = .ok (.iload_n 1, 1) := by decide +kernel
theorem dX4_family_2 : decode cX4_family 2 = .ok (.invokevirtual 118, 3) := by decide +kernel
theorem dX4_family_5 : decode cX4_family 5 = .ok (.pop, 1) := by decide +kernel
theorem dX4_family_6 : decode cX4_family 6 = .ok (.aload_n 0, 1) := by decide +kernel
theorem dX4_family_7 : decode cX4_family 7 = .ok (.getfield 32, 3) := by decide +kernel
theorem dX4_family_10 : decode cX4_family 10 = .ok (.iload_n 1, 1) := by decide +kernel
theorem dX4_family_11 : decode cX4_family 11 = .ok (.invokevirtual 204, 3) := by decide +kernel
theorem dX4_family_14 : decode cX4_family 14 = .ok (.ireturn, 1) := by decide +kernel
theorem dX4_families_0 : decode cX4_families 0 = .ok (.aload_n 0, 1) := by decide +kernel
theorem dX4_families_1 : decode cX4_families 1 = .ok (.getfield 32, 3) := by decide +kernel
theorem dX4_families_4 : decode cX4_families 4 = .ok (.invokevirtual 199, 3) := by decide +kernel
theorem dX4_families_7 : decode cX4_families 7 = .ok (.ireturn, 1) := by decide +kernel
theorem dX4_isWithin_0 : decode cX4_isWithin 0 = .ok (.iload_n 0, 1) := by decide +kernel
theorem dX4_isWithin_1 : decode cX4_isWithin 1 = .ok (.iload_n 1, 1) := by decide +kernel
theorem dX4_isWithin_2 : decode cX4_isWithin 2 = .ok (.if_icmp .lt 12, 3) := by decide +kernel
theorem dX4_isWithin_5 : decode cX4_isWithin 5 = .ok (.iload_n 0, 1) := by decide +kernel
theorem dX4_isWithin_6 : decode cX4_isWithin 6 = .ok (.iload_n 2, 1) := by decide +kernel
theorem dX4_isWithin_7 : decode cX4_isWithin 7 = .ok (.if_icmp .gt 7, 3) := by decide +kernel
theorem dX4_isWithin_10 : decode cX4_isWithin 10 = .ok (.iconst 1, 1) := by decide +kernel
theorem dX4_isWithin_11 : decode cX4_isWithin 11 = .ok (.goto 4, 3) := by decide +kernel
theorem dX4_isWithin_14 : decode cX4_isWithin 14 = .ok (.iconst 0, 1) := by decide +kernel
theorem dX4_isWithin_15 : decode cX4_isWithin 15 = .ok (.ireturn, 1) := by decide +kernel
theorem dX4_refuseUnlessWithin_0 : decode cX4_refuseUnlessWithin 0 = .ok (.iload_n 0, 1) := by decide +kernel
theorem dX4_refuseUnlessWithin_1 : decode cX4_refuseUnlessWithin 1 = .ok (.iload_n 1, 1) := by decide +kernel
theorem dX4_refuseUnlessWithin_2 : decode cX4_refuseUnlessWithin 2 = .ok (.iload_n 2, 1) := by decide +kernel
theorem dX4_refuseUnlessWithin_3 : decode cX4_refuseUnlessWithin 3 = .ok (.invokestatic 55, 3) := by decide +kernel
theorem dX4_refuseUnlessWithin_6 : decode cX4_refuseUnlessWithin 6 = .ok (.ifCond .ne 13, 3) := by decide +kernel
theorem dX4_refuseUnlessWithin_9 : decode cX4_refuseUnlessWithin 9 = .ok (.new 185, 3) := by decide +kernel
theorem dX4_refuseUnlessWithin_12 : decode cX4_refuseUnlessWithin 12 = .ok (.dup, 1) := by decide +kernel
theorem dX4_refuseUnlessWithin_13 : decode cX4_refuseUnlessWithin 13 = .ok (.ldc 207, 2) := by decide +kernel
theorem dX4_refuseUnlessWithin_15 : decode cX4_refuseUnlessWithin 15 = .ok (.invokespecial 189, 3) := by decide +kernel
theorem dX4_refuseUnlessWithin_18 : decode cX4_refuseUnlessWithin 18 = .ok (.athrow, 1) := by decide +kernel
theorem dX4_refuseUnlessWithin_19 : decode cX4_refuseUnlessWithin 19 = .ok (.return_, 1) := by decide +kernel
theorem dX4_refuseUnlessNote_0 : decode cX4_refuseUnlessNote 0 = .ok (.iload_n 0, 1) := by decide +kernel
theorem dX4_refuseUnlessNote_1 : decode cX4_refuseUnlessNote 1 = .ok (.iconst 0, 1) := by decide +kernel
theorem dX4_refuseUnlessNote_2 : decode cX4_refuseUnlessNote 2 = .ok (.bipush 60, 2) := by decide +kernel
theorem dX4_refuseUnlessNote_4 : decode cX4_refuseUnlessNote 4 = .ok (.invokestatic 105, 3) := by decide +kernel
theorem dX4_refuseUnlessNote_7 : decode cX4_refuseUnlessNote 7 = .ok (.iload_n 1, 1) := by decide +kernel
theorem dX4_refuseUnlessNote_8 : decode cX4_refuseUnlessNote 8 = .ok (.iconst 1, 1) := by decide +kernel
theorem dX4_refuseUnlessNote_9 : decode cX4_refuseUnlessNote 9 = .ok (.bipush 8, 2) := by decide +kernel
theorem dX4_refuseUnlessNote_11 : decode cX4_refuseUnlessNote 11 = .ok (.invokestatic 105, 3) := by decide +kernel
theorem dX4_refuseUnlessNote_14 : decode cX4_refuseUnlessNote 14 = .ok (.return_, 1) := by decide +kernel
theorem dX4_refuseUnlessRunOfHum_0 : decode cX4_refuseUnlessRunOfHum 0 = .ok (.iload_n 1, 1) := by decide +kernel
theorem dX4_refuseUnlessRunOfHum_1 : decode cX4_refuseUnlessRunOfHum 1 = .ok (.iconst 1, 1) := by decide +kernel
theorem dX4_refuseUnlessRunOfHum_2 : decode cX4_refuseUnlessRunOfHum 2 = .ok (.iconst 4, 1) := by decide +kernel
theorem dX4_refuseUnlessRunOfHum_3 : decode cX4_refuseUnlessRunOfHum 3 = .ok (.invokestatic 105, 3) := by decide +kernel
theorem dX4_refuseUnlessRunOfHum_6 : decode cX4_refuseUnlessRunOfHum 6 = .ok (.iload_n 1, 1) := by decide +kernel
theorem dX4_refuseUnlessRunOfHum_7 : decode cX4_refuseUnlessRunOfHum 7 = .ok (.aload_n 0, 1) := by decide +kernel
theorem dX4_refuseUnlessRunOfHum_8 : decode cX4_refuseUnlessRunOfHum 8 = .ok (.getfield 26, 3) := by decide +kernel
theorem dX4_refuseUnlessRunOfHum_11 : decode cX4_refuseUnlessRunOfHum 11 = .ok (.invokevirtual 126, 3) := by decide +kernel
theorem dX4_refuseUnlessRunOfHum_14 : decode cX4_refuseUnlessRunOfHum 14 = .ok (.iconst 1, 1) := by decide +kernel
theorem dX4_refuseUnlessRunOfHum_15 : decode cX4_refuseUnlessRunOfHum 15 = .ok (.isub, 1) := by decide +kernel
theorem dX4_refuseUnlessRunOfHum_16 : decode cX4_refuseUnlessRunOfHum 16 = .ok (.if_icmp .le 13, 3) := by decide +kernel
theorem dX4_refuseUnlessRunOfHum_19 : decode cX4_refuseUnlessRunOfHum 19 = .ok (.new 59, 3) := by decide +kernel
theorem dX4_refuseUnlessRunOfHum_22 : decode cX4_refuseUnlessRunOfHum 22 = .ok (.dup, 1) := by decide +kernel
theorem dX4_refuseUnlessRunOfHum_23 : decode cX4_refuseUnlessRunOfHum 23 = .ok (.ldc 209, 2) := by decide +kernel
theorem dX4_refuseUnlessRunOfHum_25 : decode cX4_refuseUnlessRunOfHum 25 = .ok (.invokespecial 63, 3) := by decide +kernel
theorem dX4_refuseUnlessRunOfHum_28 : decode cX4_refuseUnlessRunOfHum 28 = .ok (.athrow, 1) := by decide +kernel
theorem dX4_refuseUnlessRunOfHum_29 : decode cX4_refuseUnlessRunOfHum 29 = .ok (.return_, 1) := by decide +kernel
theorem dX4_refuseUnlessEntered_0 : decode cX4_refuseUnlessEntered 0 = .ok (.aload_n 0, 1) := by decide +kernel
theorem dX4_refuseUnlessEntered_1 : decode cX4_refuseUnlessEntered 1 = .ok (.iload_n 1, 1) := by decide +kernel
theorem dX4_refuseUnlessEntered_2 : decode cX4_refuseUnlessEntered 2 = .ok (.invokevirtual 118, 3) := by decide +kernel
theorem dX4_refuseUnlessEntered_5 : decode cX4_refuseUnlessEntered 5 = .ok (.pop, 1) := by decide +kernel
theorem dX4_refuseUnlessEntered_6 : decode cX4_refuseUnlessEntered 6 = .ok (.aload_n 0, 1) := by decide +kernel
theorem dX4_refuseUnlessEntered_7 : decode cX4_refuseUnlessEntered 7 = .ok (.iload_n 2, 1) := by decide +kernel
theorem dX4_refuseUnlessEntered_8 : decode cX4_refuseUnlessEntered 8 = .ok (.invokevirtual 118, 3) := by decide +kernel
theorem dX4_refuseUnlessEntered_11 : decode cX4_refuseUnlessEntered 11 = .ok (.pop, 1) := by decide +kernel
theorem dX4_refuseUnlessEntered_12 : decode cX4_refuseUnlessEntered 12 = .ok (.return_, 1) := by decide +kernel
theorem dX4_enteredOrNull_0 : decode cX4_enteredOrNull 0 = .ok (.iload_n 1, 1) := by decide +kernel
theorem dX4_enteredOrNull_1 : decode cX4_enteredOrNull 1 = .ok (.ifCond .lt 29, 3) := by decide +kernel
theorem dX4_enteredOrNull_4 : decode cX4_enteredOrNull 4 = .ok (.iload_n 1, 1) := by decide +kernel
theorem dX4_enteredOrNull_5 : decode cX4_enteredOrNull 5 = .ok (.aload_n 0, 1) := by decide +kernel
theorem dX4_enteredOrNull_6 : decode cX4_enteredOrNull 6 = .ok (.getfield 51, 3) := by decide +kernel
theorem dX4_enteredOrNull_9 : decode cX4_enteredOrNull 9 = .ok (.if_icmp .ge 21, 3) := by decide +kernel
theorem dX4_enteredOrNull_12 : decode cX4_enteredOrNull 12 = .ok (.iload_n 1, 1) := by decide +kernel
theorem dX4_enteredOrNull_13 : decode cX4_enteredOrNull 13 = .ok (.aload_n 0, 1) := by decide +kernel
theorem dX4_enteredOrNull_14 : decode cX4_enteredOrNull 14 = .ok (.getfield 11, 3) := by decide +kernel
theorem dX4_enteredOrNull_17 : decode cX4_enteredOrNull 17 = .ok (.arraylength, 1) := by decide +kernel
theorem dX4_enteredOrNull_18 : decode cX4_enteredOrNull 18 = .ok (.if_icmp .ge 12, 3) := by decide +kernel
theorem dX4_enteredOrNull_21 : decode cX4_enteredOrNull 21 = .ok (.aload_n 0, 1) := by decide +kernel
theorem dX4_enteredOrNull_22 : decode cX4_enteredOrNull 22 = .ok (.getfield 11, 3) := by decide +kernel
theorem dX4_enteredOrNull_25 : decode cX4_enteredOrNull 25 = .ok (.iload_n 1, 1) := by decide +kernel
theorem dX4_enteredOrNull_26 : decode cX4_enteredOrNull 26 = .ok (.aaload, 1) := by decide +kernel
theorem dX4_enteredOrNull_27 : decode cX4_enteredOrNull 27 = .ok (.goto 4, 3) := by decide +kernel
theorem dX4_enteredOrNull_30 : decode cX4_enteredOrNull 30 = .ok (.aconst_null, 1) := by decide +kernel
theorem dX4_enteredOrNull_31 : decode cX4_enteredOrNull 31 = .ok (.areturn, 1) := by decide +kernel
theorem dX4_knownOrNull_0 : decode cX4_knownOrNull 0 = .ok (.aload_n 0, 1) := by decide +kernel
theorem dX4_knownOrNull_1 : decode cX4_knownOrNull 1 = .ok (.iload_n 1, 1) := by decide +kernel
theorem dX4_knownOrNull_2 : decode cX4_knownOrNull 2 = .ok (.invokevirtual 211, 3) := by decide +kernel
theorem dX4_knownOrNull_5 : decode cX4_knownOrNull 5 = .ok (.astore_n 2, 1) := by decide +kernel
theorem dX4_knownOrNull_6 : decode cX4_knownOrNull 6 = .ok (.aload_n 2, 1) := by decide +kernel
theorem dX4_knownOrNull_7 : decode cX4_knownOrNull 7 = .ok (.ifnull 10, 3) := by decide +kernel
theorem dX4_knownOrNull_10 : decode cX4_knownOrNull 10 = .ok (.aload_n 2, 1) := by decide +kernel
theorem dX4_knownOrNull_11 : decode cX4_knownOrNull 11 = .ok (.getfield 111, 3) := by decide +kernel
theorem dX4_knownOrNull_14 : decode cX4_knownOrNull 14 = .ok (.ifCond .eq 7, 3) := by decide +kernel
theorem dX4_knownOrNull_17 : decode cX4_knownOrNull 17 = .ok (.aconst_null, 1) := by decide +kernel
theorem dX4_knownOrNull_18 : decode cX4_knownOrNull 18 = .ok (.goto 4, 3) := by decide +kernel
theorem dX4_knownOrNull_21 : decode cX4_knownOrNull 21 = .ok (.aload_n 2, 1) := by decide +kernel
theorem dX4_knownOrNull_22 : decode cX4_knownOrNull 22 = .ok (.areturn, 1) := by decide +kernel
theorem dX4_enteredOrThrow_0 : decode cX4_enteredOrThrow 0 = .ok (.aload_n 0, 1) := by decide +kernel
theorem dX4_enteredOrThrow_1 : decode cX4_enteredOrThrow 1 = .ok (.iload_n 1, 1) := by decide +kernel
theorem dX4_enteredOrThrow_2 : decode cX4_enteredOrThrow 2 = .ok (.invokevirtual 211, 3) := by decide +kernel
theorem dX4_enteredOrThrow_5 : decode cX4_enteredOrThrow 5 = .ok (.astore_n 2, 1) := by decide +kernel
theorem dX4_enteredOrThrow_6 : decode cX4_enteredOrThrow 6 = .ok (.aload_n 2, 1) := by decide +kernel
theorem dX4_enteredOrThrow_7 : decode cX4_enteredOrThrow 7 = .ok (.ifnonnull 13, 3) := by decide +kernel
theorem dX4_enteredOrThrow_10 : decode cX4_enteredOrThrow 10 = .ok (.new 90, 3) := by decide +kernel
theorem dX4_enteredOrThrow_13 : decode cX4_enteredOrThrow 13 = .ok (.dup, 1) := by decide +kernel
theorem dX4_enteredOrThrow_14 : decode cX4_enteredOrThrow 14 = .ok (.ldc 214, 2) := by decide +kernel
theorem dX4_enteredOrThrow_16 : decode cX4_enteredOrThrow 16 = .ok (.invokespecial 94, 3) := by decide +kernel
theorem dX4_enteredOrThrow_19 : decode cX4_enteredOrThrow 19 = .ok (.athrow, 1) := by decide +kernel
theorem dX4_enteredOrThrow_20 : decode cX4_enteredOrThrow 20 = .ok (.aload_n 2, 1) := by decide +kernel
theorem dX4_enteredOrThrow_21 : decode cX4_enteredOrThrow 21 = .ok (.areturn, 1) := by decide +kernel
theorem dX4_knownOrThrow_0 : decode cX4_knownOrThrow 0 = .ok (.aload_n 0, 1) := by decide +kernel
theorem dX4_knownOrThrow_1 : decode cX4_knownOrThrow 1 = .ok (.iload_n 1, 1) := by decide +kernel
theorem dX4_knownOrThrow_2 : decode cX4_knownOrThrow 2 = .ok (.invokevirtual 115, 3) := by decide +kernel
theorem dX4_knownOrThrow_5 : decode cX4_knownOrThrow 5 = .ok (.astore_n 2, 1) := by decide +kernel
theorem dX4_knownOrThrow_6 : decode cX4_knownOrThrow 6 = .ok (.aload_n 2, 1) := by decide +kernel
theorem dX4_knownOrThrow_7 : decode cX4_knownOrThrow 7 = .ok (.ifnonnull 13, 3) := by decide +kernel
theorem dX4_knownOrThrow_10 : decode cX4_knownOrThrow 10 = .ok (.new 90, 3) := by decide +kernel
theorem dX4_knownOrThrow_13 : decode cX4_knownOrThrow 13 = .ok (.dup, 1) := by decide +kernel
theorem dX4_knownOrThrow_14 : decode cX4_knownOrThrow 14 = .ok (.ldc 216, 2) := by decide +kernel
theorem dX4_knownOrThrow_16 : decode cX4_knownOrThrow 16 = .ok (.invokespecial 94, 3) := by decide +kernel
theorem dX4_knownOrThrow_19 : decode cX4_knownOrThrow 19 = .ok (.athrow, 1) := by decide +kernel
theorem dX4_knownOrThrow_20 : decode cX4_knownOrThrow 20 = .ok (.aload_n 2, 1) := by decide +kernel
theorem dX4_knownOrThrow_21 : decode cX4_knownOrThrow 21 = .ok (.areturn, 1) := by decide +kernel
theorem dX4_priceTunes_0 : decode cX4_priceTunes 0 = .ok (.aload_n 0, 1) := by decide +kernel
theorem dX4_priceTunes_1 : decode cX4_priceTunes 1 = .ok (.getfield 41, 3) := by decide +kernel
theorem dX4_priceTunes_4 : decode cX4_priceTunes 4 = .ok (.invokevirtual 141, 3) := by decide +kernel
theorem dX4_priceTunes_7 : decode cX4_priceTunes 7 = .ok (.iconst 0, 1) := by decide +kernel
theorem dX4_priceTunes_8 : decode cX4_priceTunes 8 = .ok (.istore_n 1, 1) := by decide +kernel
theorem dX4_priceTunes_9 : decode cX4_priceTunes 9 = .ok (.iload_n 1, 1) := by decide +kernel
theorem dX4_priceTunes_10 : decode cX4_priceTunes 10 = .ok (.aload_n 0, 1) := by decide +kernel
theorem dX4_priceTunes_11 : decode cX4_priceTunes 11 = .ok (.getfield 51, 3) := by decide +kernel
theorem dX4_priceTunes_14 : decode cX4_priceTunes 14 = .ok (.if_icmp .ge 38, 3) := by decide +kernel
theorem dX4_priceTunes_17 : decode cX4_priceTunes 17 = .ok (.aload_n 0, 1) := by decide +kernel
theorem dX4_priceTunes_18 : decode cX4_priceTunes 18 = .ok (.iload_n 1, 1) := by decide +kernel
theorem dX4_priceTunes_19 : decode cX4_priceTunes 19 = .ok (.invokevirtual 115, 3) := by decide +kernel
theorem dX4_priceTunes_22 : decode cX4_priceTunes 22 = .ok (.astore_n 2, 1) := by decide +kernel
theorem dX4_priceTunes_23 : decode cX4_priceTunes 23 = .ok (.aload_n 0, 1) := by decide +kernel
theorem dX4_priceTunes_24 : decode cX4_priceTunes 24 = .ok (.getfield 41, 3) := by decide +kernel
theorem dX4_priceTunes_27 : decode cX4_priceTunes 27 = .ok (.aload_n 2, 1) := by decide +kernel
theorem dX4_priceTunes_28 : decode cX4_priceTunes 28 = .ok (.ifnonnull 7, 3) := by decide +kernel
theorem dX4_priceTunes_31 : decode cX4_priceTunes 31 = .ok (.iconst (-1), 1) := by decide +kernel
theorem dX4_priceTunes_32 : decode cX4_priceTunes 32 = .ok (.goto 11, 3) := by decide +kernel
theorem dX4_priceTunes_35 : decode cX4_priceTunes 35 = .ok (.aload_n 0, 1) := by decide +kernel
theorem dX4_priceTunes_36 : decode cX4_priceTunes 36 = .ok (.getfield 18, 3) := by decide +kernel
theorem dX4_priceTunes_39 : decode cX4_priceTunes 39 = .ok (.aload_n 2, 1) := by decide +kernel
theorem dX4_priceTunes_40 : decode cX4_priceTunes 40 = .ok (.invokevirtual 153, 3) := by decide +kernel
theorem dX4_priceTunes_43 : decode cX4_priceTunes 43 = .ok (.invokevirtual 139, 3) := by decide +kernel
theorem dX4_priceTunes_46 : decode cX4_priceTunes 46 = .ok (.iinc 1 1, 3) := by decide +kernel
theorem dX4_priceTunes_49 : decode cX4_priceTunes 49 = .ok (.goto (-40), 3) := by decide +kernel
theorem dX4_priceTunes_52 : decode cX4_priceTunes 52 = .ok (.return_, 1) := by decide +kernel
theorem dX4_rankByPrice_0 : decode cX4_rankByPrice 0 = .ok (.aload_n 0, 1) := by decide +kernel
theorem dX4_rankByPrice_1 : decode cX4_rankByPrice 1 = .ok (.getfield 41, 3) := by decide +kernel
theorem dX4_rankByPrice_4 : decode cX4_rankByPrice 4 = .ok (.iload_n 1, 1) := by decide +kernel
theorem dX4_rankByPrice_5 : decode cX4_rankByPrice 5 = .ok (.invokevirtual 95, 3) := by decide +kernel
theorem dX4_rankByPrice_8 : decode cX4_rankByPrice 8 = .ok (.istore_n 2, 1) := by decide +kernel
theorem dX4_rankByPrice_9 : decode cX4_rankByPrice 9 = .ok (.iconst 0, 1) := by decide +kernel
theorem dX4_rankByPrice_10 : decode cX4_rankByPrice 10 = .ok (.istore_n 3, 1) := by decide +kernel
theorem dX4_rankByPrice_11 : decode cX4_rankByPrice 11 = .ok (.iconst 0, 1) := by decide +kernel
theorem dX4_rankByPrice_12 : decode cX4_rankByPrice 12 = .ok (.istore 4, 2) := by decide +kernel
theorem dX4_rankByPrice_14 : decode cX4_rankByPrice 14 = .ok (.iload 4, 2) := by decide +kernel
theorem dX4_rankByPrice_16 : decode cX4_rankByPrice 16 = .ok (.aload_n 0, 1) := by decide +kernel
theorem dX4_rankByPrice_17 : decode cX4_rankByPrice 17 = .ok (.getfield 41, 3) := by decide +kernel
theorem dX4_rankByPrice_20 : decode cX4_rankByPrice 20 = .ok (.invokevirtual 126, 3) := by decide +kernel
theorem dX4_rankByPrice_23 : decode cX4_rankByPrice 23 = .ok (.if_icmp .ge 59, 3) := by decide +kernel
theorem dX4_rankByPrice_26 : decode cX4_rankByPrice 26 = .ok (.aload_n 0, 1) := by decide +kernel
theorem dX4_rankByPrice_27 : decode cX4_rankByPrice 27 = .ok (.getfield 41, 3) := by decide +kernel
theorem dX4_rankByPrice_30 : decode cX4_rankByPrice 30 = .ok (.iload 4, 2) := by decide +kernel
theorem dX4_rankByPrice_32 : decode cX4_rankByPrice 32 = .ok (.invokevirtual 95, 3) := by decide +kernel
theorem dX4_rankByPrice_35 : decode cX4_rankByPrice 35 = .ok (.istore 5, 2) := by decide +kernel
theorem dX4_rankByPrice_37 : decode cX4_rankByPrice 37 = .ok (.iload 5, 2) := by decide +kernel
theorem dX4_rankByPrice_39 : decode cX4_rankByPrice 39 = .ok (.iload_n 2, 1) := by decide +kernel
theorem dX4_rankByPrice_40 : decode cX4_rankByPrice 40 = .ok (.if_icmp .lt 15, 3) := by decide +kernel
theorem dX4_rankByPrice_43 : decode cX4_rankByPrice 43 = .ok (.iload 5, 2) := by decide +kernel
theorem dX4_rankByPrice_45 : decode cX4_rankByPrice 45 = .ok (.iload_n 2, 1) := by decide +kernel
theorem dX4_rankByPrice_46 : decode cX4_rankByPrice 46 = .ok (.if_icmp .ne 13, 3) := by decide +kernel
theorem dX4_rankByPrice_49 : decode cX4_rankByPrice 49 = .ok (.iload 4, 2) := by decide +kernel
theorem dX4_rankByPrice_51 : decode cX4_rankByPrice 51 = .ok (.iload_n 1, 1) := by decide +kernel
theorem dX4_rankByPrice_52 : decode cX4_rankByPrice 52 = .ok (.if_icmp .ge 7, 3) := by decide +kernel
theorem dX4_rankByPrice_55 : decode cX4_rankByPrice 55 = .ok (.iconst 1, 1) := by decide +kernel
theorem dX4_rankByPrice_56 : decode cX4_rankByPrice 56 = .ok (.goto 4, 3) := by decide +kernel
theorem dX4_rankByPrice_59 : decode cX4_rankByPrice 59 = .ok (.iconst 0, 1) := by decide +kernel
theorem dX4_rankByPrice_60 : decode cX4_rankByPrice 60 = .ok (.istore 6, 2) := by decide +kernel
theorem dX4_rankByPrice_62 : decode cX4_rankByPrice 62 = .ok (.iload 5, 2) := by decide +kernel
theorem dX4_rankByPrice_64 : decode cX4_rankByPrice 64 = .ok (.iconst (-1), 1) := by decide +kernel
theorem dX4_rankByPrice_65 : decode cX4_rankByPrice 65 = .ok (.if_icmp .eq 11, 3) := by decide +kernel
theorem dX4_rankByPrice_68 : decode cX4_rankByPrice 68 = .ok (.iload 6, 2) := by decide +kernel
theorem dX4_rankByPrice_70 : decode cX4_rankByPrice 70 = .ok (.ifCond .eq 6, 3) := by decide +kernel
theorem dX4_rankByPrice_73 : decode cX4_rankByPrice 73 = .ok (.iinc 3 1, 3) := by decide +kernel
theorem dX4_rankByPrice_76 : decode cX4_rankByPrice 76 = .ok (.iinc 4 1, 3) := by decide +kernel
theorem dX4_rankByPrice_79 : decode cX4_rankByPrice 79 = .ok (.goto (-65), 3) := by decide +kernel
theorem dX4_rankByPrice_82 : decode cX4_rankByPrice 82 = .ok (.iload_n 3, 1) := by decide +kernel
theorem dX4_rankByPrice_83 : decode cX4_rankByPrice 83 = .ok (.ireturn, 1) := by decide +kernel
theorem dX4_collectPlaces_0 : decode cX4_collectPlaces 0 = .ok (.aload_n 0, 1) := by decide +kernel
theorem dX4_collectPlaces_1 : decode cX4_collectPlaces 1 = .ok (.getfield 44, 3) := by decide +kernel
theorem dX4_collectPlaces_4 : decode cX4_collectPlaces 4 = .ok (.invokevirtual 141, 3) := by decide +kernel
theorem dX4_collectPlaces_7 : decode cX4_collectPlaces 7 = .ok (.iconst 0, 1) := by decide +kernel
theorem dX4_collectPlaces_8 : decode cX4_collectPlaces 8 = .ok (.istore_n 2, 1) := by decide +kernel
theorem dX4_collectPlaces_9 : decode cX4_collectPlaces 9 = .ok (.iload_n 2, 1) := by decide +kernel
theorem dX4_collectPlaces_10 : decode cX4_collectPlaces 10 = .ok (.aload_n 0, 1) := by decide +kernel
theorem dX4_collectPlaces_11 : decode cX4_collectPlaces 11 = .ok (.getfield 51, 3) := by decide +kernel
theorem dX4_collectPlaces_14 : decode cX4_collectPlaces 14 = .ok (.if_icmp .ge 29, 3) := by decide +kernel
theorem dX4_collectPlaces_17 : decode cX4_collectPlaces 17 = .ok (.aload_n 0, 1) := by decide +kernel
theorem dX4_collectPlaces_18 : decode cX4_collectPlaces 18 = .ok (.iload_n 2, 1) := by decide +kernel
theorem dX4_collectPlaces_19 : decode cX4_collectPlaces 19 = .ok (.invokevirtual 115, 3) := by decide +kernel
theorem dX4_collectPlaces_22 : decode cX4_collectPlaces 22 = .ok (.astore_n 3, 1) := by decide +kernel
theorem dX4_collectPlaces_23 : decode cX4_collectPlaces 23 = .ok (.aload_n 3, 1) := by decide +kernel
theorem dX4_collectPlaces_24 : decode cX4_collectPlaces 24 = .ok (.ifnull 13, 3) := by decide +kernel
theorem dX4_collectPlaces_27 : decode cX4_collectPlaces 27 = .ok (.aload_n 0, 1) := by decide +kernel
theorem dX4_collectPlaces_28 : decode cX4_collectPlaces 28 = .ok (.iload_n 2, 1) := by decide +kernel
theorem dX4_collectPlaces_29 : decode cX4_collectPlaces 29 = .ok (.aload_n 3, 1) := by decide +kernel
theorem dX4_collectPlaces_30 : decode cX4_collectPlaces 30 = .ok (.getfield 77, 3) := by decide +kernel
theorem dX4_collectPlaces_33 : decode cX4_collectPlaces 33 = .ok (.iload_n 1, 1) := by decide +kernel
theorem dX4_collectPlaces_34 : decode cX4_collectPlaces 34 = .ok (.invokevirtual 218, 3) := by decide +kernel
theorem dX4_collectPlaces_37 : decode cX4_collectPlaces 37 = .ok (.iinc 2 1, 3) := by decide +kernel
theorem dX4_collectPlaces_40 : decode cX4_collectPlaces 40 = .ok (.goto (-31), 3) := by decide +kernel
theorem dX4_collectPlaces_43 : decode cX4_collectPlaces 43 = .ok (.return_, 1) := by decide +kernel
theorem dX4_collectPlacesOf_0 : decode cX4_collectPlacesOf 0 = .ok (.aload_n 0, 1) := by decide +kernel
theorem dX4_collectPlacesOf_1 : decode cX4_collectPlacesOf 1 = .ok (.getfield 26, 3) := by decide +kernel
theorem dX4_collectPlacesOf_4 : decode cX4_collectPlacesOf 4 = .ok (.invokevirtual 126, 3) := by decide +kernel
theorem dX4_collectPlacesOf_7 : decode cX4_collectPlacesOf 7 = .ok (.iconst 1, 1) := by decide +kernel
theorem dX4_collectPlacesOf_8 : decode cX4_collectPlacesOf 8 = .ok (.isub, 1) := by decide +kernel
theorem dX4_collectPlacesOf_9 : decode cX4_collectPlacesOf 9 = .ok (.iload_n 3, 1) := by decide +kernel
theorem dX4_collectPlacesOf_10 : decode cX4_collectPlacesOf 10 = .ok (.isub, 1) := by decide +kernel
theorem dX4_collectPlacesOf_11 : decode cX4_collectPlacesOf 11 = .ok (.istore 4, 2) := by decide +kernel
theorem dX4_collectPlacesOf_13 : decode cX4_collectPlacesOf 13 = .ok (.iconst 0, 1) := by decide +kernel
theorem dX4_collectPlacesOf_14 : decode cX4_collectPlacesOf 14 = .ok (.istore 5, 2) := by decide +kernel
theorem dX4_collectPlacesOf_16 : decode cX4_collectPlacesOf 16 = .ok (.iload 5, 2) := by decide +kernel
theorem dX4_collectPlacesOf_18 : decode cX4_collectPlacesOf 18 = .ok (.aload_n 2, 1) := by decide +kernel
theorem dX4_collectPlacesOf_19 : decode cX4_collectPlacesOf 19 = .ok (.invokevirtual 126, 3) := by decide +kernel
theorem dX4_collectPlacesOf_22 : decode cX4_collectPlacesOf 22 = .ok (.if_icmp .ge 39, 3) := by decide +kernel
theorem dX4_collectPlacesOf_25 : decode cX4_collectPlacesOf 25 = .ok (.aload_n 2, 1) := by decide +kernel
theorem dX4_collectPlacesOf_26 : decode cX4_collectPlacesOf 26 = .ok (.iload 5, 2) := by decide +kernel
theorem dX4_collectPlacesOf_28 : decode cX4_collectPlacesOf 28 = .ok (.aload_n 0, 1) := by decide +kernel
theorem dX4_collectPlacesOf_29 : decode cX4_collectPlacesOf 29 = .ok (.getfield 26, 3) := by decide +kernel
theorem dX4_collectPlacesOf_32 : decode cX4_collectPlacesOf 32 = .ok (.iload 4, 2) := by decide +kernel
theorem dX4_collectPlacesOf_34 : decode cX4_collectPlacesOf 34 = .ok (.invokevirtual 127, 3) := by decide +kernel
theorem dX4_collectPlacesOf_37 : decode cX4_collectPlacesOf 37 = .ok (.iload_n 3, 1) := by decide +kernel
theorem dX4_collectPlacesOf_38 : decode cX4_collectPlacesOf 38 = .ok (.if_icmp .ne 17, 3) := by decide +kernel
theorem dX4_collectPlacesOf_41 : decode cX4_collectPlacesOf 41 = .ok (.aload_n 0, 1) := by decide +kernel
theorem dX4_collectPlacesOf_42 : decode cX4_collectPlacesOf 42 = .ok (.getfield 44, 3) := by decide +kernel
theorem dX4_collectPlacesOf_45 : decode cX4_collectPlacesOf 45 = .ok (.bipush 100, 2) := by decide +kernel
theorem dX4_collectPlacesOf_47 : decode cX4_collectPlacesOf 47 = .ok (.iload_n 1, 1) := by decide +kernel
theorem dX4_collectPlacesOf_48 : decode cX4_collectPlacesOf 48 = .ok (.imul, 1) := by decide +kernel
theorem dX4_collectPlacesOf_49 : decode cX4_collectPlacesOf 49 = .ok (.iload 5, 2) := by decide +kernel
theorem dX4_collectPlacesOf_51 : decode cX4_collectPlacesOf 51 = .ok (.iadd, 1) := by decide +kernel
theorem dX4_collectPlacesOf_52 : decode cX4_collectPlacesOf 52 = .ok (.invokevirtual 139, 3) := by decide +kernel
theorem dX4_collectPlacesOf_55 : decode cX4_collectPlacesOf 55 = .ok (.iinc 5 1, 3) := by decide +kernel
theorem dX4_collectPlacesOf_58 : decode cX4_collectPlacesOf 58 = .ok (.goto (-42), 3) := by decide +kernel
theorem dX4_collectPlacesOf_61 : decode cX4_collectPlacesOf 61 = .ok (.return_, 1) := by decide +kernel
theorem dJ9_abs_0f7a4_0 : decode cJ9_abs_0f7a4 0 = .ok (.iload_n 0, 1) := by decide +kernel
theorem dJ9_abs_0f7a4_1 : decode cJ9_abs_0f7a4 1 = .ok (.ifCond .ge 8, 3) := by decide +kernel
theorem dJ9_abs_0f7a4_4 : decode cJ9_abs_0f7a4 4 = .ok (.iload_n 0, 1) := by decide +kernel
theorem dJ9_abs_0f7a4_5 : decode cJ9_abs_0f7a4 5 = .ok (.ineg, 1) := by decide +kernel
theorem dJ9_abs_0f7a4_6 : decode cJ9_abs_0f7a4 6 = .ok (.goto 4, 3) := by decide +kernel
theorem dJ9_abs_0f7a4_9 : decode cJ9_abs_0f7a4 9 = .ok (.iload_n 0, 1) := by decide +kernel
theorem dJ9_abs_0f7a4_10 : decode cJ9_abs_0f7a4 10 = .ok (.ireturn, 1) := by decide +kernel
theorem dJ9_max_7cf53_0 : decode cJ9_max_7cf53 0 = .ok (.iload_n 0, 1) := by decide +kernel
theorem dJ9_max_7cf53_1 : decode cJ9_max_7cf53 1 = .ok (.iload_n 1, 1) := by decide +kernel
theorem dJ9_max_7cf53_2 : decode cJ9_max_7cf53 2 = .ok (.if_icmp .lt 7, 3) := by decide +kernel
theorem dJ9_max_7cf53_5 : decode cJ9_max_7cf53 5 = .ok (.iload_n 0, 1) := by decide +kernel
theorem dJ9_max_7cf53_6 : decode cJ9_max_7cf53 6 = .ok (.goto 4, 3) := by decide +kernel
theorem dJ9_max_7cf53_9 : decode cJ9_max_7cf53 9 = .ok (.iload_n 1, 1) := by decide +kernel
theorem dJ9_max_7cf53_10 : decode cJ9_max_7cf53 10 = .ok (.ireturn, 1) := by decide +kernel
theorem dJ9_min_7cf53_0 : decode cJ9_min_7cf53 0 = .ok (.iload_n 0, 1) := by decide +kernel
theorem dJ9_min_7cf53_1 : decode cJ9_min_7cf53 1 = .ok (.iload_n 1, 1) := by decide +kernel
theorem dJ9_min_7cf53_2 : decode cJ9_min_7cf53 2 = .ok (.if_icmp .gt 7, 3) := by decide +kernel
theorem dJ9_min_7cf53_5 : decode cJ9_min_7cf53 5 = .ok (.iload_n 0, 1) := by decide +kernel
theorem dJ9_min_7cf53_6 : decode cJ9_min_7cf53 6 = .ok (.goto 4, 3) := by decide +kernel
theorem dJ9_min_7cf53_9 : decode cJ9_min_7cf53 9 = .ok (.iload_n 1, 1) := by decide +kernel
theorem dJ9_min_7cf53_10 : decode cJ9_min_7cf53 10 = .ok (.ireturn, 1) := by decide +kernel
