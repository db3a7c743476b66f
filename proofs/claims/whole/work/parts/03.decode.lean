theorem dX0_init_0 : decode cX0_init 0 = .ok (.aload_n 0, 1) := by decide +kernel
theorem dX0_init_1 : decode cX0_init 1 = .ok (.invokespecial 3, 3) := by decide +kernel
theorem dX0_init_4 : decode cX0_init 4 = .ok (.aload_n 0, 1) := by decide +kernel
theorem dX0_init_5 : decode cX0_init 5 = .ok (.new 9, 3) := by decide +kernel
theorem dX0_init_8 : decode cX0_init 8 = .ok (.dup, 1) := by decide +kernel
theorem dX0_init_9 : decode cX0_init 9 = .ok (.bipush 16, 2) := by decide +kernel
theorem dX0_init_11 : decode cX0_init 11 = .ok (.invokespecial 11, 3) := by decide +kernel
theorem dX0_init_14 : decode cX0_init 14 = .ok (.putfield 14, 3) := by decide +kernel
theorem dX0_init_17 : decode cX0_init 17 = .ok (.return_, 1) := by decide +kernel
theorem dX0_admitTune_0 : decode cX0_admitTune 0 = .ok (.aload_n 0, 1) := by decide +kernel
theorem dX0_admitTune_1 : decode cX0_admitTune 1 = .ok (.getfield 14, 3) := by decide +kernel
theorem dX0_admitTune_4 : decode cX0_admitTune 4 = .ok (.iconst 0, 1) := by decide +kernel
theorem dX0_admitTune_5 : decode cX0_admitTune 5 = .ok (.invokevirtual 20, 3) := by decide +kernel
theorem dX0_admitTune_8 : decode cX0_admitTune 8 = .ok (.return_, 1) := by decide +kernel
theorem dX0_areLinked_0 : decode cX0_areLinked 0 = .ok (.aload_n 0, 1) := by decide +kernel
theorem dX0_areLinked_1 : decode cX0_areLinked 1 = .ok (.getfield 14, 3) := by decide +kernel
theorem dX0_areLinked_4 : decode cX0_areLinked 4 = .ok (.iload_n 1, 1) := by decide +kernel
theorem dX0_areLinked_5 : decode cX0_areLinked 5 = .ok (.invokevirtual 23, 3) := by decide +kernel
theorem dX0_areLinked_8 : decode cX0_areLinked 8 = .ok (.iload_n 2, 1) := by decide +kernel
theorem dX0_areLinked_9 : decode cX0_areLinked 9 = .ok (.invokestatic 27, 3) := by decide +kernel
theorem dX0_areLinked_12 : decode cX0_areLinked 12 = .ok (.iand, 1) := by decide +kernel
theorem dX0_areLinked_13 : decode cX0_areLinked 13 = .ok (.ifCond .eq 7, 3) := by decide +kernel
theorem dX0_areLinked_16 : decode cX0_areLinked 16 = .ok (.iconst 1, 1) := by decide +kernel
theorem dX0_areLinked_17 : decode cX0_areLinked 17 = .ok (.goto 4, 3) := by decide +kernel
theorem dX0_areLinked_20 : decode cX0_areLinked 20 = .ok (.iconst 0, 1) := by decide +kernel
theorem dX0_areLinked_21 : decode cX0_areLinked 21 = .ok (.ireturn, 1) := by decide +kernel
theorem dX0_toggle_0 : decode cX0_toggle 0 = .ok (.aload_n 0, 1) := by decide +kernel
theorem dX0_toggle_1 : decode cX0_toggle 1 = .ok (.getfield 14, 3) := by decide +kernel
theorem dX0_toggle_4 : decode cX0_toggle 4 = .ok (.iload_n 1, 1) := by decide +kernel
theorem dX0_toggle_5 : decode cX0_toggle 5 = .ok (.aload_n 0, 1) := by decide +kernel
theorem dX0_toggle_6 : decode cX0_toggle 6 = .ok (.getfield 14, 3) := by decide +kernel
theorem dX0_toggle_9 : decode cX0_toggle 9 = .ok (.iload_n 1, 1) := by decide +kernel
theorem dX0_toggle_10 : decode cX0_toggle 10 = .ok (.invokevirtual 23, 3) := by decide +kernel
theorem dX0_toggle_13 : decode cX0_toggle 13 = .ok (.iload_n 2, 1) := by decide +kernel
theorem dX0_toggle_14 : decode cX0_toggle 14 = .ok (.invokestatic 27, 3) := by decide +kernel
theorem dX0_toggle_17 : decode cX0_toggle 17 = .ok (.ixor, 1) := by decide +kernel
theorem dX0_toggle_18 : decode cX0_toggle 18 = .ok (.invokevirtual 30, 3) := by decide +kernel
theorem dX0_toggle_21 : decode cX0_toggle 21 = .ok (.aload_n 0, 1) := by decide +kernel
theorem dX0_toggle_22 : decode cX0_toggle 22 = .ok (.getfield 14, 3) := by decide +kernel
theorem dX0_toggle_25 : decode cX0_toggle 25 = .ok (.iload_n 2, 1) := by decide +kernel
theorem dX0_toggle_26 : decode cX0_toggle 26 = .ok (.aload_n 0, 1) := by decide +kernel
theorem dX0_toggle_27 : decode cX0_toggle 27 = .ok (.getfield 14, 3) := by decide +kernel
theorem dX0_toggle_30 : decode cX0_toggle 30 = .ok (.iload_n 2, 1) := by decide +kernel
theorem dX0_toggle_31 : decode cX0_toggle 31 = .ok (.invokevirtual 23, 3) := by decide +kernel
theorem dX0_toggle_34 : decode cX0_toggle 34 = .ok (.iload_n 1, 1) := by decide +kernel
theorem dX0_toggle_35 : decode cX0_toggle 35 = .ok (.invokestatic 27, 3) := by decide +kernel
theorem dX0_toggle_38 : decode cX0_toggle 38 = .ok (.ixor, 1) := by decide +kernel
theorem dX0_toggle_39 : decode cX0_toggle 39 = .ok (.invokevirtual 30, 3) := by decide +kernel
theorem dX0_toggle_42 : decode cX0_toggle 42 = .ok (.return_, 1) := by decide +kernel
theorem dX0_countFamilies_0 : decode cX0_countFamilies 0 = .ok (.iconst 0, 1) := by decide +kernel
theorem dX0_countFamilies_1 : decode cX0_countFamilies 1 = .ok (.istore_n 1, 1) := by decide +kernel
theorem dX0_countFamilies_2 : decode cX0_countFamilies 2 = .ok (.iconst 0, 1) := by decide +kernel
theorem dX0_countFamilies_3 : decode cX0_countFamilies 3 = .ok (.istore_n 2, 1) := by decide +kernel
theorem dX0_countFamilies_4 : decode cX0_countFamilies 4 = .ok (.iload_n 2, 1) := by decide +kernel
theorem dX0_countFamilies_5 : decode cX0_countFamilies 5 = .ok (.aload_n 0, 1) := by decide +kernel
theorem dX0_countFamilies_6 : decode cX0_countFamilies 6 = .ok (.getfield 14, 3) := by decide +kernel
theorem dX0_countFamilies_9 : decode cX0_countFamilies 9 = .ok (.invokevirtual 34, 3) := by decide +kernel
theorem dX0_countFamilies_12 : decode cX0_countFamilies 12 = .ok (.if_icmp .ge 21, 3) := by decide +kernel
theorem dX0_countFamilies_15 : decode cX0_countFamilies 15 = .ok (.aload_n 0, 1) := by decide +kernel
theorem dX0_countFamilies_16 : decode cX0_countFamilies 16 = .ok (.iload_n 2, 1) := by decide +kernel
theorem dX0_countFamilies_17 : decode cX0_countFamilies 17 = .ok (.invokevirtual 38, 3) := by decide +kernel
theorem dX0_countFamilies_20 : decode cX0_countFamilies 20 = .ok (.iload_n 2, 1) := by decide +kernel
theorem dX0_countFamilies_21 : decode cX0_countFamilies 21 = .ok (.if_icmp .ne 6, 3) := by decide +kernel
theorem dX0_countFamilies_24 : decode cX0_countFamilies 24 = .ok (.iinc 1 1, 3) := by decide +kernel
theorem dX0_countFamilies_27 : decode cX0_countFamilies 27 = .ok (.iinc 2 1, 3) := by decide +kernel
theorem dX0_countFamilies_30 : decode cX0_countFamilies 30 = .ok (.goto (-26), 3) := by decide +kernel
theorem dX0_countFamilies_33 : decode cX0_countFamilies 33 = .ok (.iload_n 1, 1) := by decide +kernel
theorem dX0_countFamilies_34 : decode cX0_countFamilies 34 = .ok (.ireturn, 1) := by decide +kernel
theorem dX0_lowestOfFamily_0 : decode cX0_lowestOfFamily 0 = .ok (.iload_n 1, 1) := by decide +kernel
theorem dX0_lowestOfFamily_1 : decode cX0_lowestOfFamily 1 = .ok (.invokestatic 27, 3) := by decide +kernel
theorem dX0_lowestOfFamily_4 : decode cX0_lowestOfFamily 4 = .ok (.istore_n 2, 1) := by decide +kernel
theorem dX0_lowestOfFamily_5 : decode cX0_lowestOfFamily 5 = .ok (.iconst 1, 1) := by decide +kernel
theorem dX0_lowestOfFamily_6 : decode cX0_lowestOfFamily 6 = .ok (.istore_n 3, 1) := by decide +kernel
theorem dX0_lowestOfFamily_7 : decode cX0_lowestOfFamily 7 = .ok (.iload_n 3, 1) := by decide +kernel
theorem dX0_lowestOfFamily_8 : decode cX0_lowestOfFamily 8 = .ok (.aload_n 0, 1) := by decide +kernel
theorem dX0_lowestOfFamily_9 : decode cX0_lowestOfFamily 9 = .ok (.getfield 14, 3) := by decide +kernel
theorem dX0_lowestOfFamily_12 : decode cX0_lowestOfFamily 12 = .ok (.invokevirtual 34, 3) := by decide +kernel
theorem dX0_lowestOfFamily_15 : decode cX0_lowestOfFamily 15 = .ok (.if_icmp .ge 15, 3) := by decide +kernel
theorem dX0_lowestOfFamily_18 : decode cX0_lowestOfFamily 18 = .ok (.aload_n 0, 1) := by decide +kernel
theorem dX0_lowestOfFamily_19 : decode cX0_lowestOfFamily 19 = .ok (.iload_n 2, 1) := by decide +kernel
theorem dX0_lowestOfFamily_20 : decode cX0_lowestOfFamily 20 = .ok (.invokevirtual 41, 3) := by decide +kernel
theorem dX0_lowestOfFamily_23 : decode cX0_lowestOfFamily 23 = .ok (.istore_n 2, 1) := by decide +kernel
theorem dX0_lowestOfFamily_24 : decode cX0_lowestOfFamily 24 = .ok (.iinc 3 1, 3) := by decide +kernel
theorem dX0_lowestOfFamily_27 : decode cX0_lowestOfFamily 27 = .ok (.goto (-20), 3) := by decide +kernel
theorem dX0_lowestOfFamily_30 : decode cX0_lowestOfFamily 30 = .ok (.iconst 0, 1) := by decide +kernel
theorem dX0_lowestOfFamily_31 : decode cX0_lowestOfFamily 31 = .ok (.istore_n 3, 1) := by decide +kernel
theorem dX0_lowestOfFamily_32 : decode cX0_lowestOfFamily 32 = .ok (.iload_n 3, 1) := by decide +kernel
theorem dX0_lowestOfFamily_33 : decode cX0_lowestOfFamily 33 = .ok (.iload_n 1, 1) := by decide +kernel
theorem dX0_lowestOfFamily_34 : decode cX0_lowestOfFamily 34 = .ok (.if_icmp .ge 18, 3) := by decide +kernel
theorem dX0_lowestOfFamily_37 : decode cX0_lowestOfFamily 37 = .ok (.iload_n 2, 1) := by decide +kernel
theorem dX0_lowestOfFamily_38 : decode cX0_lowestOfFamily 38 = .ok (.iload_n 3, 1) := by decide +kernel
theorem dX0_lowestOfFamily_39 : decode cX0_lowestOfFamily 39 = .ok (.invokestatic 27, 3) := by decide +kernel
theorem dX0_lowestOfFamily_42 : decode cX0_lowestOfFamily 42 = .ok (.iand, 1) := by decide +kernel
theorem dX0_lowestOfFamily_43 : decode cX0_lowestOfFamily 43 = .ok (.ifCond .ne 9, 3) := by decide +kernel
theorem dX0_lowestOfFamily_46 : decode cX0_lowestOfFamily 46 = .ok (.iinc 3 1, 3) := by decide +kernel
theorem dX0_lowestOfFamily_49 : decode cX0_lowestOfFamily 49 = .ok (.goto (-17), 3) := by decide +kernel
theorem dX0_lowestOfFamily_52 : decode cX0_lowestOfFamily 52 = .ok (.iload_n 3, 1) := by decide +kernel
theorem dX0_lowestOfFamily_53 : decode cX0_lowestOfFamily 53 = .ok (.ireturn, 1) := by decide +kernel
theorem dX0_withPartners_0 : decode cX0_withPartners 0 = .ok (.iload_n 1, 1) := by decide +kernel
theorem dX0_withPartners_1 : decode cX0_withPartners 1 = .ok (.istore_n 2, 1) := by decide +kernel
theorem dX0_withPartners_2 : decode cX0_withPartners 2 = .ok (.iconst 0, 1) := by decide +kernel
theorem dX0_withPartners_3 : decode cX0_withPartners 3 = .ok (.istore_n 3, 1) := by decide +kernel
theorem dX0_withPartners_4 : decode cX0_withPartners 4 = .ok (.iload_n 3, 1) := by decide +kernel
theorem dX0_withPartners_5 : decode cX0_withPartners 5 = .ok (.aload_n 0, 1) := by decide +kernel
theorem dX0_withPartners_6 : decode cX0_withPartners 6 = .ok (.getfield 14, 3) := by decide +kernel
theorem dX0_withPartners_9 : decode cX0_withPartners 9 = .ok (.invokevirtual 34, 3) := by decide +kernel
theorem dX0_withPartners_12 : decode cX0_withPartners 12 = .ok (.if_icmp .ge 29, 3) := by decide +kernel
theorem dX0_withPartners_15 : decode cX0_withPartners 15 = .ok (.iload_n 1, 1) := by decide +kernel
theorem dX0_withPartners_16 : decode cX0_withPartners 16 = .ok (.iload_n 3, 1) := by decide +kernel
theorem dX0_withPartners_17 : decode cX0_withPartners 17 = .ok (.invokestatic 27, 3) := by decide +kernel
theorem dX0_withPartners_20 : decode cX0_withPartners 20 = .ok (.iand, 1) := by decide +kernel
theorem dX0_withPartners_21 : decode cX0_withPartners 21 = .ok (.ifCond .eq 14, 3) := by decide +kernel
theorem dX0_withPartners_24 : decode cX0_withPartners 24 = .ok (.iload_n 2, 1) := by decide +kernel
theorem dX0_withPartners_25 : decode cX0_withPartners 25 = .ok (.aload_n 0, 1) := by decide +kernel
theorem dX0_withPartners_26 : decode cX0_withPartners 26 = .ok (.getfield 14, 3) := by decide +kernel
theorem dX0_withPartners_29 : decode cX0_withPartners 29 = .ok (.iload_n 3, 1) := by decide +kernel
theorem dX0_withPartners_30 : decode cX0_withPartners 30 = .ok (.invokevirtual 23, 3) := by decide +kernel
theorem dX0_withPartners_33 : decode cX0_withPartners 33 = .ok (.ior, 1) := by decide +kernel
theorem dX0_withPartners_34 : decode cX0_withPartners 34 = .ok (.istore_n 2, 1) := by decide +kernel
theorem dX0_withPartners_35 : decode cX0_withPartners 35 = .ok (.iinc 3 1, 3) := by decide +kernel
theorem dX0_withPartners_38 : decode cX0_withPartners 38 = .ok (.goto (-34), 3) := by decide +kernel
theorem dX0_withPartners_41 : decode cX0_withPartners 41 = .ok (.iload_n 2, 1) := by decide +kernel
theorem dX0_withPartners_42 : decode cX0_withPartners 42 = .ok (.ireturn, 1) := by decide +kernel
theorem dX0_setOf_0 : decode cX0_setOf 0 = .ok (.iconst 1, 1) := by decide +kernel
theorem dX0_setOf_1 : decode cX0_setOf 1 = .ok (.iload_n 0, 1) := by decide +kernel
theorem dX0_setOf_2 : decode cX0_setOf 2 = .ok (.ishl, 1) := by decide +kernel
theorem dX0_setOf_3 : decode cX0_setOf 3 = .ok (.ireturn, 1) := by decide +kernel
theorem dX1_init_0 : decode cX1_init 0 = .ok (.aload_n 0, 1) := by decide +kernel
theorem dX1_init_1 : decode cX1_init 1 = .ok (.invokespecial 3, 3) := by decide +kernel
theorem dX1_init_4 : decode cX1_init 4 = .ok (.aload_n 0, 1) := by decide +kernel
theorem dX1_init_5 : decode cX1_init 5 = .ok (.new 9, 3) := by decide +kernel
theorem dX1_init_8 : decode cX1_init 8 = .ok (.dup, 1) := by decide +kernel
theorem dX1_init_9 : decode cX1_init 9 = .ok (.bipush 12, 2) := by decide +kernel
theorem dX1_init_11 : decode cX1_init 11 = .ok (.invokespecial 11, 3) := by decide +kernel
theorem dX1_init_14 : decode cX1_init 14 = .ok (.putfield 14, 3) := by decide +kernel
theorem dX1_init_17 : decode cX1_init 17 = .ok (.aload_n 0, 1) := by decide +kernel
theorem dX1_init_18 : decode cX1_init 18 = .ok (.iconst 2, 1) := by decide +kernel
theorem dX1_init_19 : decode cX1_init 19 = .ok (.putfield 20, 3) := by decide +kernel
theorem dX1_init_22 : decode cX1_init 22 = .ok (.aload_n 0, 1) := by decide +kernel
theorem dX1_init_23 : decode cX1_init 23 = .ok (.iconst 3, 1) := by decide +kernel
theorem dX1_init_24 : decode cX1_init 24 = .ok (.putfield 24, 3) := by decide +kernel
theorem dX1_init_27 : decode cX1_init 27 = .ok (.aload_n 0, 1) := by decide +kernel
theorem dX1_init_28 : decode cX1_init 28 = .ok (.iconst 1, 1) := by decide +kernel
theorem dX1_init_29 : decode cX1_init 29 = .ok (.putfield 27, 3) := by decide +kernel
theorem dX1_init_32 : decode cX1_init 32 = .ok (.aload_n 0, 1) := by decide +kernel
theorem dX1_init_33 : decode cX1_init 33 = .ok (.sipush 288, 3) := by decide +kernel
theorem dX1_init_36 : decode cX1_init 36 = .ok (.newarray .int, 2) := by decide +kernel
theorem dX1_init_38 : decode cX1_init 38 = .ok (.putfield 30, 3) := by decide +kernel
theorem dX1_init_41 : decode cX1_init 41 = .ok (.return_, 1) := by decide +kernel
theorem dX1_cheapestByTable_0 : decode cX1_cheapestByTable 0 = .ok (.iconst 0, 1) := by decide +kernel
theorem dX1_cheapestByTable_1 : decode cX1_cheapestByTable 1 = .ok (.istore_n 2, 1) := by decide +kernel
theorem dX1_cheapestByTable_2 : decode cX1_cheapestByTable 2 = .ok (.iload_n 2, 1) := by decide +kernel
theorem dX1_cheapestByTable_3 : decode cX1_cheapestByTable 3 = .ok (.aload_n 0, 1) := by decide +kernel
theorem dX1_cheapestByTable_4 : decode cX1_cheapestByTable 4 = .ok (.getfield 14, 3) := by decide +kernel
theorem dX1_cheapestByTable_7 : decode cX1_cheapestByTable 7 = .ok (.invokevirtual 34, 3) := by decide +kernel
theorem dX1_cheapestByTable_10 : decode cX1_cheapestByTable 10 = .ok (.if_icmp .ge 38, 3) := by decide +kernel
theorem dX1_cheapestByTable_13 : decode cX1_cheapestByTable 13 = .ok (.iconst 0, 1) := by decide +kernel
theorem dX1_cheapestByTable_14 : decode cX1_cheapestByTable 14 = .ok (.istore_n 3, 1) := by decide +kernel
theorem dX1_cheapestByTable_15 : decode cX1_cheapestByTable 15 = .ok (.iload_n 3, 1) := by decide +kernel
theorem dX1_cheapestByTable_16 : decode cX1_cheapestByTable 16 = .ok (.aload_n 1, 1) := by decide +kernel
theorem dX1_cheapestByTable_17 : decode cX1_cheapestByTable 17 = .ok (.invokevirtual 38, 3) := by decide +kernel
theorem dX1_cheapestByTable_20 : decode cX1_cheapestByTable 20 = .ok (.if_icmp .ge 22, 3) := by decide +kernel
theorem dX1_cheapestByTable_23 : decode cX1_cheapestByTable 23 = .ok (.aload_n 0, 1) := by decide +kernel
theorem dX1_cheapestByTable_24 : decode cX1_cheapestByTable 24 = .ok (.iload_n 2, 1) := by decide +kernel
theorem dX1_cheapestByTable_25 : decode cX1_cheapestByTable 25 = .ok (.iload_n 3, 1) := by decide +kernel
theorem dX1_cheapestByTable_26 : decode cX1_cheapestByTable 26 = .ok (.aload_n 0, 1) := by decide +kernel
theorem dX1_cheapestByTable_27 : decode cX1_cheapestByTable 27 = .ok (.aload_n 1, 1) := by decide +kernel
theorem dX1_cheapestByTable_28 : decode cX1_cheapestByTable 28 = .ok (.iload_n 2, 1) := by decide +kernel
theorem dX1_cheapestByTable_29 : decode cX1_cheapestByTable 29 = .ok (.iload_n 3, 1) := by decide +kernel
theorem dX1_cheapestByTable_30 : decode cX1_cheapestByTable 30 = .ok (.invokevirtual 41, 3) := by decide +kernel
theorem dX1_cheapestByTable_33 : decode cX1_cheapestByTable 33 = .ok (.invokevirtual 45, 3) := by decide +kernel
theorem dX1_cheapestByTable_36 : decode cX1_cheapestByTable 36 = .ok (.iinc 3 1, 3) := by decide +kernel
theorem dX1_cheapestByTable_39 : decode cX1_cheapestByTable 39 = .ok (.goto (-24), 3) := by decide +kernel
theorem dX1_cheapestByTable_42 : decode cX1_cheapestByTable 42 = .ok (.iinc 2 1, 3) := by decide +kernel
theorem dX1_cheapestByTable_45 : decode cX1_cheapestByTable 45 = .ok (.goto (-43), 3) := by decide +kernel
theorem dX1_cheapestByTable_48 : decode cX1_cheapestByTable 48 = .ok (.iconst (-1), 1) := by decide +kernel
theorem dX1_cheapestByTable_49 : decode cX1_cheapestByTable 49 = .ok (.istore_n 2, 1) := by decide +kernel
theorem dX1_cheapestByTable_50 : decode cX1_cheapestByTable 50 = .ok (.iconst 0, 1) := by decide +kernel
theorem dX1_cheapestByTable_51 : decode cX1_cheapestByTable 51 = .ok (.istore_n 3, 1) := by decide +kernel
theorem dX1_cheapestByTable_52 : decode cX1_cheapestByTable 52 = .ok (.iload_n 3, 1) := by decide +kernel
theorem dX1_cheapestByTable_53 : decode cX1_cheapestByTable 53 = .ok (.aload_n 1, 1) := by decide +kernel
theorem dX1_cheapestByTable_54 : decode cX1_cheapestByTable 54 = .ok (.invokevirtual 38, 3) := by decide +kernel
theorem dX1_cheapestByTable_57 : decode cX1_cheapestByTable 57 = .ok (.if_icmp .ge 28, 3) := by decide +kernel
theorem dX1_cheapestByTable_60 : decode cX1_cheapestByTable 60 = .ok (.iload_n 2, 1) := by decide +kernel
theorem dX1_cheapestByTable_61 : decode cX1_cheapestByTable 61 = .ok (.aload_n 0, 1) := by decide +kernel
theorem dX1_cheapestByTable_62 : decode cX1_cheapestByTable 62 = .ok (.aload_n 0, 1) := by decide +kernel
theorem dX1_cheapestByTable_63 : decode cX1_cheapestByTable 63 = .ok (.getfield 14, 3) := by decide +kernel
theorem dX1_cheapestByTable_66 : decode cX1_cheapestByTable 66 = .ok (.invokevirtual 34, 3) := by decide +kernel
theorem dX1_cheapestByTable_69 : decode cX1_cheapestByTable 69 = .ok (.iconst 1, 1) := by decide +kernel
theorem dX1_cheapestByTable_70 : decode cX1_cheapestByTable 70 = .ok (.isub, 1) := by decide +kernel
theorem dX1_cheapestByTable_71 : decode cX1_cheapestByTable 71 = .ok (.iload_n 3, 1) := by decide +kernel
theorem dX1_cheapestByTable_72 : decode cX1_cheapestByTable 72 = .ok (.invokevirtual 49, 3) := by decide +kernel
theorem dX1_cheapestByTable_75 : decode cX1_cheapestByTable 75 = .ok (.invokestatic 53, 3) := by decide +kernel
theorem dX1_cheapestByTable_78 : decode cX1_cheapestByTable 78 = .ok (.istore_n 2, 1) := by decide +kernel
theorem dX1_cheapestByTable_79 : decode cX1_cheapestByTable 79 = .ok (.iinc 3 1, 3) := by decide +kernel
theorem dX1_cheapestByTable_82 : decode cX1_cheapestByTable 82 = .ok (.goto (-30), 3) := by decide +kernel
theorem dX1_cheapestByTable_85 : decode cX1_cheapestByTable 85 = .ok (.iload_n 2, 1) := by decide +kernel
theorem dX1_cheapestByTable_86 : decode cX1_cheapestByTable 86 = .ok (.ireturn, 1) := by decide +kernel
theorem dX1_cheapestByTrying_0 : decode cX1_cheapestByTrying 0 = .ok (.aload_n 0, 1) := by decide +kernel
theorem dX1_cheapestByTrying_1 : decode cX1_cheapestByTrying 1 = .ok (.getfield 14, 3) := by decide +kernel
theorem dX1_cheapestByTrying_4 : decode cX1_cheapestByTrying 4 = .ok (.invokevirtual 34, 3) := by decide +kernel
theorem dX1_cheapestByTrying_7 : decode cX1_cheapestByTrying 7 = .ok (.ifCond .ne 7, 3) := by decide +kernel
theorem dX1_cheapestByTrying_10 : decode cX1_cheapestByTrying 10 = .ok (.iconst (-1), 1) := by decide +kernel
theorem dX1_cheapestByTrying_11 : decode cX1_cheapestByTrying 11 = .ok (.goto 11, 3) := by decide +kernel
theorem dX1_cheapestByTrying_14 : decode cX1_cheapestByTrying 14 = .ok (.aload_n 0, 1) := by decide +kernel
theorem dX1_cheapestByTrying_15 : decode cX1_cheapestByTrying 15 = .ok (.aload_n 1, 1) := by decide +kernel
theorem dX1_cheapestByTrying_16 : decode cX1_cheapestByTrying 16 = .ok (.iconst 0, 1) := by decide +kernel
theorem dX1_cheapestByTrying_17 : decode cX1_cheapestByTrying 17 = .ok (.iconst 0, 1) := by decide +kernel
theorem dX1_cheapestByTrying_18 : decode cX1_cheapestByTrying 18 = .ok (.iconst 1, 1) := by decide +kernel
theorem dX1_cheapestByTrying_19 : decode cX1_cheapestByTrying 19 = .ok (.invokevirtual 56, 3) := by decide +kernel
theorem dX1_cheapestByTrying_22 : decode cX1_cheapestByTrying 22 = .ok (.ireturn, 1) := by decide +kernel
theorem dX1_tableAt_0 : decode cX1_tableAt 0 = .ok (.iload_n 1, 1) := by decide +kernel
theorem dX1_tableAt_1 : decode cX1_tableAt 1 = .ok (.iconst 0, 1) := by decide +kernel
theorem dX1_tableAt_2 : decode cX1_tableAt 2 = .ok (.bipush 11, 2) := by decide +kernel
theorem dX1_tableAt_4 : decode cX1_tableAt 4 = .ok (.invokestatic 60, 3) := by decide +kernel
theorem dX1_tableAt_7 : decode cX1_tableAt 7 = .ok (.ifCond .eq 17, 3) := by decide +kernel
theorem dX1_tableAt_10 : decode cX1_tableAt 10 = .ok (.iload_n 2, 1) := by decide +kernel
theorem dX1_tableAt_11 : decode cX1_tableAt 11 = .ok (.iconst 0, 1) := by decide +kernel
theorem dX1_tableAt_12 : decode cX1_tableAt 12 = .ok (.bipush 23, 2) := by decide +kernel
theorem dX1_tableAt_14 : decode cX1_tableAt 14 = .ok (.invokestatic 60, 3) := by decide +kernel
theorem dX1_tableAt_17 : decode cX1_tableAt 17 = .ok (.ifCond .eq 7, 3) := by decide +kernel
theorem dX1_tableAt_20 : decode cX1_tableAt 20 = .ok (.iconst 1, 1) := by decide +kernel
theorem dX1_tableAt_21 : decode cX1_tableAt 21 = .ok (.goto 4, 3) := by decide +kernel
theorem dX1_tableAt_24 : decode cX1_tableAt 24 = .ok (.iconst 0, 1) := by decide +kernel
theorem dX1_tableAt_25 : decode cX1_tableAt 25 = .ok (.istore_n 3, 1) := by decide +kernel
theorem dX1_tableAt_26 : decode cX1_tableAt 26 = .ok (.iload_n 1, 1) := by decide +kernel
theorem dX1_tableAt_27 : decode cX1_tableAt 27 = .ok (.bipush 24, 2) := by decide +kernel
theorem dX1_tableAt_29 : decode cX1_tableAt 29 = .ok (.imul, 1) := by decide +kernel
theorem dX1_tableAt_30 : decode cX1_tableAt 30 = .ok (.iload_n 2, 1) := by decide +kernel
theorem dX1_tableAt_31 : decode cX1_tableAt 31 = .ok (.iadd, 1) := by decide +kernel
theorem dX1_tableAt_32 : decode cX1_tableAt 32 = .ok (.istore 4, 2) := by decide +kernel
theorem dX1_tableAt_34 : decode cX1_tableAt 34 = .ok (.iload_n 3, 1) := by decide +kernel
theorem dX1_tableAt_35 : decode cX1_tableAt 35 = .ok (.ifCond .eq 28, 3) := by decide +kernel
theorem dX1_tableAt_38 : decode cX1_tableAt 38 = .ok (.iload 4, 2) := by decide +kernel
theorem dX1_tableAt_40 : decode cX1_tableAt 40 = .ok (.ifCond .lt 23, 3) := by decide +kernel
theorem dX1_tableAt_43 : decode cX1_tableAt 43 = .ok (.iload 4, 2) := by decide +kernel
theorem dX1_tableAt_45 : decode cX1_tableAt 45 = .ok (.aload_n 0, 1) := by decide +kernel
theorem dX1_tableAt_46 : decode cX1_tableAt 46 = .ok (.getfield 30, 3) := by decide +kernel
theorem dX1_tableAt_49 : decode cX1_tableAt 49 = .ok (.arraylength, 1) := by decide +kernel
theorem dX1_tableAt_50 : decode cX1_tableAt 50 = .ok (.if_icmp .ge 13, 3) := by decide +kernel
theorem dX1_tableAt_53 : decode cX1_tableAt 53 = .ok (.aload_n 0, 1) := by decide +kernel
theorem dX1_tableAt_54 : decode cX1_tableAt 54 = .ok (.getfield 30, 3) := by decide +kernel
theorem dX1_tableAt_57 : decode cX1_tableAt 57 = .ok (.iload 4, 2) := by decide +kernel
theorem dX1_tableAt_59 : decode cX1_tableAt 59 = .ok (.iaload, 1) := by decide +kernel
theorem dX1_tableAt_60 : decode cX1_tableAt 60 = .ok (.goto 4, 3) := by decide +kernel
theorem dX1_tableAt_63 : decode cX1_tableAt 63 = .ok (.iconst (-1), 1) := by decide +kernel
theorem dX1_tableAt_64 : decode cX1_tableAt 64 = .ok (.ireturn, 1) := by decide +kernel
theorem dX1_setTableAt_0 : decode cX1_setTableAt 0 = .ok (.iload_n 1, 1) := by decide +kernel
theorem dX1_setTableAt_1 : decode cX1_setTableAt 1 = .ok (.bipush 24, 2) := by decide +kernel
theorem dX1_setTableAt_3 : decode cX1_setTableAt 3 = .ok (.imul, 1) := by decide +kernel
theorem dX1_setTableAt_4 : decode cX1_setTableAt 4 = .ok (.iload_n 2, 1) := by decide +kernel
theorem dX1_setTableAt_5 : decode cX1_setTableAt 5 = .ok (.iadd, 1) := by decide +kernel
theorem dX1_setTableAt_6 : decode cX1_setTableAt 6 = .ok (.istore 4, 2) := by decide +kernel
theorem dX1_setTableAt_8 : decode cX1_setTableAt 8 = .ok (.iload 4, 2) := by decide +kernel
theorem dX1_setTableAt_10 : decode cX1_setTableAt 10 = .ok (.ifCond .lt 21, 3) := by decide +kernel
theorem dX1_setTableAt_13 : decode cX1_setTableAt 13 = .ok (.iload 4, 2) := by decide +kernel
theorem dX1_setTableAt_15 : decode cX1_setTableAt 15 = .ok (.aload_n 0, 1) := by decide +kernel
theorem dX1_setTableAt_16 : decode cX1_setTableAt 16 = .ok (.getfield 30, 3) := by decide +kernel
theorem dX1_setTableAt_19 : decode cX1_setTableAt 19 = .ok (.arraylength, 1) := by decide +kernel
theorem dX1_setTableAt_20 : decode cX1_setTableAt 20 = .ok (.if_icmp .ge 11, 3) := by decide +kernel
theorem dX1_setTableAt_23 : decode cX1_setTableAt 23 = .ok (.aload_n 0, 1) := by decide +kernel
theorem dX1_setTableAt_24 : decode cX1_setTableAt 24 = .ok (.getfield 30, 3) := by decide +kernel
theorem dX1_setTableAt_27 : decode cX1_setTableAt 27 = .ok (.iload 4, 2) := by decide +kernel
theorem dX1_setTableAt_29 : decode cX1_setTableAt 29 = .ok (.iload_n 3, 1) := by decide +kernel
theorem dX1_setTableAt_30 : decode cX1_setTableAt 30 = .ok (.iastore, 1) := by decide +kernel
theorem dX1_setTableAt_31 : decode cX1_setTableAt 31 = .ok (.return_, 1) := by decide +kernel
theorem dX1_cheapestTo_0 : decode cX1_cheapestTo 0 = .ok (.iload_n 2, 1) := by decide +kernel
theorem dX1_cheapestTo_1 : decode cX1_cheapestTo 1 = .ok (.ifCond .ne 13, 3) := by decide +kernel
theorem dX1_cheapestTo_4 : decode cX1_cheapestTo 4 = .ok (.iload_n 3, 1) := by decide +kernel
theorem dX1_cheapestTo_5 : decode cX1_cheapestTo 5 = .ok (.ifCond .ne 7, 3) := by decide +kernel
theorem dX1_cheapestTo_8 : decode cX1_cheapestTo 8 = .ok (.iconst 0, 1) := by decide +kernel
theorem dX1_cheapestTo_9 : decode cX1_cheapestTo 9 = .ok (.goto 4, 3) := by decide +kernel
theorem dX1_cheapestTo_12 : decode cX1_cheapestTo 12 = .ok (.iconst (-1), 1) := by decide +kernel
theorem dX1_cheapestTo_13 : decode cX1_cheapestTo 13 = .ok (.ireturn, 1) := by decide +kernel
theorem dX1_cheapestTo_14 : decode cX1_cheapestTo 14 = .ok (.iconst (-1), 1) := by decide +kernel
theorem dX1_cheapestTo_15 : decode cX1_cheapestTo 15 = .ok (.istore 4, 2) := by decide +kernel
theorem dX1_cheapestTo_17 : decode cX1_cheapestTo 17 = .ok (.iconst 0, 1) := by decide +kernel
theorem dX1_cheapestTo_18 : decode cX1_cheapestTo 18 = .ok (.istore 5, 2) := by decide +kernel
theorem dX1_cheapestTo_20 : decode cX1_cheapestTo 20 = .ok (.iload 5, 2) := by decide +kernel
theorem dX1_cheapestTo_22 : decode cX1_cheapestTo 22 = .ok (.iconst 2, 1) := by decide +kernel
theorem dX1_cheapestTo_23 : decode cX1_cheapestTo 23 = .ok (.if_icmp .gt 32, 3) := by decide +kernel
theorem dX1_cheapestTo_26 : decode cX1_cheapestTo 26 = .ok (.iload 4, 2) := by decide +kernel
theorem dX1_cheapestTo_28 : decode cX1_cheapestTo 28 = .ok (.aload_n 0, 1) := by decide +kernel
theorem dX1_cheapestTo_29 : decode cX1_cheapestTo 29 = .ok (.aload_n 1, 1) := by decide +kernel
theorem dX1_cheapestTo_30 : decode cX1_cheapestTo 30 = .ok (.iload_n 2, 1) := by decide +kernel
theorem dX1_cheapestTo_31 : decode cX1_cheapestTo 31 = .ok (.iconst 1, 1) := by decide +kernel
theorem dX1_cheapestTo_32 : decode cX1_cheapestTo 32 = .ok (.isub, 1) := by decide +kernel
theorem dX1_cheapestTo_33 : decode cX1_cheapestTo 33 = .ok (.iload_n 3, 1) := by decide +kernel
theorem dX1_cheapestTo_34 : decode cX1_cheapestTo 34 = .ok (.iconst 1, 1) := by decide +kernel
theorem dX1_cheapestTo_35 : decode cX1_cheapestTo 35 = .ok (.isub, 1) := by decide +kernel
theorem dX1_cheapestTo_36 : decode cX1_cheapestTo 36 = .ok (.iload 5, 2) := by decide +kernel
theorem dX1_cheapestTo_38 : decode cX1_cheapestTo 38 = .ok (.isub, 1) := by decide +kernel
theorem dX1_cheapestTo_39 : decode cX1_cheapestTo 39 = .ok (.iload_n 2, 1) := by decide +kernel
theorem dX1_cheapestTo_40 : decode cX1_cheapestTo 40 = .ok (.iload_n 3, 1) := by decide +kernel
theorem dX1_cheapestTo_41 : decode cX1_cheapestTo 41 = .ok (.invokevirtual 64, 3) := by decide +kernel
theorem dX1_cheapestTo_44 : decode cX1_cheapestTo 44 = .ok (.invokestatic 53, 3) := by decide +kernel
theorem dX1_cheapestTo_47 : decode cX1_cheapestTo 47 = .ok (.istore 4, 2) := by decide +kernel
theorem dX1_cheapestTo_49 : decode cX1_cheapestTo 49 = .ok (.iinc 5 1, 3) := by decide +kernel
theorem dX1_cheapestTo_52 : decode cX1_cheapestTo 52 = .ok (.goto (-32), 3) := by decide +kernel
theorem dX1_cheapestTo_55 : decode cX1_cheapestTo 55 = .ok (.iconst 1, 1) := by decide +kernel
theorem dX1_cheapestTo_56 : decode cX1_cheapestTo 56 = .ok (.istore 5, 2) := by decide +kernel
theorem dX1_cheapestTo_58 : decode cX1_cheapestTo 58 = .ok (.iload 5, 2) := by decide +kernel
theorem dX1_cheapestTo_60 : decode cX1_cheapestTo 60 = .ok (.iconst 2, 1) := by decide +kernel
theorem dX1_cheapestTo_61 : decode cX1_cheapestTo 61 = .ok (.if_icmp .gt 32, 3) := by decide +kernel
theorem dX1_cheapestTo_64 : decode cX1_cheapestTo 64 = .ok (.iload 4, 2) := by decide +kernel
theorem dX1_cheapestTo_66 : decode cX1_cheapestTo 66 = .ok (.aload_n 0, 1) := by decide +kernel
theorem dX1_cheapestTo_67 : decode cX1_cheapestTo 67 = .ok (.aload_n 1, 1) := by decide +kernel
theorem dX1_cheapestTo_68 : decode cX1_cheapestTo 68 = .ok (.iload_n 2, 1) := by decide +kernel
theorem dX1_cheapestTo_69 : decode cX1_cheapestTo 69 = .ok (.iconst 1, 1) := by decide +kernel
theorem dX1_cheapestTo_70 : decode cX1_cheapestTo 70 = .ok (.isub, 1) := by decide +kernel
theorem dX1_cheapestTo_71 : decode cX1_cheapestTo 71 = .ok (.iload 5, 2) := by decide +kernel
theorem dX1_cheapestTo_73 : decode cX1_cheapestTo 73 = .ok (.isub, 1) := by decide +kernel
theorem dX1_cheapestTo_74 : decode cX1_cheapestTo 74 = .ok (.iload_n 3, 1) := by decide +kernel
theorem dX1_cheapestTo_75 : decode cX1_cheapestTo 75 = .ok (.iconst 1, 1) := by decide +kernel
theorem dX1_cheapestTo_76 : decode cX1_cheapestTo 76 = .ok (.isub, 1) := by decide +kernel
theorem dX1_cheapestTo_77 : decode cX1_cheapestTo 77 = .ok (.iload_n 2, 1) := by decide +kernel
theorem dX1_cheapestTo_78 : decode cX1_cheapestTo 78 = .ok (.iload_n 3, 1) := by decide +kernel
theorem dX1_cheapestTo_79 : decode cX1_cheapestTo 79 = .ok (.invokevirtual 64, 3) := by decide +kernel
theorem dX1_cheapestTo_82 : decode cX1_cheapestTo 82 = .ok (.invokestatic 53, 3) := by decide +kernel
theorem dX1_cheapestTo_85 : decode cX1_cheapestTo 85 = .ok (.istore 4, 2) := by decide +kernel
theorem dX1_cheapestTo_87 : decode cX1_cheapestTo 87 = .ok (.iinc 5 1, 3) := by decide +kernel
theorem dX1_cheapestTo_90 : decode cX1_cheapestTo 90 = .ok (.goto (-32), 3) := by decide +kernel
theorem dX1_cheapestTo_93 : decode cX1_cheapestTo 93 = .ok (.iload 4, 2) := by decide +kernel
theorem dX1_cheapestTo_95 : decode cX1_cheapestTo 95 = .ok (.ireturn, 1) := by decide +kernel
theorem dX1_costBy_0 : decode cX1_costBy 0 = .ok (.aload_n 0, 1) := by decide +kernel
theorem dX1_costBy_1 : decode cX1_costBy 1 = .ok (.iload_n 2, 1) := by decide +kernel
theorem dX1_costBy_2 : decode cX1_costBy 2 = .ok (.iload_n 3, 1) := by decide +kernel
theorem dX1_costBy_3 : decode cX1_costBy 3 = .ok (.invokevirtual 49, 3) := by decide +kernel
theorem dX1_costBy_6 : decode cX1_costBy 6 = .ok (.istore 6, 2) := by decide +kernel
theorem dX1_costBy_8 : decode cX1_costBy 8 = .ok (.iload 6, 2) := by decide +kernel
theorem dX1_costBy_10 : decode cX1_costBy 10 = .ok (.iconst (-1), 1) := by decide +kernel
theorem dX1_costBy_11 : decode cX1_costBy 11 = .ok (.if_icmp .ne 7, 3) := by decide +kernel
theorem dX1_costBy_14 : decode cX1_costBy 14 = .ok (.iconst (-1), 1) := by decide +kernel
theorem dX1_costBy_15 : decode cX1_costBy 15 = .ok (.goto 17, 3) := by decide +kernel
theorem dX1_costBy_18 : decode cX1_costBy 18 = .ok (.iload 6, 2) := by decide +kernel
theorem dX1_costBy_20 : decode cX1_costBy 20 = .ok (.aload_n 0, 1) := by decide +kernel
theorem dX1_costBy_21 : decode cX1_costBy 21 = .ok (.aload_n 1, 1) := by decide +kernel
theorem dX1_costBy_22 : decode cX1_costBy 22 = .ok (.iload_n 2, 1) := by decide +kernel
theorem dX1_costBy_23 : decode cX1_costBy 23 = .ok (.iload_n 3, 1) := by decide +kernel
theorem dX1_costBy_24 : decode cX1_costBy 24 = .ok (.iload 4, 2) := by decide +kernel
theorem dX1_costBy_26 : decode cX1_costBy 26 = .ok (.iload 5, 2) := by decide +kernel
theorem dX1_costBy_28 : decode cX1_costBy 28 = .ok (.invokevirtual 68, 3) := by decide +kernel
theorem dX1_costBy_31 : decode cX1_costBy 31 = .ok (.iadd, 1) := by decide +kernel
theorem dX1_costBy_32 : decode cX1_costBy 32 = .ok (.ireturn, 1) := by decide +kernel
theorem dX1_cheapestOnward_0 : decode cX1_cheapestOnward 0 = .ok (.iload_n 2, 1) := by decide +kernel
theorem dX1_cheapestOnward_1 : decode cX1_cheapestOnward 1 = .ok (.aload_n 0, 1) := by decide +kernel
theorem dX1_cheapestOnward_2 : decode cX1_cheapestOnward 2 = .ok (.getfield 14, 3) := by decide +kernel
theorem dX1_cheapestOnward_5 : decode cX1_cheapestOnward 5 = .ok (.invokevirtual 34, 3) := by decide +kernel
theorem dX1_cheapestOnward_8 : decode cX1_cheapestOnward 8 = .ok (.iconst 1, 1) := by decide +kernel
theorem dX1_cheapestOnward_9 : decode cX1_cheapestOnward 9 = .ok (.isub, 1) := by decide +kernel
theorem dX1_cheapestOnward_10 : decode cX1_cheapestOnward 10 = .ok (.if_icmp .ne 5, 3) := by decide +kernel
theorem dX1_cheapestOnward_13 : decode cX1_cheapestOnward 13 = .ok (.iconst 0, 1) := by decide +kernel
theorem dX1_cheapestOnward_14 : decode cX1_cheapestOnward 14 = .ok (.ireturn, 1) := by decide +kernel
theorem dX1_cheapestOnward_15 : decode cX1_cheapestOnward 15 = .ok (.iconst (-1), 1) := by decide +kernel
theorem dX1_cheapestOnward_16 : decode cX1_cheapestOnward 16 = .ok (.istore 5, 2) := by decide +kernel
theorem dX1_cheapestOnward_18 : decode cX1_cheapestOnward 18 = .ok (.iconst 0, 1) := by decide +kernel
theorem dX1_cheapestOnward_19 : decode cX1_cheapestOnward 19 = .ok (.istore 6, 2) := by decide +kernel
theorem dX1_cheapestOnward_21 : decode cX1_cheapestOnward 21 = .ok (.iload 6, 2) := by decide +kernel
theorem dX1_cheapestOnward_23 : decode cX1_cheapestOnward 23 = .ok (.iconst 2, 1) := by decide +kernel
theorem dX1_cheapestOnward_24 : decode cX1_cheapestOnward 24 = .ok (.if_icmp .gt 34, 3) := by decide +kernel
theorem dX1_cheapestOnward_27 : decode cX1_cheapestOnward 27 = .ok (.iload 5, 2) := by decide +kernel
theorem dX1_cheapestOnward_29 : decode cX1_cheapestOnward 29 = .ok (.aload_n 0, 1) := by decide +kernel
theorem dX1_cheapestOnward_30 : decode cX1_cheapestOnward 30 = .ok (.aload_n 1, 1) := by decide +kernel
theorem dX1_cheapestOnward_31 : decode cX1_cheapestOnward 31 = .ok (.iload_n 2, 1) := by decide +kernel
theorem dX1_cheapestOnward_32 : decode cX1_cheapestOnward 32 = .ok (.iload_n 3, 1) := by decide +kernel
theorem dX1_cheapestOnward_33 : decode cX1_cheapestOnward 33 = .ok (.iload_n 2, 1) := by decide +kernel
theorem dX1_cheapestOnward_34 : decode cX1_cheapestOnward 34 = .ok (.iconst 1, 1) := by decide +kernel
theorem dX1_cheapestOnward_35 : decode cX1_cheapestOnward 35 = .ok (.iadd, 1) := by decide +kernel
theorem dX1_cheapestOnward_36 : decode cX1_cheapestOnward 36 = .ok (.iload_n 3, 1) := by decide +kernel
theorem dX1_cheapestOnward_37 : decode cX1_cheapestOnward 37 = .ok (.iconst 1, 1) := by decide +kernel
theorem dX1_cheapestOnward_38 : decode cX1_cheapestOnward 38 = .ok (.iadd, 1) := by decide +kernel
theorem dX1_cheapestOnward_39 : decode cX1_cheapestOnward 39 = .ok (.iload 6, 2) := by decide +kernel
theorem dX1_cheapestOnward_41 : decode cX1_cheapestOnward 41 = .ok (.iadd, 1) := by decide +kernel
theorem dX1_cheapestOnward_42 : decode cX1_cheapestOnward 42 = .ok (.iload 4, 2) := by decide +kernel
theorem dX1_cheapestOnward_44 : decode cX1_cheapestOnward 44 = .ok (.invokevirtual 71, 3) := by decide +kernel
theorem dX1_cheapestOnward_47 : decode cX1_cheapestOnward 47 = .ok (.invokestatic 53, 3) := by decide +kernel
theorem dX1_cheapestOnward_50 : decode cX1_cheapestOnward 50 = .ok (.istore 5, 2) := by decide +kernel
theorem dX1_cheapestOnward_52 : decode cX1_cheapestOnward 52 = .ok (.iinc 6 1, 3) := by decide +kernel
theorem dX1_cheapestOnward_55 : decode cX1_cheapestOnward 55 = .ok (.goto (-34), 3) := by decide +kernel
theorem dX1_cheapestOnward_58 : decode cX1_cheapestOnward 58 = .ok (.iconst 1, 1) := by decide +kernel
theorem dX1_cheapestOnward_59 : decode cX1_cheapestOnward 59 = .ok (.istore 6, 2) := by decide +kernel
theorem dX1_cheapestOnward_61 : decode cX1_cheapestOnward 61 = .ok (.iload 6, 2) := by decide +kernel
theorem dX1_cheapestOnward_63 : decode cX1_cheapestOnward 63 = .ok (.iconst 2, 1) := by decide +kernel
theorem dX1_cheapestOnward_64 : decode cX1_cheapestOnward 64 = .ok (.if_icmp .gt 34, 3) := by decide +kernel
theorem dX1_cheapestOnward_67 : decode cX1_cheapestOnward 67 = .ok (.iload 5, 2) := by decide +kernel
theorem dX1_cheapestOnward_69 : decode cX1_cheapestOnward 69 = .ok (.aload_n 0, 1) := by decide +kernel
theorem dX1_cheapestOnward_70 : decode cX1_cheapestOnward 70 = .ok (.aload_n 1, 1) := by decide +kernel
theorem dX1_cheapestOnward_71 : decode cX1_cheapestOnward 71 = .ok (.iload_n 2, 1) := by decide +kernel
theorem dX1_cheapestOnward_72 : decode cX1_cheapestOnward 72 = .ok (.iload_n 3, 1) := by decide +kernel
theorem dX1_cheapestOnward_73 : decode cX1_cheapestOnward 73 = .ok (.iload_n 2, 1) := by decide +kernel
theorem dX1_cheapestOnward_74 : decode cX1_cheapestOnward 74 = .ok (.iconst 1, 1) := by decide +kernel
theorem dX1_cheapestOnward_75 : decode cX1_cheapestOnward 75 = .ok (.iadd, 1) := by decide +kernel
theorem dX1_cheapestOnward_76 : decode cX1_cheapestOnward 76 = .ok (.iload 6, 2) := by decide +kernel
theorem dX1_cheapestOnward_78 : decode cX1_cheapestOnward 78 = .ok (.iadd, 1) := by decide +kernel
theorem dX1_cheapestOnward_79 : decode cX1_cheapestOnward 79 = .ok (.iload_n 3, 1) := by decide +kernel
theorem dX1_cheapestOnward_80 : decode cX1_cheapestOnward 80 = .ok (.iconst 1, 1) := by decide +kernel
theorem dX1_cheapestOnward_81 : decode cX1_cheapestOnward 81 = .ok (.iadd, 1) := by decide +kernel
theorem dX1_cheapestOnward_82 : decode cX1_cheapestOnward 82 = .ok (.iload 4, 2) := by decide +kernel
theorem dX1_cheapestOnward_84 : decode cX1_cheapestOnward 84 = .ok (.invokevirtual 71, 3) := by decide +kernel
theorem dX1_cheapestOnward_87 : decode cX1_cheapestOnward 87 = .ok (.invokestatic 53, 3) := by decide +kernel
theorem dX1_cheapestOnward_90 : decode cX1_cheapestOnward 90 = .ok (.istore 5, 2) := by decide +kernel
theorem dX1_cheapestOnward_92 : decode cX1_cheapestOnward 92 = .ok (.iinc 6 1, 3) := by decide +kernel
theorem dX1_cheapestOnward_95 : decode cX1_cheapestOnward 95 = .ok (.goto (-34), 3) := by decide +kernel
theorem dX1_cheapestOnward_98 : decode cX1_cheapestOnward 98 = .ok (.iload 5, 2) := by decide +kernel
theorem dX1_cheapestOnward_100 : decode cX1_cheapestOnward 100 = .ok (.ireturn, 1) := by decide +kernel
theorem dX1_costOnwardBy_0 : decode cX1_costOnwardBy 0 = .ok (.iload 4, 2) := by decide +kernel
theorem dX1_costOnwardBy_2 : decode cX1_costOnwardBy 2 = .ok (.aload_n 0, 1) := by decide +kernel
theorem dX1_costOnwardBy_3 : decode cX1_costOnwardBy 3 = .ok (.getfield 14, 3) := by decide +kernel
theorem dX1_costOnwardBy_6 : decode cX1_costOnwardBy 6 = .ok (.invokevirtual 34, 3) := by decide +kernel
theorem dX1_costOnwardBy_9 : decode cX1_costOnwardBy 9 = .ok (.if_icmp .ge 16, 3) := by decide +kernel
theorem dX1_costOnwardBy_12 : decode cX1_costOnwardBy 12 = .ok (.iload 5, 2) := by decide +kernel
theorem dX1_costOnwardBy_14 : decode cX1_costOnwardBy 14 = .ok (.aload_n 1, 1) := by decide +kernel
theorem dX1_costOnwardBy_15 : decode cX1_costOnwardBy 15 = .ok (.invokevirtual 38, 3) := by decide +kernel
theorem dX1_costOnwardBy_18 : decode cX1_costOnwardBy 18 = .ok (.if_icmp .ge 7, 3) := by decide +kernel
theorem dX1_costOnwardBy_21 : decode cX1_costOnwardBy 21 = .ok (.iconst 1, 1) := by decide +kernel
theorem dX1_costOnwardBy_22 : decode cX1_costOnwardBy 22 = .ok (.goto 4, 3) := by decide +kernel
theorem dX1_costOnwardBy_25 : decode cX1_costOnwardBy 25 = .ok (.iconst 0, 1) := by decide +kernel
theorem dX1_costOnwardBy_26 : decode cX1_costOnwardBy 26 = .ok (.istore 7, 2) := by decide +kernel
theorem dX1_costOnwardBy_28 : decode cX1_costOnwardBy 28 = .ok (.iload 7, 2) := by decide +kernel
theorem dX1_costOnwardBy_30 : decode cX1_costOnwardBy 30 = .ok (.ifCond .eq 10, 3) := by decide +kernel
theorem dX1_costOnwardBy_33 : decode cX1_costOnwardBy 33 = .ok (.iload 6, 2) := by decide +kernel
theorem dX1_costOnwardBy_35 : decode cX1_costOnwardBy 35 = .ok (.bipush 8, 2) := by decide +kernel
theorem dX1_costOnwardBy_37 : decode cX1_costOnwardBy 37 = .ok (.if_icmp .lt 5, 3) := by decide +kernel
theorem dX1_costOnwardBy_40 : decode cX1_costOnwardBy 40 = .ok (.iconst (-1), 1) := by decide +kernel
theorem dX1_costOnwardBy_41 : decode cX1_costOnwardBy 41 = .ok (.ireturn, 1) := by decide +kernel
theorem dX1_costOnwardBy_42 : decode cX1_costOnwardBy 42 = .ok (.aload_n 0, 1) := by decide +kernel
theorem dX1_costOnwardBy_43 : decode cX1_costOnwardBy 43 = .ok (.aload_n 1, 1) := by decide +kernel
theorem dX1_costOnwardBy_44 : decode cX1_costOnwardBy 44 = .ok (.iload 4, 2) := by decide +kernel
theorem dX1_costOnwardBy_46 : decode cX1_costOnwardBy 46 = .ok (.iload 5, 2) := by decide +kernel
theorem dX1_costOnwardBy_48 : decode cX1_costOnwardBy 48 = .ok (.iload 6, 2) := by decide +kernel
theorem dX1_costOnwardBy_50 : decode cX1_costOnwardBy 50 = .ok (.iconst 1, 1) := by decide +kernel
theorem dX1_costOnwardBy_51 : decode cX1_costOnwardBy 51 = .ok (.iadd, 1) := by decide +kernel
theorem dX1_costOnwardBy_52 : decode cX1_costOnwardBy 52 = .ok (.invokevirtual 56, 3) := by decide +kernel
theorem dX1_costOnwardBy_55 : decode cX1_costOnwardBy 55 = .ok (.istore 8, 2) := by decide +kernel
theorem dX1_costOnwardBy_57 : decode cX1_costOnwardBy 57 = .ok (.iload 8, 2) := by decide +kernel
theorem dX1_costOnwardBy_59 : decode cX1_costOnwardBy 59 = .ok (.iconst (-1), 1) := by decide +kernel
theorem dX1_costOnwardBy_60 : decode cX1_costOnwardBy 60 = .ok (.if_icmp .ne 7, 3) := by decide +kernel
theorem dX1_costOnwardBy_63 : decode cX1_costOnwardBy 63 = .ok (.iconst (-1), 1) := by decide +kernel
theorem dX1_costOnwardBy_64 : decode cX1_costOnwardBy 64 = .ok (.goto 17, 3) := by decide +kernel
theorem dX1_costOnwardBy_67 : decode cX1_costOnwardBy 67 = .ok (.iload 8, 2) := by decide +kernel
theorem dX1_costOnwardBy_69 : decode cX1_costOnwardBy 69 = .ok (.aload_n 0, 1) := by decide +kernel
theorem dX1_costOnwardBy_70 : decode cX1_costOnwardBy 70 = .ok (.aload_n 1, 1) := by decide +kernel
theorem dX1_costOnwardBy_71 : decode cX1_costOnwardBy 71 = .ok (.iload_n 2, 1) := by decide +kernel
theorem dX1_costOnwardBy_72 : decode cX1_costOnwardBy 72 = .ok (.iload_n 3, 1) := by decide +kernel
theorem dX1_costOnwardBy_73 : decode cX1_costOnwardBy 73 = .ok (.iload 4, 2) := by decide +kernel
theorem dX1_costOnwardBy_75 : decode cX1_costOnwardBy 75 = .ok (.iload 5, 2) := by decide +kernel
theorem dX1_costOnwardBy_77 : decode cX1_costOnwardBy 77 = .ok (.invokevirtual 68, 3) := by decide +kernel
theorem dX1_costOnwardBy_80 : decode cX1_costOnwardBy 80 = .ok (.iadd, 1) := by decide +kernel
theorem dX1_costOnwardBy_81 : decode cX1_costOnwardBy 81 = .ok (.ireturn, 1) := by decide +kernel
theorem dX1_costOfMove_0 : decode cX1_costOfMove 0 = .ok (.aload_n 1, 1) := by decide +kernel
theorem dX1_costOfMove_1 : decode cX1_costOfMove 1 = .ok (.getfield 75, 3) := by decide +kernel
theorem dX1_costOfMove_4 : decode cX1_costOfMove 4 = .ok (.iload 5, 2) := by decide +kernel
theorem dX1_costOfMove_6 : decode cX1_costOfMove 6 = .ok (.invokevirtual 78, 3) := by decide +kernel
theorem dX1_costOfMove_9 : decode cX1_costOfMove 9 = .ok (.aload_n 1, 1) := by decide +kernel
theorem dX1_costOfMove_10 : decode cX1_costOfMove 10 = .ok (.getfield 75, 3) := by decide +kernel
theorem dX1_costOfMove_13 : decode cX1_costOfMove 13 = .ok (.iload_n 3, 1) := by decide +kernel
theorem dX1_costOfMove_14 : decode cX1_costOfMove 14 = .ok (.invokevirtual 78, 3) := by decide +kernel
theorem dX1_costOfMove_17 : decode cX1_costOfMove 17 = .ok (.isub, 1) := by decide +kernel
theorem dX1_costOfMove_18 : decode cX1_costOfMove 18 = .ok (.istore 6, 2) := by decide +kernel
theorem dX1_costOfMove_20 : decode cX1_costOfMove 20 = .ok (.aload_n 0, 1) := by decide +kernel
theorem dX1_costOfMove_21 : decode cX1_costOfMove 21 = .ok (.getfield 14, 3) := by decide +kernel
theorem dX1_costOfMove_24 : decode cX1_costOfMove 24 = .ok (.iload 4, 2) := by decide +kernel
theorem dX1_costOfMove_26 : decode cX1_costOfMove 26 = .ok (.invokevirtual 78, 3) := by decide +kernel
theorem dX1_costOfMove_29 : decode cX1_costOfMove 29 = .ok (.aload_n 0, 1) := by decide +kernel
theorem dX1_costOfMove_30 : decode cX1_costOfMove 30 = .ok (.getfield 14, 3) := by decide +kernel
theorem dX1_costOfMove_33 : decode cX1_costOfMove 33 = .ok (.iload_n 2, 1) := by decide +kernel
theorem dX1_costOfMove_34 : decode cX1_costOfMove 34 = .ok (.invokevirtual 78, 3) := by decide +kernel
theorem dX1_costOfMove_37 : decode cX1_costOfMove 37 = .ok (.isub, 1) := by decide +kernel
theorem dX1_costOfMove_38 : decode cX1_costOfMove 38 = .ok (.istore 7, 2) := by decide +kernel
theorem dX1_costOfMove_40 : decode cX1_costOfMove 40 = .ok (.aload_n 0, 1) := by decide +kernel
theorem dX1_costOfMove_41 : decode cX1_costOfMove 41 = .ok (.getfield 20, 3) := by decide +kernel
theorem dX1_costOfMove_44 : decode cX1_costOfMove 44 = .ok (.iload 6, 2) := by decide +kernel
theorem dX1_costOfMove_46 : decode cX1_costOfMove 46 = .ok (.iload 7, 2) := by decide +kernel
theorem dX1_costOfMove_48 : decode cX1_costOfMove 48 = .ok (.isub, 1) := by decide +kernel
theorem dX1_costOfMove_49 : decode cX1_costOfMove 49 = .ok (.invokestatic 82, 3) := by decide +kernel
theorem dX1_costOfMove_52 : decode cX1_costOfMove 52 = .ok (.imul, 1) := by decide +kernel
theorem dX1_costOfMove_53 : decode cX1_costOfMove 53 = .ok (.istore 8, 2) := by decide +kernel
theorem dX1_costOfMove_55 : decode cX1_costOfMove 55 = .ok (.iload_n 3, 1) := by decide +kernel
theorem dX1_costOfMove_56 : decode cX1_costOfMove 56 = .ok (.iconst 1, 1) := by decide +kernel
theorem dX1_costOfMove_57 : decode cX1_costOfMove 57 = .ok (.iadd, 1) := by decide +kernel
theorem dX1_costOfMove_58 : decode cX1_costOfMove 58 = .ok (.istore 9, 2) := by decide +kernel
theorem dX1_costOfMove_60 : decode cX1_costOfMove 60 = .ok (.iload 9, 2) := by decide +kernel
theorem dX1_costOfMove_62 : decode cX1_costOfMove 62 = .ok (.iload 5, 2) := by decide +kernel
theorem dX1_costOfMove_64 : decode cX1_costOfMove 64 = .ok (.if_icmp .ge 28, 3) := by decide +kernel
theorem dX1_costOfMove_67 : decode cX1_costOfMove 67 = .ok (.iload 8, 2) := by decide +kernel
theorem dX1_costOfMove_69 : decode cX1_costOfMove 69 = .ok (.aload_n 0, 1) := by decide +kernel
theorem dX1_costOfMove_70 : decode cX1_costOfMove 70 = .ok (.getfield 24, 3) := by decide +kernel
theorem dX1_costOfMove_73 : decode cX1_costOfMove 73 = .ok (.aload_n 1, 1) := by decide +kernel
theorem dX1_costOfMove_74 : decode cX1_costOfMove 74 = .ok (.getfield 87, 3) := by decide +kernel
theorem dX1_costOfMove_77 : decode cX1_costOfMove 77 = .ok (.iload 9, 2) := by decide +kernel
theorem dX1_costOfMove_79 : decode cX1_costOfMove 79 = .ok (.invokevirtual 78, 3) := by decide +kernel
theorem dX1_costOfMove_82 : decode cX1_costOfMove 82 = .ok (.imul, 1) := by decide +kernel
theorem dX1_costOfMove_83 : decode cX1_costOfMove 83 = .ok (.iadd, 1) := by decide +kernel
theorem dX1_costOfMove_84 : decode cX1_costOfMove 84 = .ok (.istore 8, 2) := by decide +kernel
theorem dX1_costOfMove_86 : decode cX1_costOfMove 86 = .ok (.iinc 9 1, 3) := by decide +kernel
theorem dX1_costOfMove_89 : decode cX1_costOfMove 89 = .ok (.goto (-29), 3) := by decide +kernel
theorem dX1_costOfMove_92 : decode cX1_costOfMove 92 = .ok (.iload_n 2, 1) := by decide +kernel
theorem dX1_costOfMove_93 : decode cX1_costOfMove 93 = .ok (.iconst 1, 1) := by decide +kernel
theorem dX1_costOfMove_94 : decode cX1_costOfMove 94 = .ok (.iadd, 1) := by decide +kernel
theorem dX1_costOfMove_95 : decode cX1_costOfMove 95 = .ok (.istore 9, 2) := by decide +kernel
theorem dX1_costOfMove_97 : decode cX1_costOfMove 97 = .ok (.iload 9, 2) := by decide +kernel
theorem dX1_costOfMove_99 : decode cX1_costOfMove 99 = .ok (.iload 4, 2) := by decide +kernel
theorem dX1_costOfMove_101 : decode cX1_costOfMove 101 = .ok (.if_icmp .ge 62, 3) := by decide +kernel
theorem dX1_costOfMove_104 : decode cX1_costOfMove 104 = .ok (.aload_n 0, 1) := by decide +kernel
theorem dX1_costOfMove_105 : decode cX1_costOfMove 105 = .ok (.getfield 14, 3) := by decide +kernel
theorem dX1_costOfMove_108 : decode cX1_costOfMove 108 = .ok (.iload 9, 2) := by decide +kernel
theorem dX1_costOfMove_110 : decode cX1_costOfMove 110 = .ok (.invokevirtual 78, 3) := by decide +kernel
theorem dX1_costOfMove_113 : decode cX1_costOfMove 113 = .ok (.aload_n 0, 1) := by decide +kernel
theorem dX1_costOfMove_114 : decode cX1_costOfMove 114 = .ok (.getfield 14, 3) := by decide +kernel
theorem dX1_costOfMove_117 : decode cX1_costOfMove 117 = .ok (.iload 9, 2) := by decide +kernel
theorem dX1_costOfMove_119 : decode cX1_costOfMove 119 = .ok (.iconst 1, 1) := by decide +kernel
theorem dX1_costOfMove_120 : decode cX1_costOfMove 120 = .ok (.isub, 1) := by decide +kernel
theorem dX1_costOfMove_121 : decode cX1_costOfMove 121 = .ok (.invokevirtual 78, 3) := by decide +kernel
theorem dX1_costOfMove_124 : decode cX1_costOfMove 124 = .ok (.if_icmp .ne 7, 3) := by decide +kernel
theorem dX1_costOfMove_127 : decode cX1_costOfMove 127 = .ok (.iconst 1, 1) := by decide +kernel
theorem dX1_costOfMove_128 : decode cX1_costOfMove 128 = .ok (.goto 4, 3) := by decide +kernel
theorem dX1_costOfMove_131 : decode cX1_costOfMove 131 = .ok (.iconst 0, 1) := by decide +kernel
theorem dX1_costOfMove_132 : decode cX1_costOfMove 132 = .ok (.istore 10, 2) := by decide +kernel
theorem dX1_costOfMove_134 : decode cX1_costOfMove 134 = .ok (.iload 8, 2) := by decide +kernel
theorem dX1_costOfMove_136 : decode cX1_costOfMove 136 = .ok (.iload 10, 2) := by decide +kernel
theorem dX1_costOfMove_138 : decode cX1_costOfMove 138 = .ok (.ifCond .eq 10, 3) := by decide +kernel
theorem dX1_costOfMove_141 : decode cX1_costOfMove 141 = .ok (.aload_n 0, 1) := by decide +kernel
theorem dX1_costOfMove_142 : decode cX1_costOfMove 142 = .ok (.getfield 27, 3) := by decide +kernel
theorem dX1_costOfMove_145 : decode cX1_costOfMove 145 = .ok (.goto 9, 3) := by decide +kernel
theorem dX1_costOfMove_148 : decode cX1_costOfMove 148 = .ok (.iconst 3, 1) := by decide +kernel
theorem dX1_costOfMove_149 : decode cX1_costOfMove 149 = .ok (.aload_n 0, 1) := by decide +kernel
theorem dX1_costOfMove_150 : decode cX1_costOfMove 150 = .ok (.getfield 27, 3) := by decide +kernel
theorem dX1_costOfMove_153 : decode cX1_costOfMove 153 = .ok (.imul, 1) := by decide +kernel
theorem dX1_costOfMove_154 : decode cX1_costOfMove 154 = .ok (.iadd, 1) := by decide +kernel
theorem dX1_costOfMove_155 : decode cX1_costOfMove 155 = .ok (.istore 8, 2) := by decide +kernel
theorem dX1_costOfMove_157 : decode cX1_costOfMove 157 = .ok (.iinc 9 1, 3) := by decide +kernel
theorem dX1_costOfMove_160 : decode cX1_costOfMove 160 = .ok (.goto (-63), 3) := by decide +kernel
theorem dX1_costOfMove_163 : decode cX1_costOfMove 163 = .ok (.iload 8, 2) := by decide +kernel
theorem dX1_costOfMove_165 : decode cX1_costOfMove 165 = .ok (.ireturn, 1) := by decide +kernel
theorem dX1_cheaper_0 : decode cX1_cheaper 0 = .ok (.iload_n 0, 1) := by decide +kernel
theorem dX1_cheaper_1 : decode cX1_cheaper 1 = .ok (.iconst (-1), 1) := by decide +kernel
theorem dX1_cheaper_2 : decode cX1_cheaper 2 = .ok (.if_icmp .eq 8, 3) := by decide +kernel
theorem dX1_cheaper_5 : decode cX1_cheaper 5 = .ok (.iload_n 1, 1) := by decide +kernel
theorem dX1_cheaper_6 : decode cX1_cheaper 6 = .ok (.iconst (-1), 1) := by decide +kernel
theorem dX1_cheaper_7 : decode cX1_cheaper 7 = .ok (.if_icmp .ne 9, 3) := by decide +kernel
theorem dX1_cheaper_10 : decode cX1_cheaper 10 = .ok (.iload_n 0, 1) := by decide +kernel
theorem dX1_cheaper_11 : decode cX1_cheaper 11 = .ok (.iload_n 1, 1) := by decide +kernel
theorem dX1_cheaper_12 : decode cX1_cheaper 12 = .ok (.invokestatic 90, 3) := by decide +kernel
theorem dX1_cheaper_15 : decode cX1_cheaper 15 = .ok (.ireturn, 1) := by decide +kernel
theorem dX1_cheaper_16 : decode cX1_cheaper 16 = .ok (.iload_n 0, 1) := by decide +kernel
theorem dX1_cheaper_17 : decode cX1_cheaper 17 = .ok (.iload_n 1, 1) := by decide +kernel
theorem dX1_cheaper_18 : decode cX1_cheaper 18 = .ok (.invokestatic 93, 3) := by decide +kernel
theorem dX1_cheaper_21 : decode cX1_cheaper 21 = .ok (.ireturn, 1) := by decide +kernel
theorem dX2_init_0 : decode cX2_init 0 = .ok (.aload_n 0, 1) := by decide +kernel
theorem dX2_init_1 : decode cX2_init 1 = .ok (.invokespecial 1, 3) := by decide +kernel
theorem dX2_init_4 : decode cX2_init 4 = .ok (.aload_n 0, 1) := by decide +kernel
theorem dX2_init_5 : decode cX2_init 5 = .ok (.iload_n 1, 1) := by decide +kernel
theorem dX2_init_6 : decode cX2_init 6 = .ok (.iconst 0, 1) := by decide +kernel
theorem dX2_init_7 : decode cX2_init 7 = .ok (.invokestatic 7, 3) := by decide +kernel
theorem dX2_init_10 : decode cX2_init 10 = .ok (.newarray .int, 2) := by decide +kernel
theorem dX2_init_12 : decode cX2_init 12 = .ok (.putfield 13, 3) := by decide +kernel
theorem dX2_init_15 : decode cX2_init 15 = .ok (.return_, 1) := by decide +kernel
theorem dX2_size_0 : decode cX2_size 0 = .ok (.aload_n 0, 1) := by decide +kernel
theorem dX2_size_1 : decode cX2_size 1 = .ok (.getfield 19, 3) := by decide +kernel
theorem dX2_size_4 : decode cX2_size 4 = .ok (.ireturn, 1) := by decide +kernel
theorem dX2_isFull_0 : decode cX2_isFull 0 = .ok (.aload_n 0, 1) := by decide +kernel
theorem dX2_isFull_1 : decode cX2_isFull 1 = .ok (.getfield 19, 3) := by decide +kernel
theorem dX2_isFull_4 : decode cX2_isFull 4 = .ok (.aload_n 0, 1) := by decide +kernel
theorem dX2_isFull_5 : decode cX2_isFull 5 = .ok (.getfield 13, 3) := by decide +kernel
theorem dX2_isFull_8 : decode cX2_isFull 8 = .ok (.arraylength, 1) := by decide +kernel
theorem dX2_isFull_9 : decode cX2_isFull 9 = .ok (.if_icmp .lt 7, 3) := by decide +kernel
theorem dX2_isFull_12 : decode cX2_isFull 12 = .ok (.iconst 1, 1) := by decide +kernel
theorem dX2_isFull_13 : decode cX2_isFull 13 = .ok (.goto 4, 3) := by decide +kernel
theorem dX2_isFull_16 : decode cX2_isFull 16 = .ok (.iconst 0, 1) := by decide +kernel
theorem dX2_isFull_17 : decode cX2_isFull 17 = .ok (.ireturn, 1) := by decide +kernel
theorem dX2_at_0 : decode cX2_at 0 = .ok (.iload_n 1, 1) := by decide +kernel
theorem dX2_at_1 : decode cX2_at 1 = .ok (.ifCond .lt 29, 3) := by decide +kernel
theorem dX2_at_4 : decode cX2_at 4 = .ok (.iload_n 1, 1) := by decide +kernel
theorem dX2_at_5 : decode cX2_at 5 = .ok (.aload_n 0, 1) := by decide +kernel
theorem dX2_at_6 : decode cX2_at 6 = .ok (.getfield 19, 3) := by decide +kernel
theorem dX2_at_9 : decode cX2_at 9 = .ok (.if_icmp .ge 21, 3) := by decide +kernel
theorem dX2_at_12 : decode cX2_at 12 = .ok (.iload_n 1, 1) := by decide +kernel
theorem dX2_at_13 : decode cX2_at 13 = .ok (.aload_n 0, 1) := by decide +kernel
theorem dX2_at_14 : decode cX2_at 14 = .ok (.getfield 13, 3) := by decide +kernel
theorem dX2_at_17 : decode cX2_at 17 = .ok (.arraylength, 1) := by decide +kernel
theorem dX2_at_18 : decode cX2_at 18 = .ok (.if_icmp .ge 12, 3) := by decide +kernel
theorem dX2_at_21 : decode cX2_at 21 = .ok (.aload_n 0, 1) := by decide +kernel
theorem dX2_at_22 : decode cX2_at 22 = .ok (.getfield 13, 3) := by decide +kernel
theorem dX2_at_25 : decode cX2_at 25 = .ok (.iload_n 1, 1) := by decide +kernel
theorem dX2_at_26 : decode cX2_at 26 = .ok (.iaload, 1) := by decide +kernel
theorem dX2_at_27 : decode cX2_at 27 = .ok (.goto 4, 3) := by decide +kernel
theorem dX2_at_30 : decode cX2_at 30 = .ok (.iconst 0, 1) := by decide +kernel
theorem dX2_at_31 : decode cX2_at 31 = .ok (.ireturn, 1) := by decide +kernel
theorem dX2_put_0 : decode cX2_put 0 = .ok (.iload_n 1, 1) := by decide +kernel
theorem dX2_put_1 : decode cX2_put 1 = .ok (.ifCond .lt 27, 3) := by decide +kernel
theorem dX2_put_4 : decode cX2_put 4 = .ok (.iload_n 1, 1) := by decide +kernel
theorem dX2_put_5 : decode cX2_put 5 = .ok (.aload_n 0, 1) := by decide +kernel
theorem dX2_put_6 : decode cX2_put 6 = .ok (.getfield 19, 3) := by decide +kernel
theorem dX2_put_9 : decode cX2_put 9 = .ok (.if_icmp .ge 19, 3) := by decide +kernel
theorem dX2_put_12 : decode cX2_put 12 = .ok (.iload_n 1, 1) := by decide +kernel
theorem dX2_put_13 : decode cX2_put 13 = .ok (.aload_n 0, 1) := by decide +kernel
theorem dX2_put_14 : decode cX2_put 14 = .ok (.getfield 13, 3) := by decide +kernel
theorem dX2_put_17 : decode cX2_put 17 = .ok (.arraylength, 1) := by decide +kernel
theorem dX2_put_18 : decode cX2_put 18 = .ok (.if_icmp .ge 10, 3) := by decide +kernel
theorem dX2_put_21 : decode cX2_put 21 = .ok (.aload_n 0, 1) := by decide +kernel
theorem dX2_put_22 : decode cX2_put 22 = .ok (.getfield 13, 3) := by decide +kernel
theorem dX2_put_25 : decode cX2_put 25 = .ok (.iload_n 1, 1) := by decide +kernel
theorem dX2_put_26 : decode cX2_put 26 = .ok (.iload_n 2, 1) := by decide +kernel
theorem dX2_put_27 : decode cX2_put 27 = .ok (.iastore, 1) := by decide +kernel
theorem dX2_put_28 : decode cX2_put 28 = .ok (.return_, 1) := by decide +kernel
theorem dX2_append_0 : decode cX2_append 0 = .ok (.aload_n 0, 1) := by decide +kernel
theorem dX2_append_1 : decode cX2_append 1 = .ok (.getfield 19, 3) := by decide +kernel
theorem dX2_append_4 : decode cX2_append 4 = .ok (.ifCond .lt 35, 3) := by decide +kernel
theorem dX2_append_7 : decode cX2_append 7 = .ok (.aload_n 0, 1) := by decide +kernel
theorem dX2_append_8 : decode cX2_append 8 = .ok (.getfield 19, 3) := by decide +kernel
theorem dX2_append_11 : decode cX2_append 11 = .ok (.aload_n 0, 1) := by decide +kernel
theorem dX2_append_12 : decode cX2_append 12 = .ok (.getfield 13, 3) := by decide +kernel
theorem dX2_append_15 : decode cX2_append 15 = .ok (.arraylength, 1) := by decide +kernel
theorem dX2_append_16 : decode cX2_append 16 = .ok (.if_icmp .ge 23, 3) := by decide +kernel
theorem dX2_append_19 : decode cX2_append 19 = .ok (.aload_n 0, 1) := by decide +kernel
theorem dX2_append_20 : decode cX2_append 20 = .ok (.getfield 13, 3) := by decide +kernel
theorem dX2_append_23 : decode cX2_append 23 = .ok (.aload_n 0, 1) := by decide +kernel
theorem dX2_append_24 : decode cX2_append 24 = .ok (.getfield 19, 3) := by decide +kernel
theorem dX2_append_27 : decode cX2_append 27 = .ok (.iload_n 1, 1) := by decide +kernel
theorem dX2_append_28 : decode cX2_append 28 = .ok (.iastore, 1) := by decide +kernel
theorem dX2_append_29 : decode cX2_append 29 = .ok (.aload_n 0, 1) := by decide +kernel
theorem dX2_append_30 : decode cX2_append 30 = .ok (.dup, 1) := by decide +kernel
theorem dX2_append_31 : decode cX2_append 31 = .ok (.getfield 19, 3) := by decide +kernel
theorem dX2_append_34 : decode cX2_append 34 = .ok (.iconst 1, 1) := by decide +kernel
theorem dX2_append_35 : decode cX2_append 35 = .ok (.iadd, 1) := by decide +kernel
theorem dX2_append_36 : decode cX2_append 36 = .ok (.putfield 19, 3) := by decide +kernel
theorem dX2_append_39 : decode cX2_append 39 = .ok (.return_, 1) := by decide +kernel
theorem dX2_clear_0 : decode cX2_clear 0 = .ok (.aload_n 0, 1) := by decide +kernel
theorem dX2_clear_1 : decode cX2_clear 1 = .ok (.iconst 0, 1) := by decide +kernel
theorem dX2_clear_2 : decode cX2_clear 2 = .ok (.putfield 19, 3) := by decide +kernel
theorem dX2_clear_5 : decode cX2_clear 5 = .ok (.return_, 1) := by decide +kernel
theorem dX2_stepFrom_0 : decode cX2_stepFrom 0 = .ok (.aload_n 0, 1) := by decide +kernel
theorem dX2_stepFrom_1 : decode cX2_stepFrom 1 = .ok (.iload_n 1, 1) := by decide +kernel
theorem dX2_stepFrom_2 : decode cX2_stepFrom 2 = .ok (.iconst 1, 1) := by decide +kernel
theorem dX2_stepFrom_3 : decode cX2_stepFrom 3 = .ok (.iadd, 1) := by decide +kernel
theorem dX2_stepFrom_4 : decode cX2_stepFrom 4 = .ok (.invokevirtual 23, 3) := by decide +kernel
theorem dX2_stepFrom_7 : decode cX2_stepFrom 7 = .ok (.aload_n 0, 1) := by decide +kernel
theorem dX2_stepFrom_8 : decode cX2_stepFrom 8 = .ok (.iload_n 1, 1) := by decide +kernel
theorem dX2_stepFrom_9 : decode cX2_stepFrom 9 = .ok (.invokevirtual 23, 3) := by decide +kernel
theorem dX2_stepFrom_12 : decode cX2_stepFrom 12 = .ok (.isub, 1) := by decide +kernel
theorem dX2_stepFrom_13 : decode cX2_stepFrom 13 = .ok (.ireturn, 1) := by decide +kernel
theorem dX2_stepsInCommon_0 : decode cX2_stepsInCommon 0 = .ok (.aload_n 0, 1) := by decide +kernel
theorem dX2_stepsInCommon_1 : decode cX2_stepsInCommon 1 = .ok (.getfield 19, 3) := by decide +kernel
theorem dX2_stepsInCommon_4 : decode cX2_stepsInCommon 4 = .ok (.iload_n 1, 1) := by decide +kernel
theorem dX2_stepsInCommon_5 : decode cX2_stepsInCommon 5 = .ok (.isub, 1) := by decide +kernel
theorem dX2_stepsInCommon_6 : decode cX2_stepsInCommon 6 = .ok (.aload_n 2, 1) := by decide +kernel
theorem dX2_stepsInCommon_7 : decode cX2_stepsInCommon 7 = .ok (.getfield 19, 3) := by decide +kernel
theorem dX2_stepsInCommon_10 : decode cX2_stepsInCommon 10 = .ok (.iload_n 3, 1) := by decide +kernel
theorem dX2_stepsInCommon_11 : decode cX2_stepsInCommon 11 = .ok (.isub, 1) := by decide +kernel
theorem dX2_stepsInCommon_12 : decode cX2_stepsInCommon 12 = .ok (.invokestatic 27, 3) := by decide +kernel
theorem dX2_stepsInCommon_15 : decode cX2_stepsInCommon 15 = .ok (.iconst 1, 1) := by decide +kernel
theorem dX2_stepsInCommon_16 : decode cX2_stepsInCommon 16 = .ok (.isub, 1) := by decide +kernel
theorem dX2_stepsInCommon_17 : decode cX2_stepsInCommon 17 = .ok (.istore 4, 2) := by decide +kernel
theorem dX2_stepsInCommon_19 : decode cX2_stepsInCommon 19 = .ok (.iconst 0, 1) := by decide +kernel
theorem dX2_stepsInCommon_20 : decode cX2_stepsInCommon 20 = .ok (.istore 5, 2) := by decide +kernel
theorem dX2_stepsInCommon_22 : decode cX2_stepsInCommon 22 = .ok (.iload 5, 2) := by decide +kernel
theorem dX2_stepsInCommon_24 : decode cX2_stepsInCommon 24 = .ok (.iload 4, 2) := by decide +kernel
theorem dX2_stepsInCommon_26 : decode cX2_stepsInCommon 26 = .ok (.if_icmp .ge 28, 3) := by decide +kernel
theorem dX2_stepsInCommon_29 : decode cX2_stepsInCommon 29 = .ok (.aload_n 0, 1) := by decide +kernel
theorem dX2_stepsInCommon_30 : decode cX2_stepsInCommon 30 = .ok (.iload_n 1, 1) := by decide +kernel
theorem dX2_stepsInCommon_31 : decode cX2_stepsInCommon 31 = .ok (.iload 5, 2) := by decide +kernel
theorem dX2_stepsInCommon_33 : decode cX2_stepsInCommon 33 = .ok (.iadd, 1) := by decide +kernel
theorem dX2_stepsInCommon_34 : decode cX2_stepsInCommon 34 = .ok (.invokevirtual 30, 3) := by decide +kernel
theorem dX2_stepsInCommon_37 : decode cX2_stepsInCommon 37 = .ok (.aload_n 2, 1) := by decide +kernel
theorem dX2_stepsInCommon_38 : decode cX2_stepsInCommon 38 = .ok (.iload_n 3, 1) := by decide +kernel
theorem dX2_stepsInCommon_39 : decode cX2_stepsInCommon 39 = .ok (.iload 5, 2) := by decide +kernel
theorem dX2_stepsInCommon_41 : decode cX2_stepsInCommon 41 = .ok (.iadd, 1) := by decide +kernel
theorem dX2_stepsInCommon_42 : decode cX2_stepsInCommon 42 = .ok (.invokevirtual 30, 3) := by decide +kernel
theorem dX2_stepsInCommon_45 : decode cX2_stepsInCommon 45 = .ok (.if_icmp .ne 9, 3) := by decide +kernel
theorem dX2_stepsInCommon_48 : decode cX2_stepsInCommon 48 = .ok (.iinc 5 1, 3) := by decide +kernel
theorem dX2_stepsInCommon_51 : decode cX2_stepsInCommon 51 = .ok (.goto (-29), 3) := by decide +kernel
theorem dX2_stepsInCommon_54 : decode cX2_stepsInCommon 54 = .ok (.iload 5, 2) := by decide +kernel
theorem dX2_stepsInCommon_56 : decode cX2_stepsInCommon 56 = .ok (.ireturn, 1) := by decide +kernel
theorem dX2_beginsWithContourOf_0 : decode cX2_beginsWithContourOf 0 = .ok (.aload_n 1, 1) := by decide +kernel
theorem dX2_beginsWithContourOf_1 : decode cX2_beginsWithContourOf 1 = .ok (.getfield 19, 3) := by decide +kernel
theorem dX2_beginsWithContourOf_4 : decode cX2_beginsWithContourOf 4 = .ok (.aload_n 0, 1) := by decide +kernel
theorem dX2_beginsWithContourOf_5 : decode cX2_beginsWithContourOf 5 = .ok (.getfield 19, 3) := by decide +kernel
theorem dX2_beginsWithContourOf_8 : decode cX2_beginsWithContourOf 8 = .ok (.if_icmp .le 5, 3) := by decide +kernel
theorem dX2_beginsWithContourOf_11 : decode cX2_beginsWithContourOf 11 = .ok (.iconst 0, 1) := by decide +kernel
theorem dX2_beginsWithContourOf_12 : decode cX2_beginsWithContourOf 12 = .ok (.ireturn, 1) := by decide +kernel
theorem dX2_beginsWithContourOf_13 : decode cX2_beginsWithContourOf 13 = .ok (.iconst 0, 1) := by decide +kernel
theorem dX2_beginsWithContourOf_14 : decode cX2_beginsWithContourOf 14 = .ok (.istore_n 2, 1) := by decide +kernel
theorem dX2_beginsWithContourOf_15 : decode cX2_beginsWithContourOf 15 = .ok (.iload_n 2, 1) := by decide +kernel
theorem dX2_beginsWithContourOf_16 : decode cX2_beginsWithContourOf 16 = .ok (.aload_n 1, 1) := by decide +kernel
theorem dX2_beginsWithContourOf_17 : decode cX2_beginsWithContourOf 17 = .ok (.getfield 19, 3) := by decide +kernel
theorem dX2_beginsWithContourOf_20 : decode cX2_beginsWithContourOf 20 = .ok (.iconst 1, 1) := by decide +kernel
theorem dX2_beginsWithContourOf_21 : decode cX2_beginsWithContourOf 21 = .ok (.isub, 1) := by decide +kernel
theorem dX2_beginsWithContourOf_22 : decode cX2_beginsWithContourOf 22 = .ok (.if_icmp .ge 30, 3) := by decide +kernel
theorem dX2_beginsWithContourOf_25 : decode cX2_beginsWithContourOf 25 = .ok (.aload_n 0, 1) := by decide +kernel
theorem dX2_beginsWithContourOf_26 : decode cX2_beginsWithContourOf 26 = .ok (.iload_n 2, 1) := by decide +kernel
theorem dX2_beginsWithContourOf_27 : decode cX2_beginsWithContourOf 27 = .ok (.invokevirtual 30, 3) := by decide +kernel
theorem dX2_beginsWithContourOf_30 : decode cX2_beginsWithContourOf 30 = .ok (.invokestatic 33, 3) := by decide +kernel
theorem dX2_beginsWithContourOf_33 : decode cX2_beginsWithContourOf 33 = .ok (.aload_n 1, 1) := by decide +kernel
theorem dX2_beginsWithContourOf_34 : decode cX2_beginsWithContourOf 34 = .ok (.iload_n 2, 1) := by decide +kernel
theorem dX2_beginsWithContourOf_35 : decode cX2_beginsWithContourOf 35 = .ok (.invokevirtual 30, 3) := by decide +kernel
theorem dX2_beginsWithContourOf_38 : decode cX2_beginsWithContourOf 38 = .ok (.invokestatic 33, 3) := by decide +kernel
theorem dX2_beginsWithContourOf_41 : decode cX2_beginsWithContourOf 41 = .ok (.if_icmp .eq 5, 3) := by decide +kernel
theorem dX2_beginsWithContourOf_44 : decode cX2_beginsWithContourOf 44 = .ok (.iconst 0, 1) := by decide +kernel
theorem dX2_beginsWithContourOf_45 : decode cX2_beginsWithContourOf 45 = .ok (.ireturn, 1) := by decide +kernel
theorem dX2_beginsWithContourOf_46 : decode cX2_beginsWithContourOf 46 = .ok (.iinc 2 1, 3) := by decide +kernel
theorem dX2_beginsWithContourOf_49 : decode cX2_beginsWithContourOf 49 = .ok (.goto (-34), 3) := by decide +kernel
theorem dX2_beginsWithContourOf_52 : decode cX2_beginsWithContourOf 52 = .ok (.iconst 1, 1) := by decide +kernel
theorem dX2_beginsWithContourOf_53 : decode cX2_beginsWithContourOf 53 = .ok (.ireturn, 1) := by decide +kernel
theorem dX2_direction_0 : decode cX2_direction 0 = .ok (.iload_n 0, 1) := by decide +kernel
theorem dX2_direction_1 : decode cX2_direction 1 = .ok (.ifCond .le 7, 3) := by decide +kernel
theorem dX2_direction_4 : decode cX2_direction 4 = .ok (.iconst 1, 1) := by decide +kernel
theorem dX2_direction_5 : decode cX2_direction 5 = .ok (.goto 12, 3) := by decide +kernel
theorem dX2_direction_8 : decode cX2_direction 8 = .ok (.iload_n 0, 1) := by decide +kernel
theorem dX2_direction_9 : decode cX2_direction 9 = .ok (.ifCond .ge 7, 3) := by decide +kernel
theorem dX2_direction_12 : decode cX2_direction 12 = .ok (.iconst (-1), 1) := by decide +kernel
theorem dX2_direction_13 : decode cX2_direction 13 = .ok (.goto 4, 3) := by decide +kernel
theorem dX2_direction_16 : decode cX2_direction 16 = .ok (.iconst 0, 1) := by decide +kernel
theorem dX2_direction_17 : decode cX2_direction 17 = .ok (.ireturn, 1) := by decide +kernel
theorem dX3_init_0 : decode cX3_init 0 = .ok (.aload_n 0, 1) := by decide +kernel
theorem dX3_init_1 : decode cX3_init 1 = .ok (.invokespecial 3, 3) := by decide +kernel
theorem dX3_init_4 : decode cX3_init 4 = .ok (.aload_n 0, 1) := by decide +kernel
theorem dX3_init_5 : decode cX3_init 5 = .ok (.new 9, 3) := by decide +kernel
theorem dX3_init_8 : decode cX3_init 8 = .ok (.dup, 1) := by decide +kernel
theorem dX3_init_9 : decode cX3_init 9 = .ok (.bipush 24, 2) := by decide +kernel
theorem dX3_init_11 : decode cX3_init 11 = .ok (.invokespecial 11, 3) := by decide +kernel
theorem dX3_init_14 : decode cX3_init 14 = .ok (.putfield 14, 3) := by decide +kernel
theorem dX3_init_17 : decode cX3_init 17 = .ok (.aload_n 0, 1) := by decide +kernel
theorem dX3_init_18 : decode cX3_init 18 = .ok (.new 9, 3) := by decide +kernel
theorem dX3_init_21 : decode cX3_init 21 = .ok (.dup, 1) := by decide +kernel
theorem dX3_init_22 : decode cX3_init 22 = .ok (.bipush 24, 2) := by decide +kernel
theorem dX3_init_24 : decode cX3_init 24 = .ok (.invokespecial 11, 3) := by decide +kernel
theorem dX3_init_27 : decode cX3_init 27 = .ok (.putfield 20, 3) := by decide +kernel
theorem dX3_init_30 : decode cX3_init 30 = .ok (.return_, 1) := by decide +kernel
theorem dX3_size_0 : decode cX3_size 0 = .ok (.aload_n 0, 1) := by decide +kernel
theorem dX3_size_1 : decode cX3_size 1 = .ok (.getfield 14, 3) := by decide +kernel
theorem dX3_size_4 : decode cX3_size 4 = .ok (.invokevirtual 23, 3) := by decide +kernel
theorem dX3_size_7 : decode cX3_size 7 = .ok (.ireturn, 1) := by decide +kernel
theorem dX3_append_0 : decode cX3_append 0 = .ok (.aload_n 0, 1) := by decide +kernel
theorem dX3_append_1 : decode cX3_append 1 = .ok (.getfield 14, 3) := by decide +kernel
theorem dX3_append_4 : decode cX3_append 4 = .ok (.iload_n 1, 1) := by decide +kernel
theorem dX3_append_5 : decode cX3_append 5 = .ok (.invokevirtual 27, 3) := by decide +kernel
theorem dX3_append_8 : decode cX3_append 8 = .ok (.aload_n 0, 1) := by decide +kernel
theorem dX3_append_9 : decode cX3_append 9 = .ok (.getfield 20, 3) := by decide +kernel
theorem dX3_append_12 : decode cX3_append 12 = .ok (.iload_n 2, 1) := by decide +kernel
theorem dX3_append_13 : decode cX3_append 13 = .ok (.invokevirtual 27, 3) := by decide +kernel
theorem dX3_append_16 : decode cX3_append 16 = .ok (.return_, 1) := by decide +kernel
theorem dX4_init_0 : decode cX4_init 0 = .ok (.aload_n 0, 1) := by decide +kernel
theorem dX4_init_1 : decode cX4_init 1 = .ok (.invokespecial 1, 3) := by decide +kernel
theorem dX4_init_4 : decode cX4_init 4 = .ok (.aload_n 0, 1) := by decide +kernel
theorem dX4_init_5 : decode cX4_init 5 = .ok (.bipush 16, 2) := by decide +kernel
theorem dX4_init_7 : decode cX4_init 7 = .ok (.anewarray 9, 3) := by decide +kernel
theorem dX4_init_10 : decode cX4_init 10 = .ok (.putfield 11, 3) := by decide +kernel
theorem dX4_init_13 : decode cX4_init 13 = .ok (.aload_n 0, 1) := by decide +kernel
theorem dX4_init_14 : decode cX4_init 14 = .ok (.new 15, 3) := by decide +kernel
theorem dX4_init_17 : decode cX4_init 17 = .ok (.dup, 1) := by decide +kernel
theorem dX4_init_18 : decode cX4_init 18 = .ok (.invokespecial 17, 3) := by decide +kernel
theorem dX4_init_21 : decode cX4_init 21 = .ok (.putfield 18, 3) := by decide +kernel
theorem dX4_init_24 : decode cX4_init 24 = .ok (.aload_n 0, 1) := by decide +kernel
theorem dX4_init_25 : decode cX4_init 25 = .ok (.aload_n 0, 1) := by decide +kernel
theorem dX4_init_26 : decode cX4_init 26 = .ok (.getfield 18, 3) := by decide +kernel
theorem dX4_init_29 : decode cX4_init 29 = .ok (.getfield 22, 3) := by decide +kernel
theorem dX4_init_32 : decode cX4_init 32 = .ok (.putfield 26, 3) := by decide +kernel
theorem dX4_init_35 : decode cX4_init 35 = .ok (.aload_n 0, 1) := by decide +kernel
theorem dX4_init_36 : decode cX4_init 36 = .ok (.new 29, 3) := by decide +kernel
theorem dX4_init_39 : decode cX4_init 39 = .ok (.dup, 1) := by decide +kernel
theorem dX4_init_40 : decode cX4_init 40 = .ok (.invokespecial 31, 3) := by decide +kernel
theorem dX4_init_43 : decode cX4_init 43 = .ok (.putfield 32, 3) := by decide +kernel
theorem dX4_init_46 : decode cX4_init 46 = .ok (.aload_n 0, 1) := by decide +kernel
theorem dX4_init_47 : decode cX4_init 47 = .ok (.new 36, 3) := by decide +kernel
theorem dX4_init_50 : decode cX4_init 50 = .ok (.dup, 1) := by decide +kernel
theorem dX4_init_51 : decode cX4_init 51 = .ok (.bipush 16, 2) := by decide +kernel
theorem dX4_init_53 : decode cX4_init 53 = .ok (.invokespecial 38, 3) := by decide +kernel
theorem dX4_init_56 : decode cX4_init 56 = .ok (.putfield 41, 3) := by decide +kernel
theorem dX4_init_59 : decode cX4_init 59 = .ok (.aload_n 0, 1) := by decide +kernel
theorem dX4_init_60 : decode cX4_init 60 = .ok (.new 36, 3) := by decide +kernel
theorem dX4_init_63 : decode cX4_init 63 = .ok (.dup, 1) := by decide +kernel
theorem dX4_init_64 : decode cX4_init 64 = .ok (.sipush 384, 3) := by decide +kernel
theorem dX4_init_67 : decode cX4_init 67 = .ok (.invokespecial 38, 3) := by decide +kernel
theorem dX4_init_70 : decode cX4_init 70 = .ok (.putfield 44, 3) := by decide +kernel
theorem dX4_init_73 : decode cX4_init 73 = .ok (.return_, 1) := by decide +kernel
theorem dX4_add_0 : decode cX4_add 0 = .ok (.iload_n 1, 1) := by decide +kernel
theorem dX4_add_1 : decode cX4_add 1 = .ok (.iload_n 2, 1) := by decide +kernel
theorem dX4_add_2 : decode cX4_add 2 = .ok (.invokestatic 47, 3) := by decide +kernel
theorem dX4_add_5 : decode cX4_add 5 = .ok (.aload_n 0, 1) := by decide +kernel
theorem dX4_add_6 : decode cX4_add 6 = .ok (.getfield 51, 3) := by decide +kernel
theorem dX4_add_9 : decode cX4_add 9 = .ok (.iconst 0, 1) := by decide +kernel
theorem dX4_add_10 : decode cX4_add 10 = .ok (.aload_n 0, 1) := by decide +kernel
theorem dX4_add_11 : decode cX4_add 11 = .ok (.getfield 11, 3) := by decide +kernel
theorem dX4_add_14 : decode cX4_add 14 = .ok (.arraylength, 1) := by decide +kernel
theorem dX4_add_15 : decode cX4_add 15 = .ok (.iconst 1, 1) := by decide +kernel
theorem dX4_add_16 : decode cX4_add 16 = .ok (.isub, 1) := by decide +kernel
theorem dX4_add_17 : decode cX4_add 17 = .ok (.invokestatic 55, 3) := by decide +kernel
theorem dX4_add_20 : decode cX4_add 20 = .ok (.ifCond .ne 13, 3) := by decide +kernel
theorem dX4_add_23 : decode cX4_add 23 = .ok (.new 59, 3) := by decide +kernel
theorem dX4_add_26 : decode cX4_add 26 = .ok (.dup, 1) := by decide +kernel
theorem dX4_add_27 : decode cX4_add 27 = .ok (.ldc 61, 2) := by decide +kernel
theorem dX4_add_29 : decode cX4_add 29 = .ok (.invokespecial 63, 3) := by decide +kernel
theorem dX4_add_32 : decode cX4_add 32 = .ok (.athrow, 1) := by decide +kernel
theorem dX4_add_33 : decode cX4_add 33 = .ok (.new 9, 3) := by decide +kernel
theorem dX4_add_36 : decode cX4_add 36 = .ok (.dup, 1) := by decide +kernel
theorem dX4_add_37 : decode cX4_add 37 = .ok (.invokespecial 66, 3) := by decide +kernel
theorem dX4_add_40 : decode cX4_add 40 = .ok (.astore_n 3, 1) := by decide +kernel
theorem dX4_add_41 : decode cX4_add 41 = .ok (.aload_n 3, 1) := by decide +kernel
theorem dX4_add_42 : decode cX4_add 42 = .ok (.iload_n 1, 1) := by decide +kernel
theorem dX4_add_43 : decode cX4_add 43 = .ok (.iload_n 2, 1) := by decide +kernel
theorem dX4_add_44 : decode cX4_add 44 = .ok (.invokevirtual 67, 3) := by decide +kernel
theorem dX4_add_47 : decode cX4_add 47 = .ok (.aload_n 0, 1) := by decide +kernel
theorem dX4_add_48 : decode cX4_add 48 = .ok (.getfield 11, 3) := by decide +kernel
theorem dX4_add_51 : decode cX4_add 51 = .ok (.aload_n 0, 1) := by decide +kernel
theorem dX4_add_52 : decode cX4_add 52 = .ok (.getfield 51, 3) := by decide +kernel
theorem dX4_add_55 : decode cX4_add 55 = .ok (.aload_n 3, 1) := by decide +kernel
theorem dX4_add_56 : decode cX4_add 56 = .ok (.aastore, 1) := by decide +kernel
theorem dX4_add_57 : decode cX4_add 57 = .ok (.aload_n 0, 1) := by decide +kernel
theorem dX4_add_58 : decode cX4_add 58 = .ok (.dup, 1) := by decide +kernel
theorem dX4_add_59 : decode cX4_add 59 = .ok (.getfield 51, 3) := by decide +kernel
theorem dX4_add_62 : decode cX4_add 62 = .ok (.iconst 1, 1) := by decide +kernel
theorem dX4_add_63 : decode cX4_add 63 = .ok (.iadd, 1) := by decide +kernel
theorem dX4_add_64 : decode cX4_add 64 = .ok (.putfield 51, 3) := by decide +kernel
theorem dX4_add_67 : decode cX4_add 67 = .ok (.aload_n 0, 1) := by decide +kernel
theorem dX4_add_68 : decode cX4_add 68 = .ok (.getfield 32, 3) := by decide +kernel
theorem dX4_add_71 : decode cX4_add 71 = .ok (.invokevirtual 70, 3) := by decide +kernel
theorem dX4_add_74 : decode cX4_add 74 = .ok (.aload_n 0, 1) := by decide +kernel
theorem dX4_add_75 : decode cX4_add 75 = .ok (.getfield 51, 3) := by decide +kernel
theorem dX4_add_78 : decode cX4_add 78 = .ok (.iconst 1, 1) := by decide +kernel
theorem dX4_add_79 : decode cX4_add 79 = .ok (.isub, 1) := by decide +kernel
theorem dX4_add_80 : decode cX4_add 80 = .ok (.ireturn, 1) := by decide +kernel
theorem dX4_note_0 : decode cX4_note 0 = .ok (.aload_n 0, 1) := by decide +kernel
theorem dX4_note_1 : decode cX4_note 1 = .ok (.iload_n 1, 1) := by decide +kernel
theorem dX4_note_2 : decode cX4_note 2 = .ok (.invokevirtual 73, 3) := by decide +kernel
theorem dX4_note_5 : decode cX4_note 5 = .ok (.astore 4, 2) := by decide +kernel
theorem dX4_note_7 : decode cX4_note 7 = .ok (.iload_n 2, 1) := by decide +kernel
theorem dX4_note_8 : decode cX4_note 8 = .ok (.iload_n 3, 1) := by decide +kernel
theorem dX4_note_9 : decode cX4_note 9 = .ok (.invokestatic 47, 3) := by decide +kernel
theorem dX4_note_12 : decode cX4_note 12 = .ok (.aload 4, 2) := by decide +kernel
theorem dX4_note_14 : decode cX4_note 14 = .ok (.getfield 77, 3) := by decide +kernel
theorem dX4_note_17 : decode cX4_note 17 = .ok (.invokevirtual 80, 3) := by decide +kernel
theorem dX4_note_20 : decode cX4_note 20 = .ok (.ifCond .eq 13, 3) := by decide +kernel
theorem dX4_note_23 : decode cX4_note 23 = .ok (.new 59, 3) := by decide +kernel
theorem dX4_note_26 : decode cX4_note 26 = .ok (.dup, 1) := by decide +kernel
theorem dX4_note_27 : decode cX4_note 27 = .ok (.ldc 84, 2) := by decide +kernel
theorem dX4_note_29 : decode cX4_note 29 = .ok (.invokespecial 63, 3) := by decide +kernel
theorem dX4_note_32 : decode cX4_note 32 = .ok (.athrow, 1) := by decide +kernel
theorem dX4_note_33 : decode cX4_note 33 = .ok (.aload 4, 2) := by decide +kernel
theorem dX4_note_35 : decode cX4_note 35 = .ok (.iload_n 2, 1) := by decide +kernel
theorem dX4_note_36 : decode cX4_note 36 = .ok (.iload_n 3, 1) := by decide +kernel
theorem dX4_note_37 : decode cX4_note 37 = .ok (.invokevirtual 67, 3) := by decide +kernel
theorem dX4_note_40 : decode cX4_note 40 = .ok (.aload 4, 2) := by decide +kernel
theorem dX4_note_42 : decode cX4_note 42 = .ok (.invokevirtual 86, 3) := by decide +kernel
theorem dX4_note_45 : decode cX4_note 45 = .ok (.ireturn, 1) := by decide +kernel
theorem dX4_correct_0 : decode cX4_correct 0 = .ok (.aload_n 0, 1) := by decide +kernel
theorem dX4_correct_1 : decode cX4_correct 1 = .ok (.iload_n 1, 1) := by decide +kernel
theorem dX4_correct_2 : decode cX4_correct 2 = .ok (.invokevirtual 73, 3) := by decide +kernel
theorem dX4_correct_5 : decode cX4_correct 5 = .ok (.astore 5, 2) := by decide +kernel
theorem dX4_correct_7 : decode cX4_correct 7 = .ok (.iload_n 2, 1) := by decide +kernel
theorem dX4_correct_8 : decode cX4_correct 8 = .ok (.ifCond .lt 12, 3) := by decide +kernel
theorem dX4_correct_11 : decode cX4_correct 11 = .ok (.iload_n 2, 1) := by decide +kernel
theorem dX4_correct_12 : decode cX4_correct 12 = .ok (.aload 5, 2) := by decide +kernel
theorem dX4_correct_14 : decode cX4_correct 14 = .ok (.invokevirtual 86, 3) := by decide +kernel
theorem dX4_correct_17 : decode cX4_correct 17 = .ok (.if_icmp .lt 13, 3) := by decide +kernel
theorem dX4_correct_20 : decode cX4_correct 20 = .ok (.new 90, 3) := by decide +kernel
theorem dX4_correct_23 : decode cX4_correct 23 = .ok (.dup, 1) := by decide +kernel
theorem dX4_correct_24 : decode cX4_correct 24 = .ok (.ldc 92, 2) := by decide +kernel
theorem dX4_correct_26 : decode cX4_correct 26 = .ok (.invokespecial 94, 3) := by decide +kernel
theorem dX4_correct_29 : decode cX4_correct 29 = .ok (.athrow, 1) := by decide +kernel
theorem dX4_correct_30 : decode cX4_correct 30 = .ok (.iload_n 3, 1) := by decide +kernel
theorem dX4_correct_31 : decode cX4_correct 31 = .ok (.iload 4, 2) := by decide +kernel
theorem dX4_correct_33 : decode cX4_correct 33 = .ok (.invokestatic 47, 3) := by decide +kernel
theorem dX4_correct_36 : decode cX4_correct 36 = .ok (.aload 5, 2) := by decide +kernel
theorem dX4_correct_38 : decode cX4_correct 38 = .ok (.getfield 77, 3) := by decide +kernel
theorem dX4_correct_41 : decode cX4_correct 41 = .ok (.iload_n 2, 1) := by decide +kernel
theorem dX4_correct_42 : decode cX4_correct 42 = .ok (.invokevirtual 95, 3) := by decide +kernel
theorem dX4_correct_45 : decode cX4_correct 45 = .ok (.istore 6, 2) := by decide +kernel
theorem dX4_correct_47 : decode cX4_correct 47 = .ok (.aload 5, 2) := by decide +kernel
theorem dX4_correct_49 : decode cX4_correct 49 = .ok (.getfield 77, 3) := by decide +kernel
theorem dX4_correct_52 : decode cX4_correct 52 = .ok (.iload_n 2, 1) := by decide +kernel
theorem dX4_correct_53 : decode cX4_correct 53 = .ok (.iload_n 3, 1) := by decide +kernel
theorem dX4_correct_54 : decode cX4_correct 54 = .ok (.invokevirtual 99, 3) := by decide +kernel
theorem dX4_correct_57 : decode cX4_correct 57 = .ok (.aload 5, 2) := by decide +kernel
theorem dX4_correct_59 : decode cX4_correct 59 = .ok (.getfield 102, 3) := by decide +kernel
theorem dX4_correct_62 : decode cX4_correct 62 = .ok (.iload_n 2, 1) := by decide +kernel
theorem dX4_correct_63 : decode cX4_correct 63 = .ok (.iload 4, 2) := by decide +kernel
theorem dX4_correct_65 : decode cX4_correct 65 = .ok (.invokevirtual 99, 3) := by decide +kernel
theorem dX4_correct_68 : decode cX4_correct 68 = .ok (.iload 6, 2) := by decide +kernel
theorem dX4_correct_70 : decode cX4_correct 70 = .ok (.ireturn, 1) := by decide +kernel
theorem dX4_shift_0 : decode cX4_shift 0 = .ok (.aload_n 0, 1) := by decide +kernel
theorem dX4_shift_1 : decode cX4_shift 1 = .ok (.iload_n 1, 1) := by decide +kernel
theorem dX4_shift_2 : decode cX4_shift 2 = .ok (.invokevirtual 73, 3) := by decide +kernel
theorem dX4_shift_5 : decode cX4_shift 5 = .ok (.astore_n 3, 1) := by decide +kernel
theorem dX4_shift_6 : decode cX4_shift 6 = .ok (.iload_n 2, 1) := by decide +kernel
theorem dX4_shift_7 : decode cX4_shift 7 = .ok (.bipush (-60), 2) := by decide +kernel
theorem dX4_shift_9 : decode cX4_shift 9 = .ok (.bipush 60, 2) := by decide +kernel
theorem dX4_shift_11 : decode cX4_shift 11 = .ok (.invokestatic 105, 3) := by decide +kernel
theorem dX4_shift_14 : decode cX4_shift 14 = .ok (.iconst 0, 1) := by decide +kernel
theorem dX4_shift_15 : decode cX4_shift 15 = .ok (.istore 4, 2) := by decide +kernel
theorem dX4_shift_17 : decode cX4_shift 17 = .ok (.iload 4, 2) := by decide +kernel
theorem dX4_shift_19 : decode cX4_shift 19 = .ok (.aload_n 3, 1) := by decide +kernel
theorem dX4_shift_20 : decode cX4_shift 20 = .ok (.invokevirtual 86, 3) := by decide +kernel
theorem dX4_shift_23 : decode cX4_shift 23 = .ok (.if_icmp .ge 39, 3) := by decide +kernel
theorem dX4_shift_26 : decode cX4_shift 26 = .ok (.aload_n 3, 1) := by decide +kernel
theorem dX4_shift_27 : decode cX4_shift 27 = .ok (.getfield 77, 3) := by decide +kernel
theorem dX4_shift_30 : decode cX4_shift 30 = .ok (.iload 4, 2) := by decide +kernel
theorem dX4_shift_32 : decode cX4_shift 32 = .ok (.invokevirtual 95, 3) := by decide +kernel
theorem dX4_shift_35 : decode cX4_shift 35 = .ok (.iload_n 2, 1) := by decide +kernel
theorem dX4_shift_36 : decode cX4_shift 36 = .ok (.iadd, 1) := by decide +kernel
theorem dX4_shift_37 : decode cX4_shift 37 = .ok (.iconst 0, 1) := by decide +kernel
theorem dX4_shift_38 : decode cX4_shift 38 = .ok (.bipush 60, 2) := by decide +kernel
theorem dX4_shift_40 : decode cX4_shift 40 = .ok (.invokestatic 55, 3) := by decide +kernel
theorem dX4_shift_43 : decode cX4_shift 43 = .ok (.ifCond .ne 13, 3) := by decide +kernel
theorem dX4_shift_46 : decode cX4_shift 46 = .ok (.new 59, 3) := by decide +kernel
theorem dX4_shift_49 : decode cX4_shift 49 = .ok (.dup, 1) := by decide +kernel
theorem dX4_shift_50 : decode cX4_shift 50 = .ok (.ldc 109, 2) := by decide +kernel
theorem dX4_shift_52 : decode cX4_shift 52 = .ok (.invokespecial 63, 3) := by decide +kernel
theorem dX4_shift_55 : decode cX4_shift 55 = .ok (.athrow, 1) := by decide +kernel
theorem dX4_shift_56 : decode cX4_shift 56 = .ok (.iinc 4 1, 3) := by decide +kernel
theorem dX4_shift_59 : decode cX4_shift 59 = .ok (.goto (-42), 3) := by decide +kernel
theorem dX4_shift_62 : decode cX4_shift 62 = .ok (.iconst 0, 1) := by decide +kernel
theorem dX4_shift_63 : decode cX4_shift 63 = .ok (.istore 4, 2) := by decide +kernel
theorem dX4_shift_65 : decode cX4_shift 65 = .ok (.iload 4, 2) := by decide +kernel
theorem dX4_shift_67 : decode cX4_shift 67 = .ok (.aload_n 3, 1) := by decide +kernel
theorem dX4_shift_68 : decode cX4_shift 68 = .ok (.invokevirtual 86, 3) := by decide +kernel
theorem dX4_shift_71 : decode cX4_shift 71 = .ok (.if_icmp .ge 29, 3) := by decide +kernel
theorem dX4_shift_74 : decode cX4_shift 74 = .ok (.aload_n 3, 1) := by decide +kernel
theorem dX4_shift_75 : decode cX4_shift 75 = .ok (.getfield 77, 3) := by decide +kernel
theorem dX4_shift_78 : decode cX4_shift 78 = .ok (.iload 4, 2) := by decide +kernel
theorem dX4_shift_80 : decode cX4_shift 80 = .ok (.aload_n 3, 1) := by decide +kernel
theorem dX4_shift_81 : decode cX4_shift 81 = .ok (.getfield 77, 3) := by decide +kernel
theorem dX4_shift_84 : decode cX4_shift 84 = .ok (.iload 4, 2) := by decide +kernel
theorem dX4_shift_86 : decode cX4_shift 86 = .ok (.invokevirtual 95, 3) := by decide +kernel
theorem dX4_shift_89 : decode cX4_shift 89 = .ok (.iload_n 2, 1) := by decide +kernel
theorem dX4_shift_90 : decode cX4_shift 90 = .ok (.iadd, 1) := by decide +kernel
theorem dX4_shift_91 : decode cX4_shift 91 = .ok (.invokevirtual 99, 3) := by decide +kernel
theorem dX4_shift_94 : decode cX4_shift 94 = .ok (.iinc 4 1, 3) := by decide +kernel
theorem dX4_shift_97 : decode cX4_shift 97 = .ok (.goto (-32), 3) := by decide +kernel
theorem dX4_shift_100 : decode cX4_shift 100 = .ok (.return_, 1) := by decide +kernel
theorem dX4_retire_0 : decode cX4_retire 0 = .ok (.aload_n 0, 1) := by decide +kernel
theorem dX4_retire_1 : decode cX4_retire 1 = .ok (.iload_n 1, 1) := by decide +kernel
theorem dX4_retire_2 : decode cX4_retire 2 = .ok (.invokevirtual 73, 3) := by decide +kernel
theorem dX4_retire_5 : decode cX4_retire 5 = .ok (.iconst 1, 1) := by decide +kernel
theorem dX4_retire_6 : decode cX4_retire 6 = .ok (.putfield 111, 3) := by decide +kernel
theorem dX4_retire_9 : decode cX4_retire 9 = .ok (.iconst 0, 1) := by decide +kernel
theorem dX4_retire_10 : decode cX4_retire 10 = .ok (.istore_n 2, 1) := by decide +kernel
theorem dX4_retire_11 : decode cX4_retire 11 = .ok (.iconst 0, 1) := by decide +kernel
theorem dX4_retire_12 : decode cX4_retire 12 = .ok (.istore_n 3, 1) := by decide +kernel
theorem dX4_retire_13 : decode cX4_retire 13 = .ok (.iload_n 3, 1) := by decide +kernel
theorem dX4_retire_14 : decode cX4_retire 14 = .ok (.aload_n 0, 1) := by decide +kernel
theorem dX4_retire_15 : decode cX4_retire 15 = .ok (.getfield 51, 3) := by decide +kernel
theorem dX4_retire_18 : decode cX4_retire 18 = .ok (.if_icmp .ge 20, 3) := by decide +kernel
theorem dX4_retire_21 : decode cX4_retire 21 = .ok (.aload_n 0, 1) := by decide +kernel
theorem dX4_retire_22 : decode cX4_retire 22 = .ok (.iload_n 3, 1) := by decide +kernel
theorem dX4_retire_23 : decode cX4_retire 23 = .ok (.invokevirtual 115, 3) := by decide +kernel
theorem dX4_retire_26 : decode cX4_retire 26 = .ok (.ifnull 6, 3) := by decide +kernel
theorem dX4_retire_29 : decode cX4_retire 29 = .ok (.iinc 2 1, 3) := by decide +kernel
theorem dX4_retire_32 : decode cX4_retire 32 = .ok (.iinc 3 1, 3) := by decide +kernel
theorem dX4_retire_35 : decode cX4_retire 35 = .ok (.goto (-22), 3) := by decide +kernel
theorem dX4_retire_38 : decode cX4_retire 38 = .ok (.iload_n 2, 1) := by decide +kernel
theorem dX4_retire_39 : decode cX4_retire 39 = .ok (.ireturn, 1) := by decide +kernel
theorem dX4_tunes_0 : decode cX4_tunes 0 = .ok (.aload_n 0, 1) := by decide +kernel
theorem dX4_tunes_1 : decode cX4_tunes 1 = .ok (.getfield 51, 3) := by decide +kernel
theorem dX4_tunes_4 : decode cX4_tunes 4 = .ok (.ireturn, 1) := by decide +kernel
theorem dX4_notes_0 : decode cX4_notes 0 = .ok (.aload_n 0, 1) := by decide +kernel
theorem dX4_notes_1 : decode cX4_notes 1 = .ok (.iload_n 1, 1) := by decide +kernel
theorem dX4_notes_2 : decode cX4_notes 2 = .ok (.invokevirtual 118, 3) := by decide +kernel
theorem dX4_notes_5 : decode cX4_notes 5 = .ok (.invokevirtual 86, 3) := by decide +kernel
theorem dX4_notes_8 : decode cX4_notes 8 = .ok (.ireturn, 1) := by decide +kernel
theorem dX4_step_0 : decode cX4_step 0 = .ok (.aload_n 0, 1) := by decide +kernel
theorem dX4_step_1 : decode cX4_step 1 = .ok (.iload_n 1, 1) := by decide +kernel
theorem dX4_step_2 : decode cX4_step 2 = .ok (.invokevirtual 118, 3) := by decide +kernel
theorem dX4_step_5 : decode cX4_step 5 = .ok (.astore_n 3, 1) := by decide +kernel
theorem dX4_step_6 : decode cX4_step 6 = .ok (.iload_n 2, 1) := by decide +kernel
theorem dX4_step_7 : decode cX4_step 7 = .ok (.ifCond .lt 13, 3) := by decide +kernel
theorem dX4_step_10 : decode cX4_step 10 = .ok (.iload_n 2, 1) := by decide +kernel
theorem dX4_step_11 : decode cX4_step 11 = .ok (.aload_n 3, 1) := by decide +kernel
theorem dX4_step_12 : decode cX4_step 12 = .ok (.invokevirtual 86, 3) := by decide +kernel
theorem dX4_step_15 : decode cX4_step 15 = .ok (.iconst 1, 1) := by decide +kernel
theorem dX4_step_16 : decode cX4_step 16 = .ok (.isub, 1) := by decide +kernel
theorem dX4_step_17 : decode cX4_step 17 = .ok (.if_icmp .lt 13, 3) := by decide +kernel
theorem dX4_step_20 : decode cX4_step 20 = .ok (.new 90, 3) := by decide +kernel
theorem dX4_step_23 : decode cX4_step 23 = .ok (.dup, 1) := by decide +kernel
theorem dX4_step_24 : decode cX4_step 24 = .ok (.ldc 121, 2) := by decide +kernel
theorem dX4_step_26 : decode cX4_step 26 = .ok (.invokespecial 94, 3) := by decide +kernel
theorem dX4_step_29 : decode cX4_step 29 = .ok (.athrow, 1) := by decide +kernel
theorem dX4_step_30 : decode cX4_step 30 = .ok (.aload_n 3, 1) := by decide +kernel
theorem dX4_step_31 : decode cX4_step 31 = .ok (.getfield 77, 3) := by decide +kernel
theorem dX4_step_34 : decode cX4_step 34 = .ok (.iload_n 2, 1) := by decide +kernel
theorem dX4_step_35 : decode cX4_step 35 = .ok (.invokevirtual 123, 3) := by decide +kernel
theorem dX4_step_38 : decode cX4_step 38 = .ok (.ireturn, 1) := by decide +kernel
theorem dX4_shared_0 : decode cX4_shared 0 = .ok (.aload_n 0, 1) := by decide +kernel
theorem dX4_shared_1 : decode cX4_shared 1 = .ok (.iload_n 1, 1) := by decide +kernel
theorem dX4_shared_2 : decode cX4_shared 2 = .ok (.invokevirtual 118, 3) := by decide +kernel
theorem dX4_shared_5 : decode cX4_shared 5 = .ok (.getfield 77, 3) := by decide +kernel
theorem dX4_shared_8 : decode cX4_shared 8 = .ok (.astore_n 3, 1) := by decide +kernel
theorem dX4_shared_9 : decode cX4_shared 9 = .ok (.aload_n 0, 1) := by decide +kernel
theorem dX4_shared_10 : decode cX4_shared 10 = .ok (.iload_n 2, 1) := by decide +kernel
theorem dX4_shared_11 : decode cX4_shared 11 = .ok (.invokevirtual 118, 3) := by decide +kernel
theorem dX4_shared_14 : decode cX4_shared 14 = .ok (.getfield 77, 3) := by decide +kernel
theorem dX4_shared_17 : decode cX4_shared 17 = .ok (.astore 4, 2) := by decide +kernel
theorem dX4_shared_19 : decode cX4_shared 19 = .ok (.iconst 0, 1) := by decide +kernel
theorem dX4_shared_20 : decode cX4_shared 20 = .ok (.istore 5, 2) := by decide +kernel
theorem dX4_shared_22 : decode cX4_shared 22 = .ok (.iconst 0, 1) := by decide +kernel
theorem dX4_shared_23 : decode cX4_shared 23 = .ok (.istore 6, 2) := by decide +kernel
theorem dX4_shared_25 : decode cX4_shared 25 = .ok (.iload 6, 2) := by decide +kernel
theorem dX4_shared_27 : decode cX4_shared 27 = .ok (.aload_n 3, 1) := by decide +kernel
theorem dX4_shared_28 : decode cX4_shared 28 = .ok (.invokevirtual 126, 3) := by decide +kernel
theorem dX4_shared_31 : decode cX4_shared 31 = .ok (.if_icmp .ge 45, 3) := by decide +kernel
theorem dX4_shared_34 : decode cX4_shared 34 = .ok (.iconst 0, 1) := by decide +kernel
theorem dX4_shared_35 : decode cX4_shared 35 = .ok (.istore 7, 2) := by decide +kernel
theorem dX4_shared_37 : decode cX4_shared 37 = .ok (.iload 7, 2) := by decide +kernel
theorem dX4_shared_39 : decode cX4_shared 39 = .ok (.aload 4, 2) := by decide +kernel
theorem dX4_shared_41 : decode cX4_shared 41 = .ok (.invokevirtual 126, 3) := by decide +kernel
theorem dX4_shared_44 : decode cX4_shared 44 = .ok (.if_icmp .ge 26, 3) := by decide +kernel
theorem dX4_shared_47 : decode cX4_shared 47 = .ok (.iload 5, 2) := by decide +kernel
theorem dX4_shared_49 : decode cX4_shared 49 = .ok (.aload_n 3, 1) := by decide +kernel
theorem dX4_shared_50 : decode cX4_shared 50 = .ok (.iload 6, 2) := by decide +kernel
theorem dX4_shared_52 : decode cX4_shared 52 = .ok (.aload 4, 2) := by decide +kernel
theorem dX4_shared_54 : decode cX4_shared 54 = .ok (.iload 7, 2) := by decide +kernel
theorem dX4_shared_56 : decode cX4_shared 56 = .ok (.invokevirtual 127, 3) := by decide +kernel
theorem dX4_shared_59 : decode cX4_shared 59 = .ok (.invokestatic 131, 3) := by decide +kernel
theorem dX4_shared_62 : decode cX4_shared 62 = .ok (.istore 5, 2) := by decide +kernel
theorem dX4_shared_64 : decode cX4_shared 64 = .ok (.iinc 7 1, 3) := by decide +kernel
theorem dX4_shared_67 : decode cX4_shared 67 = .ok (.goto (-30), 3) := by decide +kernel
theorem dX4_shared_70 : decode cX4_shared 70 = .ok (.iinc 6 1, 3) := by decide +kernel
theorem dX4_shared_73 : decode cX4_shared 73 = .ok (.goto (-48), 3) := by decide +kernel
theorem dX4_shared_76 : decode cX4_shared 76 = .ok (.iload 5, 2) := by decide +kernel
theorem dX4_shared_78 : decode cX4_shared 78 = .ok (.ireturn, 1) := by decide +kernel
theorem dX4_hum_0 : decode cX4_hum 0 = .ok (.iload_n 1, 1) := by decide +kernel
theorem dX4_hum_1 : decode cX4_hum 1 = .ok (.iconst 0, 1) := by decide +kernel
theorem dX4_hum_2 : decode cX4_hum 2 = .ok (.bipush 60, 2) := by decide +kernel
theorem dX4_hum_4 : decode cX4_hum 4 = .ok (.invokestatic 105, 3) := by decide +kernel
theorem dX4_hum_7 : decode cX4_hum 7 = .ok (.aload_n 0, 1) := by decide +kernel
theorem dX4_hum_8 : decode cX4_hum 8 = .ok (.getfield 26, 3) := by decide +kernel
theorem dX4_hum_11 : decode cX4_hum 11 = .ok (.invokevirtual 80, 3) := by decide +kernel
theorem dX4_hum_14 : decode cX4_hum 14 = .ok (.ifCond .eq 13, 3) := by decide +kernel
theorem dX4_hum_17 : decode cX4_hum 17 = .ok (.new 59, 3) := by decide +kernel
theorem dX4_hum_20 : decode cX4_hum 20 = .ok (.dup, 1) := by decide +kernel
theorem dX4_hum_21 : decode cX4_hum 21 = .ok (.ldc 137, 2) := by decide +kernel
theorem dX4_hum_23 : decode cX4_hum 23 = .ok (.invokespecial 63, 3) := by decide +kernel
theorem dX4_hum_26 : decode cX4_hum 26 = .ok (.athrow, 1) := by decide +kernel
theorem dX4_hum_27 : decode cX4_hum 27 = .ok (.aload_n 0, 1) := by decide +kernel
theorem dX4_hum_28 : decode cX4_hum 28 = .ok (.getfield 26, 3) := by decide +kernel
theorem dX4_hum_31 : decode cX4_hum 31 = .ok (.iload_n 1, 1) := by decide +kernel
theorem dX4_hum_32 : decode cX4_hum 32 = .ok (.invokevirtual 139, 3) := by decide +kernel
theorem dX4_hum_35 : decode cX4_hum 35 = .ok (.aload_n 0, 1) := by decide +kernel
theorem dX4_hum_36 : decode cX4_hum 36 = .ok (.getfield 26, 3) := by decide +kernel
theorem dX4_hum_39 : decode cX4_hum 39 = .ok (.invokevirtual 126, 3) := by decide +kernel
theorem dX4_hum_42 : decode cX4_hum 42 = .ok (.ireturn, 1) := by decide +kernel
theorem dX4_hush_0 : decode cX4_hush 0 = .ok (.aload_n 0, 1) := by decide +kernel
theorem dX4_hush_1 : decode cX4_hush 1 = .ok (.getfield 26, 3) := by decide +kernel
theorem dX4_hush_4 : decode cX4_hush 4 = .ok (.invokevirtual 126, 3) := by decide +kernel
theorem dX4_hush_7 : decode cX4_hush 7 = .ok (.istore_n 1, 1) := by decide +kernel
theorem dX4_hush_8 : decode cX4_hush 8 = .ok (.aload_n 0, 1) := by decide +kernel
theorem dX4_hush_9 : decode cX4_hush 9 = .ok (.getfield 26, 3) := by decide +kernel
theorem dX4_hush_12 : decode cX4_hush 12 = .ok (.invokevirtual 141, 3) := by decide +kernel
theorem dX4_hush_15 : decode cX4_hush 15 = .ok (.iload_n 1, 1) := by decide +kernel
theorem dX4_hush_16 : decode cX4_hush 16 = .ok (.ireturn, 1) := by decide +kernel
theorem dX4_hummed_0 : decode cX4_hummed 0 = .ok (.aload_n 0, 1) := by decide +kernel
theorem dX4_hummed_1 : decode cX4_hummed 1 = .ok (.getfield 26, 3) := by decide +kernel
theorem dX4_hummed_4 : decode cX4_hummed 4 = .ok (.invokevirtual 126, 3) := by decide +kernel
theorem dX4_hummed_7 : decode cX4_hummed 7 = .ok (.ireturn, 1) := by decide +kernel
theorem dX4_setCosts_0 : decode cX4_setCosts 0 = .ok (.iload_n 1, 1) := by decide +kernel
theorem dX4_setCosts_1 : decode cX4_setCosts 1 = .ok (.iconst 0, 1) := by decide +kernel
theorem dX4_setCosts_2 : decode cX4_setCosts 2 = .ok (.bipush 20, 2) := by decide +kernel
theorem dX4_setCosts_4 : decode cX4_setCosts 4 = .ok (.invokestatic 105, 3) := by decide +kernel
theorem dX4_setCosts_7 : decode cX4_setCosts 7 = .ok (.iload_n 2, 1) := by decide +kernel
theorem dX4_setCosts_8 : decode cX4_setCosts 8 = .ok (.iconst 0, 1) := by decide +kernel
theorem dX4_setCosts_9 : decode cX4_setCosts 9 = .ok (.bipush 20, 2) := by decide +kernel
theorem dX4_setCosts_11 : decode cX4_setCosts 11 = .ok (.invokestatic 105, 3) := by decide +kernel
theorem dX4_setCosts_14 : decode cX4_setCosts 14 = .ok (.iload_n 3, 1) := by decide +kernel
theorem dX4_setCosts_15 : decode cX4_setCosts 15 = .ok (.iconst 0, 1) := by decide +kernel
theorem dX4_setCosts_16 : decode cX4_setCosts 16 = .ok (.bipush 20, 2) := by decide +kernel
theorem dX4_setCosts_18 : decode cX4_setCosts 18 = .ok (.invokestatic 105, 3) := by decide +kernel
theorem dX4_setCosts_21 : decode cX4_setCosts 21 = .ok (.aload_n 0, 1) := by decide +kernel
theorem dX4_setCosts_22 : decode cX4_setCosts 22 = .ok (.getfield 18, 3) := by decide +kernel
theorem dX4_setCosts_25 : decode cX4_setCosts 25 = .ok (.iload_n 1, 1) := by decide +kernel
theorem dX4_setCosts_26 : decode cX4_setCosts 26 = .ok (.putfield 144, 3) := by decide +kernel
theorem dX4_setCosts_29 : decode cX4_setCosts 29 = .ok (.aload_n 0, 1) := by decide +kernel
theorem dX4_setCosts_30 : decode cX4_setCosts 30 = .ok (.getfield 18, 3) := by decide +kernel
theorem dX4_setCosts_33 : decode cX4_setCosts 33 = .ok (.iload_n 2, 1) := by decide +kernel
theorem dX4_setCosts_34 : decode cX4_setCosts 34 = .ok (.putfield 147, 3) := by decide +kernel
theorem dX4_setCosts_37 : decode cX4_setCosts 37 = .ok (.aload_n 0, 1) := by decide +kernel
theorem dX4_setCosts_38 : decode cX4_setCosts 38 = .ok (.getfield 18, 3) := by decide +kernel
theorem dX4_setCosts_41 : decode cX4_setCosts 41 = .ok (.iload_n 3, 1) := by decide +kernel
theorem dX4_setCosts_42 : decode cX4_setCosts 42 = .ok (.putfield 150, 3) := by decide +kernel
theorem dX4_setCosts_45 : decode cX4_setCosts 45 = .ok (.return_, 1) := by decide +kernel
theorem dX4_cost_0 : decode cX4_cost 0 = .ok (.aload_n 0, 1) := by decide +kernel
theorem dX4_cost_1 : decode cX4_cost 1 = .ok (.getfield 18, 3) := by decide +kernel
theorem dX4_cost_4 : decode cX4_cost 4 = .ok (.aload_n 0, 1) := by decide +kernel
theorem dX4_cost_5 : decode cX4_cost 5 = .ok (.iload_n 1, 1) := by decide +kernel
theorem dX4_cost_6 : decode cX4_cost 6 = .ok (.invokevirtual 73, 3) := by decide +kernel
theorem dX4_cost_9 : decode cX4_cost 9 = .ok (.invokevirtual 153, 3) := by decide +kernel
theorem dX4_cost_12 : decode cX4_cost 12 = .ok (.ireturn, 1) := by decide +kernel
theorem dX4_costByAll_0 : decode cX4_costByAll 0 = .ok (.aload_n 0, 1) := by decide +kernel
theorem dX4_costByAll_1 : decode cX4_costByAll 1 = .ok (.iload_n 1, 1) := by decide +kernel
theorem dX4_costByAll_2 : decode cX4_costByAll 2 = .ok (.invokevirtual 73, 3) := by decide +kernel
theorem dX4_costByAll_5 : decode cX4_costByAll 5 = .ok (.astore_n 2, 1) := by decide +kernel
theorem dX4_costByAll_6 : decode cX4_costByAll 6 = .ok (.aload_n 0, 1) := by decide +kernel
theorem dX4_costByAll_7 : decode cX4_costByAll 7 = .ok (.getfield 26, 3) := by decide +kernel
theorem dX4_costByAll_10 : decode cX4_costByAll 10 = .ok (.invokevirtual 126, 3) := by decide +kernel
theorem dX4_costByAll_13 : decode cX4_costByAll 13 = .ok (.bipush 8, 2) := by decide +kernel
theorem dX4_costByAll_15 : decode cX4_costByAll 15 = .ok (.if_icmp .le 13, 3) := by decide +kernel
theorem dX4_costByAll_18 : decode cX4_costByAll 18 = .ok (.new 59, 3) := by decide +kernel
theorem dX4_costByAll_21 : decode cX4_costByAll 21 = .ok (.dup, 1) := by decide +kernel
theorem dX4_costByAll_22 : decode cX4_costByAll 22 = .ok (.ldc 157, 2) := by decide +kernel
theorem dX4_costByAll_24 : decode cX4_costByAll 24 = .ok (.invokespecial 63, 3) := by decide +kernel
theorem dX4_costByAll_27 : decode cX4_costByAll 27 = .ok (.athrow, 1) := by decide +kernel
theorem dX4_costByAll_28 : decode cX4_costByAll 28 = .ok (.aload_n 0, 1) := by decide +kernel
theorem dX4_costByAll_29 : decode cX4_costByAll 29 = .ok (.getfield 18, 3) := by decide +kernel
theorem dX4_costByAll_32 : decode cX4_costByAll 32 = .ok (.aload_n 2, 1) := by decide +kernel
theorem dX4_costByAll_33 : decode cX4_costByAll 33 = .ok (.invokevirtual 159, 3) := by decide +kernel
theorem dX4_costByAll_36 : decode cX4_costByAll 36 = .ok (.ireturn, 1) := by decide +kernel
theorem dX4_matches_0 : decode cX4_matches 0 = .ok (.aload_n 0, 1) := by decide +kernel
theorem dX4_matches_1 : decode cX4_matches 1 = .ok (.invokevirtual 162, 3) := by decide +kernel
theorem dX4_matches_4 : decode cX4_matches 4 = .ok (.iconst 0, 1) := by decide +kernel
theorem dX4_matches_5 : decode cX4_matches 5 = .ok (.istore_n 1, 1) := by decide +kernel
theorem dX4_matches_6 : decode cX4_matches 6 = .ok (.iconst 0, 1) := by decide +kernel
theorem dX4_matches_7 : decode cX4_matches 7 = .ok (.istore_n 2, 1) := by decide +kernel
theorem dX4_matches_8 : decode cX4_matches 8 = .ok (.iload_n 2, 1) := by decide +kernel
theorem dX4_matches_9 : decode cX4_matches 9 = .ok (.aload_n 0, 1) := by decide +kernel
theorem dX4_matches_10 : decode cX4_matches 10 = .ok (.getfield 41, 3) := by decide +kernel
theorem dX4_matches_13 : decode cX4_matches 13 = .ok (.invokevirtual 126, 3) := by decide +kernel
theorem dX4_matches_16 : decode cX4_matches 16 = .ok (.if_icmp .ge 24, 3) := by decide +kernel
theorem dX4_matches_19 : decode cX4_matches 19 = .ok (.aload_n 0, 1) := by decide +kernel
theorem dX4_matches_20 : decode cX4_matches 20 = .ok (.getfield 41, 3) := by decide +kernel
theorem dX4_matches_23 : decode cX4_matches 23 = .ok (.iload_n 2, 1) := by decide +kernel
theorem dX4_matches_24 : decode cX4_matches 24 = .ok (.invokevirtual 95, 3) := by decide +kernel
theorem dX4_matches_27 : decode cX4_matches 27 = .ok (.iconst (-1), 1) := by decide +kernel
theorem dX4_matches_28 : decode cX4_matches 28 = .ok (.if_icmp .eq 6, 3) := by decide +kernel
theorem dX4_matches_31 : decode cX4_matches 31 = .ok (.iinc 1 1, 3) := by decide +kernel
theorem dX4_matches_34 : decode cX4_matches 34 = .ok (.iinc 2 1, 3) := by decide +kernel
theorem dX4_matches_37 : decode cX4_matches 37 = .ok (.goto (-29), 3) := by decide +kernel
theorem dX4_matches_40 : decode cX4_matches 40 = .ok (.iload_n 1, 1) := by decide +kernel
theorem dX4_matches_41 : decode cX4_matches 41 = .ok (.ireturn, 1) := by decide +kernel
theorem dX4_found_0 : decode cX4_found 0 = .ok (.aload_n 0, 1) := by decide +kernel
theorem dX4_found_1 : decode cX4_found 1 = .ok (.invokevirtual 162, 3) := by decide +kernel
theorem dX4_found_4 : decode cX4_found 4 = .ok (.iconst 0, 1) := by decide +kernel
theorem dX4_found_5 : decode cX4_found 5 = .ok (.istore_n 2, 1) := by decide +kernel
theorem dX4_found_6 : decode cX4_found 6 = .ok (.iload_n 2, 1) := by decide +kernel
theorem dX4_found_7 : decode cX4_found 7 = .ok (.aload_n 0, 1) := by decide +kernel
theorem dX4_found_8 : decode cX4_found 8 = .ok (.getfield 41, 3) := by decide +kernel
theorem dX4_found_11 : decode cX4_found 11 = .ok (.invokevirtual 126, 3) := by decide +kernel
theorem dX4_found_14 : decode cX4_found 14 = .ok (.if_icmp .ge 32, 3) := by decide +kernel
theorem dX4_found_17 : decode cX4_found 17 = .ok (.aload_n 0, 1) := by decide +kernel
theorem dX4_found_18 : decode cX4_found 18 = .ok (.getfield 41, 3) := by decide +kernel
theorem dX4_found_21 : decode cX4_found 21 = .ok (.iload_n 2, 1) := by decide +kernel
theorem dX4_found_22 : decode cX4_found 22 = .ok (.invokevirtual 95, 3) := by decide +kernel
theorem dX4_found_25 : decode cX4_found 25 = .ok (.iconst (-1), 1) := by decide +kernel
theorem dX4_found_26 : decode cX4_found 26 = .ok (.if_icmp .eq 14, 3) := by decide +kernel
theorem dX4_found_29 : decode cX4_found 29 = .ok (.aload_n 0, 1) := by decide +kernel
theorem dX4_found_30 : decode cX4_found 30 = .ok (.iload_n 2, 1) := by decide +kernel
theorem dX4_found_31 : decode cX4_found 31 = .ok (.invokevirtual 165, 3) := by decide +kernel
theorem dX4_found_34 : decode cX4_found 34 = .ok (.iload_n 1, 1) := by decide +kernel
theorem dX4_found_35 : decode cX4_found 35 = .ok (.if_icmp .ne 5, 3) := by decide +kernel
theorem dX4_found_38 : decode cX4_found 38 = .ok (.iload_n 2, 1) := by decide +kernel
theorem dX4_found_39 : decode cX4_found 39 = .ok (.ireturn, 1) := by decide +kernel
theorem dX4_found_40 : decode cX4_found 40 = .ok (.iinc 2 1, 3) := by decide +kernel
theorem dX4_found_43 : decode cX4_found 43 = .ok (.goto (-37), 3) := by decide +kernel
theorem dX4_found_46 : decode cX4_found 46 = .ok (.new 90, 3) := by decide +kernel
theorem dX4_found_49 : decode cX4_found 49 = .ok (.dup, 1) := by decide +kernel
theorem dX4_found_50 : decode cX4_found 50 = .ok (.ldc 168, 2) := by decide +kernel
theorem dX4_found_52 : decode cX4_found 52 = .ok (.invokespecial 94, 3) := by decide +kernel
theorem dX4_found_55 : decode cX4_found 55 = .ok (.athrow, 1) := by decide +kernel
theorem dX4_likeContour_0 : decode cX4_likeContour 0 = .ok (.iconst 0, 1) := by decide +kernel
theorem dX4_likeContour_1 : decode cX4_likeContour 1 = .ok (.istore_n 1, 1) := by decide +kernel
theorem dX4_likeContour_2 : decode cX4_likeContour 2 = .ok (.iconst 0, 1) := by decide +kernel
theorem dX4_likeContour_3 : decode cX4_likeContour 3 = .ok (.istore_n 2, 1) := by decide +kernel
theorem dX4_likeContour_4 : decode cX4_likeContour 4 = .ok (.iload_n 2, 1) := by decide +kernel
theorem dX4_likeContour_5 : decode cX4_likeContour 5 = .ok (.aload_n 0, 1) := by decide +kernel
theorem dX4_likeContour_6 : decode cX4_likeContour 6 = .ok (.getfield 51, 3) := by decide +kernel
theorem dX4_likeContour_9 : decode cX4_likeContour 9 = .ok (.if_icmp .ge 39, 3) := by decide +kernel
theorem dX4_likeContour_12 : decode cX4_likeContour 12 = .ok (.aload_n 0, 1) := by decide +kernel
theorem dX4_likeContour_13 : decode cX4_likeContour 13 = .ok (.iload_n 2, 1) := by decide +kernel
theorem dX4_likeContour_14 : decode cX4_likeContour 14 = .ok (.invokevirtual 115, 3) := by decide +kernel
theorem dX4_likeContour_17 : decode cX4_likeContour 17 = .ok (.astore_n 3, 1) := by decide +kernel
theorem dX4_likeContour_18 : decode cX4_likeContour 18 = .ok (.aload_n 3, 1) := by decide +kernel
theorem dX4_likeContour_19 : decode cX4_likeContour 19 = .ok (.ifnull 23, 3) := by decide +kernel
theorem dX4_likeContour_22 : decode cX4_likeContour 22 = .ok (.aload_n 3, 1) := by decide +kernel
theorem dX4_likeContour_23 : decode cX4_likeContour 23 = .ok (.getfield 77, 3) := by decide +kernel
theorem dX4_likeContour_26 : decode cX4_likeContour 26 = .ok (.aload_n 0, 1) := by decide +kernel
theorem dX4_likeContour_27 : decode cX4_likeContour 27 = .ok (.getfield 26, 3) := by decide +kernel
theorem dX4_likeContour_30 : decode cX4_likeContour 30 = .ok (.invokevirtual 170, 3) := by decide +kernel
theorem dX4_likeContour_33 : decode cX4_likeContour 33 = .ok (.ifCond .eq 9, 3) := by decide +kernel
theorem dX4_likeContour_36 : decode cX4_likeContour 36 = .ok (.iload_n 1, 1) := by decide +kernel
theorem dX4_likeContour_37 : decode cX4_likeContour 37 = .ok (.iconst 1, 1) := by decide +kernel
theorem dX4_likeContour_38 : decode cX4_likeContour 38 = .ok (.iload_n 2, 1) := by decide +kernel
theorem dX4_likeContour_39 : decode cX4_likeContour 39 = .ok (.ishl, 1) := by decide +kernel
theorem dX4_likeContour_40 : decode cX4_likeContour 40 = .ok (.ior, 1) := by decide +kernel
theorem dX4_likeContour_41 : decode cX4_likeContour 41 = .ok (.istore_n 1, 1) := by decide +kernel
theorem dX4_likeContour_42 : decode cX4_likeContour 42 = .ok (.iinc 2 1, 3) := by decide +kernel
theorem dX4_likeContour_45 : decode cX4_likeContour 45 = .ok (.goto (-41), 3) := by decide +kernel
theorem dX4_likeContour_48 : decode cX4_likeContour 48 = .ok (.iload_n 1, 1) := by decide +kernel
theorem dX4_likeContour_49 : decode cX4_likeContour 49 = .ok (.ireturn, 1) := by decide +kernel
theorem dX4_places_0 : decode cX4_places 0 = .ok (.aload_n 0, 1) := by decide +kernel
theorem dX4_places_1 : decode cX4_places 1 = .ok (.iload_n 1, 1) := by decide +kernel
theorem dX4_places_2 : decode cX4_places 2 = .ok (.invokevirtual 174, 3) := by decide +kernel
theorem dX4_places_5 : decode cX4_places 5 = .ok (.aload_n 0, 1) := by decide +kernel
theorem dX4_places_6 : decode cX4_places 6 = .ok (.iload_n 1, 1) := by decide +kernel
theorem dX4_places_7 : decode cX4_places 7 = .ok (.invokevirtual 177, 3) := by decide +kernel
theorem dX4_places_10 : decode cX4_places 10 = .ok (.aload_n 0, 1) := by decide +kernel
theorem dX4_places_11 : decode cX4_places 11 = .ok (.getfield 44, 3) := by decide +kernel
theorem dX4_places_14 : decode cX4_places 14 = .ok (.invokevirtual 126, 3) := by decide +kernel
theorem dX4_places_17 : decode cX4_places 17 = .ok (.ireturn, 1) := by decide +kernel
theorem dX4_place_0 : decode cX4_place 0 = .ok (.aload_n 0, 1) := by decide +kernel
theorem dX4_place_1 : decode cX4_place 1 = .ok (.iload_n 1, 1) := by decide +kernel
theorem dX4_place_2 : decode cX4_place 2 = .ok (.invokevirtual 174, 3) := by decide +kernel
theorem dX4_place_5 : decode cX4_place 5 = .ok (.aload_n 0, 1) := by decide +kernel
theorem dX4_place_6 : decode cX4_place 6 = .ok (.iload_n 1, 1) := by decide +kernel
theorem dX4_place_7 : decode cX4_place 7 = .ok (.invokevirtual 177, 3) := by decide +kernel
theorem dX4_place_10 : decode cX4_place 10 = .ok (.iload_n 2, 1) := by decide +kernel
theorem dX4_place_11 : decode cX4_place 11 = .ok (.ifCond .lt 14, 3) := by decide +kernel
theorem dX4_place_14 : decode cX4_place 14 = .ok (.iload_n 2, 1) := by decide +kernel
theorem dX4_place_15 : decode cX4_place 15 = .ok (.aload_n 0, 1) := by decide +kernel
theorem dX4_place_16 : decode cX4_place 16 = .ok (.getfield 44, 3) := by decide +kernel
theorem dX4_place_19 : decode cX4_place 19 = .ok (.invokevirtual 126, 3) := by decide +kernel
theorem dX4_place_22 : decode cX4_place 22 = .ok (.if_icmp .lt 13, 3) := by decide +kernel
theorem dX4_place_25 : decode cX4_place 25 = .ok (.new 90, 3) := by decide +kernel
theorem dX4_place_28 : decode cX4_place 28 = .ok (.dup, 1) := by decide +kernel
theorem dX4_place_29 : decode cX4_place 29 = .ok (.ldc 180, 2) := by decide +kernel
theorem dX4_place_31 : decode cX4_place 31 = .ok (.invokespecial 94, 3) := by decide +kernel
theorem dX4_place_34 : decode cX4_place 34 = .ok (.athrow, 1) := by decide +kernel
theorem dX4_place_35 : decode cX4_place 35 = .ok (.aload_n 0, 1) := by decide +kernel
theorem dX4_place_36 : decode cX4_place 36 = .ok (.getfield 44, 3) := by decide +kernel
theorem dX4_place_39 : decode cX4_place 39 = .ok (.iload_n 2, 1) := by decide +kernel
theorem dX4_place_40 : decode cX4_place 40 = .ok (.invokevirtual 95, 3) := by decide +kernel
theorem dX4_place_43 : decode cX4_place 43 = .ok (.ireturn, 1) := by decide +kernel
theorem dX4_link_0 : decode cX4_link 0 = .ok (.aload_n 0, 1) := by decide +kernel
theorem dX4_link_1 : decode cX4_link 1 = .ok (.iload_n 1, 1) := by decide +kernel
theorem dX4_link_2 : decode cX4_link 2 = .ok (.iload_n 2, 1) := by decide +kernel
theorem dX4_link_3 : decode cX4_link 3 = .ok (.invokevirtual 182, 3) := by decide +kernel
theorem dX4_link_6 : decode cX4_link 6 = .ok (.iload_n 1, 1) := by decide +kernel
theorem dX4_link_7 : decode cX4_link 7 = .ok (.iload_n 2, 1) := by decide +kernel
theorem dX4_link_8 : decode cX4_link 8 = .ok (.if_icmp .ne 13, 3) := by decide +kernel
theorem dX4_link_11 : decode cX4_link 11 = .ok (.new 185, 3) := by decide +kernel
theorem dX4_link_14 : decode cX4_link 14 = .ok (.dup, 1) := by decide +kernel
theorem dX4_link_15 : decode cX4_link 15 = .ok (.ldc 187, 2) := by decide +kernel
theorem dX4_link_17 : decode cX4_link 17 = .ok (.invokespecial 189, 3) := by decide +kernel
theorem dX4_link_20 : decode cX4_link 20 = .ok (.athrow, 1) := by decide +kernel
theorem dX4_link_21 : decode cX4_link 21 = .ok (.aload_n 0, 1) := by decide +kernel
theorem dX4_link_22 : decode cX4_link 22 = .ok (.getfield 32, 3) := by decide +kernel
theorem dX4_link_25 : decode cX4_link 25 = .ok (.iload_n 1, 1) := by decide +kernel
theorem dX4_link_26 : decode cX4_link 26 = .ok (.iload_n 2, 1) := by decide +kernel
theorem dX4_link_27 : decode cX4_link 27 = .ok (.invokevirtual 190, 3) := by decide +kernel
theorem dX4_link_30 : decode cX4_link 30 = .ok (.ifCond .eq 13, 3) := by decide +kernel
theorem dX4_link_33 : decode cX4_link 33 = .ok (.new 59, 3) := by decide +kernel
theorem dX4_link_36 : decode cX4_link 36 = .ok (.dup, 1) := by decide +kernel
theorem dX4_link_37 : decode cX4_link 37 = .ok (.ldc 194, 2) := by decide +kernel
theorem dX4_link_39 : decode cX4_link 39 = .ok (.invokespecial 63, 3) := by decide +kernel
theorem dX4_link_42 : decode cX4_link 42 = .ok (.athrow, 1) := by decide +kernel
theorem dX4_link_43 : decode cX4_link 43 = .ok (.aload_n 0, 1) := by decide +kernel
theorem dX4_link_44 : decode cX4_link 44 = .ok (.getfield 32, 3) := by decide +kernel
theorem dX4_link_47 : decode cX4_link 47 = .ok (.iload_n 1, 1) := by decide +kernel
theorem dX4_link_48 : decode cX4_link 48 = .ok (.iload_n 2, 1) := by decide +kernel
theorem dX4_link_49 : decode cX4_link 49 = .ok (.invokevirtual 196, 3) := by decide +kernel
theorem dX4_link_52 : decode cX4_link 52 = .ok (.aload_n 0, 1) := by decide +kernel
theorem dX4_link_53 : decode cX4_link 53 = .ok (.getfield 32, 3) := by decide +kernel
theorem dX4_link_56 : decode cX4_link 56 = .ok (.invokevirtual 199, 3) := by decide +kernel
theorem dX4_link_59 : decode cX4_link 59 = .ok (.ireturn, 1) := by decide +kernel
theorem dX4_cut_0 : decode cX4_cut 0 = .ok (.aload_n 0, 1) := by decide +kernel
theorem dX4_cut_1 : decode cX4_cut 1 = .ok (.iload_n 1, 1) := by decide +kernel
theorem dX4_cut_2 : decode cX4_cut 2 = .ok (.iload_n 2, 1) := by decide +kernel
theorem dX4_cut_3 : decode cX4_cut 3 = .ok (.invokevirtual 182, 3) := by decide +kernel
theorem dX4_cut_6 : decode cX4_cut 6 = .ok (.aload_n 0, 1) := by decide +kernel
theorem dX4_cut_7 : decode cX4_cut 7 = .ok (.getfield 32, 3) := by decide +kernel
theorem dX4_cut_10 : decode cX4_cut 10 = .ok (.iload_n 1, 1) := by decide +kernel
theorem dX4_cut_11 : decode cX4_cut 11 = .ok (.iload_n 2, 1) := by decide +kernel
theorem dX4_cut_12 : decode cX4_cut 12 = .ok (.invokevirtual 190, 3) := by decide +kernel
theorem dX4_cut_15 : decode cX4_cut 15 = .ok (.ifCond .ne 13, 3) := by decide +kernel
theorem dX4_cut_18 : decode cX4_cut 18 = .ok (.new 59, 3) := by decide +kernel
theorem dX4_cut_21 : decode cX4_cut 21 = .ok (.dup, 1) := by decide +kernel
theorem dX4_cut_22 : decode cX4_cut 22 = .ok (.ldc 202, 2) := by decide +kernel
theorem dX4_cut_24 : decode cX4_cut 24 = .ok (.invokespecial 63, 3) := by decide +kernel
theorem dX4_cut_27 : decode cX4_cut 27 = .ok (.athrow, 1) := by decide +kernel
theorem dX4_cut_28 : decode cX4_cut 28 = .ok (.aload_n 0, 1) := by decide +kernel
theorem dX4_cut_29 : decode cX4_cut 29 = .ok (.getfield 32, 3) := by decide +kernel
theorem dX4_cut_32 : decode cX4_cut 32 = .ok (.iload_n 1, 1) := by decide +kernel
theorem dX4_cut_33 : decode cX4_cut 33 = .ok (.iload_n 2, 1) := by decide +kernel
theorem dX4_cut_34 : decode cX4_cut 34 = .ok (.invokevirtual 196, 3) := by decide +kernel
theorem dX4_cut_37 : decode cX4_cut 37 = .ok (.aload_n 0, 1) := by decide +kernel
theorem dX4_cut_38 : decode cX4_cut 38 = .ok (.getfield 32, 3) := by decide +kernel
theorem dX4_cut_41 : decode cX4_cut 41 = .ok (.invokevirtual 199, 3) := by decide +kernel
theorem dX4_cut_44 : decode cX4_cut 44 = .ok (.ireturn, 1) := by decide +kernel
theorem dX4_family_0 : decode cX4_family 0 = .ok (.aload_n 0, 1) := by decide +kernel
theorem dX4_family_1 : decode cX4_family 1 = .ok (.iload_n 1, 1) := by decide +kernel
theorem dX4_family_2 : decode cX4_family 2 = .ok (.invokevirtual 118, 3) := by decide +kernel
theorem dX4_family_5 : decode cX4_family 5 = .ok (.pop, 1) := by decide +kernel
theorem dX4_family_6 : decode cX4_family 6 = .ok (.aload_n 0, 1) := by decide +kernel
theorem dX4_family_7 : decode cX4_family 7 = .ok (.getfield 32, 3) := by decide +kernel
theorem dX4_family_10 : decode cX4_family 10 = .ok (.iload_n 1, 1) := by decide +kernel
theorem dX4_family_11 : decode cX4_family 11 = .ok (.invokevirtual 204, 3) := by decide +kernel
theorem dX4_family_14 : decode cX4_family 14 = .ok (.ireturn, 1) := by decide +kernel
theorem dX4_families_0 : decode cX4_families 0 = .ok (.aload_n 0, 1) := by decide +kernel
theorem dX4_families_1 : decode cX4_families 1 = .ok (.getfield 32, 3) := by decide +kernel
theorem dX4_families_4 : decode cX4_families 4 = .ok (.invokevirtual 199, 3) := by decide +kernel
theorem dX4_families_7 : decode cX4_families 7 = .ok (.ireturn, 1) := by decide +kernel
theorem dX4_isWithin_0 : decode cX4_isWithin 0 = .ok (.iload_n 0, 1) := by decide +kernel
theorem dX4_isWithin_1 : decode cX4_isWithin 1 = .ok (.iload_n 1, 1) := by decide +kernel
theorem dX4_isWithin_2 : decode cX4_isWithin 2 = .ok (.if_icmp .lt 12, 3) := by decide +kernel
theorem dX4_isWithin_5 : decode cX4_isWithin 5 = .ok (.iload_n 0, 1) := by decide +kernel
theorem dX4_isWithin_6 : decode cX4_isWithin 6 = .ok (.iload_n 2, 1) := by decide +kernel
theorem dX4_isWithin_7 : decode cX4_isWithin 7 = .ok (.if_icmp .gt 7, 3) := by decide +kernel
theorem dX4_isWithin_10 : decode cX4_isWithin 10 = .ok (.iconst 1, 1) := by decide +kernel
theorem dX4_isWithin_11 : decode cX4_isWithin 11 = .ok (.goto 4, 3) := by decide +kernel
theorem dX4_isWithin_14 : decode cX4_isWithin 14 = .ok (.iconst 0, 1) := by decide +kernel
theorem dX4_isWithin_15 : decode cX4_isWithin 15 = .ok (.ireturn, 1) := by decide +kernel
theorem dX4_refuseUnlessWithin_0 : decode cX4_refuseUnlessWithin 0 = .ok (.iload_n 0, 1) := by decide +kernel
theorem dX4_refuseUnlessWithin_1 : decode cX4_refuseUnlessWithin 1 = .ok (.iload_n 1, 1) := by decide +kernel
theorem dX4_refuseUnlessWithin_2 : decode cX4_refuseUnlessWithin 2 = .ok (.iload_n 2, 1) := by decide +kernel
theorem dX4_refuseUnlessWithin_3 : decode cX4_refuseUnlessWithin 3 = .ok (.invokestatic 55, 3) := by decide +kernel
theorem dX4_refuseUnlessWithin_6 : decode cX4_refuseUnlessWithin 6 = .ok (.ifCond .ne 13, 3) := by decide +kernel
theorem dX4_refuseUnlessWithin_9 : decode cX4_refuseUnlessWithin 9 = .ok (.new 185, 3) := by decide +kernel
theorem dX4_refuseUnlessWithin_12 : decode cX4_refuseUnlessWithin 12 = .ok (.dup, 1) := by decide +kernel
theorem dX4_refuseUnlessWithin_13 : decode cX4_refuseUnlessWithin 13 = .ok (.ldc 207, 2) := by decide +kernel
theorem dX4_refuseUnlessWithin_15 : decode cX4_refuseUnlessWithin 15 = .ok (.invokespecial 189, 3) := by decide +kernel
theorem dX4_refuseUnlessWithin_18 : decode cX4_refuseUnlessWithin 18 = .ok (.athrow, 1) := by decide +kernel
theorem dX4_refuseUnlessWithin_19 : decode cX4_refuseUnlessWithin 19 = .ok (.return_, 1) := by decide +kernel
theorem dX4_refuseUnlessNote_0 : decode cX4_refuseUnlessNote 0 = .ok (.iload_n 0, 1) := by decide +kernel
theorem dX4_refuseUnlessNote_1 : decode cX4_refuseUnlessNote 1 = .ok (.iconst 0, 1) := by decide +kernel
theorem dX4_refuseUnlessNote_2 : decode cX4_refuseUnlessNote 2 = .ok (.bipush 60, 2) := by decide +kernel
theorem dX4_refuseUnlessNote_4 : decode cX4_refuseUnlessNote 4 = .ok (.invokestatic 105, 3) := by decide +kernel
theorem dX4_refuseUnlessNote_7 : decode cX4_refuseUnlessNote 7 = .ok (.iload_n 1, 1) := by decide +kernel
theorem dX4_refuseUnlessNote_8 : decode cX4_refuseUnlessNote 8 = .ok (.iconst 1, 1) := by decide +kernel
theorem dX4_refuseUnlessNote_9 : decode cX4_refuseUnlessNote 9 = .ok (.bipush 8, 2) := by decide +kernel
theorem dX4_refuseUnlessNote_11 : decode cX4_refuseUnlessNote 11 = .ok (.invokestatic 105, 3) := by decide +kernel
theorem dX4_refuseUnlessNote_14 : decode cX4_refuseUnlessNote 14 = .ok (.return_, 1) := by decide +kernel
theorem dX4_refuseUnlessRunOfHum_0 : decode cX4_refuseUnlessRunOfHum 0 = .ok (.iload_n 1, 1) := by decide +kernel
theorem dX4_refuseUnlessRunOfHum_1 : decode cX4_refuseUnlessRunOfHum 1 = .ok (.iconst 1, 1) := by decide +kernel
theorem dX4_refuseUnlessRunOfHum_2 : decode cX4_refuseUnlessRunOfHum 2 = .ok (.iconst 4, 1) := by decide +kernel
theorem dX4_refuseUnlessRunOfHum_3 : decode cX4_refuseUnlessRunOfHum 3 = .ok (.invokestatic 105, 3) := by decide +kernel
theorem dX4_refuseUnlessRunOfHum_6 : decode cX4_refuseUnlessRunOfHum 6 = .ok (.iload_n 1, 1) := by decide +kernel
theorem dX4_refuseUnlessRunOfHum_7 : decode cX4_refuseUnlessRunOfHum 7 = .ok (.aload_n 0, 1) := by decide +kernel
theorem dX4_refuseUnlessRunOfHum_8 : decode cX4_refuseUnlessRunOfHum 8 = .ok (.getfield 26, 3) := by decide +kernel
theorem dX4_refuseUnlessRunOfHum_11 : decode cX4_refuseUnlessRunOfHum 11 = .ok (.invokevirtual 126, 3) := by decide +kernel
theorem dX4_refuseUnlessRunOfHum_14 : decode cX4_refuseUnlessRunOfHum 14 = .ok (.iconst 1, 1) := by decide +kernel
theorem dX4_refuseUnlessRunOfHum_15 : decode cX4_refuseUnlessRunOfHum 15 = .ok (.isub, 1) := by decide +kernel
theorem dX4_refuseUnlessRunOfHum_16 : decode cX4_refuseUnlessRunOfHum 16 = .ok (.if_icmp .le 13, 3) := by decide +kernel
theorem dX4_refuseUnlessRunOfHum_19 : decode cX4_refuseUnlessRunOfHum 19 = .ok (.new 59, 3) := by decide +kernel
theorem dX4_refuseUnlessRunOfHum_22 : decode cX4_refuseUnlessRunOfHum 22 = .ok (.dup, 1) := by decide +kernel
theorem dX4_refuseUnlessRunOfHum_23 : decode cX4_refuseUnlessRunOfHum 23 = .ok (.ldc 209, 2) := by decide +kernel
theorem dX4_refuseUnlessRunOfHum_25 : decode cX4_refuseUnlessRunOfHum 25 = .ok (.invokespecial 63, 3) := by decide +kernel
theorem dX4_refuseUnlessRunOfHum_28 : decode cX4_refuseUnlessRunOfHum 28 = .ok (.athrow, 1) := by decide +kernel
theorem dX4_refuseUnlessRunOfHum_29 : decode cX4_refuseUnlessRunOfHum 29 = .ok (.return_, 1) := by decide +kernel
theorem dX4_refuseUnlessEntered_0 : decode cX4_refuseUnlessEntered 0 = .ok (.aload_n 0, 1) := by decide +kernel
theorem dX4_refuseUnlessEntered_1 : decode cX4_refuseUnlessEntered 1 = .ok (.iload_n 1, 1) := by decide +kernel
theorem dX4_refuseUnlessEntered_2 : decode cX4_refuseUnlessEntered 2 = .ok (.invokevirtual 118, 3) := by decide +kernel
theorem dX4_refuseUnlessEntered_5 : decode cX4_refuseUnlessEntered 5 = .ok (.pop, 1) := by decide +kernel
theorem dX4_refuseUnlessEntered_6 : decode cX4_refuseUnlessEntered 6 = .ok (.aload_n 0, 1) := by decide +kernel
theorem dX4_refuseUnlessEntered_7 : decode cX4_refuseUnlessEntered 7 = .ok (.iload_n 2, 1) := by decide +kernel
theorem dX4_refuseUnlessEntered_8 : decode cX4_refuseUnlessEntered 8 = .ok (.invokevirtual 118, 3) := by decide +kernel
theorem dX4_refuseUnlessEntered_11 : decode cX4_refuseUnlessEntered 11 = .ok (.pop, 1) := by decide +kernel
theorem dX4_refuseUnlessEntered_12 : decode cX4_refuseUnlessEntered 12 = .ok (.return_, 1) := by decide +kernel
theorem dX4_enteredOrNull_0 : decode cX4_enteredOrNull 0 = .ok (.iload_n 1, 1) := by decide +kernel
theorem dX4_enteredOrNull_1 : decode cX4_enteredOrNull 1 = .ok (.ifCond .lt 29, 3) := by decide +kernel
theorem dX4_enteredOrNull_4 : decode cX4_enteredOrNull 4 = .ok (.iload_n 1, 1) := by decide +kernel
theorem dX4_enteredOrNull_5 : decode cX4_enteredOrNull 5 = .ok (.aload_n 0, 1) := by decide +kernel
theorem dX4_enteredOrNull_6 : decode cX4_enteredOrNull 6 = .ok (.getfield 51, 3) := by decide +kernel
theorem dX4_enteredOrNull_9 : decode cX4_enteredOrNull 9 = .ok (.if_icmp .ge 21, 3) := by decide +kernel
theorem dX4_enteredOrNull_12 : decode cX4_enteredOrNull 12 = .ok (.iload_n 1, 1) := by decide +kernel
theorem dX4_enteredOrNull_13 : decode cX4_enteredOrNull 13 = .ok (.aload_n 0, 1) := by decide +kernel
theorem dX4_enteredOrNull_14 : decode cX4_enteredOrNull 14 = .ok (.getfield 11, 3) := by decide +kernel
theorem dX4_enteredOrNull_17 : decode cX4_enteredOrNull 17 = .ok (.arraylength, 1) := by decide +kernel
theorem dX4_enteredOrNull_18 : decode cX4_enteredOrNull 18 = .ok (.if_icmp .ge 12, 3) := by decide +kernel
theorem dX4_enteredOrNull_21 : decode cX4_enteredOrNull 21 = .ok (.aload_n 0, 1) := by decide +kernel
theorem dX4_enteredOrNull_22 : decode cX4_enteredOrNull 22 = .ok (.getfield 11, 3) := by decide +kernel
theorem dX4_enteredOrNull_25 : decode cX4_enteredOrNull 25 = .ok (.iload_n 1, 1) := by decide +kernel
theorem dX4_enteredOrNull_26 : decode cX4_enteredOrNull 26 = .ok (.aaload, 1) := by decide +kernel
theorem dX4_enteredOrNull_27 : decode cX4_enteredOrNull 27 = .ok (.goto 4, 3) := by decide +kernel
theorem dX4_enteredOrNull_30 : decode cX4_enteredOrNull 30 = .ok (.aconst_null, 1) := by decide +kernel
theorem dX4_enteredOrNull_31 : decode cX4_enteredOrNull 31 = .ok (.areturn, 1) := by decide +kernel
theorem dX4_knownOrNull_0 : decode cX4_knownOrNull 0 = .ok (.aload_n 0, 1) := by decide +kernel
theorem dX4_knownOrNull_1 : decode cX4_knownOrNull 1 = .ok (.iload_n 1, 1) := by decide +kernel
theorem dX4_knownOrNull_2 : decode cX4_knownOrNull 2 = .ok (.invokevirtual 211, 3) := by decide +kernel
theorem dX4_knownOrNull_5 : decode cX4_knownOrNull 5 = .ok (.astore_n 2, 1) := by decide +kernel
theorem dX4_knownOrNull_6 : decode cX4_knownOrNull 6 = .ok (.aload_n 2, 1) := by decide +kernel
theorem dX4_knownOrNull_7 : decode cX4_knownOrNull 7 = .ok (.ifnull 10, 3) := by decide +kernel
theorem dX4_knownOrNull_10 : decode cX4_knownOrNull 10 = .ok (.aload_n 2, 1) := by decide +kernel
theorem dX4_knownOrNull_11 : decode cX4_knownOrNull 11 = .ok (.getfield 111, 3) := by decide +kernel
theorem dX4_knownOrNull_14 : decode cX4_knownOrNull 14 = .ok (.ifCond .eq 7, 3) := by decide +kernel
theorem dX4_knownOrNull_17 : decode cX4_knownOrNull 17 = .ok (.aconst_null, 1) := by decide +kernel
theorem dX4_knownOrNull_18 : decode cX4_knownOrNull 18 = .ok (.goto 4, 3) := by decide +kernel
theorem dX4_knownOrNull_21 : decode cX4_knownOrNull 21 = .ok (.aload_n 2, 1) := by decide +kernel
theorem dX4_knownOrNull_22 : decode cX4_knownOrNull 22 = .ok (.areturn, 1) := by decide +kernel
theorem dX4_enteredOrThrow_0 : decode cX4_enteredOrThrow 0 = .ok (.aload_n 0, 1) := by decide +kernel
theorem dX4_enteredOrThrow_1 : decode cX4_enteredOrThrow 1 = .ok (.iload_n 1, 1) := by decide +kernel
theorem dX4_enteredOrThrow_2 : decode cX4_enteredOrThrow 2 = .ok (.invokevirtual 211, 3) := by decide +kernel
theorem dX4_enteredOrThrow_5 : decode cX4_enteredOrThrow 5 = .ok (.astore_n 2, 1) := by decide +kernel
theorem dX4_enteredOrThrow_6 : decode cX4_enteredOrThrow 6 = .ok (.aload_n 2, 1) := by decide +kernel
theorem dX4_enteredOrThrow_7 : decode cX4_enteredOrThrow 7 = .ok (.ifnonnull 13, 3) := by decide +kernel
theorem dX4_enteredOrThrow_10 : decode cX4_enteredOrThrow 10 = .ok (.new 90, 3) := by decide +kernel
theorem dX4_enteredOrThrow_13 : decode cX4_enteredOrThrow 13 = .ok (.dup, 1) := by decide +kernel
theorem dX4_enteredOrThrow_14 : decode cX4_enteredOrThrow 14 = .ok (.ldc 214, 2) := by decide +kernel
theorem dX4_enteredOrThrow_16 : decode cX4_enteredOrThrow 16 = .ok (.invokespecial 94, 3) := by decide +kernel
theorem dX4_enteredOrThrow_19 : decode cX4_enteredOrThrow 19 = .ok (.athrow, 1) := by decide +kernel
theorem dX4_enteredOrThrow_20 : decode cX4_enteredOrThrow 20 = .ok (.aload_n 2, 1) := by decide +kernel
theorem dX4_enteredOrThrow_21 : decode cX4_enteredOrThrow 21 = .ok (.areturn, 1) := by decide +kernel
theorem dX4_knownOrThrow_0 : decode cX4_knownOrThrow 0 = .ok (.aload_n 0, 1) := by decide +kernel
theorem dX4_knownOrThrow_1 : decode cX4_knownOrThrow 1 = .ok (.iload_n 1, 1) := by decide +kernel
theorem dX4_knownOrThrow_2 : decode cX4_knownOrThrow 2 = .ok (.invokevirtual 115, 3) := by decide +kernel
theorem dX4_knownOrThrow_5 : decode cX4_knownOrThrow 5 = .ok (.astore_n 2, 1) := by decide +kernel
theorem dX4_knownOrThrow_6 : decode cX4_knownOrThrow 6 = .ok (.aload_n 2, 1) := by decide +kernel
theorem dX4_knownOrThrow_7 : decode cX4_knownOrThrow 7 = .ok (.ifnonnull 13, 3) := by decide +kernel
theorem dX4_knownOrThrow_10 : decode cX4_knownOrThrow 10 = .ok (.new 90, 3) := by decide +kernel
theorem dX4_knownOrThrow_13 : decode cX4_knownOrThrow 13 = .ok (.dup, 1) := by decide +kernel
theorem dX4_knownOrThrow_14 : decode cX4_knownOrThrow 14 = .ok (.ldc 216, 2) := by decide +kernel
theorem dX4_knownOrThrow_16 : decode cX4_knownOrThrow 16 = .ok (.invokespecial 94, 3) := by decide +kernel
theorem dX4_knownOrThrow_19 : decode cX4_knownOrThrow 19 = .ok (.athrow, 1) := by decide +kernel
theorem dX4_knownOrThrow_20 : decode cX4_knownOrThrow 20 = .ok (.aload_n 2, 1) := by decide +kernel
theorem dX4_knownOrThrow_21 : decode cX4_knownOrThrow 21 = .ok (.areturn, 1) := by decide +kernel
theorem dX4_priceTunes_0 : decode cX4_priceTunes 0 = .ok (.aload_n 0, 1) := by decide +kernel
theorem dX4_priceTunes_1 : decode cX4_priceTunes 1 = .ok (.getfield 41, 3) := by decide +kernel
theorem dX4_priceTunes_4 : decode cX4_priceTunes 4 = .ok (.invokevirtual 141, 3) := by decide +kernel
theorem dX4_priceTunes_7 : decode cX4_priceTunes 7 = .ok (.iconst 0, 1) := by decide +kernel
theorem dX4_priceTunes_8 : decode cX4_priceTunes 8 = .ok (.istore_n 1, 1) := by decide +kernel
theorem dX4_priceTunes_9 : decode cX4_priceTunes 9 = .ok (.iload_n 1, 1) := by decide +kernel
theorem dX4_priceTunes_10 : decode cX4_priceTunes 10 = .ok (.aload_n 0, 1) := by decide +kernel
theorem dX4_priceTunes_11 : decode cX4_priceTunes 11 = .ok (.getfield 51, 3) := by decide +kernel
theorem dX4_priceTunes_14 : decode cX4_priceTunes 14 = .ok (.if_icmp .ge 38, 3) := by decide +kernel
theorem dX4_priceTunes_17 : decode cX4_priceTunes 17 = .ok (.aload_n 0, 1) := by decide +kernel
theorem dX4_priceTunes_18 : decode cX4_priceTunes 18 = .ok (.iload_n 1, 1) := by decide +kernel
theorem dX4_priceTunes_19 : decode cX4_priceTunes 19 = .ok (.invokevirtual 115, 3) := by decide +kernel
theorem dX4_priceTunes_22 : decode cX4_priceTunes 22 = .ok (.astore_n 2, 1) := by decide +kernel
theorem dX4_priceTunes_23 : decode cX4_priceTunes 23 = .ok (.aload_n 0, 1) := by decide +kernel
theorem dX4_priceTunes_24 : decode cX4_priceTunes 24 = .ok (.getfield 41, 3) := by decide +kernel
theorem dX4_priceTunes_27 : decode cX4_priceTunes 27 = .ok (.aload_n 2, 1) := by decide +kernel
theorem dX4_priceTunes_28 : decode cX4_priceTunes 28 = .ok (.ifnonnull 7, 3) := by decide +kernel
theorem dX4_priceTunes_31 : decode cX4_priceTunes 31 = .ok (.iconst (-1), 1) := by decide +kernel
theorem dX4_priceTunes_32 : decode cX4_priceTunes 32 = .ok (.goto 11, 3) := by decide +kernel
theorem dX4_priceTunes_35 : decode cX4_priceTunes 35 = .ok (.aload_n 0, 1) := by decide +kernel
theorem dX4_priceTunes_36 : decode cX4_priceTunes 36 = .ok (.getfield 18, 3) := by decide +kernel
theorem dX4_priceTunes_39 : decode cX4_priceTunes 39 = .ok (.aload_n 2, 1) := by decide +kernel
theorem dX4_priceTunes_40 : decode cX4_priceTunes 40 = .ok (.invokevirtual 153, 3) := by decide +kernel
theorem dX4_priceTunes_43 : decode cX4_priceTunes 43 = .ok (.invokevirtual 139, 3) := by decide +kernel
theorem dX4_priceTunes_46 : decode cX4_priceTunes 46 = .ok (.iinc 1 1, 3) := by decide +kernel
theorem dX4_priceTunes_49 : decode cX4_priceTunes 49 = .ok (.goto (-40), 3) := by decide +kernel
theorem dX4_priceTunes_52 : decode cX4_priceTunes 52 = .ok (.return_, 1) := by decide +kernel
theorem dX4_rankByPrice_0 : decode cX4_rankByPrice 0 = .ok (.aload_n 0, 1) := by decide +kernel
theorem dX4_rankByPrice_1 : decode cX4_rankByPrice 1 = .ok (.getfield 41, 3) := by decide +kernel
theorem dX4_rankByPrice_4 : decode cX4_rankByPrice 4 = .ok (.iload_n 1, 1) := by decide +kernel
theorem dX4_rankByPrice_5 : decode cX4_rankByPrice 5 = .ok (.invokevirtual 95, 3) := by decide +kernel
theorem dX4_rankByPrice_8 : decode cX4_rankByPrice 8 = .ok (.istore_n 2, 1) := by decide +kernel
theorem dX4_rankByPrice_9 : decode cX4_rankByPrice 9 = .ok (.iconst 0, 1) := by decide +kernel
theorem dX4_rankByPrice_10 : decode cX4_rankByPrice 10 = .ok (.istore_n 3, 1) := by decide +kernel
theorem dX4_rankByPrice_11 : decode cX4_rankByPrice 11 = .ok (.iconst 0, 1) := by decide +kernel
theorem dX4_rankByPrice_12 : decode cX4_rankByPrice 12 = .ok (.istore 4, 2) := by decide +kernel
theorem dX4_rankByPrice_14 : decode cX4_rankByPrice 14 = .ok (.iload 4, 2) := by decide +kernel
theorem dX4_rankByPrice_16 : decode cX4_rankByPrice 16 = .ok (.aload_n 0, 1) := by decide +kernel
theorem dX4_rankByPrice_17 : decode cX4_rankByPrice 17 = .ok (.getfield 41, 3) := by decide +kernel
theorem dX4_rankByPrice_20 : decode cX4_rankByPrice 20 = .ok (.invokevirtual 126, 3) := by decide +kernel
theorem dX4_rankByPrice_23 : decode cX4_rankByPrice 23 = .ok (.if_icmp .ge 59, 3) := by decide +kernel
theorem dX4_rankByPrice_26 : decode cX4_rankByPrice 26 = .ok (.aload_n 0, 1) := by decide +kernel
theorem dX4_rankByPrice_27 : decode cX4_rankByPrice 27 = .ok (.getfield 41, 3) := by decide +kernel
theorem dX4_rankByPrice_30 : decode cX4_rankByPrice 30 = .ok (.iload 4, 2) := by decide +kernel
theorem dX4_rankByPrice_32 : decode cX4_rankByPrice 32 = .ok (.invokevirtual 95, 3) := by decide +kernel
theorem dX4_rankByPrice_35 : decode cX4_rankByPrice 35 = .ok (.istore 5, 2) := by decide +kernel
theorem dX4_rankByPrice_37 : decode cX4_rankByPrice 37 = .ok (.iload 5, 2) := by decide +kernel
theorem dX4_rankByPrice_39 : decode cX4_rankByPrice 39 = .ok (.iload_n 2, 1) := by decide +kernel
theorem dX4_rankByPrice_40 : decode cX4_rankByPrice 40 = .ok (.if_icmp .lt 15, 3) := by decide +kernel
theorem dX4_rankByPrice_43 : decode cX4_rankByPrice 43 = .ok (.iload 5, 2) := by decide +kernel
theorem dX4_rankByPrice_45 : decode cX4_rankByPrice 45 = .ok (.iload_n 2, 1) := by decide +kernel
theorem dX4_rankByPrice_46 : decode cX4_rankByPrice 46 = .ok (.if_icmp .ne 13, 3) := by decide +kernel
theorem dX4_rankByPrice_49 : decode cX4_rankByPrice 49 = .ok (.iload 4, 2) := by decide +kernel
theorem dX4_rankByPrice_51 : decode cX4_rankByPrice 51 = .ok (.iload_n 1, 1) := by decide +kernel
theorem dX4_rankByPrice_52 : decode cX4_rankByPrice 52 = .ok (.if_icmp .ge 7, 3) := by decide +kernel
theorem dX4_rankByPrice_55 : decode cX4_rankByPrice 55 = .ok (.iconst 1, 1) := by decide +kernel
theorem dX4_rankByPrice_56 : decode cX4_rankByPrice 56 = .ok (.goto 4, 3) := by decide +kernel
theorem dX4_rankByPrice_59 : decode cX4_rankByPrice 59 = .ok (.iconst 0, 1) := by decide +kernel
theorem dX4_rankByPrice_60 : decode cX4_rankByPrice 60 = .ok (.istore 6, 2) := by decide +kernel
theorem dX4_rankByPrice_62 : decode cX4_rankByPrice 62 = .ok (.iload 5, 2) := by decide +kernel
theorem dX4_rankByPrice_64 : decode cX4_rankByPrice 64 = .ok (.iconst (-1), 1) := by decide +kernel
theorem dX4_rankByPrice_65 : decode cX4_rankByPrice 65 = .ok (.if_icmp .eq 11, 3) := by decide +kernel
theorem dX4_rankByPrice_68 : decode cX4_rankByPrice 68 = .ok (.iload 6, 2) := by decide +kernel
theorem dX4_rankByPrice_70 : decode cX4_rankByPrice 70 = .ok (.ifCond .eq 6, 3) := by decide +kernel
theorem dX4_rankByPrice_73 : decode cX4_rankByPrice 73 = .ok (.iinc 3 1, 3) := by decide +kernel
theorem dX4_rankByPrice_76 : decode cX4_rankByPrice 76 = .ok (.iinc 4 1, 3) := by decide +kernel
theorem dX4_rankByPrice_79 : decode cX4_rankByPrice 79 = .ok (.goto (-65), 3) := by decide +kernel
theorem dX4_rankByPrice_82 : decode cX4_rankByPrice 82 = .ok (.iload_n 3, 1) := by decide +kernel
theorem dX4_rankByPrice_83 : decode cX4_rankByPrice 83 = .ok (.ireturn, 1) := by decide +kernel
theorem dX4_collectPlaces_0 : decode cX4_collectPlaces 0 = .ok (.aload_n 0, 1) := by decide +kernel
theorem dX4_collectPlaces_1 : decode cX4_collectPlaces 1 = .ok (.getfield 44, 3) := by decide +kernel
theorem dX4_collectPlaces_4 : decode cX4_collectPlaces 4 = .ok (.invokevirtual 141, 3) := by decide +kernel
theorem dX4_collectPlaces_7 : decode cX4_collectPlaces 7 = .ok (.iconst 0, 1) := by decide +kernel
theorem dX4_collectPlaces_8 : decode cX4_collectPlaces 8 = .ok (.istore_n 2, 1) := by decide +kernel
theorem dX4_collectPlaces_9 : decode cX4_collectPlaces 9 = .ok (.iload_n 2, 1) := by decide +kernel
theorem dX4_collectPlaces_10 : decode cX4_collectPlaces 10 = .ok (.aload_n 0, 1) := by decide +kernel
theorem dX4_collectPlaces_11 : decode cX4_collectPlaces 11 = .ok (.getfield 51, 3) := by decide +kernel
theorem dX4_collectPlaces_14 : decode cX4_collectPlaces 14 = .ok (.if_icmp .ge 29, 3) := by decide +kernel
theorem dX4_collectPlaces_17 : decode cX4_collectPlaces 17 = .ok (.aload_n 0, 1) := by decide +kernel
theorem dX4_collectPlaces_18 : decode cX4_collectPlaces 18 = .ok (.iload_n 2, 1) := by decide +kernel
theorem dX4_collectPlaces_19 : decode cX4_collectPlaces 19 = .ok (.invokevirtual 115, 3) := by decide +kernel
theorem dX4_collectPlaces_22 : decode cX4_collectPlaces 22 = .ok (.astore_n 3, 1) := by decide +kernel
theorem dX4_collectPlaces_23 : decode cX4_collectPlaces 23 = .ok (.aload_n 3, 1) := by decide +kernel
theorem dX4_collectPlaces_24 : decode cX4_collectPlaces 24 = .ok (.ifnull 13, 3) := by decide +kernel
theorem dX4_collectPlaces_27 : decode cX4_collectPlaces 27 = .ok (.aload_n 0, 1) := by decide +kernel
theorem dX4_collectPlaces_28 : decode cX4_collectPlaces 28 = .ok (.iload_n 2, 1) := by decide +kernel
theorem dX4_collectPlaces_29 : decode cX4_collectPlaces 29 = .ok (.aload_n 3, 1) := by decide +kernel
theorem dX4_collectPlaces_30 : decode cX4_collectPlaces 30 = .ok (.getfield 77, 3) := by decide +kernel
theorem dX4_collectPlaces_33 : decode cX4_collectPlaces 33 = .ok (.iload_n 1, 1) := by decide +kernel
theorem dX4_collectPlaces_34 : decode cX4_collectPlaces 34 = .ok (.invokevirtual 218, 3) := by decide +kernel
theorem dX4_collectPlaces_37 : decode cX4_collectPlaces 37 = .ok (.iinc 2 1, 3) := by decide +kernel
theorem dX4_collectPlaces_40 : decode cX4_collectPlaces 40 = .ok (.goto (-31), 3) := by decide +kernel
theorem dX4_collectPlaces_43 : decode cX4_collectPlaces 43 = .ok (.return_, 1) := by decide +kernel
theorem dX4_collectPlacesOf_0 : decode cX4_collectPlacesOf 0 = .ok (.aload_n 0, 1) := by decide +kernel
theorem dX4_collectPlacesOf_1 : decode cX4_collectPlacesOf 1 = .ok (.getfield 26, 3) := by decide +kernel
theorem dX4_collectPlacesOf_4 : decode cX4_collectPlacesOf 4 = .ok (.invokevirtual 126, 3) := by decide +kernel
theorem dX4_collectPlacesOf_7 : decode cX4_collectPlacesOf 7 = .ok (.iconst 1, 1) := by decide +kernel
theorem dX4_collectPlacesOf_8 : decode cX4_collectPlacesOf 8 = .ok (.isub, 1) := by decide +kernel
theorem dX4_collectPlacesOf_9 : decode cX4_collectPlacesOf 9 = .ok (.iload_n 3, 1) := by decide +kernel
theorem dX4_collectPlacesOf_10 : decode cX4_collectPlacesOf 10 = .ok (.isub, 1) := by decide +kernel
theorem dX4_collectPlacesOf_11 : decode cX4_collectPlacesOf 11 = .ok (.istore 4, 2) := by decide +kernel
theorem dX4_collectPlacesOf_13 : decode cX4_collectPlacesOf 13 = .ok (.iconst 0, 1) := by decide +kernel
theorem dX4_collectPlacesOf_14 : decode cX4_collectPlacesOf 14 = .ok (.istore 5, 2) := by decide +kernel
theorem dX4_collectPlacesOf_16 : decode cX4_collectPlacesOf 16 = .ok (.iload 5, 2) := by decide +kernel
theorem dX4_collectPlacesOf_18 : decode cX4_collectPlacesOf 18 = .ok (.aload_n 2, 1) := by decide +kernel
theorem dX4_collectPlacesOf_19 : decode cX4_collectPlacesOf 19 = .ok (.invokevirtual 126, 3) := by decide +kernel
theorem dX4_collectPlacesOf_22 : decode cX4_collectPlacesOf 22 = .ok (.if_icmp .ge 39, 3) := by decide +kernel
theorem dX4_collectPlacesOf_25 : decode cX4_collectPlacesOf 25 = .ok (.aload_n 2, 1) := by decide +kernel
theorem dX4_collectPlacesOf_26 : decode cX4_collectPlacesOf 26 = .ok (.iload 5, 2) := by decide +kernel
theorem dX4_collectPlacesOf_28 : decode cX4_collectPlacesOf 28 = .ok (.aload_n 0, 1) := by decide +kernel
theorem dX4_collectPlacesOf_29 : decode cX4_collectPlacesOf 29 = .ok (.getfield 26, 3) := by decide +kernel
theorem dX4_collectPlacesOf_32 : decode cX4_collectPlacesOf 32 = .ok (.iload 4, 2) := by decide +kernel
theorem dX4_collectPlacesOf_34 : decode cX4_collectPlacesOf 34 = .ok (.invokevirtual 127, 3) := by decide +kernel
theorem dX4_collectPlacesOf_37 : decode cX4_collectPlacesOf 37 = .ok (.iload_n 3, 1) := by decide +kernel
theorem dX4_collectPlacesOf_38 : decode cX4_collectPlacesOf 38 = .ok (.if_icmp .ne 17, 3) := by decide +kernel
theorem dX4_collectPlacesOf_41 : decode cX4_collectPlacesOf 41 = .ok (.aload_n 0, 1) := by decide +kernel
theorem dX4_collectPlacesOf_42 : decode cX4_collectPlacesOf 42 = .ok (.getfield 44, 3) := by decide +kernel
theorem dX4_collectPlacesOf_45 : decode cX4_collectPlacesOf 45 = .ok (.bipush 100, 2) := by decide +kernel
theorem dX4_collectPlacesOf_47 : decode cX4_collectPlacesOf 47 = .ok (.iload_n 1, 1) := by decide +kernel
theorem dX4_collectPlacesOf_48 : decode cX4_collectPlacesOf 48 = .ok (.imul, 1) := by decide +kernel
theorem dX4_collectPlacesOf_49 : decode cX4_collectPlacesOf 49 = .ok (.iload 5, 2) := by decide +kernel
theorem dX4_collectPlacesOf_51 : decode cX4_collectPlacesOf 51 = .ok (.iadd, 1) := by decide +kernel
theorem dX4_collectPlacesOf_52 : decode cX4_collectPlacesOf 52 = .ok (.invokevirtual 139, 3) := by decide +kernel
theorem dX4_collectPlacesOf_55 : decode cX4_collectPlacesOf 55 = .ok (.iinc 5 1, 3) := by decide +kernel
theorem dX4_collectPlacesOf_58 : decode cX4_collectPlacesOf 58 = .ok (.goto (-42), 3) := by decide +kernel
theorem dX4_collectPlacesOf_61 : decode cX4_collectPlacesOf 61 = .ok (.return_, 1) := by decide +kernel
theorem dX5_init_0 : decode cX5_init 0 = .ok (.aload_n 0, 1) := by decide +kernel
theorem dX5_init_1 : decode cX5_init 1 = .ok (.invokespecial 1, 3) := by decide +kernel
theorem dX5_init_4 : decode cX5_init 4 = .ok (.aload_n 0, 1) := by decide +kernel
theorem dX5_init_5 : decode cX5_init 5 = .ok (.sipush 384, 3) := by decide +kernel
theorem dX5_init_8 : decode cX5_init 8 = .ok (.newarray .int, 2) := by decide +kernel
theorem dX5_init_10 : decode cX5_init 10 = .ok (.putfield 7, 3) := by decide +kernel
theorem dX5_init_13 : decode cX5_init 13 = .ok (.aload_n 0, 1) := by decide +kernel
theorem dX5_init_14 : decode cX5_init 14 = .ok (.sipush 384, 3) := by decide +kernel
theorem dX5_init_17 : decode cX5_init 17 = .ok (.newarray .int, 2) := by decide +kernel
theorem dX5_init_19 : decode cX5_init 19 = .ok (.putfield 13, 3) := by decide +kernel
theorem dX5_init_22 : decode cX5_init 22 = .ok (.aload_n 0, 1) := by decide +kernel
theorem dX5_init_23 : decode cX5_init 23 = .ok (.bipush 16, 2) := by decide +kernel
theorem dX5_init_25 : decode cX5_init 25 = .ok (.newarray .int, 2) := by decide +kernel
theorem dX5_init_27 : decode cX5_init 27 = .ok (.putfield 16, 3) := by decide +kernel
theorem dX5_init_30 : decode cX5_init 30 = .ok (.aload_n 0, 1) := by decide +kernel
theorem dX5_init_31 : decode cX5_init 31 = .ok (.bipush 16, 2) := by decide +kernel
theorem dX5_init_33 : decode cX5_init 33 = .ok (.newarray .boolean, 2) := by decide +kernel
theorem dX5_init_35 : decode cX5_init 35 = .ok (.putfield 19, 3) := by decide +kernel
theorem dX5_init_38 : decode cX5_init 38 = .ok (.aload_n 0, 1) := by decide +kernel
theorem dX5_init_39 : decode cX5_init 39 = .ok (.bipush 12, 2) := by decide +kernel
theorem dX5_init_41 : decode cX5_init 41 = .ok (.newarray .int, 2) := by decide +kernel
theorem dX5_init_43 : decode cX5_init 43 = .ok (.putfield 23, 3) := by decide +kernel
theorem dX5_init_46 : decode cX5_init 46 = .ok (.aload_n 0, 1) := by decide +kernel
theorem dX5_init_47 : decode cX5_init 47 = .ok (.iconst 2, 1) := by decide +kernel
theorem dX5_init_48 : decode cX5_init 48 = .ok (.putfield 26, 3) := by decide +kernel
theorem dX5_init_51 : decode cX5_init 51 = .ok (.aload_n 0, 1) := by decide +kernel
theorem dX5_init_52 : decode cX5_init 52 = .ok (.iconst 3, 1) := by decide +kernel
theorem dX5_init_53 : decode cX5_init 53 = .ok (.putfield 30, 3) := by decide +kernel
theorem dX5_init_56 : decode cX5_init 56 = .ok (.aload_n 0, 1) := by decide +kernel
theorem dX5_init_57 : decode cX5_init 57 = .ok (.iconst 1, 1) := by decide +kernel
theorem dX5_init_58 : decode cX5_init 58 = .ok (.putfield 33, 3) := by decide +kernel
theorem dX5_init_61 : decode cX5_init 61 = .ok (.aload_n 0, 1) := by decide +kernel
theorem dX5_init_62 : decode cX5_init 62 = .ok (.sipush 288, 3) := by decide +kernel
theorem dX5_init_65 : decode cX5_init 65 = .ok (.newarray .int, 2) := by decide +kernel
theorem dX5_init_67 : decode cX5_init 67 = .ok (.putfield 36, 3) := by decide +kernel
theorem dX5_init_70 : decode cX5_init 70 = .ok (.aload_n 0, 1) := by decide +kernel
theorem dX5_init_71 : decode cX5_init 71 = .ok (.bipush 16, 2) := by decide +kernel
theorem dX5_init_73 : decode cX5_init 73 = .ok (.newarray .int, 2) := by decide +kernel
theorem dX5_init_75 : decode cX5_init 75 = .ok (.putfield 39, 3) := by decide +kernel
theorem dX5_init_78 : decode cX5_init 78 = .ok (.return_, 1) := by decide +kernel
theorem dX5_thrown_0 : decode cX5_thrown 0 = .ok (.aload_n 0, 1) := by decide +kernel
theorem dX5_thrown_1 : decode cX5_thrown 1 = .ok (.getfield 42, 3) := by decide +kernel
theorem dX5_thrown_4 : decode cX5_thrown 4 = .ok (.ireturn, 1) := by decide +kernel
theorem dX5_holds_0 : decode cX5_holds 0 = .ok (.aload_n 0, 1) := by decide +kernel
theorem dX5_holds_1 : decode cX5_holds 1 = .ok (.iload_n 1, 1) := by decide +kernel
theorem dX5_holds_2 : decode cX5_holds 2 = .ok (.putfield 42, 3) := by decide +kernel
theorem dX5_holds_5 : decode cX5_holds 5 = .ok (.iload_n 1, 1) := by decide +kernel
theorem dX5_holds_6 : decode cX5_holds 6 = .ok (.ifCond .ne 7, 3) := by decide +kernel
theorem dX5_holds_9 : decode cX5_holds 9 = .ok (.iconst 1, 1) := by decide +kernel
theorem dX5_holds_10 : decode cX5_holds 10 = .ok (.goto 4, 3) := by decide +kernel
theorem dX5_holds_13 : decode cX5_holds 13 = .ok (.iconst 0, 1) := by decide +kernel
theorem dX5_holds_14 : decode cX5_holds 14 = .ok (.ireturn, 1) := by decide +kernel
theorem dX5_in_0 : decode cX5_in 0 = .ok (.iload_n 0, 1) := by decide +kernel
theorem dX5_in_1 : decode cX5_in 1 = .ok (.iload_n 1, 1) := by decide +kernel
theorem dX5_in_2 : decode cX5_in 2 = .ok (.if_icmp .lt 12, 3) := by decide +kernel
theorem dX5_in_5 : decode cX5_in 5 = .ok (.iload_n 0, 1) := by decide +kernel
theorem dX5_in_6 : decode cX5_in 6 = .ok (.iload_n 2, 1) := by decide +kernel
theorem dX5_in_7 : decode cX5_in 7 = .ok (.if_icmp .gt 7, 3) := by decide +kernel
theorem dX5_in_10 : decode cX5_in 10 = .ok (.iconst 1, 1) := by decide +kernel
theorem dX5_in_11 : decode cX5_in 11 = .ok (.goto 4, 3) := by decide +kernel
theorem dX5_in_14 : decode cX5_in 14 = .ok (.iconst 0, 1) := by decide +kernel
theorem dX5_in_15 : decode cX5_in 15 = .ok (.ireturn, 1) := by decide +kernel
theorem dX5_isTune_0 : decode cX5_isTune 0 = .ok (.iload_n 1, 1) := by decide +kernel
theorem dX5_isTune_1 : decode cX5_isTune 1 = .ok (.iconst 0, 1) := by decide +kernel
theorem dX5_isTune_2 : decode cX5_isTune 2 = .ok (.aload_n 0, 1) := by decide +kernel
theorem dX5_isTune_3 : decode cX5_isTune 3 = .ok (.getfield 45, 3) := by decide +kernel
theorem dX5_isTune_6 : decode cX5_isTune 6 = .ok (.iconst 1, 1) := by decide +kernel
theorem dX5_isTune_7 : decode cX5_isTune 7 = .ok (.isub, 1) := by decide +kernel
theorem dX5_isTune_8 : decode cX5_isTune 8 = .ok (.invokestatic 48, 3) := by decide +kernel
theorem dX5_isTune_11 : decode cX5_isTune 11 = .ok (.ireturn, 1) := by decide +kernel
theorem dX5_isKnown_0 : decode cX5_isKnown 0 = .ok (.aload_n 0, 1) := by decide +kernel
theorem dX5_isKnown_1 : decode cX5_isKnown 1 = .ok (.iload_n 1, 1) := by decide +kernel
theorem dX5_isKnown_2 : decode cX5_isKnown 2 = .ok (.invokevirtual 52, 3) := by decide +kernel
theorem dX5_isKnown_5 : decode cX5_isKnown 5 = .ok (.ifCond .eq 16, 3) := by decide +kernel
theorem dX5_isKnown_8 : decode cX5_isKnown 8 = .ok (.aload_n 0, 1) := by decide +kernel
theorem dX5_isKnown_9 : decode cX5_isKnown 9 = .ok (.getfield 19, 3) := by decide +kernel
theorem dX5_isKnown_12 : decode cX5_isKnown 12 = .ok (.iload_n 1, 1) := by decide +kernel
theorem dX5_isKnown_13 : decode cX5_isKnown 13 = .ok (.baload, 1) := by decide +kernel
theorem dX5_isKnown_14 : decode cX5_isKnown 14 = .ok (.ifCond .ne 7, 3) := by decide +kernel
theorem dX5_isKnown_17 : decode cX5_isKnown 17 = .ok (.iconst 1, 1) := by decide +kernel
theorem dX5_isKnown_18 : decode cX5_isKnown 18 = .ok (.goto 4, 3) := by decide +kernel
theorem dX5_isKnown_21 : decode cX5_isKnown 21 = .ok (.iconst 0, 1) := by decide +kernel
theorem dX5_isKnown_22 : decode cX5_isKnown 22 = .ok (.ireturn, 1) := by decide +kernel
theorem dX5_isNote_0 : decode cX5_isNote 0 = .ok (.iload_n 0, 1) := by decide +kernel
theorem dX5_isNote_1 : decode cX5_isNote 1 = .ok (.iconst 0, 1) := by decide +kernel
theorem dX5_isNote_2 : decode cX5_isNote 2 = .ok (.bipush 60, 2) := by decide +kernel
theorem dX5_isNote_4 : decode cX5_isNote 4 = .ok (.invokestatic 48, 3) := by decide +kernel
theorem dX5_isNote_7 : decode cX5_isNote 7 = .ok (.ifCond .eq 17, 3) := by decide +kernel
theorem dX5_isNote_10 : decode cX5_isNote 10 = .ok (.iload_n 1, 1) := by decide +kernel
theorem dX5_isNote_11 : decode cX5_isNote 11 = .ok (.iconst 1, 1) := by decide +kernel
theorem dX5_isNote_12 : decode cX5_isNote 12 = .ok (.bipush 8, 2) := by decide +kernel
theorem dX5_isNote_14 : decode cX5_isNote 14 = .ok (.invokestatic 48, 3) := by decide +kernel
theorem dX5_isNote_17 : decode cX5_isNote 17 = .ok (.ifCond .eq 7, 3) := by decide +kernel
theorem dX5_isNote_20 : decode cX5_isNote 20 = .ok (.iconst 1, 1) := by decide +kernel
theorem dX5_isNote_21 : decode cX5_isNote 21 = .ok (.goto 4, 3) := by decide +kernel
theorem dX5_isNote_24 : decode cX5_isNote 24 = .ok (.iconst 0, 1) := by decide +kernel
theorem dX5_isNote_25 : decode cX5_isNote 25 = .ok (.ireturn, 1) := by decide +kernel
theorem dX5_sets_0 : decode cX5_sets 0 = .ok (.aload_n 0, 1) := by decide +kernel
theorem dX5_sets_1 : decode cX5_sets 1 = .ok (.getfield 7, 3) := by decide +kernel
theorem dX5_sets_4 : decode cX5_sets 4 = .ok (.bipush 24, 2) := by decide +kernel
theorem dX5_sets_6 : decode cX5_sets 6 = .ok (.iload_n 1, 1) := by decide +kernel
theorem dX5_sets_7 : decode cX5_sets 7 = .ok (.imul, 1) := by decide +kernel
theorem dX5_sets_8 : decode cX5_sets 8 = .ok (.iload_n 2, 1) := by decide +kernel
theorem dX5_sets_9 : decode cX5_sets 9 = .ok (.iadd, 1) := by decide +kernel
theorem dX5_sets_10 : decode cX5_sets 10 = .ok (.iload_n 3, 1) := by decide +kernel
theorem dX5_sets_11 : decode cX5_sets 11 = .ok (.iastore, 1) := by decide +kernel
theorem dX5_sets_12 : decode cX5_sets 12 = .ok (.aload_n 0, 1) := by decide +kernel
theorem dX5_sets_13 : decode cX5_sets 13 = .ok (.getfield 13, 3) := by decide +kernel
theorem dX5_sets_16 : decode cX5_sets 16 = .ok (.bipush 24, 2) := by decide +kernel
theorem dX5_sets_18 : decode cX5_sets 18 = .ok (.iload_n 1, 1) := by decide +kernel
theorem dX5_sets_19 : decode cX5_sets 19 = .ok (.imul, 1) := by decide +kernel
theorem dX5_sets_20 : decode cX5_sets 20 = .ok (.iload_n 2, 1) := by decide +kernel
theorem dX5_sets_21 : decode cX5_sets 21 = .ok (.iadd, 1) := by decide +kernel
theorem dX5_sets_22 : decode cX5_sets 22 = .ok (.iload 4, 2) := by decide +kernel
theorem dX5_sets_24 : decode cX5_sets 24 = .ok (.iastore, 1) := by decide +kernel
theorem dX5_sets_25 : decode cX5_sets 25 = .ok (.return_, 1) := by decide +kernel
theorem dX5_add_0 : decode cX5_add 0 = .ok (.aload_n 0, 1) := by decide +kernel
theorem dX5_add_1 : decode cX5_add 1 = .ok (.iload_n 1, 1) := by decide +kernel
theorem dX5_add_2 : decode cX5_add 2 = .ok (.iload_n 2, 1) := by decide +kernel
theorem dX5_add_3 : decode cX5_add 3 = .ok (.invokestatic 56, 3) := by decide +kernel
theorem dX5_add_6 : decode cX5_add 6 = .ok (.ifCond .ne 7, 3) := by decide +kernel
theorem dX5_add_9 : decode cX5_add 9 = .ok (.iconst 1, 1) := by decide +kernel
theorem dX5_add_10 : decode cX5_add 10 = .ok (.goto 17, 3) := by decide +kernel
theorem dX5_add_13 : decode cX5_add 13 = .ok (.aload_n 0, 1) := by decide +kernel
theorem dX5_add_14 : decode cX5_add 14 = .ok (.getfield 45, 3) := by decide +kernel
theorem dX5_add_17 : decode cX5_add 17 = .ok (.bipush 16, 2) := by decide +kernel
theorem dX5_add_19 : decode cX5_add 19 = .ok (.if_icmp .ne 7, 3) := by decide +kernel
theorem dX5_add_22 : decode cX5_add 22 = .ok (.iconst 2, 1) := by decide +kernel
theorem dX5_add_23 : decode cX5_add 23 = .ok (.goto 4, 3) := by decide +kernel
theorem dX5_add_26 : decode cX5_add 26 = .ok (.iconst 0, 1) := by decide +kernel
theorem dX5_add_27 : decode cX5_add 27 = .ok (.invokevirtual 60, 3) := by decide +kernel
theorem dX5_add_30 : decode cX5_add 30 = .ok (.ifCond .ne 5, 3) := by decide +kernel
theorem dX5_add_33 : decode cX5_add 33 = .ok (.iconst 0, 1) := by decide +kernel
theorem dX5_add_34 : decode cX5_add 34 = .ok (.ireturn, 1) := by decide +kernel
theorem dX5_add_35 : decode cX5_add 35 = .ok (.aload_n 0, 1) := by decide +kernel
theorem dX5_add_36 : decode cX5_add 36 = .ok (.aload_n 0, 1) := by decide +kernel
theorem dX5_add_37 : decode cX5_add 37 = .ok (.getfield 45, 3) := by decide +kernel
theorem dX5_add_40 : decode cX5_add 40 = .ok (.iconst 0, 1) := by decide +kernel
theorem dX5_add_41 : decode cX5_add 41 = .ok (.iload_n 1, 1) := by decide +kernel
theorem dX5_add_42 : decode cX5_add 42 = .ok (.iload_n 2, 1) := by decide +kernel
theorem dX5_add_43 : decode cX5_add 43 = .ok (.invokevirtual 63, 3) := by decide +kernel
theorem dX5_add_46 : decode cX5_add 46 = .ok (.aload_n 0, 1) := by decide +kernel
theorem dX5_add_47 : decode cX5_add 47 = .ok (.getfield 16, 3) := by decide +kernel
theorem dX5_add_50 : decode cX5_add 50 = .ok (.aload_n 0, 1) := by decide +kernel
theorem dX5_add_51 : decode cX5_add 51 = .ok (.getfield 45, 3) := by decide +kernel
theorem dX5_add_54 : decode cX5_add 54 = .ok (.iconst 1, 1) := by decide +kernel
theorem dX5_add_55 : decode cX5_add 55 = .ok (.iastore, 1) := by decide +kernel
theorem dX5_add_56 : decode cX5_add 56 = .ok (.aload_n 0, 1) := by decide +kernel
theorem dX5_add_57 : decode cX5_add 57 = .ok (.dup, 1) := by decide +kernel
theorem dX5_add_58 : decode cX5_add 58 = .ok (.getfield 45, 3) := by decide +kernel
theorem dX5_add_61 : decode cX5_add 61 = .ok (.iconst 1, 1) := by decide +kernel
theorem dX5_add_62 : decode cX5_add 62 = .ok (.iadd, 1) := by decide +kernel
theorem dX5_add_63 : decode cX5_add 63 = .ok (.putfield 45, 3) := by decide +kernel
theorem dX5_add_66 : decode cX5_add 66 = .ok (.aload_n 0, 1) := by decide +kernel
theorem dX5_add_67 : decode cX5_add 67 = .ok (.getfield 45, 3) := by decide +kernel
theorem dX5_add_70 : decode cX5_add 70 = .ok (.iconst 1, 1) := by decide +kernel
theorem dX5_add_71 : decode cX5_add 71 = .ok (.isub, 1) := by decide +kernel
theorem dX5_add_72 : decode cX5_add 72 = .ok (.ireturn, 1) := by decide +kernel
theorem dX5_note_0 : decode cX5_note 0 = .ok (.aload_n 0, 1) := by decide +kernel
theorem dX5_note_1 : decode cX5_note 1 = .ok (.aload_n 0, 1) := by decide +kernel
theorem dX5_note_2 : decode cX5_note 2 = .ok (.iload_n 1, 1) := by decide +kernel
theorem dX5_note_3 : decode cX5_note 3 = .ok (.invokevirtual 67, 3) := by decide +kernel
theorem dX5_note_6 : decode cX5_note 6 = .ok (.ifCond .ne 7, 3) := by decide +kernel
theorem dX5_note_9 : decode cX5_note 9 = .ok (.iconst 1, 1) := by decide +kernel
theorem dX5_note_10 : decode cX5_note 10 = .ok (.goto 31, 3) := by decide +kernel
theorem dX5_note_13 : decode cX5_note 13 = .ok (.iload_n 2, 1) := by decide +kernel
theorem dX5_note_14 : decode cX5_note 14 = .ok (.iload_n 3, 1) := by decide +kernel
theorem dX5_note_15 : decode cX5_note 15 = .ok (.invokestatic 56, 3) := by decide +kernel
theorem dX5_note_18 : decode cX5_note 18 = .ok (.ifCond .ne 7, 3) := by decide +kernel
theorem dX5_note_21 : decode cX5_note 21 = .ok (.iconst 2, 1) := by decide +kernel
theorem dX5_note_22 : decode cX5_note 22 = .ok (.goto 19, 3) := by decide +kernel
theorem dX5_note_25 : decode cX5_note 25 = .ok (.aload_n 0, 1) := by decide +kernel
theorem dX5_note_26 : decode cX5_note 26 = .ok (.getfield 16, 3) := by decide +kernel
theorem dX5_note_29 : decode cX5_note 29 = .ok (.iload_n 1, 1) := by decide +kernel
theorem dX5_note_30 : decode cX5_note 30 = .ok (.iaload, 1) := by decide +kernel
theorem dX5_note_31 : decode cX5_note 31 = .ok (.bipush 24, 2) := by decide +kernel
theorem dX5_note_33 : decode cX5_note 33 = .ok (.if_icmp .ne 7, 3) := by decide +kernel
theorem dX5_note_36 : decode cX5_note 36 = .ok (.iconst 3, 1) := by decide +kernel
theorem dX5_note_37 : decode cX5_note 37 = .ok (.goto 4, 3) := by decide +kernel
theorem dX5_note_40 : decode cX5_note 40 = .ok (.iconst 0, 1) := by decide +kernel
theorem dX5_note_41 : decode cX5_note 41 = .ok (.invokevirtual 60, 3) := by decide +kernel
theorem dX5_note_44 : decode cX5_note 44 = .ok (.ifCond .ne 5, 3) := by decide +kernel
theorem dX5_note_47 : decode cX5_note 47 = .ok (.iconst 0, 1) := by decide +kernel
theorem dX5_note_48 : decode cX5_note 48 = .ok (.ireturn, 1) := by decide +kernel
theorem dX5_note_49 : decode cX5_note 49 = .ok (.aload_n 0, 1) := by decide +kernel
theorem dX5_note_50 : decode cX5_note 50 = .ok (.iload_n 1, 1) := by decide +kernel
theorem dX5_note_51 : decode cX5_note 51 = .ok (.aload_n 0, 1) := by decide +kernel
theorem dX5_note_52 : decode cX5_note 52 = .ok (.getfield 16, 3) := by decide +kernel
theorem dX5_note_55 : decode cX5_note 55 = .ok (.iload_n 1, 1) := by decide +kernel
theorem dX5_note_56 : decode cX5_note 56 = .ok (.iaload, 1) := by decide +kernel
theorem dX5_note_57 : decode cX5_note 57 = .ok (.iload_n 2, 1) := by decide +kernel
theorem dX5_note_58 : decode cX5_note 58 = .ok (.iload_n 3, 1) := by decide +kernel
theorem dX5_note_59 : decode cX5_note 59 = .ok (.invokevirtual 63, 3) := by decide +kernel
theorem dX5_note_62 : decode cX5_note 62 = .ok (.aload_n 0, 1) := by decide +kernel
theorem dX5_note_63 : decode cX5_note 63 = .ok (.getfield 16, 3) := by decide +kernel
theorem dX5_note_66 : decode cX5_note 66 = .ok (.iload_n 1, 1) := by decide +kernel
theorem dX5_note_67 : decode cX5_note 67 = .ok (.dup2, 1) := by decide +kernel
theorem dX5_note_68 : decode cX5_note 68 = .ok (.iaload, 1) := by decide +kernel
theorem dX5_note_69 : decode cX5_note 69 = .ok (.iconst 1, 1) := by decide +kernel
theorem dX5_note_70 : decode cX5_note 70 = .ok (.iadd, 1) := by decide +kernel
theorem dX5_note_71 : decode cX5_note 71 = .ok (.iastore, 1) := by decide +kernel
theorem dX5_note_72 : decode cX5_note 72 = .ok (.aload_n 0, 1) := by decide +kernel
theorem dX5_note_73 : decode cX5_note 73 = .ok (.getfield 16, 3) := by decide +kernel
theorem dX5_note_76 : decode cX5_note 76 = .ok (.iload_n 1, 1) := by decide +kernel
theorem dX5_note_77 : decode cX5_note 77 = .ok (.iaload, 1) := by decide +kernel
theorem dX5_note_78 : decode cX5_note 78 = .ok (.ireturn, 1) := by decide +kernel
theorem dX5_correct_0 : decode cX5_correct 0 = .ok (.aload_n 0, 1) := by decide +kernel
theorem dX5_correct_1 : decode cX5_correct 1 = .ok (.iload_n 1, 1) := by decide +kernel
theorem dX5_correct_2 : decode cX5_correct 2 = .ok (.invokevirtual 67, 3) := by decide +kernel
theorem dX5_correct_5 : decode cX5_correct 5 = .ok (.ifCond .eq 23, 3) := by decide +kernel
theorem dX5_correct_8 : decode cX5_correct 8 = .ok (.iload_n 2, 1) := by decide +kernel
theorem dX5_correct_9 : decode cX5_correct 9 = .ok (.iconst 0, 1) := by decide +kernel
theorem dX5_correct_10 : decode cX5_correct 10 = .ok (.aload_n 0, 1) := by decide +kernel
theorem dX5_correct_11 : decode cX5_correct 11 = .ok (.getfield 16, 3) := by decide +kernel
theorem dX5_correct_14 : decode cX5_correct 14 = .ok (.iload_n 1, 1) := by decide +kernel
theorem dX5_correct_15 : decode cX5_correct 15 = .ok (.iaload, 1) := by decide +kernel
theorem dX5_correct_16 : decode cX5_correct 16 = .ok (.iconst 1, 1) := by decide +kernel
theorem dX5_correct_17 : decode cX5_correct 17 = .ok (.isub, 1) := by decide +kernel
theorem dX5_correct_18 : decode cX5_correct 18 = .ok (.invokestatic 48, 3) := by decide +kernel
theorem dX5_correct_21 : decode cX5_correct 21 = .ok (.ifCond .eq 7, 3) := by decide +kernel
theorem dX5_correct_24 : decode cX5_correct 24 = .ok (.iconst 1, 1) := by decide +kernel
theorem dX5_correct_25 : decode cX5_correct 25 = .ok (.goto 4, 3) := by decide +kernel
theorem dX5_correct_28 : decode cX5_correct 28 = .ok (.iconst 0, 1) := by decide +kernel
theorem dX5_correct_29 : decode cX5_correct 29 = .ok (.istore 5, 2) := by decide +kernel
theorem dX5_correct_31 : decode cX5_correct 31 = .ok (.aload_n 0, 1) := by decide +kernel
theorem dX5_correct_32 : decode cX5_correct 32 = .ok (.iload 5, 2) := by decide +kernel
theorem dX5_correct_34 : decode cX5_correct 34 = .ok (.ifCond .ne 7, 3) := by decide +kernel
theorem dX5_correct_37 : decode cX5_correct 37 = .ok (.iconst 1, 1) := by decide +kernel
theorem dX5_correct_38 : decode cX5_correct 38 = .ok (.goto 17, 3) := by decide +kernel
theorem dX5_correct_41 : decode cX5_correct 41 = .ok (.iload_n 3, 1) := by decide +kernel
theorem dX5_correct_42 : decode cX5_correct 42 = .ok (.iload 4, 2) := by decide +kernel
theorem dX5_correct_44 : decode cX5_correct 44 = .ok (.invokestatic 56, 3) := by decide +kernel
theorem dX5_correct_47 : decode cX5_correct 47 = .ok (.ifCond .eq 7, 3) := by decide +kernel
theorem dX5_correct_50 : decode cX5_correct 50 = .ok (.iconst 0, 1) := by decide +kernel
theorem dX5_correct_51 : decode cX5_correct 51 = .ok (.goto 4, 3) := by decide +kernel
theorem dX5_correct_54 : decode cX5_correct 54 = .ok (.iconst 2, 1) := by decide +kernel
theorem dX5_correct_55 : decode cX5_correct 55 = .ok (.invokevirtual 60, 3) := by decide +kernel
theorem dX5_correct_58 : decode cX5_correct 58 = .ok (.ifCond .ne 5, 3) := by decide +kernel
theorem dX5_correct_61 : decode cX5_correct 61 = .ok (.iconst 0, 1) := by decide +kernel
theorem dX5_correct_62 : decode cX5_correct 62 = .ok (.ireturn, 1) := by decide +kernel
theorem dX5_correct_63 : decode cX5_correct 63 = .ok (.aload_n 0, 1) := by decide +kernel
theorem dX5_correct_64 : decode cX5_correct 64 = .ok (.getfield 7, 3) := by decide +kernel
theorem dX5_correct_67 : decode cX5_correct 67 = .ok (.bipush 24, 2) := by decide +kernel
theorem dX5_correct_69 : decode cX5_correct 69 = .ok (.iload_n 1, 1) := by decide +kernel
theorem dX5_correct_70 : decode cX5_correct 70 = .ok (.imul, 1) := by decide +kernel
theorem dX5_correct_71 : decode cX5_correct 71 = .ok (.iload_n 2, 1) := by decide +kernel
theorem dX5_correct_72 : decode cX5_correct 72 = .ok (.iadd, 1) := by decide +kernel
theorem dX5_correct_73 : decode cX5_correct 73 = .ok (.iaload, 1) := by decide +kernel
theorem dX5_correct_74 : decode cX5_correct 74 = .ok (.istore 6, 2) := by decide +kernel
theorem dX5_correct_76 : decode cX5_correct 76 = .ok (.aload_n 0, 1) := by decide +kernel
theorem dX5_correct_77 : decode cX5_correct 77 = .ok (.iload_n 1, 1) := by decide +kernel
theorem dX5_correct_78 : decode cX5_correct 78 = .ok (.iload_n 2, 1) := by decide +kernel
theorem dX5_correct_79 : decode cX5_correct 79 = .ok (.iload_n 3, 1) := by decide +kernel
theorem dX5_correct_80 : decode cX5_correct 80 = .ok (.iload 4, 2) := by decide +kernel
theorem dX5_correct_82 : decode cX5_correct 82 = .ok (.invokevirtual 63, 3) := by decide +kernel
theorem dX5_correct_85 : decode cX5_correct 85 = .ok (.iload 6, 2) := by decide +kernel
theorem dX5_correct_87 : decode cX5_correct 87 = .ok (.ireturn, 1) := by decide +kernel
theorem dX5_mayShift_0 : decode cX5_mayShift 0 = .ok (.iconst 0, 1) := by decide +kernel
theorem dX5_mayShift_1 : decode cX5_mayShift 1 = .ok (.istore_n 3, 1) := by decide +kernel
theorem dX5_mayShift_2 : decode cX5_mayShift 2 = .ok (.iload_n 3, 1) := by decide +kernel
theorem dX5_mayShift_3 : decode cX5_mayShift 3 = .ok (.aload_n 0, 1) := by decide +kernel
theorem dX5_mayShift_4 : decode cX5_mayShift 4 = .ok (.getfield 16, 3) := by decide +kernel
theorem dX5_mayShift_7 : decode cX5_mayShift 7 = .ok (.iload_n 1, 1) := by decide +kernel
theorem dX5_mayShift_8 : decode cX5_mayShift 8 = .ok (.iaload, 1) := by decide +kernel
theorem dX5_mayShift_9 : decode cX5_mayShift 9 = .ok (.if_icmp .ge 33, 3) := by decide +kernel
theorem dX5_mayShift_12 : decode cX5_mayShift 12 = .ok (.aload_n 0, 1) := by decide +kernel
theorem dX5_mayShift_13 : decode cX5_mayShift 13 = .ok (.getfield 7, 3) := by decide +kernel
theorem dX5_mayShift_16 : decode cX5_mayShift 16 = .ok (.bipush 24, 2) := by decide +kernel
theorem dX5_mayShift_18 : decode cX5_mayShift 18 = .ok (.iload_n 1, 1) := by decide +kernel
theorem dX5_mayShift_19 : decode cX5_mayShift 19 = .ok (.imul, 1) := by decide +kernel
theorem dX5_mayShift_20 : decode cX5_mayShift 20 = .ok (.iload_n 3, 1) := by decide +kernel
theorem dX5_mayShift_21 : decode cX5_mayShift 21 = .ok (.iadd, 1) := by decide +kernel
theorem dX5_mayShift_22 : decode cX5_mayShift 22 = .ok (.iaload, 1) := by decide +kernel
theorem dX5_mayShift_23 : decode cX5_mayShift 23 = .ok (.iload_n 2, 1) := by decide +kernel
theorem dX5_mayShift_24 : decode cX5_mayShift 24 = .ok (.iadd, 1) := by decide +kernel
theorem dX5_mayShift_25 : decode cX5_mayShift 25 = .ok (.iconst 0, 1) := by decide +kernel
theorem dX5_mayShift_26 : decode cX5_mayShift 26 = .ok (.bipush 60, 2) := by decide +kernel
theorem dX5_mayShift_28 : decode cX5_mayShift 28 = .ok (.invokestatic 48, 3) := by decide +kernel
theorem dX5_mayShift_31 : decode cX5_mayShift 31 = .ok (.ifCond .ne 5, 3) := by decide +kernel
theorem dX5_mayShift_34 : decode cX5_mayShift 34 = .ok (.iconst 0, 1) := by decide +kernel
theorem dX5_mayShift_35 : decode cX5_mayShift 35 = .ok (.ireturn, 1) := by decide +kernel
theorem dX5_mayShift_36 : decode cX5_mayShift 36 = .ok (.iinc 3 1, 3) := by decide +kernel
theorem dX5_mayShift_39 : decode cX5_mayShift 39 = .ok (.goto (-37), 3) := by decide +kernel
theorem dX5_mayShift_42 : decode cX5_mayShift 42 = .ok (.iconst 1, 1) := by decide +kernel
theorem dX5_mayShift_43 : decode cX5_mayShift 43 = .ok (.ireturn, 1) := by decide +kernel
theorem dX5_shift_0 : decode cX5_shift 0 = .ok (.aload_n 0, 1) := by decide +kernel
theorem dX5_shift_1 : decode cX5_shift 1 = .ok (.aload_n 0, 1) := by decide +kernel
theorem dX5_shift_2 : decode cX5_shift 2 = .ok (.iload_n 1, 1) := by decide +kernel
theorem dX5_shift_3 : decode cX5_shift 3 = .ok (.invokevirtual 67, 3) := by decide +kernel
theorem dX5_shift_6 : decode cX5_shift 6 = .ok (.ifCond .ne 7, 3) := by decide +kernel
theorem dX5_shift_9 : decode cX5_shift 9 = .ok (.iconst 1, 1) := by decide +kernel
theorem dX5_shift_10 : decode cX5_shift 10 = .ok (.goto 32, 3) := by decide +kernel
theorem dX5_shift_13 : decode cX5_shift 13 = .ok (.iload_n 2, 1) := by decide +kernel
theorem dX5_shift_14 : decode cX5_shift 14 = .ok (.bipush (-60), 2) := by decide +kernel
theorem dX5_shift_16 : decode cX5_shift 16 = .ok (.bipush 60, 2) := by decide +kernel
theorem dX5_shift_18 : decode cX5_shift 18 = .ok (.invokestatic 48, 3) := by decide +kernel
theorem dX5_shift_21 : decode cX5_shift 21 = .ok (.ifCond .ne 7, 3) := by decide +kernel
theorem dX5_shift_24 : decode cX5_shift 24 = .ok (.iconst 2, 1) := by decide +kernel
theorem dX5_shift_25 : decode cX5_shift 25 = .ok (.goto 17, 3) := by decide +kernel
theorem dX5_shift_28 : decode cX5_shift 28 = .ok (.aload_n 0, 1) := by decide +kernel
theorem dX5_shift_29 : decode cX5_shift 29 = .ok (.iload_n 1, 1) := by decide +kernel
theorem dX5_shift_30 : decode cX5_shift 30 = .ok (.iload_n 2, 1) := by decide +kernel
theorem dX5_shift_31 : decode cX5_shift 31 = .ok (.invokevirtual 70, 3) := by decide +kernel
theorem dX5_shift_34 : decode cX5_shift 34 = .ok (.ifCond .eq 7, 3) := by decide +kernel
theorem dX5_shift_37 : decode cX5_shift 37 = .ok (.iconst 0, 1) := by decide +kernel
theorem dX5_shift_38 : decode cX5_shift 38 = .ok (.goto 4, 3) := by decide +kernel
theorem dX5_shift_41 : decode cX5_shift 41 = .ok (.iconst 3, 1) := by decide +kernel
theorem dX5_shift_42 : decode cX5_shift 42 = .ok (.invokevirtual 60, 3) := by decide +kernel
theorem dX5_shift_45 : decode cX5_shift 45 = .ok (.ifCond .eq 36, 3) := by decide +kernel
theorem dX5_shift_48 : decode cX5_shift 48 = .ok (.iconst 0, 1) := by decide +kernel
theorem dX5_shift_49 : decode cX5_shift 49 = .ok (.istore_n 3, 1) := by decide +kernel
theorem dX5_shift_50 : decode cX5_shift 50 = .ok (.iload_n 3, 1) := by decide +kernel
theorem dX5_shift_51 : decode cX5_shift 51 = .ok (.aload_n 0, 1) := by decide +kernel
theorem dX5_shift_52 : decode cX5_shift 52 = .ok (.getfield 16, 3) := by decide +kernel
theorem dX5_shift_55 : decode cX5_shift 55 = .ok (.iload_n 1, 1) := by decide +kernel
theorem dX5_shift_56 : decode cX5_shift 56 = .ok (.iaload, 1) := by decide +kernel
theorem dX5_shift_57 : decode cX5_shift 57 = .ok (.if_icmp .ge 24, 3) := by decide +kernel
theorem dX5_shift_60 : decode cX5_shift 60 = .ok (.aload_n 0, 1) := by decide +kernel
theorem dX5_shift_61 : decode cX5_shift 61 = .ok (.getfield 7, 3) := by decide +kernel
theorem dX5_shift_64 : decode cX5_shift 64 = .ok (.bipush 24, 2) := by decide +kernel
theorem dX5_shift_66 : decode cX5_shift 66 = .ok (.iload_n 1, 1) := by decide +kernel
theorem dX5_shift_67 : decode cX5_shift 67 = .ok (.imul, 1) := by decide +kernel
theorem dX5_shift_68 : decode cX5_shift 68 = .ok (.iload_n 3, 1) := by decide +kernel
theorem dX5_shift_69 : decode cX5_shift 69 = .ok (.iadd, 1) := by decide +kernel
theorem dX5_shift_70 : decode cX5_shift 70 = .ok (.dup2, 1) := by decide +kernel
theorem dX5_shift_71 : decode cX5_shift 71 = .ok (.iaload, 1) := by decide +kernel
theorem dX5_shift_72 : decode cX5_shift 72 = .ok (.iload_n 2, 1) := by decide +kernel
theorem dX5_shift_73 : decode cX5_shift 73 = .ok (.iadd, 1) := by decide +kernel
theorem dX5_shift_74 : decode cX5_shift 74 = .ok (.iastore, 1) := by decide +kernel
theorem dX5_shift_75 : decode cX5_shift 75 = .ok (.iinc 3 1, 3) := by decide +kernel
theorem dX5_shift_78 : decode cX5_shift 78 = .ok (.goto (-28), 3) := by decide +kernel
theorem dX5_shift_81 : decode cX5_shift 81 = .ok (.return_, 1) := by decide +kernel
theorem dX5_retire_0 : decode cX5_retire 0 = .ok (.aload_n 0, 1) := by decide +kernel
theorem dX5_retire_1 : decode cX5_retire 1 = .ok (.aload_n 0, 1) := by decide +kernel
theorem dX5_retire_2 : decode cX5_retire 2 = .ok (.iload_n 1, 1) := by decide +kernel
theorem dX5_retire_3 : decode cX5_retire 3 = .ok (.invokevirtual 67, 3) := by decide +kernel
theorem dX5_retire_6 : decode cX5_retire 6 = .ok (.ifCond .eq 7, 3) := by decide +kernel
theorem dX5_retire_9 : decode cX5_retire 9 = .ok (.iconst 0, 1) := by decide +kernel
theorem dX5_retire_10 : decode cX5_retire 10 = .ok (.goto 4, 3) := by decide +kernel
theorem dX5_retire_13 : decode cX5_retire 13 = .ok (.iconst 1, 1) := by decide +kernel
theorem dX5_retire_14 : decode cX5_retire 14 = .ok (.invokevirtual 60, 3) := by decide +kernel
theorem dX5_retire_17 : decode cX5_retire 17 = .ok (.ifCond .ne 5, 3) := by decide +kernel
theorem dX5_retire_20 : decode cX5_retire 20 = .ok (.iconst 0, 1) := by decide +kernel
theorem dX5_retire_21 : decode cX5_retire 21 = .ok (.ireturn, 1) := by decide +kernel
theorem dX5_retire_22 : decode cX5_retire 22 = .ok (.aload_n 0, 1) := by decide +kernel
theorem dX5_retire_23 : decode cX5_retire 23 = .ok (.getfield 19, 3) := by decide +kernel
theorem dX5_retire_26 : decode cX5_retire 26 = .ok (.iload_n 1, 1) := by decide +kernel
theorem dX5_retire_27 : decode cX5_retire 27 = .ok (.iconst 1, 1) := by decide +kernel
theorem dX5_retire_28 : decode cX5_retire 28 = .ok (.bastore, 1) := by decide +kernel
theorem dX5_retire_29 : decode cX5_retire 29 = .ok (.iconst 0, 1) := by decide +kernel
theorem dX5_retire_30 : decode cX5_retire 30 = .ok (.istore_n 2, 1) := by decide +kernel
theorem dX5_retire_31 : decode cX5_retire 31 = .ok (.iconst 0, 1) := by decide +kernel
theorem dX5_retire_32 : decode cX5_retire 32 = .ok (.istore_n 3, 1) := by decide +kernel
theorem dX5_retire_33 : decode cX5_retire 33 = .ok (.iload_n 3, 1) := by decide +kernel
theorem dX5_retire_34 : decode cX5_retire 34 = .ok (.aload_n 0, 1) := by decide +kernel
theorem dX5_retire_35 : decode cX5_retire 35 = .ok (.getfield 45, 3) := by decide +kernel
theorem dX5_retire_38 : decode cX5_retire 38 = .ok (.if_icmp .ge 26, 3) := by decide +kernel
theorem dX5_retire_41 : decode cX5_retire 41 = .ok (.iload_n 2, 1) := by decide +kernel
theorem dX5_retire_42 : decode cX5_retire 42 = .ok (.aload_n 0, 1) := by decide +kernel
theorem dX5_retire_43 : decode cX5_retire 43 = .ok (.getfield 19, 3) := by decide +kernel
theorem dX5_retire_46 : decode cX5_retire 46 = .ok (.iload_n 3, 1) := by decide +kernel
theorem dX5_retire_47 : decode cX5_retire 47 = .ok (.baload, 1) := by decide +kernel
theorem dX5_retire_48 : decode cX5_retire 48 = .ok (.ifCond .eq 7, 3) := by decide +kernel
theorem dX5_retire_51 : decode cX5_retire 51 = .ok (.iconst 0, 1) := by decide +kernel
theorem dX5_retire_52 : decode cX5_retire 52 = .ok (.goto 4, 3) := by decide +kernel
theorem dX5_retire_55 : decode cX5_retire 55 = .ok (.iconst 1, 1) := by decide +kernel
theorem dX5_retire_56 : decode cX5_retire 56 = .ok (.iadd, 1) := by decide +kernel
theorem dX5_retire_57 : decode cX5_retire 57 = .ok (.istore_n 2, 1) := by decide +kernel
theorem dX5_retire_58 : decode cX5_retire 58 = .ok (.iinc 3 1, 3) := by decide +kernel
theorem dX5_retire_61 : decode cX5_retire 61 = .ok (.goto (-28), 3) := by decide +kernel
theorem dX5_retire_64 : decode cX5_retire 64 = .ok (.iload_n 2, 1) := by decide +kernel
theorem dX5_retire_65 : decode cX5_retire 65 = .ok (.ireturn, 1) := by decide +kernel
theorem dX5_tunes_0 : decode cX5_tunes 0 = .ok (.aload_n 0, 1) := by decide +kernel
theorem dX5_tunes_1 : decode cX5_tunes 1 = .ok (.iconst 0, 1) := by decide +kernel
theorem dX5_tunes_2 : decode cX5_tunes 2 = .ok (.putfield 42, 3) := by decide +kernel
theorem dX5_tunes_5 : decode cX5_tunes 5 = .ok (.aload_n 0, 1) := by decide +kernel
theorem dX5_tunes_6 : decode cX5_tunes 6 = .ok (.getfield 45, 3) := by decide +kernel
theorem dX5_tunes_9 : decode cX5_tunes 9 = .ok (.ireturn, 1) := by decide +kernel
theorem dX5_notes_0 : decode cX5_notes 0 = .ok (.aload_n 0, 1) := by decide +kernel
theorem dX5_notes_1 : decode cX5_notes 1 = .ok (.aload_n 0, 1) := by decide +kernel
theorem dX5_notes_2 : decode cX5_notes 2 = .ok (.iload_n 1, 1) := by decide +kernel
theorem dX5_notes_3 : decode cX5_notes 3 = .ok (.invokevirtual 52, 3) := by decide +kernel
theorem dX5_notes_6 : decode cX5_notes 6 = .ok (.ifCond .eq 7, 3) := by decide +kernel
theorem dX5_notes_9 : decode cX5_notes 9 = .ok (.iconst 0, 1) := by decide +kernel
theorem dX5_notes_10 : decode cX5_notes 10 = .ok (.goto 4, 3) := by decide +kernel
theorem dX5_notes_13 : decode cX5_notes 13 = .ok (.iconst 1, 1) := by decide +kernel
theorem dX5_notes_14 : decode cX5_notes 14 = .ok (.invokevirtual 60, 3) := by decide +kernel
theorem dX5_notes_17 : decode cX5_notes 17 = .ok (.ifCond .eq 12, 3) := by decide +kernel
theorem dX5_notes_20 : decode cX5_notes 20 = .ok (.aload_n 0, 1) := by decide +kernel
theorem dX5_notes_21 : decode cX5_notes 21 = .ok (.getfield 16, 3) := by decide +kernel
theorem dX5_notes_24 : decode cX5_notes 24 = .ok (.iload_n 1, 1) := by decide +kernel
theorem dX5_notes_25 : decode cX5_notes 25 = .ok (.iaload, 1) := by decide +kernel
theorem dX5_notes_26 : decode cX5_notes 26 = .ok (.goto 4, 3) := by decide +kernel
theorem dX5_notes_29 : decode cX5_notes 29 = .ok (.iconst 0, 1) := by decide +kernel
theorem dX5_notes_30 : decode cX5_notes 30 = .ok (.ireturn, 1) := by decide +kernel
theorem dX5_stepOf_0 : decode cX5_stepOf 0 = .ok (.aload_n 0, 1) := by decide +kernel
theorem dX5_stepOf_1 : decode cX5_stepOf 1 = .ok (.getfield 7, 3) := by decide +kernel
theorem dX5_stepOf_4 : decode cX5_stepOf 4 = .ok (.bipush 24, 2) := by decide +kernel
theorem dX5_stepOf_6 : decode cX5_stepOf 6 = .ok (.iload_n 1, 1) := by decide +kernel
theorem dX5_stepOf_7 : decode cX5_stepOf 7 = .ok (.imul, 1) := by decide +kernel
theorem dX5_stepOf_8 : decode cX5_stepOf 8 = .ok (.iload_n 2, 1) := by decide +kernel
theorem dX5_stepOf_9 : decode cX5_stepOf 9 = .ok (.iadd, 1) := by decide +kernel
theorem dX5_stepOf_10 : decode cX5_stepOf 10 = .ok (.iconst 1, 1) := by decide +kernel
theorem dX5_stepOf_11 : decode cX5_stepOf 11 = .ok (.iadd, 1) := by decide +kernel
theorem dX5_stepOf_12 : decode cX5_stepOf 12 = .ok (.iaload, 1) := by decide +kernel
theorem dX5_stepOf_13 : decode cX5_stepOf 13 = .ok (.aload_n 0, 1) := by decide +kernel
theorem dX5_stepOf_14 : decode cX5_stepOf 14 = .ok (.getfield 7, 3) := by decide +kernel
theorem dX5_stepOf_17 : decode cX5_stepOf 17 = .ok (.bipush 24, 2) := by decide +kernel
theorem dX5_stepOf_19 : decode cX5_stepOf 19 = .ok (.iload_n 1, 1) := by decide +kernel
theorem dX5_stepOf_20 : decode cX5_stepOf 20 = .ok (.imul, 1) := by decide +kernel
theorem dX5_stepOf_21 : decode cX5_stepOf 21 = .ok (.iload_n 2, 1) := by decide +kernel
theorem dX5_stepOf_22 : decode cX5_stepOf 22 = .ok (.iadd, 1) := by decide +kernel
theorem dX5_stepOf_23 : decode cX5_stepOf 23 = .ok (.iaload, 1) := by decide +kernel
theorem dX5_stepOf_24 : decode cX5_stepOf 24 = .ok (.isub, 1) := by decide +kernel
theorem dX5_stepOf_25 : decode cX5_stepOf 25 = .ok (.ireturn, 1) := by decide +kernel
theorem dX5_step_0 : decode cX5_step 0 = .ok (.aload_n 0, 1) := by decide +kernel
theorem dX5_step_1 : decode cX5_step 1 = .ok (.aload_n 0, 1) := by decide +kernel
theorem dX5_step_2 : decode cX5_step 2 = .ok (.iload_n 1, 1) := by decide +kernel
theorem dX5_step_3 : decode cX5_step 3 = .ok (.invokevirtual 52, 3) := by decide +kernel
theorem dX5_step_6 : decode cX5_step 6 = .ok (.ifCond .eq 23, 3) := by decide +kernel
theorem dX5_step_9 : decode cX5_step 9 = .ok (.iload_n 2, 1) := by decide +kernel
theorem dX5_step_10 : decode cX5_step 10 = .ok (.iconst 0, 1) := by decide +kernel
theorem dX5_step_11 : decode cX5_step 11 = .ok (.aload_n 0, 1) := by decide +kernel
theorem dX5_step_12 : decode cX5_step 12 = .ok (.getfield 16, 3) := by decide +kernel
theorem dX5_step_15 : decode cX5_step 15 = .ok (.iload_n 1, 1) := by decide +kernel
theorem dX5_step_16 : decode cX5_step 16 = .ok (.iaload, 1) := by decide +kernel
theorem dX5_step_17 : decode cX5_step 17 = .ok (.iconst 2, 1) := by decide +kernel
theorem dX5_step_18 : decode cX5_step 18 = .ok (.isub, 1) := by decide +kernel
theorem dX5_step_19 : decode cX5_step 19 = .ok (.invokestatic 48, 3) := by decide +kernel
theorem dX5_step_22 : decode cX5_step 22 = .ok (.ifCond .eq 7, 3) := by decide +kernel
theorem dX5_step_25 : decode cX5_step 25 = .ok (.iconst 0, 1) := by decide +kernel
theorem dX5_step_26 : decode cX5_step 26 = .ok (.goto 4, 3) := by decide +kernel
theorem dX5_step_29 : decode cX5_step 29 = .ok (.iconst 1, 1) := by decide +kernel
theorem dX5_step_30 : decode cX5_step 30 = .ok (.invokevirtual 60, 3) := by decide +kernel
theorem dX5_step_33 : decode cX5_step 33 = .ok (.ifCond .eq 12, 3) := by decide +kernel
theorem dX5_step_36 : decode cX5_step 36 = .ok (.aload_n 0, 1) := by decide +kernel
theorem dX5_step_37 : decode cX5_step 37 = .ok (.iload_n 1, 1) := by decide +kernel
theorem dX5_step_38 : decode cX5_step 38 = .ok (.iload_n 2, 1) := by decide +kernel
theorem dX5_step_39 : decode cX5_step 39 = .ok (.invokevirtual 73, 3) := by decide +kernel
theorem dX5_step_42 : decode cX5_step 42 = .ok (.goto 4, 3) := by decide +kernel
theorem dX5_step_45 : decode cX5_step 45 = .ok (.iconst 0, 1) := by decide +kernel
theorem dX5_step_46 : decode cX5_step 46 = .ok (.ireturn, 1) := by decide +kernel
theorem dX5_alike_0 : decode cX5_alike 0 = .ok (.iconst 0, 1) := by decide +kernel
theorem dX5_alike_1 : decode cX5_alike 1 = .ok (.istore 5, 2) := by decide +kernel
theorem dX5_alike_3 : decode cX5_alike 3 = .ok (.iload_n 2, 1) := by decide +kernel
theorem dX5_alike_4 : decode cX5_alike 4 = .ok (.iload 5, 2) := by decide +kernel
theorem dX5_alike_6 : decode cX5_alike 6 = .ok (.iadd, 1) := by decide +kernel
theorem dX5_alike_7 : decode cX5_alike 7 = .ok (.aload_n 0, 1) := by decide +kernel
theorem dX5_alike_8 : decode cX5_alike 8 = .ok (.getfield 16, 3) := by decide +kernel
theorem dX5_alike_11 : decode cX5_alike 11 = .ok (.iload_n 1, 1) := by decide +kernel
theorem dX5_alike_12 : decode cX5_alike 12 = .ok (.iaload, 1) := by decide +kernel
theorem dX5_alike_13 : decode cX5_alike 13 = .ok (.iconst 1, 1) := by decide +kernel
theorem dX5_alike_14 : decode cX5_alike 14 = .ok (.isub, 1) := by decide +kernel
theorem dX5_alike_15 : decode cX5_alike 15 = .ok (.if_icmp .ge 47, 3) := by decide +kernel
theorem dX5_alike_18 : decode cX5_alike 18 = .ok (.iload 4, 2) := by decide +kernel
theorem dX5_alike_20 : decode cX5_alike 20 = .ok (.iload 5, 2) := by decide +kernel
theorem dX5_alike_22 : decode cX5_alike 22 = .ok (.iadd, 1) := by decide +kernel
theorem dX5_alike_23 : decode cX5_alike 23 = .ok (.aload_n 0, 1) := by decide +kernel
theorem dX5_alike_24 : decode cX5_alike 24 = .ok (.getfield 16, 3) := by decide +kernel
theorem dX5_alike_27 : decode cX5_alike 27 = .ok (.iload_n 3, 1) := by decide +kernel
theorem dX5_alike_28 : decode cX5_alike 28 = .ok (.iaload, 1) := by decide +kernel
theorem dX5_alike_29 : decode cX5_alike 29 = .ok (.iconst 1, 1) := by decide +kernel
theorem dX5_alike_30 : decode cX5_alike 30 = .ok (.isub, 1) := by decide +kernel
theorem dX5_alike_31 : decode cX5_alike 31 = .ok (.if_icmp .ge 31, 3) := by decide +kernel
theorem dX5_alike_34 : decode cX5_alike 34 = .ok (.aload_n 0, 1) := by decide +kernel
theorem dX5_alike_35 : decode cX5_alike 35 = .ok (.iload_n 1, 1) := by decide +kernel
theorem dX5_alike_36 : decode cX5_alike 36 = .ok (.iload_n 2, 1) := by decide +kernel
theorem dX5_alike_37 : decode cX5_alike 37 = .ok (.iload 5, 2) := by decide +kernel
theorem dX5_alike_39 : decode cX5_alike 39 = .ok (.iadd, 1) := by decide +kernel
theorem dX5_alike_40 : decode cX5_alike 40 = .ok (.invokevirtual 73, 3) := by decide +kernel
theorem dX5_alike_43 : decode cX5_alike 43 = .ok (.aload_n 0, 1) := by decide +kernel
theorem dX5_alike_44 : decode cX5_alike 44 = .ok (.iload_n 3, 1) := by decide +kernel
theorem dX5_alike_45 : decode cX5_alike 45 = .ok (.iload 4, 2) := by decide +kernel
theorem dX5_alike_47 : decode cX5_alike 47 = .ok (.iload 5, 2) := by decide +kernel
theorem dX5_alike_49 : decode cX5_alike 49 = .ok (.iadd, 1) := by decide +kernel
theorem dX5_alike_50 : decode cX5_alike 50 = .ok (.invokevirtual 73, 3) := by decide +kernel
theorem dX5_alike_53 : decode cX5_alike 53 = .ok (.if_icmp .ne 9, 3) := by decide +kernel
theorem dX5_alike_56 : decode cX5_alike 56 = .ok (.iinc 5 1, 3) := by decide +kernel
theorem dX5_alike_59 : decode cX5_alike 59 = .ok (.goto (-56), 3) := by decide +kernel
theorem dX5_alike_62 : decode cX5_alike 62 = .ok (.iload 5, 2) := by decide +kernel
theorem dX5_alike_64 : decode cX5_alike 64 = .ok (.ireturn, 1) := by decide +kernel
theorem dX5_shared_0 : decode cX5_shared 0 = .ok (.aload_n 0, 1) := by decide +kernel
theorem dX5_shared_1 : decode cX5_shared 1 = .ok (.aload_n 0, 1) := by decide +kernel
theorem dX5_shared_2 : decode cX5_shared 2 = .ok (.iload_n 1, 1) := by decide +kernel
theorem dX5_shared_3 : decode cX5_shared 3 = .ok (.invokevirtual 52, 3) := by decide +kernel
theorem dX5_shared_6 : decode cX5_shared 6 = .ok (.ifCond .eq 15, 3) := by decide +kernel
theorem dX5_shared_9 : decode cX5_shared 9 = .ok (.aload_n 0, 1) := by decide +kernel
theorem dX5_shared_10 : decode cX5_shared 10 = .ok (.iload_n 2, 1) := by decide +kernel
theorem dX5_shared_11 : decode cX5_shared 11 = .ok (.invokevirtual 52, 3) := by decide +kernel
theorem dX5_shared_14 : decode cX5_shared 14 = .ok (.ifCond .eq 7, 3) := by decide +kernel
theorem dX5_shared_17 : decode cX5_shared 17 = .ok (.iconst 0, 1) := by decide +kernel
theorem dX5_shared_18 : decode cX5_shared 18 = .ok (.goto 4, 3) := by decide +kernel
theorem dX5_shared_21 : decode cX5_shared 21 = .ok (.iconst 1, 1) := by decide +kernel
theorem dX5_shared_22 : decode cX5_shared 22 = .ok (.invokevirtual 60, 3) := by decide +kernel
theorem dX5_shared_25 : decode cX5_shared 25 = .ok (.ifCond .ne 5, 3) := by decide +kernel
theorem dX5_shared_28 : decode cX5_shared 28 = .ok (.iconst 0, 1) := by decide +kernel
theorem dX5_shared_29 : decode cX5_shared 29 = .ok (.ireturn, 1) := by decide +kernel
theorem dX5_shared_30 : decode cX5_shared 30 = .ok (.iconst 0, 1) := by decide +kernel
theorem dX5_shared_31 : decode cX5_shared 31 = .ok (.istore_n 3, 1) := by decide +kernel
theorem dX5_shared_32 : decode cX5_shared 32 = .ok (.iconst 0, 1) := by decide +kernel
theorem dX5_shared_33 : decode cX5_shared 33 = .ok (.istore 4, 2) := by decide +kernel
theorem dX5_shared_35 : decode cX5_shared 35 = .ok (.iload 4, 2) := by decide +kernel
theorem dX5_shared_37 : decode cX5_shared 37 = .ok (.sipush 576, 3) := by decide +kernel
theorem dX5_shared_40 : decode cX5_shared 40 = .ok (.if_icmp .ge 40, 3) := by decide +kernel
theorem dX5_shared_43 : decode cX5_shared 43 = .ok (.aload_n 0, 1) := by decide +kernel
theorem dX5_shared_44 : decode cX5_shared 44 = .ok (.iload_n 1, 1) := by decide +kernel
theorem dX5_shared_45 : decode cX5_shared 45 = .ok (.iload 4, 2) := by decide +kernel
theorem dX5_shared_47 : decode cX5_shared 47 = .ok (.bipush 24, 2) := by decide +kernel
theorem dX5_shared_49 : decode cX5_shared 49 = .ok (.idiv, 1) := by decide +kernel
theorem dX5_shared_50 : decode cX5_shared 50 = .ok (.iload_n 2, 1) := by decide +kernel
theorem dX5_shared_51 : decode cX5_shared 51 = .ok (.iload 4, 2) := by decide +kernel
theorem dX5_shared_53 : decode cX5_shared 53 = .ok (.bipush 24, 2) := by decide +kernel
theorem dX5_shared_55 : decode cX5_shared 55 = .ok (.irem, 1) := by decide +kernel
theorem dX5_shared_56 : decode cX5_shared 56 = .ok (.invokevirtual 77, 3) := by decide +kernel
theorem dX5_shared_59 : decode cX5_shared 59 = .ok (.istore 5, 2) := by decide +kernel
theorem dX5_shared_61 : decode cX5_shared 61 = .ok (.iload 5, 2) := by decide +kernel
theorem dX5_shared_63 : decode cX5_shared 63 = .ok (.iload_n 3, 1) := by decide +kernel
theorem dX5_shared_64 : decode cX5_shared 64 = .ok (.if_icmp .le 8, 3) := by decide +kernel
theorem dX5_shared_67 : decode cX5_shared 67 = .ok (.iload 5, 2) := by decide +kernel
theorem dX5_shared_69 : decode cX5_shared 69 = .ok (.goto 4, 3) := by decide +kernel
theorem dX5_shared_72 : decode cX5_shared 72 = .ok (.iload_n 3, 1) := by decide +kernel
theorem dX5_shared_73 : decode cX5_shared 73 = .ok (.istore_n 3, 1) := by decide +kernel
theorem dX5_shared_74 : decode cX5_shared 74 = .ok (.iinc 4 1, 3) := by decide +kernel
theorem dX5_shared_77 : decode cX5_shared 77 = .ok (.goto (-42), 3) := by decide +kernel
theorem dX5_shared_80 : decode cX5_shared 80 = .ok (.iload_n 3, 1) := by decide +kernel
theorem dX5_shared_81 : decode cX5_shared 81 = .ok (.ireturn, 1) := by decide +kernel
theorem dX5_hum_0 : decode cX5_hum 0 = .ok (.aload_n 0, 1) := by decide +kernel
theorem dX5_hum_1 : decode cX5_hum 1 = .ok (.iload_n 1, 1) := by decide +kernel
theorem dX5_hum_2 : decode cX5_hum 2 = .ok (.iconst 0, 1) := by decide +kernel
theorem dX5_hum_3 : decode cX5_hum 3 = .ok (.bipush 60, 2) := by decide +kernel
theorem dX5_hum_5 : decode cX5_hum 5 = .ok (.invokestatic 48, 3) := by decide +kernel
theorem dX5_hum_8 : decode cX5_hum 8 = .ok (.ifCond .ne 7, 3) := by decide +kernel
theorem dX5_hum_11 : decode cX5_hum 11 = .ok (.iconst 1, 1) := by decide +kernel
theorem dX5_hum_12 : decode cX5_hum 12 = .ok (.goto 17, 3) := by decide +kernel
theorem dX5_hum_15 : decode cX5_hum 15 = .ok (.aload_n 0, 1) := by decide +kernel
theorem dX5_hum_16 : decode cX5_hum 16 = .ok (.getfield 81, 3) := by decide +kernel
theorem dX5_hum_19 : decode cX5_hum 19 = .ok (.bipush 12, 2) := by decide +kernel
theorem dX5_hum_21 : decode cX5_hum 21 = .ok (.if_icmp .ne 7, 3) := by decide +kernel
theorem dX5_hum_24 : decode cX5_hum 24 = .ok (.iconst 2, 1) := by decide +kernel
theorem dX5_hum_25 : decode cX5_hum 25 = .ok (.goto 4, 3) := by decide +kernel
theorem dX5_hum_28 : decode cX5_hum 28 = .ok (.iconst 0, 1) := by decide +kernel
theorem dX5_hum_29 : decode cX5_hum 29 = .ok (.invokevirtual 60, 3) := by decide +kernel
theorem dX5_hum_32 : decode cX5_hum 32 = .ok (.ifCond .ne 5, 3) := by decide +kernel
theorem dX5_hum_35 : decode cX5_hum 35 = .ok (.iconst 0, 1) := by decide +kernel
theorem dX5_hum_36 : decode cX5_hum 36 = .ok (.ireturn, 1) := by decide +kernel
theorem dX5_hum_37 : decode cX5_hum 37 = .ok (.aload_n 0, 1) := by decide +kernel
theorem dX5_hum_38 : decode cX5_hum 38 = .ok (.getfield 23, 3) := by decide +kernel
theorem dX5_hum_41 : decode cX5_hum 41 = .ok (.aload_n 0, 1) := by decide +kernel
theorem dX5_hum_42 : decode cX5_hum 42 = .ok (.getfield 81, 3) := by decide +kernel
theorem dX5_hum_45 : decode cX5_hum 45 = .ok (.iload_n 1, 1) := by decide +kernel
theorem dX5_hum_46 : decode cX5_hum 46 = .ok (.iastore, 1) := by decide +kernel
theorem dX5_hum_47 : decode cX5_hum 47 = .ok (.aload_n 0, 1) := by decide +kernel
theorem dX5_hum_48 : decode cX5_hum 48 = .ok (.dup, 1) := by decide +kernel
theorem dX5_hum_49 : decode cX5_hum 49 = .ok (.getfield 81, 3) := by decide +kernel
theorem dX5_hum_52 : decode cX5_hum 52 = .ok (.iconst 1, 1) := by decide +kernel
theorem dX5_hum_53 : decode cX5_hum 53 = .ok (.iadd, 1) := by decide +kernel
theorem dX5_hum_54 : decode cX5_hum 54 = .ok (.putfield 81, 3) := by decide +kernel
theorem dX5_hum_57 : decode cX5_hum 57 = .ok (.aload_n 0, 1) := by decide +kernel
theorem dX5_hum_58 : decode cX5_hum 58 = .ok (.getfield 81, 3) := by decide +kernel
theorem dX5_hum_61 : decode cX5_hum 61 = .ok (.ireturn, 1) := by decide +kernel
theorem dX5_hush_0 : decode cX5_hush 0 = .ok (.aload_n 0, 1) := by decide +kernel
theorem dX5_hush_1 : decode cX5_hush 1 = .ok (.iconst 0, 1) := by decide +kernel
theorem dX5_hush_2 : decode cX5_hush 2 = .ok (.putfield 42, 3) := by decide +kernel
theorem dX5_hush_5 : decode cX5_hush 5 = .ok (.aload_n 0, 1) := by decide +kernel
theorem dX5_hush_6 : decode cX5_hush 6 = .ok (.getfield 81, 3) := by decide +kernel
theorem dX5_hush_9 : decode cX5_hush 9 = .ok (.istore_n 1, 1) := by decide +kernel
theorem dX5_hush_10 : decode cX5_hush 10 = .ok (.aload_n 0, 1) := by decide +kernel
theorem dX5_hush_11 : decode cX5_hush 11 = .ok (.iconst 0, 1) := by decide +kernel
theorem dX5_hush_12 : decode cX5_hush 12 = .ok (.putfield 81, 3) := by decide +kernel
theorem dX5_hush_15 : decode cX5_hush 15 = .ok (.iload_n 1, 1) := by decide +kernel
theorem dX5_hush_16 : decode cX5_hush 16 = .ok (.ireturn, 1) := by decide +kernel
theorem dX5_hummed_0 : decode cX5_hummed 0 = .ok (.aload_n 0, 1) := by decide +kernel
theorem dX5_hummed_1 : decode cX5_hummed 1 = .ok (.iconst 0, 1) := by decide +kernel
theorem dX5_hummed_2 : decode cX5_hummed 2 = .ok (.putfield 42, 3) := by decide +kernel
theorem dX5_hummed_5 : decode cX5_hummed 5 = .ok (.aload_n 0, 1) := by decide +kernel
theorem dX5_hummed_6 : decode cX5_hummed 6 = .ok (.getfield 81, 3) := by decide +kernel
theorem dX5_hummed_9 : decode cX5_hummed 9 = .ok (.ireturn, 1) := by decide +kernel
theorem dX5_setCosts_0 : decode cX5_setCosts 0 = .ok (.aload_n 0, 1) := by decide +kernel
theorem dX5_setCosts_1 : decode cX5_setCosts 1 = .ok (.iload_n 1, 1) := by decide +kernel
theorem dX5_setCosts_2 : decode cX5_setCosts 2 = .ok (.iconst 0, 1) := by decide +kernel
theorem dX5_setCosts_3 : decode cX5_setCosts 3 = .ok (.bipush 20, 2) := by decide +kernel
theorem dX5_setCosts_5 : decode cX5_setCosts 5 = .ok (.invokestatic 48, 3) := by decide +kernel
theorem dX5_setCosts_8 : decode cX5_setCosts 8 = .ok (.ifCond .eq 27, 3) := by decide +kernel
theorem dX5_setCosts_11 : decode cX5_setCosts 11 = .ok (.iload_n 2, 1) := by decide +kernel
theorem dX5_setCosts_12 : decode cX5_setCosts 12 = .ok (.iconst 0, 1) := by decide +kernel
theorem dX5_setCosts_13 : decode cX5_setCosts 13 = .ok (.bipush 20, 2) := by decide +kernel
theorem dX5_setCosts_15 : decode cX5_setCosts 15 = .ok (.invokestatic 48, 3) := by decide +kernel
theorem dX5_setCosts_18 : decode cX5_setCosts 18 = .ok (.ifCond .eq 17, 3) := by decide +kernel
theorem dX5_setCosts_21 : decode cX5_setCosts 21 = .ok (.iload_n 3, 1) := by decide +kernel
theorem dX5_setCosts_22 : decode cX5_setCosts 22 = .ok (.iconst 0, 1) := by decide +kernel
theorem dX5_setCosts_23 : decode cX5_setCosts 23 = .ok (.bipush 20, 2) := by decide +kernel
theorem dX5_setCosts_25 : decode cX5_setCosts 25 = .ok (.invokestatic 48, 3) := by decide +kernel
theorem dX5_setCosts_28 : decode cX5_setCosts 28 = .ok (.ifCond .eq 7, 3) := by decide +kernel
theorem dX5_setCosts_31 : decode cX5_setCosts 31 = .ok (.iconst 0, 1) := by decide +kernel
theorem dX5_setCosts_32 : decode cX5_setCosts 32 = .ok (.goto 4, 3) := by decide +kernel
theorem dX5_setCosts_35 : decode cX5_setCosts 35 = .ok (.iconst 1, 1) := by decide +kernel
theorem dX5_setCosts_36 : decode cX5_setCosts 36 = .ok (.invokevirtual 60, 3) := by decide +kernel
theorem dX5_setCosts_39 : decode cX5_setCosts 39 = .ok (.ifCond .eq 18, 3) := by decide +kernel
theorem dX5_setCosts_42 : decode cX5_setCosts 42 = .ok (.aload_n 0, 1) := by decide +kernel
theorem dX5_setCosts_43 : decode cX5_setCosts 43 = .ok (.iload_n 1, 1) := by decide +kernel
theorem dX5_setCosts_44 : decode cX5_setCosts 44 = .ok (.putfield 26, 3) := by decide +kernel
theorem dX5_setCosts_47 : decode cX5_setCosts 47 = .ok (.aload_n 0, 1) := by decide +kernel
theorem dX5_setCosts_48 : decode cX5_setCosts 48 = .ok (.iload_n 2, 1) := by decide +kernel
theorem dX5_setCosts_49 : decode cX5_setCosts 49 = .ok (.putfield 30, 3) := by decide +kernel
theorem dX5_setCosts_52 : decode cX5_setCosts 52 = .ok (.aload_n 0, 1) := by decide +kernel
theorem dX5_setCosts_53 : decode cX5_setCosts 53 = .ok (.iload_n 3, 1) := by decide +kernel
theorem dX5_setCosts_54 : decode cX5_setCosts 54 = .ok (.putfield 33, 3) := by decide +kernel
theorem dX5_setCosts_57 : decode cX5_setCosts 57 = .ok (.return_, 1) := by decide +kernel
theorem dX5_costOfNotes_0 : decode cX5_costOfNotes 0 = .ok (.iconst 0, 1) := by decide +kernel
theorem dX5_costOfNotes_1 : decode cX5_costOfNotes 1 = .ok (.istore 4, 2) := by decide +kernel
theorem dX5_costOfNotes_3 : decode cX5_costOfNotes 3 = .ok (.iload_n 2, 1) := by decide +kernel
theorem dX5_costOfNotes_4 : decode cX5_costOfNotes 4 = .ok (.iconst 1, 1) := by decide +kernel
theorem dX5_costOfNotes_5 : decode cX5_costOfNotes 5 = .ok (.iadd, 1) := by decide +kernel
theorem dX5_costOfNotes_6 : decode cX5_costOfNotes 6 = .ok (.istore 5, 2) := by decide +kernel
theorem dX5_costOfNotes_8 : decode cX5_costOfNotes 8 = .ok (.iload 5, 2) := by decide +kernel
theorem dX5_costOfNotes_10 : decode cX5_costOfNotes 10 = .ok (.iload_n 3, 1) := by decide +kernel
theorem dX5_costOfNotes_11 : decode cX5_costOfNotes 11 = .ok (.if_icmp .ge 31, 3) := by decide +kernel
theorem dX5_costOfNotes_14 : decode cX5_costOfNotes 14 = .ok (.iload 4, 2) := by decide +kernel
theorem dX5_costOfNotes_16 : decode cX5_costOfNotes 16 = .ok (.aload_n 0, 1) := by decide +kernel
theorem dX5_costOfNotes_17 : decode cX5_costOfNotes 17 = .ok (.getfield 30, 3) := by decide +kernel
theorem dX5_costOfNotes_20 : decode cX5_costOfNotes 20 = .ok (.aload_n 0, 1) := by decide +kernel
theorem dX5_costOfNotes_21 : decode cX5_costOfNotes 21 = .ok (.getfield 13, 3) := by decide +kernel
theorem dX5_costOfNotes_24 : decode cX5_costOfNotes 24 = .ok (.bipush 24, 2) := by decide +kernel
theorem dX5_costOfNotes_26 : decode cX5_costOfNotes 26 = .ok (.iload_n 1, 1) := by decide +kernel
theorem dX5_costOfNotes_27 : decode cX5_costOfNotes 27 = .ok (.imul, 1) := by decide +kernel
theorem dX5_costOfNotes_28 : decode cX5_costOfNotes 28 = .ok (.iload 5, 2) := by decide +kernel
theorem dX5_costOfNotes_30 : decode cX5_costOfNotes 30 = .ok (.iadd, 1) := by decide +kernel
theorem dX5_costOfNotes_31 : decode cX5_costOfNotes 31 = .ok (.iaload, 1) := by decide +kernel
theorem dX5_costOfNotes_32 : decode cX5_costOfNotes 32 = .ok (.imul, 1) := by decide +kernel
theorem dX5_costOfNotes_33 : decode cX5_costOfNotes 33 = .ok (.iadd, 1) := by decide +kernel
theorem dX5_costOfNotes_34 : decode cX5_costOfNotes 34 = .ok (.istore 4, 2) := by decide +kernel
theorem dX5_costOfNotes_36 : decode cX5_costOfNotes 36 = .ok (.iinc 5 1, 3) := by decide +kernel
theorem dX5_costOfNotes_39 : decode cX5_costOfNotes 39 = .ok (.goto (-31), 3) := by decide +kernel
theorem dX5_costOfNotes_42 : decode cX5_costOfNotes 42 = .ok (.iload 4, 2) := by decide +kernel
theorem dX5_costOfNotes_44 : decode cX5_costOfNotes 44 = .ok (.ireturn, 1) := by decide +kernel
theorem dX5_costOfPitches_0 : decode cX5_costOfPitches 0 = .ok (.iconst 0, 1) := by decide +kernel
theorem dX5_costOfPitches_1 : decode cX5_costOfPitches 1 = .ok (.istore_n 3, 1) := by decide +kernel
theorem dX5_costOfPitches_2 : decode cX5_costOfPitches 2 = .ok (.iload_n 1, 1) := by decide +kernel
theorem dX5_costOfPitches_3 : decode cX5_costOfPitches 3 = .ok (.iconst 1, 1) := by decide +kernel
theorem dX5_costOfPitches_4 : decode cX5_costOfPitches 4 = .ok (.iadd, 1) := by decide +kernel
theorem dX5_costOfPitches_5 : decode cX5_costOfPitches 5 = .ok (.istore 4, 2) := by decide +kernel
theorem dX5_costOfPitches_7 : decode cX5_costOfPitches 7 = .ok (.iload 4, 2) := by decide +kernel
theorem dX5_costOfPitches_9 : decode cX5_costOfPitches 9 = .ok (.iload_n 2, 1) := by decide +kernel
theorem dX5_costOfPitches_10 : decode cX5_costOfPitches 10 = .ok (.if_icmp .ge 44, 3) := by decide +kernel
theorem dX5_costOfPitches_13 : decode cX5_costOfPitches 13 = .ok (.iload_n 3, 1) := by decide +kernel
theorem dX5_costOfPitches_14 : decode cX5_costOfPitches 14 = .ok (.aload_n 0, 1) := by decide +kernel
theorem dX5_costOfPitches_15 : decode cX5_costOfPitches 15 = .ok (.getfield 23, 3) := by decide +kernel
theorem dX5_costOfPitches_18 : decode cX5_costOfPitches 18 = .ok (.iload 4, 2) := by decide +kernel
theorem dX5_costOfPitches_20 : decode cX5_costOfPitches 20 = .ok (.iaload, 1) := by decide +kernel
theorem dX5_costOfPitches_21 : decode cX5_costOfPitches 21 = .ok (.aload_n 0, 1) := by decide +kernel
theorem dX5_costOfPitches_22 : decode cX5_costOfPitches 22 = .ok (.getfield 23, 3) := by decide +kernel
theorem dX5_costOfPitches_25 : decode cX5_costOfPitches 25 = .ok (.iload 4, 2) := by decide +kernel
theorem dX5_costOfPitches_27 : decode cX5_costOfPitches 27 = .ok (.iconst 1, 1) := by decide +kernel
theorem dX5_costOfPitches_28 : decode cX5_costOfPitches 28 = .ok (.isub, 1) := by decide +kernel
theorem dX5_costOfPitches_29 : decode cX5_costOfPitches 29 = .ok (.iaload, 1) := by decide +kernel
theorem dX5_costOfPitches_30 : decode cX5_costOfPitches 30 = .ok (.if_icmp .ne 10, 3) := by decide +kernel
theorem dX5_costOfPitches_33 : decode cX5_costOfPitches 33 = .ok (.aload_n 0, 1) := by decide +kernel
theorem dX5_costOfPitches_34 : decode cX5_costOfPitches 34 = .ok (.getfield 33, 3) := by decide +kernel
theorem dX5_costOfPitches_37 : decode cX5_costOfPitches 37 = .ok (.goto 9, 3) := by decide +kernel
theorem dX5_costOfPitches_40 : decode cX5_costOfPitches 40 = .ok (.iconst 3, 1) := by decide +kernel
theorem dX5_costOfPitches_41 : decode cX5_costOfPitches 41 = .ok (.aload_n 0, 1) := by decide +kernel
theorem dX5_costOfPitches_42 : decode cX5_costOfPitches 42 = .ok (.getfield 33, 3) := by decide +kernel
theorem dX5_costOfPitches_45 : decode cX5_costOfPitches 45 = .ok (.imul, 1) := by decide +kernel
theorem dX5_costOfPitches_46 : decode cX5_costOfPitches 46 = .ok (.iadd, 1) := by decide +kernel
theorem dX5_costOfPitches_47 : decode cX5_costOfPitches 47 = .ok (.istore_n 3, 1) := by decide +kernel
theorem dX5_costOfPitches_48 : decode cX5_costOfPitches 48 = .ok (.iinc 4 1, 3) := by decide +kernel
theorem dX5_costOfPitches_51 : decode cX5_costOfPitches 51 = .ok (.goto (-44), 3) := by decide +kernel
theorem dX5_costOfPitches_54 : decode cX5_costOfPitches 54 = .ok (.iload_n 3, 1) := by decide +kernel
theorem dX5_costOfPitches_55 : decode cX5_costOfPitches 55 = .ok (.ireturn, 1) := by decide +kernel
theorem dX5_laid_0 : decode cX5_laid 0 = .ok (.iload 4, 2) := by decide +kernel
theorem dX5_laid_2 : decode cX5_laid 2 = .ok (.ifCond .lt 26, 3) := by decide +kernel
theorem dX5_laid_5 : decode cX5_laid 5 = .ok (.iload 5, 2) := by decide +kernel
theorem dX5_laid_7 : decode cX5_laid 7 = .ok (.ifCond .lt 21, 3) := by decide +kernel
theorem dX5_laid_10 : decode cX5_laid 10 = .ok (.aload_n 0, 1) := by decide +kernel
theorem dX5_laid_11 : decode cX5_laid 11 = .ok (.getfield 36, 3) := by decide +kernel
theorem dX5_laid_14 : decode cX5_laid 14 = .ok (.bipush 24, 2) := by decide +kernel
theorem dX5_laid_16 : decode cX5_laid 16 = .ok (.iload 4, 2) := by decide +kernel
theorem dX5_laid_18 : decode cX5_laid 18 = .ok (.imul, 1) := by decide +kernel
theorem dX5_laid_19 : decode cX5_laid 19 = .ok (.iload 5, 2) := by decide +kernel
theorem dX5_laid_21 : decode cX5_laid 21 = .ok (.iadd, 1) := by decide +kernel
theorem dX5_laid_22 : decode cX5_laid 22 = .ok (.iaload, 1) := by decide +kernel
theorem dX5_laid_23 : decode cX5_laid 23 = .ok (.ldc 84, 2) := by decide +kernel
theorem dX5_laid_25 : decode cX5_laid 25 = .ok (.if_icmp .ne 6, 3) := by decide +kernel
theorem dX5_laid_28 : decode cX5_laid 28 = .ok (.ldc 84, 2) := by decide +kernel
theorem dX5_laid_30 : decode cX5_laid 30 = .ok (.ireturn, 1) := by decide +kernel
theorem dX5_laid_31 : decode cX5_laid 31 = .ok (.aload_n 0, 1) := by decide +kernel
theorem dX5_laid_32 : decode cX5_laid 32 = .ok (.getfield 7, 3) := by decide +kernel
theorem dX5_laid_35 : decode cX5_laid 35 = .ok (.bipush 24, 2) := by decide +kernel
theorem dX5_laid_37 : decode cX5_laid 37 = .ok (.iload_n 1, 1) := by decide +kernel
theorem dX5_laid_38 : decode cX5_laid 38 = .ok (.imul, 1) := by decide +kernel
theorem dX5_laid_39 : decode cX5_laid 39 = .ok (.iload_n 3, 1) := by decide +kernel
theorem dX5_laid_40 : decode cX5_laid 40 = .ok (.iadd, 1) := by decide +kernel
theorem dX5_laid_41 : decode cX5_laid 41 = .ok (.iaload, 1) := by decide +kernel
theorem dX5_laid_42 : decode cX5_laid 42 = .ok (.aload_n 0, 1) := by decide +kernel
theorem dX5_laid_43 : decode cX5_laid 43 = .ok (.getfield 7, 3) := by decide +kernel
theorem dX5_laid_46 : decode cX5_laid 46 = .ok (.bipush 24, 2) := by decide +kernel
theorem dX5_laid_48 : decode cX5_laid 48 = .ok (.iload_n 1, 1) := by decide +kernel
theorem dX5_laid_49 : decode cX5_laid 49 = .ok (.imul, 1) := by decide +kernel
theorem dX5_laid_50 : decode cX5_laid 50 = .ok (.iload 5, 2) := by decide +kernel
theorem dX5_laid_52 : decode cX5_laid 52 = .ok (.iadd, 1) := by decide +kernel
theorem dX5_laid_53 : decode cX5_laid 53 = .ok (.iaload, 1) := by decide +kernel
theorem dX5_laid_54 : decode cX5_laid 54 = .ok (.isub, 1) := by decide +kernel
theorem dX5_laid_55 : decode cX5_laid 55 = .ok (.aload_n 0, 1) := by decide +kernel
theorem dX5_laid_56 : decode cX5_laid 56 = .ok (.getfield 23, 3) := by decide +kernel
theorem dX5_laid_59 : decode cX5_laid 59 = .ok (.iload_n 2, 1) := by decide +kernel
theorem dX5_laid_60 : decode cX5_laid 60 = .ok (.iaload, 1) := by decide +kernel
theorem dX5_laid_61 : decode cX5_laid 61 = .ok (.isub, 1) := by decide +kernel
theorem dX5_laid_62 : decode cX5_laid 62 = .ok (.aload_n 0, 1) := by decide +kernel
theorem dX5_laid_63 : decode cX5_laid 63 = .ok (.getfield 23, 3) := by decide +kernel
theorem dX5_laid_66 : decode cX5_laid 66 = .ok (.iload 4, 2) := by decide +kernel
theorem dX5_laid_68 : decode cX5_laid 68 = .ok (.iaload, 1) := by decide +kernel
theorem dX5_laid_69 : decode cX5_laid 69 = .ok (.iadd, 1) := by decide +kernel
theorem dX5_laid_70 : decode cX5_laid 70 = .ok (.istore 6, 2) := by decide +kernel
theorem dX5_laid_72 : decode cX5_laid 72 = .ok (.aload_n 0, 1) := by decide +kernel
theorem dX5_laid_73 : decode cX5_laid 73 = .ok (.getfield 36, 3) := by decide +kernel
theorem dX5_laid_76 : decode cX5_laid 76 = .ok (.bipush 24, 2) := by decide +kernel
theorem dX5_laid_78 : decode cX5_laid 78 = .ok (.iload 4, 2) := by decide +kernel
theorem dX5_laid_80 : decode cX5_laid 80 = .ok (.imul, 1) := by decide +kernel
theorem dX5_laid_81 : decode cX5_laid 81 = .ok (.iload 5, 2) := by decide +kernel
theorem dX5_laid_83 : decode cX5_laid 83 = .ok (.iadd, 1) := by decide +kernel
theorem dX5_laid_84 : decode cX5_laid 84 = .ok (.iaload, 1) := by decide +kernel
theorem dX5_laid_85 : decode cX5_laid 85 = .ok (.aload_n 0, 1) := by decide +kernel
theorem dX5_laid_86 : decode cX5_laid 86 = .ok (.getfield 26, 3) := by decide +kernel
theorem dX5_laid_89 : decode cX5_laid 89 = .ok (.iload 6, 2) := by decide +kernel
theorem dX5_laid_91 : decode cX5_laid 91 = .ok (.ifCond .ge 9, 3) := by decide +kernel
theorem dX5_laid_94 : decode cX5_laid 94 = .ok (.iload 6, 2) := by decide +kernel
theorem dX5_laid_96 : decode cX5_laid 96 = .ok (.ineg, 1) := by decide +kernel
theorem dX5_laid_97 : decode cX5_laid 97 = .ok (.goto 5, 3) := by decide +kernel
theorem dX5_laid_100 : decode cX5_laid 100 = .ok (.iload 6, 2) := by decide +kernel
theorem dX5_laid_102 : decode cX5_laid 102 = .ok (.imul, 1) := by decide +kernel
theorem dX5_laid_103 : decode cX5_laid 103 = .ok (.iadd, 1) := by decide +kernel
theorem dX5_laid_104 : decode cX5_laid 104 = .ok (.aload_n 0, 1) := by decide +kernel
theorem dX5_laid_105 : decode cX5_laid 105 = .ok (.iload_n 1, 1) := by decide +kernel
theorem dX5_laid_106 : decode cX5_laid 106 = .ok (.iload 5, 2) := by decide +kernel
theorem dX5_laid_108 : decode cX5_laid 108 = .ok (.iload_n 3, 1) := by decide +kernel
theorem dX5_laid_109 : decode cX5_laid 109 = .ok (.invokevirtual 85, 3) := by decide +kernel
theorem dX5_laid_112 : decode cX5_laid 112 = .ok (.iadd, 1) := by decide +kernel
theorem dX5_laid_113 : decode cX5_laid 113 = .ok (.aload_n 0, 1) := by decide +kernel
theorem dX5_laid_114 : decode cX5_laid 114 = .ok (.iload 4, 2) := by decide +kernel
theorem dX5_laid_116 : decode cX5_laid 116 = .ok (.iload_n 2, 1) := by decide +kernel
theorem dX5_laid_117 : decode cX5_laid 117 = .ok (.invokevirtual 89, 3) := by decide +kernel
theorem dX5_laid_120 : decode cX5_laid 120 = .ok (.iadd, 1) := by decide +kernel
theorem dX5_laid_121 : decode cX5_laid 121 = .ok (.ireturn, 1) := by decide +kernel
theorem dX5_least_0 : decode cX5_least 0 = .ok (.iload_n 0, 1) := by decide +kernel
theorem dX5_least_1 : decode cX5_least 1 = .ok (.iload_n 1, 1) := by decide +kernel
theorem dX5_least_2 : decode cX5_least 2 = .ok (.if_icmp .ge 7, 3) := by decide +kernel
theorem dX5_least_5 : decode cX5_least 5 = .ok (.iload_n 0, 1) := by decide +kernel
theorem dX5_least_6 : decode cX5_least 6 = .ok (.goto 4, 3) := by decide +kernel
theorem dX5_least_9 : decode cX5_least 9 = .ok (.iload_n 1, 1) := by decide +kernel
theorem dX5_least_10 : decode cX5_least 10 = .ok (.ireturn, 1) := by decide +kernel
theorem dX5_costOf_0 : decode cX5_costOf 0 = .ok (.ldc 84, 2) := by decide +kernel
theorem dX5_costOf_2 : decode cX5_costOf 2 = .ok (.istore_n 2, 1) := by decide +kernel
theorem dX5_costOf_3 : decode cX5_costOf 3 = .ok (.iconst 0, 1) := by decide +kernel
theorem dX5_costOf_4 : decode cX5_costOf 4 = .ok (.istore_n 3, 1) := by decide +kernel
theorem dX5_costOf_5 : decode cX5_costOf 5 = .ok (.iload_n 3, 1) := by decide +kernel
theorem dX5_costOf_6 : decode cX5_costOf 6 = .ok (.bipush 24, 2) := by decide +kernel
theorem dX5_costOf_8 : decode cX5_costOf 8 = .ok (.aload_n 0, 1) := by decide +kernel
theorem dX5_costOf_9 : decode cX5_costOf 9 = .ok (.getfield 81, 3) := by decide +kernel
theorem dX5_costOf_12 : decode cX5_costOf 12 = .ok (.imul, 1) := by decide +kernel
theorem dX5_costOf_13 : decode cX5_costOf 13 = .ok (.if_icmp .ge 163, 3) := by decide +kernel
theorem dX5_costOf_16 : decode cX5_costOf 16 = .ok (.iload_n 3, 1) := by decide +kernel
theorem dX5_costOf_17 : decode cX5_costOf 17 = .ok (.bipush 24, 2) := by decide +kernel
theorem dX5_costOf_19 : decode cX5_costOf 19 = .ok (.idiv, 1) := by decide +kernel
theorem dX5_costOf_20 : decode cX5_costOf 20 = .ok (.istore 4, 2) := by decide +kernel
theorem dX5_costOf_22 : decode cX5_costOf 22 = .ok (.iload_n 3, 1) := by decide +kernel
theorem dX5_costOf_23 : decode cX5_costOf 23 = .ok (.bipush 24, 2) := by decide +kernel
theorem dX5_costOf_25 : decode cX5_costOf 25 = .ok (.irem, 1) := by decide +kernel
theorem dX5_costOf_26 : decode cX5_costOf 26 = .ok (.istore 5, 2) := by decide +kernel
theorem dX5_costOf_28 : decode cX5_costOf 28 = .ok (.aload_n 0, 1) := by decide +kernel
theorem dX5_costOf_29 : decode cX5_costOf 29 = .ok (.getfield 36, 3) := by decide +kernel
theorem dX5_costOf_32 : decode cX5_costOf 32 = .ok (.iload_n 3, 1) := by decide +kernel
theorem dX5_costOf_33 : decode cX5_costOf 33 = .ok (.iload_n 3, 1) := by decide +kernel
theorem dX5_costOf_34 : decode cX5_costOf 34 = .ok (.ifCond .ne 7, 3) := by decide +kernel
theorem dX5_costOf_37 : decode cX5_costOf 37 = .ok (.iconst 0, 1) := by decide +kernel
theorem dX5_costOf_38 : decode cX5_costOf 38 = .ok (.goto 5, 3) := by decide +kernel
theorem dX5_costOf_41 : decode cX5_costOf 41 = .ok (.ldc 84, 2) := by decide +kernel
theorem dX5_costOf_43 : decode cX5_costOf 43 = .ok (.iastore, 1) := by decide +kernel
theorem dX5_costOf_44 : decode cX5_costOf 44 = .ok (.iconst 0, 1) := by decide +kernel
theorem dX5_costOf_45 : decode cX5_costOf 45 = .ok (.istore 6, 2) := by decide +kernel
theorem dX5_costOf_47 : decode cX5_costOf 47 = .ok (.iload 6, 2) := by decide +kernel
theorem dX5_costOf_49 : decode cX5_costOf 49 = .ok (.iconst 2, 1) := by decide +kernel
theorem dX5_costOf_50 : decode cX5_costOf 50 = .ok (.if_icmp .gt 94, 3) := by decide +kernel
theorem dX5_costOf_53 : decode cX5_costOf 53 = .ok (.iload 5, 2) := by decide +kernel
theorem dX5_costOf_55 : decode cX5_costOf 55 = .ok (.aload_n 0, 1) := by decide +kernel
theorem dX5_costOf_56 : decode cX5_costOf 56 = .ok (.getfield 16, 3) := by decide +kernel
theorem dX5_costOf_59 : decode cX5_costOf 59 = .ok (.iload_n 1, 1) := by decide +kernel
theorem dX5_costOf_60 : decode cX5_costOf 60 = .ok (.iaload, 1) := by decide +kernel
theorem dX5_costOf_61 : decode cX5_costOf 61 = .ok (.if_icmp .ge 83, 3) := by decide +kernel
theorem dX5_costOf_64 : decode cX5_costOf 64 = .ok (.iload_n 3, 1) := by decide +kernel
theorem dX5_costOf_65 : decode cX5_costOf 65 = .ok (.ifCond .le 79, 3) := by decide +kernel
theorem dX5_costOf_68 : decode cX5_costOf 68 = .ok (.aload_n 0, 1) := by decide +kernel
theorem dX5_costOf_69 : decode cX5_costOf 69 = .ok (.getfield 36, 3) := by decide +kernel
theorem dX5_costOf_72 : decode cX5_costOf 72 = .ok (.iload_n 3, 1) := by decide +kernel
theorem dX5_costOf_73 : decode cX5_costOf 73 = .ok (.aload_n 0, 1) := by decide +kernel
theorem dX5_costOf_74 : decode cX5_costOf 74 = .ok (.getfield 36, 3) := by decide +kernel
theorem dX5_costOf_77 : decode cX5_costOf 77 = .ok (.iload_n 3, 1) := by decide +kernel
theorem dX5_costOf_78 : decode cX5_costOf 78 = .ok (.iaload, 1) := by decide +kernel
theorem dX5_costOf_79 : decode cX5_costOf 79 = .ok (.aload_n 0, 1) := by decide +kernel
theorem dX5_costOf_80 : decode cX5_costOf 80 = .ok (.iload_n 1, 1) := by decide +kernel
theorem dX5_costOf_81 : decode cX5_costOf 81 = .ok (.iload 4, 2) := by decide +kernel
theorem dX5_costOf_83 : decode cX5_costOf 83 = .ok (.iload 5, 2) := by decide +kernel
theorem dX5_costOf_85 : decode cX5_costOf 85 = .ok (.iload 4, 2) := by decide +kernel
theorem dX5_costOf_87 : decode cX5_costOf 87 = .ok (.iconst 1, 1) := by decide +kernel
theorem dX5_costOf_88 : decode cX5_costOf 88 = .ok (.isub, 1) := by decide +kernel
theorem dX5_costOf_89 : decode cX5_costOf 89 = .ok (.iload 6, 2) := by decide +kernel
theorem dX5_costOf_91 : decode cX5_costOf 91 = .ok (.isub, 1) := by decide +kernel
theorem dX5_costOf_92 : decode cX5_costOf 92 = .ok (.iload 5, 2) := by decide +kernel
theorem dX5_costOf_94 : decode cX5_costOf 94 = .ok (.iconst 1, 1) := by decide +kernel
theorem dX5_costOf_95 : decode cX5_costOf 95 = .ok (.isub, 1) := by decide +kernel
theorem dX5_costOf_96 : decode cX5_costOf 96 = .ok (.invokevirtual 92, 3) := by decide +kernel
theorem dX5_costOf_99 : decode cX5_costOf 99 = .ok (.invokestatic 96, 3) := by decide +kernel
theorem dX5_costOf_102 : decode cX5_costOf 102 = .ok (.iastore, 1) := by decide +kernel
theorem dX5_costOf_103 : decode cX5_costOf 103 = .ok (.aload_n 0, 1) := by decide +kernel
theorem dX5_costOf_104 : decode cX5_costOf 104 = .ok (.getfield 36, 3) := by decide +kernel
theorem dX5_costOf_107 : decode cX5_costOf 107 = .ok (.iload_n 3, 1) := by decide +kernel
theorem dX5_costOf_108 : decode cX5_costOf 108 = .ok (.aload_n 0, 1) := by decide +kernel
theorem dX5_costOf_109 : decode cX5_costOf 109 = .ok (.getfield 36, 3) := by decide +kernel
theorem dX5_costOf_112 : decode cX5_costOf 112 = .ok (.iload_n 3, 1) := by decide +kernel
theorem dX5_costOf_113 : decode cX5_costOf 113 = .ok (.iaload, 1) := by decide +kernel
theorem dX5_costOf_114 : decode cX5_costOf 114 = .ok (.aload_n 0, 1) := by decide +kernel
theorem dX5_costOf_115 : decode cX5_costOf 115 = .ok (.iload_n 1, 1) := by decide +kernel
theorem dX5_costOf_116 : decode cX5_costOf 116 = .ok (.iload 4, 2) := by decide +kernel
theorem dX5_costOf_118 : decode cX5_costOf 118 = .ok (.iload 5, 2) := by decide +kernel
theorem dX5_costOf_120 : decode cX5_costOf 120 = .ok (.iload 4, 2) := by decide +kernel
theorem dX5_costOf_122 : decode cX5_costOf 122 = .ok (.iconst 1, 1) := by decide +kernel
theorem dX5_costOf_123 : decode cX5_costOf 123 = .ok (.isub, 1) := by decide +kernel
theorem dX5_costOf_124 : decode cX5_costOf 124 = .ok (.iload 5, 2) := by decide +kernel
theorem dX5_costOf_126 : decode cX5_costOf 126 = .ok (.iconst 1, 1) := by decide +kernel
theorem dX5_costOf_127 : decode cX5_costOf 127 = .ok (.isub, 1) := by decide +kernel
theorem dX5_costOf_128 : decode cX5_costOf 128 = .ok (.iload 6, 2) := by decide +kernel
theorem dX5_costOf_130 : decode cX5_costOf 130 = .ok (.isub, 1) := by decide +kernel
theorem dX5_costOf_131 : decode cX5_costOf 131 = .ok (.invokevirtual 92, 3) := by decide +kernel
theorem dX5_costOf_134 : decode cX5_costOf 134 = .ok (.invokestatic 96, 3) := by decide +kernel
theorem dX5_costOf_137 : decode cX5_costOf 137 = .ok (.iastore, 1) := by decide +kernel
theorem dX5_costOf_138 : decode cX5_costOf 138 = .ok (.iinc 6 1, 3) := by decide +kernel
theorem dX5_costOf_141 : decode cX5_costOf 141 = .ok (.goto (-94), 3) := by decide +kernel
theorem dX5_costOf_144 : decode cX5_costOf 144 = .ok (.iload 4, 2) := by decide +kernel
theorem dX5_costOf_146 : decode cX5_costOf 146 = .ok (.aload_n 0, 1) := by decide +kernel
theorem dX5_costOf_147 : decode cX5_costOf 147 = .ok (.getfield 81, 3) := by decide +kernel
theorem dX5_costOf_150 : decode cX5_costOf 150 = .ok (.iconst 1, 1) := by decide +kernel
theorem dX5_costOf_151 : decode cX5_costOf 151 = .ok (.isub, 1) := by decide +kernel
theorem dX5_costOf_152 : decode cX5_costOf 152 = .ok (.if_icmp .ne 16, 3) := by decide +kernel
theorem dX5_costOf_155 : decode cX5_costOf 155 = .ok (.iload_n 2, 1) := by decide +kernel
theorem dX5_costOf_156 : decode cX5_costOf 156 = .ok (.aload_n 0, 1) := by decide +kernel
theorem dX5_costOf_157 : decode cX5_costOf 157 = .ok (.getfield 36, 3) := by decide +kernel
theorem dX5_costOf_160 : decode cX5_costOf 160 = .ok (.iload_n 3, 1) := by decide +kernel
theorem dX5_costOf_161 : decode cX5_costOf 161 = .ok (.iaload, 1) := by decide +kernel
theorem dX5_costOf_162 : decode cX5_costOf 162 = .ok (.invokestatic 96, 3) := by decide +kernel
theorem dX5_costOf_165 : decode cX5_costOf 165 = .ok (.goto 4, 3) := by decide +kernel
theorem dX5_costOf_168 : decode cX5_costOf 168 = .ok (.iload_n 2, 1) := by decide +kernel
theorem dX5_costOf_169 : decode cX5_costOf 169 = .ok (.istore_n 2, 1) := by decide +kernel
theorem dX5_costOf_170 : decode cX5_costOf 170 = .ok (.iinc 3 1, 3) := by decide +kernel
theorem dX5_costOf_173 : decode cX5_costOf 173 = .ok (.goto (-168), 3) := by decide +kernel
theorem dX5_costOf_176 : decode cX5_costOf 176 = .ok (.iload_n 2, 1) := by decide +kernel
theorem dX5_costOf_177 : decode cX5_costOf 177 = .ok (.ldc 84, 2) := by decide +kernel
theorem dX5_costOf_179 : decode cX5_costOf 179 = .ok (.if_icmp .ne 7, 3) := by decide +kernel
theorem dX5_costOf_182 : decode cX5_costOf 182 = .ok (.iconst (-1), 1) := by decide +kernel
theorem dX5_costOf_183 : decode cX5_costOf 183 = .ok (.goto 4, 3) := by decide +kernel
theorem dX5_costOf_186 : decode cX5_costOf 186 = .ok (.iload_n 2, 1) := by decide +kernel
theorem dX5_costOf_187 : decode cX5_costOf 187 = .ok (.ireturn, 1) := by decide +kernel
theorem dX5_cost_0 : decode cX5_cost 0 = .ok (.aload_n 0, 1) := by decide +kernel
theorem dX5_cost_1 : decode cX5_cost 1 = .ok (.aload_n 0, 1) := by decide +kernel
theorem dX5_cost_2 : decode cX5_cost 2 = .ok (.iload_n 1, 1) := by decide +kernel
theorem dX5_cost_3 : decode cX5_cost 3 = .ok (.invokevirtual 67, 3) := by decide +kernel
theorem dX5_cost_6 : decode cX5_cost 6 = .ok (.ifCond .eq 7, 3) := by decide +kernel
theorem dX5_cost_9 : decode cX5_cost 9 = .ok (.iconst 0, 1) := by decide +kernel
theorem dX5_cost_10 : decode cX5_cost 10 = .ok (.goto 4, 3) := by decide +kernel
theorem dX5_cost_13 : decode cX5_cost 13 = .ok (.iconst 1, 1) := by decide +kernel
theorem dX5_cost_14 : decode cX5_cost 14 = .ok (.invokevirtual 60, 3) := by decide +kernel
theorem dX5_cost_17 : decode cX5_cost 17 = .ok (.ifCond .eq 11, 3) := by decide +kernel
theorem dX5_cost_20 : decode cX5_cost 20 = .ok (.aload_n 0, 1) := by decide +kernel
theorem dX5_cost_21 : decode cX5_cost 21 = .ok (.iload_n 1, 1) := by decide +kernel
theorem dX5_cost_22 : decode cX5_cost 22 = .ok (.invokevirtual 99, 3) := by decide +kernel
theorem dX5_cost_25 : decode cX5_cost 25 = .ok (.goto 4, 3) := by decide +kernel
theorem dX5_cost_28 : decode cX5_cost 28 = .ok (.iconst 0, 1) := by decide +kernel
theorem dX5_cost_29 : decode cX5_cost 29 = .ok (.ireturn, 1) := by decide +kernel
theorem dX5_costByAll_0 : decode cX5_costByAll 0 = .ok (.aload_n 0, 1) := by decide +kernel
theorem dX5_costByAll_1 : decode cX5_costByAll 1 = .ok (.aload_n 0, 1) := by decide +kernel
theorem dX5_costByAll_2 : decode cX5_costByAll 2 = .ok (.iload_n 1, 1) := by decide +kernel
theorem dX5_costByAll_3 : decode cX5_costByAll 3 = .ok (.invokevirtual 67, 3) := by decide +kernel
theorem dX5_costByAll_6 : decode cX5_costByAll 6 = .ok (.ifCond .ne 7, 3) := by decide +kernel
theorem dX5_costByAll_9 : decode cX5_costByAll 9 = .ok (.iconst 1, 1) := by decide +kernel
theorem dX5_costByAll_10 : decode cX5_costByAll 10 = .ok (.goto 17, 3) := by decide +kernel
theorem dX5_costByAll_13 : decode cX5_costByAll 13 = .ok (.aload_n 0, 1) := by decide +kernel
theorem dX5_costByAll_14 : decode cX5_costByAll 14 = .ok (.getfield 81, 3) := by decide +kernel
theorem dX5_costByAll_17 : decode cX5_costByAll 17 = .ok (.bipush 8, 2) := by decide +kernel
theorem dX5_costByAll_19 : decode cX5_costByAll 19 = .ok (.if_icmp .le 7, 3) := by decide +kernel
theorem dX5_costByAll_22 : decode cX5_costByAll 22 = .ok (.iconst 2, 1) := by decide +kernel
theorem dX5_costByAll_23 : decode cX5_costByAll 23 = .ok (.goto 4, 3) := by decide +kernel
theorem dX5_costByAll_26 : decode cX5_costByAll 26 = .ok (.iconst 0, 1) := by decide +kernel
theorem dX5_costByAll_27 : decode cX5_costByAll 27 = .ok (.invokevirtual 60, 3) := by decide +kernel
theorem dX5_costByAll_30 : decode cX5_costByAll 30 = .ok (.ifCond .eq 11, 3) := by decide +kernel
theorem dX5_costByAll_33 : decode cX5_costByAll 33 = .ok (.aload_n 0, 1) := by decide +kernel
theorem dX5_costByAll_34 : decode cX5_costByAll 34 = .ok (.iload_n 1, 1) := by decide +kernel
theorem dX5_costByAll_35 : decode cX5_costByAll 35 = .ok (.invokevirtual 99, 3) := by decide +kernel
theorem dX5_costByAll_38 : decode cX5_costByAll 38 = .ok (.goto 4, 3) := by decide +kernel
theorem dX5_costByAll_41 : decode cX5_costByAll 41 = .ok (.iconst 0, 1) := by decide +kernel
theorem dX5_costByAll_42 : decode cX5_costByAll 42 = .ok (.ireturn, 1) := by decide +kernel
theorem dX5_many_0 : decode cX5_many 0 = .ok (.iconst 0, 1) := by decide +kernel
theorem dX5_many_1 : decode cX5_many 1 = .ok (.istore_n 1, 1) := by decide +kernel
theorem dX5_many_2 : decode cX5_many 2 = .ok (.iconst 0, 1) := by decide +kernel
theorem dX5_many_3 : decode cX5_many 3 = .ok (.istore_n 2, 1) := by decide +kernel
theorem dX5_many_4 : decode cX5_many 4 = .ok (.iload_n 2, 1) := by decide +kernel
theorem dX5_many_5 : decode cX5_many 5 = .ok (.aload_n 0, 1) := by decide +kernel
theorem dX5_many_6 : decode cX5_many 6 = .ok (.getfield 45, 3) := by decide +kernel
theorem dX5_many_9 : decode cX5_many 9 = .ok (.if_icmp .ge 34, 3) := by decide +kernel
theorem dX5_many_12 : decode cX5_many 12 = .ok (.iload_n 1, 1) := by decide +kernel
theorem dX5_many_13 : decode cX5_many 13 = .ok (.aload_n 0, 1) := by decide +kernel
theorem dX5_many_14 : decode cX5_many 14 = .ok (.iload_n 2, 1) := by decide +kernel
theorem dX5_many_15 : decode cX5_many 15 = .ok (.invokevirtual 67, 3) := by decide +kernel
theorem dX5_many_18 : decode cX5_many 18 = .ok (.ifCond .eq 16, 3) := by decide +kernel
theorem dX5_many_21 : decode cX5_many 21 = .ok (.aload_n 0, 1) := by decide +kernel
theorem dX5_many_22 : decode cX5_many 22 = .ok (.iload_n 2, 1) := by decide +kernel
theorem dX5_many_23 : decode cX5_many 23 = .ok (.invokevirtual 99, 3) := by decide +kernel
theorem dX5_many_26 : decode cX5_many 26 = .ok (.iconst (-1), 1) := by decide +kernel
theorem dX5_many_27 : decode cX5_many 27 = .ok (.if_icmp .eq 7, 3) := by decide +kernel
theorem dX5_many_30 : decode cX5_many 30 = .ok (.iconst 1, 1) := by decide +kernel
theorem dX5_many_31 : decode cX5_many 31 = .ok (.goto 4, 3) := by decide +kernel
theorem dX5_many_34 : decode cX5_many 34 = .ok (.iconst 0, 1) := by decide +kernel
theorem dX5_many_35 : decode cX5_many 35 = .ok (.iadd, 1) := by decide +kernel
theorem dX5_many_36 : decode cX5_many 36 = .ok (.istore_n 1, 1) := by decide +kernel
theorem dX5_many_37 : decode cX5_many 37 = .ok (.iinc 2 1, 3) := by decide +kernel
theorem dX5_many_40 : decode cX5_many 40 = .ok (.goto (-36), 3) := by decide +kernel
theorem dX5_many_43 : decode cX5_many 43 = .ok (.iload_n 1, 1) := by decide +kernel
theorem dX5_many_44 : decode cX5_many 44 = .ok (.ireturn, 1) := by decide +kernel
theorem dX5_matches_0 : decode cX5_matches 0 = .ok (.aload_n 0, 1) := by decide +kernel
theorem dX5_matches_1 : decode cX5_matches 1 = .ok (.iconst 0, 1) := by decide +kernel
theorem dX5_matches_2 : decode cX5_matches 2 = .ok (.putfield 42, 3) := by decide +kernel
theorem dX5_matches_5 : decode cX5_matches 5 = .ok (.aload_n 0, 1) := by decide +kernel
theorem dX5_matches_6 : decode cX5_matches 6 = .ok (.invokevirtual 103, 3) := by decide +kernel
theorem dX5_matches_9 : decode cX5_matches 9 = .ok (.ireturn, 1) := by decide +kernel
theorem dX5_rank_0 : decode cX5_rank 0 = .ok (.aload_n 0, 1) := by decide +kernel
theorem dX5_rank_1 : decode cX5_rank 1 = .ok (.iload_n 1, 1) := by decide +kernel
theorem dX5_rank_2 : decode cX5_rank 2 = .ok (.invokevirtual 99, 3) := by decide +kernel
theorem dX5_rank_5 : decode cX5_rank 5 = .ok (.istore_n 2, 1) := by decide +kernel
theorem dX5_rank_6 : decode cX5_rank 6 = .ok (.iconst 0, 1) := by decide +kernel
theorem dX5_rank_7 : decode cX5_rank 7 = .ok (.istore_n 3, 1) := by decide +kernel
theorem dX5_rank_8 : decode cX5_rank 8 = .ok (.iconst 0, 1) := by decide +kernel
theorem dX5_rank_9 : decode cX5_rank 9 = .ok (.istore 4, 2) := by decide +kernel
theorem dX5_rank_11 : decode cX5_rank 11 = .ok (.iload 4, 2) := by decide +kernel
theorem dX5_rank_13 : decode cX5_rank 13 = .ok (.aload_n 0, 1) := by decide +kernel
theorem dX5_rank_14 : decode cX5_rank 14 = .ok (.getfield 45, 3) := by decide +kernel
theorem dX5_rank_17 : decode cX5_rank 17 = .ok (.if_icmp .ge 62, 3) := by decide +kernel
theorem dX5_rank_20 : decode cX5_rank 20 = .ok (.aload_n 0, 1) := by decide +kernel
theorem dX5_rank_21 : decode cX5_rank 21 = .ok (.iload 4, 2) := by decide +kernel
theorem dX5_rank_23 : decode cX5_rank 23 = .ok (.invokevirtual 67, 3) := by decide +kernel
theorem dX5_rank_26 : decode cX5_rank 26 = .ok (.ifCond .eq 12, 3) := by decide +kernel
theorem dX5_rank_29 : decode cX5_rank 29 = .ok (.aload_n 0, 1) := by decide +kernel
theorem dX5_rank_30 : decode cX5_rank 30 = .ok (.iload 4, 2) := by decide +kernel
theorem dX5_rank_32 : decode cX5_rank 32 = .ok (.invokevirtual 99, 3) := by decide +kernel
theorem dX5_rank_35 : decode cX5_rank 35 = .ok (.goto 4, 3) := by decide +kernel
theorem dX5_rank_38 : decode cX5_rank 38 = .ok (.iconst (-1), 1) := by decide +kernel
theorem dX5_rank_39 : decode cX5_rank 39 = .ok (.istore 5, 2) := by decide +kernel
theorem dX5_rank_41 : decode cX5_rank 41 = .ok (.iload_n 3, 1) := by decide +kernel
theorem dX5_rank_42 : decode cX5_rank 42 = .ok (.iload 5, 2) := by decide +kernel
theorem dX5_rank_44 : decode cX5_rank 44 = .ok (.iconst (-1), 1) := by decide +kernel
theorem dX5_rank_45 : decode cX5_rank 45 = .ok (.if_icmp .eq 25, 3) := by decide +kernel
theorem dX5_rank_48 : decode cX5_rank 48 = .ok (.iload 5, 2) := by decide +kernel
theorem dX5_rank_50 : decode cX5_rank 50 = .ok (.iload_n 2, 1) := by decide +kernel
theorem dX5_rank_51 : decode cX5_rank 51 = .ok (.if_icmp .lt 15, 3) := by decide +kernel
theorem dX5_rank_54 : decode cX5_rank 54 = .ok (.iload 5, 2) := by decide +kernel
theorem dX5_rank_56 : decode cX5_rank 56 = .ok (.iload_n 2, 1) := by decide +kernel
theorem dX5_rank_57 : decode cX5_rank 57 = .ok (.if_icmp .ne 13, 3) := by decide +kernel
theorem dX5_rank_60 : decode cX5_rank 60 = .ok (.iload 4, 2) := by decide +kernel
theorem dX5_rank_62 : decode cX5_rank 62 = .ok (.iload_n 1, 1) := by decide +kernel
theorem dX5_rank_63 : decode cX5_rank 63 = .ok (.if_icmp .ge 7, 3) := by decide +kernel
theorem dX5_rank_66 : decode cX5_rank 66 = .ok (.iconst 1, 1) := by decide +kernel
theorem dX5_rank_67 : decode cX5_rank 67 = .ok (.goto 4, 3) := by decide +kernel
theorem dX5_rank_70 : decode cX5_rank 70 = .ok (.iconst 0, 1) := by decide +kernel
theorem dX5_rank_71 : decode cX5_rank 71 = .ok (.iadd, 1) := by decide +kernel
theorem dX5_rank_72 : decode cX5_rank 72 = .ok (.istore_n 3, 1) := by decide +kernel
theorem dX5_rank_73 : decode cX5_rank 73 = .ok (.iinc 4 1, 3) := by decide +kernel
theorem dX5_rank_76 : decode cX5_rank 76 = .ok (.goto (-65), 3) := by decide +kernel
theorem dX5_rank_79 : decode cX5_rank 79 = .ok (.iload_n 3, 1) := by decide +kernel
theorem dX5_rank_80 : decode cX5_rank 80 = .ok (.ireturn, 1) := by decide +kernel
theorem dX5_found_0 : decode cX5_found 0 = .ok (.aload_n 0, 1) := by decide +kernel
theorem dX5_found_1 : decode cX5_found 1 = .ok (.iload_n 1, 1) := by decide +kernel
theorem dX5_found_2 : decode cX5_found 2 = .ok (.iconst 0, 1) := by decide +kernel
theorem dX5_found_3 : decode cX5_found 3 = .ok (.aload_n 0, 1) := by decide +kernel
theorem dX5_found_4 : decode cX5_found 4 = .ok (.invokevirtual 103, 3) := by decide +kernel
theorem dX5_found_7 : decode cX5_found 7 = .ok (.iconst 1, 1) := by decide +kernel
theorem dX5_found_8 : decode cX5_found 8 = .ok (.isub, 1) := by decide +kernel
theorem dX5_found_9 : decode cX5_found 9 = .ok (.invokestatic 48, 3) := by decide +kernel
theorem dX5_found_12 : decode cX5_found 12 = .ok (.ifCond .eq 7, 3) := by decide +kernel
theorem dX5_found_15 : decode cX5_found 15 = .ok (.iconst 0, 1) := by decide +kernel
theorem dX5_found_16 : decode cX5_found 16 = .ok (.goto 4, 3) := by decide +kernel
theorem dX5_found_19 : decode cX5_found 19 = .ok (.iconst 1, 1) := by decide +kernel
theorem dX5_found_20 : decode cX5_found 20 = .ok (.invokevirtual 60, 3) := by decide +kernel
theorem dX5_found_23 : decode cX5_found 23 = .ok (.ifCond .ne 5, 3) := by decide +kernel
theorem dX5_found_26 : decode cX5_found 26 = .ok (.iconst 0, 1) := by decide +kernel
theorem dX5_found_27 : decode cX5_found 27 = .ok (.ireturn, 1) := by decide +kernel
theorem dX5_found_28 : decode cX5_found 28 = .ok (.iconst 0, 1) := by decide +kernel
theorem dX5_found_29 : decode cX5_found 29 = .ok (.istore_n 2, 1) := by decide +kernel
theorem dX5_found_30 : decode cX5_found 30 = .ok (.aload_n 0, 1) := by decide +kernel
theorem dX5_found_31 : decode cX5_found 31 = .ok (.iload_n 2, 1) := by decide +kernel
theorem dX5_found_32 : decode cX5_found 32 = .ok (.invokevirtual 67, 3) := by decide +kernel
theorem dX5_found_35 : decode cX5_found 35 = .ok (.ifCond .eq 21, 3) := by decide +kernel
theorem dX5_found_38 : decode cX5_found 38 = .ok (.aload_n 0, 1) := by decide +kernel
theorem dX5_found_39 : decode cX5_found 39 = .ok (.iload_n 2, 1) := by decide +kernel
theorem dX5_found_40 : decode cX5_found 40 = .ok (.invokevirtual 99, 3) := by decide +kernel
theorem dX5_found_43 : decode cX5_found 43 = .ok (.iconst (-1), 1) := by decide +kernel
theorem dX5_found_44 : decode cX5_found 44 = .ok (.if_icmp .eq 12, 3) := by decide +kernel
theorem dX5_found_47 : decode cX5_found 47 = .ok (.aload_n 0, 1) := by decide +kernel
theorem dX5_found_48 : decode cX5_found 48 = .ok (.iload_n 2, 1) := by decide +kernel
theorem dX5_found_49 : decode cX5_found 49 = .ok (.invokevirtual 107, 3) := by decide +kernel
theorem dX5_found_52 : decode cX5_found 52 = .ok (.iload_n 1, 1) := by decide +kernel
theorem dX5_found_53 : decode cX5_found 53 = .ok (.if_icmp .eq 9, 3) := by decide +kernel
theorem dX5_found_56 : decode cX5_found 56 = .ok (.iinc 2 1, 3) := by decide +kernel
theorem dX5_found_59 : decode cX5_found 59 = .ok (.goto (-29), 3) := by decide +kernel
theorem dX5_found_62 : decode cX5_found 62 = .ok (.iload_n 2, 1) := by decide +kernel
theorem dX5_found_63 : decode cX5_found 63 = .ok (.ireturn, 1) := by decide +kernel
theorem dX5_sign_0 : decode cX5_sign 0 = .ok (.iload_n 0, 1) := by decide +kernel
theorem dX5_sign_1 : decode cX5_sign 1 = .ok (.ifCond .le 7, 3) := by decide +kernel
theorem dX5_sign_4 : decode cX5_sign 4 = .ok (.iconst 1, 1) := by decide +kernel
theorem dX5_sign_5 : decode cX5_sign 5 = .ok (.goto 12, 3) := by decide +kernel
theorem dX5_sign_8 : decode cX5_sign 8 = .ok (.iload_n 0, 1) := by decide +kernel
theorem dX5_sign_9 : decode cX5_sign 9 = .ok (.ifCond .ge 7, 3) := by decide +kernel
theorem dX5_sign_12 : decode cX5_sign 12 = .ok (.iconst (-1), 1) := by decide +kernel
theorem dX5_sign_13 : decode cX5_sign 13 = .ok (.goto 4, 3) := by decide +kernel
theorem dX5_sign_16 : decode cX5_sign 16 = .ok (.iconst 0, 1) := by decide +kernel
theorem dX5_sign_17 : decode cX5_sign 17 = .ok (.ireturn, 1) := by decide +kernel
theorem dX5_isLike_0 : decode cX5_isLike 0 = .ok (.iconst 0, 1) := by decide +kernel
theorem dX5_isLike_1 : decode cX5_isLike 1 = .ok (.istore_n 2, 1) := by decide +kernel
theorem dX5_isLike_2 : decode cX5_isLike 2 = .ok (.iload_n 2, 1) := by decide +kernel
theorem dX5_isLike_3 : decode cX5_isLike 3 = .ok (.aload_n 0, 1) := by decide +kernel
theorem dX5_isLike_4 : decode cX5_isLike 4 = .ok (.getfield 81, 3) := by decide +kernel
theorem dX5_isLike_7 : decode cX5_isLike 7 = .ok (.iconst 1, 1) := by decide +kernel
theorem dX5_isLike_8 : decode cX5_isLike 8 = .ok (.isub, 1) := by decide +kernel
theorem dX5_isLike_9 : decode cX5_isLike 9 = .ok (.if_icmp .ge 53, 3) := by decide +kernel
theorem dX5_isLike_12 : decode cX5_isLike 12 = .ok (.iload_n 2, 1) := by decide +kernel
theorem dX5_isLike_13 : decode cX5_isLike 13 = .ok (.aload_n 0, 1) := by decide +kernel
theorem dX5_isLike_14 : decode cX5_isLike 14 = .ok (.getfield 16, 3) := by decide +kernel
theorem dX5_isLike_17 : decode cX5_isLike 17 = .ok (.iload_n 1, 1) := by decide +kernel
theorem dX5_isLike_18 : decode cX5_isLike 18 = .ok (.iaload, 1) := by decide +kernel
theorem dX5_isLike_19 : decode cX5_isLike 19 = .ok (.iconst 1, 1) := by decide +kernel
theorem dX5_isLike_20 : decode cX5_isLike 20 = .ok (.isub, 1) := by decide +kernel
theorem dX5_isLike_21 : decode cX5_isLike 21 = .ok (.if_icmp .ge 33, 3) := by decide +kernel
theorem dX5_isLike_24 : decode cX5_isLike 24 = .ok (.aload_n 0, 1) := by decide +kernel
theorem dX5_isLike_25 : decode cX5_isLike 25 = .ok (.iload_n 1, 1) := by decide +kernel
theorem dX5_isLike_26 : decode cX5_isLike 26 = .ok (.iload_n 2, 1) := by decide +kernel
theorem dX5_isLike_27 : decode cX5_isLike 27 = .ok (.invokevirtual 73, 3) := by decide +kernel
theorem dX5_isLike_30 : decode cX5_isLike 30 = .ok (.invokestatic 110, 3) := by decide +kernel
theorem dX5_isLike_33 : decode cX5_isLike 33 = .ok (.aload_n 0, 1) := by decide +kernel
theorem dX5_isLike_34 : decode cX5_isLike 34 = .ok (.getfield 23, 3) := by decide +kernel
theorem dX5_isLike_37 : decode cX5_isLike 37 = .ok (.iload_n 2, 1) := by decide +kernel
theorem dX5_isLike_38 : decode cX5_isLike 38 = .ok (.iconst 1, 1) := by decide +kernel
theorem dX5_isLike_39 : decode cX5_isLike 39 = .ok (.iadd, 1) := by decide +kernel
theorem dX5_isLike_40 : decode cX5_isLike 40 = .ok (.iaload, 1) := by decide +kernel
theorem dX5_isLike_41 : decode cX5_isLike 41 = .ok (.aload_n 0, 1) := by decide +kernel
theorem dX5_isLike_42 : decode cX5_isLike 42 = .ok (.getfield 23, 3) := by decide +kernel
theorem dX5_isLike_45 : decode cX5_isLike 45 = .ok (.iload_n 2, 1) := by decide +kernel
theorem dX5_isLike_46 : decode cX5_isLike 46 = .ok (.iaload, 1) := by decide +kernel
theorem dX5_isLike_47 : decode cX5_isLike 47 = .ok (.isub, 1) := by decide +kernel
theorem dX5_isLike_48 : decode cX5_isLike 48 = .ok (.invokestatic 110, 3) := by decide +kernel
theorem dX5_isLike_51 : decode cX5_isLike 51 = .ok (.if_icmp .eq 5, 3) := by decide +kernel
theorem dX5_isLike_54 : decode cX5_isLike 54 = .ok (.iconst 0, 1) := by decide +kernel
theorem dX5_isLike_55 : decode cX5_isLike 55 = .ok (.ireturn, 1) := by decide +kernel
theorem dX5_isLike_56 : decode cX5_isLike 56 = .ok (.iinc 2 1, 3) := by decide +kernel
theorem dX5_isLike_59 : decode cX5_isLike 59 = .ok (.goto (-57), 3) := by decide +kernel
theorem dX5_isLike_62 : decode cX5_isLike 62 = .ok (.iconst 1, 1) := by decide +kernel
theorem dX5_isLike_63 : decode cX5_isLike 63 = .ok (.ireturn, 1) := by decide +kernel
theorem dX5_likeContour_0 : decode cX5_likeContour 0 = .ok (.aload_n 0, 1) := by decide +kernel
theorem dX5_likeContour_1 : decode cX5_likeContour 1 = .ok (.iconst 0, 1) := by decide +kernel
theorem dX5_likeContour_2 : decode cX5_likeContour 2 = .ok (.putfield 42, 3) := by decide +kernel
theorem dX5_likeContour_5 : decode cX5_likeContour 5 = .ok (.iconst 0, 1) := by decide +kernel
theorem dX5_likeContour_6 : decode cX5_likeContour 6 = .ok (.istore_n 1, 1) := by decide +kernel
theorem dX5_likeContour_7 : decode cX5_likeContour 7 = .ok (.iconst 0, 1) := by decide +kernel
theorem dX5_likeContour_8 : decode cX5_likeContour 8 = .ok (.istore_n 2, 1) := by decide +kernel
theorem dX5_likeContour_9 : decode cX5_likeContour 9 = .ok (.iload_n 2, 1) := by decide +kernel
theorem dX5_likeContour_10 : decode cX5_likeContour 10 = .ok (.aload_n 0, 1) := by decide +kernel
theorem dX5_likeContour_11 : decode cX5_likeContour 11 = .ok (.getfield 45, 3) := by decide +kernel
theorem dX5_likeContour_14 : decode cX5_likeContour 14 = .ok (.if_icmp .ge 35, 3) := by decide +kernel
theorem dX5_likeContour_17 : decode cX5_likeContour 17 = .ok (.iload_n 1, 1) := by decide +kernel
theorem dX5_likeContour_18 : decode cX5_likeContour 18 = .ok (.aload_n 0, 1) := by decide +kernel
theorem dX5_likeContour_19 : decode cX5_likeContour 19 = .ok (.iload_n 2, 1) := by decide +kernel
theorem dX5_likeContour_20 : decode cX5_likeContour 20 = .ok (.invokevirtual 67, 3) := by decide +kernel
theorem dX5_likeContour_23 : decode cX5_likeContour 23 = .ok (.ifCond .eq 17, 3) := by decide +kernel
theorem dX5_likeContour_26 : decode cX5_likeContour 26 = .ok (.aload_n 0, 1) := by decide +kernel
theorem dX5_likeContour_27 : decode cX5_likeContour 27 = .ok (.iload_n 2, 1) := by decide +kernel
theorem dX5_likeContour_28 : decode cX5_likeContour 28 = .ok (.invokevirtual 113, 3) := by decide +kernel
theorem dX5_likeContour_31 : decode cX5_likeContour 31 = .ok (.ifCond .eq 9, 3) := by decide +kernel
theorem dX5_likeContour_34 : decode cX5_likeContour 34 = .ok (.iconst 1, 1) := by decide +kernel
theorem dX5_likeContour_35 : decode cX5_likeContour 35 = .ok (.iload_n 2, 1) := by decide +kernel
theorem dX5_likeContour_36 : decode cX5_likeContour 36 = .ok (.ishl, 1) := by decide +kernel
theorem dX5_likeContour_37 : decode cX5_likeContour 37 = .ok (.goto 4, 3) := by decide +kernel
theorem dX5_likeContour_40 : decode cX5_likeContour 40 = .ok (.iconst 0, 1) := by decide +kernel
theorem dX5_likeContour_41 : decode cX5_likeContour 41 = .ok (.ior, 1) := by decide +kernel
theorem dX5_likeContour_42 : decode cX5_likeContour 42 = .ok (.istore_n 1, 1) := by decide +kernel
theorem dX5_likeContour_43 : decode cX5_likeContour 43 = .ok (.iinc 2 1, 3) := by decide +kernel
theorem dX5_likeContour_46 : decode cX5_likeContour 46 = .ok (.goto (-37), 3) := by decide +kernel
theorem dX5_likeContour_49 : decode cX5_likeContour 49 = .ok (.iload_n 1, 1) := by decide +kernel
theorem dX5_likeContour_50 : decode cX5_likeContour 50 = .ok (.ireturn, 1) := by decide +kernel
theorem dX5_isRun_0 : decode cX5_isRun 0 = .ok (.iconst 0, 1) := by decide +kernel
theorem dX5_isRun_1 : decode cX5_isRun 1 = .ok (.istore 4, 2) := by decide +kernel
theorem dX5_isRun_3 : decode cX5_isRun 3 = .ok (.iload 4, 2) := by decide +kernel
theorem dX5_isRun_5 : decode cX5_isRun 5 = .ok (.iload_n 3, 1) := by decide +kernel
theorem dX5_isRun_6 : decode cX5_isRun 6 = .ok (.if_icmp .ge 68, 3) := by decide +kernel
theorem dX5_isRun_9 : decode cX5_isRun 9 = .ok (.aload_n 0, 1) := by decide +kernel
theorem dX5_isRun_10 : decode cX5_isRun 10 = .ok (.getfield 81, 3) := by decide +kernel
theorem dX5_isRun_13 : decode cX5_isRun 13 = .ok (.iconst 1, 1) := by decide +kernel
theorem dX5_isRun_14 : decode cX5_isRun 14 = .ok (.isub, 1) := by decide +kernel
theorem dX5_isRun_15 : decode cX5_isRun 15 = .ok (.iload_n 3, 1) := by decide +kernel
theorem dX5_isRun_16 : decode cX5_isRun 16 = .ok (.isub, 1) := by decide +kernel
theorem dX5_isRun_17 : decode cX5_isRun 17 = .ok (.iload 4, 2) := by decide +kernel
theorem dX5_isRun_19 : decode cX5_isRun 19 = .ok (.iadd, 1) := by decide +kernel
theorem dX5_isRun_20 : decode cX5_isRun 20 = .ok (.istore 5, 2) := by decide +kernel
theorem dX5_isRun_22 : decode cX5_isRun 22 = .ok (.iload_n 2, 1) := by decide +kernel
theorem dX5_isRun_23 : decode cX5_isRun 23 = .ok (.iload 4, 2) := by decide +kernel
theorem dX5_isRun_25 : decode cX5_isRun 25 = .ok (.iadd, 1) := by decide +kernel
theorem dX5_isRun_26 : decode cX5_isRun 26 = .ok (.aload_n 0, 1) := by decide +kernel
theorem dX5_isRun_27 : decode cX5_isRun 27 = .ok (.getfield 16, 3) := by decide +kernel
theorem dX5_isRun_30 : decode cX5_isRun 30 = .ok (.iload_n 1, 1) := by decide +kernel
theorem dX5_isRun_31 : decode cX5_isRun 31 = .ok (.iaload, 1) := by decide +kernel
theorem dX5_isRun_32 : decode cX5_isRun 32 = .ok (.iconst 1, 1) := by decide +kernel
theorem dX5_isRun_33 : decode cX5_isRun 33 = .ok (.isub, 1) := by decide +kernel
theorem dX5_isRun_34 : decode cX5_isRun 34 = .ok (.if_icmp .ge 32, 3) := by decide +kernel
theorem dX5_isRun_37 : decode cX5_isRun 37 = .ok (.aload_n 0, 1) := by decide +kernel
theorem dX5_isRun_38 : decode cX5_isRun 38 = .ok (.iload_n 1, 1) := by decide +kernel
theorem dX5_isRun_39 : decode cX5_isRun 39 = .ok (.iload_n 2, 1) := by decide +kernel
theorem dX5_isRun_40 : decode cX5_isRun 40 = .ok (.iload 4, 2) := by decide +kernel
theorem dX5_isRun_42 : decode cX5_isRun 42 = .ok (.iadd, 1) := by decide +kernel
theorem dX5_isRun_43 : decode cX5_isRun 43 = .ok (.invokevirtual 73, 3) := by decide +kernel
theorem dX5_isRun_46 : decode cX5_isRun 46 = .ok (.aload_n 0, 1) := by decide +kernel
theorem dX5_isRun_47 : decode cX5_isRun 47 = .ok (.getfield 23, 3) := by decide +kernel
theorem dX5_isRun_50 : decode cX5_isRun 50 = .ok (.iload 5, 2) := by decide +kernel
theorem dX5_isRun_52 : decode cX5_isRun 52 = .ok (.iconst 1, 1) := by decide +kernel
theorem dX5_isRun_53 : decode cX5_isRun 53 = .ok (.iadd, 1) := by decide +kernel
theorem dX5_isRun_54 : decode cX5_isRun 54 = .ok (.iaload, 1) := by decide +kernel
theorem dX5_isRun_55 : decode cX5_isRun 55 = .ok (.aload_n 0, 1) := by decide +kernel
theorem dX5_isRun_56 : decode cX5_isRun 56 = .ok (.getfield 23, 3) := by decide +kernel
theorem dX5_isRun_59 : decode cX5_isRun 59 = .ok (.iload 5, 2) := by decide +kernel
theorem dX5_isRun_61 : decode cX5_isRun 61 = .ok (.iaload, 1) := by decide +kernel
theorem dX5_isRun_62 : decode cX5_isRun 62 = .ok (.isub, 1) := by decide +kernel
theorem dX5_isRun_63 : decode cX5_isRun 63 = .ok (.if_icmp .eq 5, 3) := by decide +kernel
theorem dX5_isRun_66 : decode cX5_isRun 66 = .ok (.iconst 0, 1) := by decide +kernel
theorem dX5_isRun_67 : decode cX5_isRun 67 = .ok (.ireturn, 1) := by decide +kernel
theorem dX5_isRun_68 : decode cX5_isRun 68 = .ok (.iinc 4 1, 3) := by decide +kernel
theorem dX5_isRun_71 : decode cX5_isRun 71 = .ok (.goto (-68), 3) := by decide +kernel
theorem dX5_isRun_74 : decode cX5_isRun 74 = .ok (.aload_n 0, 1) := by decide +kernel
theorem dX5_isRun_75 : decode cX5_isRun 75 = .ok (.getfield 19, 3) := by decide +kernel
theorem dX5_isRun_78 : decode cX5_isRun 78 = .ok (.iload_n 1, 1) := by decide +kernel
theorem dX5_isRun_79 : decode cX5_isRun 79 = .ok (.baload, 1) := by decide +kernel
theorem dX5_isRun_80 : decode cX5_isRun 80 = .ok (.ifCond .ne 7, 3) := by decide +kernel
theorem dX5_isRun_83 : decode cX5_isRun 83 = .ok (.iconst 1, 1) := by decide +kernel
theorem dX5_isRun_84 : decode cX5_isRun 84 = .ok (.goto 4, 3) := by decide +kernel
theorem dX5_isRun_87 : decode cX5_isRun 87 = .ok (.iconst 0, 1) := by decide +kernel
theorem dX5_isRun_88 : decode cX5_isRun 88 = .ok (.ireturn, 1) := by decide +kernel
theorem dX5_errorOfRun_0 : decode cX5_errorOfRun 0 = .ok (.iload_n 1, 1) := by decide +kernel
theorem dX5_errorOfRun_1 : decode cX5_errorOfRun 1 = .ok (.iconst 1, 1) := by decide +kernel
theorem dX5_errorOfRun_2 : decode cX5_errorOfRun 2 = .ok (.iconst 4, 1) := by decide +kernel
theorem dX5_errorOfRun_3 : decode cX5_errorOfRun 3 = .ok (.invokestatic 48, 3) := by decide +kernel
theorem dX5_errorOfRun_6 : decode cX5_errorOfRun 6 = .ok (.ifCond .ne 7, 3) := by decide +kernel
theorem dX5_errorOfRun_9 : decode cX5_errorOfRun 9 = .ok (.iconst 1, 1) := by decide +kernel
theorem dX5_errorOfRun_10 : decode cX5_errorOfRun 10 = .ok (.goto 18, 3) := by decide +kernel
theorem dX5_errorOfRun_13 : decode cX5_errorOfRun 13 = .ok (.aload_n 0, 1) := by decide +kernel
theorem dX5_errorOfRun_14 : decode cX5_errorOfRun 14 = .ok (.getfield 81, 3) := by decide +kernel
theorem dX5_errorOfRun_17 : decode cX5_errorOfRun 17 = .ok (.iconst 1, 1) := by decide +kernel
theorem dX5_errorOfRun_18 : decode cX5_errorOfRun 18 = .ok (.isub, 1) := by decide +kernel
theorem dX5_errorOfRun_19 : decode cX5_errorOfRun 19 = .ok (.iload_n 1, 1) := by decide +kernel
theorem dX5_errorOfRun_20 : decode cX5_errorOfRun 20 = .ok (.if_icmp .ge 7, 3) := by decide +kernel
theorem dX5_errorOfRun_23 : decode cX5_errorOfRun 23 = .ok (.iconst 2, 1) := by decide +kernel
theorem dX5_errorOfRun_24 : decode cX5_errorOfRun 24 = .ok (.goto 4, 3) := by decide +kernel
theorem dX5_errorOfRun_27 : decode cX5_errorOfRun 27 = .ok (.iconst 0, 1) := by decide +kernel
theorem dX5_errorOfRun_28 : decode cX5_errorOfRun 28 = .ok (.ireturn, 1) := by decide +kernel
theorem dX5_placesOf_0 : decode cX5_placesOf 0 = .ok (.iconst 0, 1) := by decide +kernel
theorem dX5_placesOf_1 : decode cX5_placesOf 1 = .ok (.istore_n 2, 1) := by decide +kernel
theorem dX5_placesOf_2 : decode cX5_placesOf 2 = .ok (.iconst 0, 1) := by decide +kernel
theorem dX5_placesOf_3 : decode cX5_placesOf 3 = .ok (.istore_n 3, 1) := by decide +kernel
theorem dX5_placesOf_4 : decode cX5_placesOf 4 = .ok (.iload_n 3, 1) := by decide +kernel
theorem dX5_placesOf_5 : decode cX5_placesOf 5 = .ok (.bipush 24, 2) := by decide +kernel
theorem dX5_placesOf_7 : decode cX5_placesOf 7 = .ok (.aload_n 0, 1) := by decide +kernel
theorem dX5_placesOf_8 : decode cX5_placesOf 8 = .ok (.getfield 45, 3) := by decide +kernel
theorem dX5_placesOf_11 : decode cX5_placesOf 11 = .ok (.imul, 1) := by decide +kernel
theorem dX5_placesOf_12 : decode cX5_placesOf 12 = .ok (.if_icmp .ge 49, 3) := by decide +kernel
theorem dX5_placesOf_15 : decode cX5_placesOf 15 = .ok (.iload_n 2, 1) := by decide +kernel
theorem dX5_placesOf_16 : decode cX5_placesOf 16 = .ok (.iload_n 3, 1) := by decide +kernel
theorem dX5_placesOf_17 : decode cX5_placesOf 17 = .ok (.bipush 24, 2) := by decide +kernel
theorem dX5_placesOf_19 : decode cX5_placesOf 19 = .ok (.irem, 1) := by decide +kernel
theorem dX5_placesOf_20 : decode cX5_placesOf 20 = .ok (.aload_n 0, 1) := by decide +kernel
theorem dX5_placesOf_21 : decode cX5_placesOf 21 = .ok (.getfield 16, 3) := by decide +kernel
theorem dX5_placesOf_24 : decode cX5_placesOf 24 = .ok (.iload_n 3, 1) := by decide +kernel
theorem dX5_placesOf_25 : decode cX5_placesOf 25 = .ok (.bipush 24, 2) := by decide +kernel
theorem dX5_placesOf_27 : decode cX5_placesOf 27 = .ok (.idiv, 1) := by decide +kernel
theorem dX5_placesOf_28 : decode cX5_placesOf 28 = .ok (.iaload, 1) := by decide +kernel
theorem dX5_placesOf_29 : decode cX5_placesOf 29 = .ok (.if_icmp .ge 23, 3) := by decide +kernel
theorem dX5_placesOf_32 : decode cX5_placesOf 32 = .ok (.aload_n 0, 1) := by decide +kernel
theorem dX5_placesOf_33 : decode cX5_placesOf 33 = .ok (.iload_n 3, 1) := by decide +kernel
theorem dX5_placesOf_34 : decode cX5_placesOf 34 = .ok (.bipush 24, 2) := by decide +kernel
theorem dX5_placesOf_36 : decode cX5_placesOf 36 = .ok (.idiv, 1) := by decide +kernel
theorem dX5_placesOf_37 : decode cX5_placesOf 37 = .ok (.iload_n 3, 1) := by decide +kernel
theorem dX5_placesOf_38 : decode cX5_placesOf 38 = .ok (.bipush 24, 2) := by decide +kernel
theorem dX5_placesOf_40 : decode cX5_placesOf 40 = .ok (.irem, 1) := by decide +kernel
theorem dX5_placesOf_41 : decode cX5_placesOf 41 = .ok (.iload_n 1, 1) := by decide +kernel
theorem dX5_placesOf_42 : decode cX5_placesOf 42 = .ok (.invokevirtual 116, 3) := by decide +kernel
theorem dX5_placesOf_45 : decode cX5_placesOf 45 = .ok (.ifCond .eq 7, 3) := by decide +kernel
theorem dX5_placesOf_48 : decode cX5_placesOf 48 = .ok (.iconst 1, 1) := by decide +kernel
theorem dX5_placesOf_49 : decode cX5_placesOf 49 = .ok (.goto 4, 3) := by decide +kernel
theorem dX5_placesOf_52 : decode cX5_placesOf 52 = .ok (.iconst 0, 1) := by decide +kernel
theorem dX5_placesOf_53 : decode cX5_placesOf 53 = .ok (.iadd, 1) := by decide +kernel
theorem dX5_placesOf_54 : decode cX5_placesOf 54 = .ok (.istore_n 2, 1) := by decide +kernel
theorem dX5_placesOf_55 : decode cX5_placesOf 55 = .ok (.iinc 3 1, 3) := by decide +kernel
theorem dX5_placesOf_58 : decode cX5_placesOf 58 = .ok (.goto (-54), 3) := by decide +kernel
theorem dX5_placesOf_61 : decode cX5_placesOf 61 = .ok (.iload_n 2, 1) := by decide +kernel
theorem dX5_placesOf_62 : decode cX5_placesOf 62 = .ok (.ireturn, 1) := by decide +kernel
theorem dX5_places_0 : decode cX5_places 0 = .ok (.aload_n 0, 1) := by decide +kernel
theorem dX5_places_1 : decode cX5_places 1 = .ok (.aload_n 0, 1) := by decide +kernel
theorem dX5_places_2 : decode cX5_places 2 = .ok (.iload_n 1, 1) := by decide +kernel
theorem dX5_places_3 : decode cX5_places 3 = .ok (.invokevirtual 119, 3) := by decide +kernel
theorem dX5_places_6 : decode cX5_places 6 = .ok (.invokevirtual 60, 3) := by decide +kernel
theorem dX5_places_9 : decode cX5_places 9 = .ok (.ifCond .eq 11, 3) := by decide +kernel
theorem dX5_places_12 : decode cX5_places 12 = .ok (.aload_n 0, 1) := by decide +kernel
theorem dX5_places_13 : decode cX5_places 13 = .ok (.iload_n 1, 1) := by decide +kernel
theorem dX5_places_14 : decode cX5_places 14 = .ok (.invokevirtual 122, 3) := by decide +kernel
theorem dX5_places_17 : decode cX5_places 17 = .ok (.goto 4, 3) := by decide +kernel
theorem dX5_places_20 : decode cX5_places 20 = .ok (.iconst 0, 1) := by decide +kernel
theorem dX5_places_21 : decode cX5_places 21 = .ok (.ireturn, 1) := by decide +kernel
theorem dX5_place_0 : decode cX5_place 0 = .ok (.aload_n 0, 1) := by decide +kernel
theorem dX5_place_1 : decode cX5_place 1 = .ok (.iload_n 1, 1) := by decide +kernel
theorem dX5_place_2 : decode cX5_place 2 = .ok (.invokevirtual 119, 3) := by decide +kernel
theorem dX5_place_5 : decode cX5_place 5 = .ok (.istore_n 3, 1) := by decide +kernel
theorem dX5_place_6 : decode cX5_place 6 = .ok (.aload_n 0, 1) := by decide +kernel
theorem dX5_place_7 : decode cX5_place 7 = .ok (.iload_n 3, 1) := by decide +kernel
theorem dX5_place_8 : decode cX5_place 8 = .ok (.ifCond .le 7, 3) := by decide +kernel
theorem dX5_place_11 : decode cX5_place 11 = .ok (.iload_n 3, 1) := by decide +kernel
theorem dX5_place_12 : decode cX5_place 12 = .ok (.goto 23, 3) := by decide +kernel
theorem dX5_place_15 : decode cX5_place 15 = .ok (.iload_n 2, 1) := by decide +kernel
theorem dX5_place_16 : decode cX5_place 16 = .ok (.iconst 0, 1) := by decide +kernel
theorem dX5_place_17 : decode cX5_place 17 = .ok (.aload_n 0, 1) := by decide +kernel
theorem dX5_place_18 : decode cX5_place 18 = .ok (.iload_n 1, 1) := by decide +kernel
theorem dX5_place_19 : decode cX5_place 19 = .ok (.invokevirtual 122, 3) := by decide +kernel
theorem dX5_place_22 : decode cX5_place 22 = .ok (.iconst 1, 1) := by decide +kernel
theorem dX5_place_23 : decode cX5_place 23 = .ok (.isub, 1) := by decide +kernel
theorem dX5_place_24 : decode cX5_place 24 = .ok (.invokestatic 48, 3) := by decide +kernel
theorem dX5_place_27 : decode cX5_place 27 = .ok (.ifCond .eq 7, 3) := by decide +kernel
theorem dX5_place_30 : decode cX5_place 30 = .ok (.iconst 0, 1) := by decide +kernel
theorem dX5_place_31 : decode cX5_place 31 = .ok (.goto 4, 3) := by decide +kernel
theorem dX5_place_34 : decode cX5_place 34 = .ok (.iconst 3, 1) := by decide +kernel
theorem dX5_place_35 : decode cX5_place 35 = .ok (.invokevirtual 60, 3) := by decide +kernel
theorem dX5_place_38 : decode cX5_place 38 = .ok (.ifCond .ne 5, 3) := by decide +kernel
theorem dX5_place_41 : decode cX5_place 41 = .ok (.iconst 0, 1) := by decide +kernel
theorem dX5_place_42 : decode cX5_place 42 = .ok (.ireturn, 1) := by decide +kernel
theorem dX5_place_43 : decode cX5_place 43 = .ok (.iload_n 2, 1) := by decide +kernel
theorem dX5_place_44 : decode cX5_place 44 = .ok (.istore 4, 2) := by decide +kernel
theorem dX5_place_46 : decode cX5_place 46 = .ok (.iconst 0, 1) := by decide +kernel
theorem dX5_place_47 : decode cX5_place 47 = .ok (.istore 5, 2) := by decide +kernel
theorem dX5_place_49 : decode cX5_place 49 = .ok (.iload 4, 2) := by decide +kernel
theorem dX5_place_51 : decode cX5_place 51 = .ok (.ifCond .gt 39, 3) := by decide +kernel
theorem dX5_place_54 : decode cX5_place 54 = .ok (.iload 5, 2) := by decide +kernel
theorem dX5_place_56 : decode cX5_place 56 = .ok (.bipush 24, 2) := by decide +kernel
theorem dX5_place_58 : decode cX5_place 58 = .ok (.irem, 1) := by decide +kernel
theorem dX5_place_59 : decode cX5_place 59 = .ok (.aload_n 0, 1) := by decide +kernel
theorem dX5_place_60 : decode cX5_place 60 = .ok (.getfield 16, 3) := by decide +kernel
theorem dX5_place_63 : decode cX5_place 63 = .ok (.iload 5, 2) := by decide +kernel
theorem dX5_place_65 : decode cX5_place 65 = .ok (.bipush 24, 2) := by decide +kernel
theorem dX5_place_67 : decode cX5_place 67 = .ok (.idiv, 1) := by decide +kernel
theorem dX5_place_68 : decode cX5_place 68 = .ok (.iaload, 1) := by decide +kernel
theorem dX5_place_69 : decode cX5_place 69 = .ok (.if_icmp .ge 21, 3) := by decide +kernel
theorem dX5_place_72 : decode cX5_place 72 = .ok (.aload_n 0, 1) := by decide +kernel
theorem dX5_place_73 : decode cX5_place 73 = .ok (.iload 5, 2) := by decide +kernel
theorem dX5_place_75 : decode cX5_place 75 = .ok (.bipush 24, 2) := by decide +kernel
theorem dX5_place_77 : decode cX5_place 77 = .ok (.idiv, 1) := by decide +kernel
theorem dX5_place_78 : decode cX5_place 78 = .ok (.iload 5, 2) := by decide +kernel
theorem dX5_place_80 : decode cX5_place 80 = .ok (.bipush 24, 2) := by decide +kernel
theorem dX5_place_82 : decode cX5_place 82 = .ok (.irem, 1) := by decide +kernel
theorem dX5_place_83 : decode cX5_place 83 = .ok (.iload_n 1, 1) := by decide +kernel
theorem dX5_place_84 : decode cX5_place 84 = .ok (.invokevirtual 116, 3) := by decide +kernel
theorem dX5_place_87 : decode cX5_place 87 = .ok (.ifCond .ne 55, 3) := by decide +kernel
theorem dX5_place_90 : decode cX5_place 90 = .ok (.iload 4, 2) := by decide +kernel
theorem dX5_place_92 : decode cX5_place 92 = .ok (.iload 5, 2) := by decide +kernel
theorem dX5_place_94 : decode cX5_place 94 = .ok (.bipush 24, 2) := by decide +kernel
theorem dX5_place_96 : decode cX5_place 96 = .ok (.irem, 1) := by decide +kernel
theorem dX5_place_97 : decode cX5_place 97 = .ok (.aload_n 0, 1) := by decide +kernel
theorem dX5_place_98 : decode cX5_place 98 = .ok (.getfield 16, 3) := by decide +kernel
theorem dX5_place_101 : decode cX5_place 101 = .ok (.iload 5, 2) := by decide +kernel
theorem dX5_place_103 : decode cX5_place 103 = .ok (.bipush 24, 2) := by decide +kernel
theorem dX5_place_105 : decode cX5_place 105 = .ok (.idiv, 1) := by decide +kernel
theorem dX5_place_106 : decode cX5_place 106 = .ok (.iaload, 1) := by decide +kernel
theorem dX5_place_107 : decode cX5_place 107 = .ok (.if_icmp .ge 25, 3) := by decide +kernel
theorem dX5_place_110 : decode cX5_place 110 = .ok (.aload_n 0, 1) := by decide +kernel
theorem dX5_place_111 : decode cX5_place 111 = .ok (.iload 5, 2) := by decide +kernel
theorem dX5_place_113 : decode cX5_place 113 = .ok (.bipush 24, 2) := by decide +kernel
theorem dX5_place_115 : decode cX5_place 115 = .ok (.idiv, 1) := by decide +kernel
theorem dX5_place_116 : decode cX5_place 116 = .ok (.iload 5, 2) := by decide +kernel
theorem dX5_place_118 : decode cX5_place 118 = .ok (.bipush 24, 2) := by decide +kernel
theorem dX5_place_120 : decode cX5_place 120 = .ok (.irem, 1) := by decide +kernel
theorem dX5_place_121 : decode cX5_place 121 = .ok (.iload_n 1, 1) := by decide +kernel
theorem dX5_place_122 : decode cX5_place 122 = .ok (.invokevirtual 116, 3) := by decide +kernel
theorem dX5_place_125 : decode cX5_place 125 = .ok (.ifCond .eq 7, 3) := by decide +kernel
theorem dX5_place_128 : decode cX5_place 128 = .ok (.iconst 1, 1) := by decide +kernel
theorem dX5_place_129 : decode cX5_place 129 = .ok (.goto 4, 3) := by decide +kernel
theorem dX5_place_132 : decode cX5_place 132 = .ok (.iconst 0, 1) := by decide +kernel
theorem dX5_place_133 : decode cX5_place 133 = .ok (.isub, 1) := by decide +kernel
theorem dX5_place_134 : decode cX5_place 134 = .ok (.istore 4, 2) := by decide +kernel
theorem dX5_place_136 : decode cX5_place 136 = .ok (.iinc 5 1, 3) := by decide +kernel
theorem dX5_place_139 : decode cX5_place 139 = .ok (.goto (-90), 3) := by decide +kernel
theorem dX5_place_142 : decode cX5_place 142 = .ok (.bipush 100, 2) := by decide +kernel
theorem dX5_place_144 : decode cX5_place 144 = .ok (.iload 5, 2) := by decide +kernel
theorem dX5_place_146 : decode cX5_place 146 = .ok (.bipush 24, 2) := by decide +kernel
theorem dX5_place_148 : decode cX5_place 148 = .ok (.idiv, 1) := by decide +kernel
theorem dX5_place_149 : decode cX5_place 149 = .ok (.imul, 1) := by decide +kernel
theorem dX5_place_150 : decode cX5_place 150 = .ok (.iload 5, 2) := by decide +kernel
theorem dX5_place_152 : decode cX5_place 152 = .ok (.bipush 24, 2) := by decide +kernel
theorem dX5_place_154 : decode cX5_place 154 = .ok (.irem, 1) := by decide +kernel
theorem dX5_place_155 : decode cX5_place 155 = .ok (.iadd, 1) := by decide +kernel
theorem dX5_place_156 : decode cX5_place 156 = .ok (.ireturn, 1) := by decide +kernel
theorem dX5_familyOf_0 : decode cX5_familyOf 0 = .ok (.iconst 1, 1) := by decide +kernel
theorem dX5_familyOf_1 : decode cX5_familyOf 1 = .ok (.iload_n 1, 1) := by decide +kernel
theorem dX5_familyOf_2 : decode cX5_familyOf 2 = .ok (.ishl, 1) := by decide +kernel
theorem dX5_familyOf_3 : decode cX5_familyOf 3 = .ok (.istore_n 2, 1) := by decide +kernel
theorem dX5_familyOf_4 : decode cX5_familyOf 4 = .ok (.iconst 0, 1) := by decide +kernel
theorem dX5_familyOf_5 : decode cX5_familyOf 5 = .ok (.istore_n 3, 1) := by decide +kernel
theorem dX5_familyOf_6 : decode cX5_familyOf 6 = .ok (.iload_n 2, 1) := by decide +kernel
theorem dX5_familyOf_7 : decode cX5_familyOf 7 = .ok (.iload_n 3, 1) := by decide +kernel
theorem dX5_familyOf_8 : decode cX5_familyOf 8 = .ok (.if_icmp .eq 50, 3) := by decide +kernel
theorem dX5_familyOf_11 : decode cX5_familyOf 11 = .ok (.iload_n 2, 1) := by decide +kernel
theorem dX5_familyOf_12 : decode cX5_familyOf 12 = .ok (.istore_n 3, 1) := by decide +kernel
theorem dX5_familyOf_13 : decode cX5_familyOf 13 = .ok (.iconst 0, 1) := by decide +kernel
theorem dX5_familyOf_14 : decode cX5_familyOf 14 = .ok (.istore 4, 2) := by decide +kernel
theorem dX5_familyOf_16 : decode cX5_familyOf 16 = .ok (.iload 4, 2) := by decide +kernel
theorem dX5_familyOf_18 : decode cX5_familyOf 18 = .ok (.aload_n 0, 1) := by decide +kernel
theorem dX5_familyOf_19 : decode cX5_familyOf 19 = .ok (.getfield 45, 3) := by decide +kernel
theorem dX5_familyOf_22 : decode cX5_familyOf 22 = .ok (.if_icmp .ge 33, 3) := by decide +kernel
theorem dX5_familyOf_25 : decode cX5_familyOf 25 = .ok (.iload_n 2, 1) := by decide +kernel
theorem dX5_familyOf_26 : decode cX5_familyOf 26 = .ok (.iload_n 2, 1) := by decide +kernel
theorem dX5_familyOf_27 : decode cX5_familyOf 27 = .ok (.iload 4, 2) := by decide +kernel
theorem dX5_familyOf_29 : decode cX5_familyOf 29 = .ok (.ishr, 1) := by decide +kernel
theorem dX5_familyOf_30 : decode cX5_familyOf 30 = .ok (.iconst 1, 1) := by decide +kernel
theorem dX5_familyOf_31 : decode cX5_familyOf 31 = .ok (.iand, 1) := by decide +kernel
theorem dX5_familyOf_32 : decode cX5_familyOf 32 = .ok (.iconst 1, 1) := by decide +kernel
theorem dX5_familyOf_33 : decode cX5_familyOf 33 = .ok (.if_icmp .ne 13, 3) := by decide +kernel
theorem dX5_familyOf_36 : decode cX5_familyOf 36 = .ok (.aload_n 0, 1) := by decide +kernel
theorem dX5_familyOf_37 : decode cX5_familyOf 37 = .ok (.getfield 39, 3) := by decide +kernel
theorem dX5_familyOf_40 : decode cX5_familyOf 40 = .ok (.iload 4, 2) := by decide +kernel
theorem dX5_familyOf_42 : decode cX5_familyOf 42 = .ok (.iaload, 1) := by decide +kernel
theorem dX5_familyOf_43 : decode cX5_familyOf 43 = .ok (.goto 4, 3) := by decide +kernel
theorem dX5_familyOf_46 : decode cX5_familyOf 46 = .ok (.iconst 0, 1) := by decide +kernel
theorem dX5_familyOf_47 : decode cX5_familyOf 47 = .ok (.ior, 1) := by decide +kernel
theorem dX5_familyOf_48 : decode cX5_familyOf 48 = .ok (.istore_n 2, 1) := by decide +kernel
theorem dX5_familyOf_49 : decode cX5_familyOf 49 = .ok (.iinc 4 1, 3) := by decide +kernel
theorem dX5_familyOf_52 : decode cX5_familyOf 52 = .ok (.goto (-36), 3) := by decide +kernel
theorem dX5_familyOf_55 : decode cX5_familyOf 55 = .ok (.goto (-49), 3) := by decide +kernel
theorem dX5_familyOf_58 : decode cX5_familyOf 58 = .ok (.iload_n 2, 1) := by decide +kernel
theorem dX5_familyOf_59 : decode cX5_familyOf 59 = .ok (.ireturn, 1) := by decide +kernel
theorem dX5_lowest_0 : decode cX5_lowest 0 = .ok (.aload_n 0, 1) := by decide +kernel
theorem dX5_lowest_1 : decode cX5_lowest 1 = .ok (.iload_n 1, 1) := by decide +kernel
theorem dX5_lowest_2 : decode cX5_lowest 2 = .ok (.invokevirtual 125, 3) := by decide +kernel
theorem dX5_lowest_5 : decode cX5_lowest 5 = .ok (.istore_n 2, 1) := by decide +kernel
theorem dX5_lowest_6 : decode cX5_lowest 6 = .ok (.iconst 0, 1) := by decide +kernel
theorem dX5_lowest_7 : decode cX5_lowest 7 = .ok (.istore_n 3, 1) := by decide +kernel
theorem dX5_lowest_8 : decode cX5_lowest 8 = .ok (.iload_n 2, 1) := by decide +kernel
theorem dX5_lowest_9 : decode cX5_lowest 9 = .ok (.iload_n 3, 1) := by decide +kernel
theorem dX5_lowest_10 : decode cX5_lowest 10 = .ok (.ishr, 1) := by decide +kernel
theorem dX5_lowest_11 : decode cX5_lowest 11 = .ok (.iconst 1, 1) := by decide +kernel
theorem dX5_lowest_12 : decode cX5_lowest 12 = .ok (.iand, 1) := by decide +kernel
theorem dX5_lowest_13 : decode cX5_lowest 13 = .ok (.ifCond .ne 9, 3) := by decide +kernel
theorem dX5_lowest_16 : decode cX5_lowest 16 = .ok (.iinc 3 1, 3) := by decide +kernel
theorem dX5_lowest_19 : decode cX5_lowest 19 = .ok (.goto (-11), 3) := by decide +kernel
theorem dX5_lowest_22 : decode cX5_lowest 22 = .ok (.iload_n 3, 1) := by decide +kernel
theorem dX5_lowest_23 : decode cX5_lowest 23 = .ok (.ireturn, 1) := by decide +kernel
theorem dX5_familiesOf_0 : decode cX5_familiesOf 0 = .ok (.iconst 0, 1) := by decide +kernel
theorem dX5_familiesOf_1 : decode cX5_familiesOf 1 = .ok (.istore_n 1, 1) := by decide +kernel
theorem dX5_familiesOf_2 : decode cX5_familiesOf 2 = .ok (.iconst 0, 1) := by decide +kernel
theorem dX5_familiesOf_3 : decode cX5_familiesOf 3 = .ok (.istore_n 2, 1) := by decide +kernel
theorem dX5_familiesOf_4 : decode cX5_familiesOf 4 = .ok (.iload_n 2, 1) := by decide +kernel
theorem dX5_familiesOf_5 : decode cX5_familiesOf 5 = .ok (.aload_n 0, 1) := by decide +kernel
theorem dX5_familiesOf_6 : decode cX5_familiesOf 6 = .ok (.getfield 45, 3) := by decide +kernel
theorem dX5_familiesOf_9 : decode cX5_familiesOf 9 = .ok (.if_icmp .ge 26, 3) := by decide +kernel
theorem dX5_familiesOf_12 : decode cX5_familiesOf 12 = .ok (.iload_n 1, 1) := by decide +kernel
theorem dX5_familiesOf_13 : decode cX5_familiesOf 13 = .ok (.aload_n 0, 1) := by decide +kernel
theorem dX5_familiesOf_14 : decode cX5_familiesOf 14 = .ok (.iload_n 2, 1) := by decide +kernel
theorem dX5_familiesOf_15 : decode cX5_familiesOf 15 = .ok (.invokevirtual 128, 3) := by decide +kernel
theorem dX5_familiesOf_18 : decode cX5_familiesOf 18 = .ok (.iload_n 2, 1) := by decide +kernel
theorem dX5_familiesOf_19 : decode cX5_familiesOf 19 = .ok (.if_icmp .ne 7, 3) := by decide +kernel
theorem dX5_familiesOf_22 : decode cX5_familiesOf 22 = .ok (.iconst 1, 1) := by decide +kernel
theorem dX5_familiesOf_23 : decode cX5_familiesOf 23 = .ok (.goto 4, 3) := by decide +kernel
theorem dX5_familiesOf_26 : decode cX5_familiesOf 26 = .ok (.iconst 0, 1) := by decide +kernel
theorem dX5_familiesOf_27 : decode cX5_familiesOf 27 = .ok (.iadd, 1) := by decide +kernel
theorem dX5_familiesOf_28 : decode cX5_familiesOf 28 = .ok (.istore_n 1, 1) := by decide +kernel
theorem dX5_familiesOf_29 : decode cX5_familiesOf 29 = .ok (.iinc 2 1, 3) := by decide +kernel
theorem dX5_familiesOf_32 : decode cX5_familiesOf 32 = .ok (.goto (-28), 3) := by decide +kernel
theorem dX5_familiesOf_35 : decode cX5_familiesOf 35 = .ok (.iload_n 1, 1) := by decide +kernel
theorem dX5_familiesOf_36 : decode cX5_familiesOf 36 = .ok (.ireturn, 1) := by decide +kernel
theorem dX5_areLinked_0 : decode cX5_areLinked 0 = .ok (.aload_n 0, 1) := by decide +kernel
theorem dX5_areLinked_1 : decode cX5_areLinked 1 = .ok (.getfield 39, 3) := by decide +kernel
theorem dX5_areLinked_4 : decode cX5_areLinked 4 = .ok (.iload_n 1, 1) := by decide +kernel
theorem dX5_areLinked_5 : decode cX5_areLinked 5 = .ok (.iaload, 1) := by decide +kernel
theorem dX5_areLinked_6 : decode cX5_areLinked 6 = .ok (.iload_n 2, 1) := by decide +kernel
theorem dX5_areLinked_7 : decode cX5_areLinked 7 = .ok (.ishr, 1) := by decide +kernel
theorem dX5_areLinked_8 : decode cX5_areLinked 8 = .ok (.iconst 1, 1) := by decide +kernel
theorem dX5_areLinked_9 : decode cX5_areLinked 9 = .ok (.iand, 1) := by decide +kernel
theorem dX5_areLinked_10 : decode cX5_areLinked 10 = .ok (.iconst 1, 1) := by decide +kernel
theorem dX5_areLinked_11 : decode cX5_areLinked 11 = .ok (.if_icmp .ne 7, 3) := by decide +kernel
theorem dX5_areLinked_14 : decode cX5_areLinked 14 = .ok (.iconst 1, 1) := by decide +kernel
theorem dX5_areLinked_15 : decode cX5_areLinked 15 = .ok (.goto 4, 3) := by decide +kernel
theorem dX5_areLinked_18 : decode cX5_areLinked 18 = .ok (.iconst 0, 1) := by decide +kernel
theorem dX5_areLinked_19 : decode cX5_areLinked 19 = .ok (.ireturn, 1) := by decide +kernel
theorem dX5_link_0 : decode cX5_link 0 = .ok (.aload_n 0, 1) := by decide +kernel
theorem dX5_link_1 : decode cX5_link 1 = .ok (.iload_n 1, 1) := by decide +kernel
theorem dX5_link_2 : decode cX5_link 2 = .ok (.invokevirtual 52, 3) := by decide +kernel
theorem dX5_link_5 : decode cX5_link 5 = .ok (.ifCond .eq 15, 3) := by decide +kernel
theorem dX5_link_8 : decode cX5_link 8 = .ok (.aload_n 0, 1) := by decide +kernel
theorem dX5_link_9 : decode cX5_link 9 = .ok (.iload_n 2, 1) := by decide +kernel
theorem dX5_link_10 : decode cX5_link 10 = .ok (.invokevirtual 52, 3) := by decide +kernel
theorem dX5_link_13 : decode cX5_link 13 = .ok (.ifCond .eq 7, 3) := by decide +kernel
theorem dX5_link_16 : decode cX5_link 16 = .ok (.iconst 1, 1) := by decide +kernel
theorem dX5_link_17 : decode cX5_link 17 = .ok (.goto 4, 3) := by decide +kernel
theorem dX5_link_20 : decode cX5_link 20 = .ok (.iconst 0, 1) := by decide +kernel
theorem dX5_link_21 : decode cX5_link 21 = .ok (.istore_n 3, 1) := by decide +kernel
theorem dX5_link_22 : decode cX5_link 22 = .ok (.aload_n 0, 1) := by decide +kernel
theorem dX5_link_23 : decode cX5_link 23 = .ok (.iload_n 3, 1) := by decide +kernel
theorem dX5_link_24 : decode cX5_link 24 = .ok (.ifCond .ne 7, 3) := by decide +kernel
theorem dX5_link_27 : decode cX5_link 27 = .ok (.iconst 1, 1) := by decide +kernel
theorem dX5_link_28 : decode cX5_link 28 = .ok (.goto 26, 3) := by decide +kernel
theorem dX5_link_31 : decode cX5_link 31 = .ok (.iload_n 1, 1) := by decide +kernel
theorem dX5_link_32 : decode cX5_link 32 = .ok (.iload_n 2, 1) := by decide +kernel
theorem dX5_link_33 : decode cX5_link 33 = .ok (.if_icmp .ne 7, 3) := by decide +kernel
theorem dX5_link_36 : decode cX5_link 36 = .ok (.iconst 2, 1) := by decide +kernel
theorem dX5_link_37 : decode cX5_link 37 = .ok (.goto 17, 3) := by decide +kernel
theorem dX5_link_40 : decode cX5_link 40 = .ok (.aload_n 0, 1) := by decide +kernel
theorem dX5_link_41 : decode cX5_link 41 = .ok (.iload_n 1, 1) := by decide +kernel
theorem dX5_link_42 : decode cX5_link 42 = .ok (.iload_n 2, 1) := by decide +kernel
theorem dX5_link_43 : decode cX5_link 43 = .ok (.invokevirtual 131, 3) := by decide +kernel
theorem dX5_link_46 : decode cX5_link 46 = .ok (.ifCond .eq 7, 3) := by decide +kernel
theorem dX5_link_49 : decode cX5_link 49 = .ok (.iconst 3, 1) := by decide +kernel
theorem dX5_link_50 : decode cX5_link 50 = .ok (.goto 4, 3) := by decide +kernel
theorem dX5_link_53 : decode cX5_link 53 = .ok (.iconst 0, 1) := by decide +kernel
theorem dX5_link_54 : decode cX5_link 54 = .ok (.invokevirtual 60, 3) := by decide +kernel
theorem dX5_link_57 : decode cX5_link 57 = .ok (.ifCond .ne 5, 3) := by decide +kernel
theorem dX5_link_60 : decode cX5_link 60 = .ok (.iconst 0, 1) := by decide +kernel
theorem dX5_link_61 : decode cX5_link 61 = .ok (.ireturn, 1) := by decide +kernel
theorem dX5_link_62 : decode cX5_link 62 = .ok (.aload_n 0, 1) := by decide +kernel
theorem dX5_link_63 : decode cX5_link 63 = .ok (.getfield 39, 3) := by decide +kernel
theorem dX5_link_66 : decode cX5_link 66 = .ok (.iload_n 1, 1) := by decide +kernel
theorem dX5_link_67 : decode cX5_link 67 = .ok (.dup2, 1) := by decide +kernel
theorem dX5_link_68 : decode cX5_link 68 = .ok (.iaload, 1) := by decide +kernel
theorem dX5_link_69 : decode cX5_link 69 = .ok (.iconst 1, 1) := by decide +kernel
theorem dX5_link_70 : decode cX5_link 70 = .ok (.iload_n 2, 1) := by decide +kernel
theorem dX5_link_71 : decode cX5_link 71 = .ok (.ishl, 1) := by decide +kernel
theorem dX5_link_72 : decode cX5_link 72 = .ok (.ior, 1) := by decide +kernel
theorem dX5_link_73 : decode cX5_link 73 = .ok (.iastore, 1) := by decide +kernel
theorem dX5_link_74 : decode cX5_link 74 = .ok (.aload_n 0, 1) := by decide +kernel
theorem dX5_link_75 : decode cX5_link 75 = .ok (.getfield 39, 3) := by decide +kernel
theorem dX5_link_78 : decode cX5_link 78 = .ok (.iload_n 2, 1) := by decide +kernel
theorem dX5_link_79 : decode cX5_link 79 = .ok (.dup2, 1) := by decide +kernel
theorem dX5_link_80 : decode cX5_link 80 = .ok (.iaload, 1) := by decide +kernel
theorem dX5_link_81 : decode cX5_link 81 = .ok (.iconst 1, 1) := by decide +kernel
theorem dX5_link_82 : decode cX5_link 82 = .ok (.iload_n 1, 1) := by decide +kernel
theorem dX5_link_83 : decode cX5_link 83 = .ok (.ishl, 1) := by decide +kernel
theorem dX5_link_84 : decode cX5_link 84 = .ok (.ior, 1) := by decide +kernel
theorem dX5_link_85 : decode cX5_link 85 = .ok (.iastore, 1) := by decide +kernel
theorem dX5_link_86 : decode cX5_link 86 = .ok (.aload_n 0, 1) := by decide +kernel
theorem dX5_link_87 : decode cX5_link 87 = .ok (.invokevirtual 134, 3) := by decide +kernel
theorem dX5_link_90 : decode cX5_link 90 = .ok (.ireturn, 1) := by decide +kernel
theorem dX5_cut_0 : decode cX5_cut 0 = .ok (.aload_n 0, 1) := by decide +kernel
theorem dX5_cut_1 : decode cX5_cut 1 = .ok (.iload_n 1, 1) := by decide +kernel
theorem dX5_cut_2 : decode cX5_cut 2 = .ok (.invokevirtual 52, 3) := by decide +kernel
theorem dX5_cut_5 : decode cX5_cut 5 = .ok (.ifCond .eq 15, 3) := by decide +kernel
theorem dX5_cut_8 : decode cX5_cut 8 = .ok (.aload_n 0, 1) := by decide +kernel
theorem dX5_cut_9 : decode cX5_cut 9 = .ok (.iload_n 2, 1) := by decide +kernel
theorem dX5_cut_10 : decode cX5_cut 10 = .ok (.invokevirtual 52, 3) := by decide +kernel
theorem dX5_cut_13 : decode cX5_cut 13 = .ok (.ifCond .eq 7, 3) := by decide +kernel
theorem dX5_cut_16 : decode cX5_cut 16 = .ok (.iconst 1, 1) := by decide +kernel
theorem dX5_cut_17 : decode cX5_cut 17 = .ok (.goto 4, 3) := by decide +kernel
theorem dX5_cut_20 : decode cX5_cut 20 = .ok (.iconst 0, 1) := by decide +kernel
theorem dX5_cut_21 : decode cX5_cut 21 = .ok (.istore_n 3, 1) := by decide +kernel
theorem dX5_cut_22 : decode cX5_cut 22 = .ok (.aload_n 0, 1) := by decide +kernel
theorem dX5_cut_23 : decode cX5_cut 23 = .ok (.iload_n 3, 1) := by decide +kernel
theorem dX5_cut_24 : decode cX5_cut 24 = .ok (.ifCond .ne 7, 3) := by decide +kernel
theorem dX5_cut_27 : decode cX5_cut 27 = .ok (.iconst 1, 1) := by decide +kernel
theorem dX5_cut_28 : decode cX5_cut 28 = .ok (.goto 17, 3) := by decide +kernel
theorem dX5_cut_31 : decode cX5_cut 31 = .ok (.aload_n 0, 1) := by decide +kernel
theorem dX5_cut_32 : decode cX5_cut 32 = .ok (.iload_n 1, 1) := by decide +kernel
theorem dX5_cut_33 : decode cX5_cut 33 = .ok (.iload_n 2, 1) := by decide +kernel
theorem dX5_cut_34 : decode cX5_cut 34 = .ok (.invokevirtual 131, 3) := by decide +kernel
theorem dX5_cut_37 : decode cX5_cut 37 = .ok (.ifCond .eq 7, 3) := by decide +kernel
theorem dX5_cut_40 : decode cX5_cut 40 = .ok (.iconst 0, 1) := by decide +kernel
theorem dX5_cut_41 : decode cX5_cut 41 = .ok (.goto 4, 3) := by decide +kernel
theorem dX5_cut_44 : decode cX5_cut 44 = .ok (.iconst 2, 1) := by decide +kernel
theorem dX5_cut_45 : decode cX5_cut 45 = .ok (.invokevirtual 60, 3) := by decide +kernel
theorem dX5_cut_48 : decode cX5_cut 48 = .ok (.ifCond .ne 5, 3) := by decide +kernel
theorem dX5_cut_51 : decode cX5_cut 51 = .ok (.iconst 0, 1) := by decide +kernel
theorem dX5_cut_52 : decode cX5_cut 52 = .ok (.ireturn, 1) := by decide +kernel
theorem dX5_cut_53 : decode cX5_cut 53 = .ok (.aload_n 0, 1) := by decide +kernel
theorem dX5_cut_54 : decode cX5_cut 54 = .ok (.getfield 39, 3) := by decide +kernel
theorem dX5_cut_57 : decode cX5_cut 57 = .ok (.iload_n 1, 1) := by decide +kernel
theorem dX5_cut_58 : decode cX5_cut 58 = .ok (.dup2, 1) := by decide +kernel
theorem dX5_cut_59 : decode cX5_cut 59 = .ok (.iaload, 1) := by decide +kernel
theorem dX5_cut_60 : decode cX5_cut 60 = .ok (.iconst 1, 1) := by decide +kernel
theorem dX5_cut_61 : decode cX5_cut 61 = .ok (.iload_n 2, 1) := by decide +kernel
theorem dX5_cut_62 : decode cX5_cut 62 = .ok (.ishl, 1) := by decide +kernel
theorem dX5_cut_63 : decode cX5_cut 63 = .ok (.iconst (-1), 1) := by decide +kernel
theorem dX5_cut_64 : decode cX5_cut 64 = .ok (.ixor, 1) := by decide +kernel
theorem dX5_cut_65 : decode cX5_cut 65 = .ok (.iand, 1) := by decide +kernel
theorem dX5_cut_66 : decode cX5_cut 66 = .ok (.iastore, 1) := by decide +kernel
theorem dX5_cut_67 : decode cX5_cut 67 = .ok (.aload_n 0, 1) := by decide +kernel
theorem dX5_cut_68 : decode cX5_cut 68 = .ok (.getfield 39, 3) := by decide +kernel
theorem dX5_cut_71 : decode cX5_cut 71 = .ok (.iload_n 2, 1) := by decide +kernel
theorem dX5_cut_72 : decode cX5_cut 72 = .ok (.dup2, 1) := by decide +kernel
theorem dX5_cut_73 : decode cX5_cut 73 = .ok (.iaload, 1) := by decide +kernel
theorem dX5_cut_74 : decode cX5_cut 74 = .ok (.iconst 1, 1) := by decide +kernel
theorem dX5_cut_75 : decode cX5_cut 75 = .ok (.iload_n 1, 1) := by decide +kernel
theorem dX5_cut_76 : decode cX5_cut 76 = .ok (.ishl, 1) := by decide +kernel
theorem dX5_cut_77 : decode cX5_cut 77 = .ok (.iconst (-1), 1) := by decide +kernel
theorem dX5_cut_78 : decode cX5_cut 78 = .ok (.ixor, 1) := by decide +kernel
theorem dX5_cut_79 : decode cX5_cut 79 = .ok (.iand, 1) := by decide +kernel
theorem dX5_cut_80 : decode cX5_cut 80 = .ok (.iastore, 1) := by decide +kernel
theorem dX5_cut_81 : decode cX5_cut 81 = .ok (.aload_n 0, 1) := by decide +kernel
theorem dX5_cut_82 : decode cX5_cut 82 = .ok (.invokevirtual 134, 3) := by decide +kernel
theorem dX5_cut_85 : decode cX5_cut 85 = .ok (.ireturn, 1) := by decide +kernel
theorem dX5_family_0 : decode cX5_family 0 = .ok (.aload_n 0, 1) := by decide +kernel
theorem dX5_family_1 : decode cX5_family 1 = .ok (.aload_n 0, 1) := by decide +kernel
theorem dX5_family_2 : decode cX5_family 2 = .ok (.iload_n 1, 1) := by decide +kernel
theorem dX5_family_3 : decode cX5_family 3 = .ok (.invokevirtual 52, 3) := by decide +kernel
theorem dX5_family_6 : decode cX5_family 6 = .ok (.ifCond .eq 7, 3) := by decide +kernel
theorem dX5_family_9 : decode cX5_family 9 = .ok (.iconst 0, 1) := by decide +kernel
theorem dX5_family_10 : decode cX5_family 10 = .ok (.goto 4, 3) := by decide +kernel
theorem dX5_family_13 : decode cX5_family 13 = .ok (.iconst 1, 1) := by decide +kernel
theorem dX5_family_14 : decode cX5_family 14 = .ok (.invokevirtual 60, 3) := by decide +kernel
theorem dX5_family_17 : decode cX5_family 17 = .ok (.ifCond .eq 11, 3) := by decide +kernel
theorem dX5_family_20 : decode cX5_family 20 = .ok (.aload_n 0, 1) := by decide +kernel
theorem dX5_family_21 : decode cX5_family 21 = .ok (.iload_n 1, 1) := by decide +kernel
theorem dX5_family_22 : decode cX5_family 22 = .ok (.invokevirtual 128, 3) := by decide +kernel
theorem dX5_family_25 : decode cX5_family 25 = .ok (.goto 4, 3) := by decide +kernel
theorem dX5_family_28 : decode cX5_family 28 = .ok (.iconst 0, 1) := by decide +kernel
theorem dX5_family_29 : decode cX5_family 29 = .ok (.ireturn, 1) := by decide +kernel
theorem dX5_families_0 : decode cX5_families 0 = .ok (.aload_n 0, 1) := by decide +kernel
theorem dX5_families_1 : decode cX5_families 1 = .ok (.iconst 0, 1) := by decide +kernel
theorem dX5_families_2 : decode cX5_families 2 = .ok (.putfield 42, 3) := by decide +kernel
theorem dX5_families_5 : decode cX5_families 5 = .ok (.aload_n 0, 1) := by decide +kernel
theorem dX5_families_6 : decode cX5_families 6 = .ok (.invokevirtual 134, 3) := by decide +kernel
theorem dX5_families_9 : decode cX5_families 9 = .ok (.ireturn, 1) := by decide +kernel
theorem dJ9_abs_0f7a4_0 : decode cJ9_abs_0f7a4 0 = .ok (.iload_n 0, 1) := by decide +kernel
theorem dJ9_abs_0f7a4_1 : decode cJ9_abs_0f7a4 1 = .ok (.ifCond .ge 8, 3) := by decide +kernel
theorem dJ9_abs_0f7a4_4 : decode cJ9_abs_0f7a4 4 = .ok (.iload_n 0, 1) := by decide +kernel
theorem dJ9_abs_0f7a4_5 : decode cJ9_abs_0f7a4 5 = .ok (.ineg, 1) := by decide +kernel
theorem dJ9_abs_0f7a4_6 : decode cJ9_abs_0f7a4 6 = .ok (.goto 4, 3) := by decide +kernel
theorem dJ9_abs_0f7a4_9 : decode cJ9_abs_0f7a4 9 = .ok (.iload_n 0, 1) := by decide +kernel
theorem dJ9_abs_0f7a4_10 : decode cJ9_abs_0f7a4 10 = .ok (.ireturn, 1) := by decide +kernel
theorem dJ9_max_7cf53_0 : decode cJ9_max_7cf53 0 = .ok (.iload_n 0, 1) := by decide +kernel
theorem dJ9_max_7cf53_1 : decode cJ9_max_7cf53 1 = .ok (.iload_n 1, 1) := by decide +kernel
theorem dJ9_max_7cf53_2 : decode cJ9_max_7cf53 2 = .ok (.if_icmp .lt 7, 3) := by decide +kernel
theorem dJ9_max_7cf53_5 : decode cJ9_max_7cf53 5 = .ok (.iload_n 0, 1) := by decide +kernel
theorem dJ9_max_7cf53_6 : decode cJ9_max_7cf53 6 = .ok (.goto 4, 3) := by decide +kernel
theorem dJ9_max_7cf53_9 : decode cJ9_max_7cf53 9 = .ok (.iload_n 1, 1) := by decide +kernel
theorem dJ9_max_7cf53_10 : decode cJ9_max_7cf53 10 = .ok (.ireturn, 1) := by decide +kernel
theorem dJ9_min_7cf53_0 : decode cJ9_min_7cf53 0 = .ok (.iload_n 0, 1) := by decide +kernel
theorem dJ9_min_7cf53_1 : decode cJ9_min_7cf53 1 = .ok (.iload_n 1, 1) := by decide +kernel
theorem dJ9_min_7cf53_2 : decode cJ9_min_7cf53 2 = .ok (.if_icmp .gt 7, 3) := by decide +kernel
theorem dJ9_min_7cf53_5 : decode cJ9_min_7cf53 5 = .ok (.iload_n 0, 1) := by decide +kernel
theorem dJ9_min_7cf53_6 : decode cJ9_min_7cf53 6 = .ok (.goto 4, 3) := by decide +kernel
theorem dJ9_min_7cf53_9 : decode cJ9_min_7cf53 9 = .ok (.iload_n 1, 1) := by decide +kernel
theorem dJ9_min_7cf53_10 : decode cJ9_min_7cf53 10 = .ok (.ireturn, 1) := by decide +kernel
theorem dL_add_0 : decode cL_add 0 = .ok (.aload_n 3, 1) := by decide +kernel
theorem dL_add_1 : decode cL_add 1 = .ok (.iconst 0, 1) := by decide +kernel
theorem dL_add_2 : decode cL_add 2 = .ok (.aload_n 0, 1) := by decide +kernel
theorem dL_add_3 : decode cL_add 3 = .ok (.iload_n 1, 1) := by decide +kernel
theorem dL_add_4 : decode cL_add 4 = .ok (.iload_n 2, 1) := by decide +kernel
theorem dL_add_5 : decode cL_add 5 = .ok (.invokevirtual 7, 3) := by decide +kernel
theorem dL_add_8 : decode cL_add 8 = .ok (.i2l, 1) := by decide +kernel
theorem dL_add_9 : decode cL_add 9 = .ok (.lastore, 1) := by decide +kernel
theorem dL_add_10 : decode cL_add 10 = .ok (.goto 11, 3) := by decide +kernel
theorem dL_add_13 : decode cL_add 13 = .ok (.astore 4, 2) := by decide +kernel
theorem dL_add_15 : decode cL_add 15 = .ok (.iconst 1, 1) := by decide +kernel
theorem dL_add_16 : decode cL_add 16 = .ok (.ireturn, 1) := by decide +kernel
theorem dL_add_17 : decode cL_add 17 = .ok (.astore 4, 2) := by decide +kernel
theorem dL_add_19 : decode cL_add 19 = .ok (.iconst 2, 1) := by decide +kernel
theorem dL_add_20 : decode cL_add 20 = .ok (.ireturn, 1) := by decide +kernel
theorem dL_add_21 : decode cL_add 21 = .ok (.iconst 0, 1) := by decide +kernel
theorem dL_add_22 : decode cL_add 22 = .ok (.ireturn, 1) := by decide +kernel
theorem dL_note_0 : decode cL_note 0 = .ok (.aload 4, 2) := by decide +kernel
theorem dL_note_2 : decode cL_note 2 = .ok (.iconst 0, 1) := by decide +kernel
theorem dL_note_3 : decode cL_note 3 = .ok (.aload_n 0, 1) := by decide +kernel
theorem dL_note_4 : decode cL_note 4 = .ok (.iload_n 1, 1) := by decide +kernel
theorem dL_note_5 : decode cL_note 5 = .ok (.iload_n 2, 1) := by decide +kernel
theorem dL_note_6 : decode cL_note 6 = .ok (.iload_n 3, 1) := by decide +kernel
theorem dL_note_7 : decode cL_note 7 = .ok (.invokevirtual 17, 3) := by decide +kernel
theorem dL_note_10 : decode cL_note 10 = .ok (.i2l, 1) := by decide +kernel
theorem dL_note_11 : decode cL_note 11 = .ok (.lastore, 1) := by decide +kernel
theorem dL_note_12 : decode cL_note 12 = .ok (.goto 15, 3) := by decide +kernel
theorem dL_note_15 : decode cL_note 15 = .ok (.astore 5, 2) := by decide +kernel
theorem dL_note_17 : decode cL_note 17 = .ok (.iconst 1, 1) := by decide +kernel
theorem dL_note_18 : decode cL_note 18 = .ok (.ireturn, 1) := by decide +kernel
theorem dL_note_19 : decode cL_note 19 = .ok (.astore 5, 2) := by decide +kernel
theorem dL_note_21 : decode cL_note 21 = .ok (.iconst 2, 1) := by decide +kernel
theorem dL_note_22 : decode cL_note 22 = .ok (.ireturn, 1) := by decide +kernel
theorem dL_note_23 : decode cL_note 23 = .ok (.astore 5, 2) := by decide +kernel
theorem dL_note_25 : decode cL_note 25 = .ok (.iconst 3, 1) := by decide +kernel
theorem dL_note_26 : decode cL_note 26 = .ok (.ireturn, 1) := by decide +kernel
theorem dL_note_27 : decode cL_note 27 = .ok (.iconst 0, 1) := by decide +kernel
theorem dL_note_28 : decode cL_note 28 = .ok (.ireturn, 1) := by decide +kernel
theorem dL_correct_0 : decode cL_correct 0 = .ok (.aload 5, 2) := by decide +kernel
theorem dL_correct_2 : decode cL_correct 2 = .ok (.iconst 0, 1) := by decide +kernel
theorem dL_correct_3 : decode cL_correct 3 = .ok (.aload_n 0, 1) := by decide +kernel
theorem dL_correct_4 : decode cL_correct 4 = .ok (.iload_n 1, 1) := by decide +kernel
theorem dL_correct_5 : decode cL_correct 5 = .ok (.iload_n 2, 1) := by decide +kernel
theorem dL_correct_6 : decode cL_correct 6 = .ok (.iload_n 3, 1) := by decide +kernel
theorem dL_correct_7 : decode cL_correct 7 = .ok (.iload 4, 2) := by decide +kernel
theorem dL_correct_9 : decode cL_correct 9 = .ok (.invokevirtual 23, 3) := by decide +kernel
theorem dL_correct_12 : decode cL_correct 12 = .ok (.i2l, 1) := by decide +kernel
theorem dL_correct_13 : decode cL_correct 13 = .ok (.lastore, 1) := by decide +kernel
theorem dL_correct_14 : decode cL_correct 14 = .ok (.goto 11, 3) := by decide +kernel
theorem dL_correct_17 : decode cL_correct 17 = .ok (.astore 6, 2) := by decide +kernel
theorem dL_correct_19 : decode cL_correct 19 = .ok (.iconst 1, 1) := by decide +kernel
theorem dL_correct_20 : decode cL_correct 20 = .ok (.ireturn, 1) := by decide +kernel
theorem dL_correct_21 : decode cL_correct 21 = .ok (.astore 6, 2) := by decide +kernel
theorem dL_correct_23 : decode cL_correct 23 = .ok (.iconst 2, 1) := by decide +kernel
theorem dL_correct_24 : decode cL_correct 24 = .ok (.ireturn, 1) := by decide +kernel
theorem dL_correct_25 : decode cL_correct 25 = .ok (.iconst 0, 1) := by decide +kernel
theorem dL_correct_26 : decode cL_correct 26 = .ok (.ireturn, 1) := by decide +kernel
theorem dL_shift_0 : decode cL_shift 0 = .ok (.aload_n 0, 1) := by decide +kernel
theorem dL_shift_1 : decode cL_shift 1 = .ok (.iload_n 1, 1) := by decide +kernel
theorem dL_shift_2 : decode cL_shift 2 = .ok (.iload_n 2, 1) := by decide +kernel
theorem dL_shift_3 : decode cL_shift 3 = .ok (.invokevirtual 27, 3) := by decide +kernel
theorem dL_shift_6 : decode cL_shift 6 = .ok (.goto 12, 3) := by decide +kernel
theorem dL_shift_9 : decode cL_shift 9 = .ok (.astore_n 3, 1) := by decide +kernel
theorem dL_shift_10 : decode cL_shift 10 = .ok (.iconst 1, 1) := by decide +kernel
theorem dL_shift_11 : decode cL_shift 11 = .ok (.ireturn, 1) := by decide +kernel
theorem dL_shift_12 : decode cL_shift 12 = .ok (.astore_n 3, 1) := by decide +kernel
theorem dL_shift_13 : decode cL_shift 13 = .ok (.iconst 2, 1) := by decide +kernel
theorem dL_shift_14 : decode cL_shift 14 = .ok (.ireturn, 1) := by decide +kernel
theorem dL_shift_15 : decode cL_shift 15 = .ok (.astore_n 3, 1) := by decide +kernel
theorem dL_shift_16 : decode cL_shift 16 = .ok (.iconst 3, 1) := by decide +kernel
theorem dL_shift_17 : decode cL_shift 17 = .ok (.ireturn, 1) := by decide +kernel
theorem dL_shift_18 : decode cL_shift 18 = .ok (.iconst 0, 1) := by decide +kernel
theorem dL_shift_19 : decode cL_shift 19 = .ok (.ireturn, 1) := by decide +kernel
theorem dL_retire_0 : decode cL_retire 0 = .ok (.aload_n 2, 1) := by decide +kernel
theorem dL_retire_1 : decode cL_retire 1 = .ok (.iconst 0, 1) := by decide +kernel
theorem dL_retire_2 : decode cL_retire 2 = .ok (.aload_n 0, 1) := by decide +kernel
theorem dL_retire_3 : decode cL_retire 3 = .ok (.iload_n 1, 1) := by decide +kernel
theorem dL_retire_4 : decode cL_retire 4 = .ok (.invokevirtual 31, 3) := by decide +kernel
theorem dL_retire_7 : decode cL_retire 7 = .ok (.i2l, 1) := by decide +kernel
theorem dL_retire_8 : decode cL_retire 8 = .ok (.lastore, 1) := by decide +kernel
theorem dL_retire_9 : decode cL_retire 9 = .ok (.goto 6, 3) := by decide +kernel
theorem dL_retire_12 : decode cL_retire 12 = .ok (.astore_n 3, 1) := by decide +kernel
theorem dL_retire_13 : decode cL_retire 13 = .ok (.iconst 1, 1) := by decide +kernel
theorem dL_retire_14 : decode cL_retire 14 = .ok (.ireturn, 1) := by decide +kernel
theorem dL_retire_15 : decode cL_retire 15 = .ok (.iconst 0, 1) := by decide +kernel
theorem dL_retire_16 : decode cL_retire 16 = .ok (.ireturn, 1) := by decide +kernel
theorem dL_notes_0 : decode cL_notes 0 = .ok (.aload_n 2, 1) := by decide +kernel
theorem dL_notes_1 : decode cL_notes 1 = .ok (.iconst 0, 1) := by decide +kernel
theorem dL_notes_2 : decode cL_notes 2 = .ok (.aload_n 0, 1) := by decide +kernel
theorem dL_notes_3 : decode cL_notes 3 = .ok (.iload_n 1, 1) := by decide +kernel
theorem dL_notes_4 : decode cL_notes 4 = .ok (.invokevirtual 35, 3) := by decide +kernel
theorem dL_notes_7 : decode cL_notes 7 = .ok (.i2l, 1) := by decide +kernel
theorem dL_notes_8 : decode cL_notes 8 = .ok (.lastore, 1) := by decide +kernel
theorem dL_notes_9 : decode cL_notes 9 = .ok (.goto 6, 3) := by decide +kernel
theorem dL_notes_12 : decode cL_notes 12 = .ok (.astore_n 3, 1) := by decide +kernel
theorem dL_notes_13 : decode cL_notes 13 = .ok (.iconst 1, 1) := by decide +kernel
theorem dL_notes_14 : decode cL_notes 14 = .ok (.ireturn, 1) := by decide +kernel
theorem dL_notes_15 : decode cL_notes 15 = .ok (.iconst 0, 1) := by decide +kernel
theorem dL_notes_16 : decode cL_notes 16 = .ok (.ireturn, 1) := by decide +kernel
theorem dL_step_0 : decode cL_step 0 = .ok (.aload_n 3, 1) := by decide +kernel
theorem dL_step_1 : decode cL_step 1 = .ok (.iconst 0, 1) := by decide +kernel
theorem dL_step_2 : decode cL_step 2 = .ok (.aload_n 0, 1) := by decide +kernel
theorem dL_step_3 : decode cL_step 3 = .ok (.iload_n 1, 1) := by decide +kernel
theorem dL_step_4 : decode cL_step 4 = .ok (.iload_n 2, 1) := by decide +kernel
theorem dL_step_5 : decode cL_step 5 = .ok (.invokevirtual 38, 3) := by decide +kernel
theorem dL_step_8 : decode cL_step 8 = .ok (.i2l, 1) := by decide +kernel
theorem dL_step_9 : decode cL_step 9 = .ok (.lastore, 1) := by decide +kernel
theorem dL_step_10 : decode cL_step 10 = .ok (.goto 7, 3) := by decide +kernel
theorem dL_step_13 : decode cL_step 13 = .ok (.astore 4, 2) := by decide +kernel
theorem dL_step_15 : decode cL_step 15 = .ok (.iconst 1, 1) := by decide +kernel
theorem dL_step_16 : decode cL_step 16 = .ok (.ireturn, 1) := by decide +kernel
theorem dL_step_17 : decode cL_step 17 = .ok (.iconst 0, 1) := by decide +kernel
theorem dL_step_18 : decode cL_step 18 = .ok (.ireturn, 1) := by decide +kernel
theorem dL_shared_0 : decode cL_shared 0 = .ok (.aload_n 3, 1) := by decide +kernel
theorem dL_shared_1 : decode cL_shared 1 = .ok (.iconst 0, 1) := by decide +kernel
theorem dL_shared_2 : decode cL_shared 2 = .ok (.aload_n 0, 1) := by decide +kernel
theorem dL_shared_3 : decode cL_shared 3 = .ok (.iload_n 1, 1) := by decide +kernel
theorem dL_shared_4 : decode cL_shared 4 = .ok (.iload_n 2, 1) := by decide +kernel
theorem dL_shared_5 : decode cL_shared 5 = .ok (.invokevirtual 41, 3) := by decide +kernel
theorem dL_shared_8 : decode cL_shared 8 = .ok (.i2l, 1) := by decide +kernel
theorem dL_shared_9 : decode cL_shared 9 = .ok (.lastore, 1) := by decide +kernel
theorem dL_shared_10 : decode cL_shared 10 = .ok (.goto 7, 3) := by decide +kernel
theorem dL_shared_13 : decode cL_shared 13 = .ok (.astore 4, 2) := by decide +kernel
theorem dL_shared_15 : decode cL_shared 15 = .ok (.iconst 1, 1) := by decide +kernel
theorem dL_shared_16 : decode cL_shared 16 = .ok (.ireturn, 1) := by decide +kernel
theorem dL_shared_17 : decode cL_shared 17 = .ok (.iconst 0, 1) := by decide +kernel
theorem dL_shared_18 : decode cL_shared 18 = .ok (.ireturn, 1) := by decide +kernel
theorem dL_hum_0 : decode cL_hum 0 = .ok (.aload_n 2, 1) := by decide +kernel
theorem dL_hum_1 : decode cL_hum 1 = .ok (.iconst 0, 1) := by decide +kernel
theorem dL_hum_2 : decode cL_hum 2 = .ok (.aload_n 0, 1) := by decide +kernel
theorem dL_hum_3 : decode cL_hum 3 = .ok (.iload_n 1, 1) := by decide +kernel
theorem dL_hum_4 : decode cL_hum 4 = .ok (.invokevirtual 44, 3) := by decide +kernel
theorem dL_hum_7 : decode cL_hum 7 = .ok (.i2l, 1) := by decide +kernel
theorem dL_hum_8 : decode cL_hum 8 = .ok (.lastore, 1) := by decide +kernel
theorem dL_hum_9 : decode cL_hum 9 = .ok (.goto 9, 3) := by decide +kernel
theorem dL_hum_12 : decode cL_hum 12 = .ok (.astore_n 3, 1) := by decide +kernel
theorem dL_hum_13 : decode cL_hum 13 = .ok (.iconst 1, 1) := by decide +kernel
theorem dL_hum_14 : decode cL_hum 14 = .ok (.ireturn, 1) := by decide +kernel
theorem dL_hum_15 : decode cL_hum 15 = .ok (.astore_n 3, 1) := by decide +kernel
theorem dL_hum_16 : decode cL_hum 16 = .ok (.iconst 2, 1) := by decide +kernel
theorem dL_hum_17 : decode cL_hum 17 = .ok (.ireturn, 1) := by decide +kernel
theorem dL_hum_18 : decode cL_hum 18 = .ok (.iconst 0, 1) := by decide +kernel
theorem dL_hum_19 : decode cL_hum 19 = .ok (.ireturn, 1) := by decide +kernel
theorem dL_setCosts_0 : decode cL_setCosts 0 = .ok (.aload_n 0, 1) := by decide +kernel
theorem dL_setCosts_1 : decode cL_setCosts 1 = .ok (.iload_n 1, 1) := by decide +kernel
theorem dL_setCosts_2 : decode cL_setCosts 2 = .ok (.iload_n 2, 1) := by decide +kernel
theorem dL_setCosts_3 : decode cL_setCosts 3 = .ok (.iload_n 3, 1) := by decide +kernel
theorem dL_setCosts_4 : decode cL_setCosts 4 = .ok (.invokevirtual 47, 3) := by decide +kernel
theorem dL_setCosts_7 : decode cL_setCosts 7 = .ok (.goto 7, 3) := by decide +kernel
theorem dL_setCosts_10 : decode cL_setCosts 10 = .ok (.astore 4, 2) := by decide +kernel
theorem dL_setCosts_12 : decode cL_setCosts 12 = .ok (.iconst 1, 1) := by decide +kernel
theorem dL_setCosts_13 : decode cL_setCosts 13 = .ok (.ireturn, 1) := by decide +kernel
theorem dL_setCosts_14 : decode cL_setCosts 14 = .ok (.iconst 0, 1) := by decide +kernel
theorem dL_setCosts_15 : decode cL_setCosts 15 = .ok (.ireturn, 1) := by decide +kernel
theorem dL_cost_0 : decode cL_cost 0 = .ok (.aload_n 2, 1) := by decide +kernel
theorem dL_cost_1 : decode cL_cost 1 = .ok (.iconst 0, 1) := by decide +kernel
theorem dL_cost_2 : decode cL_cost 2 = .ok (.aload_n 0, 1) := by decide +kernel
theorem dL_cost_3 : decode cL_cost 3 = .ok (.iload_n 1, 1) := by decide +kernel
theorem dL_cost_4 : decode cL_cost 4 = .ok (.invokevirtual 51, 3) := by decide +kernel
theorem dL_cost_7 : decode cL_cost 7 = .ok (.i2l, 1) := by decide +kernel
theorem dL_cost_8 : decode cL_cost 8 = .ok (.lastore, 1) := by decide +kernel
theorem dL_cost_9 : decode cL_cost 9 = .ok (.goto 6, 3) := by decide +kernel
theorem dL_cost_12 : decode cL_cost 12 = .ok (.astore_n 3, 1) := by decide +kernel
theorem dL_cost_13 : decode cL_cost 13 = .ok (.iconst 1, 1) := by decide +kernel
theorem dL_cost_14 : decode cL_cost 14 = .ok (.ireturn, 1) := by decide +kernel
theorem dL_cost_15 : decode cL_cost 15 = .ok (.iconst 0, 1) := by decide +kernel
theorem dL_cost_16 : decode cL_cost 16 = .ok (.ireturn, 1) := by decide +kernel
theorem dL_costByAll_0 : decode cL_costByAll 0 = .ok (.aload_n 2, 1) := by decide +kernel
theorem dL_costByAll_1 : decode cL_costByAll 1 = .ok (.iconst 0, 1) := by decide +kernel
theorem dL_costByAll_2 : decode cL_costByAll 2 = .ok (.aload_n 0, 1) := by decide +kernel
theorem dL_costByAll_3 : decode cL_costByAll 3 = .ok (.iload_n 1, 1) := by decide +kernel
theorem dL_costByAll_4 : decode cL_costByAll 4 = .ok (.invokevirtual 54, 3) := by decide +kernel
theorem dL_costByAll_7 : decode cL_costByAll 7 = .ok (.i2l, 1) := by decide +kernel
theorem dL_costByAll_8 : decode cL_costByAll 8 = .ok (.lastore, 1) := by decide +kernel
theorem dL_costByAll_9 : decode cL_costByAll 9 = .ok (.goto 9, 3) := by decide +kernel
theorem dL_costByAll_12 : decode cL_costByAll 12 = .ok (.astore_n 3, 1) := by decide +kernel
theorem dL_costByAll_13 : decode cL_costByAll 13 = .ok (.iconst 1, 1) := by decide +kernel
theorem dL_costByAll_14 : decode cL_costByAll 14 = .ok (.ireturn, 1) := by decide +kernel
theorem dL_costByAll_15 : decode cL_costByAll 15 = .ok (.astore_n 3, 1) := by decide +kernel
theorem dL_costByAll_16 : decode cL_costByAll 16 = .ok (.iconst 2, 1) := by decide +kernel
theorem dL_costByAll_17 : decode cL_costByAll 17 = .ok (.ireturn, 1) := by decide +kernel
theorem dL_costByAll_18 : decode cL_costByAll 18 = .ok (.iconst 0, 1) := by decide +kernel
theorem dL_costByAll_19 : decode cL_costByAll 19 = .ok (.ireturn, 1) := by decide +kernel
theorem dL_found_0 : decode cL_found 0 = .ok (.aload_n 2, 1) := by decide +kernel
theorem dL_found_1 : decode cL_found 1 = .ok (.iconst 0, 1) := by decide +kernel
theorem dL_found_2 : decode cL_found 2 = .ok (.aload_n 0, 1) := by decide +kernel
theorem dL_found_3 : decode cL_found 3 = .ok (.iload_n 1, 1) := by decide +kernel
theorem dL_found_4 : decode cL_found 4 = .ok (.invokevirtual 57, 3) := by decide +kernel
theorem dL_found_7 : decode cL_found 7 = .ok (.i2l, 1) := by decide +kernel
theorem dL_found_8 : decode cL_found 8 = .ok (.lastore, 1) := by decide +kernel
theorem dL_found_9 : decode cL_found 9 = .ok (.goto 6, 3) := by decide +kernel
theorem dL_found_12 : decode cL_found 12 = .ok (.astore_n 3, 1) := by decide +kernel
theorem dL_found_13 : decode cL_found 13 = .ok (.iconst 1, 1) := by decide +kernel
theorem dL_found_14 : decode cL_found 14 = .ok (.ireturn, 1) := by decide +kernel
theorem dL_found_15 : decode cL_found 15 = .ok (.iconst 0, 1) := by decide +kernel
theorem dL_found_16 : decode cL_found 16 = .ok (.ireturn, 1) := by decide +kernel
theorem dL_places_0 : decode cL_places 0 = .ok (.aload_n 2, 1) := by decide +kernel
theorem dL_places_1 : decode cL_places 1 = .ok (.iconst 0, 1) := by decide +kernel
theorem dL_places_2 : decode cL_places 2 = .ok (.aload_n 0, 1) := by decide +kernel
theorem dL_places_3 : decode cL_places 3 = .ok (.iload_n 1, 1) := by decide +kernel
theorem dL_places_4 : decode cL_places 4 = .ok (.invokevirtual 60, 3) := by decide +kernel
theorem dL_places_7 : decode cL_places 7 = .ok (.i2l, 1) := by decide +kernel
theorem dL_places_8 : decode cL_places 8 = .ok (.lastore, 1) := by decide +kernel
theorem dL_places_9 : decode cL_places 9 = .ok (.goto 9, 3) := by decide +kernel
theorem dL_places_12 : decode cL_places 12 = .ok (.astore_n 3, 1) := by decide +kernel
theorem dL_places_13 : decode cL_places 13 = .ok (.iconst 1, 1) := by decide +kernel
theorem dL_places_14 : decode cL_places 14 = .ok (.ireturn, 1) := by decide +kernel
theorem dL_places_15 : decode cL_places 15 = .ok (.astore_n 3, 1) := by decide +kernel
theorem dL_places_16 : decode cL_places 16 = .ok (.iconst 2, 1) := by decide +kernel
theorem dL_places_17 : decode cL_places 17 = .ok (.ireturn, 1) := by decide +kernel
theorem dL_places_18 : decode cL_places 18 = .ok (.iconst 0, 1) := by decide +kernel
theorem dL_places_19 : decode cL_places 19 = .ok (.ireturn, 1) := by decide +kernel
theorem dL_place_0 : decode cL_place 0 = .ok (.aload_n 3, 1) := by decide +kernel
theorem dL_place_1 : decode cL_place 1 = .ok (.iconst 0, 1) := by decide +kernel
theorem dL_place_2 : decode cL_place 2 = .ok (.aload_n 0, 1) := by decide +kernel
theorem dL_place_3 : decode cL_place 3 = .ok (.iload_n 1, 1) := by decide +kernel
theorem dL_place_4 : decode cL_place 4 = .ok (.iload_n 2, 1) := by decide +kernel
theorem dL_place_5 : decode cL_place 5 = .ok (.invokevirtual 63, 3) := by decide +kernel
theorem dL_place_8 : decode cL_place 8 = .ok (.i2l, 1) := by decide +kernel
theorem dL_place_9 : decode cL_place 9 = .ok (.lastore, 1) := by decide +kernel
theorem dL_place_10 : decode cL_place 10 = .ok (.goto 15, 3) := by decide +kernel
theorem dL_place_13 : decode cL_place 13 = .ok (.astore 4, 2) := by decide +kernel
theorem dL_place_15 : decode cL_place 15 = .ok (.iconst 1, 1) := by decide +kernel
theorem dL_place_16 : decode cL_place 16 = .ok (.ireturn, 1) := by decide +kernel
theorem dL_place_17 : decode cL_place 17 = .ok (.astore 4, 2) := by decide +kernel
theorem dL_place_19 : decode cL_place 19 = .ok (.iconst 2, 1) := by decide +kernel
theorem dL_place_20 : decode cL_place 20 = .ok (.ireturn, 1) := by decide +kernel
theorem dL_place_21 : decode cL_place 21 = .ok (.astore 4, 2) := by decide +kernel
theorem dL_place_23 : decode cL_place 23 = .ok (.iconst 3, 1) := by decide +kernel
theorem dL_place_24 : decode cL_place 24 = .ok (.ireturn, 1) := by decide +kernel
theorem dL_place_25 : decode cL_place 25 = .ok (.iconst 0, 1) := by decide +kernel
theorem dL_place_26 : decode cL_place 26 = .ok (.ireturn, 1) := by decide +kernel
theorem dL_link_0 : decode cL_link 0 = .ok (.aload_n 3, 1) := by decide +kernel
theorem dL_link_1 : decode cL_link 1 = .ok (.iconst 0, 1) := by decide +kernel
theorem dL_link_2 : decode cL_link 2 = .ok (.aload_n 0, 1) := by decide +kernel
theorem dL_link_3 : decode cL_link 3 = .ok (.iload_n 1, 1) := by decide +kernel
theorem dL_link_4 : decode cL_link 4 = .ok (.iload_n 2, 1) := by decide +kernel
theorem dL_link_5 : decode cL_link 5 = .ok (.invokevirtual 66, 3) := by decide +kernel
theorem dL_link_8 : decode cL_link 8 = .ok (.i2l, 1) := by decide +kernel
theorem dL_link_9 : decode cL_link 9 = .ok (.lastore, 1) := by decide +kernel
theorem dL_link_10 : decode cL_link 10 = .ok (.goto 15, 3) := by decide +kernel
theorem dL_link_13 : decode cL_link 13 = .ok (.astore 4, 2) := by decide +kernel
theorem dL_link_15 : decode cL_link 15 = .ok (.iconst 1, 1) := by decide +kernel
theorem dL_link_16 : decode cL_link 16 = .ok (.ireturn, 1) := by decide +kernel
theorem dL_link_17 : decode cL_link 17 = .ok (.astore 4, 2) := by decide +kernel
theorem dL_link_19 : decode cL_link 19 = .ok (.iconst 2, 1) := by decide +kernel
theorem dL_link_20 : decode cL_link 20 = .ok (.ireturn, 1) := by decide +kernel
theorem dL_link_21 : decode cL_link 21 = .ok (.astore 4, 2) := by decide +kernel
theorem dL_link_23 : decode cL_link 23 = .ok (.iconst 3, 1) := by decide +kernel
theorem dL_link_24 : decode cL_link 24 = .ok (.ireturn, 1) := by decide +kernel
theorem dL_link_25 : decode cL_link 25 = .ok (.iconst 0, 1) := by decide +kernel
theorem dL_link_26 : decode cL_link 26 = .ok (.ireturn, 1) := by decide +kernel
theorem dL_cut_0 : decode cL_cut 0 = .ok (.aload_n 3, 1) := by decide +kernel
theorem dL_cut_1 : decode cL_cut 1 = .ok (.iconst 0, 1) := by decide +kernel
theorem dL_cut_2 : decode cL_cut 2 = .ok (.aload_n 0, 1) := by decide +kernel
theorem dL_cut_3 : decode cL_cut 3 = .ok (.iload_n 1, 1) := by decide +kernel
theorem dL_cut_4 : decode cL_cut 4 = .ok (.iload_n 2, 1) := by decide +kernel
theorem dL_cut_5 : decode cL_cut 5 = .ok (.invokevirtual 69, 3) := by decide +kernel
theorem dL_cut_8 : decode cL_cut 8 = .ok (.i2l, 1) := by decide +kernel
theorem dL_cut_9 : decode cL_cut 9 = .ok (.lastore, 1) := by decide +kernel
theorem dL_cut_10 : decode cL_cut 10 = .ok (.goto 11, 3) := by decide +kernel
theorem dL_cut_13 : decode cL_cut 13 = .ok (.astore 4, 2) := by decide +kernel
theorem dL_cut_15 : decode cL_cut 15 = .ok (.iconst 1, 1) := by decide +kernel
theorem dL_cut_16 : decode cL_cut 16 = .ok (.ireturn, 1) := by decide +kernel
theorem dL_cut_17 : decode cL_cut 17 = .ok (.astore 4, 2) := by decide +kernel
theorem dL_cut_19 : decode cL_cut 19 = .ok (.iconst 2, 1) := by decide +kernel
theorem dL_cut_20 : decode cL_cut 20 = .ok (.ireturn, 1) := by decide +kernel
theorem dL_cut_21 : decode cL_cut 21 = .ok (.iconst 0, 1) := by decide +kernel
theorem dL_cut_22 : decode cL_cut 22 = .ok (.ireturn, 1) := by decide +kernel
theorem dL_family_0 : decode cL_family 0 = .ok (.aload_n 2, 1) := by decide +kernel
theorem dL_family_1 : decode cL_family 1 = .ok (.iconst 0, 1) := by decide +kernel
theorem dL_family_2 : decode cL_family 2 = .ok (.aload_n 0, 1) := by decide +kernel
theorem dL_family_3 : decode cL_family 3 = .ok (.iload_n 1, 1) := by decide +kernel
theorem dL_family_4 : decode cL_family 4 = .ok (.invokevirtual 72, 3) := by decide +kernel
theorem dL_family_7 : decode cL_family 7 = .ok (.i2l, 1) := by decide +kernel
theorem dL_family_8 : decode cL_family 8 = .ok (.lastore, 1) := by decide +kernel
theorem dL_family_9 : decode cL_family 9 = .ok (.goto 6, 3) := by decide +kernel
theorem dL_family_12 : decode cL_family 12 = .ok (.astore_n 3, 1) := by decide +kernel
theorem dL_family_13 : decode cL_family 13 = .ok (.iconst 1, 1) := by decide +kernel
theorem dL_family_14 : decode cL_family 14 = .ok (.ireturn, 1) := by decide +kernel
theorem dL_family_15 : decode cL_family 15 = .ok (.iconst 0, 1) := by decide +kernel
theorem dL_family_16 : decode cL_family 16 = .ok (.ireturn, 1) := by decide +kernel
