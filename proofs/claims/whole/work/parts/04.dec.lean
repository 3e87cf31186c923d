/-! DECODE ROWS of the class and the reference (out of the task's NAMES) -/
theorem dJxe99ae_isNaN_b9ae7_0 : decode cJxe99ae_isNaN_b9ae7 0 = .ok (.dload_n 0, 1) := by decide +kernel
theorem dJxe99ae_isNaN_b9ae7_1 : decode cJxe99ae_isNaN_b9ae7 1 = .ok (.dload_n 0, 1) := by decide +kernel
theorem dJxe99ae_isNaN_b9ae7_2 : decode cJxe99ae_isNaN_b9ae7 2 = .ok (.dcmp .l, 1) := by decide +kernel
theorem dJxe99ae_isNaN_b9ae7_3 : decode cJxe99ae_isNaN_b9ae7 3 = .ok (.ifCond .eq 7, 3) := by decide +kernel
theorem dJxe99ae_isNaN_b9ae7_6 : decode cJxe99ae_isNaN_b9ae7 6 = .ok (.iconst 1, 1) := by decide +kernel
theorem dJxe99ae_isNaN_b9ae7_7 : decode cJxe99ae_isNaN_b9ae7 7 = .ok (.goto 4, 3) := by decide +kernel
theorem dJxe99ae_isNaN_b9ae7_10 : decode cJxe99ae_isNaN_b9ae7 10 = .ok (.iconst 0, 1) := by decide +kernel
theorem dJxe99ae_isNaN_b9ae7_11 : decode cJxe99ae_isNaN_b9ae7 11 = .ok (.ireturn, 1) := by decide +kernel
theorem dJxe99ae_doubleToLongBits_ccdee_0 : decode cJxe99ae_doubleToLongBits_ccdee 0 = .ok (.dload_n 0, 1) := by decide +kernel
theorem dJxe99ae_doubleToLongBits_ccdee_1 : decode cJxe99ae_doubleToLongBits_ccdee 1 = .ok (.invokestatic 122, 3) := by decide +kernel
theorem dJxe99ae_doubleToLongBits_ccdee_4 : decode cJxe99ae_doubleToLongBits_ccdee 4 = .ok (.ifCond .ne 8, 3) := by decide +kernel
theorem dJxe99ae_doubleToLongBits_ccdee_7 : decode cJxe99ae_doubleToLongBits_ccdee 7 = .ok (.dload_n 0, 1) := by decide +kernel
theorem dJxe99ae_doubleToLongBits_ccdee_8 : decode cJxe99ae_doubleToLongBits_ccdee 8 = .ok (.invokestatic 134, 3) := by decide +kernel
theorem dJxe99ae_doubleToLongBits_ccdee_11 : decode cJxe99ae_doubleToLongBits_ccdee 11 = .ok (.lreturn, 1) := by decide +kernel
theorem dJxe99ae_doubleToLongBits_ccdee_12 : decode cJxe99ae_doubleToLongBits_ccdee 12 = .ok (.ldc2_w 137, 3) := by decide +kernel
theorem dJxe99ae_doubleToLongBits_ccdee_15 : decode cJxe99ae_doubleToLongBits_ccdee 15 = .ok (.lreturn, 1) := by decide +kernel
theorem dJxf58ca_isNaN_12338_0 : decode cJxf58ca_isNaN_12338 0 = .ok (.fload_n 0, 1) := by decide +kernel
theorem dJxf58ca_isNaN_12338_1 : decode cJxf58ca_isNaN_12338 1 = .ok (.fload_n 0, 1) := by decide +kernel
theorem dJxf58ca_isNaN_12338_2 : decode cJxf58ca_isNaN_12338 2 = .ok (.fcmp .l, 1) := by decide +kernel
theorem dJxf58ca_isNaN_12338_3 : decode cJxf58ca_isNaN_12338 3 = .ok (.ifCond .eq 7, 3) := by decide +kernel
theorem dJxf58ca_isNaN_12338_6 : decode cJxf58ca_isNaN_12338 6 = .ok (.iconst 1, 1) := by decide +kernel
theorem dJxf58ca_isNaN_12338_7 : decode cJxf58ca_isNaN_12338 7 = .ok (.goto 4, 3) := by decide +kernel
theorem dJxf58ca_isNaN_12338_10 : decode cJxf58ca_isNaN_12338 10 = .ok (.iconst 0, 1) := by decide +kernel
theorem dJxf58ca_isNaN_12338_11 : decode cJxf58ca_isNaN_12338 11 = .ok (.ireturn, 1) := by decide +kernel
theorem dJxf58ca_floatToIntBits_5c35a_0 : decode cJxf58ca_floatToIntBits_5c35a 0 = .ok (.fload_n 0, 1) := by decide +kernel
theorem dJxf58ca_floatToIntBits_5c35a_1 : decode cJxf58ca_floatToIntBits_5c35a 1 = .ok (.invokestatic 59, 3) := by decide +kernel
theorem dJxf58ca_floatToIntBits_5c35a_4 : decode cJxf58ca_floatToIntBits_5c35a 4 = .ok (.ifCond .ne 8, 3) := by decide +kernel
theorem dJxf58ca_floatToIntBits_5c35a_7 : decode cJxf58ca_floatToIntBits_5c35a 7 = .ok (.fload_n 0, 1) := by decide +kernel
theorem dJxf58ca_floatToIntBits_5c35a_8 : decode cJxf58ca_floatToIntBits_5c35a 8 = .ok (.invokestatic 74, 3) := by decide +kernel
theorem dJxf58ca_floatToIntBits_5c35a_11 : decode cJxf58ca_floatToIntBits_5c35a 11 = .ok (.ireturn, 1) := by decide +kernel
theorem dJxf58ca_floatToIntBits_5c35a_12 : decode cJxf58ca_floatToIntBits_5c35a 12 = .ok (.ldc 77, 2) := by decide +kernel
theorem dJxf58ca_floatToIntBits_5c35a_14 : decode cJxf58ca_floatToIntBits_5c35a 14 = .ok (.ireturn, 1) := by decide +kernel
theorem dX0_init_0 : decode cX0_init 0 = .ok (.aload_n 0, 1) := by decide +kernel
theorem dX0_init_1 : decode cX0_init 1 = .ok (.invokespecial 3, 3) := by decide +kernel
theorem dX0_init_4 : decode cX0_init 4 = .ok (.aload_n 0, 1) := by decide +kernel
theorem dX0_init_5 : decode cX0_init 5 = .ok (.new 9, 3) := by decide +kernel
theorem dX0_init_8 : decode cX0_init 8 = .ok (.dup, 1) := by decide +kernel
theorem dX0_init_9 : decode cX0_init 9 = .ok (.invokespecial 11, 3) := by decide +kernel
theorem dX0_init_12 : decode cX0_init 12 = .ok (.putfield 12, 3) := by decide +kernel
theorem dX0_init_15 : decode cX0_init 15 = .ok (.aload_n 0, 1) := by decide +kernel
theorem dX0_init_16 : decode cX0_init 16 = .ok (.new 18, 3) := by decide +kernel
theorem dX0_init_19 : decode cX0_init 19 = .ok (.dup, 1) := by decide +kernel
theorem dX0_init_20 : decode cX0_init 20 = .ok (.invokespecial 20, 3) := by decide +kernel
theorem dX0_init_23 : decode cX0_init 23 = .ok (.putfield 21, 3) := by decide +kernel
theorem dX0_init_26 : decode cX0_init 26 = .ok (.aload_n 0, 1) := by decide +kernel
theorem dX0_init_27 : decode cX0_init 27 = .ok (.bipush 16, 2) := by decide +kernel
theorem dX0_init_29 : decode cX0_init 29 = .ok (.newarray .int, 2) := by decide +kernel
theorem dX0_init_31 : decode cX0_init 31 = .ok (.putfield 25, 3) := by decide +kernel
theorem dX0_init_34 : decode cX0_init 34 = .ok (.aload_n 0, 1) := by decide +kernel
theorem dX0_init_35 : decode cX0_init 35 = .ok (.bipush 16, 2) := by decide +kernel
theorem dX0_init_37 : decode cX0_init 37 = .ok (.newarray .int, 2) := by decide +kernel
theorem dX0_init_39 : decode cX0_init 39 = .ok (.putfield 29, 3) := by decide +kernel
theorem dX0_init_42 : decode cX0_init 42 = .ok (.aload_n 0, 1) := by decide +kernel
theorem dX0_init_43 : decode cX0_init 43 = .ok (.bipush 16, 2) := by decide +kernel
theorem dX0_init_45 : decode cX0_init 45 = .ok (.newarray .int, 2) := by decide +kernel
theorem dX0_init_47 : decode cX0_init 47 = .ok (.putfield 32, 3) := by decide +kernel
theorem dX0_init_50 : decode cX0_init 50 = .ok (.aload_n 0, 1) := by decide +kernel
theorem dX0_init_51 : decode cX0_init 51 = .ok (.bipush 96, 2) := by decide +kernel
theorem dX0_init_53 : decode cX0_init 53 = .ok (.newarray .int, 2) := by decide +kernel
theorem dX0_init_55 : decode cX0_init 55 = .ok (.putfield 35, 3) := by decide +kernel
theorem dX0_init_58 : decode cX0_init 58 = .ok (.return_, 1) := by decide +kernel
theorem dX0_add_0 : decode cX0_add 0 = .ok (.aload_n 0, 1) := by decide +kernel
theorem dX0_add_1 : decode cX0_add 1 = .ok (.getfield 25, 3) := by decide +kernel
theorem dX0_add_4 : decode cX0_add 4 = .ok (.iload_n 1, 1) := by decide +kernel
theorem dX0_add_5 : decode cX0_add 5 = .ok (.dup2, 1) := by decide +kernel
theorem dX0_add_6 : decode cX0_add 6 = .ok (.iaload, 1) := by decide +kernel
theorem dX0_add_7 : decode cX0_add 7 = .ok (.iconst 1, 1) := by decide +kernel
theorem dX0_add_8 : decode cX0_add 8 = .ok (.iload_n 3, 1) := by decide +kernel
theorem dX0_add_9 : decode cX0_add 9 = .ok (.ishl, 1) := by decide +kernel
theorem dX0_add_10 : decode cX0_add 10 = .ok (.ior, 1) := by decide +kernel
theorem dX0_add_11 : decode cX0_add 11 = .ok (.iastore, 1) := by decide +kernel
theorem dX0_add_12 : decode cX0_add 12 = .ok (.aload_n 0, 1) := by decide +kernel
theorem dX0_add_13 : decode cX0_add 13 = .ok (.getfield 29, 3) := by decide +kernel
theorem dX0_add_16 : decode cX0_add 16 = .ok (.iload_n 3, 1) := by decide +kernel
theorem dX0_add_17 : decode cX0_add 17 = .ok (.dup2, 1) := by decide +kernel
theorem dX0_add_18 : decode cX0_add 18 = .ok (.iaload, 1) := by decide +kernel
theorem dX0_add_19 : decode cX0_add 19 = .ok (.iconst 1, 1) := by decide +kernel
theorem dX0_add_20 : decode cX0_add 20 = .ok (.iload_n 1, 1) := by decide +kernel
theorem dX0_add_21 : decode cX0_add 21 = .ok (.ishl, 1) := by decide +kernel
theorem dX0_add_22 : decode cX0_add 22 = .ok (.ior, 1) := by decide +kernel
theorem dX0_add_23 : decode cX0_add 23 = .ok (.iastore, 1) := by decide +kernel
theorem dX0_add_24 : decode cX0_add 24 = .ok (.aload_n 0, 1) := by decide +kernel
theorem dX0_add_25 : decode cX0_add 25 = .ok (.getfield 21, 3) := by decide +kernel
theorem dX0_add_28 : decode cX0_add 28 = .ok (.iload_n 1, 1) := by decide +kernel
theorem dX0_add_29 : decode cX0_add 29 = .ok (.iload_n 2, 1) := by decide +kernel
theorem dX0_add_30 : decode cX0_add 30 = .ok (.iload_n 3, 1) := by decide +kernel
theorem dX0_add_31 : decode cX0_add 31 = .ok (.iload 4, 2) := by decide +kernel
theorem dX0_add_33 : decode cX0_add 33 = .ok (.invokevirtual 38, 3) := by decide +kernel
theorem dX0_add_36 : decode cX0_add 36 = .ok (.ireturn, 1) := by decide +kernel
theorem dX0_select_0 : decode cX0_select 0 = .ok (.iconst 0, 1) := by decide +kernel
theorem dX0_select_1 : decode cX0_select 1 = .ok (.istore_n 3, 1) := by decide +kernel
theorem dX0_select_2 : decode cX0_select 2 = .ok (.iload_n 3, 1) := by decide +kernel
theorem dX0_select_3 : decode cX0_select 3 = .ok (.aload_n 0, 1) := by decide +kernel
theorem dX0_select_4 : decode cX0_select 4 = .ok (.getfield 35, 3) := by decide +kernel
theorem dX0_select_7 : decode cX0_select 7 = .ok (.arraylength, 1) := by decide +kernel
theorem dX0_select_8 : decode cX0_select 8 = .ok (.if_icmp .ge 16, 3) := by decide +kernel
theorem dX0_select_11 : decode cX0_select 11 = .ok (.aload_n 0, 1) := by decide +kernel
theorem dX0_select_12 : decode cX0_select 12 = .ok (.getfield 35, 3) := by decide +kernel
theorem dX0_select_15 : decode cX0_select 15 = .ok (.iload_n 3, 1) := by decide +kernel
theorem dX0_select_16 : decode cX0_select 16 = .ok (.iconst (-1), 1) := by decide +kernel
theorem dX0_select_17 : decode cX0_select 17 = .ok (.iastore, 1) := by decide +kernel
theorem dX0_select_18 : decode cX0_select 18 = .ok (.iinc 3 1, 3) := by decide +kernel
theorem dX0_select_21 : decode cX0_select 21 = .ok (.goto (-19), 3) := by decide +kernel
theorem dX0_select_24 : decode cX0_select 24 = .ok (.iconst 0, 1) := by decide +kernel
theorem dX0_select_25 : decode cX0_select 25 = .ok (.istore_n 3, 1) := by decide +kernel
theorem dX0_select_26 : decode cX0_select 26 = .ok (.iload_n 3, 1) := by decide +kernel
theorem dX0_select_27 : decode cX0_select 27 = .ok (.bipush 16, 2) := by decide +kernel
theorem dX0_select_29 : decode cX0_select 29 = .ok (.if_icmp .ge 16, 3) := by decide +kernel
theorem dX0_select_32 : decode cX0_select 32 = .ok (.aload_n 0, 1) := by decide +kernel
theorem dX0_select_33 : decode cX0_select 33 = .ok (.getfield 32, 3) := by decide +kernel
theorem dX0_select_36 : decode cX0_select 36 = .ok (.iload_n 3, 1) := by decide +kernel
theorem dX0_select_37 : decode cX0_select 37 = .ok (.iconst 0, 1) := by decide +kernel
theorem dX0_select_38 : decode cX0_select 38 = .ok (.iastore, 1) := by decide +kernel
theorem dX0_select_39 : decode cX0_select 39 = .ok (.iinc 3 1, 3) := by decide +kernel
theorem dX0_select_42 : decode cX0_select 42 = .ok (.goto (-16), 3) := by decide +kernel
theorem dX0_select_45 : decode cX0_select 45 = .ok (.iconst 0, 1) := by decide +kernel
theorem dX0_select_46 : decode cX0_select 46 = .ok (.istore_n 3, 1) := by decide +kernel
theorem dX0_select_47 : decode cX0_select 47 = .ok (.iload_n 3, 1) := by decide +kernel
theorem dX0_select_48 : decode cX0_select 48 = .ok (.aload_n 0, 1) := by decide +kernel
theorem dX0_select_49 : decode cX0_select 49 = .ok (.getfield 21, 3) := by decide +kernel
theorem dX0_select_52 : decode cX0_select 52 = .ok (.getfield 42, 3) := by decide +kernel
theorem dX0_select_55 : decode cX0_select 55 = .ok (.if_icmp .ge 74, 3) := by decide +kernel
theorem dX0_select_58 : decode cX0_select 58 = .ok (.aload_n 0, 1) := by decide +kernel
theorem dX0_select_59 : decode cX0_select 59 = .ok (.getfield 21, 3) := by decide +kernel
theorem dX0_select_62 : decode cX0_select 62 = .ok (.iload_n 3, 1) := by decide +kernel
theorem dX0_select_63 : decode cX0_select 63 = .ok (.iload_n 1, 1) := by decide +kernel
theorem dX0_select_64 : decode cX0_select 64 = .ok (.iload_n 2, 1) := by decide +kernel
theorem dX0_select_65 : decode cX0_select 65 = .ok (.invokevirtual 46, 3) := by decide +kernel
theorem dX0_select_68 : decode cX0_select 68 = .ok (.ifCond .eq 55, 3) := by decide +kernel
theorem dX0_select_71 : decode cX0_select 71 = .ok (.aload_n 0, 1) := by decide +kernel
theorem dX0_select_72 : decode cX0_select 72 = .ok (.getfield 21, 3) := by decide +kernel
theorem dX0_select_75 : decode cX0_select 75 = .ok (.getfield 50, 3) := by decide +kernel
theorem dX0_select_78 : decode cX0_select 78 = .ok (.iload_n 3, 1) := by decide +kernel
theorem dX0_select_79 : decode cX0_select 79 = .ok (.iaload, 1) := by decide +kernel
theorem dX0_select_80 : decode cX0_select 80 = .ok (.istore 4, 2) := by decide +kernel
theorem dX0_select_82 : decode cX0_select 82 = .ok (.aload_n 0, 1) := by decide +kernel
theorem dX0_select_83 : decode cX0_select 83 = .ok (.getfield 35, 3) := by decide +kernel
theorem dX0_select_86 : decode cX0_select 86 = .ok (.iload 4, 2) := by decide +kernel
theorem dX0_select_88 : decode cX0_select 88 = .ok (.aload_n 0, 1) := by decide +kernel
theorem dX0_select_89 : decode cX0_select 89 = .ok (.getfield 21, 3) := by decide +kernel
theorem dX0_select_92 : decode cX0_select 92 = .ok (.getfield 53, 3) := by decide +kernel
theorem dX0_select_95 : decode cX0_select 95 = .ok (.iload_n 3, 1) := by decide +kernel
theorem dX0_select_96 : decode cX0_select 96 = .ok (.iaload, 1) := by decide +kernel
theorem dX0_select_97 : decode cX0_select 97 = .ok (.invokestatic 56, 3) := by decide +kernel
theorem dX0_select_100 : decode cX0_select 100 = .ok (.iload_n 3, 1) := by decide +kernel
theorem dX0_select_101 : decode cX0_select 101 = .ok (.iastore, 1) := by decide +kernel
theorem dX0_select_102 : decode cX0_select 102 = .ok (.aload_n 0, 1) := by decide +kernel
theorem dX0_select_103 : decode cX0_select 103 = .ok (.getfield 32, 3) := by decide +kernel
theorem dX0_select_106 : decode cX0_select 106 = .ok (.iload 4, 2) := by decide +kernel
theorem dX0_select_108 : decode cX0_select 108 = .ok (.dup2, 1) := by decide +kernel
theorem dX0_select_109 : decode cX0_select 109 = .ok (.iaload, 1) := by decide +kernel
theorem dX0_select_110 : decode cX0_select 110 = .ok (.iconst 1, 1) := by decide +kernel
theorem dX0_select_111 : decode cX0_select 111 = .ok (.aload_n 0, 1) := by decide +kernel
theorem dX0_select_112 : decode cX0_select 112 = .ok (.getfield 21, 3) := by decide +kernel
theorem dX0_select_115 : decode cX0_select 115 = .ok (.getfield 60, 3) := by decide +kernel
theorem dX0_select_118 : decode cX0_select 118 = .ok (.iload_n 3, 1) := by decide +kernel
theorem dX0_select_119 : decode cX0_select 119 = .ok (.iaload, 1) := by decide +kernel
theorem dX0_select_120 : decode cX0_select 120 = .ok (.ishl, 1) := by decide +kernel
theorem dX0_select_121 : decode cX0_select 121 = .ok (.ior, 1) := by decide +kernel
theorem dX0_select_122 : decode cX0_select 122 = .ok (.iastore, 1) := by decide +kernel
theorem dX0_select_123 : decode cX0_select 123 = .ok (.iinc 3 1, 3) := by decide +kernel
theorem dX0_select_126 : decode cX0_select 126 = .ok (.goto (-79), 3) := by decide +kernel
theorem dX0_select_129 : decode cX0_select 129 = .ok (.return_, 1) := by decide +kernel
theorem dX0_heldLine_0 : decode cX0_heldLine 0 = .ok (.aload_n 0, 1) := by decide +kernel
theorem dX0_heldLine_1 : decode cX0_heldLine 1 = .ok (.getfield 35, 3) := by decide +kernel
theorem dX0_heldLine_4 : decode cX0_heldLine 4 = .ok (.iload_n 1, 1) := by decide +kernel
theorem dX0_heldLine_5 : decode cX0_heldLine 5 = .ok (.iload_n 2, 1) := by decide +kernel
theorem dX0_heldLine_6 : decode cX0_heldLine 6 = .ok (.invokestatic 56, 3) := by decide +kernel
theorem dX0_heldLine_9 : decode cX0_heldLine 9 = .ok (.iaload, 1) := by decide +kernel
theorem dX0_heldLine_10 : decode cX0_heldLine 10 = .ok (.ireturn, 1) := by decide +kernel
theorem dX0_hasHeldChildrenIn_0 : decode cX0_hasHeldChildrenIn 0 = .ok (.aload_n 0, 1) := by decide +kernel
theorem dX0_hasHeldChildrenIn_1 : decode cX0_hasHeldChildrenIn 1 = .ok (.getfield 32, 3) := by decide +kernel
theorem dX0_hasHeldChildrenIn_4 : decode cX0_hasHeldChildrenIn 4 = .ok (.iload_n 1, 1) := by decide +kernel
theorem dX0_hasHeldChildrenIn_5 : decode cX0_hasHeldChildrenIn 5 = .ok (.iaload, 1) := by decide +kernel
theorem dX0_hasHeldChildrenIn_6 : decode cX0_hasHeldChildrenIn 6 = .ok (.iload_n 2, 1) := by decide +kernel
theorem dX0_hasHeldChildrenIn_7 : decode cX0_hasHeldChildrenIn 7 = .ok (.iconst (-1), 1) := by decide +kernel
theorem dX0_hasHeldChildrenIn_8 : decode cX0_hasHeldChildrenIn 8 = .ok (.ixor, 1) := by decide +kernel
theorem dX0_hasHeldChildrenIn_9 : decode cX0_hasHeldChildrenIn 9 = .ok (.iand, 1) := by decide +kernel
theorem dX0_hasHeldChildrenIn_10 : decode cX0_hasHeldChildrenIn 10 = .ok (.ifCond .ne 7, 3) := by decide +kernel
theorem dX0_hasHeldChildrenIn_13 : decode cX0_hasHeldChildrenIn 13 = .ok (.iconst 1, 1) := by decide +kernel
theorem dX0_hasHeldChildrenIn_14 : decode cX0_hasHeldChildrenIn 14 = .ok (.goto 4, 3) := by decide +kernel
theorem dX0_hasHeldChildrenIn_17 : decode cX0_hasHeldChildrenIn 17 = .ok (.iconst 0, 1) := by decide +kernel
theorem dX0_hasHeldChildrenIn_18 : decode cX0_hasHeldChildrenIn 18 = .ok (.ireturn, 1) := by decide +kernel
theorem dX0_levelsBelow_0 : decode cX0_levelsBelow 0 = .ok (.aload_n 0, 1) := by decide +kernel
theorem dX0_levelsBelow_1 : decode cX0_levelsBelow 1 = .ok (.getfield 25, 3) := by decide +kernel
theorem dX0_levelsBelow_4 : decode cX0_levelsBelow 4 = .ok (.iload_n 1, 1) := by decide +kernel
theorem dX0_levelsBelow_5 : decode cX0_levelsBelow 5 = .ok (.invokestatic 63, 3) := by decide +kernel
theorem dX0_levelsBelow_8 : decode cX0_levelsBelow 8 = .ok (.ireturn, 1) := by decide +kernel
theorem dX0_levelsAbove_0 : decode cX0_levelsAbove 0 = .ok (.aload_n 0, 1) := by decide +kernel
theorem dX0_levelsAbove_1 : decode cX0_levelsAbove 1 = .ok (.getfield 29, 3) := by decide +kernel
theorem dX0_levelsAbove_4 : decode cX0_levelsAbove 4 = .ok (.iload_n 1, 1) := by decide +kernel
theorem dX0_levelsAbove_5 : decode cX0_levelsAbove 5 = .ok (.invokestatic 63, 3) := by decide +kernel
theorem dX0_levelsAbove_8 : decode cX0_levelsAbove 8 = .ok (.ireturn, 1) := by decide +kernel
theorem dX0_heldLevelsBelow_0 : decode cX0_heldLevelsBelow 0 = .ok (.aload_n 0, 1) := by decide +kernel
theorem dX0_heldLevelsBelow_1 : decode cX0_heldLevelsBelow 1 = .ok (.getfield 32, 3) := by decide +kernel
theorem dX0_heldLevelsBelow_4 : decode cX0_heldLevelsBelow 4 = .ok (.iload_n 1, 1) := by decide +kernel
theorem dX0_heldLevelsBelow_5 : decode cX0_heldLevelsBelow 5 = .ok (.invokestatic 63, 3) := by decide +kernel
theorem dX0_heldLevelsBelow_8 : decode cX0_heldLevelsBelow 8 = .ok (.ireturn, 1) := by decide +kernel
theorem dX0_isWithin_0 : decode cX0_isWithin 0 = .ok (.iconst 1, 1) := by decide +kernel
theorem dX0_isWithin_1 : decode cX0_isWithin 1 = .ok (.iload_n 2, 1) := by decide +kernel
theorem dX0_isWithin_2 : decode cX0_isWithin 2 = .ok (.ishl, 1) := by decide +kernel
theorem dX0_isWithin_3 : decode cX0_isWithin 3 = .ok (.istore_n 3, 1) := by decide +kernel
theorem dX0_isWithin_4 : decode cX0_isWithin 4 = .ok (.iconst 0, 1) := by decide +kernel
theorem dX0_isWithin_5 : decode cX0_isWithin 5 = .ok (.istore 4, 2) := by decide +kernel
theorem dX0_isWithin_7 : decode cX0_isWithin 7 = .ok (.iload 4, 2) := by decide +kernel
theorem dX0_isWithin_9 : decode cX0_isWithin 9 = .ok (.iconst 4, 1) := by decide +kernel
theorem dX0_isWithin_10 : decode cX0_isWithin 10 = .ok (.if_icmp .ge 20, 3) := by decide +kernel
theorem dX0_isWithin_13 : decode cX0_isWithin 13 = .ok (.iload_n 3, 1) := by decide +kernel
theorem dX0_isWithin_14 : decode cX0_isWithin 14 = .ok (.aload_n 0, 1) := by decide +kernel
theorem dX0_isWithin_15 : decode cX0_isWithin 15 = .ok (.getfield 25, 3) := by decide +kernel
theorem dX0_isWithin_18 : decode cX0_isWithin 18 = .ok (.iload_n 3, 1) := by decide +kernel
theorem dX0_isWithin_19 : decode cX0_isWithin 19 = .ok (.invokestatic 67, 3) := by decide +kernel
theorem dX0_isWithin_22 : decode cX0_isWithin 22 = .ok (.ior, 1) := by decide +kernel
theorem dX0_isWithin_23 : decode cX0_isWithin 23 = .ok (.istore_n 3, 1) := by decide +kernel
theorem dX0_isWithin_24 : decode cX0_isWithin 24 = .ok (.iinc 4 1, 3) := by decide +kernel
theorem dX0_isWithin_27 : decode cX0_isWithin 27 = .ok (.goto (-20), 3) := by decide +kernel
theorem dX0_isWithin_30 : decode cX0_isWithin 30 = .ok (.iload_n 3, 1) := by decide +kernel
theorem dX0_isWithin_31 : decode cX0_isWithin 31 = .ok (.iconst 1, 1) := by decide +kernel
theorem dX0_isWithin_32 : decode cX0_isWithin 32 = .ok (.iload_n 1, 1) := by decide +kernel
theorem dX0_isWithin_33 : decode cX0_isWithin 33 = .ok (.ishl, 1) := by decide +kernel
theorem dX0_isWithin_34 : decode cX0_isWithin 34 = .ok (.iand, 1) := by decide +kernel
theorem dX0_isWithin_35 : decode cX0_isWithin 35 = .ok (.ifCond .eq 7, 3) := by decide +kernel
theorem dX0_isWithin_38 : decode cX0_isWithin 38 = .ok (.iconst 1, 1) := by decide +kernel
theorem dX0_isWithin_39 : decode cX0_isWithin 39 = .ok (.goto 4, 3) := by decide +kernel
theorem dX0_isWithin_42 : decode cX0_isWithin 42 = .ok (.iconst 0, 1) := by decide +kernel
theorem dX0_isWithin_43 : decode cX0_isWithin 43 = .ok (.ireturn, 1) := by decide +kernel
theorem dX0_isShallow_0 : decode cX0_isShallow 0 = .ok (.iconst 0, 1) := by decide +kernel
theorem dX0_isShallow_1 : decode cX0_isShallow 1 = .ok (.istore_n 1, 1) := by decide +kernel
theorem dX0_isShallow_2 : decode cX0_isShallow 2 = .ok (.iload_n 1, 1) := by decide +kernel
theorem dX0_isShallow_3 : decode cX0_isShallow 3 = .ok (.aload_n 0, 1) := by decide +kernel
theorem dX0_isShallow_4 : decode cX0_isShallow 4 = .ok (.getfield 12, 3) := by decide +kernel
theorem dX0_isShallow_7 : decode cX0_isShallow 7 = .ok (.getfield 70, 3) := by decide +kernel
theorem dX0_isShallow_10 : decode cX0_isShallow 10 = .ok (.if_icmp .ge 20, 3) := by decide +kernel
theorem dX0_isShallow_13 : decode cX0_isShallow 13 = .ok (.aload_n 0, 1) := by decide +kernel
theorem dX0_isShallow_14 : decode cX0_isShallow 14 = .ok (.iload_n 1, 1) := by decide +kernel
theorem dX0_isShallow_15 : decode cX0_isShallow 15 = .ok (.invokevirtual 71, 3) := by decide +kernel
theorem dX0_isShallow_18 : decode cX0_isShallow 18 = .ok (.iconst 4, 1) := by decide +kernel
theorem dX0_isShallow_19 : decode cX0_isShallow 19 = .ok (.if_icmp .le 5, 3) := by decide +kernel
theorem dX0_isShallow_22 : decode cX0_isShallow 22 = .ok (.iconst 0, 1) := by decide +kernel
theorem dX0_isShallow_23 : decode cX0_isShallow 23 = .ok (.ireturn, 1) := by decide +kernel
theorem dX0_isShallow_24 : decode cX0_isShallow 24 = .ok (.iinc 1 1, 3) := by decide +kernel
theorem dX0_isShallow_27 : decode cX0_isShallow 27 = .ok (.goto (-25), 3) := by decide +kernel
theorem dX0_isShallow_30 : decode cX0_isShallow 30 = .ok (.iconst 1, 1) := by decide +kernel
theorem dX0_isShallow_31 : decode cX0_isShallow 31 = .ok (.ireturn, 1) := by decide +kernel
theorem dX0_hasSoundSets_0 : decode cX0_hasSoundSets 0 = .ok (.iconst 0, 1) := by decide +kernel
theorem dX0_hasSoundSets_1 : decode cX0_hasSoundSets 1 = .ok (.istore_n 1, 1) := by decide +kernel
theorem dX0_hasSoundSets_2 : decode cX0_hasSoundSets 2 = .ok (.iload_n 1, 1) := by decide +kernel
theorem dX0_hasSoundSets_3 : decode cX0_hasSoundSets 3 = .ok (.bipush 16, 2) := by decide +kernel
theorem dX0_hasSoundSets_5 : decode cX0_hasSoundSets 5 = .ok (.if_icmp .ge 114, 3) := by decide +kernel
theorem dX0_hasSoundSets_8 : decode cX0_hasSoundSets 8 = .ok (.iconst 0, 1) := by decide +kernel
theorem dX0_hasSoundSets_9 : decode cX0_hasSoundSets 9 = .ok (.istore_n 2, 1) := by decide +kernel
theorem dX0_hasSoundSets_10 : decode cX0_hasSoundSets 10 = .ok (.iconst 0, 1) := by decide +kernel
theorem dX0_hasSoundSets_11 : decode cX0_hasSoundSets 11 = .ok (.istore_n 3, 1) := by decide +kernel
theorem dX0_hasSoundSets_12 : decode cX0_hasSoundSets 12 = .ok (.iconst 0, 1) := by decide +kernel
theorem dX0_hasSoundSets_13 : decode cX0_hasSoundSets 13 = .ok (.istore 4, 2) := by decide +kernel
theorem dX0_hasSoundSets_15 : decode cX0_hasSoundSets 15 = .ok (.iload 4, 2) := by decide +kernel
theorem dX0_hasSoundSets_17 : decode cX0_hasSoundSets 17 = .ok (.aload_n 0, 1) := by decide +kernel
theorem dX0_hasSoundSets_18 : decode cX0_hasSoundSets 18 = .ok (.getfield 21, 3) := by decide +kernel
theorem dX0_hasSoundSets_21 : decode cX0_hasSoundSets 21 = .ok (.getfield 42, 3) := by decide +kernel
theorem dX0_hasSoundSets_24 : decode cX0_hasSoundSets 24 = .ok (.if_icmp .ge 67, 3) := by decide +kernel
theorem dX0_hasSoundSets_27 : decode cX0_hasSoundSets 27 = .ok (.aload_n 0, 1) := by decide +kernel
theorem dX0_hasSoundSets_28 : decode cX0_hasSoundSets 28 = .ok (.getfield 21, 3) := by decide +kernel
theorem dX0_hasSoundSets_31 : decode cX0_hasSoundSets 31 = .ok (.getfield 50, 3) := by decide +kernel
theorem dX0_hasSoundSets_34 : decode cX0_hasSoundSets 34 = .ok (.iload 4, 2) := by decide +kernel
theorem dX0_hasSoundSets_36 : decode cX0_hasSoundSets 36 = .ok (.iaload, 1) := by decide +kernel
theorem dX0_hasSoundSets_37 : decode cX0_hasSoundSets 37 = .ok (.iload_n 1, 1) := by decide +kernel
theorem dX0_hasSoundSets_38 : decode cX0_hasSoundSets 38 = .ok (.if_icmp .ne 18, 3) := by decide +kernel
theorem dX0_hasSoundSets_41 : decode cX0_hasSoundSets 41 = .ok (.iload_n 2, 1) := by decide +kernel
theorem dX0_hasSoundSets_42 : decode cX0_hasSoundSets 42 = .ok (.iconst 1, 1) := by decide +kernel
theorem dX0_hasSoundSets_43 : decode cX0_hasSoundSets 43 = .ok (.aload_n 0, 1) := by decide +kernel
theorem dX0_hasSoundSets_44 : decode cX0_hasSoundSets 44 = .ok (.getfield 21, 3) := by decide +kernel
theorem dX0_hasSoundSets_47 : decode cX0_hasSoundSets 47 = .ok (.getfield 60, 3) := by decide +kernel
theorem dX0_hasSoundSets_50 : decode cX0_hasSoundSets 50 = .ok (.iload 4, 2) := by decide +kernel
theorem dX0_hasSoundSets_52 : decode cX0_hasSoundSets 52 = .ok (.iaload, 1) := by decide +kernel
theorem dX0_hasSoundSets_53 : decode cX0_hasSoundSets 53 = .ok (.ishl, 1) := by decide +kernel
theorem dX0_hasSoundSets_54 : decode cX0_hasSoundSets 54 = .ok (.ior, 1) := by decide +kernel
theorem dX0_hasSoundSets_55 : decode cX0_hasSoundSets 55 = .ok (.istore_n 2, 1) := by decide +kernel
theorem dX0_hasSoundSets_56 : decode cX0_hasSoundSets 56 = .ok (.aload_n 0, 1) := by decide +kernel
theorem dX0_hasSoundSets_57 : decode cX0_hasSoundSets 57 = .ok (.getfield 21, 3) := by decide +kernel
theorem dX0_hasSoundSets_60 : decode cX0_hasSoundSets 60 = .ok (.getfield 60, 3) := by decide +kernel
theorem dX0_hasSoundSets_63 : decode cX0_hasSoundSets 63 = .ok (.iload 4, 2) := by decide +kernel
theorem dX0_hasSoundSets_65 : decode cX0_hasSoundSets 65 = .ok (.iaload, 1) := by decide +kernel
theorem dX0_hasSoundSets_66 : decode cX0_hasSoundSets 66 = .ok (.iload_n 1, 1) := by decide +kernel
theorem dX0_hasSoundSets_67 : decode cX0_hasSoundSets 67 = .ok (.if_icmp .ne 18, 3) := by decide +kernel
theorem dX0_hasSoundSets_70 : decode cX0_hasSoundSets 70 = .ok (.iload_n 3, 1) := by decide +kernel
theorem dX0_hasSoundSets_71 : decode cX0_hasSoundSets 71 = .ok (.iconst 1, 1) := by decide +kernel
theorem dX0_hasSoundSets_72 : decode cX0_hasSoundSets 72 = .ok (.aload_n 0, 1) := by decide +kernel
theorem dX0_hasSoundSets_73 : decode cX0_hasSoundSets 73 = .ok (.getfield 21, 3) := by decide +kernel
theorem dX0_hasSoundSets_76 : decode cX0_hasSoundSets 76 = .ok (.getfield 50, 3) := by decide +kernel
theorem dX0_hasSoundSets_79 : decode cX0_hasSoundSets 79 = .ok (.iload 4, 2) := by decide +kernel
theorem dX0_hasSoundSets_81 : decode cX0_hasSoundSets 81 = .ok (.iaload, 1) := by decide +kernel
theorem dX0_hasSoundSets_82 : decode cX0_hasSoundSets 82 = .ok (.ishl, 1) := by decide +kernel
theorem dX0_hasSoundSets_83 : decode cX0_hasSoundSets 83 = .ok (.ior, 1) := by decide +kernel
theorem dX0_hasSoundSets_84 : decode cX0_hasSoundSets 84 = .ok (.istore_n 3, 1) := by decide +kernel
theorem dX0_hasSoundSets_85 : decode cX0_hasSoundSets 85 = .ok (.iinc 4 1, 3) := by decide +kernel
theorem dX0_hasSoundSets_88 : decode cX0_hasSoundSets 88 = .ok (.goto (-73), 3) := by decide +kernel
theorem dX0_hasSoundSets_91 : decode cX0_hasSoundSets 91 = .ok (.aload_n 0, 1) := by decide +kernel
theorem dX0_hasSoundSets_92 : decode cX0_hasSoundSets 92 = .ok (.getfield 25, 3) := by decide +kernel
theorem dX0_hasSoundSets_95 : decode cX0_hasSoundSets 95 = .ok (.iload_n 1, 1) := by decide +kernel
theorem dX0_hasSoundSets_96 : decode cX0_hasSoundSets 96 = .ok (.iaload, 1) := by decide +kernel
theorem dX0_hasSoundSets_97 : decode cX0_hasSoundSets 97 = .ok (.iload_n 2, 1) := by decide +kernel
theorem dX0_hasSoundSets_98 : decode cX0_hasSoundSets 98 = .ok (.if_icmp .ne 13, 3) := by decide +kernel
theorem dX0_hasSoundSets_101 : decode cX0_hasSoundSets 101 = .ok (.aload_n 0, 1) := by decide +kernel
theorem dX0_hasSoundSets_102 : decode cX0_hasSoundSets 102 = .ok (.getfield 29, 3) := by decide +kernel
theorem dX0_hasSoundSets_105 : decode cX0_hasSoundSets 105 = .ok (.iload_n 1, 1) := by decide +kernel
theorem dX0_hasSoundSets_106 : decode cX0_hasSoundSets 106 = .ok (.iaload, 1) := by decide +kernel
theorem dX0_hasSoundSets_107 : decode cX0_hasSoundSets 107 = .ok (.iload_n 3, 1) := by decide +kernel
theorem dX0_hasSoundSets_108 : decode cX0_hasSoundSets 108 = .ok (.if_icmp .eq 5, 3) := by decide +kernel
theorem dX0_hasSoundSets_111 : decode cX0_hasSoundSets 111 = .ok (.iconst 0, 1) := by decide +kernel
theorem dX0_hasSoundSets_112 : decode cX0_hasSoundSets 112 = .ok (.ireturn, 1) := by decide +kernel
theorem dX0_hasSoundSets_113 : decode cX0_hasSoundSets 113 = .ok (.iinc 1 1, 3) := by decide +kernel
theorem dX0_hasSoundSets_116 : decode cX0_hasSoundSets 116 = .ok (.goto (-114), 3) := by decide +kernel
theorem dX0_hasSoundSets_119 : decode cX0_hasSoundSets 119 = .ok (.iconst 1, 1) := by decide +kernel
theorem dX0_hasSoundSets_120 : decode cX0_hasSoundSets 120 = .ok (.ireturn, 1) := by decide +kernel
theorem dX0_placeOf_0 : decode cX0_placeOf 0 = .ok (.iload_n 0, 1) := by decide +kernel
theorem dX0_placeOf_1 : decode cX0_placeOf 1 = .ok (.bipush 6, 2) := by decide +kernel
theorem dX0_placeOf_3 : decode cX0_placeOf 3 = .ok (.imul, 1) := by decide +kernel
theorem dX0_placeOf_4 : decode cX0_placeOf 4 = .ok (.iload_n 1, 1) := by decide +kernel
theorem dX0_placeOf_5 : decode cX0_placeOf 5 = .ok (.iadd, 1) := by decide +kernel
theorem dX0_placeOf_6 : decode cX0_placeOf 6 = .ok (.iconst 1, 1) := by decide +kernel
theorem dX0_placeOf_7 : decode cX0_placeOf 7 = .ok (.isub, 1) := by decide +kernel
theorem dX0_placeOf_8 : decode cX0_placeOf 8 = .ok (.ireturn, 1) := by decide +kernel
theorem dX0_stepsFrom_0 : decode cX0_stepsFrom 0 = .ok (.iconst 0, 1) := by decide +kernel
theorem dX0_stepsFrom_1 : decode cX0_stepsFrom 1 = .ok (.istore_n 2, 1) := by decide +kernel
theorem dX0_stepsFrom_2 : decode cX0_stepsFrom 2 = .ok (.aload_n 0, 1) := by decide +kernel
theorem dX0_stepsFrom_3 : decode cX0_stepsFrom 3 = .ok (.iload_n 1, 1) := by decide +kernel
theorem dX0_stepsFrom_4 : decode cX0_stepsFrom 4 = .ok (.iaload, 1) := by decide +kernel
theorem dX0_stepsFrom_5 : decode cX0_stepsFrom 5 = .ok (.istore_n 3, 1) := by decide +kernel
theorem dX0_stepsFrom_6 : decode cX0_stepsFrom 6 = .ok (.iload_n 3, 1) := by decide +kernel
theorem dX0_stepsFrom_7 : decode cX0_stepsFrom 7 = .ok (.ifCond .eq 20, 3) := by decide +kernel
theorem dX0_stepsFrom_10 : decode cX0_stepsFrom 10 = .ok (.iload_n 2, 1) := by decide +kernel
theorem dX0_stepsFrom_11 : decode cX0_stepsFrom 11 = .ok (.iconst 4, 1) := by decide +kernel
theorem dX0_stepsFrom_12 : decode cX0_stepsFrom 12 = .ok (.if_icmp .gt 15, 3) := by decide +kernel
theorem dX0_stepsFrom_15 : decode cX0_stepsFrom 15 = .ok (.iinc 2 1, 3) := by decide +kernel
theorem dX0_stepsFrom_18 : decode cX0_stepsFrom 18 = .ok (.aload_n 0, 1) := by decide +kernel
theorem dX0_stepsFrom_19 : decode cX0_stepsFrom 19 = .ok (.iload_n 3, 1) := by decide +kernel
theorem dX0_stepsFrom_20 : decode cX0_stepsFrom 20 = .ok (.invokestatic 67, 3) := by decide +kernel
theorem dX0_stepsFrom_23 : decode cX0_stepsFrom 23 = .ok (.istore_n 3, 1) := by decide +kernel
theorem dX0_stepsFrom_24 : decode cX0_stepsFrom 24 = .ok (.goto (-18), 3) := by decide +kernel
theorem dX0_stepsFrom_27 : decode cX0_stepsFrom 27 = .ok (.iload_n 2, 1) := by decide +kernel
theorem dX0_stepsFrom_28 : decode cX0_stepsFrom 28 = .ok (.ireturn, 1) := by decide +kernel
theorem dX0_unionOf_0 : decode cX0_unionOf 0 = .ok (.iconst 0, 1) := by decide +kernel
theorem dX0_unionOf_1 : decode cX0_unionOf 1 = .ok (.istore_n 2, 1) := by decide +kernel
theorem dX0_unionOf_2 : decode cX0_unionOf 2 = .ok (.iconst 0, 1) := by decide +kernel
theorem dX0_unionOf_3 : decode cX0_unionOf 3 = .ok (.istore_n 3, 1) := by decide +kernel
theorem dX0_unionOf_4 : decode cX0_unionOf 4 = .ok (.iload_n 3, 1) := by decide +kernel
theorem dX0_unionOf_5 : decode cX0_unionOf 5 = .ok (.bipush 16, 2) := by decide +kernel
theorem dX0_unionOf_7 : decode cX0_unionOf 7 = .ok (.if_icmp .ge 23, 3) := by decide +kernel
theorem dX0_unionOf_10 : decode cX0_unionOf 10 = .ok (.iload_n 1, 1) := by decide +kernel
theorem dX0_unionOf_11 : decode cX0_unionOf 11 = .ok (.iconst 1, 1) := by decide +kernel
theorem dX0_unionOf_12 : decode cX0_unionOf 12 = .ok (.iload_n 3, 1) := by decide +kernel
theorem dX0_unionOf_13 : decode cX0_unionOf 13 = .ok (.ishl, 1) := by decide +kernel
theorem dX0_unionOf_14 : decode cX0_unionOf 14 = .ok (.iand, 1) := by decide +kernel
theorem dX0_unionOf_15 : decode cX0_unionOf 15 = .ok (.ifCond .eq 9, 3) := by decide +kernel
theorem dX0_unionOf_18 : decode cX0_unionOf 18 = .ok (.iload_n 2, 1) := by decide +kernel
theorem dX0_unionOf_19 : decode cX0_unionOf 19 = .ok (.aload_n 0, 1) := by decide +kernel
theorem dX0_unionOf_20 : decode cX0_unionOf 20 = .ok (.iload_n 3, 1) := by decide +kernel
theorem dX0_unionOf_21 : decode cX0_unionOf 21 = .ok (.iaload, 1) := by decide +kernel
theorem dX0_unionOf_22 : decode cX0_unionOf 22 = .ok (.ior, 1) := by decide +kernel
theorem dX0_unionOf_23 : decode cX0_unionOf 23 = .ok (.istore_n 2, 1) := by decide +kernel
theorem dX0_unionOf_24 : decode cX0_unionOf 24 = .ok (.iinc 3 1, 3) := by decide +kernel
theorem dX0_unionOf_27 : decode cX0_unionOf 27 = .ok (.goto (-23), 3) := by decide +kernel
theorem dX0_unionOf_30 : decode cX0_unionOf 30 = .ok (.iload_n 2, 1) := by decide +kernel
theorem dX0_unionOf_31 : decode cX0_unionOf 31 = .ok (.ireturn, 1) := by decide +kernel
theorem dX1_ofFloat_0 : decode cX1_ofFloat 0 = .ok (.fload_n 0, 1) := by decide +kernel
theorem dX1_ofFloat_1 : decode cX1_ofFloat 1 = .ok (.fconst 0, 1) := by decide +kernel
theorem dX1_ofFloat_2 : decode cX1_ofFloat 2 = .ok (.fcmp .g, 1) := by decide +kernel
theorem dX1_ofFloat_3 : decode cX1_ofFloat 3 = .ok (.ifCond .gt 5, 3) := by decide +kernel
theorem dX1_ofFloat_6 : decode cX1_ofFloat 6 = .ok (.iconst 0, 1) := by decide +kernel
theorem dX1_ofFloat_7 : decode cX1_ofFloat 7 = .ok (.ireturn, 1) := by decide +kernel
theorem dX1_ofFloat_8 : decode cX1_ofFloat 8 = .ok (.bipush 127, 2) := by decide +kernel
theorem dX1_ofFloat_10 : decode cX1_ofFloat 10 = .ok (.istore_n 1, 1) := by decide +kernel
theorem dX1_ofFloat_11 : decode cX1_ofFloat 11 = .ok (.fload_n 0, 1) := by decide +kernel
theorem dX1_ofFloat_12 : decode cX1_ofFloat 12 = .ok (.fstore_n 2, 1) := by decide +kernel
theorem dX1_ofFloat_13 : decode cX1_ofFloat 13 = .ok (.fload_n 2, 1) := by decide +kernel
theorem dX1_ofFloat_14 : decode cX1_ofFloat 14 = .ok (.fconst 2, 1) := by decide +kernel
theorem dX1_ofFloat_15 : decode cX1_ofFloat 15 = .ok (.fcmp .l, 1) := by decide +kernel
theorem dX1_ofFloat_16 : decode cX1_ofFloat 16 = .ok (.ifCond .lt 20, 3) := by decide +kernel
theorem dX1_ofFloat_19 : decode cX1_ofFloat 19 = .ok (.iload_n 1, 1) := by decide +kernel
theorem dX1_ofFloat_20 : decode cX1_ofFloat 20 = .ok (.sipush 254, 3) := by decide +kernel
theorem dX1_ofFloat_23 : decode cX1_ofFloat 23 = .ok (.if_icmp .ge 13, 3) := by decide +kernel
theorem dX1_ofFloat_26 : decode cX1_ofFloat 26 = .ok (.fload_n 2, 1) := by decide +kernel
theorem dX1_ofFloat_27 : decode cX1_ofFloat 27 = .ok (.fconst 2, 1) := by decide +kernel
theorem dX1_ofFloat_28 : decode cX1_ofFloat 28 = .ok (.fdiv, 1) := by decide +kernel
theorem dX1_ofFloat_29 : decode cX1_ofFloat 29 = .ok (.fstore_n 2, 1) := by decide +kernel
theorem dX1_ofFloat_30 : decode cX1_ofFloat 30 = .ok (.iinc 1 1, 3) := by decide +kernel
theorem dX1_ofFloat_33 : decode cX1_ofFloat 33 = .ok (.goto (-20), 3) := by decide +kernel
theorem dX1_ofFloat_36 : decode cX1_ofFloat 36 = .ok (.fload_n 2, 1) := by decide +kernel
theorem dX1_ofFloat_37 : decode cX1_ofFloat 37 = .ok (.fconst 1, 1) := by decide +kernel
theorem dX1_ofFloat_38 : decode cX1_ofFloat 38 = .ok (.fcmp .g, 1) := by decide +kernel
theorem dX1_ofFloat_39 : decode cX1_ofFloat 39 = .ok (.ifCond .ge 18, 3) := by decide +kernel
theorem dX1_ofFloat_42 : decode cX1_ofFloat 42 = .ok (.iload_n 1, 1) := by decide +kernel
theorem dX1_ofFloat_43 : decode cX1_ofFloat 43 = .ok (.iconst 1, 1) := by decide +kernel
theorem dX1_ofFloat_44 : decode cX1_ofFloat 44 = .ok (.if_icmp .le 13, 3) := by decide +kernel
theorem dX1_ofFloat_47 : decode cX1_ofFloat 47 = .ok (.fload_n 2, 1) := by decide +kernel
theorem dX1_ofFloat_48 : decode cX1_ofFloat 48 = .ok (.fconst 2, 1) := by decide +kernel
theorem dX1_ofFloat_49 : decode cX1_ofFloat 49 = .ok (.fmul, 1) := by decide +kernel
theorem dX1_ofFloat_50 : decode cX1_ofFloat 50 = .ok (.fstore_n 2, 1) := by decide +kernel
theorem dX1_ofFloat_51 : decode cX1_ofFloat 51 = .ok (.iinc 1 (-1), 3) := by decide +kernel
theorem dX1_ofFloat_54 : decode cX1_ofFloat 54 = .ok (.goto (-18), 3) := by decide +kernel
theorem dX1_ofFloat_57 : decode cX1_ofFloat 57 = .ok (.iload_n 1, 1) := by decide +kernel
theorem dX1_ofFloat_58 : decode cX1_ofFloat 58 = .ok (.bipush 23, 2) := by decide +kernel
theorem dX1_ofFloat_60 : decode cX1_ofFloat 60 = .ok (.ishl, 1) := by decide +kernel
theorem dX1_ofFloat_61 : decode cX1_ofFloat 61 = .ok (.fload_n 2, 1) := by decide +kernel
theorem dX1_ofFloat_62 : decode cX1_ofFloat 62 = .ok (.fconst 1, 1) := by decide +kernel
theorem dX1_ofFloat_63 : decode cX1_ofFloat 63 = .ok (.fsub, 1) := by decide +kernel
theorem dX1_ofFloat_64 : decode cX1_ofFloat 64 = .ok (.ldc 7, 2) := by decide +kernel
theorem dX1_ofFloat_66 : decode cX1_ofFloat 66 = .ok (.fmul, 1) := by decide +kernel
theorem dX1_ofFloat_67 : decode cX1_ofFloat 67 = .ok (.f2i, 1) := by decide +kernel
theorem dX1_ofFloat_68 : decode cX1_ofFloat 68 = .ok (.ior, 1) := by decide +kernel
theorem dX1_ofFloat_69 : decode cX1_ofFloat 69 = .ok (.ireturn, 1) := by decide +kernel
theorem dX1_ofDouble_0 : decode cX1_ofDouble 0 = .ok (.dload_n 0, 1) := by decide +kernel
theorem dX1_ofDouble_1 : decode cX1_ofDouble 1 = .ok (.dconst 0, 1) := by decide +kernel
theorem dX1_ofDouble_2 : decode cX1_ofDouble 2 = .ok (.dcmp .g, 1) := by decide +kernel
theorem dX1_ofDouble_3 : decode cX1_ofDouble 3 = .ok (.ifCond .gt 5, 3) := by decide +kernel
theorem dX1_ofDouble_6 : decode cX1_ofDouble 6 = .ok (.lconst 0, 1) := by decide +kernel
theorem dX1_ofDouble_7 : decode cX1_ofDouble 7 = .ok (.lreturn, 1) := by decide +kernel
theorem dX1_ofDouble_8 : decode cX1_ofDouble 8 = .ok (.sipush 1023, 3) := by decide +kernel
theorem dX1_ofDouble_11 : decode cX1_ofDouble 11 = .ok (.istore_n 2, 1) := by decide +kernel
theorem dX1_ofDouble_12 : decode cX1_ofDouble 12 = .ok (.dload_n 0, 1) := by decide +kernel
theorem dX1_ofDouble_13 : decode cX1_ofDouble 13 = .ok (.dstore_n 3, 1) := by decide +kernel
theorem dX1_ofDouble_14 : decode cX1_ofDouble 14 = .ok (.dload_n 3, 1) := by decide +kernel
theorem dX1_ofDouble_15 : decode cX1_ofDouble 15 = .ok (.ldc2_w 8, 3) := by decide +kernel
theorem dX1_ofDouble_18 : decode cX1_ofDouble 18 = .ok (.dcmp .l, 1) := by decide +kernel
theorem dX1_ofDouble_19 : decode cX1_ofDouble 19 = .ok (.ifCond .lt 22, 3) := by decide +kernel
theorem dX1_ofDouble_22 : decode cX1_ofDouble 22 = .ok (.iload_n 2, 1) := by decide +kernel
theorem dX1_ofDouble_23 : decode cX1_ofDouble 23 = .ok (.sipush 2046, 3) := by decide +kernel
theorem dX1_ofDouble_26 : decode cX1_ofDouble 26 = .ok (.if_icmp .ge 15, 3) := by decide +kernel
theorem dX1_ofDouble_29 : decode cX1_ofDouble 29 = .ok (.dload_n 3, 1) := by decide +kernel
theorem dX1_ofDouble_30 : decode cX1_ofDouble 30 = .ok (.ldc2_w 8, 3) := by decide +kernel
theorem dX1_ofDouble_33 : decode cX1_ofDouble 33 = .ok (.ddiv, 1) := by decide +kernel
theorem dX1_ofDouble_34 : decode cX1_ofDouble 34 = .ok (.dstore_n 3, 1) := by decide +kernel
theorem dX1_ofDouble_35 : decode cX1_ofDouble 35 = .ok (.iinc 2 1, 3) := by decide +kernel
theorem dX1_ofDouble_38 : decode cX1_ofDouble 38 = .ok (.goto (-24), 3) := by decide +kernel
theorem dX1_ofDouble_41 : decode cX1_ofDouble 41 = .ok (.dload_n 3, 1) := by decide +kernel
theorem dX1_ofDouble_42 : decode cX1_ofDouble 42 = .ok (.dconst 1, 1) := by decide +kernel
theorem dX1_ofDouble_43 : decode cX1_ofDouble 43 = .ok (.dcmp .g, 1) := by decide +kernel
theorem dX1_ofDouble_44 : decode cX1_ofDouble 44 = .ok (.ifCond .ge 20, 3) := by decide +kernel
theorem dX1_ofDouble_47 : decode cX1_ofDouble 47 = .ok (.iload_n 2, 1) := by decide +kernel
theorem dX1_ofDouble_48 : decode cX1_ofDouble 48 = .ok (.iconst 1, 1) := by decide +kernel
theorem dX1_ofDouble_49 : decode cX1_ofDouble 49 = .ok (.if_icmp .le 15, 3) := by decide +kernel
theorem dX1_ofDouble_52 : decode cX1_ofDouble 52 = .ok (.dload_n 3, 1) := by decide +kernel
theorem dX1_ofDouble_53 : decode cX1_ofDouble 53 = .ok (.ldc2_w 8, 3) := by decide +kernel
theorem dX1_ofDouble_56 : decode cX1_ofDouble 56 = .ok (.dmul, 1) := by decide +kernel
theorem dX1_ofDouble_57 : decode cX1_ofDouble 57 = .ok (.dstore_n 3, 1) := by decide +kernel
theorem dX1_ofDouble_58 : decode cX1_ofDouble 58 = .ok (.iinc 2 (-1), 3) := by decide +kernel
theorem dX1_ofDouble_61 : decode cX1_ofDouble 61 = .ok (.goto (-20), 3) := by decide +kernel
theorem dX1_ofDouble_64 : decode cX1_ofDouble 64 = .ok (.iload_n 2, 1) := by decide +kernel
theorem dX1_ofDouble_65 : decode cX1_ofDouble 65 = .ok (.i2l, 1) := by decide +kernel
theorem dX1_ofDouble_66 : decode cX1_ofDouble 66 = .ok (.bipush 52, 2) := by decide +kernel
theorem dX1_ofDouble_68 : decode cX1_ofDouble 68 = .ok (.lshl, 1) := by decide +kernel
theorem dX1_ofDouble_69 : decode cX1_ofDouble 69 = .ok (.dload_n 3, 1) := by decide +kernel
theorem dX1_ofDouble_70 : decode cX1_ofDouble 70 = .ok (.dconst 1, 1) := by decide +kernel
theorem dX1_ofDouble_71 : decode cX1_ofDouble 71 = .ok (.dsub, 1) := by decide +kernel
theorem dX1_ofDouble_72 : decode cX1_ofDouble 72 = .ok (.ldc2_w 10, 3) := by decide +kernel
theorem dX1_ofDouble_75 : decode cX1_ofDouble 75 = .ok (.dmul, 1) := by decide +kernel
theorem dX1_ofDouble_76 : decode cX1_ofDouble 76 = .ok (.d2l, 1) := by decide +kernel
theorem dX1_ofDouble_77 : decode cX1_ofDouble 77 = .ok (.lor, 1) := by decide +kernel
theorem dX1_ofDouble_78 : decode cX1_ofDouble 78 = .ok (.lreturn, 1) := by decide +kernel
theorem dX2_init_0 : decode cX2_init 0 = .ok (.aload_n 0, 1) := by decide +kernel
theorem dX2_init_1 : decode cX2_init 1 = .ok (.invokespecial 3, 3) := by decide +kernel
theorem dX2_init_4 : decode cX2_init 4 = .ok (.aload_n 0, 1) := by decide +kernel
theorem dX2_init_5 : decode cX2_init 5 = .ok (.bipush 16, 2) := by decide +kernel
theorem dX2_init_7 : decode cX2_init 7 = .ok (.newarray .float, 2) := by decide +kernel
theorem dX2_init_9 : decode cX2_init 9 = .ok (.putfield 9, 3) := by decide +kernel
theorem dX2_init_12 : decode cX2_init 12 = .ok (.return_, 1) := by decide +kernel
theorem dX2_rollUp_0 : decode cX2_rollUp 0 = .ok (.iconst 0, 1) := by decide +kernel
theorem dX2_rollUp_1 : decode cX2_rollUp 1 = .ok (.istore_n 2, 1) := by decide +kernel
theorem dX2_rollUp_2 : decode cX2_rollUp 2 = .ok (.iconst 0, 1) := by decide +kernel
theorem dX2_rollUp_3 : decode cX2_rollUp 3 = .ok (.istore_n 3, 1) := by decide +kernel
theorem dX2_rollUp_4 : decode cX2_rollUp 4 = .ok (.iload_n 3, 1) := by decide +kernel
theorem dX2_rollUp_5 : decode cX2_rollUp 5 = .ok (.iconst 4, 1) := by decide +kernel
theorem dX2_rollUp_6 : decode cX2_rollUp 6 = .ok (.if_icmp .gt 70, 3) := by decide +kernel
theorem dX2_rollUp_9 : decode cX2_rollUp 9 = .ok (.iconst 0, 1) := by decide +kernel
theorem dX2_rollUp_10 : decode cX2_rollUp 10 = .ok (.istore 4, 2) := by decide +kernel
theorem dX2_rollUp_12 : decode cX2_rollUp 12 = .ok (.iload 4, 2) := by decide +kernel
theorem dX2_rollUp_14 : decode cX2_rollUp 14 = .ok (.aload_n 1, 1) := by decide +kernel
theorem dX2_rollUp_15 : decode cX2_rollUp 15 = .ok (.getfield 15, 3) := by decide +kernel
theorem dX2_rollUp_18 : decode cX2_rollUp 18 = .ok (.getfield 21, 3) := by decide +kernel
theorem dX2_rollUp_21 : decode cX2_rollUp 21 = .ok (.if_icmp .ge 49, 3) := by decide +kernel
theorem dX2_rollUp_24 : decode cX2_rollUp 24 = .ok (.iload_n 2, 1) := by decide +kernel
theorem dX2_rollUp_25 : decode cX2_rollUp 25 = .ok (.iconst 1, 1) := by decide +kernel
theorem dX2_rollUp_26 : decode cX2_rollUp 26 = .ok (.iload 4, 2) := by decide +kernel
theorem dX2_rollUp_28 : decode cX2_rollUp 28 = .ok (.ishl, 1) := by decide +kernel
theorem dX2_rollUp_29 : decode cX2_rollUp 29 = .ok (.iand, 1) := by decide +kernel
theorem dX2_rollUp_30 : decode cX2_rollUp 30 = .ok (.ifCond .ne 34, 3) := by decide +kernel
theorem dX2_rollUp_33 : decode cX2_rollUp 33 = .ok (.aload_n 1, 1) := by decide +kernel
theorem dX2_rollUp_34 : decode cX2_rollUp 34 = .ok (.iload 4, 2) := by decide +kernel
theorem dX2_rollUp_36 : decode cX2_rollUp 36 = .ok (.iload_n 2, 1) := by decide +kernel
theorem dX2_rollUp_37 : decode cX2_rollUp 37 = .ok (.invokevirtual 27, 3) := by decide +kernel
theorem dX2_rollUp_40 : decode cX2_rollUp 40 = .ok (.ifCond .eq 24, 3) := by decide +kernel
theorem dX2_rollUp_43 : decode cX2_rollUp 43 = .ok (.aload_n 0, 1) := by decide +kernel
theorem dX2_rollUp_44 : decode cX2_rollUp 44 = .ok (.getfield 9, 3) := by decide +kernel
theorem dX2_rollUp_47 : decode cX2_rollUp 47 = .ok (.iload 4, 2) := by decide +kernel
theorem dX2_rollUp_49 : decode cX2_rollUp 49 = .ok (.aload_n 0, 1) := by decide +kernel
theorem dX2_rollUp_50 : decode cX2_rollUp 50 = .ok (.aload_n 1, 1) := by decide +kernel
theorem dX2_rollUp_51 : decode cX2_rollUp 51 = .ok (.iload 4, 2) := by decide +kernel
theorem dX2_rollUp_53 : decode cX2_rollUp 53 = .ok (.invokevirtual 31, 3) := by decide +kernel
theorem dX2_rollUp_56 : decode cX2_rollUp 56 = .ok (.fastore, 1) := by decide +kernel
theorem dX2_rollUp_57 : decode cX2_rollUp 57 = .ok (.iload_n 2, 1) := by decide +kernel
theorem dX2_rollUp_58 : decode cX2_rollUp 58 = .ok (.iconst 1, 1) := by decide +kernel
theorem dX2_rollUp_59 : decode cX2_rollUp 59 = .ok (.iload 4, 2) := by decide +kernel
theorem dX2_rollUp_61 : decode cX2_rollUp 61 = .ok (.ishl, 1) := by decide +kernel
theorem dX2_rollUp_62 : decode cX2_rollUp 62 = .ok (.ior, 1) := by decide +kernel
theorem dX2_rollUp_63 : decode cX2_rollUp 63 = .ok (.istore_n 2, 1) := by decide +kernel
theorem dX2_rollUp_64 : decode cX2_rollUp 64 = .ok (.iinc 4 1, 3) := by decide +kernel
theorem dX2_rollUp_67 : decode cX2_rollUp 67 = .ok (.goto (-55), 3) := by decide +kernel
theorem dX2_rollUp_70 : decode cX2_rollUp 70 = .ok (.iinc 3 1, 3) := by decide +kernel
theorem dX2_rollUp_73 : decode cX2_rollUp 73 = .ok (.goto (-69), 3) := by decide +kernel
theorem dX2_rollUp_76 : decode cX2_rollUp 76 = .ok (.return_, 1) := by decide +kernel
theorem dX2_dearestLine_0 : decode cX2_dearestLine 0 = .ok (.iconst (-1), 1) := by decide +kernel
theorem dX2_dearestLine_1 : decode cX2_dearestLine 1 = .ok (.istore_n 3, 1) := by decide +kernel
theorem dX2_dearestLine_2 : decode cX2_dearestLine 2 = .ok (.iconst 1, 1) := by decide +kernel
theorem dX2_dearestLine_3 : decode cX2_dearestLine 3 = .ok (.istore 4, 2) := by decide +kernel
theorem dX2_dearestLine_5 : decode cX2_dearestLine 5 = .ok (.iload 4, 2) := by decide +kernel
theorem dX2_dearestLine_7 : decode cX2_dearestLine 7 = .ok (.bipush 6, 2) := by decide +kernel
theorem dX2_dearestLine_9 : decode cX2_dearestLine 9 = .ok (.if_icmp .gt 49, 3) := by decide +kernel
theorem dX2_dearestLine_12 : decode cX2_dearestLine 12 = .ok (.aload_n 1, 1) := by decide +kernel
theorem dX2_dearestLine_13 : decode cX2_dearestLine 13 = .ok (.iload_n 2, 1) := by decide +kernel
theorem dX2_dearestLine_14 : decode cX2_dearestLine 14 = .ok (.iload 4, 2) := by decide +kernel
theorem dX2_dearestLine_16 : decode cX2_dearestLine 16 = .ok (.invokevirtual 35, 3) := by decide +kernel
theorem dX2_dearestLine_19 : decode cX2_dearestLine 19 = .ok (.istore 5, 2) := by decide +kernel
theorem dX2_dearestLine_21 : decode cX2_dearestLine 21 = .ok (.iload 5, 2) := by decide +kernel
theorem dX2_dearestLine_23 : decode cX2_dearestLine 23 = .ok (.iconst (-1), 1) := by decide +kernel
theorem dX2_dearestLine_24 : decode cX2_dearestLine 24 = .ok (.if_icmp .eq 28, 3) := by decide +kernel
theorem dX2_dearestLine_27 : decode cX2_dearestLine 27 = .ok (.iload_n 3, 1) := by decide +kernel
theorem dX2_dearestLine_28 : decode cX2_dearestLine 28 = .ok (.iconst (-1), 1) := by decide +kernel
theorem dX2_dearestLine_29 : decode cX2_dearestLine 29 = .ok (.if_icmp .eq 20, 3) := by decide +kernel
theorem dX2_dearestLine_32 : decode cX2_dearestLine 32 = .ok (.aload_n 0, 1) := by decide +kernel
theorem dX2_dearestLine_33 : decode cX2_dearestLine 33 = .ok (.aload_n 1, 1) := by decide +kernel
theorem dX2_dearestLine_34 : decode cX2_dearestLine 34 = .ok (.iload 5, 2) := by decide +kernel
theorem dX2_dearestLine_36 : decode cX2_dearestLine 36 = .ok (.invokevirtual 39, 3) := by decide +kernel
theorem dX2_dearestLine_39 : decode cX2_dearestLine 39 = .ok (.aload_n 0, 1) := by decide +kernel
theorem dX2_dearestLine_40 : decode cX2_dearestLine 40 = .ok (.aload_n 1, 1) := by decide +kernel
theorem dX2_dearestLine_41 : decode cX2_dearestLine 41 = .ok (.iload_n 3, 1) := by decide +kernel
theorem dX2_dearestLine_42 : decode cX2_dearestLine 42 = .ok (.invokevirtual 39, 3) := by decide +kernel
theorem dX2_dearestLine_45 : decode cX2_dearestLine 45 = .ok (.fcmp .l, 1) := by decide +kernel
theorem dX2_dearestLine_46 : decode cX2_dearestLine 46 = .ok (.ifCond .le 6, 3) := by decide +kernel
theorem dX2_dearestLine_49 : decode cX2_dearestLine 49 = .ok (.iload 5, 2) := by decide +kernel
theorem dX2_dearestLine_51 : decode cX2_dearestLine 51 = .ok (.istore_n 3, 1) := by decide +kernel
theorem dX2_dearestLine_52 : decode cX2_dearestLine 52 = .ok (.iinc 4 1, 3) := by decide +kernel
theorem dX2_dearestLine_55 : decode cX2_dearestLine 55 = .ok (.goto (-50), 3) := by decide +kernel
theorem dX2_dearestLine_58 : decode cX2_dearestLine 58 = .ok (.iload_n 3, 1) := by decide +kernel
theorem dX2_dearestLine_59 : decode cX2_dearestLine 59 = .ok (.ireturn, 1) := by decide +kernel
theorem dX2_costOf_0 : decode cX2_costOf 0 = .ok (.aload_n 1, 1) := by decide +kernel
theorem dX2_costOf_1 : decode cX2_costOf 1 = .ok (.getfield 15, 3) := by decide +kernel
theorem dX2_costOf_4 : decode cX2_costOf 4 = .ok (.iload_n 2, 1) := by decide +kernel
theorem dX2_costOf_5 : decode cX2_costOf 5 = .ok (.invokevirtual 42, 3) := by decide +kernel
theorem dX2_costOf_8 : decode cX2_costOf 8 = .ok (.fstore_n 3, 1) := by decide +kernel
theorem dX2_costOf_9 : decode cX2_costOf 9 = .ok (.iconst 1, 1) := by decide +kernel
theorem dX2_costOf_10 : decode cX2_costOf 10 = .ok (.istore 4, 2) := by decide +kernel
theorem dX2_costOf_12 : decode cX2_costOf 12 = .ok (.iload 4, 2) := by decide +kernel
theorem dX2_costOf_14 : decode cX2_costOf 14 = .ok (.bipush 6, 2) := by decide +kernel
theorem dX2_costOf_16 : decode cX2_costOf 16 = .ok (.if_icmp .gt 34, 3) := by decide +kernel
theorem dX2_costOf_19 : decode cX2_costOf 19 = .ok (.aload_n 1, 1) := by decide +kernel
theorem dX2_costOf_20 : decode cX2_costOf 20 = .ok (.iload_n 2, 1) := by decide +kernel
theorem dX2_costOf_21 : decode cX2_costOf 21 = .ok (.iload 4, 2) := by decide +kernel
theorem dX2_costOf_23 : decode cX2_costOf 23 = .ok (.invokevirtual 35, 3) := by decide +kernel
theorem dX2_costOf_26 : decode cX2_costOf 26 = .ok (.istore 5, 2) := by decide +kernel
theorem dX2_costOf_28 : decode cX2_costOf 28 = .ok (.iload 5, 2) := by decide +kernel
theorem dX2_costOf_30 : decode cX2_costOf 30 = .ok (.iconst (-1), 1) := by decide +kernel
theorem dX2_costOf_31 : decode cX2_costOf 31 = .ok (.if_icmp .eq 13, 3) := by decide +kernel
theorem dX2_costOf_34 : decode cX2_costOf 34 = .ok (.fload_n 3, 1) := by decide +kernel
theorem dX2_costOf_35 : decode cX2_costOf 35 = .ok (.aload_n 0, 1) := by decide +kernel
theorem dX2_costOf_36 : decode cX2_costOf 36 = .ok (.aload_n 1, 1) := by decide +kernel
theorem dX2_costOf_37 : decode cX2_costOf 37 = .ok (.iload 5, 2) := by decide +kernel
theorem dX2_costOf_39 : decode cX2_costOf 39 = .ok (.invokevirtual 39, 3) := by decide +kernel
theorem dX2_costOf_42 : decode cX2_costOf 42 = .ok (.fadd, 1) := by decide +kernel
theorem dX2_costOf_43 : decode cX2_costOf 43 = .ok (.fstore_n 3, 1) := by decide +kernel
theorem dX2_costOf_44 : decode cX2_costOf 44 = .ok (.iinc 4 1, 3) := by decide +kernel
theorem dX2_costOf_47 : decode cX2_costOf 47 = .ok (.goto (-35), 3) := by decide +kernel
theorem dX2_costOf_50 : decode cX2_costOf 50 = .ok (.fload_n 3, 1) := by decide +kernel
theorem dX2_costOf_51 : decode cX2_costOf 51 = .ok (.freturn, 1) := by decide +kernel
theorem dX2_addedBy_0 : decode cX2_addedBy 0 = .ok (.aload_n 1, 1) := by decide +kernel
theorem dX2_addedBy_1 : decode cX2_addedBy 1 = .ok (.getfield 46, 3) := by decide +kernel
theorem dX2_addedBy_4 : decode cX2_addedBy 4 = .ok (.iload_n 2, 1) := by decide +kernel
theorem dX2_addedBy_5 : decode cX2_addedBy 5 = .ok (.aload_n 0, 1) := by decide +kernel
theorem dX2_addedBy_6 : decode cX2_addedBy 6 = .ok (.getfield 9, 3) := by decide +kernel
theorem dX2_addedBy_9 : decode cX2_addedBy 9 = .ok (.aload_n 1, 1) := by decide +kernel
theorem dX2_addedBy_10 : decode cX2_addedBy 10 = .ok (.getfield 46, 3) := by decide +kernel
theorem dX2_addedBy_13 : decode cX2_addedBy 13 = .ok (.getfield 50, 3) := by decide +kernel
theorem dX2_addedBy_16 : decode cX2_addedBy 16 = .ok (.iload_n 2, 1) := by decide +kernel
theorem dX2_addedBy_17 : decode cX2_addedBy 17 = .ok (.iaload, 1) := by decide +kernel
theorem dX2_addedBy_18 : decode cX2_addedBy 18 = .ok (.faload, 1) := by decide +kernel
theorem dX2_addedBy_19 : decode cX2_addedBy 19 = .ok (.invokevirtual 56, 3) := by decide +kernel
theorem dX2_addedBy_22 : decode cX2_addedBy 22 = .ok (.freturn, 1) := by decide +kernel
theorem dX3_init_0 : decode cX3_init 0 = .ok (.aload_n 0, 1) := by decide +kernel
theorem dX3_init_1 : decode cX3_init 1 = .ok (.invokespecial 1, 3) := by decide +kernel
theorem dX3_init_4 : decode cX3_init 4 = .ok (.aload_n 0, 1) := by decide +kernel
theorem dX3_init_5 : decode cX3_init 5 = .ok (.bipush 16, 2) := by decide +kernel
theorem dX3_init_7 : decode cX3_init 7 = .ok (.newarray .int, 2) := by decide +kernel
theorem dX3_init_9 : decode cX3_init 9 = .ok (.putfield 7, 3) := by decide +kernel
theorem dX3_init_12 : decode cX3_init 12 = .ok (.aload_n 0, 1) := by decide +kernel
theorem dX3_init_13 : decode cX3_init 13 = .ok (.bipush 16, 2) := by decide +kernel
theorem dX3_init_15 : decode cX3_init 15 = .ok (.newarray .long, 2) := by decide +kernel
theorem dX3_init_17 : decode cX3_init 17 = .ok (.putfield 13, 3) := by decide +kernel
theorem dX3_init_20 : decode cX3_init 20 = .ok (.aload_n 0, 1) := by decide +kernel
theorem dX3_init_21 : decode cX3_init 21 = .ok (.iconst 0, 1) := by decide +kernel
theorem dX3_init_22 : decode cX3_init 22 = .ok (.putfield 17, 3) := by decide +kernel
theorem dX3_init_25 : decode cX3_init 25 = .ok (.return_, 1) := by decide +kernel
theorem dX3_clear_0 : decode cX3_clear 0 = .ok (.aload_n 0, 1) := by decide +kernel
theorem dX3_clear_1 : decode cX3_clear 1 = .ok (.iconst 0, 1) := by decide +kernel
theorem dX3_clear_2 : decode cX3_clear 2 = .ok (.putfield 17, 3) := by decide +kernel
theorem dX3_clear_5 : decode cX3_clear 5 = .ok (.return_, 1) := by decide +kernel
theorem dX3_add_0 : decode cX3_add 0 = .ok (.aload_n 0, 1) := by decide +kernel
theorem dX3_add_1 : decode cX3_add 1 = .ok (.getfield 17, 3) := by decide +kernel
theorem dX3_add_4 : decode cX3_add 4 = .ok (.aload_n 0, 1) := by decide +kernel
theorem dX3_add_5 : decode cX3_add 5 = .ok (.getfield 7, 3) := by decide +kernel
theorem dX3_add_8 : decode cX3_add 8 = .ok (.arraylength, 1) := by decide +kernel
theorem dX3_add_9 : decode cX3_add 9 = .ok (.if_icmp .lt 7, 3) := by decide +kernel
theorem dX3_add_12 : decode cX3_add 12 = .ok (.aload_n 0, 1) := by decide +kernel
theorem dX3_add_13 : decode cX3_add 13 = .ok (.invokevirtual 21, 3) := by decide +kernel
theorem dX3_add_16 : decode cX3_add 16 = .ok (.aload_n 0, 1) := by decide +kernel
theorem dX3_add_17 : decode cX3_add 17 = .ok (.getfield 7, 3) := by decide +kernel
theorem dX3_add_20 : decode cX3_add 20 = .ok (.aload_n 0, 1) := by decide +kernel
theorem dX3_add_21 : decode cX3_add 21 = .ok (.getfield 17, 3) := by decide +kernel
theorem dX3_add_24 : decode cX3_add 24 = .ok (.iload_n 1, 1) := by decide +kernel
theorem dX3_add_25 : decode cX3_add 25 = .ok (.iastore, 1) := by decide +kernel
theorem dX3_add_26 : decode cX3_add 26 = .ok (.aload_n 0, 1) := by decide +kernel
theorem dX3_add_27 : decode cX3_add 27 = .ok (.getfield 13, 3) := by decide +kernel
theorem dX3_add_30 : decode cX3_add 30 = .ok (.aload_n 0, 1) := by decide +kernel
theorem dX3_add_31 : decode cX3_add 31 = .ok (.getfield 17, 3) := by decide +kernel
theorem dX3_add_34 : decode cX3_add 34 = .ok (.lload_n 2, 1) := by decide +kernel
theorem dX3_add_35 : decode cX3_add 35 = .ok (.lastore, 1) := by decide +kernel
theorem dX3_add_36 : decode cX3_add 36 = .ok (.aload_n 0, 1) := by decide +kernel
theorem dX3_add_37 : decode cX3_add 37 = .ok (.dup, 1) := by decide +kernel
theorem dX3_add_38 : decode cX3_add 38 = .ok (.getfield 17, 3) := by decide +kernel
theorem dX3_add_41 : decode cX3_add 41 = .ok (.iconst 1, 1) := by decide +kernel
theorem dX3_add_42 : decode cX3_add 42 = .ok (.iadd, 1) := by decide +kernel
theorem dX3_add_43 : decode cX3_add 43 = .ok (.putfield 17, 3) := by decide +kernel
theorem dX3_add_46 : decode cX3_add 46 = .ok (.return_, 1) := by decide +kernel
theorem dX3_grow_0 : decode cX3_grow 0 = .ok (.iconst 2, 1) := by decide +kernel
theorem dX3_grow_1 : decode cX3_grow 1 = .ok (.aload_n 0, 1) := by decide +kernel
theorem dX3_grow_2 : decode cX3_grow 2 = .ok (.getfield 17, 3) := by decide +kernel
theorem dX3_grow_5 : decode cX3_grow 5 = .ok (.imul, 1) := by decide +kernel
theorem dX3_grow_6 : decode cX3_grow 6 = .ok (.newarray .int, 2) := by decide +kernel
theorem dX3_grow_8 : decode cX3_grow 8 = .ok (.astore_n 1, 1) := by decide +kernel
theorem dX3_grow_9 : decode cX3_grow 9 = .ok (.iconst 2, 1) := by decide +kernel
theorem dX3_grow_10 : decode cX3_grow 10 = .ok (.aload_n 0, 1) := by decide +kernel
theorem dX3_grow_11 : decode cX3_grow 11 = .ok (.getfield 17, 3) := by decide +kernel
theorem dX3_grow_14 : decode cX3_grow 14 = .ok (.imul, 1) := by decide +kernel
theorem dX3_grow_15 : decode cX3_grow 15 = .ok (.newarray .long, 2) := by decide +kernel
theorem dX3_grow_17 : decode cX3_grow 17 = .ok (.astore_n 2, 1) := by decide +kernel
theorem dX3_grow_18 : decode cX3_grow 18 = .ok (.aload_n 0, 1) := by decide +kernel
theorem dX3_grow_19 : decode cX3_grow 19 = .ok (.getfield 7, 3) := by decide +kernel
theorem dX3_grow_22 : decode cX3_grow 22 = .ok (.iconst 0, 1) := by decide +kernel
theorem dX3_grow_23 : decode cX3_grow 23 = .ok (.aload_n 1, 1) := by decide +kernel
theorem dX3_grow_24 : decode cX3_grow 24 = .ok (.iconst 0, 1) := by decide +kernel
theorem dX3_grow_25 : decode cX3_grow 25 = .ok (.aload_n 0, 1) := by decide +kernel
theorem dX3_grow_26 : decode cX3_grow 26 = .ok (.getfield 17, 3) := by decide +kernel
theorem dX3_grow_29 : decode cX3_grow 29 = .ok (.invokestatic 24, 3) := by decide +kernel
theorem dX3_grow_32 : decode cX3_grow 32 = .ok (.aload_n 0, 1) := by decide +kernel
theorem dX3_grow_33 : decode cX3_grow 33 = .ok (.getfield 13, 3) := by decide +kernel
theorem dX3_grow_36 : decode cX3_grow 36 = .ok (.iconst 0, 1) := by decide +kernel
theorem dX3_grow_37 : decode cX3_grow 37 = .ok (.aload_n 2, 1) := by decide +kernel
theorem dX3_grow_38 : decode cX3_grow 38 = .ok (.iconst 0, 1) := by decide +kernel
theorem dX3_grow_39 : decode cX3_grow 39 = .ok (.aload_n 0, 1) := by decide +kernel
theorem dX3_grow_40 : decode cX3_grow 40 = .ok (.getfield 17, 3) := by decide +kernel
theorem dX3_grow_43 : decode cX3_grow 43 = .ok (.invokestatic 24, 3) := by decide +kernel
theorem dX3_grow_46 : decode cX3_grow 46 = .ok (.aload_n 0, 1) := by decide +kernel
theorem dX3_grow_47 : decode cX3_grow 47 = .ok (.aload_n 1, 1) := by decide +kernel
theorem dX3_grow_48 : decode cX3_grow 48 = .ok (.putfield 7, 3) := by decide +kernel
theorem dX3_grow_51 : decode cX3_grow 51 = .ok (.aload_n 0, 1) := by decide +kernel
theorem dX3_grow_52 : decode cX3_grow 52 = .ok (.aload_n 2, 1) := by decide +kernel
theorem dX3_grow_53 : decode cX3_grow 53 = .ok (.putfield 13, 3) := by decide +kernel
theorem dX3_grow_56 : decode cX3_grow 56 = .ok (.return_, 1) := by decide +kernel
theorem dX4_init_0 : decode cX4_init 0 = .ok (.aload_n 0, 1) := by decide +kernel
theorem dX4_init_1 : decode cX4_init 1 = .ok (.invokespecial 3, 3) := by decide +kernel
theorem dX4_init_4 : decode cX4_init 4 = .ok (.aload_n 0, 1) := by decide +kernel
theorem dX4_init_5 : decode cX4_init 5 = .ok (.bipush 40, 2) := by decide +kernel
theorem dX4_init_7 : decode cX4_init 7 = .ok (.newarray .int, 2) := by decide +kernel
theorem dX4_init_9 : decode cX4_init 9 = .ok (.putfield 9, 3) := by decide +kernel
theorem dX4_init_12 : decode cX4_init 12 = .ok (.aload_n 0, 1) := by decide +kernel
theorem dX4_init_13 : decode cX4_init 13 = .ok (.bipush 40, 2) := by decide +kernel
theorem dX4_init_15 : decode cX4_init 15 = .ok (.newarray .int, 2) := by decide +kernel
theorem dX4_init_17 : decode cX4_init 17 = .ok (.putfield 15, 3) := by decide +kernel
theorem dX4_init_20 : decode cX4_init 20 = .ok (.aload_n 0, 1) := by decide +kernel
theorem dX4_init_21 : decode cX4_init 21 = .ok (.bipush 40, 2) := by decide +kernel
theorem dX4_init_23 : decode cX4_init 23 = .ok (.newarray .int, 2) := by decide +kernel
theorem dX4_init_25 : decode cX4_init 25 = .ok (.putfield 18, 3) := by decide +kernel
theorem dX4_init_28 : decode cX4_init 28 = .ok (.aload_n 0, 1) := by decide +kernel
theorem dX4_init_29 : decode cX4_init 29 = .ok (.bipush 40, 2) := by decide +kernel
theorem dX4_init_31 : decode cX4_init 31 = .ok (.newarray .int, 2) := by decide +kernel
theorem dX4_init_33 : decode cX4_init 33 = .ok (.putfield 21, 3) := by decide +kernel
theorem dX4_init_36 : decode cX4_init 36 = .ok (.aload_n 0, 1) := by decide +kernel
theorem dX4_init_37 : decode cX4_init 37 = .ok (.bipush 40, 2) := by decide +kernel
theorem dX4_init_39 : decode cX4_init 39 = .ok (.newarray .int, 2) := by decide +kernel
theorem dX4_init_41 : decode cX4_init 41 = .ok (.putfield 24, 3) := by decide +kernel
theorem dX4_init_44 : decode cX4_init 44 = .ok (.aload_n 0, 1) := by decide +kernel
theorem dX4_init_45 : decode cX4_init 45 = .ok (.bipush 40, 2) := by decide +kernel
theorem dX4_init_47 : decode cX4_init 47 = .ok (.newarray .int, 2) := by decide +kernel
theorem dX4_init_49 : decode cX4_init 49 = .ok (.putfield 27, 3) := by decide +kernel
theorem dX4_init_52 : decode cX4_init 52 = .ok (.aload_n 0, 1) := by decide +kernel
theorem dX4_init_53 : decode cX4_init 53 = .ok (.bipush 40, 2) := by decide +kernel
theorem dX4_init_55 : decode cX4_init 55 = .ok (.newarray .int, 2) := by decide +kernel
theorem dX4_init_57 : decode cX4_init 57 = .ok (.putfield 30, 3) := by decide +kernel
theorem dX4_init_60 : decode cX4_init 60 = .ok (.aload_n 0, 1) := by decide +kernel
theorem dX4_init_61 : decode cX4_init 61 = .ok (.bipush 40, 2) := by decide +kernel
theorem dX4_init_63 : decode cX4_init 63 = .ok (.newarray .int, 2) := by decide +kernel
theorem dX4_init_65 : decode cX4_init 65 = .ok (.putfield 33, 3) := by decide +kernel
theorem dX4_init_68 : decode cX4_init 68 = .ok (.aload_n 0, 1) := by decide +kernel
theorem dX4_init_69 : decode cX4_init 69 = .ok (.bipush 40, 2) := by decide +kernel
theorem dX4_init_71 : decode cX4_init 71 = .ok (.newarray .int, 2) := by decide +kernel
theorem dX4_init_73 : decode cX4_init 73 = .ok (.putfield 36, 3) := by decide +kernel
theorem dX4_init_76 : decode cX4_init 76 = .ok (.aload_n 0, 1) := by decide +kernel
theorem dX4_init_77 : decode cX4_init 77 = .ok (.iconst 0, 1) := by decide +kernel
theorem dX4_init_78 : decode cX4_init 78 = .ok (.putfield 39, 3) := by decide +kernel
theorem dX4_init_81 : decode cX4_init 81 = .ok (.return_, 1) := by decide +kernel
theorem dX4_add_0 : decode cX4_add 0 = .ok (.aload_n 0, 1) := by decide +kernel
theorem dX4_add_1 : decode cX4_add 1 = .ok (.getfield 39, 3) := by decide +kernel
theorem dX4_add_4 : decode cX4_add 4 = .ok (.istore 5, 2) := by decide +kernel
theorem dX4_add_6 : decode cX4_add 6 = .ok (.aload_n 0, 1) := by decide +kernel
theorem dX4_add_7 : decode cX4_add 7 = .ok (.getfield 9, 3) := by decide +kernel
theorem dX4_add_10 : decode cX4_add 10 = .ok (.iload 5, 2) := by decide +kernel
theorem dX4_add_12 : decode cX4_add 12 = .ok (.iload_n 1, 1) := by decide +kernel
theorem dX4_add_13 : decode cX4_add 13 = .ok (.iastore, 1) := by decide +kernel
theorem dX4_add_14 : decode cX4_add 14 = .ok (.aload_n 0, 1) := by decide +kernel
theorem dX4_add_15 : decode cX4_add 15 = .ok (.getfield 15, 3) := by decide +kernel
theorem dX4_add_18 : decode cX4_add 18 = .ok (.iload 5, 2) := by decide +kernel
theorem dX4_add_20 : decode cX4_add 20 = .ok (.iload_n 2, 1) := by decide +kernel
theorem dX4_add_21 : decode cX4_add 21 = .ok (.iastore, 1) := by decide +kernel
theorem dX4_add_22 : decode cX4_add 22 = .ok (.aload_n 0, 1) := by decide +kernel
theorem dX4_add_23 : decode cX4_add 23 = .ok (.getfield 18, 3) := by decide +kernel
theorem dX4_add_26 : decode cX4_add 26 = .ok (.iload 5, 2) := by decide +kernel
theorem dX4_add_28 : decode cX4_add 28 = .ok (.iload_n 3, 1) := by decide +kernel
theorem dX4_add_29 : decode cX4_add 29 = .ok (.iastore, 1) := by decide +kernel
theorem dX4_add_30 : decode cX4_add 30 = .ok (.aload_n 0, 1) := by decide +kernel
theorem dX4_add_31 : decode cX4_add 31 = .ok (.getfield 21, 3) := by decide +kernel
theorem dX4_add_34 : decode cX4_add 34 = .ok (.iload 5, 2) := by decide +kernel
theorem dX4_add_36 : decode cX4_add 36 = .ok (.iload 4, 2) := by decide +kernel
theorem dX4_add_38 : decode cX4_add 38 = .ok (.iastore, 1) := by decide +kernel
theorem dX4_add_39 : decode cX4_add 39 = .ok (.aload_n 0, 1) := by decide +kernel
theorem dX4_add_40 : decode cX4_add 40 = .ok (.getfield 24, 3) := by decide +kernel
theorem dX4_add_43 : decode cX4_add 43 = .ok (.iload 5, 2) := by decide +kernel
theorem dX4_add_45 : decode cX4_add 45 = .ok (.iconst 0, 1) := by decide +kernel
theorem dX4_add_46 : decode cX4_add 46 = .ok (.iastore, 1) := by decide +kernel
theorem dX4_add_47 : decode cX4_add 47 = .ok (.aload_n 0, 1) := by decide +kernel
theorem dX4_add_48 : decode cX4_add 48 = .ok (.iload 5, 2) := by decide +kernel
theorem dX4_add_50 : decode cX4_add 50 = .ok (.iconst 1, 1) := by decide +kernel
theorem dX4_add_51 : decode cX4_add 51 = .ok (.iadd, 1) := by decide +kernel
theorem dX4_add_52 : decode cX4_add 52 = .ok (.putfield 39, 3) := by decide +kernel
theorem dX4_add_55 : decode cX4_add 55 = .ok (.iload 5, 2) := by decide +kernel
theorem dX4_add_57 : decode cX4_add 57 = .ok (.ireturn, 1) := by decide +kernel
theorem dX4_setRange_0 : decode cX4_setRange 0 = .ok (.aload_n 0, 1) := by decide +kernel
theorem dX4_setRange_1 : decode cX4_setRange 1 = .ok (.getfield 27, 3) := by decide +kernel
theorem dX4_setRange_4 : decode cX4_setRange 4 = .ok (.iload_n 1, 1) := by decide +kernel
theorem dX4_setRange_5 : decode cX4_setRange 5 = .ok (.iload_n 2, 1) := by decide +kernel
theorem dX4_setRange_6 : decode cX4_setRange 6 = .ok (.iastore, 1) := by decide +kernel
theorem dX4_setRange_7 : decode cX4_setRange 7 = .ok (.aload_n 0, 1) := by decide +kernel
theorem dX4_setRange_8 : decode cX4_setRange 8 = .ok (.getfield 30, 3) := by decide +kernel
theorem dX4_setRange_11 : decode cX4_setRange 11 = .ok (.iload_n 1, 1) := by decide +kernel
theorem dX4_setRange_12 : decode cX4_setRange 12 = .ok (.iload_n 3, 1) := by decide +kernel
theorem dX4_setRange_13 : decode cX4_setRange 13 = .ok (.iastore, 1) := by decide +kernel
theorem dX4_setRange_14 : decode cX4_setRange 14 = .ok (.return_, 1) := by decide +kernel
theorem dX4_setCondition_0 : decode cX4_setCondition 0 = .ok (.aload_n 0, 1) := by decide +kernel
theorem dX4_setCondition_1 : decode cX4_setCondition 1 = .ok (.getfield 33, 3) := by decide +kernel
theorem dX4_setCondition_4 : decode cX4_setCondition 4 = .ok (.iload_n 1, 1) := by decide +kernel
theorem dX4_setCondition_5 : decode cX4_setCondition 5 = .ok (.iload_n 2, 1) := by decide +kernel
theorem dX4_setCondition_6 : decode cX4_setCondition 6 = .ok (.iastore, 1) := by decide +kernel
theorem dX4_setCondition_7 : decode cX4_setCondition 7 = .ok (.aload_n 0, 1) := by decide +kernel
theorem dX4_setCondition_8 : decode cX4_setCondition 8 = .ok (.getfield 36, 3) := by decide +kernel
theorem dX4_setCondition_11 : decode cX4_setCondition 11 = .ok (.iload_n 1, 1) := by decide +kernel
theorem dX4_setCondition_12 : decode cX4_setCondition 12 = .ok (.iload_n 3, 1) := by decide +kernel
theorem dX4_setCondition_13 : decode cX4_setCondition 13 = .ok (.iastore, 1) := by decide +kernel
theorem dX4_setCondition_14 : decode cX4_setCondition 14 = .ok (.return_, 1) := by decide +kernel
theorem dX4_isHolding_0 : decode cX4_isHolding 0 = .ok (.iconst 1, 1) := by decide +kernel
theorem dX4_isHolding_1 : decode cX4_isHolding 1 = .ok (.iload_n 3, 1) := by decide +kernel
theorem dX4_isHolding_2 : decode cX4_isHolding 2 = .ok (.aload_n 0, 1) := by decide +kernel
theorem dX4_isHolding_3 : decode cX4_isHolding 3 = .ok (.getfield 33, 3) := by decide +kernel
theorem dX4_isHolding_6 : decode cX4_isHolding 6 = .ok (.iload_n 1, 1) := by decide +kernel
theorem dX4_isHolding_7 : decode cX4_isHolding 7 = .ok (.iaload, 1) := by decide +kernel
theorem dX4_isHolding_8 : decode cX4_isHolding 8 = .ok (.invokestatic 43, 3) := by decide +kernel
theorem dX4_isHolding_11 : decode cX4_isHolding 11 = .ok (.ishl, 1) := by decide +kernel
theorem dX4_isHolding_12 : decode cX4_isHolding 12 = .ok (.istore 4, 2) := by decide +kernel
theorem dX4_isHolding_14 : decode cX4_isHolding 14 = .ok (.iload_n 2, 1) := by decide +kernel
theorem dX4_isHolding_15 : decode cX4_isHolding 15 = .ok (.aload_n 0, 1) := by decide +kernel
theorem dX4_isHolding_16 : decode cX4_isHolding 16 = .ok (.getfield 27, 3) := by decide +kernel
theorem dX4_isHolding_19 : decode cX4_isHolding 19 = .ok (.iload_n 1, 1) := by decide +kernel
theorem dX4_isHolding_20 : decode cX4_isHolding 20 = .ok (.iaload, 1) := by decide +kernel
theorem dX4_isHolding_21 : decode cX4_isHolding 21 = .ok (.aload_n 0, 1) := by decide +kernel
theorem dX4_isHolding_22 : decode cX4_isHolding 22 = .ok (.getfield 30, 3) := by decide +kernel
theorem dX4_isHolding_25 : decode cX4_isHolding 25 = .ok (.iload_n 1, 1) := by decide +kernel
theorem dX4_isHolding_26 : decode cX4_isHolding 26 = .ok (.iaload, 1) := by decide +kernel
theorem dX4_isHolding_27 : decode cX4_isHolding 27 = .ok (.invokestatic 47, 3) := by decide +kernel
theorem dX4_isHolding_30 : decode cX4_isHolding 30 = .ok (.ifCond .eq 19, 3) := by decide +kernel
theorem dX4_isHolding_33 : decode cX4_isHolding 33 = .ok (.aload_n 0, 1) := by decide +kernel
theorem dX4_isHolding_34 : decode cX4_isHolding 34 = .ok (.getfield 36, 3) := by decide +kernel
theorem dX4_isHolding_37 : decode cX4_isHolding 37 = .ok (.iload_n 1, 1) := by decide +kernel
theorem dX4_isHolding_38 : decode cX4_isHolding 38 = .ok (.iaload, 1) := by decide +kernel
theorem dX4_isHolding_39 : decode cX4_isHolding 39 = .ok (.iload 4, 2) := by decide +kernel
theorem dX4_isHolding_41 : decode cX4_isHolding 41 = .ok (.iand, 1) := by decide +kernel
theorem dX4_isHolding_42 : decode cX4_isHolding 42 = .ok (.ifCond .eq 7, 3) := by decide +kernel
theorem dX4_isHolding_45 : decode cX4_isHolding 45 = .ok (.iconst 1, 1) := by decide +kernel
theorem dX4_isHolding_46 : decode cX4_isHolding 46 = .ok (.goto 4, 3) := by decide +kernel
theorem dX4_isHolding_49 : decode cX4_isHolding 49 = .ok (.iconst 0, 1) := by decide +kernel
theorem dX4_isHolding_50 : decode cX4_isHolding 50 = .ok (.ireturn, 1) := by decide +kernel
theorem dX4_isAt_0 : decode cX4_isAt 0 = .ok (.aload_n 0, 1) := by decide +kernel
theorem dX4_isAt_1 : decode cX4_isAt 1 = .ok (.getfield 9, 3) := by decide +kernel
theorem dX4_isAt_4 : decode cX4_isAt 4 = .ok (.iload_n 1, 1) := by decide +kernel
theorem dX4_isAt_5 : decode cX4_isAt 5 = .ok (.iaload, 1) := by decide +kernel
theorem dX4_isAt_6 : decode cX4_isAt 6 = .ok (.iload_n 2, 1) := by decide +kernel
theorem dX4_isAt_7 : decode cX4_isAt 7 = .ok (.if_icmp .ne 17, 3) := by decide +kernel
theorem dX4_isAt_10 : decode cX4_isAt 10 = .ok (.aload_n 0, 1) := by decide +kernel
theorem dX4_isAt_11 : decode cX4_isAt 11 = .ok (.getfield 15, 3) := by decide +kernel
theorem dX4_isAt_14 : decode cX4_isAt 14 = .ok (.iload_n 1, 1) := by decide +kernel
theorem dX4_isAt_15 : decode cX4_isAt 15 = .ok (.iaload, 1) := by decide +kernel
theorem dX4_isAt_16 : decode cX4_isAt 16 = .ok (.iload_n 3, 1) := by decide +kernel
theorem dX4_isAt_17 : decode cX4_isAt 17 = .ok (.if_icmp .ne 7, 3) := by decide +kernel
theorem dX4_isAt_20 : decode cX4_isAt 20 = .ok (.iconst 1, 1) := by decide +kernel
theorem dX4_isAt_21 : decode cX4_isAt 21 = .ok (.goto 4, 3) := by decide +kernel
theorem dX4_isAt_24 : decode cX4_isAt 24 = .ok (.iconst 0, 1) := by decide +kernel
theorem dX4_isAt_25 : decode cX4_isAt 25 = .ok (.ireturn, 1) := by decide +kernel
theorem dX4_overlaps_0 : decode cX4_overlaps 0 = .ok (.aload_n 0, 1) := by decide +kernel
theorem dX4_overlaps_1 : decode cX4_overlaps 1 = .ok (.getfield 27, 3) := by decide +kernel
theorem dX4_overlaps_4 : decode cX4_overlaps 4 = .ok (.iload_n 1, 1) := by decide +kernel
theorem dX4_overlaps_5 : decode cX4_overlaps 5 = .ok (.iaload, 1) := by decide +kernel
theorem dX4_overlaps_6 : decode cX4_overlaps 6 = .ok (.iload_n 3, 1) := by decide +kernel
theorem dX4_overlaps_7 : decode cX4_overlaps 7 = .ok (.if_icmp .gt 17, 3) := by decide +kernel
theorem dX4_overlaps_10 : decode cX4_overlaps 10 = .ok (.iload_n 2, 1) := by decide +kernel
theorem dX4_overlaps_11 : decode cX4_overlaps 11 = .ok (.aload_n 0, 1) := by decide +kernel
theorem dX4_overlaps_12 : decode cX4_overlaps 12 = .ok (.getfield 30, 3) := by decide +kernel
theorem dX4_overlaps_15 : decode cX4_overlaps 15 = .ok (.iload_n 1, 1) := by decide +kernel
theorem dX4_overlaps_16 : decode cX4_overlaps 16 = .ok (.iaload, 1) := by decide +kernel
theorem dX4_overlaps_17 : decode cX4_overlaps 17 = .ok (.if_icmp .gt 7, 3) := by decide +kernel
theorem dX4_overlaps_20 : decode cX4_overlaps 20 = .ok (.iconst 1, 1) := by decide +kernel
theorem dX4_overlaps_21 : decode cX4_overlaps 21 = .ok (.goto 4, 3) := by decide +kernel
theorem dX4_overlaps_24 : decode cX4_overlaps 24 = .ok (.iconst 0, 1) := by decide +kernel
theorem dX4_overlaps_25 : decode cX4_overlaps 25 = .ok (.ireturn, 1) := by decide +kernel
theorem dX4_sharesConfiguration_0 : decode cX4_sharesConfiguration 0 = .ok (.aload_n 0, 1) := by decide +kernel
theorem dX4_sharesConfiguration_1 : decode cX4_sharesConfiguration 1 = .ok (.getfield 33, 3) := by decide +kernel
theorem dX4_sharesConfiguration_4 : decode cX4_sharesConfiguration 4 = .ok (.iload_n 1, 1) := by decide +kernel
theorem dX4_sharesConfiguration_5 : decode cX4_sharesConfiguration 5 = .ok (.iaload, 1) := by decide +kernel
theorem dX4_sharesConfiguration_6 : decode cX4_sharesConfiguration 6 = .ok (.iload_n 2, 1) := by decide +kernel
theorem dX4_sharesConfiguration_7 : decode cX4_sharesConfiguration 7 = .ok (.if_icmp .ne 14, 3) := by decide +kernel
theorem dX4_sharesConfiguration_10 : decode cX4_sharesConfiguration 10 = .ok (.aload_n 0, 1) := by decide +kernel
theorem dX4_sharesConfiguration_11 : decode cX4_sharesConfiguration 11 = .ok (.getfield 36, 3) := by decide +kernel
theorem dX4_sharesConfiguration_14 : decode cX4_sharesConfiguration 14 = .ok (.iload_n 1, 1) := by decide +kernel
theorem dX4_sharesConfiguration_15 : decode cX4_sharesConfiguration 15 = .ok (.iaload, 1) := by decide +kernel
theorem dX4_sharesConfiguration_16 : decode cX4_sharesConfiguration 16 = .ok (.iload_n 3, 1) := by decide +kernel
theorem dX4_sharesConfiguration_17 : decode cX4_sharesConfiguration 17 = .ok (.iand, 1) := by decide +kernel
theorem dX4_sharesConfiguration_18 : decode cX4_sharesConfiguration 18 = .ok (.ifCond .eq 7, 3) := by decide +kernel
theorem dX4_sharesConfiguration_21 : decode cX4_sharesConfiguration 21 = .ok (.iconst 1, 1) := by decide +kernel
theorem dX4_sharesConfiguration_22 : decode cX4_sharesConfiguration 22 = .ok (.goto 4, 3) := by decide +kernel
theorem dX4_sharesConfiguration_25 : decode cX4_sharesConfiguration 25 = .ok (.iconst 0, 1) := by decide +kernel
theorem dX4_sharesConfiguration_26 : decode cX4_sharesConfiguration 26 = .ok (.ireturn, 1) := by decide +kernel
theorem dX4_addedCost_0 : decode cX4_addedCost 0 = .ok (.aload_n 0, 1) := by decide +kernel
theorem dX4_addedCost_1 : decode cX4_addedCost 1 = .ok (.getfield 21, 3) := by decide +kernel
theorem dX4_addedCost_4 : decode cX4_addedCost 4 = .ok (.iload_n 1, 1) := by decide +kernel
theorem dX4_addedCost_5 : decode cX4_addedCost 5 = .ok (.iaload, 1) := by decide +kernel
theorem dX4_addedCost_6 : decode cX4_addedCost 6 = .ok (.i2f, 1) := by decide +kernel
theorem dX4_addedCost_7 : decode cX4_addedCost 7 = .ok (.bipush 100, 2) := by decide +kernel
theorem dX4_addedCost_9 : decode cX4_addedCost 9 = .ok (.aload_n 0, 1) := by decide +kernel
theorem dX4_addedCost_10 : decode cX4_addedCost 10 = .ok (.getfield 24, 3) := by decide +kernel
theorem dX4_addedCost_13 : decode cX4_addedCost 13 = .ok (.iload_n 1, 1) := by decide +kernel
theorem dX4_addedCost_14 : decode cX4_addedCost 14 = .ok (.iaload, 1) := by decide +kernel
theorem dX4_addedCost_15 : decode cX4_addedCost 15 = .ok (.iadd, 1) := by decide +kernel
theorem dX4_addedCost_16 : decode cX4_addedCost 16 = .ok (.i2f, 1) := by decide +kernel
theorem dX4_addedCost_17 : decode cX4_addedCost 17 = .ok (.fmul, 1) := by decide +kernel
theorem dX4_addedCost_18 : decode cX4_addedCost 18 = .ok (.ldc 51, 2) := by decide +kernel
theorem dX4_addedCost_20 : decode cX4_addedCost 20 = .ok (.fdiv, 1) := by decide +kernel
theorem dX4_addedCost_21 : decode cX4_addedCost 21 = .ok (.fload_n 2, 1) := by decide +kernel
theorem dX4_addedCost_22 : decode cX4_addedCost 22 = .ok (.fmul, 1) := by decide +kernel
theorem dX4_addedCost_23 : decode cX4_addedCost 23 = .ok (.freturn, 1) := by decide +kernel
theorem dX4_isSound_0 : decode cX4_isSound 0 = .ok (.aload_n 0, 1) := by decide +kernel
theorem dX4_isSound_1 : decode cX4_isSound 1 = .ok (.getfield 39, 3) := by decide +kernel
theorem dX4_isSound_4 : decode cX4_isSound 4 = .ok (.iconst 0, 1) := by decide +kernel
theorem dX4_isSound_5 : decode cX4_isSound 5 = .ok (.bipush 40, 2) := by decide +kernel
theorem dX4_isSound_7 : decode cX4_isSound 7 = .ok (.invokestatic 47, 3) := by decide +kernel
theorem dX4_isSound_10 : decode cX4_isSound 10 = .ok (.ifCond .ne 5, 3) := by decide +kernel
theorem dX4_isSound_13 : decode cX4_isSound 13 = .ok (.iconst 0, 1) := by decide +kernel
theorem dX4_isSound_14 : decode cX4_isSound 14 = .ok (.ireturn, 1) := by decide +kernel
theorem dX4_isSound_15 : decode cX4_isSound 15 = .ok (.iconst 0, 1) := by decide +kernel
theorem dX4_isSound_16 : decode cX4_isSound 16 = .ok (.istore_n 2, 1) := by decide +kernel
theorem dX4_isSound_17 : decode cX4_isSound 17 = .ok (.iload_n 2, 1) := by decide +kernel
theorem dX4_isSound_18 : decode cX4_isSound 18 = .ok (.aload_n 0, 1) := by decide +kernel
theorem dX4_isSound_19 : decode cX4_isSound 19 = .ok (.getfield 39, 3) := by decide +kernel
theorem dX4_isSound_22 : decode cX4_isSound 22 = .ok (.if_icmp .ge 20, 3) := by decide +kernel
theorem dX4_isSound_25 : decode cX4_isSound 25 = .ok (.aload_n 0, 1) := by decide +kernel
theorem dX4_isSound_26 : decode cX4_isSound 26 = .ok (.iload_n 2, 1) := by decide +kernel
theorem dX4_isSound_27 : decode cX4_isSound 27 = .ok (.iload_n 1, 1) := by decide +kernel
theorem dX4_isSound_28 : decode cX4_isSound 28 = .ok (.invokevirtual 52, 3) := by decide +kernel
theorem dX4_isSound_31 : decode cX4_isSound 31 = .ok (.ifCond .ne 5, 3) := by decide +kernel
theorem dX4_isSound_34 : decode cX4_isSound 34 = .ok (.iconst 0, 1) := by decide +kernel
theorem dX4_isSound_35 : decode cX4_isSound 35 = .ok (.ireturn, 1) := by decide +kernel
theorem dX4_isSound_36 : decode cX4_isSound 36 = .ok (.iinc 2 1, 3) := by decide +kernel
theorem dX4_isSound_39 : decode cX4_isSound 39 = .ok (.goto (-22), 3) := by decide +kernel
theorem dX4_isSound_42 : decode cX4_isSound 42 = .ok (.iconst 1, 1) := by decide +kernel
theorem dX4_isSound_43 : decode cX4_isSound 43 = .ok (.ireturn, 1) := by decide +kernel
theorem dX4_isSoundLine_0 : decode cX4_isSoundLine 0 = .ok (.aload_n 0, 1) := by decide +kernel
theorem dX4_isSoundLine_1 : decode cX4_isSoundLine 1 = .ok (.getfield 9, 3) := by decide +kernel
theorem dX4_isSoundLine_4 : decode cX4_isSoundLine 4 = .ok (.iload_n 1, 1) := by decide +kernel
theorem dX4_isSoundLine_5 : decode cX4_isSoundLine 5 = .ok (.iaload, 1) := by decide +kernel
theorem dX4_isSoundLine_6 : decode cX4_isSoundLine 6 = .ok (.iconst 0, 1) := by decide +kernel
theorem dX4_isSoundLine_7 : decode cX4_isSoundLine 7 = .ok (.iload_n 2, 1) := by decide +kernel
theorem dX4_isSoundLine_8 : decode cX4_isSoundLine 8 = .ok (.iconst 1, 1) := by decide +kernel
theorem dX4_isSoundLine_9 : decode cX4_isSoundLine 9 = .ok (.isub, 1) := by decide +kernel
theorem dX4_isSoundLine_10 : decode cX4_isSoundLine 10 = .ok (.invokestatic 47, 3) := by decide +kernel
theorem dX4_isSoundLine_13 : decode cX4_isSoundLine 13 = .ok (.ifCond .eq 134, 3) := by decide +kernel
theorem dX4_isSoundLine_16 : decode cX4_isSoundLine 16 = .ok (.aload_n 0, 1) := by decide +kernel
theorem dX4_isSoundLine_17 : decode cX4_isSoundLine 17 = .ok (.getfield 18, 3) := by decide +kernel
theorem dX4_isSoundLine_20 : decode cX4_isSoundLine 20 = .ok (.iload_n 1, 1) := by decide +kernel
theorem dX4_isSoundLine_21 : decode cX4_isSoundLine 21 = .ok (.iaload, 1) := by decide +kernel
theorem dX4_isSoundLine_22 : decode cX4_isSoundLine 22 = .ok (.iconst 0, 1) := by decide +kernel
theorem dX4_isSoundLine_23 : decode cX4_isSoundLine 23 = .ok (.iload_n 2, 1) := by decide +kernel
theorem dX4_isSoundLine_24 : decode cX4_isSoundLine 24 = .ok (.iconst 1, 1) := by decide +kernel
theorem dX4_isSoundLine_25 : decode cX4_isSoundLine 25 = .ok (.isub, 1) := by decide +kernel
theorem dX4_isSoundLine_26 : decode cX4_isSoundLine 26 = .ok (.invokestatic 47, 3) := by decide +kernel
theorem dX4_isSoundLine_29 : decode cX4_isSoundLine 29 = .ok (.ifCond .eq 118, 3) := by decide +kernel
theorem dX4_isSoundLine_32 : decode cX4_isSoundLine 32 = .ok (.aload_n 0, 1) := by decide +kernel
theorem dX4_isSoundLine_33 : decode cX4_isSoundLine 33 = .ok (.getfield 15, 3) := by decide +kernel
theorem dX4_isSoundLine_36 : decode cX4_isSoundLine 36 = .ok (.iload_n 1, 1) := by decide +kernel
theorem dX4_isSoundLine_37 : decode cX4_isSoundLine 37 = .ok (.iaload, 1) := by decide +kernel
theorem dX4_isSoundLine_38 : decode cX4_isSoundLine 38 = .ok (.iconst 1, 1) := by decide +kernel
theorem dX4_isSoundLine_39 : decode cX4_isSoundLine 39 = .ok (.bipush 6, 2) := by decide +kernel
theorem dX4_isSoundLine_41 : decode cX4_isSoundLine 41 = .ok (.invokestatic 47, 3) := by decide +kernel
theorem dX4_isSoundLine_44 : decode cX4_isSoundLine 44 = .ok (.ifCond .eq 103, 3) := by decide +kernel
theorem dX4_isSoundLine_47 : decode cX4_isSoundLine 47 = .ok (.aload_n 0, 1) := by decide +kernel
theorem dX4_isSoundLine_48 : decode cX4_isSoundLine 48 = .ok (.getfield 21, 3) := by decide +kernel
theorem dX4_isSoundLine_51 : decode cX4_isSoundLine 51 = .ok (.iload_n 1, 1) := by decide +kernel
theorem dX4_isSoundLine_52 : decode cX4_isSoundLine 52 = .ok (.iaload, 1) := by decide +kernel
theorem dX4_isSoundLine_53 : decode cX4_isSoundLine 53 = .ok (.iconst 1, 1) := by decide +kernel
theorem dX4_isSoundLine_54 : decode cX4_isSoundLine 54 = .ok (.bipush 20, 2) := by decide +kernel
theorem dX4_isSoundLine_56 : decode cX4_isSoundLine 56 = .ok (.invokestatic 47, 3) := by decide +kernel
theorem dX4_isSoundLine_59 : decode cX4_isSoundLine 59 = .ok (.ifCond .eq 88, 3) := by decide +kernel
theorem dX4_isSoundLine_62 : decode cX4_isSoundLine 62 = .ok (.aload_n 0, 1) := by decide +kernel
theorem dX4_isSoundLine_63 : decode cX4_isSoundLine 63 = .ok (.getfield 24, 3) := by decide +kernel
theorem dX4_isSoundLine_66 : decode cX4_isSoundLine 66 = .ok (.iload_n 1, 1) := by decide +kernel
theorem dX4_isSoundLine_67 : decode cX4_isSoundLine 67 = .ok (.iaload, 1) := by decide +kernel
theorem dX4_isSoundLine_68 : decode cX4_isSoundLine 68 = .ok (.iconst 0, 1) := by decide +kernel
theorem dX4_isSoundLine_69 : decode cX4_isSoundLine 69 = .ok (.bipush 50, 2) := by decide +kernel
theorem dX4_isSoundLine_71 : decode cX4_isSoundLine 71 = .ok (.invokestatic 47, 3) := by decide +kernel
theorem dX4_isSoundLine_74 : decode cX4_isSoundLine 74 = .ok (.ifCond .eq 73, 3) := by decide +kernel
theorem dX4_isSoundLine_77 : decode cX4_isSoundLine 77 = .ok (.aload_n 0, 1) := by decide +kernel
theorem dX4_isSoundLine_78 : decode cX4_isSoundLine 78 = .ok (.getfield 27, 3) := by decide +kernel
theorem dX4_isSoundLine_81 : decode cX4_isSoundLine 81 = .ok (.iload_n 1, 1) := by decide +kernel
theorem dX4_isSoundLine_82 : decode cX4_isSoundLine 82 = .ok (.iaload, 1) := by decide +kernel
theorem dX4_isSoundLine_83 : decode cX4_isSoundLine 83 = .ok (.iconst 1, 1) := by decide +kernel
theorem dX4_isSoundLine_84 : decode cX4_isSoundLine 84 = .ok (.sipush 999, 3) := by decide +kernel
theorem dX4_isSoundLine_87 : decode cX4_isSoundLine 87 = .ok (.invokestatic 47, 3) := by decide +kernel
theorem dX4_isSoundLine_90 : decode cX4_isSoundLine 90 = .ok (.ifCond .eq 57, 3) := by decide +kernel
theorem dX4_isSoundLine_93 : decode cX4_isSoundLine 93 = .ok (.aload_n 0, 1) := by decide +kernel
theorem dX4_isSoundLine_94 : decode cX4_isSoundLine 94 = .ok (.getfield 30, 3) := by decide +kernel
theorem dX4_isSoundLine_97 : decode cX4_isSoundLine 97 = .ok (.iload_n 1, 1) := by decide +kernel
theorem dX4_isSoundLine_98 : decode cX4_isSoundLine 98 = .ok (.iaload, 1) := by decide +kernel
theorem dX4_isSoundLine_99 : decode cX4_isSoundLine 99 = .ok (.aload_n 0, 1) := by decide +kernel
theorem dX4_isSoundLine_100 : decode cX4_isSoundLine 100 = .ok (.getfield 27, 3) := by decide +kernel
theorem dX4_isSoundLine_103 : decode cX4_isSoundLine 103 = .ok (.iload_n 1, 1) := by decide +kernel
theorem dX4_isSoundLine_104 : decode cX4_isSoundLine 104 = .ok (.iaload, 1) := by decide +kernel
theorem dX4_isSoundLine_105 : decode cX4_isSoundLine 105 = .ok (.sipush 999, 3) := by decide +kernel
theorem dX4_isSoundLine_108 : decode cX4_isSoundLine 108 = .ok (.invokestatic 47, 3) := by decide +kernel
theorem dX4_isSoundLine_111 : decode cX4_isSoundLine 111 = .ok (.ifCond .eq 36, 3) := by decide +kernel
theorem dX4_isSoundLine_114 : decode cX4_isSoundLine 114 = .ok (.aload_n 0, 1) := by decide +kernel
theorem dX4_isSoundLine_115 : decode cX4_isSoundLine 115 = .ok (.getfield 33, 3) := by decide +kernel
theorem dX4_isSoundLine_118 : decode cX4_isSoundLine 118 = .ok (.iload_n 1, 1) := by decide +kernel
theorem dX4_isSoundLine_119 : decode cX4_isSoundLine 119 = .ok (.iaload, 1) := by decide +kernel
theorem dX4_isSoundLine_120 : decode cX4_isSoundLine 120 = .ok (.iconst 0, 1) := by decide +kernel
theorem dX4_isSoundLine_121 : decode cX4_isSoundLine 121 = .ok (.iconst 3, 1) := by decide +kernel
theorem dX4_isSoundLine_122 : decode cX4_isSoundLine 122 = .ok (.invokestatic 47, 3) := by decide +kernel
theorem dX4_isSoundLine_125 : decode cX4_isSoundLine 125 = .ok (.ifCond .eq 22, 3) := by decide +kernel
theorem dX4_isSoundLine_128 : decode cX4_isSoundLine 128 = .ok (.aload_n 0, 1) := by decide +kernel
theorem dX4_isSoundLine_129 : decode cX4_isSoundLine 129 = .ok (.getfield 36, 3) := by decide +kernel
theorem dX4_isSoundLine_132 : decode cX4_isSoundLine 132 = .ok (.iload_n 1, 1) := by decide +kernel
theorem dX4_isSoundLine_133 : decode cX4_isSoundLine 133 = .ok (.iaload, 1) := by decide +kernel
theorem dX4_isSoundLine_134 : decode cX4_isSoundLine 134 = .ok (.iconst 1, 1) := by decide +kernel
theorem dX4_isSoundLine_135 : decode cX4_isSoundLine 135 = .ok (.bipush 15, 2) := by decide +kernel
theorem dX4_isSoundLine_137 : decode cX4_isSoundLine 137 = .ok (.invokestatic 47, 3) := by decide +kernel
theorem dX4_isSoundLine_140 : decode cX4_isSoundLine 140 = .ok (.ifCond .eq 7, 3) := by decide +kernel
theorem dX4_isSoundLine_143 : decode cX4_isSoundLine 143 = .ok (.iconst 1, 1) := by decide +kernel
theorem dX4_isSoundLine_144 : decode cX4_isSoundLine 144 = .ok (.goto 4, 3) := by decide +kernel
theorem dX4_isSoundLine_147 : decode cX4_isSoundLine 147 = .ok (.iconst 0, 1) := by decide +kernel
theorem dX4_isSoundLine_148 : decode cX4_isSoundLine 148 = .ok (.ireturn, 1) := by decide +kernel
theorem dX4_isUnique_0 : decode cX4_isUnique 0 = .ok (.iconst 0, 1) := by decide +kernel
theorem dX4_isUnique_1 : decode cX4_isUnique 1 = .ok (.istore_n 1, 1) := by decide +kernel
theorem dX4_isUnique_2 : decode cX4_isUnique 2 = .ok (.iload_n 1, 1) := by decide +kernel
theorem dX4_isUnique_3 : decode cX4_isUnique 3 = .ok (.aload_n 0, 1) := by decide +kernel
theorem dX4_isUnique_4 : decode cX4_isUnique 4 = .ok (.getfield 39, 3) := by decide +kernel
theorem dX4_isUnique_7 : decode cX4_isUnique 7 = .ok (.if_icmp .ge 84, 3) := by decide +kernel
theorem dX4_isUnique_10 : decode cX4_isUnique 10 = .ok (.iconst 0, 1) := by decide +kernel
theorem dX4_isUnique_11 : decode cX4_isUnique 11 = .ok (.istore_n 2, 1) := by decide +kernel
theorem dX4_isUnique_12 : decode cX4_isUnique 12 = .ok (.iload_n 2, 1) := by decide +kernel
theorem dX4_isUnique_13 : decode cX4_isUnique 13 = .ok (.iload_n 1, 1) := by decide +kernel
theorem dX4_isUnique_14 : decode cX4_isUnique 14 = .ok (.if_icmp .ge 71, 3) := by decide +kernel
theorem dX4_isUnique_17 : decode cX4_isUnique 17 = .ok (.aload_n 0, 1) := by decide +kernel
theorem dX4_isUnique_18 : decode cX4_isUnique 18 = .ok (.iload_n 2, 1) := by decide +kernel
theorem dX4_isUnique_19 : decode cX4_isUnique 19 = .ok (.aload_n 0, 1) := by decide +kernel
theorem dX4_isUnique_20 : decode cX4_isUnique 20 = .ok (.getfield 9, 3) := by decide +kernel
theorem dX4_isUnique_23 : decode cX4_isUnique 23 = .ok (.iload_n 1, 1) := by decide +kernel
theorem dX4_isUnique_24 : decode cX4_isUnique 24 = .ok (.iaload, 1) := by decide +kernel
theorem dX4_isUnique_25 : decode cX4_isUnique 25 = .ok (.aload_n 0, 1) := by decide +kernel
theorem dX4_isUnique_26 : decode cX4_isUnique 26 = .ok (.getfield 15, 3) := by decide +kernel
theorem dX4_isUnique_29 : decode cX4_isUnique 29 = .ok (.iload_n 1, 1) := by decide +kernel
theorem dX4_isUnique_30 : decode cX4_isUnique 30 = .ok (.iaload, 1) := by decide +kernel
theorem dX4_isUnique_31 : decode cX4_isUnique 31 = .ok (.invokevirtual 56, 3) := by decide +kernel
theorem dX4_isUnique_34 : decode cX4_isUnique 34 = .ok (.ifCond .eq 45, 3) := by decide +kernel
theorem dX4_isUnique_37 : decode cX4_isUnique 37 = .ok (.aload_n 0, 1) := by decide +kernel
theorem dX4_isUnique_38 : decode cX4_isUnique 38 = .ok (.iload_n 2, 1) := by decide +kernel
theorem dX4_isUnique_39 : decode cX4_isUnique 39 = .ok (.aload_n 0, 1) := by decide +kernel
theorem dX4_isUnique_40 : decode cX4_isUnique 40 = .ok (.getfield 27, 3) := by decide +kernel
theorem dX4_isUnique_43 : decode cX4_isUnique 43 = .ok (.iload_n 1, 1) := by decide +kernel
theorem dX4_isUnique_44 : decode cX4_isUnique 44 = .ok (.iaload, 1) := by decide +kernel
theorem dX4_isUnique_45 : decode cX4_isUnique 45 = .ok (.aload_n 0, 1) := by decide +kernel
theorem dX4_isUnique_46 : decode cX4_isUnique 46 = .ok (.getfield 30, 3) := by decide +kernel
theorem dX4_isUnique_49 : decode cX4_isUnique 49 = .ok (.iload_n 1, 1) := by decide +kernel
theorem dX4_isUnique_50 : decode cX4_isUnique 50 = .ok (.iaload, 1) := by decide +kernel
theorem dX4_isUnique_51 : decode cX4_isUnique 51 = .ok (.invokevirtual 59, 3) := by decide +kernel
theorem dX4_isUnique_54 : decode cX4_isUnique 54 = .ok (.ifCond .eq 25, 3) := by decide +kernel
theorem dX4_isUnique_57 : decode cX4_isUnique 57 = .ok (.aload_n 0, 1) := by decide +kernel
theorem dX4_isUnique_58 : decode cX4_isUnique 58 = .ok (.iload_n 2, 1) := by decide +kernel
theorem dX4_isUnique_59 : decode cX4_isUnique 59 = .ok (.aload_n 0, 1) := by decide +kernel
theorem dX4_isUnique_60 : decode cX4_isUnique 60 = .ok (.getfield 33, 3) := by decide +kernel
theorem dX4_isUnique_63 : decode cX4_isUnique 63 = .ok (.iload_n 1, 1) := by decide +kernel
theorem dX4_isUnique_64 : decode cX4_isUnique 64 = .ok (.iaload, 1) := by decide +kernel
theorem dX4_isUnique_65 : decode cX4_isUnique 65 = .ok (.aload_n 0, 1) := by decide +kernel
theorem dX4_isUnique_66 : decode cX4_isUnique 66 = .ok (.getfield 36, 3) := by decide +kernel
theorem dX4_isUnique_69 : decode cX4_isUnique 69 = .ok (.iload_n 1, 1) := by decide +kernel
theorem dX4_isUnique_70 : decode cX4_isUnique 70 = .ok (.iaload, 1) := by decide +kernel
theorem dX4_isUnique_71 : decode cX4_isUnique 71 = .ok (.invokevirtual 62, 3) := by decide +kernel
theorem dX4_isUnique_74 : decode cX4_isUnique 74 = .ok (.ifCond .eq 5, 3) := by decide +kernel
theorem dX4_isUnique_77 : decode cX4_isUnique 77 = .ok (.iconst 0, 1) := by decide +kernel
theorem dX4_isUnique_78 : decode cX4_isUnique 78 = .ok (.ireturn, 1) := by decide +kernel
theorem dX4_isUnique_79 : decode cX4_isUnique 79 = .ok (.iinc 2 1, 3) := by decide +kernel
theorem dX4_isUnique_82 : decode cX4_isUnique 82 = .ok (.goto (-70), 3) := by decide +kernel
theorem dX4_isUnique_85 : decode cX4_isUnique 85 = .ok (.iinc 1 1, 3) := by decide +kernel
theorem dX4_isUnique_88 : decode cX4_isUnique 88 = .ok (.goto (-86), 3) := by decide +kernel
theorem dX4_isUnique_91 : decode cX4_isUnique 91 = .ok (.iconst 1, 1) := by decide +kernel
theorem dX4_isUnique_92 : decode cX4_isUnique 92 = .ok (.ireturn, 1) := by decide +kernel
theorem dX5_init_0 : decode cX5_init 0 = .ok (.aload_n 0, 1) := by decide +kernel
theorem dX5_init_1 : decode cX5_init 1 = .ok (.invokespecial 3, 3) := by decide +kernel
theorem dX5_init_4 : decode cX5_init 4 = .ok (.aload_n 0, 1) := by decide +kernel
theorem dX5_init_5 : decode cX5_init 5 = .ok (.bipush 8, 2) := by decide +kernel
theorem dX5_init_7 : decode cX5_init 7 = .ok (.newarray .int, 2) := by decide +kernel
theorem dX5_init_9 : decode cX5_init 9 = .ok (.putfield 9, 3) := by decide +kernel
theorem dX5_init_12 : decode cX5_init 12 = .ok (.aload_n 0, 1) := by decide +kernel
theorem dX5_init_13 : decode cX5_init 13 = .ok (.bipush 8, 2) := by decide +kernel
theorem dX5_init_15 : decode cX5_init 15 = .ok (.newarray .int, 2) := by decide +kernel
theorem dX5_init_17 : decode cX5_init 17 = .ok (.putfield 15, 3) := by decide +kernel
theorem dX5_init_20 : decode cX5_init 20 = .ok (.aload_n 0, 1) := by decide +kernel
theorem dX5_init_21 : decode cX5_init 21 = .ok (.bipush 8, 2) := by decide +kernel
theorem dX5_init_23 : decode cX5_init 23 = .ok (.newarray .int, 2) := by decide +kernel
theorem dX5_init_25 : decode cX5_init 25 = .ok (.putfield 18, 3) := by decide +kernel
theorem dX5_init_28 : decode cX5_init 28 = .ok (.aload_n 0, 1) := by decide +kernel
theorem dX5_init_29 : decode cX5_init 29 = .ok (.bipush 8, 2) := by decide +kernel
theorem dX5_init_31 : decode cX5_init 31 = .ok (.newarray .int, 2) := by decide +kernel
theorem dX5_init_33 : decode cX5_init 33 = .ok (.putfield 21, 3) := by decide +kernel
theorem dX5_init_36 : decode cX5_init 36 = .ok (.aload_n 0, 1) := by decide +kernel
theorem dX5_init_37 : decode cX5_init 37 = .ok (.bipush 8, 2) := by decide +kernel
theorem dX5_init_39 : decode cX5_init 39 = .ok (.newarray .boolean, 2) := by decide +kernel
theorem dX5_init_41 : decode cX5_init 41 = .ok (.putfield 24, 3) := by decide +kernel
theorem dX5_init_44 : decode cX5_init 44 = .ok (.aload_n 0, 1) := by decide +kernel
theorem dX5_init_45 : decode cX5_init 45 = .ok (.iconst 0, 1) := by decide +kernel
theorem dX5_init_46 : decode cX5_init 46 = .ok (.putfield 28, 3) := by decide +kernel
theorem dX5_init_49 : decode cX5_init 49 = .ok (.return_, 1) := by decide +kernel
theorem dX5_add_0 : decode cX5_add 0 = .ok (.aload_n 0, 1) := by decide +kernel
theorem dX5_add_1 : decode cX5_add 1 = .ok (.getfield 28, 3) := by decide +kernel
theorem dX5_add_4 : decode cX5_add 4 = .ok (.istore 5, 2) := by decide +kernel
theorem dX5_add_6 : decode cX5_add 6 = .ok (.aload_n 0, 1) := by decide +kernel
theorem dX5_add_7 : decode cX5_add 7 = .ok (.getfield 9, 3) := by decide +kernel
theorem dX5_add_10 : decode cX5_add 10 = .ok (.iload 5, 2) := by decide +kernel
theorem dX5_add_12 : decode cX5_add 12 = .ok (.iload_n 1, 1) := by decide +kernel
theorem dX5_add_13 : decode cX5_add 13 = .ok (.iastore, 1) := by decide +kernel
theorem dX5_add_14 : decode cX5_add 14 = .ok (.aload_n 0, 1) := by decide +kernel
theorem dX5_add_15 : decode cX5_add 15 = .ok (.getfield 15, 3) := by decide +kernel
theorem dX5_add_18 : decode cX5_add 18 = .ok (.iload 5, 2) := by decide +kernel
theorem dX5_add_20 : decode cX5_add 20 = .ok (.iload_n 2, 1) := by decide +kernel
theorem dX5_add_21 : decode cX5_add 21 = .ok (.iastore, 1) := by decide +kernel
theorem dX5_add_22 : decode cX5_add 22 = .ok (.aload_n 0, 1) := by decide +kernel
theorem dX5_add_23 : decode cX5_add 23 = .ok (.getfield 18, 3) := by decide +kernel
theorem dX5_add_26 : decode cX5_add 26 = .ok (.iload 5, 2) := by decide +kernel
theorem dX5_add_28 : decode cX5_add 28 = .ok (.iload_n 3, 1) := by decide +kernel
theorem dX5_add_29 : decode cX5_add 29 = .ok (.iastore, 1) := by decide +kernel
theorem dX5_add_30 : decode cX5_add 30 = .ok (.aload_n 0, 1) := by decide +kernel
theorem dX5_add_31 : decode cX5_add 31 = .ok (.getfield 21, 3) := by decide +kernel
theorem dX5_add_34 : decode cX5_add 34 = .ok (.iload 5, 2) := by decide +kernel
theorem dX5_add_36 : decode cX5_add 36 = .ok (.iload 4, 2) := by decide +kernel
theorem dX5_add_38 : decode cX5_add 38 = .ok (.iastore, 1) := by decide +kernel
theorem dX5_add_39 : decode cX5_add 39 = .ok (.aload_n 0, 1) := by decide +kernel
theorem dX5_add_40 : decode cX5_add 40 = .ok (.getfield 24, 3) := by decide +kernel
theorem dX5_add_43 : decode cX5_add 43 = .ok (.iload 5, 2) := by decide +kernel
theorem dX5_add_45 : decode cX5_add 45 = .ok (.iconst 0, 1) := by decide +kernel
theorem dX5_add_46 : decode cX5_add 46 = .ok (.bastore, 1) := by decide +kernel
theorem dX5_add_47 : decode cX5_add 47 = .ok (.aload_n 0, 1) := by decide +kernel
theorem dX5_add_48 : decode cX5_add 48 = .ok (.iload 5, 2) := by decide +kernel
theorem dX5_add_50 : decode cX5_add 50 = .ok (.iconst 1, 1) := by decide +kernel
theorem dX5_add_51 : decode cX5_add 51 = .ok (.iadd, 1) := by decide +kernel
theorem dX5_add_52 : decode cX5_add 52 = .ok (.putfield 28, 3) := by decide +kernel
theorem dX5_add_55 : decode cX5_add 55 = .ok (.iload 5, 2) := by decide +kernel
theorem dX5_add_57 : decode cX5_add 57 = .ok (.ireturn, 1) := by decide +kernel
theorem dX5_countOpen_0 : decode cX5_countOpen 0 = .ok (.iconst 0, 1) := by decide +kernel
theorem dX5_countOpen_1 : decode cX5_countOpen 1 = .ok (.istore_n 1, 1) := by decide +kernel
theorem dX5_countOpen_2 : decode cX5_countOpen 2 = .ok (.iconst 0, 1) := by decide +kernel
theorem dX5_countOpen_3 : decode cX5_countOpen 3 = .ok (.istore_n 2, 1) := by decide +kernel
theorem dX5_countOpen_4 : decode cX5_countOpen 4 = .ok (.iload_n 2, 1) := by decide +kernel
theorem dX5_countOpen_5 : decode cX5_countOpen 5 = .ok (.aload_n 0, 1) := by decide +kernel
theorem dX5_countOpen_6 : decode cX5_countOpen 6 = .ok (.getfield 28, 3) := by decide +kernel
theorem dX5_countOpen_9 : decode cX5_countOpen 9 = .ok (.if_icmp .ge 21, 3) := by decide +kernel
theorem dX5_countOpen_12 : decode cX5_countOpen 12 = .ok (.aload_n 0, 1) := by decide +kernel
theorem dX5_countOpen_13 : decode cX5_countOpen 13 = .ok (.getfield 24, 3) := by decide +kernel
theorem dX5_countOpen_16 : decode cX5_countOpen 16 = .ok (.iload_n 2, 1) := by decide +kernel
theorem dX5_countOpen_17 : decode cX5_countOpen 17 = .ok (.baload, 1) := by decide +kernel
theorem dX5_countOpen_18 : decode cX5_countOpen 18 = .ok (.ifCond .ne 6, 3) := by decide +kernel
theorem dX5_countOpen_21 : decode cX5_countOpen 21 = .ok (.iinc 1 1, 3) := by decide +kernel
theorem dX5_countOpen_24 : decode cX5_countOpen 24 = .ok (.iinc 2 1, 3) := by decide +kernel
theorem dX5_countOpen_27 : decode cX5_countOpen 27 = .ok (.goto (-23), 3) := by decide +kernel
theorem dX5_countOpen_30 : decode cX5_countOpen 30 = .ok (.iload_n 1, 1) := by decide +kernel
theorem dX5_countOpen_31 : decode cX5_countOpen 31 = .ok (.ireturn, 1) := by decide +kernel
theorem dX5_isSound_0 : decode cX5_isSound 0 = .ok (.aload_n 0, 1) := by decide +kernel
theorem dX5_isSound_1 : decode cX5_isSound 1 = .ok (.getfield 28, 3) := by decide +kernel
theorem dX5_isSound_4 : decode cX5_isSound 4 = .ok (.iconst 0, 1) := by decide +kernel
theorem dX5_isSound_5 : decode cX5_isSound 5 = .ok (.bipush 8, 2) := by decide +kernel
theorem dX5_isSound_7 : decode cX5_isSound 7 = .ok (.invokestatic 32, 3) := by decide +kernel
theorem dX5_isSound_10 : decode cX5_isSound 10 = .ok (.ifCond .ne 5, 3) := by decide +kernel
theorem dX5_isSound_13 : decode cX5_isSound 13 = .ok (.iconst 0, 1) := by decide +kernel
theorem dX5_isSound_14 : decode cX5_isSound 14 = .ok (.ireturn, 1) := by decide +kernel
theorem dX5_isSound_15 : decode cX5_isSound 15 = .ok (.iconst 0, 1) := by decide +kernel
theorem dX5_isSound_16 : decode cX5_isSound 16 = .ok (.istore_n 2, 1) := by decide +kernel
theorem dX5_isSound_17 : decode cX5_isSound 17 = .ok (.iload_n 2, 1) := by decide +kernel
theorem dX5_isSound_18 : decode cX5_isSound 18 = .ok (.aload_n 0, 1) := by decide +kernel
theorem dX5_isSound_19 : decode cX5_isSound 19 = .ok (.getfield 28, 3) := by decide +kernel
theorem dX5_isSound_22 : decode cX5_isSound 22 = .ok (.if_icmp .ge 71, 3) := by decide +kernel
theorem dX5_isSound_25 : decode cX5_isSound 25 = .ok (.aload_n 0, 1) := by decide +kernel
theorem dX5_isSound_26 : decode cX5_isSound 26 = .ok (.getfield 9, 3) := by decide +kernel
theorem dX5_isSound_29 : decode cX5_isSound 29 = .ok (.iload_n 2, 1) := by decide +kernel
theorem dX5_isSound_30 : decode cX5_isSound 30 = .ok (.iaload, 1) := by decide +kernel
theorem dX5_isSound_31 : decode cX5_isSound 31 = .ok (.iconst 0, 1) := by decide +kernel
theorem dX5_isSound_32 : decode cX5_isSound 32 = .ok (.iload_n 1, 1) := by decide +kernel
theorem dX5_isSound_33 : decode cX5_isSound 33 = .ok (.iconst 1, 1) := by decide +kernel
theorem dX5_isSound_34 : decode cX5_isSound 34 = .ok (.isub, 1) := by decide +kernel
theorem dX5_isSound_35 : decode cX5_isSound 35 = .ok (.invokestatic 32, 3) := by decide +kernel
theorem dX5_isSound_38 : decode cX5_isSound 38 = .ok (.ifCond .eq 47, 3) := by decide +kernel
theorem dX5_isSound_41 : decode cX5_isSound 41 = .ok (.aload_n 0, 1) := by decide +kernel
theorem dX5_isSound_42 : decode cX5_isSound 42 = .ok (.getfield 15, 3) := by decide +kernel
theorem dX5_isSound_45 : decode cX5_isSound 45 = .ok (.iload_n 2, 1) := by decide +kernel
theorem dX5_isSound_46 : decode cX5_isSound 46 = .ok (.iaload, 1) := by decide +kernel
theorem dX5_isSound_47 : decode cX5_isSound 47 = .ok (.iconst 1, 1) := by decide +kernel
theorem dX5_isSound_48 : decode cX5_isSound 48 = .ok (.sipush 999, 3) := by decide +kernel
theorem dX5_isSound_51 : decode cX5_isSound 51 = .ok (.invokestatic 32, 3) := by decide +kernel
theorem dX5_isSound_54 : decode cX5_isSound 54 = .ok (.ifCond .eq 31, 3) := by decide +kernel
theorem dX5_isSound_57 : decode cX5_isSound 57 = .ok (.aload_n 0, 1) := by decide +kernel
theorem dX5_isSound_58 : decode cX5_isSound 58 = .ok (.getfield 18, 3) := by decide +kernel
theorem dX5_isSound_61 : decode cX5_isSound 61 = .ok (.iload_n 2, 1) := by decide +kernel
theorem dX5_isSound_62 : decode cX5_isSound 62 = .ok (.iaload, 1) := by decide +kernel
theorem dX5_isSound_63 : decode cX5_isSound 63 = .ok (.iconst 1, 1) := by decide +kernel
theorem dX5_isSound_64 : decode cX5_isSound 64 = .ok (.sipush 999, 3) := by decide +kernel
theorem dX5_isSound_67 : decode cX5_isSound 67 = .ok (.invokestatic 32, 3) := by decide +kernel
theorem dX5_isSound_70 : decode cX5_isSound 70 = .ok (.ifCond .eq 15, 3) := by decide +kernel
theorem dX5_isSound_73 : decode cX5_isSound 73 = .ok (.aload_n 0, 1) := by decide +kernel
theorem dX5_isSound_74 : decode cX5_isSound 74 = .ok (.getfield 21, 3) := by decide +kernel
theorem dX5_isSound_77 : decode cX5_isSound 77 = .ok (.iload_n 2, 1) := by decide +kernel
theorem dX5_isSound_78 : decode cX5_isSound 78 = .ok (.iaload, 1) := by decide +kernel
theorem dX5_isSound_79 : decode cX5_isSound 79 = .ok (.invokestatic 36, 3) := by decide +kernel
theorem dX5_isSound_82 : decode cX5_isSound 82 = .ok (.ifCond .ne 5, 3) := by decide +kernel
theorem dX5_isSound_85 : decode cX5_isSound 85 = .ok (.iconst 0, 1) := by decide +kernel
theorem dX5_isSound_86 : decode cX5_isSound 86 = .ok (.ireturn, 1) := by decide +kernel
theorem dX5_isSound_87 : decode cX5_isSound 87 = .ok (.iinc 2 1, 3) := by decide +kernel
theorem dX5_isSound_90 : decode cX5_isSound 90 = .ok (.goto (-73), 3) := by decide +kernel
theorem dX5_isSound_93 : decode cX5_isSound 93 = .ok (.iconst 1, 1) := by decide +kernel
theorem dX5_isSound_94 : decode cX5_isSound 94 = .ok (.ireturn, 1) := by decide +kernel
theorem dX6_init_0 : decode cX6_init 0 = .ok (.aload_n 0, 1) := by decide +kernel
theorem dX6_init_1 : decode cX6_init 1 = .ok (.invokespecial 3, 3) := by decide +kernel
theorem dX6_init_4 : decode cX6_init 4 = .ok (.aload_n 0, 1) := by decide +kernel
theorem dX6_init_5 : decode cX6_init 5 = .ok (.bipush 64, 2) := by decide +kernel
theorem dX6_init_7 : decode cX6_init 7 = .ok (.newarray .char, 2) := by decide +kernel
theorem dX6_init_9 : decode cX6_init 9 = .ok (.putfield 9, 3) := by decide +kernel
theorem dX6_init_12 : decode cX6_init 12 = .ok (.aload_n 0, 1) := by decide +kernel
theorem dX6_init_13 : decode cX6_init 13 = .ok (.iconst 0, 1) := by decide +kernel
theorem dX6_init_14 : decode cX6_init 14 = .ok (.putfield 15, 3) := by decide +kernel
theorem dX6_init_17 : decode cX6_init 17 = .ok (.return_, 1) := by decide +kernel
theorem dX6_clear_0 : decode cX6_clear 0 = .ok (.aload_n 0, 1) := by decide +kernel
theorem dX6_clear_1 : decode cX6_clear 1 = .ok (.iconst 0, 1) := by decide +kernel
theorem dX6_clear_2 : decode cX6_clear 2 = .ok (.putfield 15, 3) := by decide +kernel
theorem dX6_clear_5 : decode cX6_clear 5 = .ok (.return_, 1) := by decide +kernel
theorem dX6_put_0 : decode cX6_put 0 = .ok (.aload_n 0, 1) := by decide +kernel
theorem dX6_put_1 : decode cX6_put 1 = .ok (.iconst 1, 1) := by decide +kernel
theorem dX6_put_2 : decode cX6_put 2 = .ok (.invokevirtual 19, 3) := by decide +kernel
theorem dX6_put_5 : decode cX6_put 5 = .ok (.aload_n 0, 1) := by decide +kernel
theorem dX6_put_6 : decode cX6_put 6 = .ok (.getfield 9, 3) := by decide +kernel
theorem dX6_put_9 : decode cX6_put 9 = .ok (.aload_n 0, 1) := by decide +kernel
theorem dX6_put_10 : decode cX6_put 10 = .ok (.getfield 15, 3) := by decide +kernel
theorem dX6_put_13 : decode cX6_put 13 = .ok (.iload_n 1, 1) := by decide +kernel
theorem dX6_put_14 : decode cX6_put 14 = .ok (.castore, 1) := by decide +kernel
theorem dX6_put_15 : decode cX6_put 15 = .ok (.aload_n 0, 1) := by decide +kernel
theorem dX6_put_16 : decode cX6_put 16 = .ok (.dup, 1) := by decide +kernel
theorem dX6_put_17 : decode cX6_put 17 = .ok (.getfield 15, 3) := by decide +kernel
theorem dX6_put_20 : decode cX6_put 20 = .ok (.iconst 1, 1) := by decide +kernel
theorem dX6_put_21 : decode cX6_put 21 = .ok (.iadd, 1) := by decide +kernel
theorem dX6_put_22 : decode cX6_put 22 = .ok (.putfield 15, 3) := by decide +kernel
theorem dX6_put_25 : decode cX6_put 25 = .ok (.return_, 1) := by decide +kernel
theorem dX6_putNumber_0 : decode cX6_putNumber 0 = .ok (.lload_n 1, 1) := by decide +kernel
theorem dX6_putNumber_1 : decode cX6_putNumber 1 = .ok (.invokestatic 23, 3) := by decide +kernel
theorem dX6_putNumber_4 : decode cX6_putNumber 4 = .ok (.istore_n 3, 1) := by decide +kernel
theorem dX6_putNumber_5 : decode cX6_putNumber 5 = .ok (.aload_n 0, 1) := by decide +kernel
theorem dX6_putNumber_6 : decode cX6_putNumber 6 = .ok (.iload_n 3, 1) := by decide +kernel
theorem dX6_putNumber_7 : decode cX6_putNumber 7 = .ok (.invokevirtual 19, 3) := by decide +kernel
theorem dX6_putNumber_10 : decode cX6_putNumber 10 = .ok (.lload_n 1, 1) := by decide +kernel
theorem dX6_putNumber_11 : decode cX6_putNumber 11 = .ok (.lstore 4, 2) := by decide +kernel
theorem dX6_putNumber_13 : decode cX6_putNumber 13 = .ok (.aload_n 0, 1) := by decide +kernel
theorem dX6_putNumber_14 : decode cX6_putNumber 14 = .ok (.getfield 15, 3) := by decide +kernel
theorem dX6_putNumber_17 : decode cX6_putNumber 17 = .ok (.iload_n 3, 1) := by decide +kernel
theorem dX6_putNumber_18 : decode cX6_putNumber 18 = .ok (.iadd, 1) := by decide +kernel
theorem dX6_putNumber_19 : decode cX6_putNumber 19 = .ok (.iconst 1, 1) := by decide +kernel
theorem dX6_putNumber_20 : decode cX6_putNumber 20 = .ok (.isub, 1) := by decide +kernel
theorem dX6_putNumber_21 : decode cX6_putNumber 21 = .ok (.istore 6, 2) := by decide +kernel
theorem dX6_putNumber_23 : decode cX6_putNumber 23 = .ok (.iload 6, 2) := by decide +kernel
theorem dX6_putNumber_25 : decode cX6_putNumber 25 = .ok (.aload_n 0, 1) := by decide +kernel
theorem dX6_putNumber_26 : decode cX6_putNumber 26 = .ok (.getfield 15, 3) := by decide +kernel
theorem dX6_putNumber_29 : decode cX6_putNumber 29 = .ok (.if_icmp .lt 36, 3) := by decide +kernel
theorem dX6_putNumber_32 : decode cX6_putNumber 32 = .ok (.aload_n 0, 1) := by decide +kernel
theorem dX6_putNumber_33 : decode cX6_putNumber 33 = .ok (.getfield 9, 3) := by decide +kernel
theorem dX6_putNumber_36 : decode cX6_putNumber 36 = .ok (.iload 6, 2) := by decide +kernel
theorem dX6_putNumber_38 : decode cX6_putNumber 38 = .ok (.ldc2_w 27, 3) := by decide +kernel
theorem dX6_putNumber_41 : decode cX6_putNumber 41 = .ok (.lload 4, 2) := by decide +kernel
theorem dX6_putNumber_43 : decode cX6_putNumber 43 = .ok (.ldc2_w 29, 3) := by decide +kernel
theorem dX6_putNumber_46 : decode cX6_putNumber 46 = .ok (.lrem, 1) := by decide +kernel
theorem dX6_putNumber_47 : decode cX6_putNumber 47 = .ok (.ladd, 1) := by decide +kernel
theorem dX6_putNumber_48 : decode cX6_putNumber 48 = .ok (.l2i, 1) := by decide +kernel
theorem dX6_putNumber_49 : decode cX6_putNumber 49 = .ok (.i2c, 1) := by decide +kernel
theorem dX6_putNumber_50 : decode cX6_putNumber 50 = .ok (.castore, 1) := by decide +kernel
theorem dX6_putNumber_51 : decode cX6_putNumber 51 = .ok (.lload 4, 2) := by decide +kernel
theorem dX6_putNumber_53 : decode cX6_putNumber 53 = .ok (.ldc2_w 29, 3) := by decide +kernel
theorem dX6_putNumber_56 : decode cX6_putNumber 56 = .ok (.ldiv, 1) := by decide +kernel
theorem dX6_putNumber_57 : decode cX6_putNumber 57 = .ok (.lstore 4, 2) := by decide +kernel
theorem dX6_putNumber_59 : decode cX6_putNumber 59 = .ok (.iinc 6 (-1), 3) := by decide +kernel
theorem dX6_putNumber_62 : decode cX6_putNumber 62 = .ok (.goto (-39), 3) := by decide +kernel
theorem dX6_putNumber_65 : decode cX6_putNumber 65 = .ok (.aload_n 0, 1) := by decide +kernel
theorem dX6_putNumber_66 : decode cX6_putNumber 66 = .ok (.dup, 1) := by decide +kernel
theorem dX6_putNumber_67 : decode cX6_putNumber 67 = .ok (.getfield 15, 3) := by decide +kernel
theorem dX6_putNumber_70 : decode cX6_putNumber 70 = .ok (.iload_n 3, 1) := by decide +kernel
theorem dX6_putNumber_71 : decode cX6_putNumber 71 = .ok (.iadd, 1) := by decide +kernel
theorem dX6_putNumber_72 : decode cX6_putNumber 72 = .ok (.putfield 15, 3) := by decide +kernel
theorem dX6_putNumber_75 : decode cX6_putNumber 75 = .ok (.return_, 1) := by decide +kernel
theorem dX6_digitsOf_0 : decode cX6_digitsOf 0 = .ok (.iconst 1, 1) := by decide +kernel
theorem dX6_digitsOf_1 : decode cX6_digitsOf 1 = .ok (.istore_n 2, 1) := by decide +kernel
theorem dX6_digitsOf_2 : decode cX6_digitsOf 2 = .ok (.lload_n 0, 1) := by decide +kernel
theorem dX6_digitsOf_3 : decode cX6_digitsOf 3 = .ok (.ldc2_w 29, 3) := by decide +kernel
theorem dX6_digitsOf_6 : decode cX6_digitsOf 6 = .ok (.ldiv, 1) := by decide +kernel
theorem dX6_digitsOf_7 : decode cX6_digitsOf 7 = .ok (.lstore_n 3, 1) := by decide +kernel
theorem dX6_digitsOf_8 : decode cX6_digitsOf 8 = .ok (.lload_n 3, 1) := by decide +kernel
theorem dX6_digitsOf_9 : decode cX6_digitsOf 9 = .ok (.lconst 0, 1) := by decide +kernel
theorem dX6_digitsOf_10 : decode cX6_digitsOf 10 = .ok (.lcmp, 1) := by decide +kernel
theorem dX6_digitsOf_11 : decode cX6_digitsOf 11 = .ok (.ifCond .le 21, 3) := by decide +kernel
theorem dX6_digitsOf_14 : decode cX6_digitsOf 14 = .ok (.iload_n 2, 1) := by decide +kernel
theorem dX6_digitsOf_15 : decode cX6_digitsOf 15 = .ok (.bipush 19, 2) := by decide +kernel
theorem dX6_digitsOf_17 : decode cX6_digitsOf 17 = .ok (.if_icmp .ge 15, 3) := by decide +kernel
theorem dX6_digitsOf_20 : decode cX6_digitsOf 20 = .ok (.iinc 2 1, 3) := by decide +kernel
theorem dX6_digitsOf_23 : decode cX6_digitsOf 23 = .ok (.lload_n 3, 1) := by decide +kernel
theorem dX6_digitsOf_24 : decode cX6_digitsOf 24 = .ok (.ldc2_w 29, 3) := by decide +kernel
theorem dX6_digitsOf_27 : decode cX6_digitsOf 27 = .ok (.ldiv, 1) := by decide +kernel
theorem dX6_digitsOf_28 : decode cX6_digitsOf 28 = .ok (.lstore_n 3, 1) := by decide +kernel
theorem dX6_digitsOf_29 : decode cX6_digitsOf 29 = .ok (.goto (-21), 3) := by decide +kernel
theorem dX6_digitsOf_32 : decode cX6_digitsOf 32 = .ok (.iload_n 2, 1) := by decide +kernel
theorem dX6_digitsOf_33 : decode cX6_digitsOf 33 = .ok (.ireturn, 1) := by decide +kernel
theorem dX6_makeRoom_0 : decode cX6_makeRoom 0 = .ok (.aload_n 0, 1) := by decide +kernel
theorem dX6_makeRoom_1 : decode cX6_makeRoom 1 = .ok (.getfield 15, 3) := by decide +kernel
theorem dX6_makeRoom_4 : decode cX6_makeRoom 4 = .ok (.iload_n 1, 1) := by decide +kernel
theorem dX6_makeRoom_5 : decode cX6_makeRoom 5 = .ok (.iadd, 1) := by decide +kernel
theorem dX6_makeRoom_6 : decode cX6_makeRoom 6 = .ok (.aload_n 0, 1) := by decide +kernel
theorem dX6_makeRoom_7 : decode cX6_makeRoom 7 = .ok (.getfield 9, 3) := by decide +kernel
theorem dX6_makeRoom_10 : decode cX6_makeRoom 10 = .ok (.arraylength, 1) := by decide +kernel
theorem dX6_makeRoom_11 : decode cX6_makeRoom 11 = .ok (.if_icmp .le 33, 3) := by decide +kernel
theorem dX6_makeRoom_14 : decode cX6_makeRoom 14 = .ok (.iconst 2, 1) := by decide +kernel
theorem dX6_makeRoom_15 : decode cX6_makeRoom 15 = .ok (.aload_n 0, 1) := by decide +kernel
theorem dX6_makeRoom_16 : decode cX6_makeRoom 16 = .ok (.getfield 15, 3) := by decide +kernel
theorem dX6_makeRoom_19 : decode cX6_makeRoom 19 = .ok (.iload_n 1, 1) := by decide +kernel
theorem dX6_makeRoom_20 : decode cX6_makeRoom 20 = .ok (.iadd, 1) := by decide +kernel
theorem dX6_makeRoom_21 : decode cX6_makeRoom 21 = .ok (.imul, 1) := by decide +kernel
theorem dX6_makeRoom_22 : decode cX6_makeRoom 22 = .ok (.newarray .char, 2) := by decide +kernel
theorem dX6_makeRoom_24 : decode cX6_makeRoom 24 = .ok (.astore_n 2, 1) := by decide +kernel
theorem dX6_makeRoom_25 : decode cX6_makeRoom 25 = .ok (.aload_n 0, 1) := by decide +kernel
theorem dX6_makeRoom_26 : decode cX6_makeRoom 26 = .ok (.getfield 9, 3) := by decide +kernel
theorem dX6_makeRoom_29 : decode cX6_makeRoom 29 = .ok (.iconst 0, 1) := by decide +kernel
theorem dX6_makeRoom_30 : decode cX6_makeRoom 30 = .ok (.aload_n 2, 1) := by decide +kernel
theorem dX6_makeRoom_31 : decode cX6_makeRoom 31 = .ok (.iconst 0, 1) := by decide +kernel
theorem dX6_makeRoom_32 : decode cX6_makeRoom 32 = .ok (.aload_n 0, 1) := by decide +kernel
theorem dX6_makeRoom_33 : decode cX6_makeRoom 33 = .ok (.getfield 15, 3) := by decide +kernel
theorem dX6_makeRoom_36 : decode cX6_makeRoom 36 = .ok (.invokestatic 31, 3) := by decide +kernel
theorem dX6_makeRoom_39 : decode cX6_makeRoom 39 = .ok (.aload_n 0, 1) := by decide +kernel
theorem dX6_makeRoom_40 : decode cX6_makeRoom 40 = .ok (.aload_n 2, 1) := by decide +kernel
theorem dX6_makeRoom_41 : decode cX6_makeRoom 41 = .ok (.putfield 9, 3) := by decide +kernel
theorem dX6_makeRoom_44 : decode cX6_makeRoom 44 = .ok (.return_, 1) := by decide +kernel
theorem dX7_init_0 : decode cX7_init 0 = .ok (.aload_n 0, 1) := by decide +kernel
theorem dX7_init_1 : decode cX7_init 1 = .ok (.invokespecial 3, 3) := by decide +kernel
theorem dX7_init_4 : decode cX7_init 4 = .ok (.aload_n 0, 1) := by decide +kernel
theorem dX7_init_5 : decode cX7_init 5 = .ok (.bipush 16, 2) := by decide +kernel
theorem dX7_init_7 : decode cX7_init 7 = .ok (.newarray .char, 2) := by decide +kernel
theorem dX7_init_9 : decode cX7_init 9 = .ok (.putfield 9, 3) := by decide +kernel
theorem dX7_init_12 : decode cX7_init 12 = .ok (.aload_n 0, 1) := by decide +kernel
theorem dX7_init_13 : decode cX7_init 13 = .ok (.bipush 16, 2) := by decide +kernel
theorem dX7_init_15 : decode cX7_init 15 = .ok (.newarray .int, 2) := by decide +kernel
theorem dX7_init_17 : decode cX7_init 17 = .ok (.putfield 15, 3) := by decide +kernel
theorem dX7_init_20 : decode cX7_init 20 = .ok (.aload_n 0, 1) := by decide +kernel
theorem dX7_init_21 : decode cX7_init 21 = .ok (.bipush 16, 2) := by decide +kernel
theorem dX7_init_23 : decode cX7_init 23 = .ok (.newarray .int, 2) := by decide +kernel
theorem dX7_init_25 : decode cX7_init 25 = .ok (.putfield 19, 3) := by decide +kernel
theorem dX7_init_28 : decode cX7_init 28 = .ok (.aload_n 0, 1) := by decide +kernel
theorem dX7_init_29 : decode cX7_init 29 = .ok (.iconst 0, 1) := by decide +kernel
theorem dX7_init_30 : decode cX7_init 30 = .ok (.putfield 22, 3) := by decide +kernel
theorem dX7_init_33 : decode cX7_init 33 = .ok (.return_, 1) := by decide +kernel
theorem dX7_add_0 : decode cX7_add 0 = .ok (.aload_n 0, 1) := by decide +kernel
theorem dX7_add_1 : decode cX7_add 1 = .ok (.getfield 22, 3) := by decide +kernel
theorem dX7_add_4 : decode cX7_add 4 = .ok (.istore 4, 2) := by decide +kernel
theorem dX7_add_6 : decode cX7_add 6 = .ok (.aload_n 0, 1) := by decide +kernel
theorem dX7_add_7 : decode cX7_add 7 = .ok (.getfield 9, 3) := by decide +kernel
theorem dX7_add_10 : decode cX7_add 10 = .ok (.iload 4, 2) := by decide +kernel
theorem dX7_add_12 : decode cX7_add 12 = .ok (.iload_n 1, 1) := by decide +kernel
theorem dX7_add_13 : decode cX7_add 13 = .ok (.castore, 1) := by decide +kernel
theorem dX7_add_14 : decode cX7_add 14 = .ok (.aload_n 0, 1) := by decide +kernel
theorem dX7_add_15 : decode cX7_add 15 = .ok (.getfield 15, 3) := by decide +kernel
theorem dX7_add_18 : decode cX7_add 18 = .ok (.iload 4, 2) := by decide +kernel
theorem dX7_add_20 : decode cX7_add 20 = .ok (.iload_n 2, 1) := by decide +kernel
theorem dX7_add_21 : decode cX7_add 21 = .ok (.iastore, 1) := by decide +kernel
theorem dX7_add_22 : decode cX7_add 22 = .ok (.aload_n 0, 1) := by decide +kernel
theorem dX7_add_23 : decode cX7_add 23 = .ok (.getfield 19, 3) := by decide +kernel
theorem dX7_add_26 : decode cX7_add 26 = .ok (.iload 4, 2) := by decide +kernel
theorem dX7_add_28 : decode cX7_add 28 = .ok (.iload_n 3, 1) := by decide +kernel
theorem dX7_add_29 : decode cX7_add 29 = .ok (.iastore, 1) := by decide +kernel
theorem dX7_add_30 : decode cX7_add 30 = .ok (.aload_n 0, 1) := by decide +kernel
theorem dX7_add_31 : decode cX7_add 31 = .ok (.iload 4, 2) := by decide +kernel
theorem dX7_add_33 : decode cX7_add 33 = .ok (.iconst 1, 1) := by decide +kernel
theorem dX7_add_34 : decode cX7_add 34 = .ok (.iadd, 1) := by decide +kernel
theorem dX7_add_35 : decode cX7_add 35 = .ok (.putfield 22, 3) := by decide +kernel
theorem dX7_add_38 : decode cX7_add 38 = .ok (.iload 4, 2) := by decide +kernel
theorem dX7_add_40 : decode cX7_add 40 = .ok (.ireturn, 1) := by decide +kernel
theorem dX7_ownCost_0 : decode cX7_ownCost 0 = .ok (.aload_n 0, 1) := by decide +kernel
theorem dX7_ownCost_1 : decode cX7_ownCost 1 = .ok (.getfield 15, 3) := by decide +kernel
theorem dX7_ownCost_4 : decode cX7_ownCost 4 = .ok (.iload_n 1, 1) := by decide +kernel
theorem dX7_ownCost_5 : decode cX7_ownCost 5 = .ok (.iaload, 1) := by decide +kernel
theorem dX7_ownCost_6 : decode cX7_ownCost 6 = .ok (.i2f, 1) := by decide +kernel
theorem dX7_ownCost_7 : decode cX7_ownCost 7 = .ok (.ldc 26, 2) := by decide +kernel
theorem dX7_ownCost_9 : decode cX7_ownCost 9 = .ok (.fdiv, 1) := by decide +kernel
theorem dX7_ownCost_10 : decode cX7_ownCost 10 = .ok (.freturn, 1) := by decide +kernel
theorem dX7_ownWeight_0 : decode cX7_ownWeight 0 = .ok (.aload_n 0, 1) := by decide +kernel
theorem dX7_ownWeight_1 : decode cX7_ownWeight 1 = .ok (.getfield 19, 3) := by decide +kernel
theorem dX7_ownWeight_4 : decode cX7_ownWeight 4 = .ok (.iload_n 1, 1) := by decide +kernel
theorem dX7_ownWeight_5 : decode cX7_ownWeight 5 = .ok (.iaload, 1) := by decide +kernel
theorem dX7_ownWeight_6 : decode cX7_ownWeight 6 = .ok (.i2d, 1) := by decide +kernel
theorem dX7_ownWeight_7 : decode cX7_ownWeight 7 = .ok (.ldc2_w 27, 3) := by decide +kernel
theorem dX7_ownWeight_10 : decode cX7_ownWeight 10 = .ok (.ddiv, 1) := by decide +kernel
theorem dX7_ownWeight_11 : decode cX7_ownWeight 11 = .ok (.dreturn, 1) := by decide +kernel
theorem dX7_isSound_0 : decode cX7_isSound 0 = .ok (.aload_n 0, 1) := by decide +kernel
theorem dX7_isSound_1 : decode cX7_isSound 1 = .ok (.getfield 22, 3) := by decide +kernel
theorem dX7_isSound_4 : decode cX7_isSound 4 = .ok (.iconst 0, 1) := by decide +kernel
theorem dX7_isSound_5 : decode cX7_isSound 5 = .ok (.bipush 16, 2) := by decide +kernel
theorem dX7_isSound_7 : decode cX7_isSound 7 = .ok (.invokestatic 29, 3) := by decide +kernel
theorem dX7_isSound_10 : decode cX7_isSound 10 = .ok (.ifCond .ne 5, 3) := by decide +kernel
theorem dX7_isSound_13 : decode cX7_isSound 13 = .ok (.iconst 0, 1) := by decide +kernel
theorem dX7_isSound_14 : decode cX7_isSound 14 = .ok (.ireturn, 1) := by decide +kernel
theorem dX7_isSound_15 : decode cX7_isSound 15 = .ok (.iconst 0, 1) := by decide +kernel
theorem dX7_isSound_16 : decode cX7_isSound 16 = .ok (.istore_n 1, 1) := by decide +kernel
theorem dX7_isSound_17 : decode cX7_isSound 17 = .ok (.iload_n 1, 1) := by decide +kernel
theorem dX7_isSound_18 : decode cX7_isSound 18 = .ok (.aload_n 0, 1) := by decide +kernel
theorem dX7_isSound_19 : decode cX7_isSound 19 = .ok (.getfield 22, 3) := by decide +kernel
theorem dX7_isSound_22 : decode cX7_isSound 22 = .ok (.if_icmp .ge 53, 3) := by decide +kernel
theorem dX7_isSound_25 : decode cX7_isSound 25 = .ok (.aload_n 0, 1) := by decide +kernel
theorem dX7_isSound_26 : decode cX7_isSound 26 = .ok (.getfield 9, 3) := by decide +kernel
theorem dX7_isSound_29 : decode cX7_isSound 29 = .ok (.iload_n 1, 1) := by decide +kernel
theorem dX7_isSound_30 : decode cX7_isSound 30 = .ok (.caload, 1) := by decide +kernel
theorem dX7_isSound_31 : decode cX7_isSound 31 = .ok (.invokestatic 33, 3) := by decide +kernel
theorem dX7_isSound_34 : decode cX7_isSound 34 = .ok (.ifCond .eq 33, 3) := by decide +kernel
theorem dX7_isSound_37 : decode cX7_isSound 37 = .ok (.aload_n 0, 1) := by decide +kernel
theorem dX7_isSound_38 : decode cX7_isSound 38 = .ok (.getfield 15, 3) := by decide +kernel
theorem dX7_isSound_41 : decode cX7_isSound 41 = .ok (.iload_n 1, 1) := by decide +kernel
theorem dX7_isSound_42 : decode cX7_isSound 42 = .ok (.iaload, 1) := by decide +kernel
theorem dX7_isSound_43 : decode cX7_isSound 43 = .ok (.iconst 0, 1) := by decide +kernel
theorem dX7_isSound_44 : decode cX7_isSound 44 = .ok (.ldc 37, 2) := by decide +kernel
theorem dX7_isSound_46 : decode cX7_isSound 46 = .ok (.invokestatic 29, 3) := by decide +kernel
theorem dX7_isSound_49 : decode cX7_isSound 49 = .ok (.ifCond .eq 18, 3) := by decide +kernel
theorem dX7_isSound_52 : decode cX7_isSound 52 = .ok (.aload_n 0, 1) := by decide +kernel
theorem dX7_isSound_53 : decode cX7_isSound 53 = .ok (.getfield 19, 3) := by decide +kernel
theorem dX7_isSound_56 : decode cX7_isSound 56 = .ok (.iload_n 1, 1) := by decide +kernel
theorem dX7_isSound_57 : decode cX7_isSound 57 = .ok (.iaload, 1) := by decide +kernel
theorem dX7_isSound_58 : decode cX7_isSound 58 = .ok (.iconst 0, 1) := by decide +kernel
theorem dX7_isSound_59 : decode cX7_isSound 59 = .ok (.ldc 37, 2) := by decide +kernel
theorem dX7_isSound_61 : decode cX7_isSound 61 = .ok (.invokestatic 29, 3) := by decide +kernel
theorem dX7_isSound_64 : decode cX7_isSound 64 = .ok (.ifCond .ne 5, 3) := by decide +kernel
theorem dX7_isSound_67 : decode cX7_isSound 67 = .ok (.iconst 0, 1) := by decide +kernel
theorem dX7_isSound_68 : decode cX7_isSound 68 = .ok (.ireturn, 1) := by decide +kernel
theorem dX7_isSound_69 : decode cX7_isSound 69 = .ok (.iinc 1 1, 3) := by decide +kernel
theorem dX7_isSound_72 : decode cX7_isSound 72 = .ok (.goto (-55), 3) := by decide +kernel
theorem dX7_isSound_75 : decode cX7_isSound 75 = .ok (.iconst 1, 1) := by decide +kernel
theorem dX7_isSound_76 : decode cX7_isSound 76 = .ok (.ireturn, 1) := by decide +kernel
theorem dX8_init_0 : decode cX8_init 0 = .ok (.aload_n 0, 1) := by decide +kernel
theorem dX8_init_1 : decode cX8_init 1 = .ok (.invokespecial 3, 3) := by decide +kernel
theorem dX8_init_4 : decode cX8_init 4 = .ok (.aload_n 0, 1) := by decide +kernel
theorem dX8_init_5 : decode cX8_init 5 = .ok (.bipush 16, 2) := by decide +kernel
theorem dX8_init_7 : decode cX8_init 7 = .ok (.newarray .long, 2) := by decide +kernel
theorem dX8_init_9 : decode cX8_init 9 = .ok (.putfield 9, 3) := by decide +kernel
theorem dX8_init_12 : decode cX8_init 12 = .ok (.aload_n 0, 1) := by decide +kernel
theorem dX8_init_13 : decode cX8_init 13 = .ok (.bipush 16, 2) := by decide +kernel
theorem dX8_init_15 : decode cX8_init 15 = .ok (.newarray .long, 2) := by decide +kernel
theorem dX8_init_17 : decode cX8_init 17 = .ok (.putfield 15, 3) := by decide +kernel
theorem dX8_init_20 : decode cX8_init 20 = .ok (.return_, 1) := by decide +kernel
theorem dX8_count_0 : decode cX8_count 0 = .ok (.aload_n 0, 1) := by decide +kernel
theorem dX8_count_1 : decode cX8_count 1 = .ok (.getfield 9, 3) := by decide +kernel
theorem dX8_count_4 : decode cX8_count 4 = .ok (.invokestatic 18, 3) := by decide +kernel
theorem dX8_count_7 : decode cX8_count 7 = .ok (.aload_n 0, 1) := by decide +kernel
theorem dX8_count_8 : decode cX8_count 8 = .ok (.getfield 9, 3) := by decide +kernel
theorem dX8_count_11 : decode cX8_count 11 = .ok (.iload_n 2, 1) := by decide +kernel
theorem dX8_count_12 : decode cX8_count 12 = .ok (.lconst 1, 1) := by decide +kernel
theorem dX8_count_13 : decode cX8_count 13 = .ok (.lastore, 1) := by decide +kernel
theorem dX8_count_14 : decode cX8_count 14 = .ok (.aload_n 0, 1) := by decide +kernel
theorem dX8_count_15 : decode cX8_count 15 = .ok (.getfield 9, 3) := by decide +kernel
theorem dX8_count_18 : decode cX8_count 18 = .ok (.iload_n 3, 1) := by decide +kernel
theorem dX8_count_19 : decode cX8_count 19 = .ok (.laload, 1) := by decide +kernel
theorem dX8_count_20 : decode cX8_count 20 = .ok (.lstore 4, 2) := by decide +kernel
theorem dX8_count_22 : decode cX8_count 22 = .ok (.iconst 0, 1) := by decide +kernel
theorem dX8_count_23 : decode cX8_count 23 = .ok (.istore 6, 2) := by decide +kernel
theorem dX8_count_25 : decode cX8_count 25 = .ok (.iload 6, 2) := by decide +kernel
theorem dX8_count_27 : decode cX8_count 27 = .ok (.iconst 4, 1) := by decide +kernel
theorem dX8_count_28 : decode cX8_count 28 = .ok (.if_icmp .ge 25, 3) := by decide +kernel
theorem dX8_count_31 : decode cX8_count 31 = .ok (.aload_n 0, 1) := by decide +kernel
theorem dX8_count_32 : decode cX8_count 32 = .ok (.aload_n 1, 1) := by decide +kernel
theorem dX8_count_33 : decode cX8_count 33 = .ok (.invokevirtual 22, 3) := by decide +kernel
theorem dX8_count_36 : decode cX8_count 36 = .ok (.lload 4, 2) := by decide +kernel
theorem dX8_count_38 : decode cX8_count 38 = .ok (.aload_n 0, 1) := by decide +kernel
theorem dX8_count_39 : decode cX8_count 39 = .ok (.getfield 9, 3) := by decide +kernel
theorem dX8_count_42 : decode cX8_count 42 = .ok (.iload_n 3, 1) := by decide +kernel
theorem dX8_count_43 : decode cX8_count 43 = .ok (.laload, 1) := by decide +kernel
theorem dX8_count_44 : decode cX8_count 44 = .ok (.ladd, 1) := by decide +kernel
theorem dX8_count_45 : decode cX8_count 45 = .ok (.lstore 4, 2) := by decide +kernel
theorem dX8_count_47 : decode cX8_count 47 = .ok (.iinc 6 1, 3) := by decide +kernel
theorem dX8_count_50 : decode cX8_count 50 = .ok (.goto (-25), 3) := by decide +kernel
theorem dX8_count_53 : decode cX8_count 53 = .ok (.lload 4, 2) := by decide +kernel
theorem dX8_count_55 : decode cX8_count 55 = .ok (.lreturn, 1) := by decide +kernel
theorem dX8_goDown_0 : decode cX8_goDown 0 = .ok (.aload_n 0, 1) := by decide +kernel
theorem dX8_goDown_1 : decode cX8_goDown 1 = .ok (.getfield 15, 3) := by decide +kernel
theorem dX8_goDown_4 : decode cX8_goDown 4 = .ok (.invokestatic 18, 3) := by decide +kernel
theorem dX8_goDown_7 : decode cX8_goDown 7 = .ok (.iconst 0, 1) := by decide +kernel
theorem dX8_goDown_8 : decode cX8_goDown 8 = .ok (.istore_n 2, 1) := by decide +kernel
theorem dX8_goDown_9 : decode cX8_goDown 9 = .ok (.iload_n 2, 1) := by decide +kernel
theorem dX8_goDown_10 : decode cX8_goDown 10 = .ok (.aload_n 1, 1) := by decide +kernel
theorem dX8_goDown_11 : decode cX8_goDown 11 = .ok (.getfield 26, 3) := by decide +kernel
theorem dX8_goDown_14 : decode cX8_goDown 14 = .ok (.getfield 32, 3) := by decide +kernel
theorem dX8_goDown_17 : decode cX8_goDown 17 = .ok (.if_icmp .ge 26, 3) := by decide +kernel
theorem dX8_goDown_20 : decode cX8_goDown 20 = .ok (.aload_n 0, 1) := by decide +kernel
theorem dX8_goDown_21 : decode cX8_goDown 21 = .ok (.getfield 9, 3) := by decide +kernel
theorem dX8_goDown_24 : decode cX8_goDown 24 = .ok (.iload_n 2, 1) := by decide +kernel
theorem dX8_goDown_25 : decode cX8_goDown 25 = .ok (.laload, 1) := by decide +kernel
theorem dX8_goDown_26 : decode cX8_goDown 26 = .ok (.lconst 0, 1) := by decide +kernel
theorem dX8_goDown_27 : decode cX8_goDown 27 = .ok (.lcmp, 1) := by decide +kernel
theorem dX8_goDown_28 : decode cX8_goDown 28 = .ok (.ifCond .le 9, 3) := by decide +kernel
theorem dX8_goDown_31 : decode cX8_goDown 31 = .ok (.aload_n 0, 1) := by decide +kernel
theorem dX8_goDown_32 : decode cX8_goDown 32 = .ok (.aload_n 1, 1) := by decide +kernel
theorem dX8_goDown_33 : decode cX8_goDown 33 = .ok (.iload_n 2, 1) := by decide +kernel
theorem dX8_goDown_34 : decode cX8_goDown 34 = .ok (.invokevirtual 38, 3) := by decide +kernel
theorem dX8_goDown_37 : decode cX8_goDown 37 = .ok (.iinc 2 1, 3) := by decide +kernel
theorem dX8_goDown_40 : decode cX8_goDown 40 = .ok (.goto (-31), 3) := by decide +kernel
theorem dX8_goDown_43 : decode cX8_goDown 43 = .ok (.iconst 0, 1) := by decide +kernel
theorem dX8_goDown_44 : decode cX8_goDown 44 = .ok (.istore_n 2, 1) := by decide +kernel
theorem dX8_goDown_45 : decode cX8_goDown 45 = .ok (.iload_n 2, 1) := by decide +kernel
theorem dX8_goDown_46 : decode cX8_goDown 46 = .ok (.bipush 16, 2) := by decide +kernel
theorem dX8_goDown_48 : decode cX8_goDown 48 = .ok (.if_icmp .ge 21, 3) := by decide +kernel
theorem dX8_goDown_51 : decode cX8_goDown 51 = .ok (.aload_n 0, 1) := by decide +kernel
theorem dX8_goDown_52 : decode cX8_goDown 52 = .ok (.getfield 9, 3) := by decide +kernel
theorem dX8_goDown_55 : decode cX8_goDown 55 = .ok (.iload_n 2, 1) := by decide +kernel
theorem dX8_goDown_56 : decode cX8_goDown 56 = .ok (.aload_n 0, 1) := by decide +kernel
theorem dX8_goDown_57 : decode cX8_goDown 57 = .ok (.getfield 15, 3) := by decide +kernel
theorem dX8_goDown_60 : decode cX8_goDown 60 = .ok (.iload_n 2, 1) := by decide +kernel
theorem dX8_goDown_61 : decode cX8_goDown 61 = .ok (.laload, 1) := by decide +kernel
theorem dX8_goDown_62 : decode cX8_goDown 62 = .ok (.lastore, 1) := by decide +kernel
theorem dX8_goDown_63 : decode cX8_goDown 63 = .ok (.iinc 2 1, 3) := by decide +kernel
theorem dX8_goDown_66 : decode cX8_goDown 66 = .ok (.goto (-21), 3) := by decide +kernel
theorem dX8_goDown_69 : decode cX8_goDown 69 = .ok (.return_, 1) := by decide +kernel
theorem dX8_addChildrenOf_0 : decode cX8_addChildrenOf 0 = .ok (.iconst 1, 1) := by decide +kernel
theorem dX8_addChildrenOf_1 : decode cX8_addChildrenOf 1 = .ok (.istore_n 3, 1) := by decide +kernel
theorem dX8_addChildrenOf_2 : decode cX8_addChildrenOf 2 = .ok (.iload_n 3, 1) := by decide +kernel
theorem dX8_addChildrenOf_3 : decode cX8_addChildrenOf 3 = .ok (.bipush 6, 2) := by decide +kernel
theorem dX8_addChildrenOf_5 : decode cX8_addChildrenOf 5 = .ok (.if_icmp .gt 59, 3) := by decide +kernel
theorem dX8_addChildrenOf_8 : decode cX8_addChildrenOf 8 = .ok (.aload_n 1, 1) := by decide +kernel
theorem dX8_addChildrenOf_9 : decode cX8_addChildrenOf 9 = .ok (.iload_n 2, 1) := by decide +kernel
theorem dX8_addChildrenOf_10 : decode cX8_addChildrenOf 10 = .ok (.iload_n 3, 1) := by decide +kernel
theorem dX8_addChildrenOf_11 : decode cX8_addChildrenOf 11 = .ok (.invokevirtual 42, 3) := by decide +kernel
theorem dX8_addChildrenOf_14 : decode cX8_addChildrenOf 14 = .ok (.istore 4, 2) := by decide +kernel
theorem dX8_addChildrenOf_16 : decode cX8_addChildrenOf 16 = .ok (.iload 4, 2) := by decide +kernel
theorem dX8_addChildrenOf_18 : decode cX8_addChildrenOf 18 = .ok (.iconst (-1), 1) := by decide +kernel
theorem dX8_addChildrenOf_19 : decode cX8_addChildrenOf 19 = .ok (.if_icmp .eq 39, 3) := by decide +kernel
theorem dX8_addChildrenOf_22 : decode cX8_addChildrenOf 22 = .ok (.aload_n 0, 1) := by decide +kernel
theorem dX8_addChildrenOf_23 : decode cX8_addChildrenOf 23 = .ok (.getfield 15, 3) := by decide +kernel
theorem dX8_addChildrenOf_26 : decode cX8_addChildrenOf 26 = .ok (.aload_n 1, 1) := by decide +kernel
theorem dX8_addChildrenOf_27 : decode cX8_addChildrenOf 27 = .ok (.getfield 46, 3) := by decide +kernel
theorem dX8_addChildrenOf_30 : decode cX8_addChildrenOf 30 = .ok (.getfield 50, 3) := by decide +kernel
theorem dX8_addChildrenOf_33 : decode cX8_addChildrenOf 33 = .ok (.iload 4, 2) := by decide +kernel
theorem dX8_addChildrenOf_35 : decode cX8_addChildrenOf 35 = .ok (.iaload, 1) := by decide +kernel
theorem dX8_addChildrenOf_36 : decode cX8_addChildrenOf 36 = .ok (.dup2, 1) := by decide +kernel
theorem dX8_addChildrenOf_37 : decode cX8_addChildrenOf 37 = .ok (.laload, 1) := by decide +kernel
theorem dX8_addChildrenOf_38 : decode cX8_addChildrenOf 38 = .ok (.aload_n 0, 1) := by decide +kernel
theorem dX8_addChildrenOf_39 : decode cX8_addChildrenOf 39 = .ok (.getfield 9, 3) := by decide +kernel
theorem dX8_addChildrenOf_42 : decode cX8_addChildrenOf 42 = .ok (.iload_n 2, 1) := by decide +kernel
theorem dX8_addChildrenOf_43 : decode cX8_addChildrenOf 43 = .ok (.laload, 1) := by decide +kernel
theorem dX8_addChildrenOf_44 : decode cX8_addChildrenOf 44 = .ok (.aload_n 1, 1) := by decide +kernel
theorem dX8_addChildrenOf_45 : decode cX8_addChildrenOf 45 = .ok (.getfield 46, 3) := by decide +kernel
theorem dX8_addChildrenOf_48 : decode cX8_addChildrenOf 48 = .ok (.getfield 56, 3) := by decide +kernel
theorem dX8_addChildrenOf_51 : decode cX8_addChildrenOf 51 = .ok (.iload 4, 2) := by decide +kernel
theorem dX8_addChildrenOf_53 : decode cX8_addChildrenOf 53 = .ok (.iaload, 1) := by decide +kernel
theorem dX8_addChildrenOf_54 : decode cX8_addChildrenOf 54 = .ok (.i2l, 1) := by decide +kernel
theorem dX8_addChildrenOf_55 : decode cX8_addChildrenOf 55 = .ok (.lmul, 1) := by decide +kernel
theorem dX8_addChildrenOf_56 : decode cX8_addChildrenOf 56 = .ok (.ladd, 1) := by decide +kernel
theorem dX8_addChildrenOf_57 : decode cX8_addChildrenOf 57 = .ok (.lastore, 1) := by decide +kernel
theorem dX8_addChildrenOf_58 : decode cX8_addChildrenOf 58 = .ok (.iinc 3 1, 3) := by decide +kernel
theorem dX8_addChildrenOf_61 : decode cX8_addChildrenOf 61 = .ok (.goto (-59), 3) := by decide +kernel
theorem dX8_addChildrenOf_64 : decode cX8_addChildrenOf 64 = .ok (.return_, 1) := by decide +kernel
theorem dX8_clear_0 : decode cX8_clear 0 = .ok (.iconst 0, 1) := by decide +kernel
theorem dX8_clear_1 : decode cX8_clear 1 = .ok (.istore_n 1, 1) := by decide +kernel
theorem dX8_clear_2 : decode cX8_clear 2 = .ok (.iload_n 1, 1) := by decide +kernel
theorem dX8_clear_3 : decode cX8_clear 3 = .ok (.aload_n 0, 1) := by decide +kernel
theorem dX8_clear_4 : decode cX8_clear 4 = .ok (.arraylength, 1) := by decide +kernel
theorem dX8_clear_5 : decode cX8_clear 5 = .ok (.if_icmp .ge 13, 3) := by decide +kernel
theorem dX8_clear_8 : decode cX8_clear 8 = .ok (.aload_n 0, 1) := by decide +kernel
theorem dX8_clear_9 : decode cX8_clear 9 = .ok (.iload_n 1, 1) := by decide +kernel
theorem dX8_clear_10 : decode cX8_clear 10 = .ok (.lconst 0, 1) := by decide +kernel
theorem dX8_clear_11 : decode cX8_clear 11 = .ok (.lastore, 1) := by decide +kernel
theorem dX8_clear_12 : decode cX8_clear 12 = .ok (.iinc 1 1, 3) := by decide +kernel
theorem dX8_clear_15 : decode cX8_clear 15 = .ok (.goto (-13), 3) := by decide +kernel
theorem dX8_clear_18 : decode cX8_clear 18 = .ok (.return_, 1) := by decide +kernel
theorem dX9_init_0 : decode cX9_init 0 = .ok (.aload_n 0, 1) := by decide +kernel
theorem dX9_init_1 : decode cX9_init 1 = .ok (.invokespecial 3, 3) := by decide +kernel
theorem dX9_init_4 : decode cX9_init 4 = .ok (.aload_n 0, 1) := by decide +kernel
theorem dX9_init_5 : decode cX9_init 5 = .ok (.bipush 16, 2) := by decide +kernel
theorem dX9_init_7 : decode cX9_init 7 = .ok (.newarray .double, 2) := by decide +kernel
theorem dX9_init_9 : decode cX9_init 9 = .ok (.putfield 9, 3) := by decide +kernel
theorem dX9_init_12 : decode cX9_init 12 = .ok (.return_, 1) := by decide +kernel
theorem dX9_rollUp_0 : decode cX9_rollUp 0 = .ok (.iconst 0, 1) := by decide +kernel
theorem dX9_rollUp_1 : decode cX9_rollUp 1 = .ok (.istore_n 2, 1) := by decide +kernel
theorem dX9_rollUp_2 : decode cX9_rollUp 2 = .ok (.iconst 0, 1) := by decide +kernel
theorem dX9_rollUp_3 : decode cX9_rollUp 3 = .ok (.istore_n 3, 1) := by decide +kernel
theorem dX9_rollUp_4 : decode cX9_rollUp 4 = .ok (.iload_n 3, 1) := by decide +kernel
theorem dX9_rollUp_5 : decode cX9_rollUp 5 = .ok (.iconst 4, 1) := by decide +kernel
theorem dX9_rollUp_6 : decode cX9_rollUp 6 = .ok (.if_icmp .gt 70, 3) := by decide +kernel
theorem dX9_rollUp_9 : decode cX9_rollUp 9 = .ok (.iconst 0, 1) := by decide +kernel
theorem dX9_rollUp_10 : decode cX9_rollUp 10 = .ok (.istore 4, 2) := by decide +kernel
theorem dX9_rollUp_12 : decode cX9_rollUp 12 = .ok (.iload 4, 2) := by decide +kernel
theorem dX9_rollUp_14 : decode cX9_rollUp 14 = .ok (.aload_n 1, 1) := by decide +kernel
theorem dX9_rollUp_15 : decode cX9_rollUp 15 = .ok (.getfield 15, 3) := by decide +kernel
theorem dX9_rollUp_18 : decode cX9_rollUp 18 = .ok (.getfield 21, 3) := by decide +kernel
theorem dX9_rollUp_21 : decode cX9_rollUp 21 = .ok (.if_icmp .ge 49, 3) := by decide +kernel
theorem dX9_rollUp_24 : decode cX9_rollUp 24 = .ok (.iload_n 2, 1) := by decide +kernel
theorem dX9_rollUp_25 : decode cX9_rollUp 25 = .ok (.iconst 1, 1) := by decide +kernel
theorem dX9_rollUp_26 : decode cX9_rollUp 26 = .ok (.iload 4, 2) := by decide +kernel
theorem dX9_rollUp_28 : decode cX9_rollUp 28 = .ok (.ishl, 1) := by decide +kernel
theorem dX9_rollUp_29 : decode cX9_rollUp 29 = .ok (.iand, 1) := by decide +kernel
theorem dX9_rollUp_30 : decode cX9_rollUp 30 = .ok (.ifCond .ne 34, 3) := by decide +kernel
theorem dX9_rollUp_33 : decode cX9_rollUp 33 = .ok (.aload_n 1, 1) := by decide +kernel
theorem dX9_rollUp_34 : decode cX9_rollUp 34 = .ok (.iload 4, 2) := by decide +kernel
theorem dX9_rollUp_36 : decode cX9_rollUp 36 = .ok (.iload_n 2, 1) := by decide +kernel
theorem dX9_rollUp_37 : decode cX9_rollUp 37 = .ok (.invokevirtual 27, 3) := by decide +kernel
theorem dX9_rollUp_40 : decode cX9_rollUp 40 = .ok (.ifCond .eq 24, 3) := by decide +kernel
theorem dX9_rollUp_43 : decode cX9_rollUp 43 = .ok (.aload_n 0, 1) := by decide +kernel
theorem dX9_rollUp_44 : decode cX9_rollUp 44 = .ok (.getfield 9, 3) := by decide +kernel
theorem dX9_rollUp_47 : decode cX9_rollUp 47 = .ok (.iload 4, 2) := by decide +kernel
theorem dX9_rollUp_49 : decode cX9_rollUp 49 = .ok (.aload_n 0, 1) := by decide +kernel
theorem dX9_rollUp_50 : decode cX9_rollUp 50 = .ok (.aload_n 1, 1) := by decide +kernel
theorem dX9_rollUp_51 : decode cX9_rollUp 51 = .ok (.iload 4, 2) := by decide +kernel
theorem dX9_rollUp_53 : decode cX9_rollUp 53 = .ok (.invokevirtual 31, 3) := by decide +kernel
theorem dX9_rollUp_56 : decode cX9_rollUp 56 = .ok (.dastore, 1) := by decide +kernel
theorem dX9_rollUp_57 : decode cX9_rollUp 57 = .ok (.iload_n 2, 1) := by decide +kernel
theorem dX9_rollUp_58 : decode cX9_rollUp 58 = .ok (.iconst 1, 1) := by decide +kernel
theorem dX9_rollUp_59 : decode cX9_rollUp 59 = .ok (.iload 4, 2) := by decide +kernel
theorem dX9_rollUp_61 : decode cX9_rollUp 61 = .ok (.ishl, 1) := by decide +kernel
theorem dX9_rollUp_62 : decode cX9_rollUp 62 = .ok (.ior, 1) := by decide +kernel
theorem dX9_rollUp_63 : decode cX9_rollUp 63 = .ok (.istore_n 2, 1) := by decide +kernel
theorem dX9_rollUp_64 : decode cX9_rollUp 64 = .ok (.iinc 4 1, 3) := by decide +kernel
theorem dX9_rollUp_67 : decode cX9_rollUp 67 = .ok (.goto (-55), 3) := by decide +kernel
theorem dX9_rollUp_70 : decode cX9_rollUp 70 = .ok (.iinc 3 1, 3) := by decide +kernel
theorem dX9_rollUp_73 : decode cX9_rollUp 73 = .ok (.goto (-69), 3) := by decide +kernel
theorem dX9_rollUp_76 : decode cX9_rollUp 76 = .ok (.return_, 1) := by decide +kernel
theorem dX9_weightOf_0 : decode cX9_weightOf 0 = .ok (.aload_n 1, 1) := by decide +kernel
theorem dX9_weightOf_1 : decode cX9_weightOf 1 = .ok (.getfield 15, 3) := by decide +kernel
theorem dX9_weightOf_4 : decode cX9_weightOf 4 = .ok (.iload_n 2, 1) := by decide +kernel
theorem dX9_weightOf_5 : decode cX9_weightOf 5 = .ok (.invokevirtual 35, 3) := by decide +kernel
theorem dX9_weightOf_8 : decode cX9_weightOf 8 = .ok (.dstore_n 3, 1) := by decide +kernel
theorem dX9_weightOf_9 : decode cX9_weightOf 9 = .ok (.iconst 1, 1) := by decide +kernel
theorem dX9_weightOf_10 : decode cX9_weightOf 10 = .ok (.istore 5, 2) := by decide +kernel
theorem dX9_weightOf_12 : decode cX9_weightOf 12 = .ok (.iload 5, 2) := by decide +kernel
theorem dX9_weightOf_14 : decode cX9_weightOf 14 = .ok (.bipush 6, 2) := by decide +kernel
theorem dX9_weightOf_16 : decode cX9_weightOf 16 = .ok (.if_icmp .gt 54, 3) := by decide +kernel
theorem dX9_weightOf_19 : decode cX9_weightOf 19 = .ok (.aload_n 1, 1) := by decide +kernel
theorem dX9_weightOf_20 : decode cX9_weightOf 20 = .ok (.iload_n 2, 1) := by decide +kernel
theorem dX9_weightOf_21 : decode cX9_weightOf 21 = .ok (.iload 5, 2) := by decide +kernel
theorem dX9_weightOf_23 : decode cX9_weightOf 23 = .ok (.invokevirtual 39, 3) := by decide +kernel
theorem dX9_weightOf_26 : decode cX9_weightOf 26 = .ok (.istore 6, 2) := by decide +kernel
theorem dX9_weightOf_28 : decode cX9_weightOf 28 = .ok (.iload 6, 2) := by decide +kernel
theorem dX9_weightOf_30 : decode cX9_weightOf 30 = .ok (.iconst (-1), 1) := by decide +kernel
theorem dX9_weightOf_31 : decode cX9_weightOf 31 = .ok (.if_icmp .eq 33, 3) := by decide +kernel
theorem dX9_weightOf_34 : decode cX9_weightOf 34 = .ok (.dload_n 3, 1) := by decide +kernel
theorem dX9_weightOf_35 : decode cX9_weightOf 35 = .ok (.aload_n 1, 1) := by decide +kernel
theorem dX9_weightOf_36 : decode cX9_weightOf 36 = .ok (.getfield 43, 3) := by decide +kernel
theorem dX9_weightOf_39 : decode cX9_weightOf 39 = .ok (.getfield 47, 3) := by decide +kernel
theorem dX9_weightOf_42 : decode cX9_weightOf 42 = .ok (.iload 6, 2) := by decide +kernel
theorem dX9_weightOf_44 : decode cX9_weightOf 44 = .ok (.iaload, 1) := by decide +kernel
theorem dX9_weightOf_45 : decode cX9_weightOf 45 = .ok (.i2d, 1) := by decide +kernel
theorem dX9_weightOf_46 : decode cX9_weightOf 46 = .ok (.aload_n 0, 1) := by decide +kernel
theorem dX9_weightOf_47 : decode cX9_weightOf 47 = .ok (.getfield 9, 3) := by decide +kernel
theorem dX9_weightOf_50 : decode cX9_weightOf 50 = .ok (.aload_n 1, 1) := by decide +kernel
theorem dX9_weightOf_51 : decode cX9_weightOf 51 = .ok (.getfield 43, 3) := by decide +kernel
theorem dX9_weightOf_54 : decode cX9_weightOf 54 = .ok (.getfield 53, 3) := by decide +kernel
theorem dX9_weightOf_57 : decode cX9_weightOf 57 = .ok (.iload 6, 2) := by decide +kernel
theorem dX9_weightOf_59 : decode cX9_weightOf 59 = .ok (.iaload, 1) := by decide +kernel
theorem dX9_weightOf_60 : decode cX9_weightOf 60 = .ok (.daload, 1) := by decide +kernel
theorem dX9_weightOf_61 : decode cX9_weightOf 61 = .ok (.dmul, 1) := by decide +kernel
theorem dX9_weightOf_62 : decode cX9_weightOf 62 = .ok (.dadd, 1) := by decide +kernel
theorem dX9_weightOf_63 : decode cX9_weightOf 63 = .ok (.dstore_n 3, 1) := by decide +kernel
theorem dX9_weightOf_64 : decode cX9_weightOf 64 = .ok (.iinc 5 1, 3) := by decide +kernel
theorem dX9_weightOf_67 : decode cX9_weightOf 67 = .ok (.goto (-55), 3) := by decide +kernel
theorem dX9_weightOf_70 : decode cX9_weightOf 70 = .ok (.dload_n 3, 1) := by decide +kernel
theorem dX9_weightOf_71 : decode cX9_weightOf 71 = .ok (.dreturn, 1) := by decide +kernel
theorem dX10_init_0 : decode cX10_init 0 = .ok (.aload_n 0, 1) := by decide +kernel
theorem dX10_init_1 : decode cX10_init 1 = .ok (.invokespecial 1, 3) := by decide +kernel
theorem dX10_init_4 : decode cX10_init 4 = .ok (.aload_n 0, 1) := by decide +kernel
theorem dX10_init_5 : decode cX10_init 5 = .ok (.new 7, 3) := by decide +kernel
theorem dX10_init_8 : decode cX10_init 8 = .ok (.dup, 1) := by decide +kernel
theorem dX10_init_9 : decode cX10_init 9 = .ok (.invokespecial 9, 3) := by decide +kernel
theorem dX10_init_12 : decode cX10_init 12 = .ok (.putfield 10, 3) := by decide +kernel
theorem dX10_init_15 : decode cX10_init 15 = .ok (.aload_n 0, 1) := by decide +kernel
theorem dX10_init_16 : decode cX10_init 16 = .ok (.new 16, 3) := by decide +kernel
theorem dX10_init_19 : decode cX10_init 19 = .ok (.dup, 1) := by decide +kernel
theorem dX10_init_20 : decode cX10_init 20 = .ok (.invokespecial 18, 3) := by decide +kernel
theorem dX10_init_23 : decode cX10_init 23 = .ok (.putfield 19, 3) := by decide +kernel
theorem dX10_init_26 : decode cX10_init 26 = .ok (.aload_n 0, 1) := by decide +kernel
theorem dX10_init_27 : decode cX10_init 27 = .ok (.new 23, 3) := by decide +kernel
theorem dX10_init_30 : decode cX10_init 30 = .ok (.dup, 1) := by decide +kernel
theorem dX10_init_31 : decode cX10_init 31 = .ok (.invokespecial 25, 3) := by decide +kernel
theorem dX10_init_34 : decode cX10_init 34 = .ok (.putfield 26, 3) := by decide +kernel
theorem dX10_init_37 : decode cX10_init 37 = .ok (.aload_n 0, 1) := by decide +kernel
theorem dX10_init_38 : decode cX10_init 38 = .ok (.new 30, 3) := by decide +kernel
theorem dX10_init_41 : decode cX10_init 41 = .ok (.dup, 1) := by decide +kernel
theorem dX10_init_42 : decode cX10_init 42 = .ok (.invokespecial 32, 3) := by decide +kernel
theorem dX10_init_45 : decode cX10_init 45 = .ok (.putfield 33, 3) := by decide +kernel
theorem dX10_init_48 : decode cX10_init 48 = .ok (.aload_n 0, 1) := by decide +kernel
theorem dX10_init_49 : decode cX10_init 49 = .ok (.new 37, 3) := by decide +kernel
theorem dX10_init_52 : decode cX10_init 52 = .ok (.dup, 1) := by decide +kernel
theorem dX10_init_53 : decode cX10_init 53 = .ok (.invokespecial 39, 3) := by decide +kernel
theorem dX10_init_56 : decode cX10_init 56 = .ok (.putfield 40, 3) := by decide +kernel
theorem dX10_init_59 : decode cX10_init 59 = .ok (.aload_n 0, 1) := by decide +kernel
theorem dX10_init_60 : decode cX10_init 60 = .ok (.new 44, 3) := by decide +kernel
theorem dX10_init_63 : decode cX10_init 63 = .ok (.dup, 1) := by decide +kernel
theorem dX10_init_64 : decode cX10_init 64 = .ok (.invokespecial 46, 3) := by decide +kernel
theorem dX10_init_67 : decode cX10_init 67 = .ok (.putfield 47, 3) := by decide +kernel
theorem dX10_init_70 : decode cX10_init 70 = .ok (.aload_n 0, 1) := by decide +kernel
theorem dX10_init_71 : decode cX10_init 71 = .ok (.new 51, 3) := by decide +kernel
theorem dX10_init_74 : decode cX10_init 74 = .ok (.dup, 1) := by decide +kernel
theorem dX10_init_75 : decode cX10_init 75 = .ok (.invokespecial 53, 3) := by decide +kernel
theorem dX10_init_78 : decode cX10_init 78 = .ok (.putfield 54, 3) := by decide +kernel
theorem dX10_init_81 : decode cX10_init 81 = .ok (.aload_n 0, 1) := by decide +kernel
theorem dX10_init_82 : decode cX10_init 82 = .ok (.bipush 16, 2) := by decide +kernel
theorem dX10_init_84 : decode cX10_init 84 = .ok (.newarray .float, 2) := by decide +kernel
theorem dX10_init_86 : decode cX10_init 86 = .ok (.putfield 58, 3) := by decide +kernel
theorem dX10_init_89 : decode cX10_init 89 = .ok (.aload_n 0, 1) := by decide +kernel
theorem dX10_init_90 : decode cX10_init 90 = .ok (.iconst 0, 1) := by decide +kernel
theorem dX10_init_91 : decode cX10_init 91 = .ok (.putfield 62, 3) := by decide +kernel
theorem dX10_init_94 : decode cX10_init 94 = .ok (.aload_n 0, 1) := by decide +kernel
theorem dX10_init_95 : decode cX10_init 95 = .ok (.iconst 0, 1) := by decide +kernel
theorem dX10_init_96 : decode cX10_init 96 = .ok (.putfield 66, 3) := by decide +kernel
theorem dX10_init_99 : decode cX10_init 99 = .ok (.return_, 1) := by decide +kernel
theorem dX10_addPart_0 : decode cX10_addPart 0 = .ok (.iload_n 1, 1) := by decide +kernel
theorem dX10_addPart_1 : decode cX10_addPart 1 = .ok (.invokestatic 69, 3) := by decide +kernel
theorem dX10_addPart_4 : decode cX10_addPart 4 = .ok (.iload_n 2, 1) := by decide +kernel
theorem dX10_addPart_5 : decode cX10_addPart 5 = .ok (.invokestatic 73, 3) := by decide +kernel
theorem dX10_addPart_8 : decode cX10_addPart 8 = .ok (.iload_n 3, 1) := by decide +kernel
theorem dX10_addPart_9 : decode cX10_addPart 9 = .ok (.invokestatic 77, 3) := by decide +kernel
theorem dX10_addPart_12 : decode cX10_addPart 12 = .ok (.aload_n 0, 1) := by decide +kernel
theorem dX10_addPart_13 : decode cX10_addPart 13 = .ok (.getfield 10, 3) := by decide +kernel
theorem dX10_addPart_16 : decode cX10_addPart 16 = .ok (.getfield 80, 3) := by decide +kernel
theorem dX10_addPart_19 : decode cX10_addPart 19 = .ok (.getfield 84, 3) := by decide +kernel
theorem dX10_addPart_22 : decode cX10_addPart 22 = .ok (.bipush 16, 2) := by decide +kernel
theorem dX10_addPart_24 : decode cX10_addPart 24 = .ok (.if_icmp .lt 13, 3) := by decide +kernel
theorem dX10_addPart_27 : decode cX10_addPart 27 = .ok (.new 89, 3) := by decide +kernel
theorem dX10_addPart_30 : decode cX10_addPart 30 = .ok (.dup, 1) := by decide +kernel
theorem dX10_addPart_31 : decode cX10_addPart 31 = .ok (.ldc 91, 2) := by decide +kernel
theorem dX10_addPart_33 : decode cX10_addPart 33 = .ok (.invokespecial 93, 3) := by decide +kernel
theorem dX10_addPart_36 : decode cX10_addPart 36 = .ok (.athrow, 1) := by decide +kernel
theorem dX10_addPart_37 : decode cX10_addPart 37 = .ok (.aload_n 0, 1) := by decide +kernel
theorem dX10_addPart_38 : decode cX10_addPart 38 = .ok (.getfield 10, 3) := by decide +kernel
theorem dX10_addPart_41 : decode cX10_addPart 41 = .ok (.getfield 80, 3) := by decide +kernel
theorem dX10_addPart_44 : decode cX10_addPart 44 = .ok (.iload_n 1, 1) := by decide +kernel
theorem dX10_addPart_45 : decode cX10_addPart 45 = .ok (.iload_n 2, 1) := by decide +kernel
theorem dX10_addPart_46 : decode cX10_addPart 46 = .ok (.iload_n 3, 1) := by decide +kernel
theorem dX10_addPart_47 : decode cX10_addPart 47 = .ok (.invokevirtual 96, 3) := by decide +kernel
theorem dX10_addPart_50 : decode cX10_addPart 50 = .ok (.ireturn, 1) := by decide +kernel
theorem dX10_setPrice_0 : decode cX10_setPrice 0 = .ok (.aload_n 0, 1) := by decide +kernel
theorem dX10_setPrice_1 : decode cX10_setPrice 1 = .ok (.iload_n 1, 1) := by decide +kernel
theorem dX10_setPrice_2 : decode cX10_setPrice 2 = .ok (.invokevirtual 100, 3) := by decide +kernel
theorem dX10_setPrice_5 : decode cX10_setPrice 5 = .ok (.iload_n 2, 1) := by decide +kernel
theorem dX10_setPrice_6 : decode cX10_setPrice 6 = .ok (.invokestatic 73, 3) := by decide +kernel
theorem dX10_setPrice_9 : decode cX10_setPrice 9 = .ok (.aload_n 0, 1) := by decide +kernel
theorem dX10_setPrice_10 : decode cX10_setPrice 10 = .ok (.getfield 10, 3) := by decide +kernel
theorem dX10_setPrice_13 : decode cX10_setPrice 13 = .ok (.getfield 80, 3) := by decide +kernel
theorem dX10_setPrice_16 : decode cX10_setPrice 16 = .ok (.getfield 103, 3) := by decide +kernel
theorem dX10_setPrice_19 : decode cX10_setPrice 19 = .ok (.iload_n 1, 1) := by decide +kernel
theorem dX10_setPrice_20 : decode cX10_setPrice 20 = .ok (.iaload, 1) := by decide +kernel
theorem dX10_setPrice_21 : decode cX10_setPrice 21 = .ok (.istore_n 3, 1) := by decide +kernel
theorem dX10_setPrice_22 : decode cX10_setPrice 22 = .ok (.aload_n 0, 1) := by decide +kernel
theorem dX10_setPrice_23 : decode cX10_setPrice 23 = .ok (.getfield 10, 3) := by decide +kernel
theorem dX10_setPrice_26 : decode cX10_setPrice 26 = .ok (.getfield 80, 3) := by decide +kernel
theorem dX10_setPrice_29 : decode cX10_setPrice 29 = .ok (.getfield 103, 3) := by decide +kernel
theorem dX10_setPrice_32 : decode cX10_setPrice 32 = .ok (.iload_n 1, 1) := by decide +kernel
theorem dX10_setPrice_33 : decode cX10_setPrice 33 = .ok (.iload_n 2, 1) := by decide +kernel
theorem dX10_setPrice_34 : decode cX10_setPrice 34 = .ok (.iastore, 1) := by decide +kernel
theorem dX10_setPrice_35 : decode cX10_setPrice 35 = .ok (.iload_n 3, 1) := by decide +kernel
theorem dX10_setPrice_36 : decode cX10_setPrice 36 = .ok (.ireturn, 1) := by decide +kernel
theorem dX10_setGrams_0 : decode cX10_setGrams 0 = .ok (.aload_n 0, 1) := by decide +kernel
theorem dX10_setGrams_1 : decode cX10_setGrams 1 = .ok (.iload_n 1, 1) := by decide +kernel
theorem dX10_setGrams_2 : decode cX10_setGrams 2 = .ok (.invokevirtual 100, 3) := by decide +kernel
theorem dX10_setGrams_5 : decode cX10_setGrams 5 = .ok (.iload_n 2, 1) := by decide +kernel
theorem dX10_setGrams_6 : decode cX10_setGrams 6 = .ok (.invokestatic 77, 3) := by decide +kernel
theorem dX10_setGrams_9 : decode cX10_setGrams 9 = .ok (.aload_n 0, 1) := by decide +kernel
theorem dX10_setGrams_10 : decode cX10_setGrams 10 = .ok (.getfield 10, 3) := by decide +kernel
theorem dX10_setGrams_13 : decode cX10_setGrams 13 = .ok (.getfield 80, 3) := by decide +kernel
theorem dX10_setGrams_16 : decode cX10_setGrams 16 = .ok (.getfield 107, 3) := by decide +kernel
theorem dX10_setGrams_19 : decode cX10_setGrams 19 = .ok (.iload_n 1, 1) := by decide +kernel
theorem dX10_setGrams_20 : decode cX10_setGrams 20 = .ok (.iaload, 1) := by decide +kernel
theorem dX10_setGrams_21 : decode cX10_setGrams 21 = .ok (.istore_n 3, 1) := by decide +kernel
theorem dX10_setGrams_22 : decode cX10_setGrams 22 = .ok (.aload_n 0, 1) := by decide +kernel
theorem dX10_setGrams_23 : decode cX10_setGrams 23 = .ok (.getfield 10, 3) := by decide +kernel
theorem dX10_setGrams_26 : decode cX10_setGrams 26 = .ok (.getfield 80, 3) := by decide +kernel
theorem dX10_setGrams_29 : decode cX10_setGrams 29 = .ok (.getfield 107, 3) := by decide +kernel
theorem dX10_setGrams_32 : decode cX10_setGrams 32 = .ok (.iload_n 1, 1) := by decide +kernel
theorem dX10_setGrams_33 : decode cX10_setGrams 33 = .ok (.iload_n 2, 1) := by decide +kernel
theorem dX10_setGrams_34 : decode cX10_setGrams 34 = .ok (.iastore, 1) := by decide +kernel
theorem dX10_setGrams_35 : decode cX10_setGrams 35 = .ok (.iload_n 3, 1) := by decide +kernel
theorem dX10_setGrams_36 : decode cX10_setGrams 36 = .ok (.ireturn, 1) := by decide +kernel
theorem dX10_setKind_0 : decode cX10_setKind 0 = .ok (.aload_n 0, 1) := by decide +kernel
theorem dX10_setKind_1 : decode cX10_setKind 1 = .ok (.iload_n 1, 1) := by decide +kernel
theorem dX10_setKind_2 : decode cX10_setKind 2 = .ok (.invokevirtual 100, 3) := by decide +kernel
theorem dX10_setKind_5 : decode cX10_setKind 5 = .ok (.iload_n 2, 1) := by decide +kernel
theorem dX10_setKind_6 : decode cX10_setKind 6 = .ok (.invokestatic 69, 3) := by decide +kernel
theorem dX10_setKind_9 : decode cX10_setKind 9 = .ok (.aload_n 0, 1) := by decide +kernel
theorem dX10_setKind_10 : decode cX10_setKind 10 = .ok (.getfield 10, 3) := by decide +kernel
theorem dX10_setKind_13 : decode cX10_setKind 13 = .ok (.getfield 80, 3) := by decide +kernel
theorem dX10_setKind_16 : decode cX10_setKind 16 = .ok (.getfield 110, 3) := by decide +kernel
theorem dX10_setKind_19 : decode cX10_setKind 19 = .ok (.iload_n 1, 1) := by decide +kernel
theorem dX10_setKind_20 : decode cX10_setKind 20 = .ok (.caload, 1) := by decide +kernel
theorem dX10_setKind_21 : decode cX10_setKind 21 = .ok (.istore_n 3, 1) := by decide +kernel
theorem dX10_setKind_22 : decode cX10_setKind 22 = .ok (.aload_n 0, 1) := by decide +kernel
theorem dX10_setKind_23 : decode cX10_setKind 23 = .ok (.getfield 10, 3) := by decide +kernel
theorem dX10_setKind_26 : decode cX10_setKind 26 = .ok (.getfield 80, 3) := by decide +kernel
theorem dX10_setKind_29 : decode cX10_setKind 29 = .ok (.getfield 110, 3) := by decide +kernel
theorem dX10_setKind_32 : decode cX10_setKind 32 = .ok (.iload_n 1, 1) := by decide +kernel
theorem dX10_setKind_33 : decode cX10_setKind 33 = .ok (.iload_n 2, 1) := by decide +kernel
theorem dX10_setKind_34 : decode cX10_setKind 34 = .ok (.castore, 1) := by decide +kernel
theorem dX10_setKind_35 : decode cX10_setKind 35 = .ok (.iload_n 3, 1) := by decide +kernel
theorem dX10_setKind_36 : decode cX10_setKind 36 = .ok (.ireturn, 1) := by decide +kernel
theorem dX10_parts_0 : decode cX10_parts 0 = .ok (.aload_n 0, 1) := by decide +kernel
theorem dX10_parts_1 : decode cX10_parts 1 = .ok (.getfield 10, 3) := by decide +kernel
theorem dX10_parts_4 : decode cX10_parts 4 = .ok (.getfield 80, 3) := by decide +kernel
theorem dX10_parts_7 : decode cX10_parts 7 = .ok (.getfield 84, 3) := by decide +kernel
theorem dX10_parts_10 : decode cX10_parts 10 = .ok (.ireturn, 1) := by decide +kernel
theorem dX10_kind_0 : decode cX10_kind 0 = .ok (.aload_n 0, 1) := by decide +kernel
theorem dX10_kind_1 : decode cX10_kind 1 = .ok (.iload_n 1, 1) := by decide +kernel
theorem dX10_kind_2 : decode cX10_kind 2 = .ok (.invokevirtual 100, 3) := by decide +kernel
theorem dX10_kind_5 : decode cX10_kind 5 = .ok (.aload_n 0, 1) := by decide +kernel
theorem dX10_kind_6 : decode cX10_kind 6 = .ok (.getfield 10, 3) := by decide +kernel
theorem dX10_kind_9 : decode cX10_kind 9 = .ok (.getfield 80, 3) := by decide +kernel
theorem dX10_kind_12 : decode cX10_kind 12 = .ok (.getfield 110, 3) := by decide +kernel
theorem dX10_kind_15 : decode cX10_kind 15 = .ok (.iload_n 1, 1) := by decide +kernel
theorem dX10_kind_16 : decode cX10_kind 16 = .ok (.caload, 1) := by decide +kernel
theorem dX10_kind_17 : decode cX10_kind 17 = .ok (.ireturn, 1) := by decide +kernel
theorem dX10_addLine_0 : decode cX10_addLine 0 = .ok (.aload_n 0, 1) := by decide +kernel
theorem dX10_addLine_1 : decode cX10_addLine 1 = .ok (.iload_n 1, 1) := by decide +kernel
theorem dX10_addLine_2 : decode cX10_addLine 2 = .ok (.invokevirtual 100, 3) := by decide +kernel
theorem dX10_addLine_5 : decode cX10_addLine 5 = .ok (.aload_n 0, 1) := by decide +kernel
theorem dX10_addLine_6 : decode cX10_addLine 6 = .ok (.iload_n 3, 1) := by decide +kernel
theorem dX10_addLine_7 : decode cX10_addLine 7 = .ok (.invokevirtual 100, 3) := by decide +kernel
theorem dX10_addLine_10 : decode cX10_addLine 10 = .ok (.iload_n 2, 1) := by decide +kernel
theorem dX10_addLine_11 : decode cX10_addLine 11 = .ok (.invokestatic 114, 3) := by decide +kernel
theorem dX10_addLine_14 : decode cX10_addLine 14 = .ok (.iload 4, 2) := by decide +kernel
theorem dX10_addLine_16 : decode cX10_addLine 16 = .ok (.invokestatic 117, 3) := by decide +kernel
theorem dX10_addLine_19 : decode cX10_addLine 19 = .ok (.iload 5, 2) := by decide +kernel
theorem dX10_addLine_21 : decode cX10_addLine 21 = .ok (.iload 6, 2) := by decide +kernel
theorem dX10_addLine_23 : decode cX10_addLine 23 = .ok (.invokestatic 120, 3) := by decide +kernel
theorem dX10_addLine_26 : decode cX10_addLine 26 = .ok (.aload_n 0, 1) := by decide +kernel
theorem dX10_addLine_27 : decode cX10_addLine 27 = .ok (.iload_n 1, 1) := by decide +kernel
theorem dX10_addLine_28 : decode cX10_addLine 28 = .ok (.iload_n 3, 1) := by decide +kernel
theorem dX10_addLine_29 : decode cX10_addLine 29 = .ok (.invokevirtual 124, 3) := by decide +kernel
theorem dX10_addLine_32 : decode cX10_addLine 32 = .ok (.aload_n 0, 1) := by decide +kernel
theorem dX10_addLine_33 : decode cX10_addLine 33 = .ok (.iload_n 1, 1) := by decide +kernel
theorem dX10_addLine_34 : decode cX10_addLine 34 = .ok (.iload_n 3, 1) := by decide +kernel
theorem dX10_addLine_35 : decode cX10_addLine 35 = .ok (.invokevirtual 127, 3) := by decide +kernel
theorem dX10_addLine_38 : decode cX10_addLine 38 = .ok (.aload_n 0, 1) := by decide +kernel
theorem dX10_addLine_39 : decode cX10_addLine 39 = .ok (.iload_n 1, 1) := by decide +kernel
theorem dX10_addLine_40 : decode cX10_addLine 40 = .ok (.iload_n 2, 1) := by decide +kernel
theorem dX10_addLine_41 : decode cX10_addLine 41 = .ok (.iload 5, 2) := by decide +kernel
theorem dX10_addLine_43 : decode cX10_addLine 43 = .ok (.iload 6, 2) := by decide +kernel
theorem dX10_addLine_45 : decode cX10_addLine 45 = .ok (.iconst 0, 1) := by decide +kernel
theorem dX10_addLine_46 : decode cX10_addLine 46 = .ok (.bipush 15, 2) := by decide +kernel
theorem dX10_addLine_48 : decode cX10_addLine 48 = .ok (.invokevirtual 130, 3) := by decide +kernel
theorem dX10_addLine_51 : decode cX10_addLine 51 = .ok (.aload_n 0, 1) := by decide +kernel
theorem dX10_addLine_52 : decode cX10_addLine 52 = .ok (.getfield 10, 3) := by decide +kernel
theorem dX10_addLine_55 : decode cX10_addLine 55 = .ok (.iload_n 1, 1) := by decide +kernel
theorem dX10_addLine_56 : decode cX10_addLine 56 = .ok (.iload_n 2, 1) := by decide +kernel
theorem dX10_addLine_57 : decode cX10_addLine 57 = .ok (.iload_n 3, 1) := by decide +kernel
theorem dX10_addLine_58 : decode cX10_addLine 58 = .ok (.iload 4, 2) := by decide +kernel
theorem dX10_addLine_60 : decode cX10_addLine 60 = .ok (.invokevirtual 134, 3) := by decide +kernel
theorem dX10_addLine_63 : decode cX10_addLine 63 = .ok (.istore 7, 2) := by decide +kernel
theorem dX10_addLine_65 : decode cX10_addLine 65 = .ok (.aload_n 0, 1) := by decide +kernel
theorem dX10_addLine_66 : decode cX10_addLine 66 = .ok (.getfield 10, 3) := by decide +kernel
theorem dX10_addLine_69 : decode cX10_addLine 69 = .ok (.getfield 137, 3) := by decide +kernel
theorem dX10_addLine_72 : decode cX10_addLine 72 = .ok (.iload 7, 2) := by decide +kernel
theorem dX10_addLine_74 : decode cX10_addLine 74 = .ok (.iload 5, 2) := by decide +kernel
theorem dX10_addLine_76 : decode cX10_addLine 76 = .ok (.iload 6, 2) := by decide +kernel
theorem dX10_addLine_78 : decode cX10_addLine 78 = .ok (.invokevirtual 141, 3) := by decide +kernel
theorem dX10_addLine_81 : decode cX10_addLine 81 = .ok (.aload_n 0, 1) := by decide +kernel
theorem dX10_addLine_82 : decode cX10_addLine 82 = .ok (.getfield 10, 3) := by decide +kernel
theorem dX10_addLine_85 : decode cX10_addLine 85 = .ok (.getfield 137, 3) := by decide +kernel
theorem dX10_addLine_88 : decode cX10_addLine 88 = .ok (.iload 7, 2) := by decide +kernel
theorem dX10_addLine_90 : decode cX10_addLine 90 = .ok (.iconst 0, 1) := by decide +kernel
theorem dX10_addLine_91 : decode cX10_addLine 91 = .ok (.bipush 15, 2) := by decide +kernel
theorem dX10_addLine_93 : decode cX10_addLine 93 = .ok (.invokevirtual 147, 3) := by decide +kernel
theorem dX10_addLine_96 : decode cX10_addLine 96 = .ok (.iload 7, 2) := by decide +kernel
theorem dX10_addLine_98 : decode cX10_addLine 98 = .ok (.ireturn, 1) := by decide +kernel
theorem dX10_addVariant_0 : decode cX10_addVariant 0 = .ok (.aload_n 0, 1) := by decide +kernel
theorem dX10_addVariant_1 : decode cX10_addVariant 1 = .ok (.iload_n 1, 1) := by decide +kernel
theorem dX10_addVariant_2 : decode cX10_addVariant 2 = .ok (.invokevirtual 100, 3) := by decide +kernel
theorem dX10_addVariant_5 : decode cX10_addVariant 5 = .ok (.aload_n 0, 1) := by decide +kernel
theorem dX10_addVariant_6 : decode cX10_addVariant 6 = .ok (.iload_n 3, 1) := by decide +kernel
theorem dX10_addVariant_7 : decode cX10_addVariant 7 = .ok (.invokevirtual 100, 3) := by decide +kernel
theorem dX10_addVariant_10 : decode cX10_addVariant 10 = .ok (.iload_n 2, 1) := by decide +kernel
theorem dX10_addVariant_11 : decode cX10_addVariant 11 = .ok (.invokestatic 114, 3) := by decide +kernel
theorem dX10_addVariant_14 : decode cX10_addVariant 14 = .ok (.iload 4, 2) := by decide +kernel
theorem dX10_addVariant_16 : decode cX10_addVariant 16 = .ok (.invokestatic 117, 3) := by decide +kernel
theorem dX10_addVariant_19 : decode cX10_addVariant 19 = .ok (.iload 5, 2) := by decide +kernel
theorem dX10_addVariant_21 : decode cX10_addVariant 21 = .ok (.iload 6, 2) := by decide +kernel
theorem dX10_addVariant_23 : decode cX10_addVariant 23 = .ok (.invokestatic 150, 3) := by decide +kernel
theorem dX10_addVariant_26 : decode cX10_addVariant 26 = .ok (.aload_n 0, 1) := by decide +kernel
theorem dX10_addVariant_27 : decode cX10_addVariant 27 = .ok (.iload_n 1, 1) := by decide +kernel
theorem dX10_addVariant_28 : decode cX10_addVariant 28 = .ok (.iload_n 3, 1) := by decide +kernel
theorem dX10_addVariant_29 : decode cX10_addVariant 29 = .ok (.invokevirtual 124, 3) := by decide +kernel
theorem dX10_addVariant_32 : decode cX10_addVariant 32 = .ok (.aload_n 0, 1) := by decide +kernel
theorem dX10_addVariant_33 : decode cX10_addVariant 33 = .ok (.iload_n 1, 1) := by decide +kernel
theorem dX10_addVariant_34 : decode cX10_addVariant 34 = .ok (.iload_n 3, 1) := by decide +kernel
theorem dX10_addVariant_35 : decode cX10_addVariant 35 = .ok (.invokevirtual 127, 3) := by decide +kernel
theorem dX10_addVariant_38 : decode cX10_addVariant 38 = .ok (.aload_n 0, 1) := by decide +kernel
theorem dX10_addVariant_39 : decode cX10_addVariant 39 = .ok (.iload_n 1, 1) := by decide +kernel
theorem dX10_addVariant_40 : decode cX10_addVariant 40 = .ok (.iload_n 2, 1) := by decide +kernel
theorem dX10_addVariant_41 : decode cX10_addVariant 41 = .ok (.iconst 1, 1) := by decide +kernel
theorem dX10_addVariant_42 : decode cX10_addVariant 42 = .ok (.sipush 999, 3) := by decide +kernel
theorem dX10_addVariant_45 : decode cX10_addVariant 45 = .ok (.iload 5, 2) := by decide +kernel
theorem dX10_addVariant_47 : decode cX10_addVariant 47 = .ok (.iload 6, 2) := by decide +kernel
theorem dX10_addVariant_49 : decode cX10_addVariant 49 = .ok (.invokevirtual 130, 3) := by decide +kernel
theorem dX10_addVariant_52 : decode cX10_addVariant 52 = .ok (.aload_n 0, 1) := by decide +kernel
theorem dX10_addVariant_53 : decode cX10_addVariant 53 = .ok (.getfield 10, 3) := by decide +kernel
theorem dX10_addVariant_56 : decode cX10_addVariant 56 = .ok (.iload_n 1, 1) := by decide +kernel
theorem dX10_addVariant_57 : decode cX10_addVariant 57 = .ok (.iload_n 2, 1) := by decide +kernel
theorem dX10_addVariant_58 : decode cX10_addVariant 58 = .ok (.iload_n 3, 1) := by decide +kernel
theorem dX10_addVariant_59 : decode cX10_addVariant 59 = .ok (.iload 4, 2) := by decide +kernel
theorem dX10_addVariant_61 : decode cX10_addVariant 61 = .ok (.invokevirtual 134, 3) := by decide +kernel
theorem dX10_addVariant_64 : decode cX10_addVariant 64 = .ok (.istore 7, 2) := by decide +kernel
theorem dX10_addVariant_66 : decode cX10_addVariant 66 = .ok (.aload_n 0, 1) := by decide +kernel
theorem dX10_addVariant_67 : decode cX10_addVariant 67 = .ok (.getfield 10, 3) := by decide +kernel
theorem dX10_addVariant_70 : decode cX10_addVariant 70 = .ok (.getfield 137, 3) := by decide +kernel
theorem dX10_addVariant_73 : decode cX10_addVariant 73 = .ok (.iload 7, 2) := by decide +kernel
theorem dX10_addVariant_75 : decode cX10_addVariant 75 = .ok (.iconst 1, 1) := by decide +kernel
theorem dX10_addVariant_76 : decode cX10_addVariant 76 = .ok (.sipush 999, 3) := by decide +kernel
theorem dX10_addVariant_79 : decode cX10_addVariant 79 = .ok (.invokevirtual 141, 3) := by decide +kernel
theorem dX10_addVariant_82 : decode cX10_addVariant 82 = .ok (.aload_n 0, 1) := by decide +kernel
theorem dX10_addVariant_83 : decode cX10_addVariant 83 = .ok (.getfield 10, 3) := by decide +kernel
theorem dX10_addVariant_86 : decode cX10_addVariant 86 = .ok (.getfield 137, 3) := by decide +kernel
theorem dX10_addVariant_89 : decode cX10_addVariant 89 = .ok (.iload 7, 2) := by decide +kernel
theorem dX10_addVariant_91 : decode cX10_addVariant 91 = .ok (.iload 5, 2) := by decide +kernel
theorem dX10_addVariant_93 : decode cX10_addVariant 93 = .ok (.iload 6, 2) := by decide +kernel
theorem dX10_addVariant_95 : decode cX10_addVariant 95 = .ok (.invokevirtual 147, 3) := by decide +kernel
theorem dX10_addVariant_98 : decode cX10_addVariant 98 = .ok (.iload 7, 2) := by decide +kernel
theorem dX10_addVariant_100 : decode cX10_addVariant 100 = .ok (.ireturn, 1) := by decide +kernel
theorem dX10_replaceFrom_0 : decode cX10_replaceFrom 0 = .ok (.aload_n 0, 1) := by decide +kernel
theorem dX10_replaceFrom_1 : decode cX10_replaceFrom 1 = .ok (.iload_n 1, 1) := by decide +kernel
theorem dX10_replaceFrom_2 : decode cX10_replaceFrom 2 = .ok (.invokevirtual 153, 3) := by decide +kernel
theorem dX10_replaceFrom_5 : decode cX10_replaceFrom 5 = .ok (.aload_n 0, 1) := by decide +kernel
theorem dX10_replaceFrom_6 : decode cX10_replaceFrom 6 = .ok (.iload_n 3, 1) := by decide +kernel
theorem dX10_replaceFrom_7 : decode cX10_replaceFrom 7 = .ok (.invokevirtual 100, 3) := by decide +kernel
theorem dX10_replaceFrom_10 : decode cX10_replaceFrom 10 = .ok (.iload 4, 2) := by decide +kernel
theorem dX10_replaceFrom_12 : decode cX10_replaceFrom 12 = .ok (.invokestatic 117, 3) := by decide +kernel
theorem dX10_replaceFrom_15 : decode cX10_replaceFrom 15 = .ok (.aload_n 0, 1) := by decide +kernel
theorem dX10_replaceFrom_16 : decode cX10_replaceFrom 16 = .ok (.iload_n 1, 1) := by decide +kernel
theorem dX10_replaceFrom_17 : decode cX10_replaceFrom 17 = .ok (.iload_n 2, 1) := by decide +kernel
theorem dX10_replaceFrom_18 : decode cX10_replaceFrom 18 = .ok (.invokevirtual 156, 3) := by decide +kernel
theorem dX10_replaceFrom_21 : decode cX10_replaceFrom 21 = .ok (.aload_n 0, 1) := by decide +kernel
theorem dX10_replaceFrom_22 : decode cX10_replaceFrom 22 = .ok (.getfield 10, 3) := by decide +kernel
theorem dX10_replaceFrom_25 : decode cX10_replaceFrom 25 = .ok (.getfield 137, 3) := by decide +kernel
theorem dX10_replaceFrom_28 : decode cX10_replaceFrom 28 = .ok (.getfield 159, 3) := by decide +kernel
theorem dX10_replaceFrom_31 : decode cX10_replaceFrom 31 = .ok (.iload_n 1, 1) := by decide +kernel
theorem dX10_replaceFrom_32 : decode cX10_replaceFrom 32 = .ok (.iaload, 1) := by decide +kernel
theorem dX10_replaceFrom_33 : decode cX10_replaceFrom 33 = .ok (.istore 5, 2) := by decide +kernel
theorem dX10_replaceFrom_35 : decode cX10_replaceFrom 35 = .ok (.aload_n 0, 1) := by decide +kernel
theorem dX10_replaceFrom_36 : decode cX10_replaceFrom 36 = .ok (.iload 5, 2) := by decide +kernel
theorem dX10_replaceFrom_38 : decode cX10_replaceFrom 38 = .ok (.iload_n 3, 1) := by decide +kernel
theorem dX10_replaceFrom_39 : decode cX10_replaceFrom 39 = .ok (.invokevirtual 124, 3) := by decide +kernel
theorem dX10_replaceFrom_42 : decode cX10_replaceFrom 42 = .ok (.aload_n 0, 1) := by decide +kernel
theorem dX10_replaceFrom_43 : decode cX10_replaceFrom 43 = .ok (.iload 5, 2) := by decide +kernel
theorem dX10_replaceFrom_45 : decode cX10_replaceFrom 45 = .ok (.iload_n 3, 1) := by decide +kernel
theorem dX10_replaceFrom_46 : decode cX10_replaceFrom 46 = .ok (.invokevirtual 127, 3) := by decide +kernel
theorem dX10_replaceFrom_49 : decode cX10_replaceFrom 49 = .ok (.aload_n 0, 1) := by decide +kernel
theorem dX10_replaceFrom_50 : decode cX10_replaceFrom 50 = .ok (.getfield 10, 3) := by decide +kernel
theorem dX10_replaceFrom_53 : decode cX10_replaceFrom 53 = .ok (.iload 5, 2) := by decide +kernel
theorem dX10_replaceFrom_55 : decode cX10_replaceFrom 55 = .ok (.aload_n 0, 1) := by decide +kernel
theorem dX10_replaceFrom_56 : decode cX10_replaceFrom 56 = .ok (.getfield 10, 3) := by decide +kernel
theorem dX10_replaceFrom_59 : decode cX10_replaceFrom 59 = .ok (.getfield 137, 3) := by decide +kernel
theorem dX10_replaceFrom_62 : decode cX10_replaceFrom 62 = .ok (.getfield 162, 3) := by decide +kernel
theorem dX10_replaceFrom_65 : decode cX10_replaceFrom 65 = .ok (.iload_n 1, 1) := by decide +kernel
theorem dX10_replaceFrom_66 : decode cX10_replaceFrom 66 = .ok (.iaload, 1) := by decide +kernel
theorem dX10_replaceFrom_67 : decode cX10_replaceFrom 67 = .ok (.iload_n 3, 1) := by decide +kernel
theorem dX10_replaceFrom_68 : decode cX10_replaceFrom 68 = .ok (.iload 4, 2) := by decide +kernel
theorem dX10_replaceFrom_70 : decode cX10_replaceFrom 70 = .ok (.invokevirtual 134, 3) := by decide +kernel
theorem dX10_replaceFrom_73 : decode cX10_replaceFrom 73 = .ok (.istore 6, 2) := by decide +kernel
theorem dX10_replaceFrom_75 : decode cX10_replaceFrom 75 = .ok (.aload_n 0, 1) := by decide +kernel
theorem dX10_replaceFrom_76 : decode cX10_replaceFrom 76 = .ok (.getfield 10, 3) := by decide +kernel
theorem dX10_replaceFrom_79 : decode cX10_replaceFrom 79 = .ok (.getfield 137, 3) := by decide +kernel
theorem dX10_replaceFrom_82 : decode cX10_replaceFrom 82 = .ok (.iload 6, 2) := by decide +kernel
theorem dX10_replaceFrom_84 : decode cX10_replaceFrom 84 = .ok (.iload_n 2, 1) := by decide +kernel
theorem dX10_replaceFrom_85 : decode cX10_replaceFrom 85 = .ok (.aload_n 0, 1) := by decide +kernel
theorem dX10_replaceFrom_86 : decode cX10_replaceFrom 86 = .ok (.getfield 10, 3) := by decide +kernel
theorem dX10_replaceFrom_89 : decode cX10_replaceFrom 89 = .ok (.getfield 137, 3) := by decide +kernel
theorem dX10_replaceFrom_92 : decode cX10_replaceFrom 92 = .ok (.getfield 165, 3) := by decide +kernel
theorem dX10_replaceFrom_95 : decode cX10_replaceFrom 95 = .ok (.iload_n 1, 1) := by decide +kernel
theorem dX10_replaceFrom_96 : decode cX10_replaceFrom 96 = .ok (.iaload, 1) := by decide +kernel
theorem dX10_replaceFrom_97 : decode cX10_replaceFrom 97 = .ok (.invokevirtual 141, 3) := by decide +kernel
theorem dX10_replaceFrom_100 : decode cX10_replaceFrom 100 = .ok (.aload_n 0, 1) := by decide +kernel
theorem dX10_replaceFrom_101 : decode cX10_replaceFrom 101 = .ok (.getfield 10, 3) := by decide +kernel
theorem dX10_replaceFrom_104 : decode cX10_replaceFrom 104 = .ok (.getfield 137, 3) := by decide +kernel
theorem dX10_replaceFrom_107 : decode cX10_replaceFrom 107 = .ok (.iload 6, 2) := by decide +kernel
theorem dX10_replaceFrom_109 : decode cX10_replaceFrom 109 = .ok (.aload_n 0, 1) := by decide +kernel
theorem dX10_replaceFrom_110 : decode cX10_replaceFrom 110 = .ok (.getfield 10, 3) := by decide +kernel
theorem dX10_replaceFrom_113 : decode cX10_replaceFrom 113 = .ok (.getfield 137, 3) := by decide +kernel
theorem dX10_replaceFrom_116 : decode cX10_replaceFrom 116 = .ok (.getfield 168, 3) := by decide +kernel
theorem dX10_replaceFrom_119 : decode cX10_replaceFrom 119 = .ok (.iload_n 1, 1) := by decide +kernel
theorem dX10_replaceFrom_120 : decode cX10_replaceFrom 120 = .ok (.iaload, 1) := by decide +kernel
theorem dX10_replaceFrom_121 : decode cX10_replaceFrom 121 = .ok (.aload_n 0, 1) := by decide +kernel
theorem dX10_replaceFrom_122 : decode cX10_replaceFrom 122 = .ok (.getfield 10, 3) := by decide +kernel
theorem dX10_replaceFrom_125 : decode cX10_replaceFrom 125 = .ok (.getfield 137, 3) := by decide +kernel
theorem dX10_replaceFrom_128 : decode cX10_replaceFrom 128 = .ok (.getfield 171, 3) := by decide +kernel
theorem dX10_replaceFrom_131 : decode cX10_replaceFrom 131 = .ok (.iload_n 1, 1) := by decide +kernel
theorem dX10_replaceFrom_132 : decode cX10_replaceFrom 132 = .ok (.iaload, 1) := by decide +kernel
theorem dX10_replaceFrom_133 : decode cX10_replaceFrom 133 = .ok (.invokevirtual 147, 3) := by decide +kernel
theorem dX10_replaceFrom_136 : decode cX10_replaceFrom 136 = .ok (.aload_n 0, 1) := by decide +kernel
theorem dX10_replaceFrom_137 : decode cX10_replaceFrom 137 = .ok (.getfield 10, 3) := by decide +kernel
theorem dX10_replaceFrom_140 : decode cX10_replaceFrom 140 = .ok (.getfield 137, 3) := by decide +kernel
theorem dX10_replaceFrom_143 : decode cX10_replaceFrom 143 = .ok (.getfield 174, 3) := by decide +kernel
theorem dX10_replaceFrom_146 : decode cX10_replaceFrom 146 = .ok (.iload 6, 2) := by decide +kernel
theorem dX10_replaceFrom_148 : decode cX10_replaceFrom 148 = .ok (.aload_n 0, 1) := by decide +kernel
theorem dX10_replaceFrom_149 : decode cX10_replaceFrom 149 = .ok (.getfield 10, 3) := by decide +kernel
theorem dX10_replaceFrom_152 : decode cX10_replaceFrom 152 = .ok (.getfield 137, 3) := by decide +kernel
theorem dX10_replaceFrom_155 : decode cX10_replaceFrom 155 = .ok (.getfield 174, 3) := by decide +kernel
theorem dX10_replaceFrom_158 : decode cX10_replaceFrom 158 = .ok (.iload_n 1, 1) := by decide +kernel
theorem dX10_replaceFrom_159 : decode cX10_replaceFrom 159 = .ok (.iaload, 1) := by decide +kernel
theorem dX10_replaceFrom_160 : decode cX10_replaceFrom 160 = .ok (.iastore, 1) := by decide +kernel
theorem dX10_replaceFrom_161 : decode cX10_replaceFrom 161 = .ok (.aload_n 0, 1) := by decide +kernel
theorem dX10_replaceFrom_162 : decode cX10_replaceFrom 162 = .ok (.getfield 10, 3) := by decide +kernel
theorem dX10_replaceFrom_165 : decode cX10_replaceFrom 165 = .ok (.getfield 137, 3) := by decide +kernel
theorem dX10_replaceFrom_168 : decode cX10_replaceFrom 168 = .ok (.getfield 165, 3) := by decide +kernel
theorem dX10_replaceFrom_171 : decode cX10_replaceFrom 171 = .ok (.iload_n 1, 1) := by decide +kernel
theorem dX10_replaceFrom_172 : decode cX10_replaceFrom 172 = .ok (.iload_n 2, 1) := by decide +kernel
theorem dX10_replaceFrom_173 : decode cX10_replaceFrom 173 = .ok (.iconst 1, 1) := by decide +kernel
theorem dX10_replaceFrom_174 : decode cX10_replaceFrom 174 = .ok (.isub, 1) := by decide +kernel
theorem dX10_replaceFrom_175 : decode cX10_replaceFrom 175 = .ok (.iastore, 1) := by decide +kernel
theorem dX10_replaceFrom_176 : decode cX10_replaceFrom 176 = .ok (.iload 6, 2) := by decide +kernel
theorem dX10_replaceFrom_178 : decode cX10_replaceFrom 178 = .ok (.ireturn, 1) := by decide +kernel
theorem dX10_endBefore_0 : decode cX10_endBefore 0 = .ok (.aload_n 0, 1) := by decide +kernel
theorem dX10_endBefore_1 : decode cX10_endBefore 1 = .ok (.iload_n 1, 1) := by decide +kernel
theorem dX10_endBefore_2 : decode cX10_endBefore 2 = .ok (.invokevirtual 153, 3) := by decide +kernel
theorem dX10_endBefore_5 : decode cX10_endBefore 5 = .ok (.aload_n 0, 1) := by decide +kernel
theorem dX10_endBefore_6 : decode cX10_endBefore 6 = .ok (.iload_n 1, 1) := by decide +kernel
theorem dX10_endBefore_7 : decode cX10_endBefore 7 = .ok (.iload_n 2, 1) := by decide +kernel
theorem dX10_endBefore_8 : decode cX10_endBefore 8 = .ok (.invokevirtual 156, 3) := by decide +kernel
theorem dX10_endBefore_11 : decode cX10_endBefore 11 = .ok (.aload_n 0, 1) := by decide +kernel
theorem dX10_endBefore_12 : decode cX10_endBefore 12 = .ok (.getfield 10, 3) := by decide +kernel
theorem dX10_endBefore_15 : decode cX10_endBefore 15 = .ok (.getfield 137, 3) := by decide +kernel
theorem dX10_endBefore_18 : decode cX10_endBefore 18 = .ok (.getfield 165, 3) := by decide +kernel
theorem dX10_endBefore_21 : decode cX10_endBefore 21 = .ok (.iload_n 1, 1) := by decide +kernel
theorem dX10_endBefore_22 : decode cX10_endBefore 22 = .ok (.iaload, 1) := by decide +kernel
theorem dX10_endBefore_23 : decode cX10_endBefore 23 = .ok (.istore_n 3, 1) := by decide +kernel
theorem dX10_endBefore_24 : decode cX10_endBefore 24 = .ok (.aload_n 0, 1) := by decide +kernel
theorem dX10_endBefore_25 : decode cX10_endBefore 25 = .ok (.getfield 10, 3) := by decide +kernel
theorem dX10_endBefore_28 : decode cX10_endBefore 28 = .ok (.getfield 137, 3) := by decide +kernel
theorem dX10_endBefore_31 : decode cX10_endBefore 31 = .ok (.getfield 165, 3) := by decide +kernel
theorem dX10_endBefore_34 : decode cX10_endBefore 34 = .ok (.iload_n 1, 1) := by decide +kernel
theorem dX10_endBefore_35 : decode cX10_endBefore 35 = .ok (.iload_n 2, 1) := by decide +kernel
theorem dX10_endBefore_36 : decode cX10_endBefore 36 = .ok (.iconst 1, 1) := by decide +kernel
theorem dX10_endBefore_37 : decode cX10_endBefore 37 = .ok (.isub, 1) := by decide +kernel
theorem dX10_endBefore_38 : decode cX10_endBefore 38 = .ok (.iastore, 1) := by decide +kernel
theorem dX10_endBefore_39 : decode cX10_endBefore 39 = .ok (.iload_n 3, 1) := by decide +kernel
theorem dX10_endBefore_40 : decode cX10_endBefore 40 = .ok (.ireturn, 1) := by decide +kernel
theorem dX10_setScrap_0 : decode cX10_setScrap 0 = .ok (.aload_n 0, 1) := by decide +kernel
theorem dX10_setScrap_1 : decode cX10_setScrap 1 = .ok (.iload_n 1, 1) := by decide +kernel
theorem dX10_setScrap_2 : decode cX10_setScrap 2 = .ok (.invokevirtual 153, 3) := by decide +kernel
theorem dX10_setScrap_5 : decode cX10_setScrap 5 = .ok (.iload_n 2, 1) := by decide +kernel
theorem dX10_setScrap_6 : decode cX10_setScrap 6 = .ok (.iconst 0, 1) := by decide +kernel
theorem dX10_setScrap_7 : decode cX10_setScrap 7 = .ok (.bipush 50, 2) := by decide +kernel
theorem dX10_setScrap_9 : decode cX10_setScrap 9 = .ok (.invokestatic 177, 3) := by decide +kernel
theorem dX10_setScrap_12 : decode cX10_setScrap 12 = .ok (.ifCond .ne 13, 3) := by decide +kernel
theorem dX10_setScrap_15 : decode cX10_setScrap 15 = .ok (.new 181, 3) := by decide +kernel
theorem dX10_setScrap_18 : decode cX10_setScrap 18 = .ok (.dup, 1) := by decide +kernel
theorem dX10_setScrap_19 : decode cX10_setScrap 19 = .ok (.ldc 183, 2) := by decide +kernel
theorem dX10_setScrap_21 : decode cX10_setScrap 21 = .ok (.invokespecial 185, 3) := by decide +kernel
theorem dX10_setScrap_24 : decode cX10_setScrap 24 = .ok (.athrow, 1) := by decide +kernel
theorem dX10_setScrap_25 : decode cX10_setScrap 25 = .ok (.aload_n 0, 1) := by decide +kernel
theorem dX10_setScrap_26 : decode cX10_setScrap 26 = .ok (.getfield 10, 3) := by decide +kernel
theorem dX10_setScrap_29 : decode cX10_setScrap 29 = .ok (.getfield 137, 3) := by decide +kernel
theorem dX10_setScrap_32 : decode cX10_setScrap 32 = .ok (.getfield 174, 3) := by decide +kernel
theorem dX10_setScrap_35 : decode cX10_setScrap 35 = .ok (.iload_n 1, 1) := by decide +kernel
theorem dX10_setScrap_36 : decode cX10_setScrap 36 = .ok (.iaload, 1) := by decide +kernel
theorem dX10_setScrap_37 : decode cX10_setScrap 37 = .ok (.istore_n 3, 1) := by decide +kernel
theorem dX10_setScrap_38 : decode cX10_setScrap 38 = .ok (.aload_n 0, 1) := by decide +kernel
theorem dX10_setScrap_39 : decode cX10_setScrap 39 = .ok (.getfield 10, 3) := by decide +kernel
theorem dX10_setScrap_42 : decode cX10_setScrap 42 = .ok (.getfield 137, 3) := by decide +kernel
theorem dX10_setScrap_45 : decode cX10_setScrap 45 = .ok (.getfield 174, 3) := by decide +kernel
theorem dX10_setScrap_48 : decode cX10_setScrap 48 = .ok (.iload_n 1, 1) := by decide +kernel
theorem dX10_setScrap_49 : decode cX10_setScrap 49 = .ok (.iload_n 2, 1) := by decide +kernel
theorem dX10_setScrap_50 : decode cX10_setScrap 50 = .ok (.iastore, 1) := by decide +kernel
theorem dX10_setScrap_51 : decode cX10_setScrap 51 = .ok (.iload_n 3, 1) := by decide +kernel
theorem dX10_setScrap_52 : decode cX10_setScrap 52 = .ok (.ireturn, 1) := by decide +kernel
theorem dX10_lines_0 : decode cX10_lines 0 = .ok (.aload_n 0, 1) := by decide +kernel
theorem dX10_lines_1 : decode cX10_lines 1 = .ok (.getfield 10, 3) := by decide +kernel
theorem dX10_lines_4 : decode cX10_lines 4 = .ok (.getfield 137, 3) := by decide +kernel
theorem dX10_lines_7 : decode cX10_lines 7 = .ok (.getfield 186, 3) := by decide +kernel
theorem dX10_lines_10 : decode cX10_lines 10 = .ok (.ireturn, 1) := by decide +kernel
theorem dX10_lastSerial_0 : decode cX10_lastSerial 0 = .ok (.aload_n 0, 1) := by decide +kernel
theorem dX10_lastSerial_1 : decode cX10_lastSerial 1 = .ok (.iload_n 1, 1) := by decide +kernel
theorem dX10_lastSerial_2 : decode cX10_lastSerial 2 = .ok (.invokevirtual 153, 3) := by decide +kernel
theorem dX10_lastSerial_5 : decode cX10_lastSerial 5 = .ok (.aload_n 0, 1) := by decide +kernel
theorem dX10_lastSerial_6 : decode cX10_lastSerial 6 = .ok (.getfield 10, 3) := by decide +kernel
theorem dX10_lastSerial_9 : decode cX10_lastSerial 9 = .ok (.getfield 137, 3) := by decide +kernel
theorem dX10_lastSerial_12 : decode cX10_lastSerial 12 = .ok (.getfield 165, 3) := by decide +kernel
theorem dX10_lastSerial_15 : decode cX10_lastSerial 15 = .ok (.iload_n 1, 1) := by decide +kernel
theorem dX10_lastSerial_16 : decode cX10_lastSerial 16 = .ok (.iaload, 1) := by decide +kernel
theorem dX10_lastSerial_17 : decode cX10_lastSerial 17 = .ok (.ireturn, 1) := by decide +kernel
theorem dX10_holds_0 : decode cX10_holds 0 = .ok (.aload_n 0, 1) := by decide +kernel
theorem dX10_holds_1 : decode cX10_holds 1 = .ok (.iload_n 1, 1) := by decide +kernel
theorem dX10_holds_2 : decode cX10_holds 2 = .ok (.invokevirtual 153, 3) := by decide +kernel
theorem dX10_holds_5 : decode cX10_holds 5 = .ok (.iload_n 2, 1) := by decide +kernel
theorem dX10_holds_6 : decode cX10_holds 6 = .ok (.invokestatic 187, 3) := by decide +kernel
theorem dX10_holds_9 : decode cX10_holds 9 = .ok (.aload_n 0, 1) := by decide +kernel
theorem dX10_holds_10 : decode cX10_holds 10 = .ok (.getfield 10, 3) := by decide +kernel
theorem dX10_holds_13 : decode cX10_holds 13 = .ok (.getfield 137, 3) := by decide +kernel
theorem dX10_holds_16 : decode cX10_holds 16 = .ok (.iload_n 1, 1) := by decide +kernel
theorem dX10_holds_17 : decode cX10_holds 17 = .ok (.iload_n 2, 1) := by decide +kernel
theorem dX10_holds_18 : decode cX10_holds 18 = .ok (.aload_n 0, 1) := by decide +kernel
theorem dX10_holds_19 : decode cX10_holds 19 = .ok (.getfield 66, 3) := by decide +kernel
theorem dX10_holds_22 : decode cX10_holds 22 = .ok (.invokevirtual 190, 3) := by decide +kernel
theorem dX10_holds_25 : decode cX10_holds 25 = .ok (.ireturn, 1) := by decide +kernel
theorem dX10_setChoice_0 : decode cX10_setChoice 0 = .ok (.iload_n 1, 1) := by decide +kernel
theorem dX10_setChoice_1 : decode cX10_setChoice 1 = .ok (.invokestatic 193, 3) := by decide +kernel
theorem dX10_setChoice_4 : decode cX10_setChoice 4 = .ok (.iload_n 2, 1) := by decide +kernel
theorem dX10_setChoice_5 : decode cX10_setChoice 5 = .ok (.iconst 0, 1) := by decide +kernel
theorem dX10_setChoice_6 : decode cX10_setChoice 6 = .ok (.iconst 3, 1) := by decide +kernel
theorem dX10_setChoice_7 : decode cX10_setChoice 7 = .ok (.invokestatic 177, 3) := by decide +kernel
theorem dX10_setChoice_10 : decode cX10_setChoice 10 = .ok (.ifCond .ne 13, 3) := by decide +kernel
theorem dX10_setChoice_13 : decode cX10_setChoice 13 = .ok (.new 181, 3) := by decide +kernel
theorem dX10_setChoice_16 : decode cX10_setChoice 16 = .ok (.dup, 1) := by decide +kernel
theorem dX10_setChoice_17 : decode cX10_setChoice 17 = .ok (.ldc 196, 2) := by decide +kernel
theorem dX10_setChoice_19 : decode cX10_setChoice 19 = .ok (.invokespecial 185, 3) := by decide +kernel
theorem dX10_setChoice_22 : decode cX10_setChoice 22 = .ok (.athrow, 1) := by decide +kernel
theorem dX10_setChoice_23 : decode cX10_setChoice 23 = .ok (.aload_n 0, 1) := by decide +kernel
theorem dX10_setChoice_24 : decode cX10_setChoice 24 = .ok (.getfield 66, 3) := by decide +kernel
theorem dX10_setChoice_27 : decode cX10_setChoice 27 = .ok (.iload_n 1, 1) := by decide +kernel
theorem dX10_setChoice_28 : decode cX10_setChoice 28 = .ok (.invokestatic 198, 3) := by decide +kernel
theorem dX10_setChoice_31 : decode cX10_setChoice 31 = .ok (.istore_n 3, 1) := by decide +kernel
theorem dX10_setChoice_32 : decode cX10_setChoice 32 = .ok (.aload_n 0, 1) := by decide +kernel
theorem dX10_setChoice_33 : decode cX10_setChoice 33 = .ok (.aload_n 0, 1) := by decide +kernel
theorem dX10_setChoice_34 : decode cX10_setChoice 34 = .ok (.getfield 66, 3) := by decide +kernel
theorem dX10_setChoice_37 : decode cX10_setChoice 37 = .ok (.iconst 3, 1) := by decide +kernel
theorem dX10_setChoice_38 : decode cX10_setChoice 38 = .ok (.iconst 2, 1) := by decide +kernel
theorem dX10_setChoice_39 : decode cX10_setChoice 39 = .ok (.iload_n 1, 1) := by decide +kernel
theorem dX10_setChoice_40 : decode cX10_setChoice 40 = .ok (.imul, 1) := by decide +kernel
theorem dX10_setChoice_41 : decode cX10_setChoice 41 = .ok (.ishl, 1) := by decide +kernel
theorem dX10_setChoice_42 : decode cX10_setChoice 42 = .ok (.iconst (-1), 1) := by decide +kernel
theorem dX10_setChoice_43 : decode cX10_setChoice 43 = .ok (.ixor, 1) := by decide +kernel
theorem dX10_setChoice_44 : decode cX10_setChoice 44 = .ok (.iand, 1) := by decide +kernel
theorem dX10_setChoice_45 : decode cX10_setChoice 45 = .ok (.iload_n 2, 1) := by decide +kernel
theorem dX10_setChoice_46 : decode cX10_setChoice 46 = .ok (.iconst 2, 1) := by decide +kernel
theorem dX10_setChoice_47 : decode cX10_setChoice 47 = .ok (.iload_n 1, 1) := by decide +kernel
theorem dX10_setChoice_48 : decode cX10_setChoice 48 = .ok (.imul, 1) := by decide +kernel
theorem dX10_setChoice_49 : decode cX10_setChoice 49 = .ok (.ishl, 1) := by decide +kernel
theorem dX10_setChoice_50 : decode cX10_setChoice 50 = .ok (.ior, 1) := by decide +kernel
theorem dX10_setChoice_51 : decode cX10_setChoice 51 = .ok (.putfield 66, 3) := by decide +kernel
theorem dX10_setChoice_54 : decode cX10_setChoice 54 = .ok (.iload_n 3, 1) := by decide +kernel
theorem dX10_setChoice_55 : decode cX10_setChoice 55 = .ok (.ireturn, 1) := by decide +kernel
theorem dX10_choice_0 : decode cX10_choice 0 = .ok (.iload_n 1, 1) := by decide +kernel
theorem dX10_choice_1 : decode cX10_choice 1 = .ok (.invokestatic 193, 3) := by decide +kernel
theorem dX10_choice_4 : decode cX10_choice 4 = .ok (.aload_n 0, 1) := by decide +kernel
theorem dX10_choice_5 : decode cX10_choice 5 = .ok (.getfield 66, 3) := by decide +kernel
theorem dX10_choice_8 : decode cX10_choice 8 = .ok (.iload_n 1, 1) := by decide +kernel
theorem dX10_choice_9 : decode cX10_choice 9 = .ok (.invokestatic 198, 3) := by decide +kernel
theorem dX10_choice_12 : decode cX10_choice 12 = .ok (.ireturn, 1) := by decide +kernel
theorem dX10_listSize_0 : decode cX10_listSize 0 = .ok (.aload_n 0, 1) := by decide +kernel
theorem dX10_listSize_1 : decode cX10_listSize 1 = .ok (.iload_n 1, 1) := by decide +kernel
theorem dX10_listSize_2 : decode cX10_listSize 2 = .ok (.iload_n 2, 1) := by decide +kernel
theorem dX10_listSize_3 : decode cX10_listSize 3 = .ok (.invokevirtual 202, 3) := by decide +kernel
theorem dX10_listSize_6 : decode cX10_listSize 6 = .ok (.aload_n 0, 1) := by decide +kernel
theorem dX10_listSize_7 : decode cX10_listSize 7 = .ok (.getfield 47, 3) := by decide +kernel
theorem dX10_listSize_10 : decode cX10_listSize 10 = .ok (.getfield 205, 3) := by decide +kernel
theorem dX10_listSize_13 : decode cX10_listSize 13 = .ok (.ireturn, 1) := by decide +kernel
theorem dX10_listPart_0 : decode cX10_listPart 0 = .ok (.aload_n 0, 1) := by decide +kernel
theorem dX10_listPart_1 : decode cX10_listPart 1 = .ok (.iload_n 1, 1) := by decide +kernel
theorem dX10_listPart_2 : decode cX10_listPart 2 = .ok (.iload_n 2, 1) := by decide +kernel
theorem dX10_listPart_3 : decode cX10_listPart 3 = .ok (.invokevirtual 202, 3) := by decide +kernel
theorem dX10_listPart_6 : decode cX10_listPart 6 = .ok (.aload_n 0, 1) := by decide +kernel
theorem dX10_listPart_7 : decode cX10_listPart 7 = .ok (.iload_n 3, 1) := by decide +kernel
theorem dX10_listPart_8 : decode cX10_listPart 8 = .ok (.invokevirtual 208, 3) := by decide +kernel
theorem dX10_listPart_11 : decode cX10_listPart 11 = .ok (.aload_n 0, 1) := by decide +kernel
theorem dX10_listPart_12 : decode cX10_listPart 12 = .ok (.getfield 47, 3) := by decide +kernel
theorem dX10_listPart_15 : decode cX10_listPart 15 = .ok (.getfield 211, 3) := by decide +kernel
theorem dX10_listPart_18 : decode cX10_listPart 18 = .ok (.iload_n 3, 1) := by decide +kernel
theorem dX10_listPart_19 : decode cX10_listPart 19 = .ok (.iaload, 1) := by decide +kernel
theorem dX10_listPart_20 : decode cX10_listPart 20 = .ok (.ireturn, 1) := by decide +kernel
theorem dX10_listQuantity_0 : decode cX10_listQuantity 0 = .ok (.aload_n 0, 1) := by decide +kernel
theorem dX10_listQuantity_1 : decode cX10_listQuantity 1 = .ok (.iload_n 1, 1) := by decide +kernel
theorem dX10_listQuantity_2 : decode cX10_listQuantity 2 = .ok (.iload_n 2, 1) := by decide +kernel
theorem dX10_listQuantity_3 : decode cX10_listQuantity 3 = .ok (.invokevirtual 202, 3) := by decide +kernel
theorem dX10_listQuantity_6 : decode cX10_listQuantity 6 = .ok (.aload_n 0, 1) := by decide +kernel
theorem dX10_listQuantity_7 : decode cX10_listQuantity 7 = .ok (.iload_n 3, 1) := by decide +kernel
theorem dX10_listQuantity_8 : decode cX10_listQuantity 8 = .ok (.invokevirtual 208, 3) := by decide +kernel
theorem dX10_listQuantity_11 : decode cX10_listQuantity 11 = .ok (.aload_n 0, 1) := by decide +kernel
theorem dX10_listQuantity_12 : decode cX10_listQuantity 12 = .ok (.getfield 47, 3) := by decide +kernel
theorem dX10_listQuantity_15 : decode cX10_listQuantity 15 = .ok (.getfield 214, 3) := by decide +kernel
theorem dX10_listQuantity_18 : decode cX10_listQuantity 18 = .ok (.iload_n 3, 1) := by decide +kernel
theorem dX10_listQuantity_19 : decode cX10_listQuantity 19 = .ok (.laload, 1) := by decide +kernel
theorem dX10_listQuantity_20 : decode cX10_listQuantity 20 = .ok (.lreturn, 1) := by decide +kernel
theorem dX10_writeList_0 : decode cX10_writeList 0 = .ok (.aload_n 0, 1) := by decide +kernel
theorem dX10_writeList_1 : decode cX10_writeList 1 = .ok (.iload_n 1, 1) := by decide +kernel
theorem dX10_writeList_2 : decode cX10_writeList 2 = .ok (.iload_n 2, 1) := by decide +kernel
theorem dX10_writeList_3 : decode cX10_writeList 3 = .ok (.invokevirtual 202, 3) := by decide +kernel
theorem dX10_writeList_6 : decode cX10_writeList 6 = .ok (.aload_n 0, 1) := by decide +kernel
theorem dX10_writeList_7 : decode cX10_writeList 7 = .ok (.getfield 54, 3) := by decide +kernel
theorem dX10_writeList_10 : decode cX10_writeList 10 = .ok (.invokevirtual 218, 3) := by decide +kernel
theorem dX10_writeList_13 : decode cX10_writeList 13 = .ok (.iconst 0, 1) := by decide +kernel
theorem dX10_writeList_14 : decode cX10_writeList 14 = .ok (.istore_n 3, 1) := by decide +kernel
theorem dX10_writeList_15 : decode cX10_writeList 15 = .ok (.iload_n 3, 1) := by decide +kernel
theorem dX10_writeList_16 : decode cX10_writeList 16 = .ok (.aload_n 0, 1) := by decide +kernel
theorem dX10_writeList_17 : decode cX10_writeList 17 = .ok (.getfield 47, 3) := by decide +kernel
theorem dX10_writeList_20 : decode cX10_writeList 20 = .ok (.getfield 205, 3) := by decide +kernel
theorem dX10_writeList_23 : decode cX10_writeList 23 = .ok (.if_icmp .ge 64, 3) := by decide +kernel
theorem dX10_writeList_26 : decode cX10_writeList 26 = .ok (.iload_n 3, 1) := by decide +kernel
theorem dX10_writeList_27 : decode cX10_writeList 27 = .ok (.ifCond .le 12, 3) := by decide +kernel
theorem dX10_writeList_30 : decode cX10_writeList 30 = .ok (.aload_n 0, 1) := by decide +kernel
theorem dX10_writeList_31 : decode cX10_writeList 31 = .ok (.getfield 54, 3) := by decide +kernel
theorem dX10_writeList_34 : decode cX10_writeList 34 = .ok (.bipush 44, 2) := by decide +kernel
theorem dX10_writeList_36 : decode cX10_writeList 36 = .ok (.invokevirtual 221, 3) := by decide +kernel
theorem dX10_writeList_39 : decode cX10_writeList 39 = .ok (.aload_n 0, 1) := by decide +kernel
theorem dX10_writeList_40 : decode cX10_writeList 40 = .ok (.getfield 54, 3) := by decide +kernel
theorem dX10_writeList_43 : decode cX10_writeList 43 = .ok (.aload_n 0, 1) := by decide +kernel
theorem dX10_writeList_44 : decode cX10_writeList 44 = .ok (.getfield 47, 3) := by decide +kernel
theorem dX10_writeList_47 : decode cX10_writeList 47 = .ok (.getfield 214, 3) := by decide +kernel
theorem dX10_writeList_50 : decode cX10_writeList 50 = .ok (.iload_n 3, 1) := by decide +kernel
theorem dX10_writeList_51 : decode cX10_writeList 51 = .ok (.laload, 1) := by decide +kernel
theorem dX10_writeList_52 : decode cX10_writeList 52 = .ok (.invokevirtual 224, 3) := by decide +kernel
theorem dX10_writeList_55 : decode cX10_writeList 55 = .ok (.aload_n 0, 1) := by decide +kernel
theorem dX10_writeList_56 : decode cX10_writeList 56 = .ok (.getfield 54, 3) := by decide +kernel
theorem dX10_writeList_59 : decode cX10_writeList 59 = .ok (.bipush 120, 2) := by decide +kernel
theorem dX10_writeList_61 : decode cX10_writeList 61 = .ok (.invokevirtual 221, 3) := by decide +kernel
theorem dX10_writeList_64 : decode cX10_writeList 64 = .ok (.aload_n 0, 1) := by decide +kernel
theorem dX10_writeList_65 : decode cX10_writeList 65 = .ok (.getfield 54, 3) := by decide +kernel
theorem dX10_writeList_68 : decode cX10_writeList 68 = .ok (.aload_n 0, 1) := by decide +kernel
theorem dX10_writeList_69 : decode cX10_writeList 69 = .ok (.getfield 47, 3) := by decide +kernel
theorem dX10_writeList_72 : decode cX10_writeList 72 = .ok (.getfield 211, 3) := by decide +kernel
theorem dX10_writeList_75 : decode cX10_writeList 75 = .ok (.iload_n 3, 1) := by decide +kernel
theorem dX10_writeList_76 : decode cX10_writeList 76 = .ok (.iaload, 1) := by decide +kernel
theorem dX10_writeList_77 : decode cX10_writeList 77 = .ok (.i2l, 1) := by decide +kernel
theorem dX10_writeList_78 : decode cX10_writeList 78 = .ok (.invokevirtual 224, 3) := by decide +kernel
theorem dX10_writeList_81 : decode cX10_writeList 81 = .ok (.iinc 3 1, 3) := by decide +kernel
theorem dX10_writeList_84 : decode cX10_writeList 84 = .ok (.goto (-69), 3) := by decide +kernel
theorem dX10_writeList_87 : decode cX10_writeList 87 = .ok (.aload_n 0, 1) := by decide +kernel
theorem dX10_writeList_88 : decode cX10_writeList 88 = .ok (.getfield 54, 3) := by decide +kernel
theorem dX10_writeList_91 : decode cX10_writeList 91 = .ok (.getfield 228, 3) := by decide +kernel
theorem dX10_writeList_94 : decode cX10_writeList 94 = .ok (.ireturn, 1) := by decide +kernel
theorem dX10_charAt_0 : decode cX10_charAt 0 = .ok (.iload_n 1, 1) := by decide +kernel
theorem dX10_charAt_1 : decode cX10_charAt 1 = .ok (.ifCond .lt 14, 3) := by decide +kernel
theorem dX10_charAt_4 : decode cX10_charAt 4 = .ok (.iload_n 1, 1) := by decide +kernel
theorem dX10_charAt_5 : decode cX10_charAt 5 = .ok (.aload_n 0, 1) := by decide +kernel
theorem dX10_charAt_6 : decode cX10_charAt 6 = .ok (.getfield 54, 3) := by decide +kernel
theorem dX10_charAt_9 : decode cX10_charAt 9 = .ok (.getfield 228, 3) := by decide +kernel
theorem dX10_charAt_12 : decode cX10_charAt 12 = .ok (.if_icmp .lt 13, 3) := by decide +kernel
theorem dX10_charAt_15 : decode cX10_charAt 15 = .ok (.new 229, 3) := by decide +kernel
theorem dX10_charAt_18 : decode cX10_charAt 18 = .ok (.dup, 1) := by decide +kernel
theorem dX10_charAt_19 : decode cX10_charAt 19 = .ok (.ldc 231, 2) := by decide +kernel
theorem dX10_charAt_21 : decode cX10_charAt 21 = .ok (.invokespecial 233, 3) := by decide +kernel
theorem dX10_charAt_24 : decode cX10_charAt 24 = .ok (.athrow, 1) := by decide +kernel
theorem dX10_charAt_25 : decode cX10_charAt 25 = .ok (.aload_n 0, 1) := by decide +kernel
theorem dX10_charAt_26 : decode cX10_charAt 26 = .ok (.getfield 54, 3) := by decide +kernel
theorem dX10_charAt_29 : decode cX10_charAt 29 = .ok (.getfield 234, 3) := by decide +kernel
theorem dX10_charAt_32 : decode cX10_charAt 32 = .ok (.iload_n 1, 1) := by decide +kernel
theorem dX10_charAt_33 : decode cX10_charAt 33 = .ok (.caload, 1) := by decide +kernel
theorem dX10_charAt_34 : decode cX10_charAt 34 = .ok (.ireturn, 1) := by decide +kernel
theorem dX10_quantity_0 : decode cX10_quantity 0 = .ok (.aload_n 0, 1) := by decide +kernel
theorem dX10_quantity_1 : decode cX10_quantity 1 = .ok (.iload_n 1, 1) := by decide +kernel
theorem dX10_quantity_2 : decode cX10_quantity 2 = .ok (.invokevirtual 100, 3) := by decide +kernel
theorem dX10_quantity_5 : decode cX10_quantity 5 = .ok (.aload_n 0, 1) := by decide +kernel
theorem dX10_quantity_6 : decode cX10_quantity 6 = .ok (.iload_n 2, 1) := by decide +kernel
theorem dX10_quantity_7 : decode cX10_quantity 7 = .ok (.invokevirtual 100, 3) := by decide +kernel
theorem dX10_quantity_10 : decode cX10_quantity 10 = .ok (.iload_n 3, 1) := by decide +kernel
theorem dX10_quantity_11 : decode cX10_quantity 11 = .ok (.invokestatic 187, 3) := by decide +kernel
theorem dX10_quantity_14 : decode cX10_quantity 14 = .ok (.aload_n 0, 1) := by decide +kernel
theorem dX10_quantity_15 : decode cX10_quantity 15 = .ok (.getfield 10, 3) := by decide +kernel
theorem dX10_quantity_18 : decode cX10_quantity 18 = .ok (.iload_n 3, 1) := by decide +kernel
theorem dX10_quantity_19 : decode cX10_quantity 19 = .ok (.aload_n 0, 1) := by decide +kernel
theorem dX10_quantity_20 : decode cX10_quantity 20 = .ok (.getfield 66, 3) := by decide +kernel
theorem dX10_quantity_23 : decode cX10_quantity 23 = .ok (.invokevirtual 237, 3) := by decide +kernel
theorem dX10_quantity_26 : decode cX10_quantity 26 = .ok (.aload_n 0, 1) := by decide +kernel
theorem dX10_quantity_27 : decode cX10_quantity 27 = .ok (.getfield 26, 3) := by decide +kernel
theorem dX10_quantity_30 : decode cX10_quantity 30 = .ok (.aload_n 0, 1) := by decide +kernel
theorem dX10_quantity_31 : decode cX10_quantity 31 = .ok (.getfield 10, 3) := by decide +kernel
theorem dX10_quantity_34 : decode cX10_quantity 34 = .ok (.iload_n 1, 1) := by decide +kernel
theorem dX10_quantity_35 : decode cX10_quantity 35 = .ok (.iload_n 2, 1) := by decide +kernel
theorem dX10_quantity_36 : decode cX10_quantity 36 = .ok (.invokevirtual 240, 3) := by decide +kernel
theorem dX10_quantity_39 : decode cX10_quantity 39 = .ok (.lreturn, 1) := by decide +kernel
theorem dX10_quantityByWalking_0 : decode cX10_quantityByWalking 0 = .ok (.aload_n 0, 1) := by decide +kernel
theorem dX10_quantityByWalking_1 : decode cX10_quantityByWalking 1 = .ok (.iload_n 1, 1) := by decide +kernel
theorem dX10_quantityByWalking_2 : decode cX10_quantityByWalking 2 = .ok (.invokevirtual 100, 3) := by decide +kernel
theorem dX10_quantityByWalking_5 : decode cX10_quantityByWalking 5 = .ok (.aload_n 0, 1) := by decide +kernel
theorem dX10_quantityByWalking_6 : decode cX10_quantityByWalking 6 = .ok (.iload_n 2, 1) := by decide +kernel
theorem dX10_quantityByWalking_7 : decode cX10_quantityByWalking 7 = .ok (.invokevirtual 100, 3) := by decide +kernel
theorem dX10_quantityByWalking_10 : decode cX10_quantityByWalking 10 = .ok (.iload_n 3, 1) := by decide +kernel
theorem dX10_quantityByWalking_11 : decode cX10_quantityByWalking 11 = .ok (.invokestatic 187, 3) := by decide +kernel
theorem dX10_quantityByWalking_14 : decode cX10_quantityByWalking 14 = .ok (.aload_n 0, 1) := by decide +kernel
theorem dX10_quantityByWalking_15 : decode cX10_quantityByWalking 15 = .ok (.getfield 10, 3) := by decide +kernel
theorem dX10_quantityByWalking_18 : decode cX10_quantityByWalking 18 = .ok (.iload_n 3, 1) := by decide +kernel
theorem dX10_quantityByWalking_19 : decode cX10_quantityByWalking 19 = .ok (.aload_n 0, 1) := by decide +kernel
theorem dX10_quantityByWalking_20 : decode cX10_quantityByWalking 20 = .ok (.getfield 66, 3) := by decide +kernel
theorem dX10_quantityByWalking_23 : decode cX10_quantityByWalking 23 = .ok (.invokevirtual 237, 3) := by decide +kernel
theorem dX10_quantityByWalking_26 : decode cX10_quantityByWalking 26 = .ok (.aload_n 0, 1) := by decide +kernel
theorem dX10_quantityByWalking_27 : decode cX10_quantityByWalking 27 = .ok (.getfield 10, 3) := by decide +kernel
theorem dX10_quantityByWalking_30 : decode cX10_quantityByWalking 30 = .ok (.iload_n 1, 1) := by decide +kernel
theorem dX10_quantityByWalking_31 : decode cX10_quantityByWalking 31 = .ok (.iload_n 2, 1) := by decide +kernel
theorem dX10_quantityByWalking_32 : decode cX10_quantityByWalking 32 = .ok (.iconst 0, 1) := by decide +kernel
theorem dX10_quantityByWalking_33 : decode cX10_quantityByWalking 33 = .ok (.invokestatic 243, 3) := by decide +kernel
theorem dX10_quantityByWalking_36 : decode cX10_quantityByWalking 36 = .ok (.lreturn, 1) := by decide +kernel
theorem dX10_whereUsed_0 : decode cX10_whereUsed 0 = .ok (.aload_n 0, 1) := by decide +kernel
theorem dX10_whereUsed_1 : decode cX10_whereUsed 1 = .ok (.iload_n 1, 1) := by decide +kernel
theorem dX10_whereUsed_2 : decode cX10_whereUsed 2 = .ok (.invokevirtual 100, 3) := by decide +kernel
theorem dX10_whereUsed_5 : decode cX10_whereUsed 5 = .ok (.iload_n 2, 1) := by decide +kernel
theorem dX10_whereUsed_6 : decode cX10_whereUsed 6 = .ok (.invokestatic 187, 3) := by decide +kernel
theorem dX10_whereUsed_9 : decode cX10_whereUsed 9 = .ok (.aload_n 0, 1) := by decide +kernel
theorem dX10_whereUsed_10 : decode cX10_whereUsed 10 = .ok (.getfield 10, 3) := by decide +kernel
theorem dX10_whereUsed_13 : decode cX10_whereUsed 13 = .ok (.iload_n 2, 1) := by decide +kernel
theorem dX10_whereUsed_14 : decode cX10_whereUsed 14 = .ok (.aload_n 0, 1) := by decide +kernel
theorem dX10_whereUsed_15 : decode cX10_whereUsed 15 = .ok (.getfield 66, 3) := by decide +kernel
theorem dX10_whereUsed_18 : decode cX10_whereUsed 18 = .ok (.invokevirtual 237, 3) := by decide +kernel
theorem dX10_whereUsed_21 : decode cX10_whereUsed 21 = .ok (.iconst 0, 1) := by decide +kernel
theorem dX10_whereUsed_22 : decode cX10_whereUsed 22 = .ok (.istore_n 3, 1) := by decide +kernel
theorem dX10_whereUsed_23 : decode cX10_whereUsed 23 = .ok (.iconst 0, 1) := by decide +kernel
theorem dX10_whereUsed_24 : decode cX10_whereUsed 24 = .ok (.istore 4, 2) := by decide +kernel
theorem dX10_whereUsed_26 : decode cX10_whereUsed 26 = .ok (.iload 4, 2) := by decide +kernel
theorem dX10_whereUsed_28 : decode cX10_whereUsed 28 = .ok (.aload_n 0, 1) := by decide +kernel
theorem dX10_whereUsed_29 : decode cX10_whereUsed 29 = .ok (.getfield 10, 3) := by decide +kernel
theorem dX10_whereUsed_32 : decode cX10_whereUsed 32 = .ok (.getfield 80, 3) := by decide +kernel
theorem dX10_whereUsed_35 : decode cX10_whereUsed 35 = .ok (.getfield 84, 3) := by decide +kernel
theorem dX10_whereUsed_38 : decode cX10_whereUsed 38 = .ok (.if_icmp .ge 37, 3) := by decide +kernel
theorem dX10_whereUsed_41 : decode cX10_whereUsed 41 = .ok (.iload 4, 2) := by decide +kernel
theorem dX10_whereUsed_43 : decode cX10_whereUsed 43 = .ok (.iload_n 1, 1) := by decide +kernel
theorem dX10_whereUsed_44 : decode cX10_whereUsed 44 = .ok (.if_icmp .eq 25, 3) := by decide +kernel
theorem dX10_whereUsed_47 : decode cX10_whereUsed 47 = .ok (.aload_n 0, 1) := by decide +kernel
theorem dX10_whereUsed_48 : decode cX10_whereUsed 48 = .ok (.getfield 26, 3) := by decide +kernel
theorem dX10_whereUsed_51 : decode cX10_whereUsed 51 = .ok (.aload_n 0, 1) := by decide +kernel
theorem dX10_whereUsed_52 : decode cX10_whereUsed 52 = .ok (.getfield 10, 3) := by decide +kernel
theorem dX10_whereUsed_55 : decode cX10_whereUsed 55 = .ok (.iload 4, 2) := by decide +kernel
theorem dX10_whereUsed_57 : decode cX10_whereUsed 57 = .ok (.iload_n 1, 1) := by decide +kernel
theorem dX10_whereUsed_58 : decode cX10_whereUsed 58 = .ok (.invokevirtual 240, 3) := by decide +kernel
theorem dX10_whereUsed_61 : decode cX10_whereUsed 61 = .ok (.lconst 0, 1) := by decide +kernel
theorem dX10_whereUsed_62 : decode cX10_whereUsed 62 = .ok (.lcmp, 1) := by decide +kernel
theorem dX10_whereUsed_63 : decode cX10_whereUsed 63 = .ok (.ifCond .le 6, 3) := by decide +kernel
theorem dX10_whereUsed_66 : decode cX10_whereUsed 66 = .ok (.iinc 3 1, 3) := by decide +kernel
theorem dX10_whereUsed_69 : decode cX10_whereUsed 69 = .ok (.iinc 4 1, 3) := by decide +kernel
theorem dX10_whereUsed_72 : decode cX10_whereUsed 72 = .ok (.goto (-46), 3) := by decide +kernel
theorem dX10_whereUsed_75 : decode cX10_whereUsed 75 = .ok (.iload_n 3, 1) := by decide +kernel
theorem dX10_whereUsed_76 : decode cX10_whereUsed 76 = .ok (.ireturn, 1) := by decide +kernel
theorem dX10_levels_0 : decode cX10_levels 0 = .ok (.aload_n 0, 1) := by decide +kernel
theorem dX10_levels_1 : decode cX10_levels 1 = .ok (.iload_n 1, 1) := by decide +kernel
theorem dX10_levels_2 : decode cX10_levels 2 = .ok (.invokevirtual 100, 3) := by decide +kernel
theorem dX10_levels_5 : decode cX10_levels 5 = .ok (.iload_n 2, 1) := by decide +kernel
theorem dX10_levels_6 : decode cX10_levels 6 = .ok (.invokestatic 187, 3) := by decide +kernel
theorem dX10_levels_9 : decode cX10_levels 9 = .ok (.aload_n 0, 1) := by decide +kernel
theorem dX10_levels_10 : decode cX10_levels 10 = .ok (.getfield 10, 3) := by decide +kernel
theorem dX10_levels_13 : decode cX10_levels 13 = .ok (.iload_n 2, 1) := by decide +kernel
theorem dX10_levels_14 : decode cX10_levels 14 = .ok (.aload_n 0, 1) := by decide +kernel
theorem dX10_levels_15 : decode cX10_levels 15 = .ok (.getfield 66, 3) := by decide +kernel
theorem dX10_levels_18 : decode cX10_levels 18 = .ok (.invokevirtual 237, 3) := by decide +kernel
theorem dX10_levels_21 : decode cX10_levels 21 = .ok (.aload_n 0, 1) := by decide +kernel
theorem dX10_levels_22 : decode cX10_levels 22 = .ok (.getfield 10, 3) := by decide +kernel
theorem dX10_levels_25 : decode cX10_levels 25 = .ok (.iload_n 1, 1) := by decide +kernel
theorem dX10_levels_26 : decode cX10_levels 26 = .ok (.invokevirtual 247, 3) := by decide +kernel
theorem dX10_levels_29 : decode cX10_levels 29 = .ok (.ireturn, 1) := by decide +kernel
theorem dX10_cost_0 : decode cX10_cost 0 = .ok (.aload_n 0, 1) := by decide +kernel
theorem dX10_cost_1 : decode cX10_cost 1 = .ok (.iload_n 1, 1) := by decide +kernel
theorem dX10_cost_2 : decode cX10_cost 2 = .ok (.invokevirtual 100, 3) := by decide +kernel
theorem dX10_cost_5 : decode cX10_cost 5 = .ok (.iload_n 2, 1) := by decide +kernel
theorem dX10_cost_6 : decode cX10_cost 6 = .ok (.invokestatic 187, 3) := by decide +kernel
theorem dX10_cost_9 : decode cX10_cost 9 = .ok (.aload_n 0, 1) := by decide +kernel
theorem dX10_cost_10 : decode cX10_cost 10 = .ok (.iload_n 1, 1) := by decide +kernel
theorem dX10_cost_11 : decode cX10_cost 11 = .ok (.iload_n 2, 1) := by decide +kernel
theorem dX10_cost_12 : decode cX10_cost 12 = .ok (.aload_n 0, 1) := by decide +kernel
theorem dX10_cost_13 : decode cX10_cost 13 = .ok (.getfield 66, 3) := by decide +kernel
theorem dX10_cost_16 : decode cX10_cost 16 = .ok (.invokevirtual 251, 3) := by decide +kernel
theorem dX10_cost_19 : decode cX10_cost 19 = .ok (.freturn, 1) := by decide +kernel
theorem dX10_costByWalking_0 : decode cX10_costByWalking 0 = .ok (.aload_n 0, 1) := by decide +kernel
theorem dX10_costByWalking_1 : decode cX10_costByWalking 1 = .ok (.iload_n 1, 1) := by decide +kernel
theorem dX10_costByWalking_2 : decode cX10_costByWalking 2 = .ok (.invokevirtual 100, 3) := by decide +kernel
theorem dX10_costByWalking_5 : decode cX10_costByWalking 5 = .ok (.iload_n 2, 1) := by decide +kernel
theorem dX10_costByWalking_6 : decode cX10_costByWalking 6 = .ok (.invokestatic 187, 3) := by decide +kernel
theorem dX10_costByWalking_9 : decode cX10_costByWalking 9 = .ok (.aload_n 0, 1) := by decide +kernel
theorem dX10_costByWalking_10 : decode cX10_costByWalking 10 = .ok (.getfield 10, 3) := by decide +kernel
theorem dX10_costByWalking_13 : decode cX10_costByWalking 13 = .ok (.iload_n 2, 1) := by decide +kernel
theorem dX10_costByWalking_14 : decode cX10_costByWalking 14 = .ok (.aload_n 0, 1) := by decide +kernel
theorem dX10_costByWalking_15 : decode cX10_costByWalking 15 = .ok (.getfield 66, 3) := by decide +kernel
theorem dX10_costByWalking_18 : decode cX10_costByWalking 18 = .ok (.invokevirtual 237, 3) := by decide +kernel
theorem dX10_costByWalking_21 : decode cX10_costByWalking 21 = .ok (.aload_n 0, 1) := by decide +kernel
theorem dX10_costByWalking_22 : decode cX10_costByWalking 22 = .ok (.getfield 10, 3) := by decide +kernel
theorem dX10_costByWalking_25 : decode cX10_costByWalking 25 = .ok (.iload_n 1, 1) := by decide +kernel
theorem dX10_costByWalking_26 : decode cX10_costByWalking 26 = .ok (.iconst 0, 1) := by decide +kernel
theorem dX10_costByWalking_27 : decode cX10_costByWalking 27 = .ok (.invokestatic 255, 3) := by decide +kernel
theorem dX10_costByWalking_30 : decode cX10_costByWalking 30 = .ok (.freturn, 1) := by decide +kernel
theorem dX10_costBits_0 : decode cX10_costBits 0 = .ok (.aload_n 0, 1) := by decide +kernel
theorem dX10_costBits_1 : decode cX10_costBits 1 = .ok (.iload_n 1, 1) := by decide +kernel
theorem dX10_costBits_2 : decode cX10_costBits 2 = .ok (.invokevirtual 100, 3) := by decide +kernel
theorem dX10_costBits_5 : decode cX10_costBits 5 = .ok (.iload_n 2, 1) := by decide +kernel
theorem dX10_costBits_6 : decode cX10_costBits 6 = .ok (.invokestatic 187, 3) := by decide +kernel
theorem dX10_costBits_9 : decode cX10_costBits 9 = .ok (.aload_n 0, 1) := by decide +kernel
theorem dX10_costBits_10 : decode cX10_costBits 10 = .ok (.iload_n 1, 1) := by decide +kernel
theorem dX10_costBits_11 : decode cX10_costBits 11 = .ok (.iload_n 2, 1) := by decide +kernel
theorem dX10_costBits_12 : decode cX10_costBits 12 = .ok (.aload_n 0, 1) := by decide +kernel
theorem dX10_costBits_13 : decode cX10_costBits 13 = .ok (.getfield 66, 3) := by decide +kernel
theorem dX10_costBits_16 : decode cX10_costBits 16 = .ok (.invokevirtual 251, 3) := by decide +kernel
theorem dX10_costBits_19 : decode cX10_costBits 19 = .ok (.invokestatic 259, 3) := by decide +kernel
theorem dX10_costBits_22 : decode cX10_costBits 22 = .ok (.ireturn, 1) := by decide +kernel
theorem dX10_costCents_0 : decode cX10_costCents 0 = .ok (.aload_n 0, 1) := by decide +kernel
theorem dX10_costCents_1 : decode cX10_costCents 1 = .ok (.iload_n 1, 1) := by decide +kernel
theorem dX10_costCents_2 : decode cX10_costCents 2 = .ok (.invokevirtual 100, 3) := by decide +kernel
theorem dX10_costCents_5 : decode cX10_costCents 5 = .ok (.iload_n 2, 1) := by decide +kernel
theorem dX10_costCents_6 : decode cX10_costCents 6 = .ok (.invokestatic 187, 3) := by decide +kernel
theorem dX10_costCents_9 : decode cX10_costCents 9 = .ok (.aload_n 0, 1) := by decide +kernel
theorem dX10_costCents_10 : decode cX10_costCents 10 = .ok (.iload_n 1, 1) := by decide +kernel
theorem dX10_costCents_11 : decode cX10_costCents 11 = .ok (.iload_n 2, 1) := by decide +kernel
theorem dX10_costCents_12 : decode cX10_costCents 12 = .ok (.aload_n 0, 1) := by decide +kernel
theorem dX10_costCents_13 : decode cX10_costCents 13 = .ok (.getfield 66, 3) := by decide +kernel
theorem dX10_costCents_16 : decode cX10_costCents 16 = .ok (.invokevirtual 251, 3) := by decide +kernel
theorem dX10_costCents_19 : decode cX10_costCents 19 = .ok (.ldc_w 265, 3) := by decide +kernel
theorem dX10_costCents_22 : decode cX10_costCents 22 = .ok (.fmul, 1) := by decide +kernel
theorem dX10_costCents_23 : decode cX10_costCents 23 = .ok (.f2i, 1) := by decide +kernel
theorem dX10_costCents_24 : decode cX10_costCents 24 = .ok (.ireturn, 1) := by decide +kernel
theorem dX10_dearest_0 : decode cX10_dearest 0 = .ok (.aload_n 0, 1) := by decide +kernel
theorem dX10_dearest_1 : decode cX10_dearest 1 = .ok (.iload_n 1, 1) := by decide +kernel
theorem dX10_dearest_2 : decode cX10_dearest 2 = .ok (.invokevirtual 100, 3) := by decide +kernel
theorem dX10_dearest_5 : decode cX10_dearest 5 = .ok (.iload_n 2, 1) := by decide +kernel
theorem dX10_dearest_6 : decode cX10_dearest 6 = .ok (.invokestatic 187, 3) := by decide +kernel
theorem dX10_dearest_9 : decode cX10_dearest 9 = .ok (.aload_n 0, 1) := by decide +kernel
theorem dX10_dearest_10 : decode cX10_dearest 10 = .ok (.getfield 10, 3) := by decide +kernel
theorem dX10_dearest_13 : decode cX10_dearest 13 = .ok (.iload_n 2, 1) := by decide +kernel
theorem dX10_dearest_14 : decode cX10_dearest 14 = .ok (.aload_n 0, 1) := by decide +kernel
theorem dX10_dearest_15 : decode cX10_dearest 15 = .ok (.getfield 66, 3) := by decide +kernel
theorem dX10_dearest_18 : decode cX10_dearest 18 = .ok (.invokevirtual 237, 3) := by decide +kernel
theorem dX10_dearest_21 : decode cX10_dearest 21 = .ok (.aload_n 0, 1) := by decide +kernel
theorem dX10_dearest_22 : decode cX10_dearest 22 = .ok (.getfield 33, 3) := by decide +kernel
theorem dX10_dearest_25 : decode cX10_dearest 25 = .ok (.aload_n 0, 1) := by decide +kernel
theorem dX10_dearest_26 : decode cX10_dearest 26 = .ok (.getfield 10, 3) := by decide +kernel
theorem dX10_dearest_29 : decode cX10_dearest 29 = .ok (.invokevirtual 266, 3) := by decide +kernel
theorem dX10_dearest_32 : decode cX10_dearest 32 = .ok (.aload_n 0, 1) := by decide +kernel
theorem dX10_dearest_33 : decode cX10_dearest 33 = .ok (.getfield 33, 3) := by decide +kernel
theorem dX10_dearest_36 : decode cX10_dearest 36 = .ok (.aload_n 0, 1) := by decide +kernel
theorem dX10_dearest_37 : decode cX10_dearest 37 = .ok (.getfield 10, 3) := by decide +kernel
theorem dX10_dearest_40 : decode cX10_dearest 40 = .ok (.iload_n 1, 1) := by decide +kernel
theorem dX10_dearest_41 : decode cX10_dearest 41 = .ok (.invokevirtual 270, 3) := by decide +kernel
theorem dX10_dearest_44 : decode cX10_dearest 44 = .ok (.istore_n 3, 1) := by decide +kernel
theorem dX10_dearest_45 : decode cX10_dearest 45 = .ok (.iload_n 3, 1) := by decide +kernel
theorem dX10_dearest_46 : decode cX10_dearest 46 = .ok (.iconst (-1), 1) := by decide +kernel
theorem dX10_dearest_47 : decode cX10_dearest 47 = .ok (.if_icmp .ne 14, 3) := by decide +kernel
theorem dX10_dearest_50 : decode cX10_dearest 50 = .ok (.new 274, 3) := by decide +kernel
theorem dX10_dearest_53 : decode cX10_dearest 53 = .ok (.dup, 1) := by decide +kernel
theorem dX10_dearest_54 : decode cX10_dearest 54 = .ok (.ldc_w 276, 3) := by decide +kernel
theorem dX10_dearest_57 : decode cX10_dearest 57 = .ok (.invokespecial 278, 3) := by decide +kernel
theorem dX10_dearest_60 : decode cX10_dearest 60 = .ok (.athrow, 1) := by decide +kernel
theorem dX10_dearest_61 : decode cX10_dearest 61 = .ok (.iload_n 3, 1) := by decide +kernel
theorem dX10_dearest_62 : decode cX10_dearest 62 = .ok (.ireturn, 1) := by decide +kernel
theorem dX10_weight_0 : decode cX10_weight 0 = .ok (.aload_n 0, 1) := by decide +kernel
theorem dX10_weight_1 : decode cX10_weight 1 = .ok (.iload_n 1, 1) := by decide +kernel
theorem dX10_weight_2 : decode cX10_weight 2 = .ok (.invokevirtual 100, 3) := by decide +kernel
theorem dX10_weight_5 : decode cX10_weight 5 = .ok (.iload_n 2, 1) := by decide +kernel
theorem dX10_weight_6 : decode cX10_weight 6 = .ok (.invokestatic 187, 3) := by decide +kernel
theorem dX10_weight_9 : decode cX10_weight 9 = .ok (.aload_n 0, 1) := by decide +kernel
theorem dX10_weight_10 : decode cX10_weight 10 = .ok (.iload_n 1, 1) := by decide +kernel
theorem dX10_weight_11 : decode cX10_weight 11 = .ok (.iload_n 2, 1) := by decide +kernel
theorem dX10_weight_12 : decode cX10_weight 12 = .ok (.invokevirtual 279, 3) := by decide +kernel
theorem dX10_weight_15 : decode cX10_weight 15 = .ok (.dreturn, 1) := by decide +kernel
theorem dX10_weightBits_0 : decode cX10_weightBits 0 = .ok (.aload_n 0, 1) := by decide +kernel
theorem dX10_weightBits_1 : decode cX10_weightBits 1 = .ok (.iload_n 1, 1) := by decide +kernel
theorem dX10_weightBits_2 : decode cX10_weightBits 2 = .ok (.invokevirtual 100, 3) := by decide +kernel
theorem dX10_weightBits_5 : decode cX10_weightBits 5 = .ok (.iload_n 2, 1) := by decide +kernel
theorem dX10_weightBits_6 : decode cX10_weightBits 6 = .ok (.invokestatic 187, 3) := by decide +kernel
theorem dX10_weightBits_9 : decode cX10_weightBits 9 = .ok (.aload_n 0, 1) := by decide +kernel
theorem dX10_weightBits_10 : decode cX10_weightBits 10 = .ok (.iload_n 1, 1) := by decide +kernel
theorem dX10_weightBits_11 : decode cX10_weightBits 11 = .ok (.iload_n 2, 1) := by decide +kernel
theorem dX10_weightBits_12 : decode cX10_weightBits 12 = .ok (.invokevirtual 279, 3) := by decide +kernel
theorem dX10_weightBits_15 : decode cX10_weightBits 15 = .ok (.invokestatic 283, 3) := by decide +kernel
theorem dX10_weightBits_18 : decode cX10_weightBits 18 = .ok (.lreturn, 1) := by decide +kernel
theorem dX10_markCosts_0 : decode cX10_markCosts 0 = .ok (.iload_n 1, 1) := by decide +kernel
theorem dX10_markCosts_1 : decode cX10_markCosts 1 = .ok (.invokestatic 187, 3) := by decide +kernel
theorem dX10_markCosts_4 : decode cX10_markCosts 4 = .ok (.aload_n 0, 1) := by decide +kernel
theorem dX10_markCosts_5 : decode cX10_markCosts 5 = .ok (.getfield 10, 3) := by decide +kernel
theorem dX10_markCosts_8 : decode cX10_markCosts 8 = .ok (.iload_n 1, 1) := by decide +kernel
theorem dX10_markCosts_9 : decode cX10_markCosts 9 = .ok (.aload_n 0, 1) := by decide +kernel
theorem dX10_markCosts_10 : decode cX10_markCosts 10 = .ok (.getfield 66, 3) := by decide +kernel
theorem dX10_markCosts_13 : decode cX10_markCosts 13 = .ok (.invokevirtual 237, 3) := by decide +kernel
theorem dX10_markCosts_16 : decode cX10_markCosts 16 = .ok (.aload_n 0, 1) := by decide +kernel
theorem dX10_markCosts_17 : decode cX10_markCosts 17 = .ok (.getfield 33, 3) := by decide +kernel
theorem dX10_markCosts_20 : decode cX10_markCosts 20 = .ok (.aload_n 0, 1) := by decide +kernel
theorem dX10_markCosts_21 : decode cX10_markCosts 21 = .ok (.getfield 10, 3) := by decide +kernel
theorem dX10_markCosts_24 : decode cX10_markCosts 24 = .ok (.invokevirtual 266, 3) := by decide +kernel
theorem dX10_markCosts_27 : decode cX10_markCosts 27 = .ok (.aload_n 0, 1) := by decide +kernel
theorem dX10_markCosts_28 : decode cX10_markCosts 28 = .ok (.aload_n 0, 1) := by decide +kernel
theorem dX10_markCosts_29 : decode cX10_markCosts 29 = .ok (.getfield 10, 3) := by decide +kernel
theorem dX10_markCosts_32 : decode cX10_markCosts 32 = .ok (.getfield 80, 3) := by decide +kernel
theorem dX10_markCosts_35 : decode cX10_markCosts 35 = .ok (.getfield 84, 3) := by decide +kernel
theorem dX10_markCosts_38 : decode cX10_markCosts 38 = .ok (.putfield 62, 3) := by decide +kernel
theorem dX10_markCosts_41 : decode cX10_markCosts 41 = .ok (.iconst 0, 1) := by decide +kernel
theorem dX10_markCosts_42 : decode cX10_markCosts 42 = .ok (.istore_n 2, 1) := by decide +kernel
theorem dX10_markCosts_43 : decode cX10_markCosts 43 = .ok (.iload_n 2, 1) := by decide +kernel
theorem dX10_markCosts_44 : decode cX10_markCosts 44 = .ok (.aload_n 0, 1) := by decide +kernel
theorem dX10_markCosts_45 : decode cX10_markCosts 45 = .ok (.getfield 62, 3) := by decide +kernel
theorem dX10_markCosts_48 : decode cX10_markCosts 48 = .ok (.if_icmp .ge 24, 3) := by decide +kernel
theorem dX10_markCosts_51 : decode cX10_markCosts 51 = .ok (.aload_n 0, 1) := by decide +kernel
theorem dX10_markCosts_52 : decode cX10_markCosts 52 = .ok (.getfield 58, 3) := by decide +kernel
theorem dX10_markCosts_55 : decode cX10_markCosts 55 = .ok (.iload_n 2, 1) := by decide +kernel
theorem dX10_markCosts_56 : decode cX10_markCosts 56 = .ok (.aload_n 0, 1) := by decide +kernel
theorem dX10_markCosts_57 : decode cX10_markCosts 57 = .ok (.getfield 33, 3) := by decide +kernel
theorem dX10_markCosts_60 : decode cX10_markCosts 60 = .ok (.getfield 287, 3) := by decide +kernel
theorem dX10_markCosts_63 : decode cX10_markCosts 63 = .ok (.iload_n 2, 1) := by decide +kernel
theorem dX10_markCosts_64 : decode cX10_markCosts 64 = .ok (.faload, 1) := by decide +kernel
theorem dX10_markCosts_65 : decode cX10_markCosts 65 = .ok (.fastore, 1) := by decide +kernel
theorem dX10_markCosts_66 : decode cX10_markCosts 66 = .ok (.iinc 2 1, 3) := by decide +kernel
theorem dX10_markCosts_69 : decode cX10_markCosts 69 = .ok (.goto (-26), 3) := by decide +kernel
theorem dX10_markCosts_72 : decode cX10_markCosts 72 = .ok (.aload_n 0, 1) := by decide +kernel
theorem dX10_markCosts_73 : decode cX10_markCosts 73 = .ok (.getfield 62, 3) := by decide +kernel
theorem dX10_markCosts_76 : decode cX10_markCosts 76 = .ok (.ireturn, 1) := by decide +kernel
theorem dX10_costChange_0 : decode cX10_costChange 0 = .ok (.aload_n 0, 1) := by decide +kernel
theorem dX10_costChange_1 : decode cX10_costChange 1 = .ok (.iload_n 1, 1) := by decide +kernel
theorem dX10_costChange_2 : decode cX10_costChange 2 = .ok (.invokevirtual 100, 3) := by decide +kernel
theorem dX10_costChange_5 : decode cX10_costChange 5 = .ok (.iload_n 2, 1) := by decide +kernel
theorem dX10_costChange_6 : decode cX10_costChange 6 = .ok (.invokestatic 187, 3) := by decide +kernel
theorem dX10_costChange_9 : decode cX10_costChange 9 = .ok (.iload_n 1, 1) := by decide +kernel
theorem dX10_costChange_10 : decode cX10_costChange 10 = .ok (.aload_n 0, 1) := by decide +kernel
theorem dX10_costChange_11 : decode cX10_costChange 11 = .ok (.getfield 62, 3) := by decide +kernel
theorem dX10_costChange_14 : decode cX10_costChange 14 = .ok (.if_icmp .lt 14, 3) := by decide +kernel
theorem dX10_costChange_17 : decode cX10_costChange 17 = .ok (.new 274, 3) := by decide +kernel
theorem dX10_costChange_20 : decode cX10_costChange 20 = .ok (.dup, 1) := by decide +kernel
theorem dX10_costChange_21 : decode cX10_costChange 21 = .ok (.ldc_w 290, 3) := by decide +kernel
theorem dX10_costChange_24 : decode cX10_costChange 24 = .ok (.invokespecial 278, 3) := by decide +kernel
theorem dX10_costChange_27 : decode cX10_costChange 27 = .ok (.athrow, 1) := by decide +kernel
theorem dX10_costChange_28 : decode cX10_costChange 28 = .ok (.aload_n 0, 1) := by decide +kernel
theorem dX10_costChange_29 : decode cX10_costChange 29 = .ok (.iload_n 1, 1) := by decide +kernel
theorem dX10_costChange_30 : decode cX10_costChange 30 = .ok (.iload_n 2, 1) := by decide +kernel
theorem dX10_costChange_31 : decode cX10_costChange 31 = .ok (.aload_n 0, 1) := by decide +kernel
theorem dX10_costChange_32 : decode cX10_costChange 32 = .ok (.getfield 66, 3) := by decide +kernel
theorem dX10_costChange_35 : decode cX10_costChange 35 = .ok (.invokevirtual 251, 3) := by decide +kernel
theorem dX10_costChange_38 : decode cX10_costChange 38 = .ok (.aload_n 0, 1) := by decide +kernel
theorem dX10_costChange_39 : decode cX10_costChange 39 = .ok (.getfield 58, 3) := by decide +kernel
theorem dX10_costChange_42 : decode cX10_costChange 42 = .ok (.iload_n 1, 1) := by decide +kernel
theorem dX10_costChange_43 : decode cX10_costChange 43 = .ok (.faload, 1) := by decide +kernel
theorem dX10_costChange_44 : decode cX10_costChange 44 = .ok (.fsub, 1) := by decide +kernel
theorem dX10_costChange_45 : decode cX10_costChange 45 = .ok (.freturn, 1) := by decide +kernel
theorem dX10_order_0 : decode cX10_order 0 = .ok (.aload_n 0, 1) := by decide +kernel
theorem dX10_order_1 : decode cX10_order 1 = .ok (.iload_n 1, 1) := by decide +kernel
theorem dX10_order_2 : decode cX10_order 2 = .ok (.invokevirtual 100, 3) := by decide +kernel
theorem dX10_order_5 : decode cX10_order 5 = .ok (.iload_n 2, 1) := by decide +kernel
theorem dX10_order_6 : decode cX10_order 6 = .ok (.invokestatic 187, 3) := by decide +kernel
theorem dX10_order_9 : decode cX10_order 9 = .ok (.iload_n 3, 1) := by decide +kernel
theorem dX10_order_10 : decode cX10_order 10 = .ok (.iconst 1, 1) := by decide +kernel
theorem dX10_order_11 : decode cX10_order 11 = .ok (.sipush 999, 3) := by decide +kernel
theorem dX10_order_14 : decode cX10_order 14 = .ok (.invokestatic 177, 3) := by decide +kernel
theorem dX10_order_17 : decode cX10_order 17 = .ok (.ifCond .ne 14, 3) := by decide +kernel
theorem dX10_order_20 : decode cX10_order 20 = .ok (.new 181, 3) := by decide +kernel
theorem dX10_order_23 : decode cX10_order 23 = .ok (.dup, 1) := by decide +kernel
theorem dX10_order_24 : decode cX10_order 24 = .ok (.ldc_w 292, 3) := by decide +kernel
theorem dX10_order_27 : decode cX10_order 27 = .ok (.invokespecial 185, 3) := by decide +kernel
theorem dX10_order_30 : decode cX10_order 30 = .ok (.athrow, 1) := by decide +kernel
theorem dX10_order_31 : decode cX10_order 31 = .ok (.aload_n 0, 1) := by decide +kernel
theorem dX10_order_32 : decode cX10_order 32 = .ok (.getfield 19, 3) := by decide +kernel
theorem dX10_order_35 : decode cX10_order 35 = .ok (.getfield 294, 3) := by decide +kernel
theorem dX10_order_38 : decode cX10_order 38 = .ok (.bipush 8, 2) := by decide +kernel
theorem dX10_order_40 : decode cX10_order 40 = .ok (.if_icmp .lt 14, 3) := by decide +kernel
theorem dX10_order_43 : decode cX10_order 43 = .ok (.new 89, 3) := by decide +kernel
theorem dX10_order_46 : decode cX10_order 46 = .ok (.dup, 1) := by decide +kernel
theorem dX10_order_47 : decode cX10_order 47 = .ok (.ldc_w 295, 3) := by decide +kernel
theorem dX10_order_50 : decode cX10_order 50 = .ok (.invokespecial 93, 3) := by decide +kernel
theorem dX10_order_53 : decode cX10_order 53 = .ok (.athrow, 1) := by decide +kernel
theorem dX10_order_54 : decode cX10_order 54 = .ok (.aload_n 0, 1) := by decide +kernel
theorem dX10_order_55 : decode cX10_order 55 = .ok (.getfield 19, 3) := by decide +kernel
theorem dX10_order_58 : decode cX10_order 58 = .ok (.iload_n 1, 1) := by decide +kernel
theorem dX10_order_59 : decode cX10_order 59 = .ok (.iload_n 2, 1) := by decide +kernel
theorem dX10_order_60 : decode cX10_order 60 = .ok (.iload_n 3, 1) := by decide +kernel
theorem dX10_order_61 : decode cX10_order 61 = .ok (.aload_n 0, 1) := by decide +kernel
theorem dX10_order_62 : decode cX10_order 62 = .ok (.getfield 66, 3) := by decide +kernel
theorem dX10_order_65 : decode cX10_order 65 = .ok (.invokevirtual 297, 3) := by decide +kernel
theorem dX10_order_68 : decode cX10_order 68 = .ok (.ireturn, 1) := by decide +kernel
theorem dX10_cancel_0 : decode cX10_cancel 0 = .ok (.aload_n 0, 1) := by decide +kernel
theorem dX10_cancel_1 : decode cX10_cancel 1 = .ok (.iload_n 1, 1) := by decide +kernel
theorem dX10_cancel_2 : decode cX10_cancel 2 = .ok (.invokevirtual 298, 3) := by decide +kernel
theorem dX10_cancel_5 : decode cX10_cancel 5 = .ok (.aload_n 0, 1) := by decide +kernel
theorem dX10_cancel_6 : decode cX10_cancel 6 = .ok (.getfield 19, 3) := by decide +kernel
theorem dX10_cancel_9 : decode cX10_cancel 9 = .ok (.getfield 301, 3) := by decide +kernel
theorem dX10_cancel_12 : decode cX10_cancel 12 = .ok (.iload_n 1, 1) := by decide +kernel
theorem dX10_cancel_13 : decode cX10_cancel 13 = .ok (.baload, 1) := by decide +kernel
theorem dX10_cancel_14 : decode cX10_cancel 14 = .ok (.ifCond .eq 14, 3) := by decide +kernel
theorem dX10_cancel_17 : decode cX10_cancel 17 = .ok (.new 89, 3) := by decide +kernel
theorem dX10_cancel_20 : decode cX10_cancel 20 = .ok (.dup, 1) := by decide +kernel
theorem dX10_cancel_21 : decode cX10_cancel 21 = .ok (.ldc_w 305, 3) := by decide +kernel
theorem dX10_cancel_24 : decode cX10_cancel 24 = .ok (.invokespecial 93, 3) := by decide +kernel
theorem dX10_cancel_27 : decode cX10_cancel 27 = .ok (.athrow, 1) := by decide +kernel
theorem dX10_cancel_28 : decode cX10_cancel 28 = .ok (.aload_n 0, 1) := by decide +kernel
theorem dX10_cancel_29 : decode cX10_cancel 29 = .ok (.getfield 19, 3) := by decide +kernel
theorem dX10_cancel_32 : decode cX10_cancel 32 = .ok (.getfield 301, 3) := by decide +kernel
theorem dX10_cancel_35 : decode cX10_cancel 35 = .ok (.iload_n 1, 1) := by decide +kernel
theorem dX10_cancel_36 : decode cX10_cancel 36 = .ok (.iconst 1, 1) := by decide +kernel
theorem dX10_cancel_37 : decode cX10_cancel 37 = .ok (.bastore, 1) := by decide +kernel
theorem dX10_cancel_38 : decode cX10_cancel 38 = .ok (.aload_n 0, 1) := by decide +kernel
theorem dX10_cancel_39 : decode cX10_cancel 39 = .ok (.getfield 19, 3) := by decide +kernel
theorem dX10_cancel_42 : decode cX10_cancel 42 = .ok (.invokevirtual 307, 3) := by decide +kernel
theorem dX10_cancel_45 : decode cX10_cancel 45 = .ok (.ireturn, 1) := by decide +kernel
theorem dX10_orderCost_0 : decode cX10_orderCost 0 = .ok (.aload_n 0, 1) := by decide +kernel
theorem dX10_orderCost_1 : decode cX10_orderCost 1 = .ok (.iload_n 1, 1) := by decide +kernel
theorem dX10_orderCost_2 : decode cX10_orderCost 2 = .ok (.invokevirtual 298, 3) := by decide +kernel
theorem dX10_orderCost_5 : decode cX10_orderCost 5 = .ok (.aload_n 0, 1) := by decide +kernel
theorem dX10_orderCost_6 : decode cX10_orderCost 6 = .ok (.aload_n 0, 1) := by decide +kernel
theorem dX10_orderCost_7 : decode cX10_orderCost 7 = .ok (.getfield 19, 3) := by decide +kernel
theorem dX10_orderCost_10 : decode cX10_orderCost 10 = .ok (.getfield 311, 3) := by decide +kernel
theorem dX10_orderCost_13 : decode cX10_orderCost 13 = .ok (.iload_n 1, 1) := by decide +kernel
theorem dX10_orderCost_14 : decode cX10_orderCost 14 = .ok (.iaload, 1) := by decide +kernel
theorem dX10_orderCost_15 : decode cX10_orderCost 15 = .ok (.aload_n 0, 1) := by decide +kernel
theorem dX10_orderCost_16 : decode cX10_orderCost 16 = .ok (.getfield 19, 3) := by decide +kernel
theorem dX10_orderCost_19 : decode cX10_orderCost 19 = .ok (.getfield 314, 3) := by decide +kernel
theorem dX10_orderCost_22 : decode cX10_orderCost 22 = .ok (.iload_n 1, 1) := by decide +kernel
theorem dX10_orderCost_23 : decode cX10_orderCost 23 = .ok (.iaload, 1) := by decide +kernel
theorem dX10_orderCost_24 : decode cX10_orderCost 24 = .ok (.aload_n 0, 1) := by decide +kernel
theorem dX10_orderCost_25 : decode cX10_orderCost 25 = .ok (.getfield 19, 3) := by decide +kernel
theorem dX10_orderCost_28 : decode cX10_orderCost 28 = .ok (.getfield 317, 3) := by decide +kernel
theorem dX10_orderCost_31 : decode cX10_orderCost 31 = .ok (.iload_n 1, 1) := by decide +kernel
theorem dX10_orderCost_32 : decode cX10_orderCost 32 = .ok (.iaload, 1) := by decide +kernel
theorem dX10_orderCost_33 : decode cX10_orderCost 33 = .ok (.invokevirtual 251, 3) := by decide +kernel
theorem dX10_orderCost_36 : decode cX10_orderCost 36 = .ok (.fstore_n 2, 1) := by decide +kernel
theorem dX10_orderCost_37 : decode cX10_orderCost 37 = .ok (.aload_n 0, 1) := by decide +kernel
theorem dX10_orderCost_38 : decode cX10_orderCost 38 = .ok (.getfield 19, 3) := by decide +kernel
theorem dX10_orderCost_41 : decode cX10_orderCost 41 = .ok (.getfield 320, 3) := by decide +kernel
theorem dX10_orderCost_44 : decode cX10_orderCost 44 = .ok (.iload_n 1, 1) := by decide +kernel
theorem dX10_orderCost_45 : decode cX10_orderCost 45 = .ok (.iaload, 1) := by decide +kernel
theorem dX10_orderCost_46 : decode cX10_orderCost 46 = .ok (.i2f, 1) := by decide +kernel
theorem dX10_orderCost_47 : decode cX10_orderCost 47 = .ok (.fload_n 2, 1) := by decide +kernel
theorem dX10_orderCost_48 : decode cX10_orderCost 48 = .ok (.fmul, 1) := by decide +kernel
theorem dX10_orderCost_49 : decode cX10_orderCost 49 = .ok (.freturn, 1) := by decide +kernel
theorem dX10_need_0 : decode cX10_need 0 = .ok (.aload_n 0, 1) := by decide +kernel
theorem dX10_need_1 : decode cX10_need 1 = .ok (.iload_n 1, 1) := by decide +kernel
theorem dX10_need_2 : decode cX10_need 2 = .ok (.invokevirtual 100, 3) := by decide +kernel
theorem dX10_need_5 : decode cX10_need 5 = .ok (.lconst 0, 1) := by decide +kernel
theorem dX10_need_6 : decode cX10_need 6 = .ok (.lstore_n 2, 1) := by decide +kernel
theorem dX10_need_7 : decode cX10_need 7 = .ok (.iconst 0, 1) := by decide +kernel
theorem dX10_need_8 : decode cX10_need 8 = .ok (.istore 4, 2) := by decide +kernel
theorem dX10_need_10 : decode cX10_need 10 = .ok (.iload 4, 2) := by decide +kernel
theorem dX10_need_12 : decode cX10_need 12 = .ok (.aload_n 0, 1) := by decide +kernel
theorem dX10_need_13 : decode cX10_need 13 = .ok (.getfield 19, 3) := by decide +kernel
theorem dX10_need_16 : decode cX10_need 16 = .ok (.getfield 294, 3) := by decide +kernel
theorem dX10_need_19 : decode cX10_need 19 = .ok (.if_icmp .ge 86, 3) := by decide +kernel
theorem dX10_need_22 : decode cX10_need 22 = .ok (.aload_n 0, 1) := by decide +kernel
theorem dX10_need_23 : decode cX10_need 23 = .ok (.getfield 19, 3) := by decide +kernel
theorem dX10_need_26 : decode cX10_need 26 = .ok (.getfield 301, 3) := by decide +kernel
theorem dX10_need_29 : decode cX10_need 29 = .ok (.iload 4, 2) := by decide +kernel
theorem dX10_need_31 : decode cX10_need 31 = .ok (.baload, 1) := by decide +kernel
theorem dX10_need_32 : decode cX10_need 32 = .ok (.ifCond .ne 67, 3) := by decide +kernel
theorem dX10_need_35 : decode cX10_need 35 = .ok (.aload_n 0, 1) := by decide +kernel
theorem dX10_need_36 : decode cX10_need 36 = .ok (.getfield 10, 3) := by decide +kernel
theorem dX10_need_39 : decode cX10_need 39 = .ok (.aload_n 0, 1) := by decide +kernel
theorem dX10_need_40 : decode cX10_need 40 = .ok (.getfield 19, 3) := by decide +kernel
theorem dX10_need_43 : decode cX10_need 43 = .ok (.getfield 314, 3) := by decide +kernel
theorem dX10_need_46 : decode cX10_need 46 = .ok (.iload 4, 2) := by decide +kernel
theorem dX10_need_48 : decode cX10_need 48 = .ok (.iaload, 1) := by decide +kernel
theorem dX10_need_49 : decode cX10_need 49 = .ok (.aload_n 0, 1) := by decide +kernel
theorem dX10_need_50 : decode cX10_need 50 = .ok (.getfield 19, 3) := by decide +kernel
theorem dX10_need_53 : decode cX10_need 53 = .ok (.getfield 317, 3) := by decide +kernel
theorem dX10_need_56 : decode cX10_need 56 = .ok (.iload 4, 2) := by decide +kernel
theorem dX10_need_58 : decode cX10_need 58 = .ok (.iaload, 1) := by decide +kernel
theorem dX10_need_59 : decode cX10_need 59 = .ok (.invokevirtual 237, 3) := by decide +kernel
theorem dX10_need_62 : decode cX10_need 62 = .ok (.lload_n 2, 1) := by decide +kernel
theorem dX10_need_63 : decode cX10_need 63 = .ok (.aload_n 0, 1) := by decide +kernel
theorem dX10_need_64 : decode cX10_need 64 = .ok (.getfield 19, 3) := by decide +kernel
theorem dX10_need_67 : decode cX10_need 67 = .ok (.getfield 320, 3) := by decide +kernel
theorem dX10_need_70 : decode cX10_need 70 = .ok (.iload 4, 2) := by decide +kernel
theorem dX10_need_72 : decode cX10_need 72 = .ok (.iaload, 1) := by decide +kernel
theorem dX10_need_73 : decode cX10_need 73 = .ok (.i2l, 1) := by decide +kernel
theorem dX10_need_74 : decode cX10_need 74 = .ok (.aload_n 0, 1) := by decide +kernel
theorem dX10_need_75 : decode cX10_need 75 = .ok (.getfield 26, 3) := by decide +kernel
theorem dX10_need_78 : decode cX10_need 78 = .ok (.aload_n 0, 1) := by decide +kernel
theorem dX10_need_79 : decode cX10_need 79 = .ok (.getfield 10, 3) := by decide +kernel
theorem dX10_need_82 : decode cX10_need 82 = .ok (.aload_n 0, 1) := by decide +kernel
theorem dX10_need_83 : decode cX10_need 83 = .ok (.getfield 19, 3) := by decide +kernel
theorem dX10_need_86 : decode cX10_need 86 = .ok (.getfield 311, 3) := by decide +kernel
theorem dX10_need_89 : decode cX10_need 89 = .ok (.iload 4, 2) := by decide +kernel
theorem dX10_need_91 : decode cX10_need 91 = .ok (.iaload, 1) := by decide +kernel
theorem dX10_need_92 : decode cX10_need 92 = .ok (.iload_n 1, 1) := by decide +kernel
theorem dX10_need_93 : decode cX10_need 93 = .ok (.invokevirtual 240, 3) := by decide +kernel
theorem dX10_need_96 : decode cX10_need 96 = .ok (.lmul, 1) := by decide +kernel
theorem dX10_need_97 : decode cX10_need 97 = .ok (.ladd, 1) := by decide +kernel
theorem dX10_need_98 : decode cX10_need 98 = .ok (.lstore_n 2, 1) := by decide +kernel
theorem dX10_need_99 : decode cX10_need 99 = .ok (.iinc 4 1, 3) := by decide +kernel
theorem dX10_need_102 : decode cX10_need 102 = .ok (.goto (-92), 3) := by decide +kernel
theorem dX10_need_105 : decode cX10_need 105 = .ok (.lload_n 2, 1) := by decide +kernel
theorem dX10_need_106 : decode cX10_need 106 = .ok (.lreturn, 1) := by decide +kernel
theorem dX10_isConsistent_0 : decode cX10_isConsistent 0 = .ok (.aload_n 0, 1) := by decide +kernel
theorem dX10_isConsistent_1 : decode cX10_isConsistent 1 = .ok (.getfield 10, 3) := by decide +kernel
theorem dX10_isConsistent_4 : decode cX10_isConsistent 4 = .ok (.getfield 80, 3) := by decide +kernel
theorem dX10_isConsistent_7 : decode cX10_isConsistent 7 = .ok (.invokevirtual 323, 3) := by decide +kernel
theorem dX10_isConsistent_10 : decode cX10_isConsistent 10 = .ok (.ifCond .eq 114, 3) := by decide +kernel
theorem dX10_isConsistent_13 : decode cX10_isConsistent 13 = .ok (.aload_n 0, 1) := by decide +kernel
theorem dX10_isConsistent_14 : decode cX10_isConsistent 14 = .ok (.getfield 10, 3) := by decide +kernel
theorem dX10_isConsistent_17 : decode cX10_isConsistent 17 = .ok (.getfield 137, 3) := by decide +kernel
theorem dX10_isConsistent_20 : decode cX10_isConsistent 20 = .ok (.aload_n 0, 1) := by decide +kernel
theorem dX10_isConsistent_21 : decode cX10_isConsistent 21 = .ok (.getfield 10, 3) := by decide +kernel
theorem dX10_isConsistent_24 : decode cX10_isConsistent 24 = .ok (.getfield 80, 3) := by decide +kernel
theorem dX10_isConsistent_27 : decode cX10_isConsistent 27 = .ok (.getfield 84, 3) := by decide +kernel
theorem dX10_isConsistent_30 : decode cX10_isConsistent 30 = .ok (.invokevirtual 327, 3) := by decide +kernel
theorem dX10_isConsistent_33 : decode cX10_isConsistent 33 = .ok (.ifCond .eq 91, 3) := by decide +kernel
theorem dX10_isConsistent_36 : decode cX10_isConsistent 36 = .ok (.aload_n 0, 1) := by decide +kernel
theorem dX10_isConsistent_37 : decode cX10_isConsistent 37 = .ok (.getfield 10, 3) := by decide +kernel
theorem dX10_isConsistent_40 : decode cX10_isConsistent 40 = .ok (.getfield 137, 3) := by decide +kernel
theorem dX10_isConsistent_43 : decode cX10_isConsistent 43 = .ok (.invokevirtual 330, 3) := by decide +kernel
theorem dX10_isConsistent_46 : decode cX10_isConsistent 46 = .ok (.ifCond .eq 78, 3) := by decide +kernel
theorem dX10_isConsistent_49 : decode cX10_isConsistent 49 = .ok (.aload_n 0, 1) := by decide +kernel
theorem dX10_isConsistent_50 : decode cX10_isConsistent 50 = .ok (.getfield 10, 3) := by decide +kernel
theorem dX10_isConsistent_53 : decode cX10_isConsistent 53 = .ok (.invokevirtual 333, 3) := by decide +kernel
theorem dX10_isConsistent_56 : decode cX10_isConsistent 56 = .ok (.ifCond .eq 68, 3) := by decide +kernel
theorem dX10_isConsistent_59 : decode cX10_isConsistent 59 = .ok (.aload_n 0, 1) := by decide +kernel
theorem dX10_isConsistent_60 : decode cX10_isConsistent 60 = .ok (.getfield 10, 3) := by decide +kernel
theorem dX10_isConsistent_63 : decode cX10_isConsistent 63 = .ok (.invokevirtual 336, 3) := by decide +kernel
theorem dX10_isConsistent_66 : decode cX10_isConsistent 66 = .ok (.ifCond .eq 58, 3) := by decide +kernel
theorem dX10_isConsistent_69 : decode cX10_isConsistent 69 = .ok (.aload_n 0, 1) := by decide +kernel
theorem dX10_isConsistent_70 : decode cX10_isConsistent 70 = .ok (.getfield 19, 3) := by decide +kernel
theorem dX10_isConsistent_73 : decode cX10_isConsistent 73 = .ok (.aload_n 0, 1) := by decide +kernel
theorem dX10_isConsistent_74 : decode cX10_isConsistent 74 = .ok (.getfield 10, 3) := by decide +kernel
theorem dX10_isConsistent_77 : decode cX10_isConsistent 77 = .ok (.getfield 80, 3) := by decide +kernel
theorem dX10_isConsistent_80 : decode cX10_isConsistent 80 = .ok (.getfield 84, 3) := by decide +kernel
theorem dX10_isConsistent_83 : decode cX10_isConsistent 83 = .ok (.invokevirtual 339, 3) := by decide +kernel
theorem dX10_isConsistent_86 : decode cX10_isConsistent 86 = .ok (.ifCond .eq 38, 3) := by decide +kernel
theorem dX10_isConsistent_89 : decode cX10_isConsistent 89 = .ok (.aload_n 0, 1) := by decide +kernel
theorem dX10_isConsistent_90 : decode cX10_isConsistent 90 = .ok (.getfield 66, 3) := by decide +kernel
theorem dX10_isConsistent_93 : decode cX10_isConsistent 93 = .ok (.invokestatic 340, 3) := by decide +kernel
theorem dX10_isConsistent_96 : decode cX10_isConsistent 96 = .ok (.ifCond .eq 28, 3) := by decide +kernel
theorem dX10_isConsistent_99 : decode cX10_isConsistent 99 = .ok (.aload_n 0, 1) := by decide +kernel
theorem dX10_isConsistent_100 : decode cX10_isConsistent 100 = .ok (.getfield 62, 3) := by decide +kernel
theorem dX10_isConsistent_103 : decode cX10_isConsistent 103 = .ok (.iconst 0, 1) := by decide +kernel
theorem dX10_isConsistent_104 : decode cX10_isConsistent 104 = .ok (.aload_n 0, 1) := by decide +kernel
theorem dX10_isConsistent_105 : decode cX10_isConsistent 105 = .ok (.getfield 10, 3) := by decide +kernel
theorem dX10_isConsistent_108 : decode cX10_isConsistent 108 = .ok (.getfield 80, 3) := by decide +kernel
theorem dX10_isConsistent_111 : decode cX10_isConsistent 111 = .ok (.getfield 84, 3) := by decide +kernel
theorem dX10_isConsistent_114 : decode cX10_isConsistent 114 = .ok (.invokestatic 177, 3) := by decide +kernel
theorem dX10_isConsistent_117 : decode cX10_isConsistent 117 = .ok (.ifCond .eq 7, 3) := by decide +kernel
theorem dX10_isConsistent_120 : decode cX10_isConsistent 120 = .ok (.iconst 1, 1) := by decide +kernel
theorem dX10_isConsistent_121 : decode cX10_isConsistent 121 = .ok (.goto 4, 3) := by decide +kernel
theorem dX10_isConsistent_124 : decode cX10_isConsistent 124 = .ok (.iconst 0, 1) := by decide +kernel
theorem dX10_isConsistent_125 : decode cX10_isConsistent 125 = .ok (.ireturn, 1) := by decide +kernel
theorem dX10_checkPart_0 : decode cX10_checkPart 0 = .ok (.iload_n 1, 1) := by decide +kernel
theorem dX10_checkPart_1 : decode cX10_checkPart 1 = .ok (.ifCond .lt 17, 3) := by decide +kernel
theorem dX10_checkPart_4 : decode cX10_checkPart 4 = .ok (.iload_n 1, 1) := by decide +kernel
theorem dX10_checkPart_5 : decode cX10_checkPart 5 = .ok (.aload_n 0, 1) := by decide +kernel
theorem dX10_checkPart_6 : decode cX10_checkPart 6 = .ok (.getfield 10, 3) := by decide +kernel
theorem dX10_checkPart_9 : decode cX10_checkPart 9 = .ok (.getfield 80, 3) := by decide +kernel
theorem dX10_checkPart_12 : decode cX10_checkPart 12 = .ok (.getfield 84, 3) := by decide +kernel
theorem dX10_checkPart_15 : decode cX10_checkPart 15 = .ok (.if_icmp .lt 14, 3) := by decide +kernel
theorem dX10_checkPart_18 : decode cX10_checkPart 18 = .ok (.new 229, 3) := by decide +kernel
theorem dX10_checkPart_21 : decode cX10_checkPart 21 = .ok (.dup, 1) := by decide +kernel
theorem dX10_checkPart_22 : decode cX10_checkPart 22 = .ok (.ldc_w 343, 3) := by decide +kernel
theorem dX10_checkPart_25 : decode cX10_checkPart 25 = .ok (.invokespecial 233, 3) := by decide +kernel
theorem dX10_checkPart_28 : decode cX10_checkPart 28 = .ok (.athrow, 1) := by decide +kernel
theorem dX10_checkPart_29 : decode cX10_checkPart 29 = .ok (.return_, 1) := by decide +kernel
theorem dX10_checkLine_0 : decode cX10_checkLine 0 = .ok (.iload_n 1, 1) := by decide +kernel
theorem dX10_checkLine_1 : decode cX10_checkLine 1 = .ok (.ifCond .lt 17, 3) := by decide +kernel
theorem dX10_checkLine_4 : decode cX10_checkLine 4 = .ok (.iload_n 1, 1) := by decide +kernel
theorem dX10_checkLine_5 : decode cX10_checkLine 5 = .ok (.aload_n 0, 1) := by decide +kernel
theorem dX10_checkLine_6 : decode cX10_checkLine 6 = .ok (.getfield 10, 3) := by decide +kernel
theorem dX10_checkLine_9 : decode cX10_checkLine 9 = .ok (.getfield 137, 3) := by decide +kernel
theorem dX10_checkLine_12 : decode cX10_checkLine 12 = .ok (.getfield 186, 3) := by decide +kernel
theorem dX10_checkLine_15 : decode cX10_checkLine 15 = .ok (.if_icmp .lt 14, 3) := by decide +kernel
theorem dX10_checkLine_18 : decode cX10_checkLine 18 = .ok (.new 229, 3) := by decide +kernel
theorem dX10_checkLine_21 : decode cX10_checkLine 21 = .ok (.dup, 1) := by decide +kernel
theorem dX10_checkLine_22 : decode cX10_checkLine 22 = .ok (.ldc_w 345, 3) := by decide +kernel
theorem dX10_checkLine_25 : decode cX10_checkLine 25 = .ok (.invokespecial 233, 3) := by decide +kernel
theorem dX10_checkLine_28 : decode cX10_checkLine 28 = .ok (.athrow, 1) := by decide +kernel
theorem dX10_checkLine_29 : decode cX10_checkLine 29 = .ok (.return_, 1) := by decide +kernel
theorem dX10_checkOrder_0 : decode cX10_checkOrder 0 = .ok (.iload_n 1, 1) := by decide +kernel
theorem dX10_checkOrder_1 : decode cX10_checkOrder 1 = .ok (.ifCond .lt 14, 3) := by decide +kernel
theorem dX10_checkOrder_4 : decode cX10_checkOrder 4 = .ok (.iload_n 1, 1) := by decide +kernel
theorem dX10_checkOrder_5 : decode cX10_checkOrder 5 = .ok (.aload_n 0, 1) := by decide +kernel
theorem dX10_checkOrder_6 : decode cX10_checkOrder 6 = .ok (.getfield 19, 3) := by decide +kernel
theorem dX10_checkOrder_9 : decode cX10_checkOrder 9 = .ok (.getfield 294, 3) := by decide +kernel
theorem dX10_checkOrder_12 : decode cX10_checkOrder 12 = .ok (.if_icmp .lt 14, 3) := by decide +kernel
theorem dX10_checkOrder_15 : decode cX10_checkOrder 15 = .ok (.new 229, 3) := by decide +kernel
theorem dX10_checkOrder_18 : decode cX10_checkOrder 18 = .ok (.dup, 1) := by decide +kernel
theorem dX10_checkOrder_19 : decode cX10_checkOrder 19 = .ok (.ldc_w 347, 3) := by decide +kernel
theorem dX10_checkOrder_22 : decode cX10_checkOrder 22 = .ok (.invokespecial 233, 3) := by decide +kernel
theorem dX10_checkOrder_25 : decode cX10_checkOrder 25 = .ok (.athrow, 1) := by decide +kernel
theorem dX10_checkOrder_26 : decode cX10_checkOrder 26 = .ok (.return_, 1) := by decide +kernel
theorem dX10_checkEntry_0 : decode cX10_checkEntry 0 = .ok (.iload_n 1, 1) := by decide +kernel
theorem dX10_checkEntry_1 : decode cX10_checkEntry 1 = .ok (.ifCond .lt 14, 3) := by decide +kernel
theorem dX10_checkEntry_4 : decode cX10_checkEntry 4 = .ok (.iload_n 1, 1) := by decide +kernel
theorem dX10_checkEntry_5 : decode cX10_checkEntry 5 = .ok (.aload_n 0, 1) := by decide +kernel
theorem dX10_checkEntry_6 : decode cX10_checkEntry 6 = .ok (.getfield 47, 3) := by decide +kernel
theorem dX10_checkEntry_9 : decode cX10_checkEntry 9 = .ok (.getfield 205, 3) := by decide +kernel
theorem dX10_checkEntry_12 : decode cX10_checkEntry 12 = .ok (.if_icmp .lt 14, 3) := by decide +kernel
theorem dX10_checkEntry_15 : decode cX10_checkEntry 15 = .ok (.new 274, 3) := by decide +kernel
theorem dX10_checkEntry_18 : decode cX10_checkEntry 18 = .ok (.dup, 1) := by decide +kernel
theorem dX10_checkEntry_19 : decode cX10_checkEntry 19 = .ok (.ldc_w 349, 3) := by decide +kernel
theorem dX10_checkEntry_22 : decode cX10_checkEntry 22 = .ok (.invokespecial 278, 3) := by decide +kernel
theorem dX10_checkEntry_25 : decode cX10_checkEntry 25 = .ok (.athrow, 1) := by decide +kernel
theorem dX10_checkEntry_26 : decode cX10_checkEntry 26 = .ok (.return_, 1) := by decide +kernel
theorem dX10_checkCut_0 : decode cX10_checkCut 0 = .ok (.iload_n 2, 1) := by decide +kernel
theorem dX10_checkCut_1 : decode cX10_checkCut 1 = .ok (.aload_n 0, 1) := by decide +kernel
theorem dX10_checkCut_2 : decode cX10_checkCut 2 = .ok (.getfield 10, 3) := by decide +kernel
theorem dX10_checkCut_5 : decode cX10_checkCut 5 = .ok (.getfield 137, 3) := by decide +kernel
theorem dX10_checkCut_8 : decode cX10_checkCut 8 = .ok (.getfield 351, 3) := by decide +kernel
theorem dX10_checkCut_11 : decode cX10_checkCut 11 = .ok (.iload_n 1, 1) := by decide +kernel
theorem dX10_checkCut_12 : decode cX10_checkCut 12 = .ok (.iaload, 1) := by decide +kernel
theorem dX10_checkCut_13 : decode cX10_checkCut 13 = .ok (.if_icmp .le 19, 3) := by decide +kernel
theorem dX10_checkCut_16 : decode cX10_checkCut 16 = .ok (.iload_n 2, 1) := by decide +kernel
theorem dX10_checkCut_17 : decode cX10_checkCut 17 = .ok (.aload_n 0, 1) := by decide +kernel
theorem dX10_checkCut_18 : decode cX10_checkCut 18 = .ok (.getfield 10, 3) := by decide +kernel
theorem dX10_checkCut_21 : decode cX10_checkCut 21 = .ok (.getfield 137, 3) := by decide +kernel
theorem dX10_checkCut_24 : decode cX10_checkCut 24 = .ok (.getfield 165, 3) := by decide +kernel
theorem dX10_checkCut_27 : decode cX10_checkCut 27 = .ok (.iload_n 1, 1) := by decide +kernel
theorem dX10_checkCut_28 : decode cX10_checkCut 28 = .ok (.iaload, 1) := by decide +kernel
theorem dX10_checkCut_29 : decode cX10_checkCut 29 = .ok (.if_icmp .le 14, 3) := by decide +kernel
theorem dX10_checkCut_32 : decode cX10_checkCut 32 = .ok (.new 181, 3) := by decide +kernel
theorem dX10_checkCut_35 : decode cX10_checkCut 35 = .ok (.dup, 1) := by decide +kernel
theorem dX10_checkCut_36 : decode cX10_checkCut 36 = .ok (.ldc_w 354, 3) := by decide +kernel
theorem dX10_checkCut_39 : decode cX10_checkCut 39 = .ok (.invokespecial 185, 3) := by decide +kernel
theorem dX10_checkCut_42 : decode cX10_checkCut 42 = .ok (.athrow, 1) := by decide +kernel
theorem dX10_checkCut_43 : decode cX10_checkCut 43 = .ok (.return_, 1) := by decide +kernel
theorem dX10_checkNoCircle_0 : decode cX10_checkNoCircle 0 = .ok (.aload_n 0, 1) := by decide +kernel
theorem dX10_checkNoCircle_1 : decode cX10_checkNoCircle 1 = .ok (.getfield 10, 3) := by decide +kernel
theorem dX10_checkNoCircle_4 : decode cX10_checkNoCircle 4 = .ok (.iload_n 1, 1) := by decide +kernel
theorem dX10_checkNoCircle_5 : decode cX10_checkNoCircle 5 = .ok (.iload_n 2, 1) := by decide +kernel
theorem dX10_checkNoCircle_6 : decode cX10_checkNoCircle 6 = .ok (.invokevirtual 356, 3) := by decide +kernel
theorem dX10_checkNoCircle_9 : decode cX10_checkNoCircle 9 = .ok (.ifCond .eq 14, 3) := by decide +kernel
theorem dX10_checkNoCircle_12 : decode cX10_checkNoCircle 12 = .ok (.new 360, 3) := by decide +kernel
theorem dX10_checkNoCircle_15 : decode cX10_checkNoCircle 15 = .ok (.dup, 1) := by decide +kernel
theorem dX10_checkNoCircle_16 : decode cX10_checkNoCircle 16 = .ok (.ldc_w 362, 3) := by decide +kernel
theorem dX10_checkNoCircle_19 : decode cX10_checkNoCircle 19 = .ok (.invokespecial 364, 3) := by decide +kernel
theorem dX10_checkNoCircle_22 : decode cX10_checkNoCircle 22 = .ok (.athrow, 1) := by decide +kernel
theorem dX10_checkNoCircle_23 : decode cX10_checkNoCircle 23 = .ok (.return_, 1) := by decide +kernel
theorem dX10_checkRoomForLine_0 : decode cX10_checkRoomForLine 0 = .ok (.aload_n 0, 1) := by decide +kernel
theorem dX10_checkRoomForLine_1 : decode cX10_checkRoomForLine 1 = .ok (.getfield 10, 3) := by decide +kernel
theorem dX10_checkRoomForLine_4 : decode cX10_checkRoomForLine 4 = .ok (.iload_n 1, 1) := by decide +kernel
theorem dX10_checkRoomForLine_5 : decode cX10_checkRoomForLine 5 = .ok (.invokevirtual 365, 3) := by decide +kernel
theorem dX10_checkRoomForLine_8 : decode cX10_checkRoomForLine 8 = .ok (.iconst 1, 1) := by decide +kernel
theorem dX10_checkRoomForLine_9 : decode cX10_checkRoomForLine 9 = .ok (.iadd, 1) := by decide +kernel
theorem dX10_checkRoomForLine_10 : decode cX10_checkRoomForLine 10 = .ok (.aload_n 0, 1) := by decide +kernel
theorem dX10_checkRoomForLine_11 : decode cX10_checkRoomForLine 11 = .ok (.getfield 10, 3) := by decide +kernel
theorem dX10_checkRoomForLine_14 : decode cX10_checkRoomForLine 14 = .ok (.iload_n 2, 1) := by decide +kernel
theorem dX10_checkRoomForLine_15 : decode cX10_checkRoomForLine 15 = .ok (.invokevirtual 368, 3) := by decide +kernel
theorem dX10_checkRoomForLine_18 : decode cX10_checkRoomForLine 18 = .ok (.iadd, 1) := by decide +kernel
theorem dX10_checkRoomForLine_19 : decode cX10_checkRoomForLine 19 = .ok (.iconst 4, 1) := by decide +kernel
theorem dX10_checkRoomForLine_20 : decode cX10_checkRoomForLine 20 = .ok (.if_icmp .le 14, 3) := by decide +kernel
theorem dX10_checkRoomForLine_23 : decode cX10_checkRoomForLine 23 = .ok (.new 89, 3) := by decide +kernel
theorem dX10_checkRoomForLine_26 : decode cX10_checkRoomForLine 26 = .ok (.dup, 1) := by decide +kernel
theorem dX10_checkRoomForLine_27 : decode cX10_checkRoomForLine 27 = .ok (.ldc_w 371, 3) := by decide +kernel
theorem dX10_checkRoomForLine_30 : decode cX10_checkRoomForLine 30 = .ok (.invokespecial 93, 3) := by decide +kernel
theorem dX10_checkRoomForLine_33 : decode cX10_checkRoomForLine 33 = .ok (.athrow, 1) := by decide +kernel
theorem dX10_checkRoomForLine_34 : decode cX10_checkRoomForLine 34 = .ok (.aload_n 0, 1) := by decide +kernel
theorem dX10_checkRoomForLine_35 : decode cX10_checkRoomForLine 35 = .ok (.getfield 10, 3) := by decide +kernel
theorem dX10_checkRoomForLine_38 : decode cX10_checkRoomForLine 38 = .ok (.getfield 137, 3) := by decide +kernel
theorem dX10_checkRoomForLine_41 : decode cX10_checkRoomForLine 41 = .ok (.getfield 186, 3) := by decide +kernel
theorem dX10_checkRoomForLine_44 : decode cX10_checkRoomForLine 44 = .ok (.bipush 40, 2) := by decide +kernel
theorem dX10_checkRoomForLine_46 : decode cX10_checkRoomForLine 46 = .ok (.if_icmp .lt 14, 3) := by decide +kernel
theorem dX10_checkRoomForLine_49 : decode cX10_checkRoomForLine 49 = .ok (.new 89, 3) := by decide +kernel
theorem dX10_checkRoomForLine_52 : decode cX10_checkRoomForLine 52 = .ok (.dup, 1) := by decide +kernel
theorem dX10_checkRoomForLine_53 : decode cX10_checkRoomForLine 53 = .ok (.ldc_w 373, 3) := by decide +kernel
theorem dX10_checkRoomForLine_56 : decode cX10_checkRoomForLine 56 = .ok (.invokespecial 93, 3) := by decide +kernel
theorem dX10_checkRoomForLine_59 : decode cX10_checkRoomForLine 59 = .ok (.athrow, 1) := by decide +kernel
theorem dX10_checkRoomForLine_60 : decode cX10_checkRoomForLine 60 = .ok (.return_, 1) := by decide +kernel
theorem dX10_checkUnique_0 : decode cX10_checkUnique 0 = .ok (.iconst 0, 1) := by decide +kernel
theorem dX10_checkUnique_1 : decode cX10_checkUnique 1 = .ok (.istore 7, 2) := by decide +kernel
theorem dX10_checkUnique_3 : decode cX10_checkUnique 3 = .ok (.iload 7, 2) := by decide +kernel
theorem dX10_checkUnique_5 : decode cX10_checkUnique 5 = .ok (.aload_n 0, 1) := by decide +kernel
theorem dX10_checkUnique_6 : decode cX10_checkUnique 6 = .ok (.getfield 10, 3) := by decide +kernel
theorem dX10_checkUnique_9 : decode cX10_checkUnique 9 = .ok (.getfield 137, 3) := by decide +kernel
theorem dX10_checkUnique_12 : decode cX10_checkUnique 12 = .ok (.getfield 186, 3) := by decide +kernel
theorem dX10_checkUnique_15 : decode cX10_checkUnique 15 = .ok (.if_icmp .ge 74, 3) := by decide +kernel
theorem dX10_checkUnique_18 : decode cX10_checkUnique 18 = .ok (.aload_n 0, 1) := by decide +kernel
theorem dX10_checkUnique_19 : decode cX10_checkUnique 19 = .ok (.getfield 10, 3) := by decide +kernel
theorem dX10_checkUnique_22 : decode cX10_checkUnique 22 = .ok (.getfield 137, 3) := by decide +kernel
theorem dX10_checkUnique_25 : decode cX10_checkUnique 25 = .ok (.iload 7, 2) := by decide +kernel
theorem dX10_checkUnique_27 : decode cX10_checkUnique 27 = .ok (.iload_n 1, 1) := by decide +kernel
theorem dX10_checkUnique_28 : decode cX10_checkUnique 28 = .ok (.iload_n 2, 1) := by decide +kernel
theorem dX10_checkUnique_29 : decode cX10_checkUnique 29 = .ok (.invokevirtual 375, 3) := by decide +kernel
theorem dX10_checkUnique_32 : decode cX10_checkUnique 32 = .ok (.ifCond .eq 51, 3) := by decide +kernel
theorem dX10_checkUnique_35 : decode cX10_checkUnique 35 = .ok (.aload_n 0, 1) := by decide +kernel
theorem dX10_checkUnique_36 : decode cX10_checkUnique 36 = .ok (.getfield 10, 3) := by decide +kernel
theorem dX10_checkUnique_39 : decode cX10_checkUnique 39 = .ok (.getfield 137, 3) := by decide +kernel
theorem dX10_checkUnique_42 : decode cX10_checkUnique 42 = .ok (.iload 7, 2) := by decide +kernel
theorem dX10_checkUnique_44 : decode cX10_checkUnique 44 = .ok (.iload_n 3, 1) := by decide +kernel
theorem dX10_checkUnique_45 : decode cX10_checkUnique 45 = .ok (.iload 4, 2) := by decide +kernel
theorem dX10_checkUnique_47 : decode cX10_checkUnique 47 = .ok (.invokevirtual 378, 3) := by decide +kernel
theorem dX10_checkUnique_50 : decode cX10_checkUnique 50 = .ok (.ifCond .eq 33, 3) := by decide +kernel
theorem dX10_checkUnique_53 : decode cX10_checkUnique 53 = .ok (.aload_n 0, 1) := by decide +kernel
theorem dX10_checkUnique_54 : decode cX10_checkUnique 54 = .ok (.getfield 10, 3) := by decide +kernel
theorem dX10_checkUnique_57 : decode cX10_checkUnique 57 = .ok (.getfield 137, 3) := by decide +kernel
theorem dX10_checkUnique_60 : decode cX10_checkUnique 60 = .ok (.iload 7, 2) := by decide +kernel
theorem dX10_checkUnique_62 : decode cX10_checkUnique 62 = .ok (.iload 5, 2) := by decide +kernel
theorem dX10_checkUnique_64 : decode cX10_checkUnique 64 = .ok (.iload 6, 2) := by decide +kernel
theorem dX10_checkUnique_66 : decode cX10_checkUnique 66 = .ok (.invokevirtual 381, 3) := by decide +kernel
theorem dX10_checkUnique_69 : decode cX10_checkUnique 69 = .ok (.ifCond .eq 14, 3) := by decide +kernel
theorem dX10_checkUnique_72 : decode cX10_checkUnique 72 = .ok (.new 89, 3) := by decide +kernel
theorem dX10_checkUnique_75 : decode cX10_checkUnique 75 = .ok (.dup, 1) := by decide +kernel
theorem dX10_checkUnique_76 : decode cX10_checkUnique 76 = .ok (.ldc_w 384, 3) := by decide +kernel
theorem dX10_checkUnique_79 : decode cX10_checkUnique 79 = .ok (.invokespecial 93, 3) := by decide +kernel
theorem dX10_checkUnique_82 : decode cX10_checkUnique 82 = .ok (.athrow, 1) := by decide +kernel
theorem dX10_checkUnique_83 : decode cX10_checkUnique 83 = .ok (.iinc 7 1, 3) := by decide +kernel
theorem dX10_checkUnique_86 : decode cX10_checkUnique 86 = .ok (.goto (-83), 3) := by decide +kernel
theorem dX10_checkUnique_89 : decode cX10_checkUnique 89 = .ok (.return_, 1) := by decide +kernel
theorem dX10_checkKind_0 : decode cX10_checkKind 0 = .ok (.iload_n 0, 1) := by decide +kernel
theorem dX10_checkKind_1 : decode cX10_checkKind 1 = .ok (.invokestatic 386, 3) := by decide +kernel
theorem dX10_checkKind_4 : decode cX10_checkKind 4 = .ok (.ifCond .ne 14, 3) := by decide +kernel
theorem dX10_checkKind_7 : decode cX10_checkKind 7 = .ok (.new 181, 3) := by decide +kernel
theorem dX10_checkKind_10 : decode cX10_checkKind 10 = .ok (.dup, 1) := by decide +kernel
theorem dX10_checkKind_11 : decode cX10_checkKind 11 = .ok (.ldc_w 390, 3) := by decide +kernel
theorem dX10_checkKind_14 : decode cX10_checkKind 14 = .ok (.invokespecial 185, 3) := by decide +kernel
theorem dX10_checkKind_17 : decode cX10_checkKind 17 = .ok (.athrow, 1) := by decide +kernel
theorem dX10_checkKind_18 : decode cX10_checkKind 18 = .ok (.return_, 1) := by decide +kernel
theorem dX10_checkCents_0 : decode cX10_checkCents 0 = .ok (.iload_n 0, 1) := by decide +kernel
theorem dX10_checkCents_1 : decode cX10_checkCents 1 = .ok (.iconst 0, 1) := by decide +kernel
theorem dX10_checkCents_2 : decode cX10_checkCents 2 = .ok (.ldc_w 392, 3) := by decide +kernel
theorem dX10_checkCents_5 : decode cX10_checkCents 5 = .ok (.invokestatic 177, 3) := by decide +kernel
theorem dX10_checkCents_8 : decode cX10_checkCents 8 = .ok (.ifCond .ne 14, 3) := by decide +kernel
theorem dX10_checkCents_11 : decode cX10_checkCents 11 = .ok (.new 181, 3) := by decide +kernel
theorem dX10_checkCents_14 : decode cX10_checkCents 14 = .ok (.dup, 1) := by decide +kernel
theorem dX10_checkCents_15 : decode cX10_checkCents 15 = .ok (.ldc_w 393, 3) := by decide +kernel
theorem dX10_checkCents_18 : decode cX10_checkCents 18 = .ok (.invokespecial 185, 3) := by decide +kernel
theorem dX10_checkCents_21 : decode cX10_checkCents 21 = .ok (.athrow, 1) := by decide +kernel
theorem dX10_checkCents_22 : decode cX10_checkCents 22 = .ok (.return_, 1) := by decide +kernel
theorem dX10_checkGrams_0 : decode cX10_checkGrams 0 = .ok (.iload_n 0, 1) := by decide +kernel
theorem dX10_checkGrams_1 : decode cX10_checkGrams 1 = .ok (.iconst 0, 1) := by decide +kernel
theorem dX10_checkGrams_2 : decode cX10_checkGrams 2 = .ok (.ldc_w 392, 3) := by decide +kernel
theorem dX10_checkGrams_5 : decode cX10_checkGrams 5 = .ok (.invokestatic 177, 3) := by decide +kernel
theorem dX10_checkGrams_8 : decode cX10_checkGrams 8 = .ok (.ifCond .ne 14, 3) := by decide +kernel
theorem dX10_checkGrams_11 : decode cX10_checkGrams 11 = .ok (.new 181, 3) := by decide +kernel
theorem dX10_checkGrams_14 : decode cX10_checkGrams 14 = .ok (.dup, 1) := by decide +kernel
theorem dX10_checkGrams_15 : decode cX10_checkGrams 15 = .ok (.ldc_w 395, 3) := by decide +kernel
theorem dX10_checkGrams_18 : decode cX10_checkGrams 18 = .ok (.invokespecial 185, 3) := by decide +kernel
theorem dX10_checkGrams_21 : decode cX10_checkGrams 21 = .ok (.athrow, 1) := by decide +kernel
theorem dX10_checkGrams_22 : decode cX10_checkGrams 22 = .ok (.return_, 1) := by decide +kernel
theorem dX10_checkPosition_0 : decode cX10_checkPosition 0 = .ok (.iload_n 0, 1) := by decide +kernel
theorem dX10_checkPosition_1 : decode cX10_checkPosition 1 = .ok (.iconst 1, 1) := by decide +kernel
theorem dX10_checkPosition_2 : decode cX10_checkPosition 2 = .ok (.bipush 6, 2) := by decide +kernel
theorem dX10_checkPosition_4 : decode cX10_checkPosition 4 = .ok (.invokestatic 177, 3) := by decide +kernel
theorem dX10_checkPosition_7 : decode cX10_checkPosition 7 = .ok (.ifCond .ne 14, 3) := by decide +kernel
theorem dX10_checkPosition_10 : decode cX10_checkPosition 10 = .ok (.new 181, 3) := by decide +kernel
theorem dX10_checkPosition_13 : decode cX10_checkPosition 13 = .ok (.dup, 1) := by decide +kernel
theorem dX10_checkPosition_14 : decode cX10_checkPosition 14 = .ok (.ldc_w 397, 3) := by decide +kernel
theorem dX10_checkPosition_17 : decode cX10_checkPosition 17 = .ok (.invokespecial 185, 3) := by decide +kernel
theorem dX10_checkPosition_20 : decode cX10_checkPosition 20 = .ok (.athrow, 1) := by decide +kernel
theorem dX10_checkPosition_21 : decode cX10_checkPosition 21 = .ok (.return_, 1) := by decide +kernel
theorem dX10_checkQuantity_0 : decode cX10_checkQuantity 0 = .ok (.iload_n 0, 1) := by decide +kernel
theorem dX10_checkQuantity_1 : decode cX10_checkQuantity 1 = .ok (.iconst 1, 1) := by decide +kernel
theorem dX10_checkQuantity_2 : decode cX10_checkQuantity 2 = .ok (.bipush 20, 2) := by decide +kernel
theorem dX10_checkQuantity_4 : decode cX10_checkQuantity 4 = .ok (.invokestatic 177, 3) := by decide +kernel
theorem dX10_checkQuantity_7 : decode cX10_checkQuantity 7 = .ok (.ifCond .ne 14, 3) := by decide +kernel
theorem dX10_checkQuantity_10 : decode cX10_checkQuantity 10 = .ok (.new 181, 3) := by decide +kernel
theorem dX10_checkQuantity_13 : decode cX10_checkQuantity 13 = .ok (.dup, 1) := by decide +kernel
theorem dX10_checkQuantity_14 : decode cX10_checkQuantity 14 = .ok (.ldc_w 399, 3) := by decide +kernel
theorem dX10_checkQuantity_17 : decode cX10_checkQuantity 17 = .ok (.invokespecial 185, 3) := by decide +kernel
theorem dX10_checkQuantity_20 : decode cX10_checkQuantity 20 = .ok (.athrow, 1) := by decide +kernel
theorem dX10_checkQuantity_21 : decode cX10_checkQuantity 21 = .ok (.return_, 1) := by decide +kernel
theorem dX10_checkRange_0 : decode cX10_checkRange 0 = .ok (.iload_n 0, 1) := by decide +kernel
theorem dX10_checkRange_1 : decode cX10_checkRange 1 = .ok (.iconst 1, 1) := by decide +kernel
theorem dX10_checkRange_2 : decode cX10_checkRange 2 = .ok (.sipush 999, 3) := by decide +kernel
theorem dX10_checkRange_5 : decode cX10_checkRange 5 = .ok (.invokestatic 177, 3) := by decide +kernel
theorem dX10_checkRange_8 : decode cX10_checkRange 8 = .ok (.ifCond .eq 14, 3) := by decide +kernel
theorem dX10_checkRange_11 : decode cX10_checkRange 11 = .ok (.iload_n 1, 1) := by decide +kernel
theorem dX10_checkRange_12 : decode cX10_checkRange 12 = .ok (.iload_n 0, 1) := by decide +kernel
theorem dX10_checkRange_13 : decode cX10_checkRange 13 = .ok (.sipush 999, 3) := by decide +kernel
theorem dX10_checkRange_16 : decode cX10_checkRange 16 = .ok (.invokestatic 177, 3) := by decide +kernel
theorem dX10_checkRange_19 : decode cX10_checkRange 19 = .ok (.ifCond .ne 14, 3) := by decide +kernel
theorem dX10_checkRange_22 : decode cX10_checkRange 22 = .ok (.new 181, 3) := by decide +kernel
theorem dX10_checkRange_25 : decode cX10_checkRange 25 = .ok (.dup, 1) := by decide +kernel
theorem dX10_checkRange_26 : decode cX10_checkRange 26 = .ok (.ldc_w 401, 3) := by decide +kernel
theorem dX10_checkRange_29 : decode cX10_checkRange 29 = .ok (.invokespecial 185, 3) := by decide +kernel
theorem dX10_checkRange_32 : decode cX10_checkRange 32 = .ok (.athrow, 1) := by decide +kernel
theorem dX10_checkRange_33 : decode cX10_checkRange 33 = .ok (.return_, 1) := by decide +kernel
theorem dX10_checkCondition_0 : decode cX10_checkCondition 0 = .ok (.iload_n 0, 1) := by decide +kernel
theorem dX10_checkCondition_1 : decode cX10_checkCondition 1 = .ok (.iconst 0, 1) := by decide +kernel
theorem dX10_checkCondition_2 : decode cX10_checkCondition 2 = .ok (.iconst 3, 1) := by decide +kernel
theorem dX10_checkCondition_3 : decode cX10_checkCondition 3 = .ok (.invokestatic 177, 3) := by decide +kernel
theorem dX10_checkCondition_6 : decode cX10_checkCondition 6 = .ok (.ifCond .eq 13, 3) := by decide +kernel
theorem dX10_checkCondition_9 : decode cX10_checkCondition 9 = .ok (.iload_n 1, 1) := by decide +kernel
theorem dX10_checkCondition_10 : decode cX10_checkCondition 10 = .ok (.iconst 1, 1) := by decide +kernel
theorem dX10_checkCondition_11 : decode cX10_checkCondition 11 = .ok (.bipush 15, 2) := by decide +kernel
theorem dX10_checkCondition_13 : decode cX10_checkCondition 13 = .ok (.invokestatic 177, 3) := by decide +kernel
theorem dX10_checkCondition_16 : decode cX10_checkCondition 16 = .ok (.ifCond .ne 14, 3) := by decide +kernel
theorem dX10_checkCondition_19 : decode cX10_checkCondition 19 = .ok (.new 181, 3) := by decide +kernel
theorem dX10_checkCondition_22 : decode cX10_checkCondition 22 = .ok (.dup, 1) := by decide +kernel
theorem dX10_checkCondition_23 : decode cX10_checkCondition 23 = .ok (.ldc_w 403, 3) := by decide +kernel
theorem dX10_checkCondition_26 : decode cX10_checkCondition 26 = .ok (.invokespecial 185, 3) := by decide +kernel
theorem dX10_checkCondition_29 : decode cX10_checkCondition 29 = .ok (.athrow, 1) := by decide +kernel
theorem dX10_checkCondition_30 : decode cX10_checkCondition 30 = .ok (.return_, 1) := by decide +kernel
theorem dX10_checkSerial_0 : decode cX10_checkSerial 0 = .ok (.iload_n 0, 1) := by decide +kernel
theorem dX10_checkSerial_1 : decode cX10_checkSerial 1 = .ok (.iconst 1, 1) := by decide +kernel
theorem dX10_checkSerial_2 : decode cX10_checkSerial 2 = .ok (.sipush 999, 3) := by decide +kernel
theorem dX10_checkSerial_5 : decode cX10_checkSerial 5 = .ok (.invokestatic 177, 3) := by decide +kernel
theorem dX10_checkSerial_8 : decode cX10_checkSerial 8 = .ok (.ifCond .ne 14, 3) := by decide +kernel
theorem dX10_checkSerial_11 : decode cX10_checkSerial 11 = .ok (.new 181, 3) := by decide +kernel
theorem dX10_checkSerial_14 : decode cX10_checkSerial 14 = .ok (.dup, 1) := by decide +kernel
theorem dX10_checkSerial_15 : decode cX10_checkSerial 15 = .ok (.ldc_w 405, 3) := by decide +kernel
theorem dX10_checkSerial_18 : decode cX10_checkSerial 18 = .ok (.invokespecial 185, 3) := by decide +kernel
theorem dX10_checkSerial_21 : decode cX10_checkSerial 21 = .ok (.athrow, 1) := by decide +kernel
theorem dX10_checkSerial_22 : decode cX10_checkSerial 22 = .ok (.return_, 1) := by decide +kernel
theorem dX10_checkOption_0 : decode cX10_checkOption 0 = .ok (.iload_n 0, 1) := by decide +kernel
theorem dX10_checkOption_1 : decode cX10_checkOption 1 = .ok (.iconst 0, 1) := by decide +kernel
theorem dX10_checkOption_2 : decode cX10_checkOption 2 = .ok (.iconst 3, 1) := by decide +kernel
theorem dX10_checkOption_3 : decode cX10_checkOption 3 = .ok (.invokestatic 177, 3) := by decide +kernel
theorem dX10_checkOption_6 : decode cX10_checkOption 6 = .ok (.ifCond .ne 14, 3) := by decide +kernel
theorem dX10_checkOption_9 : decode cX10_checkOption 9 = .ok (.new 229, 3) := by decide +kernel
theorem dX10_checkOption_12 : decode cX10_checkOption 12 = .ok (.dup, 1) := by decide +kernel
theorem dX10_checkOption_13 : decode cX10_checkOption 13 = .ok (.ldc_w 407, 3) := by decide +kernel
theorem dX10_checkOption_16 : decode cX10_checkOption 16 = .ok (.invokespecial 233, 3) := by decide +kernel
theorem dX10_checkOption_19 : decode cX10_checkOption 19 = .ok (.athrow, 1) := by decide +kernel
theorem dX10_checkOption_20 : decode cX10_checkOption 20 = .ok (.return_, 1) := by decide +kernel
theorem dX10_makeDirectList_0 : decode cX10_makeDirectList 0 = .ok (.aload_n 0, 1) := by decide +kernel
theorem dX10_makeDirectList_1 : decode cX10_makeDirectList 1 = .ok (.iload_n 1, 1) := by decide +kernel
theorem dX10_makeDirectList_2 : decode cX10_makeDirectList 2 = .ok (.invokevirtual 100, 3) := by decide +kernel
theorem dX10_makeDirectList_5 : decode cX10_makeDirectList 5 = .ok (.iload_n 2, 1) := by decide +kernel
theorem dX10_makeDirectList_6 : decode cX10_makeDirectList 6 = .ok (.invokestatic 187, 3) := by decide +kernel
theorem dX10_makeDirectList_9 : decode cX10_makeDirectList 9 = .ok (.aload_n 0, 1) := by decide +kernel
theorem dX10_makeDirectList_10 : decode cX10_makeDirectList 10 = .ok (.getfield 10, 3) := by decide +kernel
theorem dX10_makeDirectList_13 : decode cX10_makeDirectList 13 = .ok (.iload_n 2, 1) := by decide +kernel
theorem dX10_makeDirectList_14 : decode cX10_makeDirectList 14 = .ok (.aload_n 0, 1) := by decide +kernel
theorem dX10_makeDirectList_15 : decode cX10_makeDirectList 15 = .ok (.getfield 66, 3) := by decide +kernel
theorem dX10_makeDirectList_18 : decode cX10_makeDirectList 18 = .ok (.invokevirtual 237, 3) := by decide +kernel
theorem dX10_makeDirectList_21 : decode cX10_makeDirectList 21 = .ok (.aload_n 0, 1) := by decide +kernel
theorem dX10_makeDirectList_22 : decode cX10_makeDirectList 22 = .ok (.getfield 47, 3) := by decide +kernel
theorem dX10_makeDirectList_25 : decode cX10_makeDirectList 25 = .ok (.invokevirtual 409, 3) := by decide +kernel
theorem dX10_makeDirectList_28 : decode cX10_makeDirectList 28 = .ok (.aload_n 0, 1) := by decide +kernel
theorem dX10_makeDirectList_29 : decode cX10_makeDirectList 29 = .ok (.getfield 10, 3) := by decide +kernel
theorem dX10_makeDirectList_32 : decode cX10_makeDirectList 32 = .ok (.aload_n 0, 1) := by decide +kernel
theorem dX10_makeDirectList_33 : decode cX10_makeDirectList 33 = .ok (.getfield 47, 3) := by decide +kernel
theorem dX10_makeDirectList_36 : decode cX10_makeDirectList 36 = .ok (.iload_n 1, 1) := by decide +kernel
theorem dX10_makeDirectList_37 : decode cX10_makeDirectList 37 = .ok (.lconst 1, 1) := by decide +kernel
theorem dX10_makeDirectList_38 : decode cX10_makeDirectList 38 = .ok (.iconst 0, 1) := by decide +kernel
theorem dX10_makeDirectList_39 : decode cX10_makeDirectList 39 = .ok (.invokestatic 410, 3) := by decide +kernel
theorem dX10_makeDirectList_42 : decode cX10_makeDirectList 42 = .ok (.return_, 1) := by decide +kernel
theorem dX10_rolledUpCost_0 : decode cX10_rolledUpCost 0 = .ok (.aload_n 0, 1) := by decide +kernel
theorem dX10_rolledUpCost_1 : decode cX10_rolledUpCost 1 = .ok (.getfield 10, 3) := by decide +kernel
theorem dX10_rolledUpCost_4 : decode cX10_rolledUpCost 4 = .ok (.iload_n 2, 1) := by decide +kernel
theorem dX10_rolledUpCost_5 : decode cX10_rolledUpCost 5 = .ok (.iload_n 3, 1) := by decide +kernel
theorem dX10_rolledUpCost_6 : decode cX10_rolledUpCost 6 = .ok (.invokevirtual 237, 3) := by decide +kernel
theorem dX10_rolledUpCost_9 : decode cX10_rolledUpCost 9 = .ok (.aload_n 0, 1) := by decide +kernel
theorem dX10_rolledUpCost_10 : decode cX10_rolledUpCost 10 = .ok (.getfield 33, 3) := by decide +kernel
theorem dX10_rolledUpCost_13 : decode cX10_rolledUpCost 13 = .ok (.aload_n 0, 1) := by decide +kernel
theorem dX10_rolledUpCost_14 : decode cX10_rolledUpCost 14 = .ok (.getfield 10, 3) := by decide +kernel
theorem dX10_rolledUpCost_17 : decode cX10_rolledUpCost 17 = .ok (.invokevirtual 266, 3) := by decide +kernel
theorem dX10_rolledUpCost_20 : decode cX10_rolledUpCost 20 = .ok (.aload_n 0, 1) := by decide +kernel
theorem dX10_rolledUpCost_21 : decode cX10_rolledUpCost 21 = .ok (.getfield 33, 3) := by decide +kernel
theorem dX10_rolledUpCost_24 : decode cX10_rolledUpCost 24 = .ok (.getfield 287, 3) := by decide +kernel
theorem dX10_rolledUpCost_27 : decode cX10_rolledUpCost 27 = .ok (.iload_n 1, 1) := by decide +kernel
theorem dX10_rolledUpCost_28 : decode cX10_rolledUpCost 28 = .ok (.faload, 1) := by decide +kernel
theorem dX10_rolledUpCost_29 : decode cX10_rolledUpCost 29 = .ok (.freturn, 1) := by decide +kernel
theorem dX10_rolledUpWeight_0 : decode cX10_rolledUpWeight 0 = .ok (.aload_n 0, 1) := by decide +kernel
theorem dX10_rolledUpWeight_1 : decode cX10_rolledUpWeight 1 = .ok (.getfield 10, 3) := by decide +kernel
theorem dX10_rolledUpWeight_4 : decode cX10_rolledUpWeight 4 = .ok (.iload_n 2, 1) := by decide +kernel
theorem dX10_rolledUpWeight_5 : decode cX10_rolledUpWeight 5 = .ok (.aload_n 0, 1) := by decide +kernel
theorem dX10_rolledUpWeight_6 : decode cX10_rolledUpWeight 6 = .ok (.getfield 66, 3) := by decide +kernel
theorem dX10_rolledUpWeight_9 : decode cX10_rolledUpWeight 9 = .ok (.invokevirtual 237, 3) := by decide +kernel
theorem dX10_rolledUpWeight_12 : decode cX10_rolledUpWeight 12 = .ok (.aload_n 0, 1) := by decide +kernel
theorem dX10_rolledUpWeight_13 : decode cX10_rolledUpWeight 13 = .ok (.getfield 40, 3) := by decide +kernel
theorem dX10_rolledUpWeight_16 : decode cX10_rolledUpWeight 16 = .ok (.aload_n 0, 1) := by decide +kernel
theorem dX10_rolledUpWeight_17 : decode cX10_rolledUpWeight 17 = .ok (.getfield 10, 3) := by decide +kernel
theorem dX10_rolledUpWeight_20 : decode cX10_rolledUpWeight 20 = .ok (.invokevirtual 414, 3) := by decide +kernel
theorem dX10_rolledUpWeight_23 : decode cX10_rolledUpWeight 23 = .ok (.aload_n 0, 1) := by decide +kernel
theorem dX10_rolledUpWeight_24 : decode cX10_rolledUpWeight 24 = .ok (.getfield 40, 3) := by decide +kernel
theorem dX10_rolledUpWeight_27 : decode cX10_rolledUpWeight 27 = .ok (.getfield 415, 3) := by decide +kernel
theorem dX10_rolledUpWeight_30 : decode cX10_rolledUpWeight 30 = .ok (.iload_n 1, 1) := by decide +kernel
theorem dX10_rolledUpWeight_31 : decode cX10_rolledUpWeight 31 = .ok (.daload, 1) := by decide +kernel
theorem dX10_rolledUpWeight_32 : decode cX10_rolledUpWeight 32 = .ok (.dreturn, 1) := by decide +kernel
theorem dX10_collectEntries_0 : decode cX10_collectEntries 0 = .ok (.iload 5, 2) := by decide +kernel
theorem dX10_collectEntries_2 : decode cX10_collectEntries 2 = .ok (.iconst 4, 1) := by decide +kernel
theorem dX10_collectEntries_3 : decode cX10_collectEntries 3 = .ok (.if_icmp .lt 4, 3) := by decide +kernel
theorem dX10_collectEntries_6 : decode cX10_collectEntries 6 = .ok (.return_, 1) := by decide +kernel
theorem dX10_collectEntries_7 : decode cX10_collectEntries 7 = .ok (.iconst 1, 1) := by decide +kernel
theorem dX10_collectEntries_8 : decode cX10_collectEntries 8 = .ok (.istore 6, 2) := by decide +kernel
theorem dX10_collectEntries_10 : decode cX10_collectEntries 10 = .ok (.iload 6, 2) := by decide +kernel
theorem dX10_collectEntries_12 : decode cX10_collectEntries 12 = .ok (.bipush 6, 2) := by decide +kernel
theorem dX10_collectEntries_14 : decode cX10_collectEntries 14 = .ok (.if_icmp .gt 90, 3) := by decide +kernel
theorem dX10_collectEntries_17 : decode cX10_collectEntries 17 = .ok (.aload_n 0, 1) := by decide +kernel
theorem dX10_collectEntries_18 : decode cX10_collectEntries 18 = .ok (.iload_n 2, 1) := by decide +kernel
theorem dX10_collectEntries_19 : decode cX10_collectEntries 19 = .ok (.iload 6, 2) := by decide +kernel
theorem dX10_collectEntries_21 : decode cX10_collectEntries 21 = .ok (.invokevirtual 419, 3) := by decide +kernel
theorem dX10_collectEntries_24 : decode cX10_collectEntries 24 = .ok (.istore 7, 2) := by decide +kernel
theorem dX10_collectEntries_26 : decode cX10_collectEntries 26 = .ok (.iload 7, 2) := by decide +kernel
theorem dX10_collectEntries_28 : decode cX10_collectEntries 28 = .ok (.iconst (-1), 1) := by decide +kernel
theorem dX10_collectEntries_29 : decode cX10_collectEntries 29 = .ok (.if_icmp .eq 69, 3) := by decide +kernel
theorem dX10_collectEntries_32 : decode cX10_collectEntries 32 = .ok (.aload_n 0, 1) := by decide +kernel
theorem dX10_collectEntries_33 : decode cX10_collectEntries 33 = .ok (.getfield 137, 3) := by decide +kernel
theorem dX10_collectEntries_36 : decode cX10_collectEntries 36 = .ok (.getfield 422, 3) := by decide +kernel
theorem dX10_collectEntries_39 : decode cX10_collectEntries 39 = .ok (.iload 7, 2) := by decide +kernel
theorem dX10_collectEntries_41 : decode cX10_collectEntries 41 = .ok (.iaload, 1) := by decide +kernel
theorem dX10_collectEntries_42 : decode cX10_collectEntries 42 = .ok (.istore 8, 2) := by decide +kernel
theorem dX10_collectEntries_44 : decode cX10_collectEntries 44 = .ok (.lload_n 3, 1) := by decide +kernel
theorem dX10_collectEntries_45 : decode cX10_collectEntries 45 = .ok (.aload_n 0, 1) := by decide +kernel
theorem dX10_collectEntries_46 : decode cX10_collectEntries 46 = .ok (.getfield 137, 3) := by decide +kernel
theorem dX10_collectEntries_49 : decode cX10_collectEntries 49 = .ok (.getfield 425, 3) := by decide +kernel
theorem dX10_collectEntries_52 : decode cX10_collectEntries 52 = .ok (.iload 7, 2) := by decide +kernel
theorem dX10_collectEntries_54 : decode cX10_collectEntries 54 = .ok (.iaload, 1) := by decide +kernel
theorem dX10_collectEntries_55 : decode cX10_collectEntries 55 = .ok (.i2l, 1) := by decide +kernel
theorem dX10_collectEntries_56 : decode cX10_collectEntries 56 = .ok (.lmul, 1) := by decide +kernel
theorem dX10_collectEntries_57 : decode cX10_collectEntries 57 = .ok (.lstore 9, 2) := by decide +kernel
theorem dX10_collectEntries_59 : decode cX10_collectEntries 59 = .ok (.aload_n 0, 1) := by decide +kernel
theorem dX10_collectEntries_60 : decode cX10_collectEntries 60 = .ok (.getfield 80, 3) := by decide +kernel
theorem dX10_collectEntries_63 : decode cX10_collectEntries 63 = .ok (.getfield 110, 3) := by decide +kernel
theorem dX10_collectEntries_66 : decode cX10_collectEntries 66 = .ok (.iload 8, 2) := by decide +kernel
theorem dX10_collectEntries_68 : decode cX10_collectEntries 68 = .ok (.caload, 1) := by decide +kernel
theorem dX10_collectEntries_69 : decode cX10_collectEntries 69 = .ok (.bipush 112, 2) := by decide +kernel
theorem dX10_collectEntries_71 : decode cX10_collectEntries 71 = .ok (.if_icmp .ne 19, 3) := by decide +kernel
theorem dX10_collectEntries_74 : decode cX10_collectEntries 74 = .ok (.aload_n 0, 1) := by decide +kernel
theorem dX10_collectEntries_75 : decode cX10_collectEntries 75 = .ok (.aload_n 1, 1) := by decide +kernel
theorem dX10_collectEntries_76 : decode cX10_collectEntries 76 = .ok (.iload 8, 2) := by decide +kernel
theorem dX10_collectEntries_78 : decode cX10_collectEntries 78 = .ok (.lload 9, 2) := by decide +kernel
theorem dX10_collectEntries_80 : decode cX10_collectEntries 80 = .ok (.iload 5, 2) := by decide +kernel
theorem dX10_collectEntries_82 : decode cX10_collectEntries 82 = .ok (.iconst 1, 1) := by decide +kernel
theorem dX10_collectEntries_83 : decode cX10_collectEntries 83 = .ok (.iadd, 1) := by decide +kernel
theorem dX10_collectEntries_84 : decode cX10_collectEntries 84 = .ok (.invokestatic 410, 3) := by decide +kernel
theorem dX10_collectEntries_87 : decode cX10_collectEntries 87 = .ok (.goto 11, 3) := by decide +kernel
theorem dX10_collectEntries_90 : decode cX10_collectEntries 90 = .ok (.aload_n 1, 1) := by decide +kernel
theorem dX10_collectEntries_91 : decode cX10_collectEntries 91 = .ok (.iload 8, 2) := by decide +kernel
theorem dX10_collectEntries_93 : decode cX10_collectEntries 93 = .ok (.lload 9, 2) := by decide +kernel
theorem dX10_collectEntries_95 : decode cX10_collectEntries 95 = .ok (.invokevirtual 428, 3) := by decide +kernel
theorem dX10_collectEntries_98 : decode cX10_collectEntries 98 = .ok (.iinc 6 1, 3) := by decide +kernel
theorem dX10_collectEntries_101 : decode cX10_collectEntries 101 = .ok (.goto (-91), 3) := by decide +kernel
theorem dX10_collectEntries_104 : decode cX10_collectEntries 104 = .ok (.return_, 1) := by decide +kernel
theorem dX10_walkQuantity_0 : decode cX10_walkQuantity 0 = .ok (.iload_n 1, 1) := by decide +kernel
theorem dX10_walkQuantity_1 : decode cX10_walkQuantity 1 = .ok (.iload_n 2, 1) := by decide +kernel
theorem dX10_walkQuantity_2 : decode cX10_walkQuantity 2 = .ok (.if_icmp .ne 5, 3) := by decide +kernel
theorem dX10_walkQuantity_5 : decode cX10_walkQuantity 5 = .ok (.lconst 1, 1) := by decide +kernel
theorem dX10_walkQuantity_6 : decode cX10_walkQuantity 6 = .ok (.lreturn, 1) := by decide +kernel
theorem dX10_walkQuantity_7 : decode cX10_walkQuantity 7 = .ok (.iload_n 3, 1) := by decide +kernel
theorem dX10_walkQuantity_8 : decode cX10_walkQuantity 8 = .ok (.iconst 4, 1) := by decide +kernel
theorem dX10_walkQuantity_9 : decode cX10_walkQuantity 9 = .ok (.if_icmp .lt 5, 3) := by decide +kernel
theorem dX10_walkQuantity_12 : decode cX10_walkQuantity 12 = .ok (.lconst 0, 1) := by decide +kernel
theorem dX10_walkQuantity_13 : decode cX10_walkQuantity 13 = .ok (.lreturn, 1) := by decide +kernel
theorem dX10_walkQuantity_14 : decode cX10_walkQuantity 14 = .ok (.lconst 0, 1) := by decide +kernel
theorem dX10_walkQuantity_15 : decode cX10_walkQuantity 15 = .ok (.lstore 4, 2) := by decide +kernel
theorem dX10_walkQuantity_17 : decode cX10_walkQuantity 17 = .ok (.iconst 1, 1) := by decide +kernel
theorem dX10_walkQuantity_18 : decode cX10_walkQuantity 18 = .ok (.istore 6, 2) := by decide +kernel
theorem dX10_walkQuantity_20 : decode cX10_walkQuantity 20 = .ok (.iload 6, 2) := by decide +kernel
theorem dX10_walkQuantity_22 : decode cX10_walkQuantity 22 = .ok (.bipush 6, 2) := by decide +kernel
theorem dX10_walkQuantity_24 : decode cX10_walkQuantity 24 = .ok (.if_icmp .gt 59, 3) := by decide +kernel
theorem dX10_walkQuantity_27 : decode cX10_walkQuantity 27 = .ok (.aload_n 0, 1) := by decide +kernel
theorem dX10_walkQuantity_28 : decode cX10_walkQuantity 28 = .ok (.iload_n 1, 1) := by decide +kernel
theorem dX10_walkQuantity_29 : decode cX10_walkQuantity 29 = .ok (.iload 6, 2) := by decide +kernel
theorem dX10_walkQuantity_31 : decode cX10_walkQuantity 31 = .ok (.invokevirtual 419, 3) := by decide +kernel
theorem dX10_walkQuantity_34 : decode cX10_walkQuantity 34 = .ok (.istore 7, 2) := by decide +kernel
theorem dX10_walkQuantity_36 : decode cX10_walkQuantity 36 = .ok (.iload 7, 2) := by decide +kernel
theorem dX10_walkQuantity_38 : decode cX10_walkQuantity 38 = .ok (.iconst (-1), 1) := by decide +kernel
theorem dX10_walkQuantity_39 : decode cX10_walkQuantity 39 = .ok (.if_icmp .eq 38, 3) := by decide +kernel
theorem dX10_walkQuantity_42 : decode cX10_walkQuantity 42 = .ok (.lload 4, 2) := by decide +kernel
theorem dX10_walkQuantity_44 : decode cX10_walkQuantity 44 = .ok (.aload_n 0, 1) := by decide +kernel
theorem dX10_walkQuantity_45 : decode cX10_walkQuantity 45 = .ok (.getfield 137, 3) := by decide +kernel
theorem dX10_walkQuantity_48 : decode cX10_walkQuantity 48 = .ok (.getfield 425, 3) := by decide +kernel
theorem dX10_walkQuantity_51 : decode cX10_walkQuantity 51 = .ok (.iload 7, 2) := by decide +kernel
theorem dX10_walkQuantity_53 : decode cX10_walkQuantity 53 = .ok (.iaload, 1) := by decide +kernel
theorem dX10_walkQuantity_54 : decode cX10_walkQuantity 54 = .ok (.i2l, 1) := by decide +kernel
theorem dX10_walkQuantity_55 : decode cX10_walkQuantity 55 = .ok (.aload_n 0, 1) := by decide +kernel
theorem dX10_walkQuantity_56 : decode cX10_walkQuantity 56 = .ok (.aload_n 0, 1) := by decide +kernel
theorem dX10_walkQuantity_57 : decode cX10_walkQuantity 57 = .ok (.getfield 137, 3) := by decide +kernel
theorem dX10_walkQuantity_60 : decode cX10_walkQuantity 60 = .ok (.getfield 422, 3) := by decide +kernel
theorem dX10_walkQuantity_63 : decode cX10_walkQuantity 63 = .ok (.iload 7, 2) := by decide +kernel
theorem dX10_walkQuantity_65 : decode cX10_walkQuantity 65 = .ok (.iaload, 1) := by decide +kernel
theorem dX10_walkQuantity_66 : decode cX10_walkQuantity 66 = .ok (.iload_n 2, 1) := by decide +kernel
theorem dX10_walkQuantity_67 : decode cX10_walkQuantity 67 = .ok (.iload_n 3, 1) := by decide +kernel
theorem dX10_walkQuantity_68 : decode cX10_walkQuantity 68 = .ok (.iconst 1, 1) := by decide +kernel
theorem dX10_walkQuantity_69 : decode cX10_walkQuantity 69 = .ok (.iadd, 1) := by decide +kernel
theorem dX10_walkQuantity_70 : decode cX10_walkQuantity 70 = .ok (.invokestatic 243, 3) := by decide +kernel
theorem dX10_walkQuantity_73 : decode cX10_walkQuantity 73 = .ok (.lmul, 1) := by decide +kernel
theorem dX10_walkQuantity_74 : decode cX10_walkQuantity 74 = .ok (.ladd, 1) := by decide +kernel
theorem dX10_walkQuantity_75 : decode cX10_walkQuantity 75 = .ok (.lstore 4, 2) := by decide +kernel
theorem dX10_walkQuantity_77 : decode cX10_walkQuantity 77 = .ok (.iinc 6 1, 3) := by decide +kernel
theorem dX10_walkQuantity_80 : decode cX10_walkQuantity 80 = .ok (.goto (-60), 3) := by decide +kernel
theorem dX10_walkQuantity_83 : decode cX10_walkQuantity 83 = .ok (.lload 4, 2) := by decide +kernel
theorem dX10_walkQuantity_85 : decode cX10_walkQuantity 85 = .ok (.lreturn, 1) := by decide +kernel
theorem dX10_walkCost_0 : decode cX10_walkCost 0 = .ok (.aload_n 0, 1) := by decide +kernel
theorem dX10_walkCost_1 : decode cX10_walkCost 1 = .ok (.getfield 80, 3) := by decide +kernel
theorem dX10_walkCost_4 : decode cX10_walkCost 4 = .ok (.iload_n 1, 1) := by decide +kernel
theorem dX10_walkCost_5 : decode cX10_walkCost 5 = .ok (.invokevirtual 431, 3) := by decide +kernel
theorem dX10_walkCost_8 : decode cX10_walkCost 8 = .ok (.fstore_n 3, 1) := by decide +kernel
theorem dX10_walkCost_9 : decode cX10_walkCost 9 = .ok (.iload_n 2, 1) := by decide +kernel
theorem dX10_walkCost_10 : decode cX10_walkCost 10 = .ok (.iconst 4, 1) := by decide +kernel
theorem dX10_walkCost_11 : decode cX10_walkCost 11 = .ok (.if_icmp .lt 5, 3) := by decide +kernel
theorem dX10_walkCost_14 : decode cX10_walkCost 14 = .ok (.fload_n 3, 1) := by decide +kernel
theorem dX10_walkCost_15 : decode cX10_walkCost 15 = .ok (.freturn, 1) := by decide +kernel
theorem dX10_walkCost_16 : decode cX10_walkCost 16 = .ok (.iconst 1, 1) := by decide +kernel
theorem dX10_walkCost_17 : decode cX10_walkCost 17 = .ok (.istore 4, 2) := by decide +kernel
theorem dX10_walkCost_19 : decode cX10_walkCost 19 = .ok (.iload 4, 2) := by decide +kernel
theorem dX10_walkCost_21 : decode cX10_walkCost 21 = .ok (.bipush 6, 2) := by decide +kernel
theorem dX10_walkCost_23 : decode cX10_walkCost 23 = .ok (.if_icmp .gt 53, 3) := by decide +kernel
theorem dX10_walkCost_26 : decode cX10_walkCost 26 = .ok (.aload_n 0, 1) := by decide +kernel
theorem dX10_walkCost_27 : decode cX10_walkCost 27 = .ok (.iload_n 1, 1) := by decide +kernel
theorem dX10_walkCost_28 : decode cX10_walkCost 28 = .ok (.iload 4, 2) := by decide +kernel
theorem dX10_walkCost_30 : decode cX10_walkCost 30 = .ok (.invokevirtual 419, 3) := by decide +kernel
theorem dX10_walkCost_33 : decode cX10_walkCost 33 = .ok (.istore 5, 2) := by decide +kernel
theorem dX10_walkCost_35 : decode cX10_walkCost 35 = .ok (.iload 5, 2) := by decide +kernel
theorem dX10_walkCost_37 : decode cX10_walkCost 37 = .ok (.iconst (-1), 1) := by decide +kernel
theorem dX10_walkCost_38 : decode cX10_walkCost 38 = .ok (.if_icmp .eq 32, 3) := by decide +kernel
theorem dX10_walkCost_41 : decode cX10_walkCost 41 = .ok (.fload_n 3, 1) := by decide +kernel
theorem dX10_walkCost_42 : decode cX10_walkCost 42 = .ok (.aload_n 0, 1) := by decide +kernel
theorem dX10_walkCost_43 : decode cX10_walkCost 43 = .ok (.getfield 137, 3) := by decide +kernel
theorem dX10_walkCost_46 : decode cX10_walkCost 46 = .ok (.iload 5, 2) := by decide +kernel
theorem dX10_walkCost_48 : decode cX10_walkCost 48 = .ok (.aload_n 0, 1) := by decide +kernel
theorem dX10_walkCost_49 : decode cX10_walkCost 49 = .ok (.aload_n 0, 1) := by decide +kernel
theorem dX10_walkCost_50 : decode cX10_walkCost 50 = .ok (.getfield 137, 3) := by decide +kernel
theorem dX10_walkCost_53 : decode cX10_walkCost 53 = .ok (.getfield 422, 3) := by decide +kernel
theorem dX10_walkCost_56 : decode cX10_walkCost 56 = .ok (.iload 5, 2) := by decide +kernel
theorem dX10_walkCost_58 : decode cX10_walkCost 58 = .ok (.iaload, 1) := by decide +kernel
theorem dX10_walkCost_59 : decode cX10_walkCost 59 = .ok (.iload_n 2, 1) := by decide +kernel
theorem dX10_walkCost_60 : decode cX10_walkCost 60 = .ok (.iconst 1, 1) := by decide +kernel
theorem dX10_walkCost_61 : decode cX10_walkCost 61 = .ok (.iadd, 1) := by decide +kernel
theorem dX10_walkCost_62 : decode cX10_walkCost 62 = .ok (.invokestatic 255, 3) := by decide +kernel
theorem dX10_walkCost_65 : decode cX10_walkCost 65 = .ok (.invokevirtual 435, 3) := by decide +kernel
theorem dX10_walkCost_68 : decode cX10_walkCost 68 = .ok (.fadd, 1) := by decide +kernel
theorem dX10_walkCost_69 : decode cX10_walkCost 69 = .ok (.fstore_n 3, 1) := by decide +kernel
theorem dX10_walkCost_70 : decode cX10_walkCost 70 = .ok (.iinc 4 1, 3) := by decide +kernel
theorem dX10_walkCost_73 : decode cX10_walkCost 73 = .ok (.goto (-54), 3) := by decide +kernel
theorem dX10_walkCost_76 : decode cX10_walkCost 76 = .ok (.fload_n 3, 1) := by decide +kernel
theorem dX10_walkCost_77 : decode cX10_walkCost 77 = .ok (.freturn, 1) := by decide +kernel
theorem dX10_isBetween_0 : decode cX10_isBetween 0 = .ok (.iload_n 0, 1) := by decide +kernel
theorem dX10_isBetween_1 : decode cX10_isBetween 1 = .ok (.iload_n 1, 1) := by decide +kernel
theorem dX10_isBetween_2 : decode cX10_isBetween 2 = .ok (.if_icmp .lt 12, 3) := by decide +kernel
theorem dX10_isBetween_5 : decode cX10_isBetween 5 = .ok (.iload_n 0, 1) := by decide +kernel
theorem dX10_isBetween_6 : decode cX10_isBetween 6 = .ok (.iload_n 2, 1) := by decide +kernel
theorem dX10_isBetween_7 : decode cX10_isBetween 7 = .ok (.if_icmp .gt 7, 3) := by decide +kernel
theorem dX10_isBetween_10 : decode cX10_isBetween 10 = .ok (.iconst 1, 1) := by decide +kernel
theorem dX10_isBetween_11 : decode cX10_isBetween 11 = .ok (.goto 4, 3) := by decide +kernel
theorem dX10_isBetween_14 : decode cX10_isBetween 14 = .ok (.iconst 0, 1) := by decide +kernel
theorem dX10_isBetween_15 : decode cX10_isBetween 15 = .ok (.ireturn, 1) := by decide +kernel
theorem dX10_isKind_0 : decode cX10_isKind 0 = .ok (.iload_n 0, 1) := by decide +kernel
theorem dX10_isKind_1 : decode cX10_isKind 1 = .ok (.bipush 98, 2) := by decide +kernel
theorem dX10_isKind_3 : decode cX10_isKind 3 = .ok (.if_icmp .eq 15, 3) := by decide +kernel
theorem dX10_isKind_6 : decode cX10_isKind 6 = .ok (.iload_n 0, 1) := by decide +kernel
theorem dX10_isKind_7 : decode cX10_isKind 7 = .ok (.bipush 109, 2) := by decide +kernel
theorem dX10_isKind_9 : decode cX10_isKind 9 = .ok (.if_icmp .eq 9, 3) := by decide +kernel
theorem dX10_isKind_12 : decode cX10_isKind 12 = .ok (.iload_n 0, 1) := by decide +kernel
theorem dX10_isKind_13 : decode cX10_isKind 13 = .ok (.bipush 112, 2) := by decide +kernel
theorem dX10_isKind_15 : decode cX10_isKind 15 = .ok (.if_icmp .ne 7, 3) := by decide +kernel
theorem dX10_isKind_18 : decode cX10_isKind 18 = .ok (.iconst 1, 1) := by decide +kernel
theorem dX10_isKind_19 : decode cX10_isKind 19 = .ok (.goto 4, 3) := by decide +kernel
theorem dX10_isKind_22 : decode cX10_isKind 22 = .ok (.iconst 0, 1) := by decide +kernel
theorem dX10_isKind_23 : decode cX10_isKind 23 = .ok (.ireturn, 1) := by decide +kernel
theorem dX10_choiceIn_0 : decode cX10_choiceIn 0 = .ok (.iload_n 0, 1) := by decide +kernel
theorem dX10_choiceIn_1 : decode cX10_choiceIn 1 = .ok (.iconst 2, 1) := by decide +kernel
theorem dX10_choiceIn_2 : decode cX10_choiceIn 2 = .ok (.iload_n 1, 1) := by decide +kernel
theorem dX10_choiceIn_3 : decode cX10_choiceIn 3 = .ok (.imul, 1) := by decide +kernel
theorem dX10_choiceIn_4 : decode cX10_choiceIn 4 = .ok (.ishr, 1) := by decide +kernel
theorem dX10_choiceIn_5 : decode cX10_choiceIn 5 = .ok (.iconst 3, 1) := by decide +kernel
theorem dX10_choiceIn_6 : decode cX10_choiceIn 6 = .ok (.iand, 1) := by decide +kernel
theorem dX10_choiceIn_7 : decode cX10_choiceIn 7 = .ok (.ireturn, 1) := by decide +kernel
theorem dX10_isConfiguration_0 : decode cX10_isConfiguration 0 = .ok (.iload_n 0, 1) := by decide +kernel
theorem dX10_isConfiguration_1 : decode cX10_isConfiguration 1 = .ok (.iconst 0, 1) := by decide +kernel
theorem dX10_isConfiguration_2 : decode cX10_isConfiguration 2 = .ok (.sipush 255, 3) := by decide +kernel
theorem dX10_isConfiguration_5 : decode cX10_isConfiguration 5 = .ok (.invokestatic 177, 3) := by decide +kernel
theorem dX10_isConfiguration_8 : decode cX10_isConfiguration 8 = .ok (.ireturn, 1) := by decide +kernel
theorem dX11_init_0 : decode cX11_init 0 = .ok (.aload_n 0, 1) := by decide +kernel
theorem dX11_init_1 : decode cX11_init 1 = .ok (.invokespecial 1, 3) := by decide +kernel
theorem dX11_init_4 : decode cX11_init 4 = .ok (.aload_n 0, 1) := by decide +kernel
theorem dX11_init_5 : decode cX11_init 5 = .ok (.bipush 16, 2) := by decide +kernel
theorem dX11_init_7 : decode cX11_init 7 = .ok (.newarray .int, 2) := by decide +kernel
theorem dX11_init_9 : decode cX11_init 9 = .ok (.putfield 7, 3) := by decide +kernel
theorem dX11_init_12 : decode cX11_init 12 = .ok (.aload_n 0, 1) := by decide +kernel
theorem dX11_init_13 : decode cX11_init 13 = .ok (.bipush 16, 2) := by decide +kernel
theorem dX11_init_15 : decode cX11_init 15 = .ok (.newarray .int, 2) := by decide +kernel
theorem dX11_init_17 : decode cX11_init 17 = .ok (.putfield 13, 3) := by decide +kernel
theorem dX11_init_20 : decode cX11_init 20 = .ok (.aload_n 0, 1) := by decide +kernel
theorem dX11_init_21 : decode cX11_init 21 = .ok (.bipush 16, 2) := by decide +kernel
theorem dX11_init_23 : decode cX11_init 23 = .ok (.newarray .int, 2) := by decide +kernel
theorem dX11_init_25 : decode cX11_init 25 = .ok (.putfield 16, 3) := by decide +kernel
theorem dX11_init_28 : decode cX11_init 28 = .ok (.aload_n 0, 1) := by decide +kernel
theorem dX11_init_29 : decode cX11_init 29 = .ok (.bipush 40, 2) := by decide +kernel
theorem dX11_init_31 : decode cX11_init 31 = .ok (.newarray .int, 2) := by decide +kernel
theorem dX11_init_33 : decode cX11_init 33 = .ok (.putfield 19, 3) := by decide +kernel
theorem dX11_init_36 : decode cX11_init 36 = .ok (.aload_n 0, 1) := by decide +kernel
theorem dX11_init_37 : decode cX11_init 37 = .ok (.bipush 40, 2) := by decide +kernel
theorem dX11_init_39 : decode cX11_init 39 = .ok (.newarray .int, 2) := by decide +kernel
theorem dX11_init_41 : decode cX11_init 41 = .ok (.putfield 22, 3) := by decide +kernel
theorem dX11_init_44 : decode cX11_init 44 = .ok (.aload_n 0, 1) := by decide +kernel
theorem dX11_init_45 : decode cX11_init 45 = .ok (.bipush 40, 2) := by decide +kernel
theorem dX11_init_47 : decode cX11_init 47 = .ok (.newarray .int, 2) := by decide +kernel
theorem dX11_init_49 : decode cX11_init 49 = .ok (.putfield 25, 3) := by decide +kernel
theorem dX11_init_52 : decode cX11_init 52 = .ok (.aload_n 0, 1) := by decide +kernel
theorem dX11_init_53 : decode cX11_init 53 = .ok (.bipush 40, 2) := by decide +kernel
theorem dX11_init_55 : decode cX11_init 55 = .ok (.newarray .int, 2) := by decide +kernel
theorem dX11_init_57 : decode cX11_init 57 = .ok (.putfield 28, 3) := by decide +kernel
theorem dX11_init_60 : decode cX11_init 60 = .ok (.aload_n 0, 1) := by decide +kernel
theorem dX11_init_61 : decode cX11_init 61 = .ok (.bipush 40, 2) := by decide +kernel
theorem dX11_init_63 : decode cX11_init 63 = .ok (.newarray .int, 2) := by decide +kernel
theorem dX11_init_65 : decode cX11_init 65 = .ok (.putfield 31, 3) := by decide +kernel
theorem dX11_init_68 : decode cX11_init 68 = .ok (.aload_n 0, 1) := by decide +kernel
theorem dX11_init_69 : decode cX11_init 69 = .ok (.bipush 40, 2) := by decide +kernel
theorem dX11_init_71 : decode cX11_init 71 = .ok (.newarray .int, 2) := by decide +kernel
theorem dX11_init_73 : decode cX11_init 73 = .ok (.putfield 34, 3) := by decide +kernel
theorem dX11_init_76 : decode cX11_init 76 = .ok (.aload_n 0, 1) := by decide +kernel
theorem dX11_init_77 : decode cX11_init 77 = .ok (.bipush 40, 2) := by decide +kernel
theorem dX11_init_79 : decode cX11_init 79 = .ok (.newarray .int, 2) := by decide +kernel
theorem dX11_init_81 : decode cX11_init 81 = .ok (.putfield 37, 3) := by decide +kernel
theorem dX11_init_84 : decode cX11_init 84 = .ok (.aload_n 0, 1) := by decide +kernel
theorem dX11_init_85 : decode cX11_init 85 = .ok (.bipush 40, 2) := by decide +kernel
theorem dX11_init_87 : decode cX11_init 87 = .ok (.newarray .int, 2) := by decide +kernel
theorem dX11_init_89 : decode cX11_init 89 = .ok (.putfield 40, 3) := by decide +kernel
theorem dX11_init_92 : decode cX11_init 92 = .ok (.aload_n 0, 1) := by decide +kernel
theorem dX11_init_93 : decode cX11_init 93 = .ok (.bipush 40, 2) := by decide +kernel
theorem dX11_init_95 : decode cX11_init 95 = .ok (.newarray .int, 2) := by decide +kernel
theorem dX11_init_97 : decode cX11_init 97 = .ok (.putfield 43, 3) := by decide +kernel
theorem dX11_init_100 : decode cX11_init 100 = .ok (.aload_n 0, 1) := by decide +kernel
theorem dX11_init_101 : decode cX11_init 101 = .ok (.iconst 4, 1) := by decide +kernel
theorem dX11_init_102 : decode cX11_init 102 = .ok (.newarray .int, 2) := by decide +kernel
theorem dX11_init_104 : decode cX11_init 104 = .ok (.putfield 46, 3) := by decide +kernel
theorem dX11_init_107 : decode cX11_init 107 = .ok (.aload_n 0, 1) := by decide +kernel
theorem dX11_init_108 : decode cX11_init 108 = .ok (.iconst 4, 1) := by decide +kernel
theorem dX11_init_109 : decode cX11_init 109 = .ok (.newarray .int, 2) := by decide +kernel
theorem dX11_init_111 : decode cX11_init 111 = .ok (.putfield 49, 3) := by decide +kernel
theorem dX11_init_114 : decode cX11_init 114 = .ok (.aload_n 0, 1) := by decide +kernel
theorem dX11_init_115 : decode cX11_init 115 = .ok (.bipush 8, 2) := by decide +kernel
theorem dX11_init_117 : decode cX11_init 117 = .ok (.newarray .int, 2) := by decide +kernel
theorem dX11_init_119 : decode cX11_init 119 = .ok (.putfield 52, 3) := by decide +kernel
theorem dX11_init_122 : decode cX11_init 122 = .ok (.aload_n 0, 1) := by decide +kernel
theorem dX11_init_123 : decode cX11_init 123 = .ok (.bipush 8, 2) := by decide +kernel
theorem dX11_init_125 : decode cX11_init 125 = .ok (.newarray .int, 2) := by decide +kernel
theorem dX11_init_127 : decode cX11_init 127 = .ok (.putfield 55, 3) := by decide +kernel
theorem dX11_init_130 : decode cX11_init 130 = .ok (.aload_n 0, 1) := by decide +kernel
theorem dX11_init_131 : decode cX11_init 131 = .ok (.bipush 8, 2) := by decide +kernel
theorem dX11_init_133 : decode cX11_init 133 = .ok (.newarray .int, 2) := by decide +kernel
theorem dX11_init_135 : decode cX11_init 135 = .ok (.putfield 58, 3) := by decide +kernel
theorem dX11_init_138 : decode cX11_init 138 = .ok (.aload_n 0, 1) := by decide +kernel
theorem dX11_init_139 : decode cX11_init 139 = .ok (.bipush 32, 2) := by decide +kernel
theorem dX11_init_141 : decode cX11_init 141 = .ok (.newarray .int, 2) := by decide +kernel
theorem dX11_init_143 : decode cX11_init 143 = .ok (.putfield 61, 3) := by decide +kernel
theorem dX11_init_146 : decode cX11_init 146 = .ok (.aload_n 0, 1) := by decide +kernel
theorem dX11_init_147 : decode cX11_init 147 = .ok (.bipush 8, 2) := by decide +kernel
theorem dX11_init_149 : decode cX11_init 149 = .ok (.newarray .boolean, 2) := by decide +kernel
theorem dX11_init_151 : decode cX11_init 151 = .ok (.putfield 64, 3) := by decide +kernel
theorem dX11_init_154 : decode cX11_init 154 = .ok (.aload_n 0, 1) := by decide +kernel
theorem dX11_init_155 : decode cX11_init 155 = .ok (.bipush 16, 2) := by decide +kernel
theorem dX11_init_157 : decode cX11_init 157 = .ok (.newarray .float, 2) := by decide +kernel
theorem dX11_init_159 : decode cX11_init 159 = .ok (.putfield 68, 3) := by decide +kernel
theorem dX11_init_162 : decode cX11_init 162 = .ok (.aload_n 0, 1) := by decide +kernel
theorem dX11_init_163 : decode cX11_init 163 = .ok (.sipush 20000, 3) := by decide +kernel
theorem dX11_init_166 : decode cX11_init 166 = .ok (.newarray .int, 2) := by decide +kernel
theorem dX11_init_168 : decode cX11_init 168 = .ok (.putfield 72, 3) := by decide +kernel
theorem dX11_init_171 : decode cX11_init 171 = .ok (.aload_n 0, 1) := by decide +kernel
theorem dX11_init_172 : decode cX11_init 172 = .ok (.sipush 1500, 3) := by decide +kernel
theorem dX11_init_175 : decode cX11_init 175 = .ok (.newarray .int, 2) := by decide +kernel
theorem dX11_init_177 : decode cX11_init 177 = .ok (.putfield 75, 3) := by decide +kernel
theorem dX11_init_180 : decode cX11_init 180 = .ok (.aload_n 0, 1) := by decide +kernel
theorem dX11_init_181 : decode cX11_init 181 = .ok (.sipush 1500, 3) := by decide +kernel
theorem dX11_init_184 : decode cX11_init 184 = .ok (.newarray .long, 2) := by decide +kernel
theorem dX11_init_186 : decode cX11_init 186 = .ok (.putfield 78, 3) := by decide +kernel
theorem dX11_init_189 : decode cX11_init 189 = .ok (.return_, 1) := by decide +kernel
theorem dX11_thrown_0 : decode cX11_thrown 0 = .ok (.aload_n 0, 1) := by decide +kernel
theorem dX11_thrown_1 : decode cX11_thrown 1 = .ok (.getfield 82, 3) := by decide +kernel
theorem dX11_thrown_4 : decode cX11_thrown 4 = .ok (.ireturn, 1) := by decide +kernel
theorem dX11_fails_0 : decode cX11_fails 0 = .ok (.aload_n 0, 1) := by decide +kernel
theorem dX11_fails_1 : decode cX11_fails 1 = .ok (.iload_n 1, 1) := by decide +kernel
theorem dX11_fails_2 : decode cX11_fails 2 = .ok (.putfield 82, 3) := by decide +kernel
theorem dX11_fails_5 : decode cX11_fails 5 = .ok (.iconst 0, 1) := by decide +kernel
theorem dX11_fails_6 : decode cX11_fails 6 = .ok (.ireturn, 1) := by decide +kernel
theorem dX11_in_0 : decode cX11_in 0 = .ok (.iload_n 0, 1) := by decide +kernel
theorem dX11_in_1 : decode cX11_in 1 = .ok (.iload_n 1, 1) := by decide +kernel
theorem dX11_in_2 : decode cX11_in 2 = .ok (.if_icmp .lt 12, 3) := by decide +kernel
theorem dX11_in_5 : decode cX11_in 5 = .ok (.iload_n 0, 1) := by decide +kernel
theorem dX11_in_6 : decode cX11_in 6 = .ok (.iload_n 2, 1) := by decide +kernel
theorem dX11_in_7 : decode cX11_in 7 = .ok (.if_icmp .gt 7, 3) := by decide +kernel
theorem dX11_in_10 : decode cX11_in 10 = .ok (.iconst 1, 1) := by decide +kernel
theorem dX11_in_11 : decode cX11_in 11 = .ok (.goto 4, 3) := by decide +kernel
theorem dX11_in_14 : decode cX11_in 14 = .ok (.iconst 0, 1) := by decide +kernel
theorem dX11_in_15 : decode cX11_in 15 = .ok (.ireturn, 1) := by decide +kernel
theorem dX11_isPart_0 : decode cX11_isPart 0 = .ok (.iload_n 1, 1) := by decide +kernel
theorem dX11_isPart_1 : decode cX11_isPart 1 = .ok (.iconst 0, 1) := by decide +kernel
theorem dX11_isPart_2 : decode cX11_isPart 2 = .ok (.aload_n 0, 1) := by decide +kernel
theorem dX11_isPart_3 : decode cX11_isPart 3 = .ok (.getfield 86, 3) := by decide +kernel
theorem dX11_isPart_6 : decode cX11_isPart 6 = .ok (.iconst 1, 1) := by decide +kernel
theorem dX11_isPart_7 : decode cX11_isPart 7 = .ok (.isub, 1) := by decide +kernel
theorem dX11_isPart_8 : decode cX11_isPart 8 = .ok (.invokestatic 89, 3) := by decide +kernel
theorem dX11_isPart_11 : decode cX11_isPart 11 = .ok (.ireturn, 1) := by decide +kernel
theorem dX11_isLine_0 : decode cX11_isLine 0 = .ok (.iload_n 1, 1) := by decide +kernel
theorem dX11_isLine_1 : decode cX11_isLine 1 = .ok (.iconst 0, 1) := by decide +kernel
theorem dX11_isLine_2 : decode cX11_isLine 2 = .ok (.aload_n 0, 1) := by decide +kernel
theorem dX11_isLine_3 : decode cX11_isLine 3 = .ok (.getfield 93, 3) := by decide +kernel
theorem dX11_isLine_6 : decode cX11_isLine 6 = .ok (.iconst 1, 1) := by decide +kernel
theorem dX11_isLine_7 : decode cX11_isLine 7 = .ok (.isub, 1) := by decide +kernel
theorem dX11_isLine_8 : decode cX11_isLine 8 = .ok (.invokestatic 89, 3) := by decide +kernel
theorem dX11_isLine_11 : decode cX11_isLine 11 = .ok (.ireturn, 1) := by decide +kernel
theorem dX11_isKind_0 : decode cX11_isKind 0 = .ok (.iload_n 0, 1) := by decide +kernel
theorem dX11_isKind_1 : decode cX11_isKind 1 = .ok (.bipush 98, 2) := by decide +kernel
theorem dX11_isKind_3 : decode cX11_isKind 3 = .ok (.if_icmp .eq 15, 3) := by decide +kernel
theorem dX11_isKind_6 : decode cX11_isKind 6 = .ok (.iload_n 0, 1) := by decide +kernel
theorem dX11_isKind_7 : decode cX11_isKind 7 = .ok (.bipush 109, 2) := by decide +kernel
theorem dX11_isKind_9 : decode cX11_isKind 9 = .ok (.if_icmp .eq 9, 3) := by decide +kernel
theorem dX11_isKind_12 : decode cX11_isKind 12 = .ok (.iload_n 0, 1) := by decide +kernel
theorem dX11_isKind_13 : decode cX11_isKind 13 = .ok (.bipush 112, 2) := by decide +kernel
theorem dX11_isKind_15 : decode cX11_isKind 15 = .ok (.if_icmp .ne 7, 3) := by decide +kernel
theorem dX11_isKind_18 : decode cX11_isKind 18 = .ok (.iconst 1, 1) := by decide +kernel
theorem dX11_isKind_19 : decode cX11_isKind 19 = .ok (.goto 4, 3) := by decide +kernel
theorem dX11_isKind_22 : decode cX11_isKind 22 = .ok (.iconst 0, 1) := by decide +kernel
theorem dX11_isKind_23 : decode cX11_isKind 23 = .ok (.ireturn, 1) := by decide +kernel
theorem dX11_isAsked_0 : decode cX11_isAsked 0 = .ok (.aload_n 0, 1) := by decide +kernel
theorem dX11_isAsked_1 : decode cX11_isAsked 1 = .ok (.aload_n 0, 1) := by decide +kernel
theorem dX11_isAsked_2 : decode cX11_isAsked 2 = .ok (.iload_n 1, 1) := by decide +kernel
theorem dX11_isAsked_3 : decode cX11_isAsked 3 = .ok (.invokevirtual 96, 3) := by decide +kernel
theorem dX11_isAsked_6 : decode cX11_isAsked 6 = .ok (.ifCond .ne 7, 3) := by decide +kernel
theorem dX11_isAsked_9 : decode cX11_isAsked 9 = .ok (.iconst 1, 1) := by decide +kernel
theorem dX11_isAsked_10 : decode cX11_isAsked 10 = .ok (.goto 19, 3) := by decide +kernel
theorem dX11_isAsked_13 : decode cX11_isAsked 13 = .ok (.iload_n 2, 1) := by decide +kernel
theorem dX11_isAsked_14 : decode cX11_isAsked 14 = .ok (.iconst 1, 1) := by decide +kernel
theorem dX11_isAsked_15 : decode cX11_isAsked 15 = .ok (.sipush 999, 3) := by decide +kernel
theorem dX11_isAsked_18 : decode cX11_isAsked 18 = .ok (.invokestatic 89, 3) := by decide +kernel
theorem dX11_isAsked_21 : decode cX11_isAsked 21 = .ok (.ifCond .eq 7, 3) := by decide +kernel
theorem dX11_isAsked_24 : decode cX11_isAsked 24 = .ok (.iconst 0, 1) := by decide +kernel
theorem dX11_isAsked_25 : decode cX11_isAsked 25 = .ok (.goto 4, 3) := by decide +kernel
theorem dX11_isAsked_28 : decode cX11_isAsked 28 = .ok (.iconst 2, 1) := by decide +kernel
theorem dX11_isAsked_29 : decode cX11_isAsked 29 = .ok (.putfield 82, 3) := by decide +kernel
theorem dX11_isAsked_32 : decode cX11_isAsked 32 = .ok (.aload_n 0, 1) := by decide +kernel
theorem dX11_isAsked_33 : decode cX11_isAsked 33 = .ok (.getfield 82, 3) := by decide +kernel
theorem dX11_isAsked_36 : decode cX11_isAsked 36 = .ok (.ifCond .ne 7, 3) := by decide +kernel
theorem dX11_isAsked_39 : decode cX11_isAsked 39 = .ok (.iconst 1, 1) := by decide +kernel
theorem dX11_isAsked_40 : decode cX11_isAsked 40 = .ok (.goto 4, 3) := by decide +kernel
theorem dX11_isAsked_43 : decode cX11_isAsked 43 = .ok (.iconst 0, 1) := by decide +kernel
theorem dX11_isAsked_44 : decode cX11_isAsked 44 = .ok (.ireturn, 1) := by decide +kernel
theorem dX11_addPart_0 : decode cX11_addPart 0 = .ok (.iload_n 1, 1) := by decide +kernel
theorem dX11_addPart_1 : decode cX11_addPart 1 = .ok (.invokestatic 100, 3) := by decide +kernel
theorem dX11_addPart_4 : decode cX11_addPart 4 = .ok (.ifCond .eq 23, 3) := by decide +kernel
theorem dX11_addPart_7 : decode cX11_addPart 7 = .ok (.iload_n 2, 1) := by decide +kernel
theorem dX11_addPart_8 : decode cX11_addPart 8 = .ok (.iconst 0, 1) := by decide +kernel
theorem dX11_addPart_9 : decode cX11_addPart 9 = .ok (.ldc 104, 2) := by decide +kernel
theorem dX11_addPart_11 : decode cX11_addPart 11 = .ok (.invokestatic 89, 3) := by decide +kernel
theorem dX11_addPart_14 : decode cX11_addPart 14 = .ok (.ifCond .eq 13, 3) := by decide +kernel
theorem dX11_addPart_17 : decode cX11_addPart 17 = .ok (.iload_n 3, 1) := by decide +kernel
theorem dX11_addPart_18 : decode cX11_addPart 18 = .ok (.iconst 0, 1) := by decide +kernel
theorem dX11_addPart_19 : decode cX11_addPart 19 = .ok (.ldc 104, 2) := by decide +kernel
theorem dX11_addPart_21 : decode cX11_addPart 21 = .ok (.invokestatic 89, 3) := by decide +kernel
theorem dX11_addPart_24 : decode cX11_addPart 24 = .ok (.ifCond .ne 9, 3) := by decide +kernel
theorem dX11_addPart_27 : decode cX11_addPart 27 = .ok (.aload_n 0, 1) := by decide +kernel
theorem dX11_addPart_28 : decode cX11_addPart 28 = .ok (.iconst 1, 1) := by decide +kernel
theorem dX11_addPart_29 : decode cX11_addPart 29 = .ok (.invokevirtual 105, 3) := by decide +kernel
theorem dX11_addPart_32 : decode cX11_addPart 32 = .ok (.ireturn, 1) := by decide +kernel
theorem dX11_addPart_33 : decode cX11_addPart 33 = .ok (.aload_n 0, 1) := by decide +kernel
theorem dX11_addPart_34 : decode cX11_addPart 34 = .ok (.getfield 86, 3) := by decide +kernel
theorem dX11_addPart_37 : decode cX11_addPart 37 = .ok (.bipush 16, 2) := by decide +kernel
theorem dX11_addPart_39 : decode cX11_addPart 39 = .ok (.if_icmp .ne 9, 3) := by decide +kernel
theorem dX11_addPart_42 : decode cX11_addPart 42 = .ok (.aload_n 0, 1) := by decide +kernel
theorem dX11_addPart_43 : decode cX11_addPart 43 = .ok (.iconst 2, 1) := by decide +kernel
theorem dX11_addPart_44 : decode cX11_addPart 44 = .ok (.invokevirtual 105, 3) := by decide +kernel
theorem dX11_addPart_47 : decode cX11_addPart 47 = .ok (.ireturn, 1) := by decide +kernel
theorem dX11_addPart_48 : decode cX11_addPart 48 = .ok (.aload_n 0, 1) := by decide +kernel
theorem dX11_addPart_49 : decode cX11_addPart 49 = .ok (.iconst 0, 1) := by decide +kernel
theorem dX11_addPart_50 : decode cX11_addPart 50 = .ok (.putfield 82, 3) := by decide +kernel
theorem dX11_addPart_53 : decode cX11_addPart 53 = .ok (.aload_n 0, 1) := by decide +kernel
theorem dX11_addPart_54 : decode cX11_addPart 54 = .ok (.getfield 7, 3) := by decide +kernel
theorem dX11_addPart_57 : decode cX11_addPart 57 = .ok (.aload_n 0, 1) := by decide +kernel
theorem dX11_addPart_58 : decode cX11_addPart 58 = .ok (.getfield 86, 3) := by decide +kernel
theorem dX11_addPart_61 : decode cX11_addPart 61 = .ok (.iload_n 1, 1) := by decide +kernel
theorem dX11_addPart_62 : decode cX11_addPart 62 = .ok (.iastore, 1) := by decide +kernel
theorem dX11_addPart_63 : decode cX11_addPart 63 = .ok (.aload_n 0, 1) := by decide +kernel
theorem dX11_addPart_64 : decode cX11_addPart 64 = .ok (.getfield 13, 3) := by decide +kernel
theorem dX11_addPart_67 : decode cX11_addPart 67 = .ok (.aload_n 0, 1) := by decide +kernel
theorem dX11_addPart_68 : decode cX11_addPart 68 = .ok (.getfield 86, 3) := by decide +kernel
theorem dX11_addPart_71 : decode cX11_addPart 71 = .ok (.iload_n 2, 1) := by decide +kernel
theorem dX11_addPart_72 : decode cX11_addPart 72 = .ok (.iastore, 1) := by decide +kernel
theorem dX11_addPart_73 : decode cX11_addPart 73 = .ok (.aload_n 0, 1) := by decide +kernel
theorem dX11_addPart_74 : decode cX11_addPart 74 = .ok (.getfield 16, 3) := by decide +kernel
theorem dX11_addPart_77 : decode cX11_addPart 77 = .ok (.aload_n 0, 1) := by decide +kernel
theorem dX11_addPart_78 : decode cX11_addPart 78 = .ok (.getfield 86, 3) := by decide +kernel
theorem dX11_addPart_81 : decode cX11_addPart 81 = .ok (.iload_n 3, 1) := by decide +kernel
theorem dX11_addPart_82 : decode cX11_addPart 82 = .ok (.iastore, 1) := by decide +kernel
theorem dX11_addPart_83 : decode cX11_addPart 83 = .ok (.aload_n 0, 1) := by decide +kernel
theorem dX11_addPart_84 : decode cX11_addPart 84 = .ok (.dup, 1) := by decide +kernel
theorem dX11_addPart_85 : decode cX11_addPart 85 = .ok (.getfield 86, 3) := by decide +kernel
theorem dX11_addPart_88 : decode cX11_addPart 88 = .ok (.iconst 1, 1) := by decide +kernel
theorem dX11_addPart_89 : decode cX11_addPart 89 = .ok (.iadd, 1) := by decide +kernel
theorem dX11_addPart_90 : decode cX11_addPart 90 = .ok (.putfield 86, 3) := by decide +kernel
theorem dX11_addPart_93 : decode cX11_addPart 93 = .ok (.aload_n 0, 1) := by decide +kernel
theorem dX11_addPart_94 : decode cX11_addPart 94 = .ok (.getfield 86, 3) := by decide +kernel
theorem dX11_addPart_97 : decode cX11_addPart 97 = .ok (.iconst 1, 1) := by decide +kernel
theorem dX11_addPart_98 : decode cX11_addPart 98 = .ok (.isub, 1) := by decide +kernel
theorem dX11_addPart_99 : decode cX11_addPart 99 = .ok (.ireturn, 1) := by decide +kernel
theorem dX11_setPrice_0 : decode cX11_setPrice 0 = .ok (.aload_n 0, 1) := by decide +kernel
theorem dX11_setPrice_1 : decode cX11_setPrice 1 = .ok (.iload_n 1, 1) := by decide +kernel
theorem dX11_setPrice_2 : decode cX11_setPrice 2 = .ok (.invokevirtual 96, 3) := by decide +kernel
theorem dX11_setPrice_5 : decode cX11_setPrice 5 = .ok (.ifCond .ne 9, 3) := by decide +kernel
theorem dX11_setPrice_8 : decode cX11_setPrice 8 = .ok (.aload_n 0, 1) := by decide +kernel
theorem dX11_setPrice_9 : decode cX11_setPrice 9 = .ok (.iconst 1, 1) := by decide +kernel
theorem dX11_setPrice_10 : decode cX11_setPrice 10 = .ok (.invokevirtual 105, 3) := by decide +kernel
theorem dX11_setPrice_13 : decode cX11_setPrice 13 = .ok (.ireturn, 1) := by decide +kernel
theorem dX11_setPrice_14 : decode cX11_setPrice 14 = .ok (.iload_n 2, 1) := by decide +kernel
theorem dX11_setPrice_15 : decode cX11_setPrice 15 = .ok (.iconst 0, 1) := by decide +kernel
theorem dX11_setPrice_16 : decode cX11_setPrice 16 = .ok (.ldc 104, 2) := by decide +kernel
theorem dX11_setPrice_18 : decode cX11_setPrice 18 = .ok (.invokestatic 89, 3) := by decide +kernel
theorem dX11_setPrice_21 : decode cX11_setPrice 21 = .ok (.ifCond .ne 9, 3) := by decide +kernel
theorem dX11_setPrice_24 : decode cX11_setPrice 24 = .ok (.aload_n 0, 1) := by decide +kernel
theorem dX11_setPrice_25 : decode cX11_setPrice 25 = .ok (.iconst 2, 1) := by decide +kernel
theorem dX11_setPrice_26 : decode cX11_setPrice 26 = .ok (.invokevirtual 105, 3) := by decide +kernel
theorem dX11_setPrice_29 : decode cX11_setPrice 29 = .ok (.ireturn, 1) := by decide +kernel
theorem dX11_setPrice_30 : decode cX11_setPrice 30 = .ok (.aload_n 0, 1) := by decide +kernel
theorem dX11_setPrice_31 : decode cX11_setPrice 31 = .ok (.iconst 0, 1) := by decide +kernel
theorem dX11_setPrice_32 : decode cX11_setPrice 32 = .ok (.putfield 82, 3) := by decide +kernel
theorem dX11_setPrice_35 : decode cX11_setPrice 35 = .ok (.aload_n 0, 1) := by decide +kernel
theorem dX11_setPrice_36 : decode cX11_setPrice 36 = .ok (.getfield 13, 3) := by decide +kernel
theorem dX11_setPrice_39 : decode cX11_setPrice 39 = .ok (.iload_n 1, 1) := by decide +kernel
theorem dX11_setPrice_40 : decode cX11_setPrice 40 = .ok (.iaload, 1) := by decide +kernel
theorem dX11_setPrice_41 : decode cX11_setPrice 41 = .ok (.istore_n 3, 1) := by decide +kernel
theorem dX11_setPrice_42 : decode cX11_setPrice 42 = .ok (.aload_n 0, 1) := by decide +kernel
theorem dX11_setPrice_43 : decode cX11_setPrice 43 = .ok (.getfield 13, 3) := by decide +kernel
theorem dX11_setPrice_46 : decode cX11_setPrice 46 = .ok (.iload_n 1, 1) := by decide +kernel
theorem dX11_setPrice_47 : decode cX11_setPrice 47 = .ok (.iload_n 2, 1) := by decide +kernel
theorem dX11_setPrice_48 : decode cX11_setPrice 48 = .ok (.iastore, 1) := by decide +kernel
theorem dX11_setPrice_49 : decode cX11_setPrice 49 = .ok (.iload_n 3, 1) := by decide +kernel
theorem dX11_setPrice_50 : decode cX11_setPrice 50 = .ok (.ireturn, 1) := by decide +kernel
theorem dX11_setGrams_0 : decode cX11_setGrams 0 = .ok (.aload_n 0, 1) := by decide +kernel
theorem dX11_setGrams_1 : decode cX11_setGrams 1 = .ok (.iload_n 1, 1) := by decide +kernel
theorem dX11_setGrams_2 : decode cX11_setGrams 2 = .ok (.invokevirtual 96, 3) := by decide +kernel
theorem dX11_setGrams_5 : decode cX11_setGrams 5 = .ok (.ifCond .ne 9, 3) := by decide +kernel
theorem dX11_setGrams_8 : decode cX11_setGrams 8 = .ok (.aload_n 0, 1) := by decide +kernel
theorem dX11_setGrams_9 : decode cX11_setGrams 9 = .ok (.iconst 1, 1) := by decide +kernel
theorem dX11_setGrams_10 : decode cX11_setGrams 10 = .ok (.invokevirtual 105, 3) := by decide +kernel
theorem dX11_setGrams_13 : decode cX11_setGrams 13 = .ok (.ireturn, 1) := by decide +kernel
theorem dX11_setGrams_14 : decode cX11_setGrams 14 = .ok (.iload_n 2, 1) := by decide +kernel
theorem dX11_setGrams_15 : decode cX11_setGrams 15 = .ok (.iconst 0, 1) := by decide +kernel
theorem dX11_setGrams_16 : decode cX11_setGrams 16 = .ok (.ldc 104, 2) := by decide +kernel
theorem dX11_setGrams_18 : decode cX11_setGrams 18 = .ok (.invokestatic 89, 3) := by decide +kernel
theorem dX11_setGrams_21 : decode cX11_setGrams 21 = .ok (.ifCond .ne 9, 3) := by decide +kernel
theorem dX11_setGrams_24 : decode cX11_setGrams 24 = .ok (.aload_n 0, 1) := by decide +kernel
theorem dX11_setGrams_25 : decode cX11_setGrams 25 = .ok (.iconst 2, 1) := by decide +kernel
theorem dX11_setGrams_26 : decode cX11_setGrams 26 = .ok (.invokevirtual 105, 3) := by decide +kernel
theorem dX11_setGrams_29 : decode cX11_setGrams 29 = .ok (.ireturn, 1) := by decide +kernel
theorem dX11_setGrams_30 : decode cX11_setGrams 30 = .ok (.aload_n 0, 1) := by decide +kernel
theorem dX11_setGrams_31 : decode cX11_setGrams 31 = .ok (.iconst 0, 1) := by decide +kernel
theorem dX11_setGrams_32 : decode cX11_setGrams 32 = .ok (.putfield 82, 3) := by decide +kernel
theorem dX11_setGrams_35 : decode cX11_setGrams 35 = .ok (.aload_n 0, 1) := by decide +kernel
theorem dX11_setGrams_36 : decode cX11_setGrams 36 = .ok (.getfield 16, 3) := by decide +kernel
theorem dX11_setGrams_39 : decode cX11_setGrams 39 = .ok (.iload_n 1, 1) := by decide +kernel
theorem dX11_setGrams_40 : decode cX11_setGrams 40 = .ok (.iaload, 1) := by decide +kernel
theorem dX11_setGrams_41 : decode cX11_setGrams 41 = .ok (.istore_n 3, 1) := by decide +kernel
theorem dX11_setGrams_42 : decode cX11_setGrams 42 = .ok (.aload_n 0, 1) := by decide +kernel
theorem dX11_setGrams_43 : decode cX11_setGrams 43 = .ok (.getfield 16, 3) := by decide +kernel
theorem dX11_setGrams_46 : decode cX11_setGrams 46 = .ok (.iload_n 1, 1) := by decide +kernel
theorem dX11_setGrams_47 : decode cX11_setGrams 47 = .ok (.iload_n 2, 1) := by decide +kernel
theorem dX11_setGrams_48 : decode cX11_setGrams 48 = .ok (.iastore, 1) := by decide +kernel
theorem dX11_setGrams_49 : decode cX11_setGrams 49 = .ok (.iload_n 3, 1) := by decide +kernel
theorem dX11_setGrams_50 : decode cX11_setGrams 50 = .ok (.ireturn, 1) := by decide +kernel
theorem dX11_setKind_0 : decode cX11_setKind 0 = .ok (.aload_n 0, 1) := by decide +kernel
theorem dX11_setKind_1 : decode cX11_setKind 1 = .ok (.aload_n 0, 1) := by decide +kernel
theorem dX11_setKind_2 : decode cX11_setKind 2 = .ok (.iload_n 1, 1) := by decide +kernel
theorem dX11_setKind_3 : decode cX11_setKind 3 = .ok (.invokevirtual 96, 3) := by decide +kernel
theorem dX11_setKind_6 : decode cX11_setKind 6 = .ok (.ifCond .ne 7, 3) := by decide +kernel
theorem dX11_setKind_9 : decode cX11_setKind 9 = .ok (.iconst 1, 1) := by decide +kernel
theorem dX11_setKind_10 : decode cX11_setKind 10 = .ok (.goto 15, 3) := by decide +kernel
theorem dX11_setKind_13 : decode cX11_setKind 13 = .ok (.iload_n 2, 1) := by decide +kernel
theorem dX11_setKind_14 : decode cX11_setKind 14 = .ok (.invokestatic 100, 3) := by decide +kernel
theorem dX11_setKind_17 : decode cX11_setKind 17 = .ok (.ifCond .eq 7, 3) := by decide +kernel
theorem dX11_setKind_20 : decode cX11_setKind 20 = .ok (.iconst 0, 1) := by decide +kernel
theorem dX11_setKind_21 : decode cX11_setKind 21 = .ok (.goto 4, 3) := by decide +kernel
theorem dX11_setKind_24 : decode cX11_setKind 24 = .ok (.iconst 2, 1) := by decide +kernel
theorem dX11_setKind_25 : decode cX11_setKind 25 = .ok (.putfield 82, 3) := by decide +kernel
theorem dX11_setKind_28 : decode cX11_setKind 28 = .ok (.aload_n 0, 1) := by decide +kernel
theorem dX11_setKind_29 : decode cX11_setKind 29 = .ok (.getfield 82, 3) := by decide +kernel
theorem dX11_setKind_32 : decode cX11_setKind 32 = .ok (.ifCond .le 5, 3) := by decide +kernel
theorem dX11_setKind_35 : decode cX11_setKind 35 = .ok (.iconst 0, 1) := by decide +kernel
theorem dX11_setKind_36 : decode cX11_setKind 36 = .ok (.ireturn, 1) := by decide +kernel
theorem dX11_setKind_37 : decode cX11_setKind 37 = .ok (.aload_n 0, 1) := by decide +kernel
theorem dX11_setKind_38 : decode cX11_setKind 38 = .ok (.getfield 7, 3) := by decide +kernel
theorem dX11_setKind_41 : decode cX11_setKind 41 = .ok (.iload_n 1, 1) := by decide +kernel
theorem dX11_setKind_42 : decode cX11_setKind 42 = .ok (.iaload, 1) := by decide +kernel
theorem dX11_setKind_43 : decode cX11_setKind 43 = .ok (.istore_n 3, 1) := by decide +kernel
theorem dX11_setKind_44 : decode cX11_setKind 44 = .ok (.aload_n 0, 1) := by decide +kernel
theorem dX11_setKind_45 : decode cX11_setKind 45 = .ok (.getfield 7, 3) := by decide +kernel
theorem dX11_setKind_48 : decode cX11_setKind 48 = .ok (.iload_n 1, 1) := by decide +kernel
theorem dX11_setKind_49 : decode cX11_setKind 49 = .ok (.iload_n 2, 1) := by decide +kernel
theorem dX11_setKind_50 : decode cX11_setKind 50 = .ok (.iastore, 1) := by decide +kernel
theorem dX11_setKind_51 : decode cX11_setKind 51 = .ok (.iload_n 3, 1) := by decide +kernel
theorem dX11_setKind_52 : decode cX11_setKind 52 = .ok (.i2c, 1) := by decide +kernel
theorem dX11_setKind_53 : decode cX11_setKind 53 = .ok (.ireturn, 1) := by decide +kernel
theorem dX11_parts_0 : decode cX11_parts 0 = .ok (.aload_n 0, 1) := by decide +kernel
theorem dX11_parts_1 : decode cX11_parts 1 = .ok (.iconst 0, 1) := by decide +kernel
theorem dX11_parts_2 : decode cX11_parts 2 = .ok (.putfield 82, 3) := by decide +kernel
theorem dX11_parts_5 : decode cX11_parts 5 = .ok (.aload_n 0, 1) := by decide +kernel
theorem dX11_parts_6 : decode cX11_parts 6 = .ok (.getfield 86, 3) := by decide +kernel
theorem dX11_parts_9 : decode cX11_parts 9 = .ok (.ireturn, 1) := by decide +kernel
theorem dX11_kind_0 : decode cX11_kind 0 = .ok (.aload_n 0, 1) := by decide +kernel
theorem dX11_kind_1 : decode cX11_kind 1 = .ok (.aload_n 0, 1) := by decide +kernel
theorem dX11_kind_2 : decode cX11_kind 2 = .ok (.iload_n 1, 1) := by decide +kernel
theorem dX11_kind_3 : decode cX11_kind 3 = .ok (.invokevirtual 96, 3) := by decide +kernel
theorem dX11_kind_6 : decode cX11_kind 6 = .ok (.ifCond .eq 7, 3) := by decide +kernel
theorem dX11_kind_9 : decode cX11_kind 9 = .ok (.iconst 0, 1) := by decide +kernel
theorem dX11_kind_10 : decode cX11_kind 10 = .ok (.goto 4, 3) := by decide +kernel
theorem dX11_kind_13 : decode cX11_kind 13 = .ok (.iconst 1, 1) := by decide +kernel
theorem dX11_kind_14 : decode cX11_kind 14 = .ok (.putfield 82, 3) := by decide +kernel
theorem dX11_kind_17 : decode cX11_kind 17 = .ok (.aload_n 0, 1) := by decide +kernel
theorem dX11_kind_18 : decode cX11_kind 18 = .ok (.getfield 82, 3) := by decide +kernel
theorem dX11_kind_21 : decode cX11_kind 21 = .ok (.ifCond .le 7, 3) := by decide +kernel
theorem dX11_kind_24 : decode cX11_kind 24 = .ok (.iconst 0, 1) := by decide +kernel
theorem dX11_kind_25 : decode cX11_kind 25 = .ok (.goto 9, 3) := by decide +kernel
theorem dX11_kind_28 : decode cX11_kind 28 = .ok (.aload_n 0, 1) := by decide +kernel
theorem dX11_kind_29 : decode cX11_kind 29 = .ok (.getfield 7, 3) := by decide +kernel
theorem dX11_kind_32 : decode cX11_kind 32 = .ok (.iload_n 1, 1) := by decide +kernel
theorem dX11_kind_33 : decode cX11_kind 33 = .ok (.iaload, 1) := by decide +kernel
theorem dX11_kind_34 : decode cX11_kind 34 = .ok (.i2c, 1) := by decide +kernel
theorem dX11_kind_35 : decode cX11_kind 35 = .ok (.ireturn, 1) := by decide +kernel
theorem dX11_below_0 : decode cX11_below 0 = .ok (.iconst 0, 1) := by decide +kernel
theorem dX11_below_1 : decode cX11_below 1 = .ok (.istore_n 2, 1) := by decide +kernel
theorem dX11_below_2 : decode cX11_below 2 = .ok (.iconst 0, 1) := by decide +kernel
theorem dX11_below_3 : decode cX11_below 3 = .ok (.istore_n 3, 1) := by decide +kernel
theorem dX11_below_4 : decode cX11_below 4 = .ok (.iload_n 3, 1) := by decide +kernel
theorem dX11_below_5 : decode cX11_below 5 = .ok (.aload_n 0, 1) := by decide +kernel
theorem dX11_below_6 : decode cX11_below 6 = .ok (.getfield 93, 3) := by decide +kernel
theorem dX11_below_9 : decode cX11_below 9 = .ok (.if_icmp .ge 50, 3) := by decide +kernel
theorem dX11_below_12 : decode cX11_below 12 = .ok (.aload_n 0, 1) := by decide +kernel
theorem dX11_below_13 : decode cX11_below 13 = .ok (.getfield 19, 3) := by decide +kernel
theorem dX11_below_16 : decode cX11_below 16 = .ok (.iload_n 3, 1) := by decide +kernel
theorem dX11_below_17 : decode cX11_below 17 = .ok (.iaload, 1) := by decide +kernel
theorem dX11_below_18 : decode cX11_below 18 = .ok (.iload_n 1, 1) := by decide +kernel
theorem dX11_below_19 : decode cX11_below 19 = .ok (.if_icmp .ne 18, 3) := by decide +kernel
theorem dX11_below_22 : decode cX11_below 22 = .ok (.iconst 1, 1) := by decide +kernel
theorem dX11_below_23 : decode cX11_below 23 = .ok (.aload_n 0, 1) := by decide +kernel
theorem dX11_below_24 : decode cX11_below 24 = .ok (.aload_n 0, 1) := by decide +kernel
theorem dX11_below_25 : decode cX11_below 25 = .ok (.getfield 25, 3) := by decide +kernel
theorem dX11_below_28 : decode cX11_below 28 = .ok (.iload_n 3, 1) := by decide +kernel
theorem dX11_below_29 : decode cX11_below 29 = .ok (.iaload, 1) := by decide +kernel
theorem dX11_below_30 : decode cX11_below 30 = .ok (.invokevirtual 109, 3) := by decide +kernel
theorem dX11_below_33 : decode cX11_below 33 = .ok (.iadd, 1) := by decide +kernel
theorem dX11_below_34 : decode cX11_below 34 = .ok (.goto 4, 3) := by decide +kernel
theorem dX11_below_37 : decode cX11_below 37 = .ok (.iconst 0, 1) := by decide +kernel
theorem dX11_below_38 : decode cX11_below 38 = .ok (.istore 4, 2) := by decide +kernel
theorem dX11_below_40 : decode cX11_below 40 = .ok (.iload 4, 2) := by decide +kernel
theorem dX11_below_42 : decode cX11_below 42 = .ok (.iload_n 2, 1) := by decide +kernel
theorem dX11_below_43 : decode cX11_below 43 = .ok (.if_icmp .le 8, 3) := by decide +kernel
theorem dX11_below_46 : decode cX11_below 46 = .ok (.iload 4, 2) := by decide +kernel
theorem dX11_below_48 : decode cX11_below 48 = .ok (.goto 4, 3) := by decide +kernel
theorem dX11_below_51 : decode cX11_below 51 = .ok (.iload_n 2, 1) := by decide +kernel
theorem dX11_below_52 : decode cX11_below 52 = .ok (.istore_n 2, 1) := by decide +kernel
theorem dX11_below_53 : decode cX11_below 53 = .ok (.iinc 3 1, 3) := by decide +kernel
theorem dX11_below_56 : decode cX11_below 56 = .ok (.goto (-52), 3) := by decide +kernel
theorem dX11_below_59 : decode cX11_below 59 = .ok (.iload_n 2, 1) := by decide +kernel
theorem dX11_below_60 : decode cX11_below 60 = .ok (.ireturn, 1) := by decide +kernel
theorem dX11_above_0 : decode cX11_above 0 = .ok (.iconst 0, 1) := by decide +kernel
theorem dX11_above_1 : decode cX11_above 1 = .ok (.istore_n 2, 1) := by decide +kernel
theorem dX11_above_2 : decode cX11_above 2 = .ok (.iconst 0, 1) := by decide +kernel
theorem dX11_above_3 : decode cX11_above 3 = .ok (.istore_n 3, 1) := by decide +kernel
theorem dX11_above_4 : decode cX11_above 4 = .ok (.iload_n 3, 1) := by decide +kernel
theorem dX11_above_5 : decode cX11_above 5 = .ok (.aload_n 0, 1) := by decide +kernel
theorem dX11_above_6 : decode cX11_above 6 = .ok (.getfield 93, 3) := by decide +kernel
theorem dX11_above_9 : decode cX11_above 9 = .ok (.if_icmp .ge 50, 3) := by decide +kernel
theorem dX11_above_12 : decode cX11_above 12 = .ok (.aload_n 0, 1) := by decide +kernel
theorem dX11_above_13 : decode cX11_above 13 = .ok (.getfield 25, 3) := by decide +kernel
theorem dX11_above_16 : decode cX11_above 16 = .ok (.iload_n 3, 1) := by decide +kernel
theorem dX11_above_17 : decode cX11_above 17 = .ok (.iaload, 1) := by decide +kernel
theorem dX11_above_18 : decode cX11_above 18 = .ok (.iload_n 1, 1) := by decide +kernel
theorem dX11_above_19 : decode cX11_above 19 = .ok (.if_icmp .ne 18, 3) := by decide +kernel
theorem dX11_above_22 : decode cX11_above 22 = .ok (.iconst 1, 1) := by decide +kernel
theorem dX11_above_23 : decode cX11_above 23 = .ok (.aload_n 0, 1) := by decide +kernel
theorem dX11_above_24 : decode cX11_above 24 = .ok (.aload_n 0, 1) := by decide +kernel
theorem dX11_above_25 : decode cX11_above 25 = .ok (.getfield 19, 3) := by decide +kernel
theorem dX11_above_28 : decode cX11_above 28 = .ok (.iload_n 3, 1) := by decide +kernel
theorem dX11_above_29 : decode cX11_above 29 = .ok (.iaload, 1) := by decide +kernel
theorem dX11_above_30 : decode cX11_above 30 = .ok (.invokevirtual 112, 3) := by decide +kernel
theorem dX11_above_33 : decode cX11_above 33 = .ok (.iadd, 1) := by decide +kernel
theorem dX11_above_34 : decode cX11_above 34 = .ok (.goto 4, 3) := by decide +kernel
theorem dX11_above_37 : decode cX11_above 37 = .ok (.iconst 0, 1) := by decide +kernel
theorem dX11_above_38 : decode cX11_above 38 = .ok (.istore 4, 2) := by decide +kernel
theorem dX11_above_40 : decode cX11_above 40 = .ok (.iload 4, 2) := by decide +kernel
theorem dX11_above_42 : decode cX11_above 42 = .ok (.iload_n 2, 1) := by decide +kernel
theorem dX11_above_43 : decode cX11_above 43 = .ok (.if_icmp .le 8, 3) := by decide +kernel
theorem dX11_above_46 : decode cX11_above 46 = .ok (.iload 4, 2) := by decide +kernel
theorem dX11_above_48 : decode cX11_above 48 = .ok (.goto 4, 3) := by decide +kernel
theorem dX11_above_51 : decode cX11_above 51 = .ok (.iload_n 2, 1) := by decide +kernel
theorem dX11_above_52 : decode cX11_above 52 = .ok (.istore_n 2, 1) := by decide +kernel
theorem dX11_above_53 : decode cX11_above 53 = .ok (.iinc 3 1, 3) := by decide +kernel
theorem dX11_above_56 : decode cX11_above 56 = .ok (.goto (-52), 3) := by decide +kernel
theorem dX11_above_59 : decode cX11_above 59 = .ok (.iload_n 2, 1) := by decide +kernel
theorem dX11_above_60 : decode cX11_above 60 = .ok (.ireturn, 1) := by decide +kernel
theorem dX11_reaches_0 : decode cX11_reaches 0 = .ok (.iload_n 1, 1) := by decide +kernel
theorem dX11_reaches_1 : decode cX11_reaches 1 = .ok (.iload_n 2, 1) := by decide +kernel
theorem dX11_reaches_2 : decode cX11_reaches 2 = .ok (.if_icmp .ne 5, 3) := by decide +kernel
theorem dX11_reaches_5 : decode cX11_reaches 5 = .ok (.iconst 1, 1) := by decide +kernel
theorem dX11_reaches_6 : decode cX11_reaches 6 = .ok (.ireturn, 1) := by decide +kernel
theorem dX11_reaches_7 : decode cX11_reaches 7 = .ok (.iconst 0, 1) := by decide +kernel
theorem dX11_reaches_8 : decode cX11_reaches 8 = .ok (.istore_n 3, 1) := by decide +kernel
theorem dX11_reaches_9 : decode cX11_reaches 9 = .ok (.iload_n 3, 1) := by decide +kernel
theorem dX11_reaches_10 : decode cX11_reaches 10 = .ok (.aload_n 0, 1) := by decide +kernel
theorem dX11_reaches_11 : decode cX11_reaches 11 = .ok (.getfield 93, 3) := by decide +kernel
theorem dX11_reaches_14 : decode cX11_reaches 14 = .ok (.if_icmp .ge 35, 3) := by decide +kernel
theorem dX11_reaches_17 : decode cX11_reaches 17 = .ok (.aload_n 0, 1) := by decide +kernel
theorem dX11_reaches_18 : decode cX11_reaches 18 = .ok (.getfield 19, 3) := by decide +kernel
theorem dX11_reaches_21 : decode cX11_reaches 21 = .ok (.iload_n 3, 1) := by decide +kernel
theorem dX11_reaches_22 : decode cX11_reaches 22 = .ok (.iaload, 1) := by decide +kernel
theorem dX11_reaches_23 : decode cX11_reaches 23 = .ok (.iload_n 1, 1) := by decide +kernel
theorem dX11_reaches_24 : decode cX11_reaches 24 = .ok (.if_icmp .ne 19, 3) := by decide +kernel
theorem dX11_reaches_27 : decode cX11_reaches 27 = .ok (.aload_n 0, 1) := by decide +kernel
theorem dX11_reaches_28 : decode cX11_reaches 28 = .ok (.aload_n 0, 1) := by decide +kernel
theorem dX11_reaches_29 : decode cX11_reaches 29 = .ok (.getfield 25, 3) := by decide +kernel
theorem dX11_reaches_32 : decode cX11_reaches 32 = .ok (.iload_n 3, 1) := by decide +kernel
theorem dX11_reaches_33 : decode cX11_reaches 33 = .ok (.iaload, 1) := by decide +kernel
theorem dX11_reaches_34 : decode cX11_reaches 34 = .ok (.iload_n 2, 1) := by decide +kernel
theorem dX11_reaches_35 : decode cX11_reaches 35 = .ok (.invokevirtual 115, 3) := by decide +kernel
theorem dX11_reaches_38 : decode cX11_reaches 38 = .ok (.ifCond .eq 5, 3) := by decide +kernel
theorem dX11_reaches_41 : decode cX11_reaches 41 = .ok (.iconst 1, 1) := by decide +kernel
theorem dX11_reaches_42 : decode cX11_reaches 42 = .ok (.ireturn, 1) := by decide +kernel
theorem dX11_reaches_43 : decode cX11_reaches 43 = .ok (.iinc 3 1, 3) := by decide +kernel
theorem dX11_reaches_46 : decode cX11_reaches 46 = .ok (.goto (-37), 3) := by decide +kernel
theorem dX11_reaches_49 : decode cX11_reaches 49 = .ok (.iconst 0, 1) := by decide +kernel
theorem dX11_reaches_50 : decode cX11_reaches 50 = .ok (.ireturn, 1) := by decide +kernel
theorem dX11_isDeep_0 : decode cX11_isDeep 0 = .ok (.aload_n 0, 1) := by decide +kernel
theorem dX11_isDeep_1 : decode cX11_isDeep 1 = .ok (.iload_n 1, 1) := by decide +kernel
theorem dX11_isDeep_2 : decode cX11_isDeep 2 = .ok (.invokevirtual 112, 3) := by decide +kernel
theorem dX11_isDeep_5 : decode cX11_isDeep 5 = .ok (.iconst 1, 1) := by decide +kernel
theorem dX11_isDeep_6 : decode cX11_isDeep 6 = .ok (.iadd, 1) := by decide +kernel
theorem dX11_isDeep_7 : decode cX11_isDeep 7 = .ok (.aload_n 0, 1) := by decide +kernel
theorem dX11_isDeep_8 : decode cX11_isDeep 8 = .ok (.iload_n 2, 1) := by decide +kernel
theorem dX11_isDeep_9 : decode cX11_isDeep 9 = .ok (.invokevirtual 109, 3) := by decide +kernel
theorem dX11_isDeep_12 : decode cX11_isDeep 12 = .ok (.iadd, 1) := by decide +kernel
theorem dX11_isDeep_13 : decode cX11_isDeep 13 = .ok (.iconst 4, 1) := by decide +kernel
theorem dX11_isDeep_14 : decode cX11_isDeep 14 = .ok (.if_icmp .le 7, 3) := by decide +kernel
theorem dX11_isDeep_17 : decode cX11_isDeep 17 = .ok (.iconst 1, 1) := by decide +kernel
theorem dX11_isDeep_18 : decode cX11_isDeep 18 = .ok (.goto 4, 3) := by decide +kernel
theorem dX11_isDeep_21 : decode cX11_isDeep 21 = .ok (.iconst 0, 1) := by decide +kernel
theorem dX11_isDeep_22 : decode cX11_isDeep 22 = .ok (.ireturn, 1) := by decide +kernel
theorem dX11_meets_0 : decode cX11_meets 0 = .ok (.iconst 0, 1) := by decide +kernel
theorem dX11_meets_1 : decode cX11_meets 1 = .ok (.istore 7, 2) := by decide +kernel
theorem dX11_meets_3 : decode cX11_meets 3 = .ok (.iload 7, 2) := by decide +kernel
theorem dX11_meets_5 : decode cX11_meets 5 = .ok (.aload_n 0, 1) := by decide +kernel
theorem dX11_meets_6 : decode cX11_meets 6 = .ok (.getfield 93, 3) := by decide +kernel
theorem dX11_meets_9 : decode cX11_meets 9 = .ok (.if_icmp .ge 107, 3) := by decide +kernel
theorem dX11_meets_12 : decode cX11_meets 12 = .ok (.aload_n 0, 1) := by decide +kernel
theorem dX11_meets_13 : decode cX11_meets 13 = .ok (.getfield 19, 3) := by decide +kernel
theorem dX11_meets_16 : decode cX11_meets 16 = .ok (.iload 7, 2) := by decide +kernel
theorem dX11_meets_18 : decode cX11_meets 18 = .ok (.iaload, 1) := by decide +kernel
theorem dX11_meets_19 : decode cX11_meets 19 = .ok (.iload_n 1, 1) := by decide +kernel
theorem dX11_meets_20 : decode cX11_meets 20 = .ok (.if_icmp .ne 90, 3) := by decide +kernel
theorem dX11_meets_23 : decode cX11_meets 23 = .ok (.aload_n 0, 1) := by decide +kernel
theorem dX11_meets_24 : decode cX11_meets 24 = .ok (.getfield 22, 3) := by decide +kernel
theorem dX11_meets_27 : decode cX11_meets 27 = .ok (.iload 7, 2) := by decide +kernel
theorem dX11_meets_29 : decode cX11_meets 29 = .ok (.iaload, 1) := by decide +kernel
theorem dX11_meets_30 : decode cX11_meets 30 = .ok (.iload_n 2, 1) := by decide +kernel
theorem dX11_meets_31 : decode cX11_meets 31 = .ok (.if_icmp .ne 79, 3) := by decide +kernel
theorem dX11_meets_34 : decode cX11_meets 34 = .ok (.aload_n 0, 1) := by decide +kernel
theorem dX11_meets_35 : decode cX11_meets 35 = .ok (.getfield 31, 3) := by decide +kernel
theorem dX11_meets_38 : decode cX11_meets 38 = .ok (.iload 7, 2) := by decide +kernel
theorem dX11_meets_40 : decode cX11_meets 40 = .ok (.iaload, 1) := by decide +kernel
theorem dX11_meets_41 : decode cX11_meets 41 = .ok (.iload 4, 2) := by decide +kernel
theorem dX11_meets_43 : decode cX11_meets 43 = .ok (.if_icmp .gt 67, 3) := by decide +kernel
theorem dX11_meets_46 : decode cX11_meets 46 = .ok (.iload_n 3, 1) := by decide +kernel
theorem dX11_meets_47 : decode cX11_meets 47 = .ok (.aload_n 0, 1) := by decide +kernel
theorem dX11_meets_48 : decode cX11_meets 48 = .ok (.getfield 34, 3) := by decide +kernel
theorem dX11_meets_51 : decode cX11_meets 51 = .ok (.iload 7, 2) := by decide +kernel
theorem dX11_meets_53 : decode cX11_meets 53 = .ok (.iaload, 1) := by decide +kernel
theorem dX11_meets_54 : decode cX11_meets 54 = .ok (.if_icmp .le 6, 3) := by decide +kernel
theorem dX11_meets_57 : decode cX11_meets 57 = .ok (.goto 53, 3) := by decide +kernel
theorem dX11_meets_60 : decode cX11_meets 60 = .ok (.aload_n 0, 1) := by decide +kernel
theorem dX11_meets_61 : decode cX11_meets 61 = .ok (.getfield 40, 3) := by decide +kernel
theorem dX11_meets_64 : decode cX11_meets 64 = .ok (.iload 7, 2) := by decide +kernel
theorem dX11_meets_66 : decode cX11_meets 66 = .ok (.iaload, 1) := by decide +kernel
theorem dX11_meets_67 : decode cX11_meets 67 = .ok (.iconst (-1), 1) := by decide +kernel
theorem dX11_meets_68 : decode cX11_meets 68 = .ok (.if_icmp .eq 32, 3) := by decide +kernel
theorem dX11_meets_71 : decode cX11_meets 71 = .ok (.aload_n 0, 1) := by decide +kernel
theorem dX11_meets_72 : decode cX11_meets 72 = .ok (.getfield 40, 3) := by decide +kernel
theorem dX11_meets_75 : decode cX11_meets 75 = .ok (.iload 7, 2) := by decide +kernel
theorem dX11_meets_77 : decode cX11_meets 77 = .ok (.iaload, 1) := by decide +kernel
theorem dX11_meets_78 : decode cX11_meets 78 = .ok (.iload 5, 2) := by decide +kernel
theorem dX11_meets_80 : decode cX11_meets 80 = .ok (.if_icmp .ne 20, 3) := by decide +kernel
theorem dX11_meets_83 : decode cX11_meets 83 = .ok (.aload_n 0, 1) := by decide +kernel
theorem dX11_meets_84 : decode cX11_meets 84 = .ok (.getfield 43, 3) := by decide +kernel
theorem dX11_meets_87 : decode cX11_meets 87 = .ok (.iload 7, 2) := by decide +kernel
theorem dX11_meets_89 : decode cX11_meets 89 = .ok (.iaload, 1) := by decide +kernel
theorem dX11_meets_90 : decode cX11_meets 90 = .ok (.iload 6, 2) := by decide +kernel
theorem dX11_meets_92 : decode cX11_meets 92 = .ok (.iand, 1) := by decide +kernel
theorem dX11_meets_93 : decode cX11_meets 93 = .ok (.ifCond .ne 7, 3) := by decide +kernel
theorem dX11_meets_96 : decode cX11_meets 96 = .ok (.iconst 1, 1) := by decide +kernel
theorem dX11_meets_97 : decode cX11_meets 97 = .ok (.goto 4, 3) := by decide +kernel
theorem dX11_meets_100 : decode cX11_meets 100 = .ok (.iconst 0, 1) := by decide +kernel
theorem dX11_meets_101 : decode cX11_meets 101 = .ok (.istore 8, 2) := by decide +kernel
theorem dX11_meets_103 : decode cX11_meets 103 = .ok (.iload 8, 2) := by decide +kernel
theorem dX11_meets_105 : decode cX11_meets 105 = .ok (.ifCond .ne 5, 3) := by decide +kernel
theorem dX11_meets_108 : decode cX11_meets 108 = .ok (.iconst 1, 1) := by decide +kernel
theorem dX11_meets_109 : decode cX11_meets 109 = .ok (.ireturn, 1) := by decide +kernel
theorem dX11_meets_110 : decode cX11_meets 110 = .ok (.iinc 7 1, 3) := by decide +kernel
theorem dX11_meets_113 : decode cX11_meets 113 = .ok (.goto (-110), 3) := by decide +kernel
theorem dX11_meets_116 : decode cX11_meets 116 = .ok (.iconst 0, 1) := by decide +kernel
theorem dX11_meets_117 : decode cX11_meets 117 = .ok (.ireturn, 1) := by decide +kernel
theorem dX11_puts_0 : decode cX11_puts 0 = .ok (.aload_n 0, 1) := by decide +kernel
theorem dX11_puts_1 : decode cX11_puts 1 = .ok (.iconst 0, 1) := by decide +kernel
theorem dX11_puts_2 : decode cX11_puts 2 = .ok (.putfield 82, 3) := by decide +kernel
theorem dX11_puts_5 : decode cX11_puts 5 = .ok (.aload_n 0, 1) := by decide +kernel
theorem dX11_puts_6 : decode cX11_puts 6 = .ok (.getfield 19, 3) := by decide +kernel
theorem dX11_puts_9 : decode cX11_puts 9 = .ok (.aload_n 0, 1) := by decide +kernel
theorem dX11_puts_10 : decode cX11_puts 10 = .ok (.getfield 93, 3) := by decide +kernel
theorem dX11_puts_13 : decode cX11_puts 13 = .ok (.iload_n 1, 1) := by decide +kernel
theorem dX11_puts_14 : decode cX11_puts 14 = .ok (.iastore, 1) := by decide +kernel
theorem dX11_puts_15 : decode cX11_puts 15 = .ok (.aload_n 0, 1) := by decide +kernel
theorem dX11_puts_16 : decode cX11_puts 16 = .ok (.getfield 22, 3) := by decide +kernel
theorem dX11_puts_19 : decode cX11_puts 19 = .ok (.aload_n 0, 1) := by decide +kernel
theorem dX11_puts_20 : decode cX11_puts 20 = .ok (.getfield 93, 3) := by decide +kernel
theorem dX11_puts_23 : decode cX11_puts 23 = .ok (.iload_n 2, 1) := by decide +kernel
theorem dX11_puts_24 : decode cX11_puts 24 = .ok (.iastore, 1) := by decide +kernel
theorem dX11_puts_25 : decode cX11_puts 25 = .ok (.aload_n 0, 1) := by decide +kernel
theorem dX11_puts_26 : decode cX11_puts 26 = .ok (.getfield 25, 3) := by decide +kernel
theorem dX11_puts_29 : decode cX11_puts 29 = .ok (.aload_n 0, 1) := by decide +kernel
theorem dX11_puts_30 : decode cX11_puts 30 = .ok (.getfield 93, 3) := by decide +kernel
theorem dX11_puts_33 : decode cX11_puts 33 = .ok (.iload_n 3, 1) := by decide +kernel
theorem dX11_puts_34 : decode cX11_puts 34 = .ok (.iastore, 1) := by decide +kernel
theorem dX11_puts_35 : decode cX11_puts 35 = .ok (.aload_n 0, 1) := by decide +kernel
theorem dX11_puts_36 : decode cX11_puts 36 = .ok (.getfield 28, 3) := by decide +kernel
theorem dX11_puts_39 : decode cX11_puts 39 = .ok (.aload_n 0, 1) := by decide +kernel
theorem dX11_puts_40 : decode cX11_puts 40 = .ok (.getfield 93, 3) := by decide +kernel
theorem dX11_puts_43 : decode cX11_puts 43 = .ok (.iload 4, 2) := by decide +kernel
theorem dX11_puts_45 : decode cX11_puts 45 = .ok (.iastore, 1) := by decide +kernel
theorem dX11_puts_46 : decode cX11_puts 46 = .ok (.aload_n 0, 1) := by decide +kernel
theorem dX11_puts_47 : decode cX11_puts 47 = .ok (.getfield 31, 3) := by decide +kernel
theorem dX11_puts_50 : decode cX11_puts 50 = .ok (.aload_n 0, 1) := by decide +kernel
theorem dX11_puts_51 : decode cX11_puts 51 = .ok (.getfield 93, 3) := by decide +kernel
theorem dX11_puts_54 : decode cX11_puts 54 = .ok (.iload 5, 2) := by decide +kernel
theorem dX11_puts_56 : decode cX11_puts 56 = .ok (.iastore, 1) := by decide +kernel
theorem dX11_puts_57 : decode cX11_puts 57 = .ok (.aload_n 0, 1) := by decide +kernel
theorem dX11_puts_58 : decode cX11_puts 58 = .ok (.getfield 34, 3) := by decide +kernel
theorem dX11_puts_61 : decode cX11_puts 61 = .ok (.aload_n 0, 1) := by decide +kernel
theorem dX11_puts_62 : decode cX11_puts 62 = .ok (.getfield 93, 3) := by decide +kernel
theorem dX11_puts_65 : decode cX11_puts 65 = .ok (.iload 6, 2) := by decide +kernel
theorem dX11_puts_67 : decode cX11_puts 67 = .ok (.iastore, 1) := by decide +kernel
theorem dX11_puts_68 : decode cX11_puts 68 = .ok (.aload_n 0, 1) := by decide +kernel
theorem dX11_puts_69 : decode cX11_puts 69 = .ok (.getfield 40, 3) := by decide +kernel
theorem dX11_puts_72 : decode cX11_puts 72 = .ok (.aload_n 0, 1) := by decide +kernel
theorem dX11_puts_73 : decode cX11_puts 73 = .ok (.getfield 93, 3) := by decide +kernel
theorem dX11_puts_76 : decode cX11_puts 76 = .ok (.iload 7, 2) := by decide +kernel
theorem dX11_puts_78 : decode cX11_puts 78 = .ok (.iastore, 1) := by decide +kernel
theorem dX11_puts_79 : decode cX11_puts 79 = .ok (.aload_n 0, 1) := by decide +kernel
theorem dX11_puts_80 : decode cX11_puts 80 = .ok (.getfield 43, 3) := by decide +kernel
theorem dX11_puts_83 : decode cX11_puts 83 = .ok (.aload_n 0, 1) := by decide +kernel
theorem dX11_puts_84 : decode cX11_puts 84 = .ok (.getfield 93, 3) := by decide +kernel
theorem dX11_puts_87 : decode cX11_puts 87 = .ok (.iload 8, 2) := by decide +kernel
theorem dX11_puts_89 : decode cX11_puts 89 = .ok (.iastore, 1) := by decide +kernel
theorem dX11_puts_90 : decode cX11_puts 90 = .ok (.aload_n 0, 1) := by decide +kernel
theorem dX11_puts_91 : decode cX11_puts 91 = .ok (.getfield 37, 3) := by decide +kernel
theorem dX11_puts_94 : decode cX11_puts 94 = .ok (.aload_n 0, 1) := by decide +kernel
theorem dX11_puts_95 : decode cX11_puts 95 = .ok (.getfield 93, 3) := by decide +kernel
theorem dX11_puts_98 : decode cX11_puts 98 = .ok (.iconst 0, 1) := by decide +kernel
theorem dX11_puts_99 : decode cX11_puts 99 = .ok (.iastore, 1) := by decide +kernel
theorem dX11_puts_100 : decode cX11_puts 100 = .ok (.aload_n 0, 1) := by decide +kernel
theorem dX11_puts_101 : decode cX11_puts 101 = .ok (.dup, 1) := by decide +kernel
theorem dX11_puts_102 : decode cX11_puts 102 = .ok (.getfield 93, 3) := by decide +kernel
theorem dX11_puts_105 : decode cX11_puts 105 = .ok (.iconst 1, 1) := by decide +kernel
theorem dX11_puts_106 : decode cX11_puts 106 = .ok (.iadd, 1) := by decide +kernel
theorem dX11_puts_107 : decode cX11_puts 107 = .ok (.putfield 93, 3) := by decide +kernel
theorem dX11_puts_110 : decode cX11_puts 110 = .ok (.aload_n 0, 1) := by decide +kernel
theorem dX11_puts_111 : decode cX11_puts 111 = .ok (.getfield 93, 3) := by decide +kernel
theorem dX11_puts_114 : decode cX11_puts 114 = .ok (.iconst 1, 1) := by decide +kernel
theorem dX11_puts_115 : decode cX11_puts 115 = .ok (.isub, 1) := by decide +kernel
theorem dX11_puts_116 : decode cX11_puts 116 = .ok (.ireturn, 1) := by decide +kernel
theorem dX11_adds_0 : decode cX11_adds 0 = .ok (.aload_n 0, 1) := by decide +kernel
theorem dX11_adds_1 : decode cX11_adds 1 = .ok (.iload_n 3, 1) := by decide +kernel
theorem dX11_adds_2 : decode cX11_adds 2 = .ok (.iload_n 1, 1) := by decide +kernel
theorem dX11_adds_3 : decode cX11_adds 3 = .ok (.invokevirtual 115, 3) := by decide +kernel
theorem dX11_adds_6 : decode cX11_adds 6 = .ok (.ifCond .eq 9, 3) := by decide +kernel
theorem dX11_adds_9 : decode cX11_adds 9 = .ok (.aload_n 0, 1) := by decide +kernel
theorem dX11_adds_10 : decode cX11_adds 10 = .ok (.iconst 3, 1) := by decide +kernel
theorem dX11_adds_11 : decode cX11_adds 11 = .ok (.invokevirtual 105, 3) := by decide +kernel
theorem dX11_adds_14 : decode cX11_adds 14 = .ok (.ireturn, 1) := by decide +kernel
theorem dX11_adds_15 : decode cX11_adds 15 = .ok (.aload_n 0, 1) := by decide +kernel
theorem dX11_adds_16 : decode cX11_adds 16 = .ok (.iload_n 1, 1) := by decide +kernel
theorem dX11_adds_17 : decode cX11_adds 17 = .ok (.iload_n 3, 1) := by decide +kernel
theorem dX11_adds_18 : decode cX11_adds 18 = .ok (.invokevirtual 119, 3) := by decide +kernel
theorem dX11_adds_21 : decode cX11_adds 21 = .ok (.ifCond .ne 29, 3) := by decide +kernel
theorem dX11_adds_24 : decode cX11_adds 24 = .ok (.aload_n 0, 1) := by decide +kernel
theorem dX11_adds_25 : decode cX11_adds 25 = .ok (.iload_n 1, 1) := by decide +kernel
theorem dX11_adds_26 : decode cX11_adds 26 = .ok (.iload_n 2, 1) := by decide +kernel
theorem dX11_adds_27 : decode cX11_adds 27 = .ok (.iload 5, 2) := by decide +kernel
theorem dX11_adds_29 : decode cX11_adds 29 = .ok (.iload 6, 2) := by decide +kernel
theorem dX11_adds_31 : decode cX11_adds 31 = .ok (.iload 7, 2) := by decide +kernel
theorem dX11_adds_33 : decode cX11_adds 33 = .ok (.iload 8, 2) := by decide +kernel
theorem dX11_adds_35 : decode cX11_adds 35 = .ok (.invokevirtual 122, 3) := by decide +kernel
theorem dX11_adds_38 : decode cX11_adds 38 = .ok (.ifCond .ne 12, 3) := by decide +kernel
theorem dX11_adds_41 : decode cX11_adds 41 = .ok (.aload_n 0, 1) := by decide +kernel
theorem dX11_adds_42 : decode cX11_adds 42 = .ok (.getfield 93, 3) := by decide +kernel
theorem dX11_adds_45 : decode cX11_adds 45 = .ok (.bipush 40, 2) := by decide +kernel
theorem dX11_adds_47 : decode cX11_adds 47 = .ok (.if_icmp .ne 9, 3) := by decide +kernel
theorem dX11_adds_50 : decode cX11_adds 50 = .ok (.aload_n 0, 1) := by decide +kernel
theorem dX11_adds_51 : decode cX11_adds 51 = .ok (.iconst 4, 1) := by decide +kernel
theorem dX11_adds_52 : decode cX11_adds 52 = .ok (.invokevirtual 105, 3) := by decide +kernel
theorem dX11_adds_55 : decode cX11_adds 55 = .ok (.ireturn, 1) := by decide +kernel
theorem dX11_adds_56 : decode cX11_adds 56 = .ok (.aload_n 0, 1) := by decide +kernel
theorem dX11_adds_57 : decode cX11_adds 57 = .ok (.iload_n 1, 1) := by decide +kernel
theorem dX11_adds_58 : decode cX11_adds 58 = .ok (.iload_n 2, 1) := by decide +kernel
theorem dX11_adds_59 : decode cX11_adds 59 = .ok (.iload_n 3, 1) := by decide +kernel
theorem dX11_adds_60 : decode cX11_adds 60 = .ok (.iload 4, 2) := by decide +kernel
theorem dX11_adds_62 : decode cX11_adds 62 = .ok (.iload 5, 2) := by decide +kernel
theorem dX11_adds_64 : decode cX11_adds 64 = .ok (.iload 6, 2) := by decide +kernel
theorem dX11_adds_66 : decode cX11_adds 66 = .ok (.iload 7, 2) := by decide +kernel
theorem dX11_adds_68 : decode cX11_adds 68 = .ok (.iload 8, 2) := by decide +kernel
theorem dX11_adds_70 : decode cX11_adds 70 = .ok (.invokevirtual 126, 3) := by decide +kernel
theorem dX11_adds_73 : decode cX11_adds 73 = .ok (.ireturn, 1) := by decide +kernel
theorem dX11_addLine_0 : decode cX11_addLine 0 = .ok (.aload_n 0, 1) := by decide +kernel
theorem dX11_addLine_1 : decode cX11_addLine 1 = .ok (.iload_n 1, 1) := by decide +kernel
theorem dX11_addLine_2 : decode cX11_addLine 2 = .ok (.invokevirtual 96, 3) := by decide +kernel
theorem dX11_addLine_5 : decode cX11_addLine 5 = .ok (.ifCond .eq 11, 3) := by decide +kernel
theorem dX11_addLine_8 : decode cX11_addLine 8 = .ok (.aload_n 0, 1) := by decide +kernel
theorem dX11_addLine_9 : decode cX11_addLine 9 = .ok (.iload_n 3, 1) := by decide +kernel
theorem dX11_addLine_10 : decode cX11_addLine 10 = .ok (.invokevirtual 96, 3) := by decide +kernel
theorem dX11_addLine_13 : decode cX11_addLine 13 = .ok (.ifCond .ne 9, 3) := by decide +kernel
theorem dX11_addLine_16 : decode cX11_addLine 16 = .ok (.aload_n 0, 1) := by decide +kernel
theorem dX11_addLine_17 : decode cX11_addLine 17 = .ok (.iconst 1, 1) := by decide +kernel
theorem dX11_addLine_18 : decode cX11_addLine 18 = .ok (.invokevirtual 105, 3) := by decide +kernel
theorem dX11_addLine_21 : decode cX11_addLine 21 = .ok (.ireturn, 1) := by decide +kernel
theorem dX11_addLine_22 : decode cX11_addLine 22 = .ok (.iload_n 2, 1) := by decide +kernel
theorem dX11_addLine_23 : decode cX11_addLine 23 = .ok (.iconst 1, 1) := by decide +kernel
theorem dX11_addLine_24 : decode cX11_addLine 24 = .ok (.bipush 6, 2) := by decide +kernel
theorem dX11_addLine_26 : decode cX11_addLine 26 = .ok (.invokestatic 89, 3) := by decide +kernel
theorem dX11_addLine_29 : decode cX11_addLine 29 = .ok (.ifCond .eq 39, 3) := by decide +kernel
theorem dX11_addLine_32 : decode cX11_addLine 32 = .ok (.iload 4, 2) := by decide +kernel
theorem dX11_addLine_34 : decode cX11_addLine 34 = .ok (.iconst 1, 1) := by decide +kernel
theorem dX11_addLine_35 : decode cX11_addLine 35 = .ok (.bipush 20, 2) := by decide +kernel
theorem dX11_addLine_37 : decode cX11_addLine 37 = .ok (.invokestatic 89, 3) := by decide +kernel
theorem dX11_addLine_40 : decode cX11_addLine 40 = .ok (.ifCond .eq 28, 3) := by decide +kernel
theorem dX11_addLine_43 : decode cX11_addLine 43 = .ok (.iload 5, 2) := by decide +kernel
theorem dX11_addLine_45 : decode cX11_addLine 45 = .ok (.iconst 1, 1) := by decide +kernel
theorem dX11_addLine_46 : decode cX11_addLine 46 = .ok (.sipush 999, 3) := by decide +kernel
theorem dX11_addLine_49 : decode cX11_addLine 49 = .ok (.invokestatic 89, 3) := by decide +kernel
theorem dX11_addLine_52 : decode cX11_addLine 52 = .ok (.ifCond .eq 16, 3) := by decide +kernel
theorem dX11_addLine_55 : decode cX11_addLine 55 = .ok (.iload 6, 2) := by decide +kernel
theorem dX11_addLine_57 : decode cX11_addLine 57 = .ok (.iload 5, 2) := by decide +kernel
theorem dX11_addLine_59 : decode cX11_addLine 59 = .ok (.sipush 999, 3) := by decide +kernel
theorem dX11_addLine_62 : decode cX11_addLine 62 = .ok (.invokestatic 89, 3) := by decide +kernel
theorem dX11_addLine_65 : decode cX11_addLine 65 = .ok (.ifCond .ne 9, 3) := by decide +kernel
theorem dX11_addLine_68 : decode cX11_addLine 68 = .ok (.aload_n 0, 1) := by decide +kernel
theorem dX11_addLine_69 : decode cX11_addLine 69 = .ok (.iconst 2, 1) := by decide +kernel
theorem dX11_addLine_70 : decode cX11_addLine 70 = .ok (.invokevirtual 105, 3) := by decide +kernel
theorem dX11_addLine_73 : decode cX11_addLine 73 = .ok (.ireturn, 1) := by decide +kernel
theorem dX11_addLine_74 : decode cX11_addLine 74 = .ok (.aload_n 0, 1) := by decide +kernel
theorem dX11_addLine_75 : decode cX11_addLine 75 = .ok (.iload_n 1, 1) := by decide +kernel
theorem dX11_addLine_76 : decode cX11_addLine 76 = .ok (.iload_n 2, 1) := by decide +kernel
theorem dX11_addLine_77 : decode cX11_addLine 77 = .ok (.iload_n 3, 1) := by decide +kernel
theorem dX11_addLine_78 : decode cX11_addLine 78 = .ok (.iload 4, 2) := by decide +kernel
theorem dX11_addLine_80 : decode cX11_addLine 80 = .ok (.iload 5, 2) := by decide +kernel
theorem dX11_addLine_82 : decode cX11_addLine 82 = .ok (.iload 6, 2) := by decide +kernel
theorem dX11_addLine_84 : decode cX11_addLine 84 = .ok (.iconst (-1), 1) := by decide +kernel
theorem dX11_addLine_85 : decode cX11_addLine 85 = .ok (.iconst 0, 1) := by decide +kernel
theorem dX11_addLine_86 : decode cX11_addLine 86 = .ok (.invokevirtual 130, 3) := by decide +kernel
theorem dX11_addLine_89 : decode cX11_addLine 89 = .ok (.ireturn, 1) := by decide +kernel
theorem dX11_addVariant_0 : decode cX11_addVariant 0 = .ok (.aload_n 0, 1) := by decide +kernel
theorem dX11_addVariant_1 : decode cX11_addVariant 1 = .ok (.iload_n 1, 1) := by decide +kernel
theorem dX11_addVariant_2 : decode cX11_addVariant 2 = .ok (.invokevirtual 96, 3) := by decide +kernel
theorem dX11_addVariant_5 : decode cX11_addVariant 5 = .ok (.ifCond .eq 11, 3) := by decide +kernel
theorem dX11_addVariant_8 : decode cX11_addVariant 8 = .ok (.aload_n 0, 1) := by decide +kernel
theorem dX11_addVariant_9 : decode cX11_addVariant 9 = .ok (.iload_n 3, 1) := by decide +kernel
theorem dX11_addVariant_10 : decode cX11_addVariant 10 = .ok (.invokevirtual 96, 3) := by decide +kernel
theorem dX11_addVariant_13 : decode cX11_addVariant 13 = .ok (.ifCond .ne 9, 3) := by decide +kernel
theorem dX11_addVariant_16 : decode cX11_addVariant 16 = .ok (.aload_n 0, 1) := by decide +kernel
theorem dX11_addVariant_17 : decode cX11_addVariant 17 = .ok (.iconst 1, 1) := by decide +kernel
theorem dX11_addVariant_18 : decode cX11_addVariant 18 = .ok (.invokevirtual 105, 3) := by decide +kernel
theorem dX11_addVariant_21 : decode cX11_addVariant 21 = .ok (.ireturn, 1) := by decide +kernel
theorem dX11_addVariant_22 : decode cX11_addVariant 22 = .ok (.iload_n 2, 1) := by decide +kernel
theorem dX11_addVariant_23 : decode cX11_addVariant 23 = .ok (.iconst 1, 1) := by decide +kernel
theorem dX11_addVariant_24 : decode cX11_addVariant 24 = .ok (.bipush 6, 2) := by decide +kernel
theorem dX11_addVariant_26 : decode cX11_addVariant 26 = .ok (.invokestatic 89, 3) := by decide +kernel
theorem dX11_addVariant_29 : decode cX11_addVariant 29 = .ok (.ifCond .eq 35, 3) := by decide +kernel
theorem dX11_addVariant_32 : decode cX11_addVariant 32 = .ok (.iload 4, 2) := by decide +kernel
theorem dX11_addVariant_34 : decode cX11_addVariant 34 = .ok (.iconst 1, 1) := by decide +kernel
theorem dX11_addVariant_35 : decode cX11_addVariant 35 = .ok (.bipush 20, 2) := by decide +kernel
theorem dX11_addVariant_37 : decode cX11_addVariant 37 = .ok (.invokestatic 89, 3) := by decide +kernel
theorem dX11_addVariant_40 : decode cX11_addVariant 40 = .ok (.ifCond .eq 24, 3) := by decide +kernel
theorem dX11_addVariant_43 : decode cX11_addVariant 43 = .ok (.iload 5, 2) := by decide +kernel
theorem dX11_addVariant_45 : decode cX11_addVariant 45 = .ok (.iconst 0, 1) := by decide +kernel
theorem dX11_addVariant_46 : decode cX11_addVariant 46 = .ok (.iconst 3, 1) := by decide +kernel
theorem dX11_addVariant_47 : decode cX11_addVariant 47 = .ok (.invokestatic 89, 3) := by decide +kernel
theorem dX11_addVariant_50 : decode cX11_addVariant 50 = .ok (.ifCond .eq 14, 3) := by decide +kernel
theorem dX11_addVariant_53 : decode cX11_addVariant 53 = .ok (.iload 6, 2) := by decide +kernel
theorem dX11_addVariant_55 : decode cX11_addVariant 55 = .ok (.iconst 1, 1) := by decide +kernel
theorem dX11_addVariant_56 : decode cX11_addVariant 56 = .ok (.bipush 15, 2) := by decide +kernel
theorem dX11_addVariant_58 : decode cX11_addVariant 58 = .ok (.invokestatic 89, 3) := by decide +kernel
theorem dX11_addVariant_61 : decode cX11_addVariant 61 = .ok (.ifCond .ne 9, 3) := by decide +kernel
theorem dX11_addVariant_64 : decode cX11_addVariant 64 = .ok (.aload_n 0, 1) := by decide +kernel
theorem dX11_addVariant_65 : decode cX11_addVariant 65 = .ok (.iconst 2, 1) := by decide +kernel
theorem dX11_addVariant_66 : decode cX11_addVariant 66 = .ok (.invokevirtual 105, 3) := by decide +kernel
theorem dX11_addVariant_69 : decode cX11_addVariant 69 = .ok (.ireturn, 1) := by decide +kernel
theorem dX11_addVariant_70 : decode cX11_addVariant 70 = .ok (.aload_n 0, 1) := by decide +kernel
theorem dX11_addVariant_71 : decode cX11_addVariant 71 = .ok (.iload_n 1, 1) := by decide +kernel
theorem dX11_addVariant_72 : decode cX11_addVariant 72 = .ok (.iload_n 2, 1) := by decide +kernel
theorem dX11_addVariant_73 : decode cX11_addVariant 73 = .ok (.iload_n 3, 1) := by decide +kernel
theorem dX11_addVariant_74 : decode cX11_addVariant 74 = .ok (.iload 4, 2) := by decide +kernel
theorem dX11_addVariant_76 : decode cX11_addVariant 76 = .ok (.iconst 1, 1) := by decide +kernel
theorem dX11_addVariant_77 : decode cX11_addVariant 77 = .ok (.sipush 999, 3) := by decide +kernel
theorem dX11_addVariant_80 : decode cX11_addVariant 80 = .ok (.iload 5, 2) := by decide +kernel
theorem dX11_addVariant_82 : decode cX11_addVariant 82 = .ok (.iload 6, 2) := by decide +kernel
theorem dX11_addVariant_84 : decode cX11_addVariant 84 = .ok (.invokevirtual 130, 3) := by decide +kernel
theorem dX11_addVariant_87 : decode cX11_addVariant 87 = .ok (.ireturn, 1) := by decide +kernel
theorem dX11_replaceFrom_0 : decode cX11_replaceFrom 0 = .ok (.aload_n 0, 1) := by decide +kernel
theorem dX11_replaceFrom_1 : decode cX11_replaceFrom 1 = .ok (.iload_n 1, 1) := by decide +kernel
theorem dX11_replaceFrom_2 : decode cX11_replaceFrom 2 = .ok (.invokevirtual 133, 3) := by decide +kernel
theorem dX11_replaceFrom_5 : decode cX11_replaceFrom 5 = .ok (.ifCond .eq 11, 3) := by decide +kernel
theorem dX11_replaceFrom_8 : decode cX11_replaceFrom 8 = .ok (.aload_n 0, 1) := by decide +kernel
theorem dX11_replaceFrom_9 : decode cX11_replaceFrom 9 = .ok (.iload_n 3, 1) := by decide +kernel
theorem dX11_replaceFrom_10 : decode cX11_replaceFrom 10 = .ok (.invokevirtual 96, 3) := by decide +kernel
theorem dX11_replaceFrom_13 : decode cX11_replaceFrom 13 = .ok (.ifCond .ne 9, 3) := by decide +kernel
theorem dX11_replaceFrom_16 : decode cX11_replaceFrom 16 = .ok (.aload_n 0, 1) := by decide +kernel
theorem dX11_replaceFrom_17 : decode cX11_replaceFrom 17 = .ok (.iconst 1, 1) := by decide +kernel
theorem dX11_replaceFrom_18 : decode cX11_replaceFrom 18 = .ok (.invokevirtual 105, 3) := by decide +kernel
theorem dX11_replaceFrom_21 : decode cX11_replaceFrom 21 = .ok (.ireturn, 1) := by decide +kernel
theorem dX11_replaceFrom_22 : decode cX11_replaceFrom 22 = .ok (.iload 4, 2) := by decide +kernel
theorem dX11_replaceFrom_24 : decode cX11_replaceFrom 24 = .ok (.iconst 1, 1) := by decide +kernel
theorem dX11_replaceFrom_25 : decode cX11_replaceFrom 25 = .ok (.bipush 20, 2) := by decide +kernel
theorem dX11_replaceFrom_27 : decode cX11_replaceFrom 27 = .ok (.invokestatic 89, 3) := by decide +kernel
theorem dX11_replaceFrom_30 : decode cX11_replaceFrom 30 = .ok (.ifCond .eq 23, 3) := by decide +kernel
theorem dX11_replaceFrom_33 : decode cX11_replaceFrom 33 = .ok (.iload_n 2, 1) := by decide +kernel
theorem dX11_replaceFrom_34 : decode cX11_replaceFrom 34 = .ok (.aload_n 0, 1) := by decide +kernel
theorem dX11_replaceFrom_35 : decode cX11_replaceFrom 35 = .ok (.getfield 31, 3) := by decide +kernel
theorem dX11_replaceFrom_38 : decode cX11_replaceFrom 38 = .ok (.iload_n 1, 1) := by decide +kernel
theorem dX11_replaceFrom_39 : decode cX11_replaceFrom 39 = .ok (.iaload, 1) := by decide +kernel
theorem dX11_replaceFrom_40 : decode cX11_replaceFrom 40 = .ok (.if_icmp .le 13, 3) := by decide +kernel
theorem dX11_replaceFrom_43 : decode cX11_replaceFrom 43 = .ok (.iload_n 2, 1) := by decide +kernel
theorem dX11_replaceFrom_44 : decode cX11_replaceFrom 44 = .ok (.aload_n 0, 1) := by decide +kernel
theorem dX11_replaceFrom_45 : decode cX11_replaceFrom 45 = .ok (.getfield 34, 3) := by decide +kernel
theorem dX11_replaceFrom_48 : decode cX11_replaceFrom 48 = .ok (.iload_n 1, 1) := by decide +kernel
theorem dX11_replaceFrom_49 : decode cX11_replaceFrom 49 = .ok (.iaload, 1) := by decide +kernel
theorem dX11_replaceFrom_50 : decode cX11_replaceFrom 50 = .ok (.if_icmp .le 9, 3) := by decide +kernel
theorem dX11_replaceFrom_53 : decode cX11_replaceFrom 53 = .ok (.aload_n 0, 1) := by decide +kernel
theorem dX11_replaceFrom_54 : decode cX11_replaceFrom 54 = .ok (.iconst 2, 1) := by decide +kernel
theorem dX11_replaceFrom_55 : decode cX11_replaceFrom 55 = .ok (.invokevirtual 105, 3) := by decide +kernel
theorem dX11_replaceFrom_58 : decode cX11_replaceFrom 58 = .ok (.ireturn, 1) := by decide +kernel
theorem dX11_replaceFrom_59 : decode cX11_replaceFrom 59 = .ok (.aload_n 0, 1) := by decide +kernel
theorem dX11_replaceFrom_60 : decode cX11_replaceFrom 60 = .ok (.iload_n 3, 1) := by decide +kernel
theorem dX11_replaceFrom_61 : decode cX11_replaceFrom 61 = .ok (.aload_n 0, 1) := by decide +kernel
theorem dX11_replaceFrom_62 : decode cX11_replaceFrom 62 = .ok (.getfield 19, 3) := by decide +kernel
theorem dX11_replaceFrom_65 : decode cX11_replaceFrom 65 = .ok (.iload_n 1, 1) := by decide +kernel
theorem dX11_replaceFrom_66 : decode cX11_replaceFrom 66 = .ok (.iaload, 1) := by decide +kernel
theorem dX11_replaceFrom_67 : decode cX11_replaceFrom 67 = .ok (.invokevirtual 115, 3) := by decide +kernel
theorem dX11_replaceFrom_70 : decode cX11_replaceFrom 70 = .ok (.ifCond .eq 9, 3) := by decide +kernel
theorem dX11_replaceFrom_73 : decode cX11_replaceFrom 73 = .ok (.aload_n 0, 1) := by decide +kernel
theorem dX11_replaceFrom_74 : decode cX11_replaceFrom 74 = .ok (.iconst 3, 1) := by decide +kernel
theorem dX11_replaceFrom_75 : decode cX11_replaceFrom 75 = .ok (.invokevirtual 105, 3) := by decide +kernel
theorem dX11_replaceFrom_78 : decode cX11_replaceFrom 78 = .ok (.ireturn, 1) := by decide +kernel
theorem dX11_replaceFrom_79 : decode cX11_replaceFrom 79 = .ok (.aload_n 0, 1) := by decide +kernel
theorem dX11_replaceFrom_80 : decode cX11_replaceFrom 80 = .ok (.aload_n 0, 1) := by decide +kernel
theorem dX11_replaceFrom_81 : decode cX11_replaceFrom 81 = .ok (.getfield 19, 3) := by decide +kernel
theorem dX11_replaceFrom_84 : decode cX11_replaceFrom 84 = .ok (.iload_n 1, 1) := by decide +kernel
theorem dX11_replaceFrom_85 : decode cX11_replaceFrom 85 = .ok (.iaload, 1) := by decide +kernel
theorem dX11_replaceFrom_86 : decode cX11_replaceFrom 86 = .ok (.iload_n 3, 1) := by decide +kernel
theorem dX11_replaceFrom_87 : decode cX11_replaceFrom 87 = .ok (.invokevirtual 119, 3) := by decide +kernel
theorem dX11_replaceFrom_90 : decode cX11_replaceFrom 90 = .ok (.ifCond .ne 12, 3) := by decide +kernel
theorem dX11_replaceFrom_93 : decode cX11_replaceFrom 93 = .ok (.aload_n 0, 1) := by decide +kernel
theorem dX11_replaceFrom_94 : decode cX11_replaceFrom 94 = .ok (.getfield 93, 3) := by decide +kernel
theorem dX11_replaceFrom_97 : decode cX11_replaceFrom 97 = .ok (.bipush 40, 2) := by decide +kernel
theorem dX11_replaceFrom_99 : decode cX11_replaceFrom 99 = .ok (.if_icmp .ne 9, 3) := by decide +kernel
theorem dX11_replaceFrom_102 : decode cX11_replaceFrom 102 = .ok (.aload_n 0, 1) := by decide +kernel
theorem dX11_replaceFrom_103 : decode cX11_replaceFrom 103 = .ok (.iconst 4, 1) := by decide +kernel
theorem dX11_replaceFrom_104 : decode cX11_replaceFrom 104 = .ok (.invokevirtual 105, 3) := by decide +kernel
theorem dX11_replaceFrom_107 : decode cX11_replaceFrom 107 = .ok (.ireturn, 1) := by decide +kernel
theorem dX11_replaceFrom_108 : decode cX11_replaceFrom 108 = .ok (.aload_n 0, 1) := by decide +kernel
theorem dX11_replaceFrom_109 : decode cX11_replaceFrom 109 = .ok (.aload_n 0, 1) := by decide +kernel
theorem dX11_replaceFrom_110 : decode cX11_replaceFrom 110 = .ok (.getfield 19, 3) := by decide +kernel
theorem dX11_replaceFrom_113 : decode cX11_replaceFrom 113 = .ok (.iload_n 1, 1) := by decide +kernel
theorem dX11_replaceFrom_114 : decode cX11_replaceFrom 114 = .ok (.iaload, 1) := by decide +kernel
theorem dX11_replaceFrom_115 : decode cX11_replaceFrom 115 = .ok (.aload_n 0, 1) := by decide +kernel
theorem dX11_replaceFrom_116 : decode cX11_replaceFrom 116 = .ok (.getfield 22, 3) := by decide +kernel
theorem dX11_replaceFrom_119 : decode cX11_replaceFrom 119 = .ok (.iload_n 1, 1) := by decide +kernel
theorem dX11_replaceFrom_120 : decode cX11_replaceFrom 120 = .ok (.iaload, 1) := by decide +kernel
theorem dX11_replaceFrom_121 : decode cX11_replaceFrom 121 = .ok (.iload_n 3, 1) := by decide +kernel
theorem dX11_replaceFrom_122 : decode cX11_replaceFrom 122 = .ok (.iload 4, 2) := by decide +kernel
theorem dX11_replaceFrom_124 : decode cX11_replaceFrom 124 = .ok (.iload_n 2, 1) := by decide +kernel
theorem dX11_replaceFrom_125 : decode cX11_replaceFrom 125 = .ok (.aload_n 0, 1) := by decide +kernel
theorem dX11_replaceFrom_126 : decode cX11_replaceFrom 126 = .ok (.getfield 34, 3) := by decide +kernel
theorem dX11_replaceFrom_129 : decode cX11_replaceFrom 129 = .ok (.iload_n 1, 1) := by decide +kernel
theorem dX11_replaceFrom_130 : decode cX11_replaceFrom 130 = .ok (.iaload, 1) := by decide +kernel
theorem dX11_replaceFrom_131 : decode cX11_replaceFrom 131 = .ok (.aload_n 0, 1) := by decide +kernel
theorem dX11_replaceFrom_132 : decode cX11_replaceFrom 132 = .ok (.getfield 40, 3) := by decide +kernel
theorem dX11_replaceFrom_135 : decode cX11_replaceFrom 135 = .ok (.iload_n 1, 1) := by decide +kernel
theorem dX11_replaceFrom_136 : decode cX11_replaceFrom 136 = .ok (.iaload, 1) := by decide +kernel
theorem dX11_replaceFrom_137 : decode cX11_replaceFrom 137 = .ok (.aload_n 0, 1) := by decide +kernel
theorem dX11_replaceFrom_138 : decode cX11_replaceFrom 138 = .ok (.getfield 43, 3) := by decide +kernel
theorem dX11_replaceFrom_141 : decode cX11_replaceFrom 141 = .ok (.iload_n 1, 1) := by decide +kernel
theorem dX11_replaceFrom_142 : decode cX11_replaceFrom 142 = .ok (.iaload, 1) := by decide +kernel
theorem dX11_replaceFrom_143 : decode cX11_replaceFrom 143 = .ok (.invokevirtual 126, 3) := by decide +kernel
theorem dX11_replaceFrom_146 : decode cX11_replaceFrom 146 = .ok (.istore 5, 2) := by decide +kernel
theorem dX11_replaceFrom_148 : decode cX11_replaceFrom 148 = .ok (.aload_n 0, 1) := by decide +kernel
theorem dX11_replaceFrom_149 : decode cX11_replaceFrom 149 = .ok (.getfield 37, 3) := by decide +kernel
theorem dX11_replaceFrom_152 : decode cX11_replaceFrom 152 = .ok (.iload 5, 2) := by decide +kernel
theorem dX11_replaceFrom_154 : decode cX11_replaceFrom 154 = .ok (.aload_n 0, 1) := by decide +kernel
theorem dX11_replaceFrom_155 : decode cX11_replaceFrom 155 = .ok (.getfield 37, 3) := by decide +kernel
theorem dX11_replaceFrom_158 : decode cX11_replaceFrom 158 = .ok (.iload_n 1, 1) := by decide +kernel
theorem dX11_replaceFrom_159 : decode cX11_replaceFrom 159 = .ok (.iaload, 1) := by decide +kernel
theorem dX11_replaceFrom_160 : decode cX11_replaceFrom 160 = .ok (.iastore, 1) := by decide +kernel
theorem dX11_replaceFrom_161 : decode cX11_replaceFrom 161 = .ok (.aload_n 0, 1) := by decide +kernel
theorem dX11_replaceFrom_162 : decode cX11_replaceFrom 162 = .ok (.getfield 34, 3) := by decide +kernel
theorem dX11_replaceFrom_165 : decode cX11_replaceFrom 165 = .ok (.iload_n 1, 1) := by decide +kernel
theorem dX11_replaceFrom_166 : decode cX11_replaceFrom 166 = .ok (.iload_n 2, 1) := by decide +kernel
theorem dX11_replaceFrom_167 : decode cX11_replaceFrom 167 = .ok (.iconst 1, 1) := by decide +kernel
theorem dX11_replaceFrom_168 : decode cX11_replaceFrom 168 = .ok (.isub, 1) := by decide +kernel
theorem dX11_replaceFrom_169 : decode cX11_replaceFrom 169 = .ok (.iastore, 1) := by decide +kernel
theorem dX11_replaceFrom_170 : decode cX11_replaceFrom 170 = .ok (.iload 5, 2) := by decide +kernel
theorem dX11_replaceFrom_172 : decode cX11_replaceFrom 172 = .ok (.ireturn, 1) := by decide +kernel
theorem dX11_endBefore_0 : decode cX11_endBefore 0 = .ok (.aload_n 0, 1) := by decide +kernel
theorem dX11_endBefore_1 : decode cX11_endBefore 1 = .ok (.iload_n 1, 1) := by decide +kernel
theorem dX11_endBefore_2 : decode cX11_endBefore 2 = .ok (.invokevirtual 133, 3) := by decide +kernel
theorem dX11_endBefore_5 : decode cX11_endBefore 5 = .ok (.ifCond .ne 9, 3) := by decide +kernel
theorem dX11_endBefore_8 : decode cX11_endBefore 8 = .ok (.aload_n 0, 1) := by decide +kernel
theorem dX11_endBefore_9 : decode cX11_endBefore 9 = .ok (.iconst 1, 1) := by decide +kernel
theorem dX11_endBefore_10 : decode cX11_endBefore 10 = .ok (.invokevirtual 105, 3) := by decide +kernel
theorem dX11_endBefore_13 : decode cX11_endBefore 13 = .ok (.ireturn, 1) := by decide +kernel
theorem dX11_endBefore_14 : decode cX11_endBefore 14 = .ok (.iload_n 2, 1) := by decide +kernel
theorem dX11_endBefore_15 : decode cX11_endBefore 15 = .ok (.aload_n 0, 1) := by decide +kernel
theorem dX11_endBefore_16 : decode cX11_endBefore 16 = .ok (.getfield 31, 3) := by decide +kernel
theorem dX11_endBefore_19 : decode cX11_endBefore 19 = .ok (.iload_n 1, 1) := by decide +kernel
theorem dX11_endBefore_20 : decode cX11_endBefore 20 = .ok (.iaload, 1) := by decide +kernel
theorem dX11_endBefore_21 : decode cX11_endBefore 21 = .ok (.if_icmp .le 13, 3) := by decide +kernel
theorem dX11_endBefore_24 : decode cX11_endBefore 24 = .ok (.iload_n 2, 1) := by decide +kernel
theorem dX11_endBefore_25 : decode cX11_endBefore 25 = .ok (.aload_n 0, 1) := by decide +kernel
theorem dX11_endBefore_26 : decode cX11_endBefore 26 = .ok (.getfield 34, 3) := by decide +kernel
theorem dX11_endBefore_29 : decode cX11_endBefore 29 = .ok (.iload_n 1, 1) := by decide +kernel
theorem dX11_endBefore_30 : decode cX11_endBefore 30 = .ok (.iaload, 1) := by decide +kernel
theorem dX11_endBefore_31 : decode cX11_endBefore 31 = .ok (.if_icmp .le 9, 3) := by decide +kernel
theorem dX11_endBefore_34 : decode cX11_endBefore 34 = .ok (.aload_n 0, 1) := by decide +kernel
theorem dX11_endBefore_35 : decode cX11_endBefore 35 = .ok (.iconst 2, 1) := by decide +kernel
theorem dX11_endBefore_36 : decode cX11_endBefore 36 = .ok (.invokevirtual 105, 3) := by decide +kernel
theorem dX11_endBefore_39 : decode cX11_endBefore 39 = .ok (.ireturn, 1) := by decide +kernel
theorem dX11_endBefore_40 : decode cX11_endBefore 40 = .ok (.aload_n 0, 1) := by decide +kernel
theorem dX11_endBefore_41 : decode cX11_endBefore 41 = .ok (.iconst 0, 1) := by decide +kernel
theorem dX11_endBefore_42 : decode cX11_endBefore 42 = .ok (.putfield 82, 3) := by decide +kernel
theorem dX11_endBefore_45 : decode cX11_endBefore 45 = .ok (.aload_n 0, 1) := by decide +kernel
theorem dX11_endBefore_46 : decode cX11_endBefore 46 = .ok (.getfield 34, 3) := by decide +kernel
theorem dX11_endBefore_49 : decode cX11_endBefore 49 = .ok (.iload_n 1, 1) := by decide +kernel
theorem dX11_endBefore_50 : decode cX11_endBefore 50 = .ok (.iaload, 1) := by decide +kernel
theorem dX11_endBefore_51 : decode cX11_endBefore 51 = .ok (.istore_n 3, 1) := by decide +kernel
theorem dX11_endBefore_52 : decode cX11_endBefore 52 = .ok (.aload_n 0, 1) := by decide +kernel
theorem dX11_endBefore_53 : decode cX11_endBefore 53 = .ok (.getfield 34, 3) := by decide +kernel
theorem dX11_endBefore_56 : decode cX11_endBefore 56 = .ok (.iload_n 1, 1) := by decide +kernel
theorem dX11_endBefore_57 : decode cX11_endBefore 57 = .ok (.iload_n 2, 1) := by decide +kernel
theorem dX11_endBefore_58 : decode cX11_endBefore 58 = .ok (.iconst 1, 1) := by decide +kernel
theorem dX11_endBefore_59 : decode cX11_endBefore 59 = .ok (.isub, 1) := by decide +kernel
theorem dX11_endBefore_60 : decode cX11_endBefore 60 = .ok (.iastore, 1) := by decide +kernel
theorem dX11_endBefore_61 : decode cX11_endBefore 61 = .ok (.iload_n 3, 1) := by decide +kernel
theorem dX11_endBefore_62 : decode cX11_endBefore 62 = .ok (.ireturn, 1) := by decide +kernel
theorem dX11_setScrap_0 : decode cX11_setScrap 0 = .ok (.aload_n 0, 1) := by decide +kernel
theorem dX11_setScrap_1 : decode cX11_setScrap 1 = .ok (.iload_n 1, 1) := by decide +kernel
theorem dX11_setScrap_2 : decode cX11_setScrap 2 = .ok (.invokevirtual 133, 3) := by decide +kernel
theorem dX11_setScrap_5 : decode cX11_setScrap 5 = .ok (.ifCond .ne 9, 3) := by decide +kernel
theorem dX11_setScrap_8 : decode cX11_setScrap 8 = .ok (.aload_n 0, 1) := by decide +kernel
theorem dX11_setScrap_9 : decode cX11_setScrap 9 = .ok (.iconst 1, 1) := by decide +kernel
theorem dX11_setScrap_10 : decode cX11_setScrap 10 = .ok (.invokevirtual 105, 3) := by decide +kernel
theorem dX11_setScrap_13 : decode cX11_setScrap 13 = .ok (.ireturn, 1) := by decide +kernel
theorem dX11_setScrap_14 : decode cX11_setScrap 14 = .ok (.iload_n 2, 1) := by decide +kernel
theorem dX11_setScrap_15 : decode cX11_setScrap 15 = .ok (.iconst 0, 1) := by decide +kernel
theorem dX11_setScrap_16 : decode cX11_setScrap 16 = .ok (.bipush 50, 2) := by decide +kernel
theorem dX11_setScrap_18 : decode cX11_setScrap 18 = .ok (.invokestatic 89, 3) := by decide +kernel
theorem dX11_setScrap_21 : decode cX11_setScrap 21 = .ok (.ifCond .ne 9, 3) := by decide +kernel
theorem dX11_setScrap_24 : decode cX11_setScrap 24 = .ok (.aload_n 0, 1) := by decide +kernel
theorem dX11_setScrap_25 : decode cX11_setScrap 25 = .ok (.iconst 2, 1) := by decide +kernel
theorem dX11_setScrap_26 : decode cX11_setScrap 26 = .ok (.invokevirtual 105, 3) := by decide +kernel
theorem dX11_setScrap_29 : decode cX11_setScrap 29 = .ok (.ireturn, 1) := by decide +kernel
theorem dX11_setScrap_30 : decode cX11_setScrap 30 = .ok (.aload_n 0, 1) := by decide +kernel
theorem dX11_setScrap_31 : decode cX11_setScrap 31 = .ok (.iconst 0, 1) := by decide +kernel
theorem dX11_setScrap_32 : decode cX11_setScrap 32 = .ok (.putfield 82, 3) := by decide +kernel
theorem dX11_setScrap_35 : decode cX11_setScrap 35 = .ok (.aload_n 0, 1) := by decide +kernel
theorem dX11_setScrap_36 : decode cX11_setScrap 36 = .ok (.getfield 37, 3) := by decide +kernel
theorem dX11_setScrap_39 : decode cX11_setScrap 39 = .ok (.iload_n 1, 1) := by decide +kernel
theorem dX11_setScrap_40 : decode cX11_setScrap 40 = .ok (.iaload, 1) := by decide +kernel
theorem dX11_setScrap_41 : decode cX11_setScrap 41 = .ok (.istore_n 3, 1) := by decide +kernel
theorem dX11_setScrap_42 : decode cX11_setScrap 42 = .ok (.aload_n 0, 1) := by decide +kernel
theorem dX11_setScrap_43 : decode cX11_setScrap 43 = .ok (.getfield 37, 3) := by decide +kernel
theorem dX11_setScrap_46 : decode cX11_setScrap 46 = .ok (.iload_n 1, 1) := by decide +kernel
theorem dX11_setScrap_47 : decode cX11_setScrap 47 = .ok (.iload_n 2, 1) := by decide +kernel
theorem dX11_setScrap_48 : decode cX11_setScrap 48 = .ok (.iastore, 1) := by decide +kernel
theorem dX11_setScrap_49 : decode cX11_setScrap 49 = .ok (.iload_n 3, 1) := by decide +kernel
theorem dX11_setScrap_50 : decode cX11_setScrap 50 = .ok (.ireturn, 1) := by decide +kernel
theorem dX11_lines_0 : decode cX11_lines 0 = .ok (.aload_n 0, 1) := by decide +kernel
theorem dX11_lines_1 : decode cX11_lines 1 = .ok (.iconst 0, 1) := by decide +kernel
theorem dX11_lines_2 : decode cX11_lines 2 = .ok (.putfield 82, 3) := by decide +kernel
theorem dX11_lines_5 : decode cX11_lines 5 = .ok (.aload_n 0, 1) := by decide +kernel
theorem dX11_lines_6 : decode cX11_lines 6 = .ok (.getfield 93, 3) := by decide +kernel
theorem dX11_lines_9 : decode cX11_lines 9 = .ok (.ireturn, 1) := by decide +kernel
theorem dX11_lastSerial_0 : decode cX11_lastSerial 0 = .ok (.aload_n 0, 1) := by decide +kernel
theorem dX11_lastSerial_1 : decode cX11_lastSerial 1 = .ok (.iload_n 1, 1) := by decide +kernel
theorem dX11_lastSerial_2 : decode cX11_lastSerial 2 = .ok (.invokevirtual 133, 3) := by decide +kernel
theorem dX11_lastSerial_5 : decode cX11_lastSerial 5 = .ok (.ifCond .ne 9, 3) := by decide +kernel
theorem dX11_lastSerial_8 : decode cX11_lastSerial 8 = .ok (.aload_n 0, 1) := by decide +kernel
theorem dX11_lastSerial_9 : decode cX11_lastSerial 9 = .ok (.iconst 1, 1) := by decide +kernel
theorem dX11_lastSerial_10 : decode cX11_lastSerial 10 = .ok (.invokevirtual 105, 3) := by decide +kernel
theorem dX11_lastSerial_13 : decode cX11_lastSerial 13 = .ok (.ireturn, 1) := by decide +kernel
theorem dX11_lastSerial_14 : decode cX11_lastSerial 14 = .ok (.aload_n 0, 1) := by decide +kernel
theorem dX11_lastSerial_15 : decode cX11_lastSerial 15 = .ok (.iconst 0, 1) := by decide +kernel
theorem dX11_lastSerial_16 : decode cX11_lastSerial 16 = .ok (.putfield 82, 3) := by decide +kernel
theorem dX11_lastSerial_19 : decode cX11_lastSerial 19 = .ok (.aload_n 0, 1) := by decide +kernel
theorem dX11_lastSerial_20 : decode cX11_lastSerial 20 = .ok (.getfield 34, 3) := by decide +kernel
theorem dX11_lastSerial_23 : decode cX11_lastSerial 23 = .ok (.iload_n 1, 1) := by decide +kernel
theorem dX11_lastSerial_24 : decode cX11_lastSerial 24 = .ok (.iaload, 1) := by decide +kernel
theorem dX11_lastSerial_25 : decode cX11_lastSerial 25 = .ok (.ireturn, 1) := by decide +kernel
theorem dX11_isHeld_0 : decode cX11_isHeld 0 = .ok (.iload_n 2, 1) := by decide +kernel
theorem dX11_isHeld_1 : decode cX11_isHeld 1 = .ok (.aload_n 0, 1) := by decide +kernel
theorem dX11_isHeld_2 : decode cX11_isHeld 2 = .ok (.getfield 31, 3) := by decide +kernel
theorem dX11_isHeld_5 : decode cX11_isHeld 5 = .ok (.iload_n 1, 1) := by decide +kernel
theorem dX11_isHeld_6 : decode cX11_isHeld 6 = .ok (.iaload, 1) := by decide +kernel
theorem dX11_isHeld_7 : decode cX11_isHeld 7 = .ok (.aload_n 0, 1) := by decide +kernel
theorem dX11_isHeld_8 : decode cX11_isHeld 8 = .ok (.getfield 34, 3) := by decide +kernel
theorem dX11_isHeld_11 : decode cX11_isHeld 11 = .ok (.iload_n 1, 1) := by decide +kernel
theorem dX11_isHeld_12 : decode cX11_isHeld 12 = .ok (.iaload, 1) := by decide +kernel
theorem dX11_isHeld_13 : decode cX11_isHeld 13 = .ok (.invokestatic 89, 3) := by decide +kernel
theorem dX11_isHeld_16 : decode cX11_isHeld 16 = .ok (.ifCond .eq 41, 3) := by decide +kernel
theorem dX11_isHeld_19 : decode cX11_isHeld 19 = .ok (.aload_n 0, 1) := by decide +kernel
theorem dX11_isHeld_20 : decode cX11_isHeld 20 = .ok (.getfield 40, 3) := by decide +kernel
theorem dX11_isHeld_23 : decode cX11_isHeld 23 = .ok (.iload_n 1, 1) := by decide +kernel
theorem dX11_isHeld_24 : decode cX11_isHeld 24 = .ok (.iaload, 1) := by decide +kernel
theorem dX11_isHeld_25 : decode cX11_isHeld 25 = .ok (.iconst (-1), 1) := by decide +kernel
theorem dX11_isHeld_26 : decode cX11_isHeld 26 = .ok (.if_icmp .eq 27, 3) := by decide +kernel
theorem dX11_isHeld_29 : decode cX11_isHeld 29 = .ok (.aload_n 0, 1) := by decide +kernel
theorem dX11_isHeld_30 : decode cX11_isHeld 30 = .ok (.getfield 43, 3) := by decide +kernel
theorem dX11_isHeld_33 : decode cX11_isHeld 33 = .ok (.iload_n 1, 1) := by decide +kernel
theorem dX11_isHeld_34 : decode cX11_isHeld 34 = .ok (.iaload, 1) := by decide +kernel
theorem dX11_isHeld_35 : decode cX11_isHeld 35 = .ok (.aload_n 0, 1) := by decide +kernel
theorem dX11_isHeld_36 : decode cX11_isHeld 36 = .ok (.getfield 46, 3) := by decide +kernel
theorem dX11_isHeld_39 : decode cX11_isHeld 39 = .ok (.aload_n 0, 1) := by decide +kernel
theorem dX11_isHeld_40 : decode cX11_isHeld 40 = .ok (.getfield 40, 3) := by decide +kernel
theorem dX11_isHeld_43 : decode cX11_isHeld 43 = .ok (.iload_n 1, 1) := by decide +kernel
theorem dX11_isHeld_44 : decode cX11_isHeld 44 = .ok (.iaload, 1) := by decide +kernel
theorem dX11_isHeld_45 : decode cX11_isHeld 45 = .ok (.iaload, 1) := by decide +kernel
theorem dX11_isHeld_46 : decode cX11_isHeld 46 = .ok (.ishr, 1) := by decide +kernel
theorem dX11_isHeld_47 : decode cX11_isHeld 47 = .ok (.iconst 1, 1) := by decide +kernel
theorem dX11_isHeld_48 : decode cX11_isHeld 48 = .ok (.iand, 1) := by decide +kernel
theorem dX11_isHeld_49 : decode cX11_isHeld 49 = .ok (.iconst 1, 1) := by decide +kernel
theorem dX11_isHeld_50 : decode cX11_isHeld 50 = .ok (.if_icmp .ne 7, 3) := by decide +kernel
theorem dX11_isHeld_53 : decode cX11_isHeld 53 = .ok (.iconst 1, 1) := by decide +kernel
theorem dX11_isHeld_54 : decode cX11_isHeld 54 = .ok (.goto 4, 3) := by decide +kernel
theorem dX11_isHeld_57 : decode cX11_isHeld 57 = .ok (.iconst 0, 1) := by decide +kernel
theorem dX11_isHeld_58 : decode cX11_isHeld 58 = .ok (.ireturn, 1) := by decide +kernel
theorem dX11_holds_0 : decode cX11_holds 0 = .ok (.aload_n 0, 1) := by decide +kernel
theorem dX11_holds_1 : decode cX11_holds 1 = .ok (.aload_n 0, 1) := by decide +kernel
theorem dX11_holds_2 : decode cX11_holds 2 = .ok (.iload_n 1, 1) := by decide +kernel
theorem dX11_holds_3 : decode cX11_holds 3 = .ok (.invokevirtual 133, 3) := by decide +kernel
theorem dX11_holds_6 : decode cX11_holds 6 = .ok (.ifCond .ne 7, 3) := by decide +kernel
theorem dX11_holds_9 : decode cX11_holds 9 = .ok (.iconst 1, 1) := by decide +kernel
theorem dX11_holds_10 : decode cX11_holds 10 = .ok (.goto 19, 3) := by decide +kernel
theorem dX11_holds_13 : decode cX11_holds 13 = .ok (.iload_n 2, 1) := by decide +kernel
theorem dX11_holds_14 : decode cX11_holds 14 = .ok (.iconst 1, 1) := by decide +kernel
theorem dX11_holds_15 : decode cX11_holds 15 = .ok (.sipush 999, 3) := by decide +kernel
theorem dX11_holds_18 : decode cX11_holds 18 = .ok (.invokestatic 89, 3) := by decide +kernel
theorem dX11_holds_21 : decode cX11_holds 21 = .ok (.ifCond .eq 7, 3) := by decide +kernel
theorem dX11_holds_24 : decode cX11_holds 24 = .ok (.iconst 0, 1) := by decide +kernel
theorem dX11_holds_25 : decode cX11_holds 25 = .ok (.goto 4, 3) := by decide +kernel
theorem dX11_holds_28 : decode cX11_holds 28 = .ok (.iconst 2, 1) := by decide +kernel
theorem dX11_holds_29 : decode cX11_holds 29 = .ok (.putfield 82, 3) := by decide +kernel
theorem dX11_holds_32 : decode cX11_holds 32 = .ok (.aload_n 0, 1) := by decide +kernel
theorem dX11_holds_33 : decode cX11_holds 33 = .ok (.getfield 82, 3) := by decide +kernel
theorem dX11_holds_36 : decode cX11_holds 36 = .ok (.ifCond .ne 16, 3) := by decide +kernel
theorem dX11_holds_39 : decode cX11_holds 39 = .ok (.aload_n 0, 1) := by decide +kernel
theorem dX11_holds_40 : decode cX11_holds 40 = .ok (.iload_n 1, 1) := by decide +kernel
theorem dX11_holds_41 : decode cX11_holds 41 = .ok (.iload_n 2, 1) := by decide +kernel
theorem dX11_holds_42 : decode cX11_holds 42 = .ok (.invokevirtual 136, 3) := by decide +kernel
theorem dX11_holds_45 : decode cX11_holds 45 = .ok (.ifCond .eq 7, 3) := by decide +kernel
theorem dX11_holds_48 : decode cX11_holds 48 = .ok (.iconst 1, 1) := by decide +kernel
theorem dX11_holds_49 : decode cX11_holds 49 = .ok (.goto 4, 3) := by decide +kernel
theorem dX11_holds_52 : decode cX11_holds 52 = .ok (.iconst 0, 1) := by decide +kernel
theorem dX11_holds_53 : decode cX11_holds 53 = .ok (.ireturn, 1) := by decide +kernel
theorem dX11_setChoice_0 : decode cX11_setChoice 0 = .ok (.iload_n 1, 1) := by decide +kernel
theorem dX11_setChoice_1 : decode cX11_setChoice 1 = .ok (.iconst 0, 1) := by decide +kernel
theorem dX11_setChoice_2 : decode cX11_setChoice 2 = .ok (.iconst 3, 1) := by decide +kernel
theorem dX11_setChoice_3 : decode cX11_setChoice 3 = .ok (.invokestatic 89, 3) := by decide +kernel
theorem dX11_setChoice_6 : decode cX11_setChoice 6 = .ok (.ifCond .ne 9, 3) := by decide +kernel
theorem dX11_setChoice_9 : decode cX11_setChoice 9 = .ok (.aload_n 0, 1) := by decide +kernel
theorem dX11_setChoice_10 : decode cX11_setChoice 10 = .ok (.iconst 1, 1) := by decide +kernel
theorem dX11_setChoice_11 : decode cX11_setChoice 11 = .ok (.invokevirtual 105, 3) := by decide +kernel
theorem dX11_setChoice_14 : decode cX11_setChoice 14 = .ok (.ireturn, 1) := by decide +kernel
theorem dX11_setChoice_15 : decode cX11_setChoice 15 = .ok (.iload_n 2, 1) := by decide +kernel
theorem dX11_setChoice_16 : decode cX11_setChoice 16 = .ok (.iconst 0, 1) := by decide +kernel
theorem dX11_setChoice_17 : decode cX11_setChoice 17 = .ok (.iconst 3, 1) := by decide +kernel
theorem dX11_setChoice_18 : decode cX11_setChoice 18 = .ok (.invokestatic 89, 3) := by decide +kernel
theorem dX11_setChoice_21 : decode cX11_setChoice 21 = .ok (.ifCond .ne 9, 3) := by decide +kernel
theorem dX11_setChoice_24 : decode cX11_setChoice 24 = .ok (.aload_n 0, 1) := by decide +kernel
theorem dX11_setChoice_25 : decode cX11_setChoice 25 = .ok (.iconst 2, 1) := by decide +kernel
theorem dX11_setChoice_26 : decode cX11_setChoice 26 = .ok (.invokevirtual 105, 3) := by decide +kernel
theorem dX11_setChoice_29 : decode cX11_setChoice 29 = .ok (.ireturn, 1) := by decide +kernel
theorem dX11_setChoice_30 : decode cX11_setChoice 30 = .ok (.aload_n 0, 1) := by decide +kernel
theorem dX11_setChoice_31 : decode cX11_setChoice 31 = .ok (.iconst 0, 1) := by decide +kernel
theorem dX11_setChoice_32 : decode cX11_setChoice 32 = .ok (.putfield 82, 3) := by decide +kernel
theorem dX11_setChoice_35 : decode cX11_setChoice 35 = .ok (.aload_n 0, 1) := by decide +kernel
theorem dX11_setChoice_36 : decode cX11_setChoice 36 = .ok (.getfield 46, 3) := by decide +kernel
theorem dX11_setChoice_39 : decode cX11_setChoice 39 = .ok (.iload_n 1, 1) := by decide +kernel
theorem dX11_setChoice_40 : decode cX11_setChoice 40 = .ok (.iaload, 1) := by decide +kernel
theorem dX11_setChoice_41 : decode cX11_setChoice 41 = .ok (.istore_n 3, 1) := by decide +kernel
theorem dX11_setChoice_42 : decode cX11_setChoice 42 = .ok (.aload_n 0, 1) := by decide +kernel
theorem dX11_setChoice_43 : decode cX11_setChoice 43 = .ok (.getfield 46, 3) := by decide +kernel
theorem dX11_setChoice_46 : decode cX11_setChoice 46 = .ok (.iload_n 1, 1) := by decide +kernel
theorem dX11_setChoice_47 : decode cX11_setChoice 47 = .ok (.iload_n 2, 1) := by decide +kernel
theorem dX11_setChoice_48 : decode cX11_setChoice 48 = .ok (.iastore, 1) := by decide +kernel
theorem dX11_setChoice_49 : decode cX11_setChoice 49 = .ok (.iload_n 3, 1) := by decide +kernel
theorem dX11_setChoice_50 : decode cX11_setChoice 50 = .ok (.ireturn, 1) := by decide +kernel
theorem dX11_choice_0 : decode cX11_choice 0 = .ok (.iload_n 1, 1) := by decide +kernel
theorem dX11_choice_1 : decode cX11_choice 1 = .ok (.iconst 0, 1) := by decide +kernel
theorem dX11_choice_2 : decode cX11_choice 2 = .ok (.iconst 3, 1) := by decide +kernel
theorem dX11_choice_3 : decode cX11_choice 3 = .ok (.invokestatic 89, 3) := by decide +kernel
theorem dX11_choice_6 : decode cX11_choice 6 = .ok (.ifCond .ne 9, 3) := by decide +kernel
theorem dX11_choice_9 : decode cX11_choice 9 = .ok (.aload_n 0, 1) := by decide +kernel
theorem dX11_choice_10 : decode cX11_choice 10 = .ok (.iconst 1, 1) := by decide +kernel
theorem dX11_choice_11 : decode cX11_choice 11 = .ok (.invokevirtual 105, 3) := by decide +kernel
theorem dX11_choice_14 : decode cX11_choice 14 = .ok (.ireturn, 1) := by decide +kernel
theorem dX11_choice_15 : decode cX11_choice 15 = .ok (.aload_n 0, 1) := by decide +kernel
theorem dX11_choice_16 : decode cX11_choice 16 = .ok (.iconst 0, 1) := by decide +kernel
theorem dX11_choice_17 : decode cX11_choice 17 = .ok (.putfield 82, 3) := by decide +kernel
theorem dX11_choice_20 : decode cX11_choice 20 = .ok (.aload_n 0, 1) := by decide +kernel
theorem dX11_choice_21 : decode cX11_choice 21 = .ok (.getfield 46, 3) := by decide +kernel
theorem dX11_choice_24 : decode cX11_choice 24 = .ok (.iload_n 1, 1) := by decide +kernel
theorem dX11_choice_25 : decode cX11_choice 25 = .ok (.iaload, 1) := by decide +kernel
theorem dX11_choice_26 : decode cX11_choice 26 = .ok (.ireturn, 1) := by decide +kernel
theorem dX11_at_0 : decode cX11_at 0 = .ok (.iconst 0, 1) := by decide +kernel
theorem dX11_at_1 : decode cX11_at 1 = .ok (.istore 4, 2) := by decide +kernel
theorem dX11_at_3 : decode cX11_at 3 = .ok (.iload 4, 2) := by decide +kernel
theorem dX11_at_5 : decode cX11_at 5 = .ok (.aload_n 0, 1) := by decide +kernel
theorem dX11_at_6 : decode cX11_at 6 = .ok (.getfield 93, 3) := by decide +kernel
theorem dX11_at_9 : decode cX11_at 9 = .ok (.if_icmp .ge 44, 3) := by decide +kernel
theorem dX11_at_12 : decode cX11_at 12 = .ok (.aload_n 0, 1) := by decide +kernel
theorem dX11_at_13 : decode cX11_at 13 = .ok (.getfield 19, 3) := by decide +kernel
theorem dX11_at_16 : decode cX11_at 16 = .ok (.iload 4, 2) := by decide +kernel
theorem dX11_at_18 : decode cX11_at 18 = .ok (.iaload, 1) := by decide +kernel
theorem dX11_at_19 : decode cX11_at 19 = .ok (.iload_n 1, 1) := by decide +kernel
theorem dX11_at_20 : decode cX11_at 20 = .ok (.if_icmp .ne 27, 3) := by decide +kernel
theorem dX11_at_23 : decode cX11_at 23 = .ok (.aload_n 0, 1) := by decide +kernel
theorem dX11_at_24 : decode cX11_at 24 = .ok (.getfield 22, 3) := by decide +kernel
theorem dX11_at_27 : decode cX11_at 27 = .ok (.iload 4, 2) := by decide +kernel
theorem dX11_at_29 : decode cX11_at 29 = .ok (.iaload, 1) := by decide +kernel
theorem dX11_at_30 : decode cX11_at 30 = .ok (.iload_n 2, 1) := by decide +kernel
theorem dX11_at_31 : decode cX11_at 31 = .ok (.if_icmp .ne 16, 3) := by decide +kernel
theorem dX11_at_34 : decode cX11_at 34 = .ok (.aload_n 0, 1) := by decide +kernel
theorem dX11_at_35 : decode cX11_at 35 = .ok (.iload 4, 2) := by decide +kernel
theorem dX11_at_37 : decode cX11_at 37 = .ok (.iload_n 3, 1) := by decide +kernel
theorem dX11_at_38 : decode cX11_at 38 = .ok (.invokevirtual 136, 3) := by decide +kernel
theorem dX11_at_41 : decode cX11_at 41 = .ok (.ifCond .eq 6, 3) := by decide +kernel
theorem dX11_at_44 : decode cX11_at 44 = .ok (.iload 4, 2) := by decide +kernel
theorem dX11_at_46 : decode cX11_at 46 = .ok (.ireturn, 1) := by decide +kernel
theorem dX11_at_47 : decode cX11_at 47 = .ok (.iinc 4 1, 3) := by decide +kernel
theorem dX11_at_50 : decode cX11_at 50 = .ok (.goto (-47), 3) := by decide +kernel
theorem dX11_at_53 : decode cX11_at 53 = .ok (.iconst (-1), 1) := by decide +kernel
theorem dX11_at_54 : decode cX11_at 54 = .ok (.ireturn, 1) := by decide +kernel
theorem dX11_lists_0 : decode cX11_lists 0 = .ok (.iconst 1, 1) := by decide +kernel
theorem dX11_lists_1 : decode cX11_lists 1 = .ok (.istore 5, 2) := by decide +kernel
theorem dX11_lists_3 : decode cX11_lists 3 = .ok (.iload 5, 2) := by decide +kernel
theorem dX11_lists_5 : decode cX11_lists 5 = .ok (.bipush 6, 2) := by decide +kernel
theorem dX11_lists_7 : decode cX11_lists 7 = .ok (.if_icmp .gt 115, 3) := by decide +kernel
theorem dX11_lists_10 : decode cX11_lists 10 = .ok (.aload_n 0, 1) := by decide +kernel
theorem dX11_lists_11 : decode cX11_lists 11 = .ok (.iload_n 1, 1) := by decide +kernel
theorem dX11_lists_12 : decode cX11_lists 12 = .ok (.iload 5, 2) := by decide +kernel
theorem dX11_lists_14 : decode cX11_lists 14 = .ok (.iload_n 2, 1) := by decide +kernel
theorem dX11_lists_15 : decode cX11_lists 15 = .ok (.invokevirtual 139, 3) := by decide +kernel
theorem dX11_lists_18 : decode cX11_lists 18 = .ok (.istore 6, 2) := by decide +kernel
theorem dX11_lists_20 : decode cX11_lists 20 = .ok (.iload 6, 2) := by decide +kernel
theorem dX11_lists_22 : decode cX11_lists 22 = .ok (.iconst (-1), 1) := by decide +kernel
theorem dX11_lists_23 : decode cX11_lists 23 = .ok (.if_icmp .ne 6, 3) := by decide +kernel
theorem dX11_lists_26 : decode cX11_lists 26 = .ok (.goto 90, 3) := by decide +kernel
theorem dX11_lists_29 : decode cX11_lists 29 = .ok (.aload_n 0, 1) := by decide +kernel
theorem dX11_lists_30 : decode cX11_lists 30 = .ok (.getfield 7, 3) := by decide +kernel
theorem dX11_lists_33 : decode cX11_lists 33 = .ok (.aload_n 0, 1) := by decide +kernel
theorem dX11_lists_34 : decode cX11_lists 34 = .ok (.getfield 25, 3) := by decide +kernel
theorem dX11_lists_37 : decode cX11_lists 37 = .ok (.iload 6, 2) := by decide +kernel
theorem dX11_lists_39 : decode cX11_lists 39 = .ok (.iaload, 1) := by decide +kernel
theorem dX11_lists_40 : decode cX11_lists 40 = .ok (.iaload, 1) := by decide +kernel
theorem dX11_lists_41 : decode cX11_lists 41 = .ok (.bipush 112, 2) := by decide +kernel
theorem dX11_lists_43 : decode cX11_lists 43 = .ok (.if_icmp .ne 28, 3) := by decide +kernel
theorem dX11_lists_46 : decode cX11_lists 46 = .ok (.aload_n 0, 1) := by decide +kernel
theorem dX11_lists_47 : decode cX11_lists 47 = .ok (.aload_n 0, 1) := by decide +kernel
theorem dX11_lists_48 : decode cX11_lists 48 = .ok (.getfield 25, 3) := by decide +kernel
theorem dX11_lists_51 : decode cX11_lists 51 = .ok (.iload 6, 2) := by decide +kernel
theorem dX11_lists_53 : decode cX11_lists 53 = .ok (.iaload, 1) := by decide +kernel
theorem dX11_lists_54 : decode cX11_lists 54 = .ok (.iload_n 2, 1) := by decide +kernel
theorem dX11_lists_55 : decode cX11_lists 55 = .ok (.lload_n 3, 1) := by decide +kernel
theorem dX11_lists_56 : decode cX11_lists 56 = .ok (.aload_n 0, 1) := by decide +kernel
theorem dX11_lists_57 : decode cX11_lists 57 = .ok (.getfield 28, 3) := by decide +kernel
theorem dX11_lists_60 : decode cX11_lists 60 = .ok (.iload 6, 2) := by decide +kernel
theorem dX11_lists_62 : decode cX11_lists 62 = .ok (.iaload, 1) := by decide +kernel
theorem dX11_lists_63 : decode cX11_lists 63 = .ok (.i2l, 1) := by decide +kernel
theorem dX11_lists_64 : decode cX11_lists 64 = .ok (.lmul, 1) := by decide +kernel
theorem dX11_lists_65 : decode cX11_lists 65 = .ok (.invokevirtual 143, 3) := by decide +kernel
theorem dX11_lists_68 : decode cX11_lists 68 = .ok (.goto 48, 3) := by decide +kernel
theorem dX11_lists_71 : decode cX11_lists 71 = .ok (.aload_n 0, 1) := by decide +kernel
theorem dX11_lists_72 : decode cX11_lists 72 = .ok (.getfield 75, 3) := by decide +kernel
theorem dX11_lists_75 : decode cX11_lists 75 = .ok (.aload_n 0, 1) := by decide +kernel
theorem dX11_lists_76 : decode cX11_lists 76 = .ok (.getfield 147, 3) := by decide +kernel
theorem dX11_lists_79 : decode cX11_lists 79 = .ok (.aload_n 0, 1) := by decide +kernel
theorem dX11_lists_80 : decode cX11_lists 80 = .ok (.getfield 25, 3) := by decide +kernel
theorem dX11_lists_83 : decode cX11_lists 83 = .ok (.iload 6, 2) := by decide +kernel
theorem dX11_lists_85 : decode cX11_lists 85 = .ok (.iaload, 1) := by decide +kernel
theorem dX11_lists_86 : decode cX11_lists 86 = .ok (.iastore, 1) := by decide +kernel
theorem dX11_lists_87 : decode cX11_lists 87 = .ok (.aload_n 0, 1) := by decide +kernel
theorem dX11_lists_88 : decode cX11_lists 88 = .ok (.getfield 78, 3) := by decide +kernel
theorem dX11_lists_91 : decode cX11_lists 91 = .ok (.aload_n 0, 1) := by decide +kernel
theorem dX11_lists_92 : decode cX11_lists 92 = .ok (.getfield 147, 3) := by decide +kernel
theorem dX11_lists_95 : decode cX11_lists 95 = .ok (.lload_n 3, 1) := by decide +kernel
theorem dX11_lists_96 : decode cX11_lists 96 = .ok (.aload_n 0, 1) := by decide +kernel
theorem dX11_lists_97 : decode cX11_lists 97 = .ok (.getfield 28, 3) := by decide +kernel
theorem dX11_lists_100 : decode cX11_lists 100 = .ok (.iload 6, 2) := by decide +kernel
theorem dX11_lists_102 : decode cX11_lists 102 = .ok (.iaload, 1) := by decide +kernel
theorem dX11_lists_103 : decode cX11_lists 103 = .ok (.i2l, 1) := by decide +kernel
theorem dX11_lists_104 : decode cX11_lists 104 = .ok (.lmul, 1) := by decide +kernel
theorem dX11_lists_105 : decode cX11_lists 105 = .ok (.lastore, 1) := by decide +kernel
theorem dX11_lists_106 : decode cX11_lists 106 = .ok (.aload_n 0, 1) := by decide +kernel
theorem dX11_lists_107 : decode cX11_lists 107 = .ok (.dup, 1) := by decide +kernel
theorem dX11_lists_108 : decode cX11_lists 108 = .ok (.getfield 147, 3) := by decide +kernel
theorem dX11_lists_111 : decode cX11_lists 111 = .ok (.iconst 1, 1) := by decide +kernel
theorem dX11_lists_112 : decode cX11_lists 112 = .ok (.iadd, 1) := by decide +kernel
theorem dX11_lists_113 : decode cX11_lists 113 = .ok (.putfield 147, 3) := by decide +kernel
theorem dX11_lists_116 : decode cX11_lists 116 = .ok (.iinc 5 1, 3) := by decide +kernel
theorem dX11_lists_119 : decode cX11_lists 119 = .ok (.goto (-116), 3) := by decide +kernel
theorem dX11_lists_122 : decode cX11_lists 122 = .ok (.return_, 1) := by decide +kernel
theorem dX11_isListed_0 : decode cX11_isListed 0 = .ok (.aload_n 0, 1) := by decide +kernel
theorem dX11_isListed_1 : decode cX11_isListed 1 = .ok (.iload_n 1, 1) := by decide +kernel
theorem dX11_isListed_2 : decode cX11_isListed 2 = .ok (.iload_n 2, 1) := by decide +kernel
theorem dX11_isListed_3 : decode cX11_isListed 3 = .ok (.invokevirtual 150, 3) := by decide +kernel
theorem dX11_isListed_6 : decode cX11_isListed 6 = .ok (.ifCond .ne 5, 3) := by decide +kernel
theorem dX11_isListed_9 : decode cX11_isListed 9 = .ok (.iconst 0, 1) := by decide +kernel
theorem dX11_isListed_10 : decode cX11_isListed 10 = .ok (.ireturn, 1) := by decide +kernel
theorem dX11_isListed_11 : decode cX11_isListed 11 = .ok (.aload_n 0, 1) := by decide +kernel
theorem dX11_isListed_12 : decode cX11_isListed 12 = .ok (.iconst 0, 1) := by decide +kernel
theorem dX11_isListed_13 : decode cX11_isListed 13 = .ok (.putfield 147, 3) := by decide +kernel
theorem dX11_isListed_16 : decode cX11_isListed 16 = .ok (.aload_n 0, 1) := by decide +kernel
theorem dX11_isListed_17 : decode cX11_isListed 17 = .ok (.iload_n 1, 1) := by decide +kernel
theorem dX11_isListed_18 : decode cX11_isListed 18 = .ok (.iload_n 2, 1) := by decide +kernel
theorem dX11_isListed_19 : decode cX11_isListed 19 = .ok (.lconst 1, 1) := by decide +kernel
theorem dX11_isListed_20 : decode cX11_isListed 20 = .ok (.invokevirtual 143, 3) := by decide +kernel
theorem dX11_isListed_23 : decode cX11_isListed 23 = .ok (.iconst 1, 1) := by decide +kernel
theorem dX11_isListed_24 : decode cX11_isListed 24 = .ok (.ireturn, 1) := by decide +kernel
theorem dX11_listSize_0 : decode cX11_listSize 0 = .ok (.aload_n 0, 1) := by decide +kernel
theorem dX11_listSize_1 : decode cX11_listSize 1 = .ok (.iload_n 1, 1) := by decide +kernel
theorem dX11_listSize_2 : decode cX11_listSize 2 = .ok (.iload_n 2, 1) := by decide +kernel
theorem dX11_listSize_3 : decode cX11_listSize 3 = .ok (.invokevirtual 153, 3) := by decide +kernel
theorem dX11_listSize_6 : decode cX11_listSize 6 = .ok (.ifCond .eq 10, 3) := by decide +kernel
theorem dX11_listSize_9 : decode cX11_listSize 9 = .ok (.aload_n 0, 1) := by decide +kernel
theorem dX11_listSize_10 : decode cX11_listSize 10 = .ok (.getfield 147, 3) := by decide +kernel
theorem dX11_listSize_13 : decode cX11_listSize 13 = .ok (.goto 4, 3) := by decide +kernel
theorem dX11_listSize_16 : decode cX11_listSize 16 = .ok (.iconst 0, 1) := by decide +kernel
theorem dX11_listSize_17 : decode cX11_listSize 17 = .ok (.ireturn, 1) := by decide +kernel
theorem dX11_listPart_0 : decode cX11_listPart 0 = .ok (.aload_n 0, 1) := by decide +kernel
theorem dX11_listPart_1 : decode cX11_listPart 1 = .ok (.iload_n 1, 1) := by decide +kernel
theorem dX11_listPart_2 : decode cX11_listPart 2 = .ok (.iload_n 2, 1) := by decide +kernel
theorem dX11_listPart_3 : decode cX11_listPart 3 = .ok (.invokevirtual 153, 3) := by decide +kernel
theorem dX11_listPart_6 : decode cX11_listPart 6 = .ok (.ifCond .ne 5, 3) := by decide +kernel
theorem dX11_listPart_9 : decode cX11_listPart 9 = .ok (.iconst 0, 1) := by decide +kernel
theorem dX11_listPart_10 : decode cX11_listPart 10 = .ok (.ireturn, 1) := by decide +kernel
theorem dX11_listPart_11 : decode cX11_listPart 11 = .ok (.iload_n 3, 1) := by decide +kernel
theorem dX11_listPart_12 : decode cX11_listPart 12 = .ok (.iconst 0, 1) := by decide +kernel
theorem dX11_listPart_13 : decode cX11_listPart 13 = .ok (.aload_n 0, 1) := by decide +kernel
theorem dX11_listPart_14 : decode cX11_listPart 14 = .ok (.getfield 147, 3) := by decide +kernel
theorem dX11_listPart_17 : decode cX11_listPart 17 = .ok (.iconst 1, 1) := by decide +kernel
theorem dX11_listPart_18 : decode cX11_listPart 18 = .ok (.isub, 1) := by decide +kernel
theorem dX11_listPart_19 : decode cX11_listPart 19 = .ok (.invokestatic 89, 3) := by decide +kernel
theorem dX11_listPart_22 : decode cX11_listPart 22 = .ok (.ifCond .eq 12, 3) := by decide +kernel
theorem dX11_listPart_25 : decode cX11_listPart 25 = .ok (.aload_n 0, 1) := by decide +kernel
theorem dX11_listPart_26 : decode cX11_listPart 26 = .ok (.getfield 75, 3) := by decide +kernel
theorem dX11_listPart_29 : decode cX11_listPart 29 = .ok (.iload_n 3, 1) := by decide +kernel
theorem dX11_listPart_30 : decode cX11_listPart 30 = .ok (.iaload, 1) := by decide +kernel
theorem dX11_listPart_31 : decode cX11_listPart 31 = .ok (.goto 8, 3) := by decide +kernel
theorem dX11_listPart_34 : decode cX11_listPart 34 = .ok (.aload_n 0, 1) := by decide +kernel
theorem dX11_listPart_35 : decode cX11_listPart 35 = .ok (.iconst 3, 1) := by decide +kernel
theorem dX11_listPart_36 : decode cX11_listPart 36 = .ok (.invokevirtual 105, 3) := by decide +kernel
theorem dX11_listPart_39 : decode cX11_listPart 39 = .ok (.ireturn, 1) := by decide +kernel
theorem dX11_listQuantity_0 : decode cX11_listQuantity 0 = .ok (.aload_n 0, 1) := by decide +kernel
theorem dX11_listQuantity_1 : decode cX11_listQuantity 1 = .ok (.iload_n 1, 1) := by decide +kernel
theorem dX11_listQuantity_2 : decode cX11_listQuantity 2 = .ok (.iload_n 2, 1) := by decide +kernel
theorem dX11_listQuantity_3 : decode cX11_listQuantity 3 = .ok (.invokevirtual 153, 3) := by decide +kernel
theorem dX11_listQuantity_6 : decode cX11_listQuantity 6 = .ok (.ifCond .ne 5, 3) := by decide +kernel
theorem dX11_listQuantity_9 : decode cX11_listQuantity 9 = .ok (.lconst 0, 1) := by decide +kernel
theorem dX11_listQuantity_10 : decode cX11_listQuantity 10 = .ok (.lreturn, 1) := by decide +kernel
theorem dX11_listQuantity_11 : decode cX11_listQuantity 11 = .ok (.iload_n 3, 1) := by decide +kernel
theorem dX11_listQuantity_12 : decode cX11_listQuantity 12 = .ok (.iconst 0, 1) := by decide +kernel
theorem dX11_listQuantity_13 : decode cX11_listQuantity 13 = .ok (.aload_n 0, 1) := by decide +kernel
theorem dX11_listQuantity_14 : decode cX11_listQuantity 14 = .ok (.getfield 147, 3) := by decide +kernel
theorem dX11_listQuantity_17 : decode cX11_listQuantity 17 = .ok (.iconst 1, 1) := by decide +kernel
theorem dX11_listQuantity_18 : decode cX11_listQuantity 18 = .ok (.isub, 1) := by decide +kernel
theorem dX11_listQuantity_19 : decode cX11_listQuantity 19 = .ok (.invokestatic 89, 3) := by decide +kernel
theorem dX11_listQuantity_22 : decode cX11_listQuantity 22 = .ok (.ifCond .eq 12, 3) := by decide +kernel
theorem dX11_listQuantity_25 : decode cX11_listQuantity 25 = .ok (.aload_n 0, 1) := by decide +kernel
theorem dX11_listQuantity_26 : decode cX11_listQuantity 26 = .ok (.getfield 78, 3) := by decide +kernel
theorem dX11_listQuantity_29 : decode cX11_listQuantity 29 = .ok (.iload_n 3, 1) := by decide +kernel
theorem dX11_listQuantity_30 : decode cX11_listQuantity 30 = .ok (.laload, 1) := by decide +kernel
theorem dX11_listQuantity_31 : decode cX11_listQuantity 31 = .ok (.goto 9, 3) := by decide +kernel
theorem dX11_listQuantity_34 : decode cX11_listQuantity 34 = .ok (.aload_n 0, 1) := by decide +kernel
theorem dX11_listQuantity_35 : decode cX11_listQuantity 35 = .ok (.iconst 3, 1) := by decide +kernel
theorem dX11_listQuantity_36 : decode cX11_listQuantity 36 = .ok (.invokevirtual 105, 3) := by decide +kernel
theorem dX11_listQuantity_39 : decode cX11_listQuantity 39 = .ok (.i2l, 1) := by decide +kernel
theorem dX11_listQuantity_40 : decode cX11_listQuantity 40 = .ok (.lreturn, 1) := by decide +kernel
theorem dX11_writes_0 : decode cX11_writes 0 = .ok (.lload_n 1, 1) := by decide +kernel
theorem dX11_writes_1 : decode cX11_writes 1 = .ok (.ldc2_w 156, 3) := by decide +kernel
theorem dX11_writes_4 : decode cX11_writes 4 = .ok (.lcmp, 1) := by decide +kernel
theorem dX11_writes_5 : decode cX11_writes 5 = .ok (.ifCond .lt 12, 3) := by decide +kernel
theorem dX11_writes_8 : decode cX11_writes 8 = .ok (.aload_n 0, 1) := by decide +kernel
theorem dX11_writes_9 : decode cX11_writes 9 = .ok (.lload_n 1, 1) := by decide +kernel
theorem dX11_writes_10 : decode cX11_writes 10 = .ok (.ldc2_w 156, 3) := by decide +kernel
theorem dX11_writes_13 : decode cX11_writes 13 = .ok (.ldiv, 1) := by decide +kernel
theorem dX11_writes_14 : decode cX11_writes 14 = .ok (.invokevirtual 158, 3) := by decide +kernel
theorem dX11_writes_17 : decode cX11_writes 17 = .ok (.aload_n 0, 1) := by decide +kernel
theorem dX11_writes_18 : decode cX11_writes 18 = .ok (.getfield 72, 3) := by decide +kernel
theorem dX11_writes_21 : decode cX11_writes 21 = .ok (.aload_n 0, 1) := by decide +kernel
theorem dX11_writes_22 : decode cX11_writes 22 = .ok (.getfield 162, 3) := by decide +kernel
theorem dX11_writes_25 : decode cX11_writes 25 = .ok (.ldc2_w 165, 3) := by decide +kernel
theorem dX11_writes_28 : decode cX11_writes 28 = .ok (.lload_n 1, 1) := by decide +kernel
theorem dX11_writes_29 : decode cX11_writes 29 = .ok (.ldc2_w 156, 3) := by decide +kernel
theorem dX11_writes_32 : decode cX11_writes 32 = .ok (.lrem, 1) := by decide +kernel
theorem dX11_writes_33 : decode cX11_writes 33 = .ok (.ladd, 1) := by decide +kernel
theorem dX11_writes_34 : decode cX11_writes 34 = .ok (.l2i, 1) := by decide +kernel
theorem dX11_writes_35 : decode cX11_writes 35 = .ok (.iastore, 1) := by decide +kernel
theorem dX11_writes_36 : decode cX11_writes 36 = .ok (.aload_n 0, 1) := by decide +kernel
theorem dX11_writes_37 : decode cX11_writes 37 = .ok (.dup, 1) := by decide +kernel
theorem dX11_writes_38 : decode cX11_writes 38 = .ok (.getfield 162, 3) := by decide +kernel
theorem dX11_writes_41 : decode cX11_writes 41 = .ok (.iconst 1, 1) := by decide +kernel
theorem dX11_writes_42 : decode cX11_writes 42 = .ok (.iadd, 1) := by decide +kernel
theorem dX11_writes_43 : decode cX11_writes 43 = .ok (.putfield 162, 3) := by decide +kernel
theorem dX11_writes_46 : decode cX11_writes 46 = .ok (.return_, 1) := by decide +kernel
theorem dX11_sets_0 : decode cX11_sets 0 = .ok (.aload_n 0, 1) := by decide +kernel
theorem dX11_sets_1 : decode cX11_sets 1 = .ok (.getfield 72, 3) := by decide +kernel
theorem dX11_sets_4 : decode cX11_sets 4 = .ok (.aload_n 0, 1) := by decide +kernel
theorem dX11_sets_5 : decode cX11_sets 5 = .ok (.getfield 162, 3) := by decide +kernel
theorem dX11_sets_8 : decode cX11_sets 8 = .ok (.iload_n 1, 1) := by decide +kernel
theorem dX11_sets_9 : decode cX11_sets 9 = .ok (.iastore, 1) := by decide +kernel
theorem dX11_sets_10 : decode cX11_sets 10 = .ok (.aload_n 0, 1) := by decide +kernel
theorem dX11_sets_11 : decode cX11_sets 11 = .ok (.dup, 1) := by decide +kernel
theorem dX11_sets_12 : decode cX11_sets 12 = .ok (.getfield 162, 3) := by decide +kernel
theorem dX11_sets_15 : decode cX11_sets 15 = .ok (.iconst 1, 1) := by decide +kernel
theorem dX11_sets_16 : decode cX11_sets 16 = .ok (.iadd, 1) := by decide +kernel
theorem dX11_sets_17 : decode cX11_sets 17 = .ok (.putfield 162, 3) := by decide +kernel
theorem dX11_sets_20 : decode cX11_sets 20 = .ok (.return_, 1) := by decide +kernel
theorem dX11_writeList_0 : decode cX11_writeList 0 = .ok (.aload_n 0, 1) := by decide +kernel
theorem dX11_writeList_1 : decode cX11_writeList 1 = .ok (.iload_n 1, 1) := by decide +kernel
theorem dX11_writeList_2 : decode cX11_writeList 2 = .ok (.iload_n 2, 1) := by decide +kernel
theorem dX11_writeList_3 : decode cX11_writeList 3 = .ok (.invokevirtual 153, 3) := by decide +kernel
theorem dX11_writeList_6 : decode cX11_writeList 6 = .ok (.ifCond .ne 5, 3) := by decide +kernel
theorem dX11_writeList_9 : decode cX11_writeList 9 = .ok (.iconst 0, 1) := by decide +kernel
theorem dX11_writeList_10 : decode cX11_writeList 10 = .ok (.ireturn, 1) := by decide +kernel
theorem dX11_writeList_11 : decode cX11_writeList 11 = .ok (.aload_n 0, 1) := by decide +kernel
theorem dX11_writeList_12 : decode cX11_writeList 12 = .ok (.iconst 0, 1) := by decide +kernel
theorem dX11_writeList_13 : decode cX11_writeList 13 = .ok (.putfield 162, 3) := by decide +kernel
theorem dX11_writeList_16 : decode cX11_writeList 16 = .ok (.iconst 0, 1) := by decide +kernel
theorem dX11_writeList_17 : decode cX11_writeList 17 = .ok (.istore_n 3, 1) := by decide +kernel
theorem dX11_writeList_18 : decode cX11_writeList 18 = .ok (.iload_n 3, 1) := by decide +kernel
theorem dX11_writeList_19 : decode cX11_writeList 19 = .ok (.aload_n 0, 1) := by decide +kernel
theorem dX11_writeList_20 : decode cX11_writeList 20 = .ok (.getfield 147, 3) := by decide +kernel
theorem dX11_writeList_23 : decode cX11_writeList 23 = .ok (.if_icmp .ge 46, 3) := by decide +kernel
theorem dX11_writeList_26 : decode cX11_writeList 26 = .ok (.iload_n 3, 1) := by decide +kernel
theorem dX11_writeList_27 : decode cX11_writeList 27 = .ok (.ifCond .le 9, 3) := by decide +kernel
theorem dX11_writeList_30 : decode cX11_writeList 30 = .ok (.aload_n 0, 1) := by decide +kernel
theorem dX11_writeList_31 : decode cX11_writeList 31 = .ok (.bipush 44, 2) := by decide +kernel
theorem dX11_writeList_33 : decode cX11_writeList 33 = .ok (.invokevirtual 167, 3) := by decide +kernel
theorem dX11_writeList_36 : decode cX11_writeList 36 = .ok (.aload_n 0, 1) := by decide +kernel
theorem dX11_writeList_37 : decode cX11_writeList 37 = .ok (.aload_n 0, 1) := by decide +kernel
theorem dX11_writeList_38 : decode cX11_writeList 38 = .ok (.getfield 78, 3) := by decide +kernel
theorem dX11_writeList_41 : decode cX11_writeList 41 = .ok (.iload_n 3, 1) := by decide +kernel
theorem dX11_writeList_42 : decode cX11_writeList 42 = .ok (.laload, 1) := by decide +kernel
theorem dX11_writeList_43 : decode cX11_writeList 43 = .ok (.invokevirtual 158, 3) := by decide +kernel
theorem dX11_writeList_46 : decode cX11_writeList 46 = .ok (.aload_n 0, 1) := by decide +kernel
theorem dX11_writeList_47 : decode cX11_writeList 47 = .ok (.bipush 120, 2) := by decide +kernel
theorem dX11_writeList_49 : decode cX11_writeList 49 = .ok (.invokevirtual 167, 3) := by decide +kernel
theorem dX11_writeList_52 : decode cX11_writeList 52 = .ok (.aload_n 0, 1) := by decide +kernel
theorem dX11_writeList_53 : decode cX11_writeList 53 = .ok (.aload_n 0, 1) := by decide +kernel
theorem dX11_writeList_54 : decode cX11_writeList 54 = .ok (.getfield 75, 3) := by decide +kernel
theorem dX11_writeList_57 : decode cX11_writeList 57 = .ok (.iload_n 3, 1) := by decide +kernel
theorem dX11_writeList_58 : decode cX11_writeList 58 = .ok (.iaload, 1) := by decide +kernel
theorem dX11_writeList_59 : decode cX11_writeList 59 = .ok (.i2l, 1) := by decide +kernel
theorem dX11_writeList_60 : decode cX11_writeList 60 = .ok (.invokevirtual 158, 3) := by decide +kernel
theorem dX11_writeList_63 : decode cX11_writeList 63 = .ok (.iinc 3 1, 3) := by decide +kernel
theorem dX11_writeList_66 : decode cX11_writeList 66 = .ok (.goto (-48), 3) := by decide +kernel
theorem dX11_writeList_69 : decode cX11_writeList 69 = .ok (.aload_n 0, 1) := by decide +kernel
theorem dX11_writeList_70 : decode cX11_writeList 70 = .ok (.getfield 162, 3) := by decide +kernel
theorem dX11_writeList_73 : decode cX11_writeList 73 = .ok (.ireturn, 1) := by decide +kernel
theorem dX11_charAt_0 : decode cX11_charAt 0 = .ok (.aload_n 0, 1) := by decide +kernel
theorem dX11_charAt_1 : decode cX11_charAt 1 = .ok (.iload_n 1, 1) := by decide +kernel
theorem dX11_charAt_2 : decode cX11_charAt 2 = .ok (.iconst 0, 1) := by decide +kernel
theorem dX11_charAt_3 : decode cX11_charAt 3 = .ok (.aload_n 0, 1) := by decide +kernel
theorem dX11_charAt_4 : decode cX11_charAt 4 = .ok (.getfield 162, 3) := by decide +kernel
theorem dX11_charAt_7 : decode cX11_charAt 7 = .ok (.iconst 1, 1) := by decide +kernel
theorem dX11_charAt_8 : decode cX11_charAt 8 = .ok (.isub, 1) := by decide +kernel
theorem dX11_charAt_9 : decode cX11_charAt 9 = .ok (.invokestatic 89, 3) := by decide +kernel
theorem dX11_charAt_12 : decode cX11_charAt 12 = .ok (.ifCond .eq 7, 3) := by decide +kernel
theorem dX11_charAt_15 : decode cX11_charAt 15 = .ok (.iconst 0, 1) := by decide +kernel
theorem dX11_charAt_16 : decode cX11_charAt 16 = .ok (.goto 4, 3) := by decide +kernel
theorem dX11_charAt_19 : decode cX11_charAt 19 = .ok (.iconst 1, 1) := by decide +kernel
theorem dX11_charAt_20 : decode cX11_charAt 20 = .ok (.putfield 82, 3) := by decide +kernel
theorem dX11_charAt_23 : decode cX11_charAt 23 = .ok (.aload_n 0, 1) := by decide +kernel
theorem dX11_charAt_24 : decode cX11_charAt 24 = .ok (.getfield 82, 3) := by decide +kernel
theorem dX11_charAt_27 : decode cX11_charAt 27 = .ok (.ifCond .le 7, 3) := by decide +kernel
theorem dX11_charAt_30 : decode cX11_charAt 30 = .ok (.iconst 0, 1) := by decide +kernel
theorem dX11_charAt_31 : decode cX11_charAt 31 = .ok (.goto 9, 3) := by decide +kernel
theorem dX11_charAt_34 : decode cX11_charAt 34 = .ok (.aload_n 0, 1) := by decide +kernel
theorem dX11_charAt_35 : decode cX11_charAt 35 = .ok (.getfield 72, 3) := by decide +kernel
theorem dX11_charAt_38 : decode cX11_charAt 38 = .ok (.iload_n 1, 1) := by decide +kernel
theorem dX11_charAt_39 : decode cX11_charAt 39 = .ok (.iaload, 1) := by decide +kernel
theorem dX11_charAt_40 : decode cX11_charAt 40 = .ok (.i2c, 1) := by decide +kernel
theorem dX11_charAt_41 : decode cX11_charAt 41 = .ok (.ireturn, 1) := by decide +kernel
theorem dX11_has_0 : decode cX11_has 0 = .ok (.iload_n 1, 1) := by decide +kernel
theorem dX11_has_1 : decode cX11_has 1 = .ok (.iload_n 2, 1) := by decide +kernel
theorem dX11_has_2 : decode cX11_has 2 = .ok (.if_icmp .ne 5, 3) := by decide +kernel
theorem dX11_has_5 : decode cX11_has 5 = .ok (.lconst 1, 1) := by decide +kernel
theorem dX11_has_6 : decode cX11_has 6 = .ok (.lreturn, 1) := by decide +kernel
theorem dX11_has_7 : decode cX11_has 7 = .ok (.lconst 0, 1) := by decide +kernel
theorem dX11_has_8 : decode cX11_has 8 = .ok (.lstore 4, 2) := by decide +kernel
theorem dX11_has_10 : decode cX11_has 10 = .ok (.iconst 1, 1) := by decide +kernel
theorem dX11_has_11 : decode cX11_has 11 = .ok (.istore 6, 2) := by decide +kernel
theorem dX11_has_13 : decode cX11_has 13 = .ok (.iload 6, 2) := by decide +kernel
theorem dX11_has_15 : decode cX11_has 15 = .ok (.bipush 6, 2) := by decide +kernel
theorem dX11_has_17 : decode cX11_has 17 = .ok (.if_icmp .gt 52, 3) := by decide +kernel
theorem dX11_has_20 : decode cX11_has 20 = .ok (.aload_n 0, 1) := by decide +kernel
theorem dX11_has_21 : decode cX11_has 21 = .ok (.iload_n 1, 1) := by decide +kernel
theorem dX11_has_22 : decode cX11_has 22 = .ok (.iload 6, 2) := by decide +kernel
theorem dX11_has_24 : decode cX11_has 24 = .ok (.iload_n 3, 1) := by decide +kernel
theorem dX11_has_25 : decode cX11_has 25 = .ok (.invokevirtual 139, 3) := by decide +kernel
theorem dX11_has_28 : decode cX11_has 28 = .ok (.istore 7, 2) := by decide +kernel
theorem dX11_has_30 : decode cX11_has 30 = .ok (.iload 7, 2) := by decide +kernel
theorem dX11_has_32 : decode cX11_has 32 = .ok (.iconst (-1), 1) := by decide +kernel
theorem dX11_has_33 : decode cX11_has 33 = .ok (.if_icmp .eq 30, 3) := by decide +kernel
theorem dX11_has_36 : decode cX11_has 36 = .ok (.lload 4, 2) := by decide +kernel
theorem dX11_has_38 : decode cX11_has 38 = .ok (.aload_n 0, 1) := by decide +kernel
theorem dX11_has_39 : decode cX11_has 39 = .ok (.getfield 28, 3) := by decide +kernel
theorem dX11_has_42 : decode cX11_has 42 = .ok (.iload 7, 2) := by decide +kernel
theorem dX11_has_44 : decode cX11_has 44 = .ok (.iaload, 1) := by decide +kernel
theorem dX11_has_45 : decode cX11_has 45 = .ok (.i2l, 1) := by decide +kernel
theorem dX11_has_46 : decode cX11_has 46 = .ok (.aload_n 0, 1) := by decide +kernel
theorem dX11_has_47 : decode cX11_has 47 = .ok (.aload_n 0, 1) := by decide +kernel
theorem dX11_has_48 : decode cX11_has 48 = .ok (.getfield 25, 3) := by decide +kernel
theorem dX11_has_51 : decode cX11_has 51 = .ok (.iload 7, 2) := by decide +kernel
theorem dX11_has_53 : decode cX11_has 53 = .ok (.iaload, 1) := by decide +kernel
theorem dX11_has_54 : decode cX11_has 54 = .ok (.iload_n 2, 1) := by decide +kernel
theorem dX11_has_55 : decode cX11_has 55 = .ok (.iload_n 3, 1) := by decide +kernel
theorem dX11_has_56 : decode cX11_has 56 = .ok (.invokevirtual 171, 3) := by decide +kernel
theorem dX11_has_59 : decode cX11_has 59 = .ok (.lmul, 1) := by decide +kernel
theorem dX11_has_60 : decode cX11_has 60 = .ok (.ladd, 1) := by decide +kernel
theorem dX11_has_61 : decode cX11_has 61 = .ok (.lstore 4, 2) := by decide +kernel
theorem dX11_has_63 : decode cX11_has 63 = .ok (.iinc 6 1, 3) := by decide +kernel
theorem dX11_has_66 : decode cX11_has 66 = .ok (.goto (-53), 3) := by decide +kernel
theorem dX11_has_69 : decode cX11_has 69 = .ok (.lload 4, 2) := by decide +kernel
theorem dX11_has_71 : decode cX11_has 71 = .ok (.lreturn, 1) := by decide +kernel
theorem dX11_quantity_0 : decode cX11_quantity 0 = .ok (.aload_n 0, 1) := by decide +kernel
theorem dX11_quantity_1 : decode cX11_quantity 1 = .ok (.iload_n 1, 1) := by decide +kernel
theorem dX11_quantity_2 : decode cX11_quantity 2 = .ok (.invokevirtual 96, 3) := by decide +kernel
theorem dX11_quantity_5 : decode cX11_quantity 5 = .ok (.ifCond .eq 11, 3) := by decide +kernel
theorem dX11_quantity_8 : decode cX11_quantity 8 = .ok (.aload_n 0, 1) := by decide +kernel
theorem dX11_quantity_9 : decode cX11_quantity 9 = .ok (.iload_n 2, 1) := by decide +kernel
theorem dX11_quantity_10 : decode cX11_quantity 10 = .ok (.invokevirtual 96, 3) := by decide +kernel
theorem dX11_quantity_13 : decode cX11_quantity 13 = .ok (.ifCond .ne 10, 3) := by decide +kernel
theorem dX11_quantity_16 : decode cX11_quantity 16 = .ok (.aload_n 0, 1) := by decide +kernel
theorem dX11_quantity_17 : decode cX11_quantity 17 = .ok (.iconst 1, 1) := by decide +kernel
theorem dX11_quantity_18 : decode cX11_quantity 18 = .ok (.invokevirtual 105, 3) := by decide +kernel
theorem dX11_quantity_21 : decode cX11_quantity 21 = .ok (.i2l, 1) := by decide +kernel
theorem dX11_quantity_22 : decode cX11_quantity 22 = .ok (.lreturn, 1) := by decide +kernel
theorem dX11_quantity_23 : decode cX11_quantity 23 = .ok (.iload_n 3, 1) := by decide +kernel
theorem dX11_quantity_24 : decode cX11_quantity 24 = .ok (.iconst 1, 1) := by decide +kernel
theorem dX11_quantity_25 : decode cX11_quantity 25 = .ok (.sipush 999, 3) := by decide +kernel
theorem dX11_quantity_28 : decode cX11_quantity 28 = .ok (.invokestatic 89, 3) := by decide +kernel
theorem dX11_quantity_31 : decode cX11_quantity 31 = .ok (.ifCond .ne 10, 3) := by decide +kernel
theorem dX11_quantity_34 : decode cX11_quantity 34 = .ok (.aload_n 0, 1) := by decide +kernel
theorem dX11_quantity_35 : decode cX11_quantity 35 = .ok (.iconst 2, 1) := by decide +kernel
theorem dX11_quantity_36 : decode cX11_quantity 36 = .ok (.invokevirtual 105, 3) := by decide +kernel
theorem dX11_quantity_39 : decode cX11_quantity 39 = .ok (.i2l, 1) := by decide +kernel
theorem dX11_quantity_40 : decode cX11_quantity 40 = .ok (.lreturn, 1) := by decide +kernel
theorem dX11_quantity_41 : decode cX11_quantity 41 = .ok (.aload_n 0, 1) := by decide +kernel
theorem dX11_quantity_42 : decode cX11_quantity 42 = .ok (.iconst 0, 1) := by decide +kernel
theorem dX11_quantity_43 : decode cX11_quantity 43 = .ok (.putfield 82, 3) := by decide +kernel
theorem dX11_quantity_46 : decode cX11_quantity 46 = .ok (.aload_n 0, 1) := by decide +kernel
theorem dX11_quantity_47 : decode cX11_quantity 47 = .ok (.iload_n 1, 1) := by decide +kernel
theorem dX11_quantity_48 : decode cX11_quantity 48 = .ok (.iload_n 2, 1) := by decide +kernel
theorem dX11_quantity_49 : decode cX11_quantity 49 = .ok (.iload_n 3, 1) := by decide +kernel
theorem dX11_quantity_50 : decode cX11_quantity 50 = .ok (.invokevirtual 171, 3) := by decide +kernel
theorem dX11_quantity_53 : decode cX11_quantity 53 = .ok (.lreturn, 1) := by decide +kernel
theorem dX11_quantityByWalking_0 : decode cX11_quantityByWalking 0 = .ok (.aload_n 0, 1) := by decide +kernel
theorem dX11_quantityByWalking_1 : decode cX11_quantityByWalking 1 = .ok (.iload_n 1, 1) := by decide +kernel
theorem dX11_quantityByWalking_2 : decode cX11_quantityByWalking 2 = .ok (.iload_n 2, 1) := by decide +kernel
theorem dX11_quantityByWalking_3 : decode cX11_quantityByWalking 3 = .ok (.iload_n 3, 1) := by decide +kernel
theorem dX11_quantityByWalking_4 : decode cX11_quantityByWalking 4 = .ok (.invokevirtual 175, 3) := by decide +kernel
theorem dX11_quantityByWalking_7 : decode cX11_quantityByWalking 7 = .ok (.lreturn, 1) := by decide +kernel
theorem dX11_whereUsed_0 : decode cX11_whereUsed 0 = .ok (.aload_n 0, 1) := by decide +kernel
theorem dX11_whereUsed_1 : decode cX11_whereUsed 1 = .ok (.iload_n 1, 1) := by decide +kernel
theorem dX11_whereUsed_2 : decode cX11_whereUsed 2 = .ok (.iload_n 2, 1) := by decide +kernel
theorem dX11_whereUsed_3 : decode cX11_whereUsed 3 = .ok (.invokevirtual 150, 3) := by decide +kernel
theorem dX11_whereUsed_6 : decode cX11_whereUsed 6 = .ok (.ifCond .ne 5, 3) := by decide +kernel
theorem dX11_whereUsed_9 : decode cX11_whereUsed 9 = .ok (.iconst 0, 1) := by decide +kernel
theorem dX11_whereUsed_10 : decode cX11_whereUsed 10 = .ok (.ireturn, 1) := by decide +kernel
theorem dX11_whereUsed_11 : decode cX11_whereUsed 11 = .ok (.iconst 0, 1) := by decide +kernel
theorem dX11_whereUsed_12 : decode cX11_whereUsed 12 = .ok (.istore_n 3, 1) := by decide +kernel
theorem dX11_whereUsed_13 : decode cX11_whereUsed 13 = .ok (.iconst 0, 1) := by decide +kernel
theorem dX11_whereUsed_14 : decode cX11_whereUsed 14 = .ok (.istore 4, 2) := by decide +kernel
theorem dX11_whereUsed_16 : decode cX11_whereUsed 16 = .ok (.iload 4, 2) := by decide +kernel
theorem dX11_whereUsed_18 : decode cX11_whereUsed 18 = .ok (.aload_n 0, 1) := by decide +kernel
theorem dX11_whereUsed_19 : decode cX11_whereUsed 19 = .ok (.getfield 86, 3) := by decide +kernel
theorem dX11_whereUsed_22 : decode cX11_whereUsed 22 = .ok (.if_icmp .ge 36, 3) := by decide +kernel
theorem dX11_whereUsed_25 : decode cX11_whereUsed 25 = .ok (.iload_n 3, 1) := by decide +kernel
theorem dX11_whereUsed_26 : decode cX11_whereUsed 26 = .ok (.iload 4, 2) := by decide +kernel
theorem dX11_whereUsed_28 : decode cX11_whereUsed 28 = .ok (.iload_n 1, 1) := by decide +kernel
theorem dX11_whereUsed_29 : decode cX11_whereUsed 29 = .ok (.if_icmp .eq 20, 3) := by decide +kernel
theorem dX11_whereUsed_32 : decode cX11_whereUsed 32 = .ok (.aload_n 0, 1) := by decide +kernel
theorem dX11_whereUsed_33 : decode cX11_whereUsed 33 = .ok (.iload 4, 2) := by decide +kernel
theorem dX11_whereUsed_35 : decode cX11_whereUsed 35 = .ok (.iload_n 1, 1) := by decide +kernel
theorem dX11_whereUsed_36 : decode cX11_whereUsed 36 = .ok (.iload_n 2, 1) := by decide +kernel
theorem dX11_whereUsed_37 : decode cX11_whereUsed 37 = .ok (.invokevirtual 171, 3) := by decide +kernel
theorem dX11_whereUsed_40 : decode cX11_whereUsed 40 = .ok (.lconst 0, 1) := by decide +kernel
theorem dX11_whereUsed_41 : decode cX11_whereUsed 41 = .ok (.lcmp, 1) := by decide +kernel
theorem dX11_whereUsed_42 : decode cX11_whereUsed 42 = .ok (.ifCond .le 7, 3) := by decide +kernel
theorem dX11_whereUsed_45 : decode cX11_whereUsed 45 = .ok (.iconst 1, 1) := by decide +kernel
theorem dX11_whereUsed_46 : decode cX11_whereUsed 46 = .ok (.goto 4, 3) := by decide +kernel
theorem dX11_whereUsed_49 : decode cX11_whereUsed 49 = .ok (.iconst 0, 1) := by decide +kernel
theorem dX11_whereUsed_50 : decode cX11_whereUsed 50 = .ok (.iadd, 1) := by decide +kernel
theorem dX11_whereUsed_51 : decode cX11_whereUsed 51 = .ok (.istore_n 3, 1) := by decide +kernel
theorem dX11_whereUsed_52 : decode cX11_whereUsed 52 = .ok (.iinc 4 1, 3) := by decide +kernel
theorem dX11_whereUsed_55 : decode cX11_whereUsed 55 = .ok (.goto (-39), 3) := by decide +kernel
theorem dX11_whereUsed_58 : decode cX11_whereUsed 58 = .ok (.iload_n 3, 1) := by decide +kernel
theorem dX11_whereUsed_59 : decode cX11_whereUsed 59 = .ok (.ireturn, 1) := by decide +kernel
theorem dX11_depth_0 : decode cX11_depth 0 = .ok (.iconst 0, 1) := by decide +kernel
theorem dX11_depth_1 : decode cX11_depth 1 = .ok (.istore_n 3, 1) := by decide +kernel
theorem dX11_depth_2 : decode cX11_depth 2 = .ok (.iconst 1, 1) := by decide +kernel
theorem dX11_depth_3 : decode cX11_depth 3 = .ok (.istore 4, 2) := by decide +kernel
theorem dX11_depth_5 : decode cX11_depth 5 = .ok (.iload 4, 2) := by decide +kernel
theorem dX11_depth_7 : decode cX11_depth 7 = .ok (.bipush 6, 2) := by decide +kernel
theorem dX11_depth_9 : decode cX11_depth 9 = .ok (.if_icmp .gt 58, 3) := by decide +kernel
theorem dX11_depth_12 : decode cX11_depth 12 = .ok (.aload_n 0, 1) := by decide +kernel
theorem dX11_depth_13 : decode cX11_depth 13 = .ok (.iload_n 1, 1) := by decide +kernel
theorem dX11_depth_14 : decode cX11_depth 14 = .ok (.iload 4, 2) := by decide +kernel
theorem dX11_depth_16 : decode cX11_depth 16 = .ok (.iload_n 2, 1) := by decide +kernel
theorem dX11_depth_17 : decode cX11_depth 17 = .ok (.invokevirtual 139, 3) := by decide +kernel
theorem dX11_depth_20 : decode cX11_depth 20 = .ok (.istore 5, 2) := by decide +kernel
theorem dX11_depth_22 : decode cX11_depth 22 = .ok (.iload 5, 2) := by decide +kernel
theorem dX11_depth_24 : decode cX11_depth 24 = .ok (.iconst (-1), 1) := by decide +kernel
theorem dX11_depth_25 : decode cX11_depth 25 = .ok (.if_icmp .ne 7, 3) := by decide +kernel
theorem dX11_depth_28 : decode cX11_depth 28 = .ok (.iconst 0, 1) := by decide +kernel
theorem dX11_depth_29 : decode cX11_depth 29 = .ok (.goto 17, 3) := by decide +kernel
theorem dX11_depth_32 : decode cX11_depth 32 = .ok (.iconst 1, 1) := by decide +kernel
theorem dX11_depth_33 : decode cX11_depth 33 = .ok (.aload_n 0, 1) := by decide +kernel
theorem dX11_depth_34 : decode cX11_depth 34 = .ok (.aload_n 0, 1) := by decide +kernel
theorem dX11_depth_35 : decode cX11_depth 35 = .ok (.getfield 25, 3) := by decide +kernel
theorem dX11_depth_38 : decode cX11_depth 38 = .ok (.iload 5, 2) := by decide +kernel
theorem dX11_depth_40 : decode cX11_depth 40 = .ok (.iaload, 1) := by decide +kernel
theorem dX11_depth_41 : decode cX11_depth 41 = .ok (.iload_n 2, 1) := by decide +kernel
theorem dX11_depth_42 : decode cX11_depth 42 = .ok (.invokevirtual 177, 3) := by decide +kernel
theorem dX11_depth_45 : decode cX11_depth 45 = .ok (.iadd, 1) := by decide +kernel
theorem dX11_depth_46 : decode cX11_depth 46 = .ok (.istore 6, 2) := by decide +kernel
theorem dX11_depth_48 : decode cX11_depth 48 = .ok (.iload 6, 2) := by decide +kernel
theorem dX11_depth_50 : decode cX11_depth 50 = .ok (.iload_n 3, 1) := by decide +kernel
theorem dX11_depth_51 : decode cX11_depth 51 = .ok (.if_icmp .le 8, 3) := by decide +kernel
theorem dX11_depth_54 : decode cX11_depth 54 = .ok (.iload 6, 2) := by decide +kernel
theorem dX11_depth_56 : decode cX11_depth 56 = .ok (.goto 4, 3) := by decide +kernel
theorem dX11_depth_59 : decode cX11_depth 59 = .ok (.iload_n 3, 1) := by decide +kernel
theorem dX11_depth_60 : decode cX11_depth 60 = .ok (.istore_n 3, 1) := by decide +kernel
theorem dX11_depth_61 : decode cX11_depth 61 = .ok (.iinc 4 1, 3) := by decide +kernel
theorem dX11_depth_64 : decode cX11_depth 64 = .ok (.goto (-59), 3) := by decide +kernel
theorem dX11_depth_67 : decode cX11_depth 67 = .ok (.iload_n 3, 1) := by decide +kernel
theorem dX11_depth_68 : decode cX11_depth 68 = .ok (.ireturn, 1) := by decide +kernel
theorem dX11_levels_0 : decode cX11_levels 0 = .ok (.aload_n 0, 1) := by decide +kernel
theorem dX11_levels_1 : decode cX11_levels 1 = .ok (.iload_n 1, 1) := by decide +kernel
theorem dX11_levels_2 : decode cX11_levels 2 = .ok (.iload_n 2, 1) := by decide +kernel
theorem dX11_levels_3 : decode cX11_levels 3 = .ok (.invokevirtual 150, 3) := by decide +kernel
theorem dX11_levels_6 : decode cX11_levels 6 = .ok (.ifCond .eq 12, 3) := by decide +kernel
theorem dX11_levels_9 : decode cX11_levels 9 = .ok (.aload_n 0, 1) := by decide +kernel
theorem dX11_levels_10 : decode cX11_levels 10 = .ok (.iload_n 1, 1) := by decide +kernel
theorem dX11_levels_11 : decode cX11_levels 11 = .ok (.iload_n 2, 1) := by decide +kernel
theorem dX11_levels_12 : decode cX11_levels 12 = .ok (.invokevirtual 177, 3) := by decide +kernel
theorem dX11_levels_15 : decode cX11_levels 15 = .ok (.goto 4, 3) := by decide +kernel
theorem dX11_levels_18 : decode cX11_levels 18 = .ok (.iconst 0, 1) := by decide +kernel
theorem dX11_levels_19 : decode cX11_levels 19 = .ok (.ireturn, 1) := by decide +kernel
theorem dX11_more_0 : decode cX11_more 0 = .ok (.aload_n 0, 1) := by decide +kernel
theorem dX11_more_1 : decode cX11_more 1 = .ok (.getfield 28, 3) := by decide +kernel
theorem dX11_more_4 : decode cX11_more 4 = .ok (.iload_n 1, 1) := by decide +kernel
theorem dX11_more_5 : decode cX11_more 5 = .ok (.iaload, 1) := by decide +kernel
theorem dX11_more_6 : decode cX11_more 6 = .ok (.i2f, 1) := by decide +kernel
theorem dX11_more_7 : decode cX11_more 7 = .ok (.bipush 100, 2) := by decide +kernel
theorem dX11_more_9 : decode cX11_more 9 = .ok (.aload_n 0, 1) := by decide +kernel
theorem dX11_more_10 : decode cX11_more 10 = .ok (.getfield 37, 3) := by decide +kernel
theorem dX11_more_13 : decode cX11_more 13 = .ok (.iload_n 1, 1) := by decide +kernel
theorem dX11_more_14 : decode cX11_more 14 = .ok (.iaload, 1) := by decide +kernel
theorem dX11_more_15 : decode cX11_more 15 = .ok (.iadd, 1) := by decide +kernel
theorem dX11_more_16 : decode cX11_more 16 = .ok (.i2f, 1) := by decide +kernel
theorem dX11_more_17 : decode cX11_more 17 = .ok (.fmul, 1) := by decide +kernel
theorem dX11_more_18 : decode cX11_more 18 = .ok (.ldc 181, 2) := by decide +kernel
theorem dX11_more_20 : decode cX11_more 20 = .ok (.fdiv, 1) := by decide +kernel
theorem dX11_more_21 : decode cX11_more 21 = .ok (.aload_n 0, 1) := by decide +kernel
theorem dX11_more_22 : decode cX11_more 22 = .ok (.aload_n 0, 1) := by decide +kernel
theorem dX11_more_23 : decode cX11_more 23 = .ok (.getfield 25, 3) := by decide +kernel
theorem dX11_more_26 : decode cX11_more 26 = .ok (.iload_n 1, 1) := by decide +kernel
theorem dX11_more_27 : decode cX11_more 27 = .ok (.iaload, 1) := by decide +kernel
theorem dX11_more_28 : decode cX11_more 28 = .ok (.iload_n 2, 1) := by decide +kernel
theorem dX11_more_29 : decode cX11_more 29 = .ok (.invokevirtual 182, 3) := by decide +kernel
theorem dX11_more_32 : decode cX11_more 32 = .ok (.fmul, 1) := by decide +kernel
theorem dX11_more_33 : decode cX11_more 33 = .ok (.freturn, 1) := by decide +kernel
theorem dX11_price_0 : decode cX11_price 0 = .ok (.aload_n 0, 1) := by decide +kernel
theorem dX11_price_1 : decode cX11_price 1 = .ok (.getfield 13, 3) := by decide +kernel
theorem dX11_price_4 : decode cX11_price 4 = .ok (.iload_n 1, 1) := by decide +kernel
theorem dX11_price_5 : decode cX11_price 5 = .ok (.iaload, 1) := by decide +kernel
theorem dX11_price_6 : decode cX11_price 6 = .ok (.i2f, 1) := by decide +kernel
theorem dX11_price_7 : decode cX11_price 7 = .ok (.ldc 181, 2) := by decide +kernel
theorem dX11_price_9 : decode cX11_price 9 = .ok (.fdiv, 1) := by decide +kernel
theorem dX11_price_10 : decode cX11_price 10 = .ok (.fstore_n 3, 1) := by decide +kernel
theorem dX11_price_11 : decode cX11_price 11 = .ok (.iconst 1, 1) := by decide +kernel
theorem dX11_price_12 : decode cX11_price 12 = .ok (.istore 4, 2) := by decide +kernel
theorem dX11_price_14 : decode cX11_price 14 = .ok (.iload 4, 2) := by decide +kernel
theorem dX11_price_16 : decode cX11_price 16 = .ok (.bipush 6, 2) := by decide +kernel
theorem dX11_price_18 : decode cX11_price 18 = .ok (.if_icmp .gt 35, 3) := by decide +kernel
theorem dX11_price_21 : decode cX11_price 21 = .ok (.aload_n 0, 1) := by decide +kernel
theorem dX11_price_22 : decode cX11_price 22 = .ok (.iload_n 1, 1) := by decide +kernel
theorem dX11_price_23 : decode cX11_price 23 = .ok (.iload 4, 2) := by decide +kernel
theorem dX11_price_25 : decode cX11_price 25 = .ok (.iload_n 2, 1) := by decide +kernel
theorem dX11_price_26 : decode cX11_price 26 = .ok (.invokevirtual 139, 3) := by decide +kernel
theorem dX11_price_29 : decode cX11_price 29 = .ok (.istore 5, 2) := by decide +kernel
theorem dX11_price_31 : decode cX11_price 31 = .ok (.iload 5, 2) := by decide +kernel
theorem dX11_price_33 : decode cX11_price 33 = .ok (.iconst (-1), 1) := by decide +kernel
theorem dX11_price_34 : decode cX11_price 34 = .ok (.if_icmp .eq 13, 3) := by decide +kernel
theorem dX11_price_37 : decode cX11_price 37 = .ok (.fload_n 3, 1) := by decide +kernel
theorem dX11_price_38 : decode cX11_price 38 = .ok (.aload_n 0, 1) := by decide +kernel
theorem dX11_price_39 : decode cX11_price 39 = .ok (.iload 5, 2) := by decide +kernel
theorem dX11_price_41 : decode cX11_price 41 = .ok (.iload_n 2, 1) := by decide +kernel
theorem dX11_price_42 : decode cX11_price 42 = .ok (.invokevirtual 186, 3) := by decide +kernel
theorem dX11_price_45 : decode cX11_price 45 = .ok (.fadd, 1) := by decide +kernel
theorem dX11_price_46 : decode cX11_price 46 = .ok (.fstore_n 3, 1) := by decide +kernel
theorem dX11_price_47 : decode cX11_price 47 = .ok (.iinc 4 1, 3) := by decide +kernel
theorem dX11_price_50 : decode cX11_price 50 = .ok (.goto (-36), 3) := by decide +kernel
theorem dX11_price_53 : decode cX11_price 53 = .ok (.fload_n 3, 1) := by decide +kernel
theorem dX11_price_54 : decode cX11_price 54 = .ok (.freturn, 1) := by decide +kernel
theorem dX11_cost_0 : decode cX11_cost 0 = .ok (.aload_n 0, 1) := by decide +kernel
theorem dX11_cost_1 : decode cX11_cost 1 = .ok (.iload_n 1, 1) := by decide +kernel
theorem dX11_cost_2 : decode cX11_cost 2 = .ok (.iload_n 2, 1) := by decide +kernel
theorem dX11_cost_3 : decode cX11_cost 3 = .ok (.invokevirtual 150, 3) := by decide +kernel
theorem dX11_cost_6 : decode cX11_cost 6 = .ok (.ifCond .eq 12, 3) := by decide +kernel
theorem dX11_cost_9 : decode cX11_cost 9 = .ok (.aload_n 0, 1) := by decide +kernel
theorem dX11_cost_10 : decode cX11_cost 10 = .ok (.iload_n 1, 1) := by decide +kernel
theorem dX11_cost_11 : decode cX11_cost 11 = .ok (.iload_n 2, 1) := by decide +kernel
theorem dX11_cost_12 : decode cX11_cost 12 = .ok (.invokevirtual 182, 3) := by decide +kernel
theorem dX11_cost_15 : decode cX11_cost 15 = .ok (.goto 4, 3) := by decide +kernel
theorem dX11_cost_18 : decode cX11_cost 18 = .ok (.fconst 0, 1) := by decide +kernel
theorem dX11_cost_19 : decode cX11_cost 19 = .ok (.freturn, 1) := by decide +kernel
theorem dX11_costByWalking_0 : decode cX11_costByWalking 0 = .ok (.aload_n 0, 1) := by decide +kernel
theorem dX11_costByWalking_1 : decode cX11_costByWalking 1 = .ok (.iload_n 1, 1) := by decide +kernel
theorem dX11_costByWalking_2 : decode cX11_costByWalking 2 = .ok (.iload_n 2, 1) := by decide +kernel
theorem dX11_costByWalking_3 : decode cX11_costByWalking 3 = .ok (.invokevirtual 189, 3) := by decide +kernel
theorem dX11_costByWalking_6 : decode cX11_costByWalking 6 = .ok (.freturn, 1) := by decide +kernel
theorem dX11_costBits_0 : decode cX11_costBits 0 = .ok (.aload_n 0, 1) := by decide +kernel
theorem dX11_costBits_1 : decode cX11_costBits 1 = .ok (.iload_n 1, 1) := by decide +kernel
theorem dX11_costBits_2 : decode cX11_costBits 2 = .ok (.iload_n 2, 1) := by decide +kernel
theorem dX11_costBits_3 : decode cX11_costBits 3 = .ok (.invokevirtual 150, 3) := by decide +kernel
theorem dX11_costBits_6 : decode cX11_costBits 6 = .ok (.ifCond .eq 15, 3) := by decide +kernel
theorem dX11_costBits_9 : decode cX11_costBits 9 = .ok (.aload_n 0, 1) := by decide +kernel
theorem dX11_costBits_10 : decode cX11_costBits 10 = .ok (.iload_n 1, 1) := by decide +kernel
theorem dX11_costBits_11 : decode cX11_costBits 11 = .ok (.iload_n 2, 1) := by decide +kernel
theorem dX11_costBits_12 : decode cX11_costBits 12 = .ok (.invokevirtual 182, 3) := by decide +kernel
theorem dX11_costBits_15 : decode cX11_costBits 15 = .ok (.invokestatic 192, 3) := by decide +kernel
theorem dX11_costBits_18 : decode cX11_costBits 18 = .ok (.goto 4, 3) := by decide +kernel
theorem dX11_costBits_21 : decode cX11_costBits 21 = .ok (.iconst 0, 1) := by decide +kernel
theorem dX11_costBits_22 : decode cX11_costBits 22 = .ok (.ireturn, 1) := by decide +kernel
theorem dX11_costCents_0 : decode cX11_costCents 0 = .ok (.aload_n 0, 1) := by decide +kernel
theorem dX11_costCents_1 : decode cX11_costCents 1 = .ok (.iload_n 1, 1) := by decide +kernel
theorem dX11_costCents_2 : decode cX11_costCents 2 = .ok (.iload_n 2, 1) := by decide +kernel
theorem dX11_costCents_3 : decode cX11_costCents 3 = .ok (.invokevirtual 150, 3) := by decide +kernel
theorem dX11_costCents_6 : decode cX11_costCents 6 = .ok (.ifCond .eq 16, 3) := by decide +kernel
theorem dX11_costCents_9 : decode cX11_costCents 9 = .ok (.aload_n 0, 1) := by decide +kernel
theorem dX11_costCents_10 : decode cX11_costCents 10 = .ok (.iload_n 1, 1) := by decide +kernel
theorem dX11_costCents_11 : decode cX11_costCents 11 = .ok (.iload_n 2, 1) := by decide +kernel
theorem dX11_costCents_12 : decode cX11_costCents 12 = .ok (.invokevirtual 182, 3) := by decide +kernel
theorem dX11_costCents_15 : decode cX11_costCents 15 = .ok (.ldc 181, 2) := by decide +kernel
theorem dX11_costCents_17 : decode cX11_costCents 17 = .ok (.fmul, 1) := by decide +kernel
theorem dX11_costCents_18 : decode cX11_costCents 18 = .ok (.f2i, 1) := by decide +kernel
theorem dX11_costCents_19 : decode cX11_costCents 19 = .ok (.goto 4, 3) := by decide +kernel
theorem dX11_costCents_22 : decode cX11_costCents 22 = .ok (.iconst 0, 1) := by decide +kernel
theorem dX11_costCents_23 : decode cX11_costCents 23 = .ok (.ireturn, 1) := by decide +kernel
theorem dX11_dearest_0 : decode cX11_dearest 0 = .ok (.aload_n 0, 1) := by decide +kernel
theorem dX11_dearest_1 : decode cX11_dearest 1 = .ok (.iload_n 1, 1) := by decide +kernel
theorem dX11_dearest_2 : decode cX11_dearest 2 = .ok (.iload_n 2, 1) := by decide +kernel
theorem dX11_dearest_3 : decode cX11_dearest 3 = .ok (.invokevirtual 150, 3) := by decide +kernel
theorem dX11_dearest_6 : decode cX11_dearest 6 = .ok (.ifCond .ne 5, 3) := by decide +kernel
theorem dX11_dearest_9 : decode cX11_dearest 9 = .ok (.iconst 0, 1) := by decide +kernel
theorem dX11_dearest_10 : decode cX11_dearest 10 = .ok (.ireturn, 1) := by decide +kernel
theorem dX11_dearest_11 : decode cX11_dearest 11 = .ok (.iconst (-1), 1) := by decide +kernel
theorem dX11_dearest_12 : decode cX11_dearest 12 = .ok (.istore_n 3, 1) := by decide +kernel
theorem dX11_dearest_13 : decode cX11_dearest 13 = .ok (.iconst 1, 1) := by decide +kernel
theorem dX11_dearest_14 : decode cX11_dearest 14 = .ok (.istore 4, 2) := by decide +kernel
theorem dX11_dearest_16 : decode cX11_dearest 16 = .ok (.iload 4, 2) := by decide +kernel
theorem dX11_dearest_18 : decode cX11_dearest 18 = .ok (.bipush 6, 2) := by decide +kernel
theorem dX11_dearest_20 : decode cX11_dearest 20 = .ok (.if_icmp .gt 50, 3) := by decide +kernel
theorem dX11_dearest_23 : decode cX11_dearest 23 = .ok (.aload_n 0, 1) := by decide +kernel
theorem dX11_dearest_24 : decode cX11_dearest 24 = .ok (.iload_n 1, 1) := by decide +kernel
theorem dX11_dearest_25 : decode cX11_dearest 25 = .ok (.iload 4, 2) := by decide +kernel
theorem dX11_dearest_27 : decode cX11_dearest 27 = .ok (.iload_n 2, 1) := by decide +kernel
theorem dX11_dearest_28 : decode cX11_dearest 28 = .ok (.invokevirtual 139, 3) := by decide +kernel
theorem dX11_dearest_31 : decode cX11_dearest 31 = .ok (.istore 5, 2) := by decide +kernel
theorem dX11_dearest_33 : decode cX11_dearest 33 = .ok (.iload 5, 2) := by decide +kernel
theorem dX11_dearest_35 : decode cX11_dearest 35 = .ok (.iconst (-1), 1) := by decide +kernel
theorem dX11_dearest_36 : decode cX11_dearest 36 = .ok (.if_icmp .eq 28, 3) := by decide +kernel
theorem dX11_dearest_39 : decode cX11_dearest 39 = .ok (.iload_n 3, 1) := by decide +kernel
theorem dX11_dearest_40 : decode cX11_dearest 40 = .ok (.iconst (-1), 1) := by decide +kernel
theorem dX11_dearest_41 : decode cX11_dearest 41 = .ok (.if_icmp .eq 20, 3) := by decide +kernel
theorem dX11_dearest_44 : decode cX11_dearest 44 = .ok (.aload_n 0, 1) := by decide +kernel
theorem dX11_dearest_45 : decode cX11_dearest 45 = .ok (.iload 5, 2) := by decide +kernel
theorem dX11_dearest_47 : decode cX11_dearest 47 = .ok (.iload_n 2, 1) := by decide +kernel
theorem dX11_dearest_48 : decode cX11_dearest 48 = .ok (.invokevirtual 186, 3) := by decide +kernel
theorem dX11_dearest_51 : decode cX11_dearest 51 = .ok (.aload_n 0, 1) := by decide +kernel
theorem dX11_dearest_52 : decode cX11_dearest 52 = .ok (.iload_n 3, 1) := by decide +kernel
theorem dX11_dearest_53 : decode cX11_dearest 53 = .ok (.iload_n 2, 1) := by decide +kernel
theorem dX11_dearest_54 : decode cX11_dearest 54 = .ok (.invokevirtual 186, 3) := by decide +kernel
theorem dX11_dearest_57 : decode cX11_dearest 57 = .ok (.fcmp .l, 1) := by decide +kernel
theorem dX11_dearest_58 : decode cX11_dearest 58 = .ok (.ifCond .le 6, 3) := by decide +kernel
theorem dX11_dearest_61 : decode cX11_dearest 61 = .ok (.iload 5, 2) := by decide +kernel
theorem dX11_dearest_63 : decode cX11_dearest 63 = .ok (.istore_n 3, 1) := by decide +kernel
theorem dX11_dearest_64 : decode cX11_dearest 64 = .ok (.iinc 4 1, 3) := by decide +kernel
theorem dX11_dearest_67 : decode cX11_dearest 67 = .ok (.goto (-51), 3) := by decide +kernel
theorem dX11_dearest_70 : decode cX11_dearest 70 = .ok (.iload_n 3, 1) := by decide +kernel
theorem dX11_dearest_71 : decode cX11_dearest 71 = .ok (.iconst (-1), 1) := by decide +kernel
theorem dX11_dearest_72 : decode cX11_dearest 72 = .ok (.if_icmp .ne 11, 3) := by decide +kernel
theorem dX11_dearest_75 : decode cX11_dearest 75 = .ok (.aload_n 0, 1) := by decide +kernel
theorem dX11_dearest_76 : decode cX11_dearest 76 = .ok (.iconst 3, 1) := by decide +kernel
theorem dX11_dearest_77 : decode cX11_dearest 77 = .ok (.invokevirtual 105, 3) := by decide +kernel
theorem dX11_dearest_80 : decode cX11_dearest 80 = .ok (.goto 4, 3) := by decide +kernel
theorem dX11_dearest_83 : decode cX11_dearest 83 = .ok (.iload_n 3, 1) := by decide +kernel
theorem dX11_dearest_84 : decode cX11_dearest 84 = .ok (.ireturn, 1) := by decide +kernel
theorem dX11_mass_0 : decode cX11_mass 0 = .ok (.aload_n 0, 1) := by decide +kernel
theorem dX11_mass_1 : decode cX11_mass 1 = .ok (.getfield 16, 3) := by decide +kernel
theorem dX11_mass_4 : decode cX11_mass 4 = .ok (.iload_n 1, 1) := by decide +kernel
theorem dX11_mass_5 : decode cX11_mass 5 = .ok (.iaload, 1) := by decide +kernel
theorem dX11_mass_6 : decode cX11_mass 6 = .ok (.i2d, 1) := by decide +kernel
theorem dX11_mass_7 : decode cX11_mass 7 = .ok (.ldc2_w 198, 3) := by decide +kernel
theorem dX11_mass_10 : decode cX11_mass 10 = .ok (.ddiv, 1) := by decide +kernel
theorem dX11_mass_11 : decode cX11_mass 11 = .ok (.dstore_n 3, 1) := by decide +kernel
theorem dX11_mass_12 : decode cX11_mass 12 = .ok (.iconst 1, 1) := by decide +kernel
theorem dX11_mass_13 : decode cX11_mass 13 = .ok (.istore 5, 2) := by decide +kernel
theorem dX11_mass_15 : decode cX11_mass 15 = .ok (.iload 5, 2) := by decide +kernel
theorem dX11_mass_17 : decode cX11_mass 17 = .ok (.bipush 6, 2) := by decide +kernel
theorem dX11_mass_19 : decode cX11_mass 19 = .ok (.if_icmp .gt 49, 3) := by decide +kernel
theorem dX11_mass_22 : decode cX11_mass 22 = .ok (.aload_n 0, 1) := by decide +kernel
theorem dX11_mass_23 : decode cX11_mass 23 = .ok (.iload_n 1, 1) := by decide +kernel
theorem dX11_mass_24 : decode cX11_mass 24 = .ok (.iload 5, 2) := by decide +kernel
theorem dX11_mass_26 : decode cX11_mass 26 = .ok (.iload_n 2, 1) := by decide +kernel
theorem dX11_mass_27 : decode cX11_mass 27 = .ok (.invokevirtual 139, 3) := by decide +kernel
theorem dX11_mass_30 : decode cX11_mass 30 = .ok (.istore 6, 2) := by decide +kernel
theorem dX11_mass_32 : decode cX11_mass 32 = .ok (.iload 6, 2) := by decide +kernel
theorem dX11_mass_34 : decode cX11_mass 34 = .ok (.iconst (-1), 1) := by decide +kernel
theorem dX11_mass_35 : decode cX11_mass 35 = .ok (.if_icmp .eq 27, 3) := by decide +kernel
theorem dX11_mass_38 : decode cX11_mass 38 = .ok (.dload_n 3, 1) := by decide +kernel
theorem dX11_mass_39 : decode cX11_mass 39 = .ok (.aload_n 0, 1) := by decide +kernel
theorem dX11_mass_40 : decode cX11_mass 40 = .ok (.getfield 28, 3) := by decide +kernel
theorem dX11_mass_43 : decode cX11_mass 43 = .ok (.iload 6, 2) := by decide +kernel
theorem dX11_mass_45 : decode cX11_mass 45 = .ok (.iaload, 1) := by decide +kernel
theorem dX11_mass_46 : decode cX11_mass 46 = .ok (.i2d, 1) := by decide +kernel
theorem dX11_mass_47 : decode cX11_mass 47 = .ok (.aload_n 0, 1) := by decide +kernel
theorem dX11_mass_48 : decode cX11_mass 48 = .ok (.aload_n 0, 1) := by decide +kernel
theorem dX11_mass_49 : decode cX11_mass 49 = .ok (.getfield 25, 3) := by decide +kernel
theorem dX11_mass_52 : decode cX11_mass 52 = .ok (.iload 6, 2) := by decide +kernel
theorem dX11_mass_54 : decode cX11_mass 54 = .ok (.iaload, 1) := by decide +kernel
theorem dX11_mass_55 : decode cX11_mass 55 = .ok (.iload_n 2, 1) := by decide +kernel
theorem dX11_mass_56 : decode cX11_mass 56 = .ok (.invokevirtual 200, 3) := by decide +kernel
theorem dX11_mass_59 : decode cX11_mass 59 = .ok (.dmul, 1) := by decide +kernel
theorem dX11_mass_60 : decode cX11_mass 60 = .ok (.dadd, 1) := by decide +kernel
theorem dX11_mass_61 : decode cX11_mass 61 = .ok (.dstore_n 3, 1) := by decide +kernel
theorem dX11_mass_62 : decode cX11_mass 62 = .ok (.iinc 5 1, 3) := by decide +kernel
theorem dX11_mass_65 : decode cX11_mass 65 = .ok (.goto (-50), 3) := by decide +kernel
theorem dX11_mass_68 : decode cX11_mass 68 = .ok (.dload_n 3, 1) := by decide +kernel
theorem dX11_mass_69 : decode cX11_mass 69 = .ok (.dreturn, 1) := by decide +kernel
theorem dX11_weight_0 : decode cX11_weight 0 = .ok (.aload_n 0, 1) := by decide +kernel
theorem dX11_weight_1 : decode cX11_weight 1 = .ok (.iload_n 1, 1) := by decide +kernel
theorem dX11_weight_2 : decode cX11_weight 2 = .ok (.iload_n 2, 1) := by decide +kernel
theorem dX11_weight_3 : decode cX11_weight 3 = .ok (.invokevirtual 150, 3) := by decide +kernel
theorem dX11_weight_6 : decode cX11_weight 6 = .ok (.ifCond .eq 12, 3) := by decide +kernel
theorem dX11_weight_9 : decode cX11_weight 9 = .ok (.aload_n 0, 1) := by decide +kernel
theorem dX11_weight_10 : decode cX11_weight 10 = .ok (.iload_n 1, 1) := by decide +kernel
theorem dX11_weight_11 : decode cX11_weight 11 = .ok (.iload_n 2, 1) := by decide +kernel
theorem dX11_weight_12 : decode cX11_weight 12 = .ok (.invokevirtual 200, 3) := by decide +kernel
theorem dX11_weight_15 : decode cX11_weight 15 = .ok (.goto 4, 3) := by decide +kernel
theorem dX11_weight_18 : decode cX11_weight 18 = .ok (.dconst 0, 1) := by decide +kernel
theorem dX11_weight_19 : decode cX11_weight 19 = .ok (.dreturn, 1) := by decide +kernel
theorem dX11_weightBits_0 : decode cX11_weightBits 0 = .ok (.aload_n 0, 1) := by decide +kernel
theorem dX11_weightBits_1 : decode cX11_weightBits 1 = .ok (.iload_n 1, 1) := by decide +kernel
theorem dX11_weightBits_2 : decode cX11_weightBits 2 = .ok (.iload_n 2, 1) := by decide +kernel
theorem dX11_weightBits_3 : decode cX11_weightBits 3 = .ok (.invokevirtual 150, 3) := by decide +kernel
theorem dX11_weightBits_6 : decode cX11_weightBits 6 = .ok (.ifCond .eq 15, 3) := by decide +kernel
theorem dX11_weightBits_9 : decode cX11_weightBits 9 = .ok (.aload_n 0, 1) := by decide +kernel
theorem dX11_weightBits_10 : decode cX11_weightBits 10 = .ok (.iload_n 1, 1) := by decide +kernel
theorem dX11_weightBits_11 : decode cX11_weightBits 11 = .ok (.iload_n 2, 1) := by decide +kernel
theorem dX11_weightBits_12 : decode cX11_weightBits 12 = .ok (.invokevirtual 200, 3) := by decide +kernel
theorem dX11_weightBits_15 : decode cX11_weightBits 15 = .ok (.invokestatic 204, 3) := by decide +kernel
theorem dX11_weightBits_18 : decode cX11_weightBits 18 = .ok (.goto 4, 3) := by decide +kernel
theorem dX11_weightBits_21 : decode cX11_weightBits 21 = .ok (.lconst 0, 1) := by decide +kernel
theorem dX11_weightBits_22 : decode cX11_weightBits 22 = .ok (.lreturn, 1) := by decide +kernel
theorem dX11_markCosts_0 : decode cX11_markCosts 0 = .ok (.iload_n 1, 1) := by decide +kernel
theorem dX11_markCosts_1 : decode cX11_markCosts 1 = .ok (.iconst 1, 1) := by decide +kernel
theorem dX11_markCosts_2 : decode cX11_markCosts 2 = .ok (.sipush 999, 3) := by decide +kernel
theorem dX11_markCosts_5 : decode cX11_markCosts 5 = .ok (.invokestatic 89, 3) := by decide +kernel
theorem dX11_markCosts_8 : decode cX11_markCosts 8 = .ok (.ifCond .ne 9, 3) := by decide +kernel
theorem dX11_markCosts_11 : decode cX11_markCosts 11 = .ok (.aload_n 0, 1) := by decide +kernel
theorem dX11_markCosts_12 : decode cX11_markCosts 12 = .ok (.iconst 1, 1) := by decide +kernel
theorem dX11_markCosts_13 : decode cX11_markCosts 13 = .ok (.invokevirtual 105, 3) := by decide +kernel
theorem dX11_markCosts_16 : decode cX11_markCosts 16 = .ok (.ireturn, 1) := by decide +kernel
theorem dX11_markCosts_17 : decode cX11_markCosts 17 = .ok (.aload_n 0, 1) := by decide +kernel
theorem dX11_markCosts_18 : decode cX11_markCosts 18 = .ok (.iconst 0, 1) := by decide +kernel
theorem dX11_markCosts_19 : decode cX11_markCosts 19 = .ok (.putfield 82, 3) := by decide +kernel
theorem dX11_markCosts_22 : decode cX11_markCosts 22 = .ok (.iconst 0, 1) := by decide +kernel
theorem dX11_markCosts_23 : decode cX11_markCosts 23 = .ok (.istore_n 2, 1) := by decide +kernel
theorem dX11_markCosts_24 : decode cX11_markCosts 24 = .ok (.iload_n 2, 1) := by decide +kernel
theorem dX11_markCosts_25 : decode cX11_markCosts 25 = .ok (.aload_n 0, 1) := by decide +kernel
theorem dX11_markCosts_26 : decode cX11_markCosts 26 = .ok (.getfield 86, 3) := by decide +kernel
theorem dX11_markCosts_29 : decode cX11_markCosts 29 = .ok (.if_icmp .ge 21, 3) := by decide +kernel
theorem dX11_markCosts_32 : decode cX11_markCosts 32 = .ok (.aload_n 0, 1) := by decide +kernel
theorem dX11_markCosts_33 : decode cX11_markCosts 33 = .ok (.getfield 68, 3) := by decide +kernel
theorem dX11_markCosts_36 : decode cX11_markCosts 36 = .ok (.iload_n 2, 1) := by decide +kernel
theorem dX11_markCosts_37 : decode cX11_markCosts 37 = .ok (.aload_n 0, 1) := by decide +kernel
theorem dX11_markCosts_38 : decode cX11_markCosts 38 = .ok (.iload_n 2, 1) := by decide +kernel
theorem dX11_markCosts_39 : decode cX11_markCosts 39 = .ok (.iload_n 1, 1) := by decide +kernel
theorem dX11_markCosts_40 : decode cX11_markCosts 40 = .ok (.invokevirtual 182, 3) := by decide +kernel
theorem dX11_markCosts_43 : decode cX11_markCosts 43 = .ok (.fastore, 1) := by decide +kernel
theorem dX11_markCosts_44 : decode cX11_markCosts 44 = .ok (.iinc 2 1, 3) := by decide +kernel
theorem dX11_markCosts_47 : decode cX11_markCosts 47 = .ok (.goto (-23), 3) := by decide +kernel
theorem dX11_markCosts_50 : decode cX11_markCosts 50 = .ok (.aload_n 0, 1) := by decide +kernel
theorem dX11_markCosts_51 : decode cX11_markCosts 51 = .ok (.aload_n 0, 1) := by decide +kernel
theorem dX11_markCosts_52 : decode cX11_markCosts 52 = .ok (.getfield 86, 3) := by decide +kernel
theorem dX11_markCosts_55 : decode cX11_markCosts 55 = .ok (.putfield 210, 3) := by decide +kernel
theorem dX11_markCosts_58 : decode cX11_markCosts 58 = .ok (.aload_n 0, 1) := by decide +kernel
theorem dX11_markCosts_59 : decode cX11_markCosts 59 = .ok (.getfield 210, 3) := by decide +kernel
theorem dX11_markCosts_62 : decode cX11_markCosts 62 = .ok (.ireturn, 1) := by decide +kernel
theorem dX11_costChange_0 : decode cX11_costChange 0 = .ok (.aload_n 0, 1) := by decide +kernel
theorem dX11_costChange_1 : decode cX11_costChange 1 = .ok (.iload_n 1, 1) := by decide +kernel
theorem dX11_costChange_2 : decode cX11_costChange 2 = .ok (.iload_n 2, 1) := by decide +kernel
theorem dX11_costChange_3 : decode cX11_costChange 3 = .ok (.invokevirtual 150, 3) := by decide +kernel
theorem dX11_costChange_6 : decode cX11_costChange 6 = .ok (.ifCond .ne 5, 3) := by decide +kernel
theorem dX11_costChange_9 : decode cX11_costChange 9 = .ok (.fconst 0, 1) := by decide +kernel
theorem dX11_costChange_10 : decode cX11_costChange 10 = .ok (.freturn, 1) := by decide +kernel
theorem dX11_costChange_11 : decode cX11_costChange 11 = .ok (.iload_n 1, 1) := by decide +kernel
theorem dX11_costChange_12 : decode cX11_costChange 12 = .ok (.aload_n 0, 1) := by decide +kernel
theorem dX11_costChange_13 : decode cX11_costChange 13 = .ok (.getfield 210, 3) := by decide +kernel
theorem dX11_costChange_16 : decode cX11_costChange 16 = .ok (.if_icmp .ge 19, 3) := by decide +kernel
theorem dX11_costChange_19 : decode cX11_costChange 19 = .ok (.aload_n 0, 1) := by decide +kernel
theorem dX11_costChange_20 : decode cX11_costChange 20 = .ok (.iload_n 1, 1) := by decide +kernel
theorem dX11_costChange_21 : decode cX11_costChange 21 = .ok (.iload_n 2, 1) := by decide +kernel
theorem dX11_costChange_22 : decode cX11_costChange 22 = .ok (.invokevirtual 182, 3) := by decide +kernel
theorem dX11_costChange_25 : decode cX11_costChange 25 = .ok (.aload_n 0, 1) := by decide +kernel
theorem dX11_costChange_26 : decode cX11_costChange 26 = .ok (.getfield 68, 3) := by decide +kernel
theorem dX11_costChange_29 : decode cX11_costChange 29 = .ok (.iload_n 1, 1) := by decide +kernel
theorem dX11_costChange_30 : decode cX11_costChange 30 = .ok (.faload, 1) := by decide +kernel
theorem dX11_costChange_31 : decode cX11_costChange 31 = .ok (.fsub, 1) := by decide +kernel
theorem dX11_costChange_32 : decode cX11_costChange 32 = .ok (.goto 9, 3) := by decide +kernel
theorem dX11_costChange_35 : decode cX11_costChange 35 = .ok (.aload_n 0, 1) := by decide +kernel
theorem dX11_costChange_36 : decode cX11_costChange 36 = .ok (.iconst 3, 1) := by decide +kernel
theorem dX11_costChange_37 : decode cX11_costChange 37 = .ok (.invokevirtual 105, 3) := by decide +kernel
theorem dX11_costChange_40 : decode cX11_costChange 40 = .ok (.i2f, 1) := by decide +kernel
theorem dX11_costChange_41 : decode cX11_costChange 41 = .ok (.freturn, 1) := by decide +kernel
theorem dX11_order_0 : decode cX11_order 0 = .ok (.aload_n 0, 1) := by decide +kernel
theorem dX11_order_1 : decode cX11_order 1 = .ok (.iload_n 1, 1) := by decide +kernel
theorem dX11_order_2 : decode cX11_order 2 = .ok (.invokevirtual 96, 3) := by decide +kernel
theorem dX11_order_5 : decode cX11_order 5 = .ok (.ifCond .ne 9, 3) := by decide +kernel
theorem dX11_order_8 : decode cX11_order 8 = .ok (.aload_n 0, 1) := by decide +kernel
theorem dX11_order_9 : decode cX11_order 9 = .ok (.iconst 1, 1) := by decide +kernel
theorem dX11_order_10 : decode cX11_order 10 = .ok (.invokevirtual 105, 3) := by decide +kernel
theorem dX11_order_13 : decode cX11_order 13 = .ok (.ireturn, 1) := by decide +kernel
theorem dX11_order_14 : decode cX11_order 14 = .ok (.iload_n 2, 1) := by decide +kernel
theorem dX11_order_15 : decode cX11_order 15 = .ok (.iconst 1, 1) := by decide +kernel
theorem dX11_order_16 : decode cX11_order 16 = .ok (.sipush 999, 3) := by decide +kernel
theorem dX11_order_19 : decode cX11_order 19 = .ok (.invokestatic 89, 3) := by decide +kernel
theorem dX11_order_22 : decode cX11_order 22 = .ok (.ifCond .eq 14, 3) := by decide +kernel
theorem dX11_order_25 : decode cX11_order 25 = .ok (.iload_n 3, 1) := by decide +kernel
theorem dX11_order_26 : decode cX11_order 26 = .ok (.iconst 1, 1) := by decide +kernel
theorem dX11_order_27 : decode cX11_order 27 = .ok (.sipush 999, 3) := by decide +kernel
theorem dX11_order_30 : decode cX11_order 30 = .ok (.invokestatic 89, 3) := by decide +kernel
theorem dX11_order_33 : decode cX11_order 33 = .ok (.ifCond .ne 9, 3) := by decide +kernel
theorem dX11_order_36 : decode cX11_order 36 = .ok (.aload_n 0, 1) := by decide +kernel
theorem dX11_order_37 : decode cX11_order 37 = .ok (.iconst 2, 1) := by decide +kernel
theorem dX11_order_38 : decode cX11_order 38 = .ok (.invokevirtual 105, 3) := by decide +kernel
theorem dX11_order_41 : decode cX11_order 41 = .ok (.ireturn, 1) := by decide +kernel
theorem dX11_order_42 : decode cX11_order 42 = .ok (.aload_n 0, 1) := by decide +kernel
theorem dX11_order_43 : decode cX11_order 43 = .ok (.getfield 213, 3) := by decide +kernel
theorem dX11_order_46 : decode cX11_order 46 = .ok (.bipush 8, 2) := by decide +kernel
theorem dX11_order_48 : decode cX11_order 48 = .ok (.if_icmp .ne 9, 3) := by decide +kernel
theorem dX11_order_51 : decode cX11_order 51 = .ok (.aload_n 0, 1) := by decide +kernel
theorem dX11_order_52 : decode cX11_order 52 = .ok (.iconst 3, 1) := by decide +kernel
theorem dX11_order_53 : decode cX11_order 53 = .ok (.invokevirtual 105, 3) := by decide +kernel
theorem dX11_order_56 : decode cX11_order 56 = .ok (.ireturn, 1) := by decide +kernel
theorem dX11_order_57 : decode cX11_order 57 = .ok (.aload_n 0, 1) := by decide +kernel
theorem dX11_order_58 : decode cX11_order 58 = .ok (.iconst 0, 1) := by decide +kernel
theorem dX11_order_59 : decode cX11_order 59 = .ok (.putfield 82, 3) := by decide +kernel
theorem dX11_order_62 : decode cX11_order 62 = .ok (.aload_n 0, 1) := by decide +kernel
theorem dX11_order_63 : decode cX11_order 63 = .ok (.getfield 52, 3) := by decide +kernel
theorem dX11_order_66 : decode cX11_order 66 = .ok (.aload_n 0, 1) := by decide +kernel
theorem dX11_order_67 : decode cX11_order 67 = .ok (.getfield 213, 3) := by decide +kernel
theorem dX11_order_70 : decode cX11_order 70 = .ok (.iload_n 1, 1) := by decide +kernel
theorem dX11_order_71 : decode cX11_order 71 = .ok (.iastore, 1) := by decide +kernel
theorem dX11_order_72 : decode cX11_order 72 = .ok (.aload_n 0, 1) := by decide +kernel
theorem dX11_order_73 : decode cX11_order 73 = .ok (.getfield 55, 3) := by decide +kernel
theorem dX11_order_76 : decode cX11_order 76 = .ok (.aload_n 0, 1) := by decide +kernel
theorem dX11_order_77 : decode cX11_order 77 = .ok (.getfield 213, 3) := by decide +kernel
theorem dX11_order_80 : decode cX11_order 80 = .ok (.iload_n 2, 1) := by decide +kernel
theorem dX11_order_81 : decode cX11_order 81 = .ok (.iastore, 1) := by decide +kernel
theorem dX11_order_82 : decode cX11_order 82 = .ok (.aload_n 0, 1) := by decide +kernel
theorem dX11_order_83 : decode cX11_order 83 = .ok (.getfield 58, 3) := by decide +kernel
theorem dX11_order_86 : decode cX11_order 86 = .ok (.aload_n 0, 1) := by decide +kernel
theorem dX11_order_87 : decode cX11_order 87 = .ok (.getfield 213, 3) := by decide +kernel
theorem dX11_order_90 : decode cX11_order 90 = .ok (.iload_n 3, 1) := by decide +kernel
theorem dX11_order_91 : decode cX11_order 91 = .ok (.iastore, 1) := by decide +kernel
theorem dX11_order_92 : decode cX11_order 92 = .ok (.iconst 0, 1) := by decide +kernel
theorem dX11_order_93 : decode cX11_order 93 = .ok (.istore 4, 2) := by decide +kernel
theorem dX11_order_95 : decode cX11_order 95 = .ok (.iload 4, 2) := by decide +kernel
theorem dX11_order_97 : decode cX11_order 97 = .ok (.iconst 4, 1) := by decide +kernel
theorem dX11_order_98 : decode cX11_order 98 = .ok (.if_icmp .ge 30, 3) := by decide +kernel
theorem dX11_order_101 : decode cX11_order 101 = .ok (.aload_n 0, 1) := by decide +kernel
theorem dX11_order_102 : decode cX11_order 102 = .ok (.getfield 61, 3) := by decide +kernel
theorem dX11_order_105 : decode cX11_order 105 = .ok (.iconst 4, 1) := by decide +kernel
theorem dX11_order_106 : decode cX11_order 106 = .ok (.aload_n 0, 1) := by decide +kernel
theorem dX11_order_107 : decode cX11_order 107 = .ok (.getfield 213, 3) := by decide +kernel
theorem dX11_order_110 : decode cX11_order 110 = .ok (.imul, 1) := by decide +kernel
theorem dX11_order_111 : decode cX11_order 111 = .ok (.iload 4, 2) := by decide +kernel
theorem dX11_order_113 : decode cX11_order 113 = .ok (.iadd, 1) := by decide +kernel
theorem dX11_order_114 : decode cX11_order 114 = .ok (.aload_n 0, 1) := by decide +kernel
theorem dX11_order_115 : decode cX11_order 115 = .ok (.getfield 46, 3) := by decide +kernel
theorem dX11_order_118 : decode cX11_order 118 = .ok (.iload 4, 2) := by decide +kernel
theorem dX11_order_120 : decode cX11_order 120 = .ok (.iaload, 1) := by decide +kernel
theorem dX11_order_121 : decode cX11_order 121 = .ok (.iastore, 1) := by decide +kernel
theorem dX11_order_122 : decode cX11_order 122 = .ok (.iinc 4 1, 3) := by decide +kernel
theorem dX11_order_125 : decode cX11_order 125 = .ok (.goto (-30), 3) := by decide +kernel
theorem dX11_order_128 : decode cX11_order 128 = .ok (.aload_n 0, 1) := by decide +kernel
theorem dX11_order_129 : decode cX11_order 129 = .ok (.dup, 1) := by decide +kernel
theorem dX11_order_130 : decode cX11_order 130 = .ok (.getfield 213, 3) := by decide +kernel
theorem dX11_order_133 : decode cX11_order 133 = .ok (.iconst 1, 1) := by decide +kernel
theorem dX11_order_134 : decode cX11_order 134 = .ok (.iadd, 1) := by decide +kernel
theorem dX11_order_135 : decode cX11_order 135 = .ok (.putfield 213, 3) := by decide +kernel
theorem dX11_order_138 : decode cX11_order 138 = .ok (.aload_n 0, 1) := by decide +kernel
theorem dX11_order_139 : decode cX11_order 139 = .ok (.getfield 213, 3) := by decide +kernel
theorem dX11_order_142 : decode cX11_order 142 = .ok (.iconst 1, 1) := by decide +kernel
theorem dX11_order_143 : decode cX11_order 143 = .ok (.isub, 1) := by decide +kernel
theorem dX11_order_144 : decode cX11_order 144 = .ok (.ireturn, 1) := by decide +kernel
theorem dX11_cancel_0 : decode cX11_cancel 0 = .ok (.iload_n 1, 1) := by decide +kernel
theorem dX11_cancel_1 : decode cX11_cancel 1 = .ok (.iconst 0, 1) := by decide +kernel
theorem dX11_cancel_2 : decode cX11_cancel 2 = .ok (.aload_n 0, 1) := by decide +kernel
theorem dX11_cancel_3 : decode cX11_cancel 3 = .ok (.getfield 213, 3) := by decide +kernel
theorem dX11_cancel_6 : decode cX11_cancel 6 = .ok (.iconst 1, 1) := by decide +kernel
theorem dX11_cancel_7 : decode cX11_cancel 7 = .ok (.isub, 1) := by decide +kernel
theorem dX11_cancel_8 : decode cX11_cancel 8 = .ok (.invokestatic 89, 3) := by decide +kernel
theorem dX11_cancel_11 : decode cX11_cancel 11 = .ok (.ifCond .ne 9, 3) := by decide +kernel
theorem dX11_cancel_14 : decode cX11_cancel 14 = .ok (.aload_n 0, 1) := by decide +kernel
theorem dX11_cancel_15 : decode cX11_cancel 15 = .ok (.iconst 1, 1) := by decide +kernel
theorem dX11_cancel_16 : decode cX11_cancel 16 = .ok (.invokevirtual 105, 3) := by decide +kernel
theorem dX11_cancel_19 : decode cX11_cancel 19 = .ok (.ireturn, 1) := by decide +kernel
theorem dX11_cancel_20 : decode cX11_cancel 20 = .ok (.aload_n 0, 1) := by decide +kernel
theorem dX11_cancel_21 : decode cX11_cancel 21 = .ok (.getfield 64, 3) := by decide +kernel
theorem dX11_cancel_24 : decode cX11_cancel 24 = .ok (.iload_n 1, 1) := by decide +kernel
theorem dX11_cancel_25 : decode cX11_cancel 25 = .ok (.baload, 1) := by decide +kernel
theorem dX11_cancel_26 : decode cX11_cancel 26 = .ok (.ifCond .eq 9, 3) := by decide +kernel
theorem dX11_cancel_29 : decode cX11_cancel 29 = .ok (.aload_n 0, 1) := by decide +kernel
theorem dX11_cancel_30 : decode cX11_cancel 30 = .ok (.iconst 2, 1) := by decide +kernel
theorem dX11_cancel_31 : decode cX11_cancel 31 = .ok (.invokevirtual 105, 3) := by decide +kernel
theorem dX11_cancel_34 : decode cX11_cancel 34 = .ok (.ireturn, 1) := by decide +kernel
theorem dX11_cancel_35 : decode cX11_cancel 35 = .ok (.aload_n 0, 1) := by decide +kernel
theorem dX11_cancel_36 : decode cX11_cancel 36 = .ok (.iconst 0, 1) := by decide +kernel
theorem dX11_cancel_37 : decode cX11_cancel 37 = .ok (.putfield 82, 3) := by decide +kernel
theorem dX11_cancel_40 : decode cX11_cancel 40 = .ok (.aload_n 0, 1) := by decide +kernel
theorem dX11_cancel_41 : decode cX11_cancel 41 = .ok (.getfield 64, 3) := by decide +kernel
theorem dX11_cancel_44 : decode cX11_cancel 44 = .ok (.iload_n 1, 1) := by decide +kernel
theorem dX11_cancel_45 : decode cX11_cancel 45 = .ok (.iconst 1, 1) := by decide +kernel
theorem dX11_cancel_46 : decode cX11_cancel 46 = .ok (.bastore, 1) := by decide +kernel
theorem dX11_cancel_47 : decode cX11_cancel 47 = .ok (.iconst 0, 1) := by decide +kernel
theorem dX11_cancel_48 : decode cX11_cancel 48 = .ok (.istore_n 2, 1) := by decide +kernel
theorem dX11_cancel_49 : decode cX11_cancel 49 = .ok (.iconst 0, 1) := by decide +kernel
theorem dX11_cancel_50 : decode cX11_cancel 50 = .ok (.istore_n 3, 1) := by decide +kernel
theorem dX11_cancel_51 : decode cX11_cancel 51 = .ok (.iload_n 3, 1) := by decide +kernel
theorem dX11_cancel_52 : decode cX11_cancel 52 = .ok (.aload_n 0, 1) := by decide +kernel
theorem dX11_cancel_53 : decode cX11_cancel 53 = .ok (.getfield 213, 3) := by decide +kernel
theorem dX11_cancel_56 : decode cX11_cancel 56 = .ok (.if_icmp .ge 26, 3) := by decide +kernel
theorem dX11_cancel_59 : decode cX11_cancel 59 = .ok (.iload_n 2, 1) := by decide +kernel
theorem dX11_cancel_60 : decode cX11_cancel 60 = .ok (.aload_n 0, 1) := by decide +kernel
theorem dX11_cancel_61 : decode cX11_cancel 61 = .ok (.getfield 64, 3) := by decide +kernel
theorem dX11_cancel_64 : decode cX11_cancel 64 = .ok (.iload_n 3, 1) := by decide +kernel
theorem dX11_cancel_65 : decode cX11_cancel 65 = .ok (.baload, 1) := by decide +kernel
theorem dX11_cancel_66 : decode cX11_cancel 66 = .ok (.ifCond .eq 7, 3) := by decide +kernel
theorem dX11_cancel_69 : decode cX11_cancel 69 = .ok (.iconst 0, 1) := by decide +kernel
theorem dX11_cancel_70 : decode cX11_cancel 70 = .ok (.goto 4, 3) := by decide +kernel
theorem dX11_cancel_73 : decode cX11_cancel 73 = .ok (.iconst 1, 1) := by decide +kernel
theorem dX11_cancel_74 : decode cX11_cancel 74 = .ok (.iadd, 1) := by decide +kernel
theorem dX11_cancel_75 : decode cX11_cancel 75 = .ok (.istore_n 2, 1) := by decide +kernel
theorem dX11_cancel_76 : decode cX11_cancel 76 = .ok (.iinc 3 1, 3) := by decide +kernel
theorem dX11_cancel_79 : decode cX11_cancel 79 = .ok (.goto (-28), 3) := by decide +kernel
theorem dX11_cancel_82 : decode cX11_cancel 82 = .ok (.iload_n 2, 1) := by decide +kernel
theorem dX11_cancel_83 : decode cX11_cancel 83 = .ok (.ireturn, 1) := by decide +kernel
theorem dX11_takes_0 : decode cX11_takes 0 = .ok (.iconst 0, 1) := by decide +kernel
theorem dX11_takes_1 : decode cX11_takes 1 = .ok (.istore_n 2, 1) := by decide +kernel
theorem dX11_takes_2 : decode cX11_takes 2 = .ok (.iload_n 2, 1) := by decide +kernel
theorem dX11_takes_3 : decode cX11_takes 3 = .ok (.iconst 4, 1) := by decide +kernel
theorem dX11_takes_4 : decode cX11_takes 4 = .ok (.if_icmp .ge 37, 3) := by decide +kernel
theorem dX11_takes_7 : decode cX11_takes 7 = .ok (.aload_n 0, 1) := by decide +kernel
theorem dX11_takes_8 : decode cX11_takes 8 = .ok (.getfield 49, 3) := by decide +kernel
theorem dX11_takes_11 : decode cX11_takes 11 = .ok (.iload_n 2, 1) := by decide +kernel
theorem dX11_takes_12 : decode cX11_takes 12 = .ok (.aload_n 0, 1) := by decide +kernel
theorem dX11_takes_13 : decode cX11_takes 13 = .ok (.getfield 46, 3) := by decide +kernel
theorem dX11_takes_16 : decode cX11_takes 16 = .ok (.iload_n 2, 1) := by decide +kernel
theorem dX11_takes_17 : decode cX11_takes 17 = .ok (.iaload, 1) := by decide +kernel
theorem dX11_takes_18 : decode cX11_takes 18 = .ok (.iastore, 1) := by decide +kernel
theorem dX11_takes_19 : decode cX11_takes 19 = .ok (.aload_n 0, 1) := by decide +kernel
theorem dX11_takes_20 : decode cX11_takes 20 = .ok (.getfield 46, 3) := by decide +kernel
theorem dX11_takes_23 : decode cX11_takes 23 = .ok (.iload_n 2, 1) := by decide +kernel
theorem dX11_takes_24 : decode cX11_takes 24 = .ok (.aload_n 0, 1) := by decide +kernel
theorem dX11_takes_25 : decode cX11_takes 25 = .ok (.getfield 61, 3) := by decide +kernel
theorem dX11_takes_28 : decode cX11_takes 28 = .ok (.iconst 4, 1) := by decide +kernel
theorem dX11_takes_29 : decode cX11_takes 29 = .ok (.iload_n 1, 1) := by decide +kernel
theorem dX11_takes_30 : decode cX11_takes 30 = .ok (.imul, 1) := by decide +kernel
theorem dX11_takes_31 : decode cX11_takes 31 = .ok (.iload_n 2, 1) := by decide +kernel
theorem dX11_takes_32 : decode cX11_takes 32 = .ok (.iadd, 1) := by decide +kernel
theorem dX11_takes_33 : decode cX11_takes 33 = .ok (.iaload, 1) := by decide +kernel
theorem dX11_takes_34 : decode cX11_takes 34 = .ok (.iastore, 1) := by decide +kernel
theorem dX11_takes_35 : decode cX11_takes 35 = .ok (.iinc 2 1, 3) := by decide +kernel
theorem dX11_takes_38 : decode cX11_takes 38 = .ok (.goto (-36), 3) := by decide +kernel
theorem dX11_takes_41 : decode cX11_takes 41 = .ok (.return_, 1) := by decide +kernel
theorem dX11_gives_0 : decode cX11_gives 0 = .ok (.iconst 0, 1) := by decide +kernel
theorem dX11_gives_1 : decode cX11_gives 1 = .ok (.istore_n 1, 1) := by decide +kernel
theorem dX11_gives_2 : decode cX11_gives 2 = .ok (.iload_n 1, 1) := by decide +kernel
theorem dX11_gives_3 : decode cX11_gives 3 = .ok (.iconst 4, 1) := by decide +kernel
theorem dX11_gives_4 : decode cX11_gives 4 = .ok (.if_icmp .ge 21, 3) := by decide +kernel
theorem dX11_gives_7 : decode cX11_gives 7 = .ok (.aload_n 0, 1) := by decide +kernel
theorem dX11_gives_8 : decode cX11_gives 8 = .ok (.getfield 46, 3) := by decide +kernel
theorem dX11_gives_11 : decode cX11_gives 11 = .ok (.iload_n 1, 1) := by decide +kernel
theorem dX11_gives_12 : decode cX11_gives 12 = .ok (.aload_n 0, 1) := by decide +kernel
theorem dX11_gives_13 : decode cX11_gives 13 = .ok (.getfield 49, 3) := by decide +kernel
theorem dX11_gives_16 : decode cX11_gives 16 = .ok (.iload_n 1, 1) := by decide +kernel
theorem dX11_gives_17 : decode cX11_gives 17 = .ok (.iaload, 1) := by decide +kernel
theorem dX11_gives_18 : decode cX11_gives 18 = .ok (.iastore, 1) := by decide +kernel
theorem dX11_gives_19 : decode cX11_gives 19 = .ok (.iinc 1 1, 3) := by decide +kernel
theorem dX11_gives_22 : decode cX11_gives 22 = .ok (.goto (-20), 3) := by decide +kernel
theorem dX11_gives_25 : decode cX11_gives 25 = .ok (.return_, 1) := by decide +kernel
theorem dX11_orderCost_0 : decode cX11_orderCost 0 = .ok (.iload_n 1, 1) := by decide +kernel
theorem dX11_orderCost_1 : decode cX11_orderCost 1 = .ok (.iconst 0, 1) := by decide +kernel
theorem dX11_orderCost_2 : decode cX11_orderCost 2 = .ok (.aload_n 0, 1) := by decide +kernel
theorem dX11_orderCost_3 : decode cX11_orderCost 3 = .ok (.getfield 213, 3) := by decide +kernel
theorem dX11_orderCost_6 : decode cX11_orderCost 6 = .ok (.iconst 1, 1) := by decide +kernel
theorem dX11_orderCost_7 : decode cX11_orderCost 7 = .ok (.isub, 1) := by decide +kernel
theorem dX11_orderCost_8 : decode cX11_orderCost 8 = .ok (.invokestatic 89, 3) := by decide +kernel
theorem dX11_orderCost_11 : decode cX11_orderCost 11 = .ok (.ifCond .ne 10, 3) := by decide +kernel
theorem dX11_orderCost_14 : decode cX11_orderCost 14 = .ok (.aload_n 0, 1) := by decide +kernel
theorem dX11_orderCost_15 : decode cX11_orderCost 15 = .ok (.iconst 1, 1) := by decide +kernel
theorem dX11_orderCost_16 : decode cX11_orderCost 16 = .ok (.invokevirtual 105, 3) := by decide +kernel
theorem dX11_orderCost_19 : decode cX11_orderCost 19 = .ok (.i2f, 1) := by decide +kernel
theorem dX11_orderCost_20 : decode cX11_orderCost 20 = .ok (.freturn, 1) := by decide +kernel
theorem dX11_orderCost_21 : decode cX11_orderCost 21 = .ok (.aload_n 0, 1) := by decide +kernel
theorem dX11_orderCost_22 : decode cX11_orderCost 22 = .ok (.iconst 0, 1) := by decide +kernel
theorem dX11_orderCost_23 : decode cX11_orderCost 23 = .ok (.putfield 82, 3) := by decide +kernel
theorem dX11_orderCost_26 : decode cX11_orderCost 26 = .ok (.aload_n 0, 1) := by decide +kernel
theorem dX11_orderCost_27 : decode cX11_orderCost 27 = .ok (.iload_n 1, 1) := by decide +kernel
theorem dX11_orderCost_28 : decode cX11_orderCost 28 = .ok (.invokevirtual 216, 3) := by decide +kernel
theorem dX11_orderCost_31 : decode cX11_orderCost 31 = .ok (.aload_n 0, 1) := by decide +kernel
theorem dX11_orderCost_32 : decode cX11_orderCost 32 = .ok (.getfield 58, 3) := by decide +kernel
theorem dX11_orderCost_35 : decode cX11_orderCost 35 = .ok (.iload_n 1, 1) := by decide +kernel
theorem dX11_orderCost_36 : decode cX11_orderCost 36 = .ok (.iaload, 1) := by decide +kernel
theorem dX11_orderCost_37 : decode cX11_orderCost 37 = .ok (.i2f, 1) := by decide +kernel
theorem dX11_orderCost_38 : decode cX11_orderCost 38 = .ok (.aload_n 0, 1) := by decide +kernel
theorem dX11_orderCost_39 : decode cX11_orderCost 39 = .ok (.aload_n 0, 1) := by decide +kernel
theorem dX11_orderCost_40 : decode cX11_orderCost 40 = .ok (.getfield 52, 3) := by decide +kernel
theorem dX11_orderCost_43 : decode cX11_orderCost 43 = .ok (.iload_n 1, 1) := by decide +kernel
theorem dX11_orderCost_44 : decode cX11_orderCost 44 = .ok (.iaload, 1) := by decide +kernel
theorem dX11_orderCost_45 : decode cX11_orderCost 45 = .ok (.aload_n 0, 1) := by decide +kernel
theorem dX11_orderCost_46 : decode cX11_orderCost 46 = .ok (.getfield 55, 3) := by decide +kernel
theorem dX11_orderCost_49 : decode cX11_orderCost 49 = .ok (.iload_n 1, 1) := by decide +kernel
theorem dX11_orderCost_50 : decode cX11_orderCost 50 = .ok (.iaload, 1) := by decide +kernel
theorem dX11_orderCost_51 : decode cX11_orderCost 51 = .ok (.invokevirtual 182, 3) := by decide +kernel
theorem dX11_orderCost_54 : decode cX11_orderCost 54 = .ok (.fmul, 1) := by decide +kernel
theorem dX11_orderCost_55 : decode cX11_orderCost 55 = .ok (.fstore_n 2, 1) := by decide +kernel
theorem dX11_orderCost_56 : decode cX11_orderCost 56 = .ok (.aload_n 0, 1) := by decide +kernel
theorem dX11_orderCost_57 : decode cX11_orderCost 57 = .ok (.invokevirtual 220, 3) := by decide +kernel
theorem dX11_orderCost_60 : decode cX11_orderCost 60 = .ok (.fload_n 2, 1) := by decide +kernel
theorem dX11_orderCost_61 : decode cX11_orderCost 61 = .ok (.freturn, 1) := by decide +kernel
theorem dX11_need_0 : decode cX11_need 0 = .ok (.aload_n 0, 1) := by decide +kernel
theorem dX11_need_1 : decode cX11_need 1 = .ok (.iload_n 1, 1) := by decide +kernel
theorem dX11_need_2 : decode cX11_need 2 = .ok (.invokevirtual 96, 3) := by decide +kernel
theorem dX11_need_5 : decode cX11_need 5 = .ok (.ifCond .ne 10, 3) := by decide +kernel
theorem dX11_need_8 : decode cX11_need 8 = .ok (.aload_n 0, 1) := by decide +kernel
theorem dX11_need_9 : decode cX11_need 9 = .ok (.iconst 1, 1) := by decide +kernel
theorem dX11_need_10 : decode cX11_need 10 = .ok (.invokevirtual 105, 3) := by decide +kernel
theorem dX11_need_13 : decode cX11_need 13 = .ok (.i2l, 1) := by decide +kernel
theorem dX11_need_14 : decode cX11_need 14 = .ok (.lreturn, 1) := by decide +kernel
theorem dX11_need_15 : decode cX11_need 15 = .ok (.aload_n 0, 1) := by decide +kernel
theorem dX11_need_16 : decode cX11_need 16 = .ok (.iconst 0, 1) := by decide +kernel
theorem dX11_need_17 : decode cX11_need 17 = .ok (.putfield 82, 3) := by decide +kernel
theorem dX11_need_20 : decode cX11_need 20 = .ok (.lconst 0, 1) := by decide +kernel
theorem dX11_need_21 : decode cX11_need 21 = .ok (.lstore_n 2, 1) := by decide +kernel
theorem dX11_need_22 : decode cX11_need 22 = .ok (.iconst 0, 1) := by decide +kernel
theorem dX11_need_23 : decode cX11_need 23 = .ok (.istore 4, 2) := by decide +kernel
theorem dX11_need_25 : decode cX11_need 25 = .ok (.iload 4, 2) := by decide +kernel
theorem dX11_need_27 : decode cX11_need 27 = .ok (.aload_n 0, 1) := by decide +kernel
theorem dX11_need_28 : decode cX11_need 28 = .ok (.getfield 213, 3) := by decide +kernel
theorem dX11_need_31 : decode cX11_need 31 = .ok (.if_icmp .ge 64, 3) := by decide +kernel
theorem dX11_need_34 : decode cX11_need 34 = .ok (.aload_n 0, 1) := by decide +kernel
theorem dX11_need_35 : decode cX11_need 35 = .ok (.iload 4, 2) := by decide +kernel
theorem dX11_need_37 : decode cX11_need 37 = .ok (.invokevirtual 216, 3) := by decide +kernel
theorem dX11_need_40 : decode cX11_need 40 = .ok (.lload_n 2, 1) := by decide +kernel
theorem dX11_need_41 : decode cX11_need 41 = .ok (.aload_n 0, 1) := by decide +kernel
theorem dX11_need_42 : decode cX11_need 42 = .ok (.getfield 64, 3) := by decide +kernel
theorem dX11_need_45 : decode cX11_need 45 = .ok (.iload 4, 2) := by decide +kernel
theorem dX11_need_47 : decode cX11_need 47 = .ok (.baload, 1) := by decide +kernel
theorem dX11_need_48 : decode cX11_need 48 = .ok (.ifCond .eq 7, 3) := by decide +kernel
theorem dX11_need_51 : decode cX11_need 51 = .ok (.lconst 0, 1) := by decide +kernel
theorem dX11_need_52 : decode cX11_need 52 = .ok (.goto 31, 3) := by decide +kernel
theorem dX11_need_55 : decode cX11_need 55 = .ok (.aload_n 0, 1) := by decide +kernel
theorem dX11_need_56 : decode cX11_need 56 = .ok (.getfield 58, 3) := by decide +kernel
theorem dX11_need_59 : decode cX11_need 59 = .ok (.iload 4, 2) := by decide +kernel
theorem dX11_need_61 : decode cX11_need 61 = .ok (.iaload, 1) := by decide +kernel
theorem dX11_need_62 : decode cX11_need 62 = .ok (.i2l, 1) := by decide +kernel
theorem dX11_need_63 : decode cX11_need 63 = .ok (.aload_n 0, 1) := by decide +kernel
theorem dX11_need_64 : decode cX11_need 64 = .ok (.aload_n 0, 1) := by decide +kernel
theorem dX11_need_65 : decode cX11_need 65 = .ok (.getfield 52, 3) := by decide +kernel
theorem dX11_need_68 : decode cX11_need 68 = .ok (.iload 4, 2) := by decide +kernel
theorem dX11_need_70 : decode cX11_need 70 = .ok (.iaload, 1) := by decide +kernel
theorem dX11_need_71 : decode cX11_need 71 = .ok (.iload_n 1, 1) := by decide +kernel
theorem dX11_need_72 : decode cX11_need 72 = .ok (.aload_n 0, 1) := by decide +kernel
theorem dX11_need_73 : decode cX11_need 73 = .ok (.getfield 55, 3) := by decide +kernel
theorem dX11_need_76 : decode cX11_need 76 = .ok (.iload 4, 2) := by decide +kernel
theorem dX11_need_78 : decode cX11_need 78 = .ok (.iaload, 1) := by decide +kernel
theorem dX11_need_79 : decode cX11_need 79 = .ok (.invokevirtual 171, 3) := by decide +kernel
theorem dX11_need_82 : decode cX11_need 82 = .ok (.lmul, 1) := by decide +kernel
theorem dX11_need_83 : decode cX11_need 83 = .ok (.ladd, 1) := by decide +kernel
theorem dX11_need_84 : decode cX11_need 84 = .ok (.lstore_n 2, 1) := by decide +kernel
theorem dX11_need_85 : decode cX11_need 85 = .ok (.aload_n 0, 1) := by decide +kernel
theorem dX11_need_86 : decode cX11_need 86 = .ok (.invokevirtual 220, 3) := by decide +kernel
theorem dX11_need_89 : decode cX11_need 89 = .ok (.iinc 4 1, 3) := by decide +kernel
theorem dX11_need_92 : decode cX11_need 92 = .ok (.goto (-67), 3) := by decide +kernel
theorem dX11_need_95 : decode cX11_need 95 = .ok (.lload_n 2, 1) := by decide +kernel
theorem dX11_need_96 : decode cX11_need 96 = .ok (.lreturn, 1) := by decide +kernel
theorem dX11_isConsistent_0 : decode cX11_isConsistent 0 = .ok (.aload_n 0, 1) := by decide +kernel
theorem dX11_isConsistent_1 : decode cX11_isConsistent 1 = .ok (.iconst 0, 1) := by decide +kernel
theorem dX11_isConsistent_2 : decode cX11_isConsistent 2 = .ok (.putfield 82, 3) := by decide +kernel
theorem dX11_isConsistent_5 : decode cX11_isConsistent 5 = .ok (.iconst 1, 1) := by decide +kernel
theorem dX11_isConsistent_6 : decode cX11_isConsistent 6 = .ok (.ireturn, 1) := by decide +kernel
