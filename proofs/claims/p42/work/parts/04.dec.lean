/-! DECODE ROWS of the class (out of the task's NAMES) -/
theorem dJxe99ae_isNaN_b9ae7_0 : decode cJxe99ae_isNaN_b9ae7 0 = .ok (.dload_n 0, 1) := by decide +kernel
theorem dJxe99ae_isNaN_b9ae7_1 : decode cJxe99ae_isNaN_b9ae7 1 = .ok (.dload_n 0, 1) := by decide +kernel
theorem dJxe99ae_isNaN_b9ae7_2 : decode cJxe99ae_isNaN_b9ae7 2 = .ok (.dcmp .l, 1) := by decide +kernel
theorem dJxe99ae_isNaN_b9ae7_3 : decode cJxe99ae_isNaN_b9ae7 3 = .ok (.ifCond .eq 7, 3) := by decide +kernel
theorem dJxe99ae_isNaN_b9ae7_6 : decode cJxe99ae_isNaN_b9ae7 6 = .ok (.iconst 1, 1) := by decide +kernel
theorem dJxe99ae_isNaN_b9ae7_7 : decode cJxe99ae_isNaN_b9ae7 7 = .ok (.goto 4, 3) := by decide +kernel
theorem dJxe99ae_isNaN_b9ae7_10 : decode cJxe99ae_isNaN_b9ae7 10 = .ok (.iconst 0, 1) := by decide +kernel
theorem dJxe99ae_isNaN_b9ae7_11 : decode cJxe99ae_isNaN_b9ae7 11 = .ok (.ireturn, 1) := by decide +kernel
theorem dJxe99ae_doubleToLongBits_ccdee_0 : decode cJxe99ae_doubleToLongBits_ccdee 0 = .ok (.dload_n 0, 1) := by decide +kernel
theorem dJxe99ae_doubleToLongBits_ccdee_1 : decode cJxe99ae_doubleToLongBits_ccdee 1 = .ok (.invokestatic 122, 3) := by decide +kernel
theorem dJxe99ae_doubleToLongBits_ccdee_4 : decode cJxe99ae_doubleToLongBits_ccdee 4 = .ok (.ifCond .ne 8, 3) := by decide +kernel
theorem dJxe99ae_doubleToLongBits_ccdee_7 : decode cJxe99ae_doubleToLongBits_ccdee 7 = .ok (.dload_n 0, 1) := by decide +kernel
theorem dJxe99ae_doubleToLongBits_ccdee_8 : decode cJxe99ae_doubleToLongBits_ccdee 8 = .ok (.invokestatic 134, 3) := by decide +kernel
theorem dJxe99ae_doubleToLongBits_ccdee_11 : decode cJxe99ae_doubleToLongBits_ccdee 11 = .ok (.lreturn, 1) := by decide +kernel
theorem dJxe99ae_doubleToLongBits_ccdee_12 : decode cJxe99ae_doubleToLongBits_ccdee 12 = .ok (.ldc2_w 137, 3) := by decide +kernel
theorem dJxe99ae_doubleToLongBits_ccdee_15 : decode cJxe99ae_doubleToLongBits_ccdee 15 = .ok (.lreturn, 1) := by decide +kernel
theorem dJxf58ca_isNaN_12338_0 : decode cJxf58ca_isNaN_12338 0 = .ok (.fload_n 0, 1) := by decide +kernel
theorem dJxf58ca_isNaN_12338_1 : decode cJxf58ca_isNaN_12338 1 = .ok (.fload_n 0, 1) := by decide +kernel
theorem dJxf58ca_isNaN_12338_2 : decode cJxf58ca_isNaN_12338 2 = .ok (.fcmp .l, 1) := by decide +kernel
theorem dJxf58ca_isNaN_12338_3 : decode cJxf58ca_isNaN_12338 3 = .ok (.ifCond .eq 7, 3) := by decide +kernel
theorem dJxf58ca_isNaN_12338_6 : decode cJxf58ca_isNaN_12338 6 = .ok (.iconst 1, 1) := by decide +kernel
theorem dJxf58ca_isNaN_12338_7 : decode cJxf58ca_isNaN_12338 7 = .ok (.goto 4, 3) := by decide +kernel
theorem dJxf58ca_isNaN_12338_10 : decode cJxf58ca_isNaN_12338 10 = .ok (.iconst 0, 1) := by decide +kernel
theorem dJxf58ca_isNaN_12338_11 : decode cJxf58ca_isNaN_12338 11 = .ok (.ireturn, 1) := by decide +kernel
theorem dJxf58ca_floatToIntBits_5c35a_0 : decode cJxf58ca_floatToIntBits_5c35a 0 = .ok (.fload_n 0, 1) := by decide +kernel
theorem dJxf58ca_floatToIntBits_5c35a_1 : decode cJxf58ca_floatToIntBits_5c35a 1 = .ok (.invokestatic 59, 3) := by decide +kernel
theorem dJxf58ca_floatToIntBits_5c35a_4 : decode cJxf58ca_floatToIntBits_5c35a 4 = .ok (.ifCond .ne 8, 3) := by decide +kernel
theorem dJxf58ca_floatToIntBits_5c35a_7 : decode cJxf58ca_floatToIntBits_5c35a 7 = .ok (.fload_n 0, 1) := by decide +kernel
theorem dJxf58ca_floatToIntBits_5c35a_8 : decode cJxf58ca_floatToIntBits_5c35a 8 = .ok (.invokestatic 74, 3) := by decide +kernel
theorem dJxf58ca_floatToIntBits_5c35a_11 : decode cJxf58ca_floatToIntBits_5c35a 11 = .ok (.ireturn, 1) := by decide +kernel
theorem dJxf58ca_floatToIntBits_5c35a_12 : decode cJxf58ca_floatToIntBits_5c35a 12 = .ok (.ldc 77, 2) := by decide +kernel
theorem dJxf58ca_floatToIntBits_5c35a_14 : decode cJxf58ca_floatToIntBits_5c35a 14 = .ok (.ireturn, 1) := by decide +kernel
theorem dJ9_max_7cf53_0 : decode cJ9_max_7cf53 0 = .ok (.iload_n 0, 1) := by decide +kernel
theorem dJ9_max_7cf53_1 : decode cJ9_max_7cf53 1 = .ok (.iload_n 1, 1) := by decide +kernel
theorem dJ9_max_7cf53_2 : decode cJ9_max_7cf53 2 = .ok (.if_icmp .lt 7, 3) := by decide +kernel
theorem dJ9_max_7cf53_5 : decode cJ9_max_7cf53 5 = .ok (.iload_n 0, 1) := by decide +kernel
theorem dJ9_max_7cf53_6 : decode cJ9_max_7cf53 6 = .ok (.goto 4, 3) := by decide +kernel
theorem dJ9_max_7cf53_9 : decode cJ9_max_7cf53 9 = .ok (.iload_n 1, 1) := by decide +kernel
theorem dJ9_max_7cf53_10 : decode cJ9_max_7cf53 10 = .ok (.ireturn, 1) := by decide +kernel
theorem dX0_init_0 : decode cX0_init 0 = .ok (.aload_n 0, 1) := by decide +kernel
theorem dX0_init_1 : decode cX0_init 1 = .ok (.invokespecial 3, 3) := by decide +kernel
theorem dX0_init_4 : decode cX0_init 4 = .ok (.aload_n 0, 1) := by decide +kernel
theorem dX0_init_5 : decode cX0_init 5 = .ok (.new 9, 3) := by decide +kernel
theorem dX0_init_8 : decode cX0_init 8 = .ok (.dup, 1) := by decide +kernel
theorem dX0_init_9 : decode cX0_init 9 = .ok (.invokespecial 11, 3) := by decide +kernel
theorem dX0_init_12 : decode cX0_init 12 = .ok (.putfield 12, 3) := by decide +kernel
theorem dX0_init_15 : decode cX0_init 15 = .ok (.aload_n 0, 1) := by decide +kernel
theorem dX0_init_16 : decode cX0_init 16 = .ok (.new 18, 3) := by decide +kernel
theorem dX0_init_19 : decode cX0_init 19 = .ok (.dup, 1) := by decide +kernel
theorem dX0_init_20 : decode cX0_init 20 = .ok (.invokespecial 20, 3) := by decide +kernel
theorem dX0_init_23 : decode cX0_init 23 = .ok (.putfield 21, 3) := by decide +kernel
theorem dX0_init_26 : decode cX0_init 26 = .ok (.aload_n 0, 1) := by decide +kernel
theorem dX0_init_27 : decode cX0_init 27 = .ok (.bipush 16, 2) := by decide +kernel
theorem dX0_init_29 : decode cX0_init 29 = .ok (.newarray .int, 2) := by decide +kernel
theorem dX0_init_31 : decode cX0_init 31 = .ok (.putfield 25, 3) := by decide +kernel
theorem dX0_init_34 : decode cX0_init 34 = .ok (.aload_n 0, 1) := by decide +kernel
theorem dX0_init_35 : decode cX0_init 35 = .ok (.bipush 16, 2) := by decide +kernel
theorem dX0_init_37 : decode cX0_init 37 = .ok (.newarray .int, 2) := by decide +kernel
theorem dX0_init_39 : decode cX0_init 39 = .ok (.putfield 29, 3) := by decide +kernel
theorem dX0_init_42 : decode cX0_init 42 = .ok (.aload_n 0, 1) := by decide +kernel
theorem dX0_init_43 : decode cX0_init 43 = .ok (.bipush 16, 2) := by decide +kernel
theorem dX0_init_45 : decode cX0_init 45 = .ok (.newarray .int, 2) := by decide +kernel
theorem dX0_init_47 : decode cX0_init 47 = .ok (.putfield 32, 3) := by decide +kernel
theorem dX0_init_50 : decode cX0_init 50 = .ok (.aload_n 0, 1) := by decide +kernel
theorem dX0_init_51 : decode cX0_init 51 = .ok (.bipush 96, 2) := by decide +kernel
theorem dX0_init_53 : decode cX0_init 53 = .ok (.newarray .int, 2) := by decide +kernel
theorem dX0_init_55 : decode cX0_init 55 = .ok (.putfield 35, 3) := by decide +kernel
theorem dX0_init_58 : decode cX0_init 58 = .ok (.return_, 1) := by decide +kernel
theorem dX0_add_0 : decode cX0_add 0 = .ok (.aload_n 0, 1) := by decide +kernel
theorem dX0_add_1 : decode cX0_add 1 = .ok (.getfield 25, 3) := by decide +kernel
theorem dX0_add_4 : decode cX0_add 4 = .ok (.iload_n 1, 1) := by decide +kernel
theorem dX0_add_5 : decode cX0_add 5 = .ok (.dup2, 1) := by decide +kernel
theorem dX0_add_6 : decode cX0_add 6 = .ok (.iaload, 1) := by decide +kernel
theorem dX0_add_7 : decode cX0_add 7 = .ok (.iconst 1, 1) := by decide +kernel
theorem dX0_add_8 : decode cX0_add 8 = .ok (.iload_n 3, 1) := by decide +kernel
theorem dX0_add_9 : decode cX0_add 9 = .ok (.ishl, 1) := by decide +kernel
theorem dX0_add_10 : decode cX0_add 10 = .ok (.ior, 1) := by decide +kernel
theorem dX0_add_11 : decode cX0_add 11 = .ok (.iastore, 1) := by decide +kernel
theorem dX0_add_12 : decode cX0_add 12 = .ok (.aload_n 0, 1) := by decide +kernel
theorem dX0_add_13 : decode cX0_add 13 = .ok (.getfield 29, 3) := by decide +kernel
theorem dX0_add_16 : decode cX0_add 16 = .ok (.iload_n 3, 1) := by decide +kernel
theorem dX0_add_17 : decode cX0_add 17 = .ok (.dup2, 1) := by decide +kernel
theorem dX0_add_18 : decode cX0_add 18 = .ok (.iaload, 1) := by decide +kernel
theorem dX0_add_19 : decode cX0_add 19 = .ok (.iconst 1, 1) := by decide +kernel
theorem dX0_add_20 : decode cX0_add 20 = .ok (.iload_n 1, 1) := by decide +kernel
theorem dX0_add_21 : decode cX0_add 21 = .ok (.ishl, 1) := by decide +kernel
theorem dX0_add_22 : decode cX0_add 22 = .ok (.ior, 1) := by decide +kernel
theorem dX0_add_23 : decode cX0_add 23 = .ok (.iastore, 1) := by decide +kernel
theorem dX0_add_24 : decode cX0_add 24 = .ok (.aload_n 0, 1) := by decide +kernel
theorem dX0_add_25 : decode cX0_add 25 = .ok (.getfield 21, 3) := by decide +kernel
theorem dX0_add_28 : decode cX0_add 28 = .ok (.iload_n 1, 1) := by decide +kernel
theorem dX0_add_29 : decode cX0_add 29 = .ok (.iload_n 2, 1) := by decide +kernel
theorem dX0_add_30 : decode cX0_add 30 = .ok (.iload_n 3, 1) := by decide +kernel
theorem dX0_add_31 : decode cX0_add 31 = .ok (.iload 4, 2) := by decide +kernel
theorem dX0_add_33 : decode cX0_add 33 = .ok (.invokevirtual 38, 3) := by decide +kernel
theorem dX0_add_36 : decode cX0_add 36 = .ok (.ireturn, 1) := by decide +kernel
theorem dX0_select_0 : decode cX0_select 0 = .ok (.iconst 0, 1) := by decide +kernel
theorem dX0_select_1 : decode cX0_select 1 = .ok (.istore_n 3, 1) := by decide +kernel
theorem dX0_select_2 : decode cX0_select 2 = .ok (.iload_n 3, 1) := by decide +kernel
theorem dX0_select_3 : decode cX0_select 3 = .ok (.aload_n 0, 1) := by decide +kernel
theorem dX0_select_4 : decode cX0_select 4 = .ok (.getfield 35, 3) := by decide +kernel
theorem dX0_select_7 : decode cX0_select 7 = .ok (.arraylength, 1) := by decide +kernel
theorem dX0_select_8 : decode cX0_select 8 = .ok (.if_icmp .ge 16, 3) := by decide +kernel
theorem dX0_select_11 : decode cX0_select 11 = .ok (.aload_n 0, 1) := by decide +kernel
theorem dX0_select_12 : decode cX0_select 12 = .ok (.getfield 35, 3) := by decide +kernel
theorem dX0_select_15 : decode cX0_select 15 = .ok (.iload_n 3, 1) := by decide +kernel
theorem dX0_select_16 : decode cX0_select 16 = .ok (.iconst (-1), 1) := by decide +kernel
theorem dX0_select_17 : decode cX0_select 17 = .ok (.iastore, 1) := by decide +kernel
theorem dX0_select_18 : decode cX0_select 18 = .ok (.iinc 3 1, 3) := by decide +kernel
theorem dX0_select_21 : decode cX0_select 21 = .ok (.goto (-19), 3) := by decide +kernel
theorem dX0_select_24 : decode cX0_select 24 = .ok (.iconst 0, 1) := by decide +kernel
theorem dX0_select_25 : decode cX0_select 25 = .ok (.istore_n 3, 1) := by decide +kernel
theorem dX0_select_26 : decode cX0_select 26 = .ok (.iload_n 3, 1) := by decide +kernel
theorem dX0_select_27 : decode cX0_select 27 = .ok (.bipush 16, 2) := by decide +kernel
theorem dX0_select_29 : decode cX0_select 29 = .ok (.if_icmp .ge 16, 3) := by decide +kernel
theorem dX0_select_32 : decode cX0_select 32 = .ok (.aload_n 0, 1) := by decide +kernel
theorem dX0_select_33 : decode cX0_select 33 = .ok (.getfield 32, 3) := by decide +kernel
theorem dX0_select_36 : decode cX0_select 36 = .ok (.iload_n 3, 1) := by decide +kernel
theorem dX0_select_37 : decode cX0_select 37 = .ok (.iconst 0, 1) := by decide +kernel
theorem dX0_select_38 : decode cX0_select 38 = .ok (.iastore, 1) := by decide +kernel
theorem dX0_select_39 : decode cX0_select 39 = .ok (.iinc 3 1, 3) := by decide +kernel
theorem dX0_select_42 : decode cX0_select 42 = .ok (.goto (-16), 3) := by decide +kernel
theorem dX0_select_45 : decode cX0_select 45 = .ok (.iconst 0, 1) := by decide +kernel
theorem dX0_select_46 : decode cX0_select 46 = .ok (.istore_n 3, 1) := by decide +kernel
theorem dX0_select_47 : decode cX0_select 47 = .ok (.iload_n 3, 1) := by decide +kernel
theorem dX0_select_48 : decode cX0_select 48 = .ok (.aload_n 0, 1) := by decide +kernel
theorem dX0_select_49 : decode cX0_select 49 = .ok (.getfield 21, 3) := by decide +kernel
theorem dX0_select_52 : decode cX0_select 52 = .ok (.getfield 42, 3) := by decide +kernel
theorem dX0_select_55 : decode cX0_select 55 = .ok (.if_icmp .ge 74, 3) := by decide +kernel
theorem dX0_select_58 : decode cX0_select 58 = .ok (.aload_n 0, 1) := by decide +kernel
theorem dX0_select_59 : decode cX0_select 59 = .ok (.getfield 21, 3) := by decide +kernel
theorem dX0_select_62 : decode cX0_select 62 = .ok (.iload_n 3, 1) := by decide +kernel
theorem dX0_select_63 : decode cX0_select 63 = .ok (.iload_n 1, 1) := by decide +kernel
theorem dX0_select_64 : decode cX0_select 64 = .ok (.iload_n 2, 1) := by decide +kernel
theorem dX0_select_65 : decode cX0_select 65 = .ok (.invokevirtual 46, 3) := by decide +kernel
theorem dX0_select_68 : decode cX0_select 68 = .ok (.ifCond .eq 55, 3) := by decide +kernel
theorem dX0_select_71 : decode cX0_select 71 = .ok (.aload_n 0, 1) := by decide +kernel
theorem dX0_select_72 : decode cX0_select 72 = .ok (.getfield 21, 3) := by decide +kernel
theorem dX0_select_75 : decode cX0_select 75 = .ok (.getfield 50, 3) := by decide +kernel
theorem dX0_select_78 : decode cX0_select 78 = .ok (.iload_n 3, 1) := by decide +kernel
theorem dX0_select_79 : decode cX0_select 79 = .ok (.iaload, 1) := by decide +kernel
theorem dX0_select_80 : decode cX0_select 80 = .ok (.istore 4, 2) := by decide +kernel
theorem dX0_select_82 : decode cX0_select 82 = .ok (.aload_n 0, 1) := by decide +kernel
theorem dX0_select_83 : decode cX0_select 83 = .ok (.getfield 35, 3) := by decide +kernel
theorem dX0_select_86 : decode cX0_select 86 = .ok (.iload 4, 2) := by decide +kernel
theorem dX0_select_88 : decode cX0_select 88 = .ok (.aload_n 0, 1) := by decide +kernel
theorem dX0_select_89 : decode cX0_select 89 = .ok (.getfield 21, 3) := by decide +kernel
theorem dX0_select_92 : decode cX0_select 92 = .ok (.getfield 53, 3) := by decide +kernel
theorem dX0_select_95 : decode cX0_select 95 = .ok (.iload_n 3, 1) := by decide +kernel
theorem dX0_select_96 : decode cX0_select 96 = .ok (.iaload, 1) := by decide +kernel
theorem dX0_select_97 : decode cX0_select 97 = .ok (.invokestatic 56, 3) := by decide +kernel
theorem dX0_select_100 : decode cX0_select 100 = .ok (.iload_n 3, 1) := by decide +kernel
theorem dX0_select_101 : decode cX0_select 101 = .ok (.iastore, 1) := by decide +kernel
theorem dX0_select_102 : decode cX0_select 102 = .ok (.aload_n 0, 1) := by decide +kernel
theorem dX0_select_103 : decode cX0_select 103 = .ok (.getfield 32, 3) := by decide +kernel
theorem dX0_select_106 : decode cX0_select 106 = .ok (.iload 4, 2) := by decide +kernel
theorem dX0_select_108 : decode cX0_select 108 = .ok (.dup2, 1) := by decide +kernel
theorem dX0_select_109 : decode cX0_select 109 = .ok (.iaload, 1) := by decide +kernel
theorem dX0_select_110 : decode cX0_select 110 = .ok (.iconst 1, 1) := by decide +kernel
theorem dX0_select_111 : decode cX0_select 111 = .ok (.aload_n 0, 1) := by decide +kernel
theorem dX0_select_112 : decode cX0_select 112 = .ok (.getfield 21, 3) := by decide +kernel
theorem dX0_select_115 : decode cX0_select 115 = .ok (.getfield 60, 3) := by decide +kernel
theorem dX0_select_118 : decode cX0_select 118 = .ok (.iload_n 3, 1) := by decide +kernel
theorem dX0_select_119 : decode cX0_select 119 = .ok (.iaload, 1) := by decide +kernel
theorem dX0_select_120 : decode cX0_select 120 = .ok (.ishl, 1) := by decide +kernel
theorem dX0_select_121 : decode cX0_select 121 = .ok (.ior, 1) := by decide +kernel
theorem dX0_select_122 : decode cX0_select 122 = .ok (.iastore, 1) := by decide +kernel
theorem dX0_select_123 : decode cX0_select 123 = .ok (.iinc 3 1, 3) := by decide +kernel
theorem dX0_select_126 : decode cX0_select 126 = .ok (.goto (-79), 3) := by decide +kernel
theorem dX0_select_129 : decode cX0_select 129 = .ok (.return_, 1) := by decide +kernel
theorem dX0_heldLine_0 : decode cX0_heldLine 0 = .ok (.aload_n 0, 1) := by decide +kernel
theorem dX0_heldLine_1 : decode cX0_heldLine 1 = .ok (.getfield 35, 3) := by decide +kernel
theorem dX0_heldLine_4 : decode cX0_heldLine 4 = .ok (.iload_n 1, 1) := by decide +kernel
theorem dX0_heldLine_5 : decode cX0_heldLine 5 = .ok (.iload_n 2, 1) := by decide +kernel
theorem dX0_heldLine_6 : decode cX0_heldLine 6 = .ok (.invokestatic 56, 3) := by decide +kernel
theorem dX0_heldLine_9 : decode cX0_heldLine 9 = .ok (.iaload, 1) := by decide +kernel
theorem dX0_heldLine_10 : decode cX0_heldLine 10 = .ok (.ireturn, 1) := by decide +kernel
theorem dX0_hasHeldChildrenIn_0 : decode cX0_hasHeldChildrenIn 0 = .ok (.aload_n 0, 1) := by decide +kernel
theorem dX0_hasHeldChildrenIn_1 : decode cX0_hasHeldChildrenIn 1 = .ok (.getfield 32, 3) := by decide +kernel
theorem dX0_hasHeldChildrenIn_4 : decode cX0_hasHeldChildrenIn 4 = .ok (.iload_n 1, 1) := by decide +kernel
theorem dX0_hasHeldChildrenIn_5 : decode cX0_hasHeldChildrenIn 5 = .ok (.iaload, 1) := by decide +kernel
theorem dX0_hasHeldChildrenIn_6 : decode cX0_hasHeldChildrenIn 6 = .ok (.iload_n 2, 1) := by decide +kernel
theorem dX0_hasHeldChildrenIn_7 : decode cX0_hasHeldChildrenIn 7 = .ok (.iconst (-1), 1) := by decide +kernel
theorem dX0_hasHeldChildrenIn_8 : decode cX0_hasHeldChildrenIn 8 = .ok (.ixor, 1) := by decide +kernel
theorem dX0_hasHeldChildrenIn_9 : decode cX0_hasHeldChildrenIn 9 = .ok (.iand, 1) := by decide +kernel
theorem dX0_hasHeldChildrenIn_10 : decode cX0_hasHeldChildrenIn 10 = .ok (.ifCond .ne 7, 3) := by decide +kernel
theorem dX0_hasHeldChildrenIn_13 : decode cX0_hasHeldChildrenIn 13 = .ok (.iconst 1, 1) := by decide +kernel
theorem dX0_hasHeldChildrenIn_14 : decode cX0_hasHeldChildrenIn 14 = .ok (.goto 4, 3) := by decide +kernel
theorem dX0_hasHeldChildrenIn_17 : decode cX0_hasHeldChildrenIn 17 = .ok (.iconst 0, 1) := by decide +kernel
theorem dX0_hasHeldChildrenIn_18 : decode cX0_hasHeldChildrenIn 18 = .ok (.ireturn, 1) := by decide +kernel
theorem dX0_levelsBelow_0 : decode cX0_levelsBelow 0 = .ok (.aload_n 0, 1) := by decide +kernel
theorem dX0_levelsBelow_1 : decode cX0_levelsBelow 1 = .ok (.getfield 25, 3) := by decide +kernel
theorem dX0_levelsBelow_4 : decode cX0_levelsBelow 4 = .ok (.iload_n 1, 1) := by decide +kernel
theorem dX0_levelsBelow_5 : decode cX0_levelsBelow 5 = .ok (.invokestatic 63, 3) := by decide +kernel
theorem dX0_levelsBelow_8 : decode cX0_levelsBelow 8 = .ok (.ireturn, 1) := by decide +kernel
theorem dX0_levelsAbove_0 : decode cX0_levelsAbove 0 = .ok (.aload_n 0, 1) := by decide +kernel
theorem dX0_levelsAbove_1 : decode cX0_levelsAbove 1 = .ok (.getfield 29, 3) := by decide +kernel
theorem dX0_levelsAbove_4 : decode cX0_levelsAbove 4 = .ok (.iload_n 1, 1) := by decide +kernel
theorem dX0_levelsAbove_5 : decode cX0_levelsAbove 5 = .ok (.invokestatic 63, 3) := by decide +kernel
theorem dX0_levelsAbove_8 : decode cX0_levelsAbove 8 = .ok (.ireturn, 1) := by decide +kernel
theorem dX0_heldLevelsBelow_0 : decode cX0_heldLevelsBelow 0 = .ok (.aload_n 0, 1) := by decide +kernel
theorem dX0_heldLevelsBelow_1 : decode cX0_heldLevelsBelow 1 = .ok (.getfield 32, 3) := by decide +kernel
theorem dX0_heldLevelsBelow_4 : decode cX0_heldLevelsBelow 4 = .ok (.iload_n 1, 1) := by decide +kernel
theorem dX0_heldLevelsBelow_5 : decode cX0_heldLevelsBelow 5 = .ok (.invokestatic 63, 3) := by decide +kernel
theorem dX0_heldLevelsBelow_8 : decode cX0_heldLevelsBelow 8 = .ok (.ireturn, 1) := by decide +kernel
theorem dX0_isWithin_0 : decode cX0_isWithin 0 = .ok (.iconst 1, 1) := by decide +kernel
theorem dX0_isWithin_1 : decode cX0_isWithin 1 = .ok (.iload_n 2, 1) := by decide +kernel
theorem dX0_isWithin_2 : decode cX0_isWithin 2 = .ok (.ishl, 1) := by decide +kernel
theorem dX0_isWithin_3 : decode cX0_isWithin 3 = .ok (.istore_n 3, 1) := by decide +kernel
theorem dX0_isWithin_4 : decode cX0_isWithin 4 = .ok (.iconst 0, 1) := by decide +kernel
theorem dX0_isWithin_5 : decode cX0_isWithin 5 = .ok (.istore 4, 2) := by decide +kernel
theorem dX0_isWithin_7 : decode cX0_isWithin 7 = .ok (.iload 4, 2) := by decide +kernel
theorem dX0_isWithin_9 : decode cX0_isWithin 9 = .ok (.iconst 4, 1) := by decide +kernel
theorem dX0_isWithin_10 : decode cX0_isWithin 10 = .ok (.if_icmp .ge 20, 3) := by decide +kernel
theorem dX0_isWithin_13 : decode cX0_isWithin 13 = .ok (.iload_n 3, 1) := by decide +kernel
theorem dX0_isWithin_14 : decode cX0_isWithin 14 = .ok (.aload_n 0, 1) := by decide +kernel
theorem dX0_isWithin_15 : decode cX0_isWithin 15 = .ok (.getfield 25, 3) := by decide +kernel
theorem dX0_isWithin_18 : decode cX0_isWithin 18 = .ok (.iload_n 3, 1) := by decide +kernel
theorem dX0_isWithin_19 : decode cX0_isWithin 19 = .ok (.invokestatic 67, 3) := by decide +kernel
theorem dX0_isWithin_22 : decode cX0_isWithin 22 = .ok (.ior, 1) := by decide +kernel
theorem dX0_isWithin_23 : decode cX0_isWithin 23 = .ok (.istore_n 3, 1) := by decide +kernel
theorem dX0_isWithin_24 : decode cX0_isWithin 24 = .ok (.iinc 4 1, 3) := by decide +kernel
theorem dX0_isWithin_27 : decode cX0_isWithin 27 = .ok (.goto (-20), 3) := by decide +kernel
theorem dX0_isWithin_30 : decode cX0_isWithin 30 = .ok (.iload_n 3, 1) := by decide +kernel
theorem dX0_isWithin_31 : decode cX0_isWithin 31 = .ok (.iconst 1, 1) := by decide +kernel
theorem dX0_isWithin_32 : decode cX0_isWithin 32 = .ok (.iload_n 1, 1) := by decide +kernel
theorem dX0_isWithin_33 : decode cX0_isWithin 33 = .ok (.ishl, 1) := by decide +kernel
theorem dX0_isWithin_34 : decode cX0_isWithin 34 = .ok (.iand, 1) := by decide +kernel
theorem dX0_isWithin_35 : decode cX0_isWithin 35 = .ok (.ifCond .eq 7, 3) := by decide +kernel
theorem dX0_isWithin_38 : decode cX0_isWithin 38 = .ok (.iconst 1, 1) := by decide +kernel
theorem dX0_isWithin_39 : decode cX0_isWithin 39 = .ok (.goto 4, 3) := by decide +kernel
theorem dX0_isWithin_42 : decode cX0_isWithin 42 = .ok (.iconst 0, 1) := by decide +kernel
theorem dX0_isWithin_43 : decode cX0_isWithin 43 = .ok (.ireturn, 1) := by decide +kernel
theorem dX0_isShallow_0 : decode cX0_isShallow 0 = .ok (.iconst 0, 1) := by decide +kernel
theorem dX0_isShallow_1 : decode cX0_isShallow 1 = .ok (.istore_n 1, 1) := by decide +kernel
theorem dX0_isShallow_2 : decode cX0_isShallow 2 = .ok (.iload_n 1, 1) := by decide +kernel
theorem dX0_isShallow_3 : decode cX0_isShallow 3 = .ok (.aload_n 0, 1) := by decide +kernel
theorem dX0_isShallow_4 : decode cX0_isShallow 4 = .ok (.getfield 12, 3) := by decide +kernel
theorem dX0_isShallow_7 : decode cX0_isShallow 7 = .ok (.getfield 70, 3) := by decide +kernel
theorem dX0_isShallow_10 : decode cX0_isShallow 10 = .ok (.if_icmp .ge 20, 3) := by decide +kernel
theorem dX0_isShallow_13 : decode cX0_isShallow 13 = .ok (.aload_n 0, 1) := by decide +kernel
theorem dX0_isShallow_14 : decode cX0_isShallow 14 = .ok (.iload_n 1, 1) := by decide +kernel
theorem dX0_isShallow_15 : decode cX0_isShallow 15 = .ok (.invokevirtual 71, 3) := by decide +kernel
theorem dX0_isShallow_18 : decode cX0_isShallow 18 = .ok (.iconst 4, 1) := by decide +kernel
theorem dX0_isShallow_19 : decode cX0_isShallow 19 = .ok (.if_icmp .le 5, 3) := by decide +kernel
theorem dX0_isShallow_22 : decode cX0_isShallow 22 = .ok (.iconst 0, 1) := by decide +kernel
theorem dX0_isShallow_23 : decode cX0_isShallow 23 = .ok (.ireturn, 1) := by decide +kernel
theorem dX0_isShallow_24 : decode cX0_isShallow 24 = .ok (.iinc 1 1, 3) := by decide +kernel
theorem dX0_isShallow_27 : decode cX0_isShallow 27 = .ok (.goto (-25), 3) := by decide +kernel
theorem dX0_isShallow_30 : decode cX0_isShallow 30 = .ok (.iconst 1, 1) := by decide +kernel
theorem dX0_isShallow_31 : decode cX0_isShallow 31 = .ok (.ireturn, 1) := by decide +kernel
theorem dX0_hasSoundSets_0 : decode cX0_hasSoundSets 0 = .ok (.iconst 0, 1) := by decide +kernel
theorem dX0_hasSoundSets_1 : decode cX0_hasSoundSets 1 = .ok (.istore_n 1, 1) := by decide +kernel
theorem dX0_hasSoundSets_2 : decode cX0_hasSoundSets 2 = .ok (.iload_n 1, 1) := by decide +kernel
theorem dX0_hasSoundSets_3 : decode cX0_hasSoundSets 3 = .ok (.bipush 16, 2) := by decide +kernel
theorem dX0_hasSoundSets_5 : decode cX0_hasSoundSets 5 = .ok (.if_icmp .ge 114, 3) := by decide +kernel
theorem dX0_hasSoundSets_8 : decode cX0_hasSoundSets 8 = .ok (.iconst 0, 1) := by decide +kernel
theorem dX0_hasSoundSets_9 : decode cX0_hasSoundSets 9 = .ok (.istore_n 2, 1) := by decide +kernel
theorem dX0_hasSoundSets_10 : decode cX0_hasSoundSets 10 = .ok (.iconst 0, 1) := by decide +kernel
theorem dX0_hasSoundSets_11 : decode cX0_hasSoundSets 11 = .ok (.istore_n 3, 1) := by decide +kernel
theorem dX0_hasSoundSets_12 : decode cX0_hasSoundSets 12 = .ok (.iconst 0, 1) := by decide +kernel
theorem dX0_hasSoundSets_13 : decode cX0_hasSoundSets 13 = .ok (.istore 4, 2) := by decide +kernel
theorem dX0_hasSoundSets_15 : decode cX0_hasSoundSets 15 = .ok (.iload 4, 2) := by decide +kernel
theorem dX0_hasSoundSets_17 : decode cX0_hasSoundSets 17 = .ok (.aload_n 0, 1) := by decide +kernel
theorem dX0_hasSoundSets_18 : decode cX0_hasSoundSets 18 = .ok (.getfield 21, 3) := by decide +kernel
theorem dX0_hasSoundSets_21 : decode cX0_hasSoundSets 21 = .ok (.getfield 42, 3) := by decide +kernel
theorem dX0_hasSoundSets_24 : decode cX0_hasSoundSets 24 = .ok (.if_icmp .ge 67, 3) := by decide +kernel
theorem dX0_hasSoundSets_27 : decode cX0_hasSoundSets 27 = .ok (.aload_n 0, 1) := by decide +kernel
theorem dX0_hasSoundSets_28 : decode cX0_hasSoundSets 28 = .ok (.getfield 21, 3) := by decide +kernel
theorem dX0_hasSoundSets_31 : decode cX0_hasSoundSets 31 = .ok (.getfield 50, 3) := by decide +kernel
theorem dX0_hasSoundSets_34 : decode cX0_hasSoundSets 34 = .ok (.iload 4, 2) := by decide +kernel
theorem dX0_hasSoundSets_36 : decode cX0_hasSoundSets 36 = .ok (.iaload, 1) := by decide +kernel
theorem dX0_hasSoundSets_37 : decode cX0_hasSoundSets 37 = .ok (.iload_n 1, 1) := by decide +kernel
theorem dX0_hasSoundSets_38 : decode cX0_hasSoundSets 38 = .ok (.if_icmp .ne 18, 3) := by decide +kernel
theorem dX0_hasSoundSets_41 : decode cX0_hasSoundSets 41 = .ok (.iload_n 2, 1) := by decide +kernel
theorem dX0_hasSoundSets_42 : decode cX0_hasSoundSets 42 = .ok (.iconst 1, 1) := by decide +kernel
theorem dX0_hasSoundSets_43 : decode cX0_hasSoundSets 43 = .ok (.aload_n 0, 1) := by decide +kernel
theorem dX0_hasSoundSets_44 : decode cX0_hasSoundSets 44 = .ok (.getfield 21, 3) := by decide +kernel
theorem dX0_hasSoundSets_47 : decode cX0_hasSoundSets 47 = .ok (.getfield 60, 3) := by decide +kernel
theorem dX0_hasSoundSets_50 : decode cX0_hasSoundSets 50 = .ok (.iload 4, 2) := by decide +kernel
theorem dX0_hasSoundSets_52 : decode cX0_hasSoundSets 52 = .ok (.iaload, 1) := by decide +kernel
theorem dX0_hasSoundSets_53 : decode cX0_hasSoundSets 53 = .ok (.ishl, 1) := by decide +kernel
theorem dX0_hasSoundSets_54 : decode cX0_hasSoundSets 54 = .ok (.ior, 1) := by decide +kernel
theorem dX0_hasSoundSets_55 : decode cX0_hasSoundSets 55 = .ok (.istore_n 2, 1) := by decide +kernel
theorem dX0_hasSoundSets_56 : decode cX0_hasSoundSets 56 = .ok (.aload_n 0, 1) := by decide +kernel
theorem dX0_hasSoundSets_57 : decode cX0_hasSoundSets 57 = .ok (.getfield 21, 3) := by decide +kernel
theorem dX0_hasSoundSets_60 : decode cX0_hasSoundSets 60 = .ok (.getfield 60, 3) := by decide +kernel
theorem dX0_hasSoundSets_63 : decode cX0_hasSoundSets 63 = .ok (.iload 4, 2) := by decide +kernel
theorem dX0_hasSoundSets_65 : decode cX0_hasSoundSets 65 = .ok (.iaload, 1) := by decide +kernel
theorem dX0_hasSoundSets_66 : decode cX0_hasSoundSets 66 = .ok (.iload_n 1, 1) := by decide +kernel
theorem dX0_hasSoundSets_67 : decode cX0_hasSoundSets 67 = .ok (.if_icmp .ne 18, 3) := by decide +kernel
theorem dX0_hasSoundSets_70 : decode cX0_hasSoundSets 70 = .ok (.iload_n 3, 1) := by decide +kernel
theorem dX0_hasSoundSets_71 : decode cX0_hasSoundSets 71 = .ok (.iconst 1, 1) := by decide +kernel
theorem dX0_hasSoundSets_72 : decode cX0_hasSoundSets 72 = .ok (.aload_n 0, 1) := by decide +kernel
theorem dX0_hasSoundSets_73 : decode cX0_hasSoundSets 73 = .ok (.getfield 21, 3) := by decide +kernel
theorem dX0_hasSoundSets_76 : decode cX0_hasSoundSets 76 = .ok (.getfield 50, 3) := by decide +kernel
theorem dX0_hasSoundSets_79 : decode cX0_hasSoundSets 79 = .ok (.iload 4, 2) := by decide +kernel
theorem dX0_hasSoundSets_81 : decode cX0_hasSoundSets 81 = .ok (.iaload, 1) := by decide +kernel
theorem dX0_hasSoundSets_82 : decode cX0_hasSoundSets 82 = .ok (.ishl, 1) := by decide +kernel
theorem dX0_hasSoundSets_83 : decode cX0_hasSoundSets 83 = .ok (.ior, 1) := by decide +kernel
theorem dX0_hasSoundSets_84 : decode cX0_hasSoundSets 84 = .ok (.istore_n 3, 1) := by decide +kernel
theorem dX0_hasSoundSets_85 : decode cX0_hasSoundSets 85 = .ok (.iinc 4 1, 3) := by decide +kernel
theorem dX0_hasSoundSets_88 : decode cX0_hasSoundSets 88 = .ok (.goto (-73), 3) := by decide +kernel
theorem dX0_hasSoundSets_91 : decode cX0_hasSoundSets 91 = .ok (.aload_n 0, 1) := by decide +kernel
theorem dX0_hasSoundSets_92 : decode cX0_hasSoundSets 92 = .ok (.getfield 25, 3) := by decide +kernel
theorem dX0_hasSoundSets_95 : decode cX0_hasSoundSets 95 = .ok (.iload_n 1, 1) := by decide +kernel
theorem dX0_hasSoundSets_96 : decode cX0_hasSoundSets 96 = .ok (.iaload, 1) := by decide +kernel
theorem dX0_hasSoundSets_97 : decode cX0_hasSoundSets 97 = .ok (.iload_n 2, 1) := by decide +kernel
theorem dX0_hasSoundSets_98 : decode cX0_hasSoundSets 98 = .ok (.if_icmp .ne 13, 3) := by decide +kernel
theorem dX0_hasSoundSets_101 : decode cX0_hasSoundSets 101 = .ok (.aload_n 0, 1) := by decide +kernel
theorem dX0_hasSoundSets_102 : decode cX0_hasSoundSets 102 = .ok (.getfield 29, 3) := by decide +kernel
theorem dX0_hasSoundSets_105 : decode cX0_hasSoundSets 105 = .ok (.iload_n 1, 1) := by decide +kernel
theorem dX0_hasSoundSets_106 : decode cX0_hasSoundSets 106 = .ok (.iaload, 1) := by decide +kernel
theorem dX0_hasSoundSets_107 : decode cX0_hasSoundSets 107 = .ok (.iload_n 3, 1) := by decide +kernel
theorem dX0_hasSoundSets_108 : decode cX0_hasSoundSets 108 = .ok (.if_icmp .eq 5, 3) := by decide +kernel
theorem dX0_hasSoundSets_111 : decode cX0_hasSoundSets 111 = .ok (.iconst 0, 1) := by decide +kernel
theorem dX0_hasSoundSets_112 : decode cX0_hasSoundSets 112 = .ok (.ireturn, 1) := by decide +kernel
theorem dX0_hasSoundSets_113 : decode cX0_hasSoundSets 113 = .ok (.iinc 1 1, 3) := by decide +kernel
theorem dX0_hasSoundSets_116 : decode cX0_hasSoundSets 116 = .ok (.goto (-114), 3) := by decide +kernel
theorem dX0_hasSoundSets_119 : decode cX0_hasSoundSets 119 = .ok (.iconst 1, 1) := by decide +kernel
theorem dX0_hasSoundSets_120 : decode cX0_hasSoundSets 120 = .ok (.ireturn, 1) := by decide +kernel
theorem dX0_placeOf_0 : decode cX0_placeOf 0 = .ok (.iload_n 0, 1) := by decide +kernel
theorem dX0_placeOf_1 : decode cX0_placeOf 1 = .ok (.bipush 6, 2) := by decide +kernel
theorem dX0_placeOf_3 : decode cX0_placeOf 3 = .ok (.imul, 1) := by decide +kernel
theorem dX0_placeOf_4 : decode cX0_placeOf 4 = .ok (.iload_n 1, 1) := by decide +kernel
theorem dX0_placeOf_5 : decode cX0_placeOf 5 = .ok (.iadd, 1) := by decide +kernel
theorem dX0_placeOf_6 : decode cX0_placeOf 6 = .ok (.iconst 1, 1) := by decide +kernel
theorem dX0_placeOf_7 : decode cX0_placeOf 7 = .ok (.isub, 1) := by decide +kernel
theorem dX0_placeOf_8 : decode cX0_placeOf 8 = .ok (.ireturn, 1) := by decide +kernel
theorem dX0_stepsFrom_0 : decode cX0_stepsFrom 0 = .ok (.iconst 0, 1) := by decide +kernel
theorem dX0_stepsFrom_1 : decode cX0_stepsFrom 1 = .ok (.istore_n 2, 1) := by decide +kernel
theorem dX0_stepsFrom_2 : decode cX0_stepsFrom 2 = .ok (.aload_n 0, 1) := by decide +kernel
theorem dX0_stepsFrom_3 : decode cX0_stepsFrom 3 = .ok (.iload_n 1, 1) := by decide +kernel
theorem dX0_stepsFrom_4 : decode cX0_stepsFrom 4 = .ok (.iaload, 1) := by decide +kernel
theorem dX0_stepsFrom_5 : decode cX0_stepsFrom 5 = .ok (.istore_n 3, 1) := by decide +kernel
theorem dX0_stepsFrom_6 : decode cX0_stepsFrom 6 = .ok (.iload_n 3, 1) := by decide +kernel
theorem dX0_stepsFrom_7 : decode cX0_stepsFrom 7 = .ok (.ifCond .eq 20, 3) := by decide +kernel
theorem dX0_stepsFrom_10 : decode cX0_stepsFrom 10 = .ok (.iload_n 2, 1) := by decide +kernel
theorem dX0_stepsFrom_11 : decode cX0_stepsFrom 11 = .ok (.iconst 4, 1) := by decide +kernel
theorem dX0_stepsFrom_12 : decode cX0_stepsFrom 12 = .ok (.if_icmp .gt 15, 3) := by decide +kernel
theorem dX0_stepsFrom_15 : decode cX0_stepsFrom 15 = .ok (.iinc 2 1, 3) := by decide +kernel
theorem dX0_stepsFrom_18 : decode cX0_stepsFrom 18 = .ok (.aload_n 0, 1) := by decide +kernel
theorem dX0_stepsFrom_19 : decode cX0_stepsFrom 19 = .ok (.iload_n 3, 1) := by decide +kernel
theorem dX0_stepsFrom_20 : decode cX0_stepsFrom 20 = .ok (.invokestatic 67, 3) := by decide +kernel
theorem dX0_stepsFrom_23 : decode cX0_stepsFrom 23 = .ok (.istore_n 3, 1) := by decide +kernel
theorem dX0_stepsFrom_24 : decode cX0_stepsFrom 24 = .ok (.goto (-18), 3) := by decide +kernel
theorem dX0_stepsFrom_27 : decode cX0_stepsFrom 27 = .ok (.iload_n 2, 1) := by decide +kernel
theorem dX0_stepsFrom_28 : decode cX0_stepsFrom 28 = .ok (.ireturn, 1) := by decide +kernel
theorem dX0_unionOf_0 : decode cX0_unionOf 0 = .ok (.iconst 0, 1) := by decide +kernel
theorem dX0_unionOf_1 : decode cX0_unionOf 1 = .ok (.istore_n 2, 1) := by decide +kernel
theorem dX0_unionOf_2 : decode cX0_unionOf 2 = .ok (.iconst 0, 1) := by decide +kernel
theorem dX0_unionOf_3 : decode cX0_unionOf 3 = .ok (.istore_n 3, 1) := by decide +kernel
theorem dX0_unionOf_4 : decode cX0_unionOf 4 = .ok (.iload_n 3, 1) := by decide +kernel
theorem dX0_unionOf_5 : decode cX0_unionOf 5 = .ok (.bipush 16, 2) := by decide +kernel
theorem dX0_unionOf_7 : decode cX0_unionOf 7 = .ok (.if_icmp .ge 23, 3) := by decide +kernel
theorem dX0_unionOf_10 : decode cX0_unionOf 10 = .ok (.iload_n 1, 1) := by decide +kernel
theorem dX0_unionOf_11 : decode cX0_unionOf 11 = .ok (.iconst 1, 1) := by decide +kernel
theorem dX0_unionOf_12 : decode cX0_unionOf 12 = .ok (.iload_n 3, 1) := by decide +kernel
theorem dX0_unionOf_13 : decode cX0_unionOf 13 = .ok (.ishl, 1) := by decide +kernel
theorem dX0_unionOf_14 : decode cX0_unionOf 14 = .ok (.iand, 1) := by decide +kernel
theorem dX0_unionOf_15 : decode cX0_unionOf 15 = .ok (.ifCond .eq 9, 3) := by decide +kernel
theorem dX0_unionOf_18 : decode cX0_unionOf 18 = .ok (.iload_n 2, 1) := by decide +kernel
theorem dX0_unionOf_19 : decode cX0_unionOf 19 = .ok (.aload_n 0, 1) := by decide +kernel
theorem dX0_unionOf_20 : decode cX0_unionOf 20 = .ok (.iload_n 3, 1) := by decide +kernel
theorem dX0_unionOf_21 : decode cX0_unionOf 21 = .ok (.iaload, 1) := by decide +kernel
theorem dX0_unionOf_22 : decode cX0_unionOf 22 = .ok (.ior, 1) := by decide +kernel
theorem dX0_unionOf_23 : decode cX0_unionOf 23 = .ok (.istore_n 2, 1) := by decide +kernel
theorem dX0_unionOf_24 : decode cX0_unionOf 24 = .ok (.iinc 3 1, 3) := by decide +kernel
theorem dX0_unionOf_27 : decode cX0_unionOf 27 = .ok (.goto (-23), 3) := by decide +kernel
theorem dX0_unionOf_30 : decode cX0_unionOf 30 = .ok (.iload_n 2, 1) := by decide +kernel
theorem dX0_unionOf_31 : decode cX0_unionOf 31 = .ok (.ireturn, 1) := by decide +kernel
theorem dX1_ofFloat_0 : decode cX1_ofFloat 0 = .ok (.fload_n 0, 1) := by decide +kernel
theorem dX1_ofFloat_1 : decode cX1_ofFloat 1 = .ok (.fconst 0, 1) := by decide +kernel
theorem dX1_ofFloat_2 : decode cX1_ofFloat 2 = .ok (.fcmp .g, 1) := by decide +kernel
theorem dX1_ofFloat_3 : decode cX1_ofFloat 3 = .ok (.ifCond .gt 5, 3) := by decide +kernel
theorem dX1_ofFloat_6 : decode cX1_ofFloat 6 = .ok (.iconst 0, 1) := by decide +kernel
theorem dX1_ofFloat_7 : decode cX1_ofFloat 7 = .ok (.ireturn, 1) := by decide +kernel
theorem dX1_ofFloat_8 : decode cX1_ofFloat 8 = .ok (.bipush 127, 2) := by decide +kernel
theorem dX1_ofFloat_10 : decode cX1_ofFloat 10 = .ok (.istore_n 1, 1) := by decide +kernel
theorem dX1_ofFloat_11 : decode cX1_ofFloat 11 = .ok (.fload_n 0, 1) := by decide +kernel
theorem dX1_ofFloat_12 : decode cX1_ofFloat 12 = .ok (.fstore_n 2, 1) := by decide +kernel
theorem dX1_ofFloat_13 : decode cX1_ofFloat 13 = .ok (.fload_n 2, 1) := by decide +kernel
theorem dX1_ofFloat_14 : decode cX1_ofFloat 14 = .ok (.fconst 2, 1) := by decide +kernel
theorem dX1_ofFloat_15 : decode cX1_ofFloat 15 = .ok (.fcmp .l, 1) := by decide +kernel
theorem dX1_ofFloat_16 : decode cX1_ofFloat 16 = .ok (.ifCond .lt 20, 3) := by decide +kernel
theorem dX1_ofFloat_19 : decode cX1_ofFloat 19 = .ok (.iload_n 1, 1) := by decide +kernel
theorem dX1_ofFloat_20 : decode cX1_ofFloat 20 = .ok (.sipush 254, 3) := by decide +kernel
theorem dX1_ofFloat_23 : decode cX1_ofFloat 23 = .ok (.if_icmp .ge 13, 3) := by decide +kernel
theorem dX1_ofFloat_26 : decode cX1_ofFloat 26 = .ok (.fload_n 2, 1) := by decide +kernel
theorem dX1_ofFloat_27 : decode cX1_ofFloat 27 = .ok (.fconst 2, 1) := by decide +kernel
theorem dX1_ofFloat_28 : decode cX1_ofFloat 28 = .ok (.fdiv, 1) := by decide +kernel
theorem dX1_ofFloat_29 : decode cX1_ofFloat 29 = .ok (.fstore_n 2, 1) := by decide +kernel
theorem dX1_ofFloat_30 : decode cX1_ofFloat 30 = .ok (.iinc 1 1, 3) := by decide +kernel
theorem dX1_ofFloat_33 : decode cX1_ofFloat 33 = .ok (.goto (-20), 3) := by decide +kernel
theorem dX1_ofFloat_36 : decode cX1_ofFloat 36 = .ok (.fload_n 2, 1) := by decide +kernel
theorem dX1_ofFloat_37 : decode cX1_ofFloat 37 = .ok (.fconst 1, 1) := by decide +kernel
theorem dX1_ofFloat_38 : decode cX1_ofFloat 38 = .ok (.fcmp .g, 1) := by decide +kernel
theorem dX1_ofFloat_39 : decode cX1_ofFloat 39 = .ok (.ifCond .ge 18, 3) := by decide +kernel
theorem dX1_ofFloat_42 : decode cX1_ofFloat 42 = .ok (.iload_n 1, 1) := by decide +kernel
theorem dX1_ofFloat_43 : decode cX1_ofFloat 43 = .ok (.iconst 1, 1) := by decide +kernel
theorem dX1_ofFloat_44 : decode cX1_ofFloat 44 = .ok (.if_icmp .le 13, 3) := by decide +kernel
theorem dX1_ofFloat_47 : decode cX1_ofFloat 47 = .ok (.fload_n 2, 1) := by decide +kernel
theorem dX1_ofFloat_48 : decode cX1_ofFloat 48 = .ok (.fconst 2, 1) := by decide +kernel
theorem dX1_ofFloat_49 : decode cX1_ofFloat 49 = .ok (.fmul, 1) := by decide +kernel
theorem dX1_ofFloat_50 : decode cX1_ofFloat 50 = .ok (.fstore_n 2, 1) := by decide +kernel
theorem dX1_ofFloat_51 : decode cX1_ofFloat 51 = .ok (.iinc 1 (-1), 3) := by decide +kernel
theorem dX1_ofFloat_54 : decode cX1_ofFloat 54 = .ok (.goto (-18), 3) := by decide +kernel
theorem dX1_ofFloat_57 : decode cX1_ofFloat 57 = .ok (.iload_n 1, 1) := by decide +kernel
theorem dX1_ofFloat_58 : decode cX1_ofFloat 58 = .ok (.bipush 23, 2) := by decide +kernel
theorem dX1_ofFloat_60 : decode cX1_ofFloat 60 = .ok (.ishl, 1) := by decide +kernel
theorem dX1_ofFloat_61 : decode cX1_ofFloat 61 = .ok (.fload_n 2, 1) := by decide +kernel
theorem dX1_ofFloat_62 : decode cX1_ofFloat 62 = .ok (.fconst 1, 1) := by decide +kernel
theorem dX1_ofFloat_63 : decode cX1_ofFloat 63 = .ok (.fsub, 1) := by decide +kernel
theorem dX1_ofFloat_64 : decode cX1_ofFloat 64 = .ok (.ldc 7, 2) := by decide +kernel
theorem dX1_ofFloat_66 : decode cX1_ofFloat 66 = .ok (.fmul, 1) := by decide +kernel
theorem dX1_ofFloat_67 : decode cX1_ofFloat 67 = .ok (.f2i, 1) := by decide +kernel
theorem dX1_ofFloat_68 : decode cX1_ofFloat 68 = .ok (.ior, 1) := by decide +kernel
theorem dX1_ofFloat_69 : decode cX1_ofFloat 69 = .ok (.ireturn, 1) := by decide +kernel
theorem dX1_ofDouble_0 : decode cX1_ofDouble 0 = .ok (.dload_n 0, 1) := by decide +kernel
theorem dX1_ofDouble_1 : decode cX1_ofDouble 1 = .ok (.dconst 0, 1) := by decide +kernel
theorem dX1_ofDouble_2 : decode cX1_ofDouble 2 = .ok (.dcmp .g, 1) := by decide +kernel
theorem dX1_ofDouble_3 : decode cX1_ofDouble 3 = .ok (.ifCond .gt 5, 3) := by decide +kernel
theorem dX1_ofDouble_6 : decode cX1_ofDouble 6 = .ok (.lconst 0, 1) := by decide +kernel
theorem dX1_ofDouble_7 : decode cX1_ofDouble 7 = .ok (.lreturn, 1) := by decide +kernel
theorem dX1_ofDouble_8 : decode cX1_ofDouble 8 = .ok (.sipush 1023, 3) := by decide +kernel
theorem dX1_ofDouble_11 : decode cX1_ofDouble 11 = .ok (.istore_n 2, 1) := by decide +kernel
theorem dX1_ofDouble_12 : decode cX1_ofDouble 12 = .ok (.dload_n 0, 1) := by decide +kernel
theorem dX1_ofDouble_13 : decode cX1_ofDouble 13 = .ok (.dstore_n 3, 1) := by decide +kernel
theorem dX1_ofDouble_14 : decode cX1_ofDouble 14 = .ok (.dload_n 3, 1) := by decide +kernel
theorem dX1_ofDouble_15 : decode cX1_ofDouble 15 = .ok (.ldc2_w 8, 3) := by decide +kernel
theorem dX1_ofDouble_18 : decode cX1_ofDouble 18 = .ok (.dcmp .l, 1) := by decide +kernel
theorem dX1_ofDouble_19 : decode cX1_ofDouble 19 = .ok (.ifCond .lt 22, 3) := by decide +kernel
theorem dX1_ofDouble_22 : decode cX1_ofDouble 22 = .ok (.iload_n 2, 1) := by decide +kernel
theorem dX1_ofDouble_23 : decode cX1_ofDouble 23 = .ok (.sipush 2046, 3) := by decide +kernel
theorem dX1_ofDouble_26 : decode cX1_ofDouble 26 = .ok (.if_icmp .ge 15, 3) := by decide +kernel
theorem dX1_ofDouble_29 : decode cX1_ofDouble 29 = .ok (.dload_n 3, 1) := by decide +kernel
theorem dX1_ofDouble_30 : decode cX1_ofDouble 30 = .ok (.ldc2_w 8, 3) := by decide +kernel
theorem dX1_ofDouble_33 : decode cX1_ofDouble 33 = .ok (.ddiv, 1) := by decide +kernel
theorem dX1_ofDouble_34 : decode cX1_ofDouble 34 = .ok (.dstore_n 3, 1) := by decide +kernel
theorem dX1_ofDouble_35 : decode cX1_ofDouble 35 = .ok (.iinc 2 1, 3) := by decide +kernel
theorem dX1_ofDouble_38 : decode cX1_ofDouble 38 = .ok (.goto (-24), 3) := by decide +kernel
theorem dX1_ofDouble_41 : decode cX1_ofDouble 41 = .ok (.dload_n 3, 1) := by decide +kernel
theorem dX1_ofDouble_42 : decode cX1_ofDouble 42 = .ok (.dconst 1, 1) := by decide +kernel
theorem dX1_ofDouble_43 : decode cX1_ofDouble 43 = .ok (.dcmp .g, 1) := by decide +kernel
theorem dX1_ofDouble_44 : decode cX1_ofDouble 44 = .ok (.ifCond .ge 20, 3) := by decide +kernel
theorem dX1_ofDouble_47 : decode cX1_ofDouble 47 = .ok (.iload_n 2, 1) := by decide +kernel
theorem dX1_ofDouble_48 : decode cX1_ofDouble 48 = .ok (.iconst 1, 1) := by decide +kernel
theorem dX1_ofDouble_49 : decode cX1_ofDouble 49 = .ok (.if_icmp .le 15, 3) := by decide +kernel
theorem dX1_ofDouble_52 : decode cX1_ofDouble 52 = .ok (.dload_n 3, 1) := by decide +kernel
theorem dX1_ofDouble_53 : decode cX1_ofDouble 53 = .ok (.ldc2_w 8, 3) := by decide +kernel
theorem dX1_ofDouble_56 : decode cX1_ofDouble 56 = .ok (.dmul, 1) := by decide +kernel
theorem dX1_ofDouble_57 : decode cX1_ofDouble 57 = .ok (.dstore_n 3, 1) := by decide +kernel
theorem dX1_ofDouble_58 : decode cX1_ofDouble 58 = .ok (.iinc 2 (-1), 3) := by decide +kernel
theorem dX1_ofDouble_61 : decode cX1_ofDouble 61 = .ok (.goto (-20), 3) := by decide +kernel
theorem dX1_ofDouble_64 : decode cX1_ofDouble 64 = .ok (.iload_n 2, 1) := by decide +kernel
theorem dX1_ofDouble_65 : decode cX1_ofDouble 65 = .ok (.i2l, 1) := by decide +kernel
theorem dX1_ofDouble_66 : decode cX1_ofDouble 66 = .ok (.bipush 52, 2) := by decide +kernel
theorem dX1_ofDouble_68 : decode cX1_ofDouble 68 = .ok (.lshl, 1) := by decide +kernel
theorem dX1_ofDouble_69 : decode cX1_ofDouble 69 = .ok (.dload_n 3, 1) := by decide +kernel
theorem dX1_ofDouble_70 : decode cX1_ofDouble 70 = .ok (.dconst 1, 1) := by decide +kernel
theorem dX1_ofDouble_71 : decode cX1_ofDouble 71 = .ok (.dsub, 1) := by decide +kernel
theorem dX1_ofDouble_72 : decode cX1_ofDouble 72 = .ok (.ldc2_w 10, 3) := by decide +kernel
theorem dX1_ofDouble_75 : decode cX1_ofDouble 75 = .ok (.dmul, 1) := by decide +kernel
theorem dX1_ofDouble_76 : decode cX1_ofDouble 76 = .ok (.d2l, 1) := by decide +kernel
theorem dX1_ofDouble_77 : decode cX1_ofDouble 77 = .ok (.lor, 1) := by decide +kernel
theorem dX1_ofDouble_78 : decode cX1_ofDouble 78 = .ok (.lreturn, 1) := by decide +kernel
theorem dX2_init_0 : decode cX2_init 0 = .ok (.aload_n 0, 1) := by decide +kernel
theorem dX2_init_1 : decode cX2_init 1 = .ok (.invokespecial 3, 3) := by decide +kernel
theorem dX2_init_4 : decode cX2_init 4 = .ok (.aload_n 0, 1) := by decide +kernel
theorem dX2_init_5 : decode cX2_init 5 = .ok (.bipush 16, 2) := by decide +kernel
theorem dX2_init_7 : decode cX2_init 7 = .ok (.newarray .float, 2) := by decide +kernel
theorem dX2_init_9 : decode cX2_init 9 = .ok (.putfield 9, 3) := by decide +kernel
theorem dX2_init_12 : decode cX2_init 12 = .ok (.return_, 1) := by decide +kernel
theorem dX2_rollUp_0 : decode cX2_rollUp 0 = .ok (.iconst 0, 1) := by decide +kernel
theorem dX2_rollUp_1 : decode cX2_rollUp 1 = .ok (.istore_n 2, 1) := by decide +kernel
theorem dX2_rollUp_2 : decode cX2_rollUp 2 = .ok (.iconst 0, 1) := by decide +kernel
theorem dX2_rollUp_3 : decode cX2_rollUp 3 = .ok (.istore_n 3, 1) := by decide +kernel
theorem dX2_rollUp_4 : decode cX2_rollUp 4 = .ok (.iload_n 3, 1) := by decide +kernel
theorem dX2_rollUp_5 : decode cX2_rollUp 5 = .ok (.iconst 4, 1) := by decide +kernel
theorem dX2_rollUp_6 : decode cX2_rollUp 6 = .ok (.if_icmp .gt 70, 3) := by decide +kernel
theorem dX2_rollUp_9 : decode cX2_rollUp 9 = .ok (.iconst 0, 1) := by decide +kernel
theorem dX2_rollUp_10 : decode cX2_rollUp 10 = .ok (.istore 4, 2) := by decide +kernel
theorem dX2_rollUp_12 : decode cX2_rollUp 12 = .ok (.iload 4, 2) := by decide +kernel
theorem dX2_rollUp_14 : decode cX2_rollUp 14 = .ok (.aload_n 1, 1) := by decide +kernel
theorem dX2_rollUp_15 : decode cX2_rollUp 15 = .ok (.getfield 15, 3) := by decide +kernel
theorem dX2_rollUp_18 : decode cX2_rollUp 18 = .ok (.getfield 21, 3) := by decide +kernel
theorem dX2_rollUp_21 : decode cX2_rollUp 21 = .ok (.if_icmp .ge 49, 3) := by decide +kernel
theorem dX2_rollUp_24 : decode cX2_rollUp 24 = .ok (.iload_n 2, 1) := by decide +kernel
theorem dX2_rollUp_25 : decode cX2_rollUp 25 = .ok (.iconst 1, 1) := by decide +kernel
theorem dX2_rollUp_26 : decode cX2_rollUp 26 = .ok (.iload 4, 2) := by decide +kernel
theorem dX2_rollUp_28 : decode cX2_rollUp 28 = .ok (.ishl, 1) := by decide +kernel
theorem dX2_rollUp_29 : decode cX2_rollUp 29 = .ok (.iand, 1) := by decide +kernel
theorem dX2_rollUp_30 : decode cX2_rollUp 30 = .ok (.ifCond .ne 34, 3) := by decide +kernel
theorem dX2_rollUp_33 : decode cX2_rollUp 33 = .ok (.aload_n 1, 1) := by decide +kernel
theorem dX2_rollUp_34 : decode cX2_rollUp 34 = .ok (.iload 4, 2) := by decide +kernel
theorem dX2_rollUp_36 : decode cX2_rollUp 36 = .ok (.iload_n 2, 1) := by decide +kernel
theorem dX2_rollUp_37 : decode cX2_rollUp 37 = .ok (.invokevirtual 27, 3) := by decide +kernel
theorem dX2_rollUp_40 : decode cX2_rollUp 40 = .ok (.ifCond .eq 24, 3) := by decide +kernel
theorem dX2_rollUp_43 : decode cX2_rollUp 43 = .ok (.aload_n 0, 1) := by decide +kernel
theorem dX2_rollUp_44 : decode cX2_rollUp 44 = .ok (.getfield 9, 3) := by decide +kernel
theorem dX2_rollUp_47 : decode cX2_rollUp 47 = .ok (.iload 4, 2) := by decide +kernel
theorem dX2_rollUp_49 : decode cX2_rollUp 49 = .ok (.aload_n 0, 1) := by decide +kernel
theorem dX2_rollUp_50 : decode cX2_rollUp 50 = .ok (.aload_n 1, 1) := by decide +kernel
theorem dX2_rollUp_51 : decode cX2_rollUp 51 = .ok (.iload 4, 2) := by decide +kernel
theorem dX2_rollUp_53 : decode cX2_rollUp 53 = .ok (.invokevirtual 31, 3) := by decide +kernel
theorem dX2_rollUp_56 : decode cX2_rollUp 56 = .ok (.fastore, 1) := by decide +kernel
theorem dX2_rollUp_57 : decode cX2_rollUp 57 = .ok (.iload_n 2, 1) := by decide +kernel
theorem dX2_rollUp_58 : decode cX2_rollUp 58 = .ok (.iconst 1, 1) := by decide +kernel
theorem dX2_rollUp_59 : decode cX2_rollUp 59 = .ok (.iload 4, 2) := by decide +kernel
theorem dX2_rollUp_61 : decode cX2_rollUp 61 = .ok (.ishl, 1) := by decide +kernel
theorem dX2_rollUp_62 : decode cX2_rollUp 62 = .ok (.ior, 1) := by decide +kernel
theorem dX2_rollUp_63 : decode cX2_rollUp 63 = .ok (.istore_n 2, 1) := by decide +kernel
theorem dX2_rollUp_64 : decode cX2_rollUp 64 = .ok (.iinc 4 1, 3) := by decide +kernel
theorem dX2_rollUp_67 : decode cX2_rollUp 67 = .ok (.goto (-55), 3) := by decide +kernel
theorem dX2_rollUp_70 : decode cX2_rollUp 70 = .ok (.iinc 3 1, 3) := by decide +kernel
theorem dX2_rollUp_73 : decode cX2_rollUp 73 = .ok (.goto (-69), 3) := by decide +kernel
theorem dX2_rollUp_76 : decode cX2_rollUp 76 = .ok (.return_, 1) := by decide +kernel
theorem dX2_dearestLine_0 : decode cX2_dearestLine 0 = .ok (.iconst (-1), 1) := by decide +kernel
theorem dX2_dearestLine_1 : decode cX2_dearestLine 1 = .ok (.istore_n 3, 1) := by decide +kernel
theorem dX2_dearestLine_2 : decode cX2_dearestLine 2 = .ok (.iconst 1, 1) := by decide +kernel
theorem dX2_dearestLine_3 : decode cX2_dearestLine 3 = .ok (.istore 4, 2) := by decide +kernel
theorem dX2_dearestLine_5 : decode cX2_dearestLine 5 = .ok (.iload 4, 2) := by decide +kernel
theorem dX2_dearestLine_7 : decode cX2_dearestLine 7 = .ok (.bipush 6, 2) := by decide +kernel
theorem dX2_dearestLine_9 : decode cX2_dearestLine 9 = .ok (.if_icmp .gt 49, 3) := by decide +kernel
theorem dX2_dearestLine_12 : decode cX2_dearestLine 12 = .ok (.aload_n 1, 1) := by decide +kernel
theorem dX2_dearestLine_13 : decode cX2_dearestLine 13 = .ok (.iload_n 2, 1) := by decide +kernel
theorem dX2_dearestLine_14 : decode cX2_dearestLine 14 = .ok (.iload 4, 2) := by decide +kernel
theorem dX2_dearestLine_16 : decode cX2_dearestLine 16 = .ok (.invokevirtual 35, 3) := by decide +kernel
theorem dX2_dearestLine_19 : decode cX2_dearestLine 19 = .ok (.istore 5, 2) := by decide +kernel
theorem dX2_dearestLine_21 : decode cX2_dearestLine 21 = .ok (.iload 5, 2) := by decide +kernel
theorem dX2_dearestLine_23 : decode cX2_dearestLine 23 = .ok (.iconst (-1), 1) := by decide +kernel
theorem dX2_dearestLine_24 : decode cX2_dearestLine 24 = .ok (.if_icmp .eq 28, 3) := by decide +kernel
theorem dX2_dearestLine_27 : decode cX2_dearestLine 27 = .ok (.iload_n 3, 1) := by decide +kernel
theorem dX2_dearestLine_28 : decode cX2_dearestLine 28 = .ok (.iconst (-1), 1) := by decide +kernel
theorem dX2_dearestLine_29 : decode cX2_dearestLine 29 = .ok (.if_icmp .eq 20, 3) := by decide +kernel
theorem dX2_dearestLine_32 : decode cX2_dearestLine 32 = .ok (.aload_n 0, 1) := by decide +kernel
theorem dX2_dearestLine_33 : decode cX2_dearestLine 33 = .ok (.aload_n 1, 1) := by decide +kernel
theorem dX2_dearestLine_34 : decode cX2_dearestLine 34 = .ok (.iload 5, 2) := by decide +kernel
theorem dX2_dearestLine_36 : decode cX2_dearestLine 36 = .ok (.invokevirtual 39, 3) := by decide +kernel
theorem dX2_dearestLine_39 : decode cX2_dearestLine 39 = .ok (.aload_n 0, 1) := by decide +kernel
theorem dX2_dearestLine_40 : decode cX2_dearestLine 40 = .ok (.aload_n 1, 1) := by decide +kernel
theorem dX2_dearestLine_41 : decode cX2_dearestLine 41 = .ok (.iload_n 3, 1) := by decide +kernel
theorem dX2_dearestLine_42 : decode cX2_dearestLine 42 = .ok (.invokevirtual 39, 3) := by decide +kernel
theorem dX2_dearestLine_45 : decode cX2_dearestLine 45 = .ok (.fcmp .l, 1) := by decide +kernel
theorem dX2_dearestLine_46 : decode cX2_dearestLine 46 = .ok (.ifCond .le 6, 3) := by decide +kernel
theorem dX2_dearestLine_49 : decode cX2_dearestLine 49 = .ok (.iload 5, 2) := by decide +kernel
theorem dX2_dearestLine_51 : decode cX2_dearestLine 51 = .ok (.istore_n 3, 1) := by decide +kernel
theorem dX2_dearestLine_52 : decode cX2_dearestLine 52 = .ok (.iinc 4 1, 3) := by decide +kernel
theorem dX2_dearestLine_55 : decode cX2_dearestLine 55 = .ok (.goto (-50), 3) := by decide +kernel
theorem dX2_dearestLine_58 : decode cX2_dearestLine 58 = .ok (.iload_n 3, 1) := by decide +kernel
theorem dX2_dearestLine_59 : decode cX2_dearestLine 59 = .ok (.ireturn, 1) := by decide +kernel
theorem dX2_costOf_0 : decode cX2_costOf 0 = .ok (.aload_n 1, 1) := by decide +kernel
theorem dX2_costOf_1 : decode cX2_costOf 1 = .ok (.getfield 15, 3) := by decide +kernel
theorem dX2_costOf_4 : decode cX2_costOf 4 = .ok (.iload_n 2, 1) := by decide +kernel
theorem dX2_costOf_5 : decode cX2_costOf 5 = .ok (.invokevirtual 42, 3) := by decide +kernel
theorem dX2_costOf_8 : decode cX2_costOf 8 = .ok (.fstore_n 3, 1) := by decide +kernel
theorem dX2_costOf_9 : decode cX2_costOf 9 = .ok (.iconst 1, 1) := by decide +kernel
theorem dX2_costOf_10 : decode cX2_costOf 10 = .ok (.istore 4, 2) := by decide +kernel
theorem dX2_costOf_12 : decode cX2_costOf 12 = .ok (.iload 4, 2) := by decide +kernel
theorem dX2_costOf_14 : decode cX2_costOf 14 = .ok (.bipush 6, 2) := by decide +kernel
theorem dX2_costOf_16 : decode cX2_costOf 16 = .ok (.if_icmp .gt 34, 3) := by decide +kernel
theorem dX2_costOf_19 : decode cX2_costOf 19 = .ok (.aload_n 1, 1) := by decide +kernel
theorem dX2_costOf_20 : decode cX2_costOf 20 = .ok (.iload_n 2, 1) := by decide +kernel
theorem dX2_costOf_21 : decode cX2_costOf 21 = .ok (.iload 4, 2) := by decide +kernel
theorem dX2_costOf_23 : decode cX2_costOf 23 = .ok (.invokevirtual 35, 3) := by decide +kernel
theorem dX2_costOf_26 : decode cX2_costOf 26 = .ok (.istore 5, 2) := by decide +kernel
theorem dX2_costOf_28 : decode cX2_costOf 28 = .ok (.iload 5, 2) := by decide +kernel
theorem dX2_costOf_30 : decode cX2_costOf 30 = .ok (.iconst (-1), 1) := by decide +kernel
theorem dX2_costOf_31 : decode cX2_costOf 31 = .ok (.if_icmp .eq 13, 3) := by decide +kernel
theorem dX2_costOf_34 : decode cX2_costOf 34 = .ok (.fload_n 3, 1) := by decide +kernel
theorem dX2_costOf_35 : decode cX2_costOf 35 = .ok (.aload_n 0, 1) := by decide +kernel
theorem dX2_costOf_36 : decode cX2_costOf 36 = .ok (.aload_n 1, 1) := by decide +kernel
theorem dX2_costOf_37 : decode cX2_costOf 37 = .ok (.iload 5, 2) := by decide +kernel
theorem dX2_costOf_39 : decode cX2_costOf 39 = .ok (.invokevirtual 39, 3) := by decide +kernel
theorem dX2_costOf_42 : decode cX2_costOf 42 = .ok (.fadd, 1) := by decide +kernel
theorem dX2_costOf_43 : decode cX2_costOf 43 = .ok (.fstore_n 3, 1) := by decide +kernel
theorem dX2_costOf_44 : decode cX2_costOf 44 = .ok (.iinc 4 1, 3) := by decide +kernel
theorem dX2_costOf_47 : decode cX2_costOf 47 = .ok (.goto (-35), 3) := by decide +kernel
theorem dX2_costOf_50 : decode cX2_costOf 50 = .ok (.fload_n 3, 1) := by decide +kernel
theorem dX2_costOf_51 : decode cX2_costOf 51 = .ok (.freturn, 1) := by decide +kernel
theorem dX2_addedBy_0 : decode cX2_addedBy 0 = .ok (.aload_n 1, 1) := by decide +kernel
theorem dX2_addedBy_1 : decode cX2_addedBy 1 = .ok (.getfield 46, 3) := by decide +kernel
theorem dX2_addedBy_4 : decode cX2_addedBy 4 = .ok (.iload_n 2, 1) := by decide +kernel
theorem dX2_addedBy_5 : decode cX2_addedBy 5 = .ok (.aload_n 0, 1) := by decide +kernel
theorem dX2_addedBy_6 : decode cX2_addedBy 6 = .ok (.getfield 9, 3) := by decide +kernel
theorem dX2_addedBy_9 : decode cX2_addedBy 9 = .ok (.aload_n 1, 1) := by decide +kernel
theorem dX2_addedBy_10 : decode cX2_addedBy 10 = .ok (.getfield 46, 3) := by decide +kernel
theorem dX2_addedBy_13 : decode cX2_addedBy 13 = .ok (.getfield 50, 3) := by decide +kernel
theorem dX2_addedBy_16 : decode cX2_addedBy 16 = .ok (.iload_n 2, 1) := by decide +kernel
theorem dX2_addedBy_17 : decode cX2_addedBy 17 = .ok (.iaload, 1) := by decide +kernel
theorem dX2_addedBy_18 : decode cX2_addedBy 18 = .ok (.faload, 1) := by decide +kernel
theorem dX2_addedBy_19 : decode cX2_addedBy 19 = .ok (.invokevirtual 56, 3) := by decide +kernel
theorem dX2_addedBy_22 : decode cX2_addedBy 22 = .ok (.freturn, 1) := by decide +kernel
theorem dX3_init_0 : decode cX3_init 0 = .ok (.aload_n 0, 1) := by decide +kernel
theorem dX3_init_1 : decode cX3_init 1 = .ok (.invokespecial 1, 3) := by decide +kernel
theorem dX3_init_4 : decode cX3_init 4 = .ok (.aload_n 0, 1) := by decide +kernel
theorem dX3_init_5 : decode cX3_init 5 = .ok (.bipush 16, 2) := by decide +kernel
theorem dX3_init_7 : decode cX3_init 7 = .ok (.newarray .int, 2) := by decide +kernel
theorem dX3_init_9 : decode cX3_init 9 = .ok (.putfield 7, 3) := by decide +kernel
theorem dX3_init_12 : decode cX3_init 12 = .ok (.aload_n 0, 1) := by decide +kernel
theorem dX3_init_13 : decode cX3_init 13 = .ok (.bipush 16, 2) := by decide +kernel
theorem dX3_init_15 : decode cX3_init 15 = .ok (.newarray .long, 2) := by decide +kernel
theorem dX3_init_17 : decode cX3_init 17 = .ok (.putfield 13, 3) := by decide +kernel
theorem dX3_init_20 : decode cX3_init 20 = .ok (.aload_n 0, 1) := by decide +kernel
theorem dX3_init_21 : decode cX3_init 21 = .ok (.iconst 0, 1) := by decide +kernel
theorem dX3_init_22 : decode cX3_init 22 = .ok (.putfield 17, 3) := by decide +kernel
theorem dX3_init_25 : decode cX3_init 25 = .ok (.return_, 1) := by decide +kernel
theorem dX3_clear_0 : decode cX3_clear 0 = .ok (.aload_n 0, 1) := by decide +kernel
theorem dX3_clear_1 : decode cX3_clear 1 = .ok (.iconst 0, 1) := by decide +kernel
theorem dX3_clear_2 : decode cX3_clear 2 = .ok (.putfield 17, 3) := by decide +kernel
theorem dX3_clear_5 : decode cX3_clear 5 = .ok (.return_, 1) := by decide +kernel
theorem dX3_add_0 : decode cX3_add 0 = .ok (.aload_n 0, 1) := by decide +kernel
theorem dX3_add_1 : decode cX3_add 1 = .ok (.getfield 17, 3) := by decide +kernel
theorem dX3_add_4 : decode cX3_add 4 = .ok (.aload_n 0, 1) := by decide +kernel
theorem dX3_add_5 : decode cX3_add 5 = .ok (.getfield 7, 3) := by decide +kernel
theorem dX3_add_8 : decode cX3_add 8 = .ok (.arraylength, 1) := by decide +kernel
theorem dX3_add_9 : decode cX3_add 9 = .ok (.if_icmp .lt 7, 3) := by decide +kernel
theorem dX3_add_12 : decode cX3_add 12 = .ok (.aload_n 0, 1) := by decide +kernel
theorem dX3_add_13 : decode cX3_add 13 = .ok (.invokevirtual 21, 3) := by decide +kernel
theorem dX3_add_16 : decode cX3_add 16 = .ok (.aload_n 0, 1) := by decide +kernel
theorem dX3_add_17 : decode cX3_add 17 = .ok (.getfield 7, 3) := by decide +kernel
theorem dX3_add_20 : decode cX3_add 20 = .ok (.aload_n 0, 1) := by decide +kernel
theorem dX3_add_21 : decode cX3_add 21 = .ok (.getfield 17, 3) := by decide +kernel
theorem dX3_add_24 : decode cX3_add 24 = .ok (.iload_n 1, 1) := by decide +kernel
theorem dX3_add_25 : decode cX3_add 25 = .ok (.iastore, 1) := by decide +kernel
theorem dX3_add_26 : decode cX3_add 26 = .ok (.aload_n 0, 1) := by decide +kernel
theorem dX3_add_27 : decode cX3_add 27 = .ok (.getfield 13, 3) := by decide +kernel
theorem dX3_add_30 : decode cX3_add 30 = .ok (.aload_n 0, 1) := by decide +kernel
theorem dX3_add_31 : decode cX3_add 31 = .ok (.getfield 17, 3) := by decide +kernel
theorem dX3_add_34 : decode cX3_add 34 = .ok (.lload_n 2, 1) := by decide +kernel
theorem dX3_add_35 : decode cX3_add 35 = .ok (.lastore, 1) := by decide +kernel
theorem dX3_add_36 : decode cX3_add 36 = .ok (.aload_n 0, 1) := by decide +kernel
theorem dX3_add_37 : decode cX3_add 37 = .ok (.dup, 1) := by decide +kernel
theorem dX3_add_38 : decode cX3_add 38 = .ok (.getfield 17, 3) := by decide +kernel
theorem dX3_add_41 : decode cX3_add 41 = .ok (.iconst 1, 1) := by decide +kernel
theorem dX3_add_42 : decode cX3_add 42 = .ok (.iadd, 1) := by decide +kernel
theorem dX3_add_43 : decode cX3_add 43 = .ok (.putfield 17, 3) := by decide +kernel
theorem dX3_add_46 : decode cX3_add 46 = .ok (.return_, 1) := by decide +kernel
theorem dX3_grow_0 : decode cX3_grow 0 = .ok (.iconst 2, 1) := by decide +kernel
theorem dX3_grow_1 : decode cX3_grow 1 = .ok (.aload_n 0, 1) := by decide +kernel
theorem dX3_grow_2 : decode cX3_grow 2 = .ok (.getfield 17, 3) := by decide +kernel
theorem dX3_grow_5 : decode cX3_grow 5 = .ok (.imul, 1) := by decide +kernel
theorem dX3_grow_6 : decode cX3_grow 6 = .ok (.newarray .int, 2) := by decide +kernel
theorem dX3_grow_8 : decode cX3_grow 8 = .ok (.astore_n 1, 1) := by decide +kernel
theorem dX3_grow_9 : decode cX3_grow 9 = .ok (.iconst 2, 1) := by decide +kernel
theorem dX3_grow_10 : decode cX3_grow 10 = .ok (.aload_n 0, 1) := by decide +kernel
theorem dX3_grow_11 : decode cX3_grow 11 = .ok (.getfield 17, 3) := by decide +kernel
theorem dX3_grow_14 : decode cX3_grow 14 = .ok (.imul, 1) := by decide +kernel
theorem dX3_grow_15 : decode cX3_grow 15 = .ok (.newarray .long, 2) := by decide +kernel
theorem dX3_grow_17 : decode cX3_grow 17 = .ok (.astore_n 2, 1) := by decide +kernel
theorem dX3_grow_18 : decode cX3_grow 18 = .ok (.aload_n 0, 1) := by decide +kernel
theorem dX3_grow_19 : decode cX3_grow 19 = .ok (.getfield 7, 3) := by decide +kernel
theorem dX3_grow_22 : decode cX3_grow 22 = .ok (.iconst 0, 1) := by decide +kernel
theorem dX3_grow_23 : decode cX3_grow 23 = .ok (.aload_n 1, 1) := by decide +kernel
theorem dX3_grow_24 : decode cX3_grow 24 = .ok (.iconst 0, 1) := by decide +kernel
theorem dX3_grow_25 : decode cX3_grow 25 = .ok (.aload_n 0, 1) := by decide +kernel
theorem dX3_grow_26 : decode cX3_grow 26 = .ok (.getfield 17, 3) := by decide +kernel
theorem dX3_grow_29 : decode cX3_grow 29 = .ok (.invokestatic 24, 3) := by decide +kernel
theorem dX3_grow_32 : decode cX3_grow 32 = .ok (.aload_n 0, 1) := by decide +kernel
theorem dX3_grow_33 : decode cX3_grow 33 = .ok (.getfield 13, 3) := by decide +kernel
theorem dX3_grow_36 : decode cX3_grow 36 = .ok (.iconst 0, 1) := by decide +kernel
theorem dX3_grow_37 : decode cX3_grow 37 = .ok (.aload_n 2, 1) := by decide +kernel
theorem dX3_grow_38 : decode cX3_grow 38 = .ok (.iconst 0, 1) := by decide +kernel
theorem dX3_grow_39 : decode cX3_grow 39 = .ok (.aload_n 0, 1) := by decide +kernel
theorem dX3_grow_40 : decode cX3_grow 40 = .ok (.getfield 17, 3) := by decide +kernel
theorem dX3_grow_43 : decode cX3_grow 43 = .ok (.invokestatic 24, 3) := by decide +kernel
theorem dX3_grow_46 : decode cX3_grow 46 = .ok (.aload_n 0, 1) := by decide +kernel
theorem dX3_grow_47 : decode cX3_grow 47 = .ok (.aload_n 1, 1) := by decide +kernel
theorem dX3_grow_48 : decode cX3_grow 48 = .ok (.putfield 7, 3) := by decide +kernel
theorem dX3_grow_51 : decode cX3_grow 51 = .ok (.aload_n 0, 1) := by decide +kernel
theorem dX3_grow_52 : decode cX3_grow 52 = .ok (.aload_n 2, 1) := by decide +kernel
theorem dX3_grow_53 : decode cX3_grow 53 = .ok (.putfield 13, 3) := by decide +kernel
theorem dX3_grow_56 : decode cX3_grow 56 = .ok (.return_, 1) := by decide +kernel
theorem dX4_init_0 : decode cX4_init 0 = .ok (.aload_n 0, 1) := by decide +kernel
theorem dX4_init_1 : decode cX4_init 1 = .ok (.invokespecial 3, 3) := by decide +kernel
theorem dX4_init_4 : decode cX4_init 4 = .ok (.aload_n 0, 1) := by decide +kernel
theorem dX4_init_5 : decode cX4_init 5 = .ok (.bipush 40, 2) := by decide +kernel
theorem dX4_init_7 : decode cX4_init 7 = .ok (.newarray .int, 2) := by decide +kernel
theorem dX4_init_9 : decode cX4_init 9 = .ok (.putfield 9, 3) := by decide +kernel
theorem dX4_init_12 : decode cX4_init 12 = .ok (.aload_n 0, 1) := by decide +kernel
theorem dX4_init_13 : decode cX4_init 13 = .ok (.bipush 40, 2) := by decide +kernel
theorem dX4_init_15 : decode cX4_init 15 = .ok (.newarray .int, 2) := by decide +kernel
theorem dX4_init_17 : decode cX4_init 17 = .ok (.putfield 15, 3) := by decide +kernel
theorem dX4_init_20 : decode cX4_init 20 = .ok (.aload_n 0, 1) := by decide +kernel
theorem dX4_init_21 : decode cX4_init 21 = .ok (.bipush 40, 2) := by decide +kernel
theorem dX4_init_23 : decode cX4_init 23 = .ok (.newarray .int, 2) := by decide +kernel
theorem dX4_init_25 : decode cX4_init 25 = .ok (.putfield 18, 3) := by decide +kernel
theorem dX4_init_28 : decode cX4_init 28 = .ok (.aload_n 0, 1) := by decide +kernel
theorem dX4_init_29 : decode cX4_init 29 = .ok (.bipush 40, 2) := by decide +kernel
theorem dX4_init_31 : decode cX4_init 31 = .ok (.newarray .int, 2) := by decide +kernel
theorem dX4_init_33 : decode cX4_init 33 = .ok (.putfield 21, 3) := by decide +kernel
theorem dX4_init_36 : decode cX4_init 36 = .ok (.aload_n 0, 1) := by decide +kernel
theorem dX4_init_37 : decode cX4_init 37 = .ok (.bipush 40, 2) := by decide +kernel
theorem dX4_init_39 : decode cX4_init 39 = .ok (.newarray .int, 2) := by decide +kernel
theorem dX4_init_41 : decode cX4_init 41 = .ok (.putfield 24, 3) := by decide +kernel
theorem dX4_init_44 : decode cX4_init 44 = .ok (.aload_n 0, 1) := by decide +kernel
theorem dX4_init_45 : decode cX4_init 45 = .ok (.bipush 40, 2) := by decide +kernel
theorem dX4_init_47 : decode cX4_init 47 = .ok (.newarray .int, 2) := by decide +kernel
theorem dX4_init_49 : decode cX4_init 49 = .ok (.putfield 27, 3) := by decide +kernel
theorem dX4_init_52 : decode cX4_init 52 = .ok (.aload_n 0, 1) := by decide +kernel
theorem dX4_init_53 : decode cX4_init 53 = .ok (.bipush 40, 2) := by decide +kernel
theorem dX4_init_55 : decode cX4_init 55 = .ok (.newarray .int, 2) := by decide +kernel
theorem dX4_init_57 : decode cX4_init 57 = .ok (.putfield 30, 3) := by decide +kernel
theorem dX4_init_60 : decode cX4_init 60 = .ok (.aload_n 0, 1) := by decide +kernel
theorem dX4_init_61 : decode cX4_init 61 = .ok (.bipush 40, 2) := by decide +kernel
theorem dX4_init_63 : decode cX4_init 63 = .ok (.newarray .int, 2) := by decide +kernel
theorem dX4_init_65 : decode cX4_init 65 = .ok (.putfield 33, 3) := by decide +kernel
theorem dX4_init_68 : decode cX4_init 68 = .ok (.aload_n 0, 1) := by decide +kernel
theorem dX4_init_69 : decode cX4_init 69 = .ok (.bipush 40, 2) := by decide +kernel
theorem dX4_init_71 : decode cX4_init 71 = .ok (.newarray .int, 2) := by decide +kernel
theorem dX4_init_73 : decode cX4_init 73 = .ok (.putfield 36, 3) := by decide +kernel
theorem dX4_init_76 : decode cX4_init 76 = .ok (.aload_n 0, 1) := by decide +kernel
theorem dX4_init_77 : decode cX4_init 77 = .ok (.iconst 0, 1) := by decide +kernel
theorem dX4_init_78 : decode cX4_init 78 = .ok (.putfield 39, 3) := by decide +kernel
theorem dX4_init_81 : decode cX4_init 81 = .ok (.return_, 1) := by decide +kernel
theorem dX4_add_0 : decode cX4_add 0 = .ok (.aload_n 0, 1) := by decide +kernel
theorem dX4_add_1 : decode cX4_add 1 = .ok (.getfield 39, 3) := by decide +kernel
theorem dX4_add_4 : decode cX4_add 4 = .ok (.istore 5, 2) := by decide +kernel
theorem dX4_add_6 : decode cX4_add 6 = .ok (.aload_n 0, 1) := by decide +kernel
theorem dX4_add_7 : decode cX4_add 7 = .ok (.getfield 9, 3) := by decide +kernel
theorem dX4_add_10 : decode cX4_add 10 = .ok (.iload 5, 2) := by decide +kernel
theorem dX4_add_12 : decode cX4_add 12 = .ok (.iload_n 1, 1) := by decide +kernel
theorem dX4_add_13 : decode cX4_add 13 = .ok (.iastore, 1) := by decide +kernel
theorem dX4_add_14 : decode cX4_add 14 = .ok (.aload_n 0, 1) := by decide +kernel
theorem dX4_add_15 : decode cX4_add 15 = .ok (.getfield 15, 3) := by decide +kernel
theorem dX4_add_18 : decode cX4_add 18 = .ok (.iload 5, 2) := by decide +kernel
theorem dX4_add_20 : decode cX4_add 20 = .ok (.iload_n 2, 1) := by decide +kernel
theorem dX4_add_21 : decode cX4_add 21 = .ok (.iastore, 1) := by decide +kernel
theorem dX4_add_22 : decode cX4_add 22 = .ok (.aload_n 0, 1) := by decide +kernel
theorem dX4_add_23 : decode cX4_add 23 = .ok (.getfield 18, 3) := by decide +kernel
theorem dX4_add_26 : decode cX4_add 26 = .ok (.iload 5, 2) := by decide +kernel
theorem dX4_add_28 : decode cX4_add 28 = .ok (.iload_n 3, 1) := by decide +kernel
theorem dX4_add_29 : decode cX4_add 29 = .ok (.iastore, 1) := by decide +kernel
theorem dX4_add_30 : decode cX4_add 30 = .ok (.aload_n 0, 1) := by decide +kernel
theorem dX4_add_31 : decode cX4_add 31 = .ok (.getfield 21, 3) := by decide +kernel
theorem dX4_add_34 : decode cX4_add 34 = .ok (.iload 5, 2) := by decide +kernel
theorem dX4_add_36 : decode cX4_add 36 = .ok (.iload 4, 2) := by decide +kernel
theorem dX4_add_38 : decode cX4_add 38 = .ok (.iastore, 1) := by decide +kernel
theorem dX4_add_39 : decode cX4_add 39 = .ok (.aload_n 0, 1) := by decide +kernel
theorem dX4_add_40 : decode cX4_add 40 = .ok (.getfield 24, 3) := by decide +kernel
theorem dX4_add_43 : decode cX4_add 43 = .ok (.iload 5, 2) := by decide +kernel
theorem dX4_add_45 : decode cX4_add 45 = .ok (.iconst 0, 1) := by decide +kernel
theorem dX4_add_46 : decode cX4_add 46 = .ok (.iastore, 1) := by decide +kernel
theorem dX4_add_47 : decode cX4_add 47 = .ok (.aload_n 0, 1) := by decide +kernel
theorem dX4_add_48 : decode cX4_add 48 = .ok (.iload 5, 2) := by decide +kernel
theorem dX4_add_50 : decode cX4_add 50 = .ok (.iconst 1, 1) := by decide +kernel
theorem dX4_add_51 : decode cX4_add 51 = .ok (.iadd, 1) := by decide +kernel
theorem dX4_add_52 : decode cX4_add 52 = .ok (.putfield 39, 3) := by decide +kernel
theorem dX4_add_55 : decode cX4_add 55 = .ok (.iload 5, 2) := by decide +kernel
theorem dX4_add_57 : decode cX4_add 57 = .ok (.ireturn, 1) := by decide +kernel
theorem dX4_setRange_0 : decode cX4_setRange 0 = .ok (.aload_n 0, 1) := by decide +kernel
theorem dX4_setRange_1 : decode cX4_setRange 1 = .ok (.getfield 27, 3) := by decide +kernel
theorem dX4_setRange_4 : decode cX4_setRange 4 = .ok (.iload_n 1, 1) := by decide +kernel
theorem dX4_setRange_5 : decode cX4_setRange 5 = .ok (.iload_n 2, 1) := by decide +kernel
theorem dX4_setRange_6 : decode cX4_setRange 6 = .ok (.iastore, 1) := by decide +kernel
theorem dX4_setRange_7 : decode cX4_setRange 7 = .ok (.aload_n 0, 1) := by decide +kernel
theorem dX4_setRange_8 : decode cX4_setRange 8 = .ok (.getfield 30, 3) := by decide +kernel
theorem dX4_setRange_11 : decode cX4_setRange 11 = .ok (.iload_n 1, 1) := by decide +kernel
theorem dX4_setRange_12 : decode cX4_setRange 12 = .ok (.iload_n 3, 1) := by decide +kernel
theorem dX4_setRange_13 : decode cX4_setRange 13 = .ok (.iastore, 1) := by decide +kernel
theorem dX4_setRange_14 : decode cX4_setRange 14 = .ok (.return_, 1) := by decide +kernel
theorem dX4_setCondition_0 : decode cX4_setCondition 0 = .ok (.aload_n 0, 1) := by decide +kernel
theorem dX4_setCondition_1 : decode cX4_setCondition 1 = .ok (.getfield 33, 3) := by decide +kernel
theorem dX4_setCondition_4 : decode cX4_setCondition 4 = .ok (.iload_n 1, 1) := by decide +kernel
theorem dX4_setCondition_5 : decode cX4_setCondition 5 = .ok (.iload_n 2, 1) := by decide +kernel
theorem dX4_setCondition_6 : decode cX4_setCondition 6 = .ok (.iastore, 1) := by decide +kernel
theorem dX4_setCondition_7 : decode cX4_setCondition 7 = .ok (.aload_n 0, 1) := by decide +kernel
theorem dX4_setCondition_8 : decode cX4_setCondition 8 = .ok (.getfield 36, 3) := by decide +kernel
theorem dX4_setCondition_11 : decode cX4_setCondition 11 = .ok (.iload_n 1, 1) := by decide +kernel
theorem dX4_setCondition_12 : decode cX4_setCondition 12 = .ok (.iload_n 3, 1) := by decide +kernel
theorem dX4_setCondition_13 : decode cX4_setCondition 13 = .ok (.iastore, 1) := by decide +kernel
theorem dX4_setCondition_14 : decode cX4_setCondition 14 = .ok (.return_, 1) := by decide +kernel
theorem dX4_isHolding_0 : decode cX4_isHolding 0 = .ok (.iconst 1, 1) := by decide +kernel
theorem dX4_isHolding_1 : decode cX4_isHolding 1 = .ok (.iload_n 3, 1) := by decide +kernel
theorem dX4_isHolding_2 : decode cX4_isHolding 2 = .ok (.aload_n 0, 1) := by decide +kernel
theorem dX4_isHolding_3 : decode cX4_isHolding 3 = .ok (.getfield 33, 3) := by decide +kernel
theorem dX4_isHolding_6 : decode cX4_isHolding 6 = .ok (.iload_n 1, 1) := by decide +kernel
theorem dX4_isHolding_7 : decode cX4_isHolding 7 = .ok (.iaload, 1) := by decide +kernel
theorem dX4_isHolding_8 : decode cX4_isHolding 8 = .ok (.invokestatic 43, 3) := by decide +kernel
theorem dX4_isHolding_11 : decode cX4_isHolding 11 = .ok (.ishl, 1) := by decide +kernel
theorem dX4_isHolding_12 : decode cX4_isHolding 12 = .ok (.istore 4, 2) := by decide +kernel
theorem dX4_isHolding_14 : decode cX4_isHolding 14 = .ok (.iload_n 2, 1) := by decide +kernel
theorem dX4_isHolding_15 : decode cX4_isHolding 15 = .ok (.aload_n 0, 1) := by decide +kernel
theorem dX4_isHolding_16 : decode cX4_isHolding 16 = .ok (.getfield 27, 3) := by decide +kernel
theorem dX4_isHolding_19 : decode cX4_isHolding 19 = .ok (.iload_n 1, 1) := by decide +kernel
theorem dX4_isHolding_20 : decode cX4_isHolding 20 = .ok (.iaload, 1) := by decide +kernel
theorem dX4_isHolding_21 : decode cX4_isHolding 21 = .ok (.aload_n 0, 1) := by decide +kernel
theorem dX4_isHolding_22 : decode cX4_isHolding 22 = .ok (.getfield 30, 3) := by decide +kernel
theorem dX4_isHolding_25 : decode cX4_isHolding 25 = .ok (.iload_n 1, 1) := by decide +kernel
theorem dX4_isHolding_26 : decode cX4_isHolding 26 = .ok (.iaload, 1) := by decide +kernel
theorem dX4_isHolding_27 : decode cX4_isHolding 27 = .ok (.invokestatic 47, 3) := by decide +kernel
theorem dX4_isHolding_30 : decode cX4_isHolding 30 = .ok (.ifCond .eq 19, 3) := by decide +kernel
theorem dX4_isHolding_33 : decode cX4_isHolding 33 = .ok (.aload_n 0, 1) := by decide +kernel
theorem dX4_isHolding_34 : decode cX4_isHolding 34 = .ok (.getfield 36, 3) := by decide +kernel
theorem dX4_isHolding_37 : decode cX4_isHolding 37 = .ok (.iload_n 1, 1) := by decide +kernel
theorem dX4_isHolding_38 : decode cX4_isHolding 38 = .ok (.iaload, 1) := by decide +kernel
theorem dX4_isHolding_39 : decode cX4_isHolding 39 = .ok (.iload 4, 2) := by decide +kernel
theorem dX4_isHolding_41 : decode cX4_isHolding 41 = .ok (.iand, 1) := by decide +kernel
theorem dX4_isHolding_42 : decode cX4_isHolding 42 = .ok (.ifCond .eq 7, 3) := by decide +kernel
theorem dX4_isHolding_45 : decode cX4_isHolding 45 = .ok (.iconst 1, 1) := by decide +kernel
theorem dX4_isHolding_46 : decode cX4_isHolding 46 = .ok (.goto 4, 3) := by decide +kernel
theorem dX4_isHolding_49 : decode cX4_isHolding 49 = .ok (.iconst 0, 1) := by decide +kernel
theorem dX4_isHolding_50 : decode cX4_isHolding 50 = .ok (.ireturn, 1) := by decide +kernel
theorem dX4_isAt_0 : decode cX4_isAt 0 = .ok (.aload_n 0, 1) := by decide +kernel
theorem dX4_isAt_1 : decode cX4_isAt 1 = .ok (.getfield 9, 3) := by decide +kernel
theorem dX4_isAt_4 : decode cX4_isAt 4 = .ok (.iload_n 1, 1) := by decide +kernel
theorem dX4_isAt_5 : decode cX4_isAt 5 = .ok (.iaload, 1) := by decide +kernel
theorem dX4_isAt_6 : decode cX4_isAt 6 = .ok (.iload_n 2, 1) := by decide +kernel
theorem dX4_isAt_7 : decode cX4_isAt 7 = .ok (.if_icmp .ne 17, 3) := by decide +kernel
theorem dX4_isAt_10 : decode cX4_isAt 10 = .ok (.aload_n 0, 1) := by decide +kernel
theorem dX4_isAt_11 : decode cX4_isAt 11 = .ok (.getfield 15, 3) := by decide +kernel
theorem dX4_isAt_14 : decode cX4_isAt 14 = .ok (.iload_n 1, 1) := by decide +kernel
theorem dX4_isAt_15 : decode cX4_isAt 15 = .ok (.iaload, 1) := by decide +kernel
theorem dX4_isAt_16 : decode cX4_isAt 16 = .ok (.iload_n 3, 1) := by decide +kernel
theorem dX4_isAt_17 : decode cX4_isAt 17 = .ok (.if_icmp .ne 7, 3) := by decide +kernel
theorem dX4_isAt_20 : decode cX4_isAt 20 = .ok (.iconst 1, 1) := by decide +kernel
theorem dX4_isAt_21 : decode cX4_isAt 21 = .ok (.goto 4, 3) := by decide +kernel
theorem dX4_isAt_24 : decode cX4_isAt 24 = .ok (.iconst 0, 1) := by decide +kernel
theorem dX4_isAt_25 : decode cX4_isAt 25 = .ok (.ireturn, 1) := by decide +kernel
theorem dX4_overlaps_0 : decode cX4_overlaps 0 = .ok (.aload_n 0, 1) := by decide +kernel
theorem dX4_overlaps_1 : decode cX4_overlaps 1 = .ok (.getfield 27, 3) := by decide +kernel
theorem dX4_overlaps_4 : decode cX4_overlaps 4 = .ok (.iload_n 1, 1) := by decide +kernel
theorem dX4_overlaps_5 : decode cX4_overlaps 5 = .ok (.iaload, 1) := by decide +kernel
theorem dX4_overlaps_6 : decode cX4_overlaps 6 = .ok (.iload_n 3, 1) := by decide +kernel
theorem dX4_overlaps_7 : decode cX4_overlaps 7 = .ok (.if_icmp .gt 17, 3) := by decide +kernel
theorem dX4_overlaps_10 : decode cX4_overlaps 10 = .ok (.iload_n 2, 1) := by decide +kernel
theorem dX4_overlaps_11 : decode cX4_overlaps 11 = .ok (.aload_n 0, 1) := by decide +kernel
theorem dX4_overlaps_12 : decode cX4_overlaps 12 = .ok (.getfield 30, 3) := by decide +kernel
theorem dX4_overlaps_15 : decode cX4_overlaps 15 = .ok (.iload_n 1, 1) := by decide +kernel
theorem dX4_overlaps_16 : decode cX4_overlaps 16 = .ok (.iaload, 1) := by decide +kernel
theorem dX4_overlaps_17 : decode cX4_overlaps 17 = .ok (.if_icmp .gt 7, 3) := by decide +kernel
theorem dX4_overlaps_20 : decode cX4_overlaps 20 = .ok (.iconst 1, 1) := by decide +kernel
theorem dX4_overlaps_21 : decode cX4_overlaps 21 = .ok (.goto 4, 3) := by decide +kernel
theorem dX4_overlaps_24 : decode cX4_overlaps 24 = .ok (.iconst 0, 1) := by decide +kernel
theorem dX4_overlaps_25 : decode cX4_overlaps 25 = .ok (.ireturn, 1) := by decide +kernel
theorem dX4_sharesConfiguration_0 : decode cX4_sharesConfiguration 0 = .ok (.aload_n 0, 1) := by decide +kernel
theorem dX4_sharesConfiguration_1 : decode cX4_sharesConfiguration 1 = .ok (.getfield 33, 3) := by decide +kernel
theorem dX4_sharesConfiguration_4 : decode cX4_sharesConfiguration 4 = .ok (.iload_n 1, 1) := by decide +kernel
theorem dX4_sharesConfiguration_5 : decode cX4_sharesConfiguration 5 = .ok (.iaload, 1) := by decide +kernel
theorem dX4_sharesConfiguration_6 : decode cX4_sharesConfiguration 6 = .ok (.iload_n 2, 1) := by decide +kernel
theorem dX4_sharesConfiguration_7 : decode cX4_sharesConfiguration 7 = .ok (.if_icmp .ne 14, 3) := by decide +kernel
theorem dX4_sharesConfiguration_10 : decode cX4_sharesConfiguration 10 = .ok (.aload_n 0, 1) := by decide +kernel
theorem dX4_sharesConfiguration_11 : decode cX4_sharesConfiguration 11 = .ok (.getfield 36, 3) := by decide +kernel
theorem dX4_sharesConfiguration_14 : decode cX4_sharesConfiguration 14 = .ok (.iload_n 1, 1) := by decide +kernel
theorem dX4_sharesConfiguration_15 : decode cX4_sharesConfiguration 15 = .ok (.iaload, 1) := by decide +kernel
theorem dX4_sharesConfiguration_16 : decode cX4_sharesConfiguration 16 = .ok (.iload_n 3, 1) := by decide +kernel
theorem dX4_sharesConfiguration_17 : decode cX4_sharesConfiguration 17 = .ok (.iand, 1) := by decide +kernel
theorem dX4_sharesConfiguration_18 : decode cX4_sharesConfiguration 18 = .ok (.ifCond .eq 7, 3) := by decide +kernel
theorem dX4_sharesConfiguration_21 : decode cX4_sharesConfiguration 21 = .ok (.iconst 1, 1) := by decide +kernel
theorem dX4_sharesConfiguration_22 : decode cX4_sharesConfiguration 22 = .ok (.goto 4, 3) := by decide +kernel
theorem dX4_sharesConfiguration_25 : decode cX4_sharesConfiguration 25 = .ok (.iconst 0, 1) := by decide +kernel
theorem dX4_sharesConfiguration_26 : decode cX4_sharesConfiguration 26 = .ok (.ireturn, 1) := by decide +kernel
theorem dX4_addedCost_0 : decode cX4_addedCost 0 = .ok (.aload_n 0, 1) := by decide +kernel
theorem dX4_addedCost_1 : decode cX4_addedCost 1 = .ok (.getfield 21, 3) := by decide +kernel
theorem dX4_addedCost_4 : decode cX4_addedCost 4 = .ok (.iload_n 1, 1) := by decide +kernel
theorem dX4_addedCost_5 : decode cX4_addedCost 5 = .ok (.iaload, 1) := by decide +kernel
theorem dX4_addedCost_6 : decode cX4_addedCost 6 = .ok (.i2f, 1) := by decide +kernel
theorem dX4_addedCost_7 : decode cX4_addedCost 7 = .ok (.bipush 100, 2) := by decide +kernel
theorem dX4_addedCost_9 : decode cX4_addedCost 9 = .ok (.aload_n 0, 1) := by decide +kernel
theorem dX4_addedCost_10 : decode cX4_addedCost 10 = .ok (.getfield 24, 3) := by decide +kernel
theorem dX4_addedCost_13 : decode cX4_addedCost 13 = .ok (.iload_n 1, 1) := by decide +kernel
theorem dX4_addedCost_14 : decode cX4_addedCost 14 = .ok (.iaload, 1) := by decide +kernel
theorem dX4_addedCost_15 : decode cX4_addedCost 15 = .ok (.iadd, 1) := by decide +kernel
theorem dX4_addedCost_16 : decode cX4_addedCost 16 = .ok (.i2f, 1) := by decide +kernel
theorem dX4_addedCost_17 : decode cX4_addedCost 17 = .ok (.fmul, 1) := by decide +kernel
theorem dX4_addedCost_18 : decode cX4_addedCost 18 = .ok (.ldc 51, 2) := by decide +kernel
theorem dX4_addedCost_20 : decode cX4_addedCost 20 = .ok (.fdiv, 1) := by decide +kernel
theorem dX4_addedCost_21 : decode cX4_addedCost 21 = .ok (.fload_n 2, 1) := by decide +kernel
theorem dX4_addedCost_22 : decode cX4_addedCost 22 = .ok (.fmul, 1) := by decide +kernel
theorem dX4_addedCost_23 : decode cX4_addedCost 23 = .ok (.freturn, 1) := by decide +kernel
theorem dX4_isSound_0 : decode cX4_isSound 0 = .ok (.aload_n 0, 1) := by decide +kernel
theorem dX4_isSound_1 : decode cX4_isSound 1 = .ok (.getfield 39, 3) := by decide +kernel
theorem dX4_isSound_4 : decode cX4_isSound 4 = .ok (.iconst 0, 1) := by decide +kernel
theorem dX4_isSound_5 : decode cX4_isSound 5 = .ok (.bipush 40, 2) := by decide +kernel
theorem dX4_isSound_7 : decode cX4_isSound 7 = .ok (.invokestatic 47, 3) := by decide +kernel
theorem dX4_isSound_10 : decode cX4_isSound 10 = .ok (.ifCond .ne 5, 3) := by decide +kernel
theorem dX4_isSound_13 : decode cX4_isSound 13 = .ok (.iconst 0, 1) := by decide +kernel
theorem dX4_isSound_14 : decode cX4_isSound 14 = .ok (.ireturn, 1) := by decide +kernel
theorem dX4_isSound_15 : decode cX4_isSound 15 = .ok (.iconst 0, 1) := by decide +kernel
theorem dX4_isSound_16 : decode cX4_isSound 16 = .ok (.istore_n 2, 1) := by decide +kernel
theorem dX4_isSound_17 : decode cX4_isSound 17 = .ok (.iload_n 2, 1) := by decide +kernel
theorem dX4_isSound_18 : decode cX4_isSound 18 = .ok (.aload_n 0, 1) := by decide +kernel
theorem dX4_isSound_19 : decode cX4_isSound 19 = .ok (.getfield 39, 3) := by decide +kernel
theorem dX4_isSound_22 : decode cX4_isSound 22 = .ok (.if_icmp .ge 20, 3) := by decide +kernel
theorem dX4_isSound_25 : decode cX4_isSound 25 = .ok (.aload_n 0, 1) := by decide +kernel
theorem dX4_isSound_26 : decode cX4_isSound 26 = .ok (.iload_n 2, 1) := by decide +kernel
theorem dX4_isSound_27 : decode cX4_isSound 27 = .ok (.iload_n 1, 1) := by decide +kernel
theorem dX4_isSound_28 : decode cX4_isSound 28 = .ok (.invokevirtual 52, 3) := by decide +kernel
theorem dX4_isSound_31 : decode cX4_isSound 31 = .ok (.ifCond .ne 5, 3) := by decide +kernel
theorem dX4_isSound_34 : decode cX4_isSound 34 = .ok (.iconst 0, 1) := by decide +kernel
theorem dX4_isSound_35 : decode cX4_isSound 35 = .ok (.ireturn, 1) := by decide +kernel
theorem dX4_isSound_36 : decode cX4_isSound 36 = .ok (.iinc 2 1, 3) := by decide +kernel
theorem dX4_isSound_39 : decode cX4_isSound 39 = .ok (.goto (-22), 3) := by decide +kernel
theorem dX4_isSound_42 : decode cX4_isSound 42 = .ok (.iconst 1, 1) := by decide +kernel
theorem dX4_isSound_43 : decode cX4_isSound 43 = .ok (.ireturn, 1) := by decide +kernel
theorem dX4_isSoundLine_0 : decode cX4_isSoundLine 0 = .ok (.aload_n 0, 1) := by decide +kernel
theorem dX4_isSoundLine_1 : decode cX4_isSoundLine 1 = .ok (.getfield 9, 3) := by decide +kernel
theorem dX4_isSoundLine_4 : decode cX4_isSoundLine 4 = .ok (.iload_n 1, 1) := by decide +kernel
theorem dX4_isSoundLine_5 : decode cX4_isSoundLine 5 = .ok (.iaload, 1) := by decide +kernel
theorem dX4_isSoundLine_6 : decode cX4_isSoundLine 6 = .ok (.iconst 0, 1) := by decide +kernel
theorem dX4_isSoundLine_7 : decode cX4_isSoundLine 7 = .ok (.iload_n 2, 1) := by decide +kernel
theorem dX4_isSoundLine_8 : decode cX4_isSoundLine 8 = .ok (.iconst 1, 1) := by decide +kernel
theorem dX4_isSoundLine_9 : decode cX4_isSoundLine 9 = .ok (.isub, 1) := by decide +kernel
theorem dX4_isSoundLine_10 : decode cX4_isSoundLine 10 = .ok (.invokestatic 47, 3) := by decide +kernel
theorem dX4_isSoundLine_13 : decode cX4_isSoundLine 13 = .ok (.ifCond .eq 134, 3) := by decide +kernel
theorem dX4_isSoundLine_16 : decode cX4_isSoundLine 16 = .ok (.aload_n 0, 1) := by decide +kernel
theorem dX4_isSoundLine_17 : decode cX4_isSoundLine 17 = .ok (.getfield 18, 3) := by decide +kernel
theorem dX4_isSoundLine_20 : decode cX4_isSoundLine 20 = .ok (.iload_n 1, 1) := by decide +kernel
theorem dX4_isSoundLine_21 : decode cX4_isSoundLine 21 = .ok (.iaload, 1) := by decide +kernel
theorem dX4_isSoundLine_22 : decode cX4_isSoundLine 22 = .ok (.iconst 0, 1) := by decide +kernel
theorem dX4_isSoundLine_23 : decode cX4_isSoundLine 23 = .ok (.iload_n 2, 1) := by decide +kernel
theorem dX4_isSoundLine_24 : decode cX4_isSoundLine 24 = .ok (.iconst 1, 1) := by decide +kernel
theorem dX4_isSoundLine_25 : decode cX4_isSoundLine 25 = .ok (.isub, 1) := by decide +kernel
theorem dX4_isSoundLine_26 : decode cX4_isSoundLine 26 = .ok (.invokestatic 47, 3) := by decide +kernel
theorem dX4_isSoundLine_29 : decode cX4_isSoundLine 29 = .ok (.ifCond .eq 118, 3) := by decide +kernel
theorem dX4_isSoundLine_32 : decode cX4_isSoundLine 32 = .ok (.aload_n 0, 1) := by decide +kernel
theorem dX4_isSoundLine_33 : decode cX4_isSoundLine 33 = .ok (.getfield 15, 3) := by decide +kernel
theorem dX4_isSoundLine_36 : decode cX4_isSoundLine 36 = .ok (.iload_n 1, 1) := by decide +kernel
theorem dX4_isSoundLine_37 : decode cX4_isSoundLine 37 = .ok (.iaload, 1) := by decide +kernel
theorem dX4_isSoundLine_38 : decode cX4_isSoundLine 38 = .ok (.iconst 1, 1) := by decide +kernel
theorem dX4_isSoundLine_39 : decode cX4_isSoundLine 39 = .ok (.bipush 6, 2) := by decide +kernel
theorem dX4_isSoundLine_41 : decode cX4_isSoundLine 41 = .ok (.invokestatic 47, 3) := by decide +kernel
theorem dX4_isSoundLine_44 : decode cX4_isSoundLine 44 = .ok (.ifCond .eq 103, 3) := by decide +kernel
theorem dX4_isSoundLine_47 : decode cX4_isSoundLine 47 = .ok (.aload_n 0, 1) := by decide +kernel
theorem dX4_isSoundLine_48 : decode cX4_isSoundLine 48 = .ok (.getfield 21, 3) := by decide +kernel
theorem dX4_isSoundLine_51 : decode cX4_isSoundLine 51 = .ok (.iload_n 1, 1) := by decide +kernel
theorem dX4_isSoundLine_52 : decode cX4_isSoundLine 52 = .ok (.iaload, 1) := by decide +kernel
theorem dX4_isSoundLine_53 : decode cX4_isSoundLine 53 = .ok (.iconst 1, 1) := by decide +kernel
theorem dX4_isSoundLine_54 : decode cX4_isSoundLine 54 = .ok (.bipush 20, 2) := by decide +kernel
theorem dX4_isSoundLine_56 : decode cX4_isSoundLine 56 = .ok (.invokestatic 47, 3) := by decide +kernel
theorem dX4_isSoundLine_59 : decode cX4_isSoundLine 59 = .ok (.ifCond .eq 88, 3) := by decide +kernel
theorem dX4_isSoundLine_62 : decode cX4_isSoundLine 62 = .ok (.aload_n 0, 1) := by decide +kernel
theorem dX4_isSoundLine_63 : decode cX4_isSoundLine 63 = .ok (.getfield 24, 3) := by decide +kernel
theorem dX4_isSoundLine_66 : decode cX4_isSoundLine 66 = .ok (.iload_n 1, 1) := by decide +kernel
theorem dX4_isSoundLine_67 : decode cX4_isSoundLine 67 = .ok (.iaload, 1) := by decide +kernel
theorem dX4_isSoundLine_68 : decode cX4_isSoundLine 68 = .ok (.iconst 0, 1) := by decide +kernel
theorem dX4_isSoundLine_69 : decode cX4_isSoundLine 69 = .ok (.bipush 50, 2) := by decide +kernel
theorem dX4_isSoundLine_71 : decode cX4_isSoundLine 71 = .ok (.invokestatic 47, 3) := by decide +kernel
theorem dX4_isSoundLine_74 : decode cX4_isSoundLine 74 = .ok (.ifCond .eq 73, 3) := by decide +kernel
theorem dX4_isSoundLine_77 : decode cX4_isSoundLine 77 = .ok (.aload_n 0, 1) := by decide +kernel
theorem dX4_isSoundLine_78 : decode cX4_isSoundLine 78 = .ok (.getfield 27, 3) := by decide +kernel
theorem dX4_isSoundLine_81 : decode cX4_isSoundLine 81 = .ok (.iload_n 1, 1) := by decide +kernel
theorem dX4_isSoundLine_82 : decode cX4_isSoundLine 82 = .ok (.iaload, 1) := by decide +kernel
theorem dX4_isSoundLine_83 : decode cX4_isSoundLine 83 = .ok (.iconst 1, 1) := by decide +kernel
theorem dX4_isSoundLine_84 : decode cX4_isSoundLine 84 = .ok (.sipush 999, 3) := by decide +kernel
theorem dX4_isSoundLine_87 : decode cX4_isSoundLine 87 = .ok (.invokestatic 47, 3) := by decide +kernel
theorem dX4_isSoundLine_90 : decode cX4_isSoundLine 90 = .ok (.ifCond .eq 57, 3) := by decide +kernel
theorem dX4_isSoundLine_93 : decode cX4_isSoundLine 93 = .ok (.aload_n 0, 1) := by decide +kernel
theorem dX4_isSoundLine_94 : decode cX4_isSoundLine 94 = .ok (.getfield 30, 3) := by decide +kernel
theorem dX4_isSoundLine_97 : decode cX4_isSoundLine 97 = .ok (.iload_n 1, 1) := by decide +kernel
theorem dX4_isSoundLine_98 : decode cX4_isSoundLine 98 = .ok (.iaload, 1) := by decide +kernel
theorem dX4_isSoundLine_99 : decode cX4_isSoundLine 99 = .ok (.aload_n 0, 1) := by decide +kernel
theorem dX4_isSoundLine_100 : decode cX4_isSoundLine 100 = .ok (.getfield 27, 3) := by decide +kernel
theorem dX4_isSoundLine_103 : decode cX4_isSoundLine 103 = .ok (.iload_n 1, 1) := by decide +kernel
theorem dX4_isSoundLine_104 : decode cX4_isSoundLine 104 = .ok (.iaload, 1) := by decide +kernel
theorem dX4_isSoundLine_105 : decode cX4_isSoundLine 105 = .ok (.sipush 999, 3) := by decide +kernel
theorem dX4_isSoundLine_108 : decode cX4_isSoundLine 108 = .ok (.invokestatic 47, 3) := by decide +kernel
theorem dX4_isSoundLine_111 : decode cX4_isSoundLine 111 = .ok (.ifCond .eq 36, 3) := by decide +kernel
theorem dX4_isSoundLine_114 : decode cX4_isSoundLine 114 = .ok (.aload_n 0, 1) := by decide +kernel
theorem dX4_isSoundLine_115 : decode cX4_isSoundLine 115 = .ok (.getfield 33, 3) := by decide +kernel
theorem dX4_isSoundLine_118 : decode cX4_isSoundLine 118 = .ok (.iload_n 1, 1) := by decide +kernel
theorem dX4_isSoundLine_119 : decode cX4_isSoundLine 119 = .ok (.iaload, 1) := by decide +kernel
theorem dX4_isSoundLine_120 : decode cX4_isSoundLine 120 = .ok (.iconst 0, 1) := by decide +kernel
theorem dX4_isSoundLine_121 : decode cX4_isSoundLine 121 = .ok (.iconst 3, 1) := by decide +kernel
theorem dX4_isSoundLine_122 : decode cX4_isSoundLine 122 = .ok (.invokestatic 47, 3) := by decide +kernel
theorem dX4_isSoundLine_125 : decode cX4_isSoundLine 125 = .ok (.ifCond .eq 22, 3) := by decide +kernel
theorem dX4_isSoundLine_128 : decode cX4_isSoundLine 128 = .ok (.aload_n 0, 1) := by decide +kernel
theorem dX4_isSoundLine_129 : decode cX4_isSoundLine 129 = .ok (.getfield 36, 3) := by decide +kernel
theorem dX4_isSoundLine_132 : decode cX4_isSoundLine 132 = .ok (.iload_n 1, 1) := by decide +kernel
theorem dX4_isSoundLine_133 : decode cX4_isSoundLine 133 = .ok (.iaload, 1) := by decide +kernel
theorem dX4_isSoundLine_134 : decode cX4_isSoundLine 134 = .ok (.iconst 1, 1) := by decide +kernel
theorem dX4_isSoundLine_135 : decode cX4_isSoundLine 135 = .ok (.bipush 15, 2) := by decide +kernel
theorem dX4_isSoundLine_137 : decode cX4_isSoundLine 137 = .ok (.invokestatic 47, 3) := by decide +kernel
theorem dX4_isSoundLine_140 : decode cX4_isSoundLine 140 = .ok (.ifCond .eq 7, 3) := by decide +kernel
theorem dX4_isSoundLine_143 : decode cX4_isSoundLine 143 = .ok (.iconst 1, 1) := by decide +kernel
theorem dX4_isSoundLine_144 : decode cX4_isSoundLine 144 = .ok (.goto 4, 3) := by decide +kernel
theorem dX4_isSoundLine_147 : decode cX4_isSoundLine 147 = .ok (.iconst 0, 1) := by decide +kernel
theorem dX4_isSoundLine_148 : decode cX4_isSoundLine 148 = .ok (.ireturn, 1) := by decide +kernel
theorem dX4_isUnique_0 : decode cX4_isUnique 0 = .ok (.iconst 0, 1) := by decide +kernel
theorem dX4_isUnique_1 : decode cX4_isUnique 1 = .ok (.istore_n 1, 1) := by decide +kernel
theorem dX4_isUnique_2 : decode cX4_isUnique 2 = .ok (.iload_n 1, 1) := by decide +kernel
theorem dX4_isUnique_3 : decode cX4_isUnique 3 = .ok (.aload_n 0, 1) := by decide +kernel
theorem dX4_isUnique_4 : decode cX4_isUnique 4 = .ok (.getfield 39, 3) := by decide +kernel
theorem dX4_isUnique_7 : decode cX4_isUnique 7 = .ok (.if_icmp .ge 84, 3) := by decide +kernel
theorem dX4_isUnique_10 : decode cX4_isUnique 10 = .ok (.iconst 0, 1) := by decide +kernel
theorem dX4_isUnique_11 : decode cX4_isUnique 11 = .ok (.istore_n 2, 1) := by decide +kernel
theorem dX4_isUnique_12 : decode cX4_isUnique 12 = .ok (.iload_n 2, 1) := by decide +kernel
theorem dX4_isUnique_13 : decode cX4_isUnique 13 = .ok (.iload_n 1, 1) := by decide +kernel
theorem dX4_isUnique_14 : decode cX4_isUnique 14 = .ok (.if_icmp .ge 71, 3) := by decide +kernel
theorem dX4_isUnique_17 : decode cX4_isUnique 17 = .ok (.aload_n 0, 1) := by decide +kernel
theorem dX4_isUnique_18 : decode cX4_isUnique 18 = .ok (.iload_n 2, 1) := by decide +kernel
theorem dX4_isUnique_19 : decode cX4_isUnique 19 = .ok (.aload_n 0, 1) := by decide +kernel
theorem dX4_isUnique_20 : decode cX4_isUnique 20 = .ok (.getfield 9, 3) := by decide +kernel
theorem dX4_isUnique_23 : decode cX4_isUnique 23 = .ok (.iload_n 1, 1) := by decide +kernel
theorem dX4_isUnique_24 : decode cX4_isUnique 24 = .ok (.iaload, 1) := by decide +kernel
theorem dX4_isUnique_25 : decode cX4_isUnique 25 = .ok (.aload_n 0, 1) := by decide +kernel
theorem dX4_isUnique_26 : decode cX4_isUnique 26 = .ok (.getfield 15, 3) := by decide +kernel
theorem dX4_isUnique_29 : decode cX4_isUnique 29 = .ok (.iload_n 1, 1) := by decide +kernel
theorem dX4_isUnique_30 : decode cX4_isUnique 30 = .ok (.iaload, 1) := by decide +kernel
theorem dX4_isUnique_31 : decode cX4_isUnique 31 = .ok (.invokevirtual 56, 3) := by decide +kernel
theorem dX4_isUnique_34 : decode cX4_isUnique 34 = .ok (.ifCond .eq 45, 3) := by decide +kernel
theorem dX4_isUnique_37 : decode cX4_isUnique 37 = .ok (.aload_n 0, 1) := by decide +kernel
theorem dX4_isUnique_38 : decode cX4_isUnique 38 = .ok (.iload_n 2, 1) := by decide +kernel
theorem dX4_isUnique_39 : decode cX4_isUnique 39 = .ok (.aload_n 0, 1) := by decide +kernel
theorem dX4_isUnique_40 : decode cX4_isUnique 40 = .ok (.getfield 27, 3) := by decide +kernel
theorem dX4_isUnique_43 : decode cX4_isUnique 43 = .ok (.iload_n 1, 1) := by decide +kernel
theorem dX4_isUnique_44 : decode cX4_isUnique 44 = .ok (.iaload, 1) := by decide +kernel
theorem dX4_isUnique_45 : decode cX4_isUnique 45 = .ok (.aload_n 0, 1) := by decide +kernel
theorem dX4_isUnique_46 : decode cX4_isUnique 46 = .ok (.getfield 30, 3) := by decide +kernel
theorem dX4_isUnique_49 : decode cX4_isUnique 49 = .ok (.iload_n 1, 1) := by decide +kernel
theorem dX4_isUnique_50 : decode cX4_isUnique 50 = .ok (.iaload, 1) := by decide +kernel
theorem dX4_isUnique_51 : decode cX4_isUnique 51 = .ok (.invokevirtual 59, 3) := by decide +kernel
theorem dX4_isUnique_54 : decode cX4_isUnique 54 = .ok (.ifCond .eq 25, 3) := by decide +kernel
theorem dX4_isUnique_57 : decode cX4_isUnique 57 = .ok (.aload_n 0, 1) := by decide +kernel
theorem dX4_isUnique_58 : decode cX4_isUnique 58 = .ok (.iload_n 2, 1) := by decide +kernel
theorem dX4_isUnique_59 : decode cX4_isUnique 59 = .ok (.aload_n 0, 1) := by decide +kernel
theorem dX4_isUnique_60 : decode cX4_isUnique 60 = .ok (.getfield 33, 3) := by decide +kernel
theorem dX4_isUnique_63 : decode cX4_isUnique 63 = .ok (.iload_n 1, 1) := by decide +kernel
theorem dX4_isUnique_64 : decode cX4_isUnique 64 = .ok (.iaload, 1) := by decide +kernel
theorem dX4_isUnique_65 : decode cX4_isUnique 65 = .ok (.aload_n 0, 1) := by decide +kernel
theorem dX4_isUnique_66 : decode cX4_isUnique 66 = .ok (.getfield 36, 3) := by decide +kernel
theorem dX4_isUnique_69 : decode cX4_isUnique 69 = .ok (.iload_n 1, 1) := by decide +kernel
theorem dX4_isUnique_70 : decode cX4_isUnique 70 = .ok (.iaload, 1) := by decide +kernel
theorem dX4_isUnique_71 : decode cX4_isUnique 71 = .ok (.invokevirtual 62, 3) := by decide +kernel
theorem dX4_isUnique_74 : decode cX4_isUnique 74 = .ok (.ifCond .eq 5, 3) := by decide +kernel
theorem dX4_isUnique_77 : decode cX4_isUnique 77 = .ok (.iconst 0, 1) := by decide +kernel
theorem dX4_isUnique_78 : decode cX4_isUnique 78 = .ok (.ireturn, 1) := by decide +kernel
theorem dX4_isUnique_79 : decode cX4_isUnique 79 = .ok (.iinc 2 1, 3) := by decide +kernel
theorem dX4_isUnique_82 : decode cX4_isUnique 82 = .ok (.goto (-70), 3) := by decide +kernel
theorem dX4_isUnique_85 : decode cX4_isUnique 85 = .ok (.iinc 1 1, 3) := by decide +kernel
theorem dX4_isUnique_88 : decode cX4_isUnique 88 = .ok (.goto (-86), 3) := by decide +kernel
theorem dX4_isUnique_91 : decode cX4_isUnique 91 = .ok (.iconst 1, 1) := by decide +kernel
theorem dX4_isUnique_92 : decode cX4_isUnique 92 = .ok (.ireturn, 1) := by decide +kernel
theorem dX5_init_0 : decode cX5_init 0 = .ok (.aload_n 0, 1) := by decide +kernel
theorem dX5_init_1 : decode cX5_init 1 = .ok (.invokespecial 3, 3) := by decide +kernel
theorem dX5_init_4 : decode cX5_init 4 = .ok (.aload_n 0, 1) := by decide +kernel
theorem dX5_init_5 : decode cX5_init 5 = .ok (.bipush 8, 2) := by decide +kernel
theorem dX5_init_7 : decode cX5_init 7 = .ok (.newarray .int, 2) := by decide +kernel
theorem dX5_init_9 : decode cX5_init 9 = .ok (.putfield 9, 3) := by decide +kernel
theorem dX5_init_12 : decode cX5_init 12 = .ok (.aload_n 0, 1) := by decide +kernel
theorem dX5_init_13 : decode cX5_init 13 = .ok (.bipush 8, 2) := by decide +kernel
theorem dX5_init_15 : decode cX5_init 15 = .ok (.newarray .int, 2) := by decide +kernel
theorem dX5_init_17 : decode cX5_init 17 = .ok (.putfield 15, 3) := by decide +kernel
theorem dX5_init_20 : decode cX5_init 20 = .ok (.aload_n 0, 1) := by decide +kernel
theorem dX5_init_21 : decode cX5_init 21 = .ok (.bipush 8, 2) := by decide +kernel
theorem dX5_init_23 : decode cX5_init 23 = .ok (.newarray .int, 2) := by decide +kernel
theorem dX5_init_25 : decode cX5_init 25 = .ok (.putfield 18, 3) := by decide +kernel
theorem dX5_init_28 : decode cX5_init 28 = .ok (.aload_n 0, 1) := by decide +kernel
theorem dX5_init_29 : decode cX5_init 29 = .ok (.bipush 8, 2) := by decide +kernel
theorem dX5_init_31 : decode cX5_init 31 = .ok (.newarray .int, 2) := by decide +kernel
theorem dX5_init_33 : decode cX5_init 33 = .ok (.putfield 21, 3) := by decide +kernel
theorem dX5_init_36 : decode cX5_init 36 = .ok (.aload_n 0, 1) := by decide +kernel
theorem dX5_init_37 : decode cX5_init 37 = .ok (.bipush 8, 2) := by decide +kernel
theorem dX5_init_39 : decode cX5_init 39 = .ok (.newarray .boolean, 2) := by decide +kernel
theorem dX5_init_41 : decode cX5_init 41 = .ok (.putfield 24, 3) := by decide +kernel
theorem dX5_init_44 : decode cX5_init 44 = .ok (.aload_n 0, 1) := by decide +kernel
theorem dX5_init_45 : decode cX5_init 45 = .ok (.iconst 0, 1) := by decide +kernel
theorem dX5_init_46 : decode cX5_init 46 = .ok (.putfield 28, 3) := by decide +kernel
theorem dX5_init_49 : decode cX5_init 49 = .ok (.return_, 1) := by decide +kernel
theorem dX5_add_0 : decode cX5_add 0 = .ok (.aload_n 0, 1) := by decide +kernel
theorem dX5_add_1 : decode cX5_add 1 = .ok (.getfield 28, 3) := by decide +kernel
theorem dX5_add_4 : decode cX5_add 4 = .ok (.istore 5, 2) := by decide +kernel
theorem dX5_add_6 : decode cX5_add 6 = .ok (.aload_n 0, 1) := by decide +kernel
theorem dX5_add_7 : decode cX5_add 7 = .ok (.getfield 9, 3) := by decide +kernel
theorem dX5_add_10 : decode cX5_add 10 = .ok (.iload 5, 2) := by decide +kernel
theorem dX5_add_12 : decode cX5_add 12 = .ok (.iload_n 1, 1) := by decide +kernel
theorem dX5_add_13 : decode cX5_add 13 = .ok (.iastore, 1) := by decide +kernel
theorem dX5_add_14 : decode cX5_add 14 = .ok (.aload_n 0, 1) := by decide +kernel
theorem dX5_add_15 : decode cX5_add 15 = .ok (.getfield 15, 3) := by decide +kernel
theorem dX5_add_18 : decode cX5_add 18 = .ok (.iload 5, 2) := by decide +kernel
theorem dX5_add_20 : decode cX5_add 20 = .ok (.iload_n 2, 1) := by decide +kernel
theorem dX5_add_21 : decode cX5_add 21 = .ok (.iastore, 1) := by decide +kernel
theorem dX5_add_22 : decode cX5_add 22 = .ok (.aload_n 0, 1) := by decide +kernel
theorem dX5_add_23 : decode cX5_add 23 = .ok (.getfield 18, 3) := by decide +kernel
theorem dX5_add_26 : decode cX5_add 26 = .ok (.iload 5, 2) := by decide +kernel
theorem dX5_add_28 : decode cX5_add 28 = .ok (.iload_n 3, 1) := by decide +kernel
theorem dX5_add_29 : decode cX5_add 29 = .ok (.iastore, 1) := by decide +kernel
theorem dX5_add_30 : decode cX5_add 30 = .ok (.aload_n 0, 1) := by decide +kernel
theorem dX5_add_31 : decode cX5_add 31 = .ok (.getfield 21, 3) := by decide +kernel
theorem dX5_add_34 : decode cX5_add 34 = .ok (.iload 5, 2) := by decide +kernel
theorem dX5_add_36 : decode cX5_add 36 = .ok (.iload 4, 2) := by decide +kernel
theorem dX5_add_38 : decode cX5_add 38 = .ok (.iastore, 1) := by decide +kernel
theorem dX5_add_39 : decode cX5_add 39 = .ok (.aload_n 0, 1) := by decide +kernel
theorem dX5_add_40 : decode cX5_add 40 = .ok (.getfield 24, 3) := by decide +kernel
theorem dX5_add_43 : decode cX5_add 43 = .ok (.iload 5, 2) := by decide +kernel
theorem dX5_add_45 : decode cX5_add 45 = .ok (.iconst 0, 1) := by decide +kernel
theorem dX5_add_46 : decode cX5_add 46 = .ok (.bastore, 1) := by decide +kernel
theorem dX5_add_47 : decode cX5_add 47 = .ok (.aload_n 0, 1) := by decide +kernel
theorem dX5_add_48 : decode cX5_add 48 = .ok (.iload 5, 2) := by decide +kernel
theorem dX5_add_50 : decode cX5_add 50 = .ok (.iconst 1, 1) := by decide +kernel
theorem dX5_add_51 : decode cX5_add 51 = .ok (.iadd, 1) := by decide +kernel
theorem dX5_add_52 : decode cX5_add 52 = .ok (.putfield 28, 3) := by decide +kernel
theorem dX5_add_55 : decode cX5_add 55 = .ok (.iload 5, 2) := by decide +kernel
theorem dX5_add_57 : decode cX5_add 57 = .ok (.ireturn, 1) := by decide +kernel
theorem dX5_countOpen_0 : decode cX5_countOpen 0 = .ok (.iconst 0, 1) := by decide +kernel
theorem dX5_countOpen_1 : decode cX5_countOpen 1 = .ok (.istore_n 1, 1) := by decide +kernel
theorem dX5_countOpen_2 : decode cX5_countOpen 2 = .ok (.iconst 0, 1) := by decide +kernel
theorem dX5_countOpen_3 : decode cX5_countOpen 3 = .ok (.istore_n 2, 1) := by decide +kernel
theorem dX5_countOpen_4 : decode cX5_countOpen 4 = .ok (.iload_n 2, 1) := by decide +kernel
theorem dX5_countOpen_5 : decode cX5_countOpen 5 = .ok (.aload_n 0, 1) := by decide +kernel
theorem dX5_countOpen_6 : decode cX5_countOpen 6 = .ok (.getfield 28, 3) := by decide +kernel
theorem dX5_countOpen_9 : decode cX5_countOpen 9 = .ok (.if_icmp .ge 21, 3) := by decide +kernel
theorem dX5_countOpen_12 : decode cX5_countOpen 12 = .ok (.aload_n 0, 1) := by decide +kernel
theorem dX5_countOpen_13 : decode cX5_countOpen 13 = .ok (.getfield 24, 3) := by decide +kernel
theorem dX5_countOpen_16 : decode cX5_countOpen 16 = .ok (.iload_n 2, 1) := by decide +kernel
theorem dX5_countOpen_17 : decode cX5_countOpen 17 = .ok (.baload, 1) := by decide +kernel
theorem dX5_countOpen_18 : decode cX5_countOpen 18 = .ok (.ifCond .ne 6, 3) := by decide +kernel
theorem dX5_countOpen_21 : decode cX5_countOpen 21 = .ok (.iinc 1 1, 3) := by decide +kernel
theorem dX5_countOpen_24 : decode cX5_countOpen 24 = .ok (.iinc 2 1, 3) := by decide +kernel
theorem dX5_countOpen_27 : decode cX5_countOpen 27 = .ok (.goto (-23), 3) := by decide +kernel
theorem dX5_countOpen_30 : decode cX5_countOpen 30 = .ok (.iload_n 1, 1) := by decide +kernel
theorem dX5_countOpen_31 : decode cX5_countOpen 31 = .ok (.ireturn, 1) := by decide +kernel
theorem dX5_isSound_0 : decode cX5_isSound 0 = .ok (.aload_n 0, 1) := by decide +kernel
theorem dX5_isSound_1 : decode cX5_isSound 1 = .ok (.getfield 28, 3) := by decide +kernel
theorem dX5_isSound_4 : decode cX5_isSound 4 = .ok (.iconst 0, 1) := by decide +kernel
theorem dX5_isSound_5 : decode cX5_isSound 5 = .ok (.bipush 8, 2) := by decide +kernel
theorem dX5_isSound_7 : decode cX5_isSound 7 = .ok (.invokestatic 32, 3) := by decide +kernel
theorem dX5_isSound_10 : decode cX5_isSound 10 = .ok (.ifCond .ne 5, 3) := by decide +kernel
theorem dX5_isSound_13 : decode cX5_isSound 13 = .ok (.iconst 0, 1) := by decide +kernel
theorem dX5_isSound_14 : decode cX5_isSound 14 = .ok (.ireturn, 1) := by decide +kernel
theorem dX5_isSound_15 : decode cX5_isSound 15 = .ok (.iconst 0, 1) := by decide +kernel
theorem dX5_isSound_16 : decode cX5_isSound 16 = .ok (.istore_n 2, 1) := by decide +kernel
theorem dX5_isSound_17 : decode cX5_isSound 17 = .ok (.iload_n 2, 1) := by decide +kernel
theorem dX5_isSound_18 : decode cX5_isSound 18 = .ok (.aload_n 0, 1) := by decide +kernel
theorem dX5_isSound_19 : decode cX5_isSound 19 = .ok (.getfield 28, 3) := by decide +kernel
theorem dX5_isSound_22 : decode cX5_isSound 22 = .ok (.if_icmp .ge 71, 3) := by decide +kernel
theorem dX5_isSound_25 : decode cX5_isSound 25 = .ok (.aload_n 0, 1) := by decide +kernel
theorem dX5_isSound_26 : decode cX5_isSound 26 = .ok (.getfield 9, 3) := by decide +kernel
theorem dX5_isSound_29 : decode cX5_isSound 29 = .ok (.iload_n 2, 1) := by decide +kernel
theorem dX5_isSound_30 : decode cX5_isSound 30 = .ok (.iaload, 1) := by decide +kernel
theorem dX5_isSound_31 : decode cX5_isSound 31 = .ok (.iconst 0, 1) := by decide +kernel
theorem dX5_isSound_32 : decode cX5_isSound 32 = .ok (.iload_n 1, 1) := by decide +kernel
theorem dX5_isSound_33 : decode cX5_isSound 33 = .ok (.iconst 1, 1) := by decide +kernel
theorem dX5_isSound_34 : decode cX5_isSound 34 = .ok (.isub, 1) := by decide +kernel
theorem dX5_isSound_35 : decode cX5_isSound 35 = .ok (.invokestatic 32, 3) := by decide +kernel
theorem dX5_isSound_38 : decode cX5_isSound 38 = .ok (.ifCond .eq 47, 3) := by decide +kernel
theorem dX5_isSound_41 : decode cX5_isSound 41 = .ok (.aload_n 0, 1) := by decide +kernel
theorem dX5_isSound_42 : decode cX5_isSound 42 = .ok (.getfield 15, 3) := by decide +kernel
theorem dX5_isSound_45 : decode cX5_isSound 45 = .ok (.iload_n 2, 1) := by decide +kernel
theorem dX5_isSound_46 : decode cX5_isSound 46 = .ok (.iaload, 1) := by decide +kernel
theorem dX5_isSound_47 : decode cX5_isSound 47 = .ok (.iconst 1, 1) := by decide +kernel
theorem dX5_isSound_48 : decode cX5_isSound 48 = .ok (.sipush 999, 3) := by decide +kernel
theorem dX5_isSound_51 : decode cX5_isSound 51 = .ok (.invokestatic 32, 3) := by decide +kernel
theorem dX5_isSound_54 : decode cX5_isSound 54 = .ok (.ifCond .eq 31, 3) := by decide +kernel
theorem dX5_isSound_57 : decode cX5_isSound 57 = .ok (.aload_n 0, 1) := by decide +kernel
theorem dX5_isSound_58 : decode cX5_isSound 58 = .ok (.getfield 18, 3) := by decide +kernel
theorem dX5_isSound_61 : decode cX5_isSound 61 = .ok (.iload_n 2, 1) := by decide +kernel
theorem dX5_isSound_62 : decode cX5_isSound 62 = .ok (.iaload, 1) := by decide +kernel
theorem dX5_isSound_63 : decode cX5_isSound 63 = .ok (.iconst 1, 1) := by decide +kernel
theorem dX5_isSound_64 : decode cX5_isSound 64 = .ok (.sipush 999, 3) := by decide +kernel
theorem dX5_isSound_67 : decode cX5_isSound 67 = .ok (.invokestatic 32, 3) := by decide +kernel
theorem dX5_isSound_70 : decode cX5_isSound 70 = .ok (.ifCond .eq 15, 3) := by decide +kernel
theorem dX5_isSound_73 : decode cX5_isSound 73 = .ok (.aload_n 0, 1) := by decide +kernel
theorem dX5_isSound_74 : decode cX5_isSound 74 = .ok (.getfield 21, 3) := by decide +kernel
theorem dX5_isSound_77 : decode cX5_isSound 77 = .ok (.iload_n 2, 1) := by decide +kernel
theorem dX5_isSound_78 : decode cX5_isSound 78 = .ok (.iaload, 1) := by decide +kernel
theorem dX5_isSound_79 : decode cX5_isSound 79 = .ok (.invokestatic 36, 3) := by decide +kernel
theorem dX5_isSound_82 : decode cX5_isSound 82 = .ok (.ifCond .ne 5, 3) := by decide +kernel
theorem dX5_isSound_85 : decode cX5_isSound 85 = .ok (.iconst 0, 1) := by decide +kernel
theorem dX5_isSound_86 : decode cX5_isSound 86 = .ok (.ireturn, 1) := by decide +kernel
theorem dX5_isSound_87 : decode cX5_isSound 87 = .ok (.iinc 2 1, 3) := by decide +kernel
theorem dX5_isSound_90 : decode cX5_isSound 90 = .ok (.goto (-73), 3) := by decide +kernel
theorem dX5_isSound_93 : decode cX5_isSound 93 = .ok (.iconst 1, 1) := by decide +kernel
theorem dX5_isSound_94 : decode cX5_isSound 94 = .ok (.ireturn, 1) := by decide +kernel
theorem dX6_init_0 : decode cX6_init 0 = .ok (.aload_n 0, 1) := by decide +kernel
theorem dX6_init_1 : decode cX6_init 1 = .ok (.invokespecial 3, 3) := by decide +kernel
theorem dX6_init_4 : decode cX6_init 4 = .ok (.aload_n 0, 1) := by decide +kernel
theorem dX6_init_5 : decode cX6_init 5 = .ok (.bipush 64, 2) := by decide +kernel
theorem dX6_init_7 : decode cX6_init 7 = .ok (.newarray .char, 2) := by decide +kernel
theorem dX6_init_9 : decode cX6_init 9 = .ok (.putfield 9, 3) := by decide +kernel
theorem dX6_init_12 : decode cX6_init 12 = .ok (.aload_n 0, 1) := by decide +kernel
theorem dX6_init_13 : decode cX6_init 13 = .ok (.iconst 0, 1) := by decide +kernel
theorem dX6_init_14 : decode cX6_init 14 = .ok (.putfield 15, 3) := by decide +kernel
theorem dX6_init_17 : decode cX6_init 17 = .ok (.return_, 1) := by decide +kernel
theorem dX7_init_0 : decode cX7_init 0 = .ok (.aload_n 0, 1) := by decide +kernel
theorem dX7_init_1 : decode cX7_init 1 = .ok (.invokespecial 3, 3) := by decide +kernel
theorem dX7_init_4 : decode cX7_init 4 = .ok (.aload_n 0, 1) := by decide +kernel
theorem dX7_init_5 : decode cX7_init 5 = .ok (.bipush 16, 2) := by decide +kernel
theorem dX7_init_7 : decode cX7_init 7 = .ok (.newarray .char, 2) := by decide +kernel
theorem dX7_init_9 : decode cX7_init 9 = .ok (.putfield 9, 3) := by decide +kernel
theorem dX7_init_12 : decode cX7_init 12 = .ok (.aload_n 0, 1) := by decide +kernel
theorem dX7_init_13 : decode cX7_init 13 = .ok (.bipush 16, 2) := by decide +kernel
theorem dX7_init_15 : decode cX7_init 15 = .ok (.newarray .int, 2) := by decide +kernel
theorem dX7_init_17 : decode cX7_init 17 = .ok (.putfield 15, 3) := by decide +kernel
theorem dX7_init_20 : decode cX7_init 20 = .ok (.aload_n 0, 1) := by decide +kernel
theorem dX7_init_21 : decode cX7_init 21 = .ok (.bipush 16, 2) := by decide +kernel
theorem dX7_init_23 : decode cX7_init 23 = .ok (.newarray .int, 2) := by decide +kernel
theorem dX7_init_25 : decode cX7_init 25 = .ok (.putfield 19, 3) := by decide +kernel
theorem dX7_init_28 : decode cX7_init 28 = .ok (.aload_n 0, 1) := by decide +kernel
theorem dX7_init_29 : decode cX7_init 29 = .ok (.iconst 0, 1) := by decide +kernel
theorem dX7_init_30 : decode cX7_init 30 = .ok (.putfield 22, 3) := by decide +kernel
theorem dX7_init_33 : decode cX7_init 33 = .ok (.return_, 1) := by decide +kernel
theorem dX7_add_0 : decode cX7_add 0 = .ok (.aload_n 0, 1) := by decide +kernel
theorem dX7_add_1 : decode cX7_add 1 = .ok (.getfield 22, 3) := by decide +kernel
theorem dX7_add_4 : decode cX7_add 4 = .ok (.istore 4, 2) := by decide +kernel
theorem dX7_add_6 : decode cX7_add 6 = .ok (.aload_n 0, 1) := by decide +kernel
theorem dX7_add_7 : decode cX7_add 7 = .ok (.getfield 9, 3) := by decide +kernel
theorem dX7_add_10 : decode cX7_add 10 = .ok (.iload 4, 2) := by decide +kernel
theorem dX7_add_12 : decode cX7_add 12 = .ok (.iload_n 1, 1) := by decide +kernel
theorem dX7_add_13 : decode cX7_add 13 = .ok (.castore, 1) := by decide +kernel
theorem dX7_add_14 : decode cX7_add 14 = .ok (.aload_n 0, 1) := by decide +kernel
theorem dX7_add_15 : decode cX7_add 15 = .ok (.getfield 15, 3) := by decide +kernel
theorem dX7_add_18 : decode cX7_add 18 = .ok (.iload 4, 2) := by decide +kernel
theorem dX7_add_20 : decode cX7_add 20 = .ok (.iload_n 2, 1) := by decide +kernel
theorem dX7_add_21 : decode cX7_add 21 = .ok (.iastore, 1) := by decide +kernel
theorem dX7_add_22 : decode cX7_add 22 = .ok (.aload_n 0, 1) := by decide +kernel
theorem dX7_add_23 : decode cX7_add 23 = .ok (.getfield 19, 3) := by decide +kernel
theorem dX7_add_26 : decode cX7_add 26 = .ok (.iload 4, 2) := by decide +kernel
theorem dX7_add_28 : decode cX7_add 28 = .ok (.iload_n 3, 1) := by decide +kernel
theorem dX7_add_29 : decode cX7_add 29 = .ok (.iastore, 1) := by decide +kernel
theorem dX7_add_30 : decode cX7_add 30 = .ok (.aload_n 0, 1) := by decide +kernel
theorem dX7_add_31 : decode cX7_add 31 = .ok (.iload 4, 2) := by decide +kernel
theorem dX7_add_33 : decode cX7_add 33 = .ok (.iconst 1, 1) := by decide +kernel
theorem dX7_add_34 : decode cX7_add 34 = .ok (.iadd, 1) := by decide +kernel
theorem dX7_add_35 : decode cX7_add 35 = .ok (.putfield 22, 3) := by decide +kernel
theorem dX7_add_38 : decode cX7_add 38 = .ok (.iload 4, 2) := by decide +kernel
theorem dX7_add_40 : decode cX7_add 40 = .ok (.ireturn, 1) := by decide +kernel
theorem dX7_ownCost_0 : decode cX7_ownCost 0 = .ok (.aload_n 0, 1) := by decide +kernel
theorem dX7_ownCost_1 : decode cX7_ownCost 1 = .ok (.getfield 15, 3) := by decide +kernel
theorem dX7_ownCost_4 : decode cX7_ownCost 4 = .ok (.iload_n 1, 1) := by decide +kernel
theorem dX7_ownCost_5 : decode cX7_ownCost 5 = .ok (.iaload, 1) := by decide +kernel
theorem dX7_ownCost_6 : decode cX7_ownCost 6 = .ok (.i2f, 1) := by decide +kernel
theorem dX7_ownCost_7 : decode cX7_ownCost 7 = .ok (.ldc 26, 2) := by decide +kernel
theorem dX7_ownCost_9 : decode cX7_ownCost 9 = .ok (.fdiv, 1) := by decide +kernel
theorem dX7_ownCost_10 : decode cX7_ownCost 10 = .ok (.freturn, 1) := by decide +kernel
theorem dX7_ownWeight_0 : decode cX7_ownWeight 0 = .ok (.aload_n 0, 1) := by decide +kernel
theorem dX7_ownWeight_1 : decode cX7_ownWeight 1 = .ok (.getfield 19, 3) := by decide +kernel
theorem dX7_ownWeight_4 : decode cX7_ownWeight 4 = .ok (.iload_n 1, 1) := by decide +kernel
theorem dX7_ownWeight_5 : decode cX7_ownWeight 5 = .ok (.iaload, 1) := by decide +kernel
theorem dX7_ownWeight_6 : decode cX7_ownWeight 6 = .ok (.i2d, 1) := by decide +kernel
theorem dX7_ownWeight_7 : decode cX7_ownWeight 7 = .ok (.ldc2_w 27, 3) := by decide +kernel
theorem dX7_ownWeight_10 : decode cX7_ownWeight 10 = .ok (.ddiv, 1) := by decide +kernel
theorem dX7_ownWeight_11 : decode cX7_ownWeight 11 = .ok (.dreturn, 1) := by decide +kernel
theorem dX7_isSound_0 : decode cX7_isSound 0 = .ok (.aload_n 0, 1) := by decide +kernel
theorem dX7_isSound_1 : decode cX7_isSound 1 = .ok (.getfield 22, 3) := by decide +kernel
theorem dX7_isSound_4 : decode cX7_isSound 4 = .ok (.iconst 0, 1) := by decide +kernel
theorem dX7_isSound_5 : decode cX7_isSound 5 = .ok (.bipush 16, 2) := by decide +kernel
theorem dX7_isSound_7 : decode cX7_isSound 7 = .ok (.invokestatic 29, 3) := by decide +kernel
theorem dX7_isSound_10 : decode cX7_isSound 10 = .ok (.ifCond .ne 5, 3) := by decide +kernel
theorem dX7_isSound_13 : decode cX7_isSound 13 = .ok (.iconst 0, 1) := by decide +kernel
theorem dX7_isSound_14 : decode cX7_isSound 14 = .ok (.ireturn, 1) := by decide +kernel
theorem dX7_isSound_15 : decode cX7_isSound 15 = .ok (.iconst 0, 1) := by decide +kernel
theorem dX7_isSound_16 : decode cX7_isSound 16 = .ok (.istore_n 1, 1) := by decide +kernel
theorem dX7_isSound_17 : decode cX7_isSound 17 = .ok (.iload_n 1, 1) := by decide +kernel
theorem dX7_isSound_18 : decode cX7_isSound 18 = .ok (.aload_n 0, 1) := by decide +kernel
theorem dX7_isSound_19 : decode cX7_isSound 19 = .ok (.getfield 22, 3) := by decide +kernel
theorem dX7_isSound_22 : decode cX7_isSound 22 = .ok (.if_icmp .ge 53, 3) := by decide +kernel
theorem dX7_isSound_25 : decode cX7_isSound 25 = .ok (.aload_n 0, 1) := by decide +kernel
theorem dX7_isSound_26 : decode cX7_isSound 26 = .ok (.getfield 9, 3) := by decide +kernel
theorem dX7_isSound_29 : decode cX7_isSound 29 = .ok (.iload_n 1, 1) := by decide +kernel
theorem dX7_isSound_30 : decode cX7_isSound 30 = .ok (.caload, 1) := by decide +kernel
theorem dX7_isSound_31 : decode cX7_isSound 31 = .ok (.invokestatic 33, 3) := by decide +kernel
theorem dX7_isSound_34 : decode cX7_isSound 34 = .ok (.ifCond .eq 33, 3) := by decide +kernel
theorem dX7_isSound_37 : decode cX7_isSound 37 = .ok (.aload_n 0, 1) := by decide +kernel
theorem dX7_isSound_38 : decode cX7_isSound 38 = .ok (.getfield 15, 3) := by decide +kernel
theorem dX7_isSound_41 : decode cX7_isSound 41 = .ok (.iload_n 1, 1) := by decide +kernel
theorem dX7_isSound_42 : decode cX7_isSound 42 = .ok (.iaload, 1) := by decide +kernel
theorem dX7_isSound_43 : decode cX7_isSound 43 = .ok (.iconst 0, 1) := by decide +kernel
theorem dX7_isSound_44 : decode cX7_isSound 44 = .ok (.ldc 37, 2) := by decide +kernel
theorem dX7_isSound_46 : decode cX7_isSound 46 = .ok (.invokestatic 29, 3) := by decide +kernel
theorem dX7_isSound_49 : decode cX7_isSound 49 = .ok (.ifCond .eq 18, 3) := by decide +kernel
theorem dX7_isSound_52 : decode cX7_isSound 52 = .ok (.aload_n 0, 1) := by decide +kernel
theorem dX7_isSound_53 : decode cX7_isSound 53 = .ok (.getfield 19, 3) := by decide +kernel
theorem dX7_isSound_56 : decode cX7_isSound 56 = .ok (.iload_n 1, 1) := by decide +kernel
theorem dX7_isSound_57 : decode cX7_isSound 57 = .ok (.iaload, 1) := by decide +kernel
theorem dX7_isSound_58 : decode cX7_isSound 58 = .ok (.iconst 0, 1) := by decide +kernel
theorem dX7_isSound_59 : decode cX7_isSound 59 = .ok (.ldc 37, 2) := by decide +kernel
theorem dX7_isSound_61 : decode cX7_isSound 61 = .ok (.invokestatic 29, 3) := by decide +kernel
theorem dX7_isSound_64 : decode cX7_isSound 64 = .ok (.ifCond .ne 5, 3) := by decide +kernel
theorem dX7_isSound_67 : decode cX7_isSound 67 = .ok (.iconst 0, 1) := by decide +kernel
theorem dX7_isSound_68 : decode cX7_isSound 68 = .ok (.ireturn, 1) := by decide +kernel
theorem dX7_isSound_69 : decode cX7_isSound 69 = .ok (.iinc 1 1, 3) := by decide +kernel
theorem dX7_isSound_72 : decode cX7_isSound 72 = .ok (.goto (-55), 3) := by decide +kernel
theorem dX7_isSound_75 : decode cX7_isSound 75 = .ok (.iconst 1, 1) := by decide +kernel
theorem dX7_isSound_76 : decode cX7_isSound 76 = .ok (.ireturn, 1) := by decide +kernel
theorem dX8_init_0 : decode cX8_init 0 = .ok (.aload_n 0, 1) := by decide +kernel
theorem dX8_init_1 : decode cX8_init 1 = .ok (.invokespecial 3, 3) := by decide +kernel
theorem dX8_init_4 : decode cX8_init 4 = .ok (.aload_n 0, 1) := by decide +kernel
theorem dX8_init_5 : decode cX8_init 5 = .ok (.bipush 16, 2) := by decide +kernel
theorem dX8_init_7 : decode cX8_init 7 = .ok (.newarray .long, 2) := by decide +kernel
theorem dX8_init_9 : decode cX8_init 9 = .ok (.putfield 9, 3) := by decide +kernel
theorem dX8_init_12 : decode cX8_init 12 = .ok (.aload_n 0, 1) := by decide +kernel
theorem dX8_init_13 : decode cX8_init 13 = .ok (.bipush 16, 2) := by decide +kernel
theorem dX8_init_15 : decode cX8_init 15 = .ok (.newarray .long, 2) := by decide +kernel
theorem dX8_init_17 : decode cX8_init 17 = .ok (.putfield 15, 3) := by decide +kernel
theorem dX8_init_20 : decode cX8_init 20 = .ok (.return_, 1) := by decide +kernel
theorem dX8_count_0 : decode cX8_count 0 = .ok (.aload_n 0, 1) := by decide +kernel
theorem dX8_count_1 : decode cX8_count 1 = .ok (.getfield 9, 3) := by decide +kernel
theorem dX8_count_4 : decode cX8_count 4 = .ok (.invokestatic 18, 3) := by decide +kernel
theorem dX8_count_7 : decode cX8_count 7 = .ok (.aload_n 0, 1) := by decide +kernel
theorem dX8_count_8 : decode cX8_count 8 = .ok (.getfield 9, 3) := by decide +kernel
theorem dX8_count_11 : decode cX8_count 11 = .ok (.iload_n 2, 1) := by decide +kernel
theorem dX8_count_12 : decode cX8_count 12 = .ok (.lconst 1, 1) := by decide +kernel
theorem dX8_count_13 : decode cX8_count 13 = .ok (.lastore, 1) := by decide +kernel
theorem dX8_count_14 : decode cX8_count 14 = .ok (.aload_n 0, 1) := by decide +kernel
theorem dX8_count_15 : decode cX8_count 15 = .ok (.getfield 9, 3) := by decide +kernel
theorem dX8_count_18 : decode cX8_count 18 = .ok (.iload_n 3, 1) := by decide +kernel
theorem dX8_count_19 : decode cX8_count 19 = .ok (.laload, 1) := by decide +kernel
theorem dX8_count_20 : decode cX8_count 20 = .ok (.lstore 4, 2) := by decide +kernel
theorem dX8_count_22 : decode cX8_count 22 = .ok (.iconst 0, 1) := by decide +kernel
theorem dX8_count_23 : decode cX8_count 23 = .ok (.istore 6, 2) := by decide +kernel
theorem dX8_count_25 : decode cX8_count 25 = .ok (.iload 6, 2) := by decide +kernel
theorem dX8_count_27 : decode cX8_count 27 = .ok (.iconst 4, 1) := by decide +kernel
theorem dX8_count_28 : decode cX8_count 28 = .ok (.if_icmp .ge 25, 3) := by decide +kernel
theorem dX8_count_31 : decode cX8_count 31 = .ok (.aload_n 0, 1) := by decide +kernel
theorem dX8_count_32 : decode cX8_count 32 = .ok (.aload_n 1, 1) := by decide +kernel
theorem dX8_count_33 : decode cX8_count 33 = .ok (.invokevirtual 22, 3) := by decide +kernel
theorem dX8_count_36 : decode cX8_count 36 = .ok (.lload 4, 2) := by decide +kernel
theorem dX8_count_38 : decode cX8_count 38 = .ok (.aload_n 0, 1) := by decide +kernel
theorem dX8_count_39 : decode cX8_count 39 = .ok (.getfield 9, 3) := by decide +kernel
theorem dX8_count_42 : decode cX8_count 42 = .ok (.iload_n 3, 1) := by decide +kernel
theorem dX8_count_43 : decode cX8_count 43 = .ok (.laload, 1) := by decide +kernel
theorem dX8_count_44 : decode cX8_count 44 = .ok (.ladd, 1) := by decide +kernel
theorem dX8_count_45 : decode cX8_count 45 = .ok (.lstore 4, 2) := by decide +kernel
theorem dX8_count_47 : decode cX8_count 47 = .ok (.iinc 6 1, 3) := by decide +kernel
theorem dX8_count_50 : decode cX8_count 50 = .ok (.goto (-25), 3) := by decide +kernel
theorem dX8_count_53 : decode cX8_count 53 = .ok (.lload 4, 2) := by decide +kernel
theorem dX8_count_55 : decode cX8_count 55 = .ok (.lreturn, 1) := by decide +kernel
theorem dX8_goDown_0 : decode cX8_goDown 0 = .ok (.aload_n 0, 1) := by decide +kernel
theorem dX8_goDown_1 : decode cX8_goDown 1 = .ok (.getfield 15, 3) := by decide +kernel
theorem dX8_goDown_4 : decode cX8_goDown 4 = .ok (.invokestatic 18, 3) := by decide +kernel
theorem dX8_goDown_7 : decode cX8_goDown 7 = .ok (.iconst 0, 1) := by decide +kernel
theorem dX8_goDown_8 : decode cX8_goDown 8 = .ok (.istore_n 2, 1) := by decide +kernel
theorem dX8_goDown_9 : decode cX8_goDown 9 = .ok (.iload_n 2, 1) := by decide +kernel
theorem dX8_goDown_10 : decode cX8_goDown 10 = .ok (.aload_n 1, 1) := by decide +kernel
theorem dX8_goDown_11 : decode cX8_goDown 11 = .ok (.getfield 26, 3) := by decide +kernel
theorem dX8_goDown_14 : decode cX8_goDown 14 = .ok (.getfield 32, 3) := by decide +kernel
theorem dX8_goDown_17 : decode cX8_goDown 17 = .ok (.if_icmp .ge 26, 3) := by decide +kernel
theorem dX8_goDown_20 : decode cX8_goDown 20 = .ok (.aload_n 0, 1) := by decide +kernel
theorem dX8_goDown_21 : decode cX8_goDown 21 = .ok (.getfield 9, 3) := by decide +kernel
theorem dX8_goDown_24 : decode cX8_goDown 24 = .ok (.iload_n 2, 1) := by decide +kernel
theorem dX8_goDown_25 : decode cX8_goDown 25 = .ok (.laload, 1) := by decide +kernel
theorem dX8_goDown_26 : decode cX8_goDown 26 = .ok (.lconst 0, 1) := by decide +kernel
theorem dX8_goDown_27 : decode cX8_goDown 27 = .ok (.lcmp, 1) := by decide +kernel
theorem dX8_goDown_28 : decode cX8_goDown 28 = .ok (.ifCond .le 9, 3) := by decide +kernel
theorem dX8_goDown_31 : decode cX8_goDown 31 = .ok (.aload_n 0, 1) := by decide +kernel
theorem dX8_goDown_32 : decode cX8_goDown 32 = .ok (.aload_n 1, 1) := by decide +kernel
theorem dX8_goDown_33 : decode cX8_goDown 33 = .ok (.iload_n 2, 1) := by decide +kernel
theorem dX8_goDown_34 : decode cX8_goDown 34 = .ok (.invokevirtual 38, 3) := by decide +kernel
theorem dX8_goDown_37 : decode cX8_goDown 37 = .ok (.iinc 2 1, 3) := by decide +kernel
theorem dX8_goDown_40 : decode cX8_goDown 40 = .ok (.goto (-31), 3) := by decide +kernel
theorem dX8_goDown_43 : decode cX8_goDown 43 = .ok (.iconst 0, 1) := by decide +kernel
theorem dX8_goDown_44 : decode cX8_goDown 44 = .ok (.istore_n 2, 1) := by decide +kernel
theorem dX8_goDown_45 : decode cX8_goDown 45 = .ok (.iload_n 2, 1) := by decide +kernel
theorem dX8_goDown_46 : decode cX8_goDown 46 = .ok (.bipush 16, 2) := by decide +kernel
theorem dX8_goDown_48 : decode cX8_goDown 48 = .ok (.if_icmp .ge 21, 3) := by decide +kernel
theorem dX8_goDown_51 : decode cX8_goDown 51 = .ok (.aload_n 0, 1) := by decide +kernel
theorem dX8_goDown_52 : decode cX8_goDown 52 = .ok (.getfield 9, 3) := by decide +kernel
theorem dX8_goDown_55 : decode cX8_goDown 55 = .ok (.iload_n 2, 1) := by decide +kernel
theorem dX8_goDown_56 : decode cX8_goDown 56 = .ok (.aload_n 0, 1) := by decide +kernel
theorem dX8_goDown_57 : decode cX8_goDown 57 = .ok (.getfield 15, 3) := by decide +kernel
theorem dX8_goDown_60 : decode cX8_goDown 60 = .ok (.iload_n 2, 1) := by decide +kernel
theorem dX8_goDown_61 : decode cX8_goDown 61 = .ok (.laload, 1) := by decide +kernel
theorem dX8_goDown_62 : decode cX8_goDown 62 = .ok (.lastore, 1) := by decide +kernel
theorem dX8_goDown_63 : decode cX8_goDown 63 = .ok (.iinc 2 1, 3) := by decide +kernel
theorem dX8_goDown_66 : decode cX8_goDown 66 = .ok (.goto (-21), 3) := by decide +kernel
theorem dX8_goDown_69 : decode cX8_goDown 69 = .ok (.return_, 1) := by decide +kernel
theorem dX8_addChildrenOf_0 : decode cX8_addChildrenOf 0 = .ok (.iconst 1, 1) := by decide +kernel
theorem dX8_addChildrenOf_1 : decode cX8_addChildrenOf 1 = .ok (.istore_n 3, 1) := by decide +kernel
theorem dX8_addChildrenOf_2 : decode cX8_addChildrenOf 2 = .ok (.iload_n 3, 1) := by decide +kernel
theorem dX8_addChildrenOf_3 : decode cX8_addChildrenOf 3 = .ok (.bipush 6, 2) := by decide +kernel
theorem dX8_addChildrenOf_5 : decode cX8_addChildrenOf 5 = .ok (.if_icmp .gt 59, 3) := by decide +kernel
theorem dX8_addChildrenOf_8 : decode cX8_addChildrenOf 8 = .ok (.aload_n 1, 1) := by decide +kernel
theorem dX8_addChildrenOf_9 : decode cX8_addChildrenOf 9 = .ok (.iload_n 2, 1) := by decide +kernel
theorem dX8_addChildrenOf_10 : decode cX8_addChildrenOf 10 = .ok (.iload_n 3, 1) := by decide +kernel
theorem dX8_addChildrenOf_11 : decode cX8_addChildrenOf 11 = .ok (.invokevirtual 42, 3) := by decide +kernel
theorem dX8_addChildrenOf_14 : decode cX8_addChildrenOf 14 = .ok (.istore 4, 2) := by decide +kernel
theorem dX8_addChildrenOf_16 : decode cX8_addChildrenOf 16 = .ok (.iload 4, 2) := by decide +kernel
theorem dX8_addChildrenOf_18 : decode cX8_addChildrenOf 18 = .ok (.iconst (-1), 1) := by decide +kernel
theorem dX8_addChildrenOf_19 : decode cX8_addChildrenOf 19 = .ok (.if_icmp .eq 39, 3) := by decide +kernel
theorem dX8_addChildrenOf_22 : decode cX8_addChildrenOf 22 = .ok (.aload_n 0, 1) := by decide +kernel
theorem dX8_addChildrenOf_23 : decode cX8_addChildrenOf 23 = .ok (.getfield 15, 3) := by decide +kernel
theorem dX8_addChildrenOf_26 : decode cX8_addChildrenOf 26 = .ok (.aload_n 1, 1) := by decide +kernel
theorem dX8_addChildrenOf_27 : decode cX8_addChildrenOf 27 = .ok (.getfield 46, 3) := by decide +kernel
theorem dX8_addChildrenOf_30 : decode cX8_addChildrenOf 30 = .ok (.getfield 50, 3) := by decide +kernel
theorem dX8_addChildrenOf_33 : decode cX8_addChildrenOf 33 = .ok (.iload 4, 2) := by decide +kernel
theorem dX8_addChildrenOf_35 : decode cX8_addChildrenOf 35 = .ok (.iaload, 1) := by decide +kernel
theorem dX8_addChildrenOf_36 : decode cX8_addChildrenOf 36 = .ok (.dup2, 1) := by decide +kernel
theorem dX8_addChildrenOf_37 : decode cX8_addChildrenOf 37 = .ok (.laload, 1) := by decide +kernel
theorem dX8_addChildrenOf_38 : decode cX8_addChildrenOf 38 = .ok (.aload_n 0, 1) := by decide +kernel
theorem dX8_addChildrenOf_39 : decode cX8_addChildrenOf 39 = .ok (.getfield 9, 3) := by decide +kernel
theorem dX8_addChildrenOf_42 : decode cX8_addChildrenOf 42 = .ok (.iload_n 2, 1) := by decide +kernel
theorem dX8_addChildrenOf_43 : decode cX8_addChildrenOf 43 = .ok (.laload, 1) := by decide +kernel
theorem dX8_addChildrenOf_44 : decode cX8_addChildrenOf 44 = .ok (.aload_n 1, 1) := by decide +kernel
theorem dX8_addChildrenOf_45 : decode cX8_addChildrenOf 45 = .ok (.getfield 46, 3) := by decide +kernel
theorem dX8_addChildrenOf_48 : decode cX8_addChildrenOf 48 = .ok (.getfield 56, 3) := by decide +kernel
theorem dX8_addChildrenOf_51 : decode cX8_addChildrenOf 51 = .ok (.iload 4, 2) := by decide +kernel
theorem dX8_addChildrenOf_53 : decode cX8_addChildrenOf 53 = .ok (.iaload, 1) := by decide +kernel
theorem dX8_addChildrenOf_54 : decode cX8_addChildrenOf 54 = .ok (.i2l, 1) := by decide +kernel
theorem dX8_addChildrenOf_55 : decode cX8_addChildrenOf 55 = .ok (.lmul, 1) := by decide +kernel
theorem dX8_addChildrenOf_56 : decode cX8_addChildrenOf 56 = .ok (.ladd, 1) := by decide +kernel
theorem dX8_addChildrenOf_57 : decode cX8_addChildrenOf 57 = .ok (.lastore, 1) := by decide +kernel
theorem dX8_addChildrenOf_58 : decode cX8_addChildrenOf 58 = .ok (.iinc 3 1, 3) := by decide +kernel
theorem dX8_addChildrenOf_61 : decode cX8_addChildrenOf 61 = .ok (.goto (-59), 3) := by decide +kernel
theorem dX8_addChildrenOf_64 : decode cX8_addChildrenOf 64 = .ok (.return_, 1) := by decide +kernel
theorem dX8_clear_0 : decode cX8_clear 0 = .ok (.iconst 0, 1) := by decide +kernel
theorem dX8_clear_1 : decode cX8_clear 1 = .ok (.istore_n 1, 1) := by decide +kernel
theorem dX8_clear_2 : decode cX8_clear 2 = .ok (.iload_n 1, 1) := by decide +kernel
theorem dX8_clear_3 : decode cX8_clear 3 = .ok (.aload_n 0, 1) := by decide +kernel
theorem dX8_clear_4 : decode cX8_clear 4 = .ok (.arraylength, 1) := by decide +kernel
theorem dX8_clear_5 : decode cX8_clear 5 = .ok (.if_icmp .ge 13, 3) := by decide +kernel
theorem dX8_clear_8 : decode cX8_clear 8 = .ok (.aload_n 0, 1) := by decide +kernel
theorem dX8_clear_9 : decode cX8_clear 9 = .ok (.iload_n 1, 1) := by decide +kernel
theorem dX8_clear_10 : decode cX8_clear 10 = .ok (.lconst 0, 1) := by decide +kernel
theorem dX8_clear_11 : decode cX8_clear 11 = .ok (.lastore, 1) := by decide +kernel
theorem dX8_clear_12 : decode cX8_clear 12 = .ok (.iinc 1 1, 3) := by decide +kernel
theorem dX8_clear_15 : decode cX8_clear 15 = .ok (.goto (-13), 3) := by decide +kernel
theorem dX8_clear_18 : decode cX8_clear 18 = .ok (.return_, 1) := by decide +kernel
theorem dX9_init_0 : decode cX9_init 0 = .ok (.aload_n 0, 1) := by decide +kernel
theorem dX9_init_1 : decode cX9_init 1 = .ok (.invokespecial 3, 3) := by decide +kernel
theorem dX9_init_4 : decode cX9_init 4 = .ok (.aload_n 0, 1) := by decide +kernel
theorem dX9_init_5 : decode cX9_init 5 = .ok (.bipush 16, 2) := by decide +kernel
theorem dX9_init_7 : decode cX9_init 7 = .ok (.newarray .double, 2) := by decide +kernel
theorem dX9_init_9 : decode cX9_init 9 = .ok (.putfield 9, 3) := by decide +kernel
theorem dX9_init_12 : decode cX9_init 12 = .ok (.return_, 1) := by decide +kernel
theorem dX9_rollUp_0 : decode cX9_rollUp 0 = .ok (.iconst 0, 1) := by decide +kernel
theorem dX9_rollUp_1 : decode cX9_rollUp 1 = .ok (.istore_n 2, 1) := by decide +kernel
theorem dX9_rollUp_2 : decode cX9_rollUp 2 = .ok (.iconst 0, 1) := by decide +kernel
theorem dX9_rollUp_3 : decode cX9_rollUp 3 = .ok (.istore_n 3, 1) := by decide +kernel
theorem dX9_rollUp_4 : decode cX9_rollUp 4 = .ok (.iload_n 3, 1) := by decide +kernel
theorem dX9_rollUp_5 : decode cX9_rollUp 5 = .ok (.iconst 4, 1) := by decide +kernel
theorem dX9_rollUp_6 : decode cX9_rollUp 6 = .ok (.if_icmp .gt 70, 3) := by decide +kernel
theorem dX9_rollUp_9 : decode cX9_rollUp 9 = .ok (.iconst 0, 1) := by decide +kernel
theorem dX9_rollUp_10 : decode cX9_rollUp 10 = .ok (.istore 4, 2) := by decide +kernel
theorem dX9_rollUp_12 : decode cX9_rollUp 12 = .ok (.iload 4, 2) := by decide +kernel
theorem dX9_rollUp_14 : decode cX9_rollUp 14 = .ok (.aload_n 1, 1) := by decide +kernel
theorem dX9_rollUp_15 : decode cX9_rollUp 15 = .ok (.getfield 15, 3) := by decide +kernel
theorem dX9_rollUp_18 : decode cX9_rollUp 18 = .ok (.getfield 21, 3) := by decide +kernel
theorem dX9_rollUp_21 : decode cX9_rollUp 21 = .ok (.if_icmp .ge 49, 3) := by decide +kernel
theorem dX9_rollUp_24 : decode cX9_rollUp 24 = .ok (.iload_n 2, 1) := by decide +kernel
theorem dX9_rollUp_25 : decode cX9_rollUp 25 = .ok (.iconst 1, 1) := by decide +kernel
theorem dX9_rollUp_26 : decode cX9_rollUp 26 = .ok (.iload 4, 2) := by decide +kernel
theorem dX9_rollUp_28 : decode cX9_rollUp 28 = .ok (.ishl, 1) := by decide +kernel
theorem dX9_rollUp_29 : decode cX9_rollUp 29 = .ok (.iand, 1) := by decide +kernel
theorem dX9_rollUp_30 : decode cX9_rollUp 30 = .ok (.ifCond .ne 34, 3) := by decide +kernel
theorem dX9_rollUp_33 : decode cX9_rollUp 33 = .ok (.aload_n 1, 1) := by decide +kernel
theorem dX9_rollUp_34 : decode cX9_rollUp 34 = .ok (.iload 4, 2) := by decide +kernel
theorem dX9_rollUp_36 : decode cX9_rollUp 36 = .ok (.iload_n 2, 1) := by decide +kernel
theorem dX9_rollUp_37 : decode cX9_rollUp 37 = .ok (.invokevirtual 27, 3) := by decide +kernel
theorem dX9_rollUp_40 : decode cX9_rollUp 40 = .ok (.ifCond .eq 24, 3) := by decide +kernel
theorem dX9_rollUp_43 : decode cX9_rollUp 43 = .ok (.aload_n 0, 1) := by decide +kernel
theorem dX9_rollUp_44 : decode cX9_rollUp 44 = .ok (.getfield 9, 3) := by decide +kernel
theorem dX9_rollUp_47 : decode cX9_rollUp 47 = .ok (.iload 4, 2) := by decide +kernel
theorem dX9_rollUp_49 : decode cX9_rollUp 49 = .ok (.aload_n 0, 1) := by decide +kernel
theorem dX9_rollUp_50 : decode cX9_rollUp 50 = .ok (.aload_n 1, 1) := by decide +kernel
theorem dX9_rollUp_51 : decode cX9_rollUp 51 = .ok (.iload 4, 2) := by decide +kernel
theorem dX9_rollUp_53 : decode cX9_rollUp 53 = .ok (.invokevirtual 31, 3) := by decide +kernel
theorem dX9_rollUp_56 : decode cX9_rollUp 56 = .ok (.dastore, 1) := by decide +kernel
theorem dX9_rollUp_57 : decode cX9_rollUp 57 = .ok (.iload_n 2, 1) := by decide +kernel
theorem dX9_rollUp_58 : decode cX9_rollUp 58 = .ok (.iconst 1, 1) := by decide +kernel
theorem dX9_rollUp_59 : decode cX9_rollUp 59 = .ok (.iload 4, 2) := by decide +kernel
theorem dX9_rollUp_61 : decode cX9_rollUp 61 = .ok (.ishl, 1) := by decide +kernel
theorem dX9_rollUp_62 : decode cX9_rollUp 62 = .ok (.ior, 1) := by decide +kernel
theorem dX9_rollUp_63 : decode cX9_rollUp 63 = .ok (.istore_n 2, 1) := by decide +kernel
theorem dX9_rollUp_64 : decode cX9_rollUp 64 = .ok (.iinc 4 1, 3) := by decide +kernel
theorem dX9_rollUp_67 : decode cX9_rollUp 67 = .ok (.goto (-55), 3) := by decide +kernel
theorem dX9_rollUp_70 : decode cX9_rollUp 70 = .ok (.iinc 3 1, 3) := by decide +kernel
theorem dX9_rollUp_73 : decode cX9_rollUp 73 = .ok (.goto (-69), 3) := by decide +kernel
theorem dX9_rollUp_76 : decode cX9_rollUp 76 = .ok (.return_, 1) := by decide +kernel
theorem dX9_weightOf_0 : decode cX9_weightOf 0 = .ok (.aload_n 1, 1) := by decide +kernel
theorem dX9_weightOf_1 : decode cX9_weightOf 1 = .ok (.getfield 15, 3) := by decide +kernel
theorem dX9_weightOf_4 : decode cX9_weightOf 4 = .ok (.iload_n 2, 1) := by decide +kernel
theorem dX9_weightOf_5 : decode cX9_weightOf 5 = .ok (.invokevirtual 35, 3) := by decide +kernel
theorem dX9_weightOf_8 : decode cX9_weightOf 8 = .ok (.dstore_n 3, 1) := by decide +kernel
theorem dX9_weightOf_9 : decode cX9_weightOf 9 = .ok (.iconst 1, 1) := by decide +kernel
theorem dX9_weightOf_10 : decode cX9_weightOf 10 = .ok (.istore 5, 2) := by decide +kernel
theorem dX9_weightOf_12 : decode cX9_weightOf 12 = .ok (.iload 5, 2) := by decide +kernel
theorem dX9_weightOf_14 : decode cX9_weightOf 14 = .ok (.bipush 6, 2) := by decide +kernel
theorem dX9_weightOf_16 : decode cX9_weightOf 16 = .ok (.if_icmp .gt 54, 3) := by decide +kernel
theorem dX9_weightOf_19 : decode cX9_weightOf 19 = .ok (.aload_n 1, 1) := by decide +kernel
theorem dX9_weightOf_20 : decode cX9_weightOf 20 = .ok (.iload_n 2, 1) := by decide +kernel
theorem dX9_weightOf_21 : decode cX9_weightOf 21 = .ok (.iload 5, 2) := by decide +kernel
theorem dX9_weightOf_23 : decode cX9_weightOf 23 = .ok (.invokevirtual 39, 3) := by decide +kernel
theorem dX9_weightOf_26 : decode cX9_weightOf 26 = .ok (.istore 6, 2) := by decide +kernel
theorem dX9_weightOf_28 : decode cX9_weightOf 28 = .ok (.iload 6, 2) := by decide +kernel
theorem dX9_weightOf_30 : decode cX9_weightOf 30 = .ok (.iconst (-1), 1) := by decide +kernel
theorem dX9_weightOf_31 : decode cX9_weightOf 31 = .ok (.if_icmp .eq 33, 3) := by decide +kernel
theorem dX9_weightOf_34 : decode cX9_weightOf 34 = .ok (.dload_n 3, 1) := by decide +kernel
theorem dX9_weightOf_35 : decode cX9_weightOf 35 = .ok (.aload_n 1, 1) := by decide +kernel
theorem dX9_weightOf_36 : decode cX9_weightOf 36 = .ok (.getfield 43, 3) := by decide +kernel
theorem dX9_weightOf_39 : decode cX9_weightOf 39 = .ok (.getfield 47, 3) := by decide +kernel
theorem dX9_weightOf_42 : decode cX9_weightOf 42 = .ok (.iload 6, 2) := by decide +kernel
theorem dX9_weightOf_44 : decode cX9_weightOf 44 = .ok (.iaload, 1) := by decide +kernel
theorem dX9_weightOf_45 : decode cX9_weightOf 45 = .ok (.i2d, 1) := by decide +kernel
theorem dX9_weightOf_46 : decode cX9_weightOf 46 = .ok (.aload_n 0, 1) := by decide +kernel
theorem dX9_weightOf_47 : decode cX9_weightOf 47 = .ok (.getfield 9, 3) := by decide +kernel
theorem dX9_weightOf_50 : decode cX9_weightOf 50 = .ok (.aload_n 1, 1) := by decide +kernel
theorem dX9_weightOf_51 : decode cX9_weightOf 51 = .ok (.getfield 43, 3) := by decide +kernel
theorem dX9_weightOf_54 : decode cX9_weightOf 54 = .ok (.getfield 53, 3) := by decide +kernel
theorem dX9_weightOf_57 : decode cX9_weightOf 57 = .ok (.iload 6, 2) := by decide +kernel
theorem dX9_weightOf_59 : decode cX9_weightOf 59 = .ok (.iaload, 1) := by decide +kernel
theorem dX9_weightOf_60 : decode cX9_weightOf 60 = .ok (.daload, 1) := by decide +kernel
theorem dX9_weightOf_61 : decode cX9_weightOf 61 = .ok (.dmul, 1) := by decide +kernel
theorem dX9_weightOf_62 : decode cX9_weightOf 62 = .ok (.dadd, 1) := by decide +kernel
theorem dX9_weightOf_63 : decode cX9_weightOf 63 = .ok (.dstore_n 3, 1) := by decide +kernel
theorem dX9_weightOf_64 : decode cX9_weightOf 64 = .ok (.iinc 5 1, 3) := by decide +kernel
theorem dX9_weightOf_67 : decode cX9_weightOf 67 = .ok (.goto (-55), 3) := by decide +kernel
theorem dX9_weightOf_70 : decode cX9_weightOf 70 = .ok (.dload_n 3, 1) := by decide +kernel
theorem dX9_weightOf_71 : decode cX9_weightOf 71 = .ok (.dreturn, 1) := by decide +kernel
theorem dX10_init_0 : decode cX10_init 0 = .ok (.aload_n 0, 1) := by decide +kernel
theorem dX10_init_1 : decode cX10_init 1 = .ok (.invokespecial 1, 3) := by decide +kernel
theorem dX10_init_4 : decode cX10_init 4 = .ok (.aload_n 0, 1) := by decide +kernel
theorem dX10_init_5 : decode cX10_init 5 = .ok (.new 7, 3) := by decide +kernel
theorem dX10_init_8 : decode cX10_init 8 = .ok (.dup, 1) := by decide +kernel
theorem dX10_init_9 : decode cX10_init 9 = .ok (.invokespecial 9, 3) := by decide +kernel
theorem dX10_init_12 : decode cX10_init 12 = .ok (.putfield 10, 3) := by decide +kernel
theorem dX10_init_15 : decode cX10_init 15 = .ok (.aload_n 0, 1) := by decide +kernel
theorem dX10_init_16 : decode cX10_init 16 = .ok (.new 16, 3) := by decide +kernel
theorem dX10_init_19 : decode cX10_init 19 = .ok (.dup, 1) := by decide +kernel
theorem dX10_init_20 : decode cX10_init 20 = .ok (.invokespecial 18, 3) := by decide +kernel
theorem dX10_init_23 : decode cX10_init 23 = .ok (.putfield 19, 3) := by decide +kernel
theorem dX10_init_26 : decode cX10_init 26 = .ok (.aload_n 0, 1) := by decide +kernel
theorem dX10_init_27 : decode cX10_init 27 = .ok (.new 23, 3) := by decide +kernel
theorem dX10_init_30 : decode cX10_init 30 = .ok (.dup, 1) := by decide +kernel
theorem dX10_init_31 : decode cX10_init 31 = .ok (.invokespecial 25, 3) := by decide +kernel
theorem dX10_init_34 : decode cX10_init 34 = .ok (.putfield 26, 3) := by decide +kernel
theorem dX10_init_37 : decode cX10_init 37 = .ok (.aload_n 0, 1) := by decide +kernel
theorem dX10_init_38 : decode cX10_init 38 = .ok (.new 30, 3) := by decide +kernel
theorem dX10_init_41 : decode cX10_init 41 = .ok (.dup, 1) := by decide +kernel
theorem dX10_init_42 : decode cX10_init 42 = .ok (.invokespecial 32, 3) := by decide +kernel
theorem dX10_init_45 : decode cX10_init 45 = .ok (.putfield 33, 3) := by decide +kernel
theorem dX10_init_48 : decode cX10_init 48 = .ok (.aload_n 0, 1) := by decide +kernel
theorem dX10_init_49 : decode cX10_init 49 = .ok (.new 37, 3) := by decide +kernel
theorem dX10_init_52 : decode cX10_init 52 = .ok (.dup, 1) := by decide +kernel
theorem dX10_init_53 : decode cX10_init 53 = .ok (.invokespecial 39, 3) := by decide +kernel
theorem dX10_init_56 : decode cX10_init 56 = .ok (.putfield 40, 3) := by decide +kernel
theorem dX10_init_59 : decode cX10_init 59 = .ok (.aload_n 0, 1) := by decide +kernel
theorem dX10_init_60 : decode cX10_init 60 = .ok (.new 44, 3) := by decide +kernel
theorem dX10_init_63 : decode cX10_init 63 = .ok (.dup, 1) := by decide +kernel
theorem dX10_init_64 : decode cX10_init 64 = .ok (.invokespecial 46, 3) := by decide +kernel
theorem dX10_init_67 : decode cX10_init 67 = .ok (.putfield 47, 3) := by decide +kernel
theorem dX10_init_70 : decode cX10_init 70 = .ok (.aload_n 0, 1) := by decide +kernel
theorem dX10_init_71 : decode cX10_init 71 = .ok (.new 51, 3) := by decide +kernel
theorem dX10_init_74 : decode cX10_init 74 = .ok (.dup, 1) := by decide +kernel
theorem dX10_init_75 : decode cX10_init 75 = .ok (.invokespecial 53, 3) := by decide +kernel
theorem dX10_init_78 : decode cX10_init 78 = .ok (.putfield 54, 3) := by decide +kernel
theorem dX10_init_81 : decode cX10_init 81 = .ok (.aload_n 0, 1) := by decide +kernel
theorem dX10_init_82 : decode cX10_init 82 = .ok (.bipush 16, 2) := by decide +kernel
theorem dX10_init_84 : decode cX10_init 84 = .ok (.newarray .float, 2) := by decide +kernel
theorem dX10_init_86 : decode cX10_init 86 = .ok (.putfield 58, 3) := by decide +kernel
theorem dX10_init_89 : decode cX10_init 89 = .ok (.aload_n 0, 1) := by decide +kernel
theorem dX10_init_90 : decode cX10_init 90 = .ok (.iconst 0, 1) := by decide +kernel
theorem dX10_init_91 : decode cX10_init 91 = .ok (.putfield 62, 3) := by decide +kernel
theorem dX10_init_94 : decode cX10_init 94 = .ok (.aload_n 0, 1) := by decide +kernel
theorem dX10_init_95 : decode cX10_init 95 = .ok (.iconst 0, 1) := by decide +kernel
theorem dX10_init_96 : decode cX10_init 96 = .ok (.putfield 66, 3) := by decide +kernel
theorem dX10_init_99 : decode cX10_init 99 = .ok (.return_, 1) := by decide +kernel
theorem dX10_addPart_0 : decode cX10_addPart 0 = .ok (.iload_n 1, 1) := by decide +kernel
theorem dX10_addPart_1 : decode cX10_addPart 1 = .ok (.invokestatic 69, 3) := by decide +kernel
theorem dX10_addPart_4 : decode cX10_addPart 4 = .ok (.iload_n 2, 1) := by decide +kernel
theorem dX10_addPart_5 : decode cX10_addPart 5 = .ok (.invokestatic 73, 3) := by decide +kernel
theorem dX10_addPart_8 : decode cX10_addPart 8 = .ok (.iload_n 3, 1) := by decide +kernel
theorem dX10_addPart_9 : decode cX10_addPart 9 = .ok (.invokestatic 77, 3) := by decide +kernel
theorem dX10_addPart_12 : decode cX10_addPart 12 = .ok (.aload_n 0, 1) := by decide +kernel
theorem dX10_addPart_13 : decode cX10_addPart 13 = .ok (.getfield 10, 3) := by decide +kernel
theorem dX10_addPart_16 : decode cX10_addPart 16 = .ok (.getfield 80, 3) := by decide +kernel
theorem dX10_addPart_19 : decode cX10_addPart 19 = .ok (.getfield 84, 3) := by decide +kernel
theorem dX10_addPart_22 : decode cX10_addPart 22 = .ok (.bipush 16, 2) := by decide +kernel
theorem dX10_addPart_24 : decode cX10_addPart 24 = .ok (.if_icmp .lt 13, 3) := by decide +kernel
theorem dX10_addPart_27 : decode cX10_addPart 27 = .ok (.new 89, 3) := by decide +kernel
theorem dX10_addPart_30 : decode cX10_addPart 30 = .ok (.dup, 1) := by decide +kernel
theorem dX10_addPart_31 : decode cX10_addPart 31 = .ok (.ldc 91, 2) := by decide +kernel
theorem dX10_addPart_33 : decode cX10_addPart 33 = .ok (.invokespecial 93, 3) := by decide +kernel
theorem dX10_addPart_36 : decode cX10_addPart 36 = .ok (.athrow, 1) := by decide +kernel
theorem dX10_addPart_37 : decode cX10_addPart 37 = .ok (.aload_n 0, 1) := by decide +kernel
theorem dX10_addPart_38 : decode cX10_addPart 38 = .ok (.getfield 10, 3) := by decide +kernel
theorem dX10_addPart_41 : decode cX10_addPart 41 = .ok (.getfield 80, 3) := by decide +kernel
theorem dX10_addPart_44 : decode cX10_addPart 44 = .ok (.iload_n 1, 1) := by decide +kernel
theorem dX10_addPart_45 : decode cX10_addPart 45 = .ok (.iload_n 2, 1) := by decide +kernel
theorem dX10_addPart_46 : decode cX10_addPart 46 = .ok (.iload_n 3, 1) := by decide +kernel
theorem dX10_addPart_47 : decode cX10_addPart 47 = .ok (.invokevirtual 96, 3) := by decide +kernel
theorem dX10_addPart_50 : decode cX10_addPart 50 = .ok (.ireturn, 1) := by decide +kernel
theorem dX10_setPrice_0 : decode cX10_setPrice 0 = .ok (.aload_n 0, 1) := by decide +kernel
theorem dX10_setPrice_1 : decode cX10_setPrice 1 = .ok (.iload_n 1, 1) := by decide +kernel
theorem dX10_setPrice_2 : decode cX10_setPrice 2 = .ok (.invokevirtual 100, 3) := by decide +kernel
theorem dX10_setPrice_5 : decode cX10_setPrice 5 = .ok (.iload_n 2, 1) := by decide +kernel
theorem dX10_setPrice_6 : decode cX10_setPrice 6 = .ok (.invokestatic 73, 3) := by decide +kernel
theorem dX10_setPrice_9 : decode cX10_setPrice 9 = .ok (.aload_n 0, 1) := by decide +kernel
theorem dX10_setPrice_10 : decode cX10_setPrice 10 = .ok (.getfield 10, 3) := by decide +kernel
theorem dX10_setPrice_13 : decode cX10_setPrice 13 = .ok (.getfield 80, 3) := by decide +kernel
theorem dX10_setPrice_16 : decode cX10_setPrice 16 = .ok (.getfield 103, 3) := by decide +kernel
theorem dX10_setPrice_19 : decode cX10_setPrice 19 = .ok (.iload_n 1, 1) := by decide +kernel
theorem dX10_setPrice_20 : decode cX10_setPrice 20 = .ok (.iaload, 1) := by decide +kernel
theorem dX10_setPrice_21 : decode cX10_setPrice 21 = .ok (.istore_n 3, 1) := by decide +kernel
theorem dX10_setPrice_22 : decode cX10_setPrice 22 = .ok (.aload_n 0, 1) := by decide +kernel
theorem dX10_setPrice_23 : decode cX10_setPrice 23 = .ok (.getfield 10, 3) := by decide +kernel
theorem dX10_setPrice_26 : decode cX10_setPrice 26 = .ok (.getfield 80, 3) := by decide +kernel
theorem dX10_setPrice_29 : decode cX10_setPrice 29 = .ok (.getfield 103, 3) := by decide +kernel
theorem dX10_setPrice_32 : decode cX10_setPrice 32 = .ok (.iload_n 1, 1) := by decide +kernel
theorem dX10_setPrice_33 : decode cX10_setPrice 33 = .ok (.iload_n 2, 1) := by decide +kernel
theorem dX10_setPrice_34 : decode cX10_setPrice 34 = .ok (.iastore, 1) := by decide +kernel
theorem dX10_setPrice_35 : decode cX10_setPrice 35 = .ok (.iload_n 3, 1) := by decide +kernel
theorem dX10_setPrice_36 : decode cX10_setPrice 36 = .ok (.ireturn, 1) := by decide +kernel
theorem dX10_kind_0 : decode cX10_kind 0 = .ok (.aload_n 0, 1) := by decide +kernel
theorem dX10_kind_1 : decode cX10_kind 1 = .ok (.iload_n 1, 1) := by decide +kernel
theorem dX10_kind_2 : decode cX10_kind 2 = .ok (.invokevirtual 100, 3) := by decide +kernel
theorem dX10_kind_5 : decode cX10_kind 5 = .ok (.aload_n 0, 1) := by decide +kernel
theorem dX10_kind_6 : decode cX10_kind 6 = .ok (.getfield 10, 3) := by decide +kernel
theorem dX10_kind_9 : decode cX10_kind 9 = .ok (.getfield 80, 3) := by decide +kernel
theorem dX10_kind_12 : decode cX10_kind 12 = .ok (.getfield 110, 3) := by decide +kernel
theorem dX10_kind_15 : decode cX10_kind 15 = .ok (.iload_n 1, 1) := by decide +kernel
theorem dX10_kind_16 : decode cX10_kind 16 = .ok (.caload, 1) := by decide +kernel
theorem dX10_kind_17 : decode cX10_kind 17 = .ok (.ireturn, 1) := by decide +kernel
theorem dX10_addLine_0 : decode cX10_addLine 0 = .ok (.aload_n 0, 1) := by decide +kernel
theorem dX10_addLine_1 : decode cX10_addLine 1 = .ok (.iload_n 1, 1) := by decide +kernel
theorem dX10_addLine_2 : decode cX10_addLine 2 = .ok (.invokevirtual 100, 3) := by decide +kernel
theorem dX10_addLine_5 : decode cX10_addLine 5 = .ok (.aload_n 0, 1) := by decide +kernel
theorem dX10_addLine_6 : decode cX10_addLine 6 = .ok (.iload_n 3, 1) := by decide +kernel
theorem dX10_addLine_7 : decode cX10_addLine 7 = .ok (.invokevirtual 100, 3) := by decide +kernel
theorem dX10_addLine_10 : decode cX10_addLine 10 = .ok (.iload_n 2, 1) := by decide +kernel
theorem dX10_addLine_11 : decode cX10_addLine 11 = .ok (.invokestatic 114, 3) := by decide +kernel
theorem dX10_addLine_14 : decode cX10_addLine 14 = .ok (.iload 4, 2) := by decide +kernel
theorem dX10_addLine_16 : decode cX10_addLine 16 = .ok (.invokestatic 117, 3) := by decide +kernel
theorem dX10_addLine_19 : decode cX10_addLine 19 = .ok (.iload 5, 2) := by decide +kernel
theorem dX10_addLine_21 : decode cX10_addLine 21 = .ok (.iload 6, 2) := by decide +kernel
theorem dX10_addLine_23 : decode cX10_addLine 23 = .ok (.invokestatic 120, 3) := by decide +kernel
theorem dX10_addLine_26 : decode cX10_addLine 26 = .ok (.aload_n 0, 1) := by decide +kernel
theorem dX10_addLine_27 : decode cX10_addLine 27 = .ok (.iload_n 1, 1) := by decide +kernel
theorem dX10_addLine_28 : decode cX10_addLine 28 = .ok (.iload_n 3, 1) := by decide +kernel
theorem dX10_addLine_29 : decode cX10_addLine 29 = .ok (.invokevirtual 124, 3) := by decide +kernel
theorem dX10_addLine_32 : decode cX10_addLine 32 = .ok (.aload_n 0, 1) := by decide +kernel
theorem dX10_addLine_33 : decode cX10_addLine 33 = .ok (.iload_n 1, 1) := by decide +kernel
theorem dX10_addLine_34 : decode cX10_addLine 34 = .ok (.iload_n 3, 1) := by decide +kernel
theorem dX10_addLine_35 : decode cX10_addLine 35 = .ok (.invokevirtual 127, 3) := by decide +kernel
theorem dX10_addLine_38 : decode cX10_addLine 38 = .ok (.aload_n 0, 1) := by decide +kernel
theorem dX10_addLine_39 : decode cX10_addLine 39 = .ok (.iload_n 1, 1) := by decide +kernel
theorem dX10_addLine_40 : decode cX10_addLine 40 = .ok (.iload_n 2, 1) := by decide +kernel
theorem dX10_addLine_41 : decode cX10_addLine 41 = .ok (.iload 5, 2) := by decide +kernel
theorem dX10_addLine_43 : decode cX10_addLine 43 = .ok (.iload 6, 2) := by decide +kernel
theorem dX10_addLine_45 : decode cX10_addLine 45 = .ok (.iconst 0, 1) := by decide +kernel
theorem dX10_addLine_46 : decode cX10_addLine 46 = .ok (.bipush 15, 2) := by decide +kernel
theorem dX10_addLine_48 : decode cX10_addLine 48 = .ok (.invokevirtual 130, 3) := by decide +kernel
theorem dX10_addLine_51 : decode cX10_addLine 51 = .ok (.aload_n 0, 1) := by decide +kernel
theorem dX10_addLine_52 : decode cX10_addLine 52 = .ok (.getfield 10, 3) := by decide +kernel
theorem dX10_addLine_55 : decode cX10_addLine 55 = .ok (.iload_n 1, 1) := by decide +kernel
theorem dX10_addLine_56 : decode cX10_addLine 56 = .ok (.iload_n 2, 1) := by decide +kernel
theorem dX10_addLine_57 : decode cX10_addLine 57 = .ok (.iload_n 3, 1) := by decide +kernel
theorem dX10_addLine_58 : decode cX10_addLine 58 = .ok (.iload 4, 2) := by decide +kernel
theorem dX10_addLine_60 : decode cX10_addLine 60 = .ok (.invokevirtual 134, 3) := by decide +kernel
theorem dX10_addLine_63 : decode cX10_addLine 63 = .ok (.istore 7, 2) := by decide +kernel
theorem dX10_addLine_65 : decode cX10_addLine 65 = .ok (.aload_n 0, 1) := by decide +kernel
theorem dX10_addLine_66 : decode cX10_addLine 66 = .ok (.getfield 10, 3) := by decide +kernel
theorem dX10_addLine_69 : decode cX10_addLine 69 = .ok (.getfield 137, 3) := by decide +kernel
theorem dX10_addLine_72 : decode cX10_addLine 72 = .ok (.iload 7, 2) := by decide +kernel
theorem dX10_addLine_74 : decode cX10_addLine 74 = .ok (.iload 5, 2) := by decide +kernel
theorem dX10_addLine_76 : decode cX10_addLine 76 = .ok (.iload 6, 2) := by decide +kernel
theorem dX10_addLine_78 : decode cX10_addLine 78 = .ok (.invokevirtual 141, 3) := by decide +kernel
theorem dX10_addLine_81 : decode cX10_addLine 81 = .ok (.aload_n 0, 1) := by decide +kernel
theorem dX10_addLine_82 : decode cX10_addLine 82 = .ok (.getfield 10, 3) := by decide +kernel
theorem dX10_addLine_85 : decode cX10_addLine 85 = .ok (.getfield 137, 3) := by decide +kernel
theorem dX10_addLine_88 : decode cX10_addLine 88 = .ok (.iload 7, 2) := by decide +kernel
theorem dX10_addLine_90 : decode cX10_addLine 90 = .ok (.iconst 0, 1) := by decide +kernel
theorem dX10_addLine_91 : decode cX10_addLine 91 = .ok (.bipush 15, 2) := by decide +kernel
theorem dX10_addLine_93 : decode cX10_addLine 93 = .ok (.invokevirtual 147, 3) := by decide +kernel
theorem dX10_addLine_96 : decode cX10_addLine 96 = .ok (.iload 7, 2) := by decide +kernel
theorem dX10_addLine_98 : decode cX10_addLine 98 = .ok (.ireturn, 1) := by decide +kernel
theorem dX10_addVariant_0 : decode cX10_addVariant 0 = .ok (.aload_n 0, 1) := by decide +kernel
theorem dX10_addVariant_1 : decode cX10_addVariant 1 = .ok (.iload_n 1, 1) := by decide +kernel
theorem dX10_addVariant_2 : decode cX10_addVariant 2 = .ok (.invokevirtual 100, 3) := by decide +kernel
theorem dX10_addVariant_5 : decode cX10_addVariant 5 = .ok (.aload_n 0, 1) := by decide +kernel
theorem dX10_addVariant_6 : decode cX10_addVariant 6 = .ok (.iload_n 3, 1) := by decide +kernel
theorem dX10_addVariant_7 : decode cX10_addVariant 7 = .ok (.invokevirtual 100, 3) := by decide +kernel
theorem dX10_addVariant_10 : decode cX10_addVariant 10 = .ok (.iload_n 2, 1) := by decide +kernel
theorem dX10_addVariant_11 : decode cX10_addVariant 11 = .ok (.invokestatic 114, 3) := by decide +kernel
theorem dX10_addVariant_14 : decode cX10_addVariant 14 = .ok (.iload 4, 2) := by decide +kernel
theorem dX10_addVariant_16 : decode cX10_addVariant 16 = .ok (.invokestatic 117, 3) := by decide +kernel
theorem dX10_addVariant_19 : decode cX10_addVariant 19 = .ok (.iload 5, 2) := by decide +kernel
theorem dX10_addVariant_21 : decode cX10_addVariant 21 = .ok (.iload 6, 2) := by decide +kernel
theorem dX10_addVariant_23 : decode cX10_addVariant 23 = .ok (.invokestatic 150, 3) := by decide +kernel
theorem dX10_addVariant_26 : decode cX10_addVariant 26 = .ok (.aload_n 0, 1) := by decide +kernel
theorem dX10_addVariant_27 : decode cX10_addVariant 27 = .ok (.iload_n 1, 1) := by decide +kernel
theorem dX10_addVariant_28 : decode cX10_addVariant 28 = .ok (.iload_n 3, 1) := by decide +kernel
theorem dX10_addVariant_29 : decode cX10_addVariant 29 = .ok (.invokevirtual 124, 3) := by decide +kernel
theorem dX10_addVariant_32 : decode cX10_addVariant 32 = .ok (.aload_n 0, 1) := by decide +kernel
theorem dX10_addVariant_33 : decode cX10_addVariant 33 = .ok (.iload_n 1, 1) := by decide +kernel
theorem dX10_addVariant_34 : decode cX10_addVariant 34 = .ok (.iload_n 3, 1) := by decide +kernel
theorem dX10_addVariant_35 : decode cX10_addVariant 35 = .ok (.invokevirtual 127, 3) := by decide +kernel
theorem dX10_addVariant_38 : decode cX10_addVariant 38 = .ok (.aload_n 0, 1) := by decide +kernel
theorem dX10_addVariant_39 : decode cX10_addVariant 39 = .ok (.iload_n 1, 1) := by decide +kernel
theorem dX10_addVariant_40 : decode cX10_addVariant 40 = .ok (.iload_n 2, 1) := by decide +kernel
theorem dX10_addVariant_41 : decode cX10_addVariant 41 = .ok (.iconst 1, 1) := by decide +kernel
theorem dX10_addVariant_42 : decode cX10_addVariant 42 = .ok (.sipush 999, 3) := by decide +kernel
theorem dX10_addVariant_45 : decode cX10_addVariant 45 = .ok (.iload 5, 2) := by decide +kernel
theorem dX10_addVariant_47 : decode cX10_addVariant 47 = .ok (.iload 6, 2) := by decide +kernel
theorem dX10_addVariant_49 : decode cX10_addVariant 49 = .ok (.invokevirtual 130, 3) := by decide +kernel
theorem dX10_addVariant_52 : decode cX10_addVariant 52 = .ok (.aload_n 0, 1) := by decide +kernel
theorem dX10_addVariant_53 : decode cX10_addVariant 53 = .ok (.getfield 10, 3) := by decide +kernel
theorem dX10_addVariant_56 : decode cX10_addVariant 56 = .ok (.iload_n 1, 1) := by decide +kernel
theorem dX10_addVariant_57 : decode cX10_addVariant 57 = .ok (.iload_n 2, 1) := by decide +kernel
theorem dX10_addVariant_58 : decode cX10_addVariant 58 = .ok (.iload_n 3, 1) := by decide +kernel
theorem dX10_addVariant_59 : decode cX10_addVariant 59 = .ok (.iload 4, 2) := by decide +kernel
theorem dX10_addVariant_61 : decode cX10_addVariant 61 = .ok (.invokevirtual 134, 3) := by decide +kernel
theorem dX10_addVariant_64 : decode cX10_addVariant 64 = .ok (.istore 7, 2) := by decide +kernel
theorem dX10_addVariant_66 : decode cX10_addVariant 66 = .ok (.aload_n 0, 1) := by decide +kernel
theorem dX10_addVariant_67 : decode cX10_addVariant 67 = .ok (.getfield 10, 3) := by decide +kernel
theorem dX10_addVariant_70 : decode cX10_addVariant 70 = .ok (.getfield 137, 3) := by decide +kernel
theorem dX10_addVariant_73 : decode cX10_addVariant 73 = .ok (.iload 7, 2) := by decide +kernel
theorem dX10_addVariant_75 : decode cX10_addVariant 75 = .ok (.iconst 1, 1) := by decide +kernel
theorem dX10_addVariant_76 : decode cX10_addVariant 76 = .ok (.sipush 999, 3) := by decide +kernel
theorem dX10_addVariant_79 : decode cX10_addVariant 79 = .ok (.invokevirtual 141, 3) := by decide +kernel
theorem dX10_addVariant_82 : decode cX10_addVariant 82 = .ok (.aload_n 0, 1) := by decide +kernel
theorem dX10_addVariant_83 : decode cX10_addVariant 83 = .ok (.getfield 10, 3) := by decide +kernel
theorem dX10_addVariant_86 : decode cX10_addVariant 86 = .ok (.getfield 137, 3) := by decide +kernel
theorem dX10_addVariant_89 : decode cX10_addVariant 89 = .ok (.iload 7, 2) := by decide +kernel
theorem dX10_addVariant_91 : decode cX10_addVariant 91 = .ok (.iload 5, 2) := by decide +kernel
theorem dX10_addVariant_93 : decode cX10_addVariant 93 = .ok (.iload 6, 2) := by decide +kernel
theorem dX10_addVariant_95 : decode cX10_addVariant 95 = .ok (.invokevirtual 147, 3) := by decide +kernel
theorem dX10_addVariant_98 : decode cX10_addVariant 98 = .ok (.iload 7, 2) := by decide +kernel
theorem dX10_addVariant_100 : decode cX10_addVariant 100 = .ok (.ireturn, 1) := by decide +kernel
theorem dX10_replaceFrom_0 : decode cX10_replaceFrom 0 = .ok (.aload_n 0, 1) := by decide +kernel
theorem dX10_replaceFrom_1 : decode cX10_replaceFrom 1 = .ok (.iload_n 1, 1) := by decide +kernel
theorem dX10_replaceFrom_2 : decode cX10_replaceFrom 2 = .ok (.invokevirtual 153, 3) := by decide +kernel
theorem dX10_replaceFrom_5 : decode cX10_replaceFrom 5 = .ok (.aload_n 0, 1) := by decide +kernel
theorem dX10_replaceFrom_6 : decode cX10_replaceFrom 6 = .ok (.iload_n 3, 1) := by decide +kernel
theorem dX10_replaceFrom_7 : decode cX10_replaceFrom 7 = .ok (.invokevirtual 100, 3) := by decide +kernel
theorem dX10_replaceFrom_10 : decode cX10_replaceFrom 10 = .ok (.iload 4, 2) := by decide +kernel
theorem dX10_replaceFrom_12 : decode cX10_replaceFrom 12 = .ok (.invokestatic 117, 3) := by decide +kernel
theorem dX10_replaceFrom_15 : decode cX10_replaceFrom 15 = .ok (.aload_n 0, 1) := by decide +kernel
theorem dX10_replaceFrom_16 : decode cX10_replaceFrom 16 = .ok (.iload_n 1, 1) := by decide +kernel
theorem dX10_replaceFrom_17 : decode cX10_replaceFrom 17 = .ok (.iload_n 2, 1) := by decide +kernel
theorem dX10_replaceFrom_18 : decode cX10_replaceFrom 18 = .ok (.invokevirtual 156, 3) := by decide +kernel
theorem dX10_replaceFrom_21 : decode cX10_replaceFrom 21 = .ok (.aload_n 0, 1) := by decide +kernel
theorem dX10_replaceFrom_22 : decode cX10_replaceFrom 22 = .ok (.getfield 10, 3) := by decide +kernel
theorem dX10_replaceFrom_25 : decode cX10_replaceFrom 25 = .ok (.getfield 137, 3) := by decide +kernel
theorem dX10_replaceFrom_28 : decode cX10_replaceFrom 28 = .ok (.getfield 159, 3) := by decide +kernel
theorem dX10_replaceFrom_31 : decode cX10_replaceFrom 31 = .ok (.iload_n 1, 1) := by decide +kernel
theorem dX10_replaceFrom_32 : decode cX10_replaceFrom 32 = .ok (.iaload, 1) := by decide +kernel
theorem dX10_replaceFrom_33 : decode cX10_replaceFrom 33 = .ok (.istore 5, 2) := by decide +kernel
theorem dX10_replaceFrom_35 : decode cX10_replaceFrom 35 = .ok (.aload_n 0, 1) := by decide +kernel
theorem dX10_replaceFrom_36 : decode cX10_replaceFrom 36 = .ok (.iload 5, 2) := by decide +kernel
theorem dX10_replaceFrom_38 : decode cX10_replaceFrom 38 = .ok (.iload_n 3, 1) := by decide +kernel
theorem dX10_replaceFrom_39 : decode cX10_replaceFrom 39 = .ok (.invokevirtual 124, 3) := by decide +kernel
theorem dX10_replaceFrom_42 : decode cX10_replaceFrom 42 = .ok (.aload_n 0, 1) := by decide +kernel
theorem dX10_replaceFrom_43 : decode cX10_replaceFrom 43 = .ok (.iload 5, 2) := by decide +kernel
theorem dX10_replaceFrom_45 : decode cX10_replaceFrom 45 = .ok (.iload_n 3, 1) := by decide +kernel
theorem dX10_replaceFrom_46 : decode cX10_replaceFrom 46 = .ok (.invokevirtual 127, 3) := by decide +kernel
theorem dX10_replaceFrom_49 : decode cX10_replaceFrom 49 = .ok (.aload_n 0, 1) := by decide +kernel
theorem dX10_replaceFrom_50 : decode cX10_replaceFrom 50 = .ok (.getfield 10, 3) := by decide +kernel
theorem dX10_replaceFrom_53 : decode cX10_replaceFrom 53 = .ok (.iload 5, 2) := by decide +kernel
theorem dX10_replaceFrom_55 : decode cX10_replaceFrom 55 = .ok (.aload_n 0, 1) := by decide +kernel
theorem dX10_replaceFrom_56 : decode cX10_replaceFrom 56 = .ok (.getfield 10, 3) := by decide +kernel
theorem dX10_replaceFrom_59 : decode cX10_replaceFrom 59 = .ok (.getfield 137, 3) := by decide +kernel
theorem dX10_replaceFrom_62 : decode cX10_replaceFrom 62 = .ok (.getfield 162, 3) := by decide +kernel
theorem dX10_replaceFrom_65 : decode cX10_replaceFrom 65 = .ok (.iload_n 1, 1) := by decide +kernel
theorem dX10_replaceFrom_66 : decode cX10_replaceFrom 66 = .ok (.iaload, 1) := by decide +kernel
theorem dX10_replaceFrom_67 : decode cX10_replaceFrom 67 = .ok (.iload_n 3, 1) := by decide +kernel
theorem dX10_replaceFrom_68 : decode cX10_replaceFrom 68 = .ok (.iload 4, 2) := by decide +kernel
theorem dX10_replaceFrom_70 : decode cX10_replaceFrom 70 = .ok (.invokevirtual 134, 3) := by decide +kernel
theorem dX10_replaceFrom_73 : decode cX10_replaceFrom 73 = .ok (.istore 6, 2) := by decide +kernel
theorem dX10_replaceFrom_75 : decode cX10_replaceFrom 75 = .ok (.aload_n 0, 1) := by decide +kernel
theorem dX10_replaceFrom_76 : decode cX10_replaceFrom 76 = .ok (.getfield 10, 3) := by decide +kernel
theorem dX10_replaceFrom_79 : decode cX10_replaceFrom 79 = .ok (.getfield 137, 3) := by decide +kernel
theorem dX10_replaceFrom_82 : decode cX10_replaceFrom 82 = .ok (.iload 6, 2) := by decide +kernel
theorem dX10_replaceFrom_84 : decode cX10_replaceFrom 84 = .ok (.iload_n 2, 1) := by decide +kernel
theorem dX10_replaceFrom_85 : decode cX10_replaceFrom 85 = .ok (.aload_n 0, 1) := by decide +kernel
theorem dX10_replaceFrom_86 : decode cX10_replaceFrom 86 = .ok (.getfield 10, 3) := by decide +kernel
theorem dX10_replaceFrom_89 : decode cX10_replaceFrom 89 = .ok (.getfield 137, 3) := by decide +kernel
theorem dX10_replaceFrom_92 : decode cX10_replaceFrom 92 = .ok (.getfield 165, 3) := by decide +kernel
theorem dX10_replaceFrom_95 : decode cX10_replaceFrom 95 = .ok (.iload_n 1, 1) := by decide +kernel
theorem dX10_replaceFrom_96 : decode cX10_replaceFrom 96 = .ok (.iaload, 1) := by decide +kernel
theorem dX10_replaceFrom_97 : decode cX10_replaceFrom 97 = .ok (.invokevirtual 141, 3) := by decide +kernel
theorem dX10_replaceFrom_100 : decode cX10_replaceFrom 100 = .ok (.aload_n 0, 1) := by decide +kernel
theorem dX10_replaceFrom_101 : decode cX10_replaceFrom 101 = .ok (.getfield 10, 3) := by decide +kernel
theorem dX10_replaceFrom_104 : decode cX10_replaceFrom 104 = .ok (.getfield 137, 3) := by decide +kernel
theorem dX10_replaceFrom_107 : decode cX10_replaceFrom 107 = .ok (.iload 6, 2) := by decide +kernel
theorem dX10_replaceFrom_109 : decode cX10_replaceFrom 109 = .ok (.aload_n 0, 1) := by decide +kernel
theorem dX10_replaceFrom_110 : decode cX10_replaceFrom 110 = .ok (.getfield 10, 3) := by decide +kernel
theorem dX10_replaceFrom_113 : decode cX10_replaceFrom 113 = .ok (.getfield 137, 3) := by decide +kernel
theorem dX10_replaceFrom_116 : decode cX10_replaceFrom 116 = .ok (.getfield 168, 3) := by decide +kernel
theorem dX10_replaceFrom_119 : decode cX10_replaceFrom 119 = .ok (.iload_n 1, 1) := by decide +kernel
theorem dX10_replaceFrom_120 : decode cX10_replaceFrom 120 = .ok (.iaload, 1) := by decide +kernel
theorem dX10_replaceFrom_121 : decode cX10_replaceFrom 121 = .ok (.aload_n 0, 1) := by decide +kernel
theorem dX10_replaceFrom_122 : decode cX10_replaceFrom 122 = .ok (.getfield 10, 3) := by decide +kernel
theorem dX10_replaceFrom_125 : decode cX10_replaceFrom 125 = .ok (.getfield 137, 3) := by decide +kernel
theorem dX10_replaceFrom_128 : decode cX10_replaceFrom 128 = .ok (.getfield 171, 3) := by decide +kernel
theorem dX10_replaceFrom_131 : decode cX10_replaceFrom 131 = .ok (.iload_n 1, 1) := by decide +kernel
theorem dX10_replaceFrom_132 : decode cX10_replaceFrom 132 = .ok (.iaload, 1) := by decide +kernel
theorem dX10_replaceFrom_133 : decode cX10_replaceFrom 133 = .ok (.invokevirtual 147, 3) := by decide +kernel
theorem dX10_replaceFrom_136 : decode cX10_replaceFrom 136 = .ok (.aload_n 0, 1) := by decide +kernel
theorem dX10_replaceFrom_137 : decode cX10_replaceFrom 137 = .ok (.getfield 10, 3) := by decide +kernel
theorem dX10_replaceFrom_140 : decode cX10_replaceFrom 140 = .ok (.getfield 137, 3) := by decide +kernel
theorem dX10_replaceFrom_143 : decode cX10_replaceFrom 143 = .ok (.getfield 174, 3) := by decide +kernel
theorem dX10_replaceFrom_146 : decode cX10_replaceFrom 146 = .ok (.iload 6, 2) := by decide +kernel
theorem dX10_replaceFrom_148 : decode cX10_replaceFrom 148 = .ok (.aload_n 0, 1) := by decide +kernel
theorem dX10_replaceFrom_149 : decode cX10_replaceFrom 149 = .ok (.getfield 10, 3) := by decide +kernel
theorem dX10_replaceFrom_152 : decode cX10_replaceFrom 152 = .ok (.getfield 137, 3) := by decide +kernel
theorem dX10_replaceFrom_155 : decode cX10_replaceFrom 155 = .ok (.getfield 174, 3) := by decide +kernel
theorem dX10_replaceFrom_158 : decode cX10_replaceFrom 158 = .ok (.iload_n 1, 1) := by decide +kernel
theorem dX10_replaceFrom_159 : decode cX10_replaceFrom 159 = .ok (.iaload, 1) := by decide +kernel
theorem dX10_replaceFrom_160 : decode cX10_replaceFrom 160 = .ok (.iastore, 1) := by decide +kernel
theorem dX10_replaceFrom_161 : decode cX10_replaceFrom 161 = .ok (.aload_n 0, 1) := by decide +kernel
theorem dX10_replaceFrom_162 : decode cX10_replaceFrom 162 = .ok (.getfield 10, 3) := by decide +kernel
theorem dX10_replaceFrom_165 : decode cX10_replaceFrom 165 = .ok (.getfield 137, 3) := by decide +kernel
theorem dX10_replaceFrom_168 : decode cX10_replaceFrom 168 = .ok (.getfield 165, 3) := by decide +kernel
theorem dX10_replaceFrom_171 : decode cX10_replaceFrom 171 = .ok (.iload_n 1, 1) := by decide +kernel
theorem dX10_replaceFrom_172 : decode cX10_replaceFrom 172 = .ok (.iload_n 2, 1) := by decide +kernel
theorem dX10_replaceFrom_173 : decode cX10_replaceFrom 173 = .ok (.iconst 1, 1) := by decide +kernel
theorem dX10_replaceFrom_174 : decode cX10_replaceFrom 174 = .ok (.isub, 1) := by decide +kernel
theorem dX10_replaceFrom_175 : decode cX10_replaceFrom 175 = .ok (.iastore, 1) := by decide +kernel
theorem dX10_replaceFrom_176 : decode cX10_replaceFrom 176 = .ok (.iload 6, 2) := by decide +kernel
theorem dX10_replaceFrom_178 : decode cX10_replaceFrom 178 = .ok (.ireturn, 1) := by decide +kernel
theorem dX10_endBefore_0 : decode cX10_endBefore 0 = .ok (.aload_n 0, 1) := by decide +kernel
theorem dX10_endBefore_1 : decode cX10_endBefore 1 = .ok (.iload_n 1, 1) := by decide +kernel
theorem dX10_endBefore_2 : decode cX10_endBefore 2 = .ok (.invokevirtual 153, 3) := by decide +kernel
theorem dX10_endBefore_5 : decode cX10_endBefore 5 = .ok (.aload_n 0, 1) := by decide +kernel
theorem dX10_endBefore_6 : decode cX10_endBefore 6 = .ok (.iload_n 1, 1) := by decide +kernel
theorem dX10_endBefore_7 : decode cX10_endBefore 7 = .ok (.iload_n 2, 1) := by decide +kernel
theorem dX10_endBefore_8 : decode cX10_endBefore 8 = .ok (.invokevirtual 156, 3) := by decide +kernel
theorem dX10_endBefore_11 : decode cX10_endBefore 11 = .ok (.aload_n 0, 1) := by decide +kernel
theorem dX10_endBefore_12 : decode cX10_endBefore 12 = .ok (.getfield 10, 3) := by decide +kernel
theorem dX10_endBefore_15 : decode cX10_endBefore 15 = .ok (.getfield 137, 3) := by decide +kernel
theorem dX10_endBefore_18 : decode cX10_endBefore 18 = .ok (.getfield 165, 3) := by decide +kernel
theorem dX10_endBefore_21 : decode cX10_endBefore 21 = .ok (.iload_n 1, 1) := by decide +kernel
theorem dX10_endBefore_22 : decode cX10_endBefore 22 = .ok (.iaload, 1) := by decide +kernel
theorem dX10_endBefore_23 : decode cX10_endBefore 23 = .ok (.istore_n 3, 1) := by decide +kernel
theorem dX10_endBefore_24 : decode cX10_endBefore 24 = .ok (.aload_n 0, 1) := by decide +kernel
theorem dX10_endBefore_25 : decode cX10_endBefore 25 = .ok (.getfield 10, 3) := by decide +kernel
theorem dX10_endBefore_28 : decode cX10_endBefore 28 = .ok (.getfield 137, 3) := by decide +kernel
theorem dX10_endBefore_31 : decode cX10_endBefore 31 = .ok (.getfield 165, 3) := by decide +kernel
theorem dX10_endBefore_34 : decode cX10_endBefore 34 = .ok (.iload_n 1, 1) := by decide +kernel
theorem dX10_endBefore_35 : decode cX10_endBefore 35 = .ok (.iload_n 2, 1) := by decide +kernel
theorem dX10_endBefore_36 : decode cX10_endBefore 36 = .ok (.iconst 1, 1) := by decide +kernel
theorem dX10_endBefore_37 : decode cX10_endBefore 37 = .ok (.isub, 1) := by decide +kernel
theorem dX10_endBefore_38 : decode cX10_endBefore 38 = .ok (.iastore, 1) := by decide +kernel
theorem dX10_endBefore_39 : decode cX10_endBefore 39 = .ok (.iload_n 3, 1) := by decide +kernel
theorem dX10_endBefore_40 : decode cX10_endBefore 40 = .ok (.ireturn, 1) := by decide +kernel
theorem dX10_setScrap_0 : decode cX10_setScrap 0 = .ok (.aload_n 0, 1) := by decide +kernel
theorem dX10_setScrap_1 : decode cX10_setScrap 1 = .ok (.iload_n 1, 1) := by decide +kernel
theorem dX10_setScrap_2 : decode cX10_setScrap 2 = .ok (.invokevirtual 153, 3) := by decide +kernel
theorem dX10_setScrap_5 : decode cX10_setScrap 5 = .ok (.iload_n 2, 1) := by decide +kernel
theorem dX10_setScrap_6 : decode cX10_setScrap 6 = .ok (.iconst 0, 1) := by decide +kernel
theorem dX10_setScrap_7 : decode cX10_setScrap 7 = .ok (.bipush 50, 2) := by decide +kernel
theorem dX10_setScrap_9 : decode cX10_setScrap 9 = .ok (.invokestatic 177, 3) := by decide +kernel
theorem dX10_setScrap_12 : decode cX10_setScrap 12 = .ok (.ifCond .ne 13, 3) := by decide +kernel
theorem dX10_setScrap_15 : decode cX10_setScrap 15 = .ok (.new 181, 3) := by decide +kernel
theorem dX10_setScrap_18 : decode cX10_setScrap 18 = .ok (.dup, 1) := by decide +kernel
theorem dX10_setScrap_19 : decode cX10_setScrap 19 = .ok (.ldc 183, 2) := by decide +kernel
theorem dX10_setScrap_21 : decode cX10_setScrap 21 = .ok (.invokespecial 185, 3) := by decide +kernel
theorem dX10_setScrap_24 : decode cX10_setScrap 24 = .ok (.athrow, 1) := by decide +kernel
theorem dX10_setScrap_25 : decode cX10_setScrap 25 = .ok (.aload_n 0, 1) := by decide +kernel
theorem dX10_setScrap_26 : decode cX10_setScrap 26 = .ok (.getfield 10, 3) := by decide +kernel
theorem dX10_setScrap_29 : decode cX10_setScrap 29 = .ok (.getfield 137, 3) := by decide +kernel
theorem dX10_setScrap_32 : decode cX10_setScrap 32 = .ok (.getfield 174, 3) := by decide +kernel
theorem dX10_setScrap_35 : decode cX10_setScrap 35 = .ok (.iload_n 1, 1) := by decide +kernel
theorem dX10_setScrap_36 : decode cX10_setScrap 36 = .ok (.iaload, 1) := by decide +kernel
theorem dX10_setScrap_37 : decode cX10_setScrap 37 = .ok (.istore_n 3, 1) := by decide +kernel
theorem dX10_setScrap_38 : decode cX10_setScrap 38 = .ok (.aload_n 0, 1) := by decide +kernel
theorem dX10_setScrap_39 : decode cX10_setScrap 39 = .ok (.getfield 10, 3) := by decide +kernel
theorem dX10_setScrap_42 : decode cX10_setScrap 42 = .ok (.getfield 137, 3) := by decide +kernel
theorem dX10_setScrap_45 : decode cX10_setScrap 45 = .ok (.getfield 174, 3) := by decide +kernel
theorem dX10_setScrap_48 : decode cX10_setScrap 48 = .ok (.iload_n 1, 1) := by decide +kernel
theorem dX10_setScrap_49 : decode cX10_setScrap 49 = .ok (.iload_n 2, 1) := by decide +kernel
theorem dX10_setScrap_50 : decode cX10_setScrap 50 = .ok (.iastore, 1) := by decide +kernel
theorem dX10_setScrap_51 : decode cX10_setScrap 51 = .ok (.iload_n 3, 1) := by decide +kernel
theorem dX10_setScrap_52 : decode cX10_setScrap 52 = .ok (.ireturn, 1) := by decide +kernel
theorem dX10_lines_0 : decode cX10_lines 0 = .ok (.aload_n 0, 1) := by decide +kernel
theorem dX10_lines_1 : decode cX10_lines 1 = .ok (.getfield 10, 3) := by decide +kernel
theorem dX10_lines_4 : decode cX10_lines 4 = .ok (.getfield 137, 3) := by decide +kernel
theorem dX10_lines_7 : decode cX10_lines 7 = .ok (.getfield 186, 3) := by decide +kernel
theorem dX10_lines_10 : decode cX10_lines 10 = .ok (.ireturn, 1) := by decide +kernel
theorem dX10_lastSerial_0 : decode cX10_lastSerial 0 = .ok (.aload_n 0, 1) := by decide +kernel
theorem dX10_lastSerial_1 : decode cX10_lastSerial 1 = .ok (.iload_n 1, 1) := by decide +kernel
theorem dX10_lastSerial_2 : decode cX10_lastSerial 2 = .ok (.invokevirtual 153, 3) := by decide +kernel
theorem dX10_lastSerial_5 : decode cX10_lastSerial 5 = .ok (.aload_n 0, 1) := by decide +kernel
theorem dX10_lastSerial_6 : decode cX10_lastSerial 6 = .ok (.getfield 10, 3) := by decide +kernel
theorem dX10_lastSerial_9 : decode cX10_lastSerial 9 = .ok (.getfield 137, 3) := by decide +kernel
theorem dX10_lastSerial_12 : decode cX10_lastSerial 12 = .ok (.getfield 165, 3) := by decide +kernel
theorem dX10_lastSerial_15 : decode cX10_lastSerial 15 = .ok (.iload_n 1, 1) := by decide +kernel
theorem dX10_lastSerial_16 : decode cX10_lastSerial 16 = .ok (.iaload, 1) := by decide +kernel
theorem dX10_lastSerial_17 : decode cX10_lastSerial 17 = .ok (.ireturn, 1) := by decide +kernel
theorem dX10_holds_0 : decode cX10_holds 0 = .ok (.aload_n 0, 1) := by decide +kernel
theorem dX10_holds_1 : decode cX10_holds 1 = .ok (.iload_n 1, 1) := by decide +kernel
theorem dX10_holds_2 : decode cX10_holds 2 = .ok (.invokevirtual 153, 3) := by decide +kernel
theorem dX10_holds_5 : decode cX10_holds 5 = .ok (.iload_n 2, 1) := by decide +kernel
theorem dX10_holds_6 : decode cX10_holds 6 = .ok (.invokestatic 187, 3) := by decide +kernel
theorem dX10_holds_9 : decode cX10_holds 9 = .ok (.aload_n 0, 1) := by decide +kernel
theorem dX10_holds_10 : decode cX10_holds 10 = .ok (.getfield 10, 3) := by decide +kernel
theorem dX10_holds_13 : decode cX10_holds 13 = .ok (.getfield 137, 3) := by decide +kernel
theorem dX10_holds_16 : decode cX10_holds 16 = .ok (.iload_n 1, 1) := by decide +kernel
theorem dX10_holds_17 : decode cX10_holds 17 = .ok (.iload_n 2, 1) := by decide +kernel
theorem dX10_holds_18 : decode cX10_holds 18 = .ok (.aload_n 0, 1) := by decide +kernel
theorem dX10_holds_19 : decode cX10_holds 19 = .ok (.getfield 66, 3) := by decide +kernel
theorem dX10_holds_22 : decode cX10_holds 22 = .ok (.invokevirtual 190, 3) := by decide +kernel
theorem dX10_holds_25 : decode cX10_holds 25 = .ok (.ireturn, 1) := by decide +kernel
theorem dX10_setChoice_0 : decode cX10_setChoice 0 = .ok (.iload_n 1, 1) := by decide +kernel
theorem dX10_setChoice_1 : decode cX10_setChoice 1 = .ok (.invokestatic 193, 3) := by decide +kernel
theorem dX10_setChoice_4 : decode cX10_setChoice 4 = .ok (.iload_n 2, 1) := by decide +kernel
theorem dX10_setChoice_5 : decode cX10_setChoice 5 = .ok (.iconst 0, 1) := by decide +kernel
theorem dX10_setChoice_6 : decode cX10_setChoice 6 = .ok (.iconst 3, 1) := by decide +kernel
theorem dX10_setChoice_7 : decode cX10_setChoice 7 = .ok (.invokestatic 177, 3) := by decide +kernel
theorem dX10_setChoice_10 : decode cX10_setChoice 10 = .ok (.ifCond .ne 13, 3) := by decide +kernel
theorem dX10_setChoice_13 : decode cX10_setChoice 13 = .ok (.new 181, 3) := by decide +kernel
theorem dX10_setChoice_16 : decode cX10_setChoice 16 = .ok (.dup, 1) := by decide +kernel
theorem dX10_setChoice_17 : decode cX10_setChoice 17 = .ok (.ldc 196, 2) := by decide +kernel
theorem dX10_setChoice_19 : decode cX10_setChoice 19 = .ok (.invokespecial 185, 3) := by decide +kernel
theorem dX10_setChoice_22 : decode cX10_setChoice 22 = .ok (.athrow, 1) := by decide +kernel
theorem dX10_setChoice_23 : decode cX10_setChoice 23 = .ok (.aload_n 0, 1) := by decide +kernel
theorem dX10_setChoice_24 : decode cX10_setChoice 24 = .ok (.getfield 66, 3) := by decide +kernel
theorem dX10_setChoice_27 : decode cX10_setChoice 27 = .ok (.iload_n 1, 1) := by decide +kernel
theorem dX10_setChoice_28 : decode cX10_setChoice 28 = .ok (.invokestatic 198, 3) := by decide +kernel
theorem dX10_setChoice_31 : decode cX10_setChoice 31 = .ok (.istore_n 3, 1) := by decide +kernel
theorem dX10_setChoice_32 : decode cX10_setChoice 32 = .ok (.aload_n 0, 1) := by decide +kernel
theorem dX10_setChoice_33 : decode cX10_setChoice 33 = .ok (.aload_n 0, 1) := by decide +kernel
theorem dX10_setChoice_34 : decode cX10_setChoice 34 = .ok (.getfield 66, 3) := by decide +kernel
theorem dX10_setChoice_37 : decode cX10_setChoice 37 = .ok (.iconst 3, 1) := by decide +kernel
theorem dX10_setChoice_38 : decode cX10_setChoice 38 = .ok (.iconst 2, 1) := by decide +kernel
theorem dX10_setChoice_39 : decode cX10_setChoice 39 = .ok (.iload_n 1, 1) := by decide +kernel
theorem dX10_setChoice_40 : decode cX10_setChoice 40 = .ok (.imul, 1) := by decide +kernel
theorem dX10_setChoice_41 : decode cX10_setChoice 41 = .ok (.ishl, 1) := by decide +kernel
theorem dX10_setChoice_42 : decode cX10_setChoice 42 = .ok (.iconst (-1), 1) := by decide +kernel
theorem dX10_setChoice_43 : decode cX10_setChoice 43 = .ok (.ixor, 1) := by decide +kernel
theorem dX10_setChoice_44 : decode cX10_setChoice 44 = .ok (.iand, 1) := by decide +kernel
theorem dX10_setChoice_45 : decode cX10_setChoice 45 = .ok (.iload_n 2, 1) := by decide +kernel
theorem dX10_setChoice_46 : decode cX10_setChoice 46 = .ok (.iconst 2, 1) := by decide +kernel
theorem dX10_setChoice_47 : decode cX10_setChoice 47 = .ok (.iload_n 1, 1) := by decide +kernel
theorem dX10_setChoice_48 : decode cX10_setChoice 48 = .ok (.imul, 1) := by decide +kernel
theorem dX10_setChoice_49 : decode cX10_setChoice 49 = .ok (.ishl, 1) := by decide +kernel
theorem dX10_setChoice_50 : decode cX10_setChoice 50 = .ok (.ior, 1) := by decide +kernel
theorem dX10_setChoice_51 : decode cX10_setChoice 51 = .ok (.putfield 66, 3) := by decide +kernel
theorem dX10_setChoice_54 : decode cX10_setChoice 54 = .ok (.iload_n 3, 1) := by decide +kernel
theorem dX10_setChoice_55 : decode cX10_setChoice 55 = .ok (.ireturn, 1) := by decide +kernel
theorem dX10_choice_0 : decode cX10_choice 0 = .ok (.iload_n 1, 1) := by decide +kernel
theorem dX10_choice_1 : decode cX10_choice 1 = .ok (.invokestatic 193, 3) := by decide +kernel
theorem dX10_choice_4 : decode cX10_choice 4 = .ok (.aload_n 0, 1) := by decide +kernel
theorem dX10_choice_5 : decode cX10_choice 5 = .ok (.getfield 66, 3) := by decide +kernel
theorem dX10_choice_8 : decode cX10_choice 8 = .ok (.iload_n 1, 1) := by decide +kernel
theorem dX10_choice_9 : decode cX10_choice 9 = .ok (.invokestatic 198, 3) := by decide +kernel
theorem dX10_choice_12 : decode cX10_choice 12 = .ok (.ireturn, 1) := by decide +kernel
theorem dX10_listSize_0 : decode cX10_listSize 0 = .ok (.aload_n 0, 1) := by decide +kernel
theorem dX10_listSize_1 : decode cX10_listSize 1 = .ok (.iload_n 1, 1) := by decide +kernel
theorem dX10_listSize_2 : decode cX10_listSize 2 = .ok (.iload_n 2, 1) := by decide +kernel
theorem dX10_listSize_3 : decode cX10_listSize 3 = .ok (.invokevirtual 202, 3) := by decide +kernel
theorem dX10_listSize_6 : decode cX10_listSize 6 = .ok (.aload_n 0, 1) := by decide +kernel
theorem dX10_listSize_7 : decode cX10_listSize 7 = .ok (.getfield 47, 3) := by decide +kernel
theorem dX10_listSize_10 : decode cX10_listSize 10 = .ok (.getfield 205, 3) := by decide +kernel
theorem dX10_listSize_13 : decode cX10_listSize 13 = .ok (.ireturn, 1) := by decide +kernel
theorem dX10_listPart_0 : decode cX10_listPart 0 = .ok (.aload_n 0, 1) := by decide +kernel
theorem dX10_listPart_1 : decode cX10_listPart 1 = .ok (.iload_n 1, 1) := by decide +kernel
theorem dX10_listPart_2 : decode cX10_listPart 2 = .ok (.iload_n 2, 1) := by decide +kernel
theorem dX10_listPart_3 : decode cX10_listPart 3 = .ok (.invokevirtual 202, 3) := by decide +kernel
theorem dX10_listPart_6 : decode cX10_listPart 6 = .ok (.aload_n 0, 1) := by decide +kernel
theorem dX10_listPart_7 : decode cX10_listPart 7 = .ok (.iload_n 3, 1) := by decide +kernel
theorem dX10_listPart_8 : decode cX10_listPart 8 = .ok (.invokevirtual 208, 3) := by decide +kernel
theorem dX10_listPart_11 : decode cX10_listPart 11 = .ok (.aload_n 0, 1) := by decide +kernel
theorem dX10_listPart_12 : decode cX10_listPart 12 = .ok (.getfield 47, 3) := by decide +kernel
theorem dX10_listPart_15 : decode cX10_listPart 15 = .ok (.getfield 211, 3) := by decide +kernel
theorem dX10_listPart_18 : decode cX10_listPart 18 = .ok (.iload_n 3, 1) := by decide +kernel
theorem dX10_listPart_19 : decode cX10_listPart 19 = .ok (.iaload, 1) := by decide +kernel
theorem dX10_listPart_20 : decode cX10_listPart 20 = .ok (.ireturn, 1) := by decide +kernel
theorem dX10_listQuantity_0 : decode cX10_listQuantity 0 = .ok (.aload_n 0, 1) := by decide +kernel
theorem dX10_listQuantity_1 : decode cX10_listQuantity 1 = .ok (.iload_n 1, 1) := by decide +kernel
theorem dX10_listQuantity_2 : decode cX10_listQuantity 2 = .ok (.iload_n 2, 1) := by decide +kernel
theorem dX10_listQuantity_3 : decode cX10_listQuantity 3 = .ok (.invokevirtual 202, 3) := by decide +kernel
theorem dX10_listQuantity_6 : decode cX10_listQuantity 6 = .ok (.aload_n 0, 1) := by decide +kernel
theorem dX10_listQuantity_7 : decode cX10_listQuantity 7 = .ok (.iload_n 3, 1) := by decide +kernel
theorem dX10_listQuantity_8 : decode cX10_listQuantity 8 = .ok (.invokevirtual 208, 3) := by decide +kernel
theorem dX10_listQuantity_11 : decode cX10_listQuantity 11 = .ok (.aload_n 0, 1) := by decide +kernel
theorem dX10_listQuantity_12 : decode cX10_listQuantity 12 = .ok (.getfield 47, 3) := by decide +kernel
theorem dX10_listQuantity_15 : decode cX10_listQuantity 15 = .ok (.getfield 214, 3) := by decide +kernel
theorem dX10_listQuantity_18 : decode cX10_listQuantity 18 = .ok (.iload_n 3, 1) := by decide +kernel
theorem dX10_listQuantity_19 : decode cX10_listQuantity 19 = .ok (.laload, 1) := by decide +kernel
theorem dX10_listQuantity_20 : decode cX10_listQuantity 20 = .ok (.lreturn, 1) := by decide +kernel
theorem dX10_quantity_0 : decode cX10_quantity 0 = .ok (.aload_n 0, 1) := by decide +kernel
theorem dX10_quantity_1 : decode cX10_quantity 1 = .ok (.iload_n 1, 1) := by decide +kernel
theorem dX10_quantity_2 : decode cX10_quantity 2 = .ok (.invokevirtual 100, 3) := by decide +kernel
theorem dX10_quantity_5 : decode cX10_quantity 5 = .ok (.aload_n 0, 1) := by decide +kernel
theorem dX10_quantity_6 : decode cX10_quantity 6 = .ok (.iload_n 2, 1) := by decide +kernel
theorem dX10_quantity_7 : decode cX10_quantity 7 = .ok (.invokevirtual 100, 3) := by decide +kernel
theorem dX10_quantity_10 : decode cX10_quantity 10 = .ok (.iload_n 3, 1) := by decide +kernel
theorem dX10_quantity_11 : decode cX10_quantity 11 = .ok (.invokestatic 187, 3) := by decide +kernel
theorem dX10_quantity_14 : decode cX10_quantity 14 = .ok (.aload_n 0, 1) := by decide +kernel
theorem dX10_quantity_15 : decode cX10_quantity 15 = .ok (.getfield 10, 3) := by decide +kernel
theorem dX10_quantity_18 : decode cX10_quantity 18 = .ok (.iload_n 3, 1) := by decide +kernel
theorem dX10_quantity_19 : decode cX10_quantity 19 = .ok (.aload_n 0, 1) := by decide +kernel
theorem dX10_quantity_20 : decode cX10_quantity 20 = .ok (.getfield 66, 3) := by decide +kernel
theorem dX10_quantity_23 : decode cX10_quantity 23 = .ok (.invokevirtual 237, 3) := by decide +kernel
theorem dX10_quantity_26 : decode cX10_quantity 26 = .ok (.aload_n 0, 1) := by decide +kernel
theorem dX10_quantity_27 : decode cX10_quantity 27 = .ok (.getfield 26, 3) := by decide +kernel
theorem dX10_quantity_30 : decode cX10_quantity 30 = .ok (.aload_n 0, 1) := by decide +kernel
theorem dX10_quantity_31 : decode cX10_quantity 31 = .ok (.getfield 10, 3) := by decide +kernel
theorem dX10_quantity_34 : decode cX10_quantity 34 = .ok (.iload_n 1, 1) := by decide +kernel
theorem dX10_quantity_35 : decode cX10_quantity 35 = .ok (.iload_n 2, 1) := by decide +kernel
theorem dX10_quantity_36 : decode cX10_quantity 36 = .ok (.invokevirtual 240, 3) := by decide +kernel
theorem dX10_quantity_39 : decode cX10_quantity 39 = .ok (.lreturn, 1) := by decide +kernel
theorem dX10_quantityByWalking_0 : decode cX10_quantityByWalking 0 = .ok (.aload_n 0, 1) := by decide +kernel
theorem dX10_quantityByWalking_1 : decode cX10_quantityByWalking 1 = .ok (.iload_n 1, 1) := by decide +kernel
theorem dX10_quantityByWalking_2 : decode cX10_quantityByWalking 2 = .ok (.invokevirtual 100, 3) := by decide +kernel
theorem dX10_quantityByWalking_5 : decode cX10_quantityByWalking 5 = .ok (.aload_n 0, 1) := by decide +kernel
theorem dX10_quantityByWalking_6 : decode cX10_quantityByWalking 6 = .ok (.iload_n 2, 1) := by decide +kernel
theorem dX10_quantityByWalking_7 : decode cX10_quantityByWalking 7 = .ok (.invokevirtual 100, 3) := by decide +kernel
theorem dX10_quantityByWalking_10 : decode cX10_quantityByWalking 10 = .ok (.iload_n 3, 1) := by decide +kernel
theorem dX10_quantityByWalking_11 : decode cX10_quantityByWalking 11 = .ok (.invokestatic 187, 3) := by decide +kernel
theorem dX10_quantityByWalking_14 : decode cX10_quantityByWalking 14 = .ok (.aload_n 0, 1) := by decide +kernel
theorem dX10_quantityByWalking_15 : decode cX10_quantityByWalking 15 = .ok (.getfield 10, 3) := by decide +kernel
theorem dX10_quantityByWalking_18 : decode cX10_quantityByWalking 18 = .ok (.iload_n 3, 1) := by decide +kernel
theorem dX10_quantityByWalking_19 : decode cX10_quantityByWalking 19 = .ok (.aload_n 0, 1) := by decide +kernel
theorem dX10_quantityByWalking_20 : decode cX10_quantityByWalking 20 = .ok (.getfield 66, 3) := by decide +kernel
theorem dX10_quantityByWalking_23 : decode cX10_quantityByWalking 23 = .ok (.invokevirtual 237, 3) := by decide +kernel
theorem dX10_quantityByWalking_26 : decode cX10_quantityByWalking 26 = .ok (.aload_n 0, 1) := by decide +kernel
theorem dX10_quantityByWalking_27 : decode cX10_quantityByWalking 27 = .ok (.getfield 10, 3) := by decide +kernel
theorem dX10_quantityByWalking_30 : decode cX10_quantityByWalking 30 = .ok (.iload_n 1, 1) := by decide +kernel
theorem dX10_quantityByWalking_31 : decode cX10_quantityByWalking 31 = .ok (.iload_n 2, 1) := by decide +kernel
theorem dX10_quantityByWalking_32 : decode cX10_quantityByWalking 32 = .ok (.iconst 0, 1) := by decide +kernel
theorem dX10_quantityByWalking_33 : decode cX10_quantityByWalking 33 = .ok (.invokestatic 243, 3) := by decide +kernel
theorem dX10_quantityByWalking_36 : decode cX10_quantityByWalking 36 = .ok (.lreturn, 1) := by decide +kernel
theorem dX10_whereUsed_0 : decode cX10_whereUsed 0 = .ok (.aload_n 0, 1) := by decide +kernel
theorem dX10_whereUsed_1 : decode cX10_whereUsed 1 = .ok (.iload_n 1, 1) := by decide +kernel
theorem dX10_whereUsed_2 : decode cX10_whereUsed 2 = .ok (.invokevirtual 100, 3) := by decide +kernel
theorem dX10_whereUsed_5 : decode cX10_whereUsed 5 = .ok (.iload_n 2, 1) := by decide +kernel
theorem dX10_whereUsed_6 : decode cX10_whereUsed 6 = .ok (.invokestatic 187, 3) := by decide +kernel
theorem dX10_whereUsed_9 : decode cX10_whereUsed 9 = .ok (.aload_n 0, 1) := by decide +kernel
theorem dX10_whereUsed_10 : decode cX10_whereUsed 10 = .ok (.getfield 10, 3) := by decide +kernel
theorem dX10_whereUsed_13 : decode cX10_whereUsed 13 = .ok (.iload_n 2, 1) := by decide +kernel
theorem dX10_whereUsed_14 : decode cX10_whereUsed 14 = .ok (.aload_n 0, 1) := by decide +kernel
theorem dX10_whereUsed_15 : decode cX10_whereUsed 15 = .ok (.getfield 66, 3) := by decide +kernel
theorem dX10_whereUsed_18 : decode cX10_whereUsed 18 = .ok (.invokevirtual 237, 3) := by decide +kernel
theorem dX10_whereUsed_21 : decode cX10_whereUsed 21 = .ok (.iconst 0, 1) := by decide +kernel
theorem dX10_whereUsed_22 : decode cX10_whereUsed 22 = .ok (.istore_n 3, 1) := by decide +kernel
theorem dX10_whereUsed_23 : decode cX10_whereUsed 23 = .ok (.iconst 0, 1) := by decide +kernel
theorem dX10_whereUsed_24 : decode cX10_whereUsed 24 = .ok (.istore 4, 2) := by decide +kernel
theorem dX10_whereUsed_26 : decode cX10_whereUsed 26 = .ok (.iload 4, 2) := by decide +kernel
theorem dX10_whereUsed_28 : decode cX10_whereUsed 28 = .ok (.aload_n 0, 1) := by decide +kernel
theorem dX10_whereUsed_29 : decode cX10_whereUsed 29 = .ok (.getfield 10, 3) := by decide +kernel
theorem dX10_whereUsed_32 : decode cX10_whereUsed 32 = .ok (.getfield 80, 3) := by decide +kernel
theorem dX10_whereUsed_35 : decode cX10_whereUsed 35 = .ok (.getfield 84, 3) := by decide +kernel
theorem dX10_whereUsed_38 : decode cX10_whereUsed 38 = .ok (.if_icmp .ge 37, 3) := by decide +kernel
theorem dX10_whereUsed_41 : decode cX10_whereUsed 41 = .ok (.iload 4, 2) := by decide +kernel
theorem dX10_whereUsed_43 : decode cX10_whereUsed 43 = .ok (.iload_n 1, 1) := by decide +kernel
theorem dX10_whereUsed_44 : decode cX10_whereUsed 44 = .ok (.if_icmp .eq 25, 3) := by decide +kernel
theorem dX10_whereUsed_47 : decode cX10_whereUsed 47 = .ok (.aload_n 0, 1) := by decide +kernel
theorem dX10_whereUsed_48 : decode cX10_whereUsed 48 = .ok (.getfield 26, 3) := by decide +kernel
theorem dX10_whereUsed_51 : decode cX10_whereUsed 51 = .ok (.aload_n 0, 1) := by decide +kernel
theorem dX10_whereUsed_52 : decode cX10_whereUsed 52 = .ok (.getfield 10, 3) := by decide +kernel
theorem dX10_whereUsed_55 : decode cX10_whereUsed 55 = .ok (.iload 4, 2) := by decide +kernel
theorem dX10_whereUsed_57 : decode cX10_whereUsed 57 = .ok (.iload_n 1, 1) := by decide +kernel
theorem dX10_whereUsed_58 : decode cX10_whereUsed 58 = .ok (.invokevirtual 240, 3) := by decide +kernel
theorem dX10_whereUsed_61 : decode cX10_whereUsed 61 = .ok (.lconst 0, 1) := by decide +kernel
theorem dX10_whereUsed_62 : decode cX10_whereUsed 62 = .ok (.lcmp, 1) := by decide +kernel
theorem dX10_whereUsed_63 : decode cX10_whereUsed 63 = .ok (.ifCond .le 6, 3) := by decide +kernel
theorem dX10_whereUsed_66 : decode cX10_whereUsed 66 = .ok (.iinc 3 1, 3) := by decide +kernel
theorem dX10_whereUsed_69 : decode cX10_whereUsed 69 = .ok (.iinc 4 1, 3) := by decide +kernel
theorem dX10_whereUsed_72 : decode cX10_whereUsed 72 = .ok (.goto (-46), 3) := by decide +kernel
theorem dX10_whereUsed_75 : decode cX10_whereUsed 75 = .ok (.iload_n 3, 1) := by decide +kernel
theorem dX10_whereUsed_76 : decode cX10_whereUsed 76 = .ok (.ireturn, 1) := by decide +kernel
theorem dX10_levels_0 : decode cX10_levels 0 = .ok (.aload_n 0, 1) := by decide +kernel
theorem dX10_levels_1 : decode cX10_levels 1 = .ok (.iload_n 1, 1) := by decide +kernel
theorem dX10_levels_2 : decode cX10_levels 2 = .ok (.invokevirtual 100, 3) := by decide +kernel
theorem dX10_levels_5 : decode cX10_levels 5 = .ok (.iload_n 2, 1) := by decide +kernel
theorem dX10_levels_6 : decode cX10_levels 6 = .ok (.invokestatic 187, 3) := by decide +kernel
theorem dX10_levels_9 : decode cX10_levels 9 = .ok (.aload_n 0, 1) := by decide +kernel
theorem dX10_levels_10 : decode cX10_levels 10 = .ok (.getfield 10, 3) := by decide +kernel
theorem dX10_levels_13 : decode cX10_levels 13 = .ok (.iload_n 2, 1) := by decide +kernel
theorem dX10_levels_14 : decode cX10_levels 14 = .ok (.aload_n 0, 1) := by decide +kernel
theorem dX10_levels_15 : decode cX10_levels 15 = .ok (.getfield 66, 3) := by decide +kernel
theorem dX10_levels_18 : decode cX10_levels 18 = .ok (.invokevirtual 237, 3) := by decide +kernel
theorem dX10_levels_21 : decode cX10_levels 21 = .ok (.aload_n 0, 1) := by decide +kernel
theorem dX10_levels_22 : decode cX10_levels 22 = .ok (.getfield 10, 3) := by decide +kernel
theorem dX10_levels_25 : decode cX10_levels 25 = .ok (.iload_n 1, 1) := by decide +kernel
theorem dX10_levels_26 : decode cX10_levels 26 = .ok (.invokevirtual 247, 3) := by decide +kernel
theorem dX10_levels_29 : decode cX10_levels 29 = .ok (.ireturn, 1) := by decide +kernel
theorem dX10_cost_0 : decode cX10_cost 0 = .ok (.aload_n 0, 1) := by decide +kernel
theorem dX10_cost_1 : decode cX10_cost 1 = .ok (.iload_n 1, 1) := by decide +kernel
theorem dX10_cost_2 : decode cX10_cost 2 = .ok (.invokevirtual 100, 3) := by decide +kernel
theorem dX10_cost_5 : decode cX10_cost 5 = .ok (.iload_n 2, 1) := by decide +kernel
theorem dX10_cost_6 : decode cX10_cost 6 = .ok (.invokestatic 187, 3) := by decide +kernel
theorem dX10_cost_9 : decode cX10_cost 9 = .ok (.aload_n 0, 1) := by decide +kernel
theorem dX10_cost_10 : decode cX10_cost 10 = .ok (.iload_n 1, 1) := by decide +kernel
theorem dX10_cost_11 : decode cX10_cost 11 = .ok (.iload_n 2, 1) := by decide +kernel
theorem dX10_cost_12 : decode cX10_cost 12 = .ok (.aload_n 0, 1) := by decide +kernel
theorem dX10_cost_13 : decode cX10_cost 13 = .ok (.getfield 66, 3) := by decide +kernel
theorem dX10_cost_16 : decode cX10_cost 16 = .ok (.invokevirtual 251, 3) := by decide +kernel
theorem dX10_cost_19 : decode cX10_cost 19 = .ok (.freturn, 1) := by decide +kernel
theorem dX10_costByWalking_0 : decode cX10_costByWalking 0 = .ok (.aload_n 0, 1) := by decide +kernel
theorem dX10_costByWalking_1 : decode cX10_costByWalking 1 = .ok (.iload_n 1, 1) := by decide +kernel
theorem dX10_costByWalking_2 : decode cX10_costByWalking 2 = .ok (.invokevirtual 100, 3) := by decide +kernel
theorem dX10_costByWalking_5 : decode cX10_costByWalking 5 = .ok (.iload_n 2, 1) := by decide +kernel
theorem dX10_costByWalking_6 : decode cX10_costByWalking 6 = .ok (.invokestatic 187, 3) := by decide +kernel
theorem dX10_costByWalking_9 : decode cX10_costByWalking 9 = .ok (.aload_n 0, 1) := by decide +kernel
theorem dX10_costByWalking_10 : decode cX10_costByWalking 10 = .ok (.getfield 10, 3) := by decide +kernel
theorem dX10_costByWalking_13 : decode cX10_costByWalking 13 = .ok (.iload_n 2, 1) := by decide +kernel
theorem dX10_costByWalking_14 : decode cX10_costByWalking 14 = .ok (.aload_n 0, 1) := by decide +kernel
theorem dX10_costByWalking_15 : decode cX10_costByWalking 15 = .ok (.getfield 66, 3) := by decide +kernel
theorem dX10_costByWalking_18 : decode cX10_costByWalking 18 = .ok (.invokevirtual 237, 3) := by decide +kernel
theorem dX10_costByWalking_21 : decode cX10_costByWalking 21 = .ok (.aload_n 0, 1) := by decide +kernel
theorem dX10_costByWalking_22 : decode cX10_costByWalking 22 = .ok (.getfield 10, 3) := by decide +kernel
theorem dX10_costByWalking_25 : decode cX10_costByWalking 25 = .ok (.iload_n 1, 1) := by decide +kernel
theorem dX10_costByWalking_26 : decode cX10_costByWalking 26 = .ok (.iconst 0, 1) := by decide +kernel
theorem dX10_costByWalking_27 : decode cX10_costByWalking 27 = .ok (.invokestatic 255, 3) := by decide +kernel
theorem dX10_costByWalking_30 : decode cX10_costByWalking 30 = .ok (.freturn, 1) := by decide +kernel
theorem dX10_costBits_0 : decode cX10_costBits 0 = .ok (.aload_n 0, 1) := by decide +kernel
theorem dX10_costBits_1 : decode cX10_costBits 1 = .ok (.iload_n 1, 1) := by decide +kernel
theorem dX10_costBits_2 : decode cX10_costBits 2 = .ok (.invokevirtual 100, 3) := by decide +kernel
theorem dX10_costBits_5 : decode cX10_costBits 5 = .ok (.iload_n 2, 1) := by decide +kernel
theorem dX10_costBits_6 : decode cX10_costBits 6 = .ok (.invokestatic 187, 3) := by decide +kernel
theorem dX10_costBits_9 : decode cX10_costBits 9 = .ok (.aload_n 0, 1) := by decide +kernel
theorem dX10_costBits_10 : decode cX10_costBits 10 = .ok (.iload_n 1, 1) := by decide +kernel
theorem dX10_costBits_11 : decode cX10_costBits 11 = .ok (.iload_n 2, 1) := by decide +kernel
theorem dX10_costBits_12 : decode cX10_costBits 12 = .ok (.aload_n 0, 1) := by decide +kernel
theorem dX10_costBits_13 : decode cX10_costBits 13 = .ok (.getfield 66, 3) := by decide +kernel
theorem dX10_costBits_16 : decode cX10_costBits 16 = .ok (.invokevirtual 251, 3) := by decide +kernel
theorem dX10_costBits_19 : decode cX10_costBits 19 = .ok (.invokestatic 259, 3) := by decide +kernel
theorem dX10_costBits_22 : decode cX10_costBits 22 = .ok (.ireturn, 1) := by decide +kernel
theorem dX10_costCents_0 : decode cX10_costCents 0 = .ok (.aload_n 0, 1) := by decide +kernel
theorem dX10_costCents_1 : decode cX10_costCents 1 = .ok (.iload_n 1, 1) := by decide +kernel
theorem dX10_costCents_2 : decode cX10_costCents 2 = .ok (.invokevirtual 100, 3) := by decide +kernel
theorem dX10_costCents_5 : decode cX10_costCents 5 = .ok (.iload_n 2, 1) := by decide +kernel
theorem dX10_costCents_6 : decode cX10_costCents 6 = .ok (.invokestatic 187, 3) := by decide +kernel
theorem dX10_costCents_9 : decode cX10_costCents 9 = .ok (.aload_n 0, 1) := by decide +kernel
theorem dX10_costCents_10 : decode cX10_costCents 10 = .ok (.iload_n 1, 1) := by decide +kernel
theorem dX10_costCents_11 : decode cX10_costCents 11 = .ok (.iload_n 2, 1) := by decide +kernel
theorem dX10_costCents_12 : decode cX10_costCents 12 = .ok (.aload_n 0, 1) := by decide +kernel
theorem dX10_costCents_13 : decode cX10_costCents 13 = .ok (.getfield 66, 3) := by decide +kernel
theorem dX10_costCents_16 : decode cX10_costCents 16 = .ok (.invokevirtual 251, 3) := by decide +kernel
theorem dX10_costCents_19 : decode cX10_costCents 19 = .ok (.ldc_w 265, 3) := by decide +kernel
theorem dX10_costCents_22 : decode cX10_costCents 22 = .ok (.fmul, 1) := by decide +kernel
theorem dX10_costCents_23 : decode cX10_costCents 23 = .ok (.f2i, 1) := by decide +kernel
theorem dX10_costCents_24 : decode cX10_costCents 24 = .ok (.ireturn, 1) := by decide +kernel
theorem dX10_dearest_0 : decode cX10_dearest 0 = .ok (.aload_n 0, 1) := by decide +kernel
theorem dX10_dearest_1 : decode cX10_dearest 1 = .ok (.iload_n 1, 1) := by decide +kernel
theorem dX10_dearest_2 : decode cX10_dearest 2 = .ok (.invokevirtual 100, 3) := by decide +kernel
theorem dX10_dearest_5 : decode cX10_dearest 5 = .ok (.iload_n 2, 1) := by decide +kernel
theorem dX10_dearest_6 : decode cX10_dearest 6 = .ok (.invokestatic 187, 3) := by decide +kernel
theorem dX10_dearest_9 : decode cX10_dearest 9 = .ok (.aload_n 0, 1) := by decide +kernel
theorem dX10_dearest_10 : decode cX10_dearest 10 = .ok (.getfield 10, 3) := by decide +kernel
theorem dX10_dearest_13 : decode cX10_dearest 13 = .ok (.iload_n 2, 1) := by decide +kernel
theorem dX10_dearest_14 : decode cX10_dearest 14 = .ok (.aload_n 0, 1) := by decide +kernel
theorem dX10_dearest_15 : decode cX10_dearest 15 = .ok (.getfield 66, 3) := by decide +kernel
theorem dX10_dearest_18 : decode cX10_dearest 18 = .ok (.invokevirtual 237, 3) := by decide +kernel
theorem dX10_dearest_21 : decode cX10_dearest 21 = .ok (.aload_n 0, 1) := by decide +kernel
theorem dX10_dearest_22 : decode cX10_dearest 22 = .ok (.getfield 33, 3) := by decide +kernel
theorem dX10_dearest_25 : decode cX10_dearest 25 = .ok (.aload_n 0, 1) := by decide +kernel
theorem dX10_dearest_26 : decode cX10_dearest 26 = .ok (.getfield 10, 3) := by decide +kernel
theorem dX10_dearest_29 : decode cX10_dearest 29 = .ok (.invokevirtual 266, 3) := by decide +kernel
theorem dX10_dearest_32 : decode cX10_dearest 32 = .ok (.aload_n 0, 1) := by decide +kernel
theorem dX10_dearest_33 : decode cX10_dearest 33 = .ok (.getfield 33, 3) := by decide +kernel
theorem dX10_dearest_36 : decode cX10_dearest 36 = .ok (.aload_n 0, 1) := by decide +kernel
theorem dX10_dearest_37 : decode cX10_dearest 37 = .ok (.getfield 10, 3) := by decide +kernel
theorem dX10_dearest_40 : decode cX10_dearest 40 = .ok (.iload_n 1, 1) := by decide +kernel
theorem dX10_dearest_41 : decode cX10_dearest 41 = .ok (.invokevirtual 270, 3) := by decide +kernel
theorem dX10_dearest_44 : decode cX10_dearest 44 = .ok (.istore_n 3, 1) := by decide +kernel
theorem dX10_dearest_45 : decode cX10_dearest 45 = .ok (.iload_n 3, 1) := by decide +kernel
theorem dX10_dearest_46 : decode cX10_dearest 46 = .ok (.iconst (-1), 1) := by decide +kernel
theorem dX10_dearest_47 : decode cX10_dearest 47 = .ok (.if_icmp .ne 14, 3) := by decide +kernel
theorem dX10_dearest_50 : decode cX10_dearest 50 = .ok (.new 274, 3) := by decide +kernel
theorem dX10_dearest_53 : decode cX10_dearest 53 = .ok (.dup, 1) := by decide +kernel
theorem dX10_dearest_54 : decode cX10_dearest 54 = .ok (.ldc_w 276, 3) := by decide +kernel
theorem dX10_dearest_57 : decode cX10_dearest 57 = .ok (.invokespecial 278, 3) := by decide +kernel
theorem dX10_dearest_60 : decode cX10_dearest 60 = .ok (.athrow, 1) := by decide +kernel
theorem dX10_dearest_61 : decode cX10_dearest 61 = .ok (.iload_n 3, 1) := by decide +kernel
theorem dX10_dearest_62 : decode cX10_dearest 62 = .ok (.ireturn, 1) := by decide +kernel
theorem dX10_weight_0 : decode cX10_weight 0 = .ok (.aload_n 0, 1) := by decide +kernel
theorem dX10_weight_1 : decode cX10_weight 1 = .ok (.iload_n 1, 1) := by decide +kernel
theorem dX10_weight_2 : decode cX10_weight 2 = .ok (.invokevirtual 100, 3) := by decide +kernel
theorem dX10_weight_5 : decode cX10_weight 5 = .ok (.iload_n 2, 1) := by decide +kernel
theorem dX10_weight_6 : decode cX10_weight 6 = .ok (.invokestatic 187, 3) := by decide +kernel
theorem dX10_weight_9 : decode cX10_weight 9 = .ok (.aload_n 0, 1) := by decide +kernel
theorem dX10_weight_10 : decode cX10_weight 10 = .ok (.iload_n 1, 1) := by decide +kernel
theorem dX10_weight_11 : decode cX10_weight 11 = .ok (.iload_n 2, 1) := by decide +kernel
theorem dX10_weight_12 : decode cX10_weight 12 = .ok (.invokevirtual 279, 3) := by decide +kernel
theorem dX10_weight_15 : decode cX10_weight 15 = .ok (.dreturn, 1) := by decide +kernel
theorem dX10_weightBits_0 : decode cX10_weightBits 0 = .ok (.aload_n 0, 1) := by decide +kernel
theorem dX10_weightBits_1 : decode cX10_weightBits 1 = .ok (.iload_n 1, 1) := by decide +kernel
theorem dX10_weightBits_2 : decode cX10_weightBits 2 = .ok (.invokevirtual 100, 3) := by decide +kernel
theorem dX10_weightBits_5 : decode cX10_weightBits 5 = .ok (.iload_n 2, 1) := by decide +kernel
theorem dX10_weightBits_6 : decode cX10_weightBits 6 = .ok (.invokestatic 187, 3) := by decide +kernel
theorem dX10_weightBits_9 : decode cX10_weightBits 9 = .ok (.aload_n 0, 1) := by decide +kernel
theorem dX10_weightBits_10 : decode cX10_weightBits 10 = .ok (.iload_n 1, 1) := by decide +kernel
theorem dX10_weightBits_11 : decode cX10_weightBits 11 = .ok (.iload_n 2, 1) := by decide +kernel
theorem dX10_weightBits_12 : decode cX10_weightBits 12 = .ok (.invokevirtual 279, 3) := by decide +kernel
theorem dX10_weightBits_15 : decode cX10_weightBits 15 = .ok (.invokestatic 283, 3) := by decide +kernel
theorem dX10_weightBits_18 : decode cX10_weightBits 18 = .ok (.lreturn, 1) := by decide +kernel
theorem dX10_markCosts_0 : decode cX10_markCosts 0 = .ok (.iload_n 1, 1) := by decide +kernel
theorem dX10_markCosts_1 : decode cX10_markCosts 1 = .ok (.invokestatic 187, 3) := by decide +kernel
theorem dX10_markCosts_4 : decode cX10_markCosts 4 = .ok (.aload_n 0, 1) := by decide +kernel
theorem dX10_markCosts_5 : decode cX10_markCosts 5 = .ok (.getfield 10, 3) := by decide +kernel
theorem dX10_markCosts_8 : decode cX10_markCosts 8 = .ok (.iload_n 1, 1) := by decide +kernel
theorem dX10_markCosts_9 : decode cX10_markCosts 9 = .ok (.aload_n 0, 1) := by decide +kernel
theorem dX10_markCosts_10 : decode cX10_markCosts 10 = .ok (.getfield 66, 3) := by decide +kernel
theorem dX10_markCosts_13 : decode cX10_markCosts 13 = .ok (.invokevirtual 237, 3) := by decide +kernel
theorem dX10_markCosts_16 : decode cX10_markCosts 16 = .ok (.aload_n 0, 1) := by decide +kernel
theorem dX10_markCosts_17 : decode cX10_markCosts 17 = .ok (.getfield 33, 3) := by decide +kernel
theorem dX10_markCosts_20 : decode cX10_markCosts 20 = .ok (.aload_n 0, 1) := by decide +kernel
theorem dX10_markCosts_21 : decode cX10_markCosts 21 = .ok (.getfield 10, 3) := by decide +kernel
theorem dX10_markCosts_24 : decode cX10_markCosts 24 = .ok (.invokevirtual 266, 3) := by decide +kernel
theorem dX10_markCosts_27 : decode cX10_markCosts 27 = .ok (.aload_n 0, 1) := by decide +kernel
theorem dX10_markCosts_28 : decode cX10_markCosts 28 = .ok (.aload_n 0, 1) := by decide +kernel
theorem dX10_markCosts_29 : decode cX10_markCosts 29 = .ok (.getfield 10, 3) := by decide +kernel
theorem dX10_markCosts_32 : decode cX10_markCosts 32 = .ok (.getfield 80, 3) := by decide +kernel
theorem dX10_markCosts_35 : decode cX10_markCosts 35 = .ok (.getfield 84, 3) := by decide +kernel
theorem dX10_markCosts_38 : decode cX10_markCosts 38 = .ok (.putfield 62, 3) := by decide +kernel
theorem dX10_markCosts_41 : decode cX10_markCosts 41 = .ok (.iconst 0, 1) := by decide +kernel
theorem dX10_markCosts_42 : decode cX10_markCosts 42 = .ok (.istore_n 2, 1) := by decide +kernel
theorem dX10_markCosts_43 : decode cX10_markCosts 43 = .ok (.iload_n 2, 1) := by decide +kernel
theorem dX10_markCosts_44 : decode cX10_markCosts 44 = .ok (.aload_n 0, 1) := by decide +kernel
theorem dX10_markCosts_45 : decode cX10_markCosts 45 = .ok (.getfield 62, 3) := by decide +kernel
theorem dX10_markCosts_48 : decode cX10_markCosts 48 = .ok (.if_icmp .ge 24, 3) := by decide +kernel
theorem dX10_markCosts_51 : decode cX10_markCosts 51 = .ok (.aload_n 0, 1) := by decide +kernel
theorem dX10_markCosts_52 : decode cX10_markCosts 52 = .ok (.getfield 58, 3) := by decide +kernel
theorem dX10_markCosts_55 : decode cX10_markCosts 55 = .ok (.iload_n 2, 1) := by decide +kernel
theorem dX10_markCosts_56 : decode cX10_markCosts 56 = .ok (.aload_n 0, 1) := by decide +kernel
theorem dX10_markCosts_57 : decode cX10_markCosts 57 = .ok (.getfield 33, 3) := by decide +kernel
theorem dX10_markCosts_60 : decode cX10_markCosts 60 = .ok (.getfield 287, 3) := by decide +kernel
theorem dX10_markCosts_63 : decode cX10_markCosts 63 = .ok (.iload_n 2, 1) := by decide +kernel
theorem dX10_markCosts_64 : decode cX10_markCosts 64 = .ok (.faload, 1) := by decide +kernel
theorem dX10_markCosts_65 : decode cX10_markCosts 65 = .ok (.fastore, 1) := by decide +kernel
theorem dX10_markCosts_66 : decode cX10_markCosts 66 = .ok (.iinc 2 1, 3) := by decide +kernel
theorem dX10_markCosts_69 : decode cX10_markCosts 69 = .ok (.goto (-26), 3) := by decide +kernel
theorem dX10_markCosts_72 : decode cX10_markCosts 72 = .ok (.aload_n 0, 1) := by decide +kernel
theorem dX10_markCosts_73 : decode cX10_markCosts 73 = .ok (.getfield 62, 3) := by decide +kernel
theorem dX10_markCosts_76 : decode cX10_markCosts 76 = .ok (.ireturn, 1) := by decide +kernel
theorem dX10_costChange_0 : decode cX10_costChange 0 = .ok (.aload_n 0, 1) := by decide +kernel
theorem dX10_costChange_1 : decode cX10_costChange 1 = .ok (.iload_n 1, 1) := by decide +kernel
theorem dX10_costChange_2 : decode cX10_costChange 2 = .ok (.invokevirtual 100, 3) := by decide +kernel
theorem dX10_costChange_5 : decode cX10_costChange 5 = .ok (.iload_n 2, 1) := by decide +kernel
theorem dX10_costChange_6 : decode cX10_costChange 6 = .ok (.invokestatic 187, 3) := by decide +kernel
theorem dX10_costChange_9 : decode cX10_costChange 9 = .ok (.iload_n 1, 1) := by decide +kernel
theorem dX10_costChange_10 : decode cX10_costChange 10 = .ok (.aload_n 0, 1) := by decide +kernel
theorem dX10_costChange_11 : decode cX10_costChange 11 = .ok (.getfield 62, 3) := by decide +kernel
theorem dX10_costChange_14 : decode cX10_costChange 14 = .ok (.if_icmp .lt 14, 3) := by decide +kernel
theorem dX10_costChange_17 : decode cX10_costChange 17 = .ok (.new 274, 3) := by decide +kernel
theorem dX10_costChange_20 : decode cX10_costChange 20 = .ok (.dup, 1) := by decide +kernel
theorem dX10_costChange_21 : decode cX10_costChange 21 = .ok (.ldc_w 290, 3) := by decide +kernel
theorem dX10_costChange_24 : decode cX10_costChange 24 = .ok (.invokespecial 278, 3) := by decide +kernel
theorem dX10_costChange_27 : decode cX10_costChange 27 = .ok (.athrow, 1) := by decide +kernel
theorem dX10_costChange_28 : decode cX10_costChange 28 = .ok (.aload_n 0, 1) := by decide +kernel
theorem dX10_costChange_29 : decode cX10_costChange 29 = .ok (.iload_n 1, 1) := by decide +kernel
theorem dX10_costChange_30 : decode cX10_costChange 30 = .ok (.iload_n 2, 1) := by decide +kernel
theorem dX10_costChange_31 : decode cX10_costChange 31 = .ok (.aload_n 0, 1) := by decide +kernel
theorem dX10_costChange_32 : decode cX10_costChange 32 = .ok (.getfield 66, 3) := by decide +kernel
theorem dX10_costChange_35 : decode cX10_costChange 35 = .ok (.invokevirtual 251, 3) := by decide +kernel
theorem dX10_costChange_38 : decode cX10_costChange 38 = .ok (.aload_n 0, 1) := by decide +kernel
theorem dX10_costChange_39 : decode cX10_costChange 39 = .ok (.getfield 58, 3) := by decide +kernel
theorem dX10_costChange_42 : decode cX10_costChange 42 = .ok (.iload_n 1, 1) := by decide +kernel
theorem dX10_costChange_43 : decode cX10_costChange 43 = .ok (.faload, 1) := by decide +kernel
theorem dX10_costChange_44 : decode cX10_costChange 44 = .ok (.fsub, 1) := by decide +kernel
theorem dX10_costChange_45 : decode cX10_costChange 45 = .ok (.freturn, 1) := by decide +kernel
theorem dX10_order_0 : decode cX10_order 0 = .ok (.aload_n 0, 1) := by decide +kernel
theorem dX10_order_1 : decode cX10_order 1 = .ok (.iload_n 1, 1) := by decide +kernel
theorem dX10_order_2 : decode cX10_order 2 = .ok (.invokevirtual 100, 3) := by decide +kernel
theorem dX10_order_5 : decode cX10_order 5 = .ok (.iload_n 2, 1) := by decide +kernel
theorem dX10_order_6 : decode cX10_order 6 = .ok (.invokestatic 187, 3) := by decide +kernel
theorem dX10_order_9 : decode cX10_order 9 = .ok (.iload_n 3, 1) := by decide +kernel
theorem dX10_order_10 : decode cX10_order 10 = .ok (.iconst 1, 1) := by decide +kernel
theorem dX10_order_11 : decode cX10_order 11 = .ok (.sipush 999, 3) := by decide +kernel
theorem dX10_order_14 : decode cX10_order 14 = .ok (.invokestatic 177, 3) := by decide +kernel
theorem dX10_order_17 : decode cX10_order 17 = .ok (.ifCond .ne 14, 3) := by decide +kernel
theorem dX10_order_20 : decode cX10_order 20 = .ok (.new 181, 3) := by decide +kernel
theorem dX10_order_23 : decode cX10_order 23 = .ok (.dup, 1) := by decide +kernel
theorem dX10_order_24 : decode cX10_order 24 = .ok (.ldc_w 292, 3) := by decide +kernel
theorem dX10_order_27 : decode cX10_order 27 = .ok (.invokespecial 185, 3) := by decide +kernel
theorem dX10_order_30 : decode cX10_order 30 = .ok (.athrow, 1) := by decide +kernel
theorem dX10_order_31 : decode cX10_order 31 = .ok (.aload_n 0, 1) := by decide +kernel
theorem dX10_order_32 : decode cX10_order 32 = .ok (.getfield 19, 3) := by decide +kernel
theorem dX10_order_35 : decode cX10_order 35 = .ok (.getfield 294, 3) := by decide +kernel
theorem dX10_order_38 : decode cX10_order 38 = .ok (.bipush 8, 2) := by decide +kernel
theorem dX10_order_40 : decode cX10_order 40 = .ok (.if_icmp .lt 14, 3) := by decide +kernel
theorem dX10_order_43 : decode cX10_order 43 = .ok (.new 89, 3) := by decide +kernel
theorem dX10_order_46 : decode cX10_order 46 = .ok (.dup, 1) := by decide +kernel
theorem dX10_order_47 : decode cX10_order 47 = .ok (.ldc_w 295, 3) := by decide +kernel
theorem dX10_order_50 : decode cX10_order 50 = .ok (.invokespecial 93, 3) := by decide +kernel
theorem dX10_order_53 : decode cX10_order 53 = .ok (.athrow, 1) := by decide +kernel
theorem dX10_order_54 : decode cX10_order 54 = .ok (.aload_n 0, 1) := by decide +kernel
theorem dX10_order_55 : decode cX10_order 55 = .ok (.getfield 19, 3) := by decide +kernel
theorem dX10_order_58 : decode cX10_order 58 = .ok (.iload_n 1, 1) := by decide +kernel
theorem dX10_order_59 : decode cX10_order 59 = .ok (.iload_n 2, 1) := by decide +kernel
theorem dX10_order_60 : decode cX10_order 60 = .ok (.iload_n 3, 1) := by decide +kernel
theorem dX10_order_61 : decode cX10_order 61 = .ok (.aload_n 0, 1) := by decide +kernel
theorem dX10_order_62 : decode cX10_order 62 = .ok (.getfield 66, 3) := by decide +kernel
theorem dX10_order_65 : decode cX10_order 65 = .ok (.invokevirtual 297, 3) := by decide +kernel
theorem dX10_order_68 : decode cX10_order 68 = .ok (.ireturn, 1) := by decide +kernel
theorem dX10_cancel_0 : decode cX10_cancel 0 = .ok (.aload_n 0, 1) := by decide +kernel
theorem dX10_cancel_1 : decode cX10_cancel 1 = .ok (.iload_n 1, 1) := by decide +kernel
theorem dX10_cancel_2 : decode cX10_cancel 2 = .ok (.invokevirtual 298, 3) := by decide +kernel
theorem dX10_cancel_5 : decode cX10_cancel 5 = .ok (.aload_n 0, 1) := by decide +kernel
theorem dX10_cancel_6 : decode cX10_cancel 6 = .ok (.getfield 19, 3) := by decide +kernel
theorem dX10_cancel_9 : decode cX10_cancel 9 = .ok (.getfield 301, 3) := by decide +kernel
theorem dX10_cancel_12 : decode cX10_cancel 12 = .ok (.iload_n 1, 1) := by decide +kernel
theorem dX10_cancel_13 : decode cX10_cancel 13 = .ok (.baload, 1) := by decide +kernel
theorem dX10_cancel_14 : decode cX10_cancel 14 = .ok (.ifCond .eq 14, 3) := by decide +kernel
theorem dX10_cancel_17 : decode cX10_cancel 17 = .ok (.new 89, 3) := by decide +kernel
theorem dX10_cancel_20 : decode cX10_cancel 20 = .ok (.dup, 1) := by decide +kernel
theorem dX10_cancel_21 : decode cX10_cancel 21 = .ok (.ldc_w 305, 3) := by decide +kernel
theorem dX10_cancel_24 : decode cX10_cancel 24 = .ok (.invokespecial 93, 3) := by decide +kernel
theorem dX10_cancel_27 : decode cX10_cancel 27 = .ok (.athrow, 1) := by decide +kernel
theorem dX10_cancel_28 : decode cX10_cancel 28 = .ok (.aload_n 0, 1) := by decide +kernel
theorem dX10_cancel_29 : decode cX10_cancel 29 = .ok (.getfield 19, 3) := by decide +kernel
theorem dX10_cancel_32 : decode cX10_cancel 32 = .ok (.getfield 301, 3) := by decide +kernel
theorem dX10_cancel_35 : decode cX10_cancel 35 = .ok (.iload_n 1, 1) := by decide +kernel
theorem dX10_cancel_36 : decode cX10_cancel 36 = .ok (.iconst 1, 1) := by decide +kernel
theorem dX10_cancel_37 : decode cX10_cancel 37 = .ok (.bastore, 1) := by decide +kernel
theorem dX10_cancel_38 : decode cX10_cancel 38 = .ok (.aload_n 0, 1) := by decide +kernel
theorem dX10_cancel_39 : decode cX10_cancel 39 = .ok (.getfield 19, 3) := by decide +kernel
theorem dX10_cancel_42 : decode cX10_cancel 42 = .ok (.invokevirtual 307, 3) := by decide +kernel
theorem dX10_cancel_45 : decode cX10_cancel 45 = .ok (.ireturn, 1) := by decide +kernel
theorem dX10_need_0 : decode cX10_need 0 = .ok (.aload_n 0, 1) := by decide +kernel
theorem dX10_need_1 : decode cX10_need 1 = .ok (.iload_n 1, 1) := by decide +kernel
theorem dX10_need_2 : decode cX10_need 2 = .ok (.invokevirtual 100, 3) := by decide +kernel
theorem dX10_need_5 : decode cX10_need 5 = .ok (.lconst 0, 1) := by decide +kernel
theorem dX10_need_6 : decode cX10_need 6 = .ok (.lstore_n 2, 1) := by decide +kernel
theorem dX10_need_7 : decode cX10_need 7 = .ok (.iconst 0, 1) := by decide +kernel
theorem dX10_need_8 : decode cX10_need 8 = .ok (.istore 4, 2) := by decide +kernel
theorem dX10_need_10 : decode cX10_need 10 = .ok (.iload 4, 2) := by decide +kernel
theorem dX10_need_12 : decode cX10_need 12 = .ok (.aload_n 0, 1) := by decide +kernel
theorem dX10_need_13 : decode cX10_need 13 = .ok (.getfield 19, 3) := by decide +kernel
theorem dX10_need_16 : decode cX10_need 16 = .ok (.getfield 294, 3) := by decide +kernel
theorem dX10_need_19 : decode cX10_need 19 = .ok (.if_icmp .ge 86, 3) := by decide +kernel
theorem dX10_need_22 : decode cX10_need 22 = .ok (.aload_n 0, 1) := by decide +kernel
theorem dX10_need_23 : decode cX10_need 23 = .ok (.getfield 19, 3) := by decide +kernel
theorem dX10_need_26 : decode cX10_need 26 = .ok (.getfield 301, 3) := by decide +kernel
theorem dX10_need_29 : decode cX10_need 29 = .ok (.iload 4, 2) := by decide +kernel
theorem dX10_need_31 : decode cX10_need 31 = .ok (.baload, 1) := by decide +kernel
theorem dX10_need_32 : decode cX10_need 32 = .ok (.ifCond .ne 67, 3) := by decide +kernel
theorem dX10_need_35 : decode cX10_need 35 = .ok (.aload_n 0, 1) := by decide +kernel
theorem dX10_need_36 : decode cX10_need 36 = .ok (.getfield 10, 3) := by decide +kernel
theorem dX10_need_39 : decode cX10_need 39 = .ok (.aload_n 0, 1) := by decide +kernel
theorem dX10_need_40 : decode cX10_need 40 = .ok (.getfield 19, 3) := by decide +kernel
theorem dX10_need_43 : decode cX10_need 43 = .ok (.getfield 314, 3) := by decide +kernel
theorem dX10_need_46 : decode cX10_need 46 = .ok (.iload 4, 2) := by decide +kernel
theorem dX10_need_48 : decode cX10_need 48 = .ok (.iaload, 1) := by decide +kernel
theorem dX10_need_49 : decode cX10_need 49 = .ok (.aload_n 0, 1) := by decide +kernel
theorem dX10_need_50 : decode cX10_need 50 = .ok (.getfield 19, 3) := by decide +kernel
theorem dX10_need_53 : decode cX10_need 53 = .ok (.getfield 317, 3) := by decide +kernel
theorem dX10_need_56 : decode cX10_need 56 = .ok (.iload 4, 2) := by decide +kernel
theorem dX10_need_58 : decode cX10_need 58 = .ok (.iaload, 1) := by decide +kernel
theorem dX10_need_59 : decode cX10_need 59 = .ok (.invokevirtual 237, 3) := by decide +kernel
theorem dX10_need_62 : decode cX10_need 62 = .ok (.lload_n 2, 1) := by decide +kernel
theorem dX10_need_63 : decode cX10_need 63 = .ok (.aload_n 0, 1) := by decide +kernel
theorem dX10_need_64 : decode cX10_need 64 = .ok (.getfield 19, 3) := by decide +kernel
theorem dX10_need_67 : decode cX10_need 67 = .ok (.getfield 320, 3) := by decide +kernel
theorem dX10_need_70 : decode cX10_need 70 = .ok (.iload 4, 2) := by decide +kernel
theorem dX10_need_72 : decode cX10_need 72 = .ok (.iaload, 1) := by decide +kernel
theorem dX10_need_73 : decode cX10_need 73 = .ok (.i2l, 1) := by decide +kernel
theorem dX10_need_74 : decode cX10_need 74 = .ok (.aload_n 0, 1) := by decide +kernel
theorem dX10_need_75 : decode cX10_need 75 = .ok (.getfield 26, 3) := by decide +kernel
theorem dX10_need_78 : decode cX10_need 78 = .ok (.aload_n 0, 1) := by decide +kernel
theorem dX10_need_79 : decode cX10_need 79 = .ok (.getfield 10, 3) := by decide +kernel
theorem dX10_need_82 : decode cX10_need 82 = .ok (.aload_n 0, 1) := by decide +kernel
theorem dX10_need_83 : decode cX10_need 83 = .ok (.getfield 19, 3) := by decide +kernel
theorem dX10_need_86 : decode cX10_need 86 = .ok (.getfield 311, 3) := by decide +kernel
theorem dX10_need_89 : decode cX10_need 89 = .ok (.iload 4, 2) := by decide +kernel
theorem dX10_need_91 : decode cX10_need 91 = .ok (.iaload, 1) := by decide +kernel
theorem dX10_need_92 : decode cX10_need 92 = .ok (.iload_n 1, 1) := by decide +kernel
theorem dX10_need_93 : decode cX10_need 93 = .ok (.invokevirtual 240, 3) := by decide +kernel
theorem dX10_need_96 : decode cX10_need 96 = .ok (.lmul, 1) := by decide +kernel
theorem dX10_need_97 : decode cX10_need 97 = .ok (.ladd, 1) := by decide +kernel
theorem dX10_need_98 : decode cX10_need 98 = .ok (.lstore_n 2, 1) := by decide +kernel
theorem dX10_need_99 : decode cX10_need 99 = .ok (.iinc 4 1, 3) := by decide +kernel
theorem dX10_need_102 : decode cX10_need 102 = .ok (.goto (-92), 3) := by decide +kernel
theorem dX10_need_105 : decode cX10_need 105 = .ok (.lload_n 2, 1) := by decide +kernel
theorem dX10_need_106 : decode cX10_need 106 = .ok (.lreturn, 1) := by decide +kernel
theorem dX10_isConsistent_0 : decode cX10_isConsistent 0 = .ok (.aload_n 0, 1) := by decide +kernel
theorem dX10_isConsistent_1 : decode cX10_isConsistent 1 = .ok (.getfield 10, 3) := by decide +kernel
theorem dX10_isConsistent_4 : decode cX10_isConsistent 4 = .ok (.getfield 80, 3) := by decide +kernel
theorem dX10_isConsistent_7 : decode cX10_isConsistent 7 = .ok (.invokevirtual 323, 3) := by decide +kernel
theorem dX10_isConsistent_10 : decode cX10_isConsistent 10 = .ok (.ifCond .eq 114, 3) := by decide +kernel
theorem dX10_isConsistent_13 : decode cX10_isConsistent 13 = .ok (.aload_n 0, 1) := by decide +kernel
theorem dX10_isConsistent_14 : decode cX10_isConsistent 14 = .ok (.getfield 10, 3) := by decide +kernel
theorem dX10_isConsistent_17 : decode cX10_isConsistent 17 = .ok (.getfield 137, 3) := by decide +kernel
theorem dX10_isConsistent_20 : decode cX10_isConsistent 20 = .ok (.aload_n 0, 1) := by decide +kernel
theorem dX10_isConsistent_21 : decode cX10_isConsistent 21 = .ok (.getfield 10, 3) := by decide +kernel
theorem dX10_isConsistent_24 : decode cX10_isConsistent 24 = .ok (.getfield 80, 3) := by decide +kernel
theorem dX10_isConsistent_27 : decode cX10_isConsistent 27 = .ok (.getfield 84, 3) := by decide +kernel
theorem dX10_isConsistent_30 : decode cX10_isConsistent 30 = .ok (.invokevirtual 327, 3) := by decide +kernel
theorem dX10_isConsistent_33 : decode cX10_isConsistent 33 = .ok (.ifCond .eq 91, 3) := by decide +kernel
theorem dX10_isConsistent_36 : decode cX10_isConsistent 36 = .ok (.aload_n 0, 1) := by decide +kernel
theorem dX10_isConsistent_37 : decode cX10_isConsistent 37 = .ok (.getfield 10, 3) := by decide +kernel
theorem dX10_isConsistent_40 : decode cX10_isConsistent 40 = .ok (.getfield 137, 3) := by decide +kernel
theorem dX10_isConsistent_43 : decode cX10_isConsistent 43 = .ok (.invokevirtual 330, 3) := by decide +kernel
theorem dX10_isConsistent_46 : decode cX10_isConsistent 46 = .ok (.ifCond .eq 78, 3) := by decide +kernel
theorem dX10_isConsistent_49 : decode cX10_isConsistent 49 = .ok (.aload_n 0, 1) := by decide +kernel
theorem dX10_isConsistent_50 : decode cX10_isConsistent 50 = .ok (.getfield 10, 3) := by decide +kernel
theorem dX10_isConsistent_53 : decode cX10_isConsistent 53 = .ok (.invokevirtual 333, 3) := by decide +kernel
theorem dX10_isConsistent_56 : decode cX10_isConsistent 56 = .ok (.ifCond .eq 68, 3) := by decide +kernel
theorem dX10_isConsistent_59 : decode cX10_isConsistent 59 = .ok (.aload_n 0, 1) := by decide +kernel
theorem dX10_isConsistent_60 : decode cX10_isConsistent 60 = .ok (.getfield 10, 3) := by decide +kernel
theorem dX10_isConsistent_63 : decode cX10_isConsistent 63 = .ok (.invokevirtual 336, 3) := by decide +kernel
theorem dX10_isConsistent_66 : decode cX10_isConsistent 66 = .ok (.ifCond .eq 58, 3) := by decide +kernel
theorem dX10_isConsistent_69 : decode cX10_isConsistent 69 = .ok (.aload_n 0, 1) := by decide +kernel
theorem dX10_isConsistent_70 : decode cX10_isConsistent 70 = .ok (.getfield 19, 3) := by decide +kernel
theorem dX10_isConsistent_73 : decode cX10_isConsistent 73 = .ok (.aload_n 0, 1) := by decide +kernel
theorem dX10_isConsistent_74 : decode cX10_isConsistent 74 = .ok (.getfield 10, 3) := by decide +kernel
theorem dX10_isConsistent_77 : decode cX10_isConsistent 77 = .ok (.getfield 80, 3) := by decide +kernel
theorem dX10_isConsistent_80 : decode cX10_isConsistent 80 = .ok (.getfield 84, 3) := by decide +kernel
theorem dX10_isConsistent_83 : decode cX10_isConsistent 83 = .ok (.invokevirtual 339, 3) := by decide +kernel
theorem dX10_isConsistent_86 : decode cX10_isConsistent 86 = .ok (.ifCond .eq 38, 3) := by decide +kernel
theorem dX10_isConsistent_89 : decode cX10_isConsistent 89 = .ok (.aload_n 0, 1) := by decide +kernel
theorem dX10_isConsistent_90 : decode cX10_isConsistent 90 = .ok (.getfield 66, 3) := by decide +kernel
theorem dX10_isConsistent_93 : decode cX10_isConsistent 93 = .ok (.invokestatic 340, 3) := by decide +kernel
theorem dX10_isConsistent_96 : decode cX10_isConsistent 96 = .ok (.ifCond .eq 28, 3) := by decide +kernel
theorem dX10_isConsistent_99 : decode cX10_isConsistent 99 = .ok (.aload_n 0, 1) := by decide +kernel
theorem dX10_isConsistent_100 : decode cX10_isConsistent 100 = .ok (.getfield 62, 3) := by decide +kernel
theorem dX10_isConsistent_103 : decode cX10_isConsistent 103 = .ok (.iconst 0, 1) := by decide +kernel
theorem dX10_isConsistent_104 : decode cX10_isConsistent 104 = .ok (.aload_n 0, 1) := by decide +kernel
theorem dX10_isConsistent_105 : decode cX10_isConsistent 105 = .ok (.getfield 10, 3) := by decide +kernel
theorem dX10_isConsistent_108 : decode cX10_isConsistent 108 = .ok (.getfield 80, 3) := by decide +kernel
theorem dX10_isConsistent_111 : decode cX10_isConsistent 111 = .ok (.getfield 84, 3) := by decide +kernel
theorem dX10_isConsistent_114 : decode cX10_isConsistent 114 = .ok (.invokestatic 177, 3) := by decide +kernel
theorem dX10_isConsistent_117 : decode cX10_isConsistent 117 = .ok (.ifCond .eq 7, 3) := by decide +kernel
theorem dX10_isConsistent_120 : decode cX10_isConsistent 120 = .ok (.iconst 1, 1) := by decide +kernel
theorem dX10_isConsistent_121 : decode cX10_isConsistent 121 = .ok (.goto 4, 3) := by decide +kernel
theorem dX10_isConsistent_124 : decode cX10_isConsistent 124 = .ok (.iconst 0, 1) := by decide +kernel
theorem dX10_isConsistent_125 : decode cX10_isConsistent 125 = .ok (.ireturn, 1) := by decide +kernel
theorem dX10_checkPart_0 : decode cX10_checkPart 0 = .ok (.iload_n 1, 1) := by decide +kernel
theorem dX10_checkPart_1 : decode cX10_checkPart 1 = .ok (.ifCond .lt 17, 3) := by decide +kernel
theorem dX10_checkPart_4 : decode cX10_checkPart 4 = .ok (.iload_n 1, 1) := by decide +kernel
theorem dX10_checkPart_5 : decode cX10_checkPart 5 = .ok (.aload_n 0, 1) := by decide +kernel
theorem dX10_checkPart_6 : decode cX10_checkPart 6 = .ok (.getfield 10, 3) := by decide +kernel
theorem dX10_checkPart_9 : decode cX10_checkPart 9 = .ok (.getfield 80, 3) := by decide +kernel
theorem dX10_checkPart_12 : decode cX10_checkPart 12 = .ok (.getfield 84, 3) := by decide +kernel
theorem dX10_checkPart_15 : decode cX10_checkPart 15 = .ok (.if_icmp .lt 14, 3) := by decide +kernel
theorem dX10_checkPart_18 : decode cX10_checkPart 18 = .ok (.new 229, 3) := by decide +kernel
theorem dX10_checkPart_21 : decode cX10_checkPart 21 = .ok (.dup, 1) := by decide +kernel
theorem dX10_checkPart_22 : decode cX10_checkPart 22 = .ok (.ldc_w 343, 3) := by decide +kernel
theorem dX10_checkPart_25 : decode cX10_checkPart 25 = .ok (.invokespecial 233, 3) := by decide +kernel
theorem dX10_checkPart_28 : decode cX10_checkPart 28 = .ok (.athrow, 1) := by decide +kernel
theorem dX10_checkPart_29 : decode cX10_checkPart 29 = .ok (.return_, 1) := by decide +kernel
theorem dX10_checkLine_0 : decode cX10_checkLine 0 = .ok (.iload_n 1, 1) := by decide +kernel
theorem dX10_checkLine_1 : decode cX10_checkLine 1 = .ok (.ifCond .lt 17, 3) := by decide +kernel
theorem dX10_checkLine_4 : decode cX10_checkLine 4 = .ok (.iload_n 1, 1) := by decide +kernel
theorem dX10_checkLine_5 : decode cX10_checkLine 5 = .ok (.aload_n 0, 1) := by decide +kernel
theorem dX10_checkLine_6 : decode cX10_checkLine 6 = .ok (.getfield 10, 3) := by decide +kernel
theorem dX10_checkLine_9 : decode cX10_checkLine 9 = .ok (.getfield 137, 3) := by decide +kernel
theorem dX10_checkLine_12 : decode cX10_checkLine 12 = .ok (.getfield 186, 3) := by decide +kernel
theorem dX10_checkLine_15 : decode cX10_checkLine 15 = .ok (.if_icmp .lt 14, 3) := by decide +kernel
theorem dX10_checkLine_18 : decode cX10_checkLine 18 = .ok (.new 229, 3) := by decide +kernel
theorem dX10_checkLine_21 : decode cX10_checkLine 21 = .ok (.dup, 1) := by decide +kernel
theorem dX10_checkLine_22 : decode cX10_checkLine 22 = .ok (.ldc_w 345, 3) := by decide +kernel
theorem dX10_checkLine_25 : decode cX10_checkLine 25 = .ok (.invokespecial 233, 3) := by decide +kernel
theorem dX10_checkLine_28 : decode cX10_checkLine 28 = .ok (.athrow, 1) := by decide +kernel
theorem dX10_checkLine_29 : decode cX10_checkLine 29 = .ok (.return_, 1) := by decide +kernel
theorem dX10_checkOrder_0 : decode cX10_checkOrder 0 = .ok (.iload_n 1, 1) := by decide +kernel
theorem dX10_checkOrder_1 : decode cX10_checkOrder 1 = .ok (.ifCond .lt 14, 3) := by decide +kernel
theorem dX10_checkOrder_4 : decode cX10_checkOrder 4 = .ok (.iload_n 1, 1) := by decide +kernel
theorem dX10_checkOrder_5 : decode cX10_checkOrder 5 = .ok (.aload_n 0, 1) := by decide +kernel
theorem dX10_checkOrder_6 : decode cX10_checkOrder 6 = .ok (.getfield 19, 3) := by decide +kernel
theorem dX10_checkOrder_9 : decode cX10_checkOrder 9 = .ok (.getfield 294, 3) := by decide +kernel
theorem dX10_checkOrder_12 : decode cX10_checkOrder 12 = .ok (.if_icmp .lt 14, 3) := by decide +kernel
theorem dX10_checkOrder_15 : decode cX10_checkOrder 15 = .ok (.new 229, 3) := by decide +kernel
theorem dX10_checkOrder_18 : decode cX10_checkOrder 18 = .ok (.dup, 1) := by decide +kernel
theorem dX10_checkOrder_19 : decode cX10_checkOrder 19 = .ok (.ldc_w 347, 3) := by decide +kernel
theorem dX10_checkOrder_22 : decode cX10_checkOrder 22 = .ok (.invokespecial 233, 3) := by decide +kernel
theorem dX10_checkOrder_25 : decode cX10_checkOrder 25 = .ok (.athrow, 1) := by decide +kernel
theorem dX10_checkOrder_26 : decode cX10_checkOrder 26 = .ok (.return_, 1) := by decide +kernel
theorem dX10_checkEntry_0 : decode cX10_checkEntry 0 = .ok (.iload_n 1, 1) := by decide +kernel
theorem dX10_checkEntry_1 : decode cX10_checkEntry 1 = .ok (.ifCond .lt 14, 3) := by decide +kernel
theorem dX10_checkEntry_4 : decode cX10_checkEntry 4 = .ok (.iload_n 1, 1) := by decide +kernel
theorem dX10_checkEntry_5 : decode cX10_checkEntry 5 = .ok (.aload_n 0, 1) := by decide +kernel
theorem dX10_checkEntry_6 : decode cX10_checkEntry 6 = .ok (.getfield 47, 3) := by decide +kernel
theorem dX10_checkEntry_9 : decode cX10_checkEntry 9 = .ok (.getfield 205, 3) := by decide +kernel
theorem dX10_checkEntry_12 : decode cX10_checkEntry 12 = .ok (.if_icmp .lt 14, 3) := by decide +kernel
theorem dX10_checkEntry_15 : decode cX10_checkEntry 15 = .ok (.new 274, 3) := by decide +kernel
theorem dX10_checkEntry_18 : decode cX10_checkEntry 18 = .ok (.dup, 1) := by decide +kernel
theorem dX10_checkEntry_19 : decode cX10_checkEntry 19 = .ok (.ldc_w 349, 3) := by decide +kernel
theorem dX10_checkEntry_22 : decode cX10_checkEntry 22 = .ok (.invokespecial 278, 3) := by decide +kernel
theorem dX10_checkEntry_25 : decode cX10_checkEntry 25 = .ok (.athrow, 1) := by decide +kernel
theorem dX10_checkEntry_26 : decode cX10_checkEntry 26 = .ok (.return_, 1) := by decide +kernel
theorem dX10_checkCut_0 : decode cX10_checkCut 0 = .ok (.iload_n 2, 1) := by decide +kernel
theorem dX10_checkCut_1 : decode cX10_checkCut 1 = .ok (.aload_n 0, 1) := by decide +kernel
theorem dX10_checkCut_2 : decode cX10_checkCut 2 = .ok (.getfield 10, 3) := by decide +kernel
theorem dX10_checkCut_5 : decode cX10_checkCut 5 = .ok (.getfield 137, 3) := by decide +kernel
theorem dX10_checkCut_8 : decode cX10_checkCut 8 = .ok (.getfield 351, 3) := by decide +kernel
theorem dX10_checkCut_11 : decode cX10_checkCut 11 = .ok (.iload_n 1, 1) := by decide +kernel
theorem dX10_checkCut_12 : decode cX10_checkCut 12 = .ok (.iaload, 1) := by decide +kernel
theorem dX10_checkCut_13 : decode cX10_checkCut 13 = .ok (.if_icmp .le 19, 3) := by decide +kernel
theorem dX10_checkCut_16 : decode cX10_checkCut 16 = .ok (.iload_n 2, 1) := by decide +kernel
theorem dX10_checkCut_17 : decode cX10_checkCut 17 = .ok (.aload_n 0, 1) := by decide +kernel
theorem dX10_checkCut_18 : decode cX10_checkCut 18 = .ok (.getfield 10, 3) := by decide +kernel
theorem dX10_checkCut_21 : decode cX10_checkCut 21 = .ok (.getfield 137, 3) := by decide +kernel
theorem dX10_checkCut_24 : decode cX10_checkCut 24 = .ok (.getfield 165, 3) := by decide +kernel
theorem dX10_checkCut_27 : decode cX10_checkCut 27 = .ok (.iload_n 1, 1) := by decide +kernel
theorem dX10_checkCut_28 : decode cX10_checkCut 28 = .ok (.iaload, 1) := by decide +kernel
theorem dX10_checkCut_29 : decode cX10_checkCut 29 = .ok (.if_icmp .le 14, 3) := by decide +kernel
theorem dX10_checkCut_32 : decode cX10_checkCut 32 = .ok (.new 181, 3) := by decide +kernel
theorem dX10_checkCut_35 : decode cX10_checkCut 35 = .ok (.dup, 1) := by decide +kernel
theorem dX10_checkCut_36 : decode cX10_checkCut 36 = .ok (.ldc_w 354, 3) := by decide +kernel
theorem dX10_checkCut_39 : decode cX10_checkCut 39 = .ok (.invokespecial 185, 3) := by decide +kernel
theorem dX10_checkCut_42 : decode cX10_checkCut 42 = .ok (.athrow, 1) := by decide +kernel
theorem dX10_checkCut_43 : decode cX10_checkCut 43 = .ok (.return_, 1) := by decide +kernel
theorem dX10_checkNoCircle_0 : decode cX10_checkNoCircle 0 = .ok (.aload_n 0, 1) := by decide +kernel
theorem dX10_checkNoCircle_1 : decode cX10_checkNoCircle 1 = .ok (.getfield 10, 3) := by decide +kernel
theorem dX10_checkNoCircle_4 : decode cX10_checkNoCircle 4 = .ok (.iload_n 1, 1) := by decide +kernel
theorem dX10_checkNoCircle_5 : decode cX10_checkNoCircle 5 = .ok (.iload_n 2, 1) := by decide +kernel
theorem dX10_checkNoCircle_6 : decode cX10_checkNoCircle 6 = .ok (.invokevirtual 356, 3) := by decide +kernel
theorem dX10_checkNoCircle_9 : decode cX10_checkNoCircle 9 = .ok (.ifCond .eq 14, 3) := by decide +kernel
theorem dX10_checkNoCircle_12 : decode cX10_checkNoCircle 12 = .ok (.new 360, 3) := by decide +kernel
theorem dX10_checkNoCircle_15 : decode cX10_checkNoCircle 15 = .ok (.dup, 1) := by decide +kernel
theorem dX10_checkNoCircle_16 : decode cX10_checkNoCircle 16 = .ok (.ldc_w 362, 3) := by decide +kernel
theorem dX10_checkNoCircle_19 : decode cX10_checkNoCircle 19 = .ok (.invokespecial 364, 3) := by decide +kernel
theorem dX10_checkNoCircle_22 : decode cX10_checkNoCircle 22 = .ok (.athrow, 1) := by decide +kernel
theorem dX10_checkNoCircle_23 : decode cX10_checkNoCircle 23 = .ok (.return_, 1) := by decide +kernel
theorem dX10_checkRoomForLine_0 : decode cX10_checkRoomForLine 0 = .ok (.aload_n 0, 1) := by decide +kernel
theorem dX10_checkRoomForLine_1 : decode cX10_checkRoomForLine 1 = .ok (.getfield 10, 3) := by decide +kernel
theorem dX10_checkRoomForLine_4 : decode cX10_checkRoomForLine 4 = .ok (.iload_n 1, 1) := by decide +kernel
theorem dX10_checkRoomForLine_5 : decode cX10_checkRoomForLine 5 = .ok (.invokevirtual 365, 3) := by decide +kernel
theorem dX10_checkRoomForLine_8 : decode cX10_checkRoomForLine 8 = .ok (.iconst 1, 1) := by decide +kernel
theorem dX10_checkRoomForLine_9 : decode cX10_checkRoomForLine 9 = .ok (.iadd, 1) := by decide +kernel
theorem dX10_checkRoomForLine_10 : decode cX10_checkRoomForLine 10 = .ok (.aload_n 0, 1) := by decide +kernel
theorem dX10_checkRoomForLine_11 : decode cX10_checkRoomForLine 11 = .ok (.getfield 10, 3) := by decide +kernel
theorem dX10_checkRoomForLine_14 : decode cX10_checkRoomForLine 14 = .ok (.iload_n 2, 1) := by decide +kernel
theorem dX10_checkRoomForLine_15 : decode cX10_checkRoomForLine 15 = .ok (.invokevirtual 368, 3) := by decide +kernel
theorem dX10_checkRoomForLine_18 : decode cX10_checkRoomForLine 18 = .ok (.iadd, 1) := by decide +kernel
theorem dX10_checkRoomForLine_19 : decode cX10_checkRoomForLine 19 = .ok (.iconst 4, 1) := by decide +kernel
theorem dX10_checkRoomForLine_20 : decode cX10_checkRoomForLine 20 = .ok (.if_icmp .le 14, 3) := by decide +kernel
theorem dX10_checkRoomForLine_23 : decode cX10_checkRoomForLine 23 = .ok (.new 89, 3) := by decide +kernel
theorem dX10_checkRoomForLine_26 : decode cX10_checkRoomForLine 26 = .ok (.dup, 1) := by decide +kernel
theorem dX10_checkRoomForLine_27 : decode cX10_checkRoomForLine 27 = .ok (.ldc_w 371, 3) := by decide +kernel
theorem dX10_checkRoomForLine_30 : decode cX10_checkRoomForLine 30 = .ok (.invokespecial 93, 3) := by decide +kernel
theorem dX10_checkRoomForLine_33 : decode cX10_checkRoomForLine 33 = .ok (.athrow, 1) := by decide +kernel
theorem dX10_checkRoomForLine_34 : decode cX10_checkRoomForLine 34 = .ok (.aload_n 0, 1) := by decide +kernel
theorem dX10_checkRoomForLine_35 : decode cX10_checkRoomForLine 35 = .ok (.getfield 10, 3) := by decide +kernel
theorem dX10_checkRoomForLine_38 : decode cX10_checkRoomForLine 38 = .ok (.getfield 137, 3) := by decide +kernel
theorem dX10_checkRoomForLine_41 : decode cX10_checkRoomForLine 41 = .ok (.getfield 186, 3) := by decide +kernel
theorem dX10_checkRoomForLine_44 : decode cX10_checkRoomForLine 44 = .ok (.bipush 40, 2) := by decide +kernel
theorem dX10_checkRoomForLine_46 : decode cX10_checkRoomForLine 46 = .ok (.if_icmp .lt 14, 3) := by decide +kernel
theorem dX10_checkRoomForLine_49 : decode cX10_checkRoomForLine 49 = .ok (.new 89, 3) := by decide +kernel
theorem dX10_checkRoomForLine_52 : decode cX10_checkRoomForLine 52 = .ok (.dup, 1) := by decide +kernel
theorem dX10_checkRoomForLine_53 : decode cX10_checkRoomForLine 53 = .ok (.ldc_w 373, 3) := by decide +kernel
theorem dX10_checkRoomForLine_56 : decode cX10_checkRoomForLine 56 = .ok (.invokespecial 93, 3) := by decide +kernel
theorem dX10_checkRoomForLine_59 : decode cX10_checkRoomForLine 59 = .ok (.athrow, 1) := by decide +kernel
theorem dX10_checkRoomForLine_60 : decode cX10_checkRoomForLine 60 = .ok (.return_, 1) := by decide +kernel
theorem dX10_checkUnique_0 : decode cX10_checkUnique 0 = .ok (.iconst 0, 1) := by decide +kernel
theorem dX10_checkUnique_1 : decode cX10_checkUnique 1 = .ok (.istore 7, 2) := by decide +kernel
theorem dX10_checkUnique_3 : decode cX10_checkUnique 3 = .ok (.iload 7, 2) := by decide +kernel
theorem dX10_checkUnique_5 : decode cX10_checkUnique 5 = .ok (.aload_n 0, 1) := by decide +kernel
theorem dX10_checkUnique_6 : decode cX10_checkUnique 6 = .ok (.getfield 10, 3) := by decide +kernel
theorem dX10_checkUnique_9 : decode cX10_checkUnique 9 = .ok (.getfield 137, 3) := by decide +kernel
theorem dX10_checkUnique_12 : decode cX10_checkUnique 12 = .ok (.getfield 186, 3) := by decide +kernel
theorem dX10_checkUnique_15 : decode cX10_checkUnique 15 = .ok (.if_icmp .ge 74, 3) := by decide +kernel
theorem dX10_checkUnique_18 : decode cX10_checkUnique 18 = .ok (.aload_n 0, 1) := by decide +kernel
theorem dX10_checkUnique_19 : decode cX10_checkUnique 19 = .ok (.getfield 10, 3) := by decide +kernel
theorem dX10_checkUnique_22 : decode cX10_checkUnique 22 = .ok (.getfield 137, 3) := by decide +kernel
theorem dX10_checkUnique_25 : decode cX10_checkUnique 25 = .ok (.iload 7, 2) := by decide +kernel
theorem dX10_checkUnique_27 : decode cX10_checkUnique 27 = .ok (.iload_n 1, 1) := by decide +kernel
theorem dX10_checkUnique_28 : decode cX10_checkUnique 28 = .ok (.iload_n 2, 1) := by decide +kernel
theorem dX10_checkUnique_29 : decode cX10_checkUnique 29 = .ok (.invokevirtual 375, 3) := by decide +kernel
theorem dX10_checkUnique_32 : decode cX10_checkUnique 32 = .ok (.ifCond .eq 51, 3) := by decide +kernel
theorem dX10_checkUnique_35 : decode cX10_checkUnique 35 = .ok (.aload_n 0, 1) := by decide +kernel
theorem dX10_checkUnique_36 : decode cX10_checkUnique 36 = .ok (.getfield 10, 3) := by decide +kernel
theorem dX10_checkUnique_39 : decode cX10_checkUnique 39 = .ok (.getfield 137, 3) := by decide +kernel
theorem dX10_checkUnique_42 : decode cX10_checkUnique 42 = .ok (.iload 7, 2) := by decide +kernel
theorem dX10_checkUnique_44 : decode cX10_checkUnique 44 = .ok (.iload_n 3, 1) := by decide +kernel
theorem dX10_checkUnique_45 : decode cX10_checkUnique 45 = .ok (.iload 4, 2) := by decide +kernel
theorem dX10_checkUnique_47 : decode cX10_checkUnique 47 = .ok (.invokevirtual 378, 3) := by decide +kernel
theorem dX10_checkUnique_50 : decode cX10_checkUnique 50 = .ok (.ifCond .eq 33, 3) := by decide +kernel
theorem dX10_checkUnique_53 : decode cX10_checkUnique 53 = .ok (.aload_n 0, 1) := by decide +kernel
theorem dX10_checkUnique_54 : decode cX10_checkUnique 54 = .ok (.getfield 10, 3) := by decide +kernel
theorem dX10_checkUnique_57 : decode cX10_checkUnique 57 = .ok (.getfield 137, 3) := by decide +kernel
theorem dX10_checkUnique_60 : decode cX10_checkUnique 60 = .ok (.iload 7, 2) := by decide +kernel
theorem dX10_checkUnique_62 : decode cX10_checkUnique 62 = .ok (.iload 5, 2) := by decide +kernel
theorem dX10_checkUnique_64 : decode cX10_checkUnique 64 = .ok (.iload 6, 2) := by decide +kernel
theorem dX10_checkUnique_66 : decode cX10_checkUnique 66 = .ok (.invokevirtual 381, 3) := by decide +kernel
theorem dX10_checkUnique_69 : decode cX10_checkUnique 69 = .ok (.ifCond .eq 14, 3) := by decide +kernel
theorem dX10_checkUnique_72 : decode cX10_checkUnique 72 = .ok (.new 89, 3) := by decide +kernel
theorem dX10_checkUnique_75 : decode cX10_checkUnique 75 = .ok (.dup, 1) := by decide +kernel
theorem dX10_checkUnique_76 : decode cX10_checkUnique 76 = .ok (.ldc_w 384, 3) := by decide +kernel
theorem dX10_checkUnique_79 : decode cX10_checkUnique 79 = .ok (.invokespecial 93, 3) := by decide +kernel
theorem dX10_checkUnique_82 : decode cX10_checkUnique 82 = .ok (.athrow, 1) := by decide +kernel
theorem dX10_checkUnique_83 : decode cX10_checkUnique 83 = .ok (.iinc 7 1, 3) := by decide +kernel
theorem dX10_checkUnique_86 : decode cX10_checkUnique 86 = .ok (.goto (-83), 3) := by decide +kernel
theorem dX10_checkUnique_89 : decode cX10_checkUnique 89 = .ok (.return_, 1) := by decide +kernel
theorem dX10_checkKind_0 : decode cX10_checkKind 0 = .ok (.iload_n 0, 1) := by decide +kernel
theorem dX10_checkKind_1 : decode cX10_checkKind 1 = .ok (.invokestatic 386, 3) := by decide +kernel
theorem dX10_checkKind_4 : decode cX10_checkKind 4 = .ok (.ifCond .ne 14, 3) := by decide +kernel
theorem dX10_checkKind_7 : decode cX10_checkKind 7 = .ok (.new 181, 3) := by decide +kernel
theorem dX10_checkKind_10 : decode cX10_checkKind 10 = .ok (.dup, 1) := by decide +kernel
theorem dX10_checkKind_11 : decode cX10_checkKind 11 = .ok (.ldc_w 390, 3) := by decide +kernel
theorem dX10_checkKind_14 : decode cX10_checkKind 14 = .ok (.invokespecial 185, 3) := by decide +kernel
theorem dX10_checkKind_17 : decode cX10_checkKind 17 = .ok (.athrow, 1) := by decide +kernel
theorem dX10_checkKind_18 : decode cX10_checkKind 18 = .ok (.return_, 1) := by decide +kernel
theorem dX10_checkCents_0 : decode cX10_checkCents 0 = .ok (.iload_n 0, 1) := by decide +kernel
theorem dX10_checkCents_1 : decode cX10_checkCents 1 = .ok (.iconst 0, 1) := by decide +kernel
theorem dX10_checkCents_2 : decode cX10_checkCents 2 = .ok (.ldc_w 392, 3) := by decide +kernel
theorem dX10_checkCents_5 : decode cX10_checkCents 5 = .ok (.invokestatic 177, 3) := by decide +kernel
theorem dX10_checkCents_8 : decode cX10_checkCents 8 = .ok (.ifCond .ne 14, 3) := by decide +kernel
theorem dX10_checkCents_11 : decode cX10_checkCents 11 = .ok (.new 181, 3) := by decide +kernel
theorem dX10_checkCents_14 : decode cX10_checkCents 14 = .ok (.dup, 1) := by decide +kernel
theorem dX10_checkCents_15 : decode cX10_checkCents 15 = .ok (.ldc_w 393, 3) := by decide +kernel
theorem dX10_checkCents_18 : decode cX10_checkCents 18 = .ok (.invokespecial 185, 3) := by decide +kernel
theorem dX10_checkCents_21 : decode cX10_checkCents 21 = .ok (.athrow, 1) := by decide +kernel
theorem dX10_checkCents_22 : decode cX10_checkCents 22 = .ok (.return_, 1) := by decide +kernel
theorem dX10_checkGrams_0 : decode cX10_checkGrams 0 = .ok (.iload_n 0, 1) := by decide +kernel
theorem dX10_checkGrams_1 : decode cX10_checkGrams 1 = .ok (.iconst 0, 1) := by decide +kernel
theorem dX10_checkGrams_2 : decode cX10_checkGrams 2 = .ok (.ldc_w 392, 3) := by decide +kernel
theorem dX10_checkGrams_5 : decode cX10_checkGrams 5 = .ok (.invokestatic 177, 3) := by decide +kernel
theorem dX10_checkGrams_8 : decode cX10_checkGrams 8 = .ok (.ifCond .ne 14, 3) := by decide +kernel
theorem dX10_checkGrams_11 : decode cX10_checkGrams 11 = .ok (.new 181, 3) := by decide +kernel
theorem dX10_checkGrams_14 : decode cX10_checkGrams 14 = .ok (.dup, 1) := by decide +kernel
theorem dX10_checkGrams_15 : decode cX10_checkGrams 15 = .ok (.ldc_w 395, 3) := by decide +kernel
theorem dX10_checkGrams_18 : decode cX10_checkGrams 18 = .ok (.invokespecial 185, 3) := by decide +kernel
theorem dX10_checkGrams_21 : decode cX10_checkGrams 21 = .ok (.athrow, 1) := by decide +kernel
theorem dX10_checkGrams_22 : decode cX10_checkGrams 22 = .ok (.return_, 1) := by decide +kernel
theorem dX10_checkPosition_0 : decode cX10_checkPosition 0 = .ok (.iload_n 0, 1) := by decide +kernel
theorem dX10_checkPosition_1 : decode cX10_checkPosition 1 = .ok (.iconst 1, 1) := by decide +kernel
theorem dX10_checkPosition_2 : decode cX10_checkPosition 2 = .ok (.bipush 6, 2) := by decide +kernel
theorem dX10_checkPosition_4 : decode cX10_checkPosition 4 = .ok (.invokestatic 177, 3) := by decide +kernel
theorem dX10_checkPosition_7 : decode cX10_checkPosition 7 = .ok (.ifCond .ne 14, 3) := by decide +kernel
theorem dX10_checkPosition_10 : decode cX10_checkPosition 10 = .ok (.new 181, 3) := by decide +kernel
theorem dX10_checkPosition_13 : decode cX10_checkPosition 13 = .ok (.dup, 1) := by decide +kernel
theorem dX10_checkPosition_14 : decode cX10_checkPosition 14 = .ok (.ldc_w 397, 3) := by decide +kernel
theorem dX10_checkPosition_17 : decode cX10_checkPosition 17 = .ok (.invokespecial 185, 3) := by decide +kernel
theorem dX10_checkPosition_20 : decode cX10_checkPosition 20 = .ok (.athrow, 1) := by decide +kernel
theorem dX10_checkPosition_21 : decode cX10_checkPosition 21 = .ok (.return_, 1) := by decide +kernel
theorem dX10_checkQuantity_0 : decode cX10_checkQuantity 0 = .ok (.iload_n 0, 1) := by decide +kernel
theorem dX10_checkQuantity_1 : decode cX10_checkQuantity 1 = .ok (.iconst 1, 1) := by decide +kernel
theorem dX10_checkQuantity_2 : decode cX10_checkQuantity 2 = .ok (.bipush 20, 2) := by decide +kernel
theorem dX10_checkQuantity_4 : decode cX10_checkQuantity 4 = .ok (.invokestatic 177, 3) := by decide +kernel
theorem dX10_checkQuantity_7 : decode cX10_checkQuantity 7 = .ok (.ifCond .ne 14, 3) := by decide +kernel
theorem dX10_checkQuantity_10 : decode cX10_checkQuantity 10 = .ok (.new 181, 3) := by decide +kernel
theorem dX10_checkQuantity_13 : decode cX10_checkQuantity 13 = .ok (.dup, 1) := by decide +kernel
theorem dX10_checkQuantity_14 : decode cX10_checkQuantity 14 = .ok (.ldc_w 399, 3) := by decide +kernel
theorem dX10_checkQuantity_17 : decode cX10_checkQuantity 17 = .ok (.invokespecial 185, 3) := by decide +kernel
theorem dX10_checkQuantity_20 : decode cX10_checkQuantity 20 = .ok (.athrow, 1) := by decide +kernel
theorem dX10_checkQuantity_21 : decode cX10_checkQuantity 21 = .ok (.return_, 1) := by decide +kernel
theorem dX10_checkRange_0 : decode cX10_checkRange 0 = .ok (.iload_n 0, 1) := by decide +kernel
theorem dX10_checkRange_1 : decode cX10_checkRange 1 = .ok (.iconst 1, 1) := by decide +kernel
theorem dX10_checkRange_2 : decode cX10_checkRange 2 = .ok (.sipush 999, 3) := by decide +kernel
theorem dX10_checkRange_5 : decode cX10_checkRange 5 = .ok (.invokestatic 177, 3) := by decide +kernel
theorem dX10_checkRange_8 : decode cX10_checkRange 8 = .ok (.ifCond .eq 14, 3) := by decide +kernel
theorem dX10_checkRange_11 : decode cX10_checkRange 11 = .ok (.iload_n 1, 1) := by decide +kernel
theorem dX10_checkRange_12 : decode cX10_checkRange 12 = .ok (.iload_n 0, 1) := by decide +kernel
theorem dX10_checkRange_13 : decode cX10_checkRange 13 = .ok (.sipush 999, 3) := by decide +kernel
theorem dX10_checkRange_16 : decode cX10_checkRange 16 = .ok (.invokestatic 177, 3) := by decide +kernel
theorem dX10_checkRange_19 : decode cX10_checkRange 19 = .ok (.ifCond .ne 14, 3) := by decide +kernel
theorem dX10_checkRange_22 : decode cX10_checkRange 22 = .ok (.new 181, 3) := by decide +kernel
theorem dX10_checkRange_25 : decode cX10_checkRange 25 = .ok (.dup, 1) := by decide +kernel
theorem dX10_checkRange_26 : decode cX10_checkRange 26 = .ok (.ldc_w 401, 3) := by decide +kernel
theorem dX10_checkRange_29 : decode cX10_checkRange 29 = .ok (.invokespecial 185, 3) := by decide +kernel
theorem dX10_checkRange_32 : decode cX10_checkRange 32 = .ok (.athrow, 1) := by decide +kernel
theorem dX10_checkRange_33 : decode cX10_checkRange 33 = .ok (.return_, 1) := by decide +kernel
theorem dX10_checkCondition_0 : decode cX10_checkCondition 0 = .ok (.iload_n 0, 1) := by decide +kernel
theorem dX10_checkCondition_1 : decode cX10_checkCondition 1 = .ok (.iconst 0, 1) := by decide +kernel
theorem dX10_checkCondition_2 : decode cX10_checkCondition 2 = .ok (.iconst 3, 1) := by decide +kernel
theorem dX10_checkCondition_3 : decode cX10_checkCondition 3 = .ok (.invokestatic 177, 3) := by decide +kernel
theorem dX10_checkCondition_6 : decode cX10_checkCondition 6 = .ok (.ifCond .eq 13, 3) := by decide +kernel
theorem dX10_checkCondition_9 : decode cX10_checkCondition 9 = .ok (.iload_n 1, 1) := by decide +kernel
theorem dX10_checkCondition_10 : decode cX10_checkCondition 10 = .ok (.iconst 1, 1) := by decide +kernel
theorem dX10_checkCondition_11 : decode cX10_checkCondition 11 = .ok (.bipush 15, 2) := by decide +kernel
theorem dX10_checkCondition_13 : decode cX10_checkCondition 13 = .ok (.invokestatic 177, 3) := by decide +kernel
theorem dX10_checkCondition_16 : decode cX10_checkCondition 16 = .ok (.ifCond .ne 14, 3) := by decide +kernel
theorem dX10_checkCondition_19 : decode cX10_checkCondition 19 = .ok (.new 181, 3) := by decide +kernel
theorem dX10_checkCondition_22 : decode cX10_checkCondition 22 = .ok (.dup, 1) := by decide +kernel
theorem dX10_checkCondition_23 : decode cX10_checkCondition 23 = .ok (.ldc_w 403, 3) := by decide +kernel
theorem dX10_checkCondition_26 : decode cX10_checkCondition 26 = .ok (.invokespecial 185, 3) := by decide +kernel
theorem dX10_checkCondition_29 : decode cX10_checkCondition 29 = .ok (.athrow, 1) := by decide +kernel
theorem dX10_checkCondition_30 : decode cX10_checkCondition 30 = .ok (.return_, 1) := by decide +kernel
theorem dX10_checkSerial_0 : decode cX10_checkSerial 0 = .ok (.iload_n 0, 1) := by decide +kernel
theorem dX10_checkSerial_1 : decode cX10_checkSerial 1 = .ok (.iconst 1, 1) := by decide +kernel
theorem dX10_checkSerial_2 : decode cX10_checkSerial 2 = .ok (.sipush 999, 3) := by decide +kernel
theorem dX10_checkSerial_5 : decode cX10_checkSerial 5 = .ok (.invokestatic 177, 3) := by decide +kernel
theorem dX10_checkSerial_8 : decode cX10_checkSerial 8 = .ok (.ifCond .ne 14, 3) := by decide +kernel
theorem dX10_checkSerial_11 : decode cX10_checkSerial 11 = .ok (.new 181, 3) := by decide +kernel
theorem dX10_checkSerial_14 : decode cX10_checkSerial 14 = .ok (.dup, 1) := by decide +kernel
theorem dX10_checkSerial_15 : decode cX10_checkSerial 15 = .ok (.ldc_w 405, 3) := by decide +kernel
theorem dX10_checkSerial_18 : decode cX10_checkSerial 18 = .ok (.invokespecial 185, 3) := by decide +kernel
theorem dX10_checkSerial_21 : decode cX10_checkSerial 21 = .ok (.athrow, 1) := by decide +kernel
theorem dX10_checkSerial_22 : decode cX10_checkSerial 22 = .ok (.return_, 1) := by decide +kernel
theorem dX10_checkOption_0 : decode cX10_checkOption 0 = .ok (.iload_n 0, 1) := by decide +kernel
theorem dX10_checkOption_1 : decode cX10_checkOption 1 = .ok (.iconst 0, 1) := by decide +kernel
theorem dX10_checkOption_2 : decode cX10_checkOption 2 = .ok (.iconst 3, 1) := by decide +kernel
theorem dX10_checkOption_3 : decode cX10_checkOption 3 = .ok (.invokestatic 177, 3) := by decide +kernel
theorem dX10_checkOption_6 : decode cX10_checkOption 6 = .ok (.ifCond .ne 14, 3) := by decide +kernel
theorem dX10_checkOption_9 : decode cX10_checkOption 9 = .ok (.new 229, 3) := by decide +kernel
theorem dX10_checkOption_12 : decode cX10_checkOption 12 = .ok (.dup, 1) := by decide +kernel
theorem dX10_checkOption_13 : decode cX10_checkOption 13 = .ok (.ldc_w 407, 3) := by decide +kernel
theorem dX10_checkOption_16 : decode cX10_checkOption 16 = .ok (.invokespecial 233, 3) := by decide +kernel
theorem dX10_checkOption_19 : decode cX10_checkOption 19 = .ok (.athrow, 1) := by decide +kernel
theorem dX10_checkOption_20 : decode cX10_checkOption 20 = .ok (.return_, 1) := by decide +kernel
theorem dX10_makeDirectList_0 : decode cX10_makeDirectList 0 = .ok (.aload_n 0, 1) := by decide +kernel
theorem dX10_makeDirectList_1 : decode cX10_makeDirectList 1 = .ok (.iload_n 1, 1) := by decide +kernel
theorem dX10_makeDirectList_2 : decode cX10_makeDirectList 2 = .ok (.invokevirtual 100, 3) := by decide +kernel
theorem dX10_makeDirectList_5 : decode cX10_makeDirectList 5 = .ok (.iload_n 2, 1) := by decide +kernel
theorem dX10_makeDirectList_6 : decode cX10_makeDirectList 6 = .ok (.invokestatic 187, 3) := by decide +kernel
theorem dX10_makeDirectList_9 : decode cX10_makeDirectList 9 = .ok (.aload_n 0, 1) := by decide +kernel
theorem dX10_makeDirectList_10 : decode cX10_makeDirectList 10 = .ok (.getfield 10, 3) := by decide +kernel
theorem dX10_makeDirectList_13 : decode cX10_makeDirectList 13 = .ok (.iload_n 2, 1) := by decide +kernel
theorem dX10_makeDirectList_14 : decode cX10_makeDirectList 14 = .ok (.aload_n 0, 1) := by decide +kernel
theorem dX10_makeDirectList_15 : decode cX10_makeDirectList 15 = .ok (.getfield 66, 3) := by decide +kernel
theorem dX10_makeDirectList_18 : decode cX10_makeDirectList 18 = .ok (.invokevirtual 237, 3) := by decide +kernel
theorem dX10_makeDirectList_21 : decode cX10_makeDirectList 21 = .ok (.aload_n 0, 1) := by decide +kernel
theorem dX10_makeDirectList_22 : decode cX10_makeDirectList 22 = .ok (.getfield 47, 3) := by decide +kernel
theorem dX10_makeDirectList_25 : decode cX10_makeDirectList 25 = .ok (.invokevirtual 409, 3) := by decide +kernel
theorem dX10_makeDirectList_28 : decode cX10_makeDirectList 28 = .ok (.aload_n 0, 1) := by decide +kernel
theorem dX10_makeDirectList_29 : decode cX10_makeDirectList 29 = .ok (.getfield 10, 3) := by decide +kernel
theorem dX10_makeDirectList_32 : decode cX10_makeDirectList 32 = .ok (.aload_n 0, 1) := by decide +kernel
theorem dX10_makeDirectList_33 : decode cX10_makeDirectList 33 = .ok (.getfield 47, 3) := by decide +kernel
theorem dX10_makeDirectList_36 : decode cX10_makeDirectList 36 = .ok (.iload_n 1, 1) := by decide +kernel
theorem dX10_makeDirectList_37 : decode cX10_makeDirectList 37 = .ok (.lconst 1, 1) := by decide +kernel
theorem dX10_makeDirectList_38 : decode cX10_makeDirectList 38 = .ok (.iconst 0, 1) := by decide +kernel
theorem dX10_makeDirectList_39 : decode cX10_makeDirectList 39 = .ok (.invokestatic 410, 3) := by decide +kernel
theorem dX10_makeDirectList_42 : decode cX10_makeDirectList 42 = .ok (.return_, 1) := by decide +kernel
theorem dX10_rolledUpCost_0 : decode cX10_rolledUpCost 0 = .ok (.aload_n 0, 1) := by decide +kernel
theorem dX10_rolledUpCost_1 : decode cX10_rolledUpCost 1 = .ok (.getfield 10, 3) := by decide +kernel
theorem dX10_rolledUpCost_4 : decode cX10_rolledUpCost 4 = .ok (.iload_n 2, 1) := by decide +kernel
theorem dX10_rolledUpCost_5 : decode cX10_rolledUpCost 5 = .ok (.iload_n 3, 1) := by decide +kernel
theorem dX10_rolledUpCost_6 : decode cX10_rolledUpCost 6 = .ok (.invokevirtual 237, 3) := by decide +kernel
theorem dX10_rolledUpCost_9 : decode cX10_rolledUpCost 9 = .ok (.aload_n 0, 1) := by decide +kernel
theorem dX10_rolledUpCost_10 : decode cX10_rolledUpCost 10 = .ok (.getfield 33, 3) := by decide +kernel
theorem dX10_rolledUpCost_13 : decode cX10_rolledUpCost 13 = .ok (.aload_n 0, 1) := by decide +kernel
theorem dX10_rolledUpCost_14 : decode cX10_rolledUpCost 14 = .ok (.getfield 10, 3) := by decide +kernel
theorem dX10_rolledUpCost_17 : decode cX10_rolledUpCost 17 = .ok (.invokevirtual 266, 3) := by decide +kernel
theorem dX10_rolledUpCost_20 : decode cX10_rolledUpCost 20 = .ok (.aload_n 0, 1) := by decide +kernel
theorem dX10_rolledUpCost_21 : decode cX10_rolledUpCost 21 = .ok (.getfield 33, 3) := by decide +kernel
theorem dX10_rolledUpCost_24 : decode cX10_rolledUpCost 24 = .ok (.getfield 287, 3) := by decide +kernel
theorem dX10_rolledUpCost_27 : decode cX10_rolledUpCost 27 = .ok (.iload_n 1, 1) := by decide +kernel
theorem dX10_rolledUpCost_28 : decode cX10_rolledUpCost 28 = .ok (.faload, 1) := by decide +kernel
theorem dX10_rolledUpCost_29 : decode cX10_rolledUpCost 29 = .ok (.freturn, 1) := by decide +kernel
theorem dX10_rolledUpWeight_0 : decode cX10_rolledUpWeight 0 = .ok (.aload_n 0, 1) := by decide +kernel
theorem dX10_rolledUpWeight_1 : decode cX10_rolledUpWeight 1 = .ok (.getfield 10, 3) := by decide +kernel
theorem dX10_rolledUpWeight_4 : decode cX10_rolledUpWeight 4 = .ok (.iload_n 2, 1) := by decide +kernel
theorem dX10_rolledUpWeight_5 : decode cX10_rolledUpWeight 5 = .ok (.aload_n 0, 1) := by decide +kernel
theorem dX10_rolledUpWeight_6 : decode cX10_rolledUpWeight 6 = .ok (.getfield 66, 3) := by decide +kernel
theorem dX10_rolledUpWeight_9 : decode cX10_rolledUpWeight 9 = .ok (.invokevirtual 237, 3) := by decide +kernel
theorem dX10_rolledUpWeight_12 : decode cX10_rolledUpWeight 12 = .ok (.aload_n 0, 1) := by decide +kernel
theorem dX10_rolledUpWeight_13 : decode cX10_rolledUpWeight 13 = .ok (.getfield 40, 3) := by decide +kernel
theorem dX10_rolledUpWeight_16 : decode cX10_rolledUpWeight 16 = .ok (.aload_n 0, 1) := by decide +kernel
theorem dX10_rolledUpWeight_17 : decode cX10_rolledUpWeight 17 = .ok (.getfield 10, 3) := by decide +kernel
theorem dX10_rolledUpWeight_20 : decode cX10_rolledUpWeight 20 = .ok (.invokevirtual 414, 3) := by decide +kernel
theorem dX10_rolledUpWeight_23 : decode cX10_rolledUpWeight 23 = .ok (.aload_n 0, 1) := by decide +kernel
theorem dX10_rolledUpWeight_24 : decode cX10_rolledUpWeight 24 = .ok (.getfield 40, 3) := by decide +kernel
theorem dX10_rolledUpWeight_27 : decode cX10_rolledUpWeight 27 = .ok (.getfield 415, 3) := by decide +kernel
theorem dX10_rolledUpWeight_30 : decode cX10_rolledUpWeight 30 = .ok (.iload_n 1, 1) := by decide +kernel
theorem dX10_rolledUpWeight_31 : decode cX10_rolledUpWeight 31 = .ok (.daload, 1) := by decide +kernel
theorem dX10_rolledUpWeight_32 : decode cX10_rolledUpWeight 32 = .ok (.dreturn, 1) := by decide +kernel
theorem dX10_collectEntries_0 : decode cX10_collectEntries 0 = .ok (.iload 5, 2) := by decide +kernel
theorem dX10_collectEntries_2 : decode cX10_collectEntries 2 = .ok (.iconst 4, 1) := by decide +kernel
theorem dX10_collectEntries_3 : decode cX10_collectEntries 3 = .ok (.if_icmp .lt 4, 3) := by decide +kernel
theorem dX10_collectEntries_6 : decode cX10_collectEntries 6 = .ok (.return_, 1) := by decide +kernel
theorem dX10_collectEntries_7 : decode cX10_collectEntries 7 = .ok (.iconst 1, 1) := by decide +kernel
theorem dX10_collectEntries_8 : decode cX10_collectEntries 8 = .ok (.istore 6, 2) := by decide +kernel
theorem dX10_collectEntries_10 : decode cX10_collectEntries 10 = .ok (.iload 6, 2) := by decide +kernel
theorem dX10_collectEntries_12 : decode cX10_collectEntries 12 = .ok (.bipush 6, 2) := by decide +kernel
theorem dX10_collectEntries_14 : decode cX10_collectEntries 14 = .ok (.if_icmp .gt 90, 3) := by decide +kernel
theorem dX10_collectEntries_17 : decode cX10_collectEntries 17 = .ok (.aload_n 0, 1) := by decide +kernel
theorem dX10_collectEntries_18 : decode cX10_collectEntries 18 = .ok (.iload_n 2, 1) := by decide +kernel
theorem dX10_collectEntries_19 : decode cX10_collectEntries 19 = .ok (.iload 6, 2) := by decide +kernel
theorem dX10_collectEntries_21 : decode cX10_collectEntries 21 = .ok (.invokevirtual 419, 3) := by decide +kernel
theorem dX10_collectEntries_24 : decode cX10_collectEntries 24 = .ok (.istore 7, 2) := by decide +kernel
theorem dX10_collectEntries_26 : decode cX10_collectEntries 26 = .ok (.iload 7, 2) := by decide +kernel
theorem dX10_collectEntries_28 : decode cX10_collectEntries 28 = .ok (.iconst (-1), 1) := by decide +kernel
theorem dX10_collectEntries_29 : decode cX10_collectEntries 29 = .ok (.if_icmp .eq 69, 3) := by decide +kernel
theorem dX10_collectEntries_32 : decode cX10_collectEntries 32 = .ok (.aload_n 0, 1) := by decide +kernel
theorem dX10_collectEntries_33 : decode cX10_collectEntries 33 = .ok (.getfield 137, 3) := by decide +kernel
theorem dX10_collectEntries_36 : decode cX10_collectEntries 36 = .ok (.getfield 422, 3) := by decide +kernel
theorem dX10_collectEntries_39 : decode cX10_collectEntries 39 = .ok (.iload 7, 2) := by decide +kernel
theorem dX10_collectEntries_41 : decode cX10_collectEntries 41 = .ok (.iaload, 1) := by decide +kernel
theorem dX10_collectEntries_42 : decode cX10_collectEntries 42 = .ok (.istore 8, 2) := by decide +kernel
theorem dX10_collectEntries_44 : decode cX10_collectEntries 44 = .ok (.lload_n 3, 1) := by decide +kernel
theorem dX10_collectEntries_45 : decode cX10_collectEntries 45 = .ok (.aload_n 0, 1) := by decide +kernel
theorem dX10_collectEntries_46 : decode cX10_collectEntries 46 = .ok (.getfield 137, 3) := by decide +kernel
theorem dX10_collectEntries_49 : decode cX10_collectEntries 49 = .ok (.getfield 425, 3) := by decide +kernel
theorem dX10_collectEntries_52 : decode cX10_collectEntries 52 = .ok (.iload 7, 2) := by decide +kernel
theorem dX10_collectEntries_54 : decode cX10_collectEntries 54 = .ok (.iaload, 1) := by decide +kernel
theorem dX10_collectEntries_55 : decode cX10_collectEntries 55 = .ok (.i2l, 1) := by decide +kernel
theorem dX10_collectEntries_56 : decode cX10_collectEntries 56 = .ok (.lmul, 1) := by decide +kernel
theorem dX10_collectEntries_57 : decode cX10_collectEntries 57 = .ok (.lstore 9, 2) := by decide +kernel
theorem dX10_collectEntries_59 : decode cX10_collectEntries 59 = .ok (.aload_n 0, 1) := by decide +kernel
theorem dX10_collectEntries_60 : decode cX10_collectEntries 60 = .ok (.getfield 80, 3) := by decide +kernel
theorem dX10_collectEntries_63 : decode cX10_collectEntries 63 = .ok (.getfield 110, 3) := by decide +kernel
theorem dX10_collectEntries_66 : decode cX10_collectEntries 66 = .ok (.iload 8, 2) := by decide +kernel
theorem dX10_collectEntries_68 : decode cX10_collectEntries 68 = .ok (.caload, 1) := by decide +kernel
theorem dX10_collectEntries_69 : decode cX10_collectEntries 69 = .ok (.bipush 112, 2) := by decide +kernel
theorem dX10_collectEntries_71 : decode cX10_collectEntries 71 = .ok (.if_icmp .ne 19, 3) := by decide +kernel
theorem dX10_collectEntries_74 : decode cX10_collectEntries 74 = .ok (.aload_n 0, 1) := by decide +kernel
theorem dX10_collectEntries_75 : decode cX10_collectEntries 75 = .ok (.aload_n 1, 1) := by decide +kernel
theorem dX10_collectEntries_76 : decode cX10_collectEntries 76 = .ok (.iload 8, 2) := by decide +kernel
theorem dX10_collectEntries_78 : decode cX10_collectEntries 78 = .ok (.lload 9, 2) := by decide +kernel
theorem dX10_collectEntries_80 : decode cX10_collectEntries 80 = .ok (.iload 5, 2) := by decide +kernel
theorem dX10_collectEntries_82 : decode cX10_collectEntries 82 = .ok (.iconst 1, 1) := by decide +kernel
theorem dX10_collectEntries_83 : decode cX10_collectEntries 83 = .ok (.iadd, 1) := by decide +kernel
theorem dX10_collectEntries_84 : decode cX10_collectEntries 84 = .ok (.invokestatic 410, 3) := by decide +kernel
theorem dX10_collectEntries_87 : decode cX10_collectEntries 87 = .ok (.goto 11, 3) := by decide +kernel
theorem dX10_collectEntries_90 : decode cX10_collectEntries 90 = .ok (.aload_n 1, 1) := by decide +kernel
theorem dX10_collectEntries_91 : decode cX10_collectEntries 91 = .ok (.iload 8, 2) := by decide +kernel
theorem dX10_collectEntries_93 : decode cX10_collectEntries 93 = .ok (.lload 9, 2) := by decide +kernel
theorem dX10_collectEntries_95 : decode cX10_collectEntries 95 = .ok (.invokevirtual 428, 3) := by decide +kernel
theorem dX10_collectEntries_98 : decode cX10_collectEntries 98 = .ok (.iinc 6 1, 3) := by decide +kernel
theorem dX10_collectEntries_101 : decode cX10_collectEntries 101 = .ok (.goto (-91), 3) := by decide +kernel
theorem dX10_collectEntries_104 : decode cX10_collectEntries 104 = .ok (.return_, 1) := by decide +kernel
theorem dX10_walkQuantity_0 : decode cX10_walkQuantity 0 = .ok (.iload_n 1, 1) := by decide +kernel
theorem dX10_walkQuantity_1 : decode cX10_walkQuantity 1 = .ok (.iload_n 2, 1) := by decide +kernel
theorem dX10_walkQuantity_2 : decode cX10_walkQuantity 2 = .ok (.if_icmp .ne 5, 3) := by decide +kernel
theorem dX10_walkQuantity_5 : decode cX10_walkQuantity 5 = .ok (.lconst 1, 1) := by decide +kernel
theorem dX10_walkQuantity_6 : decode cX10_walkQuantity 6 = .ok (.lreturn, 1) := by decide +kernel
theorem dX10_walkQuantity_7 : decode cX10_walkQuantity 7 = .ok (.iload_n 3, 1) := by decide +kernel
theorem dX10_walkQuantity_8 : decode cX10_walkQuantity 8 = .ok (.iconst 4, 1) := by decide +kernel
theorem dX10_walkQuantity_9 : decode cX10_walkQuantity 9 = .ok (.if_icmp .lt 5, 3) := by decide +kernel
theorem dX10_walkQuantity_12 : decode cX10_walkQuantity 12 = .ok (.lconst 0, 1) := by decide +kernel
theorem dX10_walkQuantity_13 : decode cX10_walkQuantity 13 = .ok (.lreturn, 1) := by decide +kernel
theorem dX10_walkQuantity_14 : decode cX10_walkQuantity 14 = .ok (.lconst 0, 1) := by decide +kernel
theorem dX10_walkQuantity_15 : decode cX10_walkQuantity 15 = .ok (.lstore 4, 2) := by decide +kernel
theorem dX10_walkQuantity_17 : decode cX10_walkQuantity 17 = .ok (.iconst 1, 1) := by decide +kernel
theorem dX10_walkQuantity_18 : decode cX10_walkQuantity 18 = .ok (.istore 6, 2) := by decide +kernel
theorem dX10_walkQuantity_20 : decode cX10_walkQuantity 20 = .ok (.iload 6, 2) := by decide +kernel
theorem dX10_walkQuantity_22 : decode cX10_walkQuantity 22 = .ok (.bipush 6, 2) := by decide +kernel
theorem dX10_walkQuantity_24 : decode cX10_walkQuantity 24 = .ok (.if_icmp .gt 59, 3) := by decide +kernel
theorem dX10_walkQuantity_27 : decode cX10_walkQuantity 27 = .ok (.aload_n 0, 1) := by decide +kernel
theorem dX10_walkQuantity_28 : decode cX10_walkQuantity 28 = .ok (.iload_n 1, 1) := by decide +kernel
theorem dX10_walkQuantity_29 : decode cX10_walkQuantity 29 = .ok (.iload 6, 2) := by decide +kernel
theorem dX10_walkQuantity_31 : decode cX10_walkQuantity 31 = .ok (.invokevirtual 419, 3) := by decide +kernel
theorem dX10_walkQuantity_34 : decode cX10_walkQuantity 34 = .ok (.istore 7, 2) := by decide +kernel
theorem dX10_walkQuantity_36 : decode cX10_walkQuantity 36 = .ok (.iload 7, 2) := by decide +kernel
theorem dX10_walkQuantity_38 : decode cX10_walkQuantity 38 = .ok (.iconst (-1), 1) := by decide +kernel
theorem dX10_walkQuantity_39 : decode cX10_walkQuantity 39 = .ok (.if_icmp .eq 38, 3) := by decide +kernel
theorem dX10_walkQuantity_42 : decode cX10_walkQuantity 42 = .ok (.lload 4, 2) := by decide +kernel
theorem dX10_walkQuantity_44 : decode cX10_walkQuantity 44 = .ok (.aload_n 0, 1) := by decide +kernel
theorem dX10_walkQuantity_45 : decode cX10_walkQuantity 45 = .ok (.getfield 137, 3) := by decide +kernel
theorem dX10_walkQuantity_48 : decode cX10_walkQuantity 48 = .ok (.getfield 425, 3) := by decide +kernel
theorem dX10_walkQuantity_51 : decode cX10_walkQuantity 51 = .ok (.iload 7, 2) := by decide +kernel
theorem dX10_walkQuantity_53 : decode cX10_walkQuantity 53 = .ok (.iaload, 1) := by decide +kernel
theorem dX10_walkQuantity_54 : decode cX10_walkQuantity 54 = .ok (.i2l, 1) := by decide +kernel
theorem dX10_walkQuantity_55 : decode cX10_walkQuantity 55 = .ok (.aload_n 0, 1) := by decide +kernel
theorem dX10_walkQuantity_56 : decode cX10_walkQuantity 56 = .ok (.aload_n 0, 1) := by decide +kernel
theorem dX10_walkQuantity_57 : decode cX10_walkQuantity 57 = .ok (.getfield 137, 3) := by decide +kernel
theorem dX10_walkQuantity_60 : decode cX10_walkQuantity 60 = .ok (.getfield 422, 3) := by decide +kernel
theorem dX10_walkQuantity_63 : decode cX10_walkQuantity 63 = .ok (.iload 7, 2) := by decide +kernel
theorem dX10_walkQuantity_65 : decode cX10_walkQuantity 65 = .ok (.iaload, 1) := by decide +kernel
theorem dX10_walkQuantity_66 : decode cX10_walkQuantity 66 = .ok (.iload_n 2, 1) := by decide +kernel
theorem dX10_walkQuantity_67 : decode cX10_walkQuantity 67 = .ok (.iload_n 3, 1) := by decide +kernel
theorem dX10_walkQuantity_68 : decode cX10_walkQuantity 68 = .ok (.iconst 1, 1) := by decide +kernel
theorem dX10_walkQuantity_69 : decode cX10_walkQuantity 69 = .ok (.iadd, 1) := by decide +kernel
theorem dX10_walkQuantity_70 : decode cX10_walkQuantity 70 = .ok (.invokestatic 243, 3) := by decide +kernel
theorem dX10_walkQuantity_73 : decode cX10_walkQuantity 73 = .ok (.lmul, 1) := by decide +kernel
theorem dX10_walkQuantity_74 : decode cX10_walkQuantity 74 = .ok (.ladd, 1) := by decide +kernel
theorem dX10_walkQuantity_75 : decode cX10_walkQuantity 75 = .ok (.lstore 4, 2) := by decide +kernel
theorem dX10_walkQuantity_77 : decode cX10_walkQuantity 77 = .ok (.iinc 6 1, 3) := by decide +kernel
theorem dX10_walkQuantity_80 : decode cX10_walkQuantity 80 = .ok (.goto (-60), 3) := by decide +kernel
theorem dX10_walkQuantity_83 : decode cX10_walkQuantity 83 = .ok (.lload 4, 2) := by decide +kernel
theorem dX10_walkQuantity_85 : decode cX10_walkQuantity 85 = .ok (.lreturn, 1) := by decide +kernel
theorem dX10_walkCost_0 : decode cX10_walkCost 0 = .ok (.aload_n 0, 1) := by decide +kernel
theorem dX10_walkCost_1 : decode cX10_walkCost 1 = .ok (.getfield 80, 3) := by decide +kernel
theorem dX10_walkCost_4 : decode cX10_walkCost 4 = .ok (.iload_n 1, 1) := by decide +kernel
theorem dX10_walkCost_5 : decode cX10_walkCost 5 = .ok (.invokevirtual 431, 3) := by decide +kernel
theorem dX10_walkCost_8 : decode cX10_walkCost 8 = .ok (.fstore_n 3, 1) := by decide +kernel
theorem dX10_walkCost_9 : decode cX10_walkCost 9 = .ok (.iload_n 2, 1) := by decide +kernel
theorem dX10_walkCost_10 : decode cX10_walkCost 10 = .ok (.iconst 4, 1) := by decide +kernel
theorem dX10_walkCost_11 : decode cX10_walkCost 11 = .ok (.if_icmp .lt 5, 3) := by decide +kernel
theorem dX10_walkCost_14 : decode cX10_walkCost 14 = .ok (.fload_n 3, 1) := by decide +kernel
theorem dX10_walkCost_15 : decode cX10_walkCost 15 = .ok (.freturn, 1) := by decide +kernel
theorem dX10_walkCost_16 : decode cX10_walkCost 16 = .ok (.iconst 1, 1) := by decide +kernel
theorem dX10_walkCost_17 : decode cX10_walkCost 17 = .ok (.istore 4, 2) := by decide +kernel
theorem dX10_walkCost_19 : decode cX10_walkCost 19 = .ok (.iload 4, 2) := by decide +kernel
theorem dX10_walkCost_21 : decode cX10_walkCost 21 = .ok (.bipush 6, 2) := by decide +kernel
theorem dX10_walkCost_23 : decode cX10_walkCost 23 = .ok (.if_icmp .gt 53, 3) := by decide +kernel
theorem dX10_walkCost_26 : decode cX10_walkCost 26 = .ok (.aload_n 0, 1) := by decide +kernel
theorem dX10_walkCost_27 : decode cX10_walkCost 27 = .ok (.iload_n 1, 1) := by decide +kernel
theorem dX10_walkCost_28 : decode cX10_walkCost 28 = .ok (.iload 4, 2) := by decide +kernel
theorem dX10_walkCost_30 : decode cX10_walkCost 30 = .ok (.invokevirtual 419, 3) := by decide +kernel
theorem dX10_walkCost_33 : decode cX10_walkCost 33 = .ok (.istore 5, 2) := by decide +kernel
theorem dX10_walkCost_35 : decode cX10_walkCost 35 = .ok (.iload 5, 2) := by decide +kernel
theorem dX10_walkCost_37 : decode cX10_walkCost 37 = .ok (.iconst (-1), 1) := by decide +kernel
theorem dX10_walkCost_38 : decode cX10_walkCost 38 = .ok (.if_icmp .eq 32, 3) := by decide +kernel
theorem dX10_walkCost_41 : decode cX10_walkCost 41 = .ok (.fload_n 3, 1) := by decide +kernel
theorem dX10_walkCost_42 : decode cX10_walkCost 42 = .ok (.aload_n 0, 1) := by decide +kernel
theorem dX10_walkCost_43 : decode cX10_walkCost 43 = .ok (.getfield 137, 3) := by decide +kernel
theorem dX10_walkCost_46 : decode cX10_walkCost 46 = .ok (.iload 5, 2) := by decide +kernel
theorem dX10_walkCost_48 : decode cX10_walkCost 48 = .ok (.aload_n 0, 1) := by decide +kernel
theorem dX10_walkCost_49 : decode cX10_walkCost 49 = .ok (.aload_n 0, 1) := by decide +kernel
theorem dX10_walkCost_50 : decode cX10_walkCost 50 = .ok (.getfield 137, 3) := by decide +kernel
theorem dX10_walkCost_53 : decode cX10_walkCost 53 = .ok (.getfield 422, 3) := by decide +kernel
theorem dX10_walkCost_56 : decode cX10_walkCost 56 = .ok (.iload 5, 2) := by decide +kernel
theorem dX10_walkCost_58 : decode cX10_walkCost 58 = .ok (.iaload, 1) := by decide +kernel
theorem dX10_walkCost_59 : decode cX10_walkCost 59 = .ok (.iload_n 2, 1) := by decide +kernel
theorem dX10_walkCost_60 : decode cX10_walkCost 60 = .ok (.iconst 1, 1) := by decide +kernel
theorem dX10_walkCost_61 : decode cX10_walkCost 61 = .ok (.iadd, 1) := by decide +kernel
theorem dX10_walkCost_62 : decode cX10_walkCost 62 = .ok (.invokestatic 255, 3) := by decide +kernel
theorem dX10_walkCost_65 : decode cX10_walkCost 65 = .ok (.invokevirtual 435, 3) := by decide +kernel
theorem dX10_walkCost_68 : decode cX10_walkCost 68 = .ok (.fadd, 1) := by decide +kernel
theorem dX10_walkCost_69 : decode cX10_walkCost 69 = .ok (.fstore_n 3, 1) := by decide +kernel
theorem dX10_walkCost_70 : decode cX10_walkCost 70 = .ok (.iinc 4 1, 3) := by decide +kernel
theorem dX10_walkCost_73 : decode cX10_walkCost 73 = .ok (.goto (-54), 3) := by decide +kernel
theorem dX10_walkCost_76 : decode cX10_walkCost 76 = .ok (.fload_n 3, 1) := by decide +kernel
theorem dX10_walkCost_77 : decode cX10_walkCost 77 = .ok (.freturn, 1) := by decide +kernel
theorem dX10_isBetween_0 : decode cX10_isBetween 0 = .ok (.iload_n 0, 1) := by decide +kernel
theorem dX10_isBetween_1 : decode cX10_isBetween 1 = .ok (.iload_n 1, 1) := by decide +kernel
theorem dX10_isBetween_2 : decode cX10_isBetween 2 = .ok (.if_icmp .lt 12, 3) := by decide +kernel
theorem dX10_isBetween_5 : decode cX10_isBetween 5 = .ok (.iload_n 0, 1) := by decide +kernel
theorem dX10_isBetween_6 : decode cX10_isBetween 6 = .ok (.iload_n 2, 1) := by decide +kernel
theorem dX10_isBetween_7 : decode cX10_isBetween 7 = .ok (.if_icmp .gt 7, 3) := by decide +kernel
theorem dX10_isBetween_10 : decode cX10_isBetween 10 = .ok (.iconst 1, 1) := by decide +kernel
theorem dX10_isBetween_11 : decode cX10_isBetween 11 = .ok (.goto 4, 3) := by decide +kernel
theorem dX10_isBetween_14 : decode cX10_isBetween 14 = .ok (.iconst 0, 1) := by decide +kernel
theorem dX10_isBetween_15 : decode cX10_isBetween 15 = .ok (.ireturn, 1) := by decide +kernel
theorem dX10_isKind_0 : decode cX10_isKind 0 = .ok (.iload_n 0, 1) := by decide +kernel
theorem dX10_isKind_1 : decode cX10_isKind 1 = .ok (.bipush 98, 2) := by decide +kernel
theorem dX10_isKind_3 : decode cX10_isKind 3 = .ok (.if_icmp .eq 15, 3) := by decide +kernel
theorem dX10_isKind_6 : decode cX10_isKind 6 = .ok (.iload_n 0, 1) := by decide +kernel
theorem dX10_isKind_7 : decode cX10_isKind 7 = .ok (.bipush 109, 2) := by decide +kernel
theorem dX10_isKind_9 : decode cX10_isKind 9 = .ok (.if_icmp .eq 9, 3) := by decide +kernel
theorem dX10_isKind_12 : decode cX10_isKind 12 = .ok (.iload_n 0, 1) := by decide +kernel
theorem dX10_isKind_13 : decode cX10_isKind 13 = .ok (.bipush 112, 2) := by decide +kernel
theorem dX10_isKind_15 : decode cX10_isKind 15 = .ok (.if_icmp .ne 7, 3) := by decide +kernel
theorem dX10_isKind_18 : decode cX10_isKind 18 = .ok (.iconst 1, 1) := by decide +kernel
theorem dX10_isKind_19 : decode cX10_isKind 19 = .ok (.goto 4, 3) := by decide +kernel
theorem dX10_isKind_22 : decode cX10_isKind 22 = .ok (.iconst 0, 1) := by decide +kernel
theorem dX10_isKind_23 : decode cX10_isKind 23 = .ok (.ireturn, 1) := by decide +kernel
theorem dX10_choiceIn_0 : decode cX10_choiceIn 0 = .ok (.iload_n 0, 1) := by decide +kernel
theorem dX10_choiceIn_1 : decode cX10_choiceIn 1 = .ok (.iconst 2, 1) := by decide +kernel
theorem dX10_choiceIn_2 : decode cX10_choiceIn 2 = .ok (.iload_n 1, 1) := by decide +kernel
theorem dX10_choiceIn_3 : decode cX10_choiceIn 3 = .ok (.imul, 1) := by decide +kernel
theorem dX10_choiceIn_4 : decode cX10_choiceIn 4 = .ok (.ishr, 1) := by decide +kernel
theorem dX10_choiceIn_5 : decode cX10_choiceIn 5 = .ok (.iconst 3, 1) := by decide +kernel
theorem dX10_choiceIn_6 : decode cX10_choiceIn 6 = .ok (.iand, 1) := by decide +kernel
theorem dX10_choiceIn_7 : decode cX10_choiceIn 7 = .ok (.ireturn, 1) := by decide +kernel
theorem dX10_isConfiguration_0 : decode cX10_isConfiguration 0 = .ok (.iload_n 0, 1) := by decide +kernel
theorem dX10_isConfiguration_1 : decode cX10_isConfiguration 1 = .ok (.iconst 0, 1) := by decide +kernel
theorem dX10_isConfiguration_2 : decode cX10_isConfiguration 2 = .ok (.sipush 255, 3) := by decide +kernel
theorem dX10_isConfiguration_5 : decode cX10_isConfiguration 5 = .ok (.invokestatic 177, 3) := by decide +kernel
theorem dX10_isConfiguration_8 : decode cX10_isConfiguration 8 = .ok (.ireturn, 1) := by decide +kernel
