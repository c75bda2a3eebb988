theorem dD_init_0 : decode cD_init 0 = .ok (.aload_n 0, 1) := by decide +kernel
theorem dD_init_1 : decode cD_init 1 = .ok (.invokespecial 1, 3) := by decide +kernel
theorem dD_init_4 : decode cD_init 4 = .ok (.aload_n 0, 1) := by decide +kernel
theorem dD_init_5 : decode cD_init 5 = .ok (.bipush 12, 2) := by decide +kernel
theorem dD_init_7 : decode cD_init 7 = .ok (.newarray .boolean, 2) := by decide +kernel
theorem dD_init_9 : decode cD_init 9 = .ok (.putfield 7, 3) := by decide +kernel
theorem dD_init_12 : decode cD_init 12 = .ok (.aload_n 0, 1) := by decide +kernel
theorem dD_init_13 : decode cD_init 13 = .ok (.bipush 12, 2) := by decide +kernel
theorem dD_init_15 : decode cD_init 15 = .ok (.newarray .int, 2) := by decide +kernel
theorem dD_init_17 : decode cD_init 17 = .ok (.putfield 13, 3) := by decide +kernel
theorem dD_init_20 : decode cD_init 20 = .ok (.aload_n 0, 1) := by decide +kernel
theorem dD_init_21 : decode cD_init 21 = .ok (.bipush 12, 2) := by decide +kernel
theorem dD_init_23 : decode cD_init 23 = .ok (.newarray .int, 2) := by decide +kernel
theorem dD_init_25 : decode cD_init 25 = .ok (.putfield 17, 3) := by decide +kernel
theorem dD_init_28 : decode cD_init 28 = .ok (.aload_n 0, 1) := by decide +kernel
theorem dD_init_29 : decode cD_init 29 = .ok (.bipush 12, 2) := by decide +kernel
theorem dD_init_31 : decode cD_init 31 = .ok (.newarray .int, 2) := by decide +kernel
theorem dD_init_33 : decode cD_init 33 = .ok (.putfield 20, 3) := by decide +kernel
theorem dD_init_36 : decode cD_init 36 = .ok (.aload_n 0, 1) := by decide +kernel
theorem dD_init_37 : decode cD_init 37 = .ok (.bipush 72, 2) := by decide +kernel
theorem dD_init_39 : decode cD_init 39 = .ok (.newarray .int, 2) := by decide +kernel
theorem dD_init_41 : decode cD_init 41 = .ok (.putfield 23, 3) := by decide +kernel
theorem dD_init_44 : decode cD_init 44 = .ok (.aload_n 0, 1) := by decide +kernel
theorem dD_init_45 : decode cD_init 45 = .ok (.bipush 12, 2) := by decide +kernel
theorem dD_init_47 : decode cD_init 47 = .ok (.newarray .int, 2) := by decide +kernel
theorem dD_init_49 : decode cD_init 49 = .ok (.putfield 26, 3) := by decide +kernel
theorem dD_init_52 : decode cD_init 52 = .ok (.aload_n 0, 1) := by decide +kernel
theorem dD_init_53 : decode cD_init 53 = .ok (.bipush 12, 2) := by decide +kernel
theorem dD_init_55 : decode cD_init 55 = .ok (.newarray .int, 2) := by decide +kernel
theorem dD_init_57 : decode cD_init 57 = .ok (.putfield 29, 3) := by decide +kernel
theorem dD_init_60 : decode cD_init 60 = .ok (.aload_n 0, 1) := by decide +kernel
theorem dD_init_61 : decode cD_init 61 = .ok (.bipush 8, 2) := by decide +kernel
theorem dD_init_63 : decode cD_init 63 = .ok (.newarray .int, 2) := by decide +kernel
theorem dD_init_65 : decode cD_init 65 = .ok (.putfield 32, 3) := by decide +kernel
theorem dD_init_68 : decode cD_init 68 = .ok (.aload_n 0, 1) := by decide +kernel
theorem dD_init_69 : decode cD_init 69 = .ok (.bipush 8, 2) := by decide +kernel
theorem dD_init_71 : decode cD_init 71 = .ok (.newarray .int, 2) := by decide +kernel
theorem dD_init_73 : decode cD_init 73 = .ok (.putfield 35, 3) := by decide +kernel
theorem dD_init_76 : decode cD_init 76 = .ok (.aload_n 0, 1) := by decide +kernel
theorem dD_init_77 : decode cD_init 77 = .ok (.bipush 8, 2) := by decide +kernel
theorem dD_init_79 : decode cD_init 79 = .ok (.newarray .int, 2) := by decide +kernel
theorem dD_init_81 : decode cD_init 81 = .ok (.putfield 38, 3) := by decide +kernel
theorem dD_init_84 : decode cD_init 84 = .ok (.aload_n 0, 1) := by decide +kernel
theorem dD_init_85 : decode cD_init 85 = .ok (.bipush 8, 2) := by decide +kernel
theorem dD_init_87 : decode cD_init 87 = .ok (.newarray .int, 2) := by decide +kernel
theorem dD_init_89 : decode cD_init 89 = .ok (.putfield 41, 3) := by decide +kernel
theorem dD_init_92 : decode cD_init 92 = .ok (.aload_n 0, 1) := by decide +kernel
theorem dD_init_93 : decode cD_init 93 = .ok (.sipush 1000, 3) := by decide +kernel
theorem dD_init_96 : decode cD_init 96 = .ok (.putfield 44, 3) := by decide +kernel
theorem dD_init_99 : decode cD_init 99 = .ok (.aload_n 0, 1) := by decide +kernel
theorem dD_init_100 : decode cD_init 100 = .ok (.sipush 1000, 3) := by decide +kernel
theorem dD_init_103 : decode cD_init 103 = .ok (.putfield 48, 3) := by decide +kernel
theorem dD_init_106 : decode cD_init 106 = .ok (.aload_n 0, 1) := by decide +kernel
theorem dD_init_107 : decode cD_init 107 = .ok (.bipush 40, 2) := by decide +kernel
theorem dD_init_109 : decode cD_init 109 = .ok (.newarray .int, 2) := by decide +kernel
theorem dD_init_111 : decode cD_init 111 = .ok (.putfield 51, 3) := by decide +kernel
theorem dD_init_114 : decode cD_init 114 = .ok (.aload_n 0, 1) := by decide +kernel
theorem dD_init_115 : decode cD_init 115 = .ok (.bipush 40, 2) := by decide +kernel
theorem dD_init_117 : decode cD_init 117 = .ok (.newarray .int, 2) := by decide +kernel
theorem dD_init_119 : decode cD_init 119 = .ok (.putfield 54, 3) := by decide +kernel
theorem dD_init_122 : decode cD_init 122 = .ok (.aload_n 0, 1) := by decide +kernel
theorem dD_init_123 : decode cD_init 123 = .ok (.bipush 40, 2) := by decide +kernel
theorem dD_init_125 : decode cD_init 125 = .ok (.newarray .int, 2) := by decide +kernel
theorem dD_init_127 : decode cD_init 127 = .ok (.putfield 57, 3) := by decide +kernel
theorem dD_init_130 : decode cD_init 130 = .ok (.aload_n 0, 1) := by decide +kernel
theorem dD_init_131 : decode cD_init 131 = .ok (.bipush 40, 2) := by decide +kernel
theorem dD_init_133 : decode cD_init 133 = .ok (.newarray .int, 2) := by decide +kernel
theorem dD_init_135 : decode cD_init 135 = .ok (.putfield 60, 3) := by decide +kernel
theorem dD_init_138 : decode cD_init 138 = .ok (.return_, 1) := by decide +kernel
theorem dD_thrown_0 : decode cD_thrown 0 = .ok (.aload_n 0, 1) := by decide +kernel
theorem dD_thrown_1 : decode cD_thrown 1 = .ok (.getfield 63, 3) := by decide +kernel
theorem dD_thrown_4 : decode cD_thrown 4 = .ok (.ireturn, 1) := by decide +kernel
theorem dD_throwing_0 : decode cD_throwing 0 = .ok (.aload_n 0, 1) := by decide +kernel
theorem dD_throwing_1 : decode cD_throwing 1 = .ok (.iload_n 1, 1) := by decide +kernel
theorem dD_throwing_2 : decode cD_throwing 2 = .ok (.ifCond .eq 7, 3) := by decide +kernel
theorem dD_throwing_5 : decode cD_throwing 5 = .ok (.iconst 1, 1) := by decide +kernel
theorem dD_throwing_6 : decode cD_throwing 6 = .ok (.goto 20, 3) := by decide +kernel
theorem dD_throwing_9 : decode cD_throwing 9 = .ok (.iload_n 2, 1) := by decide +kernel
theorem dD_throwing_10 : decode cD_throwing 10 = .ok (.ifCond .eq 7, 3) := by decide +kernel
theorem dD_throwing_13 : decode cD_throwing 13 = .ok (.iconst 2, 1) := by decide +kernel
theorem dD_throwing_14 : decode cD_throwing 14 = .ok (.goto 12, 3) := by decide +kernel
theorem dD_throwing_17 : decode cD_throwing 17 = .ok (.iload_n 3, 1) := by decide +kernel
theorem dD_throwing_18 : decode cD_throwing 18 = .ok (.ifCond .eq 7, 3) := by decide +kernel
theorem dD_throwing_21 : decode cD_throwing 21 = .ok (.iconst 3, 1) := by decide +kernel
theorem dD_throwing_22 : decode cD_throwing 22 = .ok (.goto 4, 3) := by decide +kernel
theorem dD_throwing_25 : decode cD_throwing 25 = .ok (.iconst 0, 1) := by decide +kernel
theorem dD_throwing_26 : decode cD_throwing 26 = .ok (.putfield 63, 3) := by decide +kernel
theorem dD_throwing_29 : decode cD_throwing 29 = .ok (.aload_n 0, 1) := by decide +kernel
theorem dD_throwing_30 : decode cD_throwing 30 = .ok (.getfield 63, 3) := by decide +kernel
theorem dD_throwing_33 : decode cD_throwing 33 = .ok (.ifCond .le 7, 3) := by decide +kernel
theorem dD_throwing_36 : decode cD_throwing 36 = .ok (.iconst 1, 1) := by decide +kernel
theorem dD_throwing_37 : decode cD_throwing 37 = .ok (.goto 4, 3) := by decide +kernel
theorem dD_throwing_40 : decode cD_throwing 40 = .ok (.iconst 0, 1) := by decide +kernel
theorem dD_throwing_41 : decode cD_throwing 41 = .ok (.ireturn, 1) := by decide +kernel
theorem dD_in_0 : decode cD_in 0 = .ok (.iload_n 0, 1) := by decide +kernel
theorem dD_in_1 : decode cD_in 1 = .ok (.iload_n 1, 1) := by decide +kernel
theorem dD_in_2 : decode cD_in 2 = .ok (.if_icmp .lt 12, 3) := by decide +kernel
theorem dD_in_5 : decode cD_in 5 = .ok (.iload_n 0, 1) := by decide +kernel
theorem dD_in_6 : decode cD_in 6 = .ok (.iload_n 2, 1) := by decide +kernel
theorem dD_in_7 : decode cD_in 7 = .ok (.if_icmp .gt 7, 3) := by decide +kernel
theorem dD_in_10 : decode cD_in 10 = .ok (.iconst 1, 1) := by decide +kernel
theorem dD_in_11 : decode cD_in 11 = .ok (.goto 4, 3) := by decide +kernel
theorem dD_in_14 : decode cD_in 14 = .ok (.iconst 0, 1) := by decide +kernel
theorem dD_in_15 : decode cD_in 15 = .ok (.ireturn, 1) := by decide +kernel
theorem dD_isSize_0 : decode cD_isSize 0 = .ok (.iload_n 0, 1) := by decide +kernel
theorem dD_isSize_1 : decode cD_isSize 1 = .ok (.iconst 1, 1) := by decide +kernel
theorem dD_isSize_2 : decode cD_isSize 2 = .ok (.sipush 1000, 3) := by decide +kernel
theorem dD_isSize_5 : decode cD_isSize 5 = .ok (.invokestatic 66, 3) := by decide +kernel
theorem dD_isSize_8 : decode cD_isSize 8 = .ok (.ireturn, 1) := by decide +kernel
theorem dD_isPart_0 : decode cD_isPart 0 = .ok (.iload_n 1, 1) := by decide +kernel
theorem dD_isPart_1 : decode cD_isPart 1 = .ok (.iconst 0, 1) := by decide +kernel
theorem dD_isPart_2 : decode cD_isPart 2 = .ok (.aload_n 0, 1) := by decide +kernel
theorem dD_isPart_3 : decode cD_isPart 3 = .ok (.getfield 70, 3) := by decide +kernel
theorem dD_isPart_6 : decode cD_isPart 6 = .ok (.iconst 1, 1) := by decide +kernel
theorem dD_isPart_7 : decode cD_isPart 7 = .ok (.isub, 1) := by decide +kernel
theorem dD_isPart_8 : decode cD_isPart 8 = .ok (.invokestatic 66, 3) := by decide +kernel
theorem dD_isPart_11 : decode cD_isPart 11 = .ok (.ireturn, 1) := by decide +kernel
theorem dD_add_0 : decode cD_add 0 = .ok (.aload_n 0, 1) := by decide +kernel
theorem dD_add_1 : decode cD_add 1 = .ok (.getfield 7, 3) := by decide +kernel
theorem dD_add_4 : decode cD_add 4 = .ok (.aload_n 0, 1) := by decide +kernel
theorem dD_add_5 : decode cD_add 5 = .ok (.getfield 70, 3) := by decide +kernel
theorem dD_add_8 : decode cD_add 8 = .ok (.iload_n 1, 1) := by decide +kernel
theorem dD_add_9 : decode cD_add 9 = .ok (.bastore, 1) := by decide +kernel
theorem dD_add_10 : decode cD_add 10 = .ok (.aload_n 0, 1) := by decide +kernel
theorem dD_add_11 : decode cD_add 11 = .ok (.getfield 13, 3) := by decide +kernel
theorem dD_add_14 : decode cD_add 14 = .ok (.aload_n 0, 1) := by decide +kernel
theorem dD_add_15 : decode cD_add 15 = .ok (.getfield 70, 3) := by decide +kernel
theorem dD_add_18 : decode cD_add 18 = .ok (.iload_n 2, 1) := by decide +kernel
theorem dD_add_19 : decode cD_add 19 = .ok (.iastore, 1) := by decide +kernel
theorem dD_add_20 : decode cD_add 20 = .ok (.aload_n 0, 1) := by decide +kernel
theorem dD_add_21 : decode cD_add 21 = .ok (.getfield 17, 3) := by decide +kernel
theorem dD_add_24 : decode cD_add 24 = .ok (.aload_n 0, 1) := by decide +kernel
theorem dD_add_25 : decode cD_add 25 = .ok (.getfield 70, 3) := by decide +kernel
theorem dD_add_28 : decode cD_add 28 = .ok (.iload_n 3, 1) := by decide +kernel
theorem dD_add_29 : decode cD_add 29 = .ok (.iastore, 1) := by decide +kernel
theorem dD_add_30 : decode cD_add 30 = .ok (.aload_n 0, 1) := by decide +kernel
theorem dD_add_31 : decode cD_add 31 = .ok (.getfield 20, 3) := by decide +kernel
theorem dD_add_34 : decode cD_add 34 = .ok (.aload_n 0, 1) := by decide +kernel
theorem dD_add_35 : decode cD_add 35 = .ok (.getfield 70, 3) := by decide +kernel
theorem dD_add_38 : decode cD_add 38 = .ok (.iload 4, 2) := by decide +kernel
theorem dD_add_40 : decode cD_add 40 = .ok (.iastore, 1) := by decide +kernel
theorem dD_add_41 : decode cD_add 41 = .ok (.aload_n 0, 1) := by decide +kernel
theorem dD_add_42 : decode cD_add 42 = .ok (.getfield 29, 3) := by decide +kernel
theorem dD_add_45 : decode cD_add 45 = .ok (.aload_n 0, 1) := by decide +kernel
theorem dD_add_46 : decode cD_add 46 = .ok (.getfield 70, 3) := by decide +kernel
theorem dD_add_49 : decode cD_add 49 = .ok (.iconst (-1), 1) := by decide +kernel
theorem dD_add_50 : decode cD_add 50 = .ok (.iastore, 1) := by decide +kernel
theorem dD_add_51 : decode cD_add 51 = .ok (.iconst 0, 1) := by decide +kernel
theorem dD_add_52 : decode cD_add 52 = .ok (.istore 5, 2) := by decide +kernel
theorem dD_add_54 : decode cD_add 54 = .ok (.iload 5, 2) := by decide +kernel
theorem dD_add_56 : decode cD_add 56 = .ok (.bipush 6, 2) := by decide +kernel
theorem dD_add_58 : decode cD_add 58 = .ok (.if_icmp .ge 25, 3) := by decide +kernel
theorem dD_add_61 : decode cD_add 61 = .ok (.aload_n 0, 1) := by decide +kernel
theorem dD_add_62 : decode cD_add 62 = .ok (.getfield 23, 3) := by decide +kernel
theorem dD_add_65 : decode cD_add 65 = .ok (.bipush 6, 2) := by decide +kernel
theorem dD_add_67 : decode cD_add 67 = .ok (.aload_n 0, 1) := by decide +kernel
theorem dD_add_68 : decode cD_add 68 = .ok (.getfield 70, 3) := by decide +kernel
theorem dD_add_71 : decode cD_add 71 = .ok (.imul, 1) := by decide +kernel
theorem dD_add_72 : decode cD_add 72 = .ok (.iload 5, 2) := by decide +kernel
theorem dD_add_74 : decode cD_add 74 = .ok (.iadd, 1) := by decide +kernel
theorem dD_add_75 : decode cD_add 75 = .ok (.iconst 1, 1) := by decide +kernel
theorem dD_add_76 : decode cD_add 76 = .ok (.iastore, 1) := by decide +kernel
theorem dD_add_77 : decode cD_add 77 = .ok (.iinc 5 1, 3) := by decide +kernel
theorem dD_add_80 : decode cD_add 80 = .ok (.goto (-26), 3) := by decide +kernel
theorem dD_add_83 : decode cD_add 83 = .ok (.aload_n 0, 1) := by decide +kernel
theorem dD_add_84 : decode cD_add 84 = .ok (.dup, 1) := by decide +kernel
theorem dD_add_85 : decode cD_add 85 = .ok (.getfield 70, 3) := by decide +kernel
theorem dD_add_88 : decode cD_add 88 = .ok (.iconst 1, 1) := by decide +kernel
theorem dD_add_89 : decode cD_add 89 = .ok (.iadd, 1) := by decide +kernel
theorem dD_add_90 : decode cD_add 90 = .ok (.putfield 70, 3) := by decide +kernel
theorem dD_add_93 : decode cD_add 93 = .ok (.aload_n 0, 1) := by decide +kernel
theorem dD_add_94 : decode cD_add 94 = .ok (.getfield 70, 3) := by decide +kernel
theorem dD_add_97 : decode cD_add 97 = .ok (.iconst 1, 1) := by decide +kernel
theorem dD_add_98 : decode cD_add 98 = .ok (.isub, 1) := by decide +kernel
theorem dD_add_99 : decode cD_add 99 = .ok (.ireturn, 1) := by decide +kernel
theorem dD_box_0 : decode cD_box 0 = .ok (.aload_n 0, 1) := by decide +kernel
theorem dD_box_1 : decode cD_box 1 = .ok (.aload_n 0, 1) := by decide +kernel
theorem dD_box_2 : decode cD_box 2 = .ok (.getfield 70, 3) := by decide +kernel
theorem dD_box_5 : decode cD_box 5 = .ok (.bipush 12, 2) := by decide +kernel
theorem dD_box_7 : decode cD_box 7 = .ok (.if_icmp .ne 7, 3) := by decide +kernel
theorem dD_box_10 : decode cD_box 10 = .ok (.iconst 1, 1) := by decide +kernel
theorem dD_box_11 : decode cD_box 11 = .ok (.goto 4, 3) := by decide +kernel
theorem dD_box_14 : decode cD_box 14 = .ok (.iconst 0, 1) := by decide +kernel
theorem dD_box_15 : decode cD_box 15 = .ok (.iload_n 1, 1) := by decide +kernel
theorem dD_box_16 : decode cD_box 16 = .ok (.invokestatic 73, 3) := by decide +kernel
theorem dD_box_19 : decode cD_box 19 = .ok (.ifCond .eq 17, 3) := by decide +kernel
theorem dD_box_22 : decode cD_box 22 = .ok (.iload_n 2, 1) := by decide +kernel
theorem dD_box_23 : decode cD_box 23 = .ok (.invokestatic 73, 3) := by decide +kernel
theorem dD_box_26 : decode cD_box 26 = .ok (.ifCond .eq 10, 3) := by decide +kernel
theorem dD_box_29 : decode cD_box 29 = .ok (.iload_n 3, 1) := by decide +kernel
theorem dD_box_30 : decode cD_box 30 = .ok (.invokestatic 73, 3) := by decide +kernel
theorem dD_box_33 : decode cD_box 33 = .ok (.ifCond .ne 7, 3) := by decide +kernel
theorem dD_box_36 : decode cD_box 36 = .ok (.iconst 1, 1) := by decide +kernel
theorem dD_box_37 : decode cD_box 37 = .ok (.goto 4, 3) := by decide +kernel
theorem dD_box_40 : decode cD_box 40 = .ok (.iconst 0, 1) := by decide +kernel
theorem dD_box_41 : decode cD_box 41 = .ok (.iconst 0, 1) := by decide +kernel
theorem dD_box_42 : decode cD_box 42 = .ok (.invokevirtual 77, 3) := by decide +kernel
theorem dD_box_45 : decode cD_box 45 = .ok (.ifCond .eq 5, 3) := by decide +kernel
theorem dD_box_48 : decode cD_box 48 = .ok (.iconst 0, 1) := by decide +kernel
theorem dD_box_49 : decode cD_box 49 = .ok (.ireturn, 1) := by decide +kernel
theorem dD_box_50 : decode cD_box 50 = .ok (.aload_n 0, 1) := by decide +kernel
theorem dD_box_51 : decode cD_box 51 = .ok (.iconst 0, 1) := by decide +kernel
theorem dD_box_52 : decode cD_box 52 = .ok (.iload_n 1, 1) := by decide +kernel
theorem dD_box_53 : decode cD_box 53 = .ok (.iload_n 2, 1) := by decide +kernel
theorem dD_box_54 : decode cD_box 54 = .ok (.iload_n 3, 1) := by decide +kernel
theorem dD_box_55 : decode cD_box 55 = .ok (.invokevirtual 81, 3) := by decide +kernel
theorem dD_box_58 : decode cD_box 58 = .ok (.ireturn, 1) := by decide +kernel
theorem dD_cylinder_0 : decode cD_cylinder 0 = .ok (.aload_n 0, 1) := by decide +kernel
theorem dD_cylinder_1 : decode cD_cylinder 1 = .ok (.aload_n 0, 1) := by decide +kernel
theorem dD_cylinder_2 : decode cD_cylinder 2 = .ok (.getfield 70, 3) := by decide +kernel
theorem dD_cylinder_5 : decode cD_cylinder 5 = .ok (.bipush 12, 2) := by decide +kernel
theorem dD_cylinder_7 : decode cD_cylinder 7 = .ok (.if_icmp .ne 7, 3) := by decide +kernel
theorem dD_cylinder_10 : decode cD_cylinder 10 = .ok (.iconst 1, 1) := by decide +kernel
theorem dD_cylinder_11 : decode cD_cylinder 11 = .ok (.goto 4, 3) := by decide +kernel
theorem dD_cylinder_14 : decode cD_cylinder 14 = .ok (.iconst 0, 1) := by decide +kernel
theorem dD_cylinder_15 : decode cD_cylinder 15 = .ok (.iload_n 1, 1) := by decide +kernel
theorem dD_cylinder_16 : decode cD_cylinder 16 = .ok (.invokestatic 73, 3) := by decide +kernel
theorem dD_cylinder_19 : decode cD_cylinder 19 = .ok (.ifCond .eq 10, 3) := by decide +kernel
theorem dD_cylinder_22 : decode cD_cylinder 22 = .ok (.iload_n 2, 1) := by decide +kernel
theorem dD_cylinder_23 : decode cD_cylinder 23 = .ok (.invokestatic 73, 3) := by decide +kernel
theorem dD_cylinder_26 : decode cD_cylinder 26 = .ok (.ifCond .ne 7, 3) := by decide +kernel
theorem dD_cylinder_29 : decode cD_cylinder 29 = .ok (.iconst 1, 1) := by decide +kernel
theorem dD_cylinder_30 : decode cD_cylinder 30 = .ok (.goto 4, 3) := by decide +kernel
theorem dD_cylinder_33 : decode cD_cylinder 33 = .ok (.iconst 0, 1) := by decide +kernel
theorem dD_cylinder_34 : decode cD_cylinder 34 = .ok (.iconst 0, 1) := by decide +kernel
theorem dD_cylinder_35 : decode cD_cylinder 35 = .ok (.invokevirtual 77, 3) := by decide +kernel
theorem dD_cylinder_38 : decode cD_cylinder 38 = .ok (.ifCond .eq 5, 3) := by decide +kernel
theorem dD_cylinder_41 : decode cD_cylinder 41 = .ok (.iconst 0, 1) := by decide +kernel
theorem dD_cylinder_42 : decode cD_cylinder 42 = .ok (.ireturn, 1) := by decide +kernel
theorem dD_cylinder_43 : decode cD_cylinder 43 = .ok (.aload_n 0, 1) := by decide +kernel
theorem dD_cylinder_44 : decode cD_cylinder 44 = .ok (.iconst 1, 1) := by decide +kernel
theorem dD_cylinder_45 : decode cD_cylinder 45 = .ok (.iload_n 1, 1) := by decide +kernel
theorem dD_cylinder_46 : decode cD_cylinder 46 = .ok (.iload_n 2, 1) := by decide +kernel
theorem dD_cylinder_47 : decode cD_cylinder 47 = .ok (.iconst 0, 1) := by decide +kernel
theorem dD_cylinder_48 : decode cD_cylinder 48 = .ok (.invokevirtual 81, 3) := by decide +kernel
theorem dD_cylinder_51 : decode cD_cylinder 51 = .ok (.ireturn, 1) := by decide +kernel
theorem dD_face_0 : decode cD_face 0 = .ok (.aload_n 0, 1) := by decide +kernel
theorem dD_face_1 : decode cD_face 1 = .ok (.iload_n 1, 1) := by decide +kernel
theorem dD_face_2 : decode cD_face 2 = .ok (.invokevirtual 85, 3) := by decide +kernel
theorem dD_face_5 : decode cD_face 5 = .ok (.ifCond .eq 37, 3) := by decide +kernel
theorem dD_face_8 : decode cD_face 8 = .ok (.iload_n 2, 1) := by decide +kernel
theorem dD_face_9 : decode cD_face 9 = .ok (.iconst 0, 1) := by decide +kernel
theorem dD_face_10 : decode cD_face 10 = .ok (.aload_n 0, 1) := by decide +kernel
theorem dD_face_11 : decode cD_face 11 = .ok (.getfield 7, 3) := by decide +kernel
theorem dD_face_14 : decode cD_face 14 = .ok (.aload_n 0, 1) := by decide +kernel
theorem dD_face_15 : decode cD_face 15 = .ok (.iload_n 1, 1) := by decide +kernel
theorem dD_face_16 : decode cD_face 16 = .ok (.invokevirtual 85, 3) := by decide +kernel
theorem dD_face_19 : decode cD_face 19 = .ok (.ifCond .eq 7, 3) := by decide +kernel
theorem dD_face_22 : decode cD_face 22 = .ok (.iload_n 1, 1) := by decide +kernel
theorem dD_face_23 : decode cD_face 23 = .ok (.goto 4, 3) := by decide +kernel
theorem dD_face_26 : decode cD_face 26 = .ok (.iconst 0, 1) := by decide +kernel
theorem dD_face_27 : decode cD_face 27 = .ok (.baload, 1) := by decide +kernel
theorem dD_face_28 : decode cD_face 28 = .ok (.ifCond .eq 7, 3) := by decide +kernel
theorem dD_face_31 : decode cD_face 31 = .ok (.iconst 2, 1) := by decide +kernel
theorem dD_face_32 : decode cD_face 32 = .ok (.goto 4, 3) := by decide +kernel
theorem dD_face_35 : decode cD_face 35 = .ok (.iconst 5, 1) := by decide +kernel
theorem dD_face_36 : decode cD_face 36 = .ok (.invokestatic 66, 3) := by decide +kernel
theorem dD_face_39 : decode cD_face 39 = .ok (.ifCond .ne 7, 3) := by decide +kernel
theorem dD_face_42 : decode cD_face 42 = .ok (.iconst 1, 1) := by decide +kernel
theorem dD_face_43 : decode cD_face 43 = .ok (.goto 4, 3) := by decide +kernel
theorem dD_face_46 : decode cD_face 46 = .ok (.iconst 0, 1) := by decide +kernel
theorem dD_face_47 : decode cD_face 47 = .ok (.istore 4, 2) := by decide +kernel
theorem dD_face_49 : decode cD_face 49 = .ok (.aload_n 0, 1) := by decide +kernel
theorem dD_face_50 : decode cD_face 50 = .ok (.iload 4, 2) := by decide +kernel
theorem dD_face_52 : decode cD_face 52 = .ok (.iload_n 3, 1) := by decide +kernel
theorem dD_face_53 : decode cD_face 53 = .ok (.iconst 0, 1) := by decide +kernel
theorem dD_face_54 : decode cD_face 54 = .ok (.iconst 2, 1) := by decide +kernel
theorem dD_face_55 : decode cD_face 55 = .ok (.invokestatic 66, 3) := by decide +kernel
theorem dD_face_58 : decode cD_face 58 = .ok (.ifCond .ne 7, 3) := by decide +kernel
theorem dD_face_61 : decode cD_face 61 = .ok (.iconst 1, 1) := by decide +kernel
theorem dD_face_62 : decode cD_face 62 = .ok (.goto 4, 3) := by decide +kernel
theorem dD_face_65 : decode cD_face 65 = .ok (.iconst 0, 1) := by decide +kernel
theorem dD_face_66 : decode cD_face 66 = .ok (.iconst 0, 1) := by decide +kernel
theorem dD_face_67 : decode cD_face 67 = .ok (.invokevirtual 77, 3) := by decide +kernel
theorem dD_face_70 : decode cD_face 70 = .ok (.ifCond .eq 4, 3) := by decide +kernel
theorem dD_face_73 : decode cD_face 73 = .ok (.return_, 1) := by decide +kernel
theorem dD_face_74 : decode cD_face 74 = .ok (.aload_n 0, 1) := by decide +kernel
theorem dD_face_75 : decode cD_face 75 = .ok (.getfield 23, 3) := by decide +kernel
theorem dD_face_78 : decode cD_face 78 = .ok (.bipush 6, 2) := by decide +kernel
theorem dD_face_80 : decode cD_face 80 = .ok (.iload_n 1, 1) := by decide +kernel
theorem dD_face_81 : decode cD_face 81 = .ok (.imul, 1) := by decide +kernel
theorem dD_face_82 : decode cD_face 82 = .ok (.iload_n 2, 1) := by decide +kernel
theorem dD_face_83 : decode cD_face 83 = .ok (.iadd, 1) := by decide +kernel
theorem dD_face_84 : decode cD_face 84 = .ok (.iload_n 3, 1) := by decide +kernel
theorem dD_face_85 : decode cD_face 85 = .ok (.iastore, 1) := by decide +kernel
theorem dD_face_86 : decode cD_face 86 = .ok (.return_, 1) := by decide +kernel
theorem dD_upOf_0 : decode cD_upOf 0 = .ok (.aload_n 0, 1) := by decide +kernel
theorem dD_upOf_1 : decode cD_upOf 1 = .ok (.getfield 7, 3) := by decide +kernel
theorem dD_upOf_4 : decode cD_upOf 4 = .ok (.iload_n 1, 1) := by decide +kernel
theorem dD_upOf_5 : decode cD_upOf 5 = .ok (.baload, 1) := by decide +kernel
theorem dD_upOf_6 : decode cD_upOf 6 = .ok (.ifCond .eq 21, 3) := by decide +kernel
theorem dD_upOf_9 : decode cD_upOf 9 = .ok (.aload_n 0, 1) := by decide +kernel
theorem dD_upOf_10 : decode cD_upOf 10 = .ok (.getfield 13, 3) := by decide +kernel
theorem dD_upOf_13 : decode cD_upOf 13 = .ok (.iload_n 1, 1) := by decide +kernel
theorem dD_upOf_14 : decode cD_upOf 14 = .ok (.iaload, 1) := by decide +kernel
theorem dD_upOf_15 : decode cD_upOf 15 = .ok (.i2l, 1) := by decide +kernel
theorem dD_upOf_16 : decode cD_upOf 16 = .ok (.aload_n 0, 1) := by decide +kernel
theorem dD_upOf_17 : decode cD_upOf 17 = .ok (.getfield 17, 3) := by decide +kernel
theorem dD_upOf_20 : decode cD_upOf 20 = .ok (.iload_n 1, 1) := by decide +kernel
theorem dD_upOf_21 : decode cD_upOf 21 = .ok (.iaload, 1) := by decide +kernel
theorem dD_upOf_22 : decode cD_upOf 22 = .ok (.i2l, 1) := by decide +kernel
theorem dD_upOf_23 : decode cD_upOf 23 = .ok (.lmul, 1) := by decide +kernel
theorem dD_upOf_24 : decode cD_upOf 24 = .ok (.goto 26, 3) := by decide +kernel
theorem dD_upOf_27 : decode cD_upOf 27 = .ok (.aload_n 0, 1) := by decide +kernel
theorem dD_upOf_28 : decode cD_upOf 28 = .ok (.getfield 13, 3) := by decide +kernel
theorem dD_upOf_31 : decode cD_upOf 31 = .ok (.iload_n 1, 1) := by decide +kernel
theorem dD_upOf_32 : decode cD_upOf 32 = .ok (.iaload, 1) := by decide +kernel
theorem dD_upOf_33 : decode cD_upOf 33 = .ok (.i2l, 1) := by decide +kernel
theorem dD_upOf_34 : decode cD_upOf 34 = .ok (.aload_n 0, 1) := by decide +kernel
theorem dD_upOf_35 : decode cD_upOf 35 = .ok (.getfield 17, 3) := by decide +kernel
theorem dD_upOf_38 : decode cD_upOf 38 = .ok (.iload_n 1, 1) := by decide +kernel
theorem dD_upOf_39 : decode cD_upOf 39 = .ok (.iaload, 1) := by decide +kernel
theorem dD_upOf_40 : decode cD_upOf 40 = .ok (.i2l, 1) := by decide +kernel
theorem dD_upOf_41 : decode cD_upOf 41 = .ok (.lmul, 1) := by decide +kernel
theorem dD_upOf_42 : decode cD_upOf 42 = .ok (.aload_n 0, 1) := by decide +kernel
theorem dD_upOf_43 : decode cD_upOf 43 = .ok (.getfield 20, 3) := by decide +kernel
theorem dD_upOf_46 : decode cD_upOf 46 = .ok (.iload_n 1, 1) := by decide +kernel
theorem dD_upOf_47 : decode cD_upOf 47 = .ok (.iaload, 1) := by decide +kernel
theorem dD_upOf_48 : decode cD_upOf 48 = .ok (.i2l, 1) := by decide +kernel
theorem dD_upOf_49 : decode cD_upOf 49 = .ok (.lmul, 1) := by decide +kernel
theorem dD_upOf_50 : decode cD_upOf 50 = .ok (.lreturn, 1) := by decide +kernel
theorem dD_faces_0 : decode cD_faces 0 = .ok (.aload_n 0, 1) := by decide +kernel
theorem dD_faces_1 : decode cD_faces 1 = .ok (.getfield 23, 3) := by decide +kernel
theorem dD_faces_4 : decode cD_faces 4 = .ok (.bipush 6, 2) := by decide +kernel
theorem dD_faces_6 : decode cD_faces 6 = .ok (.iload_n 1, 1) := by decide +kernel
theorem dD_faces_7 : decode cD_faces 7 = .ok (.imul, 1) := by decide +kernel
theorem dD_faces_8 : decode cD_faces 8 = .ok (.iload_n 2, 1) := by decide +kernel
theorem dD_faces_9 : decode cD_faces 9 = .ok (.iadd, 1) := by decide +kernel
theorem dD_faces_10 : decode cD_faces 10 = .ok (.iaload, 1) := by decide +kernel
theorem dD_faces_11 : decode cD_faces 11 = .ok (.aload_n 0, 1) := by decide +kernel
theorem dD_faces_12 : decode cD_faces 12 = .ok (.getfield 23, 3) := by decide +kernel
theorem dD_faces_15 : decode cD_faces 15 = .ok (.bipush 6, 2) := by decide +kernel
theorem dD_faces_17 : decode cD_faces 17 = .ok (.iload_n 1, 1) := by decide +kernel
theorem dD_faces_18 : decode cD_faces 18 = .ok (.imul, 1) := by decide +kernel
theorem dD_faces_19 : decode cD_faces 19 = .ok (.iload_n 2, 1) := by decide +kernel
theorem dD_faces_20 : decode cD_faces 20 = .ok (.iadd, 1) := by decide +kernel
theorem dD_faces_21 : decode cD_faces 21 = .ok (.iconst 1, 1) := by decide +kernel
theorem dD_faces_22 : decode cD_faces 22 = .ok (.iadd, 1) := by decide +kernel
theorem dD_faces_23 : decode cD_faces 23 = .ok (.iaload, 1) := by decide +kernel
theorem dD_faces_24 : decode cD_faces 24 = .ok (.iadd, 1) := by decide +kernel
theorem dD_faces_25 : decode cD_faces 25 = .ok (.ireturn, 1) := by decide +kernel
theorem dD_lowOf_0 : decode cD_lowOf 0 = .ok (.aload_n 0, 1) := by decide +kernel
theorem dD_lowOf_1 : decode cD_lowOf 1 = .ok (.getfield 7, 3) := by decide +kernel
theorem dD_lowOf_4 : decode cD_lowOf 4 = .ok (.iload_n 1, 1) := by decide +kernel
theorem dD_lowOf_5 : decode cD_lowOf 5 = .ok (.baload, 1) := by decide +kernel
theorem dD_lowOf_6 : decode cD_lowOf 6 = .ok (.ifCond .eq 42, 3) := by decide +kernel
theorem dD_lowOf_9 : decode cD_lowOf 9 = .ok (.ldc2_w 88, 3) := by decide +kernel
theorem dD_lowOf_12 : decode cD_lowOf 12 = .ok (.aload_n 0, 1) := by decide +kernel
theorem dD_lowOf_13 : decode cD_lowOf 13 = .ok (.getfield 23, 3) := by decide +kernel
theorem dD_lowOf_16 : decode cD_lowOf 16 = .ok (.bipush 6, 2) := by decide +kernel
theorem dD_lowOf_18 : decode cD_lowOf 18 = .ok (.iload_n 1, 1) := by decide +kernel
theorem dD_lowOf_19 : decode cD_lowOf 19 = .ok (.imul, 1) := by decide +kernel
theorem dD_lowOf_20 : decode cD_lowOf 20 = .ok (.iaload, 1) := by decide +kernel
theorem dD_lowOf_21 : decode cD_lowOf 21 = .ok (.i2l, 1) := by decide +kernel
theorem dD_lowOf_22 : decode cD_lowOf 22 = .ok (.lmul, 1) := by decide +kernel
theorem dD_lowOf_23 : decode cD_lowOf 23 = .ok (.aload_n 0, 1) := by decide +kernel
theorem dD_lowOf_24 : decode cD_lowOf 24 = .ok (.getfield 17, 3) := by decide +kernel
theorem dD_lowOf_27 : decode cD_lowOf 27 = .ok (.iload_n 1, 1) := by decide +kernel
theorem dD_lowOf_28 : decode cD_lowOf 28 = .ok (.iaload, 1) := by decide +kernel
theorem dD_lowOf_29 : decode cD_lowOf 29 = .ok (.i2l, 1) := by decide +kernel
theorem dD_lowOf_30 : decode cD_lowOf 30 = .ok (.lmul, 1) := by decide +kernel
theorem dD_lowOf_31 : decode cD_lowOf 31 = .ok (.aload_n 0, 1) := by decide +kernel
theorem dD_lowOf_32 : decode cD_lowOf 32 = .ok (.iload_n 1, 1) := by decide +kernel
theorem dD_lowOf_33 : decode cD_lowOf 33 = .ok (.iconst 1, 1) := by decide +kernel
theorem dD_lowOf_34 : decode cD_lowOf 34 = .ok (.invokevirtual 90, 3) := by decide +kernel
theorem dD_lowOf_37 : decode cD_lowOf 37 = .ok (.i2l, 1) := by decide +kernel
theorem dD_lowOf_38 : decode cD_lowOf 38 = .ok (.aload_n 0, 1) := by decide +kernel
theorem dD_lowOf_39 : decode cD_lowOf 39 = .ok (.getfield 13, 3) := by decide +kernel
theorem dD_lowOf_42 : decode cD_lowOf 42 = .ok (.iload_n 1, 1) := by decide +kernel
theorem dD_lowOf_43 : decode cD_lowOf 43 = .ok (.iaload, 1) := by decide +kernel
theorem dD_lowOf_44 : decode cD_lowOf 44 = .ok (.i2l, 1) := by decide +kernel
theorem dD_lowOf_45 : decode cD_lowOf 45 = .ok (.lmul, 1) := by decide +kernel
theorem dD_lowOf_46 : decode cD_lowOf 46 = .ok (.ladd, 1) := by decide +kernel
theorem dD_lowOf_47 : decode cD_lowOf 47 = .ok (.lreturn, 1) := by decide +kernel
theorem dD_lowOf_48 : decode cD_lowOf 48 = .ok (.aload_n 0, 1) := by decide +kernel
theorem dD_lowOf_49 : decode cD_lowOf 49 = .ok (.iload_n 1, 1) := by decide +kernel
theorem dD_lowOf_50 : decode cD_lowOf 50 = .ok (.iconst 0, 1) := by decide +kernel
theorem dD_lowOf_51 : decode cD_lowOf 51 = .ok (.invokevirtual 90, 3) := by decide +kernel
theorem dD_lowOf_54 : decode cD_lowOf 54 = .ok (.i2l, 1) := by decide +kernel
theorem dD_lowOf_55 : decode cD_lowOf 55 = .ok (.aload_n 0, 1) := by decide +kernel
theorem dD_lowOf_56 : decode cD_lowOf 56 = .ok (.getfield 17, 3) := by decide +kernel
theorem dD_lowOf_59 : decode cD_lowOf 59 = .ok (.iload_n 1, 1) := by decide +kernel
theorem dD_lowOf_60 : decode cD_lowOf 60 = .ok (.iaload, 1) := by decide +kernel
theorem dD_lowOf_61 : decode cD_lowOf 61 = .ok (.i2l, 1) := by decide +kernel
theorem dD_lowOf_62 : decode cD_lowOf 62 = .ok (.lmul, 1) := by decide +kernel
theorem dD_lowOf_63 : decode cD_lowOf 63 = .ok (.aload_n 0, 1) := by decide +kernel
theorem dD_lowOf_64 : decode cD_lowOf 64 = .ok (.getfield 20, 3) := by decide +kernel
theorem dD_lowOf_67 : decode cD_lowOf 67 = .ok (.iload_n 1, 1) := by decide +kernel
theorem dD_lowOf_68 : decode cD_lowOf 68 = .ok (.iaload, 1) := by decide +kernel
theorem dD_lowOf_69 : decode cD_lowOf 69 = .ok (.i2l, 1) := by decide +kernel
theorem dD_lowOf_70 : decode cD_lowOf 70 = .ok (.lmul, 1) := by decide +kernel
theorem dD_lowOf_71 : decode cD_lowOf 71 = .ok (.aload_n 0, 1) := by decide +kernel
theorem dD_lowOf_72 : decode cD_lowOf 72 = .ok (.iload_n 1, 1) := by decide +kernel
theorem dD_lowOf_73 : decode cD_lowOf 73 = .ok (.iconst 2, 1) := by decide +kernel
theorem dD_lowOf_74 : decode cD_lowOf 74 = .ok (.invokevirtual 90, 3) := by decide +kernel
theorem dD_lowOf_77 : decode cD_lowOf 77 = .ok (.i2l, 1) := by decide +kernel
theorem dD_lowOf_78 : decode cD_lowOf 78 = .ok (.aload_n 0, 1) := by decide +kernel
theorem dD_lowOf_79 : decode cD_lowOf 79 = .ok (.getfield 13, 3) := by decide +kernel
theorem dD_lowOf_82 : decode cD_lowOf 82 = .ok (.iload_n 1, 1) := by decide +kernel
theorem dD_lowOf_83 : decode cD_lowOf 83 = .ok (.iaload, 1) := by decide +kernel
theorem dD_lowOf_84 : decode cD_lowOf 84 = .ok (.i2l, 1) := by decide +kernel
theorem dD_lowOf_85 : decode cD_lowOf 85 = .ok (.lmul, 1) := by decide +kernel
theorem dD_lowOf_86 : decode cD_lowOf 86 = .ok (.aload_n 0, 1) := by decide +kernel
theorem dD_lowOf_87 : decode cD_lowOf 87 = .ok (.getfield 20, 3) := by decide +kernel
theorem dD_lowOf_90 : decode cD_lowOf 90 = .ok (.iload_n 1, 1) := by decide +kernel
theorem dD_lowOf_91 : decode cD_lowOf 91 = .ok (.iaload, 1) := by decide +kernel
theorem dD_lowOf_92 : decode cD_lowOf 92 = .ok (.i2l, 1) := by decide +kernel
theorem dD_lowOf_93 : decode cD_lowOf 93 = .ok (.lmul, 1) := by decide +kernel
theorem dD_lowOf_94 : decode cD_lowOf 94 = .ok (.ladd, 1) := by decide +kernel
theorem dD_lowOf_95 : decode cD_lowOf 95 = .ok (.aload_n 0, 1) := by decide +kernel
theorem dD_lowOf_96 : decode cD_lowOf 96 = .ok (.iload_n 1, 1) := by decide +kernel
theorem dD_lowOf_97 : decode cD_lowOf 97 = .ok (.iconst 4, 1) := by decide +kernel
theorem dD_lowOf_98 : decode cD_lowOf 98 = .ok (.invokevirtual 90, 3) := by decide +kernel
theorem dD_lowOf_101 : decode cD_lowOf 101 = .ok (.i2l, 1) := by decide +kernel
theorem dD_lowOf_102 : decode cD_lowOf 102 = .ok (.aload_n 0, 1) := by decide +kernel
theorem dD_lowOf_103 : decode cD_lowOf 103 = .ok (.getfield 13, 3) := by decide +kernel
theorem dD_lowOf_106 : decode cD_lowOf 106 = .ok (.iload_n 1, 1) := by decide +kernel
theorem dD_lowOf_107 : decode cD_lowOf 107 = .ok (.iaload, 1) := by decide +kernel
theorem dD_lowOf_108 : decode cD_lowOf 108 = .ok (.i2l, 1) := by decide +kernel
theorem dD_lowOf_109 : decode cD_lowOf 109 = .ok (.lmul, 1) := by decide +kernel
theorem dD_lowOf_110 : decode cD_lowOf 110 = .ok (.aload_n 0, 1) := by decide +kernel
theorem dD_lowOf_111 : decode cD_lowOf 111 = .ok (.getfield 17, 3) := by decide +kernel
theorem dD_lowOf_114 : decode cD_lowOf 114 = .ok (.iload_n 1, 1) := by decide +kernel
theorem dD_lowOf_115 : decode cD_lowOf 115 = .ok (.iaload, 1) := by decide +kernel
theorem dD_lowOf_116 : decode cD_lowOf 116 = .ok (.i2l, 1) := by decide +kernel
theorem dD_lowOf_117 : decode cD_lowOf 117 = .ok (.lmul, 1) := by decide +kernel
theorem dD_lowOf_118 : decode cD_lowOf 118 = .ok (.ladd, 1) := by decide +kernel
theorem dD_lowOf_119 : decode cD_lowOf 119 = .ok (.lreturn, 1) := by decide +kernel
theorem dD_modulus_0 : decode cD_modulus 0 = .ok (.aload_n 0, 1) := by decide +kernel
theorem dD_modulus_1 : decode cD_modulus 1 = .ok (.iload_n 1, 1) := by decide +kernel
theorem dD_modulus_2 : decode cD_modulus 2 = .ok (.invokevirtual 85, 3) := by decide +kernel
theorem dD_modulus_5 : decode cD_modulus 5 = .ok (.ifCond .eq 12, 3) := by decide +kernel
theorem dD_modulus_8 : decode cD_modulus 8 = .ok (.iload_n 2, 1) := by decide +kernel
theorem dD_modulus_9 : decode cD_modulus 9 = .ok (.iconst 0, 1) := by decide +kernel
theorem dD_modulus_10 : decode cD_modulus 10 = .ok (.iconst 1, 1) := by decide +kernel
theorem dD_modulus_11 : decode cD_modulus 11 = .ok (.invokestatic 66, 3) := by decide +kernel
theorem dD_modulus_14 : decode cD_modulus 14 = .ok (.ifCond .ne 7, 3) := by decide +kernel
theorem dD_modulus_17 : decode cD_modulus 17 = .ok (.iconst 1, 1) := by decide +kernel
theorem dD_modulus_18 : decode cD_modulus 18 = .ok (.goto 4, 3) := by decide +kernel
theorem dD_modulus_21 : decode cD_modulus 21 = .ok (.iconst 0, 1) := by decide +kernel
theorem dD_modulus_22 : decode cD_modulus 22 = .ok (.istore_n 3, 1) := by decide +kernel
theorem dD_modulus_23 : decode cD_modulus 23 = .ok (.aload_n 0, 1) := by decide +kernel
theorem dD_modulus_24 : decode cD_modulus 24 = .ok (.iload_n 3, 1) := by decide +kernel
theorem dD_modulus_25 : decode cD_modulus 25 = .ok (.iload_n 3, 1) := by decide +kernel
theorem dD_modulus_26 : decode cD_modulus 26 = .ok (.ifCond .ne 25, 3) := by decide +kernel
theorem dD_modulus_29 : decode cD_modulus 29 = .ok (.aload_n 0, 1) := by decide +kernel
theorem dD_modulus_30 : decode cD_modulus 30 = .ok (.iload_n 3, 1) := by decide +kernel
theorem dD_modulus_31 : decode cD_modulus 31 = .ok (.ifCond .eq 7, 3) := by decide +kernel
theorem dD_modulus_34 : decode cD_modulus 34 = .ok (.iconst 0, 1) := by decide +kernel
theorem dD_modulus_35 : decode cD_modulus 35 = .ok (.goto 4, 3) := by decide +kernel
theorem dD_modulus_38 : decode cD_modulus 38 = .ok (.iload_n 1, 1) := by decide +kernel
theorem dD_modulus_39 : decode cD_modulus 39 = .ok (.invokevirtual 94, 3) := by decide +kernel
theorem dD_modulus_42 : decode cD_modulus 42 = .ok (.lconst 0, 1) := by decide +kernel
theorem dD_modulus_43 : decode cD_modulus 43 = .ok (.lcmp, 1) := by decide +kernel
theorem dD_modulus_44 : decode cD_modulus 44 = .ok (.ifCond .ne 7, 3) := by decide +kernel
theorem dD_modulus_47 : decode cD_modulus 47 = .ok (.iconst 1, 1) := by decide +kernel
theorem dD_modulus_48 : decode cD_modulus 48 = .ok (.goto 4, 3) := by decide +kernel
theorem dD_modulus_51 : decode cD_modulus 51 = .ok (.iconst 0, 1) := by decide +kernel
theorem dD_modulus_52 : decode cD_modulus 52 = .ok (.iconst 0, 1) := by decide +kernel
theorem dD_modulus_53 : decode cD_modulus 53 = .ok (.invokevirtual 77, 3) := by decide +kernel
theorem dD_modulus_56 : decode cD_modulus 56 = .ok (.ifCond .eq 5, 3) := by decide +kernel
theorem dD_modulus_59 : decode cD_modulus 59 = .ok (.lconst 0, 1) := by decide +kernel
theorem dD_modulus_60 : decode cD_modulus 60 = .ok (.lreturn, 1) := by decide +kernel
theorem dD_modulus_61 : decode cD_modulus 61 = .ok (.aload_n 0, 1) := by decide +kernel
theorem dD_modulus_62 : decode cD_modulus 62 = .ok (.iload_n 1, 1) := by decide +kernel
theorem dD_modulus_63 : decode cD_modulus 63 = .ok (.invokevirtual 94, 3) := by decide +kernel
theorem dD_modulus_66 : decode cD_modulus 66 = .ok (.lstore 4, 2) := by decide +kernel
theorem dD_modulus_68 : decode cD_modulus 68 = .ok (.aload_n 0, 1) := by decide +kernel
theorem dD_modulus_69 : decode cD_modulus 69 = .ok (.iload_n 1, 1) := by decide +kernel
theorem dD_modulus_70 : decode cD_modulus 70 = .ok (.invokevirtual 98, 3) := by decide +kernel
theorem dD_modulus_73 : decode cD_modulus 73 = .ok (.lstore 6, 2) := by decide +kernel
theorem dD_modulus_75 : decode cD_modulus 75 = .ok (.lload 6, 2) := by decide +kernel
theorem dD_modulus_77 : decode cD_modulus 77 = .ok (.lconst 0, 1) := by decide +kernel
theorem dD_modulus_78 : decode cD_modulus 78 = .ok (.lcmp, 1) := by decide +kernel
theorem dD_modulus_79 : decode cD_modulus 79 = .ok (.ifCond .le 21, 3) := by decide +kernel
theorem dD_modulus_82 : decode cD_modulus 82 = .ok (.lload 4, 2) := by decide +kernel
theorem dD_modulus_84 : decode cD_modulus 84 = .ok (.lload 6, 2) := by decide +kernel
theorem dD_modulus_86 : decode cD_modulus 86 = .ok (.lrem, 1) := by decide +kernel
theorem dD_modulus_87 : decode cD_modulus 87 = .ok (.lstore 8, 2) := by decide +kernel
theorem dD_modulus_89 : decode cD_modulus 89 = .ok (.lload 6, 2) := by decide +kernel
theorem dD_modulus_91 : decode cD_modulus 91 = .ok (.lstore 4, 2) := by decide +kernel
theorem dD_modulus_93 : decode cD_modulus 93 = .ok (.lload 8, 2) := by decide +kernel
theorem dD_modulus_95 : decode cD_modulus 95 = .ok (.lstore 6, 2) := by decide +kernel
theorem dD_modulus_97 : decode cD_modulus 97 = .ok (.goto (-22), 3) := by decide +kernel
theorem dD_modulus_100 : decode cD_modulus 100 = .ok (.iload_n 2, 1) := by decide +kernel
theorem dD_modulus_101 : decode cD_modulus 101 = .ok (.ifCond .ne 11, 3) := by decide +kernel
theorem dD_modulus_104 : decode cD_modulus 104 = .ok (.aload_n 0, 1) := by decide +kernel
theorem dD_modulus_105 : decode cD_modulus 105 = .ok (.iload_n 1, 1) := by decide +kernel
theorem dD_modulus_106 : decode cD_modulus 106 = .ok (.invokevirtual 98, 3) := by decide +kernel
theorem dD_modulus_109 : decode cD_modulus 109 = .ok (.goto 8, 3) := by decide +kernel
theorem dD_modulus_112 : decode cD_modulus 112 = .ok (.aload_n 0, 1) := by decide +kernel
theorem dD_modulus_113 : decode cD_modulus 113 = .ok (.iload_n 1, 1) := by decide +kernel
theorem dD_modulus_114 : decode cD_modulus 114 = .ok (.invokevirtual 94, 3) := by decide +kernel
theorem dD_modulus_117 : decode cD_modulus 117 = .ok (.lload 4, 2) := by decide +kernel
theorem dD_modulus_119 : decode cD_modulus 119 = .ok (.ldiv, 1) := by decide +kernel
theorem dD_modulus_120 : decode cD_modulus 120 = .ok (.lreturn, 1) := by decide +kernel
theorem dD_compare_0 : decode cD_compare 0 = .ok (.aload_n 0, 1) := by decide +kernel
theorem dD_compare_1 : decode cD_compare 1 = .ok (.iload_n 1, 1) := by decide +kernel
theorem dD_compare_2 : decode cD_compare 2 = .ok (.invokevirtual 98, 3) := by decide +kernel
theorem dD_compare_5 : decode cD_compare 5 = .ok (.aload_n 0, 1) := by decide +kernel
theorem dD_compare_6 : decode cD_compare 6 = .ok (.iload_n 2, 1) := by decide +kernel
theorem dD_compare_7 : decode cD_compare 7 = .ok (.invokevirtual 94, 3) := by decide +kernel
theorem dD_compare_10 : decode cD_compare 10 = .ok (.lmul, 1) := by decide +kernel
theorem dD_compare_11 : decode cD_compare 11 = .ok (.aload_n 0, 1) := by decide +kernel
theorem dD_compare_12 : decode cD_compare 12 = .ok (.iload_n 2, 1) := by decide +kernel
theorem dD_compare_13 : decode cD_compare 13 = .ok (.invokevirtual 98, 3) := by decide +kernel
theorem dD_compare_16 : decode cD_compare 16 = .ok (.aload_n 0, 1) := by decide +kernel
theorem dD_compare_17 : decode cD_compare 17 = .ok (.iload_n 1, 1) := by decide +kernel
theorem dD_compare_18 : decode cD_compare 18 = .ok (.invokevirtual 94, 3) := by decide +kernel
theorem dD_compare_21 : decode cD_compare 21 = .ok (.lmul, 1) := by decide +kernel
theorem dD_compare_22 : decode cD_compare 22 = .ok (.lsub, 1) := by decide +kernel
theorem dD_compare_23 : decode cD_compare 23 = .ok (.lreturn, 1) := by decide +kernel
theorem dD_isTold_0 : decode cD_isTold 0 = .ok (.aload_n 0, 1) := by decide +kernel
theorem dD_isTold_1 : decode cD_isTold 1 = .ok (.iload_n 1, 1) := by decide +kernel
theorem dD_isTold_2 : decode cD_isTold 2 = .ok (.invokevirtual 94, 3) := by decide +kernel
theorem dD_isTold_5 : decode cD_isTold 5 = .ok (.lconst 0, 1) := by decide +kernel
theorem dD_isTold_6 : decode cD_isTold 6 = .ok (.lcmp, 1) := by decide +kernel
theorem dD_isTold_7 : decode cD_isTold 7 = .ok (.ifCond .le 7, 3) := by decide +kernel
theorem dD_isTold_10 : decode cD_isTold 10 = .ok (.iconst 1, 1) := by decide +kernel
theorem dD_isTold_11 : decode cD_isTold 11 = .ok (.goto 4, 3) := by decide +kernel
theorem dD_isTold_14 : decode cD_isTold 14 = .ok (.iconst 0, 1) := by decide +kernel
theorem dD_isTold_15 : decode cD_isTold 15 = .ok (.ireturn, 1) := by decide +kernel
theorem dD_join_0 : decode cD_join 0 = .ok (.aload_n 0, 1) := by decide +kernel
theorem dD_join_1 : decode cD_join 1 = .ok (.iload_n 1, 1) := by decide +kernel
theorem dD_join_2 : decode cD_join 2 = .ok (.invokevirtual 85, 3) := by decide +kernel
theorem dD_join_5 : decode cD_join 5 = .ok (.ifCond .eq 16, 3) := by decide +kernel
theorem dD_join_8 : decode cD_join 8 = .ok (.aload_n 0, 1) := by decide +kernel
theorem dD_join_9 : decode cD_join 9 = .ok (.iload_n 2, 1) := by decide +kernel
theorem dD_join_10 : decode cD_join 10 = .ok (.invokevirtual 85, 3) := by decide +kernel
theorem dD_join_13 : decode cD_join 13 = .ok (.ifCond .eq 8, 3) := by decide +kernel
theorem dD_join_16 : decode cD_join 16 = .ok (.iload_n 1, 1) := by decide +kernel
theorem dD_join_17 : decode cD_join 17 = .ok (.iload_n 2, 1) := by decide +kernel
theorem dD_join_18 : decode cD_join 18 = .ok (.if_icmp .ne 7, 3) := by decide +kernel
theorem dD_join_21 : decode cD_join 21 = .ok (.iconst 1, 1) := by decide +kernel
theorem dD_join_22 : decode cD_join 22 = .ok (.goto 4, 3) := by decide +kernel
theorem dD_join_25 : decode cD_join 25 = .ok (.iconst 0, 1) := by decide +kernel
theorem dD_join_26 : decode cD_join 26 = .ok (.istore 4, 2) := by decide +kernel
theorem dD_join_28 : decode cD_join 28 = .ok (.aload_n 0, 1) := by decide +kernel
theorem dD_join_29 : decode cD_join 29 = .ok (.iload 4, 2) := by decide +kernel
theorem dD_join_31 : decode cD_join 31 = .ok (.iload 4, 2) := by decide +kernel
theorem dD_join_33 : decode cD_join 33 = .ok (.ifCond .ne 38, 3) := by decide +kernel
theorem dD_join_36 : decode cD_join 36 = .ok (.aload_n 0, 1) := by decide +kernel
theorem dD_join_37 : decode cD_join 37 = .ok (.getfield 26, 3) := by decide +kernel
theorem dD_join_40 : decode cD_join 40 = .ok (.iload 4, 2) := by decide +kernel
theorem dD_join_42 : decode cD_join 42 = .ok (.ifCond .eq 7, 3) := by decide +kernel
theorem dD_join_45 : decode cD_join 45 = .ok (.iconst 0, 1) := by decide +kernel
theorem dD_join_46 : decode cD_join 46 = .ok (.goto 4, 3) := by decide +kernel
theorem dD_join_49 : decode cD_join 49 = .ok (.iload_n 1, 1) := by decide +kernel
theorem dD_join_50 : decode cD_join 50 = .ok (.iaload, 1) := by decide +kernel
theorem dD_join_51 : decode cD_join 51 = .ok (.iload_n 2, 1) := by decide +kernel
theorem dD_join_52 : decode cD_join 52 = .ok (.ishr, 1) := by decide +kernel
theorem dD_join_53 : decode cD_join 53 = .ok (.iconst 1, 1) := by decide +kernel
theorem dD_join_54 : decode cD_join 54 = .ok (.iand, 1) := by decide +kernel
theorem dD_join_55 : decode cD_join 55 = .ok (.iload_n 3, 1) := by decide +kernel
theorem dD_join_56 : decode cD_join 56 = .ok (.ifCond .eq 7, 3) := by decide +kernel
theorem dD_join_59 : decode cD_join 59 = .ok (.iconst 1, 1) := by decide +kernel
theorem dD_join_60 : decode cD_join 60 = .ok (.goto 4, 3) := by decide +kernel
theorem dD_join_63 : decode cD_join 63 = .ok (.iconst 0, 1) := by decide +kernel
theorem dD_join_64 : decode cD_join 64 = .ok (.if_icmp .ne 7, 3) := by decide +kernel
theorem dD_join_67 : decode cD_join 67 = .ok (.iconst 1, 1) := by decide +kernel
theorem dD_join_68 : decode cD_join 68 = .ok (.goto 4, 3) := by decide +kernel
theorem dD_join_71 : decode cD_join 71 = .ok (.iconst 0, 1) := by decide +kernel
theorem dD_join_72 : decode cD_join 72 = .ok (.iconst 0, 1) := by decide +kernel
theorem dD_join_73 : decode cD_join 73 = .ok (.invokevirtual 77, 3) := by decide +kernel
theorem dD_join_76 : decode cD_join 76 = .ok (.ifCond .eq 4, 3) := by decide +kernel
theorem dD_join_79 : decode cD_join 79 = .ok (.return_, 1) := by decide +kernel
theorem dD_join_80 : decode cD_join 80 = .ok (.aload_n 0, 1) := by decide +kernel
theorem dD_join_81 : decode cD_join 81 = .ok (.getfield 26, 3) := by decide +kernel
theorem dD_join_84 : decode cD_join 84 = .ok (.iload_n 1, 1) := by decide +kernel
theorem dD_join_85 : decode cD_join 85 = .ok (.dup2, 1) := by decide +kernel
theorem dD_join_86 : decode cD_join 86 = .ok (.iaload, 1) := by decide +kernel
theorem dD_join_87 : decode cD_join 87 = .ok (.iconst 1, 1) := by decide +kernel
theorem dD_join_88 : decode cD_join 88 = .ok (.iload_n 2, 1) := by decide +kernel
theorem dD_join_89 : decode cD_join 89 = .ok (.ishl, 1) := by decide +kernel
theorem dD_join_90 : decode cD_join 90 = .ok (.ixor, 1) := by decide +kernel
theorem dD_join_91 : decode cD_join 91 = .ok (.iastore, 1) := by decide +kernel
theorem dD_join_92 : decode cD_join 92 = .ok (.aload_n 0, 1) := by decide +kernel
theorem dD_join_93 : decode cD_join 93 = .ok (.getfield 26, 3) := by decide +kernel
theorem dD_join_96 : decode cD_join 96 = .ok (.iload_n 2, 1) := by decide +kernel
theorem dD_join_97 : decode cD_join 97 = .ok (.dup2, 1) := by decide +kernel
theorem dD_join_98 : decode cD_join 98 = .ok (.iaload, 1) := by decide +kernel
theorem dD_join_99 : decode cD_join 99 = .ok (.iconst 1, 1) := by decide +kernel
theorem dD_join_100 : decode cD_join 100 = .ok (.iload_n 1, 1) := by decide +kernel
theorem dD_join_101 : decode cD_join 101 = .ok (.ishl, 1) := by decide +kernel
theorem dD_join_102 : decode cD_join 102 = .ok (.ixor, 1) := by decide +kernel
theorem dD_join_103 : decode cD_join 103 = .ok (.iastore, 1) := by decide +kernel
theorem dD_join_104 : decode cD_join 104 = .ok (.return_, 1) := by decide +kernel
theorem dD_order_0 : decode cD_order 0 = .ok (.aload_n 0, 1) := by decide +kernel
theorem dD_order_1 : decode cD_order 1 = .ok (.iload_n 1, 1) := by decide +kernel
theorem dD_order_2 : decode cD_order 2 = .ok (.ifCond .ge 7, 3) := by decide +kernel
theorem dD_order_5 : decode cD_order 5 = .ok (.iconst 1, 1) := by decide +kernel
theorem dD_order_6 : decode cD_order 6 = .ok (.goto 4, 3) := by decide +kernel
theorem dD_order_9 : decode cD_order 9 = .ok (.iconst 0, 1) := by decide +kernel
theorem dD_order_10 : decode cD_order 10 = .ok (.iconst 0, 1) := by decide +kernel
theorem dD_order_11 : decode cD_order 11 = .ok (.iconst 0, 1) := by decide +kernel
theorem dD_order_12 : decode cD_order 12 = .ok (.invokevirtual 77, 3) := by decide +kernel
theorem dD_order_15 : decode cD_order 15 = .ok (.ifCond .eq 5, 3) := by decide +kernel
theorem dD_order_18 : decode cD_order 18 = .ok (.iconst 0, 1) := by decide +kernel
theorem dD_order_19 : decode cD_order 19 = .ok (.ireturn, 1) := by decide +kernel
theorem dD_order_20 : decode cD_order 20 = .ok (.iconst 0, 1) := by decide +kernel
theorem dD_order_21 : decode cD_order 21 = .ok (.istore_n 2, 1) := by decide +kernel
theorem dD_order_22 : decode cD_order 22 = .ok (.iload_n 2, 1) := by decide +kernel
theorem dD_order_23 : decode cD_order 23 = .ok (.aload_n 0, 1) := by decide +kernel
theorem dD_order_24 : decode cD_order 24 = .ok (.getfield 70, 3) := by decide +kernel
theorem dD_order_27 : decode cD_order 27 = .ok (.if_icmp .ge 111, 3) := by decide +kernel
theorem dD_order_30 : decode cD_order 30 = .ok (.iconst 0, 1) := by decide +kernel
theorem dD_order_31 : decode cD_order 31 = .ok (.istore_n 3, 1) := by decide +kernel
theorem dD_order_32 : decode cD_order 32 = .ok (.iconst 0, 1) := by decide +kernel
theorem dD_order_33 : decode cD_order 33 = .ok (.istore 4, 2) := by decide +kernel
theorem dD_order_35 : decode cD_order 35 = .ok (.iload 4, 2) := by decide +kernel
theorem dD_order_37 : decode cD_order 37 = .ok (.aload_n 0, 1) := by decide +kernel
theorem dD_order_38 : decode cD_order 38 = .ok (.getfield 70, 3) := by decide +kernel
theorem dD_order_41 : decode cD_order 41 = .ok (.if_icmp .ge 76, 3) := by decide +kernel
theorem dD_order_44 : decode cD_order 44 = .ok (.aload_n 0, 1) := by decide +kernel
theorem dD_order_45 : decode cD_order 45 = .ok (.iload_n 2, 1) := by decide +kernel
theorem dD_order_46 : decode cD_order 46 = .ok (.invokevirtual 101, 3) := by decide +kernel
theorem dD_order_49 : decode cD_order 49 = .ok (.ifCond .eq 68, 3) := by decide +kernel
theorem dD_order_52 : decode cD_order 52 = .ok (.aload_n 0, 1) := by decide +kernel
theorem dD_order_53 : decode cD_order 53 = .ok (.iload 4, 2) := by decide +kernel
theorem dD_order_55 : decode cD_order 55 = .ok (.invokevirtual 101, 3) := by decide +kernel
theorem dD_order_58 : decode cD_order 58 = .ok (.ifCond .eq 37, 3) := by decide +kernel
theorem dD_order_61 : decode cD_order 61 = .ok (.aload_n 0, 1) := by decide +kernel
theorem dD_order_62 : decode cD_order 62 = .ok (.iload 4, 2) := by decide +kernel
theorem dD_order_64 : decode cD_order 64 = .ok (.iload_n 2, 1) := by decide +kernel
theorem dD_order_65 : decode cD_order 65 = .ok (.invokevirtual 104, 3) := by decide +kernel
theorem dD_order_68 : decode cD_order 68 = .ok (.lconst 0, 1) := by decide +kernel
theorem dD_order_69 : decode cD_order 69 = .ok (.lcmp, 1) := by decide +kernel
theorem dD_order_70 : decode cD_order 70 = .ok (.ifCond .lt 21, 3) := by decide +kernel
theorem dD_order_73 : decode cD_order 73 = .ok (.aload_n 0, 1) := by decide +kernel
theorem dD_order_74 : decode cD_order 74 = .ok (.iload 4, 2) := by decide +kernel
theorem dD_order_76 : decode cD_order 76 = .ok (.iload_n 2, 1) := by decide +kernel
theorem dD_order_77 : decode cD_order 77 = .ok (.invokevirtual 104, 3) := by decide +kernel
theorem dD_order_80 : decode cD_order 80 = .ok (.lconst 0, 1) := by decide +kernel
theorem dD_order_81 : decode cD_order 81 = .ok (.lcmp, 1) := by decide +kernel
theorem dD_order_82 : decode cD_order 82 = .ok (.ifCond .ne 13, 3) := by decide +kernel
theorem dD_order_85 : decode cD_order 85 = .ok (.iload 4, 2) := by decide +kernel
theorem dD_order_87 : decode cD_order 87 = .ok (.iload_n 2, 1) := by decide +kernel
theorem dD_order_88 : decode cD_order 88 = .ok (.if_icmp .ge 7, 3) := by decide +kernel
theorem dD_order_91 : decode cD_order 91 = .ok (.iconst 1, 1) := by decide +kernel
theorem dD_order_92 : decode cD_order 92 = .ok (.goto 4, 3) := by decide +kernel
theorem dD_order_95 : decode cD_order 95 = .ok (.iconst 0, 1) := by decide +kernel
theorem dD_order_96 : decode cD_order 96 = .ok (.istore 5, 2) := by decide +kernel
theorem dD_order_98 : decode cD_order 98 = .ok (.iload_n 3, 1) := by decide +kernel
theorem dD_order_99 : decode cD_order 99 = .ok (.iload 5, 2) := by decide +kernel
theorem dD_order_101 : decode cD_order 101 = .ok (.ifCond .eq 7, 3) := by decide +kernel
theorem dD_order_104 : decode cD_order 104 = .ok (.iconst 1, 1) := by decide +kernel
theorem dD_order_105 : decode cD_order 105 = .ok (.goto 4, 3) := by decide +kernel
theorem dD_order_108 : decode cD_order 108 = .ok (.iconst 0, 1) := by decide +kernel
theorem dD_order_109 : decode cD_order 109 = .ok (.iadd, 1) := by decide +kernel
theorem dD_order_110 : decode cD_order 110 = .ok (.istore_n 3, 1) := by decide +kernel
theorem dD_order_111 : decode cD_order 111 = .ok (.iinc 4 1, 3) := by decide +kernel
theorem dD_order_114 : decode cD_order 114 = .ok (.goto (-79), 3) := by decide +kernel
theorem dD_order_117 : decode cD_order 117 = .ok (.aload_n 0, 1) := by decide +kernel
theorem dD_order_118 : decode cD_order 118 = .ok (.iload_n 2, 1) := by decide +kernel
theorem dD_order_119 : decode cD_order 119 = .ok (.invokevirtual 101, 3) := by decide +kernel
theorem dD_order_122 : decode cD_order 122 = .ok (.ifCond .eq 10, 3) := by decide +kernel
theorem dD_order_125 : decode cD_order 125 = .ok (.iload_n 3, 1) := by decide +kernel
theorem dD_order_126 : decode cD_order 126 = .ok (.iload_n 1, 1) := by decide +kernel
theorem dD_order_127 : decode cD_order 127 = .ok (.if_icmp .ne 5, 3) := by decide +kernel
theorem dD_order_130 : decode cD_order 130 = .ok (.iload_n 2, 1) := by decide +kernel
theorem dD_order_131 : decode cD_order 131 = .ok (.ireturn, 1) := by decide +kernel
theorem dD_order_132 : decode cD_order 132 = .ok (.iinc 2 1, 3) := by decide +kernel
theorem dD_order_135 : decode cD_order 135 = .ok (.goto (-113), 3) := by decide +kernel
theorem dD_order_138 : decode cD_order 138 = .ok (.iconst (-1), 1) := by decide +kernel
theorem dD_order_139 : decode cD_order 139 = .ok (.ireturn, 1) := by decide +kernel
theorem dD_riserRow_0 : decode cD_riserRow 0 = .ok (.aload_n 0, 1) := by decide +kernel
theorem dD_riserRow_1 : decode cD_riserRow 1 = .ok (.aload_n 0, 1) := by decide +kernel
theorem dD_riserRow_2 : decode cD_riserRow 2 = .ok (.getfield 108, 3) := by decide +kernel
theorem dD_riserRow_5 : decode cD_riserRow 5 = .ok (.bipush 8, 2) := by decide +kernel
theorem dD_riserRow_7 : decode cD_riserRow 7 = .ok (.if_icmp .ne 7, 3) := by decide +kernel
theorem dD_riserRow_10 : decode cD_riserRow 10 = .ok (.iconst 1, 1) := by decide +kernel
theorem dD_riserRow_11 : decode cD_riserRow 11 = .ok (.goto 4, 3) := by decide +kernel
theorem dD_riserRow_14 : decode cD_riserRow 14 = .ok (.iconst 0, 1) := by decide +kernel
theorem dD_riserRow_15 : decode cD_riserRow 15 = .ok (.iload_n 1, 1) := by decide +kernel
theorem dD_riserRow_16 : decode cD_riserRow 16 = .ok (.invokestatic 73, 3) := by decide +kernel
theorem dD_riserRow_19 : decode cD_riserRow 19 = .ok (.ifCond .eq 10, 3) := by decide +kernel
theorem dD_riserRow_22 : decode cD_riserRow 22 = .ok (.iload_n 2, 1) := by decide +kernel
theorem dD_riserRow_23 : decode cD_riserRow 23 = .ok (.invokestatic 73, 3) := by decide +kernel
theorem dD_riserRow_26 : decode cD_riserRow 26 = .ok (.ifCond .ne 7, 3) := by decide +kernel
theorem dD_riserRow_29 : decode cD_riserRow 29 = .ok (.iconst 1, 1) := by decide +kernel
theorem dD_riserRow_30 : decode cD_riserRow 30 = .ok (.goto 4, 3) := by decide +kernel
theorem dD_riserRow_33 : decode cD_riserRow 33 = .ok (.iconst 0, 1) := by decide +kernel
theorem dD_riserRow_34 : decode cD_riserRow 34 = .ok (.iconst 0, 1) := by decide +kernel
theorem dD_riserRow_35 : decode cD_riserRow 35 = .ok (.invokevirtual 77, 3) := by decide +kernel
theorem dD_riserRow_38 : decode cD_riserRow 38 = .ok (.ifCond .eq 5, 3) := by decide +kernel
theorem dD_riserRow_41 : decode cD_riserRow 41 = .ok (.iconst 0, 1) := by decide +kernel
theorem dD_riserRow_42 : decode cD_riserRow 42 = .ok (.ireturn, 1) := by decide +kernel
theorem dD_riserRow_43 : decode cD_riserRow 43 = .ok (.aload_n 0, 1) := by decide +kernel
theorem dD_riserRow_44 : decode cD_riserRow 44 = .ok (.getfield 32, 3) := by decide +kernel
theorem dD_riserRow_47 : decode cD_riserRow 47 = .ok (.aload_n 0, 1) := by decide +kernel
theorem dD_riserRow_48 : decode cD_riserRow 48 = .ok (.getfield 108, 3) := by decide +kernel
theorem dD_riserRow_51 : decode cD_riserRow 51 = .ok (.iload_n 1, 1) := by decide +kernel
theorem dD_riserRow_52 : decode cD_riserRow 52 = .ok (.iastore, 1) := by decide +kernel
theorem dD_riserRow_53 : decode cD_riserRow 53 = .ok (.aload_n 0, 1) := by decide +kernel
theorem dD_riserRow_54 : decode cD_riserRow 54 = .ok (.getfield 35, 3) := by decide +kernel
theorem dD_riserRow_57 : decode cD_riserRow 57 = .ok (.aload_n 0, 1) := by decide +kernel
theorem dD_riserRow_58 : decode cD_riserRow 58 = .ok (.getfield 108, 3) := by decide +kernel
theorem dD_riserRow_61 : decode cD_riserRow 61 = .ok (.iload_n 2, 1) := by decide +kernel
theorem dD_riserRow_62 : decode cD_riserRow 62 = .ok (.iastore, 1) := by decide +kernel
theorem dD_riserRow_63 : decode cD_riserRow 63 = .ok (.aload_n 0, 1) := by decide +kernel
theorem dD_riserRow_64 : decode cD_riserRow 64 = .ok (.dup, 1) := by decide +kernel
theorem dD_riserRow_65 : decode cD_riserRow 65 = .ok (.getfield 108, 3) := by decide +kernel
theorem dD_riserRow_68 : decode cD_riserRow 68 = .ok (.iconst 1, 1) := by decide +kernel
theorem dD_riserRow_69 : decode cD_riserRow 69 = .ok (.iadd, 1) := by decide +kernel
theorem dD_riserRow_70 : decode cD_riserRow 70 = .ok (.putfield 108, 3) := by decide +kernel
theorem dD_riserRow_73 : decode cD_riserRow 73 = .ok (.aload_n 0, 1) := by decide +kernel
theorem dD_riserRow_74 : decode cD_riserRow 74 = .ok (.getfield 108, 3) := by decide +kernel
theorem dD_riserRow_77 : decode cD_riserRow 77 = .ok (.ireturn, 1) := by decide +kernel
theorem dD_rowFor_0 : decode cD_rowFor 0 = .ok (.iconst (-1), 1) := by decide +kernel
theorem dD_rowFor_1 : decode cD_rowFor 1 = .ok (.istore_n 2, 1) := by decide +kernel
theorem dD_rowFor_2 : decode cD_rowFor 2 = .ok (.aload_n 0, 1) := by decide +kernel
theorem dD_rowFor_3 : decode cD_rowFor 3 = .ok (.getfield 108, 3) := by decide +kernel
theorem dD_rowFor_6 : decode cD_rowFor 6 = .ok (.iconst 1, 1) := by decide +kernel
theorem dD_rowFor_7 : decode cD_rowFor 7 = .ok (.isub, 1) := by decide +kernel
theorem dD_rowFor_8 : decode cD_rowFor 8 = .ok (.istore_n 3, 1) := by decide +kernel
theorem dD_rowFor_9 : decode cD_rowFor 9 = .ok (.iload_n 3, 1) := by decide +kernel
theorem dD_rowFor_10 : decode cD_rowFor 10 = .ok (.ifCond .lt 81, 3) := by decide +kernel
theorem dD_rowFor_13 : decode cD_rowFor 13 = .ok (.aload_n 0, 1) := by decide +kernel
theorem dD_rowFor_14 : decode cD_rowFor 14 = .ok (.getfield 32, 3) := by decide +kernel
theorem dD_rowFor_17 : decode cD_rowFor 17 = .ok (.iload_n 3, 1) := by decide +kernel
theorem dD_rowFor_18 : decode cD_rowFor 18 = .ok (.iaload, 1) := by decide +kernel
theorem dD_rowFor_19 : decode cD_rowFor 19 = .ok (.i2l, 1) := by decide +kernel
theorem dD_rowFor_20 : decode cD_rowFor 20 = .ok (.aload_n 0, 1) := by decide +kernel
theorem dD_rowFor_21 : decode cD_rowFor 21 = .ok (.getfield 35, 3) := by decide +kernel
theorem dD_rowFor_24 : decode cD_rowFor 24 = .ok (.iload_n 3, 1) := by decide +kernel
theorem dD_rowFor_25 : decode cD_rowFor 25 = .ok (.iaload, 1) := by decide +kernel
theorem dD_rowFor_26 : decode cD_rowFor 26 = .ok (.i2l, 1) := by decide +kernel
theorem dD_rowFor_27 : decode cD_rowFor 27 = .ok (.lmul, 1) := by decide +kernel
theorem dD_rowFor_28 : decode cD_rowFor 28 = .ok (.lstore 4, 2) := by decide +kernel
theorem dD_rowFor_30 : decode cD_rowFor 30 = .ok (.ldc2_w 88, 3) := by decide +kernel
theorem dD_rowFor_33 : decode cD_rowFor 33 = .ok (.aload_n 0, 1) := by decide +kernel
theorem dD_rowFor_34 : decode cD_rowFor 34 = .ok (.getfield 35, 3) := by decide +kernel
theorem dD_rowFor_37 : decode cD_rowFor 37 = .ok (.iload_n 3, 1) := by decide +kernel
theorem dD_rowFor_38 : decode cD_rowFor 38 = .ok (.iaload, 1) := by decide +kernel
theorem dD_rowFor_39 : decode cD_rowFor 39 = .ok (.i2l, 1) := by decide +kernel
theorem dD_rowFor_40 : decode cD_rowFor 40 = .ok (.lmul, 1) := by decide +kernel
theorem dD_rowFor_41 : decode cD_rowFor 41 = .ok (.aload_n 0, 1) := by decide +kernel
theorem dD_rowFor_42 : decode cD_rowFor 42 = .ok (.getfield 32, 3) := by decide +kernel
theorem dD_rowFor_45 : decode cD_rowFor 45 = .ok (.iload_n 3, 1) := by decide +kernel
theorem dD_rowFor_46 : decode cD_rowFor 46 = .ok (.iaload, 1) := by decide +kernel
theorem dD_rowFor_47 : decode cD_rowFor 47 = .ok (.i2l, 1) := by decide +kernel
theorem dD_rowFor_48 : decode cD_rowFor 48 = .ok (.ladd, 1) := by decide +kernel
theorem dD_rowFor_49 : decode cD_rowFor 49 = .ok (.lstore 6, 2) := by decide +kernel
theorem dD_rowFor_51 : decode cD_rowFor 51 = .ok (.ldc2_w 111, 3) := by decide +kernel
theorem dD_rowFor_54 : decode cD_rowFor 54 = .ok (.lload 4, 2) := by decide +kernel
theorem dD_rowFor_56 : decode cD_rowFor 56 = .ok (.lmul, 1) := by decide +kernel
theorem dD_rowFor_57 : decode cD_rowFor 57 = .ok (.aload_n 0, 1) := by decide +kernel
theorem dD_rowFor_58 : decode cD_rowFor 58 = .ok (.iload_n 1, 1) := by decide +kernel
theorem dD_rowFor_59 : decode cD_rowFor 59 = .ok (.invokevirtual 94, 3) := by decide +kernel
theorem dD_rowFor_62 : decode cD_rowFor 62 = .ok (.lmul, 1) := by decide +kernel
theorem dD_rowFor_63 : decode cD_rowFor 63 = .ok (.ldc2_w 113, 3) := by decide +kernel
theorem dD_rowFor_66 : decode cD_rowFor 66 = .ok (.aload_n 0, 1) := by decide +kernel
theorem dD_rowFor_67 : decode cD_rowFor 67 = .ok (.iload_n 1, 1) := by decide +kernel
theorem dD_rowFor_68 : decode cD_rowFor 68 = .ok (.invokevirtual 98, 3) := by decide +kernel
theorem dD_rowFor_71 : decode cD_rowFor 71 = .ok (.lmul, 1) := by decide +kernel
theorem dD_rowFor_72 : decode cD_rowFor 72 = .ok (.lload 6, 2) := by decide +kernel
theorem dD_rowFor_74 : decode cD_rowFor 74 = .ok (.lmul, 1) := by decide +kernel
theorem dD_rowFor_75 : decode cD_rowFor 75 = .ok (.lcmp, 1) := by decide +kernel
theorem dD_rowFor_76 : decode cD_rowFor 76 = .ok (.ifCond .lt 7, 3) := by decide +kernel
theorem dD_rowFor_79 : decode cD_rowFor 79 = .ok (.iload_n 3, 1) := by decide +kernel
theorem dD_rowFor_80 : decode cD_rowFor 80 = .ok (.goto 4, 3) := by decide +kernel
theorem dD_rowFor_83 : decode cD_rowFor 83 = .ok (.iload_n 2, 1) := by decide +kernel
theorem dD_rowFor_84 : decode cD_rowFor 84 = .ok (.istore_n 2, 1) := by decide +kernel
theorem dD_rowFor_85 : decode cD_rowFor 85 = .ok (.iinc 3 (-1), 3) := by decide +kernel
theorem dD_rowFor_88 : decode cD_rowFor 88 = .ok (.goto (-79), 3) := by decide +kernel
theorem dD_rowFor_91 : decode cD_rowFor 91 = .ok (.iload_n 2, 1) := by decide +kernel
theorem dD_rowFor_92 : decode cD_rowFor 92 = .ok (.ireturn, 1) := by decide +kernel
theorem dD_riser_0 : decode cD_riser 0 = .ok (.aload_n 0, 1) := by decide +kernel
theorem dD_riser_1 : decode cD_riser 1 = .ok (.iload_n 1, 1) := by decide +kernel
theorem dD_riser_2 : decode cD_riser 2 = .ok (.invokevirtual 85, 3) := by decide +kernel
theorem dD_riser_5 : decode cD_riser 5 = .ok (.ifCond .ne 7, 3) := by decide +kernel
theorem dD_riser_8 : decode cD_riser 8 = .ok (.iconst 1, 1) := by decide +kernel
theorem dD_riser_9 : decode cD_riser 9 = .ok (.goto 4, 3) := by decide +kernel
theorem dD_riser_12 : decode cD_riser 12 = .ok (.iconst 0, 1) := by decide +kernel
theorem dD_riser_13 : decode cD_riser 13 = .ok (.istore_n 2, 1) := by decide +kernel
theorem dD_riser_14 : decode cD_riser 14 = .ok (.iload_n 2, 1) := by decide +kernel
theorem dD_riser_15 : decode cD_riser 15 = .ok (.ifCond .ne 39, 3) := by decide +kernel
theorem dD_riser_18 : decode cD_riser 18 = .ok (.aload_n 0, 1) := by decide +kernel
theorem dD_riser_19 : decode cD_riser 19 = .ok (.iload_n 2, 1) := by decide +kernel
theorem dD_riser_20 : decode cD_riser 20 = .ok (.ifCond .eq 7, 3) := by decide +kernel
theorem dD_riser_23 : decode cD_riser 23 = .ok (.iconst 0, 1) := by decide +kernel
theorem dD_riser_24 : decode cD_riser 24 = .ok (.goto 4, 3) := by decide +kernel
theorem dD_riser_27 : decode cD_riser 27 = .ok (.iload_n 1, 1) := by decide +kernel
theorem dD_riser_28 : decode cD_riser 28 = .ok (.invokevirtual 101, 3) := by decide +kernel
theorem dD_riser_31 : decode cD_riser 31 = .ok (.ifCond .eq 19, 3) := by decide +kernel
theorem dD_riser_34 : decode cD_riser 34 = .ok (.aload_n 0, 1) := by decide +kernel
theorem dD_riser_35 : decode cD_riser 35 = .ok (.iload_n 2, 1) := by decide +kernel
theorem dD_riser_36 : decode cD_riser 36 = .ok (.ifCond .eq 7, 3) := by decide +kernel
theorem dD_riser_39 : decode cD_riser 39 = .ok (.iconst 0, 1) := by decide +kernel
theorem dD_riser_40 : decode cD_riser 40 = .ok (.goto 4, 3) := by decide +kernel
theorem dD_riser_43 : decode cD_riser 43 = .ok (.iload_n 1, 1) := by decide +kernel
theorem dD_riser_44 : decode cD_riser 44 = .ok (.invokevirtual 115, 3) := by decide +kernel
theorem dD_riser_47 : decode cD_riser 47 = .ok (.ifCond .ge 7, 3) := by decide +kernel
theorem dD_riser_50 : decode cD_riser 50 = .ok (.iconst 1, 1) := by decide +kernel
theorem dD_riser_51 : decode cD_riser 51 = .ok (.goto 4, 3) := by decide +kernel
theorem dD_riser_54 : decode cD_riser 54 = .ok (.iconst 0, 1) := by decide +kernel
theorem dD_riser_55 : decode cD_riser 55 = .ok (.istore_n 3, 1) := by decide +kernel
theorem dD_riser_56 : decode cD_riser 56 = .ok (.aload_n 0, 1) := by decide +kernel
theorem dD_riser_57 : decode cD_riser 57 = .ok (.iload_n 2, 1) := by decide +kernel
theorem dD_riser_58 : decode cD_riser 58 = .ok (.iload_n 3, 1) := by decide +kernel
theorem dD_riser_59 : decode cD_riser 59 = .ok (.iconst 0, 1) := by decide +kernel
theorem dD_riser_60 : decode cD_riser 60 = .ok (.invokevirtual 77, 3) := by decide +kernel
theorem dD_riser_63 : decode cD_riser 63 = .ok (.ifCond .eq 5, 3) := by decide +kernel
theorem dD_riser_66 : decode cD_riser 66 = .ok (.iconst 0, 1) := by decide +kernel
theorem dD_riser_67 : decode cD_riser 67 = .ok (.ireturn, 1) := by decide +kernel
theorem dD_riser_68 : decode cD_riser 68 = .ok (.aload_n 0, 1) := by decide +kernel
theorem dD_riser_69 : decode cD_riser 69 = .ok (.getfield 29, 3) := by decide +kernel
theorem dD_riser_72 : decode cD_riser 72 = .ok (.iload_n 1, 1) := by decide +kernel
theorem dD_riser_73 : decode cD_riser 73 = .ok (.aload_n 0, 1) := by decide +kernel
theorem dD_riser_74 : decode cD_riser 74 = .ok (.iload_n 1, 1) := by decide +kernel
theorem dD_riser_75 : decode cD_riser 75 = .ok (.invokevirtual 115, 3) := by decide +kernel
theorem dD_riser_78 : decode cD_riser 78 = .ok (.iastore, 1) := by decide +kernel
theorem dD_riser_79 : decode cD_riser 79 = .ok (.aload_n 0, 1) := by decide +kernel
theorem dD_riser_80 : decode cD_riser 80 = .ok (.getfield 29, 3) := by decide +kernel
theorem dD_riser_83 : decode cD_riser 83 = .ok (.iload_n 1, 1) := by decide +kernel
theorem dD_riser_84 : decode cD_riser 84 = .ok (.iaload, 1) := by decide +kernel
theorem dD_riser_85 : decode cD_riser 85 = .ok (.ireturn, 1) := by decide +kernel
theorem dD_cutOff_0 : decode cD_cutOff 0 = .ok (.aload_n 0, 1) := by decide +kernel
theorem dD_cutOff_1 : decode cD_cutOff 1 = .ok (.iload_n 1, 1) := by decide +kernel
theorem dD_cutOff_2 : decode cD_cutOff 2 = .ok (.invokevirtual 85, 3) := by decide +kernel
theorem dD_cutOff_5 : decode cD_cutOff 5 = .ok (.ifCond .ne 7, 3) := by decide +kernel
theorem dD_cutOff_8 : decode cD_cutOff 8 = .ok (.iconst 1, 1) := by decide +kernel
theorem dD_cutOff_9 : decode cD_cutOff 9 = .ok (.goto 4, 3) := by decide +kernel
theorem dD_cutOff_12 : decode cD_cutOff 12 = .ok (.iconst 0, 1) := by decide +kernel
theorem dD_cutOff_13 : decode cD_cutOff 13 = .ok (.istore_n 2, 1) := by decide +kernel
theorem dD_cutOff_14 : decode cD_cutOff 14 = .ok (.aload_n 0, 1) := by decide +kernel
theorem dD_cutOff_15 : decode cD_cutOff 15 = .ok (.iload_n 2, 1) := by decide +kernel
theorem dD_cutOff_16 : decode cD_cutOff 16 = .ok (.iload_n 2, 1) := by decide +kernel
theorem dD_cutOff_17 : decode cD_cutOff 17 = .ok (.ifCond .ne 24, 3) := by decide +kernel
theorem dD_cutOff_20 : decode cD_cutOff 20 = .ok (.aload_n 0, 1) := by decide +kernel
theorem dD_cutOff_21 : decode cD_cutOff 21 = .ok (.getfield 29, 3) := by decide +kernel
theorem dD_cutOff_24 : decode cD_cutOff 24 = .ok (.iload_n 2, 1) := by decide +kernel
theorem dD_cutOff_25 : decode cD_cutOff 25 = .ok (.ifCond .eq 7, 3) := by decide +kernel
theorem dD_cutOff_28 : decode cD_cutOff 28 = .ok (.iconst 0, 1) := by decide +kernel
theorem dD_cutOff_29 : decode cD_cutOff 29 = .ok (.goto 4, 3) := by decide +kernel
theorem dD_cutOff_32 : decode cD_cutOff 32 = .ok (.iload_n 1, 1) := by decide +kernel
theorem dD_cutOff_33 : decode cD_cutOff 33 = .ok (.iaload, 1) := by decide +kernel
theorem dD_cutOff_34 : decode cD_cutOff 34 = .ok (.ifCond .ge 7, 3) := by decide +kernel
theorem dD_cutOff_37 : decode cD_cutOff 37 = .ok (.iconst 1, 1) := by decide +kernel
theorem dD_cutOff_38 : decode cD_cutOff 38 = .ok (.goto 4, 3) := by decide +kernel
theorem dD_cutOff_41 : decode cD_cutOff 41 = .ok (.iconst 0, 1) := by decide +kernel
theorem dD_cutOff_42 : decode cD_cutOff 42 = .ok (.iconst 0, 1) := by decide +kernel
theorem dD_cutOff_43 : decode cD_cutOff 43 = .ok (.invokevirtual 77, 3) := by decide +kernel
theorem dD_cutOff_46 : decode cD_cutOff 46 = .ok (.ifCond .eq 4, 3) := by decide +kernel
theorem dD_cutOff_49 : decode cD_cutOff 49 = .ok (.return_, 1) := by decide +kernel
theorem dD_cutOff_50 : decode cD_cutOff 50 = .ok (.aload_n 0, 1) := by decide +kernel
theorem dD_cutOff_51 : decode cD_cutOff 51 = .ok (.getfield 29, 3) := by decide +kernel
theorem dD_cutOff_54 : decode cD_cutOff 54 = .ok (.iload_n 1, 1) := by decide +kernel
theorem dD_cutOff_55 : decode cD_cutOff 55 = .ok (.iconst (-1), 1) := by decide +kernel
theorem dD_cutOff_56 : decode cD_cutOff 56 = .ok (.iastore, 1) := by decide +kernel
theorem dD_cutOff_57 : decode cD_cutOff 57 = .ok (.return_, 1) := by decide +kernel
theorem dD_feederOf_0 : decode cD_feederOf 0 = .ok (.aload_n 0, 1) := by decide +kernel
theorem dD_feederOf_1 : decode cD_feederOf 1 = .ok (.iload_n 1, 1) := by decide +kernel
theorem dD_feederOf_2 : decode cD_feederOf 2 = .ok (.invokevirtual 101, 3) := by decide +kernel
theorem dD_feederOf_5 : decode cD_feederOf 5 = .ok (.ifCond .ne 6, 3) := by decide +kernel
theorem dD_feederOf_8 : decode cD_feederOf 8 = .ok (.bipush (-2), 2) := by decide +kernel
theorem dD_feederOf_10 : decode cD_feederOf 10 = .ok (.ireturn, 1) := by decide +kernel
theorem dD_feederOf_11 : decode cD_feederOf 11 = .ok (.aload_n 0, 1) := by decide +kernel
theorem dD_feederOf_12 : decode cD_feederOf 12 = .ok (.getfield 29, 3) := by decide +kernel
theorem dD_feederOf_15 : decode cD_feederOf 15 = .ok (.iload_n 1, 1) := by decide +kernel
theorem dD_feederOf_16 : decode cD_feederOf 16 = .ok (.iaload, 1) := by decide +kernel
theorem dD_feederOf_17 : decode cD_feederOf 17 = .ok (.ifCond .lt 13, 3) := by decide +kernel
theorem dD_feederOf_20 : decode cD_feederOf 20 = .ok (.bipush 100, 2) := by decide +kernel
theorem dD_feederOf_22 : decode cD_feederOf 22 = .ok (.aload_n 0, 1) := by decide +kernel
theorem dD_feederOf_23 : decode cD_feederOf 23 = .ok (.getfield 29, 3) := by decide +kernel
theorem dD_feederOf_26 : decode cD_feederOf 26 = .ok (.iload_n 1, 1) := by decide +kernel
theorem dD_feederOf_27 : decode cD_feederOf 27 = .ok (.iaload, 1) := by decide +kernel
theorem dD_feederOf_28 : decode cD_feederOf 28 = .ok (.iadd, 1) := by decide +kernel
theorem dD_feederOf_29 : decode cD_feederOf 29 = .ok (.ireturn, 1) := by decide +kernel
theorem dD_feederOf_30 : decode cD_feederOf 30 = .ok (.iconst (-1), 1) := by decide +kernel
theorem dD_feederOf_31 : decode cD_feederOf 31 = .ok (.istore_n 2, 1) := by decide +kernel
theorem dD_feederOf_32 : decode cD_feederOf 32 = .ok (.iconst 0, 1) := by decide +kernel
theorem dD_feederOf_33 : decode cD_feederOf 33 = .ok (.istore_n 3, 1) := by decide +kernel
theorem dD_feederOf_34 : decode cD_feederOf 34 = .ok (.iload_n 3, 1) := by decide +kernel
theorem dD_feederOf_35 : decode cD_feederOf 35 = .ok (.aload_n 0, 1) := by decide +kernel
theorem dD_feederOf_36 : decode cD_feederOf 36 = .ok (.getfield 70, 3) := by decide +kernel
theorem dD_feederOf_39 : decode cD_feederOf 39 = .ok (.if_icmp .ge 71, 3) := by decide +kernel
theorem dD_feederOf_42 : decode cD_feederOf 42 = .ok (.aload_n 0, 1) := by decide +kernel
theorem dD_feederOf_43 : decode cD_feederOf 43 = .ok (.getfield 26, 3) := by decide +kernel
theorem dD_feederOf_46 : decode cD_feederOf 46 = .ok (.iload_n 1, 1) := by decide +kernel
theorem dD_feederOf_47 : decode cD_feederOf 47 = .ok (.iaload, 1) := by decide +kernel
theorem dD_feederOf_48 : decode cD_feederOf 48 = .ok (.iload_n 3, 1) := by decide +kernel
theorem dD_feederOf_49 : decode cD_feederOf 49 = .ok (.ishr, 1) := by decide +kernel
theorem dD_feederOf_50 : decode cD_feederOf 50 = .ok (.iconst 1, 1) := by decide +kernel
theorem dD_feederOf_51 : decode cD_feederOf 51 = .ok (.iand, 1) := by decide +kernel
theorem dD_feederOf_52 : decode cD_feederOf 52 = .ok (.iconst 1, 1) := by decide +kernel
theorem dD_feederOf_53 : decode cD_feederOf 53 = .ok (.if_icmp .ne 15, 3) := by decide +kernel
theorem dD_feederOf_56 : decode cD_feederOf 56 = .ok (.aload_n 0, 1) := by decide +kernel
theorem dD_feederOf_57 : decode cD_feederOf 57 = .ok (.iload_n 3, 1) := by decide +kernel
theorem dD_feederOf_58 : decode cD_feederOf 58 = .ok (.invokevirtual 101, 3) := by decide +kernel
theorem dD_feederOf_61 : decode cD_feederOf 61 = .ok (.ifCond .eq 7, 3) := by decide +kernel
theorem dD_feederOf_64 : decode cD_feederOf 64 = .ok (.iconst 1, 1) := by decide +kernel
theorem dD_feederOf_65 : decode cD_feederOf 65 = .ok (.goto 4, 3) := by decide +kernel
theorem dD_feederOf_68 : decode cD_feederOf 68 = .ok (.iconst 0, 1) := by decide +kernel
theorem dD_feederOf_69 : decode cD_feederOf 69 = .ok (.istore 4, 2) := by decide +kernel
theorem dD_feederOf_71 : decode cD_feederOf 71 = .ok (.iload 4, 2) := by decide +kernel
theorem dD_feederOf_73 : decode cD_feederOf 73 = .ok (.ifCond .eq 31, 3) := by decide +kernel
theorem dD_feederOf_76 : decode cD_feederOf 76 = .ok (.aload_n 0, 1) := by decide +kernel
theorem dD_feederOf_77 : decode cD_feederOf 77 = .ok (.iload_n 3, 1) := by decide +kernel
theorem dD_feederOf_78 : decode cD_feederOf 78 = .ok (.iload_n 1, 1) := by decide +kernel
theorem dD_feederOf_79 : decode cD_feederOf 79 = .ok (.invokevirtual 104, 3) := by decide +kernel
theorem dD_feederOf_82 : decode cD_feederOf 82 = .ok (.lconst 0, 1) := by decide +kernel
theorem dD_feederOf_83 : decode cD_feederOf 83 = .ok (.lcmp, 1) := by decide +kernel
theorem dD_feederOf_84 : decode cD_feederOf 84 = .ok (.ifCond .le 20, 3) := by decide +kernel
theorem dD_feederOf_87 : decode cD_feederOf 87 = .ok (.iload_n 2, 1) := by decide +kernel
theorem dD_feederOf_88 : decode cD_feederOf 88 = .ok (.ifCond .lt 14, 3) := by decide +kernel
theorem dD_feederOf_91 : decode cD_feederOf 91 = .ok (.aload_n 0, 1) := by decide +kernel
theorem dD_feederOf_92 : decode cD_feederOf 92 = .ok (.iload_n 3, 1) := by decide +kernel
theorem dD_feederOf_93 : decode cD_feederOf 93 = .ok (.iload_n 2, 1) := by decide +kernel
theorem dD_feederOf_94 : decode cD_feederOf 94 = .ok (.invokevirtual 104, 3) := by decide +kernel
theorem dD_feederOf_97 : decode cD_feederOf 97 = .ok (.lconst 0, 1) := by decide +kernel
theorem dD_feederOf_98 : decode cD_feederOf 98 = .ok (.lcmp, 1) := by decide +kernel
theorem dD_feederOf_99 : decode cD_feederOf 99 = .ok (.ifCond .le 5, 3) := by decide +kernel
theorem dD_feederOf_102 : decode cD_feederOf 102 = .ok (.iload_n 3, 1) := by decide +kernel
theorem dD_feederOf_103 : decode cD_feederOf 103 = .ok (.istore_n 2, 1) := by decide +kernel
theorem dD_feederOf_104 : decode cD_feederOf 104 = .ok (.iinc 3 1, 3) := by decide +kernel
theorem dD_feederOf_107 : decode cD_feederOf 107 = .ok (.goto (-73), 3) := by decide +kernel
theorem dD_feederOf_110 : decode cD_feederOf 110 = .ok (.iload_n 2, 1) := by decide +kernel
theorem dD_feederOf_111 : decode cD_feederOf 111 = .ok (.ireturn, 1) := by decide +kernel
theorem dD_feeder_0 : decode cD_feeder 0 = .ok (.aload_n 0, 1) := by decide +kernel
theorem dD_feeder_1 : decode cD_feeder 1 = .ok (.aload_n 0, 1) := by decide +kernel
theorem dD_feeder_2 : decode cD_feeder 2 = .ok (.iload_n 1, 1) := by decide +kernel
theorem dD_feeder_3 : decode cD_feeder 3 = .ok (.invokevirtual 85, 3) := by decide +kernel
theorem dD_feeder_6 : decode cD_feeder 6 = .ok (.ifCond .ne 7, 3) := by decide +kernel
theorem dD_feeder_9 : decode cD_feeder 9 = .ok (.iconst 1, 1) := by decide +kernel
theorem dD_feeder_10 : decode cD_feeder 10 = .ok (.goto 4, 3) := by decide +kernel
theorem dD_feeder_13 : decode cD_feeder 13 = .ok (.iconst 0, 1) := by decide +kernel
theorem dD_feeder_14 : decode cD_feeder 14 = .ok (.iconst 0, 1) := by decide +kernel
theorem dD_feeder_15 : decode cD_feeder 15 = .ok (.iconst 0, 1) := by decide +kernel
theorem dD_feeder_16 : decode cD_feeder 16 = .ok (.invokevirtual 77, 3) := by decide +kernel
theorem dD_feeder_19 : decode cD_feeder 19 = .ok (.ifCond .eq 5, 3) := by decide +kernel
theorem dD_feeder_22 : decode cD_feeder 22 = .ok (.iconst 0, 1) := by decide +kernel
theorem dD_feeder_23 : decode cD_feeder 23 = .ok (.ireturn, 1) := by decide +kernel
theorem dD_feeder_24 : decode cD_feeder 24 = .ok (.aload_n 0, 1) := by decide +kernel
theorem dD_feeder_25 : decode cD_feeder 25 = .ok (.iload_n 1, 1) := by decide +kernel
theorem dD_feeder_26 : decode cD_feeder 26 = .ok (.invokevirtual 119, 3) := by decide +kernel
theorem dD_feeder_29 : decode cD_feeder 29 = .ok (.ireturn, 1) := by decide +kernel
theorem dD_unfed_0 : decode cD_unfed 0 = .ok (.aload_n 0, 1) := by decide +kernel
theorem dD_unfed_1 : decode cD_unfed 1 = .ok (.iload_n 1, 1) := by decide +kernel
theorem dD_unfed_2 : decode cD_unfed 2 = .ok (.ifCond .ge 7, 3) := by decide +kernel
theorem dD_unfed_5 : decode cD_unfed 5 = .ok (.iconst 1, 1) := by decide +kernel
theorem dD_unfed_6 : decode cD_unfed 6 = .ok (.goto 4, 3) := by decide +kernel
theorem dD_unfed_9 : decode cD_unfed 9 = .ok (.iconst 0, 1) := by decide +kernel
theorem dD_unfed_10 : decode cD_unfed 10 = .ok (.iconst 0, 1) := by decide +kernel
theorem dD_unfed_11 : decode cD_unfed 11 = .ok (.iconst 0, 1) := by decide +kernel
theorem dD_unfed_12 : decode cD_unfed 12 = .ok (.invokevirtual 77, 3) := by decide +kernel
theorem dD_unfed_15 : decode cD_unfed 15 = .ok (.ifCond .eq 5, 3) := by decide +kernel
theorem dD_unfed_18 : decode cD_unfed 18 = .ok (.iconst 0, 1) := by decide +kernel
theorem dD_unfed_19 : decode cD_unfed 19 = .ok (.ireturn, 1) := by decide +kernel
theorem dD_unfed_20 : decode cD_unfed 20 = .ok (.iconst 0, 1) := by decide +kernel
theorem dD_unfed_21 : decode cD_unfed 21 = .ok (.istore_n 2, 1) := by decide +kernel
theorem dD_unfed_22 : decode cD_unfed 22 = .ok (.iconst 0, 1) := by decide +kernel
theorem dD_unfed_23 : decode cD_unfed 23 = .ok (.istore_n 3, 1) := by decide +kernel
theorem dD_unfed_24 : decode cD_unfed 24 = .ok (.iload_n 3, 1) := by decide +kernel
theorem dD_unfed_25 : decode cD_unfed 25 = .ok (.aload_n 0, 1) := by decide +kernel
theorem dD_unfed_26 : decode cD_unfed 26 = .ok (.getfield 70, 3) := by decide +kernel
theorem dD_unfed_29 : decode cD_unfed 29 = .ok (.if_icmp .ge 28, 3) := by decide +kernel
theorem dD_unfed_32 : decode cD_unfed 32 = .ok (.aload_n 0, 1) := by decide +kernel
theorem dD_unfed_33 : decode cD_unfed 33 = .ok (.iload_n 3, 1) := by decide +kernel
theorem dD_unfed_34 : decode cD_unfed 34 = .ok (.invokevirtual 119, 3) := by decide +kernel
theorem dD_unfed_37 : decode cD_unfed 37 = .ok (.iconst (-1), 1) := by decide +kernel
theorem dD_unfed_38 : decode cD_unfed 38 = .ok (.if_icmp .ne 13, 3) := by decide +kernel
theorem dD_unfed_41 : decode cD_unfed 41 = .ok (.iload_n 2, 1) := by decide +kernel
theorem dD_unfed_42 : decode cD_unfed 42 = .ok (.iload_n 1, 1) := by decide +kernel
theorem dD_unfed_43 : decode cD_unfed 43 = .ok (.if_icmp .ne 5, 3) := by decide +kernel
theorem dD_unfed_46 : decode cD_unfed 46 = .ok (.iload_n 3, 1) := by decide +kernel
theorem dD_unfed_47 : decode cD_unfed 47 = .ok (.ireturn, 1) := by decide +kernel
theorem dD_unfed_48 : decode cD_unfed 48 = .ok (.iinc 2 1, 3) := by decide +kernel
theorem dD_unfed_51 : decode cD_unfed 51 = .ok (.iinc 3 1, 3) := by decide +kernel
theorem dD_unfed_54 : decode cD_unfed 54 = .ok (.goto (-30), 3) := by decide +kernel
theorem dD_unfed_57 : decode cD_unfed 57 = .ok (.iconst (-1), 1) := by decide +kernel
theorem dD_unfed_58 : decode cD_unfed 58 = .ok (.ireturn, 1) := by decide +kernel
theorem dD_flowRow_0 : decode cD_flowRow 0 = .ok (.aload_n 0, 1) := by decide +kernel
theorem dD_flowRow_1 : decode cD_flowRow 1 = .ok (.getfield 122, 3) := by decide +kernel
theorem dD_flowRow_4 : decode cD_flowRow 4 = .ok (.ifCond .le 12, 3) := by decide +kernel
theorem dD_flowRow_7 : decode cD_flowRow 7 = .ok (.aload_n 0, 1) := by decide +kernel
theorem dD_flowRow_8 : decode cD_flowRow 8 = .ok (.getfield 122, 3) := by decide +kernel
theorem dD_flowRow_11 : decode cD_flowRow 11 = .ok (.iconst 1, 1) := by decide +kernel
theorem dD_flowRow_12 : decode cD_flowRow 12 = .ok (.isub, 1) := by decide +kernel
theorem dD_flowRow_13 : decode cD_flowRow 13 = .ok (.goto 4, 3) := by decide +kernel
theorem dD_flowRow_16 : decode cD_flowRow 16 = .ok (.iconst 0, 1) := by decide +kernel
theorem dD_flowRow_17 : decode cD_flowRow 17 = .ok (.istore_n 3, 1) := by decide +kernel
theorem dD_flowRow_18 : decode cD_flowRow 18 = .ok (.aload_n 0, 1) := by decide +kernel
theorem dD_flowRow_19 : decode cD_flowRow 19 = .ok (.getfield 122, 3) := by decide +kernel
theorem dD_flowRow_22 : decode cD_flowRow 22 = .ok (.ifCond .le 27, 3) := by decide +kernel
theorem dD_flowRow_25 : decode cD_flowRow 25 = .ok (.iload_n 1, 1) := by decide +kernel
theorem dD_flowRow_26 : decode cD_flowRow 26 = .ok (.aload_n 0, 1) := by decide +kernel
theorem dD_flowRow_27 : decode cD_flowRow 27 = .ok (.getfield 38, 3) := by decide +kernel
theorem dD_flowRow_30 : decode cD_flowRow 30 = .ok (.iload_n 3, 1) := by decide +kernel
theorem dD_flowRow_31 : decode cD_flowRow 31 = .ok (.iaload, 1) := by decide +kernel
theorem dD_flowRow_32 : decode cD_flowRow 32 = .ok (.if_icmp .le 13, 3) := by decide +kernel
theorem dD_flowRow_35 : decode cD_flowRow 35 = .ok (.iload_n 2, 1) := by decide +kernel
theorem dD_flowRow_36 : decode cD_flowRow 36 = .ok (.aload_n 0, 1) := by decide +kernel
theorem dD_flowRow_37 : decode cD_flowRow 37 = .ok (.getfield 41, 3) := by decide +kernel
theorem dD_flowRow_40 : decode cD_flowRow 40 = .ok (.iload_n 3, 1) := by decide +kernel
theorem dD_flowRow_41 : decode cD_flowRow 41 = .ok (.iaload, 1) := by decide +kernel
theorem dD_flowRow_42 : decode cD_flowRow 42 = .ok (.if_icmp .ge 7, 3) := by decide +kernel
theorem dD_flowRow_45 : decode cD_flowRow 45 = .ok (.iconst 1, 1) := by decide +kernel
theorem dD_flowRow_46 : decode cD_flowRow 46 = .ok (.goto 4, 3) := by decide +kernel
theorem dD_flowRow_49 : decode cD_flowRow 49 = .ok (.iconst 0, 1) := by decide +kernel
theorem dD_flowRow_50 : decode cD_flowRow 50 = .ok (.istore 4, 2) := by decide +kernel
theorem dD_flowRow_52 : decode cD_flowRow 52 = .ok (.aload_n 0, 1) := by decide +kernel
theorem dD_flowRow_53 : decode cD_flowRow 53 = .ok (.aload_n 0, 1) := by decide +kernel
theorem dD_flowRow_54 : decode cD_flowRow 54 = .ok (.getfield 122, 3) := by decide +kernel
theorem dD_flowRow_57 : decode cD_flowRow 57 = .ok (.bipush 8, 2) := by decide +kernel
theorem dD_flowRow_59 : decode cD_flowRow 59 = .ok (.if_icmp .ne 7, 3) := by decide +kernel
theorem dD_flowRow_62 : decode cD_flowRow 62 = .ok (.iconst 1, 1) := by decide +kernel
theorem dD_flowRow_63 : decode cD_flowRow 63 = .ok (.goto 4, 3) := by decide +kernel
theorem dD_flowRow_66 : decode cD_flowRow 66 = .ok (.iconst 0, 1) := by decide +kernel
theorem dD_flowRow_67 : decode cD_flowRow 67 = .ok (.iload_n 1, 1) := by decide +kernel
theorem dD_flowRow_68 : decode cD_flowRow 68 = .ok (.iconst 0, 1) := by decide +kernel
theorem dD_flowRow_69 : decode cD_flowRow 69 = .ok (.sipush 10000, 3) := by decide +kernel
theorem dD_flowRow_72 : decode cD_flowRow 72 = .ok (.invokestatic 66, 3) := by decide +kernel
theorem dD_flowRow_75 : decode cD_flowRow 75 = .ok (.ifCond .eq 13, 3) := by decide +kernel
theorem dD_flowRow_78 : decode cD_flowRow 78 = .ok (.iload_n 2, 1) := by decide +kernel
theorem dD_flowRow_79 : decode cD_flowRow 79 = .ok (.iconst 0, 1) := by decide +kernel
theorem dD_flowRow_80 : decode cD_flowRow 80 = .ok (.ldc 125, 2) := by decide +kernel
theorem dD_flowRow_82 : decode cD_flowRow 82 = .ok (.invokestatic 66, 3) := by decide +kernel
theorem dD_flowRow_85 : decode cD_flowRow 85 = .ok (.ifCond .ne 7, 3) := by decide +kernel
theorem dD_flowRow_88 : decode cD_flowRow 88 = .ok (.iconst 1, 1) := by decide +kernel
theorem dD_flowRow_89 : decode cD_flowRow 89 = .ok (.goto 4, 3) := by decide +kernel
theorem dD_flowRow_92 : decode cD_flowRow 92 = .ok (.iconst 0, 1) := by decide +kernel
theorem dD_flowRow_93 : decode cD_flowRow 93 = .ok (.iload 4, 2) := by decide +kernel
theorem dD_flowRow_95 : decode cD_flowRow 95 = .ok (.invokevirtual 77, 3) := by decide +kernel
theorem dD_flowRow_98 : decode cD_flowRow 98 = .ok (.ifCond .eq 5, 3) := by decide +kernel
theorem dD_flowRow_101 : decode cD_flowRow 101 = .ok (.iconst 0, 1) := by decide +kernel
theorem dD_flowRow_102 : decode cD_flowRow 102 = .ok (.ireturn, 1) := by decide +kernel
theorem dD_flowRow_103 : decode cD_flowRow 103 = .ok (.aload_n 0, 1) := by decide +kernel
theorem dD_flowRow_104 : decode cD_flowRow 104 = .ok (.getfield 38, 3) := by decide +kernel
theorem dD_flowRow_107 : decode cD_flowRow 107 = .ok (.aload_n 0, 1) := by decide +kernel
theorem dD_flowRow_108 : decode cD_flowRow 108 = .ok (.getfield 122, 3) := by decide +kernel
theorem dD_flowRow_111 : decode cD_flowRow 111 = .ok (.iload_n 1, 1) := by decide +kernel
theorem dD_flowRow_112 : decode cD_flowRow 112 = .ok (.iastore, 1) := by decide +kernel
theorem dD_flowRow_113 : decode cD_flowRow 113 = .ok (.aload_n 0, 1) := by decide +kernel
theorem dD_flowRow_114 : decode cD_flowRow 114 = .ok (.getfield 41, 3) := by decide +kernel
theorem dD_flowRow_117 : decode cD_flowRow 117 = .ok (.aload_n 0, 1) := by decide +kernel
theorem dD_flowRow_118 : decode cD_flowRow 118 = .ok (.getfield 122, 3) := by decide +kernel
theorem dD_flowRow_121 : decode cD_flowRow 121 = .ok (.iload_n 2, 1) := by decide +kernel
theorem dD_flowRow_122 : decode cD_flowRow 122 = .ok (.iastore, 1) := by decide +kernel
theorem dD_flowRow_123 : decode cD_flowRow 123 = .ok (.aload_n 0, 1) := by decide +kernel
theorem dD_flowRow_124 : decode cD_flowRow 124 = .ok (.dup, 1) := by decide +kernel
theorem dD_flowRow_125 : decode cD_flowRow 125 = .ok (.getfield 122, 3) := by decide +kernel
theorem dD_flowRow_128 : decode cD_flowRow 128 = .ok (.iconst 1, 1) := by decide +kernel
theorem dD_flowRow_129 : decode cD_flowRow 129 = .ok (.iadd, 1) := by decide +kernel
theorem dD_flowRow_130 : decode cD_flowRow 130 = .ok (.putfield 122, 3) := by decide +kernel
theorem dD_flowRow_133 : decode cD_flowRow 133 = .ok (.aload_n 0, 1) := by decide +kernel
theorem dD_flowRow_134 : decode cD_flowRow 134 = .ok (.getfield 122, 3) := by decide +kernel
theorem dD_flowRow_137 : decode cD_flowRow 137 = .ok (.ireturn, 1) := by decide +kernel
theorem dD_flowAt_0 : decode cD_flowAt 0 = .ok (.iload_n 1, 1) := by decide +kernel
theorem dD_flowAt_1 : decode cD_flowAt 1 = .ok (.aload_n 0, 1) := by decide +kernel
theorem dD_flowAt_2 : decode cD_flowAt 2 = .ok (.getfield 38, 3) := by decide +kernel
theorem dD_flowAt_5 : decode cD_flowAt 5 = .ok (.iconst 0, 1) := by decide +kernel
theorem dD_flowAt_6 : decode cD_flowAt 6 = .ok (.iaload, 1) := by decide +kernel
theorem dD_flowAt_7 : decode cD_flowAt 7 = .ok (.if_icmp .gt 10, 3) := by decide +kernel
theorem dD_flowAt_10 : decode cD_flowAt 10 = .ok (.aload_n 0, 1) := by decide +kernel
theorem dD_flowAt_11 : decode cD_flowAt 11 = .ok (.getfield 41, 3) := by decide +kernel
theorem dD_flowAt_14 : decode cD_flowAt 14 = .ok (.iconst 0, 1) := by decide +kernel
theorem dD_flowAt_15 : decode cD_flowAt 15 = .ok (.iaload, 1) := by decide +kernel
theorem dD_flowAt_16 : decode cD_flowAt 16 = .ok (.ireturn, 1) := by decide +kernel
theorem dD_flowAt_17 : decode cD_flowAt 17 = .ok (.iload_n 1, 1) := by decide +kernel
theorem dD_flowAt_18 : decode cD_flowAt 18 = .ok (.aload_n 0, 1) := by decide +kernel
theorem dD_flowAt_19 : decode cD_flowAt 19 = .ok (.getfield 38, 3) := by decide +kernel
theorem dD_flowAt_22 : decode cD_flowAt 22 = .ok (.aload_n 0, 1) := by decide +kernel
theorem dD_flowAt_23 : decode cD_flowAt 23 = .ok (.getfield 122, 3) := by decide +kernel
theorem dD_flowAt_26 : decode cD_flowAt 26 = .ok (.iconst 1, 1) := by decide +kernel
theorem dD_flowAt_27 : decode cD_flowAt 27 = .ok (.isub, 1) := by decide +kernel
theorem dD_flowAt_28 : decode cD_flowAt 28 = .ok (.iaload, 1) := by decide +kernel
theorem dD_flowAt_29 : decode cD_flowAt 29 = .ok (.if_icmp .lt 15, 3) := by decide +kernel
theorem dD_flowAt_32 : decode cD_flowAt 32 = .ok (.aload_n 0, 1) := by decide +kernel
theorem dD_flowAt_33 : decode cD_flowAt 33 = .ok (.getfield 41, 3) := by decide +kernel
theorem dD_flowAt_36 : decode cD_flowAt 36 = .ok (.aload_n 0, 1) := by decide +kernel
theorem dD_flowAt_37 : decode cD_flowAt 37 = .ok (.getfield 122, 3) := by decide +kernel
theorem dD_flowAt_40 : decode cD_flowAt 40 = .ok (.iconst 1, 1) := by decide +kernel
theorem dD_flowAt_41 : decode cD_flowAt 41 = .ok (.isub, 1) := by decide +kernel
theorem dD_flowAt_42 : decode cD_flowAt 42 = .ok (.iaload, 1) := by decide +kernel
theorem dD_flowAt_43 : decode cD_flowAt 43 = .ok (.ireturn, 1) := by decide +kernel
theorem dD_flowAt_44 : decode cD_flowAt 44 = .ok (.iconst 1, 1) := by decide +kernel
theorem dD_flowAt_45 : decode cD_flowAt 45 = .ok (.istore_n 2, 1) := by decide +kernel
theorem dD_flowAt_46 : decode cD_flowAt 46 = .ok (.aload_n 0, 1) := by decide +kernel
theorem dD_flowAt_47 : decode cD_flowAt 47 = .ok (.getfield 38, 3) := by decide +kernel
theorem dD_flowAt_50 : decode cD_flowAt 50 = .ok (.iload_n 2, 1) := by decide +kernel
theorem dD_flowAt_51 : decode cD_flowAt 51 = .ok (.iaload, 1) := by decide +kernel
theorem dD_flowAt_52 : decode cD_flowAt 52 = .ok (.iload_n 1, 1) := by decide +kernel
theorem dD_flowAt_53 : decode cD_flowAt 53 = .ok (.if_icmp .ge 9, 3) := by decide +kernel
theorem dD_flowAt_56 : decode cD_flowAt 56 = .ok (.iinc 2 1, 3) := by decide +kernel
theorem dD_flowAt_59 : decode cD_flowAt 59 = .ok (.goto (-13), 3) := by decide +kernel
theorem dD_flowAt_62 : decode cD_flowAt 62 = .ok (.aload_n 0, 1) := by decide +kernel
theorem dD_flowAt_63 : decode cD_flowAt 63 = .ok (.getfield 41, 3) := by decide +kernel
theorem dD_flowAt_66 : decode cD_flowAt 66 = .ok (.iload_n 2, 1) := by decide +kernel
theorem dD_flowAt_67 : decode cD_flowAt 67 = .ok (.iaload, 1) := by decide +kernel
theorem dD_flowAt_68 : decode cD_flowAt 68 = .ok (.aload_n 0, 1) := by decide +kernel
theorem dD_flowAt_69 : decode cD_flowAt 69 = .ok (.getfield 41, 3) := by decide +kernel
theorem dD_flowAt_72 : decode cD_flowAt 72 = .ok (.iload_n 2, 1) := by decide +kernel
theorem dD_flowAt_73 : decode cD_flowAt 73 = .ok (.iconst 1, 1) := by decide +kernel
theorem dD_flowAt_74 : decode cD_flowAt 74 = .ok (.isub, 1) := by decide +kernel
theorem dD_flowAt_75 : decode cD_flowAt 75 = .ok (.iaload, 1) := by decide +kernel
theorem dD_flowAt_76 : decode cD_flowAt 76 = .ok (.isub, 1) := by decide +kernel
theorem dD_flowAt_77 : decode cD_flowAt 77 = .ok (.i2l, 1) := by decide +kernel
theorem dD_flowAt_78 : decode cD_flowAt 78 = .ok (.iload_n 1, 1) := by decide +kernel
theorem dD_flowAt_79 : decode cD_flowAt 79 = .ok (.aload_n 0, 1) := by decide +kernel
theorem dD_flowAt_80 : decode cD_flowAt 80 = .ok (.getfield 38, 3) := by decide +kernel
theorem dD_flowAt_83 : decode cD_flowAt 83 = .ok (.iload_n 2, 1) := by decide +kernel
theorem dD_flowAt_84 : decode cD_flowAt 84 = .ok (.iconst 1, 1) := by decide +kernel
theorem dD_flowAt_85 : decode cD_flowAt 85 = .ok (.isub, 1) := by decide +kernel
theorem dD_flowAt_86 : decode cD_flowAt 86 = .ok (.iaload, 1) := by decide +kernel
theorem dD_flowAt_87 : decode cD_flowAt 87 = .ok (.isub, 1) := by decide +kernel
theorem dD_flowAt_88 : decode cD_flowAt 88 = .ok (.i2l, 1) := by decide +kernel
theorem dD_flowAt_89 : decode cD_flowAt 89 = .ok (.lmul, 1) := by decide +kernel
theorem dD_flowAt_90 : decode cD_flowAt 90 = .ok (.lstore_n 3, 1) := by decide +kernel
theorem dD_flowAt_91 : decode cD_flowAt 91 = .ok (.aload_n 0, 1) := by decide +kernel
theorem dD_flowAt_92 : decode cD_flowAt 92 = .ok (.getfield 41, 3) := by decide +kernel
theorem dD_flowAt_95 : decode cD_flowAt 95 = .ok (.iload_n 2, 1) := by decide +kernel
theorem dD_flowAt_96 : decode cD_flowAt 96 = .ok (.iconst 1, 1) := by decide +kernel
theorem dD_flowAt_97 : decode cD_flowAt 97 = .ok (.isub, 1) := by decide +kernel
theorem dD_flowAt_98 : decode cD_flowAt 98 = .ok (.iaload, 1) := by decide +kernel
theorem dD_flowAt_99 : decode cD_flowAt 99 = .ok (.lload_n 3, 1) := by decide +kernel
theorem dD_flowAt_100 : decode cD_flowAt 100 = .ok (.aload_n 0, 1) := by decide +kernel
theorem dD_flowAt_101 : decode cD_flowAt 101 = .ok (.getfield 38, 3) := by decide +kernel
theorem dD_flowAt_104 : decode cD_flowAt 104 = .ok (.iload_n 2, 1) := by decide +kernel
theorem dD_flowAt_105 : decode cD_flowAt 105 = .ok (.iaload, 1) := by decide +kernel
theorem dD_flowAt_106 : decode cD_flowAt 106 = .ok (.aload_n 0, 1) := by decide +kernel
theorem dD_flowAt_107 : decode cD_flowAt 107 = .ok (.getfield 38, 3) := by decide +kernel
theorem dD_flowAt_110 : decode cD_flowAt 110 = .ok (.iload_n 2, 1) := by decide +kernel
theorem dD_flowAt_111 : decode cD_flowAt 111 = .ok (.iconst 1, 1) := by decide +kernel
theorem dD_flowAt_112 : decode cD_flowAt 112 = .ok (.isub, 1) := by decide +kernel
theorem dD_flowAt_113 : decode cD_flowAt 113 = .ok (.iaload, 1) := by decide +kernel
theorem dD_flowAt_114 : decode cD_flowAt 114 = .ok (.isub, 1) := by decide +kernel
theorem dD_flowAt_115 : decode cD_flowAt 115 = .ok (.i2l, 1) := by decide +kernel
theorem dD_flowAt_116 : decode cD_flowAt 116 = .ok (.ldiv, 1) := by decide +kernel
theorem dD_flowAt_117 : decode cD_flowAt 117 = .ok (.l2i, 1) := by decide +kernel
theorem dD_flowAt_118 : decode cD_flowAt 118 = .ok (.iadd, 1) := by decide +kernel
theorem dD_flowAt_119 : decode cD_flowAt 119 = .ok (.ireturn, 1) := by decide +kernel
theorem dD_flow_0 : decode cD_flow 0 = .ok (.aload_n 0, 1) := by decide +kernel
theorem dD_flow_1 : decode cD_flow 1 = .ok (.aload_n 0, 1) := by decide +kernel
theorem dD_flow_2 : decode cD_flow 2 = .ok (.getfield 122, 3) := by decide +kernel
theorem dD_flow_5 : decode cD_flow 5 = .ok (.ifCond .ne 7, 3) := by decide +kernel
theorem dD_flow_8 : decode cD_flow 8 = .ok (.iconst 1, 1) := by decide +kernel
theorem dD_flow_9 : decode cD_flow 9 = .ok (.goto 4, 3) := by decide +kernel
theorem dD_flow_12 : decode cD_flow 12 = .ok (.iconst 0, 1) := by decide +kernel
theorem dD_flow_13 : decode cD_flow 13 = .ok (.iload_n 1, 1) := by decide +kernel
theorem dD_flow_14 : decode cD_flow 14 = .ok (.iconst 0, 1) := by decide +kernel
theorem dD_flow_15 : decode cD_flow 15 = .ok (.sipush 10000, 3) := by decide +kernel
theorem dD_flow_18 : decode cD_flow 18 = .ok (.invokestatic 66, 3) := by decide +kernel
theorem dD_flow_21 : decode cD_flow 21 = .ok (.ifCond .ne 7, 3) := by decide +kernel
theorem dD_flow_24 : decode cD_flow 24 = .ok (.iconst 1, 1) := by decide +kernel
theorem dD_flow_25 : decode cD_flow 25 = .ok (.goto 4, 3) := by decide +kernel
theorem dD_flow_28 : decode cD_flow 28 = .ok (.iconst 0, 1) := by decide +kernel
theorem dD_flow_29 : decode cD_flow 29 = .ok (.iconst 0, 1) := by decide +kernel
theorem dD_flow_30 : decode cD_flow 30 = .ok (.invokevirtual 77, 3) := by decide +kernel
theorem dD_flow_33 : decode cD_flow 33 = .ok (.ifCond .eq 5, 3) := by decide +kernel
theorem dD_flow_36 : decode cD_flow 36 = .ok (.iconst 0, 1) := by decide +kernel
theorem dD_flow_37 : decode cD_flow 37 = .ok (.ireturn, 1) := by decide +kernel
theorem dD_flow_38 : decode cD_flow 38 = .ok (.aload_n 0, 1) := by decide +kernel
theorem dD_flow_39 : decode cD_flow 39 = .ok (.iload_n 1, 1) := by decide +kernel
theorem dD_flow_40 : decode cD_flow 40 = .ok (.invokevirtual 126, 3) := by decide +kernel
theorem dD_flow_43 : decode cD_flow 43 = .ok (.ireturn, 1) := by decide +kernel
theorem dD_gate_0 : decode cD_gate 0 = .ok (.iload_n 1, 1) := by decide +kernel
theorem dD_gate_1 : decode cD_gate 1 = .ok (.iconst 0, 1) := by decide +kernel
theorem dD_gate_2 : decode cD_gate 2 = .ok (.ldc 125, 2) := by decide +kernel
theorem dD_gate_4 : decode cD_gate 4 = .ok (.invokestatic 66, 3) := by decide +kernel
theorem dD_gate_7 : decode cD_gate 7 = .ok (.ifCond .ne 7, 3) := by decide +kernel
theorem dD_gate_10 : decode cD_gate 10 = .ok (.iconst 1, 1) := by decide +kernel
theorem dD_gate_11 : decode cD_gate 11 = .ok (.goto 4, 3) := by decide +kernel
theorem dD_gate_14 : decode cD_gate 14 = .ok (.iconst 0, 1) := by decide +kernel
theorem dD_gate_15 : decode cD_gate 15 = .ok (.istore_n 2, 1) := by decide +kernel
theorem dD_gate_16 : decode cD_gate 16 = .ok (.aload_n 0, 1) := by decide +kernel
theorem dD_gate_17 : decode cD_gate 17 = .ok (.aload_n 0, 1) := by decide +kernel
theorem dD_gate_18 : decode cD_gate 18 = .ok (.getfield 122, 3) := by decide +kernel
theorem dD_gate_21 : decode cD_gate 21 = .ok (.ifCond .ne 7, 3) := by decide +kernel
theorem dD_gate_24 : decode cD_gate 24 = .ok (.iconst 1, 1) := by decide +kernel
theorem dD_gate_25 : decode cD_gate 25 = .ok (.goto 4, 3) := by decide +kernel
theorem dD_gate_28 : decode cD_gate 28 = .ok (.iconst 0, 1) := by decide +kernel
theorem dD_gate_29 : decode cD_gate 29 = .ok (.iload_n 2, 1) := by decide +kernel
theorem dD_gate_30 : decode cD_gate 30 = .ok (.aload_n 0, 1) := by decide +kernel
theorem dD_gate_31 : decode cD_gate 31 = .ok (.getfield 122, 3) := by decide +kernel
theorem dD_gate_34 : decode cD_gate 34 = .ok (.ifCond .le 22, 3) := by decide +kernel
theorem dD_gate_37 : decode cD_gate 37 = .ok (.iload_n 2, 1) := by decide +kernel
theorem dD_gate_38 : decode cD_gate 38 = .ok (.ifCond .ne 18, 3) := by decide +kernel
theorem dD_gate_41 : decode cD_gate 41 = .ok (.aload_n 0, 1) := by decide +kernel
theorem dD_gate_42 : decode cD_gate 42 = .ok (.sipush 10000, 3) := by decide +kernel
theorem dD_gate_45 : decode cD_gate 45 = .ok (.invokevirtual 126, 3) := by decide +kernel
theorem dD_gate_48 : decode cD_gate 48 = .ok (.iload_n 1, 1) := by decide +kernel
theorem dD_gate_49 : decode cD_gate 49 = .ok (.if_icmp .ge 7, 3) := by decide +kernel
theorem dD_gate_52 : decode cD_gate 52 = .ok (.iconst 1, 1) := by decide +kernel
theorem dD_gate_53 : decode cD_gate 53 = .ok (.goto 4, 3) := by decide +kernel
theorem dD_gate_56 : decode cD_gate 56 = .ok (.iconst 0, 1) := by decide +kernel
theorem dD_gate_57 : decode cD_gate 57 = .ok (.invokevirtual 77, 3) := by decide +kernel
theorem dD_gate_60 : decode cD_gate 60 = .ok (.ifCond .eq 5, 3) := by decide +kernel
theorem dD_gate_63 : decode cD_gate 63 = .ok (.iconst 0, 1) := by decide +kernel
theorem dD_gate_64 : decode cD_gate 64 = .ok (.ireturn, 1) := by decide +kernel
theorem dD_gate_65 : decode cD_gate 65 = .ok (.iconst 0, 1) := by decide +kernel
theorem dD_gate_66 : decode cD_gate 66 = .ok (.istore_n 3, 1) := by decide +kernel
theorem dD_gate_67 : decode cD_gate 67 = .ok (.sipush 10000, 3) := by decide +kernel
theorem dD_gate_70 : decode cD_gate 70 = .ok (.istore 4, 2) := by decide +kernel
theorem dD_gate_72 : decode cD_gate 72 = .ok (.iload_n 3, 1) := by decide +kernel
theorem dD_gate_73 : decode cD_gate 73 = .ok (.iload 4, 2) := by decide +kernel
theorem dD_gate_75 : decode cD_gate 75 = .ok (.if_icmp .ge 59, 3) := by decide +kernel
theorem dD_gate_78 : decode cD_gate 78 = .ok (.iload_n 3, 1) := by decide +kernel
theorem dD_gate_79 : decode cD_gate 79 = .ok (.iload 4, 2) := by decide +kernel
theorem dD_gate_81 : decode cD_gate 81 = .ok (.iadd, 1) := by decide +kernel
theorem dD_gate_82 : decode cD_gate 82 = .ok (.iconst 2, 1) := by decide +kernel
theorem dD_gate_83 : decode cD_gate 83 = .ok (.idiv, 1) := by decide +kernel
theorem dD_gate_84 : decode cD_gate 84 = .ok (.istore 5, 2) := by decide +kernel
theorem dD_gate_86 : decode cD_gate 86 = .ok (.aload_n 0, 1) := by decide +kernel
theorem dD_gate_87 : decode cD_gate 87 = .ok (.iload 5, 2) := by decide +kernel
theorem dD_gate_89 : decode cD_gate 89 = .ok (.invokevirtual 126, 3) := by decide +kernel
theorem dD_gate_92 : decode cD_gate 92 = .ok (.iload_n 1, 1) := by decide +kernel
theorem dD_gate_93 : decode cD_gate 93 = .ok (.if_icmp .lt 7, 3) := by decide +kernel
theorem dD_gate_96 : decode cD_gate 96 = .ok (.iconst 1, 1) := by decide +kernel
theorem dD_gate_97 : decode cD_gate 97 = .ok (.goto 4, 3) := by decide +kernel
theorem dD_gate_100 : decode cD_gate 100 = .ok (.iconst 0, 1) := by decide +kernel
theorem dD_gate_101 : decode cD_gate 101 = .ok (.istore 6, 2) := by decide +kernel
theorem dD_gate_103 : decode cD_gate 103 = .ok (.iload 6, 2) := by decide +kernel
theorem dD_gate_105 : decode cD_gate 105 = .ok (.ifCond .eq 8, 3) := by decide +kernel
theorem dD_gate_108 : decode cD_gate 108 = .ok (.iload 5, 2) := by decide +kernel
theorem dD_gate_110 : decode cD_gate 110 = .ok (.goto 5, 3) := by decide +kernel
theorem dD_gate_113 : decode cD_gate 113 = .ok (.iload 4, 2) := by decide +kernel
theorem dD_gate_115 : decode cD_gate 115 = .ok (.istore 4, 2) := by decide +kernel
theorem dD_gate_117 : decode cD_gate 117 = .ok (.iload 6, 2) := by decide +kernel
theorem dD_gate_119 : decode cD_gate 119 = .ok (.ifCond .eq 7, 3) := by decide +kernel
theorem dD_gate_122 : decode cD_gate 122 = .ok (.iload_n 3, 1) := by decide +kernel
theorem dD_gate_123 : decode cD_gate 123 = .ok (.goto 7, 3) := by decide +kernel
theorem dD_gate_126 : decode cD_gate 126 = .ok (.iload 5, 2) := by decide +kernel
theorem dD_gate_128 : decode cD_gate 128 = .ok (.iconst 1, 1) := by decide +kernel
theorem dD_gate_129 : decode cD_gate 129 = .ok (.iadd, 1) := by decide +kernel
theorem dD_gate_130 : decode cD_gate 130 = .ok (.istore_n 3, 1) := by decide +kernel
theorem dD_gate_131 : decode cD_gate 131 = .ok (.goto (-59), 3) := by decide +kernel
theorem dD_gate_134 : decode cD_gate 134 = .ok (.iload_n 3, 1) := by decide +kernel
theorem dD_gate_135 : decode cD_gate 135 = .ok (.ireturn, 1) := by decide +kernel
theorem dD_pattern_0 : decode cD_pattern 0 = .ok (.aload_n 0, 1) := by decide +kernel
theorem dD_pattern_1 : decode cD_pattern 1 = .ok (.iload_n 1, 1) := by decide +kernel
theorem dD_pattern_2 : decode cD_pattern 2 = .ok (.invokestatic 73, 3) := by decide +kernel
theorem dD_pattern_5 : decode cD_pattern 5 = .ok (.ifCond .eq 13, 3) := by decide +kernel
theorem dD_pattern_8 : decode cD_pattern 8 = .ok (.iload_n 2, 1) := by decide +kernel
theorem dD_pattern_9 : decode cD_pattern 9 = .ok (.iconst 0, 1) := by decide +kernel
theorem dD_pattern_10 : decode cD_pattern 10 = .ok (.bipush 100, 2) := by decide +kernel
theorem dD_pattern_12 : decode cD_pattern 12 = .ok (.invokestatic 66, 3) := by decide +kernel
theorem dD_pattern_15 : decode cD_pattern 15 = .ok (.ifCond .ne 7, 3) := by decide +kernel
theorem dD_pattern_18 : decode cD_pattern 18 = .ok (.iconst 1, 1) := by decide +kernel
theorem dD_pattern_19 : decode cD_pattern 19 = .ok (.goto 4, 3) := by decide +kernel
theorem dD_pattern_22 : decode cD_pattern 22 = .ok (.iconst 0, 1) := by decide +kernel
theorem dD_pattern_23 : decode cD_pattern 23 = .ok (.iconst 0, 1) := by decide +kernel
theorem dD_pattern_24 : decode cD_pattern 24 = .ok (.iconst 0, 1) := by decide +kernel
theorem dD_pattern_25 : decode cD_pattern 25 = .ok (.invokevirtual 77, 3) := by decide +kernel
theorem dD_pattern_28 : decode cD_pattern 28 = .ok (.ifCond .eq 5, 3) := by decide +kernel
theorem dD_pattern_31 : decode cD_pattern 31 = .ok (.iconst 0, 1) := by decide +kernel
theorem dD_pattern_32 : decode cD_pattern 32 = .ok (.ireturn, 1) := by decide +kernel
theorem dD_pattern_33 : decode cD_pattern 33 = .ok (.iload_n 1, 1) := by decide +kernel
theorem dD_pattern_34 : decode cD_pattern 34 = .ok (.sipush 1000, 3) := by decide +kernel
theorem dD_pattern_37 : decode cD_pattern 37 = .ok (.iload_n 2, 1) := by decide +kernel
theorem dD_pattern_38 : decode cD_pattern 38 = .ok (.iadd, 1) := by decide +kernel
theorem dD_pattern_39 : decode cD_pattern 39 = .ok (.imul, 1) := by decide +kernel
theorem dD_pattern_40 : decode cD_pattern 40 = .ok (.sipush 999, 3) := by decide +kernel
theorem dD_pattern_43 : decode cD_pattern 43 = .ok (.iadd, 1) := by decide +kernel
theorem dD_pattern_44 : decode cD_pattern 44 = .ok (.sipush 1000, 3) := by decide +kernel
theorem dD_pattern_47 : decode cD_pattern 47 = .ok (.idiv, 1) := by decide +kernel
theorem dD_pattern_48 : decode cD_pattern 48 = .ok (.ireturn, 1) := by decide +kernel
theorem dD_isWide_0 : decode cD_isWide 0 = .ok (.iload_n 0, 1) := by decide +kernel
theorem dD_isWide_1 : decode cD_isWide 1 = .ok (.iconst 1, 1) := by decide +kernel
theorem dD_isWide_2 : decode cD_isWide 2 = .ok (.sipush 2000, 3) := by decide +kernel
theorem dD_isWide_5 : decode cD_isWide 5 = .ok (.invokestatic 66, 3) := by decide +kernel
theorem dD_isWide_8 : decode cD_isWide 8 = .ok (.ireturn, 1) := by decide +kernel
theorem dD_molding_0 : decode cD_molding 0 = .ok (.aload_n 0, 1) := by decide +kernel
theorem dD_molding_1 : decode cD_molding 1 = .ok (.iload_n 1, 1) := by decide +kernel
theorem dD_molding_2 : decode cD_molding 2 = .ok (.invokestatic 129, 3) := by decide +kernel
theorem dD_molding_5 : decode cD_molding 5 = .ok (.ifCond .eq 10, 3) := by decide +kernel
theorem dD_molding_8 : decode cD_molding 8 = .ok (.iload_n 2, 1) := by decide +kernel
theorem dD_molding_9 : decode cD_molding 9 = .ok (.invokestatic 129, 3) := by decide +kernel
theorem dD_molding_12 : decode cD_molding 12 = .ok (.ifCond .ne 7, 3) := by decide +kernel
theorem dD_molding_15 : decode cD_molding 15 = .ok (.iconst 1, 1) := by decide +kernel
theorem dD_molding_16 : decode cD_molding 16 = .ok (.goto 4, 3) := by decide +kernel
theorem dD_molding_19 : decode cD_molding 19 = .ok (.iconst 0, 1) := by decide +kernel
theorem dD_molding_20 : decode cD_molding 20 = .ok (.iconst 0, 1) := by decide +kernel
theorem dD_molding_21 : decode cD_molding 21 = .ok (.iconst 0, 1) := by decide +kernel
theorem dD_molding_22 : decode cD_molding 22 = .ok (.invokevirtual 77, 3) := by decide +kernel
theorem dD_molding_25 : decode cD_molding 25 = .ok (.ifCond .eq 4, 3) := by decide +kernel
theorem dD_molding_28 : decode cD_molding 28 = .ok (.return_, 1) := by decide +kernel
theorem dD_molding_29 : decode cD_molding 29 = .ok (.aload_n 0, 1) := by decide +kernel
theorem dD_molding_30 : decode cD_molding 30 = .ok (.iload_n 1, 1) := by decide +kernel
theorem dD_molding_31 : decode cD_molding 31 = .ok (.putfield 44, 3) := by decide +kernel
theorem dD_molding_34 : decode cD_molding 34 = .ok (.aload_n 0, 1) := by decide +kernel
theorem dD_molding_35 : decode cD_molding 35 = .ok (.iload_n 2, 1) := by decide +kernel
theorem dD_molding_36 : decode cD_molding 36 = .ok (.putfield 48, 3) := by decide +kernel
theorem dD_molding_39 : decode cD_molding 39 = .ok (.aload_n 0, 1) := by decide +kernel
theorem dD_molding_40 : decode cD_molding 40 = .ok (.iconst 0, 1) := by decide +kernel
theorem dD_molding_41 : decode cD_molding 41 = .ok (.putfield 132, 3) := by decide +kernel
theorem dD_molding_44 : decode cD_molding 44 = .ok (.return_, 1) := by decide +kernel
theorem dD_taken_0 : decode cD_taken 0 = .ok (.iconst 0, 1) := by decide +kernel
theorem dD_taken_1 : decode cD_taken 1 = .ok (.istore_n 2, 1) := by decide +kernel
theorem dD_taken_2 : decode cD_taken 2 = .ok (.iload_n 1, 1) := by decide +kernel
theorem dD_taken_3 : decode cD_taken 3 = .ok (.istore_n 3, 1) := by decide +kernel
theorem dD_taken_4 : decode cD_taken 4 = .ok (.iload_n 3, 1) := by decide +kernel
theorem dD_taken_5 : decode cD_taken 5 = .ok (.aload_n 0, 1) := by decide +kernel
theorem dD_taken_6 : decode cD_taken 6 = .ok (.getfield 132, 3) := by decide +kernel
theorem dD_taken_9 : decode cD_taken 9 = .ok (.if_icmp .ge 37, 3) := by decide +kernel
theorem dD_taken_12 : decode cD_taken 12 = .ok (.iload_n 2, 1) := by decide +kernel
theorem dD_taken_13 : decode cD_taken 13 = .ok (.aload_n 0, 1) := by decide +kernel
theorem dD_taken_14 : decode cD_taken 14 = .ok (.getfield 54, 3) := by decide +kernel
theorem dD_taken_17 : decode cD_taken 17 = .ok (.iload_n 3, 1) := by decide +kernel
theorem dD_taken_18 : decode cD_taken 18 = .ok (.iaload, 1) := by decide +kernel
theorem dD_taken_19 : decode cD_taken 19 = .ok (.aload_n 0, 1) := by decide +kernel
theorem dD_taken_20 : decode cD_taken 20 = .ok (.getfield 54, 3) := by decide +kernel
theorem dD_taken_23 : decode cD_taken 23 = .ok (.iload_n 1, 1) := by decide +kernel
theorem dD_taken_24 : decode cD_taken 24 = .ok (.iaload, 1) := by decide +kernel
theorem dD_taken_25 : decode cD_taken 25 = .ok (.if_icmp .ne 12, 3) := by decide +kernel
theorem dD_taken_28 : decode cD_taken 28 = .ok (.aload_n 0, 1) := by decide +kernel
theorem dD_taken_29 : decode cD_taken 29 = .ok (.getfield 57, 3) := by decide +kernel
theorem dD_taken_32 : decode cD_taken 32 = .ok (.iload_n 3, 1) := by decide +kernel
theorem dD_taken_33 : decode cD_taken 33 = .ok (.iaload, 1) := by decide +kernel
theorem dD_taken_34 : decode cD_taken 34 = .ok (.goto 4, 3) := by decide +kernel
theorem dD_taken_37 : decode cD_taken 37 = .ok (.iconst 0, 1) := by decide +kernel
theorem dD_taken_38 : decode cD_taken 38 = .ok (.iadd, 1) := by decide +kernel
theorem dD_taken_39 : decode cD_taken 39 = .ok (.istore_n 2, 1) := by decide +kernel
theorem dD_taken_40 : decode cD_taken 40 = .ok (.iinc 3 1, 3) := by decide +kernel
theorem dD_taken_43 : decode cD_taken 43 = .ok (.goto (-39), 3) := by decide +kernel
theorem dD_taken_46 : decode cD_taken 46 = .ok (.iload_n 2, 1) := by decide +kernel
theorem dD_taken_47 : decode cD_taken 47 = .ok (.ireturn, 1) := by decide +kernel
theorem dD_shelfFor_0 : decode cD_shelfFor 0 = .ok (.iconst 0, 1) := by decide +kernel
theorem dD_shelfFor_1 : decode cD_shelfFor 1 = .ok (.istore_n 3, 1) := by decide +kernel
theorem dD_shelfFor_2 : decode cD_shelfFor 2 = .ok (.iload_n 3, 1) := by decide +kernel
theorem dD_shelfFor_3 : decode cD_shelfFor 3 = .ok (.aload_n 0, 1) := by decide +kernel
theorem dD_shelfFor_4 : decode cD_shelfFor 4 = .ok (.getfield 132, 3) := by decide +kernel
theorem dD_shelfFor_7 : decode cD_shelfFor 7 = .ok (.if_icmp .ge 56, 3) := by decide +kernel
theorem dD_shelfFor_10 : decode cD_shelfFor 10 = .ok (.aload_n 0, 1) := by decide +kernel
theorem dD_shelfFor_11 : decode cD_shelfFor 11 = .ok (.getfield 51, 3) := by decide +kernel
theorem dD_shelfFor_14 : decode cD_shelfFor 14 = .ok (.iload_n 3, 1) := by decide +kernel
theorem dD_shelfFor_15 : decode cD_shelfFor 15 = .ok (.iaload, 1) := by decide +kernel
theorem dD_shelfFor_16 : decode cD_shelfFor 16 = .ok (.ifCond .ne 7, 3) := by decide +kernel
theorem dD_shelfFor_19 : decode cD_shelfFor 19 = .ok (.iconst 1, 1) := by decide +kernel
theorem dD_shelfFor_20 : decode cD_shelfFor 20 = .ok (.goto 4, 3) := by decide +kernel
theorem dD_shelfFor_23 : decode cD_shelfFor 23 = .ok (.iconst 0, 1) := by decide +kernel
theorem dD_shelfFor_24 : decode cD_shelfFor 24 = .ok (.istore 4, 2) := by decide +kernel
theorem dD_shelfFor_26 : decode cD_shelfFor 26 = .ok (.iload 4, 2) := by decide +kernel
theorem dD_shelfFor_28 : decode cD_shelfFor 28 = .ok (.ifCond .eq 29, 3) := by decide +kernel
theorem dD_shelfFor_31 : decode cD_shelfFor 31 = .ok (.aload_n 0, 1) := by decide +kernel
theorem dD_shelfFor_32 : decode cD_shelfFor 32 = .ok (.getfield 60, 3) := by decide +kernel
theorem dD_shelfFor_35 : decode cD_shelfFor 35 = .ok (.iload_n 3, 1) := by decide +kernel
theorem dD_shelfFor_36 : decode cD_shelfFor 36 = .ok (.iaload, 1) := by decide +kernel
theorem dD_shelfFor_37 : decode cD_shelfFor 37 = .ok (.iload_n 2, 1) := by decide +kernel
theorem dD_shelfFor_38 : decode cD_shelfFor 38 = .ok (.if_icmp .lt 19, 3) := by decide +kernel
theorem dD_shelfFor_41 : decode cD_shelfFor 41 = .ok (.aload_n 0, 1) := by decide +kernel
theorem dD_shelfFor_42 : decode cD_shelfFor 42 = .ok (.iload_n 3, 1) := by decide +kernel
theorem dD_shelfFor_43 : decode cD_shelfFor 43 = .ok (.invokevirtual 135, 3) := by decide +kernel
theorem dD_shelfFor_46 : decode cD_shelfFor 46 = .ok (.iload_n 1, 1) := by decide +kernel
theorem dD_shelfFor_47 : decode cD_shelfFor 47 = .ok (.iadd, 1) := by decide +kernel
theorem dD_shelfFor_48 : decode cD_shelfFor 48 = .ok (.aload_n 0, 1) := by decide +kernel
theorem dD_shelfFor_49 : decode cD_shelfFor 49 = .ok (.getfield 44, 3) := by decide +kernel
theorem dD_shelfFor_52 : decode cD_shelfFor 52 = .ok (.if_icmp .gt 5, 3) := by decide +kernel
theorem dD_shelfFor_55 : decode cD_shelfFor 55 = .ok (.iload_n 3, 1) := by decide +kernel
theorem dD_shelfFor_56 : decode cD_shelfFor 56 = .ok (.ireturn, 1) := by decide +kernel
theorem dD_shelfFor_57 : decode cD_shelfFor 57 = .ok (.iinc 3 1, 3) := by decide +kernel
theorem dD_shelfFor_60 : decode cD_shelfFor 60 = .ok (.goto (-58), 3) := by decide +kernel
theorem dD_shelfFor_63 : decode cD_shelfFor 63 = .ok (.iconst (-1), 1) := by decide +kernel
theorem dD_shelfFor_64 : decode cD_shelfFor 64 = .ok (.ireturn, 1) := by decide +kernel
theorem dD_shelvesEnd_0 : decode cD_shelvesEnd 0 = .ok (.iconst 0, 1) := by decide +kernel
theorem dD_shelvesEnd_1 : decode cD_shelvesEnd 1 = .ok (.istore_n 1, 1) := by decide +kernel
theorem dD_shelvesEnd_2 : decode cD_shelvesEnd 2 = .ok (.iconst 0, 1) := by decide +kernel
theorem dD_shelvesEnd_3 : decode cD_shelvesEnd 3 = .ok (.istore_n 2, 1) := by decide +kernel
theorem dD_shelvesEnd_4 : decode cD_shelvesEnd 4 = .ok (.iload_n 2, 1) := by decide +kernel
theorem dD_shelvesEnd_5 : decode cD_shelvesEnd 5 = .ok (.aload_n 0, 1) := by decide +kernel
theorem dD_shelvesEnd_6 : decode cD_shelvesEnd 6 = .ok (.getfield 132, 3) := by decide +kernel
theorem dD_shelvesEnd_9 : decode cD_shelvesEnd 9 = .ok (.if_icmp .ge 43, 3) := by decide +kernel
theorem dD_shelvesEnd_12 : decode cD_shelvesEnd 12 = .ok (.aload_n 0, 1) := by decide +kernel
theorem dD_shelvesEnd_13 : decode cD_shelvesEnd 13 = .ok (.getfield 54, 3) := by decide +kernel
theorem dD_shelvesEnd_16 : decode cD_shelvesEnd 16 = .ok (.iload_n 2, 1) := by decide +kernel
theorem dD_shelvesEnd_17 : decode cD_shelvesEnd 17 = .ok (.iaload, 1) := by decide +kernel
theorem dD_shelvesEnd_18 : decode cD_shelvesEnd 18 = .ok (.aload_n 0, 1) := by decide +kernel
theorem dD_shelvesEnd_19 : decode cD_shelvesEnd 19 = .ok (.getfield 60, 3) := by decide +kernel
theorem dD_shelvesEnd_22 : decode cD_shelvesEnd 22 = .ok (.iload_n 2, 1) := by decide +kernel
theorem dD_shelvesEnd_23 : decode cD_shelvesEnd 23 = .ok (.iaload, 1) := by decide +kernel
theorem dD_shelvesEnd_24 : decode cD_shelvesEnd 24 = .ok (.iadd, 1) := by decide +kernel
theorem dD_shelvesEnd_25 : decode cD_shelvesEnd 25 = .ok (.istore_n 3, 1) := by decide +kernel
theorem dD_shelvesEnd_26 : decode cD_shelvesEnd 26 = .ok (.aload_n 0, 1) := by decide +kernel
theorem dD_shelvesEnd_27 : decode cD_shelvesEnd 27 = .ok (.getfield 51, 3) := by decide +kernel
theorem dD_shelvesEnd_30 : decode cD_shelvesEnd 30 = .ok (.iload_n 2, 1) := by decide +kernel
theorem dD_shelvesEnd_31 : decode cD_shelvesEnd 31 = .ok (.iaload, 1) := by decide +kernel
theorem dD_shelvesEnd_32 : decode cD_shelvesEnd 32 = .ok (.ifCond .ne 12, 3) := by decide +kernel
theorem dD_shelvesEnd_35 : decode cD_shelvesEnd 35 = .ok (.iload_n 3, 1) := by decide +kernel
theorem dD_shelvesEnd_36 : decode cD_shelvesEnd 36 = .ok (.iload_n 1, 1) := by decide +kernel
theorem dD_shelvesEnd_37 : decode cD_shelvesEnd 37 = .ok (.if_icmp .le 7, 3) := by decide +kernel
theorem dD_shelvesEnd_40 : decode cD_shelvesEnd 40 = .ok (.iload_n 3, 1) := by decide +kernel
theorem dD_shelvesEnd_41 : decode cD_shelvesEnd 41 = .ok (.goto 4, 3) := by decide +kernel
theorem dD_shelvesEnd_44 : decode cD_shelvesEnd 44 = .ok (.iload_n 1, 1) := by decide +kernel
theorem dD_shelvesEnd_45 : decode cD_shelvesEnd 45 = .ok (.istore_n 1, 1) := by decide +kernel
theorem dD_shelvesEnd_46 : decode cD_shelvesEnd 46 = .ok (.iinc 2 1, 3) := by decide +kernel
theorem dD_shelvesEnd_49 : decode cD_shelvesEnd 49 = .ok (.goto (-45), 3) := by decide +kernel
theorem dD_shelvesEnd_52 : decode cD_shelvesEnd 52 = .ok (.iload_n 1, 1) := by decide +kernel
theorem dD_shelvesEnd_53 : decode cD_shelvesEnd 53 = .ok (.ireturn, 1) := by decide +kernel
theorem dD_pack_0 : decode cD_pack 0 = .ok (.iload_n 1, 1) := by decide +kernel
theorem dD_pack_1 : decode cD_pack 1 = .ok (.invokestatic 129, 3) := by decide +kernel
theorem dD_pack_4 : decode cD_pack 4 = .ok (.ifCond .eq 10, 3) := by decide +kernel
theorem dD_pack_7 : decode cD_pack 7 = .ok (.iload_n 2, 1) := by decide +kernel
theorem dD_pack_8 : decode cD_pack 8 = .ok (.invokestatic 129, 3) := by decide +kernel
theorem dD_pack_11 : decode cD_pack 11 = .ok (.ifCond .ne 7, 3) := by decide +kernel
theorem dD_pack_14 : decode cD_pack 14 = .ok (.iconst 1, 1) := by decide +kernel
theorem dD_pack_15 : decode cD_pack 15 = .ok (.goto 4, 3) := by decide +kernel
theorem dD_pack_18 : decode cD_pack 18 = .ok (.iconst 0, 1) := by decide +kernel
theorem dD_pack_19 : decode cD_pack 19 = .ok (.istore_n 3, 1) := by decide +kernel
theorem dD_pack_20 : decode cD_pack 20 = .ok (.iload_n 3, 1) := by decide +kernel
theorem dD_pack_21 : decode cD_pack 21 = .ok (.ifCond .eq 7, 3) := by decide +kernel
theorem dD_pack_24 : decode cD_pack 24 = .ok (.iconst (-1), 1) := by decide +kernel
theorem dD_pack_25 : decode cD_pack 25 = .ok (.goto 9, 3) := by decide +kernel
theorem dD_pack_28 : decode cD_pack 28 = .ok (.aload_n 0, 1) := by decide +kernel
theorem dD_pack_29 : decode cD_pack 29 = .ok (.iload_n 1, 1) := by decide +kernel
theorem dD_pack_30 : decode cD_pack 30 = .ok (.iload_n 2, 1) := by decide +kernel
theorem dD_pack_31 : decode cD_pack 31 = .ok (.invokevirtual 138, 3) := by decide +kernel
theorem dD_pack_34 : decode cD_pack 34 = .ok (.istore 4, 2) := by decide +kernel
theorem dD_pack_36 : decode cD_pack 36 = .ok (.iload 4, 2) := by decide +kernel
theorem dD_pack_38 : decode cD_pack 38 = .ok (.ifCond .ge 28, 3) := by decide +kernel
theorem dD_pack_41 : decode cD_pack 41 = .ok (.iload_n 1, 1) := by decide +kernel
theorem dD_pack_42 : decode cD_pack 42 = .ok (.aload_n 0, 1) := by decide +kernel
theorem dD_pack_43 : decode cD_pack 43 = .ok (.getfield 44, 3) := by decide +kernel
theorem dD_pack_46 : decode cD_pack 46 = .ok (.if_icmp .gt 16, 3) := by decide +kernel
theorem dD_pack_49 : decode cD_pack 49 = .ok (.iload_n 2, 1) := by decide +kernel
theorem dD_pack_50 : decode cD_pack 50 = .ok (.aload_n 0, 1) := by decide +kernel
theorem dD_pack_51 : decode cD_pack 51 = .ok (.getfield 48, 3) := by decide +kernel
theorem dD_pack_54 : decode cD_pack 54 = .ok (.aload_n 0, 1) := by decide +kernel
theorem dD_pack_55 : decode cD_pack 55 = .ok (.invokevirtual 141, 3) := by decide +kernel
theorem dD_pack_58 : decode cD_pack 58 = .ok (.isub, 1) := by decide +kernel
theorem dD_pack_59 : decode cD_pack 59 = .ok (.if_icmp .le 7, 3) := by decide +kernel
theorem dD_pack_62 : decode cD_pack 62 = .ok (.iconst 1, 1) := by decide +kernel
theorem dD_pack_63 : decode cD_pack 63 = .ok (.goto 4, 3) := by decide +kernel
theorem dD_pack_66 : decode cD_pack 66 = .ok (.iconst 0, 1) := by decide +kernel
theorem dD_pack_67 : decode cD_pack 67 = .ok (.istore 5, 2) := by decide +kernel
theorem dD_pack_69 : decode cD_pack 69 = .ok (.aload_n 0, 1) := by decide +kernel
theorem dD_pack_70 : decode cD_pack 70 = .ok (.aload_n 0, 1) := by decide +kernel
theorem dD_pack_71 : decode cD_pack 71 = .ok (.getfield 132, 3) := by decide +kernel
theorem dD_pack_74 : decode cD_pack 74 = .ok (.bipush 40, 2) := by decide +kernel
theorem dD_pack_76 : decode cD_pack 76 = .ok (.if_icmp .ne 7, 3) := by decide +kernel
theorem dD_pack_79 : decode cD_pack 79 = .ok (.iconst 1, 1) := by decide +kernel
theorem dD_pack_80 : decode cD_pack 80 = .ok (.goto 4, 3) := by decide +kernel
theorem dD_pack_83 : decode cD_pack 83 = .ok (.iconst 0, 1) := by decide +kernel
theorem dD_pack_84 : decode cD_pack 84 = .ok (.iload_n 3, 1) := by decide +kernel
theorem dD_pack_85 : decode cD_pack 85 = .ok (.iload 5, 2) := by decide +kernel
theorem dD_pack_87 : decode cD_pack 87 = .ok (.invokevirtual 77, 3) := by decide +kernel
theorem dD_pack_90 : decode cD_pack 90 = .ok (.ifCond .eq 5, 3) := by decide +kernel
theorem dD_pack_93 : decode cD_pack 93 = .ok (.iconst 0, 1) := by decide +kernel
theorem dD_pack_94 : decode cD_pack 94 = .ok (.ireturn, 1) := by decide +kernel
theorem dD_pack_95 : decode cD_pack 95 = .ok (.aload_n 0, 1) := by decide +kernel
theorem dD_pack_96 : decode cD_pack 96 = .ok (.getfield 51, 3) := by decide +kernel
theorem dD_pack_99 : decode cD_pack 99 = .ok (.aload_n 0, 1) := by decide +kernel
theorem dD_pack_100 : decode cD_pack 100 = .ok (.getfield 132, 3) := by decide +kernel
theorem dD_pack_103 : decode cD_pack 103 = .ok (.iload 4, 2) := by decide +kernel
theorem dD_pack_105 : decode cD_pack 105 = .ok (.ifCond .ge 7, 3) := by decide +kernel
theorem dD_pack_108 : decode cD_pack 108 = .ok (.iconst 0, 1) := by decide +kernel
theorem dD_pack_109 : decode cD_pack 109 = .ok (.goto 9, 3) := by decide +kernel
theorem dD_pack_112 : decode cD_pack 112 = .ok (.aload_n 0, 1) := by decide +kernel
theorem dD_pack_113 : decode cD_pack 113 = .ok (.iload 4, 2) := by decide +kernel
theorem dD_pack_115 : decode cD_pack 115 = .ok (.invokevirtual 135, 3) := by decide +kernel
theorem dD_pack_118 : decode cD_pack 118 = .ok (.iastore, 1) := by decide +kernel
theorem dD_pack_119 : decode cD_pack 119 = .ok (.aload_n 0, 1) := by decide +kernel
theorem dD_pack_120 : decode cD_pack 120 = .ok (.getfield 54, 3) := by decide +kernel
theorem dD_pack_123 : decode cD_pack 123 = .ok (.aload_n 0, 1) := by decide +kernel
theorem dD_pack_124 : decode cD_pack 124 = .ok (.getfield 132, 3) := by decide +kernel
theorem dD_pack_127 : decode cD_pack 127 = .ok (.iload 4, 2) := by decide +kernel
theorem dD_pack_129 : decode cD_pack 129 = .ok (.ifCond .ge 10, 3) := by decide +kernel
theorem dD_pack_132 : decode cD_pack 132 = .ok (.aload_n 0, 1) := by decide +kernel
theorem dD_pack_133 : decode cD_pack 133 = .ok (.invokevirtual 141, 3) := by decide +kernel
theorem dD_pack_136 : decode cD_pack 136 = .ok (.goto 10, 3) := by decide +kernel
theorem dD_pack_139 : decode cD_pack 139 = .ok (.aload_n 0, 1) := by decide +kernel
theorem dD_pack_140 : decode cD_pack 140 = .ok (.getfield 54, 3) := by decide +kernel
theorem dD_pack_143 : decode cD_pack 143 = .ok (.iload 4, 2) := by decide +kernel
theorem dD_pack_145 : decode cD_pack 145 = .ok (.iaload, 1) := by decide +kernel
theorem dD_pack_146 : decode cD_pack 146 = .ok (.iastore, 1) := by decide +kernel
theorem dD_pack_147 : decode cD_pack 147 = .ok (.aload_n 0, 1) := by decide +kernel
theorem dD_pack_148 : decode cD_pack 148 = .ok (.getfield 57, 3) := by decide +kernel
theorem dD_pack_151 : decode cD_pack 151 = .ok (.aload_n 0, 1) := by decide +kernel
theorem dD_pack_152 : decode cD_pack 152 = .ok (.getfield 132, 3) := by decide +kernel
theorem dD_pack_155 : decode cD_pack 155 = .ok (.iload_n 1, 1) := by decide +kernel
theorem dD_pack_156 : decode cD_pack 156 = .ok (.iastore, 1) := by decide +kernel
theorem dD_pack_157 : decode cD_pack 157 = .ok (.aload_n 0, 1) := by decide +kernel
theorem dD_pack_158 : decode cD_pack 158 = .ok (.getfield 60, 3) := by decide +kernel
theorem dD_pack_161 : decode cD_pack 161 = .ok (.aload_n 0, 1) := by decide +kernel
theorem dD_pack_162 : decode cD_pack 162 = .ok (.getfield 132, 3) := by decide +kernel
theorem dD_pack_165 : decode cD_pack 165 = .ok (.iload_n 2, 1) := by decide +kernel
theorem dD_pack_166 : decode cD_pack 166 = .ok (.iastore, 1) := by decide +kernel
theorem dD_pack_167 : decode cD_pack 167 = .ok (.aload_n 0, 1) := by decide +kernel
theorem dD_pack_168 : decode cD_pack 168 = .ok (.dup, 1) := by decide +kernel
theorem dD_pack_169 : decode cD_pack 169 = .ok (.getfield 132, 3) := by decide +kernel
theorem dD_pack_172 : decode cD_pack 172 = .ok (.iconst 1, 1) := by decide +kernel
theorem dD_pack_173 : decode cD_pack 173 = .ok (.iadd, 1) := by decide +kernel
theorem dD_pack_174 : decode cD_pack 174 = .ok (.putfield 132, 3) := by decide +kernel
theorem dD_pack_177 : decode cD_pack 177 = .ok (.aload_n 0, 1) := by decide +kernel
theorem dD_pack_178 : decode cD_pack 178 = .ok (.getfield 132, 3) := by decide +kernel
theorem dD_pack_181 : decode cD_pack 181 = .ok (.iconst 1, 1) := by decide +kernel
theorem dD_pack_182 : decode cD_pack 182 = .ok (.isub, 1) := by decide +kernel
theorem dD_pack_183 : decode cD_pack 183 = .ok (.ireturn, 1) := by decide +kernel
theorem dD_packed_0 : decode cD_packed 0 = .ok (.aload_n 0, 1) := by decide +kernel
theorem dD_packed_1 : decode cD_packed 1 = .ok (.iload_n 1, 1) := by decide +kernel
theorem dD_packed_2 : decode cD_packed 2 = .ok (.iconst 0, 1) := by decide +kernel
theorem dD_packed_3 : decode cD_packed 3 = .ok (.aload_n 0, 1) := by decide +kernel
theorem dD_packed_4 : decode cD_packed 4 = .ok (.getfield 132, 3) := by decide +kernel
theorem dD_packed_7 : decode cD_packed 7 = .ok (.iconst 1, 1) := by decide +kernel
theorem dD_packed_8 : decode cD_packed 8 = .ok (.isub, 1) := by decide +kernel
theorem dD_packed_9 : decode cD_packed 9 = .ok (.invokestatic 66, 3) := by decide +kernel
theorem dD_packed_12 : decode cD_packed 12 = .ok (.ifCond .eq 12, 3) := by decide +kernel
theorem dD_packed_15 : decode cD_packed 15 = .ok (.iload_n 2, 1) := by decide +kernel
theorem dD_packed_16 : decode cD_packed 16 = .ok (.iconst 0, 1) := by decide +kernel
theorem dD_packed_17 : decode cD_packed 17 = .ok (.iconst 1, 1) := by decide +kernel
theorem dD_packed_18 : decode cD_packed 18 = .ok (.invokestatic 66, 3) := by decide +kernel
theorem dD_packed_21 : decode cD_packed 21 = .ok (.ifCond .ne 7, 3) := by decide +kernel
theorem dD_packed_24 : decode cD_packed 24 = .ok (.iconst 1, 1) := by decide +kernel
theorem dD_packed_25 : decode cD_packed 25 = .ok (.goto 4, 3) := by decide +kernel
theorem dD_packed_28 : decode cD_packed 28 = .ok (.iconst 0, 1) := by decide +kernel
theorem dD_packed_29 : decode cD_packed 29 = .ok (.iconst 0, 1) := by decide +kernel
theorem dD_packed_30 : decode cD_packed 30 = .ok (.iconst 0, 1) := by decide +kernel
theorem dD_packed_31 : decode cD_packed 31 = .ok (.invokevirtual 77, 3) := by decide +kernel
theorem dD_packed_34 : decode cD_packed 34 = .ok (.ifCond .eq 5, 3) := by decide +kernel
theorem dD_packed_37 : decode cD_packed 37 = .ok (.iconst 0, 1) := by decide +kernel
theorem dD_packed_38 : decode cD_packed 38 = .ok (.ireturn, 1) := by decide +kernel
theorem dD_packed_39 : decode cD_packed 39 = .ok (.iload_n 2, 1) := by decide +kernel
theorem dD_packed_40 : decode cD_packed 40 = .ok (.ifCond .ne 12, 3) := by decide +kernel
theorem dD_packed_43 : decode cD_packed 43 = .ok (.aload_n 0, 1) := by decide +kernel
theorem dD_packed_44 : decode cD_packed 44 = .ok (.getfield 51, 3) := by decide +kernel
theorem dD_packed_47 : decode cD_packed 47 = .ok (.iload_n 1, 1) := by decide +kernel
theorem dD_packed_48 : decode cD_packed 48 = .ok (.iaload, 1) := by decide +kernel
theorem dD_packed_49 : decode cD_packed 49 = .ok (.goto 9, 3) := by decide +kernel
theorem dD_packed_52 : decode cD_packed 52 = .ok (.aload_n 0, 1) := by decide +kernel
theorem dD_packed_53 : decode cD_packed 53 = .ok (.getfield 54, 3) := by decide +kernel
theorem dD_packed_56 : decode cD_packed 56 = .ok (.iload_n 1, 1) := by decide +kernel
theorem dD_packed_57 : decode cD_packed 57 = .ok (.iaload, 1) := by decide +kernel
theorem dD_packed_58 : decode cD_packed 58 = .ok (.ireturn, 1) := by decide +kernel
