theorem dX_init_0 : decode cX_init 0 = .ok (.aload_n 0, 1) := by decide +kernel
theorem dX_init_1 : decode cX_init 1 = .ok (.invokespecial 1, 3) := by decide +kernel
theorem dX_init_4 : decode cX_init 4 = .ok (.aload_n 0, 1) := by decide +kernel
theorem dX_init_5 : decode cX_init 5 = .ok (.new 7, 3) := by decide +kernel
theorem dX_init_8 : decode cX_init 8 = .ok (.dup, 1) := by decide +kernel
theorem dX_init_9 : decode cX_init 9 = .ok (.invokespecial 9, 3) := by decide +kernel
theorem dX_init_12 : decode cX_init 12 = .ok (.putfield 10, 3) := by decide +kernel
theorem dX_init_15 : decode cX_init 15 = .ok (.aload_n 0, 1) := by decide +kernel
theorem dX_init_16 : decode cX_init 16 = .ok (.new 16, 3) := by decide +kernel
theorem dX_init_19 : decode cX_init 19 = .ok (.dup, 1) := by decide +kernel
theorem dX_init_20 : decode cX_init 20 = .ok (.invokespecial 18, 3) := by decide +kernel
theorem dX_init_23 : decode cX_init 23 = .ok (.putfield 19, 3) := by decide +kernel
theorem dX_init_26 : decode cX_init 26 = .ok (.aload_n 0, 1) := by decide +kernel
theorem dX_init_27 : decode cX_init 27 = .ok (.new 23, 3) := by decide +kernel
theorem dX_init_30 : decode cX_init 30 = .ok (.dup, 1) := by decide +kernel
theorem dX_init_31 : decode cX_init 31 = .ok (.invokespecial 25, 3) := by decide +kernel
theorem dX_init_34 : decode cX_init 34 = .ok (.putfield 26, 3) := by decide +kernel
theorem dX_init_37 : decode cX_init 37 = .ok (.aload_n 0, 1) := by decide +kernel
theorem dX_init_38 : decode cX_init 38 = .ok (.new 30, 3) := by decide +kernel
theorem dX_init_41 : decode cX_init 41 = .ok (.dup, 1) := by decide +kernel
theorem dX_init_42 : decode cX_init 42 = .ok (.invokespecial 32, 3) := by decide +kernel
theorem dX_init_45 : decode cX_init 45 = .ok (.putfield 33, 3) := by decide +kernel
theorem dX_init_48 : decode cX_init 48 = .ok (.return_, 1) := by decide +kernel
theorem dX_box_0 : decode cX_box 0 = .ok (.aload_n 0, 1) := by decide +kernel
theorem dX_box_1 : decode cX_box 1 = .ok (.invokevirtual 37, 3) := by decide +kernel
theorem dX_box_4 : decode cX_box 4 = .ok (.iload_n 1, 1) := by decide +kernel
theorem dX_box_5 : decode cX_box 5 = .ok (.invokestatic 40, 3) := by decide +kernel
theorem dX_box_8 : decode cX_box 8 = .ok (.iload_n 2, 1) := by decide +kernel
theorem dX_box_9 : decode cX_box 9 = .ok (.invokestatic 40, 3) := by decide +kernel
theorem dX_box_12 : decode cX_box 12 = .ok (.iload_n 3, 1) := by decide +kernel
theorem dX_box_13 : decode cX_box 13 = .ok (.invokestatic 40, 3) := by decide +kernel
theorem dX_box_16 : decode cX_box 16 = .ok (.aload_n 0, 1) := by decide +kernel
theorem dX_box_17 : decode cX_box 17 = .ok (.getfield 10, 3) := by decide +kernel
theorem dX_box_20 : decode cX_box 20 = .ok (.iload_n 1, 1) := by decide +kernel
theorem dX_box_21 : decode cX_box 21 = .ok (.iload_n 2, 1) := by decide +kernel
theorem dX_box_22 : decode cX_box 22 = .ok (.iload_n 3, 1) := by decide +kernel
theorem dX_box_23 : decode cX_box 23 = .ok (.invokevirtual 44, 3) := by decide +kernel
theorem dX_box_26 : decode cX_box 26 = .ok (.ireturn, 1) := by decide +kernel
theorem dX_cylinder_0 : decode cX_cylinder 0 = .ok (.aload_n 0, 1) := by decide +kernel
theorem dX_cylinder_1 : decode cX_cylinder 1 = .ok (.invokevirtual 37, 3) := by decide +kernel
theorem dX_cylinder_4 : decode cX_cylinder 4 = .ok (.iload_n 1, 1) := by decide +kernel
theorem dX_cylinder_5 : decode cX_cylinder 5 = .ok (.invokestatic 40, 3) := by decide +kernel
theorem dX_cylinder_8 : decode cX_cylinder 8 = .ok (.iload_n 2, 1) := by decide +kernel
theorem dX_cylinder_9 : decode cX_cylinder 9 = .ok (.invokestatic 40, 3) := by decide +kernel
theorem dX_cylinder_12 : decode cX_cylinder 12 = .ok (.aload_n 0, 1) := by decide +kernel
theorem dX_cylinder_13 : decode cX_cylinder 13 = .ok (.getfield 10, 3) := by decide +kernel
theorem dX_cylinder_16 : decode cX_cylinder 16 = .ok (.iload_n 1, 1) := by decide +kernel
theorem dX_cylinder_17 : decode cX_cylinder 17 = .ok (.iload_n 2, 1) := by decide +kernel
theorem dX_cylinder_18 : decode cX_cylinder 18 = .ok (.invokevirtual 48, 3) := by decide +kernel
theorem dX_cylinder_21 : decode cX_cylinder 21 = .ok (.ireturn, 1) := by decide +kernel
theorem dX_face_0 : decode cX_face 0 = .ok (.aload_n 0, 1) := by decide +kernel
theorem dX_face_1 : decode cX_face 1 = .ok (.iload_n 1, 1) := by decide +kernel
theorem dX_face_2 : decode cX_face 2 = .ok (.invokevirtual 52, 3) := by decide +kernel
theorem dX_face_5 : decode cX_face 5 = .ok (.aload_n 0, 1) := by decide +kernel
theorem dX_face_6 : decode cX_face 6 = .ok (.getfield 10, 3) := by decide +kernel
theorem dX_face_9 : decode cX_face 9 = .ok (.iload_n 1, 1) := by decide +kernel
theorem dX_face_10 : decode cX_face 10 = .ok (.iload_n 2, 1) := by decide +kernel
theorem dX_face_11 : decode cX_face 11 = .ok (.invokevirtual 55, 3) := by decide +kernel
theorem dX_face_14 : decode cX_face 14 = .ok (.ifCond .ne 13, 3) := by decide +kernel
theorem dX_face_17 : decode cX_face 17 = .ok (.new 59, 3) := by decide +kernel
theorem dX_face_20 : decode cX_face 20 = .ok (.dup, 1) := by decide +kernel
theorem dX_face_21 : decode cX_face 21 = .ok (.ldc 61, 2) := by decide +kernel
theorem dX_face_23 : decode cX_face 23 = .ok (.invokespecial 63, 3) := by decide +kernel
theorem dX_face_26 : decode cX_face 26 = .ok (.athrow, 1) := by decide +kernel
theorem dX_face_27 : decode cX_face 27 = .ok (.iload_n 3, 1) := by decide +kernel
theorem dX_face_28 : decode cX_face 28 = .ok (.ifCond .lt 8, 3) := by decide +kernel
theorem dX_face_31 : decode cX_face 31 = .ok (.iload_n 3, 1) := by decide +kernel
theorem dX_face_32 : decode cX_face 32 = .ok (.iconst 2, 1) := by decide +kernel
theorem dX_face_33 : decode cX_face 33 = .ok (.if_icmp .le 13, 3) := by decide +kernel
theorem dX_face_36 : decode cX_face 36 = .ok (.new 66, 3) := by decide +kernel
theorem dX_face_39 : decode cX_face 39 = .ok (.dup, 1) := by decide +kernel
theorem dX_face_40 : decode cX_face 40 = .ok (.ldc 68, 2) := by decide +kernel
theorem dX_face_42 : decode cX_face 42 = .ok (.invokespecial 70, 3) := by decide +kernel
theorem dX_face_45 : decode cX_face 45 = .ok (.athrow, 1) := by decide +kernel
theorem dX_face_46 : decode cX_face 46 = .ok (.aload_n 0, 1) := by decide +kernel
theorem dX_face_47 : decode cX_face 47 = .ok (.getfield 10, 3) := by decide +kernel
theorem dX_face_50 : decode cX_face 50 = .ok (.iload_n 1, 1) := by decide +kernel
theorem dX_face_51 : decode cX_face 51 = .ok (.iload_n 2, 1) := by decide +kernel
theorem dX_face_52 : decode cX_face 52 = .ok (.iload_n 3, 1) := by decide +kernel
theorem dX_face_53 : decode cX_face 53 = .ok (.invokevirtual 71, 3) := by decide +kernel
theorem dX_face_56 : decode cX_face 56 = .ok (.return_, 1) := by decide +kernel
theorem dX_modulus_0 : decode cX_modulus 0 = .ok (.aload_n 0, 1) := by decide +kernel
theorem dX_modulus_1 : decode cX_modulus 1 = .ok (.iload_n 1, 1) := by decide +kernel
theorem dX_modulus_2 : decode cX_modulus 2 = .ok (.invokevirtual 52, 3) := by decide +kernel
theorem dX_modulus_5 : decode cX_modulus 5 = .ok (.iload_n 2, 1) := by decide +kernel
theorem dX_modulus_6 : decode cX_modulus 6 = .ok (.ifCond .lt 8, 3) := by decide +kernel
theorem dX_modulus_9 : decode cX_modulus 9 = .ok (.iload_n 2, 1) := by decide +kernel
theorem dX_modulus_10 : decode cX_modulus 10 = .ok (.iconst 1, 1) := by decide +kernel
theorem dX_modulus_11 : decode cX_modulus 11 = .ok (.if_icmp .le 13, 3) := by decide +kernel
theorem dX_modulus_14 : decode cX_modulus 14 = .ok (.new 59, 3) := by decide +kernel
theorem dX_modulus_17 : decode cX_modulus 17 = .ok (.dup, 1) := by decide +kernel
theorem dX_modulus_18 : decode cX_modulus 18 = .ok (.ldc 75, 2) := by decide +kernel
theorem dX_modulus_20 : decode cX_modulus 20 = .ok (.invokespecial 63, 3) := by decide +kernel
theorem dX_modulus_23 : decode cX_modulus 23 = .ok (.athrow, 1) := by decide +kernel
theorem dX_modulus_24 : decode cX_modulus 24 = .ok (.aload_n 0, 1) := by decide +kernel
theorem dX_modulus_25 : decode cX_modulus 25 = .ok (.iload_n 1, 1) := by decide +kernel
theorem dX_modulus_26 : decode cX_modulus 26 = .ok (.invokevirtual 77, 3) := by decide +kernel
theorem dX_modulus_29 : decode cX_modulus 29 = .ok (.aload_n 0, 1) := by decide +kernel
theorem dX_modulus_30 : decode cX_modulus 30 = .ok (.getfield 10, 3) := by decide +kernel
theorem dX_modulus_33 : decode cX_modulus 33 = .ok (.iload_n 1, 1) := by decide +kernel
theorem dX_modulus_34 : decode cX_modulus 34 = .ok (.invokevirtual 80, 3) := by decide +kernel
theorem dX_modulus_37 : decode cX_modulus 37 = .ok (.aload_n 0, 1) := by decide +kernel
theorem dX_modulus_38 : decode cX_modulus 38 = .ok (.getfield 10, 3) := by decide +kernel
theorem dX_modulus_41 : decode cX_modulus 41 = .ok (.iload_n 1, 1) := by decide +kernel
theorem dX_modulus_42 : decode cX_modulus 42 = .ok (.invokevirtual 84, 3) := by decide +kernel
theorem dX_modulus_45 : decode cX_modulus 45 = .ok (.iload_n 2, 1) := by decide +kernel
theorem dX_modulus_46 : decode cX_modulus 46 = .ok (.invokestatic 87, 3) := by decide +kernel
theorem dX_modulus_49 : decode cX_modulus 49 = .ok (.lreturn, 1) := by decide +kernel
theorem dX_join_0 : decode cX_join 0 = .ok (.aload_n 0, 1) := by decide +kernel
theorem dX_join_1 : decode cX_join 1 = .ok (.iload_n 1, 1) := by decide +kernel
theorem dX_join_2 : decode cX_join 2 = .ok (.invokevirtual 52, 3) := by decide +kernel
theorem dX_join_5 : decode cX_join 5 = .ok (.aload_n 0, 1) := by decide +kernel
theorem dX_join_6 : decode cX_join 6 = .ok (.iload_n 2, 1) := by decide +kernel
theorem dX_join_7 : decode cX_join 7 = .ok (.invokevirtual 52, 3) := by decide +kernel
theorem dX_join_10 : decode cX_join 10 = .ok (.iload_n 1, 1) := by decide +kernel
theorem dX_join_11 : decode cX_join 11 = .ok (.iload_n 2, 1) := by decide +kernel
theorem dX_join_12 : decode cX_join 12 = .ok (.if_icmp .ne 13, 3) := by decide +kernel
theorem dX_join_15 : decode cX_join 15 = .ok (.new 59, 3) := by decide +kernel
theorem dX_join_18 : decode cX_join 18 = .ok (.dup, 1) := by decide +kernel
theorem dX_join_19 : decode cX_join 19 = .ok (.ldc 91, 2) := by decide +kernel
theorem dX_join_21 : decode cX_join 21 = .ok (.invokespecial 63, 3) := by decide +kernel
theorem dX_join_24 : decode cX_join 24 = .ok (.athrow, 1) := by decide +kernel
theorem dX_join_25 : decode cX_join 25 = .ok (.aload_n 0, 1) := by decide +kernel
theorem dX_join_26 : decode cX_join 26 = .ok (.getfield 10, 3) := by decide +kernel
theorem dX_join_29 : decode cX_join 29 = .ok (.iload_n 1, 1) := by decide +kernel
theorem dX_join_30 : decode cX_join 30 = .ok (.iload_n 2, 1) := by decide +kernel
theorem dX_join_31 : decode cX_join 31 = .ok (.invokevirtual 93, 3) := by decide +kernel
theorem dX_join_34 : decode cX_join 34 = .ok (.iload_n 3, 1) := by decide +kernel
theorem dX_join_35 : decode cX_join 35 = .ok (.if_icmp .ne 13, 3) := by decide +kernel
theorem dX_join_38 : decode cX_join 38 = .ok (.new 96, 3) := by decide +kernel
theorem dX_join_41 : decode cX_join 41 = .ok (.dup, 1) := by decide +kernel
theorem dX_join_42 : decode cX_join 42 = .ok (.ldc 98, 2) := by decide +kernel
theorem dX_join_44 : decode cX_join 44 = .ok (.invokespecial 100, 3) := by decide +kernel
theorem dX_join_47 : decode cX_join 47 = .ok (.athrow, 1) := by decide +kernel
theorem dX_join_48 : decode cX_join 48 = .ok (.aload_n 0, 1) := by decide +kernel
theorem dX_join_49 : decode cX_join 49 = .ok (.getfield 10, 3) := by decide +kernel
theorem dX_join_52 : decode cX_join 52 = .ok (.iload_n 1, 1) := by decide +kernel
theorem dX_join_53 : decode cX_join 53 = .ok (.iload_n 2, 1) := by decide +kernel
theorem dX_join_54 : decode cX_join 54 = .ok (.iload_n 3, 1) := by decide +kernel
theorem dX_join_55 : decode cX_join 55 = .ok (.invokevirtual 101, 3) := by decide +kernel
theorem dX_join_58 : decode cX_join 58 = .ok (.return_, 1) := by decide +kernel
theorem dX_order_0 : decode cX_order 0 = .ok (.iload_n 1, 1) := by decide +kernel
theorem dX_order_1 : decode cX_order 1 = .ok (.invokestatic 105, 3) := by decide +kernel
theorem dX_order_4 : decode cX_order 4 = .ok (.iconst 0, 1) := by decide +kernel
theorem dX_order_5 : decode cX_order 5 = .ok (.istore_n 2, 1) := by decide +kernel
theorem dX_order_6 : decode cX_order 6 = .ok (.iload_n 2, 1) := by decide +kernel
theorem dX_order_7 : decode cX_order 7 = .ok (.aload_n 0, 1) := by decide +kernel
theorem dX_order_8 : decode cX_order 8 = .ok (.getfield 10, 3) := by decide +kernel
theorem dX_order_11 : decode cX_order 11 = .ok (.invokevirtual 108, 3) := by decide +kernel
theorem dX_order_14 : decode cX_order 14 = .ok (.if_icmp .ge 34, 3) := by decide +kernel
theorem dX_order_17 : decode cX_order 17 = .ok (.aload_n 0, 1) := by decide +kernel
theorem dX_order_18 : decode cX_order 18 = .ok (.getfield 10, 3) := by decide +kernel
theorem dX_order_21 : decode cX_order 21 = .ok (.iload_n 2, 1) := by decide +kernel
theorem dX_order_22 : decode cX_order 22 = .ok (.invokevirtual 112, 3) := by decide +kernel
theorem dX_order_25 : decode cX_order 25 = .ok (.ifCond .eq 17, 3) := by decide +kernel
theorem dX_order_28 : decode cX_order 28 = .ok (.aload_n 0, 1) := by decide +kernel
theorem dX_order_29 : decode cX_order 29 = .ok (.getfield 10, 3) := by decide +kernel
theorem dX_order_32 : decode cX_order 32 = .ok (.iload_n 2, 1) := by decide +kernel
theorem dX_order_33 : decode cX_order 33 = .ok (.invokevirtual 116, 3) := by decide +kernel
theorem dX_order_36 : decode cX_order 36 = .ok (.iload_n 1, 1) := by decide +kernel
theorem dX_order_37 : decode cX_order 37 = .ok (.if_icmp .ne 5, 3) := by decide +kernel
theorem dX_order_40 : decode cX_order 40 = .ok (.iload_n 2, 1) := by decide +kernel
theorem dX_order_41 : decode cX_order 41 = .ok (.ireturn, 1) := by decide +kernel
theorem dX_order_42 : decode cX_order 42 = .ok (.iinc 2 1, 3) := by decide +kernel
theorem dX_order_45 : decode cX_order 45 = .ok (.goto (-39), 3) := by decide +kernel
theorem dX_order_48 : decode cX_order 48 = .ok (.iconst (-1), 1) := by decide +kernel
theorem dX_order_49 : decode cX_order 49 = .ok (.ireturn, 1) := by decide +kernel
theorem dX_riserRow_0 : decode cX_riserRow 0 = .ok (.aload_n 0, 1) := by decide +kernel
theorem dX_riserRow_1 : decode cX_riserRow 1 = .ok (.getfield 19, 3) := by decide +kernel
theorem dX_riserRow_4 : decode cX_riserRow 4 = .ok (.invokevirtual 120, 3) := by decide +kernel
theorem dX_riserRow_7 : decode cX_riserRow 7 = .ok (.ifCond .eq 13, 3) := by decide +kernel
theorem dX_riserRow_10 : decode cX_riserRow 10 = .ok (.new 96, 3) := by decide +kernel
theorem dX_riserRow_13 : decode cX_riserRow 13 = .ok (.dup, 1) := by decide +kernel
theorem dX_riserRow_14 : decode cX_riserRow 14 = .ok (.ldc 124, 2) := by decide +kernel
theorem dX_riserRow_16 : decode cX_riserRow 16 = .ok (.invokespecial 100, 3) := by decide +kernel
theorem dX_riserRow_19 : decode cX_riserRow 19 = .ok (.athrow, 1) := by decide +kernel
theorem dX_riserRow_20 : decode cX_riserRow 20 = .ok (.iload_n 1, 1) := by decide +kernel
theorem dX_riserRow_21 : decode cX_riserRow 21 = .ok (.invokestatic 40, 3) := by decide +kernel
theorem dX_riserRow_24 : decode cX_riserRow 24 = .ok (.iload_n 2, 1) := by decide +kernel
theorem dX_riserRow_25 : decode cX_riserRow 25 = .ok (.invokestatic 40, 3) := by decide +kernel
theorem dX_riserRow_28 : decode cX_riserRow 28 = .ok (.aload_n 0, 1) := by decide +kernel
theorem dX_riserRow_29 : decode cX_riserRow 29 = .ok (.getfield 19, 3) := by decide +kernel
theorem dX_riserRow_32 : decode cX_riserRow 32 = .ok (.iload_n 1, 1) := by decide +kernel
theorem dX_riserRow_33 : decode cX_riserRow 33 = .ok (.iload_n 2, 1) := by decide +kernel
theorem dX_riserRow_34 : decode cX_riserRow 34 = .ok (.invokevirtual 126, 3) := by decide +kernel
theorem dX_riserRow_37 : decode cX_riserRow 37 = .ok (.ireturn, 1) := by decide +kernel
theorem dX_riser_0 : decode cX_riser 0 = .ok (.aload_n 0, 1) := by decide +kernel
theorem dX_riser_1 : decode cX_riser 1 = .ok (.iload_n 1, 1) := by decide +kernel
theorem dX_riser_2 : decode cX_riser 2 = .ok (.invokevirtual 52, 3) := by decide +kernel
theorem dX_riser_5 : decode cX_riser 5 = .ok (.aload_n 0, 1) := by decide +kernel
theorem dX_riser_6 : decode cX_riser 6 = .ok (.iload_n 1, 1) := by decide +kernel
theorem dX_riser_7 : decode cX_riser 7 = .ok (.invokevirtual 77, 3) := by decide +kernel
theorem dX_riser_10 : decode cX_riser 10 = .ok (.aload_n 0, 1) := by decide +kernel
theorem dX_riser_11 : decode cX_riser 11 = .ok (.getfield 19, 3) := by decide +kernel
theorem dX_riser_14 : decode cX_riser 14 = .ok (.aload_n 0, 1) := by decide +kernel
theorem dX_riser_15 : decode cX_riser 15 = .ok (.getfield 10, 3) := by decide +kernel
theorem dX_riser_18 : decode cX_riser 18 = .ok (.iload_n 1, 1) := by decide +kernel
theorem dX_riser_19 : decode cX_riser 19 = .ok (.invokevirtual 80, 3) := by decide +kernel
theorem dX_riser_22 : decode cX_riser 22 = .ok (.aload_n 0, 1) := by decide +kernel
theorem dX_riser_23 : decode cX_riser 23 = .ok (.getfield 10, 3) := by decide +kernel
theorem dX_riser_26 : decode cX_riser 26 = .ok (.iload_n 1, 1) := by decide +kernel
theorem dX_riser_27 : decode cX_riser 27 = .ok (.invokevirtual 84, 3) := by decide +kernel
theorem dX_riser_30 : decode cX_riser 30 = .ok (.invokevirtual 129, 3) := by decide +kernel
theorem dX_riser_33 : decode cX_riser 33 = .ok (.istore_n 2, 1) := by decide +kernel
theorem dX_riser_34 : decode cX_riser 34 = .ok (.iload_n 2, 1) := by decide +kernel
theorem dX_riser_35 : decode cX_riser 35 = .ok (.iconst (-1), 1) := by decide +kernel
theorem dX_riser_36 : decode cX_riser 36 = .ok (.if_icmp .ne 13, 3) := by decide +kernel
theorem dX_riser_39 : decode cX_riser 39 = .ok (.new 133, 3) := by decide +kernel
theorem dX_riser_42 : decode cX_riser 42 = .ok (.dup, 1) := by decide +kernel
theorem dX_riser_43 : decode cX_riser 43 = .ok (.ldc 135, 2) := by decide +kernel
theorem dX_riser_45 : decode cX_riser 45 = .ok (.invokespecial 137, 3) := by decide +kernel
theorem dX_riser_48 : decode cX_riser 48 = .ok (.athrow, 1) := by decide +kernel
theorem dX_riser_49 : decode cX_riser 49 = .ok (.aload_n 0, 1) := by decide +kernel
theorem dX_riser_50 : decode cX_riser 50 = .ok (.getfield 10, 3) := by decide +kernel
theorem dX_riser_53 : decode cX_riser 53 = .ok (.iload_n 1, 1) := by decide +kernel
theorem dX_riser_54 : decode cX_riser 54 = .ok (.iload_n 2, 1) := by decide +kernel
theorem dX_riser_55 : decode cX_riser 55 = .ok (.invokevirtual 138, 3) := by decide +kernel
theorem dX_riser_58 : decode cX_riser 58 = .ok (.iload_n 2, 1) := by decide +kernel
theorem dX_riser_59 : decode cX_riser 59 = .ok (.ireturn, 1) := by decide +kernel
theorem dX_cutOff_0 : decode cX_cutOff 0 = .ok (.aload_n 0, 1) := by decide +kernel
theorem dX_cutOff_1 : decode cX_cutOff 1 = .ok (.iload_n 1, 1) := by decide +kernel
theorem dX_cutOff_2 : decode cX_cutOff 2 = .ok (.invokevirtual 52, 3) := by decide +kernel
theorem dX_cutOff_5 : decode cX_cutOff 5 = .ok (.aload_n 0, 1) := by decide +kernel
theorem dX_cutOff_6 : decode cX_cutOff 6 = .ok (.getfield 10, 3) := by decide +kernel
theorem dX_cutOff_9 : decode cX_cutOff 9 = .ok (.iload_n 1, 1) := by decide +kernel
theorem dX_cutOff_10 : decode cX_cutOff 10 = .ok (.invokevirtual 142, 3) := by decide +kernel
theorem dX_cutOff_13 : decode cX_cutOff 13 = .ok (.iconst (-1), 1) := by decide +kernel
theorem dX_cutOff_14 : decode cX_cutOff 14 = .ok (.if_icmp .ne 13, 3) := by decide +kernel
theorem dX_cutOff_17 : decode cX_cutOff 17 = .ok (.new 96, 3) := by decide +kernel
theorem dX_cutOff_20 : decode cX_cutOff 20 = .ok (.dup, 1) := by decide +kernel
theorem dX_cutOff_21 : decode cX_cutOff 21 = .ok (.ldc 145, 2) := by decide +kernel
theorem dX_cutOff_23 : decode cX_cutOff 23 = .ok (.invokespecial 100, 3) := by decide +kernel
theorem dX_cutOff_26 : decode cX_cutOff 26 = .ok (.athrow, 1) := by decide +kernel
theorem dX_cutOff_27 : decode cX_cutOff 27 = .ok (.aload_n 0, 1) := by decide +kernel
theorem dX_cutOff_28 : decode cX_cutOff 28 = .ok (.getfield 10, 3) := by decide +kernel
theorem dX_cutOff_31 : decode cX_cutOff 31 = .ok (.iload_n 1, 1) := by decide +kernel
theorem dX_cutOff_32 : decode cX_cutOff 32 = .ok (.iconst (-1), 1) := by decide +kernel
theorem dX_cutOff_33 : decode cX_cutOff 33 = .ok (.invokevirtual 138, 3) := by decide +kernel
theorem dX_cutOff_36 : decode cX_cutOff 36 = .ok (.return_, 1) := by decide +kernel
theorem dX_feeder_0 : decode cX_feeder 0 = .ok (.aload_n 0, 1) := by decide +kernel
theorem dX_feeder_1 : decode cX_feeder 1 = .ok (.iload_n 1, 1) := by decide +kernel
theorem dX_feeder_2 : decode cX_feeder 2 = .ok (.invokevirtual 52, 3) := by decide +kernel
theorem dX_feeder_5 : decode cX_feeder 5 = .ok (.aload_n 0, 1) := by decide +kernel
theorem dX_feeder_6 : decode cX_feeder 6 = .ok (.iload_n 1, 1) := by decide +kernel
theorem dX_feeder_7 : decode cX_feeder 7 = .ok (.invokevirtual 147, 3) := by decide +kernel
theorem dX_feeder_10 : decode cX_feeder 10 = .ok (.ireturn, 1) := by decide +kernel
theorem dX_unfed_0 : decode cX_unfed 0 = .ok (.iload_n 1, 1) := by decide +kernel
theorem dX_unfed_1 : decode cX_unfed 1 = .ok (.invokestatic 105, 3) := by decide +kernel
theorem dX_unfed_4 : decode cX_unfed 4 = .ok (.iconst 0, 1) := by decide +kernel
theorem dX_unfed_5 : decode cX_unfed 5 = .ok (.istore_n 2, 1) := by decide +kernel
theorem dX_unfed_6 : decode cX_unfed 6 = .ok (.iconst 0, 1) := by decide +kernel
theorem dX_unfed_7 : decode cX_unfed 7 = .ok (.istore_n 3, 1) := by decide +kernel
theorem dX_unfed_8 : decode cX_unfed 8 = .ok (.iload_n 3, 1) := by decide +kernel
theorem dX_unfed_9 : decode cX_unfed 9 = .ok (.aload_n 0, 1) := by decide +kernel
theorem dX_unfed_10 : decode cX_unfed 10 = .ok (.getfield 10, 3) := by decide +kernel
theorem dX_unfed_13 : decode cX_unfed 13 = .ok (.invokevirtual 108, 3) := by decide +kernel
theorem dX_unfed_16 : decode cX_unfed 16 = .ok (.if_icmp .ge 28, 3) := by decide +kernel
theorem dX_unfed_19 : decode cX_unfed 19 = .ok (.aload_n 0, 1) := by decide +kernel
theorem dX_unfed_20 : decode cX_unfed 20 = .ok (.iload_n 3, 1) := by decide +kernel
theorem dX_unfed_21 : decode cX_unfed 21 = .ok (.invokevirtual 147, 3) := by decide +kernel
theorem dX_unfed_24 : decode cX_unfed 24 = .ok (.iconst (-1), 1) := by decide +kernel
theorem dX_unfed_25 : decode cX_unfed 25 = .ok (.if_icmp .ne 13, 3) := by decide +kernel
theorem dX_unfed_28 : decode cX_unfed 28 = .ok (.iload_n 2, 1) := by decide +kernel
theorem dX_unfed_29 : decode cX_unfed 29 = .ok (.iload_n 1, 1) := by decide +kernel
theorem dX_unfed_30 : decode cX_unfed 30 = .ok (.if_icmp .ne 5, 3) := by decide +kernel
theorem dX_unfed_33 : decode cX_unfed 33 = .ok (.iload_n 3, 1) := by decide +kernel
theorem dX_unfed_34 : decode cX_unfed 34 = .ok (.ireturn, 1) := by decide +kernel
theorem dX_unfed_35 : decode cX_unfed 35 = .ok (.iinc 2 1, 3) := by decide +kernel
theorem dX_unfed_38 : decode cX_unfed 38 = .ok (.iinc 3 1, 3) := by decide +kernel
theorem dX_unfed_41 : decode cX_unfed 41 = .ok (.goto (-33), 3) := by decide +kernel
theorem dX_unfed_44 : decode cX_unfed 44 = .ok (.iconst (-1), 1) := by decide +kernel
theorem dX_unfed_45 : decode cX_unfed 45 = .ok (.ireturn, 1) := by decide +kernel
theorem dX_flowRow_0 : decode cX_flowRow 0 = .ok (.aload_n 0, 1) := by decide +kernel
theorem dX_flowRow_1 : decode cX_flowRow 1 = .ok (.getfield 26, 3) := by decide +kernel
theorem dX_flowRow_4 : decode cX_flowRow 4 = .ok (.invokevirtual 150, 3) := by decide +kernel
theorem dX_flowRow_7 : decode cX_flowRow 7 = .ok (.ifCond .eq 13, 3) := by decide +kernel
theorem dX_flowRow_10 : decode cX_flowRow 10 = .ok (.new 96, 3) := by decide +kernel
theorem dX_flowRow_13 : decode cX_flowRow 13 = .ok (.dup, 1) := by decide +kernel
theorem dX_flowRow_14 : decode cX_flowRow 14 = .ok (.ldc 151, 2) := by decide +kernel
theorem dX_flowRow_16 : decode cX_flowRow 16 = .ok (.invokespecial 100, 3) := by decide +kernel
theorem dX_flowRow_19 : decode cX_flowRow 19 = .ok (.athrow, 1) := by decide +kernel
theorem dX_flowRow_20 : decode cX_flowRow 20 = .ok (.iload_n 1, 1) := by decide +kernel
theorem dX_flowRow_21 : decode cX_flowRow 21 = .ok (.invokestatic 153, 3) := by decide +kernel
theorem dX_flowRow_24 : decode cX_flowRow 24 = .ok (.iload_n 2, 1) := by decide +kernel
theorem dX_flowRow_25 : decode cX_flowRow 25 = .ok (.invokestatic 156, 3) := by decide +kernel
theorem dX_flowRow_28 : decode cX_flowRow 28 = .ok (.aload_n 0, 1) := by decide +kernel
theorem dX_flowRow_29 : decode cX_flowRow 29 = .ok (.getfield 26, 3) := by decide +kernel
theorem dX_flowRow_32 : decode cX_flowRow 32 = .ok (.iload_n 1, 1) := by decide +kernel
theorem dX_flowRow_33 : decode cX_flowRow 33 = .ok (.iload_n 2, 1) := by decide +kernel
theorem dX_flowRow_34 : decode cX_flowRow 34 = .ok (.invokevirtual 159, 3) := by decide +kernel
theorem dX_flowRow_37 : decode cX_flowRow 37 = .ok (.ifCond .ne 13, 3) := by decide +kernel
theorem dX_flowRow_40 : decode cX_flowRow 40 = .ok (.new 133, 3) := by decide +kernel
theorem dX_flowRow_43 : decode cX_flowRow 43 = .ok (.dup, 1) := by decide +kernel
theorem dX_flowRow_44 : decode cX_flowRow 44 = .ok (.ldc 162, 2) := by decide +kernel
theorem dX_flowRow_46 : decode cX_flowRow 46 = .ok (.invokespecial 137, 3) := by decide +kernel
theorem dX_flowRow_49 : decode cX_flowRow 49 = .ok (.athrow, 1) := by decide +kernel
theorem dX_flowRow_50 : decode cX_flowRow 50 = .ok (.aload_n 0, 1) := by decide +kernel
theorem dX_flowRow_51 : decode cX_flowRow 51 = .ok (.getfield 26, 3) := by decide +kernel
theorem dX_flowRow_54 : decode cX_flowRow 54 = .ok (.iload_n 1, 1) := by decide +kernel
theorem dX_flowRow_55 : decode cX_flowRow 55 = .ok (.iload_n 2, 1) := by decide +kernel
theorem dX_flowRow_56 : decode cX_flowRow 56 = .ok (.invokevirtual 164, 3) := by decide +kernel
theorem dX_flowRow_59 : decode cX_flowRow 59 = .ok (.ireturn, 1) := by decide +kernel
theorem dX_flow_0 : decode cX_flow 0 = .ok (.aload_n 0, 1) := by decide +kernel
theorem dX_flow_1 : decode cX_flow 1 = .ok (.invokevirtual 165, 3) := by decide +kernel
theorem dX_flow_4 : decode cX_flow 4 = .ok (.iload_n 1, 1) := by decide +kernel
theorem dX_flow_5 : decode cX_flow 5 = .ok (.invokestatic 153, 3) := by decide +kernel
theorem dX_flow_8 : decode cX_flow 8 = .ok (.aload_n 0, 1) := by decide +kernel
theorem dX_flow_9 : decode cX_flow 9 = .ok (.getfield 26, 3) := by decide +kernel
theorem dX_flow_12 : decode cX_flow 12 = .ok (.iload_n 1, 1) := by decide +kernel
theorem dX_flow_13 : decode cX_flow 13 = .ok (.invokevirtual 168, 3) := by decide +kernel
theorem dX_flow_16 : decode cX_flow 16 = .ok (.ireturn, 1) := by decide +kernel
theorem dX_gate_0 : decode cX_gate 0 = .ok (.aload_n 0, 1) := by decide +kernel
theorem dX_gate_1 : decode cX_gate 1 = .ok (.invokevirtual 165, 3) := by decide +kernel
theorem dX_gate_4 : decode cX_gate 4 = .ok (.iload_n 1, 1) := by decide +kernel
theorem dX_gate_5 : decode cX_gate 5 = .ok (.invokestatic 156, 3) := by decide +kernel
theorem dX_gate_8 : decode cX_gate 8 = .ok (.aload_n 0, 1) := by decide +kernel
theorem dX_gate_9 : decode cX_gate 9 = .ok (.getfield 26, 3) := by decide +kernel
theorem dX_gate_12 : decode cX_gate 12 = .ok (.sipush 10000, 3) := by decide +kernel
theorem dX_gate_15 : decode cX_gate 15 = .ok (.invokevirtual 168, 3) := by decide +kernel
theorem dX_gate_18 : decode cX_gate 18 = .ok (.iload_n 1, 1) := by decide +kernel
theorem dX_gate_19 : decode cX_gate 19 = .ok (.if_icmp .ge 13, 3) := by decide +kernel
theorem dX_gate_22 : decode cX_gate 22 = .ok (.new 133, 3) := by decide +kernel
theorem dX_gate_25 : decode cX_gate 25 = .ok (.dup, 1) := by decide +kernel
theorem dX_gate_26 : decode cX_gate 26 = .ok (.ldc 171, 2) := by decide +kernel
theorem dX_gate_28 : decode cX_gate 28 = .ok (.invokespecial 137, 3) := by decide +kernel
theorem dX_gate_31 : decode cX_gate 31 = .ok (.athrow, 1) := by decide +kernel
theorem dX_gate_32 : decode cX_gate 32 = .ok (.aload_n 0, 1) := by decide +kernel
theorem dX_gate_33 : decode cX_gate 33 = .ok (.getfield 26, 3) := by decide +kernel
theorem dX_gate_36 : decode cX_gate 36 = .ok (.iload_n 1, 1) := by decide +kernel
theorem dX_gate_37 : decode cX_gate 37 = .ok (.invokevirtual 173, 3) := by decide +kernel
theorem dX_gate_40 : decode cX_gate 40 = .ok (.ireturn, 1) := by decide +kernel
theorem dX_pattern_0 : decode cX_pattern 0 = .ok (.iload_n 1, 1) := by decide +kernel
theorem dX_pattern_1 : decode cX_pattern 1 = .ok (.invokestatic 40, 3) := by decide +kernel
theorem dX_pattern_4 : decode cX_pattern 4 = .ok (.iload_n 2, 1) := by decide +kernel
theorem dX_pattern_5 : decode cX_pattern 5 = .ok (.ifCond .lt 9, 3) := by decide +kernel
theorem dX_pattern_8 : decode cX_pattern 8 = .ok (.iload_n 2, 1) := by decide +kernel
theorem dX_pattern_9 : decode cX_pattern 9 = .ok (.bipush 100, 2) := by decide +kernel
theorem dX_pattern_11 : decode cX_pattern 11 = .ok (.if_icmp .le 13, 3) := by decide +kernel
theorem dX_pattern_14 : decode cX_pattern 14 = .ok (.new 66, 3) := by decide +kernel
theorem dX_pattern_17 : decode cX_pattern 17 = .ok (.dup, 1) := by decide +kernel
theorem dX_pattern_18 : decode cX_pattern 18 = .ok (.ldc 176, 2) := by decide +kernel
theorem dX_pattern_20 : decode cX_pattern 20 = .ok (.invokespecial 70, 3) := by decide +kernel
theorem dX_pattern_23 : decode cX_pattern 23 = .ok (.athrow, 1) := by decide +kernel
theorem dX_pattern_24 : decode cX_pattern 24 = .ok (.iload_n 1, 1) := by decide +kernel
theorem dX_pattern_25 : decode cX_pattern 25 = .ok (.sipush 1000, 3) := by decide +kernel
theorem dX_pattern_28 : decode cX_pattern 28 = .ok (.iload_n 2, 1) := by decide +kernel
theorem dX_pattern_29 : decode cX_pattern 29 = .ok (.iadd, 1) := by decide +kernel
theorem dX_pattern_30 : decode cX_pattern 30 = .ok (.imul, 1) := by decide +kernel
theorem dX_pattern_31 : decode cX_pattern 31 = .ok (.sipush 999, 3) := by decide +kernel
theorem dX_pattern_34 : decode cX_pattern 34 = .ok (.iadd, 1) := by decide +kernel
theorem dX_pattern_35 : decode cX_pattern 35 = .ok (.sipush 1000, 3) := by decide +kernel
theorem dX_pattern_38 : decode cX_pattern 38 = .ok (.idiv, 1) := by decide +kernel
theorem dX_pattern_39 : decode cX_pattern 39 = .ok (.ireturn, 1) := by decide +kernel
theorem dX_molding_0 : decode cX_molding 0 = .ok (.iload_n 1, 1) := by decide +kernel
theorem dX_molding_1 : decode cX_molding 1 = .ok (.invokestatic 178, 3) := by decide +kernel
theorem dX_molding_4 : decode cX_molding 4 = .ok (.iload_n 2, 1) := by decide +kernel
theorem dX_molding_5 : decode cX_molding 5 = .ok (.invokestatic 178, 3) := by decide +kernel
theorem dX_molding_8 : decode cX_molding 8 = .ok (.aload_n 0, 1) := by decide +kernel
theorem dX_molding_9 : decode cX_molding 9 = .ok (.getfield 33, 3) := by decide +kernel
theorem dX_molding_12 : decode cX_molding 12 = .ok (.iload_n 1, 1) := by decide +kernel
theorem dX_molding_13 : decode cX_molding 13 = .ok (.iload_n 2, 1) := by decide +kernel
theorem dX_molding_14 : decode cX_molding 14 = .ok (.invokevirtual 181, 3) := by decide +kernel
theorem dX_molding_17 : decode cX_molding 17 = .ok (.return_, 1) := by decide +kernel
theorem dX_pack_0 : decode cX_pack 0 = .ok (.aload_n 0, 1) := by decide +kernel
theorem dX_pack_1 : decode cX_pack 1 = .ok (.getfield 33, 3) := by decide +kernel
theorem dX_pack_4 : decode cX_pack 4 = .ok (.invokevirtual 184, 3) := by decide +kernel
theorem dX_pack_7 : decode cX_pack 7 = .ok (.ifCond .eq 13, 3) := by decide +kernel
theorem dX_pack_10 : decode cX_pack 10 = .ok (.new 96, 3) := by decide +kernel
theorem dX_pack_13 : decode cX_pack 13 = .ok (.dup, 1) := by decide +kernel
theorem dX_pack_14 : decode cX_pack 14 = .ok (.ldc 185, 2) := by decide +kernel
theorem dX_pack_16 : decode cX_pack 16 = .ok (.invokespecial 100, 3) := by decide +kernel
theorem dX_pack_19 : decode cX_pack 19 = .ok (.athrow, 1) := by decide +kernel
theorem dX_pack_20 : decode cX_pack 20 = .ok (.iload_n 1, 1) := by decide +kernel
theorem dX_pack_21 : decode cX_pack 21 = .ok (.invokestatic 178, 3) := by decide +kernel
theorem dX_pack_24 : decode cX_pack 24 = .ok (.iload_n 2, 1) := by decide +kernel
theorem dX_pack_25 : decode cX_pack 25 = .ok (.invokestatic 178, 3) := by decide +kernel
theorem dX_pack_28 : decode cX_pack 28 = .ok (.aload_n 0, 1) := by decide +kernel
theorem dX_pack_29 : decode cX_pack 29 = .ok (.getfield 33, 3) := by decide +kernel
theorem dX_pack_32 : decode cX_pack 32 = .ok (.iload_n 1, 1) := by decide +kernel
theorem dX_pack_33 : decode cX_pack 33 = .ok (.iload_n 2, 1) := by decide +kernel
theorem dX_pack_34 : decode cX_pack 34 = .ok (.invokevirtual 187, 3) := by decide +kernel
theorem dX_pack_37 : decode cX_pack 37 = .ok (.istore_n 3, 1) := by decide +kernel
theorem dX_pack_38 : decode cX_pack 38 = .ok (.iload_n 3, 1) := by decide +kernel
theorem dX_pack_39 : decode cX_pack 39 = .ok (.iconst (-1), 1) := by decide +kernel
theorem dX_pack_40 : decode cX_pack 40 = .ok (.if_icmp .ne 13, 3) := by decide +kernel
theorem dX_pack_43 : decode cX_pack 43 = .ok (.new 133, 3) := by decide +kernel
theorem dX_pack_46 : decode cX_pack 46 = .ok (.dup, 1) := by decide +kernel
theorem dX_pack_47 : decode cX_pack 47 = .ok (.ldc 190, 2) := by decide +kernel
theorem dX_pack_49 : decode cX_pack 49 = .ok (.invokespecial 137, 3) := by decide +kernel
theorem dX_pack_52 : decode cX_pack 52 = .ok (.athrow, 1) := by decide +kernel
theorem dX_pack_53 : decode cX_pack 53 = .ok (.aload_n 0, 1) := by decide +kernel
theorem dX_pack_54 : decode cX_pack 54 = .ok (.getfield 33, 3) := by decide +kernel
theorem dX_pack_57 : decode cX_pack 57 = .ok (.iload_n 3, 1) := by decide +kernel
theorem dX_pack_58 : decode cX_pack 58 = .ok (.iload_n 1, 1) := by decide +kernel
theorem dX_pack_59 : decode cX_pack 59 = .ok (.iload_n 2, 1) := by decide +kernel
theorem dX_pack_60 : decode cX_pack 60 = .ok (.invokevirtual 192, 3) := by decide +kernel
theorem dX_pack_63 : decode cX_pack 63 = .ok (.ireturn, 1) := by decide +kernel
theorem dX_packed_0 : decode cX_packed 0 = .ok (.aload_n 0, 1) := by decide +kernel
theorem dX_packed_1 : decode cX_packed 1 = .ok (.getfield 33, 3) := by decide +kernel
theorem dX_packed_4 : decode cX_packed 4 = .ok (.iload_n 1, 1) := by decide +kernel
theorem dX_packed_5 : decode cX_packed 5 = .ok (.invokevirtual 195, 3) := by decide +kernel
theorem dX_packed_8 : decode cX_packed 8 = .ok (.ifCond .ne 13, 3) := by decide +kernel
theorem dX_packed_11 : decode cX_packed 11 = .ok (.new 59, 3) := by decide +kernel
theorem dX_packed_14 : decode cX_packed 14 = .ok (.dup, 1) := by decide +kernel
theorem dX_packed_15 : decode cX_packed 15 = .ok (.ldc 198, 2) := by decide +kernel
theorem dX_packed_17 : decode cX_packed 17 = .ok (.invokespecial 63, 3) := by decide +kernel
theorem dX_packed_20 : decode cX_packed 20 = .ok (.athrow, 1) := by decide +kernel
theorem dX_packed_21 : decode cX_packed 21 = .ok (.iload_n 2, 1) := by decide +kernel
theorem dX_packed_22 : decode cX_packed 22 = .ok (.ifCond .lt 8, 3) := by decide +kernel
theorem dX_packed_25 : decode cX_packed 25 = .ok (.iload_n 2, 1) := by decide +kernel
theorem dX_packed_26 : decode cX_packed 26 = .ok (.iconst 1, 1) := by decide +kernel
theorem dX_packed_27 : decode cX_packed 27 = .ok (.if_icmp .le 13, 3) := by decide +kernel
theorem dX_packed_30 : decode cX_packed 30 = .ok (.new 59, 3) := by decide +kernel
theorem dX_packed_33 : decode cX_packed 33 = .ok (.dup, 1) := by decide +kernel
theorem dX_packed_34 : decode cX_packed 34 = .ok (.ldc 200, 2) := by decide +kernel
theorem dX_packed_36 : decode cX_packed 36 = .ok (.invokespecial 63, 3) := by decide +kernel
theorem dX_packed_39 : decode cX_packed 39 = .ok (.athrow, 1) := by decide +kernel
theorem dX_packed_40 : decode cX_packed 40 = .ok (.iload_n 2, 1) := by decide +kernel
theorem dX_packed_41 : decode cX_packed 41 = .ok (.ifCond .ne 14, 3) := by decide +kernel
theorem dX_packed_44 : decode cX_packed 44 = .ok (.aload_n 0, 1) := by decide +kernel
theorem dX_packed_45 : decode cX_packed 45 = .ok (.getfield 33, 3) := by decide +kernel
theorem dX_packed_48 : decode cX_packed 48 = .ok (.iload_n 1, 1) := by decide +kernel
theorem dX_packed_49 : decode cX_packed 49 = .ok (.invokevirtual 202, 3) := by decide +kernel
theorem dX_packed_52 : decode cX_packed 52 = .ok (.goto 11, 3) := by decide +kernel
theorem dX_packed_55 : decode cX_packed 55 = .ok (.aload_n 0, 1) := by decide +kernel
theorem dX_packed_56 : decode cX_packed 56 = .ok (.getfield 33, 3) := by decide +kernel
theorem dX_packed_59 : decode cX_packed 59 = .ok (.iload_n 1, 1) := by decide +kernel
theorem dX_packed_60 : decode cX_packed 60 = .ok (.invokevirtual 205, 3) := by decide +kernel
theorem dX_packed_63 : decode cX_packed 63 = .ok (.ireturn, 1) := by decide +kernel
theorem dX_whatFeeds_0 : decode cX_whatFeeds 0 = .ok (.aload_n 0, 1) := by decide +kernel
theorem dX_whatFeeds_1 : decode cX_whatFeeds 1 = .ok (.getfield 10, 3) := by decide +kernel
theorem dX_whatFeeds_4 : decode cX_whatFeeds 4 = .ok (.iload_n 1, 1) := by decide +kernel
theorem dX_whatFeeds_5 : decode cX_whatFeeds 5 = .ok (.invokevirtual 112, 3) := by decide +kernel
theorem dX_whatFeeds_8 : decode cX_whatFeeds 8 = .ok (.ifCond .ne 6, 3) := by decide +kernel
theorem dX_whatFeeds_11 : decode cX_whatFeeds 11 = .ok (.bipush (-2), 2) := by decide +kernel
theorem dX_whatFeeds_13 : decode cX_whatFeeds 13 = .ok (.ireturn, 1) := by decide +kernel
theorem dX_whatFeeds_14 : decode cX_whatFeeds 14 = .ok (.aload_n 0, 1) := by decide +kernel
theorem dX_whatFeeds_15 : decode cX_whatFeeds 15 = .ok (.getfield 10, 3) := by decide +kernel
theorem dX_whatFeeds_18 : decode cX_whatFeeds 18 = .ok (.iload_n 1, 1) := by decide +kernel
theorem dX_whatFeeds_19 : decode cX_whatFeeds 19 = .ok (.invokevirtual 142, 3) := by decide +kernel
theorem dX_whatFeeds_22 : decode cX_whatFeeds 22 = .ok (.istore_n 2, 1) := by decide +kernel
theorem dX_whatFeeds_23 : decode cX_whatFeeds 23 = .ok (.iload_n 2, 1) := by decide +kernel
theorem dX_whatFeeds_24 : decode cX_whatFeeds 24 = .ok (.iconst (-1), 1) := by decide +kernel
theorem dX_whatFeeds_25 : decode cX_whatFeeds 25 = .ok (.if_icmp .ne 14, 3) := by decide +kernel
theorem dX_whatFeeds_28 : decode cX_whatFeeds 28 = .ok (.aload_n 0, 1) := by decide +kernel
theorem dX_whatFeeds_29 : decode cX_whatFeeds 29 = .ok (.getfield 10, 3) := by decide +kernel
theorem dX_whatFeeds_32 : decode cX_whatFeeds 32 = .ok (.iload_n 1, 1) := by decide +kernel
theorem dX_whatFeeds_33 : decode cX_whatFeeds 33 = .ok (.invokevirtual 208, 3) := by decide +kernel
theorem dX_whatFeeds_36 : decode cX_whatFeeds 36 = .ok (.goto 7, 3) := by decide +kernel
theorem dX_whatFeeds_39 : decode cX_whatFeeds 39 = .ok (.bipush 100, 2) := by decide +kernel
theorem dX_whatFeeds_41 : decode cX_whatFeeds 41 = .ok (.iload_n 2, 1) := by decide +kernel
theorem dX_whatFeeds_42 : decode cX_whatFeeds 42 = .ok (.iadd, 1) := by decide +kernel
theorem dX_whatFeeds_43 : decode cX_whatFeeds 43 = .ok (.ireturn, 1) := by decide +kernel
theorem dX_requirePart_0 : decode cX_requirePart 0 = .ok (.aload_n 0, 1) := by decide +kernel
theorem dX_requirePart_1 : decode cX_requirePart 1 = .ok (.getfield 10, 3) := by decide +kernel
theorem dX_requirePart_4 : decode cX_requirePart 4 = .ok (.iload_n 1, 1) := by decide +kernel
theorem dX_requirePart_5 : decode cX_requirePart 5 = .ok (.invokevirtual 211, 3) := by decide +kernel
theorem dX_requirePart_8 : decode cX_requirePart 8 = .ok (.ifCond .ne 13, 3) := by decide +kernel
theorem dX_requirePart_11 : decode cX_requirePart 11 = .ok (.new 59, 3) := by decide +kernel
theorem dX_requirePart_14 : decode cX_requirePart 14 = .ok (.dup, 1) := by decide +kernel
theorem dX_requirePart_15 : decode cX_requirePart 15 = .ok (.ldc 214, 2) := by decide +kernel
theorem dX_requirePart_17 : decode cX_requirePart 17 = .ok (.invokespecial 63, 3) := by decide +kernel
theorem dX_requirePart_20 : decode cX_requirePart 20 = .ok (.athrow, 1) := by decide +kernel
theorem dX_requirePart_21 : decode cX_requirePart 21 = .ok (.return_, 1) := by decide +kernel
theorem dX_requireRoomForPart_0 : decode cX_requireRoomForPart 0 = .ok (.aload_n 0, 1) := by decide +kernel
theorem dX_requireRoomForPart_1 : decode cX_requireRoomForPart 1 = .ok (.getfield 10, 3) := by decide +kernel
theorem dX_requireRoomForPart_4 : decode cX_requireRoomForPart 4 = .ok (.invokevirtual 216, 3) := by decide +kernel
theorem dX_requireRoomForPart_7 : decode cX_requireRoomForPart 7 = .ok (.ifCond .eq 13, 3) := by decide +kernel
theorem dX_requireRoomForPart_10 : decode cX_requireRoomForPart 10 = .ok (.new 96, 3) := by decide +kernel
theorem dX_requireRoomForPart_13 : decode cX_requireRoomForPart 13 = .ok (.dup, 1) := by decide +kernel
theorem dX_requireRoomForPart_14 : decode cX_requireRoomForPart 14 = .ok (.ldc 217, 2) := by decide +kernel
theorem dX_requireRoomForPart_16 : decode cX_requireRoomForPart 16 = .ok (.invokespecial 100, 3) := by decide +kernel
theorem dX_requireRoomForPart_19 : decode cX_requireRoomForPart 19 = .ok (.athrow, 1) := by decide +kernel
theorem dX_requireRoomForPart_20 : decode cX_requireRoomForPart 20 = .ok (.return_, 1) := by decide +kernel
theorem dX_requireTold_0 : decode cX_requireTold 0 = .ok (.aload_n 0, 1) := by decide +kernel
theorem dX_requireTold_1 : decode cX_requireTold 1 = .ok (.getfield 10, 3) := by decide +kernel
theorem dX_requireTold_4 : decode cX_requireTold 4 = .ok (.iload_n 1, 1) := by decide +kernel
theorem dX_requireTold_5 : decode cX_requireTold 5 = .ok (.invokevirtual 112, 3) := by decide +kernel
theorem dX_requireTold_8 : decode cX_requireTold 8 = .ok (.ifCond .ne 13, 3) := by decide +kernel
theorem dX_requireTold_11 : decode cX_requireTold 11 = .ok (.new 133, 3) := by decide +kernel
theorem dX_requireTold_14 : decode cX_requireTold 14 = .ok (.dup, 1) := by decide +kernel
theorem dX_requireTold_15 : decode cX_requireTold 15 = .ok (.ldc 219, 2) := by decide +kernel
theorem dX_requireTold_17 : decode cX_requireTold 17 = .ok (.invokespecial 137, 3) := by decide +kernel
theorem dX_requireTold_20 : decode cX_requireTold 20 = .ok (.athrow, 1) := by decide +kernel
theorem dX_requireTold_21 : decode cX_requireTold 21 = .ok (.return_, 1) := by decide +kernel
theorem dX_requireFlowRows_0 : decode cX_requireFlowRows 0 = .ok (.aload_n 0, 1) := by decide +kernel
theorem dX_requireFlowRows_1 : decode cX_requireFlowRows 1 = .ok (.getfield 26, 3) := by decide +kernel
theorem dX_requireFlowRows_4 : decode cX_requireFlowRows 4 = .ok (.invokevirtual 221, 3) := by decide +kernel
theorem dX_requireFlowRows_7 : decode cX_requireFlowRows 7 = .ok (.ifCond .eq 13, 3) := by decide +kernel
theorem dX_requireFlowRows_10 : decode cX_requireFlowRows 10 = .ok (.new 96, 3) := by decide +kernel
theorem dX_requireFlowRows_13 : decode cX_requireFlowRows 13 = .ok (.dup, 1) := by decide +kernel
theorem dX_requireFlowRows_14 : decode cX_requireFlowRows 14 = .ok (.ldc 224, 2) := by decide +kernel
theorem dX_requireFlowRows_16 : decode cX_requireFlowRows 16 = .ok (.invokespecial 100, 3) := by decide +kernel
theorem dX_requireFlowRows_19 : decode cX_requireFlowRows 19 = .ok (.athrow, 1) := by decide +kernel
theorem dX_requireFlowRows_20 : decode cX_requireFlowRows 20 = .ok (.return_, 1) := by decide +kernel
theorem dX_requireNotBelowZero_0 : decode cX_requireNotBelowZero 0 = .ok (.iload_n 0, 1) := by decide +kernel
theorem dX_requireNotBelowZero_1 : decode cX_requireNotBelowZero 1 = .ok (.ifCond .ge 13, 3) := by decide +kernel
theorem dX_requireNotBelowZero_4 : decode cX_requireNotBelowZero 4 = .ok (.new 59, 3) := by decide +kernel
theorem dX_requireNotBelowZero_7 : decode cX_requireNotBelowZero 7 = .ok (.dup, 1) := by decide +kernel
theorem dX_requireNotBelowZero_8 : decode cX_requireNotBelowZero 8 = .ok (.ldc 226, 2) := by decide +kernel
theorem dX_requireNotBelowZero_10 : decode cX_requireNotBelowZero 10 = .ok (.invokespecial 63, 3) := by decide +kernel
theorem dX_requireNotBelowZero_13 : decode cX_requireNotBelowZero 13 = .ok (.athrow, 1) := by decide +kernel
theorem dX_requireNotBelowZero_14 : decode cX_requireNotBelowZero 14 = .ok (.return_, 1) := by decide +kernel
theorem dX_requireSize_0 : decode cX_requireSize 0 = .ok (.iload_n 0, 1) := by decide +kernel
theorem dX_requireSize_1 : decode cX_requireSize 1 = .ok (.iconst 1, 1) := by decide +kernel
theorem dX_requireSize_2 : decode cX_requireSize 2 = .ok (.if_icmp .lt 10, 3) := by decide +kernel
theorem dX_requireSize_5 : decode cX_requireSize 5 = .ok (.iload_n 0, 1) := by decide +kernel
theorem dX_requireSize_6 : decode cX_requireSize 6 = .ok (.sipush 1000, 3) := by decide +kernel
theorem dX_requireSize_9 : decode cX_requireSize 9 = .ok (.if_icmp .le 13, 3) := by decide +kernel
theorem dX_requireSize_12 : decode cX_requireSize 12 = .ok (.new 66, 3) := by decide +kernel
theorem dX_requireSize_15 : decode cX_requireSize 15 = .ok (.dup, 1) := by decide +kernel
theorem dX_requireSize_16 : decode cX_requireSize 16 = .ok (.ldc 228, 2) := by decide +kernel
theorem dX_requireSize_18 : decode cX_requireSize 18 = .ok (.invokespecial 70, 3) := by decide +kernel
theorem dX_requireSize_21 : decode cX_requireSize 21 = .ok (.athrow, 1) := by decide +kernel
theorem dX_requireSize_22 : decode cX_requireSize 22 = .ok (.return_, 1) := by decide +kernel
theorem dX_requireOpening_0 : decode cX_requireOpening 0 = .ok (.iload_n 0, 1) := by decide +kernel
theorem dX_requireOpening_1 : decode cX_requireOpening 1 = .ok (.ifCond .lt 10, 3) := by decide +kernel
theorem dX_requireOpening_4 : decode cX_requireOpening 4 = .ok (.iload_n 0, 1) := by decide +kernel
theorem dX_requireOpening_5 : decode cX_requireOpening 5 = .ok (.sipush 10000, 3) := by decide +kernel
theorem dX_requireOpening_8 : decode cX_requireOpening 8 = .ok (.if_icmp .le 13, 3) := by decide +kernel
theorem dX_requireOpening_11 : decode cX_requireOpening 11 = .ok (.new 66, 3) := by decide +kernel
theorem dX_requireOpening_14 : decode cX_requireOpening 14 = .ok (.dup, 1) := by decide +kernel
theorem dX_requireOpening_15 : decode cX_requireOpening 15 = .ok (.ldc 230, 2) := by decide +kernel
theorem dX_requireOpening_17 : decode cX_requireOpening 17 = .ok (.invokespecial 70, 3) := by decide +kernel
theorem dX_requireOpening_20 : decode cX_requireOpening 20 = .ok (.athrow, 1) := by decide +kernel
theorem dX_requireOpening_21 : decode cX_requireOpening 21 = .ok (.return_, 1) := by decide +kernel
theorem dX_requireFlow_0 : decode cX_requireFlow 0 = .ok (.iload_n 0, 1) := by decide +kernel
theorem dX_requireFlow_1 : decode cX_requireFlow 1 = .ok (.ifCond .lt 9, 3) := by decide +kernel
theorem dX_requireFlow_4 : decode cX_requireFlow 4 = .ok (.iload_n 0, 1) := by decide +kernel
theorem dX_requireFlow_5 : decode cX_requireFlow 5 = .ok (.ldc 232, 2) := by decide +kernel
theorem dX_requireFlow_7 : decode cX_requireFlow 7 = .ok (.if_icmp .le 13, 3) := by decide +kernel
theorem dX_requireFlow_10 : decode cX_requireFlow 10 = .ok (.new 66, 3) := by decide +kernel
theorem dX_requireFlow_13 : decode cX_requireFlow 13 = .ok (.dup, 1) := by decide +kernel
theorem dX_requireFlow_14 : decode cX_requireFlow 14 = .ok (.ldc 233, 2) := by decide +kernel
theorem dX_requireFlow_16 : decode cX_requireFlow 16 = .ok (.invokespecial 70, 3) := by decide +kernel
theorem dX_requireFlow_19 : decode cX_requireFlow 19 = .ok (.athrow, 1) := by decide +kernel
theorem dX_requireFlow_20 : decode cX_requireFlow 20 = .ok (.return_, 1) := by decide +kernel
theorem dX_requireMoldingSize_0 : decode cX_requireMoldingSize 0 = .ok (.iload_n 0, 1) := by decide +kernel
theorem dX_requireMoldingSize_1 : decode cX_requireMoldingSize 1 = .ok (.iconst 1, 1) := by decide +kernel
theorem dX_requireMoldingSize_2 : decode cX_requireMoldingSize 2 = .ok (.if_icmp .lt 10, 3) := by decide +kernel
theorem dX_requireMoldingSize_5 : decode cX_requireMoldingSize 5 = .ok (.iload_n 0, 1) := by decide +kernel
theorem dX_requireMoldingSize_6 : decode cX_requireMoldingSize 6 = .ok (.sipush 2000, 3) := by decide +kernel
theorem dX_requireMoldingSize_9 : decode cX_requireMoldingSize 9 = .ok (.if_icmp .le 13, 3) := by decide +kernel
theorem dX_requireMoldingSize_12 : decode cX_requireMoldingSize 12 = .ok (.new 66, 3) := by decide +kernel
theorem dX_requireMoldingSize_15 : decode cX_requireMoldingSize 15 = .ok (.dup, 1) := by decide +kernel
theorem dX_requireMoldingSize_16 : decode cX_requireMoldingSize 16 = .ok (.ldc 235, 2) := by decide +kernel
theorem dX_requireMoldingSize_18 : decode cX_requireMoldingSize 18 = .ok (.invokespecial 70, 3) := by decide +kernel
theorem dX_requireMoldingSize_21 : decode cX_requireMoldingSize 21 = .ok (.athrow, 1) := by decide +kernel
theorem dX_requireMoldingSize_22 : decode cX_requireMoldingSize 22 = .ok (.return_, 1) := by decide +kernel
theorem dX_inLowestTerms_0 : decode cX_inLowestTerms 0 = .ok (.iload 4, 2) := by decide +kernel
theorem dX_inLowestTerms_2 : decode cX_inLowestTerms 2 = .ok (.ifCond .ne 7, 3) := by decide +kernel
theorem dX_inLowestTerms_5 : decode cX_inLowestTerms 5 = .ok (.lload_n 0, 1) := by decide +kernel
theorem dX_inLowestTerms_6 : decode cX_inLowestTerms 6 = .ok (.goto 4, 3) := by decide +kernel
theorem dX_inLowestTerms_9 : decode cX_inLowestTerms 9 = .ok (.lload_n 2, 1) := by decide +kernel
theorem dX_inLowestTerms_10 : decode cX_inLowestTerms 10 = .ok (.lstore 5, 2) := by decide +kernel
theorem dX_inLowestTerms_12 : decode cX_inLowestTerms 12 = .ok (.lload_n 0, 1) := by decide +kernel
theorem dX_inLowestTerms_13 : decode cX_inLowestTerms 13 = .ok (.lload_n 2, 1) := by decide +kernel
theorem dX_inLowestTerms_14 : decode cX_inLowestTerms 14 = .ok (.invokestatic 237, 3) := by decide +kernel
theorem dX_inLowestTerms_17 : decode cX_inLowestTerms 17 = .ok (.lstore 7, 2) := by decide +kernel
theorem dX_inLowestTerms_19 : decode cX_inLowestTerms 19 = .ok (.lload 7, 2) := by decide +kernel
theorem dX_inLowestTerms_21 : decode cX_inLowestTerms 21 = .ok (.lconst 0, 1) := by decide +kernel
theorem dX_inLowestTerms_22 : decode cX_inLowestTerms 22 = .ok (.lcmp, 1) := by decide +kernel
theorem dX_inLowestTerms_23 : decode cX_inLowestTerms 23 = .ok (.ifCond .le 11, 3) := by decide +kernel
theorem dX_inLowestTerms_26 : decode cX_inLowestTerms 26 = .ok (.lload 5, 2) := by decide +kernel
theorem dX_inLowestTerms_28 : decode cX_inLowestTerms 28 = .ok (.lload 7, 2) := by decide +kernel
theorem dX_inLowestTerms_30 : decode cX_inLowestTerms 30 = .ok (.ldiv, 1) := by decide +kernel
theorem dX_inLowestTerms_31 : decode cX_inLowestTerms 31 = .ok (.goto 5, 3) := by decide +kernel
theorem dX_inLowestTerms_34 : decode cX_inLowestTerms 34 = .ok (.lload 5, 2) := by decide +kernel
theorem dX_inLowestTerms_36 : decode cX_inLowestTerms 36 = .ok (.lreturn, 1) := by decide +kernel
theorem dX_greatestDivisor_0 : decode cX_greatestDivisor 0 = .ok (.lload_n 0, 1) := by decide +kernel
theorem dX_greatestDivisor_1 : decode cX_greatestDivisor 1 = .ok (.lstore 4, 2) := by decide +kernel
theorem dX_greatestDivisor_3 : decode cX_greatestDivisor 3 = .ok (.lload_n 2, 1) := by decide +kernel
theorem dX_greatestDivisor_4 : decode cX_greatestDivisor 4 = .ok (.lstore 6, 2) := by decide +kernel
theorem dX_greatestDivisor_6 : decode cX_greatestDivisor 6 = .ok (.iconst 0, 1) := by decide +kernel
theorem dX_greatestDivisor_7 : decode cX_greatestDivisor 7 = .ok (.istore 8, 2) := by decide +kernel
theorem dX_greatestDivisor_9 : decode cX_greatestDivisor 9 = .ok (.iload 8, 2) := by decide +kernel
theorem dX_greatestDivisor_11 : decode cX_greatestDivisor 11 = .ok (.bipush 100, 2) := by decide +kernel
theorem dX_greatestDivisor_13 : decode cX_greatestDivisor 13 = .ok (.if_icmp .ge 31, 3) := by decide +kernel
theorem dX_greatestDivisor_16 : decode cX_greatestDivisor 16 = .ok (.lload 6, 2) := by decide +kernel
theorem dX_greatestDivisor_18 : decode cX_greatestDivisor 18 = .ok (.lconst 0, 1) := by decide +kernel
theorem dX_greatestDivisor_19 : decode cX_greatestDivisor 19 = .ok (.lcmp, 1) := by decide +kernel
theorem dX_greatestDivisor_20 : decode cX_greatestDivisor 20 = .ok (.ifCond .eq 24, 3) := by decide +kernel
theorem dX_greatestDivisor_23 : decode cX_greatestDivisor 23 = .ok (.lload 4, 2) := by decide +kernel
theorem dX_greatestDivisor_25 : decode cX_greatestDivisor 25 = .ok (.lload 6, 2) := by decide +kernel
theorem dX_greatestDivisor_27 : decode cX_greatestDivisor 27 = .ok (.lrem, 1) := by decide +kernel
theorem dX_greatestDivisor_28 : decode cX_greatestDivisor 28 = .ok (.lstore 9, 2) := by decide +kernel
theorem dX_greatestDivisor_30 : decode cX_greatestDivisor 30 = .ok (.lload 6, 2) := by decide +kernel
theorem dX_greatestDivisor_32 : decode cX_greatestDivisor 32 = .ok (.lstore 4, 2) := by decide +kernel
theorem dX_greatestDivisor_34 : decode cX_greatestDivisor 34 = .ok (.lload 9, 2) := by decide +kernel
theorem dX_greatestDivisor_36 : decode cX_greatestDivisor 36 = .ok (.lstore 6, 2) := by decide +kernel
theorem dX_greatestDivisor_38 : decode cX_greatestDivisor 38 = .ok (.iinc 8 1, 3) := by decide +kernel
theorem dX_greatestDivisor_41 : decode cX_greatestDivisor 41 = .ok (.goto (-32), 3) := by decide +kernel
theorem dX_greatestDivisor_44 : decode cX_greatestDivisor 44 = .ok (.lload 4, 2) := by decide +kernel
theorem dX_greatestDivisor_46 : decode cX_greatestDivisor 46 = .ok (.lreturn, 1) := by decide +kernel
