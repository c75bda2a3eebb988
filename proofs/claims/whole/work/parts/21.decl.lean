theorem dL_box_0 : decode cL_box 0 = .ok (.aload 4, 2) := by decide +kernel
theorem dL_box_2 : decode cL_box 2 = .ok (.iconst 0, 1) := by decide +kernel
theorem dL_box_3 : decode cL_box 3 = .ok (.aload_n 0, 1) := by decide +kernel
theorem dL_box_4 : decode cL_box 4 = .ok (.iload_n 1, 1) := by decide +kernel
theorem dL_box_5 : decode cL_box 5 = .ok (.iload_n 2, 1) := by decide +kernel
theorem dL_box_6 : decode cL_box 6 = .ok (.iload_n 3, 1) := by decide +kernel
theorem dL_box_7 : decode cL_box 7 = .ok (.invokevirtual 7, 3) := by decide +kernel
theorem dL_box_10 : decode cL_box 10 = .ok (.i2l, 1) := by decide +kernel
theorem dL_box_11 : decode cL_box 11 = .ok (.lastore, 1) := by decide +kernel
theorem dL_box_12 : decode cL_box 12 = .ok (.goto 11, 3) := by decide +kernel
theorem dL_box_15 : decode cL_box 15 = .ok (.astore 5, 2) := by decide +kernel
theorem dL_box_17 : decode cL_box 17 = .ok (.iconst 1, 1) := by decide +kernel
theorem dL_box_18 : decode cL_box 18 = .ok (.ireturn, 1) := by decide +kernel
theorem dL_box_19 : decode cL_box 19 = .ok (.astore 5, 2) := by decide +kernel
theorem dL_box_21 : decode cL_box 21 = .ok (.iconst 2, 1) := by decide +kernel
theorem dL_box_22 : decode cL_box 22 = .ok (.ireturn, 1) := by decide +kernel
theorem dL_box_23 : decode cL_box 23 = .ok (.iconst 0, 1) := by decide +kernel
theorem dL_box_24 : decode cL_box 24 = .ok (.ireturn, 1) := by decide +kernel
theorem dL_cylinder_0 : decode cL_cylinder 0 = .ok (.aload_n 3, 1) := by decide +kernel
theorem dL_cylinder_1 : decode cL_cylinder 1 = .ok (.iconst 0, 1) := by decide +kernel
theorem dL_cylinder_2 : decode cL_cylinder 2 = .ok (.aload_n 0, 1) := by decide +kernel
theorem dL_cylinder_3 : decode cL_cylinder 3 = .ok (.iload_n 1, 1) := by decide +kernel
theorem dL_cylinder_4 : decode cL_cylinder 4 = .ok (.iload_n 2, 1) := by decide +kernel
theorem dL_cylinder_5 : decode cL_cylinder 5 = .ok (.invokevirtual 17, 3) := by decide +kernel
theorem dL_cylinder_8 : decode cL_cylinder 8 = .ok (.i2l, 1) := by decide +kernel
theorem dL_cylinder_9 : decode cL_cylinder 9 = .ok (.lastore, 1) := by decide +kernel
theorem dL_cylinder_10 : decode cL_cylinder 10 = .ok (.goto 11, 3) := by decide +kernel
theorem dL_cylinder_13 : decode cL_cylinder 13 = .ok (.astore 4, 2) := by decide +kernel
theorem dL_cylinder_15 : decode cL_cylinder 15 = .ok (.iconst 1, 1) := by decide +kernel
theorem dL_cylinder_16 : decode cL_cylinder 16 = .ok (.ireturn, 1) := by decide +kernel
theorem dL_cylinder_17 : decode cL_cylinder 17 = .ok (.astore 4, 2) := by decide +kernel
theorem dL_cylinder_19 : decode cL_cylinder 19 = .ok (.iconst 2, 1) := by decide +kernel
theorem dL_cylinder_20 : decode cL_cylinder 20 = .ok (.ireturn, 1) := by decide +kernel
theorem dL_cylinder_21 : decode cL_cylinder 21 = .ok (.iconst 0, 1) := by decide +kernel
theorem dL_cylinder_22 : decode cL_cylinder 22 = .ok (.ireturn, 1) := by decide +kernel
theorem dL_face_0 : decode cL_face 0 = .ok (.aload_n 0, 1) := by decide +kernel
theorem dL_face_1 : decode cL_face 1 = .ok (.iload_n 1, 1) := by decide +kernel
theorem dL_face_2 : decode cL_face 2 = .ok (.iload_n 2, 1) := by decide +kernel
theorem dL_face_3 : decode cL_face 3 = .ok (.iload_n 3, 1) := by decide +kernel
theorem dL_face_4 : decode cL_face 4 = .ok (.invokevirtual 21, 3) := by decide +kernel
theorem dL_face_7 : decode cL_face 7 = .ok (.goto 11, 3) := by decide +kernel
theorem dL_face_10 : decode cL_face 10 = .ok (.astore 4, 2) := by decide +kernel
theorem dL_face_12 : decode cL_face 12 = .ok (.iconst 1, 1) := by decide +kernel
theorem dL_face_13 : decode cL_face 13 = .ok (.ireturn, 1) := by decide +kernel
theorem dL_face_14 : decode cL_face 14 = .ok (.astore 4, 2) := by decide +kernel
theorem dL_face_16 : decode cL_face 16 = .ok (.iconst 2, 1) := by decide +kernel
theorem dL_face_17 : decode cL_face 17 = .ok (.ireturn, 1) := by decide +kernel
theorem dL_face_18 : decode cL_face 18 = .ok (.iconst 0, 1) := by decide +kernel
theorem dL_face_19 : decode cL_face 19 = .ok (.ireturn, 1) := by decide +kernel
theorem dL_modulus_0 : decode cL_modulus 0 = .ok (.aload_n 3, 1) := by decide +kernel
theorem dL_modulus_1 : decode cL_modulus 1 = .ok (.iconst 0, 1) := by decide +kernel
theorem dL_modulus_2 : decode cL_modulus 2 = .ok (.aload_n 0, 1) := by decide +kernel
theorem dL_modulus_3 : decode cL_modulus 3 = .ok (.iload_n 1, 1) := by decide +kernel
theorem dL_modulus_4 : decode cL_modulus 4 = .ok (.iload_n 2, 1) := by decide +kernel
theorem dL_modulus_5 : decode cL_modulus 5 = .ok (.invokevirtual 27, 3) := by decide +kernel
theorem dL_modulus_8 : decode cL_modulus 8 = .ok (.lastore, 1) := by decide +kernel
theorem dL_modulus_9 : decode cL_modulus 9 = .ok (.goto 11, 3) := by decide +kernel
theorem dL_modulus_12 : decode cL_modulus 12 = .ok (.astore 4, 2) := by decide +kernel
theorem dL_modulus_14 : decode cL_modulus 14 = .ok (.iconst 1, 1) := by decide +kernel
theorem dL_modulus_15 : decode cL_modulus 15 = .ok (.ireturn, 1) := by decide +kernel
theorem dL_modulus_16 : decode cL_modulus 16 = .ok (.astore 4, 2) := by decide +kernel
theorem dL_modulus_18 : decode cL_modulus 18 = .ok (.iconst 2, 1) := by decide +kernel
theorem dL_modulus_19 : decode cL_modulus 19 = .ok (.ireturn, 1) := by decide +kernel
theorem dL_modulus_20 : decode cL_modulus 20 = .ok (.iconst 0, 1) := by decide +kernel
theorem dL_modulus_21 : decode cL_modulus 21 = .ok (.ireturn, 1) := by decide +kernel
theorem dL_join_0 : decode cL_join 0 = .ok (.aload_n 0, 1) := by decide +kernel
theorem dL_join_1 : decode cL_join 1 = .ok (.iload_n 1, 1) := by decide +kernel
theorem dL_join_2 : decode cL_join 2 = .ok (.iload_n 2, 1) := by decide +kernel
theorem dL_join_3 : decode cL_join 3 = .ok (.iload_n 3, 1) := by decide +kernel
theorem dL_join_4 : decode cL_join 4 = .ok (.invokevirtual 33, 3) := by decide +kernel
theorem dL_join_7 : decode cL_join 7 = .ok (.goto 11, 3) := by decide +kernel
theorem dL_join_10 : decode cL_join 10 = .ok (.astore 4, 2) := by decide +kernel
theorem dL_join_12 : decode cL_join 12 = .ok (.iconst 1, 1) := by decide +kernel
theorem dL_join_13 : decode cL_join 13 = .ok (.ireturn, 1) := by decide +kernel
theorem dL_join_14 : decode cL_join 14 = .ok (.astore 4, 2) := by decide +kernel
theorem dL_join_16 : decode cL_join 16 = .ok (.iconst 2, 1) := by decide +kernel
theorem dL_join_17 : decode cL_join 17 = .ok (.ireturn, 1) := by decide +kernel
theorem dL_join_18 : decode cL_join 18 = .ok (.iconst 0, 1) := by decide +kernel
theorem dL_join_19 : decode cL_join 19 = .ok (.ireturn, 1) := by decide +kernel
theorem dL_order_0 : decode cL_order 0 = .ok (.aload_n 2, 1) := by decide +kernel
theorem dL_order_1 : decode cL_order 1 = .ok (.iconst 0, 1) := by decide +kernel
theorem dL_order_2 : decode cL_order 2 = .ok (.aload_n 0, 1) := by decide +kernel
theorem dL_order_3 : decode cL_order 3 = .ok (.iload_n 1, 1) := by decide +kernel
theorem dL_order_4 : decode cL_order 4 = .ok (.invokevirtual 37, 3) := by decide +kernel
theorem dL_order_7 : decode cL_order 7 = .ok (.i2l, 1) := by decide +kernel
theorem dL_order_8 : decode cL_order 8 = .ok (.lastore, 1) := by decide +kernel
theorem dL_order_9 : decode cL_order 9 = .ok (.goto 6, 3) := by decide +kernel
theorem dL_order_12 : decode cL_order 12 = .ok (.astore_n 3, 1) := by decide +kernel
theorem dL_order_13 : decode cL_order 13 = .ok (.iconst 1, 1) := by decide +kernel
theorem dL_order_14 : decode cL_order 14 = .ok (.ireturn, 1) := by decide +kernel
theorem dL_order_15 : decode cL_order 15 = .ok (.iconst 0, 1) := by decide +kernel
theorem dL_order_16 : decode cL_order 16 = .ok (.ireturn, 1) := by decide +kernel
theorem dL_riserRow_0 : decode cL_riserRow 0 = .ok (.aload_n 3, 1) := by decide +kernel
theorem dL_riserRow_1 : decode cL_riserRow 1 = .ok (.iconst 0, 1) := by decide +kernel
theorem dL_riserRow_2 : decode cL_riserRow 2 = .ok (.aload_n 0, 1) := by decide +kernel
theorem dL_riserRow_3 : decode cL_riserRow 3 = .ok (.iload_n 1, 1) := by decide +kernel
theorem dL_riserRow_4 : decode cL_riserRow 4 = .ok (.iload_n 2, 1) := by decide +kernel
theorem dL_riserRow_5 : decode cL_riserRow 5 = .ok (.invokevirtual 41, 3) := by decide +kernel
theorem dL_riserRow_8 : decode cL_riserRow 8 = .ok (.i2l, 1) := by decide +kernel
theorem dL_riserRow_9 : decode cL_riserRow 9 = .ok (.lastore, 1) := by decide +kernel
theorem dL_riserRow_10 : decode cL_riserRow 10 = .ok (.goto 11, 3) := by decide +kernel
theorem dL_riserRow_13 : decode cL_riserRow 13 = .ok (.astore 4, 2) := by decide +kernel
theorem dL_riserRow_15 : decode cL_riserRow 15 = .ok (.iconst 1, 1) := by decide +kernel
theorem dL_riserRow_16 : decode cL_riserRow 16 = .ok (.ireturn, 1) := by decide +kernel
theorem dL_riserRow_17 : decode cL_riserRow 17 = .ok (.astore 4, 2) := by decide +kernel
theorem dL_riserRow_19 : decode cL_riserRow 19 = .ok (.iconst 2, 1) := by decide +kernel
theorem dL_riserRow_20 : decode cL_riserRow 20 = .ok (.ireturn, 1) := by decide +kernel
theorem dL_riserRow_21 : decode cL_riserRow 21 = .ok (.iconst 0, 1) := by decide +kernel
theorem dL_riserRow_22 : decode cL_riserRow 22 = .ok (.ireturn, 1) := by decide +kernel
theorem dL_riser_0 : decode cL_riser 0 = .ok (.aload_n 2, 1) := by decide +kernel
theorem dL_riser_1 : decode cL_riser 1 = .ok (.iconst 0, 1) := by decide +kernel
theorem dL_riser_2 : decode cL_riser 2 = .ok (.aload_n 0, 1) := by decide +kernel
theorem dL_riser_3 : decode cL_riser 3 = .ok (.iload_n 1, 1) := by decide +kernel
theorem dL_riser_4 : decode cL_riser 4 = .ok (.invokevirtual 44, 3) := by decide +kernel
theorem dL_riser_7 : decode cL_riser 7 = .ok (.i2l, 1) := by decide +kernel
theorem dL_riser_8 : decode cL_riser 8 = .ok (.lastore, 1) := by decide +kernel
theorem dL_riser_9 : decode cL_riser 9 = .ok (.goto 9, 3) := by decide +kernel
theorem dL_riser_12 : decode cL_riser 12 = .ok (.astore_n 3, 1) := by decide +kernel
theorem dL_riser_13 : decode cL_riser 13 = .ok (.iconst 1, 1) := by decide +kernel
theorem dL_riser_14 : decode cL_riser 14 = .ok (.ireturn, 1) := by decide +kernel
theorem dL_riser_15 : decode cL_riser 15 = .ok (.astore_n 3, 1) := by decide +kernel
theorem dL_riser_16 : decode cL_riser 16 = .ok (.iconst 2, 1) := by decide +kernel
theorem dL_riser_17 : decode cL_riser 17 = .ok (.ireturn, 1) := by decide +kernel
theorem dL_riser_18 : decode cL_riser 18 = .ok (.iconst 0, 1) := by decide +kernel
theorem dL_riser_19 : decode cL_riser 19 = .ok (.ireturn, 1) := by decide +kernel
theorem dL_cutOff_0 : decode cL_cutOff 0 = .ok (.aload_n 0, 1) := by decide +kernel
theorem dL_cutOff_1 : decode cL_cutOff 1 = .ok (.iload_n 1, 1) := by decide +kernel
theorem dL_cutOff_2 : decode cL_cutOff 2 = .ok (.invokevirtual 47, 3) := by decide +kernel
theorem dL_cutOff_5 : decode cL_cutOff 5 = .ok (.goto 9, 3) := by decide +kernel
theorem dL_cutOff_8 : decode cL_cutOff 8 = .ok (.astore_n 2, 1) := by decide +kernel
theorem dL_cutOff_9 : decode cL_cutOff 9 = .ok (.iconst 1, 1) := by decide +kernel
theorem dL_cutOff_10 : decode cL_cutOff 10 = .ok (.ireturn, 1) := by decide +kernel
theorem dL_cutOff_11 : decode cL_cutOff 11 = .ok (.astore_n 2, 1) := by decide +kernel
theorem dL_cutOff_12 : decode cL_cutOff 12 = .ok (.iconst 2, 1) := by decide +kernel
theorem dL_cutOff_13 : decode cL_cutOff 13 = .ok (.ireturn, 1) := by decide +kernel
theorem dL_cutOff_14 : decode cL_cutOff 14 = .ok (.iconst 0, 1) := by decide +kernel
theorem dL_cutOff_15 : decode cL_cutOff 15 = .ok (.ireturn, 1) := by decide +kernel
theorem dL_feeder_0 : decode cL_feeder 0 = .ok (.aload_n 2, 1) := by decide +kernel
theorem dL_feeder_1 : decode cL_feeder 1 = .ok (.iconst 0, 1) := by decide +kernel
theorem dL_feeder_2 : decode cL_feeder 2 = .ok (.aload_n 0, 1) := by decide +kernel
theorem dL_feeder_3 : decode cL_feeder 3 = .ok (.iload_n 1, 1) := by decide +kernel
theorem dL_feeder_4 : decode cL_feeder 4 = .ok (.invokevirtual 51, 3) := by decide +kernel
theorem dL_feeder_7 : decode cL_feeder 7 = .ok (.i2l, 1) := by decide +kernel
theorem dL_feeder_8 : decode cL_feeder 8 = .ok (.lastore, 1) := by decide +kernel
theorem dL_feeder_9 : decode cL_feeder 9 = .ok (.goto 6, 3) := by decide +kernel
theorem dL_feeder_12 : decode cL_feeder 12 = .ok (.astore_n 3, 1) := by decide +kernel
theorem dL_feeder_13 : decode cL_feeder 13 = .ok (.iconst 1, 1) := by decide +kernel
theorem dL_feeder_14 : decode cL_feeder 14 = .ok (.ireturn, 1) := by decide +kernel
theorem dL_feeder_15 : decode cL_feeder 15 = .ok (.iconst 0, 1) := by decide +kernel
theorem dL_feeder_16 : decode cL_feeder 16 = .ok (.ireturn, 1) := by decide +kernel
theorem dL_unfed_0 : decode cL_unfed 0 = .ok (.aload_n 2, 1) := by decide +kernel
theorem dL_unfed_1 : decode cL_unfed 1 = .ok (.iconst 0, 1) := by decide +kernel
theorem dL_unfed_2 : decode cL_unfed 2 = .ok (.aload_n 0, 1) := by decide +kernel
theorem dL_unfed_3 : decode cL_unfed 3 = .ok (.iload_n 1, 1) := by decide +kernel
theorem dL_unfed_4 : decode cL_unfed 4 = .ok (.invokevirtual 54, 3) := by decide +kernel
theorem dL_unfed_7 : decode cL_unfed 7 = .ok (.i2l, 1) := by decide +kernel
theorem dL_unfed_8 : decode cL_unfed 8 = .ok (.lastore, 1) := by decide +kernel
theorem dL_unfed_9 : decode cL_unfed 9 = .ok (.goto 6, 3) := by decide +kernel
theorem dL_unfed_12 : decode cL_unfed 12 = .ok (.astore_n 3, 1) := by decide +kernel
theorem dL_unfed_13 : decode cL_unfed 13 = .ok (.iconst 1, 1) := by decide +kernel
theorem dL_unfed_14 : decode cL_unfed 14 = .ok (.ireturn, 1) := by decide +kernel
theorem dL_unfed_15 : decode cL_unfed 15 = .ok (.iconst 0, 1) := by decide +kernel
theorem dL_unfed_16 : decode cL_unfed 16 = .ok (.ireturn, 1) := by decide +kernel
theorem dL_flowRow_0 : decode cL_flowRow 0 = .ok (.aload_n 3, 1) := by decide +kernel
theorem dL_flowRow_1 : decode cL_flowRow 1 = .ok (.iconst 0, 1) := by decide +kernel
theorem dL_flowRow_2 : decode cL_flowRow 2 = .ok (.aload_n 0, 1) := by decide +kernel
theorem dL_flowRow_3 : decode cL_flowRow 3 = .ok (.iload_n 1, 1) := by decide +kernel
theorem dL_flowRow_4 : decode cL_flowRow 4 = .ok (.iload_n 2, 1) := by decide +kernel
theorem dL_flowRow_5 : decode cL_flowRow 5 = .ok (.invokevirtual 57, 3) := by decide +kernel
theorem dL_flowRow_8 : decode cL_flowRow 8 = .ok (.i2l, 1) := by decide +kernel
theorem dL_flowRow_9 : decode cL_flowRow 9 = .ok (.lastore, 1) := by decide +kernel
theorem dL_flowRow_10 : decode cL_flowRow 10 = .ok (.goto 15, 3) := by decide +kernel
theorem dL_flowRow_13 : decode cL_flowRow 13 = .ok (.astore 4, 2) := by decide +kernel
theorem dL_flowRow_15 : decode cL_flowRow 15 = .ok (.iconst 1, 1) := by decide +kernel
theorem dL_flowRow_16 : decode cL_flowRow 16 = .ok (.ireturn, 1) := by decide +kernel
theorem dL_flowRow_17 : decode cL_flowRow 17 = .ok (.astore 4, 2) := by decide +kernel
theorem dL_flowRow_19 : decode cL_flowRow 19 = .ok (.iconst 2, 1) := by decide +kernel
theorem dL_flowRow_20 : decode cL_flowRow 20 = .ok (.ireturn, 1) := by decide +kernel
theorem dL_flowRow_21 : decode cL_flowRow 21 = .ok (.astore 4, 2) := by decide +kernel
theorem dL_flowRow_23 : decode cL_flowRow 23 = .ok (.iconst 3, 1) := by decide +kernel
theorem dL_flowRow_24 : decode cL_flowRow 24 = .ok (.ireturn, 1) := by decide +kernel
theorem dL_flowRow_25 : decode cL_flowRow 25 = .ok (.iconst 0, 1) := by decide +kernel
theorem dL_flowRow_26 : decode cL_flowRow 26 = .ok (.ireturn, 1) := by decide +kernel
theorem dL_flow_0 : decode cL_flow 0 = .ok (.aload_n 2, 1) := by decide +kernel
theorem dL_flow_1 : decode cL_flow 1 = .ok (.iconst 0, 1) := by decide +kernel
theorem dL_flow_2 : decode cL_flow 2 = .ok (.aload_n 0, 1) := by decide +kernel
theorem dL_flow_3 : decode cL_flow 3 = .ok (.iload_n 1, 1) := by decide +kernel
theorem dL_flow_4 : decode cL_flow 4 = .ok (.invokevirtual 60, 3) := by decide +kernel
theorem dL_flow_7 : decode cL_flow 7 = .ok (.i2l, 1) := by decide +kernel
theorem dL_flow_8 : decode cL_flow 8 = .ok (.lastore, 1) := by decide +kernel
theorem dL_flow_9 : decode cL_flow 9 = .ok (.goto 9, 3) := by decide +kernel
theorem dL_flow_12 : decode cL_flow 12 = .ok (.astore_n 3, 1) := by decide +kernel
theorem dL_flow_13 : decode cL_flow 13 = .ok (.iconst 1, 1) := by decide +kernel
theorem dL_flow_14 : decode cL_flow 14 = .ok (.ireturn, 1) := by decide +kernel
theorem dL_flow_15 : decode cL_flow 15 = .ok (.astore_n 3, 1) := by decide +kernel
theorem dL_flow_16 : decode cL_flow 16 = .ok (.iconst 2, 1) := by decide +kernel
theorem dL_flow_17 : decode cL_flow 17 = .ok (.ireturn, 1) := by decide +kernel
theorem dL_flow_18 : decode cL_flow 18 = .ok (.iconst 0, 1) := by decide +kernel
theorem dL_flow_19 : decode cL_flow 19 = .ok (.ireturn, 1) := by decide +kernel
theorem dL_gate_0 : decode cL_gate 0 = .ok (.aload_n 2, 1) := by decide +kernel
theorem dL_gate_1 : decode cL_gate 1 = .ok (.iconst 0, 1) := by decide +kernel
theorem dL_gate_2 : decode cL_gate 2 = .ok (.aload_n 0, 1) := by decide +kernel
theorem dL_gate_3 : decode cL_gate 3 = .ok (.iload_n 1, 1) := by decide +kernel
theorem dL_gate_4 : decode cL_gate 4 = .ok (.invokevirtual 63, 3) := by decide +kernel
theorem dL_gate_7 : decode cL_gate 7 = .ok (.i2l, 1) := by decide +kernel
theorem dL_gate_8 : decode cL_gate 8 = .ok (.lastore, 1) := by decide +kernel
theorem dL_gate_9 : decode cL_gate 9 = .ok (.goto 12, 3) := by decide +kernel
theorem dL_gate_12 : decode cL_gate 12 = .ok (.astore_n 3, 1) := by decide +kernel
theorem dL_gate_13 : decode cL_gate 13 = .ok (.iconst 1, 1) := by decide +kernel
theorem dL_gate_14 : decode cL_gate 14 = .ok (.ireturn, 1) := by decide +kernel
theorem dL_gate_15 : decode cL_gate 15 = .ok (.astore_n 3, 1) := by decide +kernel
theorem dL_gate_16 : decode cL_gate 16 = .ok (.iconst 2, 1) := by decide +kernel
theorem dL_gate_17 : decode cL_gate 17 = .ok (.ireturn, 1) := by decide +kernel
theorem dL_gate_18 : decode cL_gate 18 = .ok (.astore_n 3, 1) := by decide +kernel
theorem dL_gate_19 : decode cL_gate 19 = .ok (.iconst 3, 1) := by decide +kernel
theorem dL_gate_20 : decode cL_gate 20 = .ok (.ireturn, 1) := by decide +kernel
theorem dL_gate_21 : decode cL_gate 21 = .ok (.iconst 0, 1) := by decide +kernel
theorem dL_gate_22 : decode cL_gate 22 = .ok (.ireturn, 1) := by decide +kernel
theorem dL_pattern_0 : decode cL_pattern 0 = .ok (.aload_n 3, 1) := by decide +kernel
theorem dL_pattern_1 : decode cL_pattern 1 = .ok (.iconst 0, 1) := by decide +kernel
theorem dL_pattern_2 : decode cL_pattern 2 = .ok (.aload_n 0, 1) := by decide +kernel
theorem dL_pattern_3 : decode cL_pattern 3 = .ok (.iload_n 1, 1) := by decide +kernel
theorem dL_pattern_4 : decode cL_pattern 4 = .ok (.iload_n 2, 1) := by decide +kernel
theorem dL_pattern_5 : decode cL_pattern 5 = .ok (.invokevirtual 66, 3) := by decide +kernel
theorem dL_pattern_8 : decode cL_pattern 8 = .ok (.i2l, 1) := by decide +kernel
theorem dL_pattern_9 : decode cL_pattern 9 = .ok (.lastore, 1) := by decide +kernel
theorem dL_pattern_10 : decode cL_pattern 10 = .ok (.goto 7, 3) := by decide +kernel
theorem dL_pattern_13 : decode cL_pattern 13 = .ok (.astore 4, 2) := by decide +kernel
theorem dL_pattern_15 : decode cL_pattern 15 = .ok (.iconst 1, 1) := by decide +kernel
theorem dL_pattern_16 : decode cL_pattern 16 = .ok (.ireturn, 1) := by decide +kernel
theorem dL_pattern_17 : decode cL_pattern 17 = .ok (.iconst 0, 1) := by decide +kernel
theorem dL_pattern_18 : decode cL_pattern 18 = .ok (.ireturn, 1) := by decide +kernel
theorem dL_molding_0 : decode cL_molding 0 = .ok (.aload_n 0, 1) := by decide +kernel
theorem dL_molding_1 : decode cL_molding 1 = .ok (.iload_n 1, 1) := by decide +kernel
theorem dL_molding_2 : decode cL_molding 2 = .ok (.iload_n 2, 1) := by decide +kernel
theorem dL_molding_3 : decode cL_molding 3 = .ok (.invokevirtual 69, 3) := by decide +kernel
theorem dL_molding_6 : decode cL_molding 6 = .ok (.goto 6, 3) := by decide +kernel
theorem dL_molding_9 : decode cL_molding 9 = .ok (.astore_n 3, 1) := by decide +kernel
theorem dL_molding_10 : decode cL_molding 10 = .ok (.iconst 1, 1) := by decide +kernel
theorem dL_molding_11 : decode cL_molding 11 = .ok (.ireturn, 1) := by decide +kernel
theorem dL_molding_12 : decode cL_molding 12 = .ok (.iconst 0, 1) := by decide +kernel
theorem dL_molding_13 : decode cL_molding 13 = .ok (.ireturn, 1) := by decide +kernel
theorem dL_pack_0 : decode cL_pack 0 = .ok (.aload_n 3, 1) := by decide +kernel
theorem dL_pack_1 : decode cL_pack 1 = .ok (.iconst 0, 1) := by decide +kernel
theorem dL_pack_2 : decode cL_pack 2 = .ok (.aload_n 0, 1) := by decide +kernel
theorem dL_pack_3 : decode cL_pack 3 = .ok (.iload_n 1, 1) := by decide +kernel
theorem dL_pack_4 : decode cL_pack 4 = .ok (.iload_n 2, 1) := by decide +kernel
theorem dL_pack_5 : decode cL_pack 5 = .ok (.invokevirtual 73, 3) := by decide +kernel
theorem dL_pack_8 : decode cL_pack 8 = .ok (.i2l, 1) := by decide +kernel
theorem dL_pack_9 : decode cL_pack 9 = .ok (.lastore, 1) := by decide +kernel
theorem dL_pack_10 : decode cL_pack 10 = .ok (.goto 15, 3) := by decide +kernel
theorem dL_pack_13 : decode cL_pack 13 = .ok (.astore 4, 2) := by decide +kernel
theorem dL_pack_15 : decode cL_pack 15 = .ok (.iconst 1, 1) := by decide +kernel
theorem dL_pack_16 : decode cL_pack 16 = .ok (.ireturn, 1) := by decide +kernel
theorem dL_pack_17 : decode cL_pack 17 = .ok (.astore 4, 2) := by decide +kernel
theorem dL_pack_19 : decode cL_pack 19 = .ok (.iconst 2, 1) := by decide +kernel
theorem dL_pack_20 : decode cL_pack 20 = .ok (.ireturn, 1) := by decide +kernel
theorem dL_pack_21 : decode cL_pack 21 = .ok (.astore 4, 2) := by decide +kernel
theorem dL_pack_23 : decode cL_pack 23 = .ok (.iconst 3, 1) := by decide +kernel
theorem dL_pack_24 : decode cL_pack 24 = .ok (.ireturn, 1) := by decide +kernel
theorem dL_pack_25 : decode cL_pack 25 = .ok (.iconst 0, 1) := by decide +kernel
theorem dL_pack_26 : decode cL_pack 26 = .ok (.ireturn, 1) := by decide +kernel
theorem dL_packed_0 : decode cL_packed 0 = .ok (.aload_n 3, 1) := by decide +kernel
theorem dL_packed_1 : decode cL_packed 1 = .ok (.iconst 0, 1) := by decide +kernel
theorem dL_packed_2 : decode cL_packed 2 = .ok (.aload_n 0, 1) := by decide +kernel
theorem dL_packed_3 : decode cL_packed 3 = .ok (.iload_n 1, 1) := by decide +kernel
theorem dL_packed_4 : decode cL_packed 4 = .ok (.iload_n 2, 1) := by decide +kernel
theorem dL_packed_5 : decode cL_packed 5 = .ok (.invokevirtual 76, 3) := by decide +kernel
theorem dL_packed_8 : decode cL_packed 8 = .ok (.i2l, 1) := by decide +kernel
theorem dL_packed_9 : decode cL_packed 9 = .ok (.lastore, 1) := by decide +kernel
theorem dL_packed_10 : decode cL_packed 10 = .ok (.goto 7, 3) := by decide +kernel
theorem dL_packed_13 : decode cL_packed 13 = .ok (.astore 4, 2) := by decide +kernel
theorem dL_packed_15 : decode cL_packed 15 = .ok (.iconst 1, 1) := by decide +kernel
theorem dL_packed_16 : decode cL_packed 16 = .ok (.ireturn, 1) := by decide +kernel
theorem dL_packed_17 : decode cL_packed 17 = .ok (.iconst 0, 1) := by decide +kernel
theorem dL_packed_18 : decode cL_packed 18 = .ok (.ireturn, 1) := by decide +kernel
