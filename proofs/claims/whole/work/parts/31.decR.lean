theorem dX7_init_0 : decode mX7_init.2.1 0 = .ok (.aload_n 0, 1) := by decide +kernel
theorem dX7_init_1 : decode mX7_init.2.1 1 = .ok (.invokespecial 1, 3) := by decide +kernel
theorem dX7_init_4 : decode mX7_init.2.1 4 = .ok (.aload_n 0, 1) := by decide +kernel
theorem dX7_init_5 : decode mX7_init.2.1 5 = .ok (.bipush 8, 2) := by decide +kernel
theorem dX7_init_7 : decode mX7_init.2.1 7 = .ok (.anewarray 9, 3) := by decide +kernel
theorem dX7_init_10 : decode mX7_init.2.1 10 = .ok (.putfield 11, 3) := by decide +kernel
theorem dX7_init_13 : decode mX7_init.2.1 13 = .ok (.aload_n 0, 1) := by decide +kernel
theorem dX7_init_14 : decode mX7_init.2.1 14 = .ok (.bipush 6, 2) := by decide +kernel
theorem dX7_init_16 : decode mX7_init.2.1 16 = .ok (.anewarray 15, 3) := by decide +kernel
theorem dX7_init_19 : decode mX7_init.2.1 19 = .ok (.putfield 17, 3) := by decide +kernel
theorem dX7_init_22 : decode mX7_init.2.1 22 = .ok (.aload_n 0, 1) := by decide +kernel
theorem dX7_init_23 : decode mX7_init.2.1 23 = .ok (.sipush 200, 3) := by decide +kernel
theorem dX7_init_26 : decode mX7_init.2.1 26 = .ok (.anewarray 21, 3) := by decide +kernel
theorem dX7_init_29 : decode mX7_init.2.1 29 = .ok (.putfield 23, 3) := by decide +kernel
theorem dX7_init_32 : decode mX7_init.2.1 32 = .ok (.aload_n 0, 1) := by decide +kernel
theorem dX7_init_33 : decode mX7_init.2.1 33 = .ok (.sipush 200, 3) := by decide +kernel
theorem dX7_init_36 : decode mX7_init.2.1 36 = .ok (.newarray .int, 2) := by decide +kernel
theorem dX7_init_38 : decode mX7_init.2.1 38 = .ok (.putfield 27, 3) := by decide +kernel
theorem dX7_init_41 : decode mX7_init.2.1 41 = .ok (.aload_n 0, 1) := by decide +kernel
theorem dX7_init_42 : decode mX7_init.2.1 42 = .ok (.new 31, 3) := by decide +kernel
theorem dX7_init_45 : decode mX7_init.2.1 45 = .ok (.dup, 1) := by decide +kernel
theorem dX7_init_46 : decode mX7_init.2.1 46 = .ok (.invokespecial 33, 3) := by decide +kernel
theorem dX7_init_49 : decode mX7_init.2.1 49 = .ok (.putfield 34, 3) := by decide +kernel
theorem dX7_init_52 : decode mX7_init.2.1 52 = .ok (.aload_n 0, 1) := by decide +kernel
theorem dX7_init_53 : decode mX7_init.2.1 53 = .ok (.iconst 0, 1) := by decide +kernel
theorem dX7_init_54 : decode mX7_init.2.1 54 = .ok (.putfield 38, 3) := by decide +kernel
theorem dX7_init_57 : decode mX7_init.2.1 57 = .ok (.return_, 1) := by decide +kernel
theorem dX7_member_0 : decode mX7_member.2.1 0 = .ok (.aload_n 0, 1) := by decide +kernel
theorem dX7_member_1 : decode mX7_member.2.1 1 = .ok (.getfield 42, 3) := by decide +kernel
theorem dX7_member_4 : decode mX7_member.2.1 4 = .ok (.bipush 8, 2) := by decide +kernel
theorem dX7_member_6 : decode mX7_member.2.1 6 = .ok (.if_icmp .lt 9, 3) := by decide +kernel
theorem dX7_member_9 : decode mX7_member.2.1 9 = .ok (.aload_n 0, 1) := by decide +kernel
theorem dX7_member_10 : decode mX7_member.2.1 10 = .ok (.iconst 2, 1) := by decide +kernel
theorem dX7_member_11 : decode mX7_member.2.1 11 = .ok (.invokevirtual 45, 3) := by decide +kernel
theorem dX7_member_14 : decode mX7_member.2.1 14 = .ok (.ireturn, 1) := by decide +kernel
theorem dX7_member_15 : decode mX7_member.2.1 15 = .ok (.aload_n 0, 1) := by decide +kernel
theorem dX7_member_16 : decode mX7_member.2.1 16 = .ok (.getfield 11, 3) := by decide +kernel
theorem dX7_member_19 : decode mX7_member.2.1 19 = .ok (.aload_n 0, 1) := by decide +kernel
theorem dX7_member_20 : decode mX7_member.2.1 20 = .ok (.getfield 42, 3) := by decide +kernel
theorem dX7_member_23 : decode mX7_member.2.1 23 = .ok (.new 9, 3) := by decide +kernel
theorem dX7_member_26 : decode mX7_member.2.1 26 = .ok (.dup, 1) := by decide +kernel
theorem dX7_member_27 : decode mX7_member.2.1 27 = .ok (.invokespecial 49, 3) := by decide +kernel
theorem dX7_member_30 : decode mX7_member.2.1 30 = .ok (.aastore, 1) := by decide +kernel
theorem dX7_member_31 : decode mX7_member.2.1 31 = .ok (.aload_n 0, 1) := by decide +kernel
theorem dX7_member_32 : decode mX7_member.2.1 32 = .ok (.dup, 1) := by decide +kernel
theorem dX7_member_33 : decode mX7_member.2.1 33 = .ok (.getfield 42, 3) := by decide +kernel
theorem dX7_member_36 : decode mX7_member.2.1 36 = .ok (.iconst 1, 1) := by decide +kernel
theorem dX7_member_37 : decode mX7_member.2.1 37 = .ok (.iadd, 1) := by decide +kernel
theorem dX7_member_38 : decode mX7_member.2.1 38 = .ok (.putfield 42, 3) := by decide +kernel
theorem dX7_member_41 : decode mX7_member.2.1 41 = .ok (.aload_n 0, 1) := by decide +kernel
theorem dX7_member_42 : decode mX7_member.2.1 42 = .ok (.aload_n 0, 1) := by decide +kernel
theorem dX7_member_43 : decode mX7_member.2.1 43 = .ok (.getfield 42, 3) := by decide +kernel
theorem dX7_member_46 : decode mX7_member.2.1 46 = .ok (.iconst 1, 1) := by decide +kernel
theorem dX7_member_47 : decode mX7_member.2.1 47 = .ok (.isub, 1) := by decide +kernel
theorem dX7_member_48 : decode mX7_member.2.1 48 = .ok (.invokevirtual 50, 3) := by decide +kernel
theorem dX7_member_51 : decode mX7_member.2.1 51 = .ok (.ireturn, 1) := by decide +kernel
theorem dX7_circle_0 : decode mX7_circle.2.1 0 = .ok (.iconst (-1), 1) := by decide +kernel
theorem dX7_circle_1 : decode mX7_circle.2.1 1 = .ok (.aload_n 0, 1) := by decide +kernel
theorem dX7_circle_2 : decode mX7_circle.2.1 2 = .ok (.getfield 42, 3) := by decide +kernel
theorem dX7_circle_5 : decode mX7_circle.2.1 5 = .ok (.ishl, 1) := by decide +kernel
theorem dX7_circle_6 : decode mX7_circle.2.1 6 = .ok (.istore_n 2, 1) := by decide +kernel
theorem dX7_circle_7 : decode mX7_circle.2.1 7 = .ok (.iload_n 1, 1) := by decide +kernel
theorem dX7_circle_8 : decode mX7_circle.2.1 8 = .ok (.iload_n 2, 1) := by decide +kernel
theorem dX7_circle_9 : decode mX7_circle.2.1 9 = .ok (.iand, 1) := by decide +kernel
theorem dX7_circle_10 : decode mX7_circle.2.1 10 = .ok (.ifCond .ne 11, 3) := by decide +kernel
theorem dX7_circle_13 : decode mX7_circle.2.1 13 = .ok (.iload_n 1, 1) := by decide +kernel
theorem dX7_circle_14 : decode mX7_circle.2.1 14 = .ok (.invokestatic 53, 3) := by decide +kernel
theorem dX7_circle_17 : decode mX7_circle.2.1 17 = .ok (.iconst 2, 1) := by decide +kernel
theorem dX7_circle_18 : decode mX7_circle.2.1 18 = .ok (.if_icmp .ge 9, 3) := by decide +kernel
theorem dX7_circle_21 : decode mX7_circle.2.1 21 = .ok (.aload_n 0, 1) := by decide +kernel
theorem dX7_circle_22 : decode mX7_circle.2.1 22 = .ok (.iconst 1, 1) := by decide +kernel
theorem dX7_circle_23 : decode mX7_circle.2.1 23 = .ok (.invokevirtual 45, 3) := by decide +kernel
theorem dX7_circle_26 : decode mX7_circle.2.1 26 = .ok (.ireturn, 1) := by decide +kernel
theorem dX7_circle_27 : decode mX7_circle.2.1 27 = .ok (.aload_n 0, 1) := by decide +kernel
theorem dX7_circle_28 : decode mX7_circle.2.1 28 = .ok (.getfield 58, 3) := by decide +kernel
theorem dX7_circle_31 : decode mX7_circle.2.1 31 = .ok (.bipush 6, 2) := by decide +kernel
theorem dX7_circle_33 : decode mX7_circle.2.1 33 = .ok (.if_icmp .lt 9, 3) := by decide +kernel
theorem dX7_circle_36 : decode mX7_circle.2.1 36 = .ok (.aload_n 0, 1) := by decide +kernel
theorem dX7_circle_37 : decode mX7_circle.2.1 37 = .ok (.iconst 2, 1) := by decide +kernel
theorem dX7_circle_38 : decode mX7_circle.2.1 38 = .ok (.invokevirtual 45, 3) := by decide +kernel
theorem dX7_circle_41 : decode mX7_circle.2.1 41 = .ok (.ireturn, 1) := by decide +kernel
theorem dX7_circle_42 : decode mX7_circle.2.1 42 = .ok (.aload_n 0, 1) := by decide +kernel
theorem dX7_circle_43 : decode mX7_circle.2.1 43 = .ok (.getfield 17, 3) := by decide +kernel
theorem dX7_circle_46 : decode mX7_circle.2.1 46 = .ok (.aload_n 0, 1) := by decide +kernel
theorem dX7_circle_47 : decode mX7_circle.2.1 47 = .ok (.getfield 58, 3) := by decide +kernel
theorem dX7_circle_50 : decode mX7_circle.2.1 50 = .ok (.new 15, 3) := by decide +kernel
theorem dX7_circle_53 : decode mX7_circle.2.1 53 = .ok (.dup, 1) := by decide +kernel
theorem dX7_circle_54 : decode mX7_circle.2.1 54 = .ok (.iload_n 1, 1) := by decide +kernel
theorem dX7_circle_55 : decode mX7_circle.2.1 55 = .ok (.iload_n 1, 1) := by decide +kernel
theorem dX7_circle_56 : decode mX7_circle.2.1 56 = .ok (.invokestatic 61, 3) := by decide +kernel
theorem dX7_circle_59 : decode mX7_circle.2.1 59 = .ok (.invokespecial 64, 3) := by decide +kernel
theorem dX7_circle_62 : decode mX7_circle.2.1 62 = .ok (.aastore, 1) := by decide +kernel
theorem dX7_circle_63 : decode mX7_circle.2.1 63 = .ok (.aload_n 0, 1) := by decide +kernel
theorem dX7_circle_64 : decode mX7_circle.2.1 64 = .ok (.dup, 1) := by decide +kernel
theorem dX7_circle_65 : decode mX7_circle.2.1 65 = .ok (.getfield 58, 3) := by decide +kernel
theorem dX7_circle_68 : decode mX7_circle.2.1 68 = .ok (.iconst 1, 1) := by decide +kernel
theorem dX7_circle_69 : decode mX7_circle.2.1 69 = .ok (.iadd, 1) := by decide +kernel
theorem dX7_circle_70 : decode mX7_circle.2.1 70 = .ok (.putfield 58, 3) := by decide +kernel
theorem dX7_circle_73 : decode mX7_circle.2.1 73 = .ok (.aload_n 0, 1) := by decide +kernel
theorem dX7_circle_74 : decode mX7_circle.2.1 74 = .ok (.aload_n 0, 1) := by decide +kernel
theorem dX7_circle_75 : decode mX7_circle.2.1 75 = .ok (.getfield 58, 3) := by decide +kernel
theorem dX7_circle_78 : decode mX7_circle.2.1 78 = .ok (.iconst 1, 1) := by decide +kernel
theorem dX7_circle_79 : decode mX7_circle.2.1 79 = .ok (.isub, 1) := by decide +kernel
theorem dX7_circle_80 : decode mX7_circle.2.1 80 = .ok (.invokevirtual 50, 3) := by decide +kernel
theorem dX7_circle_83 : decode mX7_circle.2.1 83 = .ok (.ireturn, 1) := by decide +kernel
theorem dX7_write_0 : decode mX7_write.2.1 0 = .ok (.iload_n 3, 1) := by decide +kernel
theorem dX7_write_1 : decode mX7_write.2.1 1 = .ok (.ifCond .eq 19, 3) := by decide +kernel
theorem dX7_write_4 : decode mX7_write.2.1 4 = .ok (.iload_n 3, 1) := by decide +kernel
theorem dX7_write_5 : decode mX7_write.2.1 5 = .ok (.iconst 4, 1) := by decide +kernel
theorem dX7_write_6 : decode mX7_write.2.1 6 = .ok (.if_icmp .eq 14, 3) := by decide +kernel
theorem dX7_write_9 : decode mX7_write.2.1 9 = .ok (.iload_n 3, 1) := by decide +kernel
theorem dX7_write_10 : decode mX7_write.2.1 10 = .ok (.iconst 5, 1) := by decide +kernel
theorem dX7_write_11 : decode mX7_write.2.1 11 = .ok (.if_icmp .eq 9, 3) := by decide +kernel
theorem dX7_write_14 : decode mX7_write.2.1 14 = .ok (.aload_n 0, 1) := by decide +kernel
theorem dX7_write_15 : decode mX7_write.2.1 15 = .ok (.iconst 1, 1) := by decide +kernel
theorem dX7_write_16 : decode mX7_write.2.1 16 = .ok (.invokevirtual 45, 3) := by decide +kernel
theorem dX7_write_19 : decode mX7_write.2.1 19 = .ok (.ireturn, 1) := by decide +kernel
theorem dX7_write_20 : decode mX7_write.2.1 20 = .ok (.aload_n 0, 1) := by decide +kernel
theorem dX7_write_21 : decode mX7_write.2.1 21 = .ok (.iload_n 1, 1) := by decide +kernel
theorem dX7_write_22 : decode mX7_write.2.1 22 = .ok (.iload_n 2, 1) := by decide +kernel
theorem dX7_write_23 : decode mX7_write.2.1 23 = .ok (.iload_n 3, 1) := by decide +kernel
theorem dX7_write_24 : decode mX7_write.2.1 24 = .ok (.iconst (-1), 1) := by decide +kernel
theorem dX7_write_25 : decode mX7_write.2.1 25 = .ok (.invokevirtual 67, 3) := by decide +kernel
theorem dX7_write_28 : decode mX7_write.2.1 28 = .ok (.ireturn, 1) := by decide +kernel
theorem dX7_reply_0 : decode mX7_reply.2.1 0 = .ok (.aload_n 0, 1) := by decide +kernel
theorem dX7_reply_1 : decode mX7_reply.2.1 1 = .ok (.iload_n 3, 1) := by decide +kernel
theorem dX7_reply_2 : decode mX7_reply.2.1 2 = .ok (.invokevirtual 71, 3) := by decide +kernel
theorem dX7_reply_5 : decode mX7_reply.2.1 5 = .ok (.ifCond .ne 9, 3) := by decide +kernel
theorem dX7_reply_8 : decode mX7_reply.2.1 8 = .ok (.aload_n 0, 1) := by decide +kernel
theorem dX7_reply_9 : decode mX7_reply.2.1 9 = .ok (.iconst 1, 1) := by decide +kernel
theorem dX7_reply_10 : decode mX7_reply.2.1 10 = .ok (.invokevirtual 45, 3) := by decide +kernel
theorem dX7_reply_13 : decode mX7_reply.2.1 13 = .ok (.ireturn, 1) := by decide +kernel
theorem dX7_reply_14 : decode mX7_reply.2.1 14 = .ok (.aload_n 0, 1) := by decide +kernel
theorem dX7_reply_15 : decode mX7_reply.2.1 15 = .ok (.iload_n 1, 1) := by decide +kernel
theorem dX7_reply_16 : decode mX7_reply.2.1 16 = .ok (.iload_n 2, 1) := by decide +kernel
theorem dX7_reply_17 : decode mX7_reply.2.1 17 = .ok (.iconst 1, 1) := by decide +kernel
theorem dX7_reply_18 : decode mX7_reply.2.1 18 = .ok (.iload_n 3, 1) := by decide +kernel
theorem dX7_reply_19 : decode mX7_reply.2.1 19 = .ok (.invokevirtual 67, 3) := by decide +kernel
theorem dX7_reply_22 : decode mX7_reply.2.1 22 = .ok (.ireturn, 1) := by decide +kernel
theorem dX7_seal_0 : decode mX7_seal.2.1 0 = .ok (.iload_n 3, 1) := by decide +kernel
theorem dX7_seal_1 : decode mX7_seal.2.1 1 = .ok (.iconst (-1), 1) := by decide +kernel
theorem dX7_seal_2 : decode mX7_seal.2.1 2 = .ok (.if_icmp .eq 17, 3) := by decide +kernel
theorem dX7_seal_5 : decode mX7_seal.2.1 5 = .ok (.aload_n 0, 1) := by decide +kernel
theorem dX7_seal_6 : decode mX7_seal.2.1 6 = .ok (.iload_n 3, 1) := by decide +kernel
theorem dX7_seal_7 : decode mX7_seal.2.1 7 = .ok (.invokevirtual 71, 3) := by decide +kernel
theorem dX7_seal_10 : decode mX7_seal.2.1 10 = .ok (.ifCond .ne 9, 3) := by decide +kernel
theorem dX7_seal_13 : decode mX7_seal.2.1 13 = .ok (.aload_n 0, 1) := by decide +kernel
theorem dX7_seal_14 : decode mX7_seal.2.1 14 = .ok (.iconst 1, 1) := by decide +kernel
theorem dX7_seal_15 : decode mX7_seal.2.1 15 = .ok (.invokevirtual 45, 3) := by decide +kernel
theorem dX7_seal_18 : decode mX7_seal.2.1 18 = .ok (.ireturn, 1) := by decide +kernel
theorem dX7_seal_19 : decode mX7_seal.2.1 19 = .ok (.aload_n 0, 1) := by decide +kernel
theorem dX7_seal_20 : decode mX7_seal.2.1 20 = .ok (.iload_n 1, 1) := by decide +kernel
theorem dX7_seal_21 : decode mX7_seal.2.1 21 = .ok (.iload_n 2, 1) := by decide +kernel
theorem dX7_seal_22 : decode mX7_seal.2.1 22 = .ok (.iconst 2, 1) := by decide +kernel
theorem dX7_seal_23 : decode mX7_seal.2.1 23 = .ok (.iload_n 3, 1) := by decide +kernel
theorem dX7_seal_24 : decode mX7_seal.2.1 24 = .ok (.invokevirtual 67, 3) := by decide +kernel
theorem dX7_seal_27 : decode mX7_seal.2.1 27 = .ok (.ireturn, 1) := by decide +kernel
theorem dX7_deliver_0 : decode mX7_deliver.2.1 0 = .ok (.aload_n 0, 1) := by decide +kernel
theorem dX7_deliver_1 : decode mX7_deliver.2.1 1 = .ok (.iload_n 1, 1) := by decide +kernel
theorem dX7_deliver_2 : decode mX7_deliver.2.1 2 = .ok (.invokevirtual 71, 3) := by decide +kernel
theorem dX7_deliver_5 : decode mX7_deliver.2.1 5 = .ok (.ifCond .eq 11, 3) := by decide +kernel
theorem dX7_deliver_8 : decode mX7_deliver.2.1 8 = .ok (.aload_n 0, 1) := by decide +kernel
theorem dX7_deliver_9 : decode mX7_deliver.2.1 9 = .ok (.iload_n 2, 1) := by decide +kernel
theorem dX7_deliver_10 : decode mX7_deliver.2.1 10 = .ok (.invokevirtual 75, 3) := by decide +kernel
theorem dX7_deliver_13 : decode mX7_deliver.2.1 13 = .ok (.ifCond .ne 9, 3) := by decide +kernel
theorem dX7_deliver_16 : decode mX7_deliver.2.1 16 = .ok (.aload_n 0, 1) := by decide +kernel
theorem dX7_deliver_17 : decode mX7_deliver.2.1 17 = .ok (.iconst 1, 1) := by decide +kernel
theorem dX7_deliver_18 : decode mX7_deliver.2.1 18 = .ok (.invokevirtual 45, 3) := by decide +kernel
theorem dX7_deliver_21 : decode mX7_deliver.2.1 21 = .ok (.ireturn, 1) := by decide +kernel
theorem dX7_deliver_22 : decode mX7_deliver.2.1 22 = .ok (.aload_n 0, 1) := by decide +kernel
theorem dX7_deliver_23 : decode mX7_deliver.2.1 23 = .ok (.getfield 23, 3) := by decide +kernel
theorem dX7_deliver_26 : decode mX7_deliver.2.1 26 = .ok (.iload_n 1, 1) := by decide +kernel
theorem dX7_deliver_27 : decode mX7_deliver.2.1 27 = .ok (.aaload, 1) := by decide +kernel
theorem dX7_deliver_28 : decode mX7_deliver.2.1 28 = .ok (.iload_n 2, 1) := by decide +kernel
theorem dX7_deliver_29 : decode mX7_deliver.2.1 29 = .ok (.invokevirtual 78, 3) := by decide +kernel
theorem dX7_deliver_32 : decode mX7_deliver.2.1 32 = .ok (.ifCond .ne 9, 3) := by decide +kernel
theorem dX7_deliver_35 : decode mX7_deliver.2.1 35 = .ok (.aload_n 0, 1) := by decide +kernel
theorem dX7_deliver_36 : decode mX7_deliver.2.1 36 = .ok (.iconst 3, 1) := by decide +kernel
theorem dX7_deliver_37 : decode mX7_deliver.2.1 37 = .ok (.invokevirtual 45, 3) := by decide +kernel
theorem dX7_deliver_40 : decode mX7_deliver.2.1 40 = .ok (.ireturn, 1) := by decide +kernel
theorem dX7_deliver_41 : decode mX7_deliver.2.1 41 = .ok (.aload_n 0, 1) := by decide +kernel
theorem dX7_deliver_42 : decode mX7_deliver.2.1 42 = .ok (.aload_n 0, 1) := by decide +kernel
theorem dX7_deliver_43 : decode mX7_deliver.2.1 43 = .ok (.aload_n 0, 1) := by decide +kernel
theorem dX7_deliver_44 : decode mX7_deliver.2.1 44 = .ok (.getfield 23, 3) := by decide +kernel
theorem dX7_deliver_47 : decode mX7_deliver.2.1 47 = .ok (.iload_n 1, 1) := by decide +kernel
theorem dX7_deliver_48 : decode mX7_deliver.2.1 48 = .ok (.aaload, 1) := by decide +kernel
theorem dX7_deliver_49 : decode mX7_deliver.2.1 49 = .ok (.iload_n 2, 1) := by decide +kernel
theorem dX7_deliver_50 : decode mX7_deliver.2.1 50 = .ok (.invokevirtual 81, 3) := by decide +kernel
theorem dX7_deliver_53 : decode mX7_deliver.2.1 53 = .ok (.invokevirtual 50, 3) := by decide +kernel
theorem dX7_deliver_56 : decode mX7_deliver.2.1 56 = .ok (.ireturn, 1) := by decide +kernel
theorem dX7_deliverAll_0 : decode mX7_deliverAll.2.1 0 = .ok (.aload_n 0, 1) := by decide +kernel
theorem dX7_deliverAll_1 : decode mX7_deliverAll.2.1 1 = .ok (.iload_n 1, 1) := by decide +kernel
theorem dX7_deliverAll_2 : decode mX7_deliverAll.2.1 2 = .ok (.invokevirtual 85, 3) := by decide +kernel
theorem dX7_deliverAll_5 : decode mX7_deliverAll.2.1 5 = .ok (.ifCond .eq 12, 3) := by decide +kernel
theorem dX7_deliverAll_8 : decode mX7_deliverAll.2.1 8 = .ok (.iload_n 2, 1) := by decide +kernel
theorem dX7_deliverAll_9 : decode mX7_deliverAll.2.1 9 = .ok (.ifCond .lt 8, 3) := by decide +kernel
theorem dX7_deliverAll_12 : decode mX7_deliverAll.2.1 12 = .ok (.iload_n 2, 1) := by decide +kernel
theorem dX7_deliverAll_13 : decode mX7_deliverAll.2.1 13 = .ok (.iconst 1, 1) := by decide +kernel
theorem dX7_deliverAll_14 : decode mX7_deliverAll.2.1 14 = .ok (.if_icmp .le 9, 3) := by decide +kernel
theorem dX7_deliverAll_17 : decode mX7_deliverAll.2.1 17 = .ok (.aload_n 0, 1) := by decide +kernel
theorem dX7_deliverAll_18 : decode mX7_deliverAll.2.1 18 = .ok (.iconst 1, 1) := by decide +kernel
theorem dX7_deliverAll_19 : decode mX7_deliverAll.2.1 19 = .ok (.invokevirtual 45, 3) := by decide +kernel
theorem dX7_deliverAll_22 : decode mX7_deliverAll.2.1 22 = .ok (.ireturn, 1) := by decide +kernel
theorem dX7_deliverAll_23 : decode mX7_deliverAll.2.1 23 = .ok (.iconst 0, 1) := by decide +kernel
theorem dX7_deliverAll_24 : decode mX7_deliverAll.2.1 24 = .ok (.istore_n 3, 1) := by decide +kernel
theorem dX7_deliverAll_25 : decode mX7_deliverAll.2.1 25 = .ok (.aload_n 0, 1) := by decide +kernel
theorem dX7_deliverAll_26 : decode mX7_deliverAll.2.1 26 = .ok (.iload_n 1, 1) := by decide +kernel
theorem dX7_deliverAll_27 : decode mX7_deliverAll.2.1 27 = .ok (.iload_n 2, 1) := by decide +kernel
theorem dX7_deliverAll_28 : decode mX7_deliverAll.2.1 28 = .ok (.invokevirtual 88, 3) := by decide +kernel
theorem dX7_deliverAll_31 : decode mX7_deliverAll.2.1 31 = .ok (.astore 4, 2) := by decide +kernel
theorem dX7_deliverAll_33 : decode mX7_deliverAll.2.1 33 = .ok (.aload 4, 2) := by decide +kernel
theorem dX7_deliverAll_35 : decode mX7_deliverAll.2.1 35 = .ok (.ifnull 39, 3) := by decide +kernel
theorem dX7_deliverAll_38 : decode mX7_deliverAll.2.1 38 = .ok (.iload_n 3, 1) := by decide +kernel
theorem dX7_deliverAll_39 : decode mX7_deliverAll.2.1 39 = .ok (.sipush 1600, 3) := by decide +kernel
theorem dX7_deliverAll_42 : decode mX7_deliverAll.2.1 42 = .ok (.if_icmp .ge 32, 3) := by decide +kernel
theorem dX7_deliverAll_45 : decode mX7_deliverAll.2.1 45 = .ok (.aload_n 0, 1) := by decide +kernel
theorem dX7_deliverAll_46 : decode mX7_deliverAll.2.1 46 = .ok (.aload 4, 2) := by decide +kernel
theorem dX7_deliverAll_48 : decode mX7_deliverAll.2.1 48 = .ok (.aload 4, 2) := by decide +kernel
theorem dX7_deliverAll_50 : decode mX7_deliverAll.2.1 50 = .ok (.getfield 92, 3) := by decide +kernel
theorem dX7_deliverAll_53 : decode mX7_deliverAll.2.1 53 = .ok (.invokestatic 61, 3) := by decide +kernel
theorem dX7_deliverAll_56 : decode mX7_deliverAll.2.1 56 = .ok (.invokevirtual 81, 3) := by decide +kernel
theorem dX7_deliverAll_59 : decode mX7_deliverAll.2.1 59 = .ok (.pop, 1) := by decide +kernel
theorem dX7_deliverAll_60 : decode mX7_deliverAll.2.1 60 = .ok (.iinc 3 1, 3) := by decide +kernel
theorem dX7_deliverAll_63 : decode mX7_deliverAll.2.1 63 = .ok (.aload_n 0, 1) := by decide +kernel
theorem dX7_deliverAll_64 : decode mX7_deliverAll.2.1 64 = .ok (.iload_n 1, 1) := by decide +kernel
theorem dX7_deliverAll_65 : decode mX7_deliverAll.2.1 65 = .ok (.iload_n 2, 1) := by decide +kernel
theorem dX7_deliverAll_66 : decode mX7_deliverAll.2.1 66 = .ok (.invokevirtual 88, 3) := by decide +kernel
theorem dX7_deliverAll_69 : decode mX7_deliverAll.2.1 69 = .ok (.astore 4, 2) := by decide +kernel
theorem dX7_deliverAll_71 : decode mX7_deliverAll.2.1 71 = .ok (.goto (-38), 3) := by decide +kernel
theorem dX7_deliverAll_74 : decode mX7_deliverAll.2.1 74 = .ok (.aload_n 0, 1) := by decide +kernel
theorem dX7_deliverAll_75 : decode mX7_deliverAll.2.1 75 = .ok (.iload_n 3, 1) := by decide +kernel
theorem dX7_deliverAll_76 : decode mX7_deliverAll.2.1 76 = .ok (.invokevirtual 50, 3) := by decide +kernel
theorem dX7_deliverAll_79 : decode mX7_deliverAll.2.1 79 = .ok (.ireturn, 1) := by decide +kernel
theorem dX7_count_0 : decode mX7_count.2.1 0 = .ok (.iload_n 1, 1) := by decide +kernel
theorem dX7_count_1 : decode mX7_count.2.1 1 = .ok (.tableswitch 54 0 3 #[31, 36, 41, 46], 31) := by decide +kernel
theorem dX7_count_32 : decode mX7_count.2.1 32 = .ok (.aload_n 0, 1) := by decide +kernel
theorem dX7_count_33 : decode mX7_count.2.1 33 = .ok (.getfield 42, 3) := by decide +kernel
theorem dX7_count_36 : decode mX7_count.2.1 36 = .ok (.ireturn, 1) := by decide +kernel
theorem dX7_count_37 : decode mX7_count.2.1 37 = .ok (.aload_n 0, 1) := by decide +kernel
theorem dX7_count_38 : decode mX7_count.2.1 38 = .ok (.getfield 58, 3) := by decide +kernel
theorem dX7_count_41 : decode mX7_count.2.1 41 = .ok (.ireturn, 1) := by decide +kernel
theorem dX7_count_42 : decode mX7_count.2.1 42 = .ok (.aload_n 0, 1) := by decide +kernel
theorem dX7_count_43 : decode mX7_count.2.1 43 = .ok (.getfield 95, 3) := by decide +kernel
theorem dX7_count_46 : decode mX7_count.2.1 46 = .ok (.ireturn, 1) := by decide +kernel
theorem dX7_count_47 : decode mX7_count.2.1 47 = .ok (.aload_n 0, 1) := by decide +kernel
theorem dX7_count_48 : decode mX7_count.2.1 48 = .ok (.getfield 34, 3) := by decide +kernel
theorem dX7_count_51 : decode mX7_count.2.1 51 = .ok (.invokevirtual 98, 3) := by decide +kernel
theorem dX7_count_54 : decode mX7_count.2.1 54 = .ok (.ireturn, 1) := by decide +kernel
theorem dX7_count_55 : decode mX7_count.2.1 55 = .ok (.iconst (-1), 1) := by decide +kernel
theorem dX7_count_56 : decode mX7_count.2.1 56 = .ok (.ireturn, 1) := by decide +kernel
theorem dX7_told_0 : decode mX7_told.2.1 0 = .ok (.aload_n 0, 1) := by decide +kernel
theorem dX7_told_1 : decode mX7_told.2.1 1 = .ok (.iload_n 1, 1) := by decide +kernel
theorem dX7_told_2 : decode mX7_told.2.1 2 = .ok (.invokevirtual 71, 3) := by decide +kernel
theorem dX7_told_5 : decode mX7_told.2.1 5 = .ok (.ifCond .ne 5, 3) := by decide +kernel
theorem dX7_told_8 : decode mX7_told.2.1 8 = .ok (.iconst (-1), 1) := by decide +kernel
theorem dX7_told_9 : decode mX7_told.2.1 9 = .ok (.ireturn, 1) := by decide +kernel
theorem dX7_told_10 : decode mX7_told.2.1 10 = .ok (.aload_n 0, 1) := by decide +kernel
theorem dX7_told_11 : decode mX7_told.2.1 11 = .ok (.getfield 23, 3) := by decide +kernel
theorem dX7_told_14 : decode mX7_told.2.1 14 = .ok (.iload_n 1, 1) := by decide +kernel
theorem dX7_told_15 : decode mX7_told.2.1 15 = .ok (.aaload, 1) := by decide +kernel
theorem dX7_told_16 : decode mX7_told.2.1 16 = .ok (.astore_n 3, 1) := by decide +kernel
theorem dX7_told_17 : decode mX7_told.2.1 17 = .ok (.iload_n 2, 1) := by decide +kernel
theorem dX7_told_18 : decode mX7_told.2.1 18 = .ok (.tableswitch 89 0 7 #[46, 51, 56, 61, 66, 71, 76, 84], 46) := by decide +kernel
theorem dX7_told_64 : decode mX7_told.2.1 64 = .ok (.aload_n 3, 1) := by decide +kernel
theorem dX7_told_65 : decode mX7_told.2.1 65 = .ok (.getfield 102, 3) := by decide +kernel
theorem dX7_told_68 : decode mX7_told.2.1 68 = .ok (.ireturn, 1) := by decide +kernel
theorem dX7_told_69 : decode mX7_told.2.1 69 = .ok (.aload_n 3, 1) := by decide +kernel
theorem dX7_told_70 : decode mX7_told.2.1 70 = .ok (.getfield 105, 3) := by decide +kernel
theorem dX7_told_73 : decode mX7_told.2.1 73 = .ok (.ireturn, 1) := by decide +kernel
theorem dX7_told_74 : decode mX7_told.2.1 74 = .ok (.aload_n 3, 1) := by decide +kernel
theorem dX7_told_75 : decode mX7_told.2.1 75 = .ok (.getfield 108, 3) := by decide +kernel
theorem dX7_told_78 : decode mX7_told.2.1 78 = .ok (.ireturn, 1) := by decide +kernel
theorem dX7_told_79 : decode mX7_told.2.1 79 = .ok (.aload_n 3, 1) := by decide +kernel
theorem dX7_told_80 : decode mX7_told.2.1 80 = .ok (.getfield 111, 3) := by decide +kernel
theorem dX7_told_83 : decode mX7_told.2.1 83 = .ok (.ireturn, 1) := by decide +kernel
theorem dX7_told_84 : decode mX7_told.2.1 84 = .ok (.aload_n 3, 1) := by decide +kernel
theorem dX7_told_85 : decode mX7_told.2.1 85 = .ok (.getfield 114, 3) := by decide +kernel
theorem dX7_told_88 : decode mX7_told.2.1 88 = .ok (.ireturn, 1) := by decide +kernel
theorem dX7_told_89 : decode mX7_told.2.1 89 = .ok (.aload_n 3, 1) := by decide +kernel
theorem dX7_told_90 : decode mX7_told.2.1 90 = .ok (.getfield 117, 3) := by decide +kernel
theorem dX7_told_93 : decode mX7_told.2.1 93 = .ok (.ireturn, 1) := by decide +kernel
theorem dX7_told_94 : decode mX7_told.2.1 94 = .ok (.aload_n 3, 1) := by decide +kernel
theorem dX7_told_95 : decode mX7_told.2.1 95 = .ok (.getfield 120, 3) := by decide +kernel
theorem dX7_told_98 : decode mX7_told.2.1 98 = .ok (.getfield 124, 3) := by decide +kernel
theorem dX7_told_101 : decode mX7_told.2.1 101 = .ok (.ireturn, 1) := by decide +kernel
theorem dX7_told_102 : decode mX7_told.2.1 102 = .ok (.aload_n 3, 1) := by decide +kernel
theorem dX7_told_103 : decode mX7_told.2.1 103 = .ok (.getfield 129, 3) := by decide +kernel
theorem dX7_told_106 : decode mX7_told.2.1 106 = .ok (.ireturn, 1) := by decide +kernel
theorem dX7_told_107 : decode mX7_told.2.1 107 = .ok (.iconst (-1), 1) := by decide +kernel
theorem dX7_told_108 : decode mX7_told.2.1 108 = .ok (.ireturn, 1) := by decide +kernel
theorem dX7_circleTold_0 : decode mX7_circleTold.2.1 0 = .ok (.aload_n 0, 1) := by decide +kernel
theorem dX7_circleTold_1 : decode mX7_circleTold.2.1 1 = .ok (.iload_n 1, 1) := by decide +kernel
theorem dX7_circleTold_2 : decode mX7_circleTold.2.1 2 = .ok (.invokevirtual 85, 3) := by decide +kernel
theorem dX7_circleTold_5 : decode mX7_circleTold.2.1 5 = .ok (.ifCond .ne 5, 3) := by decide +kernel
theorem dX7_circleTold_8 : decode mX7_circleTold.2.1 8 = .ok (.iconst (-1), 1) := by decide +kernel
theorem dX7_circleTold_9 : decode mX7_circleTold.2.1 9 = .ok (.ireturn, 1) := by decide +kernel
theorem dX7_circleTold_10 : decode mX7_circleTold.2.1 10 = .ok (.aload_n 0, 1) := by decide +kernel
theorem dX7_circleTold_11 : decode mX7_circleTold.2.1 11 = .ok (.getfield 17, 3) := by decide +kernel
theorem dX7_circleTold_14 : decode mX7_circleTold.2.1 14 = .ok (.iload_n 1, 1) := by decide +kernel
theorem dX7_circleTold_15 : decode mX7_circleTold.2.1 15 = .ok (.aaload, 1) := by decide +kernel
theorem dX7_circleTold_16 : decode mX7_circleTold.2.1 16 = .ok (.astore_n 3, 1) := by decide +kernel
theorem dX7_circleTold_17 : decode mX7_circleTold.2.1 17 = .ok (.iload_n 2, 1) := by decide +kernel
theorem dX7_circleTold_18 : decode mX7_circleTold.2.1 18 = .ok (.tableswitch 59 0 3 #[30, 35, 40, 45], 30) := by decide +kernel
theorem dX7_circleTold_48 : decode mX7_circleTold.2.1 48 = .ok (.aload_n 3, 1) := by decide +kernel
theorem dX7_circleTold_49 : decode mX7_circleTold.2.1 49 = .ok (.getfield 132, 3) := by decide +kernel
theorem dX7_circleTold_52 : decode mX7_circleTold.2.1 52 = .ok (.ireturn, 1) := by decide +kernel
theorem dX7_circleTold_53 : decode mX7_circleTold.2.1 53 = .ok (.aload_n 3, 1) := by decide +kernel
theorem dX7_circleTold_54 : decode mX7_circleTold.2.1 54 = .ok (.getfield 135, 3) := by decide +kernel
theorem dX7_circleTold_57 : decode mX7_circleTold.2.1 57 = .ok (.ireturn, 1) := by decide +kernel
theorem dX7_circleTold_58 : decode mX7_circleTold.2.1 58 = .ok (.aload_n 3, 1) := by decide +kernel
theorem dX7_circleTold_59 : decode mX7_circleTold.2.1 59 = .ok (.getfield 138, 3) := by decide +kernel
theorem dX7_circleTold_62 : decode mX7_circleTold.2.1 62 = .ok (.ireturn, 1) := by decide +kernel
theorem dX7_circleTold_63 : decode mX7_circleTold.2.1 63 = .ok (.aload_n 0, 1) := by decide +kernel
theorem dX7_circleTold_64 : decode mX7_circleTold.2.1 64 = .ok (.iload_n 1, 1) := by decide +kernel
theorem dX7_circleTold_65 : decode mX7_circleTold.2.1 65 = .ok (.invokevirtual 141, 3) := by decide +kernel
theorem dX7_circleTold_68 : decode mX7_circleTold.2.1 68 = .ok (.ifCond .eq 7, 3) := by decide +kernel
theorem dX7_circleTold_71 : decode mX7_circleTold.2.1 71 = .ok (.iconst 1, 1) := by decide +kernel
theorem dX7_circleTold_72 : decode mX7_circleTold.2.1 72 = .ok (.goto 4, 3) := by decide +kernel
theorem dX7_circleTold_75 : decode mX7_circleTold.2.1 75 = .ok (.iconst 0, 1) := by decide +kernel
theorem dX7_circleTold_76 : decode mX7_circleTold.2.1 76 = .ok (.ireturn, 1) := by decide +kernel
theorem dX7_circleTold_77 : decode mX7_circleTold.2.1 77 = .ok (.iconst (-1), 1) := by decide +kernel
theorem dX7_circleTold_78 : decode mX7_circleTold.2.1 78 = .ok (.ireturn, 1) := by decide +kernel
theorem dX7_state_0 : decode mX7_state.2.1 0 = .ok (.aload_n 0, 1) := by decide +kernel
theorem dX7_state_1 : decode mX7_state.2.1 1 = .ok (.iload_n 1, 1) := by decide +kernel
theorem dX7_state_2 : decode mX7_state.2.1 2 = .ok (.invokevirtual 75, 3) := by decide +kernel
theorem dX7_state_5 : decode mX7_state.2.1 5 = .ok (.ifCond .eq 11, 3) := by decide +kernel
theorem dX7_state_8 : decode mX7_state.2.1 8 = .ok (.aload_n 0, 1) := by decide +kernel
theorem dX7_state_9 : decode mX7_state.2.1 9 = .ok (.iload_n 2, 1) := by decide +kernel
theorem dX7_state_10 : decode mX7_state.2.1 10 = .ok (.invokevirtual 71, 3) := by decide +kernel
theorem dX7_state_13 : decode mX7_state.2.1 13 = .ok (.ifCond .ne 5, 3) := by decide +kernel
theorem dX7_state_16 : decode mX7_state.2.1 16 = .ok (.iconst (-1), 1) := by decide +kernel
theorem dX7_state_17 : decode mX7_state.2.1 17 = .ok (.ireturn, 1) := by decide +kernel
theorem dX7_state_18 : decode mX7_state.2.1 18 = .ok (.aload_n 0, 1) := by decide +kernel
theorem dX7_state_19 : decode mX7_state.2.1 19 = .ok (.iload_n 1, 1) := by decide +kernel
theorem dX7_state_20 : decode mX7_state.2.1 20 = .ok (.aload_n 0, 1) := by decide +kernel
theorem dX7_state_21 : decode mX7_state.2.1 21 = .ok (.getfield 23, 3) := by decide +kernel
theorem dX7_state_24 : decode mX7_state.2.1 24 = .ok (.iload_n 2, 1) := by decide +kernel
theorem dX7_state_25 : decode mX7_state.2.1 25 = .ok (.aaload, 1) := by decide +kernel
theorem dX7_state_26 : decode mX7_state.2.1 26 = .ok (.invokevirtual 144, 3) := by decide +kernel
theorem dX7_state_29 : decode mX7_state.2.1 29 = .ok (.ireturn, 1) := by decide +kernel
theorem dX7_given_0 : decode mX7_given.2.1 0 = .ok (.aload_n 0, 1) := by decide +kernel
theorem dX7_given_1 : decode mX7_given.2.1 1 = .ok (.iload_n 1, 1) := by decide +kernel
theorem dX7_given_2 : decode mX7_given.2.1 2 = .ok (.invokevirtual 75, 3) := by decide +kernel
theorem dX7_given_5 : decode mX7_given.2.1 5 = .ok (.ifCond .eq 19, 3) := by decide +kernel
theorem dX7_given_8 : decode mX7_given.2.1 8 = .ok (.aload_n 0, 1) := by decide +kernel
theorem dX7_given_9 : decode mX7_given.2.1 9 = .ok (.iload_n 2, 1) := by decide +kernel
theorem dX7_given_10 : decode mX7_given.2.1 10 = .ok (.invokevirtual 85, 3) := by decide +kernel
theorem dX7_given_13 : decode mX7_given.2.1 13 = .ok (.ifCond .eq 11, 3) := by decide +kernel
theorem dX7_given_16 : decode mX7_given.2.1 16 = .ok (.aload_n 0, 1) := by decide +kernel
theorem dX7_given_17 : decode mX7_given.2.1 17 = .ok (.iload_n 3, 1) := by decide +kernel
theorem dX7_given_18 : decode mX7_given.2.1 18 = .ok (.invokevirtual 75, 3) := by decide +kernel
theorem dX7_given_21 : decode mX7_given.2.1 21 = .ok (.ifCond .ne 5, 3) := by decide +kernel
theorem dX7_given_24 : decode mX7_given.2.1 24 = .ok (.iconst (-1), 1) := by decide +kernel
theorem dX7_given_25 : decode mX7_given.2.1 25 = .ok (.ireturn, 1) := by decide +kernel
theorem dX7_given_26 : decode mX7_given.2.1 26 = .ok (.aload_n 0, 1) := by decide +kernel
theorem dX7_given_27 : decode mX7_given.2.1 27 = .ok (.getfield 11, 3) := by decide +kernel
theorem dX7_given_30 : decode mX7_given.2.1 30 = .ok (.iload_n 1, 1) := by decide +kernel
theorem dX7_given_31 : decode mX7_given.2.1 31 = .ok (.aaload, 1) := by decide +kernel
theorem dX7_given_32 : decode mX7_given.2.1 32 = .ok (.getfield 148, 3) := by decide +kernel
theorem dX7_given_35 : decode mX7_given.2.1 35 = .ok (.iload_n 2, 1) := by decide +kernel
theorem dX7_given_36 : decode mX7_given.2.1 36 = .ok (.aaload, 1) := by decide +kernel
theorem dX7_given_37 : decode mX7_given.2.1 37 = .ok (.iload_n 3, 1) := by decide +kernel
theorem dX7_given_38 : decode mX7_given.2.1 38 = .ok (.iaload, 1) := by decide +kernel
theorem dX7_given_39 : decode mX7_given.2.1 39 = .ok (.ireturn, 1) := by decide +kernel
theorem dX7_read_0 : decode mX7_read.2.1 0 = .ok (.aload_n 0, 1) := by decide +kernel
theorem dX7_read_1 : decode mX7_read.2.1 1 = .ok (.iload_n 1, 1) := by decide +kernel
theorem dX7_read_2 : decode mX7_read.2.1 2 = .ok (.invokevirtual 75, 3) := by decide +kernel
theorem dX7_read_5 : decode mX7_read.2.1 5 = .ok (.ifCond .eq 20, 3) := by decide +kernel
theorem dX7_read_8 : decode mX7_read.2.1 8 = .ok (.iload_n 2, 1) := by decide +kernel
theorem dX7_read_9 : decode mX7_read.2.1 9 = .ok (.ifCond .lt 16, 3) := by decide +kernel
theorem dX7_read_12 : decode mX7_read.2.1 12 = .ok (.iload_n 2, 1) := by decide +kernel
theorem dX7_read_13 : decode mX7_read.2.1 13 = .ok (.aload_n 0, 1) := by decide +kernel
theorem dX7_read_14 : decode mX7_read.2.1 14 = .ok (.getfield 11, 3) := by decide +kernel
theorem dX7_read_17 : decode mX7_read.2.1 17 = .ok (.iload_n 1, 1) := by decide +kernel
theorem dX7_read_18 : decode mX7_read.2.1 18 = .ok (.aaload, 1) := by decide +kernel
theorem dX7_read_19 : decode mX7_read.2.1 19 = .ok (.getfield 152, 3) := by decide +kernel
theorem dX7_read_22 : decode mX7_read.2.1 22 = .ok (.if_icmp .lt 5, 3) := by decide +kernel
theorem dX7_read_25 : decode mX7_read.2.1 25 = .ok (.iconst (-1), 1) := by decide +kernel
theorem dX7_read_26 : decode mX7_read.2.1 26 = .ok (.ireturn, 1) := by decide +kernel
theorem dX7_read_27 : decode mX7_read.2.1 27 = .ok (.aload_n 0, 1) := by decide +kernel
theorem dX7_read_28 : decode mX7_read.2.1 28 = .ok (.getfield 11, 3) := by decide +kernel
theorem dX7_read_31 : decode mX7_read.2.1 31 = .ok (.iload_n 1, 1) := by decide +kernel
theorem dX7_read_32 : decode mX7_read.2.1 32 = .ok (.aaload, 1) := by decide +kernel
theorem dX7_read_33 : decode mX7_read.2.1 33 = .ok (.getfield 155, 3) := by decide +kernel
theorem dX7_read_36 : decode mX7_read.2.1 36 = .ok (.iload_n 2, 1) := by decide +kernel
theorem dX7_read_37 : decode mX7_read.2.1 37 = .ok (.iaload, 1) := by decide +kernel
theorem dX7_read_38 : decode mX7_read.2.1 38 = .ok (.ireturn, 1) := by decide +kernel
theorem dX7_why_0 : decode mX7_why.2.1 0 = .ok (.aload_n 0, 1) := by decide +kernel
theorem dX7_why_1 : decode mX7_why.2.1 1 = .ok (.iload_n 1, 1) := by decide +kernel
theorem dX7_why_2 : decode mX7_why.2.1 2 = .ok (.invokevirtual 75, 3) := by decide +kernel
theorem dX7_why_5 : decode mX7_why.2.1 5 = .ok (.ifCond .eq 20, 3) := by decide +kernel
theorem dX7_why_8 : decode mX7_why.2.1 8 = .ok (.aload_n 0, 1) := by decide +kernel
theorem dX7_why_9 : decode mX7_why.2.1 9 = .ok (.iload_n 2, 1) := by decide +kernel
theorem dX7_why_10 : decode mX7_why.2.1 10 = .ok (.invokevirtual 71, 3) := by decide +kernel
theorem dX7_why_13 : decode mX7_why.2.1 13 = .ok (.ifCond .eq 12, 3) := by decide +kernel
theorem dX7_why_16 : decode mX7_why.2.1 16 = .ok (.iload_n 3, 1) := by decide +kernel
theorem dX7_why_17 : decode mX7_why.2.1 17 = .ok (.ifCond .lt 8, 3) := by decide +kernel
theorem dX7_why_20 : decode mX7_why.2.1 20 = .ok (.iload_n 3, 1) := by decide +kernel
theorem dX7_why_21 : decode mX7_why.2.1 21 = .ok (.iconst 2, 1) := by decide +kernel
theorem dX7_why_22 : decode mX7_why.2.1 22 = .ok (.if_icmp .le 5, 3) := by decide +kernel
theorem dX7_why_25 : decode mX7_why.2.1 25 = .ok (.iconst (-1), 1) := by decide +kernel
theorem dX7_why_26 : decode mX7_why.2.1 26 = .ok (.ireturn, 1) := by decide +kernel
theorem dX7_why_27 : decode mX7_why.2.1 27 = .ok (.aload_n 0, 1) := by decide +kernel
theorem dX7_why_28 : decode mX7_why.2.1 28 = .ok (.getfield 23, 3) := by decide +kernel
theorem dX7_why_31 : decode mX7_why.2.1 31 = .ok (.iload_n 2, 1) := by decide +kernel
theorem dX7_why_32 : decode mX7_why.2.1 32 = .ok (.aaload, 1) := by decide +kernel
theorem dX7_why_33 : decode mX7_why.2.1 33 = .ok (.astore 4, 2) := by decide +kernel
theorem dX7_why_35 : decode mX7_why.2.1 35 = .ok (.aload_n 0, 1) := by decide +kernel
theorem dX7_why_36 : decode mX7_why.2.1 36 = .ok (.iload_n 1, 1) := by decide +kernel
theorem dX7_why_37 : decode mX7_why.2.1 37 = .ok (.aload 4, 2) := by decide +kernel
theorem dX7_why_39 : decode mX7_why.2.1 39 = .ok (.invokevirtual 144, 3) := by decide +kernel
theorem dX7_why_42 : decode mX7_why.2.1 42 = .ok (.iconst 2, 1) := by decide +kernel
theorem dX7_why_43 : decode mX7_why.2.1 43 = .ok (.if_icmp .eq 5, 3) := by decide +kernel
theorem dX7_why_46 : decode mX7_why.2.1 46 = .ok (.iconst (-1), 1) := by decide +kernel
theorem dX7_why_47 : decode mX7_why.2.1 47 = .ok (.ireturn, 1) := by decide +kernel
theorem dX7_why_48 : decode mX7_why.2.1 48 = .ok (.aload_n 0, 1) := by decide +kernel
theorem dX7_why_49 : decode mX7_why.2.1 49 = .ok (.iload_n 1, 1) := by decide +kernel
theorem dX7_why_50 : decode mX7_why.2.1 50 = .ok (.aload 4, 2) := by decide +kernel
theorem dX7_why_52 : decode mX7_why.2.1 52 = .ok (.invokevirtual 158, 3) := by decide +kernel
theorem dX7_why_55 : decode mX7_why.2.1 55 = .ok (.istore 5, 2) := by decide +kernel
theorem dX7_why_57 : decode mX7_why.2.1 57 = .ok (.iload 5, 2) := by decide +kernel
theorem dX7_why_59 : decode mX7_why.2.1 59 = .ok (.iconst (-1), 1) := by decide +kernel
theorem dX7_why_60 : decode mX7_why.2.1 60 = .ok (.if_icmp .ne 12, 3) := by decide +kernel
theorem dX7_why_63 : decode mX7_why.2.1 63 = .ok (.aload_n 0, 1) := by decide +kernel
theorem dX7_why_64 : decode mX7_why.2.1 64 = .ok (.iload_n 1, 1) := by decide +kernel
theorem dX7_why_65 : decode mX7_why.2.1 65 = .ok (.aload 4, 2) := by decide +kernel
theorem dX7_why_67 : decode mX7_why.2.1 67 = .ok (.iload_n 3, 1) := by decide +kernel
theorem dX7_why_68 : decode mX7_why.2.1 68 = .ok (.invokevirtual 161, 3) := by decide +kernel
theorem dX7_why_71 : decode mX7_why.2.1 71 = .ok (.ireturn, 1) := by decide +kernel
theorem dX7_why_72 : decode mX7_why.2.1 72 = .ok (.iload 5, 2) := by decide +kernel
theorem dX7_why_74 : decode mX7_why.2.1 74 = .ok (.bipush 8, 2) := by decide +kernel
theorem dX7_why_76 : decode mX7_why.2.1 76 = .ok (.idiv, 1) := by decide +kernel
theorem dX7_why_77 : decode mX7_why.2.1 77 = .ok (.istore 6, 2) := by decide +kernel
theorem dX7_why_79 : decode mX7_why.2.1 79 = .ok (.iload 5, 2) := by decide +kernel
theorem dX7_why_81 : decode mX7_why.2.1 81 = .ok (.bipush 8, 2) := by decide +kernel
theorem dX7_why_83 : decode mX7_why.2.1 83 = .ok (.irem, 1) := by decide +kernel
theorem dX7_why_84 : decode mX7_why.2.1 84 = .ok (.istore 7, 2) := by decide +kernel
theorem dX7_why_86 : decode mX7_why.2.1 86 = .ok (.iload_n 3, 1) := by decide +kernel
theorem dX7_why_87 : decode mX7_why.2.1 87 = .ok (.lookupswitch 31 #[(0, 25), (1, 28)], 25) := by decide +kernel
theorem dX7_why_112 : decode mX7_why.2.1 112 = .ok (.iload 6, 2) := by decide +kernel
theorem dX7_why_114 : decode mX7_why.2.1 114 = .ok (.ireturn, 1) := by decide +kernel
theorem dX7_why_115 : decode mX7_why.2.1 115 = .ok (.iload 7, 2) := by decide +kernel
theorem dX7_why_117 : decode mX7_why.2.1 117 = .ok (.ireturn, 1) := by decide +kernel
theorem dX7_why_118 : decode mX7_why.2.1 118 = .ok (.aload 4, 2) := by decide +kernel
theorem dX7_why_120 : decode mX7_why.2.1 120 = .ok (.iload 6, 2) := by decide +kernel
theorem dX7_why_122 : decode mX7_why.2.1 122 = .ok (.iload 7, 2) := by decide +kernel
theorem dX7_why_124 : decode mX7_why.2.1 124 = .ok (.invokevirtual 165, 3) := by decide +kernel
theorem dX7_why_127 : decode mX7_why.2.1 127 = .ok (.aload_n 0, 1) := by decide +kernel
theorem dX7_why_128 : decode mX7_why.2.1 128 = .ok (.getfield 11, 3) := by decide +kernel
theorem dX7_why_131 : decode mX7_why.2.1 131 = .ok (.iload_n 1, 1) := by decide +kernel
theorem dX7_why_132 : decode mX7_why.2.1 132 = .ok (.aaload, 1) := by decide +kernel
theorem dX7_why_133 : decode mX7_why.2.1 133 = .ok (.getfield 148, 3) := by decide +kernel
theorem dX7_why_136 : decode mX7_why.2.1 136 = .ok (.iload 6, 2) := by decide +kernel
theorem dX7_why_138 : decode mX7_why.2.1 138 = .ok (.aaload, 1) := by decide +kernel
theorem dX7_why_139 : decode mX7_why.2.1 139 = .ok (.iload 7, 2) := by decide +kernel
theorem dX7_why_141 : decode mX7_why.2.1 141 = .ok (.iaload, 1) := by decide +kernel
theorem dX7_why_142 : decode mX7_why.2.1 142 = .ok (.isub, 1) := by decide +kernel
theorem dX7_why_143 : decode mX7_why.2.1 143 = .ok (.ireturn, 1) := by decide +kernel
theorem dX7_late_0 : decode mX7_late.2.1 0 = .ok (.aload_n 0, 1) := by decide +kernel
theorem dX7_late_1 : decode mX7_late.2.1 1 = .ok (.iload_n 1, 1) := by decide +kernel
theorem dX7_late_2 : decode mX7_late.2.1 2 = .ok (.invokevirtual 75, 3) := by decide +kernel
theorem dX7_late_5 : decode mX7_late.2.1 5 = .ok (.ifCond .ne 5, 3) := by decide +kernel
theorem dX7_late_8 : decode mX7_late.2.1 8 = .ok (.iconst (-1), 1) := by decide +kernel
theorem dX7_late_9 : decode mX7_late.2.1 9 = .ok (.ireturn, 1) := by decide +kernel
theorem dX7_late_10 : decode mX7_late.2.1 10 = .ok (.iconst 0, 1) := by decide +kernel
theorem dX7_late_11 : decode mX7_late.2.1 11 = .ok (.istore_n 2, 1) := by decide +kernel
theorem dX7_late_12 : decode mX7_late.2.1 12 = .ok (.iconst 0, 1) := by decide +kernel
theorem dX7_late_13 : decode mX7_late.2.1 13 = .ok (.istore_n 3, 1) := by decide +kernel
theorem dX7_late_14 : decode mX7_late.2.1 14 = .ok (.iload_n 3, 1) := by decide +kernel
theorem dX7_late_15 : decode mX7_late.2.1 15 = .ok (.aload_n 0, 1) := by decide +kernel
theorem dX7_late_16 : decode mX7_late.2.1 16 = .ok (.getfield 95, 3) := by decide +kernel
theorem dX7_late_19 : decode mX7_late.2.1 19 = .ok (.if_icmp .ge 25, 3) := by decide +kernel
theorem dX7_late_22 : decode mX7_late.2.1 22 = .ok (.aload_n 0, 1) := by decide +kernel
theorem dX7_late_23 : decode mX7_late.2.1 23 = .ok (.getfield 23, 3) := by decide +kernel
theorem dX7_late_26 : decode mX7_late.2.1 26 = .ok (.iload_n 3, 1) := by decide +kernel
theorem dX7_late_27 : decode mX7_late.2.1 27 = .ok (.aaload, 1) := by decide +kernel
theorem dX7_late_28 : decode mX7_late.2.1 28 = .ok (.iload_n 1, 1) := by decide +kernel
theorem dX7_late_29 : decode mX7_late.2.1 29 = .ok (.invokevirtual 78, 3) := by decide +kernel
theorem dX7_late_32 : decode mX7_late.2.1 32 = .ok (.ifCond .eq 6, 3) := by decide +kernel
theorem dX7_late_35 : decode mX7_late.2.1 35 = .ok (.iinc 2 1, 3) := by decide +kernel
theorem dX7_late_38 : decode mX7_late.2.1 38 = .ok (.iinc 3 1, 3) := by decide +kernel
theorem dX7_late_41 : decode mX7_late.2.1 41 = .ok (.goto (-27), 3) := by decide +kernel
theorem dX7_late_44 : decode mX7_late.2.1 44 = .ok (.iload_n 2, 1) := by decide +kernel
theorem dX7_late_45 : decode mX7_late.2.1 45 = .ok (.ireturn, 1) := by decide +kernel
theorem dX7_behind_0 : decode mX7_behind.2.1 0 = .ok (.aload_n 0, 1) := by decide +kernel
theorem dX7_behind_1 : decode mX7_behind.2.1 1 = .ok (.iload_n 1, 1) := by decide +kernel
theorem dX7_behind_2 : decode mX7_behind.2.1 2 = .ok (.invokevirtual 71, 3) := by decide +kernel
theorem dX7_behind_5 : decode mX7_behind.2.1 5 = .ok (.ifCond .eq 11, 3) := by decide +kernel
theorem dX7_behind_8 : decode mX7_behind.2.1 8 = .ok (.aload_n 0, 1) := by decide +kernel
theorem dX7_behind_9 : decode mX7_behind.2.1 9 = .ok (.iload_n 2, 1) := by decide +kernel
theorem dX7_behind_10 : decode mX7_behind.2.1 10 = .ok (.invokevirtual 71, 3) := by decide +kernel
theorem dX7_behind_13 : decode mX7_behind.2.1 13 = .ok (.ifCond .ne 5, 3) := by decide +kernel
theorem dX7_behind_16 : decode mX7_behind.2.1 16 = .ok (.iconst (-1), 1) := by decide +kernel
theorem dX7_behind_17 : decode mX7_behind.2.1 17 = .ok (.ireturn, 1) := by decide +kernel
theorem dX7_behind_18 : decode mX7_behind.2.1 18 = .ok (.aload_n 0, 1) := by decide +kernel
theorem dX7_behind_19 : decode mX7_behind.2.1 19 = .ok (.getfield 23, 3) := by decide +kernel
theorem dX7_behind_22 : decode mX7_behind.2.1 22 = .ok (.iload_n 2, 1) := by decide +kernel
theorem dX7_behind_23 : decode mX7_behind.2.1 23 = .ok (.aaload, 1) := by decide +kernel
theorem dX7_behind_24 : decode mX7_behind.2.1 24 = .ok (.getfield 169, 3) := by decide +kernel
theorem dX7_behind_27 : decode mX7_behind.2.1 27 = .ok (.iload_n 1, 1) := by decide +kernel
theorem dX7_behind_28 : decode mX7_behind.2.1 28 = .ok (.invokevirtual 173, 3) := by decide +kernel
theorem dX7_behind_31 : decode mX7_behind.2.1 31 = .ok (.ifCond .eq 7, 3) := by decide +kernel
theorem dX7_behind_34 : decode mX7_behind.2.1 34 = .ok (.iconst 1, 1) := by decide +kernel
theorem dX7_behind_35 : decode mX7_behind.2.1 35 = .ok (.goto 4, 3) := by decide +kernel
theorem dX7_behind_38 : decode mX7_behind.2.1 38 = .ok (.iconst 0, 1) := by decide +kernel
theorem dX7_behind_39 : decode mX7_behind.2.1 39 = .ok (.ireturn, 1) := by decide +kernel
theorem dX7_past_0 : decode mX7_past.2.1 0 = .ok (.aload_n 0, 1) := by decide +kernel
theorem dX7_past_1 : decode mX7_past.2.1 1 = .ok (.iload_n 1, 1) := by decide +kernel
theorem dX7_past_2 : decode mX7_past.2.1 2 = .ok (.invokevirtual 71, 3) := by decide +kernel
theorem dX7_past_5 : decode mX7_past.2.1 5 = .ok (.ifCond .eq 18, 3) := by decide +kernel
theorem dX7_past_8 : decode mX7_past.2.1 8 = .ok (.aload_n 0, 1) := by decide +kernel
theorem dX7_past_9 : decode mX7_past.2.1 9 = .ok (.getfield 23, 3) := by decide +kernel
theorem dX7_past_12 : decode mX7_past.2.1 12 = .ok (.iload_n 1, 1) := by decide +kernel
theorem dX7_past_13 : decode mX7_past.2.1 13 = .ok (.aaload, 1) := by decide +kernel
theorem dX7_past_14 : decode mX7_past.2.1 14 = .ok (.getfield 169, 3) := by decide +kernel
theorem dX7_past_17 : decode mX7_past.2.1 17 = .ok (.invokevirtual 178, 3) := by decide +kernel
theorem dX7_past_20 : decode mX7_past.2.1 20 = .ok (.goto 4, 3) := by decide +kernel
theorem dX7_past_23 : decode mX7_past.2.1 23 = .ok (.iconst (-1), 1) := by decide +kernel
theorem dX7_past_24 : decode mX7_past.2.1 24 = .ok (.ireturn, 1) := by decide +kernel
theorem dX7_chain_0 : decode mX7_chain.2.1 0 = .ok (.aload_n 0, 1) := by decide +kernel
theorem dX7_chain_1 : decode mX7_chain.2.1 1 = .ok (.iload_n 1, 1) := by decide +kernel
theorem dX7_chain_2 : decode mX7_chain.2.1 2 = .ok (.invokevirtual 71, 3) := by decide +kernel
theorem dX7_chain_5 : decode mX7_chain.2.1 5 = .ok (.ifCond .eq 11, 3) := by decide +kernel
theorem dX7_chain_8 : decode mX7_chain.2.1 8 = .ok (.aload_n 0, 1) := by decide +kernel
theorem dX7_chain_9 : decode mX7_chain.2.1 9 = .ok (.iload_n 2, 1) := by decide +kernel
theorem dX7_chain_10 : decode mX7_chain.2.1 10 = .ok (.invokevirtual 71, 3) := by decide +kernel
theorem dX7_chain_13 : decode mX7_chain.2.1 13 = .ok (.ifCond .ne 5, 3) := by decide +kernel
theorem dX7_chain_16 : decode mX7_chain.2.1 16 = .ok (.iconst (-1), 1) := by decide +kernel
theorem dX7_chain_17 : decode mX7_chain.2.1 17 = .ok (.ireturn, 1) := by decide +kernel
theorem dX7_chain_18 : decode mX7_chain.2.1 18 = .ok (.aload_n 0, 1) := by decide +kernel
theorem dX7_chain_19 : decode mX7_chain.2.1 19 = .ok (.getfield 23, 3) := by decide +kernel
theorem dX7_chain_22 : decode mX7_chain.2.1 22 = .ok (.iload_n 2, 1) := by decide +kernel
theorem dX7_chain_23 : decode mX7_chain.2.1 23 = .ok (.aaload, 1) := by decide +kernel
theorem dX7_chain_24 : decode mX7_chain.2.1 24 = .ok (.getfield 169, 3) := by decide +kernel
theorem dX7_chain_27 : decode mX7_chain.2.1 27 = .ok (.iload_n 1, 1) := by decide +kernel
theorem dX7_chain_28 : decode mX7_chain.2.1 28 = .ok (.invokevirtual 173, 3) := by decide +kernel
theorem dX7_chain_31 : decode mX7_chain.2.1 31 = .ok (.ifCond .ne 5, 3) := by decide +kernel
theorem dX7_chain_34 : decode mX7_chain.2.1 34 = .ok (.iconst 0, 1) := by decide +kernel
theorem dX7_chain_35 : decode mX7_chain.2.1 35 = .ok (.ireturn, 1) := by decide +kernel
theorem dX7_chain_36 : decode mX7_chain.2.1 36 = .ok (.aload_n 0, 1) := by decide +kernel
theorem dX7_chain_37 : decode mX7_chain.2.1 37 = .ok (.getfield 27, 3) := by decide +kernel
theorem dX7_chain_40 : decode mX7_chain.2.1 40 = .ok (.iload_n 1, 1) := by decide +kernel
theorem dX7_chain_41 : decode mX7_chain.2.1 41 = .ok (.iconst 1, 1) := by decide +kernel
theorem dX7_chain_42 : decode mX7_chain.2.1 42 = .ok (.iastore, 1) := by decide +kernel
theorem dX7_chain_43 : decode mX7_chain.2.1 43 = .ok (.iload_n 1, 1) := by decide +kernel
theorem dX7_chain_44 : decode mX7_chain.2.1 44 = .ok (.iconst 1, 1) := by decide +kernel
theorem dX7_chain_45 : decode mX7_chain.2.1 45 = .ok (.iadd, 1) := by decide +kernel
theorem dX7_chain_46 : decode mX7_chain.2.1 46 = .ok (.istore_n 3, 1) := by decide +kernel
theorem dX7_chain_47 : decode mX7_chain.2.1 47 = .ok (.iload_n 3, 1) := by decide +kernel
theorem dX7_chain_48 : decode mX7_chain.2.1 48 = .ok (.iload_n 2, 1) := by decide +kernel
theorem dX7_chain_49 : decode mX7_chain.2.1 49 = .ok (.if_icmp .gt 21, 3) := by decide +kernel
theorem dX7_chain_52 : decode mX7_chain.2.1 52 = .ok (.aload_n 0, 1) := by decide +kernel
theorem dX7_chain_53 : decode mX7_chain.2.1 53 = .ok (.getfield 27, 3) := by decide +kernel
theorem dX7_chain_56 : decode mX7_chain.2.1 56 = .ok (.iload_n 3, 1) := by decide +kernel
theorem dX7_chain_57 : decode mX7_chain.2.1 57 = .ok (.aload_n 0, 1) := by decide +kernel
theorem dX7_chain_58 : decode mX7_chain.2.1 58 = .ok (.iload_n 3, 1) := by decide +kernel
theorem dX7_chain_59 : decode mX7_chain.2.1 59 = .ok (.iload_n 1, 1) := by decide +kernel
theorem dX7_chain_60 : decode mX7_chain.2.1 60 = .ok (.invokevirtual 181, 3) := by decide +kernel
theorem dX7_chain_63 : decode mX7_chain.2.1 63 = .ok (.iastore, 1) := by decide +kernel
theorem dX7_chain_64 : decode mX7_chain.2.1 64 = .ok (.iinc 3 1, 3) := by decide +kernel
theorem dX7_chain_67 : decode mX7_chain.2.1 67 = .ok (.goto (-20), 3) := by decide +kernel
theorem dX7_chain_70 : decode mX7_chain.2.1 70 = .ok (.aload_n 0, 1) := by decide +kernel
theorem dX7_chain_71 : decode mX7_chain.2.1 71 = .ok (.getfield 27, 3) := by decide +kernel
theorem dX7_chain_74 : decode mX7_chain.2.1 74 = .ok (.iload_n 2, 1) := by decide +kernel
theorem dX7_chain_75 : decode mX7_chain.2.1 75 = .ok (.iaload, 1) := by decide +kernel
theorem dX7_chain_76 : decode mX7_chain.2.1 76 = .ok (.ireturn, 1) := by decide +kernel
theorem dX7_act_0 : decode mX7_act.2.1 0 = .ok (.aload_n 0, 1) := by decide +kernel
theorem dX7_act_1 : decode mX7_act.2.1 1 = .ok (.iload_n 1, 1) := by decide +kernel
theorem dX7_act_2 : decode mX7_act.2.1 2 = .ok (.invokevirtual 71, 3) := by decide +kernel
theorem dX7_act_5 : decode mX7_act.2.1 5 = .ok (.ifCond .eq 12, 3) := by decide +kernel
theorem dX7_act_8 : decode mX7_act.2.1 8 = .ok (.iload_n 2, 1) := by decide +kernel
theorem dX7_act_9 : decode mX7_act.2.1 9 = .ok (.ifCond .lt 8, 3) := by decide +kernel
theorem dX7_act_12 : decode mX7_act.2.1 12 = .ok (.iload_n 2, 1) := by decide +kernel
theorem dX7_act_13 : decode mX7_act.2.1 13 = .ok (.iconst 4, 1) := by decide +kernel
theorem dX7_act_14 : decode mX7_act.2.1 14 = .ok (.if_icmp .lt 9, 3) := by decide +kernel
theorem dX7_act_17 : decode mX7_act.2.1 17 = .ok (.aload_n 0, 1) := by decide +kernel
theorem dX7_act_18 : decode mX7_act.2.1 18 = .ok (.iconst 1, 1) := by decide +kernel
theorem dX7_act_19 : decode mX7_act.2.1 19 = .ok (.invokevirtual 45, 3) := by decide +kernel
theorem dX7_act_22 : decode mX7_act.2.1 22 = .ok (.ireturn, 1) := by decide +kernel
theorem dX7_act_23 : decode mX7_act.2.1 23 = .ok (.aload_n 0, 1) := by decide +kernel
theorem dX7_act_24 : decode mX7_act.2.1 24 = .ok (.getfield 34, 3) := by decide +kernel
theorem dX7_act_27 : decode mX7_act.2.1 27 = .ok (.invokevirtual 184, 3) := by decide +kernel
theorem dX7_act_30 : decode mX7_act.2.1 30 = .ok (.aload_n 0, 1) := by decide +kernel
theorem dX7_act_31 : decode mX7_act.2.1 31 = .ok (.aload_n 0, 1) := by decide +kernel
theorem dX7_act_32 : decode mX7_act.2.1 32 = .ok (.getfield 23, 3) := by decide +kernel
theorem dX7_act_35 : decode mX7_act.2.1 35 = .ok (.iload_n 1, 1) := by decide +kernel
theorem dX7_act_36 : decode mX7_act.2.1 36 = .ok (.aaload, 1) := by decide +kernel
theorem dX7_act_37 : decode mX7_act.2.1 37 = .ok (.aload_n 0, 1) := by decide +kernel
theorem dX7_act_38 : decode mX7_act.2.1 38 = .ok (.getfield 34, 3) := by decide +kernel
theorem dX7_act_41 : decode mX7_act.2.1 41 = .ok (.aload_n 0, 1) := by decide +kernel
theorem dX7_act_42 : decode mX7_act.2.1 42 = .ok (.getfield 23, 3) := by decide +kernel
theorem dX7_act_45 : decode mX7_act.2.1 45 = .ok (.iload_n 1, 1) := by decide +kernel
theorem dX7_act_46 : decode mX7_act.2.1 46 = .ok (.aaload, 1) := by decide +kernel
theorem dX7_act_47 : decode mX7_act.2.1 47 = .ok (.getfield 102, 3) := by decide +kernel
theorem dX7_act_50 : decode mX7_act.2.1 50 = .ok (.iload_n 2, 1) := by decide +kernel
theorem dX7_act_51 : decode mX7_act.2.1 51 = .ok (.iload_n 3, 1) := by decide +kernel
theorem dX7_act_52 : decode mX7_act.2.1 52 = .ok (.iconst 0, 1) := by decide +kernel
theorem dX7_act_53 : decode mX7_act.2.1 53 = .ok (.invokestatic 187, 3) := by decide +kernel
theorem dX7_act_56 : decode mX7_act.2.1 56 = .ok (.invokevirtual 50, 3) := by decide +kernel
theorem dX7_act_59 : decode mX7_act.2.1 59 = .ok (.ireturn, 1) := by decide +kernel
theorem dX7_trace_0 : decode mX7_trace.2.1 0 = .ok (.aload_n 0, 1) := by decide +kernel
theorem dX7_trace_1 : decode mX7_trace.2.1 1 = .ok (.getfield 34, 3) := by decide +kernel
theorem dX7_trace_4 : decode mX7_trace.2.1 4 = .ok (.iload_n 1, 1) := by decide +kernel
theorem dX7_trace_5 : decode mX7_trace.2.1 5 = .ok (.invokevirtual 191, 3) := by decide +kernel
theorem dX7_trace_8 : decode mX7_trace.2.1 8 = .ok (.ireturn, 1) := by decide +kernel
theorem dX7_bare_0 : decode mX7_bare.2.1 0 = .ok (.aload_n 0, 1) := by decide +kernel
theorem dX7_bare_1 : decode mX7_bare.2.1 1 = .ok (.iload_n 1, 1) := by decide +kernel
theorem dX7_bare_2 : decode mX7_bare.2.1 2 = .ok (.invokevirtual 75, 3) := by decide +kernel
theorem dX7_bare_5 : decode mX7_bare.2.1 5 = .ok (.ifCond .eq 18, 3) := by decide +kernel
theorem dX7_bare_8 : decode mX7_bare.2.1 8 = .ok (.iload_n 2, 1) := by decide +kernel
theorem dX7_bare_9 : decode mX7_bare.2.1 9 = .ok (.invokestatic 194, 3) := by decide +kernel
theorem dX7_bare_12 : decode mX7_bare.2.1 12 = .ok (.ifCond .eq 11, 3) := by decide +kernel
theorem dX7_bare_15 : decode mX7_bare.2.1 15 = .ok (.aload_n 0, 1) := by decide +kernel
theorem dX7_bare_16 : decode mX7_bare.2.1 16 = .ok (.iload_n 3, 1) := by decide +kernel
theorem dX7_bare_17 : decode mX7_bare.2.1 17 = .ok (.invokevirtual 71, 3) := by decide +kernel
theorem dX7_bare_20 : decode mX7_bare.2.1 20 = .ok (.ifCond .ne 9, 3) := by decide +kernel
theorem dX7_bare_23 : decode mX7_bare.2.1 23 = .ok (.aload_n 0, 1) := by decide +kernel
theorem dX7_bare_24 : decode mX7_bare.2.1 24 = .ok (.iconst 1, 1) := by decide +kernel
theorem dX7_bare_25 : decode mX7_bare.2.1 25 = .ok (.invokevirtual 45, 3) := by decide +kernel
theorem dX7_bare_28 : decode mX7_bare.2.1 28 = .ok (.ireturn, 1) := by decide +kernel
theorem dX7_bare_29 : decode mX7_bare.2.1 29 = .ok (.aload_n 0, 1) := by decide +kernel
theorem dX7_bare_30 : decode mX7_bare.2.1 30 = .ok (.getfield 11, 3) := by decide +kernel
theorem dX7_bare_33 : decode mX7_bare.2.1 33 = .ok (.iload_n 1, 1) := by decide +kernel
theorem dX7_bare_34 : decode mX7_bare.2.1 34 = .ok (.aaload, 1) := by decide +kernel
theorem dX7_bare_35 : decode mX7_bare.2.1 35 = .ok (.getfield 197, 3) := by decide +kernel
theorem dX7_bare_38 : decode mX7_bare.2.1 38 = .ok (.iload_n 2, 1) := by decide +kernel
theorem dX7_bare_39 : decode mX7_bare.2.1 39 = .ok (.aaload, 1) := by decide +kernel
theorem dX7_bare_40 : decode mX7_bare.2.1 40 = .ok (.ifnull 9, 3) := by decide +kernel
theorem dX7_bare_43 : decode mX7_bare.2.1 43 = .ok (.aload_n 0, 1) := by decide +kernel
theorem dX7_bare_44 : decode mX7_bare.2.1 44 = .ok (.iconst 3, 1) := by decide +kernel
theorem dX7_bare_45 : decode mX7_bare.2.1 45 = .ok (.invokevirtual 45, 3) := by decide +kernel
theorem dX7_bare_48 : decode mX7_bare.2.1 48 = .ok (.ireturn, 1) := by decide +kernel
theorem dX7_bare_49 : decode mX7_bare.2.1 49 = .ok (.aload_n 0, 1) := by decide +kernel
theorem dX7_bare_50 : decode mX7_bare.2.1 50 = .ok (.getfield 11, 3) := by decide +kernel
theorem dX7_bare_53 : decode mX7_bare.2.1 53 = .ok (.iload_n 1, 1) := by decide +kernel
theorem dX7_bare_54 : decode mX7_bare.2.1 54 = .ok (.aaload, 1) := by decide +kernel
theorem dX7_bare_55 : decode mX7_bare.2.1 55 = .ok (.getfield 197, 3) := by decide +kernel
theorem dX7_bare_58 : decode mX7_bare.2.1 58 = .ok (.iload_n 2, 1) := by decide +kernel
theorem dX7_bare_59 : decode mX7_bare.2.1 59 = .ok (.aload_n 0, 1) := by decide +kernel
theorem dX7_bare_60 : decode mX7_bare.2.1 60 = .ok (.getfield 23, 3) := by decide +kernel
theorem dX7_bare_63 : decode mX7_bare.2.1 63 = .ok (.iload_n 3, 1) := by decide +kernel
theorem dX7_bare_64 : decode mX7_bare.2.1 64 = .ok (.aaload, 1) := by decide +kernel
theorem dX7_bare_65 : decode mX7_bare.2.1 65 = .ok (.getfield 120, 3) := by decide +kernel
theorem dX7_bare_68 : decode mX7_bare.2.1 68 = .ok (.aastore, 1) := by decide +kernel
theorem dX7_bare_69 : decode mX7_bare.2.1 69 = .ok (.aload_n 0, 1) := by decide +kernel
theorem dX7_bare_70 : decode mX7_bare.2.1 70 = .ok (.iconst 1, 1) := by decide +kernel
theorem dX7_bare_71 : decode mX7_bare.2.1 71 = .ok (.invokevirtual 50, 3) := by decide +kernel
theorem dX7_bare_74 : decode mX7_bare.2.1 74 = .ok (.ireturn, 1) := by decide +kernel
theorem dX7_slot_0 : decode mX7_slot.2.1 0 = .ok (.aload_n 0, 1) := by decide +kernel
theorem dX7_slot_1 : decode mX7_slot.2.1 1 = .ok (.iload_n 1, 1) := by decide +kernel
theorem dX7_slot_2 : decode mX7_slot.2.1 2 = .ok (.invokevirtual 75, 3) := by decide +kernel
theorem dX7_slot_5 : decode mX7_slot.2.1 5 = .ok (.ifCond .eq 10, 3) := by decide +kernel
theorem dX7_slot_8 : decode mX7_slot.2.1 8 = .ok (.iload_n 2, 1) := by decide +kernel
theorem dX7_slot_9 : decode mX7_slot.2.1 9 = .ok (.invokestatic 194, 3) := by decide +kernel
theorem dX7_slot_12 : decode mX7_slot.2.1 12 = .ok (.ifCond .ne 5, 3) := by decide +kernel
theorem dX7_slot_15 : decode mX7_slot.2.1 15 = .ok (.iconst (-1), 1) := by decide +kernel
theorem dX7_slot_16 : decode mX7_slot.2.1 16 = .ok (.ireturn, 1) := by decide +kernel
theorem dX7_slot_17 : decode mX7_slot.2.1 17 = .ok (.aload_n 0, 1) := by decide +kernel
theorem dX7_slot_18 : decode mX7_slot.2.1 18 = .ok (.getfield 11, 3) := by decide +kernel
theorem dX7_slot_21 : decode mX7_slot.2.1 21 = .ok (.iload_n 1, 1) := by decide +kernel
theorem dX7_slot_22 : decode mX7_slot.2.1 22 = .ok (.aaload, 1) := by decide +kernel
theorem dX7_slot_23 : decode mX7_slot.2.1 23 = .ok (.getfield 197, 3) := by decide +kernel
theorem dX7_slot_26 : decode mX7_slot.2.1 26 = .ok (.iload_n 2, 1) := by decide +kernel
theorem dX7_slot_27 : decode mX7_slot.2.1 27 = .ok (.aaload, 1) := by decide +kernel
theorem dX7_slot_28 : decode mX7_slot.2.1 28 = .ok (.astore_n 3, 1) := by decide +kernel
theorem dX7_slot_29 : decode mX7_slot.2.1 29 = .ok (.aload_n 3, 1) := by decide +kernel
theorem dX7_slot_30 : decode mX7_slot.2.1 30 = .ok (.instanceof 21, 3) := by decide +kernel
theorem dX7_slot_33 : decode mX7_slot.2.1 33 = .ok (.ifCond .eq 17, 3) := by decide +kernel
theorem dX7_slot_36 : decode mX7_slot.2.1 36 = .ok (.aload_n 3, 1) := by decide +kernel
theorem dX7_slot_37 : decode mX7_slot.2.1 37 = .ok (.checkcast 21, 3) := by decide +kernel
theorem dX7_slot_40 : decode mX7_slot.2.1 40 = .ok (.astore 4, 2) := by decide +kernel
theorem dX7_slot_42 : decode mX7_slot.2.1 42 = .ok (.iconst 2, 1) := by decide +kernel
theorem dX7_slot_43 : decode mX7_slot.2.1 43 = .ok (.aload 4, 2) := by decide +kernel
theorem dX7_slot_45 : decode mX7_slot.2.1 45 = .ok (.getfield 102, 3) := by decide +kernel
theorem dX7_slot_48 : decode mX7_slot.2.1 48 = .ok (.iadd, 1) := by decide +kernel
theorem dX7_slot_49 : decode mX7_slot.2.1 49 = .ok (.ireturn, 1) := by decide +kernel
theorem dX7_slot_50 : decode mX7_slot.2.1 50 = .ok (.aload_n 3, 1) := by decide +kernel
theorem dX7_slot_51 : decode mX7_slot.2.1 51 = .ok (.ifnonnull 7, 3) := by decide +kernel
theorem dX7_slot_54 : decode mX7_slot.2.1 54 = .ok (.iconst 0, 1) := by decide +kernel
theorem dX7_slot_55 : decode mX7_slot.2.1 55 = .ok (.goto 4, 3) := by decide +kernel
theorem dX7_slot_58 : decode mX7_slot.2.1 58 = .ok (.iconst 1, 1) := by decide +kernel
theorem dX7_slot_59 : decode mX7_slot.2.1 59 = .ok (.ireturn, 1) := by decide +kernel
theorem dX7_forge_0 : decode mX7_forge.2.1 0 = .ok (.aload_n 0, 1) := by decide +kernel
theorem dX7_forge_1 : decode mX7_forge.2.1 1 = .ok (.iload_n 1, 1) := by decide +kernel
theorem dX7_forge_2 : decode mX7_forge.2.1 2 = .ok (.invokevirtual 75, 3) := by decide +kernel
theorem dX7_forge_5 : decode mX7_forge.2.1 5 = .ok (.ifCond .eq 24, 3) := by decide +kernel
theorem dX7_forge_8 : decode mX7_forge.2.1 8 = .ok (.iload_n 2, 1) := by decide +kernel
theorem dX7_forge_9 : decode mX7_forge.2.1 9 = .ok (.invokestatic 194, 3) := by decide +kernel
theorem dX7_forge_12 : decode mX7_forge.2.1 12 = .ok (.ifCond .eq 17, 3) := by decide +kernel
theorem dX7_forge_15 : decode mX7_forge.2.1 15 = .ok (.iload 4, 2) := by decide +kernel
theorem dX7_forge_17 : decode mX7_forge.2.1 17 = .ok (.bipush (-100), 2) := by decide +kernel
theorem dX7_forge_19 : decode mX7_forge.2.1 19 = .ok (.if_icmp .lt 10, 3) := by decide +kernel
theorem dX7_forge_22 : decode mX7_forge.2.1 22 = .ok (.iload 4, 2) := by decide +kernel
theorem dX7_forge_24 : decode mX7_forge.2.1 24 = .ok (.bipush 100, 2) := by decide +kernel
theorem dX7_forge_26 : decode mX7_forge.2.1 26 = .ok (.if_icmp .le 9, 3) := by decide +kernel
theorem dX7_forge_29 : decode mX7_forge.2.1 29 = .ok (.aload_n 0, 1) := by decide +kernel
theorem dX7_forge_30 : decode mX7_forge.2.1 30 = .ok (.iconst 1, 1) := by decide +kernel
theorem dX7_forge_31 : decode mX7_forge.2.1 31 = .ok (.invokevirtual 45, 3) := by decide +kernel
theorem dX7_forge_34 : decode mX7_forge.2.1 34 = .ok (.ireturn, 1) := by decide +kernel
theorem dX7_forge_35 : decode mX7_forge.2.1 35 = .ok (.aload_n 0, 1) := by decide +kernel
theorem dX7_forge_36 : decode mX7_forge.2.1 36 = .ok (.getfield 11, 3) := by decide +kernel
theorem dX7_forge_39 : decode mX7_forge.2.1 39 = .ok (.iload_n 1, 1) := by decide +kernel
theorem dX7_forge_40 : decode mX7_forge.2.1 40 = .ok (.aaload, 1) := by decide +kernel
theorem dX7_forge_41 : decode mX7_forge.2.1 41 = .ok (.getfield 197, 3) := by decide +kernel
theorem dX7_forge_44 : decode mX7_forge.2.1 44 = .ok (.iload_n 2, 1) := by decide +kernel
theorem dX7_forge_45 : decode mX7_forge.2.1 45 = .ok (.aaload, 1) := by decide +kernel
theorem dX7_forge_46 : decode mX7_forge.2.1 46 = .ok (.astore 5, 2) := by decide +kernel
theorem dX7_forge_48 : decode mX7_forge.2.1 48 = .ok (.iload_n 3, 1) := by decide +kernel
theorem dX7_forge_49 : decode mX7_forge.2.1 49 = .ok (.tableswitch 157 0 7 #[47, 56, 65, 74, 95, 104, 111, 135], 47) := by decide +kernel
theorem dX7_forge_96 : decode mX7_forge.2.1 96 = .ok (.aload_n 0, 1) := by decide +kernel
theorem dX7_forge_97 : decode mX7_forge.2.1 97 = .ok (.aload 5, 2) := by decide +kernel
theorem dX7_forge_99 : decode mX7_forge.2.1 99 = .ok (.iload 4, 2) := by decide +kernel
theorem dX7_forge_101 : decode mX7_forge.2.1 101 = .ok (.invokevirtual 201, 3) := by decide +kernel
theorem dX7_forge_104 : decode mX7_forge.2.1 104 = .ok (.ireturn, 1) := by decide +kernel
theorem dX7_forge_105 : decode mX7_forge.2.1 105 = .ok (.aload_n 0, 1) := by decide +kernel
theorem dX7_forge_106 : decode mX7_forge.2.1 106 = .ok (.aload 5, 2) := by decide +kernel
theorem dX7_forge_108 : decode mX7_forge.2.1 108 = .ok (.iload 4, 2) := by decide +kernel
theorem dX7_forge_110 : decode mX7_forge.2.1 110 = .ok (.invokevirtual 205, 3) := by decide +kernel
theorem dX7_forge_113 : decode mX7_forge.2.1 113 = .ok (.ireturn, 1) := by decide +kernel
theorem dX7_forge_114 : decode mX7_forge.2.1 114 = .ok (.aload_n 0, 1) := by decide +kernel
theorem dX7_forge_115 : decode mX7_forge.2.1 115 = .ok (.aload 5, 2) := by decide +kernel
theorem dX7_forge_117 : decode mX7_forge.2.1 117 = .ok (.iload 4, 2) := by decide +kernel
theorem dX7_forge_119 : decode mX7_forge.2.1 119 = .ok (.invokevirtual 208, 3) := by decide +kernel
theorem dX7_forge_122 : decode mX7_forge.2.1 122 = .ok (.ireturn, 1) := by decide +kernel
theorem dX7_forge_123 : decode mX7_forge.2.1 123 = .ok (.iload 4, 2) := by decide +kernel
theorem dX7_forge_125 : decode mX7_forge.2.1 125 = .ok (.ifCond .ge 12, 3) := by decide +kernel
theorem dX7_forge_128 : decode mX7_forge.2.1 128 = .ok (.aload_n 0, 1) := by decide +kernel
theorem dX7_forge_129 : decode mX7_forge.2.1 129 = .ok (.bipush 13, 2) := by decide +kernel
theorem dX7_forge_131 : decode mX7_forge.2.1 131 = .ok (.invokevirtual 45, 3) := by decide +kernel
theorem dX7_forge_134 : decode mX7_forge.2.1 134 = .ok (.goto 9, 3) := by decide +kernel
theorem dX7_forge_137 : decode mX7_forge.2.1 137 = .ok (.aload_n 0, 1) := by decide +kernel
theorem dX7_forge_138 : decode mX7_forge.2.1 138 = .ok (.iload 4, 2) := by decide +kernel
theorem dX7_forge_140 : decode mX7_forge.2.1 140 = .ok (.invokevirtual 50, 3) := by decide +kernel
theorem dX7_forge_143 : decode mX7_forge.2.1 143 = .ok (.ireturn, 1) := by decide +kernel
theorem dX7_forge_144 : decode mX7_forge.2.1 144 = .ok (.aload_n 0, 1) := by decide +kernel
theorem dX7_forge_145 : decode mX7_forge.2.1 145 = .ok (.aload 5, 2) := by decide +kernel
theorem dX7_forge_147 : decode mX7_forge.2.1 147 = .ok (.iload 4, 2) := by decide +kernel
theorem dX7_forge_149 : decode mX7_forge.2.1 149 = .ok (.invokevirtual 211, 3) := by decide +kernel
theorem dX7_forge_152 : decode mX7_forge.2.1 152 = .ok (.ireturn, 1) := by decide +kernel
theorem dX7_forge_153 : decode mX7_forge.2.1 153 = .ok (.aload_n 0, 1) := by decide +kernel
theorem dX7_forge_154 : decode mX7_forge.2.1 154 = .ok (.aload 5, 2) := by decide +kernel
theorem dX7_forge_156 : decode mX7_forge.2.1 156 = .ok (.invokevirtual 214, 3) := by decide +kernel
theorem dX7_forge_159 : decode mX7_forge.2.1 159 = .ok (.ireturn, 1) := by decide +kernel
theorem dX7_forge_160 : decode mX7_forge.2.1 160 = .ok (.iload 4, 2) := by decide +kernel
theorem dX7_forge_162 : decode mX7_forge.2.1 162 = .ok (.ifCond .ne 12, 3) := by decide +kernel
theorem dX7_forge_165 : decode mX7_forge.2.1 165 = .ok (.aload_n 0, 1) := by decide +kernel
theorem dX7_forge_166 : decode mX7_forge.2.1 166 = .ok (.bipush 15, 2) := by decide +kernel
theorem dX7_forge_168 : decode mX7_forge.2.1 168 = .ok (.invokevirtual 45, 3) := by decide +kernel
theorem dX7_forge_171 : decode mX7_forge.2.1 171 = .ok (.goto 12, 3) := by decide +kernel
theorem dX7_forge_174 : decode mX7_forge.2.1 174 = .ok (.aload_n 0, 1) := by decide +kernel
theorem dX7_forge_175 : decode mX7_forge.2.1 175 = .ok (.bipush 100, 2) := by decide +kernel
theorem dX7_forge_177 : decode mX7_forge.2.1 177 = .ok (.iload 4, 2) := by decide +kernel
theorem dX7_forge_179 : decode mX7_forge.2.1 179 = .ok (.idiv, 1) := by decide +kernel
theorem dX7_forge_180 : decode mX7_forge.2.1 180 = .ok (.invokevirtual 50, 3) := by decide +kernel
theorem dX7_forge_183 : decode mX7_forge.2.1 183 = .ok (.ireturn, 1) := by decide +kernel
theorem dX7_forge_184 : decode mX7_forge.2.1 184 = .ok (.iload 4, 2) := by decide +kernel
theorem dX7_forge_186 : decode mX7_forge.2.1 186 = .ok (.iconst 1, 1) := by decide +kernel
theorem dX7_forge_187 : decode mX7_forge.2.1 187 = .ok (.iand, 1) := by decide +kernel
theorem dX7_forge_188 : decode mX7_forge.2.1 188 = .ok (.ifCond .ne 12, 3) := by decide +kernel
theorem dX7_forge_191 : decode mX7_forge.2.1 191 = .ok (.aload_n 0, 1) := by decide +kernel
theorem dX7_forge_192 : decode mX7_forge.2.1 192 = .ok (.bipush 10, 2) := by decide +kernel
theorem dX7_forge_194 : decode mX7_forge.2.1 194 = .ok (.invokevirtual 45, 3) := by decide +kernel
theorem dX7_forge_197 : decode mX7_forge.2.1 197 = .ok (.goto 8, 3) := by decide +kernel
theorem dX7_forge_200 : decode mX7_forge.2.1 200 = .ok (.aload_n 0, 1) := by decide +kernel
theorem dX7_forge_201 : decode mX7_forge.2.1 201 = .ok (.iconst 1, 1) := by decide +kernel
theorem dX7_forge_202 : decode mX7_forge.2.1 202 = .ok (.invokevirtual 50, 3) := by decide +kernel
theorem dX7_forge_205 : decode mX7_forge.2.1 205 = .ok (.ireturn, 1) := by decide +kernel
theorem dX7_forge_206 : decode mX7_forge.2.1 206 = .ok (.aload_n 0, 1) := by decide +kernel
theorem dX7_forge_207 : decode mX7_forge.2.1 207 = .ok (.iconst 1, 1) := by decide +kernel
theorem dX7_forge_208 : decode mX7_forge.2.1 208 = .ok (.invokevirtual 45, 3) := by decide +kernel
theorem dX7_forge_211 : decode mX7_forge.2.1 211 = .ok (.ireturn, 1) := by decide +kernel
theorem dX7_status_0 : decode mX7_status.2.1 0 = .ok (.aload_n 0, 1) := by decide +kernel
theorem dX7_status_1 : decode mX7_status.2.1 1 = .ok (.getfield 38, 3) := by decide +kernel
theorem dX7_status_4 : decode mX7_status.2.1 4 = .ok (.ireturn, 1) := by decide +kernel
theorem dX7_done_0 : decode mX7_done.2.1 0 = .ok (.aload_n 0, 1) := by decide +kernel
theorem dX7_done_1 : decode mX7_done.2.1 1 = .ok (.iconst 0, 1) := by decide +kernel
theorem dX7_done_2 : decode mX7_done.2.1 2 = .ok (.putfield 38, 3) := by decide +kernel
theorem dX7_done_5 : decode mX7_done.2.1 5 = .ok (.iload_n 1, 1) := by decide +kernel
theorem dX7_done_6 : decode mX7_done.2.1 6 = .ok (.ireturn, 1) := by decide +kernel
theorem dX7_refuse_0 : decode mX7_refuse.2.1 0 = .ok (.aload_n 0, 1) := by decide +kernel
theorem dX7_refuse_1 : decode mX7_refuse.2.1 1 = .ok (.iload_n 1, 1) := by decide +kernel
theorem dX7_refuse_2 : decode mX7_refuse.2.1 2 = .ok (.putfield 38, 3) := by decide +kernel
theorem dX7_refuse_5 : decode mX7_refuse.2.1 5 = .ok (.iconst (-1), 1) := by decide +kernel
theorem dX7_refuse_6 : decode mX7_refuse.2.1 6 = .ok (.ireturn, 1) := by decide +kernel
theorem dX7_isMember_0 : decode mX7_isMember.2.1 0 = .ok (.iload_n 1, 1) := by decide +kernel
theorem dX7_isMember_1 : decode mX7_isMember.2.1 1 = .ok (.ifCond .lt 15, 3) := by decide +kernel
theorem dX7_isMember_4 : decode mX7_isMember.2.1 4 = .ok (.iload_n 1, 1) := by decide +kernel
theorem dX7_isMember_5 : decode mX7_isMember.2.1 5 = .ok (.aload_n 0, 1) := by decide +kernel
theorem dX7_isMember_6 : decode mX7_isMember.2.1 6 = .ok (.getfield 42, 3) := by decide +kernel
theorem dX7_isMember_9 : decode mX7_isMember.2.1 9 = .ok (.if_icmp .ge 7, 3) := by decide +kernel
theorem dX7_isMember_12 : decode mX7_isMember.2.1 12 = .ok (.iconst 1, 1) := by decide +kernel
theorem dX7_isMember_13 : decode mX7_isMember.2.1 13 = .ok (.goto 4, 3) := by decide +kernel
theorem dX7_isMember_16 : decode mX7_isMember.2.1 16 = .ok (.iconst 0, 1) := by decide +kernel
theorem dX7_isMember_17 : decode mX7_isMember.2.1 17 = .ok (.ireturn, 1) := by decide +kernel
theorem dX7_isCircle_0 : decode mX7_isCircle.2.1 0 = .ok (.iload_n 1, 1) := by decide +kernel
theorem dX7_isCircle_1 : decode mX7_isCircle.2.1 1 = .ok (.ifCond .lt 15, 3) := by decide +kernel
theorem dX7_isCircle_4 : decode mX7_isCircle.2.1 4 = .ok (.iload_n 1, 1) := by decide +kernel
theorem dX7_isCircle_5 : decode mX7_isCircle.2.1 5 = .ok (.aload_n 0, 1) := by decide +kernel
theorem dX7_isCircle_6 : decode mX7_isCircle.2.1 6 = .ok (.getfield 58, 3) := by decide +kernel
theorem dX7_isCircle_9 : decode mX7_isCircle.2.1 9 = .ok (.if_icmp .ge 7, 3) := by decide +kernel
theorem dX7_isCircle_12 : decode mX7_isCircle.2.1 12 = .ok (.iconst 1, 1) := by decide +kernel
theorem dX7_isCircle_13 : decode mX7_isCircle.2.1 13 = .ok (.goto 4, 3) := by decide +kernel
theorem dX7_isCircle_16 : decode mX7_isCircle.2.1 16 = .ok (.iconst 0, 1) := by decide +kernel
theorem dX7_isCircle_17 : decode mX7_isCircle.2.1 17 = .ok (.ireturn, 1) := by decide +kernel
theorem dX7_isLetter_0 : decode mX7_isLetter.2.1 0 = .ok (.iload_n 1, 1) := by decide +kernel
theorem dX7_isLetter_1 : decode mX7_isLetter.2.1 1 = .ok (.ifCond .lt 15, 3) := by decide +kernel
theorem dX7_isLetter_4 : decode mX7_isLetter.2.1 4 = .ok (.iload_n 1, 1) := by decide +kernel
theorem dX7_isLetter_5 : decode mX7_isLetter.2.1 5 = .ok (.aload_n 0, 1) := by decide +kernel
theorem dX7_isLetter_6 : decode mX7_isLetter.2.1 6 = .ok (.getfield 95, 3) := by decide +kernel
theorem dX7_isLetter_9 : decode mX7_isLetter.2.1 9 = .ok (.if_icmp .ge 7, 3) := by decide +kernel
theorem dX7_isLetter_12 : decode mX7_isLetter.2.1 12 = .ok (.iconst 1, 1) := by decide +kernel
theorem dX7_isLetter_13 : decode mX7_isLetter.2.1 13 = .ok (.goto 4, 3) := by decide +kernel
theorem dX7_isLetter_16 : decode mX7_isLetter.2.1 16 = .ok (.iconst 0, 1) := by decide +kernel
theorem dX7_isLetter_17 : decode mX7_isLetter.2.1 17 = .ok (.ireturn, 1) := by decide +kernel
theorem dX7_isSlot_0 : decode mX7_isSlot.2.1 0 = .ok (.iload_n 0, 1) := by decide +kernel
theorem dX7_isSlot_1 : decode mX7_isSlot.2.1 1 = .ok (.ifCond .lt 13, 3) := by decide +kernel
theorem dX7_isSlot_4 : decode mX7_isSlot.2.1 4 = .ok (.iload_n 0, 1) := by decide +kernel
theorem dX7_isSlot_5 : decode mX7_isSlot.2.1 5 = .ok (.bipush 40, 2) := by decide +kernel
theorem dX7_isSlot_7 : decode mX7_isSlot.2.1 7 = .ok (.if_icmp .ge 7, 3) := by decide +kernel
theorem dX7_isSlot_10 : decode mX7_isSlot.2.1 10 = .ok (.iconst 1, 1) := by decide +kernel
theorem dX7_isSlot_11 : decode mX7_isSlot.2.1 11 = .ok (.goto 4, 3) := by decide +kernel
theorem dX7_isSlot_14 : decode mX7_isSlot.2.1 14 = .ok (.iconst 0, 1) := by decide +kernel
theorem dX7_isSlot_15 : decode mX7_isSlot.2.1 15 = .ok (.ireturn, 1) := by decide +kernel
theorem dX7_hasBit_0 : decode mX7_hasBit.2.1 0 = .ok (.iload_n 0, 1) := by decide +kernel
theorem dX7_hasBit_1 : decode mX7_hasBit.2.1 1 = .ok (.iload_n 1, 1) := by decide +kernel
theorem dX7_hasBit_2 : decode mX7_hasBit.2.1 2 = .ok (.ishr, 1) := by decide +kernel
theorem dX7_hasBit_3 : decode mX7_hasBit.2.1 3 = .ok (.iconst 1, 1) := by decide +kernel
theorem dX7_hasBit_4 : decode mX7_hasBit.2.1 4 = .ok (.iand, 1) := by decide +kernel
theorem dX7_hasBit_5 : decode mX7_hasBit.2.1 5 = .ok (.ifCond .eq 7, 3) := by decide +kernel
theorem dX7_hasBit_8 : decode mX7_hasBit.2.1 8 = .ok (.iconst 1, 1) := by decide +kernel
theorem dX7_hasBit_9 : decode mX7_hasBit.2.1 9 = .ok (.goto 4, 3) := by decide +kernel
theorem dX7_hasBit_12 : decode mX7_hasBit.2.1 12 = .ok (.iconst 0, 1) := by decide +kernel
theorem dX7_hasBit_13 : decode mX7_hasBit.2.1 13 = .ok (.ireturn, 1) := by decide +kernel
theorem dX7_lowestMember_0 : decode mX7_lowestMember.2.1 0 = .ok (.iconst 0, 1) := by decide +kernel
theorem dX7_lowestMember_1 : decode mX7_lowestMember.2.1 1 = .ok (.istore_n 1, 1) := by decide +kernel
theorem dX7_lowestMember_2 : decode mX7_lowestMember.2.1 2 = .ok (.iload_n 1, 1) := by decide +kernel
theorem dX7_lowestMember_3 : decode mX7_lowestMember.2.1 3 = .ok (.bipush 8, 2) := by decide +kernel
theorem dX7_lowestMember_5 : decode mX7_lowestMember.2.1 5 = .ok (.if_icmp .ge 19, 3) := by decide +kernel
theorem dX7_lowestMember_8 : decode mX7_lowestMember.2.1 8 = .ok (.iload_n 0, 1) := by decide +kernel
theorem dX7_lowestMember_9 : decode mX7_lowestMember.2.1 9 = .ok (.iload_n 1, 1) := by decide +kernel
theorem dX7_lowestMember_10 : decode mX7_lowestMember.2.1 10 = .ok (.invokestatic 218, 3) := by decide +kernel
theorem dX7_lowestMember_13 : decode mX7_lowestMember.2.1 13 = .ok (.ifCond .eq 5, 3) := by decide +kernel
theorem dX7_lowestMember_16 : decode mX7_lowestMember.2.1 16 = .ok (.iload_n 1, 1) := by decide +kernel
theorem dX7_lowestMember_17 : decode mX7_lowestMember.2.1 17 = .ok (.ireturn, 1) := by decide +kernel
theorem dX7_lowestMember_18 : decode mX7_lowestMember.2.1 18 = .ok (.iinc 1 1, 3) := by decide +kernel
theorem dX7_lowestMember_21 : decode mX7_lowestMember.2.1 21 = .ok (.goto (-19), 3) := by decide +kernel
theorem dX7_lowestMember_24 : decode mX7_lowestMember.2.1 24 = .ok (.iconst (-1), 1) := by decide +kernel
theorem dX7_lowestMember_25 : decode mX7_lowestMember.2.1 25 = .ok (.ireturn, 1) := by decide +kernel
theorem dX7_writeByCall_0 : decode mX7_writeByCall.2.1 0 = .ok (.aload_n 0, 1) := by decide +kernel
theorem dX7_writeByCall_1 : decode mX7_writeByCall.2.1 1 = .ok (.iload_n 1, 1) := by decide +kernel
theorem dX7_writeByCall_2 : decode mX7_writeByCall.2.1 2 = .ok (.invokevirtual 75, 3) := by decide +kernel
theorem dX7_writeByCall_5 : decode mX7_writeByCall.2.1 5 = .ok (.ifCond .eq 11, 3) := by decide +kernel
theorem dX7_writeByCall_8 : decode mX7_writeByCall.2.1 8 = .ok (.aload_n 0, 1) := by decide +kernel
theorem dX7_writeByCall_9 : decode mX7_writeByCall.2.1 9 = .ok (.iload_n 2, 1) := by decide +kernel
theorem dX7_writeByCall_10 : decode mX7_writeByCall.2.1 10 = .ok (.invokevirtual 85, 3) := by decide +kernel
theorem dX7_writeByCall_13 : decode mX7_writeByCall.2.1 13 = .ok (.ifCond .ne 9, 3) := by decide +kernel
theorem dX7_writeByCall_16 : decode mX7_writeByCall.2.1 16 = .ok (.aload_n 0, 1) := by decide +kernel
theorem dX7_writeByCall_17 : decode mX7_writeByCall.2.1 17 = .ok (.iconst 1, 1) := by decide +kernel
theorem dX7_writeByCall_18 : decode mX7_writeByCall.2.1 18 = .ok (.invokevirtual 45, 3) := by decide +kernel
theorem dX7_writeByCall_21 : decode mX7_writeByCall.2.1 21 = .ok (.ireturn, 1) := by decide +kernel
theorem dX7_writeByCall_22 : decode mX7_writeByCall.2.1 22 = .ok (.aload_n 0, 1) := by decide +kernel
theorem dX7_writeByCall_23 : decode mX7_writeByCall.2.1 23 = .ok (.getfield 222, 3) := by decide +kernel
theorem dX7_writeByCall_26 : decode mX7_writeByCall.2.1 26 = .ok (.bipush 100, 2) := by decide +kernel
theorem dX7_writeByCall_28 : decode mX7_writeByCall.2.1 28 = .ok (.if_icmp .lt 9, 3) := by decide +kernel
theorem dX7_writeByCall_31 : decode mX7_writeByCall.2.1 31 = .ok (.aload_n 0, 1) := by decide +kernel
theorem dX7_writeByCall_32 : decode mX7_writeByCall.2.1 32 = .ok (.iconst 2, 1) := by decide +kernel
theorem dX7_writeByCall_33 : decode mX7_writeByCall.2.1 33 = .ok (.invokevirtual 45, 3) := by decide +kernel
theorem dX7_writeByCall_36 : decode mX7_writeByCall.2.1 36 = .ok (.ireturn, 1) := by decide +kernel
theorem dX7_writeByCall_37 : decode mX7_writeByCall.2.1 37 = .ok (.aload_n 0, 1) := by decide +kernel
theorem dX7_writeByCall_38 : decode mX7_writeByCall.2.1 38 = .ok (.getfield 17, 3) := by decide +kernel
theorem dX7_writeByCall_41 : decode mX7_writeByCall.2.1 41 = .ok (.iload_n 2, 1) := by decide +kernel
theorem dX7_writeByCall_42 : decode mX7_writeByCall.2.1 42 = .ok (.aaload, 1) := by decide +kernel
theorem dX7_writeByCall_43 : decode mX7_writeByCall.2.1 43 = .ok (.getfield 132, 3) := by decide +kernel
theorem dX7_writeByCall_46 : decode mX7_writeByCall.2.1 46 = .ok (.iload_n 1, 1) := by decide +kernel
theorem dX7_writeByCall_47 : decode mX7_writeByCall.2.1 47 = .ok (.invokestatic 218, 3) := by decide +kernel
theorem dX7_writeByCall_50 : decode mX7_writeByCall.2.1 50 = .ok (.ifCond .eq 13, 3) := by decide +kernel
theorem dX7_writeByCall_53 : decode mX7_writeByCall.2.1 53 = .ok (.aload_n 0, 1) := by decide +kernel
theorem dX7_writeByCall_54 : decode mX7_writeByCall.2.1 54 = .ok (.iload_n 1, 1) := by decide +kernel
theorem dX7_writeByCall_55 : decode mX7_writeByCall.2.1 55 = .ok (.iload 4, 2) := by decide +kernel
theorem dX7_writeByCall_57 : decode mX7_writeByCall.2.1 57 = .ok (.invokevirtual 225, 3) := by decide +kernel
theorem dX7_writeByCall_60 : decode mX7_writeByCall.2.1 60 = .ok (.ifCond .ne 9, 3) := by decide +kernel
theorem dX7_writeByCall_63 : decode mX7_writeByCall.2.1 63 = .ok (.aload_n 0, 1) := by decide +kernel
theorem dX7_writeByCall_64 : decode mX7_writeByCall.2.1 64 = .ok (.iconst 3, 1) := by decide +kernel
theorem dX7_writeByCall_65 : decode mX7_writeByCall.2.1 65 = .ok (.invokevirtual 45, 3) := by decide +kernel
theorem dX7_writeByCall_68 : decode mX7_writeByCall.2.1 68 = .ok (.ireturn, 1) := by decide +kernel
theorem dX7_writeByCall_69 : decode mX7_writeByCall.2.1 69 = .ok (.aload_n 0, 1) := by decide +kernel
theorem dX7_writeByCall_70 : decode mX7_writeByCall.2.1 70 = .ok (.getfield 11, 3) := by decide +kernel
theorem dX7_writeByCall_73 : decode mX7_writeByCall.2.1 73 = .ok (.iload_n 1, 1) := by decide +kernel
theorem dX7_writeByCall_74 : decode mX7_writeByCall.2.1 74 = .ok (.aaload, 1) := by decide +kernel
theorem dX7_writeByCall_75 : decode mX7_writeByCall.2.1 75 = .ok (.astore 5, 2) := by decide +kernel
theorem dX7_writeByCall_77 : decode mX7_writeByCall.2.1 77 = .ok (.aload 5, 2) := by decide +kernel
theorem dX7_writeByCall_79 : decode mX7_writeByCall.2.1 79 = .ok (.iload_n 2, 1) := by decide +kernel
theorem dX7_writeByCall_80 : decode mX7_writeByCall.2.1 80 = .ok (.invokevirtual 228, 3) := by decide +kernel
theorem dX7_writeByCall_83 : decode mX7_writeByCall.2.1 83 = .ok (.istore 6, 2) := by decide +kernel
theorem dX7_writeByCall_85 : decode mX7_writeByCall.2.1 85 = .ok (.aload_n 0, 1) := by decide +kernel
theorem dX7_writeByCall_86 : decode mX7_writeByCall.2.1 86 = .ok (.iload_n 1, 1) := by decide +kernel
theorem dX7_writeByCall_87 : decode mX7_writeByCall.2.1 87 = .ok (.invokevirtual 231, 3) := by decide +kernel
theorem dX7_writeByCall_90 : decode mX7_writeByCall.2.1 90 = .ok (.astore 7, 2) := by decide +kernel
theorem dX7_writeByCall_92 : decode mX7_writeByCall.2.1 92 = .ok (.new 21, 3) := by decide +kernel
theorem dX7_writeByCall_95 : decode mX7_writeByCall.2.1 95 = .ok (.dup, 1) := by decide +kernel
theorem dX7_writeByCall_96 : decode mX7_writeByCall.2.1 96 = .ok (.aload_n 0, 1) := by decide +kernel
theorem dX7_writeByCall_97 : decode mX7_writeByCall.2.1 97 = .ok (.getfield 95, 3) := by decide +kernel
theorem dX7_writeByCall_100 : decode mX7_writeByCall.2.1 100 = .ok (.iload_n 3, 1) := by decide +kernel
theorem dX7_writeByCall_101 : decode mX7_writeByCall.2.1 101 = .ok (.iload_n 2, 1) := by decide +kernel
theorem dX7_writeByCall_102 : decode mX7_writeByCall.2.1 102 = .ok (.iload_n 1, 1) := by decide +kernel
theorem dX7_writeByCall_103 : decode mX7_writeByCall.2.1 103 = .ok (.iload 6, 2) := by decide +kernel
theorem dX7_writeByCall_105 : decode mX7_writeByCall.2.1 105 = .ok (.iload 4, 2) := by decide +kernel
theorem dX7_writeByCall_107 : decode mX7_writeByCall.2.1 107 = .ok (.aload 7, 2) := by decide +kernel
theorem dX7_writeByCall_109 : decode mX7_writeByCall.2.1 109 = .ok (.invokespecial 235, 3) := by decide +kernel
theorem dX7_writeByCall_112 : decode mX7_writeByCall.2.1 112 = .ok (.astore 8, 2) := by decide +kernel
theorem dX7_writeByCall_114 : decode mX7_writeByCall.2.1 114 = .ok (.aload 8, 2) := by decide +kernel
theorem dX7_writeByCall_116 : decode mX7_writeByCall.2.1 116 = .ok (.aload 7, 2) := by decide +kernel
theorem dX7_writeByCall_118 : decode mX7_writeByCall.2.1 118 = .ok (.aload 5, 2) := by decide +kernel
theorem dX7_writeByCall_120 : decode mX7_writeByCall.2.1 120 = .ok (.getfield 238, 3) := by decide +kernel
theorem dX7_writeByCall_123 : decode mX7_writeByCall.2.1 123 = .ok (.iload_n 2, 1) := by decide +kernel
theorem dX7_writeByCall_124 : decode mX7_writeByCall.2.1 124 = .ok (.aaload, 1) := by decide +kernel
theorem dX7_writeByCall_125 : decode mX7_writeByCall.2.1 125 = .ok (.aload_n 0, 1) := by decide +kernel
theorem dX7_writeByCall_126 : decode mX7_writeByCall.2.1 126 = .ok (.getfield 17, 3) := by decide +kernel
theorem dX7_writeByCall_129 : decode mX7_writeByCall.2.1 129 = .ok (.invokevirtual 242, 3) := by decide +kernel
theorem dX7_writeByCall_132 : decode mX7_writeByCall.2.1 132 = .ok (.putfield 129, 3) := by decide +kernel
theorem dX7_writeByCall_135 : decode mX7_writeByCall.2.1 135 = .ok (.aload 5, 2) := by decide +kernel
theorem dX7_writeByCall_137 : decode mX7_writeByCall.2.1 137 = .ok (.getfield 238, 3) := by decide +kernel
theorem dX7_writeByCall_140 : decode mX7_writeByCall.2.1 140 = .ok (.iload_n 2, 1) := by decide +kernel
theorem dX7_writeByCall_141 : decode mX7_writeByCall.2.1 141 = .ok (.aload 7, 2) := by decide +kernel
theorem dX7_writeByCall_143 : decode mX7_writeByCall.2.1 143 = .ok (.aastore, 1) := by decide +kernel
theorem dX7_writeByCall_144 : decode mX7_writeByCall.2.1 144 = .ok (.aload_n 0, 1) := by decide +kernel
theorem dX7_writeByCall_145 : decode mX7_writeByCall.2.1 145 = .ok (.dup, 1) := by decide +kernel
theorem dX7_writeByCall_146 : decode mX7_writeByCall.2.1 146 = .ok (.getfield 222, 3) := by decide +kernel
theorem dX7_writeByCall_149 : decode mX7_writeByCall.2.1 149 = .ok (.iconst 1, 1) := by decide +kernel
theorem dX7_writeByCall_150 : decode mX7_writeByCall.2.1 150 = .ok (.iadd, 1) := by decide +kernel
theorem dX7_writeByCall_151 : decode mX7_writeByCall.2.1 151 = .ok (.putfield 222, 3) := by decide +kernel
theorem dX7_writeByCall_154 : decode mX7_writeByCall.2.1 154 = .ok (.aload_n 0, 1) := by decide +kernel
theorem dX7_writeByCall_155 : decode mX7_writeByCall.2.1 155 = .ok (.aload 8, 2) := by decide +kernel
theorem dX7_writeByCall_157 : decode mX7_writeByCall.2.1 157 = .ok (.invokevirtual 246, 3) := by decide +kernel
theorem dX7_writeByCall_160 : decode mX7_writeByCall.2.1 160 = .ok (.aload_n 0, 1) := by decide +kernel
theorem dX7_writeByCall_161 : decode mX7_writeByCall.2.1 161 = .ok (.iload_n 1, 1) := by decide +kernel
theorem dX7_writeByCall_162 : decode mX7_writeByCall.2.1 162 = .ok (.invokevirtual 250, 3) := by decide +kernel
theorem dX7_writeByCall_165 : decode mX7_writeByCall.2.1 165 = .ok (.pop, 1) := by decide +kernel
theorem dX7_writeByCall_166 : decode mX7_writeByCall.2.1 166 = .ok (.aload_n 0, 1) := by decide +kernel
theorem dX7_writeByCall_167 : decode mX7_writeByCall.2.1 167 = .ok (.aload 8, 2) := by decide +kernel
theorem dX7_writeByCall_169 : decode mX7_writeByCall.2.1 169 = .ok (.getfield 253, 3) := by decide +kernel
theorem dX7_writeByCall_172 : decode mX7_writeByCall.2.1 172 = .ok (.invokevirtual 50, 3) := by decide +kernel
theorem dX7_writeByCall_175 : decode mX7_writeByCall.2.1 175 = .ok (.ireturn, 1) := by decide +kernel
theorem dX7_mayAnswer_0 : decode mX7_mayAnswer.2.1 0 = .ok (.aload_n 0, 1) := by decide +kernel
theorem dX7_mayAnswer_1 : decode mX7_mayAnswer.2.1 1 = .ok (.iload_n 2, 1) := by decide +kernel
theorem dX7_mayAnswer_2 : decode mX7_mayAnswer.2.1 2 = .ok (.invokevirtual 71, 3) := by decide +kernel
theorem dX7_mayAnswer_5 : decode mX7_mayAnswer.2.1 5 = .ok (.ifCond .ne 14, 3) := by decide +kernel
theorem dX7_mayAnswer_8 : decode mX7_mayAnswer.2.1 8 = .ok (.iload_n 2, 1) := by decide +kernel
theorem dX7_mayAnswer_9 : decode mX7_mayAnswer.2.1 9 = .ok (.iconst (-1), 1) := by decide +kernel
theorem dX7_mayAnswer_10 : decode mX7_mayAnswer.2.1 10 = .ok (.if_icmp .ne 7, 3) := by decide +kernel
theorem dX7_mayAnswer_13 : decode mX7_mayAnswer.2.1 13 = .ok (.iconst 1, 1) := by decide +kernel
theorem dX7_mayAnswer_14 : decode mX7_mayAnswer.2.1 14 = .ok (.goto 4, 3) := by decide +kernel
theorem dX7_mayAnswer_17 : decode mX7_mayAnswer.2.1 17 = .ok (.iconst 0, 1) := by decide +kernel
theorem dX7_mayAnswer_18 : decode mX7_mayAnswer.2.1 18 = .ok (.ireturn, 1) := by decide +kernel
theorem dX7_mayAnswer_19 : decode mX7_mayAnswer.2.1 19 = .ok (.aload_n 0, 1) := by decide +kernel
theorem dX7_mayAnswer_20 : decode mX7_mayAnswer.2.1 20 = .ok (.getfield 23, 3) := by decide +kernel
theorem dX7_mayAnswer_23 : decode mX7_mayAnswer.2.1 23 = .ok (.iload_n 2, 1) := by decide +kernel
theorem dX7_mayAnswer_24 : decode mX7_mayAnswer.2.1 24 = .ok (.aaload, 1) := by decide +kernel
theorem dX7_mayAnswer_25 : decode mX7_mayAnswer.2.1 25 = .ok (.getfield 108, 3) := by decide +kernel
theorem dX7_mayAnswer_28 : decode mX7_mayAnswer.2.1 28 = .ok (.iload_n 1, 1) := by decide +kernel
theorem dX7_mayAnswer_29 : decode mX7_mayAnswer.2.1 29 = .ok (.if_icmp .eq 16, 3) := by decide +kernel
theorem dX7_mayAnswer_32 : decode mX7_mayAnswer.2.1 32 = .ok (.aload_n 0, 1) := by decide +kernel
theorem dX7_mayAnswer_33 : decode mX7_mayAnswer.2.1 33 = .ok (.getfield 23, 3) := by decide +kernel
theorem dX7_mayAnswer_36 : decode mX7_mayAnswer.2.1 36 = .ok (.iload_n 2, 1) := by decide +kernel
theorem dX7_mayAnswer_37 : decode mX7_mayAnswer.2.1 37 = .ok (.aaload, 1) := by decide +kernel
theorem dX7_mayAnswer_38 : decode mX7_mayAnswer.2.1 38 = .ok (.iload_n 1, 1) := by decide +kernel
theorem dX7_mayAnswer_39 : decode mX7_mayAnswer.2.1 39 = .ok (.invokevirtual 256, 3) := by decide +kernel
theorem dX7_mayAnswer_42 : decode mX7_mayAnswer.2.1 42 = .ok (.ifCond .eq 7, 3) := by decide +kernel
theorem dX7_mayAnswer_45 : decode mX7_mayAnswer.2.1 45 = .ok (.iconst 1, 1) := by decide +kernel
theorem dX7_mayAnswer_46 : decode mX7_mayAnswer.2.1 46 = .ok (.goto 4, 3) := by decide +kernel
theorem dX7_mayAnswer_49 : decode mX7_mayAnswer.2.1 49 = .ok (.iconst 0, 1) := by decide +kernel
theorem dX7_mayAnswer_50 : decode mX7_mayAnswer.2.1 50 = .ok (.ireturn, 1) := by decide +kernel
theorem dX7_clockNow_0 : decode mX7_clockNow.2.1 0 = .ok (.new 125, 3) := by decide +kernel
theorem dX7_clockNow_3 : decode mX7_clockNow.2.1 3 = .ok (.dup, 1) := by decide +kernel
theorem dX7_clockNow_4 : decode mX7_clockNow.2.1 4 = .ok (.invokespecial 259, 3) := by decide +kernel
theorem dX7_clockNow_7 : decode mX7_clockNow.2.1 7 = .ok (.astore_n 2, 1) := by decide +kernel
theorem dX7_clockNow_8 : decode mX7_clockNow.2.1 8 = .ok (.iconst 0, 1) := by decide +kernel
theorem dX7_clockNow_9 : decode mX7_clockNow.2.1 9 = .ok (.istore_n 3, 1) := by decide +kernel
theorem dX7_clockNow_10 : decode mX7_clockNow.2.1 10 = .ok (.iload_n 3, 1) := by decide +kernel
theorem dX7_clockNow_11 : decode mX7_clockNow.2.1 11 = .ok (.aload_n 0, 1) := by decide +kernel
theorem dX7_clockNow_12 : decode mX7_clockNow.2.1 12 = .ok (.getfield 58, 3) := by decide +kernel
theorem dX7_clockNow_15 : decode mX7_clockNow.2.1 15 = .ok (.if_icmp .ge 53, 3) := by decide +kernel
theorem dX7_clockNow_18 : decode mX7_clockNow.2.1 18 = .ok (.aload_n 0, 1) := by decide +kernel
theorem dX7_clockNow_19 : decode mX7_clockNow.2.1 19 = .ok (.getfield 17, 3) := by decide +kernel
theorem dX7_clockNow_22 : decode mX7_clockNow.2.1 22 = .ok (.iload_n 3, 1) := by decide +kernel
theorem dX7_clockNow_23 : decode mX7_clockNow.2.1 23 = .ok (.aaload, 1) := by decide +kernel
theorem dX7_clockNow_24 : decode mX7_clockNow.2.1 24 = .ok (.getfield 132, 3) := by decide +kernel
theorem dX7_clockNow_27 : decode mX7_clockNow.2.1 27 = .ok (.iload_n 1, 1) := by decide +kernel
theorem dX7_clockNow_28 : decode mX7_clockNow.2.1 28 = .ok (.invokestatic 218, 3) := by decide +kernel
theorem dX7_clockNow_31 : decode mX7_clockNow.2.1 31 = .ok (.ifCond .eq 31, 3) := by decide +kernel
theorem dX7_clockNow_34 : decode mX7_clockNow.2.1 34 = .ok (.aload_n 2, 1) := by decide +kernel
theorem dX7_clockNow_35 : decode mX7_clockNow.2.1 35 = .ok (.iload_n 3, 1) := by decide +kernel
theorem dX7_clockNow_36 : decode mX7_clockNow.2.1 36 = .ok (.aload_n 0, 1) := by decide +kernel
theorem dX7_clockNow_37 : decode mX7_clockNow.2.1 37 = .ok (.getfield 11, 3) := by decide +kernel
theorem dX7_clockNow_40 : decode mX7_clockNow.2.1 40 = .ok (.iload_n 1, 1) := by decide +kernel
theorem dX7_clockNow_41 : decode mX7_clockNow.2.1 41 = .ok (.aaload, 1) := by decide +kernel
theorem dX7_clockNow_42 : decode mX7_clockNow.2.1 42 = .ok (.getfield 148, 3) := by decide +kernel
theorem dX7_clockNow_45 : decode mX7_clockNow.2.1 45 = .ok (.iload_n 3, 1) := by decide +kernel
theorem dX7_clockNow_46 : decode mX7_clockNow.2.1 46 = .ok (.aaload, 1) := by decide +kernel
theorem dX7_clockNow_47 : decode mX7_clockNow.2.1 47 = .ok (.aload_n 0, 1) := by decide +kernel
theorem dX7_clockNow_48 : decode mX7_clockNow.2.1 48 = .ok (.getfield 17, 3) := by decide +kernel
theorem dX7_clockNow_51 : decode mX7_clockNow.2.1 51 = .ok (.iload_n 3, 1) := by decide +kernel
theorem dX7_clockNow_52 : decode mX7_clockNow.2.1 52 = .ok (.aaload, 1) := by decide +kernel
theorem dX7_clockNow_53 : decode mX7_clockNow.2.1 53 = .ok (.getfield 132, 3) := by decide +kernel
theorem dX7_clockNow_56 : decode mX7_clockNow.2.1 56 = .ok (.invokestatic 53, 3) := by decide +kernel
theorem dX7_clockNow_59 : decode mX7_clockNow.2.1 59 = .ok (.invokevirtual 260, 3) := by decide +kernel
theorem dX7_clockNow_62 : decode mX7_clockNow.2.1 62 = .ok (.iinc 3 1, 3) := by decide +kernel
theorem dX7_clockNow_65 : decode mX7_clockNow.2.1 65 = .ok (.goto (-55), 3) := by decide +kernel
theorem dX7_clockNow_68 : decode mX7_clockNow.2.1 68 = .ok (.aload_n 2, 1) := by decide +kernel
theorem dX7_clockNow_69 : decode mX7_clockNow.2.1 69 = .ok (.areturn, 1) := by decide +kernel
theorem dX7_send_0 : decode mX7_send.2.1 0 = .ok (.aload_n 0, 1) := by decide +kernel
theorem dX7_send_1 : decode mX7_send.2.1 1 = .ok (.getfield 95, 3) := by decide +kernel
theorem dX7_send_4 : decode mX7_send.2.1 4 = .ok (.sipush 200, 3) := by decide +kernel
theorem dX7_send_7 : decode mX7_send.2.1 7 = .ok (.if_icmp .lt 4, 3) := by decide +kernel
theorem dX7_send_10 : decode mX7_send.2.1 10 = .ok (.return_, 1) := by decide +kernel
theorem dX7_send_11 : decode mX7_send.2.1 11 = .ok (.aload_n 0, 1) := by decide +kernel
theorem dX7_send_12 : decode mX7_send.2.1 12 = .ok (.getfield 23, 3) := by decide +kernel
theorem dX7_send_15 : decode mX7_send.2.1 15 = .ok (.aload_n 0, 1) := by decide +kernel
theorem dX7_send_16 : decode mX7_send.2.1 16 = .ok (.getfield 95, 3) := by decide +kernel
theorem dX7_send_19 : decode mX7_send.2.1 19 = .ok (.aload_n 1, 1) := by decide +kernel
theorem dX7_send_20 : decode mX7_send.2.1 20 = .ok (.aastore, 1) := by decide +kernel
theorem dX7_send_21 : decode mX7_send.2.1 21 = .ok (.aload_n 0, 1) := by decide +kernel
theorem dX7_send_22 : decode mX7_send.2.1 22 = .ok (.dup, 1) := by decide +kernel
theorem dX7_send_23 : decode mX7_send.2.1 23 = .ok (.getfield 95, 3) := by decide +kernel
theorem dX7_send_26 : decode mX7_send.2.1 26 = .ok (.iconst 1, 1) := by decide +kernel
theorem dX7_send_27 : decode mX7_send.2.1 27 = .ok (.iadd, 1) := by decide +kernel
theorem dX7_send_28 : decode mX7_send.2.1 28 = .ok (.putfield 95, 3) := by decide +kernel
theorem dX7_send_31 : decode mX7_send.2.1 31 = .ok (.aload_n 0, 1) := by decide +kernel
theorem dX7_send_32 : decode mX7_send.2.1 32 = .ok (.getfield 11, 3) := by decide +kernel
theorem dX7_send_35 : decode mX7_send.2.1 35 = .ok (.aload_n 1, 1) := by decide +kernel
theorem dX7_send_36 : decode mX7_send.2.1 36 = .ok (.getfield 108, 3) := by decide +kernel
theorem dX7_send_39 : decode mX7_send.2.1 39 = .ok (.aaload, 1) := by decide +kernel
theorem dX7_send_40 : decode mX7_send.2.1 40 = .ok (.astore_n 2, 1) := by decide +kernel
theorem dX7_send_41 : decode mX7_send.2.1 41 = .ok (.aload_n 1, 1) := by decide +kernel
theorem dX7_send_42 : decode mX7_send.2.1 42 = .ok (.getfield 169, 3) := by decide +kernel
theorem dX7_send_45 : decode mX7_send.2.1 45 = .ok (.aload_n 2, 1) := by decide +kernel
theorem dX7_send_46 : decode mX7_send.2.1 46 = .ok (.getfield 264, 3) := by decide +kernel
theorem dX7_send_49 : decode mX7_send.2.1 49 = .ok (.invokevirtual 267, 3) := by decide +kernel
theorem dX7_send_52 : decode mX7_send.2.1 52 = .ok (.aload_n 2, 1) := by decide +kernel
theorem dX7_send_53 : decode mX7_send.2.1 53 = .ok (.getfield 264, 3) := by decide +kernel
theorem dX7_send_56 : decode mX7_send.2.1 56 = .ok (.aload_n 1, 1) := by decide +kernel
theorem dX7_send_57 : decode mX7_send.2.1 57 = .ok (.getfield 253, 3) := by decide +kernel
theorem dX7_send_60 : decode mX7_send.2.1 60 = .ok (.invokevirtual 271, 3) := by decide +kernel
theorem dX7_send_63 : decode mX7_send.2.1 63 = .ok (.aload_n 1, 1) := by decide +kernel
theorem dX7_send_64 : decode mX7_send.2.1 64 = .ok (.aload_n 0, 1) := by decide +kernel
theorem dX7_send_65 : decode mX7_send.2.1 65 = .ok (.getfield 17, 3) := by decide +kernel
theorem dX7_send_68 : decode mX7_send.2.1 68 = .ok (.aload_n 1, 1) := by decide +kernel
theorem dX7_send_69 : decode mX7_send.2.1 69 = .ok (.getfield 105, 3) := by decide +kernel
theorem dX7_send_72 : decode mX7_send.2.1 72 = .ok (.aaload, 1) := by decide +kernel
theorem dX7_send_73 : decode mX7_send.2.1 73 = .ok (.getfield 132, 3) := by decide +kernel
theorem dX7_send_76 : decode mX7_send.2.1 76 = .ok (.iconst 1, 1) := by decide +kernel
theorem dX7_send_77 : decode mX7_send.2.1 77 = .ok (.aload_n 1, 1) := by decide +kernel
theorem dX7_send_78 : decode mX7_send.2.1 78 = .ok (.getfield 108, 3) := by decide +kernel
theorem dX7_send_81 : decode mX7_send.2.1 81 = .ok (.ishl, 1) := by decide +kernel
theorem dX7_send_82 : decode mX7_send.2.1 82 = .ok (.iconst (-1), 1) := by decide +kernel
theorem dX7_send_83 : decode mX7_send.2.1 83 = .ok (.ixor, 1) := by decide +kernel
theorem dX7_send_84 : decode mX7_send.2.1 84 = .ok (.iand, 1) := by decide +kernel
theorem dX7_send_85 : decode mX7_send.2.1 85 = .ok (.putfield 92, 3) := by decide +kernel
theorem dX7_send_88 : decode mX7_send.2.1 88 = .ok (.aload_n 2, 1) := by decide +kernel
theorem dX7_send_89 : decode mX7_send.2.1 89 = .ok (.aload_n 1, 1) := by decide +kernel
theorem dX7_send_90 : decode mX7_send.2.1 90 = .ok (.invokevirtual 275, 3) := by decide +kernel
theorem dX7_send_93 : decode mX7_send.2.1 93 = .ok (.return_, 1) := by decide +kernel
theorem dX7_bring_0 : decode mX7_bring.2.1 0 = .ok (.aload_n 0, 1) := by decide +kernel
theorem dX7_bring_1 : decode mX7_bring.2.1 1 = .ok (.iload_n 2, 1) := by decide +kernel
theorem dX7_bring_2 : decode mX7_bring.2.1 2 = .ok (.invokevirtual 75, 3) := by decide +kernel
theorem dX7_bring_5 : decode mX7_bring.2.1 5 = .ok (.ifCond .ne 5, 3) := by decide +kernel
theorem dX7_bring_8 : decode mX7_bring.2.1 8 = .ok (.iconst 0, 1) := by decide +kernel
theorem dX7_bring_9 : decode mX7_bring.2.1 9 = .ok (.ireturn, 1) := by decide +kernel
theorem dX7_bring_10 : decode mX7_bring.2.1 10 = .ok (.aload_n 1, 1) := by decide +kernel
theorem dX7_bring_11 : decode mX7_bring.2.1 11 = .ok (.dup, 1) := by decide +kernel
theorem dX7_bring_12 : decode mX7_bring.2.1 12 = .ok (.getfield 92, 3) := by decide +kernel
theorem dX7_bring_15 : decode mX7_bring.2.1 15 = .ok (.iconst 1, 1) := by decide +kernel
theorem dX7_bring_16 : decode mX7_bring.2.1 16 = .ok (.iload_n 2, 1) := by decide +kernel
theorem dX7_bring_17 : decode mX7_bring.2.1 17 = .ok (.ishl, 1) := by decide +kernel
theorem dX7_bring_18 : decode mX7_bring.2.1 18 = .ok (.iconst (-1), 1) := by decide +kernel
theorem dX7_bring_19 : decode mX7_bring.2.1 19 = .ok (.ixor, 1) := by decide +kernel
theorem dX7_bring_20 : decode mX7_bring.2.1 20 = .ok (.iand, 1) := by decide +kernel
theorem dX7_bring_21 : decode mX7_bring.2.1 21 = .ok (.putfield 92, 3) := by decide +kernel
theorem dX7_bring_24 : decode mX7_bring.2.1 24 = .ok (.aload_n 0, 1) := by decide +kernel
theorem dX7_bring_25 : decode mX7_bring.2.1 25 = .ok (.getfield 11, 3) := by decide +kernel
theorem dX7_bring_28 : decode mX7_bring.2.1 28 = .ok (.iload_n 2, 1) := by decide +kernel
theorem dX7_bring_29 : decode mX7_bring.2.1 29 = .ok (.aaload, 1) := by decide +kernel
theorem dX7_bring_30 : decode mX7_bring.2.1 30 = .ok (.aload_n 1, 1) := by decide +kernel
theorem dX7_bring_31 : decode mX7_bring.2.1 31 = .ok (.invokevirtual 275, 3) := by decide +kernel
theorem dX7_bring_34 : decode mX7_bring.2.1 34 = .ok (.aload_n 0, 1) := by decide +kernel
theorem dX7_bring_35 : decode mX7_bring.2.1 35 = .ok (.iload_n 2, 1) := by decide +kernel
theorem dX7_bring_36 : decode mX7_bring.2.1 36 = .ok (.invokevirtual 250, 3) := by decide +kernel
theorem dX7_bring_39 : decode mX7_bring.2.1 39 = .ok (.ireturn, 1) := by decide +kernel
theorem dX7_nextOnLine_0 : decode mX7_nextOnLine.2.1 0 = .ok (.iconst 0, 1) := by decide +kernel
theorem dX7_nextOnLine_1 : decode mX7_nextOnLine.2.1 1 = .ok (.istore_n 3, 1) := by decide +kernel
theorem dX7_nextOnLine_2 : decode mX7_nextOnLine.2.1 2 = .ok (.iload_n 3, 1) := by decide +kernel
theorem dX7_nextOnLine_3 : decode mX7_nextOnLine.2.1 3 = .ok (.aload_n 0, 1) := by decide +kernel
theorem dX7_nextOnLine_4 : decode mX7_nextOnLine.2.1 4 = .ok (.getfield 95, 3) := by decide +kernel
theorem dX7_nextOnLine_7 : decode mX7_nextOnLine.2.1 7 = .ok (.if_icmp .ge 52, 3) := by decide +kernel
theorem dX7_nextOnLine_10 : decode mX7_nextOnLine.2.1 10 = .ok (.aload_n 0, 1) := by decide +kernel
theorem dX7_nextOnLine_11 : decode mX7_nextOnLine.2.1 11 = .ok (.getfield 23, 3) := by decide +kernel
theorem dX7_nextOnLine_14 : decode mX7_nextOnLine.2.1 14 = .ok (.iload_n 2, 1) := by decide +kernel
theorem dX7_nextOnLine_15 : decode mX7_nextOnLine.2.1 15 = .ok (.ifCond .ne 7, 3) := by decide +kernel
theorem dX7_nextOnLine_18 : decode mX7_nextOnLine.2.1 18 = .ok (.iload_n 3, 1) := by decide +kernel
theorem dX7_nextOnLine_19 : decode mX7_nextOnLine.2.1 19 = .ok (.goto 11, 3) := by decide +kernel
theorem dX7_nextOnLine_22 : decode mX7_nextOnLine.2.1 22 = .ok (.aload_n 0, 1) := by decide +kernel
theorem dX7_nextOnLine_23 : decode mX7_nextOnLine.2.1 23 = .ok (.getfield 95, 3) := by decide +kernel
theorem dX7_nextOnLine_26 : decode mX7_nextOnLine.2.1 26 = .ok (.iconst 1, 1) := by decide +kernel
theorem dX7_nextOnLine_27 : decode mX7_nextOnLine.2.1 27 = .ok (.isub, 1) := by decide +kernel
theorem dX7_nextOnLine_28 : decode mX7_nextOnLine.2.1 28 = .ok (.iload_n 3, 1) := by decide +kernel
theorem dX7_nextOnLine_29 : decode mX7_nextOnLine.2.1 29 = .ok (.isub, 1) := by decide +kernel
theorem dX7_nextOnLine_30 : decode mX7_nextOnLine.2.1 30 = .ok (.aaload, 1) := by decide +kernel
theorem dX7_nextOnLine_31 : decode mX7_nextOnLine.2.1 31 = .ok (.astore 4, 2) := by decide +kernel
theorem dX7_nextOnLine_33 : decode mX7_nextOnLine.2.1 33 = .ok (.aload 4, 2) := by decide +kernel
theorem dX7_nextOnLine_35 : decode mX7_nextOnLine.2.1 35 = .ok (.getfield 105, 3) := by decide +kernel
theorem dX7_nextOnLine_38 : decode mX7_nextOnLine.2.1 38 = .ok (.iload_n 1, 1) := by decide +kernel
theorem dX7_nextOnLine_39 : decode mX7_nextOnLine.2.1 39 = .ok (.if_icmp .ne 14, 3) := by decide +kernel
theorem dX7_nextOnLine_42 : decode mX7_nextOnLine.2.1 42 = .ok (.aload 4, 2) := by decide +kernel
theorem dX7_nextOnLine_44 : decode mX7_nextOnLine.2.1 44 = .ok (.getfield 92, 3) := by decide +kernel
theorem dX7_nextOnLine_47 : decode mX7_nextOnLine.2.1 47 = .ok (.ifCond .eq 6, 3) := by decide +kernel
theorem dX7_nextOnLine_50 : decode mX7_nextOnLine.2.1 50 = .ok (.aload 4, 2) := by decide +kernel
theorem dX7_nextOnLine_52 : decode mX7_nextOnLine.2.1 52 = .ok (.areturn, 1) := by decide +kernel
theorem dX7_nextOnLine_53 : decode mX7_nextOnLine.2.1 53 = .ok (.iinc 3 1, 3) := by decide +kernel
theorem dX7_nextOnLine_56 : decode mX7_nextOnLine.2.1 56 = .ok (.goto (-54), 3) := by decide +kernel
theorem dX7_nextOnLine_59 : decode mX7_nextOnLine.2.1 59 = .ok (.aconst_null, 1) := by decide +kernel
theorem dX7_nextOnLine_60 : decode mX7_nextOnLine.2.1 60 = .ok (.areturn, 1) := by decide +kernel
theorem dX7_giveAll_0 : decode mX7_giveAll.2.1 0 = .ok (.aload_n 0, 1) := by decide +kernel
theorem dX7_giveAll_1 : decode mX7_giveAll.2.1 1 = .ok (.getfield 11, 3) := by decide +kernel
theorem dX7_giveAll_4 : decode mX7_giveAll.2.1 4 = .ok (.iload_n 1, 1) := by decide +kernel
theorem dX7_giveAll_5 : decode mX7_giveAll.2.1 5 = .ok (.aaload, 1) := by decide +kernel
theorem dX7_giveAll_6 : decode mX7_giveAll.2.1 6 = .ok (.astore_n 2, 1) := by decide +kernel
theorem dX7_giveAll_7 : decode mX7_giveAll.2.1 7 = .ok (.iconst 0, 1) := by decide +kernel
theorem dX7_giveAll_8 : decode mX7_giveAll.2.1 8 = .ok (.istore_n 3, 1) := by decide +kernel
theorem dX7_giveAll_9 : decode mX7_giveAll.2.1 9 = .ok (.iconst 0, 1) := by decide +kernel
theorem dX7_giveAll_10 : decode mX7_giveAll.2.1 10 = .ok (.istore 4, 2) := by decide +kernel
theorem dX7_giveAll_12 : decode mX7_giveAll.2.1 12 = .ok (.iload 4, 2) := by decide +kernel
theorem dX7_giveAll_14 : decode mX7_giveAll.2.1 14 = .ok (.aload_n 2, 1) := by decide +kernel
theorem dX7_giveAll_15 : decode mX7_giveAll.2.1 15 = .ok (.getfield 278, 3) := by decide +kernel
theorem dX7_giveAll_18 : decode mX7_giveAll.2.1 18 = .ok (.if_icmp .ge 70, 3) := by decide +kernel
theorem dX7_giveAll_21 : decode mX7_giveAll.2.1 21 = .ok (.iload_n 3, 1) := by decide +kernel
theorem dX7_giveAll_22 : decode mX7_giveAll.2.1 22 = .ok (.sipush 200, 3) := by decide +kernel
theorem dX7_giveAll_25 : decode mX7_giveAll.2.1 25 = .ok (.if_icmp .ge 63, 3) := by decide +kernel
theorem dX7_giveAll_28 : decode mX7_giveAll.2.1 28 = .ok (.aload_n 2, 1) := by decide +kernel
theorem dX7_giveAll_29 : decode mX7_giveAll.2.1 29 = .ok (.getfield 281, 3) := by decide +kernel
theorem dX7_giveAll_32 : decode mX7_giveAll.2.1 32 = .ok (.iload 4, 2) := by decide +kernel
theorem dX7_giveAll_34 : decode mX7_giveAll.2.1 34 = .ok (.aaload, 1) := by decide +kernel
theorem dX7_giveAll_35 : decode mX7_giveAll.2.1 35 = .ok (.astore 5, 2) := by decide +kernel
theorem dX7_giveAll_37 : decode mX7_giveAll.2.1 37 = .ok (.aload_n 0, 1) := by decide +kernel
theorem dX7_giveAll_38 : decode mX7_giveAll.2.1 38 = .ok (.iload_n 1, 1) := by decide +kernel
theorem dX7_giveAll_39 : decode mX7_giveAll.2.1 39 = .ok (.aload 5, 2) := by decide +kernel
theorem dX7_giveAll_41 : decode mX7_giveAll.2.1 41 = .ok (.invokevirtual 284, 3) := by decide +kernel
theorem dX7_giveAll_44 : decode mX7_giveAll.2.1 44 = .ok (.ifCond .eq 38, 3) := by decide +kernel
theorem dX7_giveAll_47 : decode mX7_giveAll.2.1 47 = .ok (.aload_n 2, 1) := by decide +kernel
theorem dX7_giveAll_48 : decode mX7_giveAll.2.1 48 = .ok (.aload 5, 2) := by decide +kernel
theorem dX7_giveAll_50 : decode mX7_giveAll.2.1 50 = .ok (.invokevirtual 288, 3) := by decide +kernel
theorem dX7_giveAll_53 : decode mX7_giveAll.2.1 53 = .ok (.aload 5, 2) := by decide +kernel
theorem dX7_giveAll_55 : decode mX7_giveAll.2.1 55 = .ok (.dup, 1) := by decide +kernel
theorem dX7_giveAll_56 : decode mX7_giveAll.2.1 56 = .ok (.getfield 291, 3) := by decide +kernel
theorem dX7_giveAll_59 : decode mX7_giveAll.2.1 59 = .ok (.iconst 1, 1) := by decide +kernel
theorem dX7_giveAll_60 : decode mX7_giveAll.2.1 60 = .ok (.iload_n 1, 1) := by decide +kernel
theorem dX7_giveAll_61 : decode mX7_giveAll.2.1 61 = .ok (.ishl, 1) := by decide +kernel
theorem dX7_giveAll_62 : decode mX7_giveAll.2.1 62 = .ok (.ior, 1) := by decide +kernel
theorem dX7_giveAll_63 : decode mX7_giveAll.2.1 63 = .ok (.putfield 291, 3) := by decide +kernel
theorem dX7_giveAll_66 : decode mX7_giveAll.2.1 66 = .ok (.aload_n 0, 1) := by decide +kernel
theorem dX7_giveAll_67 : decode mX7_giveAll.2.1 67 = .ok (.iload_n 1, 1) := by decide +kernel
theorem dX7_giveAll_68 : decode mX7_giveAll.2.1 68 = .ok (.aload 5, 2) := by decide +kernel
theorem dX7_giveAll_70 : decode mX7_giveAll.2.1 70 = .ok (.invokevirtual 294, 3) := by decide +kernel
theorem dX7_giveAll_73 : decode mX7_giveAll.2.1 73 = .ok (.iinc 3 1, 3) := by decide +kernel
theorem dX7_giveAll_76 : decode mX7_giveAll.2.1 76 = .ok (.iconst 0, 1) := by decide +kernel
theorem dX7_giveAll_77 : decode mX7_giveAll.2.1 77 = .ok (.istore 4, 2) := by decide +kernel
theorem dX7_giveAll_79 : decode mX7_giveAll.2.1 79 = .ok (.goto 6, 3) := by decide +kernel
theorem dX7_giveAll_82 : decode mX7_giveAll.2.1 82 = .ok (.iinc 4 1, 3) := by decide +kernel
theorem dX7_giveAll_85 : decode mX7_giveAll.2.1 85 = .ok (.goto (-73), 3) := by decide +kernel
theorem dX7_giveAll_88 : decode mX7_giveAll.2.1 88 = .ok (.iload_n 3, 1) := by decide +kernel
theorem dX7_giveAll_89 : decode mX7_giveAll.2.1 89 = .ok (.ireturn, 1) := by decide +kernel
theorem dX7_canGive_0 : decode mX7_canGive.2.1 0 = .ok (.aload_n 0, 1) := by decide +kernel
theorem dX7_canGive_1 : decode mX7_canGive.2.1 1 = .ok (.getfield 11, 3) := by decide +kernel
theorem dX7_canGive_4 : decode mX7_canGive.2.1 4 = .ok (.iload_n 1, 1) := by decide +kernel
theorem dX7_canGive_5 : decode mX7_canGive.2.1 5 = .ok (.aaload, 1) := by decide +kernel
theorem dX7_canGive_6 : decode mX7_canGive.2.1 6 = .ok (.getfield 148, 3) := by decide +kernel
theorem dX7_canGive_9 : decode mX7_canGive.2.1 9 = .ok (.aload_n 2, 1) := by decide +kernel
theorem dX7_canGive_10 : decode mX7_canGive.2.1 10 = .ok (.getfield 105, 3) := by decide +kernel
theorem dX7_canGive_13 : decode mX7_canGive.2.1 13 = .ok (.aaload, 1) := by decide +kernel
theorem dX7_canGive_14 : decode mX7_canGive.2.1 14 = .ok (.aload_n 2, 1) := by decide +kernel
theorem dX7_canGive_15 : decode mX7_canGive.2.1 15 = .ok (.getfield 108, 3) := by decide +kernel
theorem dX7_canGive_18 : decode mX7_canGive.2.1 18 = .ok (.iaload, 1) := by decide +kernel
theorem dX7_canGive_19 : decode mX7_canGive.2.1 19 = .ok (.aload_n 2, 1) := by decide +kernel
theorem dX7_canGive_20 : decode mX7_canGive.2.1 20 = .ok (.getfield 111, 3) := by decide +kernel
theorem dX7_canGive_23 : decode mX7_canGive.2.1 23 = .ok (.iconst 1, 1) := by decide +kernel
theorem dX7_canGive_24 : decode mX7_canGive.2.1 24 = .ok (.isub, 1) := by decide +kernel
theorem dX7_canGive_25 : decode mX7_canGive.2.1 25 = .ok (.if_icmp .eq 5, 3) := by decide +kernel
theorem dX7_canGive_28 : decode mX7_canGive.2.1 28 = .ok (.iconst 0, 1) := by decide +kernel
theorem dX7_canGive_29 : decode mX7_canGive.2.1 29 = .ok (.ireturn, 1) := by decide +kernel
theorem dX7_canGive_30 : decode mX7_canGive.2.1 30 = .ok (.aload_n 0, 1) := by decide +kernel
theorem dX7_canGive_31 : decode mX7_canGive.2.1 31 = .ok (.iload_n 1, 1) := by decide +kernel
theorem dX7_canGive_32 : decode mX7_canGive.2.1 32 = .ok (.aload_n 2, 1) := by decide +kernel
theorem dX7_canGive_33 : decode mX7_canGive.2.1 33 = .ok (.invokevirtual 158, 3) := by decide +kernel
theorem dX7_canGive_36 : decode mX7_canGive.2.1 36 = .ok (.iconst (-1), 1) := by decide +kernel
theorem dX7_canGive_37 : decode mX7_canGive.2.1 37 = .ok (.if_icmp .ne 25, 3) := by decide +kernel
theorem dX7_canGive_40 : decode mX7_canGive.2.1 40 = .ok (.aload_n 0, 1) := by decide +kernel
theorem dX7_canGive_41 : decode mX7_canGive.2.1 41 = .ok (.iload_n 1, 1) := by decide +kernel
theorem dX7_canGive_42 : decode mX7_canGive.2.1 42 = .ok (.aload_n 2, 1) := by decide +kernel
theorem dX7_canGive_43 : decode mX7_canGive.2.1 43 = .ok (.invokevirtual 298, 3) := by decide +kernel
theorem dX7_canGive_46 : decode mX7_canGive.2.1 46 = .ok (.ifCond .ne 16, 3) := by decide +kernel
theorem dX7_canGive_49 : decode mX7_canGive.2.1 49 = .ok (.aload_n 0, 1) := by decide +kernel
theorem dX7_canGive_50 : decode mX7_canGive.2.1 50 = .ok (.iload_n 1, 1) := by decide +kernel
theorem dX7_canGive_51 : decode mX7_canGive.2.1 51 = .ok (.aload_n 2, 1) := by decide +kernel
theorem dX7_canGive_52 : decode mX7_canGive.2.1 52 = .ok (.invokevirtual 301, 3) := by decide +kernel
theorem dX7_canGive_55 : decode mX7_canGive.2.1 55 = .ok (.ifCond .ne 7, 3) := by decide +kernel
theorem dX7_canGive_58 : decode mX7_canGive.2.1 58 = .ok (.iconst 1, 1) := by decide +kernel
theorem dX7_canGive_59 : decode mX7_canGive.2.1 59 = .ok (.goto 4, 3) := by decide +kernel
theorem dX7_canGive_62 : decode mX7_canGive.2.1 62 = .ok (.iconst 0, 1) := by decide +kernel
theorem dX7_canGive_63 : decode mX7_canGive.2.1 63 = .ok (.ireturn, 1) := by decide +kernel
theorem dX7_firstLack_0 : decode mX7_firstLack.2.1 0 = .ok (.iconst 0, 1) := by decide +kernel
theorem dX7_firstLack_1 : decode mX7_firstLack.2.1 1 = .ok (.istore_n 3, 1) := by decide +kernel
theorem dX7_firstLack_2 : decode mX7_firstLack.2.1 2 = .ok (.iload_n 3, 1) := by decide +kernel
theorem dX7_firstLack_3 : decode mX7_firstLack.2.1 3 = .ok (.aload_n 0, 1) := by decide +kernel
theorem dX7_firstLack_4 : decode mX7_firstLack.2.1 4 = .ok (.getfield 58, 3) := by decide +kernel
theorem dX7_firstLack_7 : decode mX7_firstLack.2.1 7 = .ok (.if_icmp .ge 59, 3) := by decide +kernel
theorem dX7_firstLack_10 : decode mX7_firstLack.2.1 10 = .ok (.aload_n 2, 1) := by decide +kernel
theorem dX7_firstLack_11 : decode mX7_firstLack.2.1 11 = .ok (.getfield 120, 3) := by decide +kernel
theorem dX7_firstLack_14 : decode mX7_firstLack.2.1 14 = .ok (.iload_n 3, 1) := by decide +kernel
theorem dX7_firstLack_15 : decode mX7_firstLack.2.1 15 = .ok (.invokevirtual 304, 3) := by decide +kernel
theorem dX7_firstLack_18 : decode mX7_firstLack.2.1 18 = .ok (.ifnull 42, 3) := by decide +kernel
theorem dX7_firstLack_21 : decode mX7_firstLack.2.1 21 = .ok (.aload_n 0, 1) := by decide +kernel
theorem dX7_firstLack_22 : decode mX7_firstLack.2.1 22 = .ok (.getfield 17, 3) := by decide +kernel
theorem dX7_firstLack_25 : decode mX7_firstLack.2.1 25 = .ok (.iload_n 3, 1) := by decide +kernel
theorem dX7_firstLack_26 : decode mX7_firstLack.2.1 26 = .ok (.aaload, 1) := by decide +kernel
theorem dX7_firstLack_27 : decode mX7_firstLack.2.1 27 = .ok (.getfield 132, 3) := by decide +kernel
theorem dX7_firstLack_30 : decode mX7_firstLack.2.1 30 = .ok (.iload_n 1, 1) := by decide +kernel
theorem dX7_firstLack_31 : decode mX7_firstLack.2.1 31 = .ok (.invokestatic 218, 3) := by decide +kernel
theorem dX7_firstLack_34 : decode mX7_firstLack.2.1 34 = .ok (.ifCond .eq 26, 3) := by decide +kernel
theorem dX7_firstLack_37 : decode mX7_firstLack.2.1 37 = .ok (.aload_n 0, 1) := by decide +kernel
theorem dX7_firstLack_38 : decode mX7_firstLack.2.1 38 = .ok (.iload_n 1, 1) := by decide +kernel
theorem dX7_firstLack_39 : decode mX7_firstLack.2.1 39 = .ok (.aload_n 2, 1) := by decide +kernel
theorem dX7_firstLack_40 : decode mX7_firstLack.2.1 40 = .ok (.iload_n 3, 1) := by decide +kernel
theorem dX7_firstLack_41 : decode mX7_firstLack.2.1 41 = .ok (.invokevirtual 308, 3) := by decide +kernel
theorem dX7_firstLack_44 : decode mX7_firstLack.2.1 44 = .ok (.istore 4, 2) := by decide +kernel
theorem dX7_firstLack_46 : decode mX7_firstLack.2.1 46 = .ok (.iload 4, 2) := by decide +kernel
theorem dX7_firstLack_48 : decode mX7_firstLack.2.1 48 = .ok (.iconst (-1), 1) := by decide +kernel
theorem dX7_firstLack_49 : decode mX7_firstLack.2.1 49 = .ok (.if_icmp .eq 11, 3) := by decide +kernel
theorem dX7_firstLack_52 : decode mX7_firstLack.2.1 52 = .ok (.iload_n 3, 1) := by decide +kernel
theorem dX7_firstLack_53 : decode mX7_firstLack.2.1 53 = .ok (.bipush 8, 2) := by decide +kernel
theorem dX7_firstLack_55 : decode mX7_firstLack.2.1 55 = .ok (.imul, 1) := by decide +kernel
theorem dX7_firstLack_56 : decode mX7_firstLack.2.1 56 = .ok (.iload 4, 2) := by decide +kernel
theorem dX7_firstLack_58 : decode mX7_firstLack.2.1 58 = .ok (.iadd, 1) := by decide +kernel
theorem dX7_firstLack_59 : decode mX7_firstLack.2.1 59 = .ok (.ireturn, 1) := by decide +kernel
theorem dX7_firstLack_60 : decode mX7_firstLack.2.1 60 = .ok (.iinc 3 1, 3) := by decide +kernel
theorem dX7_firstLack_63 : decode mX7_firstLack.2.1 63 = .ok (.goto (-61), 3) := by decide +kernel
theorem dX7_firstLack_66 : decode mX7_firstLack.2.1 66 = .ok (.iconst (-1), 1) := by decide +kernel
theorem dX7_firstLack_67 : decode mX7_firstLack.2.1 67 = .ok (.ireturn, 1) := by decide +kernel
theorem dX7_firstLackIn_0 : decode mX7_firstLackIn.2.1 0 = .ok (.aload_n 0, 1) := by decide +kernel
theorem dX7_firstLackIn_1 : decode mX7_firstLackIn.2.1 1 = .ok (.getfield 11, 3) := by decide +kernel
theorem dX7_firstLackIn_4 : decode mX7_firstLackIn.2.1 4 = .ok (.iload_n 1, 1) := by decide +kernel
theorem dX7_firstLackIn_5 : decode mX7_firstLackIn.2.1 5 = .ok (.aaload, 1) := by decide +kernel
theorem dX7_firstLackIn_6 : decode mX7_firstLackIn.2.1 6 = .ok (.getfield 148, 3) := by decide +kernel
theorem dX7_firstLackIn_9 : decode mX7_firstLackIn.2.1 9 = .ok (.iload_n 3, 1) := by decide +kernel
theorem dX7_firstLackIn_10 : decode mX7_firstLackIn.2.1 10 = .ok (.aaload, 1) := by decide +kernel
theorem dX7_firstLackIn_11 : decode mX7_firstLackIn.2.1 11 = .ok (.astore 4, 2) := by decide +kernel
theorem dX7_firstLackIn_13 : decode mX7_firstLackIn.2.1 13 = .ok (.iconst 0, 1) := by decide +kernel
theorem dX7_firstLackIn_14 : decode mX7_firstLackIn.2.1 14 = .ok (.istore 5, 2) := by decide +kernel
theorem dX7_firstLackIn_16 : decode mX7_firstLackIn.2.1 16 = .ok (.iload 5, 2) := by decide +kernel
theorem dX7_firstLackIn_18 : decode mX7_firstLackIn.2.1 18 = .ok (.aload_n 0, 1) := by decide +kernel
theorem dX7_firstLackIn_19 : decode mX7_firstLackIn.2.1 19 = .ok (.getfield 42, 3) := by decide +kernel
theorem dX7_firstLackIn_22 : decode mX7_firstLackIn.2.1 22 = .ok (.if_icmp .ge 44, 3) := by decide +kernel
theorem dX7_firstLackIn_25 : decode mX7_firstLackIn.2.1 25 = .ok (.aload_n 0, 1) := by decide +kernel
theorem dX7_firstLackIn_26 : decode mX7_firstLackIn.2.1 26 = .ok (.getfield 17, 3) := by decide +kernel
theorem dX7_firstLackIn_29 : decode mX7_firstLackIn.2.1 29 = .ok (.iload_n 3, 1) := by decide +kernel
theorem dX7_firstLackIn_30 : decode mX7_firstLackIn.2.1 30 = .ok (.aaload, 1) := by decide +kernel
theorem dX7_firstLackIn_31 : decode mX7_firstLackIn.2.1 31 = .ok (.getfield 132, 3) := by decide +kernel
theorem dX7_firstLackIn_34 : decode mX7_firstLackIn.2.1 34 = .ok (.iload 5, 2) := by decide +kernel
theorem dX7_firstLackIn_36 : decode mX7_firstLackIn.2.1 36 = .ok (.invokestatic 218, 3) := by decide +kernel
theorem dX7_firstLackIn_39 : decode mX7_firstLackIn.2.1 39 = .ok (.ifCond .eq 21, 3) := by decide +kernel
theorem dX7_firstLackIn_42 : decode mX7_firstLackIn.2.1 42 = .ok (.aload 4, 2) := by decide +kernel
theorem dX7_firstLackIn_44 : decode mX7_firstLackIn.2.1 44 = .ok (.iload 5, 2) := by decide +kernel
theorem dX7_firstLackIn_46 : decode mX7_firstLackIn.2.1 46 = .ok (.iaload, 1) := by decide +kernel
theorem dX7_firstLackIn_47 : decode mX7_firstLackIn.2.1 47 = .ok (.aload_n 2, 1) := by decide +kernel
theorem dX7_firstLackIn_48 : decode mX7_firstLackIn.2.1 48 = .ok (.iload_n 3, 1) := by decide +kernel
theorem dX7_firstLackIn_49 : decode mX7_firstLackIn.2.1 49 = .ok (.iload 5, 2) := by decide +kernel
theorem dX7_firstLackIn_51 : decode mX7_firstLackIn.2.1 51 = .ok (.invokevirtual 165, 3) := by decide +kernel
theorem dX7_firstLackIn_54 : decode mX7_firstLackIn.2.1 54 = .ok (.if_icmp .ge 6, 3) := by decide +kernel
theorem dX7_firstLackIn_57 : decode mX7_firstLackIn.2.1 57 = .ok (.iload 5, 2) := by decide +kernel
theorem dX7_firstLackIn_59 : decode mX7_firstLackIn.2.1 59 = .ok (.ireturn, 1) := by decide +kernel
theorem dX7_firstLackIn_60 : decode mX7_firstLackIn.2.1 60 = .ok (.iinc 5 1, 3) := by decide +kernel
theorem dX7_firstLackIn_63 : decode mX7_firstLackIn.2.1 63 = .ok (.goto (-47), 3) := by decide +kernel
theorem dX7_firstLackIn_66 : decode mX7_firstLackIn.2.1 66 = .ok (.iconst (-1), 1) := by decide +kernel
theorem dX7_firstLackIn_67 : decode mX7_firstLackIn.2.1 67 = .ok (.ireturn, 1) := by decide +kernel
theorem dX7_lacksOrder_0 : decode mX7_lacksOrder.2.1 0 = .ok (.aload_n 0, 1) := by decide +kernel
theorem dX7_lacksOrder_1 : decode mX7_lacksOrder.2.1 1 = .ok (.getfield 17, 3) := by decide +kernel
theorem dX7_lacksOrder_4 : decode mX7_lacksOrder.2.1 4 = .ok (.aload_n 2, 1) := by decide +kernel
theorem dX7_lacksOrder_5 : decode mX7_lacksOrder.2.1 5 = .ok (.getfield 105, 3) := by decide +kernel
theorem dX7_lacksOrder_8 : decode mX7_lacksOrder.2.1 8 = .ok (.aaload, 1) := by decide +kernel
theorem dX7_lacksOrder_9 : decode mX7_lacksOrder.2.1 9 = .ok (.getfield 135, 3) := by decide +kernel
theorem dX7_lacksOrder_12 : decode mX7_lacksOrder.2.1 12 = .ok (.istore_n 3, 1) := by decide +kernel
theorem dX7_lacksOrder_13 : decode mX7_lacksOrder.2.1 13 = .ok (.aload_n 2, 1) := by decide +kernel
theorem dX7_lacksOrder_14 : decode mX7_lacksOrder.2.1 14 = .ok (.getfield 102, 3) := by decide +kernel
theorem dX7_lacksOrder_17 : decode mX7_lacksOrder.2.1 17 = .ok (.iconst 2, 1) := by decide +kernel
theorem dX7_lacksOrder_18 : decode mX7_lacksOrder.2.1 18 = .ok (.if_icmp .ne 16, 3) := by decide +kernel
theorem dX7_lacksOrder_21 : decode mX7_lacksOrder.2.1 21 = .ok (.iload_n 1, 1) := by decide +kernel
theorem dX7_lacksOrder_22 : decode mX7_lacksOrder.2.1 22 = .ok (.iload_n 3, 1) := by decide +kernel
theorem dX7_lacksOrder_23 : decode mX7_lacksOrder.2.1 23 = .ok (.if_icmp .eq 11, 3) := by decide +kernel
theorem dX7_lacksOrder_26 : decode mX7_lacksOrder.2.1 26 = .ok (.aload_n 2, 1) := by decide +kernel
theorem dX7_lacksOrder_27 : decode mX7_lacksOrder.2.1 27 = .ok (.getfield 108, 3) := by decide +kernel
theorem dX7_lacksOrder_30 : decode mX7_lacksOrder.2.1 30 = .ok (.iload_n 3, 1) := by decide +kernel
theorem dX7_lacksOrder_31 : decode mX7_lacksOrder.2.1 31 = .ok (.if_icmp .ne 5, 3) := by decide +kernel
theorem dX7_lacksOrder_34 : decode mX7_lacksOrder.2.1 34 = .ok (.iconst 0, 1) := by decide +kernel
theorem dX7_lacksOrder_35 : decode mX7_lacksOrder.2.1 35 = .ok (.ireturn, 1) := by decide +kernel
theorem dX7_lacksOrder_36 : decode mX7_lacksOrder.2.1 36 = .ok (.aload_n 0, 1) := by decide +kernel
theorem dX7_lacksOrder_37 : decode mX7_lacksOrder.2.1 37 = .ok (.aload_n 2, 1) := by decide +kernel
theorem dX7_lacksOrder_38 : decode mX7_lacksOrder.2.1 38 = .ok (.getfield 311, 3) := by decide +kernel
theorem dX7_lacksOrder_41 : decode mX7_lacksOrder.2.1 41 = .ok (.invokevirtual 71, 3) := by decide +kernel
theorem dX7_lacksOrder_44 : decode mX7_lacksOrder.2.1 44 = .ok (.ifCond .eq 19, 3) := by decide +kernel
theorem dX7_lacksOrder_47 : decode mX7_lacksOrder.2.1 47 = .ok (.aload_n 0, 1) := by decide +kernel
theorem dX7_lacksOrder_48 : decode mX7_lacksOrder.2.1 48 = .ok (.getfield 23, 3) := by decide +kernel
theorem dX7_lacksOrder_51 : decode mX7_lacksOrder.2.1 51 = .ok (.aload_n 2, 1) := by decide +kernel
theorem dX7_lacksOrder_52 : decode mX7_lacksOrder.2.1 52 = .ok (.getfield 311, 3) := by decide +kernel
theorem dX7_lacksOrder_55 : decode mX7_lacksOrder.2.1 55 = .ok (.aaload, 1) := by decide +kernel
theorem dX7_lacksOrder_56 : decode mX7_lacksOrder.2.1 56 = .ok (.iload_n 1, 1) := by decide +kernel
theorem dX7_lacksOrder_57 : decode mX7_lacksOrder.2.1 57 = .ok (.invokevirtual 256, 3) := by decide +kernel
theorem dX7_lacksOrder_60 : decode mX7_lacksOrder.2.1 60 = .ok (.ifCond .ne 7, 3) := by decide +kernel
theorem dX7_lacksOrder_63 : decode mX7_lacksOrder.2.1 63 = .ok (.iconst 1, 1) := by decide +kernel
theorem dX7_lacksOrder_64 : decode mX7_lacksOrder.2.1 64 = .ok (.goto 4, 3) := by decide +kernel
theorem dX7_lacksOrder_67 : decode mX7_lacksOrder.2.1 67 = .ok (.iconst 0, 1) := by decide +kernel
theorem dX7_lacksOrder_68 : decode mX7_lacksOrder.2.1 68 = .ok (.ireturn, 1) := by decide +kernel
theorem dX7_lacksLowerPlace_0 : decode mX7_lacksLowerPlace.2.1 0 = .ok (.aload_n 2, 1) := by decide +kernel
theorem dX7_lacksLowerPlace_1 : decode mX7_lacksLowerPlace.2.1 1 = .ok (.getfield 102, 3) := by decide +kernel
theorem dX7_lacksLowerPlace_4 : decode mX7_lacksLowerPlace.2.1 4 = .ok (.iconst 2, 1) := by decide +kernel
theorem dX7_lacksLowerPlace_5 : decode mX7_lacksLowerPlace.2.1 5 = .ok (.if_icmp .ne 19, 3) := by decide +kernel
theorem dX7_lacksLowerPlace_8 : decode mX7_lacksLowerPlace.2.1 8 = .ok (.iload_n 1, 1) := by decide +kernel
theorem dX7_lacksLowerPlace_9 : decode mX7_lacksLowerPlace.2.1 9 = .ok (.aload_n 0, 1) := by decide +kernel
theorem dX7_lacksLowerPlace_10 : decode mX7_lacksLowerPlace.2.1 10 = .ok (.getfield 17, 3) := by decide +kernel
theorem dX7_lacksLowerPlace_13 : decode mX7_lacksLowerPlace.2.1 13 = .ok (.aload_n 2, 1) := by decide +kernel
theorem dX7_lacksLowerPlace_14 : decode mX7_lacksLowerPlace.2.1 14 = .ok (.getfield 105, 3) := by decide +kernel
theorem dX7_lacksLowerPlace_17 : decode mX7_lacksLowerPlace.2.1 17 = .ok (.aaload, 1) := by decide +kernel
theorem dX7_lacksLowerPlace_18 : decode mX7_lacksLowerPlace.2.1 18 = .ok (.getfield 135, 3) := by decide +kernel
theorem dX7_lacksLowerPlace_21 : decode mX7_lacksLowerPlace.2.1 21 = .ok (.if_icmp .ne 5, 3) := by decide +kernel
theorem dX7_lacksLowerPlace_24 : decode mX7_lacksLowerPlace.2.1 24 = .ok (.iconst 0, 1) := by decide +kernel
theorem dX7_lacksLowerPlace_25 : decode mX7_lacksLowerPlace.2.1 25 = .ok (.ireturn, 1) := by decide +kernel
theorem dX7_lacksLowerPlace_26 : decode mX7_lacksLowerPlace.2.1 26 = .ok (.aload_n 0, 1) := by decide +kernel
theorem dX7_lacksLowerPlace_27 : decode mX7_lacksLowerPlace.2.1 27 = .ok (.getfield 11, 3) := by decide +kernel
theorem dX7_lacksLowerPlace_30 : decode mX7_lacksLowerPlace.2.1 30 = .ok (.iload_n 1, 1) := by decide +kernel
theorem dX7_lacksLowerPlace_31 : decode mX7_lacksLowerPlace.2.1 31 = .ok (.aaload, 1) := by decide +kernel
theorem dX7_lacksLowerPlace_32 : decode mX7_lacksLowerPlace.2.1 32 = .ok (.getfield 314, 3) := by decide +kernel
theorem dX7_lacksLowerPlace_35 : decode mX7_lacksLowerPlace.2.1 35 = .ok (.aload_n 2, 1) := by decide +kernel
theorem dX7_lacksLowerPlace_36 : decode mX7_lacksLowerPlace.2.1 36 = .ok (.getfield 105, 3) := by decide +kernel
theorem dX7_lacksLowerPlace_39 : decode mX7_lacksLowerPlace.2.1 39 = .ok (.iaload, 1) := by decide +kernel
theorem dX7_lacksLowerPlace_40 : decode mX7_lacksLowerPlace.2.1 40 = .ok (.aload_n 2, 1) := by decide +kernel
theorem dX7_lacksLowerPlace_41 : decode mX7_lacksLowerPlace.2.1 41 = .ok (.getfield 117, 3) := by decide +kernel
theorem dX7_lacksLowerPlace_44 : decode mX7_lacksLowerPlace.2.1 44 = .ok (.if_icmp .ge 7, 3) := by decide +kernel
theorem dX7_lacksLowerPlace_47 : decode mX7_lacksLowerPlace.2.1 47 = .ok (.iconst 1, 1) := by decide +kernel
theorem dX7_lacksLowerPlace_48 : decode mX7_lacksLowerPlace.2.1 48 = .ok (.goto 4, 3) := by decide +kernel
theorem dX7_lacksLowerPlace_51 : decode mX7_lacksLowerPlace.2.1 51 = .ok (.iconst 0, 1) := by decide +kernel
theorem dX7_lacksLowerPlace_52 : decode mX7_lacksLowerPlace.2.1 52 = .ok (.ireturn, 1) := by decide +kernel
theorem dX7_whySealed_0 : decode mX7_whySealed.2.1 0 = .ok (.iload_n 3, 1) := by decide +kernel
theorem dX7_whySealed_1 : decode mX7_whySealed.2.1 1 = .ok (.iconst 2, 1) := by decide +kernel
theorem dX7_whySealed_2 : decode mX7_whySealed.2.1 2 = .ok (.if_icmp .eq 6, 3) := by decide +kernel
theorem dX7_whySealed_5 : decode mX7_whySealed.2.1 5 = .ok (.bipush (-2), 2) := by decide +kernel
theorem dX7_whySealed_7 : decode mX7_whySealed.2.1 7 = .ok (.ireturn, 1) := by decide +kernel
theorem dX7_whySealed_8 : decode mX7_whySealed.2.1 8 = .ok (.aload_n 0, 1) := by decide +kernel
theorem dX7_whySealed_9 : decode mX7_whySealed.2.1 9 = .ok (.iload_n 1, 1) := by decide +kernel
theorem dX7_whySealed_10 : decode mX7_whySealed.2.1 10 = .ok (.aload_n 2, 1) := by decide +kernel
theorem dX7_whySealed_11 : decode mX7_whySealed.2.1 11 = .ok (.invokevirtual 298, 3) := by decide +kernel
theorem dX7_whySealed_14 : decode mX7_whySealed.2.1 14 = .ok (.ifCond .eq 7, 3) := by decide +kernel
theorem dX7_whySealed_17 : decode mX7_whySealed.2.1 17 = .ok (.iconst 0, 1) := by decide +kernel
theorem dX7_whySealed_18 : decode mX7_whySealed.2.1 18 = .ok (.goto 4, 3) := by decide +kernel
theorem dX7_whySealed_21 : decode mX7_whySealed.2.1 21 = .ok (.iconst 1, 1) := by decide +kernel
theorem dX7_whySealed_22 : decode mX7_whySealed.2.1 22 = .ok (.ireturn, 1) := by decide +kernel
theorem dX7_writeOrderIfDue_0 : decode mX7_writeOrderIfDue.2.1 0 = .ok (.aload_n 0, 1) := by decide +kernel
theorem dX7_writeOrderIfDue_1 : decode mX7_writeOrderIfDue.2.1 1 = .ok (.getfield 17, 3) := by decide +kernel
theorem dX7_writeOrderIfDue_4 : decode mX7_writeOrderIfDue.2.1 4 = .ok (.aload_n 2, 1) := by decide +kernel
theorem dX7_writeOrderIfDue_5 : decode mX7_writeOrderIfDue.2.1 5 = .ok (.getfield 105, 3) := by decide +kernel
theorem dX7_writeOrderIfDue_8 : decode mX7_writeOrderIfDue.2.1 8 = .ok (.aaload, 1) := by decide +kernel
theorem dX7_writeOrderIfDue_9 : decode mX7_writeOrderIfDue.2.1 9 = .ok (.astore_n 3, 1) := by decide +kernel
theorem dX7_writeOrderIfDue_10 : decode mX7_writeOrderIfDue.2.1 10 = .ok (.aload_n 2, 1) := by decide +kernel
theorem dX7_writeOrderIfDue_11 : decode mX7_writeOrderIfDue.2.1 11 = .ok (.getfield 102, 3) := by decide +kernel
theorem dX7_writeOrderIfDue_14 : decode mX7_writeOrderIfDue.2.1 14 = .ok (.iconst 2, 1) := by decide +kernel
theorem dX7_writeOrderIfDue_15 : decode mX7_writeOrderIfDue.2.1 15 = .ok (.if_icmp .ne 11, 3) := by decide +kernel
theorem dX7_writeOrderIfDue_18 : decode mX7_writeOrderIfDue.2.1 18 = .ok (.iload_n 1, 1) := by decide +kernel
theorem dX7_writeOrderIfDue_19 : decode mX7_writeOrderIfDue.2.1 19 = .ok (.aload_n 3, 1) := by decide +kernel
theorem dX7_writeOrderIfDue_20 : decode mX7_writeOrderIfDue.2.1 20 = .ok (.getfield 135, 3) := by decide +kernel
theorem dX7_writeOrderIfDue_23 : decode mX7_writeOrderIfDue.2.1 23 = .ok (.if_icmp .eq 4, 3) := by decide +kernel
theorem dX7_writeOrderIfDue_26 : decode mX7_writeOrderIfDue.2.1 26 = .ok (.return_, 1) := by decide +kernel
theorem dX7_writeOrderIfDue_27 : decode mX7_writeOrderIfDue.2.1 27 = .ok (.aload_n 2, 1) := by decide +kernel
theorem dX7_writeOrderIfDue_28 : decode mX7_writeOrderIfDue.2.1 28 = .ok (.aload_n 3, 1) := by decide +kernel
theorem dX7_writeOrderIfDue_29 : decode mX7_writeOrderIfDue.2.1 29 = .ok (.getfield 138, 3) := by decide +kernel
theorem dX7_writeOrderIfDue_32 : decode mX7_writeOrderIfDue.2.1 32 = .ok (.putfield 117, 3) := by decide +kernel
theorem dX7_writeOrderIfDue_35 : decode mX7_writeOrderIfDue.2.1 35 = .ok (.aload_n 3, 1) := by decide +kernel
theorem dX7_writeOrderIfDue_36 : decode mX7_writeOrderIfDue.2.1 36 = .ok (.dup, 1) := by decide +kernel
theorem dX7_writeOrderIfDue_37 : decode mX7_writeOrderIfDue.2.1 37 = .ok (.getfield 138, 3) := by decide +kernel
theorem dX7_writeOrderIfDue_40 : decode mX7_writeOrderIfDue.2.1 40 = .ok (.iconst 1, 1) := by decide +kernel
theorem dX7_writeOrderIfDue_41 : decode mX7_writeOrderIfDue.2.1 41 = .ok (.iadd, 1) := by decide +kernel
theorem dX7_writeOrderIfDue_42 : decode mX7_writeOrderIfDue.2.1 42 = .ok (.putfield 138, 3) := by decide +kernel
theorem dX7_writeOrderIfDue_45 : decode mX7_writeOrderIfDue.2.1 45 = .ok (.aload_n 2, 1) := by decide +kernel
theorem dX7_writeOrderIfDue_46 : decode mX7_writeOrderIfDue.2.1 46 = .ok (.aload_n 0, 1) := by decide +kernel
theorem dX7_writeOrderIfDue_47 : decode mX7_writeOrderIfDue.2.1 47 = .ok (.getfield 95, 3) := by decide +kernel
theorem dX7_writeOrderIfDue_50 : decode mX7_writeOrderIfDue.2.1 50 = .ok (.putfield 311, 3) := by decide +kernel
theorem dX7_writeOrderIfDue_53 : decode mX7_writeOrderIfDue.2.1 53 = .ok (.aload_n 0, 1) := by decide +kernel
theorem dX7_writeOrderIfDue_54 : decode mX7_writeOrderIfDue.2.1 54 = .ok (.getfield 11, 3) := by decide +kernel
theorem dX7_writeOrderIfDue_57 : decode mX7_writeOrderIfDue.2.1 57 = .ok (.iload_n 1, 1) := by decide +kernel
theorem dX7_writeOrderIfDue_58 : decode mX7_writeOrderIfDue.2.1 58 = .ok (.aaload, 1) := by decide +kernel
theorem dX7_writeOrderIfDue_59 : decode mX7_writeOrderIfDue.2.1 59 = .ok (.aload_n 2, 1) := by decide +kernel
theorem dX7_writeOrderIfDue_60 : decode mX7_writeOrderIfDue.2.1 60 = .ok (.getfield 105, 3) := by decide +kernel
theorem dX7_writeOrderIfDue_63 : decode mX7_writeOrderIfDue.2.1 63 = .ok (.invokevirtual 228, 3) := by decide +kernel
theorem dX7_writeOrderIfDue_66 : decode mX7_writeOrderIfDue.2.1 66 = .ok (.istore 4, 2) := by decide +kernel
theorem dX7_writeOrderIfDue_68 : decode mX7_writeOrderIfDue.2.1 68 = .ok (.aload_n 0, 1) := by decide +kernel
theorem dX7_writeOrderIfDue_69 : decode mX7_writeOrderIfDue.2.1 69 = .ok (.new 21, 3) := by decide +kernel
theorem dX7_writeOrderIfDue_72 : decode mX7_writeOrderIfDue.2.1 72 = .ok (.dup, 1) := by decide +kernel
theorem dX7_writeOrderIfDue_73 : decode mX7_writeOrderIfDue.2.1 73 = .ok (.aload_n 0, 1) := by decide +kernel
theorem dX7_writeOrderIfDue_74 : decode mX7_writeOrderIfDue.2.1 74 = .ok (.getfield 95, 3) := by decide +kernel
theorem dX7_writeOrderIfDue_77 : decode mX7_writeOrderIfDue.2.1 77 = .ok (.iconst 3, 1) := by decide +kernel
theorem dX7_writeOrderIfDue_78 : decode mX7_writeOrderIfDue.2.1 78 = .ok (.aload_n 2, 1) := by decide +kernel
theorem dX7_writeOrderIfDue_79 : decode mX7_writeOrderIfDue.2.1 79 = .ok (.getfield 105, 3) := by decide +kernel
theorem dX7_writeOrderIfDue_82 : decode mX7_writeOrderIfDue.2.1 82 = .ok (.iload_n 1, 1) := by decide +kernel
theorem dX7_writeOrderIfDue_83 : decode mX7_writeOrderIfDue.2.1 83 = .ok (.iload 4, 2) := by decide +kernel
theorem dX7_writeOrderIfDue_85 : decode mX7_writeOrderIfDue.2.1 85 = .ok (.aload_n 2, 1) := by decide +kernel
theorem dX7_writeOrderIfDue_86 : decode mX7_writeOrderIfDue.2.1 86 = .ok (.getfield 253, 3) := by decide +kernel
theorem dX7_writeOrderIfDue_89 : decode mX7_writeOrderIfDue.2.1 89 = .ok (.aload_n 2, 1) := by decide +kernel
theorem dX7_writeOrderIfDue_90 : decode mX7_writeOrderIfDue.2.1 90 = .ok (.getfield 120, 3) := by decide +kernel
theorem dX7_writeOrderIfDue_93 : decode mX7_writeOrderIfDue.2.1 93 = .ok (.invokespecial 235, 3) := by decide +kernel
theorem dX7_writeOrderIfDue_96 : decode mX7_writeOrderIfDue.2.1 96 = .ok (.invokevirtual 246, 3) := by decide +kernel
theorem dX7_writeOrderIfDue_99 : decode mX7_writeOrderIfDue.2.1 99 = .ok (.return_, 1) := by decide +kernel
theorem dX7_standing_0 : decode mX7_standing.2.1 0 = .ok (.aload_n 0, 1) := by decide +kernel
theorem dX7_standing_1 : decode mX7_standing.2.1 1 = .ok (.getfield 17, 3) := by decide +kernel
theorem dX7_standing_4 : decode mX7_standing.2.1 4 = .ok (.aload_n 2, 1) := by decide +kernel
theorem dX7_standing_5 : decode mX7_standing.2.1 5 = .ok (.getfield 105, 3) := by decide +kernel
theorem dX7_standing_8 : decode mX7_standing.2.1 8 = .ok (.aaload, 1) := by decide +kernel
theorem dX7_standing_9 : decode mX7_standing.2.1 9 = .ok (.getfield 132, 3) := by decide +kernel
theorem dX7_standing_12 : decode mX7_standing.2.1 12 = .ok (.iload_n 1, 1) := by decide +kernel
theorem dX7_standing_13 : decode mX7_standing.2.1 13 = .ok (.invokestatic 218, 3) := by decide +kernel
theorem dX7_standing_16 : decode mX7_standing.2.1 16 = .ok (.ifCond .ne 5, 3) := by decide +kernel
theorem dX7_standing_19 : decode mX7_standing.2.1 19 = .ok (.iconst 0, 1) := by decide +kernel
theorem dX7_standing_20 : decode mX7_standing.2.1 20 = .ok (.ireturn, 1) := by decide +kernel
theorem dX7_standing_21 : decode mX7_standing.2.1 21 = .ok (.aload_n 2, 1) := by decide +kernel
theorem dX7_standing_22 : decode mX7_standing.2.1 22 = .ok (.iload_n 1, 1) := by decide +kernel
theorem dX7_standing_23 : decode mX7_standing.2.1 23 = .ok (.invokevirtual 78, 3) := by decide +kernel
theorem dX7_standing_26 : decode mX7_standing.2.1 26 = .ok (.ifCond .eq 5, 3) := by decide +kernel
theorem dX7_standing_29 : decode mX7_standing.2.1 29 = .ok (.iconst 1, 1) := by decide +kernel
theorem dX7_standing_30 : decode mX7_standing.2.1 30 = .ok (.ireturn, 1) := by decide +kernel
theorem dX7_standing_31 : decode mX7_standing.2.1 31 = .ok (.aload_n 2, 1) := by decide +kernel
theorem dX7_standing_32 : decode mX7_standing.2.1 32 = .ok (.iload_n 1, 1) := by decide +kernel
theorem dX7_standing_33 : decode mX7_standing.2.1 33 = .ok (.invokevirtual 256, 3) := by decide +kernel
theorem dX7_standing_36 : decode mX7_standing.2.1 36 = .ok (.ifCond .eq 7, 3) := by decide +kernel
theorem dX7_standing_39 : decode mX7_standing.2.1 39 = .ok (.iconst 3, 1) := by decide +kernel
theorem dX7_standing_40 : decode mX7_standing.2.1 40 = .ok (.goto 4, 3) := by decide +kernel
theorem dX7_standing_43 : decode mX7_standing.2.1 43 = .ok (.iconst 2, 1) := by decide +kernel
theorem dX7_standing_44 : decode mX7_standing.2.1 44 = .ok (.ireturn, 1) := by decide +kernel
theorem dX7_isCalm_0 : decode mX7_isCalm.2.1 0 = .ok (.iconst 0, 1) := by decide +kernel
theorem dX7_isCalm_1 : decode mX7_isCalm.2.1 1 = .ok (.istore_n 2, 1) := by decide +kernel
theorem dX7_isCalm_2 : decode mX7_isCalm.2.1 2 = .ok (.iload_n 2, 1) := by decide +kernel
theorem dX7_isCalm_3 : decode mX7_isCalm.2.1 3 = .ok (.aload_n 0, 1) := by decide +kernel
theorem dX7_isCalm_4 : decode mX7_isCalm.2.1 4 = .ok (.getfield 95, 3) := by decide +kernel
theorem dX7_isCalm_7 : decode mX7_isCalm.2.1 7 = .ok (.if_icmp .ge 45, 3) := by decide +kernel
theorem dX7_isCalm_10 : decode mX7_isCalm.2.1 10 = .ok (.aload_n 0, 1) := by decide +kernel
theorem dX7_isCalm_11 : decode mX7_isCalm.2.1 11 = .ok (.getfield 23, 3) := by decide +kernel
theorem dX7_isCalm_14 : decode mX7_isCalm.2.1 14 = .ok (.iload_n 2, 1) := by decide +kernel
theorem dX7_isCalm_15 : decode mX7_isCalm.2.1 15 = .ok (.aaload, 1) := by decide +kernel
theorem dX7_isCalm_16 : decode mX7_isCalm.2.1 16 = .ok (.getfield 105, 3) := by decide +kernel
theorem dX7_isCalm_19 : decode mX7_isCalm.2.1 19 = .ok (.iload_n 1, 1) := by decide +kernel
theorem dX7_isCalm_20 : decode mX7_isCalm.2.1 20 = .ok (.if_icmp .ne 26, 3) := by decide +kernel
theorem dX7_isCalm_23 : decode mX7_isCalm.2.1 23 = .ok (.aload_n 0, 1) := by decide +kernel
theorem dX7_isCalm_24 : decode mX7_isCalm.2.1 24 = .ok (.getfield 23, 3) := by decide +kernel
theorem dX7_isCalm_27 : decode mX7_isCalm.2.1 27 = .ok (.iload_n 2, 1) := by decide +kernel
theorem dX7_isCalm_28 : decode mX7_isCalm.2.1 28 = .ok (.aaload, 1) := by decide +kernel
theorem dX7_isCalm_29 : decode mX7_isCalm.2.1 29 = .ok (.getfield 291, 3) := by decide +kernel
theorem dX7_isCalm_32 : decode mX7_isCalm.2.1 32 = .ok (.aload_n 0, 1) := by decide +kernel
theorem dX7_isCalm_33 : decode mX7_isCalm.2.1 33 = .ok (.getfield 17, 3) := by decide +kernel
theorem dX7_isCalm_36 : decode mX7_isCalm.2.1 36 = .ok (.iload_n 1, 1) := by decide +kernel
theorem dX7_isCalm_37 : decode mX7_isCalm.2.1 37 = .ok (.aaload, 1) := by decide +kernel
theorem dX7_isCalm_38 : decode mX7_isCalm.2.1 38 = .ok (.getfield 132, 3) := by decide +kernel
theorem dX7_isCalm_41 : decode mX7_isCalm.2.1 41 = .ok (.if_icmp .eq 5, 3) := by decide +kernel
theorem dX7_isCalm_44 : decode mX7_isCalm.2.1 44 = .ok (.iconst 0, 1) := by decide +kernel
theorem dX7_isCalm_45 : decode mX7_isCalm.2.1 45 = .ok (.ireturn, 1) := by decide +kernel
theorem dX7_isCalm_46 : decode mX7_isCalm.2.1 46 = .ok (.iinc 2 1, 3) := by decide +kernel
theorem dX7_isCalm_49 : decode mX7_isCalm.2.1 49 = .ok (.goto (-47), 3) := by decide +kernel
theorem dX7_isCalm_52 : decode mX7_isCalm.2.1 52 = .ok (.iconst 1, 1) := by decide +kernel
theorem dX7_isCalm_53 : decode mX7_isCalm.2.1 53 = .ok (.ireturn, 1) := by decide +kernel
theorem dX7_longestRowTo_0 : decode mX7_longestRowTo.2.1 0 = .ok (.aload_n 0, 1) := by decide +kernel
theorem dX7_longestRowTo_1 : decode mX7_longestRowTo.2.1 1 = .ok (.getfield 23, 3) := by decide +kernel
theorem dX7_longestRowTo_4 : decode mX7_longestRowTo.2.1 4 = .ok (.iload_n 1, 1) := by decide +kernel
theorem dX7_longestRowTo_5 : decode mX7_longestRowTo.2.1 5 = .ok (.aaload, 1) := by decide +kernel
theorem dX7_longestRowTo_6 : decode mX7_longestRowTo.2.1 6 = .ok (.getfield 169, 3) := by decide +kernel
theorem dX7_longestRowTo_9 : decode mX7_longestRowTo.2.1 9 = .ok (.astore_n 3, 1) := by decide +kernel
theorem dX7_longestRowTo_10 : decode mX7_longestRowTo.2.1 10 = .ok (.aload_n 3, 1) := by decide +kernel
theorem dX7_longestRowTo_11 : decode mX7_longestRowTo.2.1 11 = .ok (.iload_n 2, 1) := by decide +kernel
theorem dX7_longestRowTo_12 : decode mX7_longestRowTo.2.1 12 = .ok (.invokevirtual 173, 3) := by decide +kernel
theorem dX7_longestRowTo_15 : decode mX7_longestRowTo.2.1 15 = .ok (.ifCond .ne 5, 3) := by decide +kernel
theorem dX7_longestRowTo_18 : decode mX7_longestRowTo.2.1 18 = .ok (.iconst 0, 1) := by decide +kernel
theorem dX7_longestRowTo_19 : decode mX7_longestRowTo.2.1 19 = .ok (.ireturn, 1) := by decide +kernel
theorem dX7_longestRowTo_20 : decode mX7_longestRowTo.2.1 20 = .ok (.iconst 1, 1) := by decide +kernel
theorem dX7_longestRowTo_21 : decode mX7_longestRowTo.2.1 21 = .ok (.istore 4, 2) := by decide +kernel
theorem dX7_longestRowTo_23 : decode mX7_longestRowTo.2.1 23 = .ok (.iload_n 2, 1) := by decide +kernel
theorem dX7_longestRowTo_24 : decode mX7_longestRowTo.2.1 24 = .ok (.istore 5, 2) := by decide +kernel
theorem dX7_longestRowTo_26 : decode mX7_longestRowTo.2.1 26 = .ok (.iload 5, 2) := by decide +kernel
theorem dX7_longestRowTo_28 : decode mX7_longestRowTo.2.1 28 = .ok (.iload_n 1, 1) := by decide +kernel
theorem dX7_longestRowTo_29 : decode mX7_longestRowTo.2.1 29 = .ok (.if_icmp .ge 39, 3) := by decide +kernel
theorem dX7_longestRowTo_32 : decode mX7_longestRowTo.2.1 32 = .ok (.aload_n 0, 1) := by decide +kernel
theorem dX7_longestRowTo_33 : decode mX7_longestRowTo.2.1 33 = .ok (.getfield 27, 3) := by decide +kernel
theorem dX7_longestRowTo_36 : decode mX7_longestRowTo.2.1 36 = .ok (.iload 5, 2) := by decide +kernel
theorem dX7_longestRowTo_38 : decode mX7_longestRowTo.2.1 38 = .ok (.iaload, 1) := by decide +kernel
theorem dX7_longestRowTo_39 : decode mX7_longestRowTo.2.1 39 = .ok (.iload 4, 2) := by decide +kernel
theorem dX7_longestRowTo_41 : decode mX7_longestRowTo.2.1 41 = .ok (.if_icmp .le 21, 3) := by decide +kernel
theorem dX7_longestRowTo_44 : decode mX7_longestRowTo.2.1 44 = .ok (.aload_n 3, 1) := by decide +kernel
theorem dX7_longestRowTo_45 : decode mX7_longestRowTo.2.1 45 = .ok (.iload 5, 2) := by decide +kernel
theorem dX7_longestRowTo_47 : decode mX7_longestRowTo.2.1 47 = .ok (.invokevirtual 173, 3) := by decide +kernel
theorem dX7_longestRowTo_50 : decode mX7_longestRowTo.2.1 50 = .ok (.ifCond .eq 12, 3) := by decide +kernel
theorem dX7_longestRowTo_53 : decode mX7_longestRowTo.2.1 53 = .ok (.aload_n 0, 1) := by decide +kernel
theorem dX7_longestRowTo_54 : decode mX7_longestRowTo.2.1 54 = .ok (.getfield 27, 3) := by decide +kernel
theorem dX7_longestRowTo_57 : decode mX7_longestRowTo.2.1 57 = .ok (.iload 5, 2) := by decide +kernel
theorem dX7_longestRowTo_59 : decode mX7_longestRowTo.2.1 59 = .ok (.iaload, 1) := by decide +kernel
theorem dX7_longestRowTo_60 : decode mX7_longestRowTo.2.1 60 = .ok (.istore 4, 2) := by decide +kernel
theorem dX7_longestRowTo_62 : decode mX7_longestRowTo.2.1 62 = .ok (.iinc 5 1, 3) := by decide +kernel
theorem dX7_longestRowTo_65 : decode mX7_longestRowTo.2.1 65 = .ok (.goto (-39), 3) := by decide +kernel
theorem dX7_longestRowTo_68 : decode mX7_longestRowTo.2.1 68 = .ok (.iload 4, 2) := by decide +kernel
theorem dX7_longestRowTo_70 : decode mX7_longestRowTo.2.1 70 = .ok (.iconst 1, 1) := by decide +kernel
theorem dX7_longestRowTo_71 : decode mX7_longestRowTo.2.1 71 = .ok (.iadd, 1) := by decide +kernel
theorem dX7_longestRowTo_72 : decode mX7_longestRowTo.2.1 72 = .ok (.ireturn, 1) := by decide +kernel
theorem dX7_perform_0 : decode mX7_perform.2.1 0 = .ok (.iload_n 2, 1) := by decide +kernel
theorem dX7_perform_1 : decode mX7_perform.2.1 1 = .ok (.iload_n 3, 1) := by decide +kernel
theorem dX7_perform_2 : decode mX7_perform.2.1 2 = .ok (.invokestatic 317, 3) := by decide +kernel
theorem dX7_perform_5 : decode mX7_perform.2.1 5 = .ok (.istore 6, 2) := by decide +kernel
theorem dX7_perform_7 : decode mX7_perform.2.1 7 = .ok (.iload 6, 2) := by decide +kernel
theorem dX7_perform_9 : decode mX7_perform.2.1 9 = .ok (.iconst (-1), 1) := by decide +kernel
theorem dX7_perform_10 : decode mX7_perform.2.1 10 = .ok (.if_icmp .eq 10, 3) := by decide +kernel
theorem dX7_perform_13 : decode mX7_perform.2.1 13 = .ok (.iload 5, 2) := by decide +kernel
theorem dX7_perform_15 : decode mX7_perform.2.1 15 = .ok (.bipush 40, 2) := by decide +kernel
theorem dX7_perform_17 : decode mX7_perform.2.1 17 = .ok (.if_icmp .le 5, 3) := by decide +kernel
theorem dX7_perform_20 : decode mX7_perform.2.1 20 = .ok (.iconst 0, 1) := by decide +kernel
theorem dX7_perform_21 : decode mX7_perform.2.1 21 = .ok (.ireturn, 1) := by decide +kernel
theorem dX7_perform_22 : decode mX7_perform.2.1 22 = .ok (.aload_n 0, 1) := by decide +kernel
theorem dX7_perform_23 : decode mX7_perform.2.1 23 = .ok (.getfield 102, 3) := by decide +kernel
theorem dX7_perform_26 : decode mX7_perform.2.1 26 = .ok (.istore 7, 2) := by decide +kernel
theorem dX7_perform_28 : decode mX7_perform.2.1 28 = .ok (.getstatic 320, 3) := by decide +kernel
theorem dX7_perform_31 : decode mX7_perform.2.1 31 = .ok (.iload 6, 2) := by decide +kernel
theorem dX7_perform_33 : decode mX7_perform.2.1 33 = .ok (.iaload, 1) := by decide +kernel
theorem dX7_perform_34 : decode mX7_perform.2.1 34 = .ok (.istore 8, 2) := by decide +kernel
theorem dX7_perform_36 : decode mX7_perform.2.1 36 = .ok (.iload 5, 2) := by decide +kernel
theorem dX7_perform_38 : decode mX7_perform.2.1 38 = .ok (.iconst 1, 1) := by decide +kernel
theorem dX7_perform_39 : decode mX7_perform.2.1 39 = .ok (.iadd, 1) := by decide +kernel
theorem dX7_perform_40 : decode mX7_perform.2.1 40 = .ok (.istore 9, 2) := by decide +kernel
theorem dX7_perform_42 : decode mX7_perform.2.1 42 = .ok (.getstatic 323, 3) := by decide +kernel
theorem dX7_perform_45 : decode mX7_perform.2.1 45 = .ok (.iload 6, 2) := by decide +kernel
theorem dX7_perform_47 : decode mX7_perform.2.1 47 = .ok (.iconst 4, 1) := by decide +kernel
theorem dX7_perform_48 : decode mX7_perform.2.1 48 = .ok (.imul, 1) := by decide +kernel
theorem dX7_perform_49 : decode mX7_perform.2.1 49 = .ok (.iload_n 3, 1) := by decide +kernel
theorem dX7_perform_50 : decode mX7_perform.2.1 50 = .ok (.iadd, 1) := by decide +kernel
theorem dX7_perform_51 : decode mX7_perform.2.1 51 = .ok (.iaload, 1) := by decide +kernel
theorem dX7_perform_52 : decode mX7_perform.2.1 52 = .ok (.istore 10, 2) := by decide +kernel
theorem dX7_perform_54 : decode mX7_perform.2.1 54 = .ok (.aload_n 1, 1) := by decide +kernel
theorem dX7_perform_55 : decode mX7_perform.2.1 55 = .ok (.iload 10, 2) := by decide +kernel
theorem dX7_perform_57 : decode mX7_perform.2.1 57 = .ok (.invokevirtual 326, 3) := by decide +kernel
theorem dX7_perform_60 : decode mX7_perform.2.1 60 = .ok (.iload 10, 2) := by decide +kernel
theorem dX7_perform_62 : decode mX7_perform.2.1 62 = .ok (.lookupswitch 340 #[(10, 106), (11, 114), (12, 127), (13, 153), (20, 171), (21, 191), (30, 206), (31, 226), (40, 247), (50, 267), (60, 284), (61, 312)], 106) := by decide +kernel
theorem dX7_perform_168 : decode mX7_perform.2.1 168 = .ok (.iload 4, 2) := by decide +kernel
theorem dX7_perform_170 : decode mX7_perform.2.1 170 = .ok (.aload_n 0, 1) := by decide +kernel
theorem dX7_perform_171 : decode mX7_perform.2.1 171 = .ok (.getfield 111, 3) := by decide +kernel
theorem dX7_perform_174 : decode mX7_perform.2.1 174 = .ok (.iadd, 1) := by decide +kernel
theorem dX7_perform_175 : decode mX7_perform.2.1 175 = .ok (.ireturn, 1) := by decide +kernel
theorem dX7_perform_176 : decode mX7_perform.2.1 176 = .ok (.iload 4, 2) := by decide +kernel
theorem dX7_perform_178 : decode mX7_perform.2.1 178 = .ok (.iconst 3, 1) := by decide +kernel
theorem dX7_perform_179 : decode mX7_perform.2.1 179 = .ok (.imul, 1) := by decide +kernel
theorem dX7_perform_180 : decode mX7_perform.2.1 180 = .ok (.aload_n 0, 1) := by decide +kernel
theorem dX7_perform_181 : decode mX7_perform.2.1 181 = .ok (.getfield 120, 3) := by decide +kernel
theorem dX7_perform_184 : decode mX7_perform.2.1 184 = .ok (.getfield 124, 3) := by decide +kernel
theorem dX7_perform_187 : decode mX7_perform.2.1 187 = .ok (.iadd, 1) := by decide +kernel
theorem dX7_perform_188 : decode mX7_perform.2.1 188 = .ok (.ireturn, 1) := by decide +kernel
theorem dX7_perform_189 : decode mX7_perform.2.1 189 = .ok (.aload_n 0, 1) := by decide +kernel
theorem dX7_perform_190 : decode mX7_perform.2.1 190 = .ok (.aload_n 1, 1) := by decide +kernel
theorem dX7_perform_191 : decode mX7_perform.2.1 191 = .ok (.iload 7, 2) := by decide +kernel
theorem dX7_perform_193 : decode mX7_perform.2.1 193 = .ok (.iconst 0, 1) := by decide +kernel
theorem dX7_perform_194 : decode mX7_perform.2.1 194 = .ok (.iload 4, 2) := by decide +kernel
theorem dX7_perform_196 : decode mX7_perform.2.1 196 = .ok (.iload 9, 2) := by decide +kernel
theorem dX7_perform_198 : decode mX7_perform.2.1 198 = .ok (.invokestatic 187, 3) := by decide +kernel
theorem dX7_perform_201 : decode mX7_perform.2.1 201 = .ok (.aload_n 0, 1) := by decide +kernel
theorem dX7_perform_202 : decode mX7_perform.2.1 202 = .ok (.aload_n 1, 1) := by decide +kernel
theorem dX7_perform_203 : decode mX7_perform.2.1 203 = .ok (.iload 7, 2) := by decide +kernel
theorem dX7_perform_205 : decode mX7_perform.2.1 205 = .ok (.iconst 1, 1) := by decide +kernel
theorem dX7_perform_206 : decode mX7_perform.2.1 206 = .ok (.iload 4, 2) := by decide +kernel
theorem dX7_perform_208 : decode mX7_perform.2.1 208 = .ok (.iload 9, 2) := by decide +kernel
theorem dX7_perform_210 : decode mX7_perform.2.1 210 = .ok (.invokestatic 187, 3) := by decide +kernel
theorem dX7_perform_213 : decode mX7_perform.2.1 213 = .ok (.iadd, 1) := by decide +kernel
theorem dX7_perform_214 : decode mX7_perform.2.1 214 = .ok (.ireturn, 1) := by decide +kernel
theorem dX7_perform_215 : decode mX7_perform.2.1 215 = .ok (.aload_n 0, 1) := by decide +kernel
theorem dX7_perform_216 : decode mX7_perform.2.1 216 = .ok (.aload_n 1, 1) := by decide +kernel
theorem dX7_perform_217 : decode mX7_perform.2.1 217 = .ok (.iload 7, 2) := by decide +kernel
theorem dX7_perform_219 : decode mX7_perform.2.1 219 = .ok (.iconst 2, 1) := by decide +kernel
theorem dX7_perform_220 : decode mX7_perform.2.1 220 = .ok (.iload 4, 2) := by decide +kernel
theorem dX7_perform_222 : decode mX7_perform.2.1 222 = .ok (.iconst 1, 1) := by decide +kernel
theorem dX7_perform_223 : decode mX7_perform.2.1 223 = .ok (.iadd, 1) := by decide +kernel
theorem dX7_perform_224 : decode mX7_perform.2.1 224 = .ok (.iload 9, 2) := by decide +kernel
theorem dX7_perform_226 : decode mX7_perform.2.1 226 = .ok (.invokestatic 187, 3) := by decide +kernel
theorem dX7_perform_229 : decode mX7_perform.2.1 229 = .ok (.iload 4, 2) := by decide +kernel
theorem dX7_perform_231 : decode mX7_perform.2.1 231 = .ok (.isub, 1) := by decide +kernel
theorem dX7_perform_232 : decode mX7_perform.2.1 232 = .ok (.ireturn, 1) := by decide +kernel
theorem dX7_perform_233 : decode mX7_perform.2.1 233 = .ok (.aload_n 0, 1) := by decide +kernel
theorem dX7_perform_234 : decode mX7_perform.2.1 234 = .ok (.aload_n 1, 1) := by decide +kernel
theorem dX7_perform_235 : decode mX7_perform.2.1 235 = .ok (.iload 8, 2) := by decide +kernel
theorem dX7_perform_237 : decode mX7_perform.2.1 237 = .ok (.iconst 0, 1) := by decide +kernel
theorem dX7_perform_238 : decode mX7_perform.2.1 238 = .ok (.iload 4, 2) := by decide +kernel
theorem dX7_perform_240 : decode mX7_perform.2.1 240 = .ok (.iload 9, 2) := by decide +kernel
theorem dX7_perform_242 : decode mX7_perform.2.1 242 = .ok (.invokestatic 187, 3) := by decide +kernel
theorem dX7_perform_245 : decode mX7_perform.2.1 245 = .ok (.iconst 2, 1) := by decide +kernel
theorem dX7_perform_246 : decode mX7_perform.2.1 246 = .ok (.imul, 1) := by decide +kernel
theorem dX7_perform_247 : decode mX7_perform.2.1 247 = .ok (.aload_n 0, 1) := by decide +kernel
theorem dX7_perform_248 : decode mX7_perform.2.1 248 = .ok (.getfield 114, 3) := by decide +kernel
theorem dX7_perform_251 : decode mX7_perform.2.1 251 = .ok (.iadd, 1) := by decide +kernel
theorem dX7_perform_252 : decode mX7_perform.2.1 252 = .ok (.ireturn, 1) := by decide +kernel
theorem dX7_perform_253 : decode mX7_perform.2.1 253 = .ok (.aload_n 0, 1) := by decide +kernel
theorem dX7_perform_254 : decode mX7_perform.2.1 254 = .ok (.aload_n 1, 1) := by decide +kernel
theorem dX7_perform_255 : decode mX7_perform.2.1 255 = .ok (.iload 8, 2) := by decide +kernel
theorem dX7_perform_257 : decode mX7_perform.2.1 257 = .ok (.iconst 3, 1) := by decide +kernel
theorem dX7_perform_258 : decode mX7_perform.2.1 258 = .ok (.iload 4, 2) := by decide +kernel
theorem dX7_perform_260 : decode mX7_perform.2.1 260 = .ok (.iload 9, 2) := by decide +kernel
theorem dX7_perform_262 : decode mX7_perform.2.1 262 = .ok (.invokestatic 187, 3) := by decide +kernel
theorem dX7_perform_265 : decode mX7_perform.2.1 265 = .ok (.iconst 5, 1) := by decide +kernel
theorem dX7_perform_266 : decode mX7_perform.2.1 266 = .ok (.ixor, 1) := by decide +kernel
theorem dX7_perform_267 : decode mX7_perform.2.1 267 = .ok (.ireturn, 1) := by decide +kernel
theorem dX7_perform_268 : decode mX7_perform.2.1 268 = .ok (.aload_n 0, 1) := by decide +kernel
theorem dX7_perform_269 : decode mX7_perform.2.1 269 = .ok (.aload_n 1, 1) := by decide +kernel
theorem dX7_perform_270 : decode mX7_perform.2.1 270 = .ok (.iload 8, 2) := by decide +kernel
theorem dX7_perform_272 : decode mX7_perform.2.1 272 = .ok (.iconst 1, 1) := by decide +kernel
theorem dX7_perform_273 : decode mX7_perform.2.1 273 = .ok (.iload 4, 2) := by decide +kernel
theorem dX7_perform_275 : decode mX7_perform.2.1 275 = .ok (.iconst 1, 1) := by decide +kernel
theorem dX7_perform_276 : decode mX7_perform.2.1 276 = .ok (.iadd, 1) := by decide +kernel
theorem dX7_perform_277 : decode mX7_perform.2.1 277 = .ok (.iload 9, 2) := by decide +kernel
theorem dX7_perform_279 : decode mX7_perform.2.1 279 = .ok (.invokestatic 187, 3) := by decide +kernel
theorem dX7_perform_282 : decode mX7_perform.2.1 282 = .ok (.aload_n 0, 1) := by decide +kernel
theorem dX7_perform_283 : decode mX7_perform.2.1 283 = .ok (.getfield 117, 3) := by decide +kernel
theorem dX7_perform_286 : decode mX7_perform.2.1 286 = .ok (.isub, 1) := by decide +kernel
theorem dX7_perform_287 : decode mX7_perform.2.1 287 = .ok (.ireturn, 1) := by decide +kernel
theorem dX7_perform_288 : decode mX7_perform.2.1 288 = .ok (.aload_n 0, 1) := by decide +kernel
theorem dX7_perform_289 : decode mX7_perform.2.1 289 = .ok (.aload_n 1, 1) := by decide +kernel
theorem dX7_perform_290 : decode mX7_perform.2.1 290 = .ok (.iload 8, 2) := by decide +kernel
theorem dX7_perform_292 : decode mX7_perform.2.1 292 = .ok (.iconst 2, 1) := by decide +kernel
theorem dX7_perform_293 : decode mX7_perform.2.1 293 = .ok (.iload 4, 2) := by decide +kernel
theorem dX7_perform_295 : decode mX7_perform.2.1 295 = .ok (.iload 9, 2) := by decide +kernel
theorem dX7_perform_297 : decode mX7_perform.2.1 297 = .ok (.invokestatic 187, 3) := by decide +kernel
theorem dX7_perform_300 : decode mX7_perform.2.1 300 = .ok (.aload_n 0, 1) := by decide +kernel
theorem dX7_perform_301 : decode mX7_perform.2.1 301 = .ok (.getfield 117, 3) := by decide +kernel
theorem dX7_perform_304 : decode mX7_perform.2.1 304 = .ok (.bipush 7, 2) := by decide +kernel
theorem dX7_perform_306 : decode mX7_perform.2.1 306 = .ok (.imul, 1) := by decide +kernel
theorem dX7_perform_307 : decode mX7_perform.2.1 307 = .ok (.iadd, 1) := by decide +kernel
theorem dX7_perform_308 : decode mX7_perform.2.1 308 = .ok (.ireturn, 1) := by decide +kernel
theorem dX7_perform_309 : decode mX7_perform.2.1 309 = .ok (.aload_n 0, 1) := by decide +kernel
theorem dX7_perform_310 : decode mX7_perform.2.1 310 = .ok (.aload_n 1, 1) := by decide +kernel
theorem dX7_perform_311 : decode mX7_perform.2.1 311 = .ok (.iload 8, 2) := by decide +kernel
theorem dX7_perform_313 : decode mX7_perform.2.1 313 = .ok (.iconst 0, 1) := by decide +kernel
theorem dX7_perform_314 : decode mX7_perform.2.1 314 = .ok (.iload 4, 2) := by decide +kernel
theorem dX7_perform_316 : decode mX7_perform.2.1 316 = .ok (.iconst 1, 1) := by decide +kernel
theorem dX7_perform_317 : decode mX7_perform.2.1 317 = .ok (.isub, 1) := by decide +kernel
theorem dX7_perform_318 : decode mX7_perform.2.1 318 = .ok (.iload 9, 2) := by decide +kernel
theorem dX7_perform_320 : decode mX7_perform.2.1 320 = .ok (.invokestatic 187, 3) := by decide +kernel
theorem dX7_perform_323 : decode mX7_perform.2.1 323 = .ok (.aload_n 0, 1) := by decide +kernel
theorem dX7_perform_324 : decode mX7_perform.2.1 324 = .ok (.getfield 114, 3) := by decide +kernel
theorem dX7_perform_327 : decode mX7_perform.2.1 327 = .ok (.iadd, 1) := by decide +kernel
theorem dX7_perform_328 : decode mX7_perform.2.1 328 = .ok (.ireturn, 1) := by decide +kernel
theorem dX7_perform_329 : decode mX7_perform.2.1 329 = .ok (.aload_n 0, 1) := by decide +kernel
theorem dX7_perform_330 : decode mX7_perform.2.1 330 = .ok (.aload_n 1, 1) := by decide +kernel
theorem dX7_perform_331 : decode mX7_perform.2.1 331 = .ok (.iload 8, 2) := by decide +kernel
theorem dX7_perform_333 : decode mX7_perform.2.1 333 = .ok (.iconst 2, 1) := by decide +kernel
theorem dX7_perform_334 : decode mX7_perform.2.1 334 = .ok (.iload 4, 2) := by decide +kernel
theorem dX7_perform_336 : decode mX7_perform.2.1 336 = .ok (.iconst 2, 1) := by decide +kernel
theorem dX7_perform_337 : decode mX7_perform.2.1 337 = .ok (.imul, 1) := by decide +kernel
theorem dX7_perform_338 : decode mX7_perform.2.1 338 = .ok (.iload 9, 2) := by decide +kernel
theorem dX7_perform_340 : decode mX7_perform.2.1 340 = .ok (.invokestatic 187, 3) := by decide +kernel
theorem dX7_perform_343 : decode mX7_perform.2.1 343 = .ok (.iconst 1, 1) := by decide +kernel
theorem dX7_perform_344 : decode mX7_perform.2.1 344 = .ok (.iadd, 1) := by decide +kernel
theorem dX7_perform_345 : decode mX7_perform.2.1 345 = .ok (.ireturn, 1) := by decide +kernel
theorem dX7_perform_346 : decode mX7_perform.2.1 346 = .ok (.aload_n 0, 1) := by decide +kernel
theorem dX7_perform_347 : decode mX7_perform.2.1 347 = .ok (.aload_n 1, 1) := by decide +kernel
theorem dX7_perform_348 : decode mX7_perform.2.1 348 = .ok (.iload 8, 2) := by decide +kernel
theorem dX7_perform_350 : decode mX7_perform.2.1 350 = .ok (.iconst 1, 1) := by decide +kernel
theorem dX7_perform_351 : decode mX7_perform.2.1 351 = .ok (.iload 4, 2) := by decide +kernel
theorem dX7_perform_353 : decode mX7_perform.2.1 353 = .ok (.iload 9, 2) := by decide +kernel
theorem dX7_perform_355 : decode mX7_perform.2.1 355 = .ok (.invokestatic 187, 3) := by decide +kernel
theorem dX7_perform_358 : decode mX7_perform.2.1 358 = .ok (.iconst 2, 1) := by decide +kernel
theorem dX7_perform_359 : decode mX7_perform.2.1 359 = .ok (.imul, 1) := by decide +kernel
theorem dX7_perform_360 : decode mX7_perform.2.1 360 = .ok (.aload_n 0, 1) := by decide +kernel
theorem dX7_perform_361 : decode mX7_perform.2.1 361 = .ok (.aload_n 1, 1) := by decide +kernel
theorem dX7_perform_362 : decode mX7_perform.2.1 362 = .ok (.iload 8, 2) := by decide +kernel
theorem dX7_perform_364 : decode mX7_perform.2.1 364 = .ok (.iconst 0, 1) := by decide +kernel
theorem dX7_perform_365 : decode mX7_perform.2.1 365 = .ok (.iload 4, 2) := by decide +kernel
theorem dX7_perform_367 : decode mX7_perform.2.1 367 = .ok (.iload 9, 2) := by decide +kernel
theorem dX7_perform_369 : decode mX7_perform.2.1 369 = .ok (.invokestatic 187, 3) := by decide +kernel
theorem dX7_perform_372 : decode mX7_perform.2.1 372 = .ok (.iadd, 1) := by decide +kernel
theorem dX7_perform_373 : decode mX7_perform.2.1 373 = .ok (.ireturn, 1) := by decide +kernel
theorem dX7_perform_374 : decode mX7_perform.2.1 374 = .ok (.aload_n 0, 1) := by decide +kernel
theorem dX7_perform_375 : decode mX7_perform.2.1 375 = .ok (.aload_n 1, 1) := by decide +kernel
theorem dX7_perform_376 : decode mX7_perform.2.1 376 = .ok (.iload 8, 2) := by decide +kernel
theorem dX7_perform_378 : decode mX7_perform.2.1 378 = .ok (.iconst 3, 1) := by decide +kernel
theorem dX7_perform_379 : decode mX7_perform.2.1 379 = .ok (.iload 4, 2) := by decide +kernel
theorem dX7_perform_381 : decode mX7_perform.2.1 381 = .ok (.iconst 2, 1) := by decide +kernel
theorem dX7_perform_382 : decode mX7_perform.2.1 382 = .ok (.iadd, 1) := by decide +kernel
theorem dX7_perform_383 : decode mX7_perform.2.1 383 = .ok (.iload 9, 2) := by decide +kernel
theorem dX7_perform_385 : decode mX7_perform.2.1 385 = .ok (.invokestatic 187, 3) := by decide +kernel
theorem dX7_perform_388 : decode mX7_perform.2.1 388 = .ok (.aload_n 0, 1) := by decide +kernel
theorem dX7_perform_389 : decode mX7_perform.2.1 389 = .ok (.aload_n 1, 1) := by decide +kernel
theorem dX7_perform_390 : decode mX7_perform.2.1 390 = .ok (.iload 7, 2) := by decide +kernel
theorem dX7_perform_392 : decode mX7_perform.2.1 392 = .ok (.iconst 1, 1) := by decide +kernel
theorem dX7_perform_393 : decode mX7_perform.2.1 393 = .ok (.iload 4, 2) := by decide +kernel
theorem dX7_perform_395 : decode mX7_perform.2.1 395 = .ok (.iload 9, 2) := by decide +kernel
theorem dX7_perform_397 : decode mX7_perform.2.1 397 = .ok (.invokestatic 187, 3) := by decide +kernel
theorem dX7_perform_400 : decode mX7_perform.2.1 400 = .ok (.iadd, 1) := by decide +kernel
theorem dX7_perform_401 : decode mX7_perform.2.1 401 = .ok (.ireturn, 1) := by decide +kernel
theorem dX7_perform_402 : decode mX7_perform.2.1 402 = .ok (.iconst 0, 1) := by decide +kernel
theorem dX7_perform_403 : decode mX7_perform.2.1 403 = .ok (.ireturn, 1) := by decide +kernel
theorem dX7_kindWithBody_0 : decode mX7_kindWithBody.2.1 0 = .ok (.iload_n 0, 1) := by decide +kernel
theorem dX7_kindWithBody_1 : decode mX7_kindWithBody.2.1 1 = .ok (.istore_n 2, 1) := by decide +kernel
theorem dX7_kindWithBody_2 : decode mX7_kindWithBody.2.1 2 = .ok (.iconst 0, 1) := by decide +kernel
theorem dX7_kindWithBody_3 : decode mX7_kindWithBody.2.1 3 = .ok (.istore_n 3, 1) := by decide +kernel
theorem dX7_kindWithBody_4 : decode mX7_kindWithBody.2.1 4 = .ok (.iload_n 3, 1) := by decide +kernel
theorem dX7_kindWithBody_5 : decode mX7_kindWithBody.2.1 5 = .ok (.bipush 6, 2) := by decide +kernel
theorem dX7_kindWithBody_7 : decode mX7_kindWithBody.2.1 7 = .ok (.if_icmp .ge 39, 3) := by decide +kernel
theorem dX7_kindWithBody_10 : decode mX7_kindWithBody.2.1 10 = .ok (.iload_n 2, 1) := by decide +kernel
theorem dX7_kindWithBody_11 : decode mX7_kindWithBody.2.1 11 = .ok (.ifCond .lt 35, 3) := by decide +kernel
theorem dX7_kindWithBody_14 : decode mX7_kindWithBody.2.1 14 = .ok (.iload_n 2, 1) := by decide +kernel
theorem dX7_kindWithBody_15 : decode mX7_kindWithBody.2.1 15 = .ok (.bipush 6, 2) := by decide +kernel
theorem dX7_kindWithBody_17 : decode mX7_kindWithBody.2.1 17 = .ok (.if_icmp .ge 29, 3) := by decide +kernel
theorem dX7_kindWithBody_20 : decode mX7_kindWithBody.2.1 20 = .ok (.getstatic 323, 3) := by decide +kernel
theorem dX7_kindWithBody_23 : decode mX7_kindWithBody.2.1 23 = .ok (.iload_n 2, 1) := by decide +kernel
theorem dX7_kindWithBody_24 : decode mX7_kindWithBody.2.1 24 = .ok (.iconst 4, 1) := by decide +kernel
theorem dX7_kindWithBody_25 : decode mX7_kindWithBody.2.1 25 = .ok (.imul, 1) := by decide +kernel
theorem dX7_kindWithBody_26 : decode mX7_kindWithBody.2.1 26 = .ok (.iload_n 1, 1) := by decide +kernel
theorem dX7_kindWithBody_27 : decode mX7_kindWithBody.2.1 27 = .ok (.iadd, 1) := by decide +kernel
theorem dX7_kindWithBody_28 : decode mX7_kindWithBody.2.1 28 = .ok (.iaload, 1) := by decide +kernel
theorem dX7_kindWithBody_29 : decode mX7_kindWithBody.2.1 29 = .ok (.ifCond .eq 5, 3) := by decide +kernel
theorem dX7_kindWithBody_32 : decode mX7_kindWithBody.2.1 32 = .ok (.iload_n 2, 1) := by decide +kernel
theorem dX7_kindWithBody_33 : decode mX7_kindWithBody.2.1 33 = .ok (.ireturn, 1) := by decide +kernel
theorem dX7_kindWithBody_34 : decode mX7_kindWithBody.2.1 34 = .ok (.getstatic 320, 3) := by decide +kernel
theorem dX7_kindWithBody_37 : decode mX7_kindWithBody.2.1 37 = .ok (.iload_n 2, 1) := by decide +kernel
theorem dX7_kindWithBody_38 : decode mX7_kindWithBody.2.1 38 = .ok (.iaload, 1) := by decide +kernel
theorem dX7_kindWithBody_39 : decode mX7_kindWithBody.2.1 39 = .ok (.istore_n 2, 1) := by decide +kernel
theorem dX7_kindWithBody_40 : decode mX7_kindWithBody.2.1 40 = .ok (.iinc 3 1, 3) := by decide +kernel
theorem dX7_kindWithBody_43 : decode mX7_kindWithBody.2.1 43 = .ok (.goto (-39), 3) := by decide +kernel
theorem dX7_kindWithBody_46 : decode mX7_kindWithBody.2.1 46 = .ok (.iconst (-1), 1) := by decide +kernel
theorem dX7_kindWithBody_47 : decode mX7_kindWithBody.2.1 47 = .ok (.ireturn, 1) := by decide +kernel
theorem dX7_isKindOrUnder_0 : decode mX7_isKindOrUnder.2.1 0 = .ok (.iload_n 0, 1) := by decide +kernel
theorem dX7_isKindOrUnder_1 : decode mX7_isKindOrUnder.2.1 1 = .ok (.istore_n 2, 1) := by decide +kernel
theorem dX7_isKindOrUnder_2 : decode mX7_isKindOrUnder.2.1 2 = .ok (.iconst 0, 1) := by decide +kernel
theorem dX7_isKindOrUnder_3 : decode mX7_isKindOrUnder.2.1 3 = .ok (.istore_n 3, 1) := by decide +kernel
theorem dX7_isKindOrUnder_4 : decode mX7_isKindOrUnder.2.1 4 = .ok (.iload_n 3, 1) := by decide +kernel
theorem dX7_isKindOrUnder_5 : decode mX7_isKindOrUnder.2.1 5 = .ok (.bipush 6, 2) := by decide +kernel
theorem dX7_isKindOrUnder_7 : decode mX7_isKindOrUnder.2.1 7 = .ok (.if_icmp .ge 32, 3) := by decide +kernel
theorem dX7_isKindOrUnder_10 : decode mX7_isKindOrUnder.2.1 10 = .ok (.iload_n 2, 1) := by decide +kernel
theorem dX7_isKindOrUnder_11 : decode mX7_isKindOrUnder.2.1 11 = .ok (.ifCond .lt 28, 3) := by decide +kernel
theorem dX7_isKindOrUnder_14 : decode mX7_isKindOrUnder.2.1 14 = .ok (.iload_n 2, 1) := by decide +kernel
theorem dX7_isKindOrUnder_15 : decode mX7_isKindOrUnder.2.1 15 = .ok (.bipush 6, 2) := by decide +kernel
theorem dX7_isKindOrUnder_17 : decode mX7_isKindOrUnder.2.1 17 = .ok (.if_icmp .ge 22, 3) := by decide +kernel
theorem dX7_isKindOrUnder_20 : decode mX7_isKindOrUnder.2.1 20 = .ok (.iload_n 2, 1) := by decide +kernel
theorem dX7_isKindOrUnder_21 : decode mX7_isKindOrUnder.2.1 21 = .ok (.iload_n 1, 1) := by decide +kernel
theorem dX7_isKindOrUnder_22 : decode mX7_isKindOrUnder.2.1 22 = .ok (.if_icmp .ne 5, 3) := by decide +kernel
theorem dX7_isKindOrUnder_25 : decode mX7_isKindOrUnder.2.1 25 = .ok (.iconst 1, 1) := by decide +kernel
theorem dX7_isKindOrUnder_26 : decode mX7_isKindOrUnder.2.1 26 = .ok (.ireturn, 1) := by decide +kernel
theorem dX7_isKindOrUnder_27 : decode mX7_isKindOrUnder.2.1 27 = .ok (.getstatic 320, 3) := by decide +kernel
theorem dX7_isKindOrUnder_30 : decode mX7_isKindOrUnder.2.1 30 = .ok (.iload_n 2, 1) := by decide +kernel
theorem dX7_isKindOrUnder_31 : decode mX7_isKindOrUnder.2.1 31 = .ok (.iaload, 1) := by decide +kernel
theorem dX7_isKindOrUnder_32 : decode mX7_isKindOrUnder.2.1 32 = .ok (.istore_n 2, 1) := by decide +kernel
theorem dX7_isKindOrUnder_33 : decode mX7_isKindOrUnder.2.1 33 = .ok (.iinc 3 1, 3) := by decide +kernel
theorem dX7_isKindOrUnder_36 : decode mX7_isKindOrUnder.2.1 36 = .ok (.goto (-32), 3) := by decide +kernel
theorem dX7_isKindOrUnder_39 : decode mX7_isKindOrUnder.2.1 39 = .ok (.iconst 0, 1) := by decide +kernel
theorem dX7_isKindOrUnder_40 : decode mX7_isKindOrUnder.2.1 40 = .ok (.ireturn, 1) := by decide +kernel
theorem dX7_forgeSerial_0 : decode mX7_forgeSerial.2.1 0 = .ok (.aload_n 1, 1) := by decide +kernel
theorem dX7_forgeSerial_1 : decode mX7_forgeSerial.2.1 1 = .ok (.ifnonnull 10, 3) := by decide +kernel
theorem dX7_forgeSerial_4 : decode mX7_forgeSerial.2.1 4 = .ok (.aload_n 0, 1) := by decide +kernel
theorem dX7_forgeSerial_5 : decode mX7_forgeSerial.2.1 5 = .ok (.bipush 10, 2) := by decide +kernel
theorem dX7_forgeSerial_7 : decode mX7_forgeSerial.2.1 7 = .ok (.invokevirtual 45, 3) := by decide +kernel
theorem dX7_forgeSerial_10 : decode mX7_forgeSerial.2.1 10 = .ok (.ireturn, 1) := by decide +kernel
theorem dX7_forgeSerial_11 : decode mX7_forgeSerial.2.1 11 = .ok (.aload_n 1, 1) := by decide +kernel
theorem dX7_forgeSerial_12 : decode mX7_forgeSerial.2.1 12 = .ok (.instanceof 21, 3) := by decide +kernel
theorem dX7_forgeSerial_15 : decode mX7_forgeSerial.2.1 15 = .ok (.ifCond .eq 33, 3) := by decide +kernel
theorem dX7_forgeSerial_18 : decode mX7_forgeSerial.2.1 18 = .ok (.aload_n 1, 1) := by decide +kernel
theorem dX7_forgeSerial_19 : decode mX7_forgeSerial.2.1 19 = .ok (.checkcast 21, 3) := by decide +kernel
theorem dX7_forgeSerial_22 : decode mX7_forgeSerial.2.1 22 = .ok (.astore_n 3, 1) := by decide +kernel
theorem dX7_forgeSerial_23 : decode mX7_forgeSerial.2.1 23 = .ok (.aload_n 3, 1) := by decide +kernel
theorem dX7_forgeSerial_24 : decode mX7_forgeSerial.2.1 24 = .ok (.getfield 102, 3) := by decide +kernel
theorem dX7_forgeSerial_27 : decode mX7_forgeSerial.2.1 27 = .ok (.iload_n 2, 1) := by decide +kernel
theorem dX7_forgeSerial_28 : decode mX7_forgeSerial.2.1 28 = .ok (.bipush 6, 2) := by decide +kernel
theorem dX7_forgeSerial_30 : decode mX7_forgeSerial.2.1 30 = .ok (.invokestatic 329, 3) := by decide +kernel
theorem dX7_forgeSerial_33 : decode mX7_forgeSerial.2.1 33 = .ok (.invokestatic 334, 3) := by decide +kernel
theorem dX7_forgeSerial_36 : decode mX7_forgeSerial.2.1 36 = .ok (.ifCond .eq 12, 3) := by decide +kernel
theorem dX7_forgeSerial_39 : decode mX7_forgeSerial.2.1 39 = .ok (.aload_n 0, 1) := by decide +kernel
theorem dX7_forgeSerial_40 : decode mX7_forgeSerial.2.1 40 = .ok (.aload_n 3, 1) := by decide +kernel
theorem dX7_forgeSerial_41 : decode mX7_forgeSerial.2.1 41 = .ok (.getfield 111, 3) := by decide +kernel
theorem dX7_forgeSerial_44 : decode mX7_forgeSerial.2.1 44 = .ok (.invokevirtual 50, 3) := by decide +kernel
theorem dX7_forgeSerial_47 : decode mX7_forgeSerial.2.1 47 = .ok (.ireturn, 1) := by decide +kernel
theorem dX7_forgeSerial_48 : decode mX7_forgeSerial.2.1 48 = .ok (.aload_n 0, 1) := by decide +kernel
theorem dX7_forgeSerial_49 : decode mX7_forgeSerial.2.1 49 = .ok (.bipush 11, 2) := by decide +kernel
theorem dX7_forgeSerial_51 : decode mX7_forgeSerial.2.1 51 = .ok (.invokevirtual 45, 3) := by decide +kernel
theorem dX7_forgeSerial_54 : decode mX7_forgeSerial.2.1 54 = .ok (.ireturn, 1) := by decide +kernel
theorem dX7_forgeCount_0 : decode mX7_forgeCount.2.1 0 = .ok (.aload_n 1, 1) := by decide +kernel
theorem dX7_forgeCount_1 : decode mX7_forgeCount.2.1 1 = .ok (.invokestatic 337, 3) := by decide +kernel
theorem dX7_forgeCount_4 : decode mX7_forgeCount.2.1 4 = .ok (.astore_n 3, 1) := by decide +kernel
theorem dX7_forgeCount_5 : decode mX7_forgeCount.2.1 5 = .ok (.aload_n 3, 1) := by decide +kernel
theorem dX7_forgeCount_6 : decode mX7_forgeCount.2.1 6 = .ok (.ifnonnull 9, 3) := by decide +kernel
theorem dX7_forgeCount_9 : decode mX7_forgeCount.2.1 9 = .ok (.aload_n 0, 1) := by decide +kernel
theorem dX7_forgeCount_10 : decode mX7_forgeCount.2.1 10 = .ok (.aload_n 1, 1) := by decide +kernel
theorem dX7_forgeCount_11 : decode mX7_forgeCount.2.1 11 = .ok (.invokevirtual 341, 3) := by decide +kernel
theorem dX7_forgeCount_14 : decode mX7_forgeCount.2.1 14 = .ok (.ireturn, 1) := by decide +kernel
theorem dX7_forgeCount_15 : decode mX7_forgeCount.2.1 15 = .ok (.iload_n 2, 1) := by decide +kernel
theorem dX7_forgeCount_16 : decode mX7_forgeCount.2.1 16 = .ok (.ifCond .lt 9, 3) := by decide +kernel
theorem dX7_forgeCount_19 : decode mX7_forgeCount.2.1 19 = .ok (.iload_n 2, 1) := by decide +kernel
theorem dX7_forgeCount_20 : decode mX7_forgeCount.2.1 20 = .ok (.aload_n 3, 1) := by decide +kernel
theorem dX7_forgeCount_21 : decode mX7_forgeCount.2.1 21 = .ok (.arraylength, 1) := by decide +kernel
theorem dX7_forgeCount_22 : decode mX7_forgeCount.2.1 22 = .ok (.if_icmp .lt 10, 3) := by decide +kernel
theorem dX7_forgeCount_25 : decode mX7_forgeCount.2.1 25 = .ok (.aload_n 0, 1) := by decide +kernel
theorem dX7_forgeCount_26 : decode mX7_forgeCount.2.1 26 = .ok (.bipush 12, 2) := by decide +kernel
theorem dX7_forgeCount_28 : decode mX7_forgeCount.2.1 28 = .ok (.invokevirtual 45, 3) := by decide +kernel
theorem dX7_forgeCount_31 : decode mX7_forgeCount.2.1 31 = .ok (.ireturn, 1) := by decide +kernel
theorem dX7_forgeCount_32 : decode mX7_forgeCount.2.1 32 = .ok (.aload_n 0, 1) := by decide +kernel
theorem dX7_forgeCount_33 : decode mX7_forgeCount.2.1 33 = .ok (.aload_n 3, 1) := by decide +kernel
theorem dX7_forgeCount_34 : decode mX7_forgeCount.2.1 34 = .ok (.iload_n 2, 1) := by decide +kernel
theorem dX7_forgeCount_35 : decode mX7_forgeCount.2.1 35 = .ok (.iaload, 1) := by decide +kernel
theorem dX7_forgeCount_36 : decode mX7_forgeCount.2.1 36 = .ok (.invokevirtual 50, 3) := by decide +kernel
theorem dX7_forgeCount_39 : decode mX7_forgeCount.2.1 39 = .ok (.ireturn, 1) := by decide +kernel
theorem dX7_forgeRowSum_0 : decode mX7_forgeRowSum.2.1 0 = .ok (.aload_n 1, 1) := by decide +kernel
theorem dX7_forgeRowSum_1 : decode mX7_forgeRowSum.2.1 1 = .ok (.instanceof 125, 3) := by decide +kernel
theorem dX7_forgeRowSum_4 : decode mX7_forgeRowSum.2.1 4 = .ok (.ifCond .eq 60, 3) := by decide +kernel
theorem dX7_forgeRowSum_7 : decode mX7_forgeRowSum.2.1 7 = .ok (.aload_n 1, 1) := by decide +kernel
theorem dX7_forgeRowSum_8 : decode mX7_forgeRowSum.2.1 8 = .ok (.checkcast 125, 3) := by decide +kernel
theorem dX7_forgeRowSum_11 : decode mX7_forgeRowSum.2.1 11 = .ok (.astore_n 3, 1) := by decide +kernel
theorem dX7_forgeRowSum_12 : decode mX7_forgeRowSum.2.1 12 = .ok (.iload_n 2, 1) := by decide +kernel
theorem dX7_forgeRowSum_13 : decode mX7_forgeRowSum.2.1 13 = .ok (.ifCond .lt 9, 3) := by decide +kernel
theorem dX7_forgeRowSum_16 : decode mX7_forgeRowSum.2.1 16 = .ok (.iload_n 2, 1) := by decide +kernel
theorem dX7_forgeRowSum_17 : decode mX7_forgeRowSum.2.1 17 = .ok (.bipush 6, 2) := by decide +kernel
theorem dX7_forgeRowSum_19 : decode mX7_forgeRowSum.2.1 19 = .ok (.if_icmp .lt 10, 3) := by decide +kernel
theorem dX7_forgeRowSum_22 : decode mX7_forgeRowSum.2.1 22 = .ok (.aload_n 0, 1) := by decide +kernel
theorem dX7_forgeRowSum_23 : decode mX7_forgeRowSum.2.1 23 = .ok (.bipush 12, 2) := by decide +kernel
theorem dX7_forgeRowSum_25 : decode mX7_forgeRowSum.2.1 25 = .ok (.invokevirtual 45, 3) := by decide +kernel
theorem dX7_forgeRowSum_28 : decode mX7_forgeRowSum.2.1 28 = .ok (.ireturn, 1) := by decide +kernel
theorem dX7_forgeRowSum_29 : decode mX7_forgeRowSum.2.1 29 = .ok (.aload_n 3, 1) := by decide +kernel
theorem dX7_forgeRowSum_30 : decode mX7_forgeRowSum.2.1 30 = .ok (.iload_n 2, 1) := by decide +kernel
theorem dX7_forgeRowSum_31 : decode mX7_forgeRowSum.2.1 31 = .ok (.invokevirtual 304, 3) := by decide +kernel
theorem dX7_forgeRowSum_34 : decode mX7_forgeRowSum.2.1 34 = .ok (.astore 4, 2) := by decide +kernel
theorem dX7_forgeRowSum_36 : decode mX7_forgeRowSum.2.1 36 = .ok (.aload 4, 2) := by decide +kernel
theorem dX7_forgeRowSum_38 : decode mX7_forgeRowSum.2.1 38 = .ok (.ifnonnull 12, 3) := by decide +kernel
theorem dX7_forgeRowSum_41 : decode mX7_forgeRowSum.2.1 41 = .ok (.aload_n 0, 1) := by decide +kernel
theorem dX7_forgeRowSum_42 : decode mX7_forgeRowSum.2.1 42 = .ok (.bipush 10, 2) := by decide +kernel
theorem dX7_forgeRowSum_44 : decode mX7_forgeRowSum.2.1 44 = .ok (.invokevirtual 45, 3) := by decide +kernel
theorem dX7_forgeRowSum_47 : decode mX7_forgeRowSum.2.1 47 = .ok (.goto 16, 3) := by decide +kernel
theorem dX7_forgeRowSum_50 : decode mX7_forgeRowSum.2.1 50 = .ok (.aload_n 0, 1) := by decide +kernel
theorem dX7_forgeRowSum_51 : decode mX7_forgeRowSum.2.1 51 = .ok (.aload 4, 2) := by decide +kernel
theorem dX7_forgeRowSum_53 : decode mX7_forgeRowSum.2.1 53 = .ok (.iconst 0, 1) := by decide +kernel
theorem dX7_forgeRowSum_54 : decode mX7_forgeRowSum.2.1 54 = .ok (.aload 4, 2) := by decide +kernel
theorem dX7_forgeRowSum_56 : decode mX7_forgeRowSum.2.1 56 = .ok (.arraylength, 1) := by decide +kernel
theorem dX7_forgeRowSum_57 : decode mX7_forgeRowSum.2.1 57 = .ok (.invokestatic 344, 3) := by decide +kernel
theorem dX7_forgeRowSum_60 : decode mX7_forgeRowSum.2.1 60 = .ok (.invokevirtual 50, 3) := by decide +kernel
theorem dX7_forgeRowSum_63 : decode mX7_forgeRowSum.2.1 63 = .ok (.ireturn, 1) := by decide +kernel
theorem dX7_forgeRowSum_64 : decode mX7_forgeRowSum.2.1 64 = .ok (.aload_n 0, 1) := by decide +kernel
theorem dX7_forgeRowSum_65 : decode mX7_forgeRowSum.2.1 65 = .ok (.aload_n 1, 1) := by decide +kernel
theorem dX7_forgeRowSum_66 : decode mX7_forgeRowSum.2.1 66 = .ok (.invokevirtual 341, 3) := by decide +kernel
theorem dX7_forgeRowSum_69 : decode mX7_forgeRowSum.2.1 69 = .ok (.ireturn, 1) := by decide +kernel
theorem dX7_forgeCopy_0 : decode mX7_forgeCopy.2.1 0 = .ok (.aload_n 1, 1) := by decide +kernel
theorem dX7_forgeCopy_1 : decode mX7_forgeCopy.2.1 1 = .ok (.invokestatic 337, 3) := by decide +kernel
theorem dX7_forgeCopy_4 : decode mX7_forgeCopy.2.1 4 = .ok (.astore_n 3, 1) := by decide +kernel
theorem dX7_forgeCopy_5 : decode mX7_forgeCopy.2.1 5 = .ok (.aload_n 3, 1) := by decide +kernel
theorem dX7_forgeCopy_6 : decode mX7_forgeCopy.2.1 6 = .ok (.ifnonnull 9, 3) := by decide +kernel
theorem dX7_forgeCopy_9 : decode mX7_forgeCopy.2.1 9 = .ok (.aload_n 0, 1) := by decide +kernel
theorem dX7_forgeCopy_10 : decode mX7_forgeCopy.2.1 10 = .ok (.aload_n 1, 1) := by decide +kernel
theorem dX7_forgeCopy_11 : decode mX7_forgeCopy.2.1 11 = .ok (.invokevirtual 341, 3) := by decide +kernel
theorem dX7_forgeCopy_14 : decode mX7_forgeCopy.2.1 14 = .ok (.ireturn, 1) := by decide +kernel
theorem dX7_forgeCopy_15 : decode mX7_forgeCopy.2.1 15 = .ok (.iload_n 2, 1) := by decide +kernel
theorem dX7_forgeCopy_16 : decode mX7_forgeCopy.2.1 16 = .ok (.ifCond .lt 19, 3) := by decide +kernel
theorem dX7_forgeCopy_19 : decode mX7_forgeCopy.2.1 19 = .ok (.iconst 2, 1) := by decide +kernel
theorem dX7_forgeCopy_20 : decode mX7_forgeCopy.2.1 20 = .ok (.iload_n 2, 1) := by decide +kernel
theorem dX7_forgeCopy_21 : decode mX7_forgeCopy.2.1 21 = .ok (.iadd, 1) := by decide +kernel
theorem dX7_forgeCopy_22 : decode mX7_forgeCopy.2.1 22 = .ok (.aload_n 3, 1) := by decide +kernel
theorem dX7_forgeCopy_23 : decode mX7_forgeCopy.2.1 23 = .ok (.arraylength, 1) := by decide +kernel
theorem dX7_forgeCopy_24 : decode mX7_forgeCopy.2.1 24 = .ok (.if_icmp .gt 11, 3) := by decide +kernel
theorem dX7_forgeCopy_27 : decode mX7_forgeCopy.2.1 27 = .ok (.iload_n 2, 1) := by decide +kernel
theorem dX7_forgeCopy_28 : decode mX7_forgeCopy.2.1 28 = .ok (.iload_n 2, 1) := by decide +kernel
theorem dX7_forgeCopy_29 : decode mX7_forgeCopy.2.1 29 = .ok (.iadd, 1) := by decide +kernel
theorem dX7_forgeCopy_30 : decode mX7_forgeCopy.2.1 30 = .ok (.bipush 8, 2) := by decide +kernel
theorem dX7_forgeCopy_32 : decode mX7_forgeCopy.2.1 32 = .ok (.if_icmp .le 10, 3) := by decide +kernel
theorem dX7_forgeCopy_35 : decode mX7_forgeCopy.2.1 35 = .ok (.aload_n 0, 1) := by decide +kernel
theorem dX7_forgeCopy_36 : decode mX7_forgeCopy.2.1 36 = .ok (.bipush 12, 2) := by decide +kernel
theorem dX7_forgeCopy_38 : decode mX7_forgeCopy.2.1 38 = .ok (.invokevirtual 45, 3) := by decide +kernel
theorem dX7_forgeCopy_41 : decode mX7_forgeCopy.2.1 41 = .ok (.ireturn, 1) := by decide +kernel
theorem dX7_forgeCopy_42 : decode mX7_forgeCopy.2.1 42 = .ok (.aload_n 0, 1) := by decide +kernel
theorem dX7_forgeCopy_43 : decode mX7_forgeCopy.2.1 43 = .ok (.aload_n 3, 1) := by decide +kernel
theorem dX7_forgeCopy_44 : decode mX7_forgeCopy.2.1 44 = .ok (.iconst 2, 1) := by decide +kernel
theorem dX7_forgeCopy_45 : decode mX7_forgeCopy.2.1 45 = .ok (.iconst 2, 1) := by decide +kernel
theorem dX7_forgeCopy_46 : decode mX7_forgeCopy.2.1 46 = .ok (.iload_n 2, 1) := by decide +kernel
theorem dX7_forgeCopy_47 : decode mX7_forgeCopy.2.1 47 = .ok (.iadd, 1) := by decide +kernel
theorem dX7_forgeCopy_48 : decode mX7_forgeCopy.2.1 48 = .ok (.invokestatic 344, 3) := by decide +kernel
theorem dX7_forgeCopy_51 : decode mX7_forgeCopy.2.1 51 = .ok (.invokevirtual 50, 3) := by decide +kernel
theorem dX7_forgeCopy_54 : decode mX7_forgeCopy.2.1 54 = .ok (.ireturn, 1) := by decide +kernel
theorem dX7_forgeStore_0 : decode mX7_forgeStore.2.1 0 = .ok (.aload_n 1, 1) := by decide +kernel
theorem dX7_forgeStore_1 : decode mX7_forgeStore.2.1 1 = .ok (.ifnonnull 9, 3) := by decide +kernel
theorem dX7_forgeStore_4 : decode mX7_forgeStore.2.1 4 = .ok (.aload_n 0, 1) := by decide +kernel
theorem dX7_forgeStore_5 : decode mX7_forgeStore.2.1 5 = .ok (.iconst 0, 1) := by decide +kernel
theorem dX7_forgeStore_6 : decode mX7_forgeStore.2.1 6 = .ok (.invokevirtual 50, 3) := by decide +kernel
theorem dX7_forgeStore_9 : decode mX7_forgeStore.2.1 9 = .ok (.ireturn, 1) := by decide +kernel
theorem dX7_forgeStore_10 : decode mX7_forgeStore.2.1 10 = .ok (.aload_n 1, 1) := by decide +kernel
theorem dX7_forgeStore_11 : decode mX7_forgeStore.2.1 11 = .ok (.instanceof 21, 3) := by decide +kernel
theorem dX7_forgeStore_14 : decode mX7_forgeStore.2.1 14 = .ok (.ifCond .eq 34, 3) := by decide +kernel
theorem dX7_forgeStore_17 : decode mX7_forgeStore.2.1 17 = .ok (.aload_n 1, 1) := by decide +kernel
theorem dX7_forgeStore_18 : decode mX7_forgeStore.2.1 18 = .ok (.checkcast 21, 3) := by decide +kernel
theorem dX7_forgeStore_21 : decode mX7_forgeStore.2.1 21 = .ok (.astore_n 2, 1) := by decide +kernel
theorem dX7_forgeStore_22 : decode mX7_forgeStore.2.1 22 = .ok (.aload_n 2, 1) := by decide +kernel
theorem dX7_forgeStore_23 : decode mX7_forgeStore.2.1 23 = .ok (.getfield 102, 3) := by decide +kernel
theorem dX7_forgeStore_26 : decode mX7_forgeStore.2.1 26 = .ok (.iconst 1, 1) := by decide +kernel
theorem dX7_forgeStore_27 : decode mX7_forgeStore.2.1 27 = .ok (.invokestatic 334, 3) := by decide +kernel
theorem dX7_forgeStore_30 : decode mX7_forgeStore.2.1 30 = .ok (.ifCond .eq 11, 3) := by decide +kernel
theorem dX7_forgeStore_33 : decode mX7_forgeStore.2.1 33 = .ok (.aload_n 0, 1) := by decide +kernel
theorem dX7_forgeStore_34 : decode mX7_forgeStore.2.1 34 = .ok (.iconst 1, 1) := by decide +kernel
theorem dX7_forgeStore_35 : decode mX7_forgeStore.2.1 35 = .ok (.invokevirtual 50, 3) := by decide +kernel
theorem dX7_forgeStore_38 : decode mX7_forgeStore.2.1 38 = .ok (.goto 9, 3) := by decide +kernel
theorem dX7_forgeStore_41 : decode mX7_forgeStore.2.1 41 = .ok (.aload_n 0, 1) := by decide +kernel
theorem dX7_forgeStore_42 : decode mX7_forgeStore.2.1 42 = .ok (.bipush 14, 2) := by decide +kernel
theorem dX7_forgeStore_44 : decode mX7_forgeStore.2.1 44 = .ok (.invokevirtual 45, 3) := by decide +kernel
theorem dX7_forgeStore_47 : decode mX7_forgeStore.2.1 47 = .ok (.ireturn, 1) := by decide +kernel
theorem dX7_forgeStore_48 : decode mX7_forgeStore.2.1 48 = .ok (.aload_n 0, 1) := by decide +kernel
theorem dX7_forgeStore_49 : decode mX7_forgeStore.2.1 49 = .ok (.bipush 11, 2) := by decide +kernel
theorem dX7_forgeStore_51 : decode mX7_forgeStore.2.1 51 = .ok (.invokevirtual 45, 3) := by decide +kernel
theorem dX7_forgeStore_54 : decode mX7_forgeStore.2.1 54 = .ok (.ireturn, 1) := by decide +kernel
theorem dX7_refuseAsClock_0 : decode mX7_refuseAsClock.2.1 0 = .ok (.aload_n 0, 1) := by decide +kernel
theorem dX7_refuseAsClock_1 : decode mX7_refuseAsClock.2.1 1 = .ok (.aload_n 1, 1) := by decide +kernel
theorem dX7_refuseAsClock_2 : decode mX7_refuseAsClock.2.1 2 = .ok (.instanceof 21, 3) := by decide +kernel
theorem dX7_refuseAsClock_5 : decode mX7_refuseAsClock.2.1 5 = .ok (.ifCond .eq 8, 3) := by decide +kernel
theorem dX7_refuseAsClock_8 : decode mX7_refuseAsClock.2.1 8 = .ok (.bipush 11, 2) := by decide +kernel
theorem dX7_refuseAsClock_10 : decode mX7_refuseAsClock.2.1 10 = .ok (.goto 5, 3) := by decide +kernel
theorem dX7_refuseAsClock_13 : decode mX7_refuseAsClock.2.1 13 = .ok (.bipush 10, 2) := by decide +kernel
theorem dX7_refuseAsClock_15 : decode mX7_refuseAsClock.2.1 15 = .ok (.invokevirtual 45, 3) := by decide +kernel
theorem dX7_refuseAsClock_18 : decode mX7_refuseAsClock.2.1 18 = .ok (.ireturn, 1) := by decide +kernel
theorem dX7_firstRowOf_0 : decode mX7_firstRowOf.2.1 0 = .ok (.aload_n 0, 1) := by decide +kernel
theorem dX7_firstRowOf_1 : decode mX7_firstRowOf.2.1 1 = .ok (.instanceof 125, 3) := by decide +kernel
theorem dX7_firstRowOf_4 : decode mX7_firstRowOf.2.1 4 = .ok (.ifCond .eq 15, 3) := by decide +kernel
theorem dX7_firstRowOf_7 : decode mX7_firstRowOf.2.1 7 = .ok (.aload_n 0, 1) := by decide +kernel
theorem dX7_firstRowOf_8 : decode mX7_firstRowOf.2.1 8 = .ok (.checkcast 125, 3) := by decide +kernel
theorem dX7_firstRowOf_11 : decode mX7_firstRowOf.2.1 11 = .ok (.astore_n 1, 1) := by decide +kernel
theorem dX7_firstRowOf_12 : decode mX7_firstRowOf.2.1 12 = .ok (.aload_n 1, 1) := by decide +kernel
theorem dX7_firstRowOf_13 : decode mX7_firstRowOf.2.1 13 = .ok (.invokevirtual 348, 3) := by decide +kernel
theorem dX7_firstRowOf_16 : decode mX7_firstRowOf.2.1 16 = .ok (.goto 4, 3) := by decide +kernel
theorem dX7_firstRowOf_19 : decode mX7_firstRowOf.2.1 19 = .ok (.aconst_null, 1) := by decide +kernel
theorem dX7_firstRowOf_20 : decode mX7_firstRowOf.2.1 20 = .ok (.areturn, 1) := by decide +kernel
theorem dX7_sum_0 : decode mX7_sum.2.1 0 = .ok (.iconst 0, 1) := by decide +kernel
theorem dX7_sum_1 : decode mX7_sum.2.1 1 = .ok (.istore_n 3, 1) := by decide +kernel
theorem dX7_sum_2 : decode mX7_sum.2.1 2 = .ok (.iload_n 1, 1) := by decide +kernel
theorem dX7_sum_3 : decode mX7_sum.2.1 3 = .ok (.istore 4, 2) := by decide +kernel
theorem dX7_sum_5 : decode mX7_sum.2.1 5 = .ok (.iload 4, 2) := by decide +kernel
theorem dX7_sum_7 : decode mX7_sum.2.1 7 = .ok (.iload_n 2, 1) := by decide +kernel
theorem dX7_sum_8 : decode mX7_sum.2.1 8 = .ok (.if_icmp .ge 23, 3) := by decide +kernel
theorem dX7_sum_11 : decode mX7_sum.2.1 11 = .ok (.iload 4, 2) := by decide +kernel
theorem dX7_sum_13 : decode mX7_sum.2.1 13 = .ok (.aload_n 0, 1) := by decide +kernel
theorem dX7_sum_14 : decode mX7_sum.2.1 14 = .ok (.arraylength, 1) := by decide +kernel
theorem dX7_sum_15 : decode mX7_sum.2.1 15 = .ok (.if_icmp .ge 16, 3) := by decide +kernel
theorem dX7_sum_18 : decode mX7_sum.2.1 18 = .ok (.iload_n 3, 1) := by decide +kernel
theorem dX7_sum_19 : decode mX7_sum.2.1 19 = .ok (.aload_n 0, 1) := by decide +kernel
theorem dX7_sum_20 : decode mX7_sum.2.1 20 = .ok (.iload 4, 2) := by decide +kernel
theorem dX7_sum_22 : decode mX7_sum.2.1 22 = .ok (.iaload, 1) := by decide +kernel
theorem dX7_sum_23 : decode mX7_sum.2.1 23 = .ok (.iadd, 1) := by decide +kernel
theorem dX7_sum_24 : decode mX7_sum.2.1 24 = .ok (.istore_n 3, 1) := by decide +kernel
theorem dX7_sum_25 : decode mX7_sum.2.1 25 = .ok (.iinc 4 1, 3) := by decide +kernel
theorem dX7_sum_28 : decode mX7_sum.2.1 28 = .ok (.goto (-23), 3) := by decide +kernel
theorem dX7_sum_31 : decode mX7_sum.2.1 31 = .ok (.iload_n 3, 1) := by decide +kernel
theorem dX7_sum_32 : decode mX7_sum.2.1 32 = .ok (.ireturn, 1) := by decide +kernel
