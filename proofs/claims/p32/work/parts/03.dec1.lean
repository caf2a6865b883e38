theorem dX8_span_162 : decode cX8_span 162 = .ok (.goto (-71), 3) := by decide +kernel
theorem dX8_span_165 : decode cX8_span 165 = .ok (.iinc 10 1, 3) := by decide +kernel
theorem dX8_span_168 : decode cX8_span 168 = .ok (.goto (-86), 3) := by decide +kernel
theorem dX8_span_171 : decode cX8_span 171 = .ok (.aload_n 0, 1) := by decide +kernel
theorem dX8_span_172 : decode cX8_span 172 = .ok (.iload 9, 2) := by decide +kernel
theorem dX8_span_174 : decode cX8_span 174 = .ok (.invokevirtual 98, 3) := by decide +kernel
theorem dX8_span_177 : decode cX8_span 177 = .ok (.ireturn, 1) := by decide +kernel
theorem dX8_helps_0 : decode cX8_helps 0 = .ok (.aload_n 0, 1) := by decide +kernel
theorem dX8_helps_1 : decode cX8_helps 1 = .ok (.iload_n 1, 1) := by decide +kernel
theorem dX8_helps_2 : decode cX8_helps 2 = .ok (.invokevirtual 152, 3) := by decide +kernel
theorem dX8_helps_5 : decode cX8_helps 5 = .ok (.ifCond .eq 10, 3) := by decide +kernel
theorem dX8_helps_8 : decode cX8_helps 8 = .ok (.iload_n 2, 1) := by decide +kernel
theorem dX8_helps_9 : decode cX8_helps 9 = .ok (.invokestatic 111, 3) := by decide +kernel
theorem dX8_helps_12 : decode cX8_helps 12 = .ok (.ifCond .ne 9, 3) := by decide +kernel
theorem dX8_helps_15 : decode cX8_helps 15 = .ok (.aload_n 0, 1) := by decide +kernel
theorem dX8_helps_16 : decode cX8_helps 16 = .ok (.iconst 1, 1) := by decide +kernel
theorem dX8_helps_17 : decode cX8_helps 17 = .ok (.invokevirtual 81, 3) := by decide +kernel
theorem dX8_helps_20 : decode cX8_helps 20 = .ok (.ireturn, 1) := by decide +kernel
theorem dX8_helps_21 : decode cX8_helps 21 = .ok (.aload_n 0, 1) := by decide +kernel
theorem dX8_helps_22 : decode cX8_helps 22 = .ok (.aload_n 0, 1) := by decide +kernel
theorem dX8_helps_23 : decode cX8_helps 23 = .ok (.iload_n 1, 1) := by decide +kernel
theorem dX8_helps_24 : decode cX8_helps 24 = .ok (.iload_n 2, 1) := by decide +kernel
theorem dX8_helps_25 : decode cX8_helps 25 = .ok (.invokevirtual 200, 3) := by decide +kernel
theorem dX8_helps_28 : decode cX8_helps 28 = .ok (.ifCond .eq 7, 3) := by decide +kernel
theorem dX8_helps_31 : decode cX8_helps 31 = .ok (.iconst 1, 1) := by decide +kernel
theorem dX8_helps_32 : decode cX8_helps 32 = .ok (.goto 4, 3) := by decide +kernel
theorem dX8_helps_35 : decode cX8_helps 35 = .ok (.iconst 0, 1) := by decide +kernel
theorem dX8_helps_36 : decode cX8_helps 36 = .ok (.invokevirtual 98, 3) := by decide +kernel
theorem dX8_helps_39 : decode cX8_helps 39 = .ok (.ireturn, 1) := by decide +kernel
theorem dX8_last_0 : decode cX8_last 0 = .ok (.aload_n 0, 1) := by decide +kernel
theorem dX8_last_1 : decode cX8_last 1 = .ok (.iload_n 1, 1) := by decide +kernel
theorem dX8_last_2 : decode cX8_last 2 = .ok (.invokevirtual 152, 3) := by decide +kernel
theorem dX8_last_5 : decode cX8_last 5 = .ok (.ifCond .ne 9, 3) := by decide +kernel
theorem dX8_last_8 : decode cX8_last 8 = .ok (.aload_n 0, 1) := by decide +kernel
theorem dX8_last_9 : decode cX8_last 9 = .ok (.iconst 1, 1) := by decide +kernel
theorem dX8_last_10 : decode cX8_last 10 = .ok (.invokevirtual 81, 3) := by decide +kernel
theorem dX8_last_13 : decode cX8_last 13 = .ok (.ireturn, 1) := by decide +kernel
theorem dX8_last_14 : decode cX8_last 14 = .ok (.iconst (-1), 1) := by decide +kernel
theorem dX8_last_15 : decode cX8_last 15 = .ok (.istore_n 2, 1) := by decide +kernel
theorem dX8_last_16 : decode cX8_last 16 = .ok (.bipush 59, 2) := by decide +kernel
theorem dX8_last_18 : decode cX8_last 18 = .ok (.istore_n 3, 1) := by decide +kernel
theorem dX8_last_19 : decode cX8_last 19 = .ok (.iconst 0, 1) := by decide +kernel
theorem dX8_last_20 : decode cX8_last 20 = .ok (.istore 4, 2) := by decide +kernel
theorem dX8_last_22 : decode cX8_last 22 = .ok (.iload 4, 2) := by decide +kernel
theorem dX8_last_24 : decode cX8_last 24 = .ok (.bipush 60, 2) := by decide +kernel
theorem dX8_last_26 : decode cX8_last 26 = .ok (.if_icmp .ge 44, 3) := by decide +kernel
theorem dX8_last_29 : decode cX8_last 29 = .ok (.iload_n 2, 1) := by decide +kernel
theorem dX8_last_30 : decode cX8_last 30 = .ok (.iload_n 3, 1) := by decide +kernel
theorem dX8_last_31 : decode cX8_last 31 = .ok (.if_icmp .ge 39, 3) := by decide +kernel
theorem dX8_last_34 : decode cX8_last 34 = .ok (.iload_n 2, 1) := by decide +kernel
theorem dX8_last_35 : decode cX8_last 35 = .ok (.iload_n 3, 1) := by decide +kernel
theorem dX8_last_36 : decode cX8_last 36 = .ok (.iadd, 1) := by decide +kernel
theorem dX8_last_37 : decode cX8_last 37 = .ok (.iconst 1, 1) := by decide +kernel
theorem dX8_last_38 : decode cX8_last 38 = .ok (.iadd, 1) := by decide +kernel
theorem dX8_last_39 : decode cX8_last 39 = .ok (.iconst 2, 1) := by decide +kernel
theorem dX8_last_40 : decode cX8_last 40 = .ok (.idiv, 1) := by decide +kernel
theorem dX8_last_41 : decode cX8_last 41 = .ok (.istore 5, 2) := by decide +kernel
theorem dX8_last_43 : decode cX8_last 43 = .ok (.aload_n 0, 1) := by decide +kernel
theorem dX8_last_44 : decode cX8_last 44 = .ok (.iload_n 1, 1) := by decide +kernel
theorem dX8_last_45 : decode cX8_last 45 = .ok (.iload 5, 2) := by decide +kernel
theorem dX8_last_47 : decode cX8_last 47 = .ok (.invokevirtual 200, 3) := by decide +kernel
theorem dX8_last_50 : decode cX8_last 50 = .ok (.ifCond .eq 9, 3) := by decide +kernel
theorem dX8_last_53 : decode cX8_last 53 = .ok (.iload 5, 2) := by decide +kernel
theorem dX8_last_55 : decode cX8_last 55 = .ok (.istore_n 2, 1) := by decide +kernel
theorem dX8_last_56 : decode cX8_last 56 = .ok (.goto 8, 3) := by decide +kernel
theorem dX8_last_59 : decode cX8_last 59 = .ok (.iload 5, 2) := by decide +kernel
theorem dX8_last_61 : decode cX8_last 61 = .ok (.iconst 1, 1) := by decide +kernel
theorem dX8_last_62 : decode cX8_last 62 = .ok (.isub, 1) := by decide +kernel
theorem dX8_last_63 : decode cX8_last 63 = .ok (.istore_n 3, 1) := by decide +kernel
theorem dX8_last_64 : decode cX8_last 64 = .ok (.iinc 4 1, 3) := by decide +kernel
theorem dX8_last_67 : decode cX8_last 67 = .ok (.goto (-45), 3) := by decide +kernel
theorem dX8_last_70 : decode cX8_last 70 = .ok (.aload_n 0, 1) := by decide +kernel
theorem dX8_last_71 : decode cX8_last 71 = .ok (.iload_n 2, 1) := by decide +kernel
theorem dX8_last_72 : decode cX8_last 72 = .ok (.iconst (-1), 1) := by decide +kernel
theorem dX8_last_73 : decode cX8_last 73 = .ok (.if_icmp .ne 8, 3) := by decide +kernel
theorem dX8_last_76 : decode cX8_last 76 = .ok (.bipush (-2), 2) := by decide +kernel
theorem dX8_last_78 : decode cX8_last 78 = .ok (.goto 4, 3) := by decide +kernel
theorem dX8_last_81 : decode cX8_last 81 = .ok (.iload_n 2, 1) := by decide +kernel
theorem dX8_last_82 : decode cX8_last 82 = .ok (.invokevirtual 98, 3) := by decide +kernel
theorem dX8_last_85 : decode cX8_last 85 = .ok (.ireturn, 1) := by decide +kernel
theorem dX8_safe_0 : decode cX8_safe 0 = .ok (.aload_n 0, 1) := by decide +kernel
theorem dX8_safe_1 : decode cX8_safe 1 = .ok (.iload_n 1, 1) := by decide +kernel
theorem dX8_safe_2 : decode cX8_safe 2 = .ok (.invokevirtual 152, 3) := by decide +kernel
theorem dX8_safe_5 : decode cX8_safe 5 = .ok (.ifCond .ne 9, 3) := by decide +kernel
theorem dX8_safe_8 : decode cX8_safe 8 = .ok (.aload_n 0, 1) := by decide +kernel
theorem dX8_safe_9 : decode cX8_safe 9 = .ok (.iconst 1, 1) := by decide +kernel
theorem dX8_safe_10 : decode cX8_safe 10 = .ok (.invokevirtual 81, 3) := by decide +kernel
theorem dX8_safe_13 : decode cX8_safe 13 = .ok (.ireturn, 1) := by decide +kernel
theorem dX8_safe_14 : decode cX8_safe 14 = .ok (.iconst (-1), 1) := by decide +kernel
theorem dX8_safe_15 : decode cX8_safe 15 = .ok (.istore_n 2, 1) := by decide +kernel
theorem dX8_safe_16 : decode cX8_safe 16 = .ok (.aload_n 0, 1) := by decide +kernel
theorem dX8_safe_17 : decode cX8_safe 17 = .ok (.getfield 28, 3) := by decide +kernel
theorem dX8_safe_20 : decode cX8_safe 20 = .ok (.getfield 115, 3) := by decide +kernel
theorem dX8_safe_23 : decode cX8_safe 23 = .ok (.getfield 204, 3) := by decide +kernel
theorem dX8_safe_26 : decode cX8_safe 26 = .ok (.istore_n 3, 1) := by decide +kernel
theorem dX8_safe_27 : decode cX8_safe 27 = .ok (.iconst 0, 1) := by decide +kernel
theorem dX8_safe_28 : decode cX8_safe 28 = .ok (.istore 4, 2) := by decide +kernel
theorem dX8_safe_30 : decode cX8_safe 30 = .ok (.iload 4, 2) := by decide +kernel
theorem dX8_safe_32 : decode cX8_safe 32 = .ok (.sipush 1000, 3) := by decide +kernel
theorem dX8_safe_35 : decode cX8_safe 35 = .ok (.if_icmp .ge 44, 3) := by decide +kernel
theorem dX8_safe_38 : decode cX8_safe 38 = .ok (.iload_n 2, 1) := by decide +kernel
theorem dX8_safe_39 : decode cX8_safe 39 = .ok (.iload_n 3, 1) := by decide +kernel
theorem dX8_safe_40 : decode cX8_safe 40 = .ok (.if_icmp .ge 39, 3) := by decide +kernel
theorem dX8_safe_43 : decode cX8_safe 43 = .ok (.iload_n 2, 1) := by decide +kernel
theorem dX8_safe_44 : decode cX8_safe 44 = .ok (.iload_n 3, 1) := by decide +kernel
theorem dX8_safe_45 : decode cX8_safe 45 = .ok (.iadd, 1) := by decide +kernel
theorem dX8_safe_46 : decode cX8_safe 46 = .ok (.iconst 1, 1) := by decide +kernel
theorem dX8_safe_47 : decode cX8_safe 47 = .ok (.iadd, 1) := by decide +kernel
theorem dX8_safe_48 : decode cX8_safe 48 = .ok (.iconst 2, 1) := by decide +kernel
theorem dX8_safe_49 : decode cX8_safe 49 = .ok (.idiv, 1) := by decide +kernel
theorem dX8_safe_50 : decode cX8_safe 50 = .ok (.istore 5, 2) := by decide +kernel
theorem dX8_safe_52 : decode cX8_safe 52 = .ok (.aload_n 0, 1) := by decide +kernel
theorem dX8_safe_53 : decode cX8_safe 53 = .ok (.iload_n 1, 1) := by decide +kernel
theorem dX8_safe_54 : decode cX8_safe 54 = .ok (.iload 5, 2) := by decide +kernel
theorem dX8_safe_56 : decode cX8_safe 56 = .ok (.invokevirtual 207, 3) := by decide +kernel
theorem dX8_safe_59 : decode cX8_safe 59 = .ok (.ifCond .eq 9, 3) := by decide +kernel
theorem dX8_safe_62 : decode cX8_safe 62 = .ok (.iload 5, 2) := by decide +kernel
theorem dX8_safe_64 : decode cX8_safe 64 = .ok (.istore_n 2, 1) := by decide +kernel
theorem dX8_safe_65 : decode cX8_safe 65 = .ok (.goto 8, 3) := by decide +kernel
theorem dX8_safe_68 : decode cX8_safe 68 = .ok (.iload 5, 2) := by decide +kernel
theorem dX8_safe_70 : decode cX8_safe 70 = .ok (.iconst 1, 1) := by decide +kernel
theorem dX8_safe_71 : decode cX8_safe 71 = .ok (.isub, 1) := by decide +kernel
theorem dX8_safe_72 : decode cX8_safe 72 = .ok (.istore_n 3, 1) := by decide +kernel
theorem dX8_safe_73 : decode cX8_safe 73 = .ok (.iinc 4 1, 3) := by decide +kernel
theorem dX8_safe_76 : decode cX8_safe 76 = .ok (.goto (-46), 3) := by decide +kernel
theorem dX8_safe_79 : decode cX8_safe 79 = .ok (.aload_n 0, 1) := by decide +kernel
theorem dX8_safe_80 : decode cX8_safe 80 = .ok (.iload_n 2, 1) := by decide +kernel
theorem dX8_safe_81 : decode cX8_safe 81 = .ok (.iconst (-1), 1) := by decide +kernel
theorem dX8_safe_82 : decode cX8_safe 82 = .ok (.if_icmp .ne 8, 3) := by decide +kernel
theorem dX8_safe_85 : decode cX8_safe 85 = .ok (.bipush (-2), 2) := by decide +kernel
theorem dX8_safe_87 : decode cX8_safe 87 = .ok (.goto 4, 3) := by decide +kernel
theorem dX8_safe_90 : decode cX8_safe 90 = .ok (.iload_n 2, 1) := by decide +kernel
theorem dX8_safe_91 : decode cX8_safe 91 = .ok (.invokevirtual 98, 3) := by decide +kernel
theorem dX8_safe_94 : decode cX8_safe 94 = .ok (.ireturn, 1) := by decide +kernel
theorem dX8_found_0 : decode cX8_found 0 = .ok (.aload_n 0, 1) := by decide +kernel
theorem dX8_found_1 : decode cX8_found 1 = .ok (.iload_n 1, 1) := by decide +kernel
theorem dX8_found_2 : decode cX8_found 2 = .ok (.invokevirtual 152, 3) := by decide +kernel
theorem dX8_found_5 : decode cX8_found 5 = .ok (.ifCond .ne 9, 3) := by decide +kernel
theorem dX8_found_8 : decode cX8_found 8 = .ok (.aload_n 0, 1) := by decide +kernel
theorem dX8_found_9 : decode cX8_found 9 = .ok (.iconst 1, 1) := by decide +kernel
theorem dX8_found_10 : decode cX8_found 10 = .ok (.invokevirtual 81, 3) := by decide +kernel
theorem dX8_found_13 : decode cX8_found 13 = .ok (.ireturn, 1) := by decide +kernel
theorem dX8_found_14 : decode cX8_found 14 = .ok (.iload_n 2, 1) := by decide +kernel
theorem dX8_found_15 : decode cX8_found 15 = .ok (.ifCond .lt 9, 3) := by decide +kernel
theorem dX8_found_18 : decode cX8_found 18 = .ok (.iload_n 2, 1) := by decide +kernel
theorem dX8_found_19 : decode cX8_found 19 = .ok (.bipush 99, 2) := by decide +kernel
theorem dX8_found_21 : decode cX8_found 21 = .ok (.if_icmp .le 9, 3) := by decide +kernel
theorem dX8_found_24 : decode cX8_found 24 = .ok (.aload_n 0, 1) := by decide +kernel
theorem dX8_found_25 : decode cX8_found 25 = .ok (.iconst 2, 1) := by decide +kernel
theorem dX8_found_26 : decode cX8_found 26 = .ok (.invokevirtual 81, 3) := by decide +kernel
theorem dX8_found_29 : decode cX8_found 29 = .ok (.ireturn, 1) := by decide +kernel
theorem dX8_found_30 : decode cX8_found 30 = .ok (.aload_n 0, 1) := by decide +kernel
theorem dX8_found_31 : decode cX8_found 31 = .ok (.aload_n 0, 1) := by decide +kernel
theorem dX8_found_32 : decode cX8_found 32 = .ok (.getfield 28, 3) := by decide +kernel
theorem dX8_found_35 : decode cX8_found 35 = .ok (.getfield 181, 3) := by decide +kernel
theorem dX8_found_38 : decode cX8_found 38 = .ok (.iload_n 1, 1) := by decide +kernel
theorem dX8_found_39 : decode cX8_found 39 = .ok (.aaload, 1) := by decide +kernel
theorem dX8_found_40 : decode cX8_found 40 = .ok (.iload_n 2, 1) := by decide +kernel
theorem dX8_found_41 : decode cX8_found 41 = .ok (.invokevirtual 210, 3) := by decide +kernel
theorem dX8_found_44 : decode cX8_found 44 = .ok (.invokevirtual 98, 3) := by decide +kernel
theorem dX8_found_47 : decode cX8_found 47 = .ok (.ireturn, 1) := by decide +kernel
theorem dX8_bore_0 : decode cX8_bore 0 = .ok (.aload_n 0, 1) := by decide +kernel
theorem dX8_bore_1 : decode cX8_bore 1 = .ok (.invokevirtual 107, 3) := by decide +kernel
theorem dX8_bore_4 : decode cX8_bore 4 = .ok (.ifCond .eq 9, 3) := by decide +kernel
theorem dX8_bore_7 : decode cX8_bore 7 = .ok (.aload_n 0, 1) := by decide +kernel
theorem dX8_bore_8 : decode cX8_bore 8 = .ok (.iconst 1, 1) := by decide +kernel
theorem dX8_bore_9 : decode cX8_bore 9 = .ok (.invokevirtual 81, 3) := by decide +kernel
theorem dX8_bore_12 : decode cX8_bore 12 = .ok (.ireturn, 1) := by decide +kernel
theorem dX8_bore_13 : decode cX8_bore 13 = .ok (.aload_n 0, 1) := by decide +kernel
theorem dX8_bore_14 : decode cX8_bore 14 = .ok (.invokevirtual 168, 3) := by decide +kernel
theorem dX8_bore_17 : decode cX8_bore 17 = .ok (.aload_n 0, 1) := by decide +kernel
theorem dX8_bore_18 : decode cX8_bore 18 = .ok (.invokevirtual 177, 3) := by decide +kernel
theorem dX8_bore_21 : decode cX8_bore 21 = .ok (.ifCond .ne 10, 3) := by decide +kernel
theorem dX8_bore_24 : decode cX8_bore 24 = .ok (.aload_n 0, 1) := by decide +kernel
theorem dX8_bore_25 : decode cX8_bore 25 = .ok (.bipush 6, 2) := by decide +kernel
theorem dX8_bore_27 : decode cX8_bore 27 = .ok (.invokevirtual 81, 3) := by decide +kernel
theorem dX8_bore_30 : decode cX8_bore 30 = .ok (.ireturn, 1) := by decide +kernel
theorem dX8_bore_31 : decode cX8_bore 31 = .ok (.iconst 0, 1) := by decide +kernel
theorem dX8_bore_32 : decode cX8_bore 32 = .ok (.istore_n 1, 1) := by decide +kernel
theorem dX8_bore_33 : decode cX8_bore 33 = .ok (.aload_n 0, 1) := by decide +kernel
theorem dX8_bore_34 : decode cX8_bore 34 = .ok (.iconst 0, 1) := by decide +kernel
theorem dX8_bore_35 : decode cX8_bore 35 = .ok (.invokevirtual 213, 3) := by decide +kernel
theorem dX8_bore_38 : decode cX8_bore 38 = .ok (.istore_n 2, 1) := by decide +kernel
theorem dX8_bore_39 : decode cX8_bore 39 = .ok (.iconst 1, 1) := by decide +kernel
theorem dX8_bore_40 : decode cX8_bore 40 = .ok (.istore_n 3, 1) := by decide +kernel
theorem dX8_bore_41 : decode cX8_bore 41 = .ok (.iload_n 3, 1) := by decide +kernel
theorem dX8_bore_42 : decode cX8_bore 42 = .ok (.bipush 99, 2) := by decide +kernel
theorem dX8_bore_44 : decode cX8_bore 44 = .ok (.if_icmp .gt 27, 3) := by decide +kernel
theorem dX8_bore_47 : decode cX8_bore 47 = .ok (.aload_n 0, 1) := by decide +kernel
theorem dX8_bore_48 : decode cX8_bore 48 = .ok (.iload_n 3, 1) := by decide +kernel
theorem dX8_bore_49 : decode cX8_bore 49 = .ok (.invokevirtual 213, 3) := by decide +kernel
theorem dX8_bore_52 : decode cX8_bore 52 = .ok (.istore 4, 2) := by decide +kernel
theorem dX8_bore_54 : decode cX8_bore 54 = .ok (.iload 4, 2) := by decide +kernel
theorem dX8_bore_56 : decode cX8_bore 56 = .ok (.iload_n 2, 1) := by decide +kernel
theorem dX8_bore_57 : decode cX8_bore 57 = .ok (.if_icmp .ge 8, 3) := by decide +kernel
theorem dX8_bore_60 : decode cX8_bore 60 = .ok (.iload 4, 2) := by decide +kernel
theorem dX8_bore_62 : decode cX8_bore 62 = .ok (.istore_n 2, 1) := by decide +kernel
theorem dX8_bore_63 : decode cX8_bore 63 = .ok (.iload_n 3, 1) := by decide +kernel
theorem dX8_bore_64 : decode cX8_bore 64 = .ok (.istore_n 1, 1) := by decide +kernel
theorem dX8_bore_65 : decode cX8_bore 65 = .ok (.iinc 3 1, 3) := by decide +kernel
theorem dX8_bore_68 : decode cX8_bore 68 = .ok (.goto (-27), 3) := by decide +kernel
theorem dX8_bore_71 : decode cX8_bore 71 = .ok (.aload_n 0, 1) := by decide +kernel
theorem dX8_bore_72 : decode cX8_bore 72 = .ok (.iload_n 1, 1) := by decide +kernel
theorem dX8_bore_73 : decode cX8_bore 73 = .ok (.invokevirtual 98, 3) := by decide +kernel
theorem dX8_bore_76 : decode cX8_bore 76 = .ok (.ireturn, 1) := by decide +kernel
theorem dX8_struck_0 : decode cX8_struck 0 = .ok (.aload_n 0, 1) := by decide +kernel
theorem dX8_struck_1 : decode cX8_struck 1 = .ok (.iload_n 1, 1) := by decide +kernel
theorem dX8_struck_2 : decode cX8_struck 2 = .ok (.invokevirtual 152, 3) := by decide +kernel
theorem dX8_struck_5 : decode cX8_struck 5 = .ok (.ifCond .eq 11, 3) := by decide +kernel
theorem dX8_struck_8 : decode cX8_struck 8 = .ok (.aload_n 0, 1) := by decide +kernel
theorem dX8_struck_9 : decode cX8_struck 9 = .ok (.iload_n 2, 1) := by decide +kernel
theorem dX8_struck_10 : decode cX8_struck 10 = .ok (.invokevirtual 216, 3) := by decide +kernel
theorem dX8_struck_13 : decode cX8_struck 13 = .ok (.ifCond .ne 9, 3) := by decide +kernel
theorem dX8_struck_16 : decode cX8_struck 16 = .ok (.aload_n 0, 1) := by decide +kernel
theorem dX8_struck_17 : decode cX8_struck 17 = .ok (.iconst 1, 1) := by decide +kernel
theorem dX8_struck_18 : decode cX8_struck 18 = .ok (.invokevirtual 81, 3) := by decide +kernel
theorem dX8_struck_21 : decode cX8_struck 21 = .ok (.ireturn, 1) := by decide +kernel
theorem dX8_struck_22 : decode cX8_struck 22 = .ok (.aload_n 0, 1) := by decide +kernel
theorem dX8_struck_23 : decode cX8_struck 23 = .ok (.aload_n 0, 1) := by decide +kernel
theorem dX8_struck_24 : decode cX8_struck 24 = .ok (.iload_n 1, 1) := by decide +kernel
theorem dX8_struck_25 : decode cX8_struck 25 = .ok (.iload_n 2, 1) := by decide +kernel
theorem dX8_struck_26 : decode cX8_struck 26 = .ok (.invokevirtual 219, 3) := by decide +kernel
theorem dX8_struck_29 : decode cX8_struck 29 = .ok (.ifCond .eq 7, 3) := by decide +kernel
theorem dX8_struck_32 : decode cX8_struck 32 = .ok (.iconst 1, 1) := by decide +kernel
theorem dX8_struck_33 : decode cX8_struck 33 = .ok (.goto 4, 3) := by decide +kernel
theorem dX8_struck_36 : decode cX8_struck 36 = .ok (.iconst 0, 1) := by decide +kernel
theorem dX8_struck_37 : decode cX8_struck 37 = .ok (.invokevirtual 98, 3) := by decide +kernel
theorem dX8_struck_40 : decode cX8_struck 40 = .ok (.ireturn, 1) := by decide +kernel
theorem dX8_dead_0 : decode cX8_dead 0 = .ok (.aload_n 0, 1) := by decide +kernel
theorem dX8_dead_1 : decode cX8_dead 1 = .ok (.iload_n 1, 1) := by decide +kernel
theorem dX8_dead_2 : decode cX8_dead 2 = .ok (.invokevirtual 152, 3) := by decide +kernel
theorem dX8_dead_5 : decode cX8_dead 5 = .ok (.ifCond .eq 10, 3) := by decide +kernel
theorem dX8_dead_8 : decode cX8_dead 8 = .ok (.iload_n 2, 1) := by decide +kernel
theorem dX8_dead_9 : decode cX8_dead 9 = .ok (.invokestatic 111, 3) := by decide +kernel
theorem dX8_dead_12 : decode cX8_dead 12 = .ok (.ifCond .ne 9, 3) := by decide +kernel
theorem dX8_dead_15 : decode cX8_dead 15 = .ok (.aload_n 0, 1) := by decide +kernel
theorem dX8_dead_16 : decode cX8_dead 16 = .ok (.iconst 1, 1) := by decide +kernel
theorem dX8_dead_17 : decode cX8_dead 17 = .ok (.invokevirtual 81, 3) := by decide +kernel
theorem dX8_dead_20 : decode cX8_dead 20 = .ok (.ireturn, 1) := by decide +kernel
theorem dX8_dead_21 : decode cX8_dead 21 = .ok (.aload_n 0, 1) := by decide +kernel
theorem dX8_dead_22 : decode cX8_dead 22 = .ok (.iload_n 1, 1) := by decide +kernel
theorem dX8_dead_23 : decode cX8_dead 23 = .ok (.invokevirtual 135, 3) := by decide +kernel
theorem dX8_dead_26 : decode cX8_dead 26 = .ok (.getfield 155, 3) := by decide +kernel
theorem dX8_dead_29 : decode cX8_dead 29 = .ok (.istore_n 3, 1) := by decide +kernel
theorem dX8_dead_30 : decode cX8_dead 30 = .ok (.iconst 0, 1) := by decide +kernel
theorem dX8_dead_31 : decode cX8_dead 31 = .ok (.istore 4, 2) := by decide +kernel
theorem dX8_dead_33 : decode cX8_dead 33 = .ok (.iconst 0, 1) := by decide +kernel
theorem dX8_dead_34 : decode cX8_dead 34 = .ok (.istore 5, 2) := by decide +kernel
theorem dX8_dead_36 : decode cX8_dead 36 = .ok (.iload 5, 2) := by decide +kernel
theorem dX8_dead_38 : decode cX8_dead 38 = .ok (.aload_n 0, 1) := by decide +kernel
theorem dX8_dead_39 : decode cX8_dead 39 = .ok (.getfield 28, 3) := by decide +kernel
theorem dX8_dead_42 : decode cX8_dead 42 = .ok (.getfield 222, 3) := by decide +kernel
theorem dX8_dead_45 : decode cX8_dead 45 = .ok (.if_icmp .ge 50, 3) := by decide +kernel
theorem dX8_dead_48 : decode cX8_dead 48 = .ok (.aload_n 0, 1) := by decide +kernel
theorem dX8_dead_49 : decode cX8_dead 49 = .ok (.iload_n 1, 1) := by decide +kernel
theorem dX8_dead_50 : decode cX8_dead 50 = .ok (.iload 5, 2) := by decide +kernel
theorem dX8_dead_52 : decode cX8_dead 52 = .ok (.invokevirtual 219, 3) := by decide +kernel
theorem dX8_dead_55 : decode cX8_dead 55 = .ok (.ifCond .eq 34, 3) := by decide +kernel
theorem dX8_dead_58 : decode cX8_dead 58 = .ok (.iload_n 2, 1) := by decide +kernel
theorem dX8_dead_59 : decode cX8_dead 59 = .ok (.aload_n 0, 1) := by decide +kernel
theorem dX8_dead_60 : decode cX8_dead 60 = .ok (.getfield 28, 3) := by decide +kernel
theorem dX8_dead_63 : decode cX8_dead 63 = .ok (.getfield 225, 3) := by decide +kernel
theorem dX8_dead_66 : decode cX8_dead 66 = .ok (.iload 5, 2) := by decide +kernel
theorem dX8_dead_68 : decode cX8_dead 68 = .ok (.iaload, 1) := by decide +kernel
theorem dX8_dead_69 : decode cX8_dead 69 = .ok (.iadd, 1) := by decide +kernel
theorem dX8_dead_70 : decode cX8_dead 70 = .ok (.iload_n 3, 1) := by decide +kernel
theorem dX8_dead_71 : decode cX8_dead 71 = .ok (.if_icmp .le 18, 3) := by decide +kernel
theorem dX8_dead_74 : decode cX8_dead 74 = .ok (.iload 4, 2) := by decide +kernel
theorem dX8_dead_76 : decode cX8_dead 76 = .ok (.aload_n 0, 1) := by decide +kernel
theorem dX8_dead_77 : decode cX8_dead 77 = .ok (.getfield 28, 3) := by decide +kernel
theorem dX8_dead_80 : decode cX8_dead 80 = .ok (.getfield 228, 3) := by decide +kernel
theorem dX8_dead_83 : decode cX8_dead 83 = .ok (.iload 5, 2) := by decide +kernel
theorem dX8_dead_85 : decode cX8_dead 85 = .ok (.iaload, 1) := by decide +kernel
theorem dX8_dead_86 : decode cX8_dead 86 = .ok (.iadd, 1) := by decide +kernel
theorem dX8_dead_87 : decode cX8_dead 87 = .ok (.istore 4, 2) := by decide +kernel
theorem dX8_dead_89 : decode cX8_dead 89 = .ok (.iinc 5 1, 3) := by decide +kernel
theorem dX8_dead_92 : decode cX8_dead 92 = .ok (.goto (-56), 3) := by decide +kernel
theorem dX8_dead_95 : decode cX8_dead 95 = .ok (.aload_n 0, 1) := by decide +kernel
theorem dX8_dead_96 : decode cX8_dead 96 = .ok (.iload 4, 2) := by decide +kernel
theorem dX8_dead_98 : decode cX8_dead 98 = .ok (.invokevirtual 98, 3) := by decide +kernel
theorem dX8_dead_101 : decode cX8_dead 101 = .ok (.ireturn, 1) := by decide +kernel
theorem dX8_tell_0 : decode cX8_tell 0 = .ok (.aload_n 0, 1) := by decide +kernel
theorem dX8_tell_1 : decode cX8_tell 1 = .ok (.iload_n 1, 1) := by decide +kernel
theorem dX8_tell_2 : decode cX8_tell 2 = .ok (.invokevirtual 216, 3) := by decide +kernel
theorem dX8_tell_5 : decode cX8_tell 5 = .ok (.ifCond .ne 9, 3) := by decide +kernel
theorem dX8_tell_8 : decode cX8_tell 8 = .ok (.aload_n 0, 1) := by decide +kernel
theorem dX8_tell_9 : decode cX8_tell 9 = .ok (.iconst 1, 1) := by decide +kernel
theorem dX8_tell_10 : decode cX8_tell 10 = .ok (.invokevirtual 81, 3) := by decide +kernel
theorem dX8_tell_13 : decode cX8_tell 13 = .ok (.ireturn, 1) := by decide +kernel
theorem dX8_tell_14 : decode cX8_tell 14 = .ok (.iload_n 2, 1) := by decide +kernel
theorem dX8_tell_15 : decode cX8_tell 15 = .ok (.ifCond .lt 9, 3) := by decide +kernel
theorem dX8_tell_18 : decode cX8_tell 18 = .ok (.iload_n 2, 1) := by decide +kernel
theorem dX8_tell_19 : decode cX8_tell 19 = .ok (.ldc 231, 2) := by decide +kernel
theorem dX8_tell_21 : decode cX8_tell 21 = .ok (.if_icmp .le 9, 3) := by decide +kernel
theorem dX8_tell_24 : decode cX8_tell 24 = .ok (.aload_n 0, 1) := by decide +kernel
theorem dX8_tell_25 : decode cX8_tell 25 = .ok (.iconst 2, 1) := by decide +kernel
theorem dX8_tell_26 : decode cX8_tell 26 = .ok (.invokevirtual 81, 3) := by decide +kernel
theorem dX8_tell_29 : decode cX8_tell 29 = .ok (.ireturn, 1) := by decide +kernel
theorem dX8_tell_30 : decode cX8_tell 30 = .ok (.aload_n 0, 1) := by decide +kernel
theorem dX8_tell_31 : decode cX8_tell 31 = .ok (.invokevirtual 168, 3) := by decide +kernel
theorem dX8_tell_34 : decode cX8_tell 34 = .ok (.aload_n 0, 1) := by decide +kernel
theorem dX8_tell_35 : decode cX8_tell 35 = .ok (.invokevirtual 177, 3) := by decide +kernel
theorem dX8_tell_38 : decode cX8_tell 38 = .ok (.istore_n 3, 1) := by decide +kernel
theorem dX8_tell_39 : decode cX8_tell 39 = .ok (.iload_n 3, 1) := by decide +kernel
theorem dX8_tell_40 : decode cX8_tell 40 = .ok (.ifCond .ne 10, 3) := by decide +kernel
theorem dX8_tell_43 : decode cX8_tell 43 = .ok (.aload_n 0, 1) := by decide +kernel
theorem dX8_tell_44 : decode cX8_tell 44 = .ok (.bipush 6, 2) := by decide +kernel
theorem dX8_tell_46 : decode cX8_tell 46 = .ok (.invokevirtual 81, 3) := by decide +kernel
theorem dX8_tell_49 : decode cX8_tell 49 = .ok (.ireturn, 1) := by decide +kernel
theorem dX8_tell_50 : decode cX8_tell 50 = .ok (.iconst 0, 1) := by decide +kernel
theorem dX8_tell_51 : decode cX8_tell 51 = .ok (.istore 4, 2) := by decide +kernel
theorem dX8_tell_53 : decode cX8_tell 53 = .ok (.bipush 60, 2) := by decide +kernel
theorem dX8_tell_55 : decode cX8_tell 55 = .ok (.istore 5, 2) := by decide +kernel
theorem dX8_tell_57 : decode cX8_tell 57 = .ok (.iconst 0, 1) := by decide +kernel
theorem dX8_tell_58 : decode cX8_tell 58 = .ok (.istore 6, 2) := by decide +kernel
theorem dX8_tell_60 : decode cX8_tell 60 = .ok (.iload 6, 2) := by decide +kernel
theorem dX8_tell_62 : decode cX8_tell 62 = .ok (.aload_n 0, 1) := by decide +kernel
theorem dX8_tell_63 : decode cX8_tell 63 = .ok (.getfield 28, 3) := by decide +kernel
theorem dX8_tell_66 : decode cX8_tell 66 = .ok (.getfield 95, 3) := by decide +kernel
theorem dX8_tell_69 : decode cX8_tell 69 = .ok (.if_icmp .ge 62, 3) := by decide +kernel
theorem dX8_tell_72 : decode cX8_tell 72 = .ok (.aload_n 0, 1) := by decide +kernel
theorem dX8_tell_73 : decode cX8_tell 73 = .ok (.iload 6, 2) := by decide +kernel
theorem dX8_tell_75 : decode cX8_tell 75 = .ok (.invokevirtual 174, 3) := by decide +kernel
theorem dX8_tell_78 : decode cX8_tell 78 = .ok (.ifCond .eq 47, 3) := by decide +kernel
theorem dX8_tell_81 : decode cX8_tell 81 = .ok (.aload_n 0, 1) := by decide +kernel
theorem dX8_tell_82 : decode cX8_tell 82 = .ok (.iload 6, 2) := by decide +kernel
theorem dX8_tell_84 : decode cX8_tell 84 = .ok (.iload_n 1, 1) := by decide +kernel
theorem dX8_tell_85 : decode cX8_tell 85 = .ok (.invokevirtual 219, 3) := by decide +kernel
theorem dX8_tell_88 : decode cX8_tell 88 = .ok (.ifCond .eq 37, 3) := by decide +kernel
theorem dX8_tell_91 : decode cX8_tell 91 = .ok (.iload 4, 2) := by decide +kernel
theorem dX8_tell_93 : decode cX8_tell 93 = .ok (.aload_n 0, 1) := by decide +kernel
theorem dX8_tell_94 : decode cX8_tell 94 = .ok (.getfield 28, 3) := by decide +kernel
theorem dX8_tell_97 : decode cX8_tell 97 = .ok (.getfield 181, 3) := by decide +kernel
theorem dX8_tell_100 : decode cX8_tell 100 = .ok (.iload 6, 2) := by decide +kernel
theorem dX8_tell_102 : decode cX8_tell 102 = .ok (.aaload, 1) := by decide +kernel
theorem dX8_tell_103 : decode cX8_tell 103 = .ok (.getfield 185, 3) := by decide +kernel
theorem dX8_tell_106 : decode cX8_tell 106 = .ok (.iadd, 1) := by decide +kernel
theorem dX8_tell_107 : decode cX8_tell 107 = .ok (.istore 4, 2) := by decide +kernel
theorem dX8_tell_109 : decode cX8_tell 109 = .ok (.iload 5, 2) := by decide +kernel
theorem dX8_tell_111 : decode cX8_tell 111 = .ok (.aload_n 0, 1) := by decide +kernel
theorem dX8_tell_112 : decode cX8_tell 112 = .ok (.iload 6, 2) := by decide +kernel
theorem dX8_tell_114 : decode cX8_tell 114 = .ok (.invokevirtual 135, 3) := by decide +kernel
theorem dX8_tell_117 : decode cX8_tell 117 = .ok (.getfield 155, 3) := by decide +kernel
theorem dX8_tell_120 : decode cX8_tell 120 = .ok (.invokestatic 232, 3) := by decide +kernel
theorem dX8_tell_123 : decode cX8_tell 123 = .ok (.istore 5, 2) := by decide +kernel
theorem dX8_tell_125 : decode cX8_tell 125 = .ok (.iinc 6 1, 3) := by decide +kernel
theorem dX8_tell_128 : decode cX8_tell 128 = .ok (.goto (-68), 3) := by decide +kernel
theorem dX8_tell_131 : decode cX8_tell 131 = .ok (.iload 4, 2) := by decide +kernel
theorem dX8_tell_133 : decode cX8_tell 133 = .ok (.ifCond .eq 21, 3) := by decide +kernel
theorem dX8_tell_136 : decode cX8_tell 136 = .ok (.iload 4, 2) := by decide +kernel
theorem dX8_tell_138 : decode cX8_tell 138 = .ok (.aload_n 0, 1) := by decide +kernel
theorem dX8_tell_139 : decode cX8_tell 139 = .ok (.getfield 28, 3) := by decide +kernel
theorem dX8_tell_142 : decode cX8_tell 142 = .ok (.getfield 228, 3) := by decide +kernel
theorem dX8_tell_145 : decode cX8_tell 145 = .ok (.iload_n 1, 1) := by decide +kernel
theorem dX8_tell_146 : decode cX8_tell 146 = .ok (.iaload, 1) := by decide +kernel
theorem dX8_tell_147 : decode cX8_tell 147 = .ok (.imul, 1) := by decide +kernel
theorem dX8_tell_148 : decode cX8_tell 148 = .ok (.iload_n 2, 1) := by decide +kernel
theorem dX8_tell_149 : decode cX8_tell 149 = .ok (.iload_n 3, 1) := by decide +kernel
theorem dX8_tell_150 : decode cX8_tell 150 = .ok (.imul, 1) := by decide +kernel
theorem dX8_tell_151 : decode cX8_tell 151 = .ok (.if_icmp .ge 10, 3) := by decide +kernel
theorem dX8_tell_154 : decode cX8_tell 154 = .ok (.aload_n 0, 1) := by decide +kernel
theorem dX8_tell_155 : decode cX8_tell 155 = .ok (.bipush (-2), 2) := by decide +kernel
theorem dX8_tell_157 : decode cX8_tell 157 = .ok (.invokevirtual 98, 3) := by decide +kernel
theorem dX8_tell_160 : decode cX8_tell 160 = .ok (.ireturn, 1) := by decide +kernel
theorem dX8_tell_161 : decode cX8_tell 161 = .ok (.aload_n 0, 1) := by decide +kernel
theorem dX8_tell_162 : decode cX8_tell 162 = .ok (.iconst 0, 1) := by decide +kernel
theorem dX8_tell_163 : decode cX8_tell 163 = .ok (.iload 5, 2) := by decide +kernel
theorem dX8_tell_165 : decode cX8_tell 165 = .ok (.aload_n 0, 1) := by decide +kernel
theorem dX8_tell_166 : decode cX8_tell 166 = .ok (.getfield 28, 3) := by decide +kernel
theorem dX8_tell_169 : decode cX8_tell 169 = .ok (.getfield 225, 3) := by decide +kernel
theorem dX8_tell_172 : decode cX8_tell 172 = .ok (.iload_n 1, 1) := by decide +kernel
theorem dX8_tell_173 : decode cX8_tell 173 = .ok (.iaload, 1) := by decide +kernel
theorem dX8_tell_174 : decode cX8_tell 174 = .ok (.isub, 1) := by decide +kernel
theorem dX8_tell_175 : decode cX8_tell 175 = .ok (.invokestatic 237, 3) := by decide +kernel
theorem dX8_tell_178 : decode cX8_tell 178 = .ok (.invokevirtual 98, 3) := by decide +kernel
theorem dX8_tell_181 : decode cX8_tell 181 = .ok (.ireturn, 1) := by decide +kernel
theorem dX8_part_0 : decode cX8_part 0 = .ok (.aload_n 0, 1) := by decide +kernel
theorem dX8_part_1 : decode cX8_part 1 = .ok (.iload_n 1, 1) := by decide +kernel
theorem dX8_part_2 : decode cX8_part 2 = .ok (.iload_n 2, 1) := by decide +kernel
theorem dX8_part_3 : decode cX8_part 3 = .ok (.iload_n 3, 1) := by decide +kernel
theorem dX8_part_4 : decode cX8_part 4 = .ok (.invokevirtual 131, 3) := by decide +kernel
theorem dX8_part_7 : decode cX8_part 7 = .ok (.ifCond .ne 9, 3) := by decide +kernel
theorem dX8_part_10 : decode cX8_part 10 = .ok (.aload_n 0, 1) := by decide +kernel
theorem dX8_part_11 : decode cX8_part 11 = .ok (.iconst 1, 1) := by decide +kernel
theorem dX8_part_12 : decode cX8_part 12 = .ok (.invokevirtual 81, 3) := by decide +kernel
theorem dX8_part_15 : decode cX8_part 15 = .ok (.ireturn, 1) := by decide +kernel
theorem dX8_part_16 : decode cX8_part 16 = .ok (.aload_n 0, 1) := by decide +kernel
theorem dX8_part_17 : decode cX8_part 17 = .ok (.getfield 28, 3) := by decide +kernel
theorem dX8_part_20 : decode cX8_part 20 = .ok (.getfield 181, 3) := by decide +kernel
theorem dX8_part_23 : decode cX8_part 23 = .ok (.iload_n 1, 1) := by decide +kernel
theorem dX8_part_24 : decode cX8_part 24 = .ok (.aaload, 1) := by decide +kernel
theorem dX8_part_25 : decode cX8_part 25 = .ok (.getfield 240, 3) := by decide +kernel
theorem dX8_part_28 : decode cX8_part 28 = .ok (.iconst 5, 1) := by decide +kernel
theorem dX8_part_29 : decode cX8_part 29 = .ok (.if_icmp .eq 9, 3) := by decide +kernel
theorem dX8_part_32 : decode cX8_part 32 = .ok (.aload_n 0, 1) := by decide +kernel
theorem dX8_part_33 : decode cX8_part 33 = .ok (.iconst 0, 1) := by decide +kernel
theorem dX8_part_34 : decode cX8_part 34 = .ok (.invokevirtual 98, 3) := by decide +kernel
theorem dX8_part_37 : decode cX8_part 37 = .ok (.ireturn, 1) := by decide +kernel
theorem dX8_part_38 : decode cX8_part 38 = .ok (.aload_n 0, 1) := by decide +kernel
theorem dX8_part_39 : decode cX8_part 39 = .ok (.getfield 53, 3) := by decide +kernel
theorem dX8_part_42 : decode cX8_part 42 = .ok (.aload_n 0, 1) := by decide +kernel
theorem dX8_part_43 : decode cX8_part 43 = .ok (.getfield 28, 3) := by decide +kernel
theorem dX8_part_46 : decode cX8_part 46 = .ok (.aload_n 0, 1) := by decide +kernel
theorem dX8_part_47 : decode cX8_part 47 = .ok (.getfield 28, 3) := by decide +kernel
theorem dX8_part_50 : decode cX8_part 50 = .ok (.getfield 181, 3) := by decide +kernel
theorem dX8_part_53 : decode cX8_part 53 = .ok (.iload_n 1, 1) := by decide +kernel
theorem dX8_part_54 : decode cX8_part 54 = .ok (.aaload, 1) := by decide +kernel
theorem dX8_part_55 : decode cX8_part 55 = .ok (.aload_n 0, 1) := by decide +kernel
theorem dX8_part_56 : decode cX8_part 56 = .ok (.getfield 35, 3) := by decide +kernel
theorem dX8_part_59 : decode cX8_part 59 = .ok (.iconst 0, 1) := by decide +kernel
theorem dX8_part_60 : decode cX8_part 60 = .ok (.invokevirtual 243, 3) := by decide +kernel
theorem dX8_part_63 : decode cX8_part 63 = .ok (.iload_n 2, 1) := by decide +kernel
theorem dX8_part_64 : decode cX8_part 64 = .ok (.iload_n 3, 1) := by decide +kernel
theorem dX8_part_65 : decode cX8_part 65 = .ok (.invokestatic 142, 3) := by decide +kernel
theorem dX8_part_68 : decode cX8_part 68 = .ok (.istore 4, 2) := by decide +kernel
theorem dX8_part_70 : decode cX8_part 70 = .ok (.aload_n 0, 1) := by decide +kernel
theorem dX8_part_71 : decode cX8_part 71 = .ok (.aload_n 0, 1) := by decide +kernel
theorem dX8_part_72 : decode cX8_part 72 = .ok (.iload_n 1, 1) := by decide +kernel
theorem dX8_part_73 : decode cX8_part 73 = .ok (.invokevirtual 135, 3) := by decide +kernel
theorem dX8_part_76 : decode cX8_part 76 = .ok (.getfield 139, 3) := by decide +kernel
theorem dX8_part_79 : decode cX8_part 79 = .ok (.iload 4, 2) := by decide +kernel
theorem dX8_part_81 : decode cX8_part 81 = .ok (.iaload, 1) := by decide +kernel
theorem dX8_part_82 : decode cX8_part 82 = .ok (.aload_n 0, 1) := by decide +kernel
theorem dX8_part_83 : decode cX8_part 83 = .ok (.getfield 53, 3) := by decide +kernel
theorem dX8_part_86 : decode cX8_part 86 = .ok (.getfield 139, 3) := by decide +kernel
theorem dX8_part_89 : decode cX8_part 89 = .ok (.iload 4, 2) := by decide +kernel
theorem dX8_part_91 : decode cX8_part 91 = .ok (.iaload, 1) := by decide +kernel
theorem dX8_part_92 : decode cX8_part 92 = .ok (.isub, 1) := by decide +kernel
theorem dX8_part_93 : decode cX8_part 93 = .ok (.invokevirtual 98, 3) := by decide +kernel
theorem dX8_part_96 : decode cX8_part 96 = .ok (.ireturn, 1) := by decide +kernel
theorem dX8_knew_0 : decode cX8_knew 0 = .ok (.iload_n 1, 1) := by decide +kernel
theorem dX8_knew_1 : decode cX8_knew 1 = .ok (.ifCond .lt 14, 3) := by decide +kernel
theorem dX8_knew_4 : decode cX8_knew 4 = .ok (.iload_n 1, 1) := by decide +kernel
theorem dX8_knew_5 : decode cX8_knew 5 = .ok (.aload_n 0, 1) := by decide +kernel
theorem dX8_knew_6 : decode cX8_knew 6 = .ok (.getfield 28, 3) := by decide +kernel
theorem dX8_knew_9 : decode cX8_knew 9 = .ok (.getfield 247, 3) := by decide +kernel
theorem dX8_knew_12 : decode cX8_knew 12 = .ok (.if_icmp .lt 9, 3) := by decide +kernel
theorem dX8_knew_15 : decode cX8_knew 15 = .ok (.aload_n 0, 1) := by decide +kernel
theorem dX8_knew_16 : decode cX8_knew 16 = .ok (.iconst 1, 1) := by decide +kernel
theorem dX8_knew_17 : decode cX8_knew 17 = .ok (.invokevirtual 81, 3) := by decide +kernel
theorem dX8_knew_20 : decode cX8_knew 20 = .ok (.ireturn, 1) := by decide +kernel
theorem dX8_knew_21 : decode cX8_knew 21 = .ok (.aload_n 0, 1) := by decide +kernel
theorem dX8_knew_22 : decode cX8_knew 22 = .ok (.aload_n 0, 1) := by decide +kernel
theorem dX8_knew_23 : decode cX8_knew 23 = .ok (.getfield 60, 3) := by decide +kernel
theorem dX8_knew_26 : decode cX8_knew 26 = .ok (.aload_n 0, 1) := by decide +kernel
theorem dX8_knew_27 : decode cX8_knew 27 = .ok (.getfield 28, 3) := by decide +kernel
theorem dX8_knew_30 : decode cX8_knew 30 = .ok (.getfield 250, 3) := by decide +kernel
theorem dX8_knew_33 : decode cX8_knew 33 = .ok (.iload_n 1, 1) := by decide +kernel
theorem dX8_knew_34 : decode cX8_knew 34 = .ok (.iaload, 1) := by decide +kernel
theorem dX8_knew_35 : decode cX8_knew 35 = .ok (.aload_n 0, 1) := by decide +kernel
theorem dX8_knew_36 : decode cX8_knew 36 = .ok (.getfield 28, 3) := by decide +kernel
theorem dX8_knew_39 : decode cX8_knew 39 = .ok (.getfield 253, 3) := by decide +kernel
theorem dX8_knew_42 : decode cX8_knew 42 = .ok (.iload_n 1, 1) := by decide +kernel
theorem dX8_knew_43 : decode cX8_knew 43 = .ok (.iaload, 1) := by decide +kernel
theorem dX8_knew_44 : decode cX8_knew 44 = .ok (.invokevirtual 256, 3) := by decide +kernel
theorem dX8_knew_47 : decode cX8_knew 47 = .ok (.invokevirtual 98, 3) := by decide +kernel
theorem dX8_knew_50 : decode cX8_knew 50 = .ok (.ireturn, 1) := by decide +kernel
theorem dX8_led_0 : decode cX8_led 0 = .ok (.aload_n 0, 1) := by decide +kernel
theorem dX8_led_1 : decode cX8_led 1 = .ok (.iload_n 1, 1) := by decide +kernel
theorem dX8_led_2 : decode cX8_led 2 = .ok (.invokevirtual 152, 3) := by decide +kernel
theorem dX8_led_5 : decode cX8_led 5 = .ok (.ifCond .ne 14, 3) := by decide +kernel
theorem dX8_led_8 : decode cX8_led 8 = .ok (.new 259, 3) := by decide +kernel
theorem dX8_led_11 : decode cX8_led 11 = .ok (.dup, 1) := by decide +kernel
theorem dX8_led_12 : decode cX8_led 12 = .ok (.ldc_w 261, 3) := by decide +kernel
theorem dX8_led_15 : decode cX8_led 15 = .ok (.invokespecial 263, 3) := by decide +kernel
theorem dX8_led_18 : decode cX8_led 18 = .ok (.athrow, 1) := by decide +kernel
theorem dX8_led_19 : decode cX8_led 19 = .ok (.aload_n 0, 1) := by decide +kernel
theorem dX8_led_20 : decode cX8_led 20 = .ok (.iload_n 1, 1) := by decide +kernel
theorem dX8_led_21 : decode cX8_led 21 = .ok (.invokevirtual 135, 3) := by decide +kernel
theorem dX8_led_24 : decode cX8_led 24 = .ok (.astore_n 3, 1) := by decide +kernel
theorem dX8_led_25 : decode cX8_led 25 = .ok (.iconst 0, 1) := by decide +kernel
theorem dX8_led_26 : decode cX8_led 26 = .ok (.istore 4, 2) := by decide +kernel
theorem dX8_led_28 : decode cX8_led 28 = .ok (.iconst 0, 1) := by decide +kernel
theorem dX8_led_29 : decode cX8_led 29 = .ok (.istore 5, 2) := by decide +kernel
theorem dX8_led_31 : decode cX8_led 31 = .ok (.iload 5, 2) := by decide +kernel
theorem dX8_led_33 : decode cX8_led 33 = .ok (.bipush 60, 2) := by decide +kernel
theorem dX8_led_35 : decode cX8_led 35 = .ok (.if_icmp .ge 37, 3) := by decide +kernel
theorem dX8_led_38 : decode cX8_led 38 = .ok (.aload_n 3, 1) := by decide +kernel
theorem dX8_led_39 : decode cX8_led 39 = .ok (.getfield 266, 3) := by decide +kernel
theorem dX8_led_42 : decode cX8_led 42 = .ok (.iload 5, 2) := by decide +kernel
theorem dX8_led_44 : decode cX8_led 44 = .ok (.iaload, 1) := by decide +kernel
theorem dX8_led_45 : decode cX8_led 45 = .ok (.aload_n 3, 1) := by decide +kernel
theorem dX8_led_46 : decode cX8_led 46 = .ok (.iload 5, 2) := by decide +kernel
theorem dX8_led_48 : decode cX8_led 48 = .ok (.invokevirtual 269, 3) := by decide +kernel
theorem dX8_led_51 : decode cX8_led 51 = .ok (.if_icmp .le 15, 3) := by decide +kernel
theorem dX8_led_54 : decode cX8_led 54 = .ok (.iload 4, 2) := by decide +kernel
theorem dX8_led_56 : decode cX8_led 56 = .ok (.iload_n 2, 1) := by decide +kernel
theorem dX8_led_57 : decode cX8_led 57 = .ok (.if_icmp .ne 6, 3) := by decide +kernel
theorem dX8_led_60 : decode cX8_led 60 = .ok (.iload 5, 2) := by decide +kernel
theorem dX8_led_62 : decode cX8_led 62 = .ok (.ireturn, 1) := by decide +kernel
theorem dX8_led_63 : decode cX8_led 63 = .ok (.iinc 4 1, 3) := by decide +kernel
theorem dX8_led_66 : decode cX8_led 66 = .ok (.iinc 5 1, 3) := by decide +kernel
theorem dX8_led_69 : decode cX8_led 69 = .ok (.goto (-38), 3) := by decide +kernel
theorem dX8_led_72 : decode cX8_led 72 = .ok (.new 259, 3) := by decide +kernel
theorem dX8_led_75 : decode cX8_led 75 = .ok (.dup, 1) := by decide +kernel
theorem dX8_led_76 : decode cX8_led 76 = .ok (.ldc_w 272, 3) := by decide +kernel
theorem dX8_led_79 : decode cX8_led 79 = .ok (.invokespecial 263, 3) := by decide +kernel
theorem dX8_led_82 : decode cX8_led 82 = .ok (.athrow, 1) := by decide +kernel
theorem dX8_size_0 : decode cX8_size 0 = .ok (.iload_n 1, 1) := by decide +kernel
theorem dX8_size_1 : decode cX8_size 1 = .ok (.tableswitch 144 0 9 #[55, 63, 74, 82, 90, 98, 106, 114, 122, 133], 55) := by decide +kernel
theorem dX8_size_56 : decode cX8_size 56 = .ok (.aload_n 0, 1) := by decide +kernel
theorem dX8_size_57 : decode cX8_size 57 = .ok (.getfield 28, 3) := by decide +kernel
theorem dX8_size_60 : decode cX8_size 60 = .ok (.getfield 274, 3) := by decide +kernel
theorem dX8_size_63 : decode cX8_size 63 = .ok (.ireturn, 1) := by decide +kernel
theorem dX8_size_64 : decode cX8_size 64 = .ok (.aload_n 0, 1) := by decide +kernel
theorem dX8_size_65 : decode cX8_size 65 = .ok (.getfield 28, 3) := by decide +kernel
theorem dX8_size_68 : decode cX8_size 68 = .ok (.getfield 115, 3) := by decide +kernel
theorem dX8_size_71 : decode cX8_size 71 = .ok (.getfield 119, 3) := by decide +kernel
theorem dX8_size_74 : decode cX8_size 74 = .ok (.ireturn, 1) := by decide +kernel
theorem dX8_size_75 : decode cX8_size 75 = .ok (.aload_n 0, 1) := by decide +kernel
theorem dX8_size_76 : decode cX8_size 76 = .ok (.getfield 28, 3) := by decide +kernel
theorem dX8_size_79 : decode cX8_size 79 = .ok (.getfield 277, 3) := by decide +kernel
theorem dX8_size_82 : decode cX8_size 82 = .ok (.ireturn, 1) := by decide +kernel
theorem dX8_size_83 : decode cX8_size 83 = .ok (.aload_n 0, 1) := by decide +kernel
theorem dX8_size_84 : decode cX8_size 84 = .ok (.getfield 28, 3) := by decide +kernel
theorem dX8_size_87 : decode cX8_size 87 = .ok (.getfield 95, 3) := by decide +kernel
theorem dX8_size_90 : decode cX8_size 90 = .ok (.ireturn, 1) := by decide +kernel
theorem dX8_size_91 : decode cX8_size 91 = .ok (.aload_n 0, 1) := by decide +kernel
theorem dX8_size_92 : decode cX8_size 92 = .ok (.getfield 28, 3) := by decide +kernel
theorem dX8_size_95 : decode cX8_size 95 = .ok (.getfield 222, 3) := by decide +kernel
theorem dX8_size_98 : decode cX8_size 98 = .ok (.ireturn, 1) := by decide +kernel
theorem dX8_size_99 : decode cX8_size 99 = .ok (.aload_n 0, 1) := by decide +kernel
theorem dX8_size_100 : decode cX8_size 100 = .ok (.getfield 28, 3) := by decide +kernel
theorem dX8_size_103 : decode cX8_size 103 = .ok (.getfield 247, 3) := by decide +kernel
theorem dX8_size_106 : decode cX8_size 106 = .ok (.ireturn, 1) := by decide +kernel
theorem dX8_size_107 : decode cX8_size 107 = .ok (.aload_n 0, 1) := by decide +kernel
theorem dX8_size_108 : decode cX8_size 108 = .ok (.getfield 60, 3) := by decide +kernel
theorem dX8_size_111 : decode cX8_size 111 = .ok (.getfield 89, 3) := by decide +kernel
theorem dX8_size_114 : decode cX8_size 114 = .ok (.ireturn, 1) := by decide +kernel
theorem dX8_size_115 : decode cX8_size 115 = .ok (.aload_n 0, 1) := by decide +kernel
theorem dX8_size_116 : decode cX8_size 116 = .ok (.getfield 10, 3) := by decide +kernel
theorem dX8_size_119 : decode cX8_size 119 = .ok (.getfield 74, 3) := by decide +kernel
theorem dX8_size_122 : decode cX8_size 122 = .ok (.ireturn, 1) := by decide +kernel
theorem dX8_size_123 : decode cX8_size 123 = .ok (.aload_n 0, 1) := by decide +kernel
theorem dX8_size_124 : decode cX8_size 124 = .ok (.getfield 28, 3) := by decide +kernel
theorem dX8_size_127 : decode cX8_size 127 = .ok (.getfield 115, 3) := by decide +kernel
theorem dX8_size_130 : decode cX8_size 130 = .ok (.getfield 280, 3) := by decide +kernel
theorem dX8_size_133 : decode cX8_size 133 = .ok (.ireturn, 1) := by decide +kernel
theorem dX8_size_134 : decode cX8_size 134 = .ok (.aload_n 0, 1) := by decide +kernel
theorem dX8_size_135 : decode cX8_size 135 = .ok (.getfield 28, 3) := by decide +kernel
theorem dX8_size_138 : decode cX8_size 138 = .ok (.getfield 115, 3) := by decide +kernel
theorem dX8_size_141 : decode cX8_size 141 = .ok (.getfield 204, 3) := by decide +kernel
theorem dX8_size_144 : decode cX8_size 144 = .ok (.ireturn, 1) := by decide +kernel
theorem dX8_size_145 : decode cX8_size 145 = .ok (.iconst (-1), 1) := by decide +kernel
theorem dX8_size_146 : decode cX8_size 146 = .ok (.ireturn, 1) := by decide +kernel
theorem dX8_trouble_0 : decode cX8_trouble 0 = .ok (.aload_n 0, 1) := by decide +kernel
theorem dX8_trouble_1 : decode cX8_trouble 1 = .ok (.getfield 70, 3) := by decide +kernel
theorem dX8_trouble_4 : decode cX8_trouble 4 = .ok (.ireturn, 1) := by decide +kernel
theorem dX8_refuse_0 : decode cX8_refuse 0 = .ok (.aload_n 0, 1) := by decide +kernel
theorem dX8_refuse_1 : decode cX8_refuse 1 = .ok (.iload_n 1, 1) := by decide +kernel
theorem dX8_refuse_2 : decode cX8_refuse 2 = .ok (.putfield 70, 3) := by decide +kernel
theorem dX8_refuse_5 : decode cX8_refuse 5 = .ok (.iconst (-1), 1) := by decide +kernel
theorem dX8_refuse_6 : decode cX8_refuse 6 = .ok (.ireturn, 1) := by decide +kernel
theorem dX8_answer_0 : decode cX8_answer 0 = .ok (.aload_n 0, 1) := by decide +kernel
theorem dX8_answer_1 : decode cX8_answer 1 = .ok (.iconst 0, 1) := by decide +kernel
theorem dX8_answer_2 : decode cX8_answer 2 = .ok (.putfield 70, 3) := by decide +kernel
theorem dX8_answer_5 : decode cX8_answer 5 = .ok (.iload_n 1, 1) := by decide +kernel
theorem dX8_answer_6 : decode cX8_answer 6 = .ok (.ireturn, 1) := by decide +kernel
theorem dX8_noHill_0 : decode cX8_noHill 0 = .ok (.aload_n 0, 1) := by decide +kernel
theorem dX8_noHill_1 : decode cX8_noHill 1 = .ok (.getfield 28, 3) := by decide +kernel
theorem dX8_noHill_4 : decode cX8_noHill 4 = .ok (.getfield 95, 3) := by decide +kernel
theorem dX8_noHill_7 : decode cX8_noHill 7 = .ok (.ifCond .ne 7, 3) := by decide +kernel
theorem dX8_noHill_10 : decode cX8_noHill 10 = .ok (.iconst 1, 1) := by decide +kernel
theorem dX8_noHill_11 : decode cX8_noHill 11 = .ok (.goto 4, 3) := by decide +kernel
theorem dX8_noHill_14 : decode cX8_noHill 14 = .ok (.iconst 0, 1) := by decide +kernel
theorem dX8_noHill_15 : decode cX8_noHill 15 = .ok (.ireturn, 1) := by decide +kernel
theorem dX8_isDay_0 : decode cX8_isDay 0 = .ok (.iload_n 0, 1) := by decide +kernel
theorem dX8_isDay_1 : decode cX8_isDay 1 = .ok (.ifCond .lt 13, 3) := by decide +kernel
theorem dX8_isDay_4 : decode cX8_isDay 4 = .ok (.iload_n 0, 1) := by decide +kernel
theorem dX8_isDay_5 : decode cX8_isDay 5 = .ok (.bipush 60, 2) := by decide +kernel
theorem dX8_isDay_7 : decode cX8_isDay 7 = .ok (.if_icmp .ge 7, 3) := by decide +kernel
theorem dX8_isDay_10 : decode cX8_isDay 10 = .ok (.iconst 1, 1) := by decide +kernel
theorem dX8_isDay_11 : decode cX8_isDay 11 = .ok (.goto 4, 3) := by decide +kernel
theorem dX8_isDay_14 : decode cX8_isDay 14 = .ok (.iconst 0, 1) := by decide +kernel
theorem dX8_isDay_15 : decode cX8_isDay 15 = .ok (.ireturn, 1) := by decide +kernel
theorem dX8_isStory_0 : decode cX8_isStory 0 = .ok (.iload_n 1, 1) := by decide +kernel
theorem dX8_isStory_1 : decode cX8_isStory 1 = .ok (.ifCond .lt 18, 3) := by decide +kernel
theorem dX8_isStory_4 : decode cX8_isStory 4 = .ok (.iload_n 1, 1) := by decide +kernel
theorem dX8_isStory_5 : decode cX8_isStory 5 = .ok (.aload_n 0, 1) := by decide +kernel
theorem dX8_isStory_6 : decode cX8_isStory 6 = .ok (.getfield 28, 3) := by decide +kernel
theorem dX8_isStory_9 : decode cX8_isStory 9 = .ok (.getfield 95, 3) := by decide +kernel
theorem dX8_isStory_12 : decode cX8_isStory 12 = .ok (.if_icmp .ge 7, 3) := by decide +kernel
theorem dX8_isStory_15 : decode cX8_isStory 15 = .ok (.iconst 1, 1) := by decide +kernel
theorem dX8_isStory_16 : decode cX8_isStory 16 = .ok (.goto 4, 3) := by decide +kernel
theorem dX8_isStory_19 : decode cX8_isStory 19 = .ok (.iconst 0, 1) := by decide +kernel
theorem dX8_isStory_20 : decode cX8_isStory 20 = .ok (.ireturn, 1) := by decide +kernel
theorem dX8_isPeg_0 : decode cX8_isPeg 0 = .ok (.iload_n 1, 1) := by decide +kernel
theorem dX8_isPeg_1 : decode cX8_isPeg 1 = .ok (.ifCond .lt 18, 3) := by decide +kernel
theorem dX8_isPeg_4 : decode cX8_isPeg 4 = .ok (.iload_n 1, 1) := by decide +kernel
theorem dX8_isPeg_5 : decode cX8_isPeg 5 = .ok (.aload_n 0, 1) := by decide +kernel
theorem dX8_isPeg_6 : decode cX8_isPeg 6 = .ok (.getfield 28, 3) := by decide +kernel
theorem dX8_isPeg_9 : decode cX8_isPeg 9 = .ok (.getfield 274, 3) := by decide +kernel
theorem dX8_isPeg_12 : decode cX8_isPeg 12 = .ok (.if_icmp .ge 7, 3) := by decide +kernel
theorem dX8_isPeg_15 : decode cX8_isPeg 15 = .ok (.iconst 1, 1) := by decide +kernel
theorem dX8_isPeg_16 : decode cX8_isPeg 16 = .ok (.goto 4, 3) := by decide +kernel
theorem dX8_isPeg_19 : decode cX8_isPeg 19 = .ok (.iconst 0, 1) := by decide +kernel
theorem dX8_isPeg_20 : decode cX8_isPeg 20 = .ok (.ireturn, 1) := by decide +kernel
theorem dX8_isVillage_0 : decode cX8_isVillage 0 = .ok (.iload_n 1, 1) := by decide +kernel
theorem dX8_isVillage_1 : decode cX8_isVillage 1 = .ok (.ifCond .lt 18, 3) := by decide +kernel
theorem dX8_isVillage_4 : decode cX8_isVillage 4 = .ok (.iload_n 1, 1) := by decide +kernel
theorem dX8_isVillage_5 : decode cX8_isVillage 5 = .ok (.aload_n 0, 1) := by decide +kernel
theorem dX8_isVillage_6 : decode cX8_isVillage 6 = .ok (.getfield 28, 3) := by decide +kernel
theorem dX8_isVillage_9 : decode cX8_isVillage 9 = .ok (.getfield 222, 3) := by decide +kernel
theorem dX8_isVillage_12 : decode cX8_isVillage 12 = .ok (.if_icmp .ge 7, 3) := by decide +kernel
theorem dX8_isVillage_15 : decode cX8_isVillage 15 = .ok (.iconst 1, 1) := by decide +kernel
theorem dX8_isVillage_16 : decode cX8_isVillage 16 = .ok (.goto 4, 3) := by decide +kernel
theorem dX8_isVillage_19 : decode cX8_isVillage 19 = .ok (.iconst 0, 1) := by decide +kernel
theorem dX8_isVillage_20 : decode cX8_isVillage 20 = .ok (.ireturn, 1) := by decide +kernel
theorem dX8_isPegDay_0 : decode cX8_isPegDay 0 = .ok (.aload_n 0, 1) := by decide +kernel
theorem dX8_isPegDay_1 : decode cX8_isPegDay 1 = .ok (.iload_n 1, 1) := by decide +kernel
theorem dX8_isPegDay_2 : decode cX8_isPegDay 2 = .ok (.invokevirtual 152, 3) := by decide +kernel
theorem dX8_isPegDay_5 : decode cX8_isPegDay 5 = .ok (.ifCond .eq 22, 3) := by decide +kernel
theorem dX8_isPegDay_8 : decode cX8_isPegDay 8 = .ok (.aload_n 0, 1) := by decide +kernel
theorem dX8_isPegDay_9 : decode cX8_isPegDay 9 = .ok (.iload_n 2, 1) := by decide +kernel
theorem dX8_isPegDay_10 : decode cX8_isPegDay 10 = .ok (.invokevirtual 161, 3) := by decide +kernel
theorem dX8_isPegDay_13 : decode cX8_isPegDay 13 = .ok (.ifCond .eq 14, 3) := by decide +kernel
theorem dX8_isPegDay_16 : decode cX8_isPegDay 16 = .ok (.iload_n 3, 1) := by decide +kernel
theorem dX8_isPegDay_17 : decode cX8_isPegDay 17 = .ok (.invokestatic 111, 3) := by decide +kernel
theorem dX8_isPegDay_20 : decode cX8_isPegDay 20 = .ok (.ifCond .eq 7, 3) := by decide +kernel
theorem dX8_isPegDay_23 : decode cX8_isPegDay 23 = .ok (.iconst 1, 1) := by decide +kernel
theorem dX8_isPegDay_24 : decode cX8_isPegDay 24 = .ok (.goto 4, 3) := by decide +kernel
theorem dX8_isPegDay_27 : decode cX8_isPegDay 27 = .ok (.iconst 0, 1) := by decide +kernel
theorem dX8_isPegDay_28 : decode cX8_isPegDay 28 = .ok (.ireturn, 1) := by decide +kernel
theorem dX8_row_0 : decode cX8_row 0 = .ok (.iload_n 0, 1) := by decide +kernel
theorem dX8_row_1 : decode cX8_row 1 = .ok (.bipush 60, 2) := by decide +kernel
theorem dX8_row_3 : decode cX8_row 3 = .ok (.imul, 1) := by decide +kernel
theorem dX8_row_4 : decode cX8_row 4 = .ok (.iload_n 1, 1) := by decide +kernel
theorem dX8_row_5 : decode cX8_row 5 = .ok (.iadd, 1) := by decide +kernel
theorem dX8_row_6 : decode cX8_row 6 = .ok (.ireturn, 1) := by decide +kernel
theorem dX8_planAnew_0 : decode cX8_planAnew 0 = .ok (.aload_n 0, 1) := by decide +kernel
theorem dX8_planAnew_1 : decode cX8_planAnew 1 = .ok (.getfield 28, 3) := by decide +kernel
theorem dX8_planAnew_4 : decode cX8_planAnew 4 = .ok (.getfield 115, 3) := by decide +kernel
theorem dX8_planAnew_7 : decode cX8_planAnew 7 = .ok (.aload_n 0, 1) := by decide +kernel
theorem dX8_planAnew_8 : decode cX8_planAnew 8 = .ok (.getfield 35, 3) := by decide +kernel
theorem dX8_planAnew_11 : decode cX8_planAnew 11 = .ok (.bipush 60, 2) := by decide +kernel
theorem dX8_planAnew_13 : decode cX8_planAnew 13 = .ok (.invokevirtual 283, 3) := by decide +kernel
theorem dX8_planAnew_16 : decode cX8_planAnew 16 = .ok (.iconst 0, 1) := by decide +kernel
theorem dX8_planAnew_17 : decode cX8_planAnew 17 = .ok (.istore_n 1, 1) := by decide +kernel
theorem dX8_planAnew_18 : decode cX8_planAnew 18 = .ok (.iload_n 1, 1) := by decide +kernel
theorem dX8_planAnew_19 : decode cX8_planAnew 19 = .ok (.bipush 6, 2) := by decide +kernel
theorem dX8_planAnew_21 : decode cX8_planAnew 21 = .ok (.if_icmp .ge 16, 3) := by decide +kernel
theorem dX8_planAnew_24 : decode cX8_planAnew 24 = .ok (.aload_n 0, 1) := by decide +kernel
theorem dX8_planAnew_25 : decode cX8_planAnew 25 = .ok (.getfield 46, 3) := by decide +kernel
theorem dX8_planAnew_28 : decode cX8_planAnew 28 = .ok (.iload_n 1, 1) := by decide +kernel
theorem dX8_planAnew_29 : decode cX8_planAnew 29 = .ok (.iconst 0, 1) := by decide +kernel
theorem dX8_planAnew_30 : decode cX8_planAnew 30 = .ok (.bastore, 1) := by decide +kernel
theorem dX8_planAnew_31 : decode cX8_planAnew 31 = .ok (.iinc 1 1, 3) := by decide +kernel
theorem dX8_planAnew_34 : decode cX8_planAnew 34 = .ok (.goto (-16), 3) := by decide +kernel
theorem dX8_planAnew_37 : decode cX8_planAnew 37 = .ok (.return_, 1) := by decide +kernel
theorem dX8_courseOf_0 : decode cX8_courseOf 0 = .ok (.aload_n 0, 1) := by decide +kernel
theorem dX8_courseOf_1 : decode cX8_courseOf 1 = .ok (.getfield 41, 3) := by decide +kernel
theorem dX8_courseOf_4 : decode cX8_courseOf 4 = .ok (.iload_n 1, 1) := by decide +kernel
theorem dX8_courseOf_5 : decode cX8_courseOf 5 = .ok (.aaload, 1) := by decide +kernel
theorem dX8_courseOf_6 : decode cX8_courseOf 6 = .ok (.astore_n 2, 1) := by decide +kernel
theorem dX8_courseOf_7 : decode cX8_courseOf 7 = .ok (.aload_n 0, 1) := by decide +kernel
theorem dX8_courseOf_8 : decode cX8_courseOf 8 = .ok (.getfield 46, 3) := by decide +kernel
theorem dX8_courseOf_11 : decode cX8_courseOf 11 = .ok (.iload_n 1, 1) := by decide +kernel
theorem dX8_courseOf_12 : decode cX8_courseOf 12 = .ok (.baload, 1) := by decide +kernel
theorem dX8_courseOf_13 : decode cX8_courseOf 13 = .ok (.ifCond .ne 32, 3) := by decide +kernel
theorem dX8_courseOf_16 : decode cX8_courseOf 16 = .ok (.aload_n 2, 1) := by decide +kernel
theorem dX8_courseOf_17 : decode cX8_courseOf 17 = .ok (.aload_n 0, 1) := by decide +kernel
theorem dX8_courseOf_18 : decode cX8_courseOf 18 = .ok (.getfield 28, 3) := by decide +kernel
theorem dX8_courseOf_21 : decode cX8_courseOf 21 = .ok (.aload_n 0, 1) := by decide +kernel
theorem dX8_courseOf_22 : decode cX8_courseOf 22 = .ok (.getfield 28, 3) := by decide +kernel
theorem dX8_courseOf_25 : decode cX8_courseOf 25 = .ok (.getfield 181, 3) := by decide +kernel
theorem dX8_courseOf_28 : decode cX8_courseOf 28 = .ok (.iload_n 1, 1) := by decide +kernel
theorem dX8_courseOf_29 : decode cX8_courseOf 29 = .ok (.aaload, 1) := by decide +kernel
theorem dX8_courseOf_30 : decode cX8_courseOf 30 = .ok (.aload_n 0, 1) := by decide +kernel
theorem dX8_courseOf_31 : decode cX8_courseOf 31 = .ok (.getfield 35, 3) := by decide +kernel
theorem dX8_courseOf_34 : decode cX8_courseOf 34 = .ok (.iconst 1, 1) := by decide +kernel
theorem dX8_courseOf_35 : decode cX8_courseOf 35 = .ok (.invokevirtual 243, 3) := by decide +kernel
theorem dX8_courseOf_38 : decode cX8_courseOf 38 = .ok (.aload_n 0, 1) := by decide +kernel
theorem dX8_courseOf_39 : decode cX8_courseOf 39 = .ok (.getfield 46, 3) := by decide +kernel
theorem dX8_courseOf_42 : decode cX8_courseOf 42 = .ok (.iload_n 1, 1) := by decide +kernel
theorem dX8_courseOf_43 : decode cX8_courseOf 43 = .ok (.iconst 1, 1) := by decide +kernel
theorem dX8_courseOf_44 : decode cX8_courseOf 44 = .ok (.bastore, 1) := by decide +kernel
theorem dX8_courseOf_45 : decode cX8_courseOf 45 = .ok (.aload_n 2, 1) := by decide +kernel
theorem dX8_courseOf_46 : decode cX8_courseOf 46 = .ok (.areturn, 1) := by decide +kernel
theorem dX8_staysIfDownFrom_0 : decode cX8_staysIfDownFrom 0 = .ok (.aload_n 0, 1) := by decide +kernel
theorem dX8_staysIfDownFrom_1 : decode cX8_staysIfDownFrom 1 = .ok (.getfield 28, 3) := by decide +kernel
theorem dX8_staysIfDownFrom_4 : decode cX8_staysIfDownFrom 4 = .ok (.getfield 115, 3) := by decide +kernel
theorem dX8_staysIfDownFrom_7 : decode cX8_staysIfDownFrom 7 = .ok (.aload_n 0, 1) := by decide +kernel
theorem dX8_staysIfDownFrom_8 : decode cX8_staysIfDownFrom 8 = .ok (.getfield 50, 3) := by decide +kernel
theorem dX8_staysIfDownFrom_11 : decode cX8_staysIfDownFrom 11 = .ok (.iload_n 2, 1) := by decide +kernel
theorem dX8_staysIfDownFrom_12 : decode cX8_staysIfDownFrom 12 = .ok (.invokevirtual 283, 3) := by decide +kernel
theorem dX8_staysIfDownFrom_15 : decode cX8_staysIfDownFrom 15 = .ok (.aload_n 0, 1) := by decide +kernel
theorem dX8_staysIfDownFrom_16 : decode cX8_staysIfDownFrom 16 = .ok (.getfield 53, 3) := by decide +kernel
theorem dX8_staysIfDownFrom_19 : decode cX8_staysIfDownFrom 19 = .ok (.aload_n 0, 1) := by decide +kernel
theorem dX8_staysIfDownFrom_20 : decode cX8_staysIfDownFrom 20 = .ok (.getfield 28, 3) := by decide +kernel
theorem dX8_staysIfDownFrom_23 : decode cX8_staysIfDownFrom 23 = .ok (.aload_n 0, 1) := by decide +kernel
theorem dX8_staysIfDownFrom_24 : decode cX8_staysIfDownFrom 24 = .ok (.getfield 28, 3) := by decide +kernel
theorem dX8_staysIfDownFrom_27 : decode cX8_staysIfDownFrom 27 = .ok (.getfield 181, 3) := by decide +kernel
theorem dX8_staysIfDownFrom_30 : decode cX8_staysIfDownFrom 30 = .ok (.iload_n 1, 1) := by decide +kernel
theorem dX8_staysIfDownFrom_31 : decode cX8_staysIfDownFrom 31 = .ok (.aaload, 1) := by decide +kernel
theorem dX8_staysIfDownFrom_32 : decode cX8_staysIfDownFrom 32 = .ok (.aload_n 0, 1) := by decide +kernel
theorem dX8_staysIfDownFrom_33 : decode cX8_staysIfDownFrom 33 = .ok (.getfield 50, 3) := by decide +kernel
theorem dX8_staysIfDownFrom_36 : decode cX8_staysIfDownFrom 36 = .ok (.iconst 1, 1) := by decide +kernel
theorem dX8_staysIfDownFrom_37 : decode cX8_staysIfDownFrom 37 = .ok (.invokevirtual 243, 3) := by decide +kernel
theorem dX8_staysIfDownFrom_40 : decode cX8_staysIfDownFrom 40 = .ok (.aload_n 0, 1) := by decide +kernel
theorem dX8_staysIfDownFrom_41 : decode cX8_staysIfDownFrom 41 = .ok (.getfield 53, 3) := by decide +kernel
theorem dX8_staysIfDownFrom_44 : decode cX8_staysIfDownFrom 44 = .ok (.getfield 155, 3) := by decide +kernel
theorem dX8_staysIfDownFrom_47 : decode cX8_staysIfDownFrom 47 = .ok (.bipush (-2), 2) := by decide +kernel
theorem dX8_staysIfDownFrom_49 : decode cX8_staysIfDownFrom 49 = .ok (.if_icmp .ne 7, 3) := by decide +kernel
theorem dX8_staysIfDownFrom_52 : decode cX8_staysIfDownFrom 52 = .ok (.iconst 1, 1) := by decide +kernel
theorem dX8_staysIfDownFrom_53 : decode cX8_staysIfDownFrom 53 = .ok (.goto 4, 3) := by decide +kernel
theorem dX8_staysIfDownFrom_56 : decode cX8_staysIfDownFrom 56 = .ok (.iconst 0, 1) := by decide +kernel
theorem dX8_staysIfDownFrom_57 : decode cX8_staysIfDownFrom 57 = .ok (.ireturn, 1) := by decide +kernel
theorem dX8_staysIfSteady_0 : decode cX8_staysIfSteady 0 = .ok (.aload_n 0, 1) := by decide +kernel
theorem dX8_staysIfSteady_1 : decode cX8_staysIfSteady 1 = .ok (.getfield 28, 3) := by decide +kernel
theorem dX8_staysIfSteady_4 : decode cX8_staysIfSteady 4 = .ok (.getfield 115, 3) := by decide +kernel
theorem dX8_staysIfSteady_7 : decode cX8_staysIfSteady 7 = .ok (.aload_n 0, 1) := by decide +kernel
theorem dX8_staysIfSteady_8 : decode cX8_staysIfSteady 8 = .ok (.getfield 50, 3) := by decide +kernel
theorem dX8_staysIfSteady_11 : decode cX8_staysIfSteady 11 = .ok (.iload_n 2, 1) := by decide +kernel
theorem dX8_staysIfSteady_12 : decode cX8_staysIfSteady 12 = .ok (.invokevirtual 287, 3) := by decide +kernel
theorem dX8_staysIfSteady_15 : decode cX8_staysIfSteady 15 = .ok (.aload_n 0, 1) := by decide +kernel
theorem dX8_staysIfSteady_16 : decode cX8_staysIfSteady 16 = .ok (.getfield 53, 3) := by decide +kernel
theorem dX8_staysIfSteady_19 : decode cX8_staysIfSteady 19 = .ok (.aload_n 0, 1) := by decide +kernel
theorem dX8_staysIfSteady_20 : decode cX8_staysIfSteady 20 = .ok (.getfield 28, 3) := by decide +kernel
theorem dX8_staysIfSteady_23 : decode cX8_staysIfSteady 23 = .ok (.aload_n 0, 1) := by decide +kernel
theorem dX8_staysIfSteady_24 : decode cX8_staysIfSteady 24 = .ok (.getfield 28, 3) := by decide +kernel
theorem dX8_staysIfSteady_27 : decode cX8_staysIfSteady 27 = .ok (.getfield 181, 3) := by decide +kernel
theorem dX8_staysIfSteady_30 : decode cX8_staysIfSteady 30 = .ok (.iload_n 1, 1) := by decide +kernel
theorem dX8_staysIfSteady_31 : decode cX8_staysIfSteady 31 = .ok (.aaload, 1) := by decide +kernel
theorem dX8_staysIfSteady_32 : decode cX8_staysIfSteady 32 = .ok (.aload_n 0, 1) := by decide +kernel
theorem dX8_staysIfSteady_33 : decode cX8_staysIfSteady 33 = .ok (.getfield 50, 3) := by decide +kernel
theorem dX8_staysIfSteady_36 : decode cX8_staysIfSteady 36 = .ok (.iconst 1, 1) := by decide +kernel
theorem dX8_staysIfSteady_37 : decode cX8_staysIfSteady 37 = .ok (.invokevirtual 243, 3) := by decide +kernel
theorem dX8_staysIfSteady_40 : decode cX8_staysIfSteady 40 = .ok (.aload_n 0, 1) := by decide +kernel
theorem dX8_staysIfSteady_41 : decode cX8_staysIfSteady 41 = .ok (.getfield 53, 3) := by decide +kernel
theorem dX8_staysIfSteady_44 : decode cX8_staysIfSteady 44 = .ok (.getfield 155, 3) := by decide +kernel
theorem dX8_staysIfSteady_47 : decode cX8_staysIfSteady 47 = .ok (.bipush (-2), 2) := by decide +kernel
theorem dX8_staysIfSteady_49 : decode cX8_staysIfSteady 49 = .ok (.if_icmp .ne 7, 3) := by decide +kernel
theorem dX8_staysIfSteady_52 : decode cX8_staysIfSteady 52 = .ok (.iconst 1, 1) := by decide +kernel
theorem dX8_staysIfSteady_53 : decode cX8_staysIfSteady 53 = .ok (.goto 4, 3) := by decide +kernel
theorem dX8_staysIfSteady_56 : decode cX8_staysIfSteady 56 = .ok (.iconst 0, 1) := by decide +kernel
theorem dX8_staysIfSteady_57 : decode cX8_staysIfSteady 57 = .ok (.ireturn, 1) := by decide +kernel
theorem dX8_findFits_0 : decode cX8_findFits 0 = .ok (.iconst 0, 1) := by decide +kernel
theorem dX8_findFits_1 : decode cX8_findFits 1 = .ok (.istore_n 1, 1) := by decide +kernel
theorem dX8_findFits_2 : decode cX8_findFits 2 = .ok (.iload_n 1, 1) := by decide +kernel
theorem dX8_findFits_3 : decode cX8_findFits 3 = .ok (.aload_n 0, 1) := by decide +kernel
theorem dX8_findFits_4 : decode cX8_findFits 4 = .ok (.getfield 28, 3) := by decide +kernel
theorem dX8_findFits_7 : decode cX8_findFits 7 = .ok (.getfield 95, 3) := by decide +kernel
theorem dX8_findFits_10 : decode cX8_findFits 10 = .ok (.if_icmp .ge 27, 3) := by decide +kernel
theorem dX8_findFits_13 : decode cX8_findFits 13 = .ok (.aload_n 0, 1) := by decide +kernel
theorem dX8_findFits_14 : decode cX8_findFits 14 = .ok (.getfield 64, 3) := by decide +kernel
theorem dX8_findFits_17 : decode cX8_findFits 17 = .ok (.iload_n 1, 1) := by decide +kernel
theorem dX8_findFits_18 : decode cX8_findFits 18 = .ok (.aload_n 0, 1) := by decide +kernel
theorem dX8_findFits_19 : decode cX8_findFits 19 = .ok (.getfield 60, 3) := by decide +kernel
theorem dX8_findFits_22 : decode cX8_findFits 22 = .ok (.aload_n 0, 1) := by decide +kernel
theorem dX8_findFits_23 : decode cX8_findFits 23 = .ok (.iload_n 1, 1) := by decide +kernel
theorem dX8_findFits_24 : decode cX8_findFits 24 = .ok (.invokevirtual 135, 3) := by decide +kernel
theorem dX8_findFits_27 : decode cX8_findFits 27 = .ok (.invokevirtual 290, 3) := by decide +kernel
theorem dX8_findFits_30 : decode cX8_findFits 30 = .ok (.iastore, 1) := by decide +kernel
theorem dX8_findFits_31 : decode cX8_findFits 31 = .ok (.iinc 1 1, 3) := by decide +kernel
theorem dX8_findFits_34 : decode cX8_findFits 34 = .ok (.goto (-32), 3) := by decide +kernel
theorem dX8_findFits_37 : decode cX8_findFits 37 = .ok (.return_, 1) := by decide +kernel
theorem dX8_isFit_0 : decode cX8_isFit 0 = .ok (.aload_n 0, 1) := by decide +kernel
theorem dX8_isFit_1 : decode cX8_isFit 1 = .ok (.getfield 64, 3) := by decide +kernel
theorem dX8_isFit_4 : decode cX8_isFit 4 = .ok (.iload_n 1, 1) := by decide +kernel
theorem dX8_isFit_5 : decode cX8_isFit 5 = .ok (.iaload, 1) := by decide +kernel
theorem dX8_isFit_6 : decode cX8_isFit 6 = .ok (.bipush 60, 2) := by decide +kernel
theorem dX8_isFit_8 : decode cX8_isFit 8 = .ok (.if_icmp .ne 7, 3) := by decide +kernel
theorem dX8_isFit_11 : decode cX8_isFit 11 = .ok (.iconst 1, 1) := by decide +kernel
theorem dX8_isFit_12 : decode cX8_isFit 12 = .ok (.goto 4, 3) := by decide +kernel
theorem dX8_isFit_15 : decode cX8_isFit 15 = .ok (.iconst 0, 1) := by decide +kernel
theorem dX8_isFit_16 : decode cX8_isFit 16 = .ok (.ireturn, 1) := by decide +kernel
theorem dX8_countFitsUpTo_0 : decode cX8_countFitsUpTo 0 = .ok (.iconst 0, 1) := by decide +kernel
theorem dX8_countFitsUpTo_1 : decode cX8_countFitsUpTo 1 = .ok (.istore_n 2, 1) := by decide +kernel
theorem dX8_countFitsUpTo_2 : decode cX8_countFitsUpTo 2 = .ok (.iconst 0, 1) := by decide +kernel
theorem dX8_countFitsUpTo_3 : decode cX8_countFitsUpTo 3 = .ok (.istore_n 3, 1) := by decide +kernel
theorem dX8_countFitsUpTo_4 : decode cX8_countFitsUpTo 4 = .ok (.iload_n 3, 1) := by decide +kernel
theorem dX8_countFitsUpTo_5 : decode cX8_countFitsUpTo 5 = .ok (.aload_n 0, 1) := by decide +kernel
theorem dX8_countFitsUpTo_6 : decode cX8_countFitsUpTo 6 = .ok (.getfield 28, 3) := by decide +kernel
theorem dX8_countFitsUpTo_9 : decode cX8_countFitsUpTo 9 = .ok (.getfield 95, 3) := by decide +kernel
theorem dX8_countFitsUpTo_12 : decode cX8_countFitsUpTo 12 = .ok (.if_icmp .ge 22, 3) := by decide +kernel
theorem dX8_countFitsUpTo_15 : decode cX8_countFitsUpTo 15 = .ok (.aload_n 0, 1) := by decide +kernel
theorem dX8_countFitsUpTo_16 : decode cX8_countFitsUpTo 16 = .ok (.getfield 64, 3) := by decide +kernel
theorem dX8_countFitsUpTo_19 : decode cX8_countFitsUpTo 19 = .ok (.iload_n 3, 1) := by decide +kernel
theorem dX8_countFitsUpTo_20 : decode cX8_countFitsUpTo 20 = .ok (.iaload, 1) := by decide +kernel
theorem dX8_countFitsUpTo_21 : decode cX8_countFitsUpTo 21 = .ok (.iload_n 1, 1) := by decide +kernel
theorem dX8_countFitsUpTo_22 : decode cX8_countFitsUpTo 22 = .ok (.if_icmp .le 6, 3) := by decide +kernel
theorem dX8_countFitsUpTo_25 : decode cX8_countFitsUpTo 25 = .ok (.iinc 2 1, 3) := by decide +kernel
theorem dX8_countFitsUpTo_28 : decode cX8_countFitsUpTo 28 = .ok (.iinc 3 1, 3) := by decide +kernel
theorem dX8_countFitsUpTo_31 : decode cX8_countFitsUpTo 31 = .ok (.goto (-27), 3) := by decide +kernel
theorem dX8_countFitsUpTo_34 : decode cX8_countFitsUpTo 34 = .ok (.iload_n 2, 1) := by decide +kernel
theorem dX8_countFitsUpTo_35 : decode cX8_countFitsUpTo 35 = .ok (.ireturn, 1) := by decide +kernel
theorem dX8_weightOfFits_0 : decode cX8_weightOfFits 0 = .ok (.iconst 0, 1) := by decide +kernel
theorem dX8_weightOfFits_1 : decode cX8_weightOfFits 1 = .ok (.istore_n 1, 1) := by decide +kernel
theorem dX8_weightOfFits_2 : decode cX8_weightOfFits 2 = .ok (.iconst 0, 1) := by decide +kernel
theorem dX8_weightOfFits_3 : decode cX8_weightOfFits 3 = .ok (.istore_n 2, 1) := by decide +kernel
theorem dX8_weightOfFits_4 : decode cX8_weightOfFits 4 = .ok (.iload_n 2, 1) := by decide +kernel
theorem dX8_weightOfFits_5 : decode cX8_weightOfFits 5 = .ok (.aload_n 0, 1) := by decide +kernel
theorem dX8_weightOfFits_6 : decode cX8_weightOfFits 6 = .ok (.getfield 28, 3) := by decide +kernel
theorem dX8_weightOfFits_9 : decode cX8_weightOfFits 9 = .ok (.getfield 95, 3) := by decide +kernel
theorem dX8_weightOfFits_12 : decode cX8_weightOfFits 12 = .ok (.if_icmp .ge 32, 3) := by decide +kernel
theorem dX8_weightOfFits_15 : decode cX8_weightOfFits 15 = .ok (.aload_n 0, 1) := by decide +kernel
theorem dX8_weightOfFits_16 : decode cX8_weightOfFits 16 = .ok (.iload_n 2, 1) := by decide +kernel
theorem dX8_weightOfFits_17 : decode cX8_weightOfFits 17 = .ok (.invokevirtual 174, 3) := by decide +kernel
theorem dX8_weightOfFits_20 : decode cX8_weightOfFits 20 = .ok (.ifCond .eq 18, 3) := by decide +kernel
theorem dX8_weightOfFits_23 : decode cX8_weightOfFits 23 = .ok (.iload_n 1, 1) := by decide +kernel
theorem dX8_weightOfFits_24 : decode cX8_weightOfFits 24 = .ok (.aload_n 0, 1) := by decide +kernel
theorem dX8_weightOfFits_25 : decode cX8_weightOfFits 25 = .ok (.getfield 28, 3) := by decide +kernel
theorem dX8_weightOfFits_28 : decode cX8_weightOfFits 28 = .ok (.getfield 181, 3) := by decide +kernel
theorem dX8_weightOfFits_31 : decode cX8_weightOfFits 31 = .ok (.iload_n 2, 1) := by decide +kernel
theorem dX8_weightOfFits_32 : decode cX8_weightOfFits 32 = .ok (.aaload, 1) := by decide +kernel
theorem dX8_weightOfFits_33 : decode cX8_weightOfFits 33 = .ok (.getfield 185, 3) := by decide +kernel
theorem dX8_weightOfFits_36 : decode cX8_weightOfFits 36 = .ok (.iadd, 1) := by decide +kernel
theorem dX8_weightOfFits_37 : decode cX8_weightOfFits 37 = .ok (.istore_n 1, 1) := by decide +kernel
theorem dX8_weightOfFits_38 : decode cX8_weightOfFits 38 = .ok (.iinc 2 1, 3) := by decide +kernel
theorem dX8_weightOfFits_41 : decode cX8_weightOfFits 41 = .ok (.goto (-37), 3) := by decide +kernel
theorem dX8_weightOfFits_44 : decode cX8_weightOfFits 44 = .ok (.iload_n 1, 1) := by decide +kernel
theorem dX8_weightOfFits_45 : decode cX8_weightOfFits 45 = .ok (.ireturn, 1) := by decide +kernel
theorem dX8_strikes_0 : decode cX8_strikes 0 = .ok (.aload_n 0, 1) := by decide +kernel
theorem dX8_strikes_1 : decode cX8_strikes 1 = .ok (.iload_n 1, 1) := by decide +kernel
theorem dX8_strikes_2 : decode cX8_strikes 2 = .ok (.invokevirtual 135, 3) := by decide +kernel
theorem dX8_strikes_5 : decode cX8_strikes 5 = .ok (.astore_n 3, 1) := by decide +kernel
theorem dX8_strikes_6 : decode cX8_strikes 6 = .ok (.aload_n 3, 1) := by decide +kernel
theorem dX8_strikes_7 : decode cX8_strikes 7 = .ok (.getfield 155, 3) := by decide +kernel
theorem dX8_strikes_10 : decode cX8_strikes 10 = .ok (.bipush (-2), 2) := by decide +kernel
theorem dX8_strikes_12 : decode cX8_strikes 12 = .ok (.if_icmp .eq 23, 3) := by decide +kernel
theorem dX8_strikes_15 : decode cX8_strikes 15 = .ok (.aload_n 0, 1) := by decide +kernel
theorem dX8_strikes_16 : decode cX8_strikes 16 = .ok (.getfield 28, 3) := by decide +kernel
theorem dX8_strikes_19 : decode cX8_strikes 19 = .ok (.getfield 294, 3) := by decide +kernel
theorem dX8_strikes_22 : decode cX8_strikes 22 = .ok (.iload_n 2, 1) := by decide +kernel
theorem dX8_strikes_23 : decode cX8_strikes 23 = .ok (.iaload, 1) := by decide +kernel
theorem dX8_strikes_24 : decode cX8_strikes 24 = .ok (.aload_n 3, 1) := by decide +kernel
theorem dX8_strikes_25 : decode cX8_strikes 25 = .ok (.getfield 158, 3) := by decide +kernel
theorem dX8_strikes_28 : decode cX8_strikes 28 = .ok (.if_icmp .gt 7, 3) := by decide +kernel
theorem dX8_strikes_31 : decode cX8_strikes 31 = .ok (.iconst 1, 1) := by decide +kernel
theorem dX8_strikes_32 : decode cX8_strikes 32 = .ok (.goto 4, 3) := by decide +kernel
theorem dX8_strikes_35 : decode cX8_strikes 35 = .ok (.iconst 0, 1) := by decide +kernel
theorem dX8_strikes_36 : decode cX8_strikes 36 = .ok (.ireturn, 1) := by decide +kernel
theorem dX8_greatestAlike_0 : decode cX8_greatestAlike 0 = .ok (.iconst 0, 1) := by decide +kernel
theorem dX8_greatestAlike_1 : decode cX8_greatestAlike 1 = .ok (.istore_n 2, 1) := by decide +kernel
theorem dX8_greatestAlike_2 : decode cX8_greatestAlike 2 = .ok (.iload_n 2, 1) := by decide +kernel
theorem dX8_greatestAlike_3 : decode cX8_greatestAlike 3 = .ok (.aload_n 0, 1) := by decide +kernel
theorem dX8_greatestAlike_4 : decode cX8_greatestAlike 4 = .ok (.getfield 28, 3) := by decide +kernel
theorem dX8_greatestAlike_7 : decode cX8_greatestAlike 7 = .ok (.getfield 95, 3) := by decide +kernel
theorem dX8_greatestAlike_10 : decode cX8_greatestAlike 10 = .ok (.if_icmp .ge 40, 3) := by decide +kernel
theorem dX8_greatestAlike_13 : decode cX8_greatestAlike 13 = .ok (.aload_n 0, 1) := by decide +kernel
theorem dX8_greatestAlike_14 : decode cX8_greatestAlike 14 = .ok (.getfield 67, 3) := by decide +kernel
theorem dX8_greatestAlike_17 : decode cX8_greatestAlike 17 = .ok (.iload_n 2, 1) := by decide +kernel
theorem dX8_greatestAlike_18 : decode cX8_greatestAlike 18 = .ok (.aload_n 0, 1) := by decide +kernel
theorem dX8_greatestAlike_19 : decode cX8_greatestAlike 19 = .ok (.iload_n 2, 1) := by decide +kernel
theorem dX8_greatestAlike_20 : decode cX8_greatestAlike 20 = .ok (.invokevirtual 174, 3) := by decide +kernel
theorem dX8_greatestAlike_23 : decode cX8_greatestAlike 23 = .ok (.ifCond .eq 19, 3) := by decide +kernel
theorem dX8_greatestAlike_26 : decode cX8_greatestAlike 26 = .ok (.aload_n 0, 1) := by decide +kernel
theorem dX8_greatestAlike_27 : decode cX8_greatestAlike 27 = .ok (.getfield 28, 3) := by decide +kernel
theorem dX8_greatestAlike_30 : decode cX8_greatestAlike 30 = .ok (.getfield 181, 3) := by decide +kernel
theorem dX8_greatestAlike_33 : decode cX8_greatestAlike 33 = .ok (.iload_n 2, 1) := by decide +kernel
theorem dX8_greatestAlike_34 : decode cX8_greatestAlike 34 = .ok (.aaload, 1) := by decide +kernel
theorem dX8_greatestAlike_35 : decode cX8_greatestAlike 35 = .ok (.iload_n 1, 1) := by decide +kernel
theorem dX8_greatestAlike_36 : decode cX8_greatestAlike 36 = .ok (.invokevirtual 210, 3) := by decide +kernel
theorem dX8_greatestAlike_39 : decode cX8_greatestAlike 39 = .ok (.goto 4, 3) := by decide +kernel
theorem dX8_greatestAlike_42 : decode cX8_greatestAlike 42 = .ok (.iconst (-1), 1) := by decide +kernel
theorem dX8_greatestAlike_43 : decode cX8_greatestAlike 43 = .ok (.iastore, 1) := by decide +kernel
theorem dX8_greatestAlike_44 : decode cX8_greatestAlike 44 = .ok (.iinc 2 1, 3) := by decide +kernel
theorem dX8_greatestAlike_47 : decode cX8_greatestAlike 47 = .ok (.goto (-45), 3) := by decide +kernel
theorem dX8_greatestAlike_50 : decode cX8_greatestAlike 50 = .ok (.iconst 0, 1) := by decide +kernel
theorem dX8_greatestAlike_51 : decode cX8_greatestAlike 51 = .ok (.istore_n 2, 1) := by decide +kernel
theorem dX8_greatestAlike_52 : decode cX8_greatestAlike 52 = .ok (.iconst 0, 1) := by decide +kernel
theorem dX8_greatestAlike_53 : decode cX8_greatestAlike 53 = .ok (.istore_n 3, 1) := by decide +kernel
theorem dX8_greatestAlike_54 : decode cX8_greatestAlike 54 = .ok (.iload_n 3, 1) := by decide +kernel
theorem dX8_greatestAlike_55 : decode cX8_greatestAlike 55 = .ok (.aload_n 0, 1) := by decide +kernel
theorem dX8_greatestAlike_56 : decode cX8_greatestAlike 56 = .ok (.getfield 28, 3) := by decide +kernel
theorem dX8_greatestAlike_59 : decode cX8_greatestAlike 59 = .ok (.getfield 95, 3) := by decide +kernel
theorem dX8_greatestAlike_62 : decode cX8_greatestAlike 62 = .ok (.if_icmp .ge 34, 3) := by decide +kernel
theorem dX8_greatestAlike_65 : decode cX8_greatestAlike 65 = .ok (.aload_n 0, 1) := by decide +kernel
theorem dX8_greatestAlike_66 : decode cX8_greatestAlike 66 = .ok (.getfield 67, 3) := by decide +kernel
theorem dX8_greatestAlike_69 : decode cX8_greatestAlike 69 = .ok (.iload_n 3, 1) := by decide +kernel
theorem dX8_greatestAlike_70 : decode cX8_greatestAlike 70 = .ok (.iaload, 1) := by decide +kernel
theorem dX8_greatestAlike_71 : decode cX8_greatestAlike 71 = .ok (.iconst (-1), 1) := by decide +kernel
theorem dX8_greatestAlike_72 : decode cX8_greatestAlike 72 = .ok (.if_icmp .eq 18, 3) := by decide +kernel
theorem dX8_greatestAlike_75 : decode cX8_greatestAlike 75 = .ok (.iload_n 2, 1) := by decide +kernel
theorem dX8_greatestAlike_76 : decode cX8_greatestAlike 76 = .ok (.aload_n 0, 1) := by decide +kernel
theorem dX8_greatestAlike_77 : decode cX8_greatestAlike 77 = .ok (.aload_n 0, 1) := by decide +kernel
theorem dX8_greatestAlike_78 : decode cX8_greatestAlike 78 = .ok (.getfield 67, 3) := by decide +kernel
theorem dX8_greatestAlike_81 : decode cX8_greatestAlike 81 = .ok (.iload_n 3, 1) := by decide +kernel
theorem dX8_greatestAlike_82 : decode cX8_greatestAlike 82 = .ok (.iaload, 1) := by decide +kernel
theorem dX8_greatestAlike_83 : decode cX8_greatestAlike 83 = .ok (.invokevirtual 297, 3) := by decide +kernel
theorem dX8_greatestAlike_86 : decode cX8_greatestAlike 86 = .ok (.invokestatic 237, 3) := by decide +kernel
theorem dX8_greatestAlike_89 : decode cX8_greatestAlike 89 = .ok (.istore_n 2, 1) := by decide +kernel
theorem dX8_greatestAlike_90 : decode cX8_greatestAlike 90 = .ok (.iinc 3 1, 3) := by decide +kernel
theorem dX8_greatestAlike_93 : decode cX8_greatestAlike 93 = .ok (.goto (-39), 3) := by decide +kernel
theorem dX8_greatestAlike_96 : decode cX8_greatestAlike 96 = .ok (.iload_n 2, 1) := by decide +kernel
theorem dX8_greatestAlike_97 : decode cX8_greatestAlike 97 = .ok (.ireturn, 1) := by decide +kernel
theorem dX8_weightFinding_0 : decode cX8_weightFinding 0 = .ok (.iconst 0, 1) := by decide +kernel
theorem dX8_weightFinding_1 : decode cX8_weightFinding 1 = .ok (.istore_n 2, 1) := by decide +kernel
theorem dX8_weightFinding_2 : decode cX8_weightFinding 2 = .ok (.iconst 0, 1) := by decide +kernel
theorem dX8_weightFinding_3 : decode cX8_weightFinding 3 = .ok (.istore_n 3, 1) := by decide +kernel
theorem dX8_weightFinding_4 : decode cX8_weightFinding 4 = .ok (.iload_n 3, 1) := by decide +kernel
theorem dX8_weightFinding_5 : decode cX8_weightFinding 5 = .ok (.aload_n 0, 1) := by decide +kernel
theorem dX8_weightFinding_6 : decode cX8_weightFinding 6 = .ok (.getfield 28, 3) := by decide +kernel
theorem dX8_weightFinding_9 : decode cX8_weightFinding 9 = .ok (.getfield 95, 3) := by decide +kernel
theorem dX8_weightFinding_12 : decode cX8_weightFinding 12 = .ok (.if_icmp .ge 34, 3) := by decide +kernel
theorem dX8_weightFinding_15 : decode cX8_weightFinding 15 = .ok (.aload_n 0, 1) := by decide +kernel
theorem dX8_weightFinding_16 : decode cX8_weightFinding 16 = .ok (.getfield 67, 3) := by decide +kernel
theorem dX8_weightFinding_19 : decode cX8_weightFinding 19 = .ok (.iload_n 3, 1) := by decide +kernel
theorem dX8_weightFinding_20 : decode cX8_weightFinding 20 = .ok (.iaload, 1) := by decide +kernel
theorem dX8_weightFinding_21 : decode cX8_weightFinding 21 = .ok (.iload_n 1, 1) := by decide +kernel
theorem dX8_weightFinding_22 : decode cX8_weightFinding 22 = .ok (.if_icmp .ne 18, 3) := by decide +kernel
theorem dX8_weightFinding_25 : decode cX8_weightFinding 25 = .ok (.iload_n 2, 1) := by decide +kernel
theorem dX8_weightFinding_26 : decode cX8_weightFinding 26 = .ok (.aload_n 0, 1) := by decide +kernel
theorem dX8_weightFinding_27 : decode cX8_weightFinding 27 = .ok (.getfield 28, 3) := by decide +kernel
theorem dX8_weightFinding_30 : decode cX8_weightFinding 30 = .ok (.getfield 181, 3) := by decide +kernel
theorem dX8_weightFinding_33 : decode cX8_weightFinding 33 = .ok (.iload_n 3, 1) := by decide +kernel
theorem dX8_weightFinding_34 : decode cX8_weightFinding 34 = .ok (.aaload, 1) := by decide +kernel
theorem dX8_weightFinding_35 : decode cX8_weightFinding 35 = .ok (.getfield 185, 3) := by decide +kernel
theorem dX8_weightFinding_38 : decode cX8_weightFinding 38 = .ok (.iadd, 1) := by decide +kernel
theorem dX8_weightFinding_39 : decode cX8_weightFinding 39 = .ok (.istore_n 2, 1) := by decide +kernel
theorem dX8_weightFinding_40 : decode cX8_weightFinding 40 = .ok (.iinc 3 1, 3) := by decide +kernel
theorem dX8_weightFinding_43 : decode cX8_weightFinding 43 = .ok (.goto (-39), 3) := by decide +kernel
theorem dX8_weightFinding_46 : decode cX8_weightFinding 46 = .ok (.iload_n 2, 1) := by decide +kernel
theorem dX8_weightFinding_47 : decode cX8_weightFinding 47 = .ok (.ireturn, 1) := by decide +kernel
theorem dX8_falls_0 : decode cX8_falls 0 = .ok (.iload_n 1, 1) := by decide +kernel
theorem dX8_falls_1 : decode cX8_falls 1 = .ok (.invokestatic 111, 3) := by decide +kernel
theorem dX8_falls_4 : decode cX8_falls 4 = .ok (.ifCond .ne 5, 3) := by decide +kernel
theorem dX8_falls_7 : decode cX8_falls 7 = .ok (.iconst 0, 1) := by decide +kernel
theorem dX8_falls_8 : decode cX8_falls 8 = .ok (.ireturn, 1) := by decide +kernel
theorem dX8_falls_9 : decode cX8_falls 9 = .ok (.iload_n 1, 1) := by decide +kernel
theorem dX8_falls_10 : decode cX8_falls 10 = .ok (.ifCond .le 14, 3) := by decide +kernel
theorem dX8_falls_13 : decode cX8_falls 13 = .ok (.aload_n 0, 1) := by decide +kernel
theorem dX8_falls_14 : decode cX8_falls 14 = .ok (.getfield 35, 3) := by decide +kernel
theorem dX8_falls_17 : decode cX8_falls 17 = .ok (.iload_n 1, 1) := by decide +kernel
theorem dX8_falls_18 : decode cX8_falls 18 = .ok (.iconst 1, 1) := by decide +kernel
theorem dX8_falls_19 : decode cX8_falls 19 = .ok (.isub, 1) := by decide +kernel
theorem dX8_falls_20 : decode cX8_falls 20 = .ok (.iaload, 1) := by decide +kernel
theorem dX8_falls_21 : decode cX8_falls 21 = .ok (.goto 13, 3) := by decide +kernel
theorem dX8_falls_24 : decode cX8_falls 24 = .ok (.aload_n 0, 1) := by decide +kernel
theorem dX8_falls_25 : decode cX8_falls 25 = .ok (.getfield 28, 3) := by decide +kernel
theorem dX8_falls_28 : decode cX8_falls 28 = .ok (.getfield 115, 3) := by decide +kernel
theorem dX8_falls_31 : decode cX8_falls 31 = .ok (.getfield 280, 3) := by decide +kernel
theorem dX8_falls_34 : decode cX8_falls 34 = .ok (.istore_n 2, 1) := by decide +kernel
theorem dX8_falls_35 : decode cX8_falls 35 = .ok (.aload_n 0, 1) := by decide +kernel
theorem dX8_falls_36 : decode cX8_falls 36 = .ok (.getfield 35, 3) := by decide +kernel
theorem dX8_falls_39 : decode cX8_falls 39 = .ok (.iload_n 1, 1) := by decide +kernel
theorem dX8_falls_40 : decode cX8_falls 40 = .ok (.iaload, 1) := by decide +kernel
theorem dX8_falls_41 : decode cX8_falls 41 = .ok (.iload_n 2, 1) := by decide +kernel
theorem dX8_falls_42 : decode cX8_falls 42 = .ok (.if_icmp .ge 7, 3) := by decide +kernel
theorem dX8_falls_45 : decode cX8_falls 45 = .ok (.iconst 1, 1) := by decide +kernel
theorem dX8_falls_46 : decode cX8_falls 46 = .ok (.goto 4, 3) := by decide +kernel
theorem dX8_falls_49 : decode cX8_falls 49 = .ok (.iconst 0, 1) := by decide +kernel
theorem dX8_falls_50 : decode cX8_falls 50 = .ok (.ireturn, 1) := by decide +kernel
theorem dX8_isLetting_0 : decode cX8_isLetting 0 = .ok (.aload_n 0, 1) := by decide +kernel
theorem dX8_isLetting_1 : decode cX8_isLetting 1 = .ok (.iload_n 1, 1) := by decide +kernel
theorem dX8_isLetting_2 : decode cX8_isLetting 2 = .ok (.invokevirtual 300, 3) := by decide +kernel
theorem dX8_isLetting_5 : decode cX8_isLetting 5 = .ok (.ifCond .eq 17, 3) := by decide +kernel
theorem dX8_isLetting_8 : decode cX8_isLetting 8 = .ok (.aload_n 0, 1) := by decide +kernel
theorem dX8_isLetting_9 : decode cX8_isLetting 9 = .ok (.iload_n 1, 1) := by decide +kernel
theorem dX8_isLetting_10 : decode cX8_isLetting 10 = .ok (.iconst 1, 1) := by decide +kernel
theorem dX8_isLetting_11 : decode cX8_isLetting 11 = .ok (.isub, 1) := by decide +kernel
theorem dX8_isLetting_12 : decode cX8_isLetting 12 = .ok (.invokevirtual 300, 3) := by decide +kernel
theorem dX8_isLetting_15 : decode cX8_isLetting 15 = .ok (.ifCond .ne 7, 3) := by decide +kernel
theorem dX8_isLetting_18 : decode cX8_isLetting 18 = .ok (.iconst 1, 1) := by decide +kernel
theorem dX8_isLetting_19 : decode cX8_isLetting 19 = .ok (.goto 4, 3) := by decide +kernel
theorem dX8_isLetting_22 : decode cX8_isLetting 22 = .ok (.iconst 0, 1) := by decide +kernel
theorem dX8_isLetting_23 : decode cX8_isLetting 23 = .ok (.ireturn, 1) := by decide +kernel
theorem dX8_countLettings_0 : decode cX8_countLettings 0 = .ok (.iconst 0, 1) := by decide +kernel
theorem dX8_countLettings_1 : decode cX8_countLettings 1 = .ok (.istore_n 1, 1) := by decide +kernel
theorem dX8_countLettings_2 : decode cX8_countLettings 2 = .ok (.iconst 0, 1) := by decide +kernel
theorem dX8_countLettings_3 : decode cX8_countLettings 3 = .ok (.istore_n 2, 1) := by decide +kernel
theorem dX8_countLettings_4 : decode cX8_countLettings 4 = .ok (.iload_n 2, 1) := by decide +kernel
theorem dX8_countLettings_5 : decode cX8_countLettings 5 = .ok (.bipush 60, 2) := by decide +kernel
theorem dX8_countLettings_7 : decode cX8_countLettings 7 = .ok (.if_icmp .ge 20, 3) := by decide +kernel
theorem dX8_countLettings_10 : decode cX8_countLettings 10 = .ok (.aload_n 0, 1) := by decide +kernel
theorem dX8_countLettings_11 : decode cX8_countLettings 11 = .ok (.iload_n 2, 1) := by decide +kernel
theorem dX8_countLettings_12 : decode cX8_countLettings 12 = .ok (.invokevirtual 303, 3) := by decide +kernel
theorem dX8_countLettings_15 : decode cX8_countLettings 15 = .ok (.ifCond .eq 6, 3) := by decide +kernel
theorem dX8_countLettings_18 : decode cX8_countLettings 18 = .ok (.iinc 1 1, 3) := by decide +kernel
theorem dX8_countLettings_21 : decode cX8_countLettings 21 = .ok (.iinc 2 1, 3) := by decide +kernel
theorem dX8_countLettings_24 : decode cX8_countLettings 24 = .ok (.goto (-20), 3) := by decide +kernel
theorem dX8_countLettings_27 : decode cX8_countLettings 27 = .ok (.iload_n 1, 1) := by decide +kernel
theorem dX8_countLettings_28 : decode cX8_countLettings 28 = .ok (.ireturn, 1) := by decide +kernel
theorem dX8_tapOf_0 : decode cX8_tapOf 0 = .ok (.aload_n 0, 1) := by decide +kernel
theorem dX8_tapOf_1 : decode cX8_tapOf 1 = .ok (.iload_n 1, 1) := by decide +kernel
theorem dX8_tapOf_2 : decode cX8_tapOf 2 = .ok (.invokevirtual 135, 3) := by decide +kernel
theorem dX8_tapOf_5 : decode cX8_tapOf 5 = .ok (.astore_n 2, 1) := by decide +kernel
theorem dX8_tapOf_6 : decode cX8_tapOf 6 = .ok (.iconst 0, 1) := by decide +kernel
theorem dX8_tapOf_7 : decode cX8_tapOf 7 = .ok (.istore_n 3, 1) := by decide +kernel
theorem dX8_tapOf_8 : decode cX8_tapOf 8 = .ok (.iconst 0, 1) := by decide +kernel
theorem dX8_tapOf_9 : decode cX8_tapOf 9 = .ok (.istore 4, 2) := by decide +kernel
theorem dX8_tapOf_11 : decode cX8_tapOf 11 = .ok (.iload 4, 2) := by decide +kernel
theorem dX8_tapOf_13 : decode cX8_tapOf 13 = .ok (.bipush 60, 2) := by decide +kernel
theorem dX8_tapOf_15 : decode cX8_tapOf 15 = .ok (.if_icmp .ge 32, 3) := by decide +kernel
theorem dX8_tapOf_18 : decode cX8_tapOf 18 = .ok (.aload_n 0, 1) := by decide +kernel
theorem dX8_tapOf_19 : decode cX8_tapOf 19 = .ok (.iload 4, 2) := by decide +kernel
theorem dX8_tapOf_21 : decode cX8_tapOf 21 = .ok (.invokevirtual 303, 3) := by decide +kernel
theorem dX8_tapOf_24 : decode cX8_tapOf 24 = .ok (.ifCond .eq 17, 3) := by decide +kernel
theorem dX8_tapOf_27 : decode cX8_tapOf 27 = .ok (.aload_n 2, 1) := by decide +kernel
theorem dX8_tapOf_28 : decode cX8_tapOf 28 = .ok (.iload 4, 2) := by decide +kernel
theorem dX8_tapOf_30 : decode cX8_tapOf 30 = .ok (.invokevirtual 306, 3) := by decide +kernel
theorem dX8_tapOf_33 : decode cX8_tapOf 33 = .ok (.ifCond .ne 5, 3) := by decide +kernel
theorem dX8_tapOf_36 : decode cX8_tapOf 36 = .ok (.iload_n 3, 1) := by decide +kernel
theorem dX8_tapOf_37 : decode cX8_tapOf 37 = .ok (.ireturn, 1) := by decide +kernel
theorem dX8_tapOf_38 : decode cX8_tapOf 38 = .ok (.iinc 3 1, 3) := by decide +kernel
theorem dX8_tapOf_41 : decode cX8_tapOf 41 = .ok (.iinc 4 1, 3) := by decide +kernel
theorem dX8_tapOf_44 : decode cX8_tapOf 44 = .ok (.goto (-33), 3) := by decide +kernel
theorem dX8_tapOf_47 : decode cX8_tapOf 47 = .ok (.iload_n 3, 1) := by decide +kernel
theorem dX8_tapOf_48 : decode cX8_tapOf 48 = .ok (.ireturn, 1) := by decide +kernel
theorem dX8_noughtBy_0 : decode cX8_noughtBy 0 = .ok (.iload_n 1, 1) := by decide +kernel
theorem dX8_noughtBy_1 : decode cX8_noughtBy 1 = .ok (.ifCond .le 8, 3) := by decide +kernel
theorem dX8_noughtBy_4 : decode cX8_noughtBy 4 = .ok (.iload_n 2, 1) := by decide +kernel
theorem dX8_noughtBy_5 : decode cX8_noughtBy 5 = .ok (.iload_n 1, 1) := by decide +kernel
theorem dX8_noughtBy_6 : decode cX8_noughtBy 6 = .ok (.if_icmp .gt 6, 3) := by decide +kernel
theorem dX8_noughtBy_9 : decode cX8_noughtBy 9 = .ok (.bipush (-2), 2) := by decide +kernel
theorem dX8_noughtBy_11 : decode cX8_noughtBy 11 = .ok (.ireturn, 1) := by decide +kernel
theorem dX8_noughtBy_12 : decode cX8_noughtBy 12 = .ok (.iload_n 0, 1) := by decide +kernel
theorem dX8_noughtBy_13 : decode cX8_noughtBy 13 = .ok (.iload_n 2, 1) := by decide +kernel
theorem dX8_noughtBy_14 : decode cX8_noughtBy 14 = .ok (.iload_n 2, 1) := by decide +kernel
theorem dX8_noughtBy_15 : decode cX8_noughtBy 15 = .ok (.iload_n 1, 1) := by decide +kernel
theorem dX8_noughtBy_16 : decode cX8_noughtBy 16 = .ok (.isub, 1) := by decide +kernel
theorem dX8_noughtBy_17 : decode cX8_noughtBy 17 = .ok (.idiv, 1) := by decide +kernel
theorem dX8_noughtBy_18 : decode cX8_noughtBy 18 = .ok (.iadd, 1) := by decide +kernel
theorem dX8_noughtBy_19 : decode cX8_noughtBy 19 = .ok (.ireturn, 1) := by decide +kernel
theorem dX9_init_0 : decode cX9_init 0 = .ok (.aload_n 0, 1) := by decide +kernel
theorem dX9_init_1 : decode cX9_init 1 = .ok (.invokespecial 3, 3) := by decide +kernel
theorem dX9_init_4 : decode cX9_init 4 = .ok (.aload_n 0, 1) := by decide +kernel
theorem dX9_init_5 : decode cX9_init 5 = .ok (.iconst (-1), 1) := by decide +kernel
theorem dX9_init_6 : decode cX9_init 6 = .ok (.putfield 9, 3) := by decide +kernel
theorem dX9_init_9 : decode cX9_init 9 = .ok (.aload_n 0, 1) := by decide +kernel
theorem dX9_init_10 : decode cX9_init 10 = .ok (.iconst 5, 1) := by decide +kernel
theorem dX9_init_11 : decode cX9_init 11 = .ok (.newarray .int, 2) := by decide +kernel
theorem dX9_init_13 : decode cX9_init 13 = .ok (.putfield 15, 3) := by decide +kernel
theorem dX9_init_16 : decode cX9_init 16 = .ok (.aload_n 0, 1) := by decide +kernel
theorem dX9_init_17 : decode cX9_init 17 = .ok (.iconst 5, 1) := by decide +kernel
theorem dX9_init_18 : decode cX9_init 18 = .ok (.newarray .int, 2) := by decide +kernel
theorem dX9_init_20 : decode cX9_init 20 = .ok (.putfield 19, 3) := by decide +kernel
theorem dX9_init_23 : decode cX9_init 23 = .ok (.aload_n 0, 1) := by decide +kernel
theorem dX9_init_24 : decode cX9_init 24 = .ok (.bipush 16, 2) := by decide +kernel
theorem dX9_init_26 : decode cX9_init 26 = .ok (.newarray .int, 2) := by decide +kernel
theorem dX9_init_28 : decode cX9_init 28 = .ok (.putfield 22, 3) := by decide +kernel
theorem dX9_init_31 : decode cX9_init 31 = .ok (.aload_n 0, 1) := by decide +kernel
theorem dX9_init_32 : decode cX9_init 32 = .ok (.bipush 16, 2) := by decide +kernel
theorem dX9_init_34 : decode cX9_init 34 = .ok (.newarray .int, 2) := by decide +kernel
theorem dX9_init_36 : decode cX9_init 36 = .ok (.putfield 25, 3) := by decide +kernel
theorem dX9_init_39 : decode cX9_init 39 = .ok (.aload_n 0, 1) := by decide +kernel
theorem dX9_init_40 : decode cX9_init 40 = .ok (.bipush 60, 2) := by decide +kernel
theorem dX9_init_42 : decode cX9_init 42 = .ok (.newarray .int, 2) := by decide +kernel
theorem dX9_init_44 : decode cX9_init 44 = .ok (.putfield 28, 3) := by decide +kernel
theorem dX9_init_47 : decode cX9_init 47 = .ok (.aload_n 0, 1) := by decide +kernel
theorem dX9_init_48 : decode cX9_init 48 = .ok (.bipush 6, 2) := by decide +kernel
theorem dX9_init_50 : decode cX9_init 50 = .ok (.newarray .int, 2) := by decide +kernel
theorem dX9_init_52 : decode cX9_init 52 = .ok (.putfield 31, 3) := by decide +kernel
theorem dX9_init_55 : decode cX9_init 55 = .ok (.aload_n 0, 1) := by decide +kernel
theorem dX9_init_56 : decode cX9_init 56 = .ok (.bipush 6, 2) := by decide +kernel
theorem dX9_init_58 : decode cX9_init 58 = .ok (.newarray .int, 2) := by decide +kernel
theorem dX9_init_60 : decode cX9_init 60 = .ok (.putfield 34, 3) := by decide +kernel
theorem dX9_init_63 : decode cX9_init 63 = .ok (.aload_n 0, 1) := by decide +kernel
theorem dX9_init_64 : decode cX9_init 64 = .ok (.bipush 6, 2) := by decide +kernel
theorem dX9_init_66 : decode cX9_init 66 = .ok (.newarray .int, 2) := by decide +kernel
theorem dX9_init_68 : decode cX9_init 68 = .ok (.putfield 37, 3) := by decide +kernel
theorem dX9_init_71 : decode cX9_init 71 = .ok (.aload_n 0, 1) := by decide +kernel
theorem dX9_init_72 : decode cX9_init 72 = .ok (.bipush 6, 2) := by decide +kernel
theorem dX9_init_74 : decode cX9_init 74 = .ok (.newarray .int, 2) := by decide +kernel
theorem dX9_init_76 : decode cX9_init 76 = .ok (.putfield 40, 3) := by decide +kernel
theorem dX9_init_79 : decode cX9_init 79 = .ok (.aload_n 0, 1) := by decide +kernel
theorem dX9_init_80 : decode cX9_init 80 = .ok (.iconst 4, 1) := by decide +kernel
theorem dX9_init_81 : decode cX9_init 81 = .ok (.newarray .int, 2) := by decide +kernel
theorem dX9_init_83 : decode cX9_init 83 = .ok (.putfield 43, 3) := by decide +kernel
theorem dX9_init_86 : decode cX9_init 86 = .ok (.aload_n 0, 1) := by decide +kernel
theorem dX9_init_87 : decode cX9_init 87 = .ok (.iconst 4, 1) := by decide +kernel
theorem dX9_init_88 : decode cX9_init 88 = .ok (.newarray .int, 2) := by decide +kernel
theorem dX9_init_90 : decode cX9_init 90 = .ok (.putfield 46, 3) := by decide +kernel
theorem dX9_init_93 : decode cX9_init 93 = .ok (.aload_n 0, 1) := by decide +kernel
theorem dX9_init_94 : decode cX9_init 94 = .ok (.iconst 4, 1) := by decide +kernel
theorem dX9_init_95 : decode cX9_init 95 = .ok (.newarray .int, 2) := by decide +kernel
theorem dX9_init_97 : decode cX9_init 97 = .ok (.putfield 49, 3) := by decide +kernel
theorem dX9_init_100 : decode cX9_init 100 = .ok (.aload_n 0, 1) := by decide +kernel
theorem dX9_init_101 : decode cX9_init 101 = .ok (.iconst 4, 1) := by decide +kernel
theorem dX9_init_102 : decode cX9_init 102 = .ok (.newarray .int, 2) := by decide +kernel
theorem dX9_init_104 : decode cX9_init 104 = .ok (.putfield 52, 3) := by decide +kernel
theorem dX9_init_107 : decode cX9_init 107 = .ok (.aload_n 0, 1) := by decide +kernel
theorem dX9_init_108 : decode cX9_init 108 = .ok (.iconst 4, 1) := by decide +kernel
theorem dX9_init_109 : decode cX9_init 109 = .ok (.newarray .int, 2) := by decide +kernel
theorem dX9_init_111 : decode cX9_init 111 = .ok (.putfield 55, 3) := by decide +kernel
theorem dX9_init_114 : decode cX9_init 114 = .ok (.aload_n 0, 1) := by decide +kernel
theorem dX9_init_115 : decode cX9_init 115 = .ok (.bipush 19, 2) := by decide +kernel
theorem dX9_init_117 : decode cX9_init 117 = .ok (.newarray .long, 2) := by decide +kernel
theorem dX9_init_119 : decode cX9_init 119 = .ok (.putfield 58, 3) := by decide +kernel
theorem dX9_init_122 : decode cX9_init 122 = .ok (.aload_n 0, 1) := by decide +kernel
theorem dX9_init_123 : decode cX9_init 123 = .ok (.bipush 19, 2) := by decide +kernel
theorem dX9_init_125 : decode cX9_init 125 = .ok (.newarray .int, 2) := by decide +kernel
theorem dX9_init_127 : decode cX9_init 127 = .ok (.putfield 62, 3) := by decide +kernel
theorem dX9_init_130 : decode cX9_init 130 = .ok (.aload_n 0, 1) := by decide +kernel
theorem dX9_init_131 : decode cX9_init 131 = .ok (.bipush 19, 2) := by decide +kernel
theorem dX9_init_133 : decode cX9_init 133 = .ok (.newarray .int, 2) := by decide +kernel
theorem dX9_init_135 : decode cX9_init 135 = .ok (.putfield 65, 3) := by decide +kernel
theorem dX9_init_138 : decode cX9_init 138 = .ok (.return_, 1) := by decide +kernel
theorem dX9_find_0 : decode cX9_find 0 = .ok (.iconst 0, 1) := by decide +kernel
theorem dX9_find_1 : decode cX9_find 1 = .ok (.istore_n 3, 1) := by decide +kernel
theorem dX9_find_2 : decode cX9_find 2 = .ok (.iload_n 3, 1) := by decide +kernel
theorem dX9_find_3 : decode cX9_find 3 = .ok (.aload_n 0, 1) := by decide +kernel
theorem dX9_find_4 : decode cX9_find 4 = .ok (.getfield 68, 3) := by decide +kernel
theorem dX9_find_7 : decode cX9_find 7 = .ok (.if_icmp .ge 22, 3) := by decide +kernel
theorem dX9_find_10 : decode cX9_find 10 = .ok (.aload_n 0, 1) := by decide +kernel
theorem dX9_find_11 : decode cX9_find 11 = .ok (.getfield 58, 3) := by decide +kernel
theorem dX9_find_14 : decode cX9_find 14 = .ok (.iload_n 3, 1) := by decide +kernel
theorem dX9_find_15 : decode cX9_find 15 = .ok (.laload, 1) := by decide +kernel
theorem dX9_find_16 : decode cX9_find 16 = .ok (.lload_n 1, 1) := by decide +kernel
theorem dX9_find_17 : decode cX9_find 17 = .ok (.lcmp, 1) := by decide +kernel
theorem dX9_find_18 : decode cX9_find 18 = .ok (.ifCond .ne 5, 3) := by decide +kernel
theorem dX9_find_21 : decode cX9_find 21 = .ok (.iload_n 3, 1) := by decide +kernel
theorem dX9_find_22 : decode cX9_find 22 = .ok (.ireturn, 1) := by decide +kernel
theorem dX9_find_23 : decode cX9_find 23 = .ok (.iinc 3 1, 3) := by decide +kernel
theorem dX9_find_26 : decode cX9_find 26 = .ok (.goto (-24), 3) := by decide +kernel
theorem dX9_find_29 : decode cX9_find 29 = .ok (.iconst (-1), 1) := by decide +kernel
theorem dX9_find_30 : decode cX9_find 30 = .ok (.ireturn, 1) := by decide +kernel
theorem dX10_init_0 : decode cX10_init 0 = .ok (.aload_n 0, 1) := by decide +kernel
theorem dX10_init_1 : decode cX10_init 1 = .ok (.invokespecial 1, 3) := by decide +kernel
theorem dX10_init_4 : decode cX10_init 4 = .ok (.aload_n 0, 1) := by decide +kernel
theorem dX10_init_5 : decode cX10_init 5 = .ok (.iconst (-1), 1) := by decide +kernel
theorem dX10_init_6 : decode cX10_init 6 = .ok (.putfield 9, 3) := by decide +kernel
theorem dX10_init_9 : decode cX10_init 9 = .ok (.aload_n 0, 1) := by decide +kernel
theorem dX10_init_10 : decode cX10_init 10 = .ok (.sipush 900, 3) := by decide +kernel
theorem dX10_init_13 : decode cX10_init 13 = .ok (.newarray .byte, 2) := by decide +kernel
theorem dX10_init_15 : decode cX10_init 15 = .ok (.putfield 13, 3) := by decide +kernel
theorem dX10_init_18 : decode cX10_init 18 = .ok (.aload_n 0, 1) := by decide +kernel
theorem dX10_init_19 : decode cX10_init 19 = .ok (.bipush 60, 2) := by decide +kernel
theorem dX10_init_21 : decode cX10_init 21 = .ok (.newarray .int, 2) := by decide +kernel
theorem dX10_init_23 : decode cX10_init 23 = .ok (.putfield 17, 3) := by decide +kernel
theorem dX10_init_26 : decode cX10_init 26 = .ok (.aload_n 0, 1) := by decide +kernel
theorem dX10_init_27 : decode cX10_init 27 = .ok (.sipush 300, 3) := by decide +kernel
theorem dX10_init_30 : decode cX10_init 30 = .ok (.newarray .int, 2) := by decide +kernel
theorem dX10_init_32 : decode cX10_init 32 = .ok (.putfield 21, 3) := by decide +kernel
theorem dX10_init_35 : decode cX10_init 35 = .ok (.aload_n 0, 1) := by decide +kernel
theorem dX10_init_36 : decode cX10_init 36 = .ok (.sipush 300, 3) := by decide +kernel
theorem dX10_init_39 : decode cX10_init 39 = .ok (.newarray .int, 2) := by decide +kernel
theorem dX10_init_41 : decode cX10_init 41 = .ok (.putfield 24, 3) := by decide +kernel
theorem dX10_init_44 : decode cX10_init 44 = .ok (.aload_n 0, 1) := by decide +kernel
theorem dX10_init_45 : decode cX10_init 45 = .ok (.sipush 300, 3) := by decide +kernel
theorem dX10_init_48 : decode cX10_init 48 = .ok (.newarray .int, 2) := by decide +kernel
theorem dX10_init_50 : decode cX10_init 50 = .ok (.putfield 27, 3) := by decide +kernel
theorem dX10_init_53 : decode cX10_init 53 = .ok (.aload_n 0, 1) := by decide +kernel
theorem dX10_init_54 : decode cX10_init 54 = .ok (.bipush 24, 2) := by decide +kernel
theorem dX10_init_56 : decode cX10_init 56 = .ok (.newarray .int, 2) := by decide +kernel
theorem dX10_init_58 : decode cX10_init 58 = .ok (.putfield 30, 3) := by decide +kernel
theorem dX10_init_61 : decode cX10_init 61 = .ok (.aload_n 0, 1) := by decide +kernel
theorem dX10_init_62 : decode cX10_init 62 = .ok (.bipush 24, 2) := by decide +kernel
theorem dX10_init_64 : decode cX10_init 64 = .ok (.newarray .int, 2) := by decide +kernel
theorem dX10_init_66 : decode cX10_init 66 = .ok (.putfield 33, 3) := by decide +kernel
theorem dX10_init_69 : decode cX10_init 69 = .ok (.aload_n 0, 1) := by decide +kernel
theorem dX10_init_70 : decode cX10_init 70 = .ok (.bipush 24, 2) := by decide +kernel
theorem dX10_init_72 : decode cX10_init 72 = .ok (.newarray .int, 2) := by decide +kernel
theorem dX10_init_74 : decode cX10_init 74 = .ok (.putfield 36, 3) := by decide +kernel
theorem dX10_init_77 : decode cX10_init 77 = .ok (.aload_n 0, 1) := by decide +kernel
theorem dX10_init_78 : decode cX10_init 78 = .ok (.bipush 24, 2) := by decide +kernel
theorem dX10_init_80 : decode cX10_init 80 = .ok (.newarray .int, 2) := by decide +kernel
theorem dX10_init_82 : decode cX10_init 82 = .ok (.putfield 39, 3) := by decide +kernel
theorem dX10_init_85 : decode cX10_init 85 = .ok (.aload_n 0, 1) := by decide +kernel
theorem dX10_init_86 : decode cX10_init 86 = .ok (.bipush 6, 2) := by decide +kernel
theorem dX10_init_88 : decode cX10_init 88 = .ok (.newarray .boolean, 2) := by decide +kernel
theorem dX10_init_90 : decode cX10_init 90 = .ok (.putfield 42, 3) := by decide +kernel
theorem dX10_init_93 : decode cX10_init 93 = .ok (.return_, 1) := by decide +kernel
theorem dX10_refused_0 : decode cX10_refused 0 = .ok (.aload_n 0, 1) := by decide +kernel
theorem dX10_refused_1 : decode cX10_refused 1 = .ok (.iload_n 1, 1) := by decide +kernel
theorem dX10_refused_2 : decode cX10_refused 2 = .ok (.putfield 49, 3) := by decide +kernel
theorem dX10_refused_5 : decode cX10_refused 5 = .ok (.aload_n 0, 1) := by decide +kernel
theorem dX10_refused_6 : decode cX10_refused 6 = .ok (.iconst (-1), 1) := by decide +kernel
theorem dX10_refused_7 : decode cX10_refused 7 = .ok (.putfield 9, 3) := by decide +kernel
theorem dX10_refused_10 : decode cX10_refused 10 = .ok (.iconst (-1), 1) := by decide +kernel
theorem dX10_refused_11 : decode cX10_refused 11 = .ok (.ireturn, 1) := by decide +kernel
theorem dX10_done_0 : decode cX10_done 0 = .ok (.aload_n 0, 1) := by decide +kernel
theorem dX10_done_1 : decode cX10_done 1 = .ok (.iconst 0, 1) := by decide +kernel
theorem dX10_done_2 : decode cX10_done 2 = .ok (.putfield 49, 3) := by decide +kernel
theorem dX10_done_5 : decode cX10_done 5 = .ok (.aload_n 0, 1) := by decide +kernel
theorem dX10_done_6 : decode cX10_done 6 = .ok (.iconst (-1), 1) := by decide +kernel
theorem dX10_done_7 : decode cX10_done 7 = .ok (.putfield 9, 3) := by decide +kernel
theorem dX10_done_10 : decode cX10_done 10 = .ok (.iload_n 1, 1) := by decide +kernel
theorem dX10_done_11 : decode cX10_done 11 = .ok (.ireturn, 1) := by decide +kernel
theorem dX10_in_0 : decode cX10_in 0 = .ok (.iload_n 0, 1) := by decide +kernel
theorem dX10_in_1 : decode cX10_in 1 = .ok (.iload_n 1, 1) := by decide +kernel
theorem dX10_in_2 : decode cX10_in 2 = .ok (.if_icmp .lt 12, 3) := by decide +kernel
theorem dX10_in_5 : decode cX10_in 5 = .ok (.iload_n 0, 1) := by decide +kernel
theorem dX10_in_6 : decode cX10_in 6 = .ok (.iload_n 2, 1) := by decide +kernel
theorem dX10_in_7 : decode cX10_in 7 = .ok (.if_icmp .gt 7, 3) := by decide +kernel
theorem dX10_in_10 : decode cX10_in 10 = .ok (.iconst 1, 1) := by decide +kernel
theorem dX10_in_11 : decode cX10_in 11 = .ok (.goto 4, 3) := by decide +kernel
theorem dX10_in_14 : decode cX10_in 14 = .ok (.iconst 0, 1) := by decide +kernel
theorem dX10_in_15 : decode cX10_in 15 = .ok (.ireturn, 1) := by decide +kernel
theorem dX10_byteAt_0 : decode cX10_byteAt 0 = .ok (.iload_n 1, 1) := by decide +kernel
theorem dX10_byteAt_1 : decode cX10_byteAt 1 = .ok (.aload_n 0, 1) := by decide +kernel
theorem dX10_byteAt_2 : decode cX10_byteAt 2 = .ok (.getfield 52, 3) := by decide +kernel
theorem dX10_byteAt_5 : decode cX10_byteAt 5 = .ok (.if_icmp .ge 16, 3) := by decide +kernel
theorem dX10_byteAt_8 : decode cX10_byteAt 8 = .ok (.aload_n 0, 1) := by decide +kernel
theorem dX10_byteAt_9 : decode cX10_byteAt 9 = .ok (.getfield 13, 3) := by decide +kernel
theorem dX10_byteAt_12 : decode cX10_byteAt 12 = .ok (.iload_n 1, 1) := by decide +kernel
theorem dX10_byteAt_13 : decode cX10_byteAt 13 = .ok (.baload, 1) := by decide +kernel
theorem dX10_byteAt_14 : decode cX10_byteAt 14 = .ok (.sipush 255, 3) := by decide +kernel
theorem dX10_byteAt_17 : decode cX10_byteAt 17 = .ok (.iand, 1) := by decide +kernel
theorem dX10_byteAt_18 : decode cX10_byteAt 18 = .ok (.goto 4, 3) := by decide +kernel
theorem dX10_byteAt_21 : decode cX10_byteAt 21 = .ok (.iconst (-1), 1) := by decide +kernel
theorem dX10_byteAt_22 : decode cX10_byteAt 22 = .ok (.ireturn, 1) := by decide +kernel
theorem dX10_isLetter_0 : decode cX10_isLetter 0 = .ok (.iload_n 0, 1) := by decide +kernel
theorem dX10_isLetter_1 : decode cX10_isLetter 1 = .ok (.bipush 97, 2) := by decide +kernel
theorem dX10_isLetter_3 : decode cX10_isLetter 3 = .ok (.if_icmp .lt 13, 3) := by decide +kernel
theorem dX10_isLetter_6 : decode cX10_isLetter 6 = .ok (.iload_n 0, 1) := by decide +kernel
theorem dX10_isLetter_7 : decode cX10_isLetter 7 = .ok (.bipush 122, 2) := by decide +kernel
theorem dX10_isLetter_9 : decode cX10_isLetter 9 = .ok (.if_icmp .gt 7, 3) := by decide +kernel
theorem dX10_isLetter_12 : decode cX10_isLetter 12 = .ok (.iconst 1, 1) := by decide +kernel
theorem dX10_isLetter_13 : decode cX10_isLetter 13 = .ok (.goto 4, 3) := by decide +kernel
theorem dX10_isLetter_16 : decode cX10_isLetter 16 = .ok (.iconst 0, 1) := by decide +kernel
theorem dX10_isLetter_17 : decode cX10_isLetter 17 = .ok (.ireturn, 1) := by decide +kernel
theorem dX10_isDigit_0 : decode cX10_isDigit 0 = .ok (.iload_n 0, 1) := by decide +kernel
theorem dX10_isDigit_1 : decode cX10_isDigit 1 = .ok (.bipush 48, 2) := by decide +kernel
theorem dX10_isDigit_3 : decode cX10_isDigit 3 = .ok (.if_icmp .lt 13, 3) := by decide +kernel
theorem dX10_isDigit_6 : decode cX10_isDigit 6 = .ok (.iload_n 0, 1) := by decide +kernel
theorem dX10_isDigit_7 : decode cX10_isDigit 7 = .ok (.bipush 57, 2) := by decide +kernel
theorem dX10_isDigit_9 : decode cX10_isDigit 9 = .ok (.if_icmp .gt 7, 3) := by decide +kernel
theorem dX10_isDigit_12 : decode cX10_isDigit 12 = .ok (.iconst 1, 1) := by decide +kernel
theorem dX10_isDigit_13 : decode cX10_isDigit 13 = .ok (.goto 4, 3) := by decide +kernel
theorem dX10_isDigit_16 : decode cX10_isDigit 16 = .ok (.iconst 0, 1) := by decide +kernel
theorem dX10_isDigit_17 : decode cX10_isDigit 17 = .ok (.ireturn, 1) := by decide +kernel
theorem dX10_wordOf_0 : decode cX10_wordOf 0 = .ok (.lconst 0, 1) := by decide +kernel
theorem dX10_wordOf_1 : decode cX10_wordOf 1 = .ok (.lstore_n 1, 1) := by decide +kernel
theorem dX10_wordOf_2 : decode cX10_wordOf 2 = .ok (.iconst 0, 1) := by decide +kernel
theorem dX10_wordOf_3 : decode cX10_wordOf 3 = .ok (.istore_n 3, 1) := by decide +kernel
theorem dX10_wordOf_4 : decode cX10_wordOf 4 = .ok (.iload_n 3, 1) := by decide +kernel
theorem dX10_wordOf_5 : decode cX10_wordOf 5 = .ok (.aload_n 0, 1) := by decide +kernel
theorem dX10_wordOf_6 : decode cX10_wordOf 6 = .ok (.invokevirtual 55, 3) := by decide +kernel
theorem dX10_wordOf_9 : decode cX10_wordOf 9 = .ok (.if_icmp .ge 27, 3) := by decide +kernel
theorem dX10_wordOf_12 : decode cX10_wordOf 12 = .ok (.ldc2_w 61, 3) := by decide +kernel
theorem dX10_wordOf_15 : decode cX10_wordOf 15 = .ok (.lload_n 1, 1) := by decide +kernel
theorem dX10_wordOf_16 : decode cX10_wordOf 16 = .ok (.lmul, 1) := by decide +kernel
theorem dX10_wordOf_17 : decode cX10_wordOf 17 = .ok (.aload_n 0, 1) := by decide +kernel
theorem dX10_wordOf_18 : decode cX10_wordOf 18 = .ok (.iload_n 3, 1) := by decide +kernel
theorem dX10_wordOf_19 : decode cX10_wordOf 19 = .ok (.invokevirtual 63, 3) := by decide +kernel
theorem dX10_wordOf_22 : decode cX10_wordOf 22 = .ok (.bipush 97, 2) := by decide +kernel
theorem dX10_wordOf_24 : decode cX10_wordOf 24 = .ok (.isub, 1) := by decide +kernel
theorem dX10_wordOf_25 : decode cX10_wordOf 25 = .ok (.iconst 1, 1) := by decide +kernel
theorem dX10_wordOf_26 : decode cX10_wordOf 26 = .ok (.iadd, 1) := by decide +kernel
theorem dX10_wordOf_27 : decode cX10_wordOf 27 = .ok (.i2l, 1) := by decide +kernel
theorem dX10_wordOf_28 : decode cX10_wordOf 28 = .ok (.ladd, 1) := by decide +kernel
theorem dX10_wordOf_29 : decode cX10_wordOf 29 = .ok (.lstore_n 1, 1) := by decide +kernel
theorem dX10_wordOf_30 : decode cX10_wordOf 30 = .ok (.iinc 3 1, 3) := by decide +kernel
theorem dX10_wordOf_33 : decode cX10_wordOf 33 = .ok (.goto (-29), 3) := by decide +kernel
theorem dX10_wordOf_36 : decode cX10_wordOf 36 = .ok (.lload_n 1, 1) := by decide +kernel
theorem dX10_wordOf_37 : decode cX10_wordOf 37 = .ok (.lreturn, 1) := by decide +kernel
theorem dX10_goesOn_0 : decode cX10_goesOn 0 = .ok (.aload_n 0, 1) := by decide +kernel
theorem dX10_goesOn_1 : decode cX10_goesOn 1 = .ok (.getfield 67, 3) := by decide +kernel
theorem dX10_goesOn_4 : decode cX10_goesOn 4 = .ok (.iconst 5, 1) := by decide +kernel
theorem dX10_goesOn_5 : decode cX10_goesOn 5 = .ok (.if_icmp .ne 4, 3) := by decide +kernel
theorem dX10_goesOn_8 : decode cX10_goesOn 8 = .ok (.return_, 1) := by decide +kernel
theorem dX10_goesOn_9 : decode cX10_goesOn 9 = .ok (.aload_n 0, 1) := by decide +kernel
theorem dX10_goesOn_10 : decode cX10_goesOn 10 = .ok (.aload_n 0, 1) := by decide +kernel
theorem dX10_goesOn_11 : decode cX10_goesOn 11 = .ok (.getfield 70, 3) := by decide +kernel
theorem dX10_goesOn_14 : decode cX10_goesOn 14 = .ok (.invokevirtual 73, 3) := by decide +kernel
theorem dX10_goesOn_17 : decode cX10_goesOn 17 = .ok (.bipush 32, 2) := by decide +kernel
theorem dX10_goesOn_19 : decode cX10_goesOn 19 = .ok (.if_icmp .ne 16, 3) := by decide +kernel
theorem dX10_goesOn_22 : decode cX10_goesOn 22 = .ok (.aload_n 0, 1) := by decide +kernel
theorem dX10_goesOn_23 : decode cX10_goesOn 23 = .ok (.dup, 1) := by decide +kernel
theorem dX10_goesOn_24 : decode cX10_goesOn 24 = .ok (.getfield 70, 3) := by decide +kernel
theorem dX10_goesOn_27 : decode cX10_goesOn 27 = .ok (.iconst 1, 1) := by decide +kernel
theorem dX10_goesOn_28 : decode cX10_goesOn 28 = .ok (.iadd, 1) := by decide +kernel
theorem dX10_goesOn_29 : decode cX10_goesOn 29 = .ok (.putfield 70, 3) := by decide +kernel
theorem dX10_goesOn_32 : decode cX10_goesOn 32 = .ok (.goto (-23), 3) := by decide +kernel
theorem dX10_goesOn_35 : decode cX10_goesOn 35 = .ok (.aload_n 0, 1) := by decide +kernel
theorem dX10_goesOn_36 : decode cX10_goesOn 36 = .ok (.aload_n 0, 1) := by decide +kernel
theorem dX10_goesOn_37 : decode cX10_goesOn 37 = .ok (.getfield 70, 3) := by decide +kernel
theorem dX10_goesOn_40 : decode cX10_goesOn 40 = .ok (.putfield 77, 3) := by decide +kernel
theorem dX10_goesOn_43 : decode cX10_goesOn 43 = .ok (.aload_n 0, 1) := by decide +kernel
theorem dX10_goesOn_44 : decode cX10_goesOn 44 = .ok (.iconst 0, 1) := by decide +kernel
theorem dX10_goesOn_45 : decode cX10_goesOn 45 = .ok (.putfield 67, 3) := by decide +kernel
theorem dX10_goesOn_48 : decode cX10_goesOn 48 = .ok (.aload_n 0, 1) := by decide +kernel
theorem dX10_goesOn_49 : decode cX10_goesOn 49 = .ok (.aload_n 0, 1) := by decide +kernel
theorem dX10_goesOn_50 : decode cX10_goesOn 50 = .ok (.getfield 70, 3) := by decide +kernel
theorem dX10_goesOn_53 : decode cX10_goesOn 53 = .ok (.invokevirtual 73, 3) := by decide +kernel
theorem dX10_goesOn_56 : decode cX10_goesOn 56 = .ok (.istore_n 1, 1) := by decide +kernel
theorem dX10_goesOn_57 : decode cX10_goesOn 57 = .ok (.iconst 0, 1) := by decide +kernel
theorem dX10_goesOn_58 : decode cX10_goesOn 58 = .ok (.istore_n 2, 1) := by decide +kernel
theorem dX10_goesOn_59 : decode cX10_goesOn 59 = .ok (.iload_n 1, 1) := by decide +kernel
theorem dX10_goesOn_60 : decode cX10_goesOn 60 = .ok (.iconst (-1), 1) := by decide +kernel
theorem dX10_goesOn_61 : decode cX10_goesOn 61 = .ok (.if_icmp .ne 11, 3) := by decide +kernel
theorem dX10_goesOn_64 : decode cX10_goesOn 64 = .ok (.aload_n 0, 1) := by decide +kernel
theorem dX10_goesOn_65 : decode cX10_goesOn 65 = .ok (.iconst 1, 1) := by decide +kernel
theorem dX10_goesOn_66 : decode cX10_goesOn 66 = .ok (.putfield 67, 3) := by decide +kernel
theorem dX10_goesOn_69 : decode cX10_goesOn 69 = .ok (.goto 196, 3) := by decide +kernel
theorem dX10_goesOn_72 : decode cX10_goesOn 72 = .ok (.iload_n 1, 1) := by decide +kernel
theorem dX10_goesOn_73 : decode cX10_goesOn 73 = .ok (.invokestatic 80, 3) := by decide +kernel
theorem dX10_goesOn_76 : decode cX10_goesOn 76 = .ok (.ifCond .eq 85, 3) := by decide +kernel
theorem dX10_goesOn_79 : decode cX10_goesOn 79 = .ok (.aload_n 0, 1) := by decide +kernel
theorem dX10_goesOn_80 : decode cX10_goesOn 80 = .ok (.lconst 0, 1) := by decide +kernel
theorem dX10_goesOn_81 : decode cX10_goesOn 81 = .ok (.putfield 84, 3) := by decide +kernel
theorem dX10_goesOn_84 : decode cX10_goesOn 84 = .ok (.aload_n 0, 1) := by decide +kernel
theorem dX10_goesOn_85 : decode cX10_goesOn 85 = .ok (.aload_n 0, 1) := by decide +kernel
theorem dX10_goesOn_86 : decode cX10_goesOn 86 = .ok (.getfield 70, 3) := by decide +kernel
theorem dX10_goesOn_89 : decode cX10_goesOn 89 = .ok (.invokevirtual 73, 3) := by decide +kernel
theorem dX10_goesOn_92 : decode cX10_goesOn 92 = .ok (.invokestatic 80, 3) := by decide +kernel
theorem dX10_goesOn_95 : decode cX10_goesOn 95 = .ok (.ifCond .eq 52, 3) := by decide +kernel
theorem dX10_goesOn_98 : decode cX10_goesOn 98 = .ok (.iload_n 2, 1) := by decide +kernel
theorem dX10_goesOn_99 : decode cX10_goesOn 99 = .ok (.bipush 8, 2) := by decide +kernel
theorem dX10_goesOn_101 : decode cX10_goesOn 101 = .ok (.if_icmp .ge 30, 3) := by decide +kernel
theorem dX10_goesOn_104 : decode cX10_goesOn 104 = .ok (.aload_n 0, 1) := by decide +kernel
theorem dX10_goesOn_105 : decode cX10_goesOn 105 = .ok (.ldc2_w 61, 3) := by decide +kernel
theorem dX10_goesOn_108 : decode cX10_goesOn 108 = .ok (.aload_n 0, 1) := by decide +kernel
theorem dX10_goesOn_109 : decode cX10_goesOn 109 = .ok (.getfield 84, 3) := by decide +kernel
theorem dX10_goesOn_112 : decode cX10_goesOn 112 = .ok (.lmul, 1) := by decide +kernel
theorem dX10_goesOn_113 : decode cX10_goesOn 113 = .ok (.aload_n 0, 1) := by decide +kernel
theorem dX10_goesOn_114 : decode cX10_goesOn 114 = .ok (.aload_n 0, 1) := by decide +kernel
theorem dX10_goesOn_115 : decode cX10_goesOn 115 = .ok (.getfield 70, 3) := by decide +kernel
theorem dX10_goesOn_118 : decode cX10_goesOn 118 = .ok (.invokevirtual 73, 3) := by decide +kernel
theorem dX10_goesOn_121 : decode cX10_goesOn 121 = .ok (.bipush 97, 2) := by decide +kernel
theorem dX10_goesOn_123 : decode cX10_goesOn 123 = .ok (.isub, 1) := by decide +kernel
theorem dX10_goesOn_124 : decode cX10_goesOn 124 = .ok (.iconst 1, 1) := by decide +kernel
theorem dX10_goesOn_125 : decode cX10_goesOn 125 = .ok (.iadd, 1) := by decide +kernel
theorem dX10_goesOn_126 : decode cX10_goesOn 126 = .ok (.i2l, 1) := by decide +kernel
theorem dX10_goesOn_127 : decode cX10_goesOn 127 = .ok (.ladd, 1) := by decide +kernel
theorem dX10_goesOn_128 : decode cX10_goesOn 128 = .ok (.putfield 84, 3) := by decide +kernel
theorem dX10_goesOn_131 : decode cX10_goesOn 131 = .ok (.iinc 2 1, 3) := by decide +kernel
theorem dX10_goesOn_134 : decode cX10_goesOn 134 = .ok (.aload_n 0, 1) := by decide +kernel
theorem dX10_goesOn_135 : decode cX10_goesOn 135 = .ok (.dup, 1) := by decide +kernel
theorem dX10_goesOn_136 : decode cX10_goesOn 136 = .ok (.getfield 70, 3) := by decide +kernel
theorem dX10_goesOn_139 : decode cX10_goesOn 139 = .ok (.iconst 1, 1) := by decide +kernel
theorem dX10_goesOn_140 : decode cX10_goesOn 140 = .ok (.iadd, 1) := by decide +kernel
theorem dX10_goesOn_141 : decode cX10_goesOn 141 = .ok (.putfield 70, 3) := by decide +kernel
theorem dX10_goesOn_144 : decode cX10_goesOn 144 = .ok (.goto (-60), 3) := by decide +kernel
theorem dX10_goesOn_147 : decode cX10_goesOn 147 = .ok (.iload_n 2, 1) := by decide +kernel
theorem dX10_goesOn_148 : decode cX10_goesOn 148 = .ok (.bipush 8, 2) := by decide +kernel
theorem dX10_goesOn_150 : decode cX10_goesOn 150 = .ok (.if_icmp .gt 115, 3) := by decide +kernel
theorem dX10_goesOn_153 : decode cX10_goesOn 153 = .ok (.aload_n 0, 1) := by decide +kernel
theorem dX10_goesOn_154 : decode cX10_goesOn 154 = .ok (.iconst 2, 1) := by decide +kernel
theorem dX10_goesOn_155 : decode cX10_goesOn 155 = .ok (.putfield 67, 3) := by decide +kernel
theorem dX10_goesOn_158 : decode cX10_goesOn 158 = .ok (.goto 107, 3) := by decide +kernel
theorem dX10_goesOn_161 : decode cX10_goesOn 161 = .ok (.iload_n 1, 1) := by decide +kernel
theorem dX10_goesOn_162 : decode cX10_goesOn 162 = .ok (.invokestatic 88, 3) := by decide +kernel
theorem dX10_goesOn_165 : decode cX10_goesOn 165 = .ok (.ifCond .eq 79, 3) := by decide +kernel
theorem dX10_goesOn_168 : decode cX10_goesOn 168 = .ok (.aload_n 0, 1) := by decide +kernel
theorem dX10_goesOn_169 : decode cX10_goesOn 169 = .ok (.iconst 0, 1) := by decide +kernel
theorem dX10_goesOn_170 : decode cX10_goesOn 170 = .ok (.putfield 91, 3) := by decide +kernel
theorem dX10_goesOn_173 : decode cX10_goesOn 173 = .ok (.aload_n 0, 1) := by decide +kernel
theorem dX10_goesOn_174 : decode cX10_goesOn 174 = .ok (.aload_n 0, 1) := by decide +kernel
theorem dX10_goesOn_175 : decode cX10_goesOn 175 = .ok (.getfield 70, 3) := by decide +kernel
theorem dX10_goesOn_178 : decode cX10_goesOn 178 = .ok (.invokevirtual 73, 3) := by decide +kernel
theorem dX10_goesOn_181 : decode cX10_goesOn 181 = .ok (.invokestatic 88, 3) := by decide +kernel
theorem dX10_goesOn_184 : decode cX10_goesOn 184 = .ok (.ifCond .eq 47, 3) := by decide +kernel
theorem dX10_goesOn_187 : decode cX10_goesOn 187 = .ok (.iload_n 2, 1) := by decide +kernel
theorem dX10_goesOn_188 : decode cX10_goesOn 188 = .ok (.iconst 3, 1) := by decide +kernel
theorem dX10_goesOn_189 : decode cX10_goesOn 189 = .ok (.if_icmp .ge 26, 3) := by decide +kernel
theorem dX10_goesOn_192 : decode cX10_goesOn 192 = .ok (.aload_n 0, 1) := by decide +kernel
theorem dX10_goesOn_193 : decode cX10_goesOn 193 = .ok (.bipush 10, 2) := by decide +kernel
theorem dX10_goesOn_195 : decode cX10_goesOn 195 = .ok (.aload_n 0, 1) := by decide +kernel
theorem dX10_goesOn_196 : decode cX10_goesOn 196 = .ok (.getfield 91, 3) := by decide +kernel
theorem dX10_goesOn_199 : decode cX10_goesOn 199 = .ok (.imul, 1) := by decide +kernel
theorem dX10_goesOn_200 : decode cX10_goesOn 200 = .ok (.aload_n 0, 1) := by decide +kernel
theorem dX10_goesOn_201 : decode cX10_goesOn 201 = .ok (.aload_n 0, 1) := by decide +kernel
theorem dX10_goesOn_202 : decode cX10_goesOn 202 = .ok (.getfield 70, 3) := by decide +kernel
theorem dX10_goesOn_205 : decode cX10_goesOn 205 = .ok (.invokevirtual 73, 3) := by decide +kernel
theorem dX10_goesOn_208 : decode cX10_goesOn 208 = .ok (.iadd, 1) := by decide +kernel
theorem dX10_goesOn_209 : decode cX10_goesOn 209 = .ok (.bipush 48, 2) := by decide +kernel
theorem dX10_goesOn_211 : decode cX10_goesOn 211 = .ok (.isub, 1) := by decide +kernel
theorem dX10_goesOn_212 : decode cX10_goesOn 212 = .ok (.putfield 91, 3) := by decide +kernel
theorem dX10_goesOn_215 : decode cX10_goesOn 215 = .ok (.iinc 2 1, 3) := by decide +kernel
theorem dX10_goesOn_218 : decode cX10_goesOn 218 = .ok (.aload_n 0, 1) := by decide +kernel
theorem dX10_goesOn_219 : decode cX10_goesOn 219 = .ok (.dup, 1) := by decide +kernel
theorem dX10_goesOn_220 : decode cX10_goesOn 220 = .ok (.getfield 70, 3) := by decide +kernel
theorem dX10_goesOn_223 : decode cX10_goesOn 223 = .ok (.iconst 1, 1) := by decide +kernel
theorem dX10_goesOn_224 : decode cX10_goesOn 224 = .ok (.iadd, 1) := by decide +kernel
theorem dX10_goesOn_225 : decode cX10_goesOn 225 = .ok (.putfield 70, 3) := by decide +kernel
theorem dX10_goesOn_228 : decode cX10_goesOn 228 = .ok (.goto (-55), 3) := by decide +kernel
theorem dX10_goesOn_231 : decode cX10_goesOn 231 = .ok (.iload_n 2, 1) := by decide +kernel
theorem dX10_goesOn_232 : decode cX10_goesOn 232 = .ok (.iconst 3, 1) := by decide +kernel
theorem dX10_goesOn_233 : decode cX10_goesOn 233 = .ok (.if_icmp .gt 32, 3) := by decide +kernel
theorem dX10_goesOn_236 : decode cX10_goesOn 236 = .ok (.aload_n 0, 1) := by decide +kernel
theorem dX10_goesOn_237 : decode cX10_goesOn 237 = .ok (.iconst 3, 1) := by decide +kernel
theorem dX10_goesOn_238 : decode cX10_goesOn 238 = .ok (.putfield 67, 3) := by decide +kernel
theorem dX10_goesOn_241 : decode cX10_goesOn 241 = .ok (.goto 24, 3) := by decide +kernel
theorem dX10_goesOn_244 : decode cX10_goesOn 244 = .ok (.iload_n 1, 1) := by decide +kernel
theorem dX10_goesOn_245 : decode cX10_goesOn 245 = .ok (.bipush 59, 2) := by decide +kernel
theorem dX10_goesOn_247 : decode cX10_goesOn 247 = .ok (.if_icmp .ne 18, 3) := by decide +kernel
theorem dX10_goesOn_250 : decode cX10_goesOn 250 = .ok (.aload_n 0, 1) := by decide +kernel
theorem dX10_goesOn_251 : decode cX10_goesOn 251 = .ok (.iconst 4, 1) := by decide +kernel
theorem dX10_goesOn_252 : decode cX10_goesOn 252 = .ok (.putfield 67, 3) := by decide +kernel
theorem dX10_goesOn_255 : decode cX10_goesOn 255 = .ok (.aload_n 0, 1) := by decide +kernel
theorem dX10_goesOn_256 : decode cX10_goesOn 256 = .ok (.dup, 1) := by decide +kernel
theorem dX10_goesOn_257 : decode cX10_goesOn 257 = .ok (.getfield 70, 3) := by decide +kernel
theorem dX10_goesOn_260 : decode cX10_goesOn 260 = .ok (.iconst 1, 1) := by decide +kernel
theorem dX10_goesOn_261 : decode cX10_goesOn 261 = .ok (.iadd, 1) := by decide +kernel
theorem dX10_goesOn_262 : decode cX10_goesOn 262 = .ok (.putfield 70, 3) := by decide +kernel
theorem dX10_goesOn_265 : decode cX10_goesOn 265 = .ok (.return_, 1) := by decide +kernel
theorem dX10_wrong_0 : decode cX10_wrong 0 = .ok (.aload_n 0, 1) := by decide +kernel
theorem dX10_wrong_1 : decode cX10_wrong 1 = .ok (.getfield 67, 3) := by decide +kernel
theorem dX10_wrong_4 : decode cX10_wrong 4 = .ok (.iconst 5, 1) := by decide +kernel
theorem dX10_wrong_5 : decode cX10_wrong 5 = .ok (.if_icmp .ne 4, 3) := by decide +kernel
theorem dX10_wrong_8 : decode cX10_wrong 8 = .ok (.return_, 1) := by decide +kernel
theorem dX10_wrong_9 : decode cX10_wrong 9 = .ok (.aload_n 0, 1) := by decide +kernel
theorem dX10_wrong_10 : decode cX10_wrong 10 = .ok (.iload_n 1, 1) := by decide +kernel
theorem dX10_wrong_11 : decode cX10_wrong 11 = .ok (.putfield 94, 3) := by decide +kernel
theorem dX10_wrong_14 : decode cX10_wrong 14 = .ok (.aload_n 0, 1) := by decide +kernel
theorem dX10_wrong_15 : decode cX10_wrong 15 = .ok (.aload_n 0, 1) := by decide +kernel
theorem dX10_wrong_16 : decode cX10_wrong 16 = .ok (.getfield 77, 3) := by decide +kernel
theorem dX10_wrong_19 : decode cX10_wrong 19 = .ok (.putfield 97, 3) := by decide +kernel
theorem dX10_wrong_22 : decode cX10_wrong 22 = .ok (.aload_n 0, 1) := by decide +kernel
theorem dX10_wrong_23 : decode cX10_wrong 23 = .ok (.iconst 5, 1) := by decide +kernel
theorem dX10_wrong_24 : decode cX10_wrong 24 = .ok (.putfield 67, 3) := by decide +kernel
theorem dX10_wrong_27 : decode cX10_wrong 27 = .ok (.return_, 1) := by decide +kernel
theorem dX10_isWord_0 : decode cX10_isWord 0 = .ok (.aload_n 0, 1) := by decide +kernel
theorem dX10_isWord_1 : decode cX10_isWord 1 = .ok (.getfield 67, 3) := by decide +kernel
theorem dX10_isWord_4 : decode cX10_isWord 4 = .ok (.iconst 2, 1) := by decide +kernel
theorem dX10_isWord_5 : decode cX10_isWord 5 = .ok (.if_icmp .ne 19, 3) := by decide +kernel
theorem dX10_isWord_8 : decode cX10_isWord 8 = .ok (.aload_n 0, 1) := by decide +kernel
theorem dX10_isWord_9 : decode cX10_isWord 9 = .ok (.getfield 84, 3) := by decide +kernel
theorem dX10_isWord_12 : decode cX10_isWord 12 = .ok (.aload_n 1, 1) := by decide +kernel
theorem dX10_isWord_13 : decode cX10_isWord 13 = .ok (.invokestatic 100, 3) := by decide +kernel
theorem dX10_isWord_16 : decode cX10_isWord 16 = .ok (.lcmp, 1) := by decide +kernel
theorem dX10_isWord_17 : decode cX10_isWord 17 = .ok (.ifCond .ne 7, 3) := by decide +kernel
theorem dX10_isWord_20 : decode cX10_isWord 20 = .ok (.iconst 1, 1) := by decide +kernel
theorem dX10_isWord_21 : decode cX10_isWord 21 = .ok (.goto 4, 3) := by decide +kernel
theorem dX10_isWord_24 : decode cX10_isWord 24 = .ok (.iconst 0, 1) := by decide +kernel
theorem dX10_isWord_25 : decode cX10_isWord 25 = .ok (.ireturn, 1) := by decide +kernel
theorem dX10_readWhole_0 : decode cX10_readWhole 0 = .ok (.aload_n 0, 1) := by decide +kernel
theorem dX10_readWhole_1 : decode cX10_readWhole 1 = .ok (.getfield 67, 3) := by decide +kernel
theorem dX10_readWhole_4 : decode cX10_readWhole 4 = .ok (.iconst 3, 1) := by decide +kernel
theorem dX10_readWhole_5 : decode cX10_readWhole 5 = .ok (.if_icmp .eq 11, 3) := by decide +kernel
theorem dX10_readWhole_8 : decode cX10_readWhole 8 = .ok (.aload_n 0, 1) := by decide +kernel
theorem dX10_readWhole_9 : decode cX10_readWhole 9 = .ok (.iconst 1, 1) := by decide +kernel
theorem dX10_readWhole_10 : decode cX10_readWhole 10 = .ok (.invokevirtual 104, 3) := by decide +kernel
theorem dX10_readWhole_13 : decode cX10_readWhole 13 = .ok (.goto 20, 3) := by decide +kernel
theorem dX10_readWhole_16 : decode cX10_readWhole 16 = .ok (.aload_n 0, 1) := by decide +kernel
theorem dX10_readWhole_17 : decode cX10_readWhole 17 = .ok (.getfield 91, 3) := by decide +kernel
theorem dX10_readWhole_20 : decode cX10_readWhole 20 = .ok (.iload_n 1, 1) := by decide +kernel
theorem dX10_readWhole_21 : decode cX10_readWhole 21 = .ok (.iload_n 2, 1) := by decide +kernel
theorem dX10_readWhole_22 : decode cX10_readWhole 22 = .ok (.invokestatic 108, 3) := by decide +kernel
theorem dX10_readWhole_25 : decode cX10_readWhole 25 = .ok (.ifCond .ne 8, 3) := by decide +kernel
theorem dX10_readWhole_28 : decode cX10_readWhole 28 = .ok (.aload_n 0, 1) := by decide +kernel
theorem dX10_readWhole_29 : decode cX10_readWhole 29 = .ok (.iconst 4, 1) := by decide +kernel
theorem dX10_readWhole_30 : decode cX10_readWhole 30 = .ok (.invokevirtual 104, 3) := by decide +kernel
theorem dX10_readWhole_33 : decode cX10_readWhole 33 = .ok (.aload_n 0, 1) := by decide +kernel
theorem dX10_readWhole_34 : decode cX10_readWhole 34 = .ok (.getfield 91, 3) := by decide +kernel
theorem dX10_readWhole_37 : decode cX10_readWhole 37 = .ok (.istore_n 3, 1) := by decide +kernel
theorem dX10_readWhole_38 : decode cX10_readWhole 38 = .ok (.aload_n 0, 1) := by decide +kernel
theorem dX10_readWhole_39 : decode cX10_readWhole 39 = .ok (.invokevirtual 112, 3) := by decide +kernel
theorem dX10_readWhole_42 : decode cX10_readWhole 42 = .ok (.iload_n 3, 1) := by decide +kernel
theorem dX10_readWhole_43 : decode cX10_readWhole 43 = .ok (.ireturn, 1) := by decide +kernel
theorem dX10_readPart_0 : decode cX10_readPart 0 = .ok (.aload_n 0, 1) := by decide +kernel
theorem dX10_readPart_1 : decode cX10_readPart 1 = .ok (.aload_n 1, 1) := by decide +kernel
theorem dX10_readPart_2 : decode cX10_readPart 2 = .ok (.invokevirtual 115, 3) := by decide +kernel
theorem dX10_readPart_5 : decode cX10_readPart 5 = .ok (.ifCond .ne 8, 3) := by decide +kernel
theorem dX10_readPart_8 : decode cX10_readPart 8 = .ok (.aload_n 0, 1) := by decide +kernel
theorem dX10_readPart_9 : decode cX10_readPart 9 = .ok (.iconst 1, 1) := by decide +kernel
theorem dX10_readPart_10 : decode cX10_readPart 10 = .ok (.invokevirtual 104, 3) := by decide +kernel
theorem dX10_readPart_13 : decode cX10_readPart 13 = .ok (.aload_n 0, 1) := by decide +kernel
theorem dX10_readPart_14 : decode cX10_readPart 14 = .ok (.invokevirtual 112, 3) := by decide +kernel
theorem dX10_readPart_17 : decode cX10_readPart 17 = .ok (.aload_n 0, 1) := by decide +kernel
theorem dX10_readPart_18 : decode cX10_readPart 18 = .ok (.iload_n 2, 1) := by decide +kernel
theorem dX10_readPart_19 : decode cX10_readPart 19 = .ok (.iload_n 3, 1) := by decide +kernel
theorem dX10_readPart_20 : decode cX10_readPart 20 = .ok (.invokevirtual 119, 3) := by decide +kernel
theorem dX10_readPart_23 : decode cX10_readPart 23 = .ok (.ireturn, 1) := by decide +kernel
theorem dX10_isName_0 : decode cX10_isName 0 = .ok (.aload_n 0, 1) := by decide +kernel
theorem dX10_isName_1 : decode cX10_isName 1 = .ok (.getfield 67, 3) := by decide +kernel
theorem dX10_isName_4 : decode cX10_isName 4 = .ok (.iconst 2, 1) := by decide +kernel
theorem dX10_isName_5 : decode cX10_isName 5 = .ok (.if_icmp .ne 70, 3) := by decide +kernel
theorem dX10_isName_8 : decode cX10_isName 8 = .ok (.aload_n 0, 1) := by decide +kernel
theorem dX10_isName_9 : decode cX10_isName 9 = .ok (.ldc 123, 2) := by decide +kernel
theorem dX10_isName_11 : decode cX10_isName 11 = .ok (.invokevirtual 115, 3) := by decide +kernel
theorem dX10_isName_14 : decode cX10_isName 14 = .ok (.ifCond .ne 61, 3) := by decide +kernel
theorem dX10_isName_17 : decode cX10_isName 17 = .ok (.aload_n 0, 1) := by decide +kernel
theorem dX10_isName_18 : decode cX10_isName 18 = .ok (.ldc 125, 2) := by decide +kernel
theorem dX10_isName_20 : decode cX10_isName 20 = .ok (.invokevirtual 115, 3) := by decide +kernel
theorem dX10_isName_23 : decode cX10_isName 23 = .ok (.ifCond .ne 52, 3) := by decide +kernel
theorem dX10_isName_26 : decode cX10_isName 26 = .ok (.aload_n 0, 1) := by decide +kernel
theorem dX10_isName_27 : decode cX10_isName 27 = .ok (.ldc 127, 2) := by decide +kernel
theorem dX10_isName_29 : decode cX10_isName 29 = .ok (.invokevirtual 115, 3) := by decide +kernel
theorem dX10_isName_32 : decode cX10_isName 32 = .ok (.ifCond .ne 43, 3) := by decide +kernel
theorem dX10_isName_35 : decode cX10_isName 35 = .ok (.aload_n 0, 1) := by decide +kernel
theorem dX10_isName_36 : decode cX10_isName 36 = .ok (.ldc 129, 2) := by decide +kernel
theorem dX10_isName_38 : decode cX10_isName 38 = .ok (.invokevirtual 115, 3) := by decide +kernel
theorem dX10_isName_41 : decode cX10_isName 41 = .ok (.ifCond .ne 34, 3) := by decide +kernel
theorem dX10_isName_44 : decode cX10_isName 44 = .ok (.aload_n 0, 1) := by decide +kernel
theorem dX10_isName_45 : decode cX10_isName 45 = .ok (.ldc 131, 2) := by decide +kernel
theorem dX10_isName_47 : decode cX10_isName 47 = .ok (.invokevirtual 115, 3) := by decide +kernel
theorem dX10_isName_50 : decode cX10_isName 50 = .ok (.ifCond .ne 25, 3) := by decide +kernel
theorem dX10_isName_53 : decode cX10_isName 53 = .ok (.aload_n 0, 1) := by decide +kernel
theorem dX10_isName_54 : decode cX10_isName 54 = .ok (.ldc 133, 2) := by decide +kernel
theorem dX10_isName_56 : decode cX10_isName 56 = .ok (.invokevirtual 115, 3) := by decide +kernel
theorem dX10_isName_59 : decode cX10_isName 59 = .ok (.ifCond .ne 16, 3) := by decide +kernel
theorem dX10_isName_62 : decode cX10_isName 62 = .ok (.aload_n 0, 1) := by decide +kernel
theorem dX10_isName_63 : decode cX10_isName 63 = .ok (.ldc 135, 2) := by decide +kernel
theorem dX10_isName_65 : decode cX10_isName 65 = .ok (.invokevirtual 115, 3) := by decide +kernel
theorem dX10_isName_68 : decode cX10_isName 68 = .ok (.ifCond .ne 7, 3) := by decide +kernel
theorem dX10_isName_71 : decode cX10_isName 71 = .ok (.iconst 1, 1) := by decide +kernel
theorem dX10_isName_72 : decode cX10_isName 72 = .ok (.goto 4, 3) := by decide +kernel
theorem dX10_isName_75 : decode cX10_isName 75 = .ok (.iconst 0, 1) := by decide +kernel
theorem dX10_isName_76 : decode cX10_isName 76 = .ok (.ireturn, 1) := by decide +kernel
theorem dX10_begins_0 : decode cX10_begins 0 = .ok (.iload_n 1, 1) := by decide +kernel
theorem dX10_begins_1 : decode cX10_begins 1 = .ok (.iload_n 2, 1) := by decide +kernel
theorem dX10_begins_2 : decode cX10_begins 2 = .ok (.if_icmp .ne 8, 3) := by decide +kernel
theorem dX10_begins_5 : decode cX10_begins 5 = .ok (.aload_n 0, 1) := by decide +kernel
theorem dX10_begins_6 : decode cX10_begins 6 = .ok (.iconst 5, 1) := by decide +kernel
theorem dX10_begins_7 : decode cX10_begins 7 = .ok (.invokevirtual 104, 3) := by decide +kernel
theorem dX10_begins_10 : decode cX10_begins 10 = .ok (.aload_n 0, 1) := by decide +kernel
theorem dX10_begins_11 : decode cX10_begins 11 = .ok (.invokevirtual 112, 3) := by decide +kernel
theorem dX10_begins_14 : decode cX10_begins 14 = .ok (.return_, 1) := by decide +kernel
theorem dX10_readFresh_0 : decode cX10_readFresh 0 = .ok (.aload_n 0, 1) := by decide +kernel
theorem dX10_readFresh_1 : decode cX10_readFresh 1 = .ok (.invokevirtual 137, 3) := by decide +kernel
theorem dX10_readFresh_4 : decode cX10_readFresh 4 = .ok (.ifCond .ne 8, 3) := by decide +kernel
theorem dX10_readFresh_7 : decode cX10_readFresh 7 = .ok (.aload_n 0, 1) := by decide +kernel
theorem dX10_readFresh_8 : decode cX10_readFresh 8 = .ok (.iconst 1, 1) := by decide +kernel
theorem dX10_readFresh_9 : decode cX10_readFresh 9 = .ok (.invokevirtual 104, 3) := by decide +kernel
theorem dX10_readFresh_12 : decode cX10_readFresh 12 = .ok (.aload_n 0, 1) := by decide +kernel
theorem dX10_readFresh_13 : decode cX10_readFresh 13 = .ok (.getfield 141, 3) := by decide +kernel
theorem dX10_readFresh_16 : decode cX10_readFresh 16 = .ok (.aload_n 0, 1) := by decide +kernel
theorem dX10_readFresh_17 : decode cX10_readFresh 17 = .ok (.getfield 84, 3) := by decide +kernel
theorem dX10_readFresh_20 : decode cX10_readFresh 20 = .ok (.invokevirtual 145, 3) := by decide +kernel
theorem dX10_readFresh_23 : decode cX10_readFresh 23 = .ok (.iconst (-1), 1) := by decide +kernel
theorem dX10_readFresh_24 : decode cX10_readFresh 24 = .ok (.if_icmp .eq 8, 3) := by decide +kernel
theorem dX10_readFresh_27 : decode cX10_readFresh 27 = .ok (.aload_n 0, 1) := by decide +kernel
theorem dX10_readFresh_28 : decode cX10_readFresh 28 = .ok (.iconst 3, 1) := by decide +kernel
theorem dX10_readFresh_29 : decode cX10_readFresh 29 = .ok (.invokevirtual 104, 3) := by decide +kernel
theorem dX10_readFresh_32 : decode cX10_readFresh 32 = .ok (.aload_n 0, 1) := by decide +kernel
theorem dX10_readFresh_33 : decode cX10_readFresh 33 = .ok (.getfield 67, 3) := by decide +kernel
theorem dX10_readFresh_36 : decode cX10_readFresh 36 = .ok (.iconst 5, 1) := by decide +kernel
theorem dX10_readFresh_37 : decode cX10_readFresh 37 = .ok (.if_icmp .ne 4, 3) := by decide +kernel
theorem dX10_readFresh_40 : decode cX10_readFresh 40 = .ok (.return_, 1) := by decide +kernel
theorem dX10_readFresh_41 : decode cX10_readFresh 41 = .ok (.aload_n 0, 1) := by decide +kernel
theorem dX10_readFresh_42 : decode cX10_readFresh 42 = .ok (.getfield 141, 3) := by decide +kernel
theorem dX10_readFresh_45 : decode cX10_readFresh 45 = .ok (.getfield 151, 3) := by decide +kernel
theorem dX10_readFresh_48 : decode cX10_readFresh 48 = .ok (.aload_n 0, 1) := by decide +kernel
theorem dX10_readFresh_49 : decode cX10_readFresh 49 = .ok (.getfield 141, 3) := by decide +kernel
theorem dX10_readFresh_52 : decode cX10_readFresh 52 = .ok (.getfield 155, 3) := by decide +kernel
theorem dX10_readFresh_55 : decode cX10_readFresh 55 = .ok (.aload_n 0, 1) := by decide +kernel
theorem dX10_readFresh_56 : decode cX10_readFresh 56 = .ok (.getfield 84, 3) := by decide +kernel
theorem dX10_readFresh_59 : decode cX10_readFresh 59 = .ok (.lastore, 1) := by decide +kernel
theorem dX10_readFresh_60 : decode cX10_readFresh 60 = .ok (.aload_n 0, 1) := by decide +kernel
theorem dX10_readFresh_61 : decode cX10_readFresh 61 = .ok (.getfield 141, 3) := by decide +kernel
theorem dX10_readFresh_64 : decode cX10_readFresh 64 = .ok (.getfield 158, 3) := by decide +kernel
theorem dX10_readFresh_67 : decode cX10_readFresh 67 = .ok (.aload_n 0, 1) := by decide +kernel
theorem dX10_readFresh_68 : decode cX10_readFresh 68 = .ok (.getfield 141, 3) := by decide +kernel
theorem dX10_readFresh_71 : decode cX10_readFresh 71 = .ok (.getfield 155, 3) := by decide +kernel
theorem dX10_readFresh_74 : decode cX10_readFresh 74 = .ok (.iload_n 1, 1) := by decide +kernel
theorem dX10_readFresh_75 : decode cX10_readFresh 75 = .ok (.iastore, 1) := by decide +kernel
theorem dX10_readFresh_76 : decode cX10_readFresh 76 = .ok (.aload_n 0, 1) := by decide +kernel
theorem dX10_readFresh_77 : decode cX10_readFresh 77 = .ok (.getfield 141, 3) := by decide +kernel
theorem dX10_readFresh_80 : decode cX10_readFresh 80 = .ok (.getfield 161, 3) := by decide +kernel
theorem dX10_readFresh_83 : decode cX10_readFresh 83 = .ok (.aload_n 0, 1) := by decide +kernel
theorem dX10_readFresh_84 : decode cX10_readFresh 84 = .ok (.getfield 141, 3) := by decide +kernel
theorem dX10_readFresh_87 : decode cX10_readFresh 87 = .ok (.getfield 155, 3) := by decide +kernel
theorem dX10_readFresh_90 : decode cX10_readFresh 90 = .ok (.iload_n 2, 1) := by decide +kernel
theorem dX10_readFresh_91 : decode cX10_readFresh 91 = .ok (.iastore, 1) := by decide +kernel
theorem dX10_readFresh_92 : decode cX10_readFresh 92 = .ok (.aload_n 0, 1) := by decide +kernel
theorem dX10_readFresh_93 : decode cX10_readFresh 93 = .ok (.getfield 141, 3) := by decide +kernel
theorem dX10_readFresh_96 : decode cX10_readFresh 96 = .ok (.dup, 1) := by decide +kernel
theorem dX10_readFresh_97 : decode cX10_readFresh 97 = .ok (.getfield 155, 3) := by decide +kernel
theorem dX10_readFresh_100 : decode cX10_readFresh 100 = .ok (.iconst 1, 1) := by decide +kernel
theorem dX10_readFresh_101 : decode cX10_readFresh 101 = .ok (.iadd, 1) := by decide +kernel
theorem dX10_readFresh_102 : decode cX10_readFresh 102 = .ok (.putfield 155, 3) := by decide +kernel
theorem dX10_readFresh_105 : decode cX10_readFresh 105 = .ok (.aload_n 0, 1) := by decide +kernel
theorem dX10_readFresh_106 : decode cX10_readFresh 106 = .ok (.invokevirtual 112, 3) := by decide +kernel
theorem dX10_readFresh_109 : decode cX10_readFresh 109 = .ok (.return_, 1) := by decide +kernel
theorem dX10_readHill_0 : decode cX10_readHill 0 = .ok (.iconst 1, 1) := by decide +kernel
theorem dX10_readHill_1 : decode cX10_readHill 1 = .ok (.istore_n 1, 1) := by decide +kernel
theorem dX10_readHill_2 : decode cX10_readHill 2 = .ok (.iload_n 1, 1) := by decide +kernel
theorem dX10_readHill_3 : decode cX10_readHill 3 = .ok (.ifCond .eq 32, 3) := by decide +kernel
theorem dX10_readHill_6 : decode cX10_readHill 6 = .ok (.aload_n 0, 1) := by decide +kernel
theorem dX10_readHill_7 : decode cX10_readHill 7 = .ok (.invokevirtual 164, 3) := by decide +kernel
theorem dX10_readHill_10 : decode cX10_readHill 10 = .ok (.aload_n 0, 1) := by decide +kernel
theorem dX10_readHill_11 : decode cX10_readHill 11 = .ok (.getfield 67, 3) := by decide +kernel
theorem dX10_readHill_14 : decode cX10_readHill 14 = .ok (.iconst 4, 1) := by decide +kernel
theorem dX10_readHill_15 : decode cX10_readHill 15 = .ok (.if_icmp .ne 7, 3) := by decide +kernel
theorem dX10_readHill_18 : decode cX10_readHill 18 = .ok (.iconst 1, 1) := by decide +kernel
theorem dX10_readHill_19 : decode cX10_readHill 19 = .ok (.goto 4, 3) := by decide +kernel
theorem dX10_readHill_22 : decode cX10_readHill 22 = .ok (.iconst 0, 1) := by decide +kernel
theorem dX10_readHill_23 : decode cX10_readHill 23 = .ok (.istore_n 1, 1) := by decide +kernel
theorem dX10_readHill_24 : decode cX10_readHill 24 = .ok (.iload_n 1, 1) := by decide +kernel
theorem dX10_readHill_25 : decode cX10_readHill 25 = .ok (.ifCond .eq (-23), 3) := by decide +kernel
theorem dX10_readHill_28 : decode cX10_readHill 28 = .ok (.aload_n 0, 1) := by decide +kernel
theorem dX10_readHill_29 : decode cX10_readHill 29 = .ok (.invokevirtual 112, 3) := by decide +kernel
theorem dX10_readHill_32 : decode cX10_readHill 32 = .ok (.goto (-30), 3) := by decide +kernel
theorem dX10_readHill_35 : decode cX10_readHill 35 = .ok (.aload_n 0, 1) := by decide +kernel
theorem dX10_readHill_36 : decode cX10_readHill 36 = .ok (.getfield 67, 3) := by decide +kernel
theorem dX10_readHill_39 : decode cX10_readHill 39 = .ok (.iconst 1, 1) := by decide +kernel
theorem dX10_readHill_40 : decode cX10_readHill 40 = .ok (.if_icmp .eq 8, 3) := by decide +kernel
theorem dX10_readHill_43 : decode cX10_readHill 43 = .ok (.aload_n 0, 1) := by decide +kernel
theorem dX10_readHill_44 : decode cX10_readHill 44 = .ok (.iconst 1, 1) := by decide +kernel
theorem dX10_readHill_45 : decode cX10_readHill 45 = .ok (.invokevirtual 104, 3) := by decide +kernel
theorem dX10_readHill_48 : decode cX10_readHill 48 = .ok (.aload_n 0, 1) := by decide +kernel
theorem dX10_readHill_49 : decode cX10_readHill 49 = .ok (.getfield 141, 3) := by decide +kernel
theorem dX10_readHill_52 : decode cX10_readHill 52 = .ok (.getfield 167, 3) := by decide +kernel
theorem dX10_readHill_55 : decode cX10_readHill 55 = .ok (.iconst (-1), 1) := by decide +kernel
theorem dX10_readHill_56 : decode cX10_readHill 56 = .ok (.if_icmp .eq 23, 3) := by decide +kernel
theorem dX10_readHill_59 : decode cX10_readHill 59 = .ok (.aload_n 0, 1) := by decide +kernel
theorem dX10_readHill_60 : decode cX10_readHill 60 = .ok (.getfield 141, 3) := by decide +kernel
theorem dX10_readHill_63 : decode cX10_readHill 63 = .ok (.getfield 170, 3) := by decide +kernel
theorem dX10_readHill_66 : decode cX10_readHill 66 = .ok (.ifCond .eq 13, 3) := by decide +kernel
theorem dX10_readHill_69 : decode cX10_readHill 69 = .ok (.aload_n 0, 1) := by decide +kernel
theorem dX10_readHill_70 : decode cX10_readHill 70 = .ok (.getfield 141, 3) := by decide +kernel
theorem dX10_readHill_73 : decode cX10_readHill 73 = .ok (.getfield 173, 3) := by decide +kernel
theorem dX10_readHill_76 : decode cX10_readHill 76 = .ok (.ifCond .ne 9, 3) := by decide +kernel
theorem dX10_readHill_79 : decode cX10_readHill 79 = .ok (.aload_n 0, 1) := by decide +kernel
theorem dX10_readHill_80 : decode cX10_readHill 80 = .ok (.bipush 6, 2) := by decide +kernel
theorem dX10_readHill_82 : decode cX10_readHill 82 = .ok (.invokevirtual 104, 3) := by decide +kernel
theorem dX10_readHill_85 : decode cX10_readHill 85 = .ok (.return_, 1) := by decide +kernel
theorem dX10_readLine_0 : decode cX10_readLine 0 = .ok (.aload_n 0, 1) := by decide +kernel
theorem dX10_readLine_1 : decode cX10_readLine 1 = .ok (.ldc 123, 2) := by decide +kernel
theorem dX10_readLine_3 : decode cX10_readLine 3 = .ok (.invokevirtual 115, 3) := by decide +kernel
theorem dX10_readLine_6 : decode cX10_readLine 6 = .ok (.ifCond .eq 10, 3) := by decide +kernel
theorem dX10_readLine_9 : decode cX10_readLine 9 = .ok (.aload_n 0, 1) := by decide +kernel
theorem dX10_readLine_10 : decode cX10_readLine 10 = .ok (.invokevirtual 176, 3) := by decide +kernel
theorem dX10_readLine_13 : decode cX10_readLine 13 = .ok (.goto 104, 3) := by decide +kernel
theorem dX10_readLine_16 : decode cX10_readLine 16 = .ok (.aload_n 0, 1) := by decide +kernel
theorem dX10_readLine_17 : decode cX10_readLine 17 = .ok (.ldc 125, 2) := by decide +kernel
theorem dX10_readLine_19 : decode cX10_readLine 19 = .ok (.invokevirtual 115, 3) := by decide +kernel
theorem dX10_readLine_22 : decode cX10_readLine 22 = .ok (.ifCond .eq 10, 3) := by decide +kernel
theorem dX10_readLine_25 : decode cX10_readLine 25 = .ok (.aload_n 0, 1) := by decide +kernel
theorem dX10_readLine_26 : decode cX10_readLine 26 = .ok (.invokevirtual 179, 3) := by decide +kernel
theorem dX10_readLine_29 : decode cX10_readLine 29 = .ok (.goto 88, 3) := by decide +kernel
theorem dX10_readLine_32 : decode cX10_readLine 32 = .ok (.aload_n 0, 1) := by decide +kernel
theorem dX10_readLine_33 : decode cX10_readLine 33 = .ok (.ldc 127, 2) := by decide +kernel
theorem dX10_readLine_35 : decode cX10_readLine 35 = .ok (.invokevirtual 115, 3) := by decide +kernel
theorem dX10_readLine_38 : decode cX10_readLine 38 = .ok (.ifCond .eq 10, 3) := by decide +kernel
theorem dX10_readLine_41 : decode cX10_readLine 41 = .ok (.aload_n 0, 1) := by decide +kernel
theorem dX10_readLine_42 : decode cX10_readLine 42 = .ok (.invokevirtual 181, 3) := by decide +kernel
theorem dX10_readLine_45 : decode cX10_readLine 45 = .ok (.goto 72, 3) := by decide +kernel
theorem dX10_readLine_48 : decode cX10_readLine 48 = .ok (.aload_n 0, 1) := by decide +kernel
theorem dX10_readLine_49 : decode cX10_readLine 49 = .ok (.ldc 129, 2) := by decide +kernel
theorem dX10_readLine_51 : decode cX10_readLine 51 = .ok (.invokevirtual 115, 3) := by decide +kernel
theorem dX10_readLine_54 : decode cX10_readLine 54 = .ok (.ifCond .eq 10, 3) := by decide +kernel
theorem dX10_readLine_57 : decode cX10_readLine 57 = .ok (.aload_n 0, 1) := by decide +kernel
theorem dX10_readLine_58 : decode cX10_readLine 58 = .ok (.invokevirtual 184, 3) := by decide +kernel
theorem dX10_readLine_61 : decode cX10_readLine 61 = .ok (.goto 56, 3) := by decide +kernel
theorem dX10_readLine_64 : decode cX10_readLine 64 = .ok (.aload_n 0, 1) := by decide +kernel
theorem dX10_readLine_65 : decode cX10_readLine 65 = .ok (.ldc 131, 2) := by decide +kernel
theorem dX10_readLine_67 : decode cX10_readLine 67 = .ok (.invokevirtual 115, 3) := by decide +kernel
theorem dX10_readLine_70 : decode cX10_readLine 70 = .ok (.ifCond .eq 10, 3) := by decide +kernel
theorem dX10_readLine_73 : decode cX10_readLine 73 = .ok (.aload_n 0, 1) := by decide +kernel
theorem dX10_readLine_74 : decode cX10_readLine 74 = .ok (.invokevirtual 187, 3) := by decide +kernel
theorem dX10_readLine_77 : decode cX10_readLine 77 = .ok (.goto 40, 3) := by decide +kernel
theorem dX10_readLine_80 : decode cX10_readLine 80 = .ok (.aload_n 0, 1) := by decide +kernel
theorem dX10_readLine_81 : decode cX10_readLine 81 = .ok (.ldc 133, 2) := by decide +kernel
theorem dX10_readLine_83 : decode cX10_readLine 83 = .ok (.invokevirtual 115, 3) := by decide +kernel
theorem dX10_readLine_86 : decode cX10_readLine 86 = .ok (.ifCond .eq 10, 3) := by decide +kernel
theorem dX10_readLine_89 : decode cX10_readLine 89 = .ok (.aload_n 0, 1) := by decide +kernel
theorem dX10_readLine_90 : decode cX10_readLine 90 = .ok (.invokevirtual 190, 3) := by decide +kernel
theorem dX10_readLine_93 : decode cX10_readLine 93 = .ok (.goto 24, 3) := by decide +kernel
theorem dX10_readLine_96 : decode cX10_readLine 96 = .ok (.aload_n 0, 1) := by decide +kernel
theorem dX10_readLine_97 : decode cX10_readLine 97 = .ok (.ldc 135, 2) := by decide +kernel
theorem dX10_readLine_99 : decode cX10_readLine 99 = .ok (.invokevirtual 115, 3) := by decide +kernel
theorem dX10_readLine_102 : decode cX10_readLine 102 = .ok (.ifCond .eq 10, 3) := by decide +kernel
theorem dX10_readLine_105 : decode cX10_readLine 105 = .ok (.aload_n 0, 1) := by decide +kernel
theorem dX10_readLine_106 : decode cX10_readLine 106 = .ok (.invokevirtual 193, 3) := by decide +kernel
theorem dX10_readLine_109 : decode cX10_readLine 109 = .ok (.goto 8, 3) := by decide +kernel
theorem dX10_readLine_112 : decode cX10_readLine 112 = .ok (.aload_n 0, 1) := by decide +kernel
theorem dX10_readLine_113 : decode cX10_readLine 113 = .ok (.iconst 1, 1) := by decide +kernel
theorem dX10_readLine_114 : decode cX10_readLine 114 = .ok (.invokevirtual 104, 3) := by decide +kernel
theorem dX10_readLine_117 : decode cX10_readLine 117 = .ok (.return_, 1) := by decide +kernel
theorem dX10_readLake_0 : decode cX10_readLake 0 = .ok (.aload_n 0, 1) := by decide +kernel
theorem dX10_readLake_1 : decode cX10_readLake 1 = .ok (.getfield 141, 3) := by decide +kernel
theorem dX10_readLake_4 : decode cX10_readLake 4 = .ok (.getfield 167, 3) := by decide +kernel
theorem dX10_readLake_7 : decode cX10_readLake 7 = .ok (.iconst (-1), 1) := by decide +kernel
theorem dX10_readLake_8 : decode cX10_readLake 8 = .ok (.if_icmp .eq 8, 3) := by decide +kernel
theorem dX10_readLake_11 : decode cX10_readLake 11 = .ok (.aload_n 0, 1) := by decide +kernel
theorem dX10_readLake_12 : decode cX10_readLake 12 = .ok (.iconst 3, 1) := by decide +kernel
theorem dX10_readLake_13 : decode cX10_readLake 13 = .ok (.invokevirtual 104, 3) := by decide +kernel
theorem dX10_readLake_16 : decode cX10_readLake 16 = .ok (.aload_n 0, 1) := by decide +kernel
theorem dX10_readLake_17 : decode cX10_readLake 17 = .ok (.invokevirtual 112, 3) := by decide +kernel
theorem dX10_readLake_20 : decode cX10_readLake 20 = .ok (.aload_n 0, 1) := by decide +kernel
theorem dX10_readLake_21 : decode cX10_readLake 21 = .ok (.ldc 196, 2) := by decide +kernel
theorem dX10_readLake_23 : decode cX10_readLake 23 = .ok (.iconst 0, 1) := by decide +kernel
theorem dX10_readLake_24 : decode cX10_readLake 24 = .ok (.sipush 500, 3) := by decide +kernel
theorem dX10_readLake_27 : decode cX10_readLake 27 = .ok (.invokevirtual 197, 3) := by decide +kernel
theorem dX10_readLake_30 : decode cX10_readLake 30 = .ok (.istore_n 1, 1) := by decide +kernel
theorem dX10_readLake_31 : decode cX10_readLake 31 = .ok (.aload_n 0, 1) := by decide +kernel
theorem dX10_readLake_32 : decode cX10_readLake 32 = .ok (.ldc 201, 2) := by decide +kernel
theorem dX10_readLake_34 : decode cX10_readLake 34 = .ok (.iconst 1, 1) := by decide +kernel
theorem dX10_readLake_35 : decode cX10_readLake 35 = .ok (.bipush 50, 2) := by decide +kernel
theorem dX10_readLake_37 : decode cX10_readLake 37 = .ok (.invokevirtual 197, 3) := by decide +kernel
theorem dX10_readLake_40 : decode cX10_readLake 40 = .ok (.istore_n 2, 1) := by decide +kernel
theorem dX10_readLake_41 : decode cX10_readLake 41 = .ok (.aload_n 0, 1) := by decide +kernel
theorem dX10_readLake_42 : decode cX10_readLake 42 = .ok (.ldc 203, 2) := by decide +kernel
theorem dX10_readLake_44 : decode cX10_readLake 44 = .ok (.iload_n 1, 1) := by decide +kernel
theorem dX10_readLake_45 : decode cX10_readLake 45 = .ok (.iconst 1, 1) := by decide +kernel
theorem dX10_readLake_46 : decode cX10_readLake 46 = .ok (.if_icmp .le 7, 3) := by decide +kernel
theorem dX10_readLake_49 : decode cX10_readLake 49 = .ok (.iload_n 1, 1) := by decide +kernel
theorem dX10_readLake_50 : decode cX10_readLake 50 = .ok (.goto 4, 3) := by decide +kernel
theorem dX10_readLake_53 : decode cX10_readLake 53 = .ok (.iconst 1, 1) := by decide +kernel
theorem dX10_readLake_54 : decode cX10_readLake 54 = .ok (.sipush 999, 3) := by decide +kernel
theorem dX10_readLake_57 : decode cX10_readLake 57 = .ok (.invokevirtual 197, 3) := by decide +kernel
theorem dX10_readLake_60 : decode cX10_readLake 60 = .ok (.istore_n 3, 1) := by decide +kernel
theorem dX10_readLake_61 : decode cX10_readLake 61 = .ok (.aload_n 0, 1) := by decide +kernel
theorem dX10_readLake_62 : decode cX10_readLake 62 = .ok (.getfield 67, 3) := by decide +kernel
theorem dX10_readLake_65 : decode cX10_readLake 65 = .ok (.iconst 5, 1) := by decide +kernel
theorem dX10_readLake_66 : decode cX10_readLake 66 = .ok (.if_icmp .ne 4, 3) := by decide +kernel
theorem dX10_readLake_69 : decode cX10_readLake 69 = .ok (.return_, 1) := by decide +kernel
theorem dX10_readLake_70 : decode cX10_readLake 70 = .ok (.aload_n 0, 1) := by decide +kernel
theorem dX10_readLake_71 : decode cX10_readLake 71 = .ok (.getfield 141, 3) := by decide +kernel
theorem dX10_readLake_74 : decode cX10_readLake 74 = .ok (.iload_n 1, 1) := by decide +kernel
theorem dX10_readLake_75 : decode cX10_readLake 75 = .ok (.putfield 167, 3) := by decide +kernel
theorem dX10_readLake_78 : decode cX10_readLake 78 = .ok (.aload_n 0, 1) := by decide +kernel
theorem dX10_readLake_79 : decode cX10_readLake 79 = .ok (.getfield 141, 3) := by decide +kernel
theorem dX10_readLake_82 : decode cX10_readLake 82 = .ok (.iload_n 2, 1) := by decide +kernel
theorem dX10_readLake_83 : decode cX10_readLake 83 = .ok (.putfield 205, 3) := by decide +kernel
theorem dX10_readLake_86 : decode cX10_readLake 86 = .ok (.aload_n 0, 1) := by decide +kernel
theorem dX10_readLake_87 : decode cX10_readLake 87 = .ok (.getfield 141, 3) := by decide +kernel
theorem dX10_readLake_90 : decode cX10_readLake 90 = .ok (.iload_n 3, 1) := by decide +kernel
theorem dX10_readLake_91 : decode cX10_readLake 91 = .ok (.putfield 207, 3) := by decide +kernel
theorem dX10_readLake_94 : decode cX10_readLake 94 = .ok (.return_, 1) := by decide +kernel
theorem dX10_readPeg_0 : decode cX10_readPeg 0 = .ok (.aload_n 0, 1) := by decide +kernel
theorem dX10_readPeg_1 : decode cX10_readPeg 1 = .ok (.aload_n 0, 1) := by decide +kernel
theorem dX10_readPeg_2 : decode cX10_readPeg 2 = .ok (.getfield 141, 3) := by decide +kernel
theorem dX10_readPeg_5 : decode cX10_readPeg 5 = .ok (.getfield 170, 3) := by decide +kernel
theorem dX10_readPeg_8 : decode cX10_readPeg 8 = .ok (.iconst 5, 1) := by decide +kernel
theorem dX10_readPeg_9 : decode cX10_readPeg 9 = .ok (.invokevirtual 209, 3) := by decide +kernel
theorem dX10_readPeg_12 : decode cX10_readPeg 12 = .ok (.aload_n 0, 1) := by decide +kernel
theorem dX10_readPeg_13 : decode cX10_readPeg 13 = .ok (.iconst 0, 1) := by decide +kernel
theorem dX10_readPeg_14 : decode cX10_readPeg 14 = .ok (.aload_n 0, 1) := by decide +kernel
theorem dX10_readPeg_15 : decode cX10_readPeg 15 = .ok (.getfield 141, 3) := by decide +kernel
theorem dX10_readPeg_18 : decode cX10_readPeg 18 = .ok (.getfield 170, 3) := by decide +kernel
theorem dX10_readPeg_21 : decode cX10_readPeg 21 = .ok (.invokevirtual 213, 3) := by decide +kernel
theorem dX10_readPeg_24 : decode cX10_readPeg 24 = .ok (.aload_n 0, 1) := by decide +kernel
theorem dX10_readPeg_25 : decode cX10_readPeg 25 = .ok (.ldc 216, 2) := by decide +kernel
theorem dX10_readPeg_27 : decode cX10_readPeg 27 = .ok (.iconst 0, 1) := by decide +kernel
theorem dX10_readPeg_28 : decode cX10_readPeg 28 = .ok (.sipush 999, 3) := by decide +kernel
theorem dX10_readPeg_31 : decode cX10_readPeg 31 = .ok (.invokevirtual 197, 3) := by decide +kernel
theorem dX10_readPeg_34 : decode cX10_readPeg 34 = .ok (.istore_n 1, 1) := by decide +kernel
theorem dX10_readPeg_35 : decode cX10_readPeg 35 = .ok (.aload_n 0, 1) := by decide +kernel
theorem dX10_readPeg_36 : decode cX10_readPeg 36 = .ok (.ldc 218, 2) := by decide +kernel
theorem dX10_readPeg_38 : decode cX10_readPeg 38 = .ok (.iconst 0, 1) := by decide +kernel
theorem dX10_readPeg_39 : decode cX10_readPeg 39 = .ok (.sipush 999, 3) := by decide +kernel
theorem dX10_readPeg_42 : decode cX10_readPeg 42 = .ok (.invokevirtual 197, 3) := by decide +kernel
theorem dX10_readPeg_45 : decode cX10_readPeg 45 = .ok (.istore_n 2, 1) := by decide +kernel
theorem dX10_readPeg_46 : decode cX10_readPeg 46 = .ok (.aload_n 0, 1) := by decide +kernel
theorem dX10_readPeg_47 : decode cX10_readPeg 47 = .ok (.getfield 67, 3) := by decide +kernel
theorem dX10_readPeg_50 : decode cX10_readPeg 50 = .ok (.iconst 5, 1) := by decide +kernel
theorem dX10_readPeg_51 : decode cX10_readPeg 51 = .ok (.if_icmp .ne 4, 3) := by decide +kernel
theorem dX10_readPeg_54 : decode cX10_readPeg 54 = .ok (.return_, 1) := by decide +kernel
theorem dX10_readPeg_55 : decode cX10_readPeg 55 = .ok (.aload_n 0, 1) := by decide +kernel
theorem dX10_readPeg_56 : decode cX10_readPeg 56 = .ok (.getfield 141, 3) := by decide +kernel
theorem dX10_readPeg_59 : decode cX10_readPeg 59 = .ok (.getfield 220, 3) := by decide +kernel
theorem dX10_readPeg_62 : decode cX10_readPeg 62 = .ok (.aload_n 0, 1) := by decide +kernel
theorem dX10_readPeg_63 : decode cX10_readPeg 63 = .ok (.getfield 141, 3) := by decide +kernel
theorem dX10_readPeg_66 : decode cX10_readPeg 66 = .ok (.getfield 170, 3) := by decide +kernel
theorem dX10_readPeg_69 : decode cX10_readPeg 69 = .ok (.iload_n 1, 1) := by decide +kernel
theorem dX10_readPeg_70 : decode cX10_readPeg 70 = .ok (.iastore, 1) := by decide +kernel
theorem dX10_readPeg_71 : decode cX10_readPeg 71 = .ok (.aload_n 0, 1) := by decide +kernel
theorem dX10_readPeg_72 : decode cX10_readPeg 72 = .ok (.getfield 141, 3) := by decide +kernel
theorem dX10_readPeg_75 : decode cX10_readPeg 75 = .ok (.getfield 222, 3) := by decide +kernel
theorem dX10_readPeg_78 : decode cX10_readPeg 78 = .ok (.aload_n 0, 1) := by decide +kernel
theorem dX10_readPeg_79 : decode cX10_readPeg 79 = .ok (.getfield 141, 3) := by decide +kernel
theorem dX10_readPeg_82 : decode cX10_readPeg 82 = .ok (.getfield 170, 3) := by decide +kernel
theorem dX10_readPeg_85 : decode cX10_readPeg 85 = .ok (.iload_n 2, 1) := by decide +kernel
theorem dX10_readPeg_86 : decode cX10_readPeg 86 = .ok (.iastore, 1) := by decide +kernel
theorem dX10_readPeg_87 : decode cX10_readPeg 87 = .ok (.aload_n 0, 1) := by decide +kernel
theorem dX10_readPeg_88 : decode cX10_readPeg 88 = .ok (.getfield 141, 3) := by decide +kernel
theorem dX10_readPeg_91 : decode cX10_readPeg 91 = .ok (.dup, 1) := by decide +kernel
theorem dX10_readPeg_92 : decode cX10_readPeg 92 = .ok (.getfield 170, 3) := by decide +kernel
theorem dX10_readPeg_95 : decode cX10_readPeg 95 = .ok (.iconst 1, 1) := by decide +kernel
theorem dX10_readPeg_96 : decode cX10_readPeg 96 = .ok (.iadd, 1) := by decide +kernel
theorem dX10_readPeg_97 : decode cX10_readPeg 97 = .ok (.putfield 170, 3) := by decide +kernel
theorem dX10_readPeg_100 : decode cX10_readPeg 100 = .ok (.return_, 1) := by decide +kernel
theorem dX10_readFrom_0 : decode cX10_readFrom 0 = .ok (.aload_n 0, 1) := by decide +kernel
theorem dX10_readFrom_1 : decode cX10_readFrom 1 = .ok (.aload_n 0, 1) := by decide +kernel
theorem dX10_readFrom_2 : decode cX10_readFrom 2 = .ok (.getfield 141, 3) := by decide +kernel
theorem dX10_readFrom_5 : decode cX10_readFrom 5 = .ok (.getfield 224, 3) := by decide +kernel
theorem dX10_readFrom_8 : decode cX10_readFrom 8 = .ok (.bipush 8, 2) := by decide +kernel
theorem dX10_readFrom_10 : decode cX10_readFrom 10 = .ok (.invokevirtual 209, 3) := by decide +kernel
theorem dX10_readFrom_13 : decode cX10_readFrom 13 = .ok (.aload_n 0, 1) := by decide +kernel
theorem dX10_readFrom_14 : decode cX10_readFrom 14 = .ok (.iconst 0, 1) := by decide +kernel
theorem dX10_readFrom_15 : decode cX10_readFrom 15 = .ok (.bipush 59, 2) := by decide +kernel
theorem dX10_readFrom_17 : decode cX10_readFrom 17 = .ok (.invokevirtual 119, 3) := by decide +kernel
theorem dX10_readFrom_20 : decode cX10_readFrom 20 = .ok (.istore_n 1, 1) := by decide +kernel
theorem dX10_readFrom_21 : decode cX10_readFrom 21 = .ok (.aload_n 0, 1) := by decide +kernel
theorem dX10_readFrom_22 : decode cX10_readFrom 22 = .ok (.ldc 227, 2) := by decide +kernel
theorem dX10_readFrom_24 : decode cX10_readFrom 24 = .ok (.iconst 0, 1) := by decide +kernel
theorem dX10_readFrom_25 : decode cX10_readFrom 25 = .ok (.sipush 999, 3) := by decide +kernel
theorem dX10_readFrom_28 : decode cX10_readFrom 28 = .ok (.invokevirtual 197, 3) := by decide +kernel
theorem dX10_readFrom_31 : decode cX10_readFrom 31 = .ok (.istore_n 2, 1) := by decide +kernel
theorem dX10_readFrom_32 : decode cX10_readFrom 32 = .ok (.aload_n 0, 1) := by decide +kernel
theorem dX10_readFrom_33 : decode cX10_readFrom 33 = .ok (.getfield 67, 3) := by decide +kernel
theorem dX10_readFrom_36 : decode cX10_readFrom 36 = .ok (.iconst 5, 1) := by decide +kernel
theorem dX10_readFrom_37 : decode cX10_readFrom 37 = .ok (.if_icmp .ne 4, 3) := by decide +kernel
theorem dX10_readFrom_40 : decode cX10_readFrom 40 = .ok (.return_, 1) := by decide +kernel
theorem dX10_readFrom_41 : decode cX10_readFrom 41 = .ok (.aload_n 0, 1) := by decide +kernel
theorem dX10_readFrom_42 : decode cX10_readFrom 42 = .ok (.getfield 141, 3) := by decide +kernel
theorem dX10_readFrom_45 : decode cX10_readFrom 45 = .ok (.getfield 228, 3) := by decide +kernel
theorem dX10_readFrom_48 : decode cX10_readFrom 48 = .ok (.aload_n 0, 1) := by decide +kernel
theorem dX10_readFrom_49 : decode cX10_readFrom 49 = .ok (.getfield 141, 3) := by decide +kernel
theorem dX10_readFrom_52 : decode cX10_readFrom 52 = .ok (.getfield 224, 3) := by decide +kernel
theorem dX10_readFrom_55 : decode cX10_readFrom 55 = .ok (.iload_n 1, 1) := by decide +kernel
theorem dX10_readFrom_56 : decode cX10_readFrom 56 = .ok (.iastore, 1) := by decide +kernel
theorem dX10_readFrom_57 : decode cX10_readFrom 57 = .ok (.aload_n 0, 1) := by decide +kernel
theorem dX10_readFrom_58 : decode cX10_readFrom 58 = .ok (.getfield 141, 3) := by decide +kernel
theorem dX10_readFrom_61 : decode cX10_readFrom 61 = .ok (.getfield 231, 3) := by decide +kernel
theorem dX10_readFrom_64 : decode cX10_readFrom 64 = .ok (.aload_n 0, 1) := by decide +kernel
theorem dX10_readFrom_65 : decode cX10_readFrom 65 = .ok (.getfield 141, 3) := by decide +kernel
theorem dX10_readFrom_68 : decode cX10_readFrom 68 = .ok (.getfield 224, 3) := by decide +kernel
theorem dX10_readFrom_71 : decode cX10_readFrom 71 = .ok (.iload_n 2, 1) := by decide +kernel
theorem dX10_readFrom_72 : decode cX10_readFrom 72 = .ok (.iastore, 1) := by decide +kernel
theorem dX10_readFrom_73 : decode cX10_readFrom 73 = .ok (.aload_n 0, 1) := by decide +kernel
theorem dX10_readFrom_74 : decode cX10_readFrom 74 = .ok (.getfield 141, 3) := by decide +kernel
theorem dX10_readFrom_77 : decode cX10_readFrom 77 = .ok (.dup, 1) := by decide +kernel
theorem dX10_readFrom_78 : decode cX10_readFrom 78 = .ok (.getfield 224, 3) := by decide +kernel
theorem dX10_readFrom_81 : decode cX10_readFrom 81 = .ok (.iconst 1, 1) := by decide +kernel
theorem dX10_readFrom_82 : decode cX10_readFrom 82 = .ok (.iadd, 1) := by decide +kernel
theorem dX10_readFrom_83 : decode cX10_readFrom 83 = .ok (.putfield 224, 3) := by decide +kernel
theorem dX10_readFrom_86 : decode cX10_readFrom 86 = .ok (.aload_n 0, 1) := by decide +kernel
theorem dX10_readFrom_87 : decode cX10_readFrom 87 = .ok (.getfield 141, 3) := by decide +kernel
theorem dX10_readFrom_90 : decode cX10_readFrom 90 = .ok (.aload_n 0, 1) := by decide +kernel
theorem dX10_readFrom_91 : decode cX10_readFrom 91 = .ok (.getfield 141, 3) := by decide +kernel
theorem dX10_readFrom_94 : decode cX10_readFrom 94 = .ok (.getfield 224, 3) := by decide +kernel
theorem dX10_readFrom_97 : decode cX10_readFrom 97 = .ok (.putfield 234, 3) := by decide +kernel
theorem dX10_readFrom_100 : decode cX10_readFrom 100 = .ok (.return_, 1) := by decide +kernel
theorem dX10_readRain_0 : decode cX10_readRain 0 = .ok (.aload_n 0, 1) := by decide +kernel
theorem dX10_readRain_1 : decode cX10_readRain 1 = .ok (.aload_n 0, 1) := by decide +kernel
theorem dX10_readRain_2 : decode cX10_readRain 2 = .ok (.getfield 141, 3) := by decide +kernel
theorem dX10_readRain_5 : decode cX10_readRain 5 = .ok (.getfield 237, 3) := by decide +kernel
theorem dX10_readRain_8 : decode cX10_readRain 8 = .ok (.bipush 6, 2) := by decide +kernel
theorem dX10_readRain_10 : decode cX10_readRain 10 = .ok (.invokevirtual 209, 3) := by decide +kernel
theorem dX10_readRain_13 : decode cX10_readRain 13 = .ok (.aload_n 0, 1) := by decide +kernel
theorem dX10_readRain_14 : decode cX10_readRain 14 = .ok (.iconst 0, 1) := by decide +kernel
theorem dX10_readRain_15 : decode cX10_readRain 15 = .ok (.bipush 59, 2) := by decide +kernel
theorem dX10_readRain_17 : decode cX10_readRain 17 = .ok (.invokevirtual 119, 3) := by decide +kernel
theorem dX10_readRain_20 : decode cX10_readRain 20 = .ok (.istore_n 1, 1) := by decide +kernel
theorem dX10_readRain_21 : decode cX10_readRain 21 = .ok (.aload_n 0, 1) := by decide +kernel
theorem dX10_readRain_22 : decode cX10_readRain 22 = .ok (.ldc 240, 2) := by decide +kernel
theorem dX10_readRain_24 : decode cX10_readRain 24 = .ok (.iconst 1, 1) := by decide +kernel
theorem dX10_readRain_25 : decode cX10_readRain 25 = .ok (.bipush 99, 2) := by decide +kernel
theorem dX10_readRain_27 : decode cX10_readRain 27 = .ok (.invokevirtual 197, 3) := by decide +kernel
theorem dX10_readRain_30 : decode cX10_readRain 30 = .ok (.istore_n 2, 1) := by decide +kernel
theorem dX10_readRain_31 : decode cX10_readRain 31 = .ok (.aload_n 0, 1) := by decide +kernel
theorem dX10_readRain_32 : decode cX10_readRain 32 = .ok (.getfield 67, 3) := by decide +kernel
theorem dX10_readRain_35 : decode cX10_readRain 35 = .ok (.iconst 5, 1) := by decide +kernel
theorem dX10_readRain_36 : decode cX10_readRain 36 = .ok (.if_icmp .ne 4, 3) := by decide +kernel
theorem dX10_readRain_39 : decode cX10_readRain 39 = .ok (.return_, 1) := by decide +kernel
theorem dX10_readRain_40 : decode cX10_readRain 40 = .ok (.aload_n 0, 1) := by decide +kernel
theorem dX10_readRain_41 : decode cX10_readRain 41 = .ok (.getfield 141, 3) := by decide +kernel
theorem dX10_readRain_44 : decode cX10_readRain 44 = .ok (.getfield 242, 3) := by decide +kernel
theorem dX10_readRain_47 : decode cX10_readRain 47 = .ok (.iload_n 1, 1) := by decide +kernel
theorem dX10_readRain_48 : decode cX10_readRain 48 = .ok (.dup2, 1) := by decide +kernel
theorem dX10_readRain_49 : decode cX10_readRain 49 = .ok (.iaload, 1) := by decide +kernel
theorem dX10_readRain_50 : decode cX10_readRain 50 = .ok (.iload_n 2, 1) := by decide +kernel
theorem dX10_readRain_51 : decode cX10_readRain 51 = .ok (.iadd, 1) := by decide +kernel
theorem dX10_readRain_52 : decode cX10_readRain 52 = .ok (.iastore, 1) := by decide +kernel
theorem dX10_readRain_53 : decode cX10_readRain 53 = .ok (.aload_n 0, 1) := by decide +kernel
theorem dX10_readRain_54 : decode cX10_readRain 54 = .ok (.getfield 141, 3) := by decide +kernel
theorem dX10_readRain_57 : decode cX10_readRain 57 = .ok (.dup, 1) := by decide +kernel
theorem dX10_readRain_58 : decode cX10_readRain 58 = .ok (.getfield 237, 3) := by decide +kernel
theorem dX10_readRain_61 : decode cX10_readRain 61 = .ok (.iconst 1, 1) := by decide +kernel
theorem dX10_readRain_62 : decode cX10_readRain 62 = .ok (.iadd, 1) := by decide +kernel
theorem dX10_readRain_63 : decode cX10_readRain 63 = .ok (.putfield 237, 3) := by decide +kernel
theorem dX10_readRain_66 : decode cX10_readRain 66 = .ok (.return_, 1) := by decide +kernel
theorem dX10_readStory_0 : decode cX10_readStory 0 = .ok (.aload_n 0, 1) := by decide +kernel
theorem dX10_readStory_1 : decode cX10_readStory 1 = .ok (.aload_n 0, 1) := by decide +kernel
theorem dX10_readStory_2 : decode cX10_readStory 2 = .ok (.getfield 141, 3) := by decide +kernel
theorem dX10_readStory_5 : decode cX10_readStory 5 = .ok (.getfield 173, 3) := by decide +kernel
theorem dX10_readStory_8 : decode cX10_readStory 8 = .ok (.bipush 6, 2) := by decide +kernel
theorem dX10_readStory_10 : decode cX10_readStory 10 = .ok (.invokevirtual 209, 3) := by decide +kernel
theorem dX10_readStory_13 : decode cX10_readStory 13 = .ok (.aload_n 0, 1) := by decide +kernel
theorem dX10_readStory_14 : decode cX10_readStory 14 = .ok (.iconst 1, 1) := by decide +kernel
theorem dX10_readStory_15 : decode cX10_readStory 15 = .ok (.aload_n 0, 1) := by decide +kernel
theorem dX10_readStory_16 : decode cX10_readStory 16 = .ok (.getfield 141, 3) := by decide +kernel
theorem dX10_readStory_19 : decode cX10_readStory 19 = .ok (.getfield 173, 3) := by decide +kernel
theorem dX10_readStory_22 : decode cX10_readStory 22 = .ok (.invokevirtual 213, 3) := by decide +kernel
theorem dX10_readStory_25 : decode cX10_readStory 25 = .ok (.aload_n 0, 1) := by decide +kernel
theorem dX10_readStory_26 : decode cX10_readStory 26 = .ok (.ldc 244, 2) := by decide +kernel
theorem dX10_readStory_28 : decode cX10_readStory 28 = .ok (.iconst 1, 1) := by decide +kernel
theorem dX10_readStory_29 : decode cX10_readStory 29 = .ok (.bipush 99, 2) := by decide +kernel
theorem dX10_readStory_31 : decode cX10_readStory 31 = .ok (.invokevirtual 197, 3) := by decide +kernel
theorem dX10_readStory_34 : decode cX10_readStory 34 = .ok (.istore_n 1, 1) := by decide +kernel
theorem dX10_readStory_35 : decode cX10_readStory 35 = .ok (.aload_n 0, 1) := by decide +kernel
theorem dX10_readStory_36 : decode cX10_readStory 36 = .ok (.ldc 246, 2) := by decide +kernel
theorem dX10_readStory_38 : decode cX10_readStory 38 = .ok (.invokevirtual 115, 3) := by decide +kernel
theorem dX10_readStory_41 : decode cX10_readStory 41 = .ok (.ifCond .eq 7, 3) := by decide +kernel
theorem dX10_readStory_44 : decode cX10_readStory 44 = .ok (.iconst 0, 1) := by decide +kernel
theorem dX10_readStory_45 : decode cX10_readStory 45 = .ok (.goto 70, 3) := by decide +kernel
theorem dX10_readStory_48 : decode cX10_readStory 48 = .ok (.aload_n 0, 1) := by decide +kernel
theorem dX10_readStory_49 : decode cX10_readStory 49 = .ok (.ldc 248, 2) := by decide +kernel
theorem dX10_readStory_51 : decode cX10_readStory 51 = .ok (.invokevirtual 115, 3) := by decide +kernel
theorem dX10_readStory_54 : decode cX10_readStory 54 = .ok (.ifCond .eq 7, 3) := by decide +kernel
theorem dX10_readStory_57 : decode cX10_readStory 57 = .ok (.iconst 1, 1) := by decide +kernel
theorem dX10_readStory_58 : decode cX10_readStory 58 = .ok (.goto 57, 3) := by decide +kernel
theorem dX10_readStory_61 : decode cX10_readStory 61 = .ok (.aload_n 0, 1) := by decide +kernel
theorem dX10_readStory_62 : decode cX10_readStory 62 = .ok (.ldc 250, 2) := by decide +kernel
theorem dX10_readStory_64 : decode cX10_readStory 64 = .ok (.invokevirtual 115, 3) := by decide +kernel
theorem dX10_readStory_67 : decode cX10_readStory 67 = .ok (.ifCond .eq 7, 3) := by decide +kernel
theorem dX10_readStory_70 : decode cX10_readStory 70 = .ok (.iconst 2, 1) := by decide +kernel
theorem dX10_readStory_71 : decode cX10_readStory 71 = .ok (.goto 44, 3) := by decide +kernel
theorem dX10_readStory_74 : decode cX10_readStory 74 = .ok (.aload_n 0, 1) := by decide +kernel
theorem dX10_readStory_75 : decode cX10_readStory 75 = .ok (.ldc 252, 2) := by decide +kernel
theorem dX10_readStory_77 : decode cX10_readStory 77 = .ok (.invokevirtual 115, 3) := by decide +kernel
theorem dX10_readStory_80 : decode cX10_readStory 80 = .ok (.ifCond .eq 7, 3) := by decide +kernel
theorem dX10_readStory_83 : decode cX10_readStory 83 = .ok (.iconst 3, 1) := by decide +kernel
theorem dX10_readStory_84 : decode cX10_readStory 84 = .ok (.goto 31, 3) := by decide +kernel
theorem dX10_readStory_87 : decode cX10_readStory 87 = .ok (.aload_n 0, 1) := by decide +kernel
theorem dX10_readStory_88 : decode cX10_readStory 88 = .ok (.ldc 254, 2) := by decide +kernel
theorem dX10_readStory_90 : decode cX10_readStory 90 = .ok (.invokevirtual 115, 3) := by decide +kernel
theorem dX10_readStory_93 : decode cX10_readStory 93 = .ok (.ifCond .eq 7, 3) := by decide +kernel
theorem dX10_readStory_96 : decode cX10_readStory 96 = .ok (.iconst 4, 1) := by decide +kernel
theorem dX10_readStory_97 : decode cX10_readStory 97 = .ok (.goto 18, 3) := by decide +kernel
theorem dX10_readStory_100 : decode cX10_readStory 100 = .ok (.aload_n 0, 1) := by decide +kernel
theorem dX10_readStory_101 : decode cX10_readStory 101 = .ok (.ldc_w 256, 3) := by decide +kernel
theorem dX10_readStory_104 : decode cX10_readStory 104 = .ok (.invokevirtual 115, 3) := by decide +kernel
theorem dX10_readStory_107 : decode cX10_readStory 107 = .ok (.ifCond .eq 7, 3) := by decide +kernel
theorem dX10_readStory_110 : decode cX10_readStory 110 = .ok (.iconst 5, 1) := by decide +kernel
theorem dX10_readStory_111 : decode cX10_readStory 111 = .ok (.goto 4, 3) := by decide +kernel
theorem dX10_readStory_114 : decode cX10_readStory 114 = .ok (.iconst (-1), 1) := by decide +kernel
theorem dX10_readStory_115 : decode cX10_readStory 115 = .ok (.istore_n 2, 1) := by decide +kernel
theorem dX10_readStory_116 : decode cX10_readStory 116 = .ok (.iload_n 2, 1) := by decide +kernel
theorem dX10_readStory_117 : decode cX10_readStory 117 = .ok (.iconst (-1), 1) := by decide +kernel
theorem dX10_readStory_118 : decode cX10_readStory 118 = .ok (.if_icmp .ne 8, 3) := by decide +kernel
theorem dX10_readStory_121 : decode cX10_readStory 121 = .ok (.aload_n 0, 1) := by decide +kernel
theorem dX10_readStory_122 : decode cX10_readStory 122 = .ok (.iconst 1, 1) := by decide +kernel
theorem dX10_readStory_123 : decode cX10_readStory 123 = .ok (.invokevirtual 104, 3) := by decide +kernel
theorem dX10_readStory_126 : decode cX10_readStory 126 = .ok (.aload_n 0, 1) := by decide +kernel
theorem dX10_readStory_127 : decode cX10_readStory 127 = .ok (.invokevirtual 112, 3) := by decide +kernel
theorem dX10_readStory_130 : decode cX10_readStory 130 = .ok (.aload_n 0, 1) := by decide +kernel
theorem dX10_readStory_131 : decode cX10_readStory 131 = .ok (.iconst 0, 1) := by decide +kernel
theorem dX10_readStory_132 : decode cX10_readStory 132 = .ok (.bipush 99, 2) := by decide +kernel
theorem dX10_readStory_134 : decode cX10_readStory 134 = .ok (.invokevirtual 119, 3) := by decide +kernel
theorem dX10_readStory_137 : decode cX10_readStory 137 = .ok (.istore_n 3, 1) := by decide +kernel
theorem dX10_readStory_138 : decode cX10_readStory 138 = .ok (.iload_n 2, 1) := by decide +kernel
theorem dX10_readStory_139 : decode cX10_readStory 139 = .ok (.iconst 2, 1) := by decide +kernel
theorem dX10_readStory_140 : decode cX10_readStory 140 = .ok (.if_icmp .ne 16, 3) := by decide +kernel
theorem dX10_readStory_143 : decode cX10_readStory 143 = .ok (.aload_n 0, 1) := by decide +kernel
theorem dX10_readStory_144 : decode cX10_readStory 144 = .ok (.ldc_w 257, 3) := by decide +kernel
theorem dX10_readStory_147 : decode cX10_readStory 147 = .ok (.iconst 1, 1) := by decide +kernel
theorem dX10_readStory_148 : decode cX10_readStory 148 = .ok (.bipush 20, 2) := by decide +kernel
theorem dX10_readStory_150 : decode cX10_readStory 150 = .ok (.invokevirtual 197, 3) := by decide +kernel
theorem dX10_readStory_153 : decode cX10_readStory 153 = .ok (.goto 41, 3) := by decide +kernel
theorem dX10_readStory_156 : decode cX10_readStory 156 = .ok (.iload_n 2, 1) := by decide +kernel
theorem dX10_readStory_157 : decode cX10_readStory 157 = .ok (.iconst 3, 1) := by decide +kernel
theorem dX10_readStory_158 : decode cX10_readStory 158 = .ok (.if_icmp .ne 17, 3) := by decide +kernel
theorem dX10_readStory_161 : decode cX10_readStory 161 = .ok (.aload_n 0, 1) := by decide +kernel
theorem dX10_readStory_162 : decode cX10_readStory 162 = .ok (.ldc_w 259, 3) := by decide +kernel
theorem dX10_readStory_165 : decode cX10_readStory 165 = .ok (.iconst 0, 1) := by decide +kernel
theorem dX10_readStory_166 : decode cX10_readStory 166 = .ok (.sipush 999, 3) := by decide +kernel
theorem dX10_readStory_169 : decode cX10_readStory 169 = .ok (.invokevirtual 197, 3) := by decide +kernel
theorem dX10_readStory_172 : decode cX10_readStory 172 = .ok (.goto 22, 3) := by decide +kernel
theorem dX10_readStory_175 : decode cX10_readStory 175 = .ok (.iload_n 2, 1) := by decide +kernel
theorem dX10_readStory_176 : decode cX10_readStory 176 = .ok (.iconst 4, 1) := by decide +kernel
theorem dX10_readStory_177 : decode cX10_readStory 177 = .ok (.if_icmp .ne 16, 3) := by decide +kernel
theorem dX10_readStory_180 : decode cX10_readStory 180 = .ok (.aload_n 0, 1) := by decide +kernel
theorem dX10_readStory_181 : decode cX10_readStory 181 = .ok (.ldc_w 261, 3) := by decide +kernel
theorem dX10_readStory_184 : decode cX10_readStory 184 = .ok (.iconst 1, 1) := by decide +kernel
theorem dX10_readStory_185 : decode cX10_readStory 185 = .ok (.bipush 99, 2) := by decide +kernel
theorem dX10_readStory_187 : decode cX10_readStory 187 = .ok (.invokevirtual 197, 3) := by decide +kernel
theorem dX10_readStory_190 : decode cX10_readStory 190 = .ok (.goto 4, 3) := by decide +kernel
theorem dX10_readStory_193 : decode cX10_readStory 193 = .ok (.iconst 0, 1) := by decide +kernel
theorem dX10_readStory_194 : decode cX10_readStory 194 = .ok (.istore 4, 2) := by decide +kernel
theorem dX10_readStory_196 : decode cX10_readStory 196 = .ok (.aload_n 0, 1) := by decide +kernel
theorem dX10_readStory_197 : decode cX10_readStory 197 = .ok (.getfield 67, 3) := by decide +kernel
theorem dX10_readStory_200 : decode cX10_readStory 200 = .ok (.iconst 5, 1) := by decide +kernel
theorem dX10_readStory_201 : decode cX10_readStory 201 = .ok (.if_icmp .ne 4, 3) := by decide +kernel
theorem dX10_readStory_204 : decode cX10_readStory 204 = .ok (.return_, 1) := by decide +kernel
theorem dX10_readStory_205 : decode cX10_readStory 205 = .ok (.aload_n 0, 1) := by decide +kernel
theorem dX10_readStory_206 : decode cX10_readStory 206 = .ok (.getfield 141, 3) := by decide +kernel
theorem dX10_readStory_209 : decode cX10_readStory 209 = .ok (.getfield 263, 3) := by decide +kernel
theorem dX10_readStory_212 : decode cX10_readStory 212 = .ok (.aload_n 0, 1) := by decide +kernel
theorem dX10_readStory_213 : decode cX10_readStory 213 = .ok (.getfield 141, 3) := by decide +kernel
theorem dX10_readStory_216 : decode cX10_readStory 216 = .ok (.getfield 173, 3) := by decide +kernel
theorem dX10_readStory_219 : decode cX10_readStory 219 = .ok (.iload_n 1, 1) := by decide +kernel
theorem dX10_readStory_220 : decode cX10_readStory 220 = .ok (.iastore, 1) := by decide +kernel
theorem dX10_readStory_221 : decode cX10_readStory 221 = .ok (.aload_n 0, 1) := by decide +kernel
theorem dX10_readStory_222 : decode cX10_readStory 222 = .ok (.getfield 141, 3) := by decide +kernel
theorem dX10_readStory_225 : decode cX10_readStory 225 = .ok (.getfield 265, 3) := by decide +kernel
theorem dX10_readStory_228 : decode cX10_readStory 228 = .ok (.aload_n 0, 1) := by decide +kernel
theorem dX10_readStory_229 : decode cX10_readStory 229 = .ok (.getfield 141, 3) := by decide +kernel
theorem dX10_readStory_232 : decode cX10_readStory 232 = .ok (.getfield 173, 3) := by decide +kernel
theorem dX10_readStory_235 : decode cX10_readStory 235 = .ok (.iload_n 2, 1) := by decide +kernel
theorem dX10_readStory_236 : decode cX10_readStory 236 = .ok (.iastore, 1) := by decide +kernel
theorem dX10_readStory_237 : decode cX10_readStory 237 = .ok (.aload_n 0, 1) := by decide +kernel
theorem dX10_readStory_238 : decode cX10_readStory 238 = .ok (.getfield 141, 3) := by decide +kernel
theorem dX10_readStory_241 : decode cX10_readStory 241 = .ok (.getfield 268, 3) := by decide +kernel
theorem dX10_readStory_244 : decode cX10_readStory 244 = .ok (.aload_n 0, 1) := by decide +kernel
theorem dX10_readStory_245 : decode cX10_readStory 245 = .ok (.getfield 141, 3) := by decide +kernel
theorem dX10_readStory_248 : decode cX10_readStory 248 = .ok (.getfield 173, 3) := by decide +kernel
theorem dX10_readStory_251 : decode cX10_readStory 251 = .ok (.iload_n 3, 1) := by decide +kernel
theorem dX10_readStory_252 : decode cX10_readStory 252 = .ok (.iastore, 1) := by decide +kernel
theorem dX10_readStory_253 : decode cX10_readStory 253 = .ok (.aload_n 0, 1) := by decide +kernel
theorem dX10_readStory_254 : decode cX10_readStory 254 = .ok (.getfield 141, 3) := by decide +kernel
theorem dX10_readStory_257 : decode cX10_readStory 257 = .ok (.getfield 271, 3) := by decide +kernel
theorem dX10_readStory_260 : decode cX10_readStory 260 = .ok (.aload_n 0, 1) := by decide +kernel
theorem dX10_readStory_261 : decode cX10_readStory 261 = .ok (.getfield 141, 3) := by decide +kernel
theorem dX10_readStory_264 : decode cX10_readStory 264 = .ok (.getfield 173, 3) := by decide +kernel
theorem dX10_readStory_267 : decode cX10_readStory 267 = .ok (.iload 4, 2) := by decide +kernel
theorem dX10_readStory_269 : decode cX10_readStory 269 = .ok (.iastore, 1) := by decide +kernel
theorem dX10_readStory_270 : decode cX10_readStory 270 = .ok (.aload_n 0, 1) := by decide +kernel
theorem dX10_readStory_271 : decode cX10_readStory 271 = .ok (.getfield 141, 3) := by decide +kernel
theorem dX10_readStory_274 : decode cX10_readStory 274 = .ok (.dup, 1) := by decide +kernel
theorem dX10_readStory_275 : decode cX10_readStory 275 = .ok (.getfield 173, 3) := by decide +kernel
theorem dX10_readStory_278 : decode cX10_readStory 278 = .ok (.iconst 1, 1) := by decide +kernel
theorem dX10_readStory_279 : decode cX10_readStory 279 = .ok (.iadd, 1) := by decide +kernel
theorem dX10_readStory_280 : decode cX10_readStory 280 = .ok (.putfield 173, 3) := by decide +kernel
theorem dX10_readStory_283 : decode cX10_readStory 283 = .ok (.return_, 1) := by decide +kernel
theorem dX10_readVillage_0 : decode cX10_readVillage 0 = .ok (.aload_n 0, 1) := by decide +kernel
theorem dX10_readVillage_1 : decode cX10_readVillage 1 = .ok (.aload_n 0, 1) := by decide +kernel
theorem dX10_readVillage_2 : decode cX10_readVillage 2 = .ok (.getfield 141, 3) := by decide +kernel
theorem dX10_readVillage_5 : decode cX10_readVillage 5 = .ok (.getfield 274, 3) := by decide +kernel
theorem dX10_readVillage_8 : decode cX10_readVillage 8 = .ok (.iconst 4, 1) := by decide +kernel
theorem dX10_readVillage_9 : decode cX10_readVillage 9 = .ok (.invokevirtual 209, 3) := by decide +kernel
theorem dX10_readVillage_12 : decode cX10_readVillage 12 = .ok (.aload_n 0, 1) := by decide +kernel
theorem dX10_readVillage_13 : decode cX10_readVillage 13 = .ok (.iconst 1, 1) := by decide +kernel
theorem dX10_readVillage_14 : decode cX10_readVillage 14 = .ok (.aload_n 0, 1) := by decide +kernel
theorem dX10_readVillage_15 : decode cX10_readVillage 15 = .ok (.getfield 141, 3) := by decide +kernel
theorem dX10_readVillage_18 : decode cX10_readVillage 18 = .ok (.getfield 274, 3) := by decide +kernel
theorem dX10_readVillage_21 : decode cX10_readVillage 21 = .ok (.invokevirtual 213, 3) := by decide +kernel
theorem dX10_readVillage_24 : decode cX10_readVillage 24 = .ok (.aload_n 0, 1) := by decide +kernel
theorem dX10_readVillage_25 : decode cX10_readVillage 25 = .ok (.ldc_w 277, 3) := by decide +kernel
theorem dX10_readVillage_28 : decode cX10_readVillage 28 = .ok (.iconst 0, 1) := by decide +kernel
theorem dX10_readVillage_29 : decode cX10_readVillage 29 = .ok (.sipush 999, 3) := by decide +kernel
theorem dX10_readVillage_32 : decode cX10_readVillage 32 = .ok (.invokevirtual 197, 3) := by decide +kernel
theorem dX10_readVillage_35 : decode cX10_readVillage 35 = .ok (.istore_n 1, 1) := by decide +kernel
theorem dX10_readVillage_36 : decode cX10_readVillage 36 = .ok (.aload_n 0, 1) := by decide +kernel
theorem dX10_readVillage_37 : decode cX10_readVillage 37 = .ok (.ldc_w 279, 3) := by decide +kernel
theorem dX10_readVillage_40 : decode cX10_readVillage 40 = .ok (.iconst 1, 1) := by decide +kernel
theorem dX10_readVillage_41 : decode cX10_readVillage 41 = .ok (.sipush 999, 3) := by decide +kernel
theorem dX10_readVillage_44 : decode cX10_readVillage 44 = .ok (.invokevirtual 197, 3) := by decide +kernel
theorem dX10_readVillage_47 : decode cX10_readVillage 47 = .ok (.istore_n 2, 1) := by decide +kernel
theorem dX10_readVillage_48 : decode cX10_readVillage 48 = .ok (.aload_n 0, 1) := by decide +kernel
theorem dX10_readVillage_49 : decode cX10_readVillage 49 = .ok (.ldc_w 281, 3) := by decide +kernel
theorem dX10_readVillage_52 : decode cX10_readVillage 52 = .ok (.iconst 0, 1) := by decide +kernel
theorem dX10_readVillage_53 : decode cX10_readVillage 53 = .ok (.bipush 30, 2) := by decide +kernel
theorem dX10_readVillage_55 : decode cX10_readVillage 55 = .ok (.invokevirtual 197, 3) := by decide +kernel
theorem dX10_readVillage_58 : decode cX10_readVillage 58 = .ok (.istore_n 3, 1) := by decide +kernel
theorem dX10_readVillage_59 : decode cX10_readVillage 59 = .ok (.aload_n 0, 1) := by decide +kernel
theorem dX10_readVillage_60 : decode cX10_readVillage 60 = .ok (.getfield 67, 3) := by decide +kernel
theorem dX10_readVillage_63 : decode cX10_readVillage 63 = .ok (.iconst 5, 1) := by decide +kernel
theorem dX10_readVillage_64 : decode cX10_readVillage 64 = .ok (.if_icmp .ne 4, 3) := by decide +kernel
theorem dX10_readVillage_67 : decode cX10_readVillage 67 = .ok (.return_, 1) := by decide +kernel
theorem dX10_readVillage_68 : decode cX10_readVillage 68 = .ok (.aload_n 0, 1) := by decide +kernel
theorem dX10_readVillage_69 : decode cX10_readVillage 69 = .ok (.getfield 141, 3) := by decide +kernel
theorem dX10_readVillage_72 : decode cX10_readVillage 72 = .ok (.getfield 283, 3) := by decide +kernel
theorem dX10_readVillage_75 : decode cX10_readVillage 75 = .ok (.aload_n 0, 1) := by decide +kernel
theorem dX10_readVillage_76 : decode cX10_readVillage 76 = .ok (.getfield 141, 3) := by decide +kernel
theorem dX10_readVillage_79 : decode cX10_readVillage 79 = .ok (.getfield 274, 3) := by decide +kernel
theorem dX10_readVillage_82 : decode cX10_readVillage 82 = .ok (.iload_n 1, 1) := by decide +kernel
theorem dX10_readVillage_83 : decode cX10_readVillage 83 = .ok (.iastore, 1) := by decide +kernel
theorem dX10_readVillage_84 : decode cX10_readVillage 84 = .ok (.aload_n 0, 1) := by decide +kernel
theorem dX10_readVillage_85 : decode cX10_readVillage 85 = .ok (.getfield 141, 3) := by decide +kernel
theorem dX10_readVillage_88 : decode cX10_readVillage 88 = .ok (.getfield 285, 3) := by decide +kernel
theorem dX10_readVillage_91 : decode cX10_readVillage 91 = .ok (.aload_n 0, 1) := by decide +kernel
theorem dX10_readVillage_92 : decode cX10_readVillage 92 = .ok (.getfield 141, 3) := by decide +kernel
theorem dX10_readVillage_95 : decode cX10_readVillage 95 = .ok (.getfield 274, 3) := by decide +kernel
theorem dX10_readVillage_98 : decode cX10_readVillage 98 = .ok (.iload_n 2, 1) := by decide +kernel
theorem dX10_readVillage_99 : decode cX10_readVillage 99 = .ok (.iastore, 1) := by decide +kernel
theorem dX10_readVillage_100 : decode cX10_readVillage 100 = .ok (.aload_n 0, 1) := by decide +kernel
theorem dX10_readVillage_101 : decode cX10_readVillage 101 = .ok (.getfield 141, 3) := by decide +kernel
theorem dX10_readVillage_104 : decode cX10_readVillage 104 = .ok (.getfield 287, 3) := by decide +kernel
theorem dX10_readVillage_107 : decode cX10_readVillage 107 = .ok (.aload_n 0, 1) := by decide +kernel
theorem dX10_readVillage_108 : decode cX10_readVillage 108 = .ok (.getfield 141, 3) := by decide +kernel
theorem dX10_readVillage_111 : decode cX10_readVillage 111 = .ok (.getfield 274, 3) := by decide +kernel
theorem dX10_readVillage_114 : decode cX10_readVillage 114 = .ok (.iload_n 3, 1) := by decide +kernel
theorem dX10_readVillage_115 : decode cX10_readVillage 115 = .ok (.iastore, 1) := by decide +kernel
theorem dX10_readVillage_116 : decode cX10_readVillage 116 = .ok (.aload_n 0, 1) := by decide +kernel
theorem dX10_readVillage_117 : decode cX10_readVillage 117 = .ok (.getfield 141, 3) := by decide +kernel
theorem dX10_readVillage_120 : decode cX10_readVillage 120 = .ok (.dup, 1) := by decide +kernel
theorem dX10_readVillage_121 : decode cX10_readVillage 121 = .ok (.getfield 274, 3) := by decide +kernel
theorem dX10_readVillage_124 : decode cX10_readVillage 124 = .ok (.iconst 1, 1) := by decide +kernel
theorem dX10_readVillage_125 : decode cX10_readVillage 125 = .ok (.iadd, 1) := by decide +kernel
theorem dX10_readVillage_126 : decode cX10_readVillage 126 = .ok (.putfield 274, 3) := by decide +kernel
theorem dX10_readVillage_129 : decode cX10_readVillage 129 = .ok (.return_, 1) := by decide +kernel
theorem dX10_readKnower_0 : decode cX10_readKnower 0 = .ok (.aload_n 0, 1) := by decide +kernel
theorem dX10_readKnower_1 : decode cX10_readKnower 1 = .ok (.aload_n 0, 1) := by decide +kernel
theorem dX10_readKnower_2 : decode cX10_readKnower 2 = .ok (.getfield 141, 3) := by decide +kernel
theorem dX10_readKnower_5 : decode cX10_readKnower 5 = .ok (.getfield 289, 3) := by decide +kernel
theorem dX10_readKnower_8 : decode cX10_readKnower 8 = .ok (.iconst 4, 1) := by decide +kernel
theorem dX10_readKnower_9 : decode cX10_readKnower 9 = .ok (.invokevirtual 209, 3) := by decide +kernel
theorem dX10_readKnower_12 : decode cX10_readKnower 12 = .ok (.aload_n 0, 1) := by decide +kernel
theorem dX10_readKnower_13 : decode cX10_readKnower 13 = .ok (.iconst 1, 1) := by decide +kernel
theorem dX10_readKnower_14 : decode cX10_readKnower 14 = .ok (.aload_n 0, 1) := by decide +kernel
theorem dX10_readKnower_15 : decode cX10_readKnower 15 = .ok (.getfield 141, 3) := by decide +kernel
theorem dX10_readKnower_18 : decode cX10_readKnower 18 = .ok (.getfield 289, 3) := by decide +kernel
theorem dX10_readKnower_21 : decode cX10_readKnower 21 = .ok (.invokevirtual 213, 3) := by decide +kernel
theorem dX10_readKnower_24 : decode cX10_readKnower 24 = .ok (.aload_n 0, 1) := by decide +kernel
theorem dX10_readKnower_25 : decode cX10_readKnower 25 = .ok (.ldc_w 292, 3) := by decide +kernel
theorem dX10_readKnower_28 : decode cX10_readKnower 28 = .ok (.invokevirtual 115, 3) := by decide +kernel
theorem dX10_readKnower_31 : decode cX10_readKnower 31 = .ok (.ifCond .ne 8, 3) := by decide +kernel
theorem dX10_readKnower_34 : decode cX10_readKnower 34 = .ok (.aload_n 0, 1) := by decide +kernel
theorem dX10_readKnower_35 : decode cX10_readKnower 35 = .ok (.iconst 1, 1) := by decide +kernel
theorem dX10_readKnower_36 : decode cX10_readKnower 36 = .ok (.invokevirtual 104, 3) := by decide +kernel
theorem dX10_readKnower_39 : decode cX10_readKnower 39 = .ok (.aload_n 0, 1) := by decide +kernel
theorem dX10_readKnower_40 : decode cX10_readKnower 40 = .ok (.invokevirtual 112, 3) := by decide +kernel
theorem dX10_readKnower_43 : decode cX10_readKnower 43 = .ok (.aload_n 0, 1) := by decide +kernel
theorem dX10_readKnower_44 : decode cX10_readKnower 44 = .ok (.invokevirtual 137, 3) := by decide +kernel
theorem dX10_readKnower_47 : decode cX10_readKnower 47 = .ok (.ifCond .ne 8, 3) := by decide +kernel
theorem dX10_readKnower_50 : decode cX10_readKnower 50 = .ok (.aload_n 0, 1) := by decide +kernel
theorem dX10_readKnower_51 : decode cX10_readKnower 51 = .ok (.iconst 1, 1) := by decide +kernel
theorem dX10_readKnower_52 : decode cX10_readKnower 52 = .ok (.invokevirtual 104, 3) := by decide +kernel
theorem dX10_readKnower_55 : decode cX10_readKnower 55 = .ok (.aload_n 0, 1) := by decide +kernel
theorem dX10_readKnower_56 : decode cX10_readKnower 56 = .ok (.getfield 141, 3) := by decide +kernel
theorem dX10_readKnower_59 : decode cX10_readKnower 59 = .ok (.aload_n 0, 1) := by decide +kernel
theorem dX10_readKnower_60 : decode cX10_readKnower 60 = .ok (.getfield 84, 3) := by decide +kernel
theorem dX10_readKnower_63 : decode cX10_readKnower 63 = .ok (.invokevirtual 145, 3) := by decide +kernel
theorem dX10_readKnower_66 : decode cX10_readKnower 66 = .ok (.istore_n 1, 1) := by decide +kernel
theorem dX10_readKnower_67 : decode cX10_readKnower 67 = .ok (.iload_n 1, 1) := by decide +kernel
theorem dX10_readKnower_68 : decode cX10_readKnower 68 = .ok (.iconst (-1), 1) := by decide +kernel
theorem dX10_readKnower_69 : decode cX10_readKnower 69 = .ok (.if_icmp .eq 15, 3) := by decide +kernel
theorem dX10_readKnower_72 : decode cX10_readKnower 72 = .ok (.aload_n 0, 1) := by decide +kernel
theorem dX10_readKnower_73 : decode cX10_readKnower 73 = .ok (.getfield 141, 3) := by decide +kernel
theorem dX10_readKnower_76 : decode cX10_readKnower 76 = .ok (.getfield 158, 3) := by decide +kernel
theorem dX10_readKnower_79 : decode cX10_readKnower 79 = .ok (.iload_n 1, 1) := by decide +kernel
theorem dX10_readKnower_80 : decode cX10_readKnower 80 = .ok (.iaload, 1) := by decide +kernel
theorem dX10_readKnower_81 : decode cX10_readKnower 81 = .ok (.ifCond .eq 8, 3) := by decide +kernel
theorem dX10_readKnower_84 : decode cX10_readKnower 84 = .ok (.aload_n 0, 1) := by decide +kernel
theorem dX10_readKnower_85 : decode cX10_readKnower 85 = .ok (.iconst 2, 1) := by decide +kernel
theorem dX10_readKnower_86 : decode cX10_readKnower 86 = .ok (.invokevirtual 104, 3) := by decide +kernel
theorem dX10_readKnower_89 : decode cX10_readKnower 89 = .ok (.aload_n 0, 1) := by decide +kernel
theorem dX10_readKnower_90 : decode cX10_readKnower 90 = .ok (.invokevirtual 112, 3) := by decide +kernel
theorem dX10_readKnower_93 : decode cX10_readKnower 93 = .ok (.aload_n 0, 1) := by decide +kernel
theorem dX10_readKnower_94 : decode cX10_readKnower 94 = .ok (.ldc_w 294, 3) := by decide +kernel
theorem dX10_readKnower_97 : decode cX10_readKnower 97 = .ok (.iconst 0, 1) := by decide +kernel
theorem dX10_readKnower_98 : decode cX10_readKnower 98 = .ok (.sipush 999, 3) := by decide +kernel
theorem dX10_readKnower_101 : decode cX10_readKnower 101 = .ok (.invokevirtual 197, 3) := by decide +kernel
theorem dX10_readKnower_104 : decode cX10_readKnower 104 = .ok (.istore_n 2, 1) := by decide +kernel
theorem dX10_readKnower_105 : decode cX10_readKnower 105 = .ok (.aload_n 0, 1) := by decide +kernel
theorem dX10_readKnower_106 : decode cX10_readKnower 106 = .ok (.getfield 67, 3) := by decide +kernel
theorem dX10_readKnower_109 : decode cX10_readKnower 109 = .ok (.iconst 5, 1) := by decide +kernel
theorem dX10_readKnower_110 : decode cX10_readKnower 110 = .ok (.if_icmp .ne 4, 3) := by decide +kernel
theorem dX10_readKnower_113 : decode cX10_readKnower 113 = .ok (.return_, 1) := by decide +kernel
theorem dX10_readKnower_114 : decode cX10_readKnower 114 = .ok (.aload_n 0, 1) := by decide +kernel
theorem dX10_readKnower_115 : decode cX10_readKnower 115 = .ok (.getfield 141, 3) := by decide +kernel
theorem dX10_readKnower_118 : decode cX10_readKnower 118 = .ok (.getfield 296, 3) := by decide +kernel
theorem dX10_readKnower_121 : decode cX10_readKnower 121 = .ok (.aload_n 0, 1) := by decide +kernel
theorem dX10_readKnower_122 : decode cX10_readKnower 122 = .ok (.getfield 141, 3) := by decide +kernel
theorem dX10_readKnower_125 : decode cX10_readKnower 125 = .ok (.getfield 289, 3) := by decide +kernel
theorem dX10_readKnower_128 : decode cX10_readKnower 128 = .ok (.aload_n 0, 1) := by decide +kernel
theorem dX10_readKnower_129 : decode cX10_readKnower 129 = .ok (.getfield 141, 3) := by decide +kernel
theorem dX10_readKnower_132 : decode cX10_readKnower 132 = .ok (.getfield 161, 3) := by decide +kernel
theorem dX10_readKnower_135 : decode cX10_readKnower 135 = .ok (.iload_n 1, 1) := by decide +kernel
theorem dX10_readKnower_136 : decode cX10_readKnower 136 = .ok (.iaload, 1) := by decide +kernel
theorem dX10_readKnower_137 : decode cX10_readKnower 137 = .ok (.iastore, 1) := by decide +kernel
theorem dX10_readKnower_138 : decode cX10_readKnower 138 = .ok (.aload_n 0, 1) := by decide +kernel
theorem dX10_readKnower_139 : decode cX10_readKnower 139 = .ok (.getfield 141, 3) := by decide +kernel
theorem dX10_readKnower_142 : decode cX10_readKnower 142 = .ok (.getfield 299, 3) := by decide +kernel
theorem dX10_readKnower_145 : decode cX10_readKnower 145 = .ok (.aload_n 0, 1) := by decide +kernel
theorem dX10_readKnower_146 : decode cX10_readKnower 146 = .ok (.getfield 141, 3) := by decide +kernel
theorem dX10_readKnower_149 : decode cX10_readKnower 149 = .ok (.getfield 289, 3) := by decide +kernel
theorem dX10_readKnower_152 : decode cX10_readKnower 152 = .ok (.iload_n 2, 1) := by decide +kernel
theorem dX10_readKnower_153 : decode cX10_readKnower 153 = .ok (.iastore, 1) := by decide +kernel
theorem dX10_readKnower_154 : decode cX10_readKnower 154 = .ok (.aload_n 0, 1) := by decide +kernel
theorem dX10_readKnower_155 : decode cX10_readKnower 155 = .ok (.getfield 141, 3) := by decide +kernel
theorem dX10_readKnower_158 : decode cX10_readKnower 158 = .ok (.dup, 1) := by decide +kernel
theorem dX10_readKnower_159 : decode cX10_readKnower 159 = .ok (.getfield 289, 3) := by decide +kernel
theorem dX10_readKnower_162 : decode cX10_readKnower 162 = .ok (.iconst 1, 1) := by decide +kernel
theorem dX10_readKnower_163 : decode cX10_readKnower 163 = .ok (.iadd, 1) := by decide +kernel
theorem dX10_readKnower_164 : decode cX10_readKnower 164 = .ok (.putfield 289, 3) := by decide +kernel
theorem dX10_readKnower_167 : decode cX10_readKnower 167 = .ok (.return_, 1) := by decide +kernel
theorem dX10_feed_0 : decode cX10_feed 0 = .ok (.aload_n 0, 1) := by decide +kernel
theorem dX10_feed_1 : decode cX10_feed 1 = .ok (.iconst 0, 1) := by decide +kernel
theorem dX10_feed_2 : decode cX10_feed 2 = .ok (.putfield 46, 3) := by decide +kernel
theorem dX10_feed_5 : decode cX10_feed 5 = .ok (.aload_n 0, 1) := by decide +kernel
theorem dX10_feed_6 : decode cX10_feed 6 = .ok (.getfield 302, 3) := by decide +kernel
theorem dX10_feed_9 : decode cX10_feed 9 = .ok (.bipush 20, 2) := by decide +kernel
theorem dX10_feed_11 : decode cX10_feed 11 = .ok (.iadd, 1) := by decide +kernel
theorem dX10_feed_12 : decode cX10_feed 12 = .ok (.sipush 900, 3) := by decide +kernel
theorem dX10_feed_15 : decode cX10_feed 15 = .ok (.if_icmp .le 5, 3) := by decide +kernel
theorem dX10_feed_18 : decode cX10_feed 18 = .ok (.iconst (-1), 1) := by decide +kernel
theorem dX10_feed_19 : decode cX10_feed 19 = .ok (.ireturn, 1) := by decide +kernel
theorem dX10_feed_20 : decode cX10_feed 20 = .ok (.iconst 0, 1) := by decide +kernel
theorem dX10_feed_21 : decode cX10_feed 21 = .ok (.istore 6, 2) := by decide +kernel
theorem dX10_feed_23 : decode cX10_feed 23 = .ok (.iload 6, 2) := by decide +kernel
theorem dX10_feed_25 : decode cX10_feed 25 = .ok (.bipush 20, 2) := by decide +kernel
theorem dX10_feed_27 : decode cX10_feed 27 = .ok (.if_icmp .ge 90, 3) := by decide +kernel
theorem dX10_feed_30 : decode cX10_feed 30 = .ok (.iload 6, 2) := by decide +kernel
theorem dX10_feed_32 : decode cX10_feed 32 = .ok (.iconst 4, 1) := by decide +kernel
theorem dX10_feed_33 : decode cX10_feed 33 = .ok (.if_icmp .ge 7, 3) := by decide +kernel
theorem dX10_feed_36 : decode cX10_feed 36 = .ok (.iload_n 1, 1) := by decide +kernel
theorem dX10_feed_37 : decode cX10_feed 37 = .ok (.goto 39, 3) := by decide +kernel
theorem dX10_feed_40 : decode cX10_feed 40 = .ok (.iload 6, 2) := by decide +kernel
theorem dX10_feed_42 : decode cX10_feed 42 = .ok (.bipush 8, 2) := by decide +kernel
theorem dX10_feed_44 : decode cX10_feed 44 = .ok (.if_icmp .ge 7, 3) := by decide +kernel
theorem dX10_feed_47 : decode cX10_feed 47 = .ok (.iload_n 2, 1) := by decide +kernel
theorem dX10_feed_48 : decode cX10_feed 48 = .ok (.goto 28, 3) := by decide +kernel
theorem dX10_feed_51 : decode cX10_feed 51 = .ok (.iload 6, 2) := by decide +kernel
theorem dX10_feed_53 : decode cX10_feed 53 = .ok (.bipush 12, 2) := by decide +kernel
theorem dX10_feed_55 : decode cX10_feed 55 = .ok (.if_icmp .ge 7, 3) := by decide +kernel
theorem dX10_feed_58 : decode cX10_feed 58 = .ok (.iload_n 3, 1) := by decide +kernel
theorem dX10_feed_59 : decode cX10_feed 59 = .ok (.goto 17, 3) := by decide +kernel
theorem dX10_feed_62 : decode cX10_feed 62 = .ok (.iload 6, 2) := by decide +kernel
theorem dX10_feed_64 : decode cX10_feed 64 = .ok (.bipush 16, 2) := by decide +kernel
theorem dX10_feed_66 : decode cX10_feed 66 = .ok (.if_icmp .ge 8, 3) := by decide +kernel
theorem dX10_feed_69 : decode cX10_feed 69 = .ok (.iload 4, 2) := by decide +kernel
theorem dX10_feed_71 : decode cX10_feed 71 = .ok (.goto 5, 3) := by decide +kernel
theorem dX10_feed_74 : decode cX10_feed 74 = .ok (.iload 5, 2) := by decide +kernel
theorem dX10_feed_76 : decode cX10_feed 76 = .ok (.istore 7, 2) := by decide +kernel
theorem dX10_feed_78 : decode cX10_feed 78 = .ok (.aload_n 0, 1) := by decide +kernel
theorem dX10_feed_79 : decode cX10_feed 79 = .ok (.getfield 13, 3) := by decide +kernel
theorem dX10_feed_82 : decode cX10_feed 82 = .ok (.aload_n 0, 1) := by decide +kernel
theorem dX10_feed_83 : decode cX10_feed 83 = .ok (.getfield 302, 3) := by decide +kernel
theorem dX10_feed_86 : decode cX10_feed 86 = .ok (.iload 7, 2) := by decide +kernel
theorem dX10_feed_88 : decode cX10_feed 88 = .ok (.bipush 24, 2) := by decide +kernel
theorem dX10_feed_90 : decode cX10_feed 90 = .ok (.bipush 8, 2) := by decide +kernel
theorem dX10_feed_92 : decode cX10_feed 92 = .ok (.iload 6, 2) := by decide +kernel
theorem dX10_feed_94 : decode cX10_feed 94 = .ok (.iconst 4, 1) := by decide +kernel
theorem dX10_feed_95 : decode cX10_feed 95 = .ok (.irem, 1) := by decide +kernel
theorem dX10_feed_96 : decode cX10_feed 96 = .ok (.imul, 1) := by decide +kernel
theorem dX10_feed_97 : decode cX10_feed 97 = .ok (.isub, 1) := by decide +kernel
theorem dX10_feed_98 : decode cX10_feed 98 = .ok (.ishr, 1) := by decide +kernel
theorem dX10_feed_99 : decode cX10_feed 99 = .ok (.i2b, 1) := by decide +kernel
theorem dX10_feed_100 : decode cX10_feed 100 = .ok (.bastore, 1) := by decide +kernel
theorem dX10_feed_101 : decode cX10_feed 101 = .ok (.aload_n 0, 1) := by decide +kernel
theorem dX10_feed_102 : decode cX10_feed 102 = .ok (.dup, 1) := by decide +kernel
theorem dX10_feed_103 : decode cX10_feed 103 = .ok (.getfield 302, 3) := by decide +kernel
theorem dX10_feed_106 : decode cX10_feed 106 = .ok (.iconst 1, 1) := by decide +kernel
theorem dX10_feed_107 : decode cX10_feed 107 = .ok (.iadd, 1) := by decide +kernel
theorem dX10_feed_108 : decode cX10_feed 108 = .ok (.putfield 302, 3) := by decide +kernel
theorem dX10_feed_111 : decode cX10_feed 111 = .ok (.iinc 6 1, 3) := by decide +kernel
theorem dX10_feed_114 : decode cX10_feed 114 = .ok (.goto (-91), 3) := by decide +kernel
theorem dX10_feed_117 : decode cX10_feed 117 = .ok (.aload_n 0, 1) := by decide +kernel
theorem dX10_feed_118 : decode cX10_feed 118 = .ok (.getfield 302, 3) := by decide +kernel
theorem dX10_feed_121 : decode cX10_feed 121 = .ok (.ireturn, 1) := by decide +kernel
theorem dX10_hill_0 : decode cX10_hill 0 = .ok (.aload_n 0, 1) := by decide +kernel
theorem dX10_hill_1 : decode cX10_hill 1 = .ok (.iconst 0, 1) := by decide +kernel
theorem dX10_hill_2 : decode cX10_hill 2 = .ok (.putfield 46, 3) := by decide +kernel
theorem dX10_hill_5 : decode cX10_hill 5 = .ok (.iload_n 1, 1) := by decide +kernel
theorem dX10_hill_6 : decode cX10_hill 6 = .ok (.ifCond .lt 11, 3) := by decide +kernel
theorem dX10_hill_9 : decode cX10_hill 9 = .ok (.iload_n 1, 1) := by decide +kernel
theorem dX10_hill_10 : decode cX10_hill 10 = .ok (.aload_n 0, 1) := by decide +kernel
theorem dX10_hill_11 : decode cX10_hill 11 = .ok (.getfield 302, 3) := by decide +kernel
theorem dX10_hill_14 : decode cX10_hill 14 = .ok (.if_icmp .le 9, 3) := by decide +kernel
theorem dX10_hill_17 : decode cX10_hill 17 = .ok (.aload_n 0, 1) := by decide +kernel
theorem dX10_hill_18 : decode cX10_hill 18 = .ok (.iconst 2, 1) := by decide +kernel
theorem dX10_hill_19 : decode cX10_hill 19 = .ok (.invokevirtual 305, 3) := by decide +kernel
theorem dX10_hill_22 : decode cX10_hill 22 = .ok (.ireturn, 1) := by decide +kernel
theorem dX10_hill_23 : decode cX10_hill 23 = .ok (.aload_n 0, 1) := by decide +kernel
theorem dX10_hill_24 : decode cX10_hill 24 = .ok (.iload_n 1, 1) := by decide +kernel
theorem dX10_hill_25 : decode cX10_hill 25 = .ok (.putfield 52, 3) := by decide +kernel
theorem dX10_hill_28 : decode cX10_hill 28 = .ok (.aload_n 0, 1) := by decide +kernel
theorem dX10_hill_29 : decode cX10_hill 29 = .ok (.iconst 0, 1) := by decide +kernel
theorem dX10_hill_30 : decode cX10_hill 30 = .ok (.putfield 302, 3) := by decide +kernel
theorem dX10_hill_33 : decode cX10_hill 33 = .ok (.aload_n 0, 1) := by decide +kernel
theorem dX10_hill_34 : decode cX10_hill 34 = .ok (.iconst 0, 1) := by decide +kernel
theorem dX10_hill_35 : decode cX10_hill 35 = .ok (.putfield 70, 3) := by decide +kernel
theorem dX10_hill_38 : decode cX10_hill 38 = .ok (.aload_n 0, 1) := by decide +kernel
theorem dX10_hill_39 : decode cX10_hill 39 = .ok (.iconst 0, 1) := by decide +kernel
theorem dX10_hill_40 : decode cX10_hill 40 = .ok (.putfield 94, 3) := by decide +kernel
theorem dX10_hill_43 : decode cX10_hill 43 = .ok (.aload_n 0, 1) := by decide +kernel
theorem dX10_hill_44 : decode cX10_hill 44 = .ok (.new 146, 3) := by decide +kernel
theorem dX10_hill_47 : decode cX10_hill 47 = .ok (.dup, 1) := by decide +kernel
theorem dX10_hill_48 : decode cX10_hill 48 = .ok (.invokespecial 308, 3) := by decide +kernel
theorem dX10_hill_51 : decode cX10_hill 51 = .ok (.putfield 141, 3) := by decide +kernel
theorem dX10_hill_54 : decode cX10_hill 54 = .ok (.aload_n 0, 1) := by decide +kernel
theorem dX10_hill_55 : decode cX10_hill 55 = .ok (.iconst 0, 1) := by decide +kernel
theorem dX10_hill_56 : decode cX10_hill 56 = .ok (.putfield 67, 3) := by decide +kernel
theorem dX10_hill_59 : decode cX10_hill 59 = .ok (.aload_n 0, 1) := by decide +kernel
theorem dX10_hill_60 : decode cX10_hill 60 = .ok (.invokevirtual 112, 3) := by decide +kernel
theorem dX10_hill_63 : decode cX10_hill 63 = .ok (.aload_n 0, 1) := by decide +kernel
theorem dX10_hill_64 : decode cX10_hill 64 = .ok (.invokevirtual 309, 3) := by decide +kernel
theorem dX10_hill_67 : decode cX10_hill 67 = .ok (.aload_n 0, 1) := by decide +kernel
theorem dX10_hill_68 : decode cX10_hill 68 = .ok (.getfield 94, 3) := by decide +kernel
theorem dX10_hill_71 : decode cX10_hill 71 = .ok (.ifCond .le 18, 3) := by decide +kernel
theorem dX10_hill_74 : decode cX10_hill 74 = .ok (.aload_n 0, 1) := by decide +kernel
theorem dX10_hill_75 : decode cX10_hill 75 = .ok (.iconst 4, 1) := by decide +kernel
theorem dX10_hill_76 : decode cX10_hill 76 = .ok (.putfield 49, 3) := by decide +kernel
theorem dX10_hill_79 : decode cX10_hill 79 = .ok (.aload_n 0, 1) := by decide +kernel
theorem dX10_hill_80 : decode cX10_hill 80 = .ok (.aload_n 0, 1) := by decide +kernel
theorem dX10_hill_81 : decode cX10_hill 81 = .ok (.getfield 97, 3) := by decide +kernel
theorem dX10_hill_84 : decode cX10_hill 84 = .ok (.putfield 9, 3) := by decide +kernel
theorem dX10_hill_87 : decode cX10_hill 87 = .ok (.iconst (-1), 1) := by decide +kernel
theorem dX10_hill_88 : decode cX10_hill 88 = .ok (.ireturn, 1) := by decide +kernel
theorem dX10_hill_89 : decode cX10_hill 89 = .ok (.aload_n 0, 1) := by decide +kernel
theorem dX10_hill_90 : decode cX10_hill 90 = .ok (.aload_n 0, 1) := by decide +kernel
theorem dX10_hill_91 : decode cX10_hill 91 = .ok (.getfield 141, 3) := by decide +kernel
theorem dX10_hill_94 : decode cX10_hill 94 = .ok (.putfield 312, 3) := by decide +kernel
theorem dX10_hill_97 : decode cX10_hill 97 = .ok (.aload_n 0, 1) := by decide +kernel
theorem dX10_hill_98 : decode cX10_hill 98 = .ok (.iconst 0, 1) := by decide +kernel
theorem dX10_hill_99 : decode cX10_hill 99 = .ok (.putfield 315, 3) := by decide +kernel
theorem dX10_hill_102 : decode cX10_hill 102 = .ok (.aload_n 0, 1) := by decide +kernel
theorem dX10_hill_103 : decode cX10_hill 103 = .ok (.aload_n 0, 1) := by decide +kernel
theorem dX10_hill_104 : decode cX10_hill 104 = .ok (.getfield 312, 3) := by decide +kernel
theorem dX10_hill_107 : decode cX10_hill 107 = .ok (.getfield 173, 3) := by decide +kernel
theorem dX10_hill_110 : decode cX10_hill 110 = .ok (.invokevirtual 317, 3) := by decide +kernel
theorem dX10_hill_113 : decode cX10_hill 113 = .ok (.ireturn, 1) := by decide +kernel
theorem dX10_fault_0 : decode cX10_fault 0 = .ok (.aload_n 0, 1) := by decide +kernel
theorem dX10_fault_1 : decode cX10_fault 1 = .ok (.iconst 0, 1) := by decide +kernel
theorem dX10_fault_2 : decode cX10_fault 2 = .ok (.putfield 46, 3) := by decide +kernel
theorem dX10_fault_5 : decode cX10_fault 5 = .ok (.aload_n 0, 1) := by decide +kernel
theorem dX10_fault_6 : decode cX10_fault 6 = .ok (.getfield 94, 3) := by decide +kernel
theorem dX10_fault_9 : decode cX10_fault 9 = .ok (.ireturn, 1) := by decide +kernel
theorem dX10_where_0 : decode cX10_where 0 = .ok (.aload_n 0, 1) := by decide +kernel
theorem dX10_where_1 : decode cX10_where 1 = .ok (.iconst 0, 1) := by decide +kernel
theorem dX10_where_2 : decode cX10_where 2 = .ok (.putfield 46, 3) := by decide +kernel
theorem dX10_where_5 : decode cX10_where 5 = .ok (.aload_n 0, 1) := by decide +kernel
theorem dX10_where_6 : decode cX10_where 6 = .ok (.getfield 9, 3) := by decide +kernel
theorem dX10_where_9 : decode cX10_where 9 = .ok (.ireturn, 1) := by decide +kernel
theorem dX10_goalOf_0 : decode cX10_goalOf 0 = .ok (.iconst (-1), 1) := by decide +kernel
theorem dX10_goalOf_1 : decode cX10_goalOf 1 = .ok (.istore_n 2, 1) := by decide +kernel
theorem dX10_goalOf_2 : decode cX10_goalOf 2 = .ok (.iconst 0, 1) := by decide +kernel
theorem dX10_goalOf_3 : decode cX10_goalOf 3 = .ok (.istore_n 3, 1) := by decide +kernel
theorem dX10_goalOf_4 : decode cX10_goalOf 4 = .ok (.iload_n 3, 1) := by decide +kernel
theorem dX10_goalOf_5 : decode cX10_goalOf 5 = .ok (.aload_n 0, 1) := by decide +kernel
theorem dX10_goalOf_6 : decode cX10_goalOf 6 = .ok (.getfield 312, 3) := by decide +kernel
theorem dX10_goalOf_9 : decode cX10_goalOf 9 = .ok (.getfield 224, 3) := by decide +kernel
theorem dX10_goalOf_12 : decode cX10_goalOf 12 = .ok (.if_icmp .ge 50, 3) := by decide +kernel
theorem dX10_goalOf_15 : decode cX10_goalOf 15 = .ok (.aload_n 0, 1) := by decide +kernel
theorem dX10_goalOf_16 : decode cX10_goalOf 16 = .ok (.getfield 312, 3) := by decide +kernel
theorem dX10_goalOf_19 : decode cX10_goalOf 19 = .ok (.getfield 228, 3) := by decide +kernel
theorem dX10_goalOf_22 : decode cX10_goalOf 22 = .ok (.iload_n 3, 1) := by decide +kernel
theorem dX10_goalOf_23 : decode cX10_goalOf 23 = .ok (.iaload, 1) := by decide +kernel
theorem dX10_goalOf_24 : decode cX10_goalOf 24 = .ok (.iload_n 1, 1) := by decide +kernel
theorem dX10_goalOf_25 : decode cX10_goalOf 25 = .ok (.if_icmp .gt 31, 3) := by decide +kernel
theorem dX10_goalOf_28 : decode cX10_goalOf 28 = .ok (.iload_n 2, 1) := by decide +kernel
theorem dX10_goalOf_29 : decode cX10_goalOf 29 = .ok (.iconst (-1), 1) := by decide +kernel
theorem dX10_goalOf_30 : decode cX10_goalOf 30 = .ok (.if_icmp .eq 24, 3) := by decide +kernel
theorem dX10_goalOf_33 : decode cX10_goalOf 33 = .ok (.aload_n 0, 1) := by decide +kernel
theorem dX10_goalOf_34 : decode cX10_goalOf 34 = .ok (.getfield 312, 3) := by decide +kernel
theorem dX10_goalOf_37 : decode cX10_goalOf 37 = .ok (.getfield 228, 3) := by decide +kernel
theorem dX10_goalOf_40 : decode cX10_goalOf 40 = .ok (.iload_n 3, 1) := by decide +kernel
theorem dX10_goalOf_41 : decode cX10_goalOf 41 = .ok (.iaload, 1) := by decide +kernel
theorem dX10_goalOf_42 : decode cX10_goalOf 42 = .ok (.aload_n 0, 1) := by decide +kernel
theorem dX10_goalOf_43 : decode cX10_goalOf 43 = .ok (.getfield 312, 3) := by decide +kernel
theorem dX10_goalOf_46 : decode cX10_goalOf 46 = .ok (.getfield 228, 3) := by decide +kernel
theorem dX10_goalOf_49 : decode cX10_goalOf 49 = .ok (.iload_n 2, 1) := by decide +kernel
theorem dX10_goalOf_50 : decode cX10_goalOf 50 = .ok (.iaload, 1) := by decide +kernel
theorem dX10_goalOf_51 : decode cX10_goalOf 51 = .ok (.if_icmp .lt 5, 3) := by decide +kernel
theorem dX10_goalOf_54 : decode cX10_goalOf 54 = .ok (.iload_n 3, 1) := by decide +kernel
theorem dX10_goalOf_55 : decode cX10_goalOf 55 = .ok (.istore_n 2, 1) := by decide +kernel
theorem dX10_goalOf_56 : decode cX10_goalOf 56 = .ok (.iinc 3 1, 3) := by decide +kernel
theorem dX10_goalOf_59 : decode cX10_goalOf 59 = .ok (.goto (-55), 3) := by decide +kernel
theorem dX10_goalOf_62 : decode cX10_goalOf 62 = .ok (.iload_n 2, 1) := by decide +kernel
theorem dX10_goalOf_63 : decode cX10_goalOf 63 = .ok (.iconst (-1), 1) := by decide +kernel
theorem dX10_goalOf_64 : decode cX10_goalOf 64 = .ok (.if_icmp .ne 13, 3) := by decide +kernel
theorem dX10_goalOf_67 : decode cX10_goalOf 67 = .ok (.aload_n 0, 1) := by decide +kernel
theorem dX10_goalOf_68 : decode cX10_goalOf 68 = .ok (.getfield 312, 3) := by decide +kernel
theorem dX10_goalOf_71 : decode cX10_goalOf 71 = .ok (.getfield 167, 3) := by decide +kernel
theorem dX10_goalOf_74 : decode cX10_goalOf 74 = .ok (.goto 12, 3) := by decide +kernel
theorem dX10_goalOf_77 : decode cX10_goalOf 77 = .ok (.aload_n 0, 1) := by decide +kernel
theorem dX10_goalOf_78 : decode cX10_goalOf 78 = .ok (.getfield 312, 3) := by decide +kernel
theorem dX10_goalOf_81 : decode cX10_goalOf 81 = .ok (.getfield 231, 3) := by decide +kernel
theorem dX10_goalOf_84 : decode cX10_goalOf 84 = .ok (.iload_n 2, 1) := by decide +kernel
theorem dX10_goalOf_85 : decode cX10_goalOf 85 = .ok (.iaload, 1) := by decide +kernel
theorem dX10_goalOf_86 : decode cX10_goalOf 86 = .ok (.ireturn, 1) := by decide +kernel
theorem dX10_fills_0 : decode cX10_fills 0 = .ok (.aload_n 0, 1) := by decide +kernel
theorem dX10_fills_1 : decode cX10_fills 1 = .ok (.getfield 312, 3) := by decide +kernel
theorem dX10_fills_4 : decode cX10_fills 4 = .ok (.getfield 167, 3) := by decide +kernel
theorem dX10_fills_7 : decode cX10_fills 7 = .ok (.istore_n 3, 1) := by decide +kernel
theorem dX10_fills_8 : decode cX10_fills 8 = .ok (.iconst 0, 1) := by decide +kernel
theorem dX10_fills_9 : decode cX10_fills 9 = .ok (.istore 4, 2) := by decide +kernel
theorem dX10_fills_11 : decode cX10_fills 11 = .ok (.iload 4, 2) := by decide +kernel
theorem dX10_fills_13 : decode cX10_fills 13 = .ok (.bipush 60, 2) := by decide +kernel
theorem dX10_fills_15 : decode cX10_fills 15 = .ok (.if_icmp .ge 133, 3) := by decide +kernel
theorem dX10_fills_18 : decode cX10_fills 18 = .ok (.iload 4, 2) := by decide +kernel
theorem dX10_fills_20 : decode cX10_fills 20 = .ok (.iload_n 1, 1) := by decide +kernel
theorem dX10_fills_21 : decode cX10_fills 21 = .ok (.if_icmp .lt 7, 3) := by decide +kernel
theorem dX10_fills_24 : decode cX10_fills 24 = .ok (.iconst 0, 1) := by decide +kernel
theorem dX10_fills_25 : decode cX10_fills 25 = .ok (.goto 18, 3) := by decide +kernel
theorem dX10_fills_28 : decode cX10_fills 28 = .ok (.iload_n 2, 1) := by decide +kernel
theorem dX10_fills_29 : decode cX10_fills 29 = .ok (.iconst (-1), 1) := by decide +kernel
theorem dX10_fills_30 : decode cX10_fills 30 = .ok (.if_icmp .eq 7, 3) := by decide +kernel
theorem dX10_fills_33 : decode cX10_fills 33 = .ok (.iload_n 2, 1) := by decide +kernel
theorem dX10_fills_34 : decode cX10_fills 34 = .ok (.goto 9, 3) := by decide +kernel
theorem dX10_fills_37 : decode cX10_fills 37 = .ok (.aload_n 0, 1) := by decide +kernel
theorem dX10_fills_38 : decode cX10_fills 38 = .ok (.iload 4, 2) := by decide +kernel
theorem dX10_fills_40 : decode cX10_fills 40 = .ok (.invokevirtual 320, 3) := by decide +kernel
theorem dX10_fills_43 : decode cX10_fills 43 = .ok (.istore 5, 2) := by decide +kernel
theorem dX10_fills_45 : decode cX10_fills 45 = .ok (.iload 5, 2) := by decide +kernel
theorem dX10_fills_47 : decode cX10_fills 47 = .ok (.aload_n 0, 1) := by decide +kernel
theorem dX10_fills_48 : decode cX10_fills 48 = .ok (.getfield 312, 3) := by decide +kernel
theorem dX10_fills_51 : decode cX10_fills 51 = .ok (.getfield 207, 3) := by decide +kernel
theorem dX10_fills_54 : decode cX10_fills 54 = .ok (.if_icmp .le 13, 3) := by decide +kernel
theorem dX10_fills_57 : decode cX10_fills 57 = .ok (.aload_n 0, 1) := by decide +kernel
theorem dX10_fills_58 : decode cX10_fills 58 = .ok (.getfield 312, 3) := by decide +kernel
theorem dX10_fills_61 : decode cX10_fills 61 = .ok (.getfield 207, 3) := by decide +kernel
theorem dX10_fills_64 : decode cX10_fills 64 = .ok (.goto 5, 3) := by decide +kernel
theorem dX10_fills_67 : decode cX10_fills 67 = .ok (.iload 5, 2) := by decide +kernel
theorem dX10_fills_69 : decode cX10_fills 69 = .ok (.istore 5, 2) := by decide +kernel
theorem dX10_fills_71 : decode cX10_fills 71 = .ok (.iload 5, 2) := by decide +kernel
theorem dX10_fills_73 : decode cX10_fills 73 = .ok (.iload_n 3, 1) := by decide +kernel
theorem dX10_fills_74 : decode cX10_fills 74 = .ok (.if_icmp .le 10, 3) := by decide +kernel
theorem dX10_fills_77 : decode cX10_fills 77 = .ok (.iload 5, 2) := by decide +kernel
theorem dX10_fills_79 : decode cX10_fills 79 = .ok (.iload_n 3, 1) := by decide +kernel
theorem dX10_fills_80 : decode cX10_fills 80 = .ok (.isub, 1) := by decide +kernel
theorem dX10_fills_81 : decode cX10_fills 81 = .ok (.goto 7, 3) := by decide +kernel
theorem dX10_fills_84 : decode cX10_fills 84 = .ok (.iload_n 3, 1) := by decide +kernel
theorem dX10_fills_85 : decode cX10_fills 85 = .ok (.iload 5, 2) := by decide +kernel
theorem dX10_fills_87 : decode cX10_fills 87 = .ok (.isub, 1) := by decide +kernel
theorem dX10_fills_88 : decode cX10_fills 88 = .ok (.istore 6, 2) := by decide +kernel
theorem dX10_fills_90 : decode cX10_fills 90 = .ok (.iload 6, 2) := by decide +kernel
theorem dX10_fills_92 : decode cX10_fills 92 = .ok (.aload_n 0, 1) := by decide +kernel
theorem dX10_fills_93 : decode cX10_fills 93 = .ok (.getfield 312, 3) := by decide +kernel
theorem dX10_fills_96 : decode cX10_fills 96 = .ok (.getfield 205, 3) := by decide +kernel
theorem dX10_fills_99 : decode cX10_fills 99 = .ok (.if_icmp .le 13, 3) := by decide +kernel
theorem dX10_fills_102 : decode cX10_fills 102 = .ok (.aload_n 0, 1) := by decide +kernel
theorem dX10_fills_103 : decode cX10_fills 103 = .ok (.getfield 312, 3) := by decide +kernel
theorem dX10_fills_106 : decode cX10_fills 106 = .ok (.getfield 205, 3) := by decide +kernel
theorem dX10_fills_109 : decode cX10_fills 109 = .ok (.goto 5, 3) := by decide +kernel
theorem dX10_fills_112 : decode cX10_fills 112 = .ok (.iload 6, 2) := by decide +kernel
theorem dX10_fills_114 : decode cX10_fills 114 = .ok (.istore 6, 2) := by decide +kernel
theorem dX10_fills_116 : decode cX10_fills 116 = .ok (.iload 5, 2) := by decide +kernel
theorem dX10_fills_118 : decode cX10_fills 118 = .ok (.iload_n 3, 1) := by decide +kernel
theorem dX10_fills_119 : decode cX10_fills 119 = .ok (.if_icmp .le 10, 3) := by decide +kernel
theorem dX10_fills_122 : decode cX10_fills 122 = .ok (.iload_n 3, 1) := by decide +kernel
theorem dX10_fills_123 : decode cX10_fills 123 = .ok (.iload 6, 2) := by decide +kernel
theorem dX10_fills_125 : decode cX10_fills 125 = .ok (.iadd, 1) := by decide +kernel
theorem dX10_fills_126 : decode cX10_fills 126 = .ok (.goto 7, 3) := by decide +kernel
theorem dX10_fills_129 : decode cX10_fills 129 = .ok (.iload_n 3, 1) := by decide +kernel
theorem dX10_fills_130 : decode cX10_fills 130 = .ok (.iload 6, 2) := by decide +kernel
theorem dX10_fills_132 : decode cX10_fills 132 = .ok (.isub, 1) := by decide +kernel
theorem dX10_fills_133 : decode cX10_fills 133 = .ok (.istore_n 3, 1) := by decide +kernel
theorem dX10_fills_134 : decode cX10_fills 134 = .ok (.aload_n 0, 1) := by decide +kernel
theorem dX10_fills_135 : decode cX10_fills 135 = .ok (.getfield 17, 3) := by decide +kernel
theorem dX10_fills_138 : decode cX10_fills 138 = .ok (.iload 4, 2) := by decide +kernel
theorem dX10_fills_140 : decode cX10_fills 140 = .ok (.iload_n 3, 1) := by decide +kernel
theorem dX10_fills_141 : decode cX10_fills 141 = .ok (.iastore, 1) := by decide +kernel
theorem dX10_fills_142 : decode cX10_fills 142 = .ok (.iinc 4 1, 3) := by decide +kernel
theorem dX10_fills_145 : decode cX10_fills 145 = .ok (.goto (-134), 3) := by decide +kernel
theorem dX10_fills_148 : decode cX10_fills 148 = .ok (.return_, 1) := by decide +kernel
theorem dX10_levelAt_0 : decode cX10_levelAt 0 = .ok (.iload_n 1, 1) := by decide +kernel
theorem dX10_levelAt_1 : decode cX10_levelAt 1 = .ok (.ifCond .ge 13, 3) := by decide +kernel
theorem dX10_levelAt_4 : decode cX10_levelAt 4 = .ok (.aload_n 0, 1) := by decide +kernel
theorem dX10_levelAt_5 : decode cX10_levelAt 5 = .ok (.getfield 312, 3) := by decide +kernel
theorem dX10_levelAt_8 : decode cX10_levelAt 8 = .ok (.getfield 167, 3) := by decide +kernel
theorem dX10_levelAt_11 : decode cX10_levelAt 11 = .ok (.goto 9, 3) := by decide +kernel
theorem dX10_levelAt_14 : decode cX10_levelAt 14 = .ok (.aload_n 0, 1) := by decide +kernel
theorem dX10_levelAt_15 : decode cX10_levelAt 15 = .ok (.getfield 17, 3) := by decide +kernel
theorem dX10_levelAt_18 : decode cX10_levelAt 18 = .ok (.iload_n 1, 1) := by decide +kernel
theorem dX10_levelAt_19 : decode cX10_levelAt 19 = .ok (.iaload, 1) := by decide +kernel
theorem dX10_levelAt_20 : decode cX10_levelAt 20 = .ok (.ireturn, 1) := by decide +kernel
theorem dX10_isDay_0 : decode cX10_isDay 0 = .ok (.aload_n 0, 1) := by decide +kernel
theorem dX10_isDay_1 : decode cX10_isDay 1 = .ok (.getfield 312, 3) := by decide +kernel
theorem dX10_isDay_4 : decode cX10_isDay 4 = .ok (.ifnull 17, 3) := by decide +kernel
theorem dX10_isDay_7 : decode cX10_isDay 7 = .ok (.iload_n 1, 1) := by decide +kernel
theorem dX10_isDay_8 : decode cX10_isDay 8 = .ok (.ifCond .lt 13, 3) := by decide +kernel
theorem dX10_isDay_11 : decode cX10_isDay 11 = .ok (.iload_n 1, 1) := by decide +kernel
theorem dX10_isDay_12 : decode cX10_isDay 12 = .ok (.bipush 60, 2) := by decide +kernel
theorem dX10_isDay_14 : decode cX10_isDay 14 = .ok (.if_icmp .ge 7, 3) := by decide +kernel
theorem dX10_isDay_17 : decode cX10_isDay 17 = .ok (.iconst 1, 1) := by decide +kernel
theorem dX10_isDay_18 : decode cX10_isDay 18 = .ok (.goto 4, 3) := by decide +kernel
theorem dX10_isDay_21 : decode cX10_isDay 21 = .ok (.iconst 0, 1) := by decide +kernel
theorem dX10_isDay_22 : decode cX10_isDay 22 = .ok (.ireturn, 1) := by decide +kernel
theorem dX10_isPeg_0 : decode cX10_isPeg 0 = .ok (.aload_n 0, 1) := by decide +kernel
theorem dX10_isPeg_1 : decode cX10_isPeg 1 = .ok (.getfield 312, 3) := by decide +kernel
theorem dX10_isPeg_4 : decode cX10_isPeg 4 = .ok (.ifnull 22, 3) := by decide +kernel
theorem dX10_isPeg_7 : decode cX10_isPeg 7 = .ok (.iload_n 1, 1) := by decide +kernel
theorem dX10_isPeg_8 : decode cX10_isPeg 8 = .ok (.ifCond .lt 18, 3) := by decide +kernel
theorem dX10_isPeg_11 : decode cX10_isPeg 11 = .ok (.iload_n 1, 1) := by decide +kernel
theorem dX10_isPeg_12 : decode cX10_isPeg 12 = .ok (.aload_n 0, 1) := by decide +kernel
theorem dX10_isPeg_13 : decode cX10_isPeg 13 = .ok (.getfield 312, 3) := by decide +kernel
theorem dX10_isPeg_16 : decode cX10_isPeg 16 = .ok (.getfield 170, 3) := by decide +kernel
theorem dX10_isPeg_19 : decode cX10_isPeg 19 = .ok (.if_icmp .ge 7, 3) := by decide +kernel
theorem dX10_isPeg_22 : decode cX10_isPeg 22 = .ok (.iconst 1, 1) := by decide +kernel
theorem dX10_isPeg_23 : decode cX10_isPeg 23 = .ok (.goto 4, 3) := by decide +kernel
theorem dX10_isPeg_26 : decode cX10_isPeg 26 = .ok (.iconst 0, 1) := by decide +kernel
theorem dX10_isPeg_27 : decode cX10_isPeg 27 = .ok (.ireturn, 1) := by decide +kernel
theorem dX10_isStory_0 : decode cX10_isStory 0 = .ok (.aload_n 0, 1) := by decide +kernel
theorem dX10_isStory_1 : decode cX10_isStory 1 = .ok (.getfield 312, 3) := by decide +kernel
theorem dX10_isStory_4 : decode cX10_isStory 4 = .ok (.ifnull 22, 3) := by decide +kernel
theorem dX10_isStory_7 : decode cX10_isStory 7 = .ok (.iload_n 1, 1) := by decide +kernel
theorem dX10_isStory_8 : decode cX10_isStory 8 = .ok (.ifCond .lt 18, 3) := by decide +kernel
theorem dX10_isStory_11 : decode cX10_isStory 11 = .ok (.iload_n 1, 1) := by decide +kernel
theorem dX10_isStory_12 : decode cX10_isStory 12 = .ok (.aload_n 0, 1) := by decide +kernel
theorem dX10_isStory_13 : decode cX10_isStory 13 = .ok (.getfield 312, 3) := by decide +kernel
theorem dX10_isStory_16 : decode cX10_isStory 16 = .ok (.getfield 173, 3) := by decide +kernel
theorem dX10_isStory_19 : decode cX10_isStory 19 = .ok (.if_icmp .ge 7, 3) := by decide +kernel
theorem dX10_isStory_22 : decode cX10_isStory 22 = .ok (.iconst 1, 1) := by decide +kernel
theorem dX10_isStory_23 : decode cX10_isStory 23 = .ok (.goto 4, 3) := by decide +kernel
theorem dX10_isStory_26 : decode cX10_isStory 26 = .ok (.iconst 0, 1) := by decide +kernel
theorem dX10_isStory_27 : decode cX10_isStory 27 = .ok (.ireturn, 1) := by decide +kernel
theorem dX10_isVillage_0 : decode cX10_isVillage 0 = .ok (.aload_n 0, 1) := by decide +kernel
theorem dX10_isVillage_1 : decode cX10_isVillage 1 = .ok (.getfield 312, 3) := by decide +kernel
theorem dX10_isVillage_4 : decode cX10_isVillage 4 = .ok (.ifnull 22, 3) := by decide +kernel
theorem dX10_isVillage_7 : decode cX10_isVillage 7 = .ok (.iload_n 1, 1) := by decide +kernel
theorem dX10_isVillage_8 : decode cX10_isVillage 8 = .ok (.ifCond .lt 18, 3) := by decide +kernel
theorem dX10_isVillage_11 : decode cX10_isVillage 11 = .ok (.iload_n 1, 1) := by decide +kernel
theorem dX10_isVillage_12 : decode cX10_isVillage 12 = .ok (.aload_n 0, 1) := by decide +kernel
theorem dX10_isVillage_13 : decode cX10_isVillage 13 = .ok (.getfield 312, 3) := by decide +kernel
theorem dX10_isVillage_16 : decode cX10_isVillage 16 = .ok (.getfield 274, 3) := by decide +kernel
theorem dX10_isVillage_19 : decode cX10_isVillage 19 = .ok (.if_icmp .ge 7, 3) := by decide +kernel
theorem dX10_isVillage_22 : decode cX10_isVillage 22 = .ok (.iconst 1, 1) := by decide +kernel
theorem dX10_isVillage_23 : decode cX10_isVillage 23 = .ok (.goto 4, 3) := by decide +kernel
theorem dX10_isVillage_26 : decode cX10_isVillage 26 = .ok (.iconst 0, 1) := by decide +kernel
theorem dX10_isVillage_27 : decode cX10_isVillage 27 = .ok (.ireturn, 1) := by decide +kernel
theorem dX10_level_0 : decode cX10_level 0 = .ok (.aload_n 0, 1) := by decide +kernel
theorem dX10_level_1 : decode cX10_level 1 = .ok (.iconst 0, 1) := by decide +kernel
theorem dX10_level_2 : decode cX10_level 2 = .ok (.putfield 46, 3) := by decide +kernel
theorem dX10_level_5 : decode cX10_level 5 = .ok (.aload_n 0, 1) := by decide +kernel
theorem dX10_level_6 : decode cX10_level 6 = .ok (.iload_n 1, 1) := by decide +kernel
theorem dX10_level_7 : decode cX10_level 7 = .ok (.invokevirtual 323, 3) := by decide +kernel
theorem dX10_level_10 : decode cX10_level 10 = .ok (.ifCond .ne 9, 3) := by decide +kernel
theorem dX10_level_13 : decode cX10_level 13 = .ok (.aload_n 0, 1) := by decide +kernel
theorem dX10_level_14 : decode cX10_level 14 = .ok (.iconst 1, 1) := by decide +kernel
theorem dX10_level_15 : decode cX10_level 15 = .ok (.invokevirtual 305, 3) := by decide +kernel
theorem dX10_level_18 : decode cX10_level 18 = .ok (.ireturn, 1) := by decide +kernel
theorem dX10_level_19 : decode cX10_level 19 = .ok (.aload_n 0, 1) := by decide +kernel
theorem dX10_level_20 : decode cX10_level 20 = .ok (.bipush 60, 2) := by decide +kernel
theorem dX10_level_22 : decode cX10_level 22 = .ok (.iconst (-1), 1) := by decide +kernel
theorem dX10_level_23 : decode cX10_level 23 = .ok (.invokevirtual 326, 3) := by decide +kernel
theorem dX10_level_26 : decode cX10_level 26 = .ok (.aload_n 0, 1) := by decide +kernel
theorem dX10_level_27 : decode cX10_level 27 = .ok (.aload_n 0, 1) := by decide +kernel
theorem dX10_level_28 : decode cX10_level 28 = .ok (.getfield 17, 3) := by decide +kernel
theorem dX10_level_31 : decode cX10_level 31 = .ok (.iload_n 1, 1) := by decide +kernel
theorem dX10_level_32 : decode cX10_level 32 = .ok (.iaload, 1) := by decide +kernel
theorem dX10_level_33 : decode cX10_level 33 = .ok (.invokevirtual 317, 3) := by decide +kernel
theorem dX10_level_36 : decode cX10_level 36 = .ok (.ireturn, 1) := by decide +kernel
theorem dX10_plan_0 : decode cX10_plan 0 = .ok (.aload_n 0, 1) := by decide +kernel
theorem dX10_plan_1 : decode cX10_plan 1 = .ok (.iconst 0, 1) := by decide +kernel
theorem dX10_plan_2 : decode cX10_plan 2 = .ok (.putfield 46, 3) := by decide +kernel
theorem dX10_plan_5 : decode cX10_plan 5 = .ok (.aload_n 0, 1) := by decide +kernel
theorem dX10_plan_6 : decode cX10_plan 6 = .ok (.getfield 312, 3) := by decide +kernel
theorem dX10_plan_9 : decode cX10_plan 9 = .ok (.ifnonnull 9, 3) := by decide +kernel
theorem dX10_plan_12 : decode cX10_plan 12 = .ok (.aload_n 0, 1) := by decide +kernel
theorem dX10_plan_13 : decode cX10_plan 13 = .ok (.iconst 1, 1) := by decide +kernel
theorem dX10_plan_14 : decode cX10_plan 14 = .ok (.invokevirtual 305, 3) := by decide +kernel
theorem dX10_plan_17 : decode cX10_plan 17 = .ok (.ireturn, 1) := by decide +kernel
theorem dX10_plan_18 : decode cX10_plan 18 = .ok (.iload_n 1, 1) := by decide +kernel
theorem dX10_plan_19 : decode cX10_plan 19 = .ok (.iconst 0, 1) := by decide +kernel
theorem dX10_plan_20 : decode cX10_plan 20 = .ok (.bipush 59, 2) := by decide +kernel
theorem dX10_plan_22 : decode cX10_plan 22 = .ok (.invokestatic 108, 3) := by decide +kernel
theorem dX10_plan_25 : decode cX10_plan 25 = .ok (.ifCond .eq 14, 3) := by decide +kernel
theorem dX10_plan_28 : decode cX10_plan 28 = .ok (.iload_n 2, 1) := by decide +kernel
theorem dX10_plan_29 : decode cX10_plan 29 = .ok (.iconst 0, 1) := by decide +kernel
theorem dX10_plan_30 : decode cX10_plan 30 = .ok (.sipush 999, 3) := by decide +kernel
theorem dX10_plan_33 : decode cX10_plan 33 = .ok (.invokestatic 108, 3) := by decide +kernel
theorem dX10_plan_36 : decode cX10_plan 36 = .ok (.ifCond .ne 9, 3) := by decide +kernel
theorem dX10_plan_39 : decode cX10_plan 39 = .ok (.aload_n 0, 1) := by decide +kernel
theorem dX10_plan_40 : decode cX10_plan 40 = .ok (.iconst 2, 1) := by decide +kernel
theorem dX10_plan_41 : decode cX10_plan 41 = .ok (.invokevirtual 305, 3) := by decide +kernel
theorem dX10_plan_44 : decode cX10_plan 44 = .ok (.ireturn, 1) := by decide +kernel
theorem dX10_plan_45 : decode cX10_plan 45 = .ok (.aload_n 0, 1) := by decide +kernel
theorem dX10_plan_46 : decode cX10_plan 46 = .ok (.getfield 312, 3) := by decide +kernel
theorem dX10_plan_49 : decode cX10_plan 49 = .ok (.getfield 224, 3) := by decide +kernel
theorem dX10_plan_52 : decode cX10_plan 52 = .ok (.bipush 16, 2) := by decide +kernel
theorem dX10_plan_54 : decode cX10_plan 54 = .ok (.if_icmp .ne 9, 3) := by decide +kernel
theorem dX10_plan_57 : decode cX10_plan 57 = .ok (.aload_n 0, 1) := by decide +kernel
theorem dX10_plan_58 : decode cX10_plan 58 = .ok (.iconst 3, 1) := by decide +kernel
theorem dX10_plan_59 : decode cX10_plan 59 = .ok (.invokevirtual 305, 3) := by decide +kernel
theorem dX10_plan_62 : decode cX10_plan 62 = .ok (.ireturn, 1) := by decide +kernel
theorem dX10_plan_63 : decode cX10_plan 63 = .ok (.aload_n 0, 1) := by decide +kernel
theorem dX10_plan_64 : decode cX10_plan 64 = .ok (.getfield 312, 3) := by decide +kernel
theorem dX10_plan_67 : decode cX10_plan 67 = .ok (.getfield 228, 3) := by decide +kernel
theorem dX10_plan_70 : decode cX10_plan 70 = .ok (.aload_n 0, 1) := by decide +kernel
theorem dX10_plan_71 : decode cX10_plan 71 = .ok (.getfield 312, 3) := by decide +kernel
theorem dX10_plan_74 : decode cX10_plan 74 = .ok (.getfield 224, 3) := by decide +kernel
theorem dX10_plan_77 : decode cX10_plan 77 = .ok (.iload_n 1, 1) := by decide +kernel
theorem dX10_plan_78 : decode cX10_plan 78 = .ok (.iastore, 1) := by decide +kernel
theorem dX10_plan_79 : decode cX10_plan 79 = .ok (.aload_n 0, 1) := by decide +kernel
theorem dX10_plan_80 : decode cX10_plan 80 = .ok (.getfield 312, 3) := by decide +kernel
theorem dX10_plan_83 : decode cX10_plan 83 = .ok (.getfield 231, 3) := by decide +kernel
theorem dX10_plan_86 : decode cX10_plan 86 = .ok (.aload_n 0, 1) := by decide +kernel
theorem dX10_plan_87 : decode cX10_plan 87 = .ok (.getfield 312, 3) := by decide +kernel
theorem dX10_plan_90 : decode cX10_plan 90 = .ok (.getfield 224, 3) := by decide +kernel
theorem dX10_plan_93 : decode cX10_plan 93 = .ok (.iload_n 2, 1) := by decide +kernel
theorem dX10_plan_94 : decode cX10_plan 94 = .ok (.iastore, 1) := by decide +kernel
theorem dX10_plan_95 : decode cX10_plan 95 = .ok (.aload_n 0, 1) := by decide +kernel
theorem dX10_plan_96 : decode cX10_plan 96 = .ok (.getfield 312, 3) := by decide +kernel
theorem dX10_plan_99 : decode cX10_plan 99 = .ok (.dup, 1) := by decide +kernel
theorem dX10_plan_100 : decode cX10_plan 100 = .ok (.getfield 224, 3) := by decide +kernel
theorem dX10_plan_103 : decode cX10_plan 103 = .ok (.iconst 1, 1) := by decide +kernel
theorem dX10_plan_104 : decode cX10_plan 104 = .ok (.iadd, 1) := by decide +kernel
theorem dX10_plan_105 : decode cX10_plan 105 = .ok (.putfield 224, 3) := by decide +kernel
theorem dX10_plan_108 : decode cX10_plan 108 = .ok (.aload_n 0, 1) := by decide +kernel
theorem dX10_plan_109 : decode cX10_plan 109 = .ok (.aload_n 0, 1) := by decide +kernel
theorem dX10_plan_110 : decode cX10_plan 110 = .ok (.getfield 312, 3) := by decide +kernel
theorem dX10_plan_113 : decode cX10_plan 113 = .ok (.getfield 224, 3) := by decide +kernel
theorem dX10_plan_116 : decode cX10_plan 116 = .ok (.invokevirtual 317, 3) := by decide +kernel
theorem dX10_plan_119 : decode cX10_plan 119 = .ok (.ireturn, 1) := by decide +kernel
theorem dX10_undo_0 : decode cX10_undo 0 = .ok (.aload_n 0, 1) := by decide +kernel
theorem dX10_undo_1 : decode cX10_undo 1 = .ok (.iconst 0, 1) := by decide +kernel
theorem dX10_undo_2 : decode cX10_undo 2 = .ok (.putfield 46, 3) := by decide +kernel
theorem dX10_undo_5 : decode cX10_undo 5 = .ok (.aload_n 0, 1) := by decide +kernel
theorem dX10_undo_6 : decode cX10_undo 6 = .ok (.getfield 312, 3) := by decide +kernel
theorem dX10_undo_9 : decode cX10_undo 9 = .ok (.ifnull 20, 3) := by decide +kernel
theorem dX10_undo_12 : decode cX10_undo 12 = .ok (.aload_n 0, 1) := by decide +kernel
theorem dX10_undo_13 : decode cX10_undo 13 = .ok (.getfield 312, 3) := by decide +kernel
theorem dX10_undo_16 : decode cX10_undo 16 = .ok (.getfield 224, 3) := by decide +kernel
theorem dX10_undo_19 : decode cX10_undo 19 = .ok (.aload_n 0, 1) := by decide +kernel
theorem dX10_undo_20 : decode cX10_undo 20 = .ok (.getfield 312, 3) := by decide +kernel
theorem dX10_undo_23 : decode cX10_undo 23 = .ok (.getfield 234, 3) := by decide +kernel
theorem dX10_undo_26 : decode cX10_undo 26 = .ok (.if_icmp .ne 12, 3) := by decide +kernel
theorem dX10_undo_29 : decode cX10_undo 29 = .ok (.aload_n 0, 1) := by decide +kernel
theorem dX10_undo_30 : decode cX10_undo 30 = .ok (.bipush 6, 2) := by decide +kernel
theorem dX10_undo_32 : decode cX10_undo 32 = .ok (.invokevirtual 305, 3) := by decide +kernel
theorem dX10_undo_35 : decode cX10_undo 35 = .ok (.pop, 1) := by decide +kernel
theorem dX10_undo_36 : decode cX10_undo 36 = .ok (.iconst 0, 1) := by decide +kernel
theorem dX10_undo_37 : decode cX10_undo 37 = .ok (.ireturn, 1) := by decide +kernel
theorem dX10_undo_38 : decode cX10_undo 38 = .ok (.aload_n 0, 1) := by decide +kernel
theorem dX10_undo_39 : decode cX10_undo 39 = .ok (.getfield 312, 3) := by decide +kernel
theorem dX10_undo_42 : decode cX10_undo 42 = .ok (.dup, 1) := by decide +kernel
theorem dX10_undo_43 : decode cX10_undo 43 = .ok (.getfield 224, 3) := by decide +kernel
theorem dX10_undo_46 : decode cX10_undo 46 = .ok (.iconst 1, 1) := by decide +kernel
theorem dX10_undo_47 : decode cX10_undo 47 = .ok (.isub, 1) := by decide +kernel
theorem dX10_undo_48 : decode cX10_undo 48 = .ok (.putfield 224, 3) := by decide +kernel
theorem dX10_undo_51 : decode cX10_undo 51 = .ok (.aload_n 0, 1) := by decide +kernel
theorem dX10_undo_52 : decode cX10_undo 52 = .ok (.iconst 0, 1) := by decide +kernel
theorem dX10_undo_53 : decode cX10_undo 53 = .ok (.invokevirtual 317, 3) := by decide +kernel
theorem dX10_undo_56 : decode cX10_undo 56 = .ok (.pop, 1) := by decide +kernel
theorem dX10_undo_57 : decode cX10_undo 57 = .ok (.iconst 1, 1) := by decide +kernel
theorem dX10_undo_58 : decode cX10_undo 58 = .ok (.ireturn, 1) := by decide +kernel
theorem dX10_addOf_0 : decode cX10_addOf 0 = .ok (.aload_n 0, 1) := by decide +kernel
theorem dX10_addOf_1 : decode cX10_addOf 1 = .ok (.getfield 312, 3) := by decide +kernel
theorem dX10_addOf_4 : decode cX10_addOf 4 = .ok (.getfield 268, 3) := by decide +kernel
theorem dX10_addOf_7 : decode cX10_addOf 7 = .ok (.iload_n 1, 1) := by decide +kernel
theorem dX10_addOf_8 : decode cX10_addOf 8 = .ok (.iaload, 1) := by decide +kernel
theorem dX10_addOf_9 : decode cX10_addOf 9 = .ok (.istore 4, 2) := by decide +kernel
theorem dX10_addOf_11 : decode cX10_addOf 11 = .ok (.aload_n 0, 1) := by decide +kernel
theorem dX10_addOf_12 : decode cX10_addOf 12 = .ok (.getfield 312, 3) := by decide +kernel
theorem dX10_addOf_15 : decode cX10_addOf 15 = .ok (.getfield 265, 3) := by decide +kernel
theorem dX10_addOf_18 : decode cX10_addOf 18 = .ok (.iload_n 1, 1) := by decide +kernel
theorem dX10_addOf_19 : decode cX10_addOf 19 = .ok (.iaload, 1) := by decide +kernel
theorem dX10_addOf_20 : decode cX10_addOf 20 = .ok (.tableswitch 82 1 5 #[36, 44, 82, 82, 65], 36) := by decide +kernel
theorem dX10_addOf_56 : decode cX10_addOf 56 = .ok (.aload_n 0, 1) := by decide +kernel
theorem dX10_addOf_57 : decode cX10_addOf 57 = .ok (.iload 4, 2) := by decide +kernel
theorem dX10_addOf_59 : decode cX10_addOf 59 = .ok (.iload_n 2, 1) := by decide +kernel
theorem dX10_addOf_60 : decode cX10_addOf 60 = .ok (.invokevirtual 329, 3) := by decide +kernel
theorem dX10_addOf_63 : decode cX10_addOf 63 = .ok (.ireturn, 1) := by decide +kernel
theorem dX10_addOf_64 : decode cX10_addOf 64 = .ok (.iload 4, 2) := by decide +kernel
theorem dX10_addOf_66 : decode cX10_addOf 66 = .ok (.aload_n 0, 1) := by decide +kernel
theorem dX10_addOf_67 : decode cX10_addOf 67 = .ok (.aload_n 0, 1) := by decide +kernel
theorem dX10_addOf_68 : decode cX10_addOf 68 = .ok (.getfield 312, 3) := by decide +kernel
theorem dX10_addOf_71 : decode cX10_addOf 71 = .ok (.getfield 271, 3) := by decide +kernel
theorem dX10_addOf_74 : decode cX10_addOf 74 = .ok (.iload_n 1, 1) := by decide +kernel
theorem dX10_addOf_75 : decode cX10_addOf 75 = .ok (.iaload, 1) := by decide +kernel
theorem dX10_addOf_76 : decode cX10_addOf 76 = .ok (.iload_n 2, 1) := by decide +kernel
theorem dX10_addOf_77 : decode cX10_addOf 77 = .ok (.invokevirtual 332, 3) := by decide +kernel
theorem dX10_addOf_80 : decode cX10_addOf 80 = .ok (.imul, 1) := by decide +kernel
theorem dX10_addOf_81 : decode cX10_addOf 81 = .ok (.bipush 100, 2) := by decide +kernel
theorem dX10_addOf_83 : decode cX10_addOf 83 = .ok (.idiv, 1) := by decide +kernel
theorem dX10_addOf_84 : decode cX10_addOf 84 = .ok (.ireturn, 1) := by decide +kernel
theorem dX10_addOf_85 : decode cX10_addOf 85 = .ok (.iload_n 3, 1) := by decide +kernel
theorem dX10_addOf_86 : decode cX10_addOf 86 = .ok (.ifCond .eq 14, 3) := by decide +kernel
theorem dX10_addOf_89 : decode cX10_addOf 89 = .ok (.iload 4, 2) := by decide +kernel
theorem dX10_addOf_91 : decode cX10_addOf 91 = .ok (.aload_n 0, 1) := by decide +kernel
theorem dX10_addOf_92 : decode cX10_addOf 92 = .ok (.iload_n 2, 1) := by decide +kernel
theorem dX10_addOf_93 : decode cX10_addOf 93 = .ok (.invokevirtual 335, 3) := by decide +kernel
theorem dX10_addOf_96 : decode cX10_addOf 96 = .ok (.imul, 1) := by decide +kernel
theorem dX10_addOf_97 : decode cX10_addOf 97 = .ok (.goto 4, 3) := by decide +kernel
theorem dX10_addOf_100 : decode cX10_addOf 100 = .ok (.iconst 0, 1) := by decide +kernel
theorem dX10_addOf_101 : decode cX10_addOf 101 = .ok (.ireturn, 1) := by decide +kernel
theorem dX10_addOf_102 : decode cX10_addOf 102 = .ok (.iload 4, 2) := by decide +kernel
theorem dX10_addOf_104 : decode cX10_addOf 104 = .ok (.aload_n 0, 1) := by decide +kernel
theorem dX10_addOf_105 : decode cX10_addOf 105 = .ok (.getfield 17, 3) := by decide +kernel
theorem dX10_addOf_108 : decode cX10_addOf 108 = .ok (.iload_n 2, 1) := by decide +kernel
theorem dX10_addOf_109 : decode cX10_addOf 109 = .ok (.iaload, 1) := by decide +kernel
theorem dX10_addOf_110 : decode cX10_addOf 110 = .ok (.imul, 1) := by decide +kernel
theorem dX10_addOf_111 : decode cX10_addOf 111 = .ok (.bipush 100, 2) := by decide +kernel
theorem dX10_addOf_113 : decode cX10_addOf 113 = .ok (.idiv, 1) := by decide +kernel
theorem dX10_addOf_114 : decode cX10_addOf 114 = .ok (.ireturn, 1) := by decide +kernel
theorem dX10_newOf_0 : decode cX10_newOf 0 = .ok (.aload_n 0, 1) := by decide +kernel
theorem dX10_newOf_1 : decode cX10_newOf 1 = .ok (.getfield 312, 3) := by decide +kernel
theorem dX10_newOf_4 : decode cX10_newOf 4 = .ok (.getfield 167, 3) := by decide +kernel
theorem dX10_newOf_7 : decode cX10_newOf 7 = .ok (.istore_n 3, 1) := by decide +kernel
theorem dX10_newOf_8 : decode cX10_newOf 8 = .ok (.iconst 0, 1) := by decide +kernel
theorem dX10_newOf_9 : decode cX10_newOf 9 = .ok (.istore 4, 2) := by decide +kernel
theorem dX10_newOf_11 : decode cX10_newOf 11 = .ok (.iload 4, 2) := by decide +kernel
theorem dX10_newOf_13 : decode cX10_newOf 13 = .ok (.iload_n 2, 1) := by decide +kernel
theorem dX10_newOf_14 : decode cX10_newOf 14 = .ok (.if_icmp .ge 32, 3) := by decide +kernel
theorem dX10_newOf_17 : decode cX10_newOf 17 = .ok (.aload_n 0, 1) := by decide +kernel
theorem dX10_newOf_18 : decode cX10_newOf 18 = .ok (.getfield 17, 3) := by decide +kernel
theorem dX10_newOf_21 : decode cX10_newOf 21 = .ok (.iload 4, 2) := by decide +kernel
theorem dX10_newOf_23 : decode cX10_newOf 23 = .ok (.iaload, 1) := by decide +kernel
theorem dX10_newOf_24 : decode cX10_newOf 24 = .ok (.iload_n 3, 1) := by decide +kernel
theorem dX10_newOf_25 : decode cX10_newOf 25 = .ok (.if_icmp .le 13, 3) := by decide +kernel
theorem dX10_newOf_28 : decode cX10_newOf 28 = .ok (.aload_n 0, 1) := by decide +kernel
theorem dX10_newOf_29 : decode cX10_newOf 29 = .ok (.getfield 17, 3) := by decide +kernel
theorem dX10_newOf_32 : decode cX10_newOf 32 = .ok (.iload 4, 2) := by decide +kernel
theorem dX10_newOf_34 : decode cX10_newOf 34 = .ok (.iaload, 1) := by decide +kernel
theorem dX10_newOf_35 : decode cX10_newOf 35 = .ok (.goto 4, 3) := by decide +kernel
theorem dX10_newOf_38 : decode cX10_newOf 38 = .ok (.iload_n 3, 1) := by decide +kernel
theorem dX10_newOf_39 : decode cX10_newOf 39 = .ok (.istore_n 3, 1) := by decide +kernel
theorem dX10_newOf_40 : decode cX10_newOf 40 = .ok (.iinc 4 1, 3) := by decide +kernel
theorem dX10_newOf_43 : decode cX10_newOf 43 = .ok (.goto (-32), 3) := by decide +kernel
theorem dX10_newOf_46 : decode cX10_newOf 46 = .ok (.aload_n 0, 1) := by decide +kernel
theorem dX10_newOf_47 : decode cX10_newOf 47 = .ok (.getfield 17, 3) := by decide +kernel
theorem dX10_newOf_50 : decode cX10_newOf 50 = .ok (.iload_n 2, 1) := by decide +kernel
theorem dX10_newOf_51 : decode cX10_newOf 51 = .ok (.iaload, 1) := by decide +kernel
theorem dX10_newOf_52 : decode cX10_newOf 52 = .ok (.iload_n 3, 1) := by decide +kernel
theorem dX10_newOf_53 : decode cX10_newOf 53 = .ok (.if_icmp .le 19, 3) := by decide +kernel
theorem dX10_newOf_56 : decode cX10_newOf 56 = .ok (.iload_n 1, 1) := by decide +kernel
theorem dX10_newOf_57 : decode cX10_newOf 57 = .ok (.aload_n 0, 1) := by decide +kernel
theorem dX10_newOf_58 : decode cX10_newOf 58 = .ok (.getfield 17, 3) := by decide +kernel
theorem dX10_newOf_61 : decode cX10_newOf 61 = .ok (.iload_n 2, 1) := by decide +kernel
theorem dX10_newOf_62 : decode cX10_newOf 62 = .ok (.iaload, 1) := by decide +kernel
theorem dX10_newOf_63 : decode cX10_newOf 63 = .ok (.iload_n 3, 1) := by decide +kernel
theorem dX10_newOf_64 : decode cX10_newOf 64 = .ok (.isub, 1) := by decide +kernel
theorem dX10_newOf_65 : decode cX10_newOf 65 = .ok (.imul, 1) := by decide +kernel
theorem dX10_newOf_66 : decode cX10_newOf 66 = .ok (.bipush 100, 2) := by decide +kernel
theorem dX10_newOf_68 : decode cX10_newOf 68 = .ok (.idiv, 1) := by decide +kernel
theorem dX10_newOf_69 : decode cX10_newOf 69 = .ok (.goto 4, 3) := by decide +kernel
theorem dX10_newOf_72 : decode cX10_newOf 72 = .ok (.iconst 0, 1) := by decide +kernel
theorem dX10_newOf_73 : decode cX10_newOf 73 = .ok (.ireturn, 1) := by decide +kernel
theorem dX10_meanOf_0 : decode cX10_meanOf 0 = .ok (.iload_n 2, 1) := by decide +kernel
theorem dX10_meanOf_1 : decode cX10_meanOf 1 = .ok (.iload_n 1, 1) := by decide +kernel
theorem dX10_meanOf_2 : decode cX10_meanOf 2 = .ok (.isub, 1) := by decide +kernel
theorem dX10_meanOf_3 : decode cX10_meanOf 3 = .ok (.iconst 1, 1) := by decide +kernel
theorem dX10_meanOf_4 : decode cX10_meanOf 4 = .ok (.iadd, 1) := by decide +kernel
theorem dX10_meanOf_5 : decode cX10_meanOf 5 = .ok (.ifCond .ge 7, 3) := by decide +kernel
theorem dX10_meanOf_8 : decode cX10_meanOf 8 = .ok (.iconst 0, 1) := by decide +kernel
theorem dX10_meanOf_9 : decode cX10_meanOf 9 = .ok (.goto 8, 3) := by decide +kernel
theorem dX10_meanOf_12 : decode cX10_meanOf 12 = .ok (.iload_n 2, 1) := by decide +kernel
theorem dX10_meanOf_13 : decode cX10_meanOf 13 = .ok (.iload_n 1, 1) := by decide +kernel
theorem dX10_meanOf_14 : decode cX10_meanOf 14 = .ok (.isub, 1) := by decide +kernel
theorem dX10_meanOf_15 : decode cX10_meanOf 15 = .ok (.iconst 1, 1) := by decide +kernel
theorem dX10_meanOf_16 : decode cX10_meanOf 16 = .ok (.iadd, 1) := by decide +kernel
theorem dX10_meanOf_17 : decode cX10_meanOf 17 = .ok (.istore_n 3, 1) := by decide +kernel
theorem dX10_meanOf_18 : decode cX10_meanOf 18 = .ok (.iconst 0, 1) := by decide +kernel
theorem dX10_meanOf_19 : decode cX10_meanOf 19 = .ok (.istore 4, 2) := by decide +kernel
theorem dX10_meanOf_21 : decode cX10_meanOf 21 = .ok (.iload_n 3, 1) := by decide +kernel
theorem dX10_meanOf_22 : decode cX10_meanOf 22 = .ok (.istore 5, 2) := by decide +kernel
theorem dX10_meanOf_24 : decode cX10_meanOf 24 = .ok (.iload 5, 2) := by decide +kernel
theorem dX10_meanOf_26 : decode cX10_meanOf 26 = .ok (.iload_n 2, 1) := by decide +kernel
theorem dX10_meanOf_27 : decode cX10_meanOf 27 = .ok (.if_icmp .gt 21, 3) := by decide +kernel
theorem dX10_meanOf_30 : decode cX10_meanOf 30 = .ok (.iload 4, 2) := by decide +kernel
theorem dX10_meanOf_32 : decode cX10_meanOf 32 = .ok (.aload_n 0, 1) := by decide +kernel
theorem dX10_meanOf_33 : decode cX10_meanOf 33 = .ok (.getfield 17, 3) := by decide +kernel
theorem dX10_meanOf_36 : decode cX10_meanOf 36 = .ok (.iload 5, 2) := by decide +kernel
theorem dX10_meanOf_38 : decode cX10_meanOf 38 = .ok (.iaload, 1) := by decide +kernel
theorem dX10_meanOf_39 : decode cX10_meanOf 39 = .ok (.iadd, 1) := by decide +kernel
theorem dX10_meanOf_40 : decode cX10_meanOf 40 = .ok (.istore 4, 2) := by decide +kernel
theorem dX10_meanOf_42 : decode cX10_meanOf 42 = .ok (.iinc 5 1, 3) := by decide +kernel
theorem dX10_meanOf_45 : decode cX10_meanOf 45 = .ok (.goto (-21), 3) := by decide +kernel
theorem dX10_meanOf_48 : decode cX10_meanOf 48 = .ok (.iload 4, 2) := by decide +kernel
theorem dX10_meanOf_50 : decode cX10_meanOf 50 = .ok (.iload_n 2, 1) := by decide +kernel
theorem dX10_meanOf_51 : decode cX10_meanOf 51 = .ok (.iload_n 3, 1) := by decide +kernel

