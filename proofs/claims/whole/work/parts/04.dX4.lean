theorem dX4_init_0 : decode cX4_init 0 = .ok (.aload_n 0, 1) := by decide +kernel
theorem dX4_init_1 : decode cX4_init 1 = .ok (.invokespecial 1, 3) := by decide +kernel
theorem dX4_init_4 : decode cX4_init 4 = .ok (.aload_n 0, 1) := by decide +kernel
theorem dX4_init_5 : decode cX4_init 5 = .ok (.bipush 24, 2) := by decide +kernel
theorem dX4_init_7 : decode cX4_init 7 = .ok (.newarray .int, 2) := by decide +kernel
theorem dX4_init_9 : decode cX4_init 9 = .ok (.putfield 7, 3) := by decide +kernel
theorem dX4_init_12 : decode cX4_init 12 = .ok (.aload_n 0, 1) := by decide +kernel
theorem dX4_init_13 : decode cX4_init 13 = .ok (.bipush 24, 2) := by decide +kernel
theorem dX4_init_15 : decode cX4_init 15 = .ok (.newarray .int, 2) := by decide +kernel
theorem dX4_init_17 : decode cX4_init 17 = .ok (.putfield 13, 3) := by decide +kernel
theorem dX4_init_20 : decode cX4_init 20 = .ok (.aload_n 0, 1) := by decide +kernel
theorem dX4_init_21 : decode cX4_init 21 = .ok (.sipush 600, 3) := by decide +kernel
theorem dX4_init_24 : decode cX4_init 24 = .ok (.newarray .int, 2) := by decide +kernel
theorem dX4_init_26 : decode cX4_init 26 = .ok (.putfield 16, 3) := by decide +kernel
theorem dX4_init_29 : decode cX4_init 29 = .ok (.aload_n 0, 1) := by decide +kernel
theorem dX4_init_30 : decode cX4_init 30 = .ok (.bipush 12, 2) := by decide +kernel
theorem dX4_init_32 : decode cX4_init 32 = .ok (.newarray .int, 2) := by decide +kernel
theorem dX4_init_34 : decode cX4_init 34 = .ok (.putfield 19, 3) := by decide +kernel
theorem dX4_init_37 : decode cX4_init 37 = .ok (.aload_n 0, 1) := by decide +kernel
theorem dX4_init_38 : decode cX4_init 38 = .ok (.sipush 144, 3) := by decide +kernel
theorem dX4_init_41 : decode cX4_init 41 = .ok (.newarray .int, 2) := by decide +kernel
theorem dX4_init_43 : decode cX4_init 43 = .ok (.putfield 22, 3) := by decide +kernel
theorem dX4_init_46 : decode cX4_init 46 = .ok (.aload_n 0, 1) := by decide +kernel
theorem dX4_init_47 : decode cX4_init 47 = .ok (.bipush 16, 2) := by decide +kernel
theorem dX4_init_49 : decode cX4_init 49 = .ok (.newarray .int, 2) := by decide +kernel
theorem dX4_init_51 : decode cX4_init 51 = .ok (.putfield 25, 3) := by decide +kernel
theorem dX4_init_54 : decode cX4_init 54 = .ok (.aload_n 0, 1) := by decide +kernel
theorem dX4_init_55 : decode cX4_init 55 = .ok (.bipush 16, 2) := by decide +kernel
theorem dX4_init_57 : decode cX4_init 57 = .ok (.newarray .int, 2) := by decide +kernel
theorem dX4_init_59 : decode cX4_init 59 = .ok (.putfield 28, 3) := by decide +kernel
theorem dX4_init_62 : decode cX4_init 62 = .ok (.aload_n 0, 1) := by decide +kernel
theorem dX4_init_63 : decode cX4_init 63 = .ok (.bipush 16, 2) := by decide +kernel
theorem dX4_init_65 : decode cX4_init 65 = .ok (.newarray .int, 2) := by decide +kernel
theorem dX4_init_67 : decode cX4_init 67 = .ok (.putfield 31, 3) := by decide +kernel
theorem dX4_init_70 : decode cX4_init 70 = .ok (.aload_n 0, 1) := by decide +kernel
theorem dX4_init_71 : decode cX4_init 71 = .ok (.bipush 16, 2) := by decide +kernel
theorem dX4_init_73 : decode cX4_init 73 = .ok (.newarray .int, 2) := by decide +kernel
theorem dX4_init_75 : decode cX4_init 75 = .ok (.putfield 34, 3) := by decide +kernel
theorem dX4_init_78 : decode cX4_init 78 = .ok (.iconst 0, 1) := by decide +kernel
theorem dX4_init_79 : decode cX4_init 79 = .ok (.istore_n 1, 1) := by decide +kernel
theorem dX4_init_80 : decode cX4_init 80 = .ok (.iload_n 1, 1) := by decide +kernel
theorem dX4_init_81 : decode cX4_init 81 = .ok (.bipush 24, 2) := by decide +kernel
theorem dX4_init_83 : decode cX4_init 83 = .ok (.if_icmp .ge 16, 3) := by decide +kernel
theorem dX4_init_86 : decode cX4_init 86 = .ok (.aload_n 0, 1) := by decide +kernel
theorem dX4_init_87 : decode cX4_init 87 = .ok (.getfield 7, 3) := by decide +kernel
theorem dX4_init_90 : decode cX4_init 90 = .ok (.iload_n 1, 1) := by decide +kernel
theorem dX4_init_91 : decode cX4_init 91 = .ok (.iconst (-1), 1) := by decide +kernel
theorem dX4_init_92 : decode cX4_init 92 = .ok (.iastore, 1) := by decide +kernel
theorem dX4_init_93 : decode cX4_init 93 = .ok (.iinc 1 1, 3) := by decide +kernel
theorem dX4_init_96 : decode cX4_init 96 = .ok (.goto (-16), 3) := by decide +kernel
theorem dX4_init_99 : decode cX4_init 99 = .ok (.return_, 1) := by decide +kernel
theorem dX4_in_0 : decode cX4_in 0 = .ok (.iload_n 0, 1) := by decide +kernel
theorem dX4_in_1 : decode cX4_in 1 = .ok (.iload_n 1, 1) := by decide +kernel
theorem dX4_in_2 : decode cX4_in 2 = .ok (.if_icmp .lt 12, 3) := by decide +kernel
theorem dX4_in_5 : decode cX4_in 5 = .ok (.iload_n 0, 1) := by decide +kernel
theorem dX4_in_6 : decode cX4_in 6 = .ok (.iload_n 2, 1) := by decide +kernel
theorem dX4_in_7 : decode cX4_in 7 = .ok (.if_icmp .gt 7, 3) := by decide +kernel
theorem dX4_in_10 : decode cX4_in 10 = .ok (.iconst 1, 1) := by decide +kernel
theorem dX4_in_11 : decode cX4_in 11 = .ok (.goto 4, 3) := by decide +kernel
theorem dX4_in_14 : decode cX4_in 14 = .ok (.iconst 0, 1) := by decide +kernel
theorem dX4_in_15 : decode cX4_in 15 = .ok (.ireturn, 1) := by decide +kernel
theorem dX4_isBank_0 : decode cX4_isBank 0 = .ok (.iload_n 0, 1) := by decide +kernel
theorem dX4_isBank_1 : decode cX4_isBank 1 = .ok (.iconst 0, 1) := by decide +kernel
theorem dX4_isBank_2 : decode cX4_isBank 2 = .ok (.iconst 5, 1) := by decide +kernel
theorem dX4_isBank_3 : decode cX4_isBank 3 = .ok (.invokestatic 37, 3) := by decide +kernel
theorem dX4_isBank_6 : decode cX4_isBank 6 = .ok (.ireturn, 1) := by decide +kernel
theorem dX4_isStrip_0 : decode cX4_isStrip 0 = .ok (.iload_n 0, 1) := by decide +kernel
theorem dX4_isStrip_1 : decode cX4_isStrip 1 = .ok (.iconst 0, 1) := by decide +kernel
theorem dX4_isStrip_2 : decode cX4_isStrip 2 = .ok (.iconst 3, 1) := by decide +kernel
theorem dX4_isStrip_3 : decode cX4_isStrip 3 = .ok (.invokestatic 37, 3) := by decide +kernel
theorem dX4_isStrip_6 : decode cX4_isStrip 6 = .ok (.ireturn, 1) := by decide +kernel
theorem dX4_begins_0 : decode cX4_begins 0 = .ok (.aload_n 0, 1) := by decide +kernel
theorem dX4_begins_1 : decode cX4_begins 1 = .ok (.iload_n 1, 1) := by decide +kernel
theorem dX4_begins_2 : decode cX4_begins 2 = .ok (.ifCond .eq 7, 3) := by decide +kernel
theorem dX4_begins_5 : decode cX4_begins 5 = .ok (.iconst 0, 1) := by decide +kernel
theorem dX4_begins_6 : decode cX4_begins 6 = .ok (.goto 4, 3) := by decide +kernel
theorem dX4_begins_9 : decode cX4_begins 9 = .ok (.iconst 1, 1) := by decide +kernel
theorem dX4_begins_10 : decode cX4_begins 10 = .ok (.putfield 41, 3) := by decide +kernel
theorem dX4_begins_13 : decode cX4_begins 13 = .ok (.iload_n 1, 1) := by decide +kernel
theorem dX4_begins_14 : decode cX4_begins 14 = .ok (.ireturn, 1) := by decide +kernel
theorem dX4_nearest_0 : decode cX4_nearest 0 = .ok (.iload_n 0, 1) := by decide +kernel
theorem dX4_nearest_1 : decode cX4_nearest 1 = .ok (.ldc 45, 2) := by decide +kernel
theorem dX4_nearest_3 : decode cX4_nearest 3 = .ok (.if_icmp .ge 8, 3) := by decide +kernel
theorem dX4_nearest_6 : decode cX4_nearest 6 = .ok (.ldc 45, 2) := by decide +kernel
theorem dX4_nearest_8 : decode cX4_nearest 8 = .ok (.goto 15, 3) := by decide +kernel
theorem dX4_nearest_11 : decode cX4_nearest 11 = .ok (.iload_n 0, 1) := by decide +kernel
theorem dX4_nearest_12 : decode cX4_nearest 12 = .ok (.ldc 46, 2) := by decide +kernel
theorem dX4_nearest_14 : decode cX4_nearest 14 = .ok (.if_icmp .le 8, 3) := by decide +kernel
theorem dX4_nearest_17 : decode cX4_nearest 17 = .ok (.ldc 46, 2) := by decide +kernel
theorem dX4_nearest_19 : decode cX4_nearest 19 = .ok (.goto 4, 3) := by decide +kernel
theorem dX4_nearest_22 : decode cX4_nearest 22 = .ok (.iload_n 0, 1) := by decide +kernel
theorem dX4_nearest_23 : decode cX4_nearest 23 = .ok (.ireturn, 1) := by decide +kernel
theorem dX4_kept_0 : decode cX4_kept 0 = .ok (.iload_n 0, 1) := by decide +kernel
theorem dX4_kept_1 : decode cX4_kept 1 = .ok (.ifCond .ne 8, 3) := by decide +kernel
theorem dX4_kept_4 : decode cX4_kept 4 = .ok (.iload_n 1, 1) := by decide +kernel
theorem dX4_kept_5 : decode cX4_kept 5 = .ok (.ldc 47, 2) := by decide +kernel
theorem dX4_kept_7 : decode cX4_kept 7 = .ok (.iand, 1) := by decide +kernel
theorem dX4_kept_8 : decode cX4_kept 8 = .ok (.ireturn, 1) := by decide +kernel
theorem dX4_kept_9 : decode cX4_kept 9 = .ok (.iload_n 0, 1) := by decide +kernel
theorem dX4_kept_10 : decode cX4_kept 10 = .ok (.iconst 1, 1) := by decide +kernel
theorem dX4_kept_11 : decode cX4_kept 11 = .ok (.if_icmp .ne 24, 3) := by decide +kernel
theorem dX4_kept_14 : decode cX4_kept 14 = .ok (.iload_n 1, 1) := by decide +kernel
theorem dX4_kept_15 : decode cX4_kept 15 = .ok (.ldc 47, 2) := by decide +kernel
theorem dX4_kept_17 : decode cX4_kept 17 = .ok (.iand, 1) := by decide +kernel
theorem dX4_kept_18 : decode cX4_kept 18 = .ok (.istore_n 2, 1) := by decide +kernel
theorem dX4_kept_19 : decode cX4_kept 19 = .ok (.iload_n 2, 1) := by decide +kernel
theorem dX4_kept_20 : decode cX4_kept 20 = .ok (.sipush 32767, 3) := by decide +kernel
theorem dX4_kept_23 : decode cX4_kept 23 = .ok (.if_icmp .le 10, 3) := by decide +kernel
theorem dX4_kept_26 : decode cX4_kept 26 = .ok (.iload_n 2, 1) := by decide +kernel
theorem dX4_kept_27 : decode cX4_kept 27 = .ok (.ldc 48, 2) := by decide +kernel
theorem dX4_kept_29 : decode cX4_kept 29 = .ok (.isub, 1) := by decide +kernel
theorem dX4_kept_30 : decode cX4_kept 30 = .ok (.goto 4, 3) := by decide +kernel
theorem dX4_kept_33 : decode cX4_kept 33 = .ok (.iload_n 2, 1) := by decide +kernel
theorem dX4_kept_34 : decode cX4_kept 34 = .ok (.ireturn, 1) := by decide +kernel
theorem dX4_kept_35 : decode cX4_kept 35 = .ok (.iload_n 0, 1) := by decide +kernel
theorem dX4_kept_36 : decode cX4_kept 36 = .ok (.iconst 2, 1) := by decide +kernel
theorem dX4_kept_37 : decode cX4_kept 37 = .ok (.if_icmp .ne 10, 3) := by decide +kernel
theorem dX4_kept_40 : decode cX4_kept 40 = .ok (.iload_n 1, 1) := by decide +kernel
theorem dX4_kept_41 : decode cX4_kept 41 = .ok (.invokestatic 49, 3) := by decide +kernel
theorem dX4_kept_44 : decode cX4_kept 44 = .ok (.goto 6, 3) := by decide +kernel
theorem dX4_kept_47 : decode cX4_kept 47 = .ok (.iload_n 1, 1) := by decide +kernel
theorem dX4_kept_48 : decode cX4_kept 48 = .ok (.iconst 1, 1) := by decide +kernel
theorem dX4_kept_49 : decode cX4_kept 49 = .ok (.iand, 1) := by decide +kernel
theorem dX4_kept_50 : decode cX4_kept 50 = .ok (.ireturn, 1) := by decide +kernel
theorem dX4_why_0 : decode cX4_why 0 = .ok (.aload_n 0, 1) := by decide +kernel
theorem dX4_why_1 : decode cX4_why 1 = .ok (.getfield 7, 3) := by decide +kernel
theorem dX4_why_4 : decode cX4_why 4 = .ok (.iconst 4, 1) := by decide +kernel
theorem dX4_why_5 : decode cX4_why 5 = .ok (.iload_n 1, 1) := by decide +kernel
theorem dX4_why_6 : decode cX4_why 6 = .ok (.imul, 1) := by decide +kernel
theorem dX4_why_7 : decode cX4_why 7 = .ok (.iload_n 2, 1) := by decide +kernel
theorem dX4_why_8 : decode cX4_why 8 = .ok (.iadd, 1) := by decide +kernel
theorem dX4_why_9 : decode cX4_why 9 = .ok (.iaload, 1) := by decide +kernel
theorem dX4_why_10 : decode cX4_why 10 = .ok (.istore 4, 2) := by decide +kernel
theorem dX4_why_12 : decode cX4_why 12 = .ok (.iload 4, 2) := by decide +kernel
theorem dX4_why_14 : decode cX4_why 14 = .ok (.iconst (-1), 1) := by decide +kernel
theorem dX4_why_15 : decode cX4_why 15 = .ok (.if_icmp .ne 5, 3) := by decide +kernel
theorem dX4_why_18 : decode cX4_why 18 = .ok (.iconst 2, 1) := by decide +kernel
theorem dX4_why_19 : decode cX4_why 19 = .ok (.ireturn, 1) := by decide +kernel
theorem dX4_why_20 : decode cX4_why 20 = .ok (.iload_n 3, 1) := by decide +kernel
theorem dX4_why_21 : decode cX4_why 21 = .ok (.iconst 0, 1) := by decide +kernel
theorem dX4_why_22 : decode cX4_why 22 = .ok (.aload_n 0, 1) := by decide +kernel
theorem dX4_why_23 : decode cX4_why 23 = .ok (.getfield 13, 3) := by decide +kernel
theorem dX4_why_26 : decode cX4_why 26 = .ok (.iload 4, 2) := by decide +kernel
theorem dX4_why_28 : decode cX4_why 28 = .ok (.iaload, 1) := by decide +kernel
theorem dX4_why_29 : decode cX4_why 29 = .ok (.iconst 1, 1) := by decide +kernel
theorem dX4_why_30 : decode cX4_why 30 = .ok (.isub, 1) := by decide +kernel
theorem dX4_why_31 : decode cX4_why 31 = .ok (.invokestatic 37, 3) := by decide +kernel
theorem dX4_why_34 : decode cX4_why 34 = .ok (.ifCond .eq 7, 3) := by decide +kernel
theorem dX4_why_37 : decode cX4_why 37 = .ok (.iconst 0, 1) := by decide +kernel
theorem dX4_why_38 : decode cX4_why 38 = .ok (.goto 4, 3) := by decide +kernel
theorem dX4_why_41 : decode cX4_why 41 = .ok (.iconst 3, 1) := by decide +kernel
theorem dX4_why_42 : decode cX4_why 42 = .ok (.ireturn, 1) := by decide +kernel
theorem dX4_refused_0 : decode cX4_refused 0 = .ok (.aload_n 0, 1) := by decide +kernel
theorem dX4_refused_1 : decode cX4_refused 1 = .ok (.aload_n 0, 1) := by decide +kernel
theorem dX4_refused_2 : decode cX4_refused 2 = .ok (.iload_n 1, 1) := by decide +kernel
theorem dX4_refused_3 : decode cX4_refused 3 = .ok (.iload_n 2, 1) := by decide +kernel
theorem dX4_refused_4 : decode cX4_refused 4 = .ok (.iload_n 3, 1) := by decide +kernel
theorem dX4_refused_5 : decode cX4_refused 5 = .ok (.invokevirtual 53, 3) := by decide +kernel
theorem dX4_refused_8 : decode cX4_refused 8 = .ok (.invokevirtual 57, 3) := by decide +kernel
theorem dX4_refused_11 : decode cX4_refused 11 = .ok (.ireturn, 1) := by decide +kernel
theorem dX4_counted_0 : decode cX4_counted 0 = .ok (.aload_n 0, 1) := by decide +kernel
theorem dX4_counted_1 : decode cX4_counted 1 = .ok (.dup, 1) := by decide +kernel
theorem dX4_counted_2 : decode cX4_counted 2 = .ok (.getfield 60, 3) := by decide +kernel
theorem dX4_counted_5 : decode cX4_counted 5 = .ok (.iload_n 1, 1) := by decide +kernel
theorem dX4_counted_6 : decode cX4_counted 6 = .ok (.iconst 2, 1) := by decide +kernel
theorem dX4_counted_7 : decode cX4_counted 7 = .ok (.if_icmp .ne 7, 3) := by decide +kernel
theorem dX4_counted_10 : decode cX4_counted 10 = .ok (.iconst 1, 1) := by decide +kernel
theorem dX4_counted_11 : decode cX4_counted 11 = .ok (.goto 4, 3) := by decide +kernel
theorem dX4_counted_14 : decode cX4_counted 14 = .ok (.iconst 0, 1) := by decide +kernel
theorem dX4_counted_15 : decode cX4_counted 15 = .ok (.iadd, 1) := by decide +kernel
theorem dX4_counted_16 : decode cX4_counted 16 = .ok (.putfield 60, 3) := by decide +kernel
theorem dX4_counted_19 : decode cX4_counted 19 = .ok (.aload_n 0, 1) := by decide +kernel
theorem dX4_counted_20 : decode cX4_counted 20 = .ok (.dup, 1) := by decide +kernel
theorem dX4_counted_21 : decode cX4_counted 21 = .ok (.getfield 63, 3) := by decide +kernel
theorem dX4_counted_24 : decode cX4_counted 24 = .ok (.iload_n 1, 1) := by decide +kernel
theorem dX4_counted_25 : decode cX4_counted 25 = .ok (.iconst 3, 1) := by decide +kernel
theorem dX4_counted_26 : decode cX4_counted 26 = .ok (.if_icmp .ne 7, 3) := by decide +kernel
theorem dX4_counted_29 : decode cX4_counted 29 = .ok (.iconst 1, 1) := by decide +kernel
theorem dX4_counted_30 : decode cX4_counted 30 = .ok (.goto 4, 3) := by decide +kernel
theorem dX4_counted_33 : decode cX4_counted 33 = .ok (.iconst 0, 1) := by decide +kernel
theorem dX4_counted_34 : decode cX4_counted 34 = .ok (.iadd, 1) := by decide +kernel
theorem dX4_counted_35 : decode cX4_counted 35 = .ok (.putfield 63, 3) := by decide +kernel
theorem dX4_counted_38 : decode cX4_counted 38 = .ok (.iload_n 1, 1) := by decide +kernel
theorem dX4_counted_39 : decode cX4_counted 39 = .ok (.ireturn, 1) := by decide +kernel
theorem dX4_at_0 : decode cX4_at 0 = .ok (.aload_n 0, 1) := by decide +kernel
theorem dX4_at_1 : decode cX4_at 1 = .ok (.getfield 16, 3) := by decide +kernel
theorem dX4_at_4 : decode cX4_at 4 = .ok (.bipush 25, 2) := by decide +kernel
theorem dX4_at_6 : decode cX4_at 6 = .ok (.aload_n 0, 1) := by decide +kernel
theorem dX4_at_7 : decode cX4_at 7 = .ok (.getfield 7, 3) := by decide +kernel
theorem dX4_at_10 : decode cX4_at 10 = .ok (.iconst 4, 1) := by decide +kernel
theorem dX4_at_11 : decode cX4_at 11 = .ok (.iload_n 1, 1) := by decide +kernel
theorem dX4_at_12 : decode cX4_at 12 = .ok (.imul, 1) := by decide +kernel
theorem dX4_at_13 : decode cX4_at 13 = .ok (.iload_n 2, 1) := by decide +kernel
theorem dX4_at_14 : decode cX4_at 14 = .ok (.iadd, 1) := by decide +kernel
theorem dX4_at_15 : decode cX4_at 15 = .ok (.iaload, 1) := by decide +kernel
theorem dX4_at_16 : decode cX4_at 16 = .ok (.imul, 1) := by decide +kernel
theorem dX4_at_17 : decode cX4_at 17 = .ok (.iload_n 3, 1) := by decide +kernel
theorem dX4_at_18 : decode cX4_at 18 = .ok (.iadd, 1) := by decide +kernel
theorem dX4_at_19 : decode cX4_at 19 = .ok (.iaload, 1) := by decide +kernel
theorem dX4_at_20 : decode cX4_at 20 = .ok (.ireturn, 1) := by decide +kernel
theorem dX4_put_0 : decode cX4_put 0 = .ok (.aload_n 0, 1) := by decide +kernel
theorem dX4_put_1 : decode cX4_put 1 = .ok (.getfield 16, 3) := by decide +kernel
theorem dX4_put_4 : decode cX4_put 4 = .ok (.bipush 25, 2) := by decide +kernel
theorem dX4_put_6 : decode cX4_put 6 = .ok (.aload_n 0, 1) := by decide +kernel
theorem dX4_put_7 : decode cX4_put 7 = .ok (.getfield 7, 3) := by decide +kernel
theorem dX4_put_10 : decode cX4_put 10 = .ok (.iconst 4, 1) := by decide +kernel
theorem dX4_put_11 : decode cX4_put 11 = .ok (.iload_n 1, 1) := by decide +kernel
theorem dX4_put_12 : decode cX4_put 12 = .ok (.imul, 1) := by decide +kernel
theorem dX4_put_13 : decode cX4_put 13 = .ok (.iload_n 2, 1) := by decide +kernel
theorem dX4_put_14 : decode cX4_put 14 = .ok (.iadd, 1) := by decide +kernel
theorem dX4_put_15 : decode cX4_put 15 = .ok (.iaload, 1) := by decide +kernel
theorem dX4_put_16 : decode cX4_put 16 = .ok (.imul, 1) := by decide +kernel
theorem dX4_put_17 : decode cX4_put 17 = .ok (.iload_n 3, 1) := by decide +kernel
theorem dX4_put_18 : decode cX4_put 18 = .ok (.iadd, 1) := by decide +kernel
theorem dX4_put_19 : decode cX4_put 19 = .ok (.iload_n 2, 1) := by decide +kernel
theorem dX4_put_20 : decode cX4_put 20 = .ok (.iload 4, 2) := by decide +kernel
theorem dX4_put_22 : decode cX4_put 22 = .ok (.invokestatic 66, 3) := by decide +kernel
theorem dX4_put_25 : decode cX4_put 25 = .ok (.iastore, 1) := by decide +kernel
theorem dX4_put_26 : decode cX4_put 26 = .ok (.aload_n 0, 1) := by decide +kernel
theorem dX4_put_27 : decode cX4_put 27 = .ok (.dup, 1) := by decide +kernel
theorem dX4_put_28 : decode cX4_put 28 = .ok (.getfield 70, 3) := by decide +kernel
theorem dX4_put_31 : decode cX4_put 31 = .ok (.iconst 1, 1) := by decide +kernel
theorem dX4_put_32 : decode cX4_put 32 = .ok (.iadd, 1) := by decide +kernel
theorem dX4_put_33 : decode cX4_put 33 = .ok (.putfield 70, 3) := by decide +kernel
theorem dX4_put_36 : decode cX4_put 36 = .ok (.return_, 1) := by decide +kernel
theorem dX4_hang_0 : decode cX4_hang 0 = .ok (.aload_n 0, 1) := by decide +kernel
theorem dX4_hang_1 : decode cX4_hang 1 = .ok (.iload_n 1, 1) := by decide +kernel
theorem dX4_hang_2 : decode cX4_hang 2 = .ok (.invokestatic 73, 3) := by decide +kernel
theorem dX4_hang_5 : decode cX4_hang 5 = .ok (.ifCond .eq 14, 3) := by decide +kernel
theorem dX4_hang_8 : decode cX4_hang 8 = .ok (.iload_n 2, 1) := by decide +kernel
theorem dX4_hang_9 : decode cX4_hang 9 = .ok (.invokestatic 77, 3) := by decide +kernel
theorem dX4_hang_12 : decode cX4_hang 12 = .ok (.ifCond .eq 7, 3) := by decide +kernel
theorem dX4_hang_15 : decode cX4_hang 15 = .ok (.iconst 1, 1) := by decide +kernel
theorem dX4_hang_16 : decode cX4_hang 16 = .ok (.goto 4, 3) := by decide +kernel
theorem dX4_hang_19 : decode cX4_hang 19 = .ok (.iconst 0, 1) := by decide +kernel
theorem dX4_hang_20 : decode cX4_hang 20 = .ok (.invokevirtual 80, 3) := by decide +kernel
theorem dX4_hang_23 : decode cX4_hang 23 = .ok (.ifCond .ne 5, 3) := by decide +kernel
theorem dX4_hang_26 : decode cX4_hang 26 = .ok (.iconst 0, 1) := by decide +kernel
theorem dX4_hang_27 : decode cX4_hang 27 = .ok (.ireturn, 1) := by decide +kernel
theorem dX4_hang_28 : decode cX4_hang 28 = .ok (.iload_n 3, 1) := by decide +kernel
theorem dX4_hang_29 : decode cX4_hang 29 = .ok (.bipush 24, 2) := by decide +kernel
theorem dX4_hang_31 : decode cX4_hang 31 = .ok (.if_icmp .le 10, 3) := by decide +kernel
theorem dX4_hang_34 : decode cX4_hang 34 = .ok (.aload_n 0, 1) := by decide +kernel
theorem dX4_hang_35 : decode cX4_hang 35 = .ok (.iconst 5, 1) := by decide +kernel
theorem dX4_hang_36 : decode cX4_hang 36 = .ok (.putfield 41, 3) := by decide +kernel
theorem dX4_hang_39 : decode cX4_hang 39 = .ok (.iconst 0, 1) := by decide +kernel
theorem dX4_hang_40 : decode cX4_hang 40 = .ok (.ireturn, 1) := by decide +kernel
theorem dX4_hang_41 : decode cX4_hang 41 = .ok (.iload_n 3, 1) := by decide +kernel
theorem dX4_hang_42 : decode cX4_hang 42 = .ok (.ifCond .ge 20, 3) := by decide +kernel
theorem dX4_hang_45 : decode cX4_hang 45 = .ok (.aload_n 0, 1) := by decide +kernel
theorem dX4_hang_46 : decode cX4_hang 46 = .ok (.iconst 4, 1) := by decide +kernel
theorem dX4_hang_47 : decode cX4_hang 47 = .ok (.putfield 41, 3) := by decide +kernel
theorem dX4_hang_50 : decode cX4_hang 50 = .ok (.aload_n 0, 1) := by decide +kernel
theorem dX4_hang_51 : decode cX4_hang 51 = .ok (.dup, 1) := by decide +kernel
theorem dX4_hang_52 : decode cX4_hang 52 = .ok (.getfield 84, 3) := by decide +kernel
theorem dX4_hang_55 : decode cX4_hang 55 = .ok (.iconst 1, 1) := by decide +kernel
theorem dX4_hang_56 : decode cX4_hang 56 = .ok (.iadd, 1) := by decide +kernel
theorem dX4_hang_57 : decode cX4_hang 57 = .ok (.putfield 84, 3) := by decide +kernel
theorem dX4_hang_60 : decode cX4_hang 60 = .ok (.iconst 0, 1) := by decide +kernel
theorem dX4_hang_61 : decode cX4_hang 61 = .ok (.ireturn, 1) := by decide +kernel
theorem dX4_hang_62 : decode cX4_hang 62 = .ok (.iconst 4, 1) := by decide +kernel
theorem dX4_hang_63 : decode cX4_hang 63 = .ok (.iload_n 1, 1) := by decide +kernel
theorem dX4_hang_64 : decode cX4_hang 64 = .ok (.imul, 1) := by decide +kernel
theorem dX4_hang_65 : decode cX4_hang 65 = .ok (.iload_n 2, 1) := by decide +kernel
theorem dX4_hang_66 : decode cX4_hang 66 = .ok (.iadd, 1) := by decide +kernel
theorem dX4_hang_67 : decode cX4_hang 67 = .ok (.istore 4, 2) := by decide +kernel
theorem dX4_hang_69 : decode cX4_hang 69 = .ok (.aload_n 0, 1) := by decide +kernel
theorem dX4_hang_70 : decode cX4_hang 70 = .ok (.getfield 7, 3) := by decide +kernel
theorem dX4_hang_73 : decode cX4_hang 73 = .ok (.iload 4, 2) := by decide +kernel
theorem dX4_hang_75 : decode cX4_hang 75 = .ok (.iconst (-1), 1) := by decide +kernel
theorem dX4_hang_76 : decode cX4_hang 76 = .ok (.iastore, 1) := by decide +kernel
theorem dX4_hang_77 : decode cX4_hang 77 = .ok (.iconst 0, 1) := by decide +kernel
theorem dX4_hang_78 : decode cX4_hang 78 = .ok (.istore 5, 2) := by decide +kernel
theorem dX4_hang_80 : decode cX4_hang 80 = .ok (.iconst 0, 1) := by decide +kernel
theorem dX4_hang_81 : decode cX4_hang 81 = .ok (.istore 6, 2) := by decide +kernel
theorem dX4_hang_83 : decode cX4_hang 83 = .ok (.iload 6, 2) := by decide +kernel
theorem dX4_hang_85 : decode cX4_hang 85 = .ok (.ifCond .ne 64, 3) := by decide +kernel
theorem dX4_hang_88 : decode cX4_hang 88 = .ok (.iconst 1, 1) := by decide +kernel
theorem dX4_hang_89 : decode cX4_hang 89 = .ok (.istore 6, 2) := by decide +kernel
theorem dX4_hang_91 : decode cX4_hang 91 = .ok (.iconst 0, 1) := by decide +kernel
theorem dX4_hang_92 : decode cX4_hang 92 = .ok (.istore 7, 2) := by decide +kernel
theorem dX4_hang_94 : decode cX4_hang 94 = .ok (.iload 7, 2) := by decide +kernel
theorem dX4_hang_96 : decode cX4_hang 96 = .ok (.bipush 24, 2) := by decide +kernel
theorem dX4_hang_98 : decode cX4_hang 98 = .ok (.if_icmp .ge 33, 3) := by decide +kernel
theorem dX4_hang_101 : decode cX4_hang 101 = .ok (.iload 6, 2) := by decide +kernel
theorem dX4_hang_103 : decode cX4_hang 103 = .ok (.ifCond .eq 19, 3) := by decide +kernel
theorem dX4_hang_106 : decode cX4_hang 106 = .ok (.aload_n 0, 1) := by decide +kernel
theorem dX4_hang_107 : decode cX4_hang 107 = .ok (.getfield 7, 3) := by decide +kernel
theorem dX4_hang_110 : decode cX4_hang 110 = .ok (.iload 7, 2) := by decide +kernel
theorem dX4_hang_112 : decode cX4_hang 112 = .ok (.iaload, 1) := by decide +kernel
theorem dX4_hang_113 : decode cX4_hang 113 = .ok (.iload 5, 2) := by decide +kernel
theorem dX4_hang_115 : decode cX4_hang 115 = .ok (.if_icmp .eq 7, 3) := by decide +kernel
theorem dX4_hang_118 : decode cX4_hang 118 = .ok (.iconst 1, 1) := by decide +kernel
theorem dX4_hang_119 : decode cX4_hang 119 = .ok (.goto 4, 3) := by decide +kernel
theorem dX4_hang_122 : decode cX4_hang 122 = .ok (.iconst 0, 1) := by decide +kernel
theorem dX4_hang_123 : decode cX4_hang 123 = .ok (.istore 6, 2) := by decide +kernel
theorem dX4_hang_125 : decode cX4_hang 125 = .ok (.iinc 7 1, 3) := by decide +kernel
theorem dX4_hang_128 : decode cX4_hang 128 = .ok (.goto (-34), 3) := by decide +kernel
theorem dX4_hang_131 : decode cX4_hang 131 = .ok (.iload 5, 2) := by decide +kernel
theorem dX4_hang_133 : decode cX4_hang 133 = .ok (.iload 6, 2) := by decide +kernel
theorem dX4_hang_135 : decode cX4_hang 135 = .ok (.ifCond .eq 7, 3) := by decide +kernel
theorem dX4_hang_138 : decode cX4_hang 138 = .ok (.iconst 0, 1) := by decide +kernel
theorem dX4_hang_139 : decode cX4_hang 139 = .ok (.goto 4, 3) := by decide +kernel
theorem dX4_hang_142 : decode cX4_hang 142 = .ok (.iconst 1, 1) := by decide +kernel
theorem dX4_hang_143 : decode cX4_hang 143 = .ok (.iadd, 1) := by decide +kernel
theorem dX4_hang_144 : decode cX4_hang 144 = .ok (.istore 5, 2) := by decide +kernel
theorem dX4_hang_146 : decode cX4_hang 146 = .ok (.goto (-63), 3) := by decide +kernel
theorem dX4_hang_149 : decode cX4_hang 149 = .ok (.aload_n 0, 1) := by decide +kernel
theorem dX4_hang_150 : decode cX4_hang 150 = .ok (.getfield 7, 3) := by decide +kernel
theorem dX4_hang_153 : decode cX4_hang 153 = .ok (.iload 4, 2) := by decide +kernel
theorem dX4_hang_155 : decode cX4_hang 155 = .ok (.iload 5, 2) := by decide +kernel
theorem dX4_hang_157 : decode cX4_hang 157 = .ok (.iastore, 1) := by decide +kernel
theorem dX4_hang_158 : decode cX4_hang 158 = .ok (.aload_n 0, 1) := by decide +kernel
theorem dX4_hang_159 : decode cX4_hang 159 = .ok (.getfield 13, 3) := by decide +kernel
theorem dX4_hang_162 : decode cX4_hang 162 = .ok (.iload 5, 2) := by decide +kernel
theorem dX4_hang_164 : decode cX4_hang 164 = .ok (.iload_n 3, 1) := by decide +kernel
theorem dX4_hang_165 : decode cX4_hang 165 = .ok (.iastore, 1) := by decide +kernel
theorem dX4_hang_166 : decode cX4_hang 166 = .ok (.iconst 0, 1) := by decide +kernel
theorem dX4_hang_167 : decode cX4_hang 167 = .ok (.istore 7, 2) := by decide +kernel
theorem dX4_hang_169 : decode cX4_hang 169 = .ok (.iload 7, 2) := by decide +kernel
theorem dX4_hang_171 : decode cX4_hang 171 = .ok (.iload_n 3, 1) := by decide +kernel
theorem dX4_hang_172 : decode cX4_hang 172 = .ok (.if_icmp .ge 23, 3) := by decide +kernel
theorem dX4_hang_175 : decode cX4_hang 175 = .ok (.aload_n 0, 1) := by decide +kernel
theorem dX4_hang_176 : decode cX4_hang 176 = .ok (.getfield 16, 3) := by decide +kernel
theorem dX4_hang_179 : decode cX4_hang 179 = .ok (.bipush 25, 2) := by decide +kernel
theorem dX4_hang_181 : decode cX4_hang 181 = .ok (.iload 5, 2) := by decide +kernel
theorem dX4_hang_183 : decode cX4_hang 183 = .ok (.imul, 1) := by decide +kernel
theorem dX4_hang_184 : decode cX4_hang 184 = .ok (.iload 7, 2) := by decide +kernel
theorem dX4_hang_186 : decode cX4_hang 186 = .ok (.iadd, 1) := by decide +kernel
theorem dX4_hang_187 : decode cX4_hang 187 = .ok (.iconst 0, 1) := by decide +kernel
theorem dX4_hang_188 : decode cX4_hang 188 = .ok (.iastore, 1) := by decide +kernel
theorem dX4_hang_189 : decode cX4_hang 189 = .ok (.iinc 7 1, 3) := by decide +kernel
theorem dX4_hang_192 : decode cX4_hang 192 = .ok (.goto (-23), 3) := by decide +kernel
theorem dX4_hang_195 : decode cX4_hang 195 = .ok (.iload_n 3, 1) := by decide +kernel
theorem dX4_hang_196 : decode cX4_hang 196 = .ok (.ireturn, 1) := by decide +kernel
theorem dX4_strike_0 : decode cX4_strike 0 = .ok (.aload_n 0, 1) := by decide +kernel
theorem dX4_strike_1 : decode cX4_strike 1 = .ok (.iload_n 1, 1) := by decide +kernel
theorem dX4_strike_2 : decode cX4_strike 2 = .ok (.invokestatic 73, 3) := by decide +kernel
theorem dX4_strike_5 : decode cX4_strike 5 = .ok (.ifCond .eq 14, 3) := by decide +kernel
theorem dX4_strike_8 : decode cX4_strike 8 = .ok (.iload_n 2, 1) := by decide +kernel
theorem dX4_strike_9 : decode cX4_strike 9 = .ok (.invokestatic 77, 3) := by decide +kernel
theorem dX4_strike_12 : decode cX4_strike 12 = .ok (.ifCond .eq 7, 3) := by decide +kernel
theorem dX4_strike_15 : decode cX4_strike 15 = .ok (.iconst 1, 1) := by decide +kernel
theorem dX4_strike_16 : decode cX4_strike 16 = .ok (.goto 4, 3) := by decide +kernel
theorem dX4_strike_19 : decode cX4_strike 19 = .ok (.iconst 0, 1) := by decide +kernel
theorem dX4_strike_20 : decode cX4_strike 20 = .ok (.invokevirtual 80, 3) := by decide +kernel
theorem dX4_strike_23 : decode cX4_strike 23 = .ok (.ifCond .ne 5, 3) := by decide +kernel
theorem dX4_strike_26 : decode cX4_strike 26 = .ok (.iconst 0, 1) := by decide +kernel
theorem dX4_strike_27 : decode cX4_strike 27 = .ok (.ireturn, 1) := by decide +kernel
theorem dX4_strike_28 : decode cX4_strike 28 = .ok (.aload_n 0, 1) := by decide +kernel
theorem dX4_strike_29 : decode cX4_strike 29 = .ok (.getfield 7, 3) := by decide +kernel
theorem dX4_strike_32 : decode cX4_strike 32 = .ok (.iconst 4, 1) := by decide +kernel
theorem dX4_strike_33 : decode cX4_strike 33 = .ok (.iload_n 1, 1) := by decide +kernel
theorem dX4_strike_34 : decode cX4_strike 34 = .ok (.imul, 1) := by decide +kernel
theorem dX4_strike_35 : decode cX4_strike 35 = .ok (.iload_n 2, 1) := by decide +kernel
theorem dX4_strike_36 : decode cX4_strike 36 = .ok (.iadd, 1) := by decide +kernel
theorem dX4_strike_37 : decode cX4_strike 37 = .ok (.iaload, 1) := by decide +kernel
theorem dX4_strike_38 : decode cX4_strike 38 = .ok (.istore_n 3, 1) := by decide +kernel
theorem dX4_strike_39 : decode cX4_strike 39 = .ok (.aload_n 0, 1) := by decide +kernel
theorem dX4_strike_40 : decode cX4_strike 40 = .ok (.getfield 7, 3) := by decide +kernel
theorem dX4_strike_43 : decode cX4_strike 43 = .ok (.iconst 4, 1) := by decide +kernel
theorem dX4_strike_44 : decode cX4_strike 44 = .ok (.iload_n 1, 1) := by decide +kernel
theorem dX4_strike_45 : decode cX4_strike 45 = .ok (.imul, 1) := by decide +kernel
theorem dX4_strike_46 : decode cX4_strike 46 = .ok (.iload_n 2, 1) := by decide +kernel
theorem dX4_strike_47 : decode cX4_strike 47 = .ok (.iadd, 1) := by decide +kernel
theorem dX4_strike_48 : decode cX4_strike 48 = .ok (.iconst (-1), 1) := by decide +kernel
theorem dX4_strike_49 : decode cX4_strike 49 = .ok (.iastore, 1) := by decide +kernel
theorem dX4_strike_50 : decode cX4_strike 50 = .ok (.iload_n 3, 1) := by decide +kernel
theorem dX4_strike_51 : decode cX4_strike 51 = .ok (.iconst (-1), 1) := by decide +kernel
theorem dX4_strike_52 : decode cX4_strike 52 = .ok (.if_icmp .ne 7, 3) := by decide +kernel
theorem dX4_strike_55 : decode cX4_strike 55 = .ok (.iconst 0, 1) := by decide +kernel
theorem dX4_strike_56 : decode cX4_strike 56 = .ok (.goto 4, 3) := by decide +kernel
theorem dX4_strike_59 : decode cX4_strike 59 = .ok (.iconst 1, 1) := by decide +kernel
theorem dX4_strike_60 : decode cX4_strike 60 = .ok (.ireturn, 1) := by decide +kernel
theorem dX4_share_0 : decode cX4_share 0 = .ok (.aload_n 0, 1) := by decide +kernel
theorem dX4_share_1 : decode cX4_share 1 = .ok (.iload_n 1, 1) := by decide +kernel
theorem dX4_share_2 : decode cX4_share 2 = .ok (.invokestatic 73, 3) := by decide +kernel
theorem dX4_share_5 : decode cX4_share 5 = .ok (.ifCond .eq 21, 3) := by decide +kernel
theorem dX4_share_8 : decode cX4_share 8 = .ok (.iload_n 2, 1) := by decide +kernel
theorem dX4_share_9 : decode cX4_share 9 = .ok (.invokestatic 77, 3) := by decide +kernel
theorem dX4_share_12 : decode cX4_share 12 = .ok (.ifCond .eq 14, 3) := by decide +kernel
theorem dX4_share_15 : decode cX4_share 15 = .ok (.iload_n 3, 1) := by decide +kernel
theorem dX4_share_16 : decode cX4_share 16 = .ok (.invokestatic 73, 3) := by decide +kernel
theorem dX4_share_19 : decode cX4_share 19 = .ok (.ifCond .eq 7, 3) := by decide +kernel
theorem dX4_share_22 : decode cX4_share 22 = .ok (.iconst 1, 1) := by decide +kernel
theorem dX4_share_23 : decode cX4_share 23 = .ok (.goto 4, 3) := by decide +kernel
theorem dX4_share_26 : decode cX4_share 26 = .ok (.iconst 0, 1) := by decide +kernel
theorem dX4_share_27 : decode cX4_share 27 = .ok (.invokevirtual 80, 3) := by decide +kernel
theorem dX4_share_30 : decode cX4_share 30 = .ok (.ifCond .ne 5, 3) := by decide +kernel
theorem dX4_share_33 : decode cX4_share 33 = .ok (.iconst 0, 1) := by decide +kernel
theorem dX4_share_34 : decode cX4_share 34 = .ok (.ireturn, 1) := by decide +kernel
theorem dX4_share_35 : decode cX4_share 35 = .ok (.aload_n 0, 1) := by decide +kernel
theorem dX4_share_36 : decode cX4_share 36 = .ok (.getfield 7, 3) := by decide +kernel
theorem dX4_share_39 : decode cX4_share 39 = .ok (.iconst 4, 1) := by decide +kernel
theorem dX4_share_40 : decode cX4_share 40 = .ok (.iload_n 1, 1) := by decide +kernel
theorem dX4_share_41 : decode cX4_share 41 = .ok (.imul, 1) := by decide +kernel
theorem dX4_share_42 : decode cX4_share 42 = .ok (.iload_n 2, 1) := by decide +kernel
theorem dX4_share_43 : decode cX4_share 43 = .ok (.iadd, 1) := by decide +kernel
theorem dX4_share_44 : decode cX4_share 44 = .ok (.aload_n 0, 1) := by decide +kernel
theorem dX4_share_45 : decode cX4_share 45 = .ok (.getfield 7, 3) := by decide +kernel
theorem dX4_share_48 : decode cX4_share 48 = .ok (.iconst 4, 1) := by decide +kernel
theorem dX4_share_49 : decode cX4_share 49 = .ok (.iload_n 3, 1) := by decide +kernel
theorem dX4_share_50 : decode cX4_share 50 = .ok (.imul, 1) := by decide +kernel
theorem dX4_share_51 : decode cX4_share 51 = .ok (.iload_n 2, 1) := by decide +kernel
theorem dX4_share_52 : decode cX4_share 52 = .ok (.iadd, 1) := by decide +kernel
theorem dX4_share_53 : decode cX4_share 53 = .ok (.iaload, 1) := by decide +kernel
theorem dX4_share_54 : decode cX4_share 54 = .ok (.iastore, 1) := by decide +kernel
theorem dX4_share_55 : decode cX4_share 55 = .ok (.aload_n 0, 1) := by decide +kernel
theorem dX4_share_56 : decode cX4_share 56 = .ok (.getfield 7, 3) := by decide +kernel
theorem dX4_share_59 : decode cX4_share 59 = .ok (.iconst 4, 1) := by decide +kernel
theorem dX4_share_60 : decode cX4_share 60 = .ok (.iload_n 1, 1) := by decide +kernel
theorem dX4_share_61 : decode cX4_share 61 = .ok (.imul, 1) := by decide +kernel
theorem dX4_share_62 : decode cX4_share 62 = .ok (.iload_n 2, 1) := by decide +kernel
theorem dX4_share_63 : decode cX4_share 63 = .ok (.iadd, 1) := by decide +kernel
theorem dX4_share_64 : decode cX4_share 64 = .ok (.iaload, 1) := by decide +kernel
theorem dX4_share_65 : decode cX4_share 65 = .ok (.iconst (-1), 1) := by decide +kernel
theorem dX4_share_66 : decode cX4_share 66 = .ok (.if_icmp .ne 7, 3) := by decide +kernel
theorem dX4_share_69 : decode cX4_share 69 = .ok (.iconst 0, 1) := by decide +kernel
theorem dX4_share_70 : decode cX4_share 70 = .ok (.goto 4, 3) := by decide +kernel
theorem dX4_share_73 : decode cX4_share 73 = .ok (.iconst 1, 1) := by decide +kernel
theorem dX4_share_74 : decode cX4_share 74 = .ok (.ireturn, 1) := by decide +kernel
theorem dX4_size_0 : decode cX4_size 0 = .ok (.aload_n 0, 1) := by decide +kernel
theorem dX4_size_1 : decode cX4_size 1 = .ok (.iload_n 1, 1) := by decide +kernel
theorem dX4_size_2 : decode cX4_size 2 = .ok (.invokestatic 73, 3) := by decide +kernel
theorem dX4_size_5 : decode cX4_size 5 = .ok (.ifCond .eq 14, 3) := by decide +kernel
theorem dX4_size_8 : decode cX4_size 8 = .ok (.iload_n 2, 1) := by decide +kernel
theorem dX4_size_9 : decode cX4_size 9 = .ok (.invokestatic 77, 3) := by decide +kernel
theorem dX4_size_12 : decode cX4_size 12 = .ok (.ifCond .eq 7, 3) := by decide +kernel
theorem dX4_size_15 : decode cX4_size 15 = .ok (.iconst 1, 1) := by decide +kernel
theorem dX4_size_16 : decode cX4_size 16 = .ok (.goto 4, 3) := by decide +kernel
theorem dX4_size_19 : decode cX4_size 19 = .ok (.iconst 0, 1) := by decide +kernel
theorem dX4_size_20 : decode cX4_size 20 = .ok (.invokevirtual 80, 3) := by decide +kernel
theorem dX4_size_23 : decode cX4_size 23 = .ok (.ifCond .ne 5, 3) := by decide +kernel
theorem dX4_size_26 : decode cX4_size 26 = .ok (.iconst 0, 1) := by decide +kernel
theorem dX4_size_27 : decode cX4_size 27 = .ok (.ireturn, 1) := by decide +kernel
theorem dX4_size_28 : decode cX4_size 28 = .ok (.aload_n 0, 1) := by decide +kernel
theorem dX4_size_29 : decode cX4_size 29 = .ok (.getfield 7, 3) := by decide +kernel
theorem dX4_size_32 : decode cX4_size 32 = .ok (.iconst 4, 1) := by decide +kernel
theorem dX4_size_33 : decode cX4_size 33 = .ok (.iload_n 1, 1) := by decide +kernel
theorem dX4_size_34 : decode cX4_size 34 = .ok (.imul, 1) := by decide +kernel
theorem dX4_size_35 : decode cX4_size 35 = .ok (.iload_n 2, 1) := by decide +kernel
theorem dX4_size_36 : decode cX4_size 36 = .ok (.iadd, 1) := by decide +kernel
theorem dX4_size_37 : decode cX4_size 37 = .ok (.iaload, 1) := by decide +kernel
theorem dX4_size_38 : decode cX4_size 38 = .ok (.istore_n 3, 1) := by decide +kernel
theorem dX4_size_39 : decode cX4_size 39 = .ok (.iload_n 3, 1) := by decide +kernel
theorem dX4_size_40 : decode cX4_size 40 = .ok (.iconst (-1), 1) := by decide +kernel
theorem dX4_size_41 : decode cX4_size 41 = .ok (.if_icmp .ne 14, 3) := by decide +kernel
theorem dX4_size_44 : decode cX4_size 44 = .ok (.aload_n 0, 1) := by decide +kernel
theorem dX4_size_45 : decode cX4_size 45 = .ok (.aload_n 0, 1) := by decide +kernel
theorem dX4_size_46 : decode cX4_size 46 = .ok (.iconst 2, 1) := by decide +kernel
theorem dX4_size_47 : decode cX4_size 47 = .ok (.invokevirtual 57, 3) := by decide +kernel
theorem dX4_size_50 : decode cX4_size 50 = .ok (.putfield 41, 3) := by decide +kernel
theorem dX4_size_53 : decode cX4_size 53 = .ok (.iconst 0, 1) := by decide +kernel
theorem dX4_size_54 : decode cX4_size 54 = .ok (.ireturn, 1) := by decide +kernel
theorem dX4_size_55 : decode cX4_size 55 = .ok (.aload_n 0, 1) := by decide +kernel
theorem dX4_size_56 : decode cX4_size 56 = .ok (.getfield 13, 3) := by decide +kernel
theorem dX4_size_59 : decode cX4_size 59 = .ok (.iload_n 3, 1) := by decide +kernel
theorem dX4_size_60 : decode cX4_size 60 = .ok (.iaload, 1) := by decide +kernel
theorem dX4_size_61 : decode cX4_size 61 = .ok (.ireturn, 1) := by decide +kernel
theorem dX4_get_0 : decode cX4_get 0 = .ok (.aload_n 0, 1) := by decide +kernel
theorem dX4_get_1 : decode cX4_get 1 = .ok (.iload_n 1, 1) := by decide +kernel
theorem dX4_get_2 : decode cX4_get 2 = .ok (.invokestatic 73, 3) := by decide +kernel
theorem dX4_get_5 : decode cX4_get 5 = .ok (.ifCond .eq 14, 3) := by decide +kernel
theorem dX4_get_8 : decode cX4_get 8 = .ok (.iload_n 2, 1) := by decide +kernel
theorem dX4_get_9 : decode cX4_get 9 = .ok (.invokestatic 77, 3) := by decide +kernel
theorem dX4_get_12 : decode cX4_get 12 = .ok (.ifCond .eq 7, 3) := by decide +kernel
theorem dX4_get_15 : decode cX4_get 15 = .ok (.iconst 1, 1) := by decide +kernel
theorem dX4_get_16 : decode cX4_get 16 = .ok (.goto 4, 3) := by decide +kernel
theorem dX4_get_19 : decode cX4_get 19 = .ok (.iconst 0, 1) := by decide +kernel
theorem dX4_get_20 : decode cX4_get 20 = .ok (.invokevirtual 80, 3) := by decide +kernel
theorem dX4_get_23 : decode cX4_get 23 = .ok (.ifCond .ne 5, 3) := by decide +kernel
theorem dX4_get_26 : decode cX4_get 26 = .ok (.iconst 0, 1) := by decide +kernel
theorem dX4_get_27 : decode cX4_get 27 = .ok (.ireturn, 1) := by decide +kernel
theorem dX4_get_28 : decode cX4_get 28 = .ok (.aload_n 0, 1) := by decide +kernel
theorem dX4_get_29 : decode cX4_get 29 = .ok (.aload_n 0, 1) := by decide +kernel
theorem dX4_get_30 : decode cX4_get 30 = .ok (.iload_n 1, 1) := by decide +kernel
theorem dX4_get_31 : decode cX4_get 31 = .ok (.iload_n 2, 1) := by decide +kernel
theorem dX4_get_32 : decode cX4_get 32 = .ok (.iload_n 3, 1) := by decide +kernel
theorem dX4_get_33 : decode cX4_get 33 = .ok (.invokevirtual 87, 3) := by decide +kernel
theorem dX4_get_36 : decode cX4_get 36 = .ok (.putfield 41, 3) := by decide +kernel
theorem dX4_get_39 : decode cX4_get 39 = .ok (.aload_n 0, 1) := by decide +kernel
theorem dX4_get_40 : decode cX4_get 40 = .ok (.getfield 41, 3) := by decide +kernel
theorem dX4_get_43 : decode cX4_get 43 = .ok (.ifCond .ne 13, 3) := by decide +kernel
theorem dX4_get_46 : decode cX4_get 46 = .ok (.aload_n 0, 1) := by decide +kernel
theorem dX4_get_47 : decode cX4_get 47 = .ok (.iload_n 1, 1) := by decide +kernel
theorem dX4_get_48 : decode cX4_get 48 = .ok (.iload_n 2, 1) := by decide +kernel
theorem dX4_get_49 : decode cX4_get 49 = .ok (.iload_n 3, 1) := by decide +kernel
theorem dX4_get_50 : decode cX4_get 50 = .ok (.invokevirtual 90, 3) := by decide +kernel
theorem dX4_get_53 : decode cX4_get 53 = .ok (.goto 4, 3) := by decide +kernel
theorem dX4_get_56 : decode cX4_get 56 = .ok (.iconst 0, 1) := by decide +kernel
theorem dX4_get_57 : decode cX4_get 57 = .ok (.ireturn, 1) := by decide +kernel
theorem dX4_set_0 : decode cX4_set 0 = .ok (.aload_n 0, 1) := by decide +kernel
theorem dX4_set_1 : decode cX4_set 1 = .ok (.iload_n 1, 1) := by decide +kernel
theorem dX4_set_2 : decode cX4_set 2 = .ok (.invokestatic 73, 3) := by decide +kernel
theorem dX4_set_5 : decode cX4_set 5 = .ok (.ifCond .eq 14, 3) := by decide +kernel
theorem dX4_set_8 : decode cX4_set 8 = .ok (.iload_n 2, 1) := by decide +kernel
theorem dX4_set_9 : decode cX4_set 9 = .ok (.invokestatic 77, 3) := by decide +kernel
theorem dX4_set_12 : decode cX4_set 12 = .ok (.ifCond .eq 7, 3) := by decide +kernel
theorem dX4_set_15 : decode cX4_set 15 = .ok (.iconst 1, 1) := by decide +kernel
theorem dX4_set_16 : decode cX4_set 16 = .ok (.goto 4, 3) := by decide +kernel
theorem dX4_set_19 : decode cX4_set 19 = .ok (.iconst 0, 1) := by decide +kernel
theorem dX4_set_20 : decode cX4_set 20 = .ok (.invokevirtual 80, 3) := by decide +kernel
theorem dX4_set_23 : decode cX4_set 23 = .ok (.ifCond .ne 5, 3) := by decide +kernel
theorem dX4_set_26 : decode cX4_set 26 = .ok (.iconst 0, 1) := by decide +kernel
theorem dX4_set_27 : decode cX4_set 27 = .ok (.ireturn, 1) := by decide +kernel
theorem dX4_set_28 : decode cX4_set 28 = .ok (.aload_n 0, 1) := by decide +kernel
theorem dX4_set_29 : decode cX4_set 29 = .ok (.aload_n 0, 1) := by decide +kernel
theorem dX4_set_30 : decode cX4_set 30 = .ok (.iload_n 1, 1) := by decide +kernel
theorem dX4_set_31 : decode cX4_set 31 = .ok (.iload_n 2, 1) := by decide +kernel
theorem dX4_set_32 : decode cX4_set 32 = .ok (.iload_n 3, 1) := by decide +kernel
theorem dX4_set_33 : decode cX4_set 33 = .ok (.invokevirtual 87, 3) := by decide +kernel
theorem dX4_set_36 : decode cX4_set 36 = .ok (.putfield 41, 3) := by decide +kernel
theorem dX4_set_39 : decode cX4_set 39 = .ok (.aload_n 0, 1) := by decide +kernel
theorem dX4_set_40 : decode cX4_set 40 = .ok (.getfield 41, 3) := by decide +kernel
theorem dX4_set_43 : decode cX4_set 43 = .ok (.ifCond .eq 5, 3) := by decide +kernel
theorem dX4_set_46 : decode cX4_set 46 = .ok (.iconst 0, 1) := by decide +kernel
theorem dX4_set_47 : decode cX4_set 47 = .ok (.ireturn, 1) := by decide +kernel
theorem dX4_set_48 : decode cX4_set 48 = .ok (.aload_n 0, 1) := by decide +kernel
theorem dX4_set_49 : decode cX4_set 49 = .ok (.iload_n 1, 1) := by decide +kernel
theorem dX4_set_50 : decode cX4_set 50 = .ok (.iload_n 2, 1) := by decide +kernel
theorem dX4_set_51 : decode cX4_set 51 = .ok (.iload_n 3, 1) := by decide +kernel
theorem dX4_set_52 : decode cX4_set 52 = .ok (.invokevirtual 90, 3) := by decide +kernel
theorem dX4_set_55 : decode cX4_set 55 = .ok (.istore 5, 2) := by decide +kernel
theorem dX4_set_57 : decode cX4_set 57 = .ok (.aload_n 0, 1) := by decide +kernel
theorem dX4_set_58 : decode cX4_set 58 = .ok (.iload_n 1, 1) := by decide +kernel
theorem dX4_set_59 : decode cX4_set 59 = .ok (.iload_n 2, 1) := by decide +kernel
theorem dX4_set_60 : decode cX4_set 60 = .ok (.iload_n 3, 1) := by decide +kernel
theorem dX4_set_61 : decode cX4_set 61 = .ok (.iload 4, 2) := by decide +kernel
theorem dX4_set_63 : decode cX4_set 63 = .ok (.invokevirtual 93, 3) := by decide +kernel
theorem dX4_set_66 : decode cX4_set 66 = .ok (.iload 5, 2) := by decide +kernel
theorem dX4_set_68 : decode cX4_set 68 = .ok (.ireturn, 1) := by decide +kernel
theorem dX4_patch_0 : decode cX4_patch 0 = .ok (.aload_n 0, 1) := by decide +kernel
theorem dX4_patch_1 : decode cX4_patch 1 = .ok (.iload_n 1, 1) := by decide +kernel
theorem dX4_patch_2 : decode cX4_patch 2 = .ok (.invokestatic 73, 3) := by decide +kernel
theorem dX4_patch_5 : decode cX4_patch 5 = .ok (.ifCond .eq 25, 3) := by decide +kernel
theorem dX4_patch_8 : decode cX4_patch 8 = .ok (.iload_n 3, 1) := by decide +kernel
theorem dX4_patch_9 : decode cX4_patch 9 = .ok (.invokestatic 73, 3) := by decide +kernel
theorem dX4_patch_12 : decode cX4_patch 12 = .ok (.ifCond .eq 18, 3) := by decide +kernel
theorem dX4_patch_15 : decode cX4_patch 15 = .ok (.iload 5, 2) := by decide +kernel
theorem dX4_patch_17 : decode cX4_patch 17 = .ok (.iconst 0, 1) := by decide +kernel
theorem dX4_patch_18 : decode cX4_patch 18 = .ok (.bipush 15, 2) := by decide +kernel
theorem dX4_patch_20 : decode cX4_patch 20 = .ok (.invokestatic 37, 3) := by decide +kernel
theorem dX4_patch_23 : decode cX4_patch 23 = .ok (.ifCond .eq 7, 3) := by decide +kernel
theorem dX4_patch_26 : decode cX4_patch 26 = .ok (.iconst 1, 1) := by decide +kernel
theorem dX4_patch_27 : decode cX4_patch 27 = .ok (.goto 4, 3) := by decide +kernel
theorem dX4_patch_30 : decode cX4_patch 30 = .ok (.iconst 0, 1) := by decide +kernel
theorem dX4_patch_31 : decode cX4_patch 31 = .ok (.invokevirtual 80, 3) := by decide +kernel
theorem dX4_patch_34 : decode cX4_patch 34 = .ok (.ifCond .ne 5, 3) := by decide +kernel
theorem dX4_patch_37 : decode cX4_patch 37 = .ok (.iconst 0, 1) := by decide +kernel
theorem dX4_patch_38 : decode cX4_patch 38 = .ok (.ireturn, 1) := by decide +kernel
theorem dX4_patch_39 : decode cX4_patch 39 = .ok (.aload_n 0, 1) := by decide +kernel
theorem dX4_patch_40 : decode cX4_patch 40 = .ok (.aload_n 0, 1) := by decide +kernel
theorem dX4_patch_41 : decode cX4_patch 41 = .ok (.iload_n 1, 1) := by decide +kernel
theorem dX4_patch_42 : decode cX4_patch 42 = .ok (.iload 5, 2) := by decide +kernel
theorem dX4_patch_44 : decode cX4_patch 44 = .ok (.iconst 4, 1) := by decide +kernel
theorem dX4_patch_45 : decode cX4_patch 45 = .ok (.idiv, 1) := by decide +kernel
theorem dX4_patch_46 : decode cX4_patch 46 = .ok (.iload_n 2, 1) := by decide +kernel
theorem dX4_patch_47 : decode cX4_patch 47 = .ok (.invokevirtual 87, 3) := by decide +kernel
theorem dX4_patch_50 : decode cX4_patch 50 = .ok (.putfield 41, 3) := by decide +kernel
theorem dX4_patch_53 : decode cX4_patch 53 = .ok (.aload_n 0, 1) := by decide +kernel
theorem dX4_patch_54 : decode cX4_patch 54 = .ok (.getfield 41, 3) := by decide +kernel
theorem dX4_patch_57 : decode cX4_patch 57 = .ok (.ifCond .eq 5, 3) := by decide +kernel
theorem dX4_patch_60 : decode cX4_patch 60 = .ok (.iconst 0, 1) := by decide +kernel
theorem dX4_patch_61 : decode cX4_patch 61 = .ok (.ireturn, 1) := by decide +kernel
theorem dX4_patch_62 : decode cX4_patch 62 = .ok (.aload_n 0, 1) := by decide +kernel
theorem dX4_patch_63 : decode cX4_patch 63 = .ok (.iload_n 1, 1) := by decide +kernel
theorem dX4_patch_64 : decode cX4_patch 64 = .ok (.iload 5, 2) := by decide +kernel
theorem dX4_patch_66 : decode cX4_patch 66 = .ok (.iconst 4, 1) := by decide +kernel
theorem dX4_patch_67 : decode cX4_patch 67 = .ok (.idiv, 1) := by decide +kernel
theorem dX4_patch_68 : decode cX4_patch 68 = .ok (.iload_n 2, 1) := by decide +kernel
theorem dX4_patch_69 : decode cX4_patch 69 = .ok (.invokevirtual 90, 3) := by decide +kernel
theorem dX4_patch_72 : decode cX4_patch 72 = .ok (.istore 6, 2) := by decide +kernel
theorem dX4_patch_74 : decode cX4_patch 74 = .ok (.aload_n 0, 1) := by decide +kernel
theorem dX4_patch_75 : decode cX4_patch 75 = .ok (.aload_n 0, 1) := by decide +kernel
theorem dX4_patch_76 : decode cX4_patch 76 = .ok (.iload_n 3, 1) := by decide +kernel
theorem dX4_patch_77 : decode cX4_patch 77 = .ok (.iload 5, 2) := by decide +kernel
theorem dX4_patch_79 : decode cX4_patch 79 = .ok (.iconst 4, 1) := by decide +kernel
theorem dX4_patch_80 : decode cX4_patch 80 = .ok (.irem, 1) := by decide +kernel
theorem dX4_patch_81 : decode cX4_patch 81 = .ok (.iload 4, 2) := by decide +kernel
theorem dX4_patch_83 : decode cX4_patch 83 = .ok (.invokevirtual 87, 3) := by decide +kernel
theorem dX4_patch_86 : decode cX4_patch 86 = .ok (.putfield 41, 3) := by decide +kernel
theorem dX4_patch_89 : decode cX4_patch 89 = .ok (.aload_n 0, 1) := by decide +kernel
theorem dX4_patch_90 : decode cX4_patch 90 = .ok (.getfield 41, 3) := by decide +kernel
theorem dX4_patch_93 : decode cX4_patch 93 = .ok (.ifCond .eq 5, 3) := by decide +kernel
theorem dX4_patch_96 : decode cX4_patch 96 = .ok (.iconst 0, 1) := by decide +kernel
theorem dX4_patch_97 : decode cX4_patch 97 = .ok (.ireturn, 1) := by decide +kernel
theorem dX4_patch_98 : decode cX4_patch 98 = .ok (.aload_n 0, 1) := by decide +kernel
theorem dX4_patch_99 : decode cX4_patch 99 = .ok (.iload_n 3, 1) := by decide +kernel
theorem dX4_patch_100 : decode cX4_patch 100 = .ok (.iload 5, 2) := by decide +kernel
theorem dX4_patch_102 : decode cX4_patch 102 = .ok (.iconst 4, 1) := by decide +kernel
theorem dX4_patch_103 : decode cX4_patch 103 = .ok (.irem, 1) := by decide +kernel
theorem dX4_patch_104 : decode cX4_patch 104 = .ok (.iload 4, 2) := by decide +kernel
theorem dX4_patch_106 : decode cX4_patch 106 = .ok (.iload 6, 2) := by decide +kernel
theorem dX4_patch_108 : decode cX4_patch 108 = .ok (.invokevirtual 93, 3) := by decide +kernel
theorem dX4_patch_111 : decode cX4_patch 111 = .ok (.iload 6, 2) := by decide +kernel
theorem dX4_patch_113 : decode cX4_patch 113 = .ok (.ireturn, 1) := by decide +kernel
theorem dX4_ripple_0 : decode cX4_ripple 0 = .ok (.aload_n 0, 1) := by decide +kernel
theorem dX4_ripple_1 : decode cX4_ripple 1 = .ok (.iload_n 1, 1) := by decide +kernel
theorem dX4_ripple_2 : decode cX4_ripple 2 = .ok (.invokestatic 73, 3) := by decide +kernel
theorem dX4_ripple_5 : decode cX4_ripple 5 = .ok (.ifCond .eq 18, 3) := by decide +kernel
theorem dX4_ripple_8 : decode cX4_ripple 8 = .ok (.iload 4, 2) := by decide +kernel
theorem dX4_ripple_10 : decode cX4_ripple 10 = .ok (.iconst 0, 1) := by decide +kernel
theorem dX4_ripple_11 : decode cX4_ripple 11 = .ok (.bipush 64, 2) := by decide +kernel
theorem dX4_ripple_13 : decode cX4_ripple 13 = .ok (.invokestatic 37, 3) := by decide +kernel
theorem dX4_ripple_16 : decode cX4_ripple 16 = .ok (.ifCond .eq 7, 3) := by decide +kernel
theorem dX4_ripple_19 : decode cX4_ripple 19 = .ok (.iconst 1, 1) := by decide +kernel
theorem dX4_ripple_20 : decode cX4_ripple 20 = .ok (.goto 4, 3) := by decide +kernel
theorem dX4_ripple_23 : decode cX4_ripple 23 = .ok (.iconst 0, 1) := by decide +kernel
theorem dX4_ripple_24 : decode cX4_ripple 24 = .ok (.invokevirtual 80, 3) := by decide +kernel
theorem dX4_ripple_27 : decode cX4_ripple 27 = .ok (.ifCond .ne 5, 3) := by decide +kernel
theorem dX4_ripple_30 : decode cX4_ripple 30 = .ok (.iconst 0, 1) := by decide +kernel
theorem dX4_ripple_31 : decode cX4_ripple 31 = .ok (.ireturn, 1) := by decide +kernel
theorem dX4_ripple_32 : decode cX4_ripple 32 = .ok (.iload_n 2, 1) := by decide +kernel
theorem dX4_ripple_33 : decode cX4_ripple 33 = .ok (.istore 6, 2) := by decide +kernel
theorem dX4_ripple_35 : decode cX4_ripple 35 = .ok (.iconst 0, 1) := by decide +kernel
theorem dX4_ripple_36 : decode cX4_ripple 36 = .ok (.istore 7, 2) := by decide +kernel
theorem dX4_ripple_38 : decode cX4_ripple 38 = .ok (.iload 7, 2) := by decide +kernel
theorem dX4_ripple_40 : decode cX4_ripple 40 = .ok (.iload 4, 2) := by decide +kernel
theorem dX4_ripple_42 : decode cX4_ripple 42 = .ok (.if_icmp .ge 63, 3) := by decide +kernel
theorem dX4_ripple_45 : decode cX4_ripple 45 = .ok (.aload_n 0, 1) := by decide +kernel
theorem dX4_ripple_46 : decode cX4_ripple 46 = .ok (.getfield 41, 3) := by decide +kernel
theorem dX4_ripple_49 : decode cX4_ripple 49 = .ok (.ifCond .ne 56, 3) := by decide +kernel
theorem dX4_ripple_52 : decode cX4_ripple 52 = .ok (.aload_n 0, 1) := by decide +kernel
theorem dX4_ripple_53 : decode cX4_ripple 53 = .ok (.aload_n 0, 1) := by decide +kernel
theorem dX4_ripple_54 : decode cX4_ripple 54 = .ok (.iload_n 1, 1) := by decide +kernel
theorem dX4_ripple_55 : decode cX4_ripple 55 = .ok (.iconst 2, 1) := by decide +kernel
theorem dX4_ripple_56 : decode cX4_ripple 56 = .ok (.iload 6, 2) := by decide +kernel
theorem dX4_ripple_58 : decode cX4_ripple 58 = .ok (.invokevirtual 87, 3) := by decide +kernel
theorem dX4_ripple_61 : decode cX4_ripple 61 = .ok (.putfield 41, 3) := by decide +kernel
theorem dX4_ripple_64 : decode cX4_ripple 64 = .ok (.aload_n 0, 1) := by decide +kernel
theorem dX4_ripple_65 : decode cX4_ripple 65 = .ok (.getfield 41, 3) := by decide +kernel
theorem dX4_ripple_68 : decode cX4_ripple 68 = .ok (.ifCond .ne (-30), 3) := by decide +kernel
theorem dX4_ripple_71 : decode cX4_ripple 71 = .ok (.aload_n 0, 1) := by decide +kernel
theorem dX4_ripple_72 : decode cX4_ripple 72 = .ok (.iload_n 1, 1) := by decide +kernel
theorem dX4_ripple_73 : decode cX4_ripple 73 = .ok (.iconst 2, 1) := by decide +kernel
theorem dX4_ripple_74 : decode cX4_ripple 74 = .ok (.iload 6, 2) := by decide +kernel
theorem dX4_ripple_76 : decode cX4_ripple 76 = .ok (.aload_n 0, 1) := by decide +kernel
theorem dX4_ripple_77 : decode cX4_ripple 77 = .ok (.iload_n 1, 1) := by decide +kernel
theorem dX4_ripple_78 : decode cX4_ripple 78 = .ok (.iconst 2, 1) := by decide +kernel
theorem dX4_ripple_79 : decode cX4_ripple 79 = .ok (.iload 6, 2) := by decide +kernel
theorem dX4_ripple_81 : decode cX4_ripple 81 = .ok (.invokevirtual 90, 3) := by decide +kernel
theorem dX4_ripple_84 : decode cX4_ripple 84 = .ok (.iload 5, 2) := by decide +kernel
theorem dX4_ripple_86 : decode cX4_ripple 86 = .ok (.invokestatic 49, 3) := by decide +kernel
theorem dX4_ripple_89 : decode cX4_ripple 89 = .ok (.iadd, 1) := by decide +kernel
theorem dX4_ripple_90 : decode cX4_ripple 90 = .ok (.invokevirtual 93, 3) := by decide +kernel
theorem dX4_ripple_93 : decode cX4_ripple 93 = .ok (.iinc 7 1, 3) := by decide +kernel
theorem dX4_ripple_96 : decode cX4_ripple 96 = .ok (.iload 6, 2) := by decide +kernel
theorem dX4_ripple_98 : decode cX4_ripple 98 = .ok (.iload_n 3, 1) := by decide +kernel
theorem dX4_ripple_99 : decode cX4_ripple 99 = .ok (.iadd, 1) := by decide +kernel
theorem dX4_ripple_100 : decode cX4_ripple 100 = .ok (.istore 6, 2) := by decide +kernel
theorem dX4_ripple_102 : decode cX4_ripple 102 = .ok (.goto (-64), 3) := by decide +kernel
theorem dX4_ripple_105 : decode cX4_ripple 105 = .ok (.iload 7, 2) := by decide +kernel
theorem dX4_ripple_107 : decode cX4_ripple 107 = .ok (.ireturn, 1) := by decide +kernel
theorem dX4_digit_0 : decode cX4_digit 0 = .ok (.iload_n 0, 1) := by decide +kernel
theorem dX4_digit_1 : decode cX4_digit 1 = .ok (.iconst 2, 1) := by decide +kernel
theorem dX4_digit_2 : decode cX4_digit 2 = .ok (.if_icmp .ne 7, 3) := by decide +kernel
theorem dX4_digit_5 : decode cX4_digit 5 = .ok (.iconst 1, 1) := by decide +kernel
theorem dX4_digit_6 : decode cX4_digit 6 = .ok (.goto 13, 3) := by decide +kernel
theorem dX4_digit_9 : decode cX4_digit 9 = .ok (.iload_n 0, 1) := by decide +kernel
theorem dX4_digit_10 : decode cX4_digit 10 = .ok (.iconst 3, 1) := by decide +kernel
theorem dX4_digit_11 : decode cX4_digit 11 = .ok (.if_icmp .ne 7, 3) := by decide +kernel
theorem dX4_digit_14 : decode cX4_digit 14 = .ok (.iconst 2, 1) := by decide +kernel
theorem dX4_digit_15 : decode cX4_digit 15 = .ok (.goto 4, 3) := by decide +kernel
theorem dX4_digit_18 : decode cX4_digit 18 = .ok (.iconst 0, 1) := by decide +kernel
theorem dX4_digit_19 : decode cX4_digit 19 = .ok (.ireturn, 1) := by decide +kernel
theorem dX4_probe_0 : decode cX4_probe 0 = .ok (.aload_n 0, 1) := by decide +kernel
theorem dX4_probe_1 : decode cX4_probe 1 = .ok (.iload_n 1, 1) := by decide +kernel
theorem dX4_probe_2 : decode cX4_probe 2 = .ok (.invokestatic 73, 3) := by decide +kernel
theorem dX4_probe_5 : decode cX4_probe 5 = .ok (.invokevirtual 80, 3) := by decide +kernel
theorem dX4_probe_8 : decode cX4_probe 8 = .ok (.ifCond .ne 5, 3) := by decide +kernel
theorem dX4_probe_11 : decode cX4_probe 11 = .ok (.iconst 0, 1) := by decide +kernel
theorem dX4_probe_12 : decode cX4_probe 12 = .ok (.ireturn, 1) := by decide +kernel
theorem dX4_probe_13 : decode cX4_probe 13 = .ok (.iconst 0, 1) := by decide +kernel
theorem dX4_probe_14 : decode cX4_probe 14 = .ok (.istore_n 3, 1) := by decide +kernel
theorem dX4_probe_15 : decode cX4_probe 15 = .ok (.iconst 1, 1) := by decide +kernel
theorem dX4_probe_16 : decode cX4_probe 16 = .ok (.istore 4, 2) := by decide +kernel
theorem dX4_probe_18 : decode cX4_probe 18 = .ok (.iconst 0, 1) := by decide +kernel
theorem dX4_probe_19 : decode cX4_probe 19 = .ok (.istore 5, 2) := by decide +kernel
theorem dX4_probe_21 : decode cX4_probe 21 = .ok (.iload 5, 2) := by decide +kernel
theorem dX4_probe_23 : decode cX4_probe 23 = .ok (.iconst 3, 1) := by decide +kernel
theorem dX4_probe_24 : decode cX4_probe 24 = .ok (.if_icmp .gt 33, 3) := by decide +kernel
theorem dX4_probe_27 : decode cX4_probe 27 = .ok (.iload_n 3, 1) := by decide +kernel
theorem dX4_probe_28 : decode cX4_probe 28 = .ok (.iload 4, 2) := by decide +kernel
theorem dX4_probe_30 : decode cX4_probe 30 = .ok (.aload_n 0, 1) := by decide +kernel
theorem dX4_probe_31 : decode cX4_probe 31 = .ok (.iload_n 1, 1) := by decide +kernel
theorem dX4_probe_32 : decode cX4_probe 32 = .ok (.iload 5, 2) := by decide +kernel
theorem dX4_probe_34 : decode cX4_probe 34 = .ok (.iload_n 2, 1) := by decide +kernel
theorem dX4_probe_35 : decode cX4_probe 35 = .ok (.invokevirtual 87, 3) := by decide +kernel
theorem dX4_probe_38 : decode cX4_probe 38 = .ok (.invokestatic 97, 3) := by decide +kernel
theorem dX4_probe_41 : decode cX4_probe 41 = .ok (.imul, 1) := by decide +kernel
theorem dX4_probe_42 : decode cX4_probe 42 = .ok (.iadd, 1) := by decide +kernel
theorem dX4_probe_43 : decode cX4_probe 43 = .ok (.istore_n 3, 1) := by decide +kernel
theorem dX4_probe_44 : decode cX4_probe 44 = .ok (.iload 4, 2) := by decide +kernel
theorem dX4_probe_46 : decode cX4_probe 46 = .ok (.bipush 10, 2) := by decide +kernel
theorem dX4_probe_48 : decode cX4_probe 48 = .ok (.imul, 1) := by decide +kernel
theorem dX4_probe_49 : decode cX4_probe 49 = .ok (.istore 4, 2) := by decide +kernel
theorem dX4_probe_51 : decode cX4_probe 51 = .ok (.iinc 5 1, 3) := by decide +kernel
theorem dX4_probe_54 : decode cX4_probe 54 = .ok (.goto (-33), 3) := by decide +kernel
theorem dX4_probe_57 : decode cX4_probe 57 = .ok (.iload_n 3, 1) := by decide +kernel
theorem dX4_probe_58 : decode cX4_probe 58 = .ok (.ireturn, 1) := by decide +kernel
theorem dX4_poke_0 : decode cX4_poke 0 = .ok (.aload_n 0, 1) := by decide +kernel
theorem dX4_poke_1 : decode cX4_poke 1 = .ok (.iload_n 1, 1) := by decide +kernel
theorem dX4_poke_2 : decode cX4_poke 2 = .ok (.invokestatic 73, 3) := by decide +kernel
theorem dX4_poke_5 : decode cX4_poke 5 = .ok (.invokevirtual 80, 3) := by decide +kernel
theorem dX4_poke_8 : decode cX4_poke 8 = .ok (.ifCond .ne 5, 3) := by decide +kernel
theorem dX4_poke_11 : decode cX4_poke 11 = .ok (.iconst 0, 1) := by decide +kernel
theorem dX4_poke_12 : decode cX4_poke 12 = .ok (.ireturn, 1) := by decide +kernel
theorem dX4_poke_13 : decode cX4_poke 13 = .ok (.iconst 0, 1) := by decide +kernel
theorem dX4_poke_14 : decode cX4_poke 14 = .ok (.istore 4, 2) := by decide +kernel
theorem dX4_poke_16 : decode cX4_poke 16 = .ok (.iconst 1, 1) := by decide +kernel
theorem dX4_poke_17 : decode cX4_poke 17 = .ok (.istore 5, 2) := by decide +kernel
theorem dX4_poke_19 : decode cX4_poke 19 = .ok (.iconst 0, 1) := by decide +kernel
theorem dX4_poke_20 : decode cX4_poke 20 = .ok (.istore 6, 2) := by decide +kernel
theorem dX4_poke_22 : decode cX4_poke 22 = .ok (.iload 6, 2) := by decide +kernel
theorem dX4_poke_24 : decode cX4_poke 24 = .ok (.iconst 3, 1) := by decide +kernel
theorem dX4_poke_25 : decode cX4_poke 25 = .ok (.if_icmp .gt 53, 3) := by decide +kernel
theorem dX4_poke_28 : decode cX4_poke 28 = .ok (.aload_n 0, 1) := by decide +kernel
theorem dX4_poke_29 : decode cX4_poke 29 = .ok (.iload_n 1, 1) := by decide +kernel
theorem dX4_poke_30 : decode cX4_poke 30 = .ok (.iload 6, 2) := by decide +kernel
theorem dX4_poke_32 : decode cX4_poke 32 = .ok (.iload_n 2, 1) := by decide +kernel
theorem dX4_poke_33 : decode cX4_poke 33 = .ok (.invokevirtual 87, 3) := by decide +kernel
theorem dX4_poke_36 : decode cX4_poke 36 = .ok (.istore 7, 2) := by decide +kernel
theorem dX4_poke_38 : decode cX4_poke 38 = .ok (.iload 7, 2) := by decide +kernel
theorem dX4_poke_40 : decode cX4_poke 40 = .ok (.ifCond .ne 12, 3) := by decide +kernel
theorem dX4_poke_43 : decode cX4_poke 43 = .ok (.aload_n 0, 1) := by decide +kernel
theorem dX4_poke_44 : decode cX4_poke 44 = .ok (.iload_n 1, 1) := by decide +kernel
theorem dX4_poke_45 : decode cX4_poke 45 = .ok (.iload 6, 2) := by decide +kernel
theorem dX4_poke_47 : decode cX4_poke 47 = .ok (.iload_n 2, 1) := by decide +kernel
theorem dX4_poke_48 : decode cX4_poke 48 = .ok (.iload_n 3, 1) := by decide +kernel
theorem dX4_poke_49 : decode cX4_poke 49 = .ok (.invokevirtual 93, 3) := by decide +kernel
theorem dX4_poke_52 : decode cX4_poke 52 = .ok (.iload 4, 2) := by decide +kernel
theorem dX4_poke_54 : decode cX4_poke 54 = .ok (.iload 5, 2) := by decide +kernel
theorem dX4_poke_56 : decode cX4_poke 56 = .ok (.iload 7, 2) := by decide +kernel
theorem dX4_poke_58 : decode cX4_poke 58 = .ok (.invokestatic 97, 3) := by decide +kernel
theorem dX4_poke_61 : decode cX4_poke 61 = .ok (.imul, 1) := by decide +kernel
theorem dX4_poke_62 : decode cX4_poke 62 = .ok (.iadd, 1) := by decide +kernel
theorem dX4_poke_63 : decode cX4_poke 63 = .ok (.istore 4, 2) := by decide +kernel
theorem dX4_poke_65 : decode cX4_poke 65 = .ok (.iload 5, 2) := by decide +kernel
theorem dX4_poke_67 : decode cX4_poke 67 = .ok (.bipush 10, 2) := by decide +kernel
theorem dX4_poke_69 : decode cX4_poke 69 = .ok (.imul, 1) := by decide +kernel
theorem dX4_poke_70 : decode cX4_poke 70 = .ok (.istore 5, 2) := by decide +kernel
theorem dX4_poke_72 : decode cX4_poke 72 = .ok (.iinc 6 1, 3) := by decide +kernel
theorem dX4_poke_75 : decode cX4_poke 75 = .ok (.goto (-53), 3) := by decide +kernel
theorem dX4_poke_78 : decode cX4_poke 78 = .ok (.iload 4, 2) := by decide +kernel
theorem dX4_poke_80 : decode cX4_poke 80 = .ok (.ireturn, 1) := by decide +kernel
theorem dX4_light_0 : decode cX4_light 0 = .ok (.aload_n 0, 1) := by decide +kernel
theorem dX4_light_1 : decode cX4_light 1 = .ok (.aload_n 0, 1) := by decide +kernel
theorem dX4_light_2 : decode cX4_light 2 = .ok (.iload_n 1, 1) := by decide +kernel
theorem dX4_light_3 : decode cX4_light 3 = .ok (.iconst 3, 1) := by decide +kernel
theorem dX4_light_4 : decode cX4_light 4 = .ok (.iload_n 2, 1) := by decide +kernel
theorem dX4_light_5 : decode cX4_light 5 = .ok (.invokevirtual 87, 3) := by decide +kernel
theorem dX4_light_8 : decode cX4_light 8 = .ok (.putfield 100, 3) := by decide +kernel
theorem dX4_light_11 : decode cX4_light 11 = .ok (.aload_n 0, 1) := by decide +kernel
theorem dX4_light_12 : decode cX4_light 12 = .ok (.getfield 100, 3) := by decide +kernel
theorem dX4_light_15 : decode cX4_light 15 = .ok (.ifCond .ne 13, 3) := by decide +kernel
theorem dX4_light_18 : decode cX4_light 18 = .ok (.aload_n 0, 1) := by decide +kernel
theorem dX4_light_19 : decode cX4_light 19 = .ok (.iload_n 1, 1) := by decide +kernel
theorem dX4_light_20 : decode cX4_light 20 = .ok (.iconst 3, 1) := by decide +kernel
theorem dX4_light_21 : decode cX4_light 21 = .ok (.iload_n 2, 1) := by decide +kernel
theorem dX4_light_22 : decode cX4_light 22 = .ok (.invokevirtual 90, 3) := by decide +kernel
theorem dX4_light_25 : decode cX4_light 25 = .ok (.ifCond .ne 5, 3) := by decide +kernel
theorem dX4_light_28 : decode cX4_light 28 = .ok (.iconst 0, 1) := by decide +kernel
theorem dX4_light_29 : decode cX4_light 29 = .ok (.ireturn, 1) := by decide +kernel
theorem dX4_light_30 : decode cX4_light 30 = .ok (.aload_n 0, 1) := by decide +kernel
theorem dX4_light_31 : decode cX4_light 31 = .ok (.aload_n 0, 1) := by decide +kernel
theorem dX4_light_32 : decode cX4_light 32 = .ok (.iload_n 1, 1) := by decide +kernel
theorem dX4_light_33 : decode cX4_light 33 = .ok (.iconst 2, 1) := by decide +kernel
theorem dX4_light_34 : decode cX4_light 34 = .ok (.iload_n 2, 1) := by decide +kernel
theorem dX4_light_35 : decode cX4_light 35 = .ok (.invokevirtual 87, 3) := by decide +kernel
theorem dX4_light_38 : decode cX4_light 38 = .ok (.putfield 100, 3) := by decide +kernel
theorem dX4_light_41 : decode cX4_light 41 = .ok (.aload_n 0, 1) := by decide +kernel
theorem dX4_light_42 : decode cX4_light 42 = .ok (.getfield 100, 3) := by decide +kernel
theorem dX4_light_45 : decode cX4_light 45 = .ok (.ifCond .eq 5, 3) := by decide +kernel
theorem dX4_light_48 : decode cX4_light 48 = .ok (.iconst 0, 1) := by decide +kernel
theorem dX4_light_49 : decode cX4_light 49 = .ok (.ireturn, 1) := by decide +kernel
theorem dX4_light_50 : decode cX4_light 50 = .ok (.aload_n 0, 1) := by decide +kernel
theorem dX4_light_51 : decode cX4_light 51 = .ok (.aload_n 0, 1) := by decide +kernel
theorem dX4_light_52 : decode cX4_light 52 = .ok (.iload_n 1, 1) := by decide +kernel
theorem dX4_light_53 : decode cX4_light 53 = .ok (.iconst 1, 1) := by decide +kernel
theorem dX4_light_54 : decode cX4_light 54 = .ok (.iload_n 2, 1) := by decide +kernel
theorem dX4_light_55 : decode cX4_light 55 = .ok (.invokevirtual 87, 3) := by decide +kernel
theorem dX4_light_58 : decode cX4_light 58 = .ok (.putfield 100, 3) := by decide +kernel
theorem dX4_light_61 : decode cX4_light 61 = .ok (.aload_n 0, 1) := by decide +kernel
theorem dX4_light_62 : decode cX4_light 62 = .ok (.getfield 100, 3) := by decide +kernel
theorem dX4_light_65 : decode cX4_light 65 = .ok (.ifCond .eq 5, 3) := by decide +kernel
theorem dX4_light_68 : decode cX4_light 68 = .ok (.iconst 0, 1) := by decide +kernel
theorem dX4_light_69 : decode cX4_light 69 = .ok (.ireturn, 1) := by decide +kernel
theorem dX4_light_70 : decode cX4_light 70 = .ok (.aload_n 0, 1) := by decide +kernel
theorem dX4_light_71 : decode cX4_light 71 = .ok (.aload_n 0, 1) := by decide +kernel
theorem dX4_light_72 : decode cX4_light 72 = .ok (.iload_n 1, 1) := by decide +kernel
theorem dX4_light_73 : decode cX4_light 73 = .ok (.iconst 0, 1) := by decide +kernel
theorem dX4_light_74 : decode cX4_light 74 = .ok (.iload_n 2, 1) := by decide +kernel
theorem dX4_light_75 : decode cX4_light 75 = .ok (.invokevirtual 87, 3) := by decide +kernel
theorem dX4_light_78 : decode cX4_light 78 = .ok (.putfield 100, 3) := by decide +kernel
theorem dX4_light_81 : decode cX4_light 81 = .ok (.aload_n 0, 1) := by decide +kernel
theorem dX4_light_82 : decode cX4_light 82 = .ok (.getfield 100, 3) := by decide +kernel
theorem dX4_light_85 : decode cX4_light 85 = .ok (.ifCond .eq 5, 3) := by decide +kernel
theorem dX4_light_88 : decode cX4_light 88 = .ok (.iconst 0, 1) := by decide +kernel
theorem dX4_light_89 : decode cX4_light 89 = .ok (.ireturn, 1) := by decide +kernel
theorem dX4_light_90 : decode cX4_light 90 = .ok (.aload_n 0, 1) := by decide +kernel
theorem dX4_light_91 : decode cX4_light 91 = .ok (.iload_n 1, 1) := by decide +kernel
theorem dX4_light_92 : decode cX4_light 92 = .ok (.iconst 2, 1) := by decide +kernel
theorem dX4_light_93 : decode cX4_light 93 = .ok (.iload_n 2, 1) := by decide +kernel
theorem dX4_light_94 : decode cX4_light 94 = .ok (.invokevirtual 90, 3) := by decide +kernel
theorem dX4_light_97 : decode cX4_light 97 = .ok (.aload_n 0, 1) := by decide +kernel
theorem dX4_light_98 : decode cX4_light 98 = .ok (.iload_n 1, 1) := by decide +kernel
theorem dX4_light_99 : decode cX4_light 99 = .ok (.iconst 1, 1) := by decide +kernel
theorem dX4_light_100 : decode cX4_light 100 = .ok (.iload_n 2, 1) := by decide +kernel
theorem dX4_light_101 : decode cX4_light 101 = .ok (.invokevirtual 90, 3) := by decide +kernel
theorem dX4_light_104 : decode cX4_light 104 = .ok (.iadd, 1) := by decide +kernel
theorem dX4_light_105 : decode cX4_light 105 = .ok (.istore_n 3, 1) := by decide +kernel
theorem dX4_light_106 : decode cX4_light 106 = .ok (.aload_n 0, 1) := by decide +kernel
theorem dX4_light_107 : decode cX4_light 107 = .ok (.iload_n 1, 1) := by decide +kernel
theorem dX4_light_108 : decode cX4_light 108 = .ok (.iconst 0, 1) := by decide +kernel
theorem dX4_light_109 : decode cX4_light 109 = .ok (.iload_n 2, 1) := by decide +kernel
theorem dX4_light_110 : decode cX4_light 110 = .ok (.invokevirtual 90, 3) := by decide +kernel
theorem dX4_light_113 : decode cX4_light 113 = .ok (.iconst 2, 1) := by decide +kernel
theorem dX4_light_114 : decode cX4_light 114 = .ok (.irem, 1) := by decide +kernel
theorem dX4_light_115 : decode cX4_light 115 = .ok (.iconst 1, 1) := by decide +kernel
theorem dX4_light_116 : decode cX4_light 116 = .ok (.if_icmp .ne 8, 3) := by decide +kernel
theorem dX4_light_119 : decode cX4_light 119 = .ok (.iload_n 3, 1) := by decide +kernel
theorem dX4_light_120 : decode cX4_light 120 = .ok (.ineg, 1) := by decide +kernel
theorem dX4_light_121 : decode cX4_light 121 = .ok (.goto 4, 3) := by decide +kernel
theorem dX4_light_124 : decode cX4_light 124 = .ok (.iload_n 3, 1) := by decide +kernel
theorem dX4_light_125 : decode cX4_light 125 = .ok (.ireturn, 1) := by decide +kernel
theorem dX4_shown_0 : decode cX4_shown 0 = .ok (.aload_n 0, 1) := by decide +kernel
theorem dX4_shown_1 : decode cX4_shown 1 = .ok (.iload_n 1, 1) := by decide +kernel
theorem dX4_shown_2 : decode cX4_shown 2 = .ok (.invokestatic 73, 3) := by decide +kernel
theorem dX4_shown_5 : decode cX4_shown 5 = .ok (.invokevirtual 80, 3) := by decide +kernel
theorem dX4_shown_8 : decode cX4_shown 8 = .ok (.ifCond .ne 5, 3) := by decide +kernel
theorem dX4_shown_11 : decode cX4_shown 11 = .ok (.iconst 0, 1) := by decide +kernel
theorem dX4_shown_12 : decode cX4_shown 12 = .ok (.ireturn, 1) := by decide +kernel
theorem dX4_shown_13 : decode cX4_shown 13 = .ok (.aload_n 0, 1) := by decide +kernel
theorem dX4_shown_14 : decode cX4_shown 14 = .ok (.iload_n 1, 1) := by decide +kernel
theorem dX4_shown_15 : decode cX4_shown 15 = .ok (.iload_n 2, 1) := by decide +kernel
theorem dX4_shown_16 : decode cX4_shown 16 = .ok (.invokevirtual 103, 3) := by decide +kernel
theorem dX4_shown_19 : decode cX4_shown 19 = .ok (.istore_n 3, 1) := by decide +kernel
theorem dX4_shown_20 : decode cX4_shown 20 = .ok (.aload_n 0, 1) := by decide +kernel
theorem dX4_shown_21 : decode cX4_shown 21 = .ok (.aload_n 0, 1) := by decide +kernel
theorem dX4_shown_22 : decode cX4_shown 22 = .ok (.getfield 100, 3) := by decide +kernel
theorem dX4_shown_25 : decode cX4_shown 25 = .ok (.putfield 41, 3) := by decide +kernel
theorem dX4_shown_28 : decode cX4_shown 28 = .ok (.iload_n 3, 1) := by decide +kernel
theorem dX4_shown_29 : decode cX4_shown 29 = .ok (.ireturn, 1) := by decide +kernel
theorem dX4_lit_0 : decode cX4_lit 0 = .ok (.aload_n 0, 1) := by decide +kernel
theorem dX4_lit_1 : decode cX4_lit 1 = .ok (.iload_n 1, 1) := by decide +kernel
theorem dX4_lit_2 : decode cX4_lit 2 = .ok (.invokestatic 73, 3) := by decide +kernel
theorem dX4_lit_5 : decode cX4_lit 5 = .ok (.invokevirtual 80, 3) := by decide +kernel
theorem dX4_lit_8 : decode cX4_lit 8 = .ok (.ifCond .ne 5, 3) := by decide +kernel
theorem dX4_lit_11 : decode cX4_lit 11 = .ok (.iconst 0, 1) := by decide +kernel
theorem dX4_lit_12 : decode cX4_lit 12 = .ok (.ireturn, 1) := by decide +kernel
theorem dX4_lit_13 : decode cX4_lit 13 = .ok (.aload_n 0, 1) := by decide +kernel
theorem dX4_lit_14 : decode cX4_lit 14 = .ok (.getfield 7, 3) := by decide +kernel
theorem dX4_lit_17 : decode cX4_lit 17 = .ok (.iconst 4, 1) := by decide +kernel
theorem dX4_lit_18 : decode cX4_lit 18 = .ok (.iload_n 1, 1) := by decide +kernel
theorem dX4_lit_19 : decode cX4_lit 19 = .ok (.imul, 1) := by decide +kernel
theorem dX4_lit_20 : decode cX4_lit 20 = .ok (.iconst 2, 1) := by decide +kernel
theorem dX4_lit_21 : decode cX4_lit 21 = .ok (.iadd, 1) := by decide +kernel
theorem dX4_lit_22 : decode cX4_lit 22 = .ok (.iaload, 1) := by decide +kernel
theorem dX4_lit_23 : decode cX4_lit 23 = .ok (.istore_n 2, 1) := by decide +kernel
theorem dX4_lit_24 : decode cX4_lit 24 = .ok (.iload_n 2, 1) := by decide +kernel
theorem dX4_lit_25 : decode cX4_lit 25 = .ok (.iconst (-1), 1) := by decide +kernel
theorem dX4_lit_26 : decode cX4_lit 26 = .ok (.if_icmp .ne 14, 3) := by decide +kernel
theorem dX4_lit_29 : decode cX4_lit 29 = .ok (.aload_n 0, 1) := by decide +kernel
theorem dX4_lit_30 : decode cX4_lit 30 = .ok (.aload_n 0, 1) := by decide +kernel
theorem dX4_lit_31 : decode cX4_lit 31 = .ok (.iconst 2, 1) := by decide +kernel
theorem dX4_lit_32 : decode cX4_lit 32 = .ok (.invokevirtual 57, 3) := by decide +kernel
theorem dX4_lit_35 : decode cX4_lit 35 = .ok (.putfield 41, 3) := by decide +kernel
theorem dX4_lit_38 : decode cX4_lit 38 = .ok (.iconst 0, 1) := by decide +kernel
theorem dX4_lit_39 : decode cX4_lit 39 = .ok (.ireturn, 1) := by decide +kernel
theorem dX4_lit_40 : decode cX4_lit 40 = .ok (.iconst 0, 1) := by decide +kernel
theorem dX4_lit_41 : decode cX4_lit 41 = .ok (.istore_n 3, 1) := by decide +kernel
theorem dX4_lit_42 : decode cX4_lit 42 = .ok (.iconst 0, 1) := by decide +kernel
theorem dX4_lit_43 : decode cX4_lit 43 = .ok (.istore 4, 2) := by decide +kernel
theorem dX4_lit_45 : decode cX4_lit 45 = .ok (.iload 4, 2) := by decide +kernel
theorem dX4_lit_47 : decode cX4_lit 47 = .ok (.aload_n 0, 1) := by decide +kernel
theorem dX4_lit_48 : decode cX4_lit 48 = .ok (.getfield 13, 3) := by decide +kernel
theorem dX4_lit_51 : decode cX4_lit 51 = .ok (.iload_n 2, 1) := by decide +kernel
theorem dX4_lit_52 : decode cX4_lit 52 = .ok (.iaload, 1) := by decide +kernel
theorem dX4_lit_53 : decode cX4_lit 53 = .ok (.if_icmp .ge 67, 3) := by decide +kernel
theorem dX4_lit_56 : decode cX4_lit 56 = .ok (.aload_n 0, 1) := by decide +kernel
theorem dX4_lit_57 : decode cX4_lit 57 = .ok (.iload_n 1, 1) := by decide +kernel
theorem dX4_lit_58 : decode cX4_lit 58 = .ok (.iconst 3, 1) := by decide +kernel
theorem dX4_lit_59 : decode cX4_lit 59 = .ok (.iload 4, 2) := by decide +kernel
theorem dX4_lit_61 : decode cX4_lit 61 = .ok (.invokevirtual 87, 3) := by decide +kernel
theorem dX4_lit_64 : decode cX4_lit 64 = .ok (.ifCond .ne 19, 3) := by decide +kernel
theorem dX4_lit_67 : decode cX4_lit 67 = .ok (.aload_n 0, 1) := by decide +kernel
theorem dX4_lit_68 : decode cX4_lit 68 = .ok (.iload_n 1, 1) := by decide +kernel
theorem dX4_lit_69 : decode cX4_lit 69 = .ok (.iconst 3, 1) := by decide +kernel
theorem dX4_lit_70 : decode cX4_lit 70 = .ok (.iload 4, 2) := by decide +kernel
theorem dX4_lit_72 : decode cX4_lit 72 = .ok (.invokevirtual 90, 3) := by decide +kernel
theorem dX4_lit_75 : decode cX4_lit 75 = .ok (.iconst 1, 1) := by decide +kernel
theorem dX4_lit_76 : decode cX4_lit 76 = .ok (.if_icmp .ne 7, 3) := by decide +kernel
theorem dX4_lit_79 : decode cX4_lit 79 = .ok (.iconst 1, 1) := by decide +kernel
theorem dX4_lit_80 : decode cX4_lit 80 = .ok (.goto 4, 3) := by decide +kernel
theorem dX4_lit_83 : decode cX4_lit 83 = .ok (.iconst 0, 1) := by decide +kernel
theorem dX4_lit_84 : decode cX4_lit 84 = .ok (.istore 5, 2) := by decide +kernel
theorem dX4_lit_86 : decode cX4_lit 86 = .ok (.iload_n 3, 1) := by decide +kernel
theorem dX4_lit_87 : decode cX4_lit 87 = .ok (.iload 5, 2) := by decide +kernel
theorem dX4_lit_89 : decode cX4_lit 89 = .ok (.ifCond .eq 22, 3) := by decide +kernel
theorem dX4_lit_92 : decode cX4_lit 92 = .ok (.aload_n 0, 1) := by decide +kernel
theorem dX4_lit_93 : decode cX4_lit 93 = .ok (.getfield 16, 3) := by decide +kernel
theorem dX4_lit_96 : decode cX4_lit 96 = .ok (.bipush 25, 2) := by decide +kernel
theorem dX4_lit_98 : decode cX4_lit 98 = .ok (.iload_n 2, 1) := by decide +kernel
theorem dX4_lit_99 : decode cX4_lit 99 = .ok (.imul, 1) := by decide +kernel
theorem dX4_lit_100 : decode cX4_lit 100 = .ok (.iload 4, 2) := by decide +kernel
theorem dX4_lit_102 : decode cX4_lit 102 = .ok (.iadd, 1) := by decide +kernel
theorem dX4_lit_103 : decode cX4_lit 103 = .ok (.iaload, 1) := by decide +kernel
theorem dX4_lit_104 : decode cX4_lit 104 = .ok (.ifCond .le 7, 3) := by decide +kernel
theorem dX4_lit_107 : decode cX4_lit 107 = .ok (.iconst 1, 1) := by decide +kernel
theorem dX4_lit_108 : decode cX4_lit 108 = .ok (.goto 4, 3) := by decide +kernel
theorem dX4_lit_111 : decode cX4_lit 111 = .ok (.iconst 0, 1) := by decide +kernel
theorem dX4_lit_112 : decode cX4_lit 112 = .ok (.iadd, 1) := by decide +kernel
theorem dX4_lit_113 : decode cX4_lit 113 = .ok (.istore_n 3, 1) := by decide +kernel
theorem dX4_lit_114 : decode cX4_lit 114 = .ok (.iinc 4 1, 3) := by decide +kernel
theorem dX4_lit_117 : decode cX4_lit 117 = .ok (.goto (-72), 3) := by decide +kernel
theorem dX4_lit_120 : decode cX4_lit 120 = .ok (.iload_n 3, 1) := by decide +kernel
theorem dX4_lit_121 : decode cX4_lit 121 = .ok (.ireturn, 1) := by decide +kernel
theorem dX4_fade_0 : decode cX4_fade 0 = .ok (.aload_n 0, 1) := by decide +kernel
theorem dX4_fade_1 : decode cX4_fade 1 = .ok (.iload_n 1, 1) := by decide +kernel
theorem dX4_fade_2 : decode cX4_fade 2 = .ok (.invokestatic 73, 3) := by decide +kernel
theorem dX4_fade_5 : decode cX4_fade 5 = .ok (.ifCond .eq 19, 3) := by decide +kernel
theorem dX4_fade_8 : decode cX4_fade 8 = .ok (.iload 4, 2) := by decide +kernel
theorem dX4_fade_10 : decode cX4_fade 10 = .ok (.iconst 1, 1) := by decide +kernel
theorem dX4_fade_11 : decode cX4_fade 11 = .ok (.sipush 1000, 3) := by decide +kernel
theorem dX4_fade_14 : decode cX4_fade 14 = .ok (.invokestatic 37, 3) := by decide +kernel
theorem dX4_fade_17 : decode cX4_fade 17 = .ok (.ifCond .eq 7, 3) := by decide +kernel
theorem dX4_fade_20 : decode cX4_fade 20 = .ok (.iconst 1, 1) := by decide +kernel
theorem dX4_fade_21 : decode cX4_fade 21 = .ok (.goto 4, 3) := by decide +kernel
theorem dX4_fade_24 : decode cX4_fade 24 = .ok (.iconst 0, 1) := by decide +kernel
theorem dX4_fade_25 : decode cX4_fade 25 = .ok (.invokevirtual 80, 3) := by decide +kernel
theorem dX4_fade_28 : decode cX4_fade 28 = .ok (.ifCond .ne 5, 3) := by decide +kernel
theorem dX4_fade_31 : decode cX4_fade 31 = .ok (.iconst 0, 1) := by decide +kernel
theorem dX4_fade_32 : decode cX4_fade 32 = .ok (.ireturn, 1) := by decide +kernel
theorem dX4_fade_33 : decode cX4_fade 33 = .ok (.aload_n 0, 1) := by decide +kernel
theorem dX4_fade_34 : decode cX4_fade 34 = .ok (.getfield 106, 3) := by decide +kernel
theorem dX4_fade_37 : decode cX4_fade 37 = .ok (.bipush 16, 2) := by decide +kernel
theorem dX4_fade_39 : decode cX4_fade 39 = .ok (.if_icmp .ne 11, 3) := by decide +kernel
theorem dX4_fade_42 : decode cX4_fade 42 = .ok (.aload_n 0, 1) := by decide +kernel
theorem dX4_fade_43 : decode cX4_fade 43 = .ok (.bipush 6, 2) := by decide +kernel
theorem dX4_fade_45 : decode cX4_fade 45 = .ok (.putfield 41, 3) := by decide +kernel
theorem dX4_fade_48 : decode cX4_fade 48 = .ok (.iconst 0, 1) := by decide +kernel
theorem dX4_fade_49 : decode cX4_fade 49 = .ok (.ireturn, 1) := by decide +kernel
theorem dX4_fade_50 : decode cX4_fade 50 = .ok (.aload_n 0, 1) := by decide +kernel
theorem dX4_fade_51 : decode cX4_fade 51 = .ok (.aload_n 0, 1) := by decide +kernel
theorem dX4_fade_52 : decode cX4_fade 52 = .ok (.iload_n 1, 1) := by decide +kernel
theorem dX4_fade_53 : decode cX4_fade 53 = .ok (.iconst 2, 1) := by decide +kernel
theorem dX4_fade_54 : decode cX4_fade 54 = .ok (.iload_n 2, 1) := by decide +kernel
theorem dX4_fade_55 : decode cX4_fade 55 = .ok (.invokevirtual 87, 3) := by decide +kernel
theorem dX4_fade_58 : decode cX4_fade 58 = .ok (.putfield 41, 3) := by decide +kernel
theorem dX4_fade_61 : decode cX4_fade 61 = .ok (.aload_n 0, 1) := by decide +kernel
theorem dX4_fade_62 : decode cX4_fade 62 = .ok (.getfield 41, 3) := by decide +kernel
theorem dX4_fade_65 : decode cX4_fade 65 = .ok (.ifCond .eq 5, 3) := by decide +kernel
theorem dX4_fade_68 : decode cX4_fade 68 = .ok (.iconst 0, 1) := by decide +kernel
theorem dX4_fade_69 : decode cX4_fade 69 = .ok (.ireturn, 1) := by decide +kernel
theorem dX4_fade_70 : decode cX4_fade 70 = .ok (.aload_n 0, 1) := by decide +kernel
theorem dX4_fade_71 : decode cX4_fade 71 = .ok (.getfield 25, 3) := by decide +kernel
theorem dX4_fade_74 : decode cX4_fade 74 = .ok (.aload_n 0, 1) := by decide +kernel
theorem dX4_fade_75 : decode cX4_fade 75 = .ok (.getfield 106, 3) := by decide +kernel
theorem dX4_fade_78 : decode cX4_fade 78 = .ok (.iload_n 1, 1) := by decide +kernel
theorem dX4_fade_79 : decode cX4_fade 79 = .ok (.iastore, 1) := by decide +kernel
theorem dX4_fade_80 : decode cX4_fade 80 = .ok (.aload_n 0, 1) := by decide +kernel
theorem dX4_fade_81 : decode cX4_fade 81 = .ok (.getfield 28, 3) := by decide +kernel
theorem dX4_fade_84 : decode cX4_fade 84 = .ok (.aload_n 0, 1) := by decide +kernel
theorem dX4_fade_85 : decode cX4_fade 85 = .ok (.getfield 106, 3) := by decide +kernel
theorem dX4_fade_88 : decode cX4_fade 88 = .ok (.iload_n 2, 1) := by decide +kernel
theorem dX4_fade_89 : decode cX4_fade 89 = .ok (.iastore, 1) := by decide +kernel
theorem dX4_fade_90 : decode cX4_fade 90 = .ok (.aload_n 0, 1) := by decide +kernel
theorem dX4_fade_91 : decode cX4_fade 91 = .ok (.getfield 31, 3) := by decide +kernel
theorem dX4_fade_94 : decode cX4_fade 94 = .ok (.aload_n 0, 1) := by decide +kernel
theorem dX4_fade_95 : decode cX4_fade 95 = .ok (.getfield 106, 3) := by decide +kernel
theorem dX4_fade_98 : decode cX4_fade 98 = .ok (.iload_n 3, 1) := by decide +kernel
theorem dX4_fade_99 : decode cX4_fade 99 = .ok (.invokestatic 49, 3) := by decide +kernel
theorem dX4_fade_102 : decode cX4_fade 102 = .ok (.iastore, 1) := by decide +kernel
theorem dX4_fade_103 : decode cX4_fade 103 = .ok (.aload_n 0, 1) := by decide +kernel
theorem dX4_fade_104 : decode cX4_fade 104 = .ok (.getfield 34, 3) := by decide +kernel
theorem dX4_fade_107 : decode cX4_fade 107 = .ok (.aload_n 0, 1) := by decide +kernel
theorem dX4_fade_108 : decode cX4_fade 108 = .ok (.getfield 106, 3) := by decide +kernel
theorem dX4_fade_111 : decode cX4_fade 111 = .ok (.iload 4, 2) := by decide +kernel
theorem dX4_fade_113 : decode cX4_fade 113 = .ok (.iastore, 1) := by decide +kernel
theorem dX4_fade_114 : decode cX4_fade 114 = .ok (.aload_n 0, 1) := by decide +kernel
theorem dX4_fade_115 : decode cX4_fade 115 = .ok (.dup, 1) := by decide +kernel
theorem dX4_fade_116 : decode cX4_fade 116 = .ok (.getfield 106, 3) := by decide +kernel
theorem dX4_fade_119 : decode cX4_fade 119 = .ok (.iconst 1, 1) := by decide +kernel
theorem dX4_fade_120 : decode cX4_fade 120 = .ok (.iadd, 1) := by decide +kernel
theorem dX4_fade_121 : decode cX4_fade 121 = .ok (.putfield 106, 3) := by decide +kernel
theorem dX4_fade_124 : decode cX4_fade 124 = .ok (.aload_n 0, 1) := by decide +kernel
theorem dX4_fade_125 : decode cX4_fade 125 = .ok (.getfield 106, 3) := by decide +kernel
theorem dX4_fade_128 : decode cX4_fade 128 = .ok (.ireturn, 1) := by decide +kernel
theorem dX4_tick_0 : decode cX4_tick 0 = .ok (.aload_n 0, 1) := by decide +kernel
theorem dX4_tick_1 : decode cX4_tick 1 = .ok (.iconst 0, 1) := by decide +kernel
theorem dX4_tick_2 : decode cX4_tick 2 = .ok (.putfield 41, 3) := by decide +kernel
theorem dX4_tick_5 : decode cX4_tick 5 = .ok (.iconst 0, 1) := by decide +kernel
theorem dX4_tick_6 : decode cX4_tick 6 = .ok (.istore_n 1, 1) := by decide +kernel
theorem dX4_tick_7 : decode cX4_tick 7 = .ok (.iconst 0, 1) := by decide +kernel
theorem dX4_tick_8 : decode cX4_tick 8 = .ok (.istore_n 2, 1) := by decide +kernel
theorem dX4_tick_9 : decode cX4_tick 9 = .ok (.iload_n 2, 1) := by decide +kernel
theorem dX4_tick_10 : decode cX4_tick 10 = .ok (.aload_n 0, 1) := by decide +kernel
theorem dX4_tick_11 : decode cX4_tick 11 = .ok (.getfield 106, 3) := by decide +kernel
theorem dX4_tick_14 : decode cX4_tick 14 = .ok (.if_icmp .ge 224, 3) := by decide +kernel
theorem dX4_tick_17 : decode cX4_tick 17 = .ok (.aload_n 0, 1) := by decide +kernel
theorem dX4_tick_18 : decode cX4_tick 18 = .ok (.getfield 25, 3) := by decide +kernel
theorem dX4_tick_21 : decode cX4_tick 21 = .ok (.iload_n 2, 1) := by decide +kernel
theorem dX4_tick_22 : decode cX4_tick 22 = .ok (.iaload, 1) := by decide +kernel
theorem dX4_tick_23 : decode cX4_tick 23 = .ok (.istore_n 3, 1) := by decide +kernel
theorem dX4_tick_24 : decode cX4_tick 24 = .ok (.aload_n 0, 1) := by decide +kernel
theorem dX4_tick_25 : decode cX4_tick 25 = .ok (.getfield 28, 3) := by decide +kernel
theorem dX4_tick_28 : decode cX4_tick 28 = .ok (.iload_n 2, 1) := by decide +kernel
theorem dX4_tick_29 : decode cX4_tick 29 = .ok (.iaload, 1) := by decide +kernel
theorem dX4_tick_30 : decode cX4_tick 30 = .ok (.istore 4, 2) := by decide +kernel
theorem dX4_tick_32 : decode cX4_tick 32 = .ok (.aload_n 0, 1) := by decide +kernel
theorem dX4_tick_33 : decode cX4_tick 33 = .ok (.iload_n 3, 1) := by decide +kernel
theorem dX4_tick_34 : decode cX4_tick 34 = .ok (.iconst 2, 1) := by decide +kernel
theorem dX4_tick_35 : decode cX4_tick 35 = .ok (.iload 4, 2) := by decide +kernel
theorem dX4_tick_37 : decode cX4_tick 37 = .ok (.invokevirtual 87, 3) := by decide +kernel
theorem dX4_tick_40 : decode cX4_tick 40 = .ok (.istore 5, 2) := by decide +kernel
theorem dX4_tick_42 : decode cX4_tick 42 = .ok (.aload_n 0, 1) := by decide +kernel
theorem dX4_tick_43 : decode cX4_tick 43 = .ok (.dup, 1) := by decide +kernel
theorem dX4_tick_44 : decode cX4_tick 44 = .ok (.getfield 109, 3) := by decide +kernel
theorem dX4_tick_47 : decode cX4_tick 47 = .ok (.iload 5, 2) := by decide +kernel
theorem dX4_tick_49 : decode cX4_tick 49 = .ok (.iconst 2, 1) := by decide +kernel
theorem dX4_tick_50 : decode cX4_tick 50 = .ok (.if_icmp .ne 7, 3) := by decide +kernel
theorem dX4_tick_53 : decode cX4_tick 53 = .ok (.iconst 1, 1) := by decide +kernel
theorem dX4_tick_54 : decode cX4_tick 54 = .ok (.goto 4, 3) := by decide +kernel
theorem dX4_tick_57 : decode cX4_tick 57 = .ok (.iconst 0, 1) := by decide +kernel
theorem dX4_tick_58 : decode cX4_tick 58 = .ok (.iadd, 1) := by decide +kernel
theorem dX4_tick_59 : decode cX4_tick 59 = .ok (.putfield 109, 3) := by decide +kernel
theorem dX4_tick_62 : decode cX4_tick 62 = .ok (.aload_n 0, 1) := by decide +kernel
theorem dX4_tick_63 : decode cX4_tick 63 = .ok (.dup, 1) := by decide +kernel
theorem dX4_tick_64 : decode cX4_tick 64 = .ok (.getfield 112, 3) := by decide +kernel
theorem dX4_tick_67 : decode cX4_tick 67 = .ok (.iload 5, 2) := by decide +kernel
theorem dX4_tick_69 : decode cX4_tick 69 = .ok (.iconst 3, 1) := by decide +kernel
theorem dX4_tick_70 : decode cX4_tick 70 = .ok (.if_icmp .ne 7, 3) := by decide +kernel
theorem dX4_tick_73 : decode cX4_tick 73 = .ok (.iconst 1, 1) := by decide +kernel
theorem dX4_tick_74 : decode cX4_tick 74 = .ok (.goto 4, 3) := by decide +kernel
theorem dX4_tick_77 : decode cX4_tick 77 = .ok (.iconst 0, 1) := by decide +kernel
theorem dX4_tick_78 : decode cX4_tick 78 = .ok (.iadd, 1) := by decide +kernel
theorem dX4_tick_79 : decode cX4_tick 79 = .ok (.putfield 112, 3) := by decide +kernel
theorem dX4_tick_82 : decode cX4_tick 82 = .ok (.iload 5, 2) := by decide +kernel
theorem dX4_tick_84 : decode cX4_tick 84 = .ok (.ifCond .eq 6, 3) := by decide +kernel
theorem dX4_tick_87 : decode cX4_tick 87 = .ok (.goto 145, 3) := by decide +kernel
theorem dX4_tick_90 : decode cX4_tick 90 = .ok (.aload_n 0, 1) := by decide +kernel
theorem dX4_tick_91 : decode cX4_tick 91 = .ok (.iload_n 3, 1) := by decide +kernel
theorem dX4_tick_92 : decode cX4_tick 92 = .ok (.iconst 2, 1) := by decide +kernel
theorem dX4_tick_93 : decode cX4_tick 93 = .ok (.iload 4, 2) := by decide +kernel
theorem dX4_tick_95 : decode cX4_tick 95 = .ok (.invokevirtual 90, 3) := by decide +kernel
theorem dX4_tick_98 : decode cX4_tick 98 = .ok (.istore 6, 2) := by decide +kernel
theorem dX4_tick_100 : decode cX4_tick 100 = .ok (.aload_n 0, 1) := by decide +kernel
theorem dX4_tick_101 : decode cX4_tick 101 = .ok (.getfield 31, 3) := by decide +kernel
theorem dX4_tick_104 : decode cX4_tick 104 = .ok (.iload_n 2, 1) := by decide +kernel
theorem dX4_tick_105 : decode cX4_tick 105 = .ok (.iaload, 1) := by decide +kernel
theorem dX4_tick_106 : decode cX4_tick 106 = .ok (.iload 6, 2) := by decide +kernel
theorem dX4_tick_108 : decode cX4_tick 108 = .ok (.isub, 1) := by decide +kernel
theorem dX4_tick_109 : decode cX4_tick 109 = .ok (.istore 7, 2) := by decide +kernel
theorem dX4_tick_111 : decode cX4_tick 111 = .ok (.iload 7, 2) := by decide +kernel
theorem dX4_tick_113 : decode cX4_tick 113 = .ok (.aload_n 0, 1) := by decide +kernel
theorem dX4_tick_114 : decode cX4_tick 114 = .ok (.getfield 34, 3) := by decide +kernel
theorem dX4_tick_117 : decode cX4_tick 117 = .ok (.iload_n 2, 1) := by decide +kernel
theorem dX4_tick_118 : decode cX4_tick 118 = .ok (.iaload, 1) := by decide +kernel
theorem dX4_tick_119 : decode cX4_tick 119 = .ok (.if_icmp .le 12, 3) := by decide +kernel
theorem dX4_tick_122 : decode cX4_tick 122 = .ok (.aload_n 0, 1) := by decide +kernel
theorem dX4_tick_123 : decode cX4_tick 123 = .ok (.getfield 34, 3) := by decide +kernel
theorem dX4_tick_126 : decode cX4_tick 126 = .ok (.iload_n 2, 1) := by decide +kernel
theorem dX4_tick_127 : decode cX4_tick 127 = .ok (.iaload, 1) := by decide +kernel
theorem dX4_tick_128 : decode cX4_tick 128 = .ok (.goto 27, 3) := by decide +kernel
theorem dX4_tick_131 : decode cX4_tick 131 = .ok (.iload 7, 2) := by decide +kernel
theorem dX4_tick_133 : decode cX4_tick 133 = .ok (.aload_n 0, 1) := by decide +kernel
theorem dX4_tick_134 : decode cX4_tick 134 = .ok (.getfield 34, 3) := by decide +kernel
theorem dX4_tick_137 : decode cX4_tick 137 = .ok (.iload_n 2, 1) := by decide +kernel
theorem dX4_tick_138 : decode cX4_tick 138 = .ok (.iaload, 1) := by decide +kernel
theorem dX4_tick_139 : decode cX4_tick 139 = .ok (.ineg, 1) := by decide +kernel
theorem dX4_tick_140 : decode cX4_tick 140 = .ok (.if_icmp .ge 13, 3) := by decide +kernel
theorem dX4_tick_143 : decode cX4_tick 143 = .ok (.aload_n 0, 1) := by decide +kernel
theorem dX4_tick_144 : decode cX4_tick 144 = .ok (.getfield 34, 3) := by decide +kernel
theorem dX4_tick_147 : decode cX4_tick 147 = .ok (.iload_n 2, 1) := by decide +kernel
theorem dX4_tick_148 : decode cX4_tick 148 = .ok (.iaload, 1) := by decide +kernel
theorem dX4_tick_149 : decode cX4_tick 149 = .ok (.ineg, 1) := by decide +kernel
theorem dX4_tick_150 : decode cX4_tick 150 = .ok (.goto 5, 3) := by decide +kernel
theorem dX4_tick_153 : decode cX4_tick 153 = .ok (.iload 7, 2) := by decide +kernel
theorem dX4_tick_155 : decode cX4_tick 155 = .ok (.istore 8, 2) := by decide +kernel
theorem dX4_tick_157 : decode cX4_tick 157 = .ok (.aload_n 0, 1) := by decide +kernel
theorem dX4_tick_158 : decode cX4_tick 158 = .ok (.iload_n 3, 1) := by decide +kernel
theorem dX4_tick_159 : decode cX4_tick 159 = .ok (.iconst 2, 1) := by decide +kernel
theorem dX4_tick_160 : decode cX4_tick 160 = .ok (.iload 4, 2) := by decide +kernel
theorem dX4_tick_162 : decode cX4_tick 162 = .ok (.iload 6, 2) := by decide +kernel
theorem dX4_tick_164 : decode cX4_tick 164 = .ok (.iload 8, 2) := by decide +kernel
theorem dX4_tick_166 : decode cX4_tick 166 = .ok (.iadd, 1) := by decide +kernel
theorem dX4_tick_167 : decode cX4_tick 167 = .ok (.invokevirtual 93, 3) := by decide +kernel
theorem dX4_tick_170 : decode cX4_tick 170 = .ok (.iload 8, 2) := by decide +kernel
theorem dX4_tick_172 : decode cX4_tick 172 = .ok (.iload 7, 2) := by decide +kernel
theorem dX4_tick_174 : decode cX4_tick 174 = .ok (.if_icmp .ne 16, 3) := by decide +kernel
theorem dX4_tick_177 : decode cX4_tick 177 = .ok (.aload_n 0, 1) := by decide +kernel
theorem dX4_tick_178 : decode cX4_tick 178 = .ok (.dup, 1) := by decide +kernel
theorem dX4_tick_179 : decode cX4_tick 179 = .ok (.getfield 115, 3) := by decide +kernel
theorem dX4_tick_182 : decode cX4_tick 182 = .ok (.iconst 1, 1) := by decide +kernel
theorem dX4_tick_183 : decode cX4_tick 183 = .ok (.iadd, 1) := by decide +kernel
theorem dX4_tick_184 : decode cX4_tick 184 = .ok (.putfield 115, 3) := by decide +kernel
theorem dX4_tick_187 : decode cX4_tick 187 = .ok (.goto 45, 3) := by decide +kernel
theorem dX4_tick_190 : decode cX4_tick 190 = .ok (.aload_n 0, 1) := by decide +kernel
theorem dX4_tick_191 : decode cX4_tick 191 = .ok (.getfield 25, 3) := by decide +kernel
theorem dX4_tick_194 : decode cX4_tick 194 = .ok (.iload_n 1, 1) := by decide +kernel
theorem dX4_tick_195 : decode cX4_tick 195 = .ok (.iload_n 3, 1) := by decide +kernel
theorem dX4_tick_196 : decode cX4_tick 196 = .ok (.iastore, 1) := by decide +kernel
theorem dX4_tick_197 : decode cX4_tick 197 = .ok (.aload_n 0, 1) := by decide +kernel
theorem dX4_tick_198 : decode cX4_tick 198 = .ok (.getfield 28, 3) := by decide +kernel
theorem dX4_tick_201 : decode cX4_tick 201 = .ok (.iload_n 1, 1) := by decide +kernel
theorem dX4_tick_202 : decode cX4_tick 202 = .ok (.iload 4, 2) := by decide +kernel
theorem dX4_tick_204 : decode cX4_tick 204 = .ok (.iastore, 1) := by decide +kernel
theorem dX4_tick_205 : decode cX4_tick 205 = .ok (.aload_n 0, 1) := by decide +kernel
theorem dX4_tick_206 : decode cX4_tick 206 = .ok (.getfield 31, 3) := by decide +kernel
theorem dX4_tick_209 : decode cX4_tick 209 = .ok (.iload_n 1, 1) := by decide +kernel
theorem dX4_tick_210 : decode cX4_tick 210 = .ok (.aload_n 0, 1) := by decide +kernel
theorem dX4_tick_211 : decode cX4_tick 211 = .ok (.getfield 31, 3) := by decide +kernel
theorem dX4_tick_214 : decode cX4_tick 214 = .ok (.iload_n 2, 1) := by decide +kernel
theorem dX4_tick_215 : decode cX4_tick 215 = .ok (.iaload, 1) := by decide +kernel
theorem dX4_tick_216 : decode cX4_tick 216 = .ok (.iastore, 1) := by decide +kernel
theorem dX4_tick_217 : decode cX4_tick 217 = .ok (.aload_n 0, 1) := by decide +kernel
theorem dX4_tick_218 : decode cX4_tick 218 = .ok (.getfield 34, 3) := by decide +kernel
theorem dX4_tick_221 : decode cX4_tick 221 = .ok (.iload_n 1, 1) := by decide +kernel
theorem dX4_tick_222 : decode cX4_tick 222 = .ok (.aload_n 0, 1) := by decide +kernel
theorem dX4_tick_223 : decode cX4_tick 223 = .ok (.getfield 34, 3) := by decide +kernel
theorem dX4_tick_226 : decode cX4_tick 226 = .ok (.iload_n 2, 1) := by decide +kernel
theorem dX4_tick_227 : decode cX4_tick 227 = .ok (.iaload, 1) := by decide +kernel
theorem dX4_tick_228 : decode cX4_tick 228 = .ok (.iastore, 1) := by decide +kernel
theorem dX4_tick_229 : decode cX4_tick 229 = .ok (.iinc 1 1, 3) := by decide +kernel
theorem dX4_tick_232 : decode cX4_tick 232 = .ok (.iinc 2 1, 3) := by decide +kernel
theorem dX4_tick_235 : decode cX4_tick 235 = .ok (.goto (-226), 3) := by decide +kernel
theorem dX4_tick_238 : decode cX4_tick 238 = .ok (.aload_n 0, 1) := by decide +kernel
theorem dX4_tick_239 : decode cX4_tick 239 = .ok (.iload_n 1, 1) := by decide +kernel
theorem dX4_tick_240 : decode cX4_tick 240 = .ok (.putfield 106, 3) := by decide +kernel
theorem dX4_tick_243 : decode cX4_tick 243 = .ok (.aload_n 0, 1) := by decide +kernel
theorem dX4_tick_244 : decode cX4_tick 244 = .ok (.getfield 106, 3) := by decide +kernel
theorem dX4_tick_247 : decode cX4_tick 247 = .ok (.ireturn, 1) := by decide +kernel
theorem dX4_sheet_0 : decode cX4_sheet 0 = .ok (.aload_n 0, 1) := by decide +kernel
theorem dX4_sheet_1 : decode cX4_sheet 1 = .ok (.iconst 0, 1) := by decide +kernel
theorem dX4_sheet_2 : decode cX4_sheet 2 = .ok (.putfield 41, 3) := by decide +kernel
theorem dX4_sheet_5 : decode cX4_sheet 5 = .ok (.iload_n 1, 1) := by decide +kernel
theorem dX4_sheet_6 : decode cX4_sheet 6 = .ok (.bipush 12, 2) := by decide +kernel
theorem dX4_sheet_8 : decode cX4_sheet 8 = .ok (.if_icmp .gt 9, 3) := by decide +kernel
theorem dX4_sheet_11 : decode cX4_sheet 11 = .ok (.iload_n 2, 1) := by decide +kernel
theorem dX4_sheet_12 : decode cX4_sheet 12 = .ok (.bipush 12, 2) := by decide +kernel
theorem dX4_sheet_14 : decode cX4_sheet 14 = .ok (.if_icmp .le 10, 3) := by decide +kernel
theorem dX4_sheet_17 : decode cX4_sheet 17 = .ok (.aload_n 0, 1) := by decide +kernel
theorem dX4_sheet_18 : decode cX4_sheet 18 = .ok (.iconst 5, 1) := by decide +kernel
theorem dX4_sheet_19 : decode cX4_sheet 19 = .ok (.putfield 41, 3) := by decide +kernel
theorem dX4_sheet_22 : decode cX4_sheet 22 = .ok (.iconst 0, 1) := by decide +kernel
theorem dX4_sheet_23 : decode cX4_sheet 23 = .ok (.ireturn, 1) := by decide +kernel
theorem dX4_sheet_24 : decode cX4_sheet 24 = .ok (.iload_n 1, 1) := by decide +kernel
theorem dX4_sheet_25 : decode cX4_sheet 25 = .ok (.ifCond .lt 7, 3) := by decide +kernel
theorem dX4_sheet_28 : decode cX4_sheet 28 = .ok (.iload_n 2, 1) := by decide +kernel
theorem dX4_sheet_29 : decode cX4_sheet 29 = .ok (.ifCond .ge 20, 3) := by decide +kernel
theorem dX4_sheet_32 : decode cX4_sheet 32 = .ok (.aload_n 0, 1) := by decide +kernel
theorem dX4_sheet_33 : decode cX4_sheet 33 = .ok (.iconst 4, 1) := by decide +kernel
theorem dX4_sheet_34 : decode cX4_sheet 34 = .ok (.putfield 41, 3) := by decide +kernel
theorem dX4_sheet_37 : decode cX4_sheet 37 = .ok (.aload_n 0, 1) := by decide +kernel
theorem dX4_sheet_38 : decode cX4_sheet 38 = .ok (.dup, 1) := by decide +kernel
theorem dX4_sheet_39 : decode cX4_sheet 39 = .ok (.getfield 84, 3) := by decide +kernel
theorem dX4_sheet_42 : decode cX4_sheet 42 = .ok (.iconst 1, 1) := by decide +kernel
theorem dX4_sheet_43 : decode cX4_sheet 43 = .ok (.iadd, 1) := by decide +kernel
theorem dX4_sheet_44 : decode cX4_sheet 44 = .ok (.putfield 84, 3) := by decide +kernel
theorem dX4_sheet_47 : decode cX4_sheet 47 = .ok (.iconst 0, 1) := by decide +kernel
theorem dX4_sheet_48 : decode cX4_sheet 48 = .ok (.ireturn, 1) := by decide +kernel
theorem dX4_sheet_49 : decode cX4_sheet 49 = .ok (.aload_n 0, 1) := by decide +kernel
theorem dX4_sheet_50 : decode cX4_sheet 50 = .ok (.iconst 1, 1) := by decide +kernel
theorem dX4_sheet_51 : decode cX4_sheet 51 = .ok (.putfield 118, 3) := by decide +kernel
theorem dX4_sheet_54 : decode cX4_sheet 54 = .ok (.aload_n 0, 1) := by decide +kernel
theorem dX4_sheet_55 : decode cX4_sheet 55 = .ok (.iload_n 1, 1) := by decide +kernel
theorem dX4_sheet_56 : decode cX4_sheet 56 = .ok (.putfield 122, 3) := by decide +kernel
theorem dX4_sheet_59 : decode cX4_sheet 59 = .ok (.aload_n 0, 1) := by decide +kernel
theorem dX4_sheet_60 : decode cX4_sheet 60 = .ok (.iload_n 2, 1) := by decide +kernel
theorem dX4_sheet_61 : decode cX4_sheet 61 = .ok (.putfield 125, 3) := by decide +kernel
theorem dX4_sheet_64 : decode cX4_sheet 64 = .ok (.iconst 0, 1) := by decide +kernel
theorem dX4_sheet_65 : decode cX4_sheet 65 = .ok (.istore_n 3, 1) := by decide +kernel
theorem dX4_sheet_66 : decode cX4_sheet 66 = .ok (.iload_n 3, 1) := by decide +kernel
theorem dX4_sheet_67 : decode cX4_sheet 67 = .ok (.bipush 12, 2) := by decide +kernel
theorem dX4_sheet_69 : decode cX4_sheet 69 = .ok (.if_icmp .ge 16, 3) := by decide +kernel
theorem dX4_sheet_72 : decode cX4_sheet 72 = .ok (.aload_n 0, 1) := by decide +kernel
theorem dX4_sheet_73 : decode cX4_sheet 73 = .ok (.getfield 19, 3) := by decide +kernel
theorem dX4_sheet_76 : decode cX4_sheet 76 = .ok (.iload_n 3, 1) := by decide +kernel
theorem dX4_sheet_77 : decode cX4_sheet 77 = .ok (.iload_n 3, 1) := by decide +kernel
theorem dX4_sheet_78 : decode cX4_sheet 78 = .ok (.iastore, 1) := by decide +kernel
theorem dX4_sheet_79 : decode cX4_sheet 79 = .ok (.iinc 3 1, 3) := by decide +kernel
theorem dX4_sheet_82 : decode cX4_sheet 82 = .ok (.goto (-16), 3) := by decide +kernel
theorem dX4_sheet_85 : decode cX4_sheet 85 = .ok (.iconst 0, 1) := by decide +kernel
theorem dX4_sheet_86 : decode cX4_sheet 86 = .ok (.istore_n 3, 1) := by decide +kernel
theorem dX4_sheet_87 : decode cX4_sheet 87 = .ok (.iload_n 3, 1) := by decide +kernel
theorem dX4_sheet_88 : decode cX4_sheet 88 = .ok (.sipush 144, 3) := by decide +kernel
theorem dX4_sheet_91 : decode cX4_sheet 91 = .ok (.if_icmp .ge 16, 3) := by decide +kernel
theorem dX4_sheet_94 : decode cX4_sheet 94 = .ok (.aload_n 0, 1) := by decide +kernel
theorem dX4_sheet_95 : decode cX4_sheet 95 = .ok (.getfield 22, 3) := by decide +kernel
theorem dX4_sheet_98 : decode cX4_sheet 98 = .ok (.iload_n 3, 1) := by decide +kernel
theorem dX4_sheet_99 : decode cX4_sheet 99 = .ok (.iconst 0, 1) := by decide +kernel
theorem dX4_sheet_100 : decode cX4_sheet 100 = .ok (.iastore, 1) := by decide +kernel
theorem dX4_sheet_101 : decode cX4_sheet 101 = .ok (.iinc 3 1, 3) := by decide +kernel
theorem dX4_sheet_104 : decode cX4_sheet 104 = .ok (.goto (-17), 3) := by decide +kernel
theorem dX4_sheet_107 : decode cX4_sheet 107 = .ok (.iload_n 1, 1) := by decide +kernel
theorem dX4_sheet_108 : decode cX4_sheet 108 = .ok (.iload_n 2, 1) := by decide +kernel
theorem dX4_sheet_109 : decode cX4_sheet 109 = .ok (.imul, 1) := by decide +kernel
theorem dX4_sheet_110 : decode cX4_sheet 110 = .ok (.ireturn, 1) := by decide +kernel
theorem dX4_whyCell_0 : decode cX4_whyCell 0 = .ok (.aload_n 0, 1) := by decide +kernel
theorem dX4_whyCell_1 : decode cX4_whyCell 1 = .ok (.getfield 118, 3) := by decide +kernel
theorem dX4_whyCell_4 : decode cX4_whyCell 4 = .ok (.ifCond .ne 5, 3) := by decide +kernel
theorem dX4_whyCell_7 : decode cX4_whyCell 7 = .ok (.iconst 2, 1) := by decide +kernel
theorem dX4_whyCell_8 : decode cX4_whyCell 8 = .ok (.ireturn, 1) := by decide +kernel
theorem dX4_whyCell_9 : decode cX4_whyCell 9 = .ok (.iload_n 1, 1) := by decide +kernel
theorem dX4_whyCell_10 : decode cX4_whyCell 10 = .ok (.iconst 0, 1) := by decide +kernel
theorem dX4_whyCell_11 : decode cX4_whyCell 11 = .ok (.aload_n 0, 1) := by decide +kernel
theorem dX4_whyCell_12 : decode cX4_whyCell 12 = .ok (.getfield 122, 3) := by decide +kernel
theorem dX4_whyCell_15 : decode cX4_whyCell 15 = .ok (.iconst 1, 1) := by decide +kernel
theorem dX4_whyCell_16 : decode cX4_whyCell 16 = .ok (.isub, 1) := by decide +kernel
theorem dX4_whyCell_17 : decode cX4_whyCell 17 = .ok (.invokestatic 37, 3) := by decide +kernel
theorem dX4_whyCell_20 : decode cX4_whyCell 20 = .ok (.ifCond .ne 5, 3) := by decide +kernel
theorem dX4_whyCell_23 : decode cX4_whyCell 23 = .ok (.iconst 3, 1) := by decide +kernel
theorem dX4_whyCell_24 : decode cX4_whyCell 24 = .ok (.ireturn, 1) := by decide +kernel
theorem dX4_whyCell_25 : decode cX4_whyCell 25 = .ok (.aload_n 0, 1) := by decide +kernel
theorem dX4_whyCell_26 : decode cX4_whyCell 26 = .ok (.getfield 19, 3) := by decide +kernel
theorem dX4_whyCell_29 : decode cX4_whyCell 29 = .ok (.iload_n 1, 1) := by decide +kernel
theorem dX4_whyCell_30 : decode cX4_whyCell 30 = .ok (.iaload, 1) := by decide +kernel
theorem dX4_whyCell_31 : decode cX4_whyCell 31 = .ok (.iconst (-1), 1) := by decide +kernel
theorem dX4_whyCell_32 : decode cX4_whyCell 32 = .ok (.if_icmp .ne 5, 3) := by decide +kernel
theorem dX4_whyCell_35 : decode cX4_whyCell 35 = .ok (.iconst 2, 1) := by decide +kernel
theorem dX4_whyCell_36 : decode cX4_whyCell 36 = .ok (.ireturn, 1) := by decide +kernel
theorem dX4_whyCell_37 : decode cX4_whyCell 37 = .ok (.iload_n 2, 1) := by decide +kernel
theorem dX4_whyCell_38 : decode cX4_whyCell 38 = .ok (.iconst 0, 1) := by decide +kernel
theorem dX4_whyCell_39 : decode cX4_whyCell 39 = .ok (.aload_n 0, 1) := by decide +kernel
theorem dX4_whyCell_40 : decode cX4_whyCell 40 = .ok (.getfield 125, 3) := by decide +kernel
theorem dX4_whyCell_43 : decode cX4_whyCell 43 = .ok (.iconst 1, 1) := by decide +kernel
theorem dX4_whyCell_44 : decode cX4_whyCell 44 = .ok (.isub, 1) := by decide +kernel
theorem dX4_whyCell_45 : decode cX4_whyCell 45 = .ok (.invokestatic 37, 3) := by decide +kernel
theorem dX4_whyCell_48 : decode cX4_whyCell 48 = .ok (.ifCond .eq 7, 3) := by decide +kernel
theorem dX4_whyCell_51 : decode cX4_whyCell 51 = .ok (.iconst 0, 1) := by decide +kernel
theorem dX4_whyCell_52 : decode cX4_whyCell 52 = .ok (.goto 4, 3) := by decide +kernel
theorem dX4_whyCell_55 : decode cX4_whyCell 55 = .ok (.iconst 3, 1) := by decide +kernel
theorem dX4_whyCell_56 : decode cX4_whyCell 56 = .ok (.ireturn, 1) := by decide +kernel
theorem dX4_cell_0 : decode cX4_cell 0 = .ok (.aload_n 0, 1) := by decide +kernel
theorem dX4_cell_1 : decode cX4_cell 1 = .ok (.aload_n 0, 1) := by decide +kernel
theorem dX4_cell_2 : decode cX4_cell 2 = .ok (.aload_n 0, 1) := by decide +kernel
theorem dX4_cell_3 : decode cX4_cell 3 = .ok (.iload_n 1, 1) := by decide +kernel
theorem dX4_cell_4 : decode cX4_cell 4 = .ok (.iload_n 2, 1) := by decide +kernel
theorem dX4_cell_5 : decode cX4_cell 5 = .ok (.invokevirtual 128, 3) := by decide +kernel
theorem dX4_cell_8 : decode cX4_cell 8 = .ok (.invokevirtual 57, 3) := by decide +kernel
theorem dX4_cell_11 : decode cX4_cell 11 = .ok (.putfield 41, 3) := by decide +kernel
theorem dX4_cell_14 : decode cX4_cell 14 = .ok (.aload_n 0, 1) := by decide +kernel
theorem dX4_cell_15 : decode cX4_cell 15 = .ok (.getfield 41, 3) := by decide +kernel
theorem dX4_cell_18 : decode cX4_cell 18 = .ok (.ifCond .ne 22, 3) := by decide +kernel
theorem dX4_cell_21 : decode cX4_cell 21 = .ok (.aload_n 0, 1) := by decide +kernel
theorem dX4_cell_22 : decode cX4_cell 22 = .ok (.getfield 22, 3) := by decide +kernel
theorem dX4_cell_25 : decode cX4_cell 25 = .ok (.bipush 12, 2) := by decide +kernel
theorem dX4_cell_27 : decode cX4_cell 27 = .ok (.aload_n 0, 1) := by decide +kernel
theorem dX4_cell_28 : decode cX4_cell 28 = .ok (.getfield 19, 3) := by decide +kernel
theorem dX4_cell_31 : decode cX4_cell 31 = .ok (.iload_n 1, 1) := by decide +kernel
theorem dX4_cell_32 : decode cX4_cell 32 = .ok (.iaload, 1) := by decide +kernel
theorem dX4_cell_33 : decode cX4_cell 33 = .ok (.imul, 1) := by decide +kernel
theorem dX4_cell_34 : decode cX4_cell 34 = .ok (.iload_n 2, 1) := by decide +kernel
theorem dX4_cell_35 : decode cX4_cell 35 = .ok (.iadd, 1) := by decide +kernel
theorem dX4_cell_36 : decode cX4_cell 36 = .ok (.iaload, 1) := by decide +kernel
theorem dX4_cell_37 : decode cX4_cell 37 = .ok (.goto 4, 3) := by decide +kernel
theorem dX4_cell_40 : decode cX4_cell 40 = .ok (.iconst 0, 1) := by decide +kernel
theorem dX4_cell_41 : decode cX4_cell 41 = .ok (.ireturn, 1) := by decide +kernel
theorem dX4_tear_0 : decode cX4_tear 0 = .ok (.aload_n 0, 1) := by decide +kernel
theorem dX4_tear_1 : decode cX4_tear 1 = .ok (.aload_n 0, 1) := by decide +kernel
theorem dX4_tear_2 : decode cX4_tear 2 = .ok (.aload_n 0, 1) := by decide +kernel
theorem dX4_tear_3 : decode cX4_tear 3 = .ok (.getfield 118, 3) := by decide +kernel
theorem dX4_tear_6 : decode cX4_tear 6 = .ok (.ifCond .ne 7, 3) := by decide +kernel
theorem dX4_tear_9 : decode cX4_tear 9 = .ok (.iconst 2, 1) := by decide +kernel
theorem dX4_tear_10 : decode cX4_tear 10 = .ok (.goto 41, 3) := by decide +kernel
theorem dX4_tear_13 : decode cX4_tear 13 = .ok (.iload_n 2, 1) := by decide +kernel
theorem dX4_tear_14 : decode cX4_tear 14 = .ok (.iconst (-1), 1) := by decide +kernel
theorem dX4_tear_15 : decode cX4_tear 15 = .ok (.if_icmp .eq 17, 3) := by decide +kernel
theorem dX4_tear_18 : decode cX4_tear 18 = .ok (.iload_n 2, 1) := by decide +kernel
theorem dX4_tear_19 : decode cX4_tear 19 = .ok (.iconst 0, 1) := by decide +kernel
theorem dX4_tear_20 : decode cX4_tear 20 = .ok (.aload_n 0, 1) := by decide +kernel
theorem dX4_tear_21 : decode cX4_tear 21 = .ok (.getfield 122, 3) := by decide +kernel
theorem dX4_tear_24 : decode cX4_tear 24 = .ok (.iconst 1, 1) := by decide +kernel
theorem dX4_tear_25 : decode cX4_tear 25 = .ok (.isub, 1) := by decide +kernel
theorem dX4_tear_26 : decode cX4_tear 26 = .ok (.invokestatic 37, 3) := by decide +kernel
theorem dX4_tear_29 : decode cX4_tear 29 = .ok (.ifCond .eq 17, 3) := by decide +kernel
theorem dX4_tear_32 : decode cX4_tear 32 = .ok (.iload_n 1, 1) := by decide +kernel
theorem dX4_tear_33 : decode cX4_tear 33 = .ok (.iconst 0, 1) := by decide +kernel
theorem dX4_tear_34 : decode cX4_tear 34 = .ok (.aload_n 0, 1) := by decide +kernel
theorem dX4_tear_35 : decode cX4_tear 35 = .ok (.getfield 122, 3) := by decide +kernel
theorem dX4_tear_38 : decode cX4_tear 38 = .ok (.iconst 1, 1) := by decide +kernel
theorem dX4_tear_39 : decode cX4_tear 39 = .ok (.isub, 1) := by decide +kernel
theorem dX4_tear_40 : decode cX4_tear 40 = .ok (.invokestatic 37, 3) := by decide +kernel
theorem dX4_tear_43 : decode cX4_tear 43 = .ok (.ifCond .ne 7, 3) := by decide +kernel
theorem dX4_tear_46 : decode cX4_tear 46 = .ok (.iconst 3, 1) := by decide +kernel
theorem dX4_tear_47 : decode cX4_tear 47 = .ok (.goto 4, 3) := by decide +kernel
theorem dX4_tear_50 : decode cX4_tear 50 = .ok (.iconst 0, 1) := by decide +kernel
theorem dX4_tear_51 : decode cX4_tear 51 = .ok (.invokevirtual 57, 3) := by decide +kernel
theorem dX4_tear_54 : decode cX4_tear 54 = .ok (.putfield 41, 3) := by decide +kernel
theorem dX4_tear_57 : decode cX4_tear 57 = .ok (.aload_n 0, 1) := by decide +kernel
theorem dX4_tear_58 : decode cX4_tear 58 = .ok (.getfield 41, 3) := by decide +kernel
theorem dX4_tear_61 : decode cX4_tear 61 = .ok (.ifCond .eq 5, 3) := by decide +kernel
theorem dX4_tear_64 : decode cX4_tear 64 = .ok (.iconst 0, 1) := by decide +kernel
theorem dX4_tear_65 : decode cX4_tear 65 = .ok (.ireturn, 1) := by decide +kernel
theorem dX4_tear_66 : decode cX4_tear 66 = .ok (.aload_n 0, 1) := by decide +kernel
theorem dX4_tear_67 : decode cX4_tear 67 = .ok (.getfield 19, 3) := by decide +kernel
theorem dX4_tear_70 : decode cX4_tear 70 = .ok (.iload_n 1, 1) := by decide +kernel
theorem dX4_tear_71 : decode cX4_tear 71 = .ok (.iload_n 2, 1) := by decide +kernel
theorem dX4_tear_72 : decode cX4_tear 72 = .ok (.iconst (-1), 1) := by decide +kernel
theorem dX4_tear_73 : decode cX4_tear 73 = .ok (.if_icmp .ne 7, 3) := by decide +kernel
theorem dX4_tear_76 : decode cX4_tear 76 = .ok (.iconst (-1), 1) := by decide +kernel
theorem dX4_tear_77 : decode cX4_tear 77 = .ok (.goto 9, 3) := by decide +kernel
theorem dX4_tear_80 : decode cX4_tear 80 = .ok (.aload_n 0, 1) := by decide +kernel
theorem dX4_tear_81 : decode cX4_tear 81 = .ok (.getfield 19, 3) := by decide +kernel
theorem dX4_tear_84 : decode cX4_tear 84 = .ok (.iload_n 2, 1) := by decide +kernel
theorem dX4_tear_85 : decode cX4_tear 85 = .ok (.iaload, 1) := by decide +kernel
theorem dX4_tear_86 : decode cX4_tear 86 = .ok (.iastore, 1) := by decide +kernel
theorem dX4_tear_87 : decode cX4_tear 87 = .ok (.aload_n 0, 1) := by decide +kernel
theorem dX4_tear_88 : decode cX4_tear 88 = .ok (.getfield 19, 3) := by decide +kernel
theorem dX4_tear_91 : decode cX4_tear 91 = .ok (.iload_n 1, 1) := by decide +kernel
theorem dX4_tear_92 : decode cX4_tear 92 = .ok (.iaload, 1) := by decide +kernel
theorem dX4_tear_93 : decode cX4_tear 93 = .ok (.iconst (-1), 1) := by decide +kernel
theorem dX4_tear_94 : decode cX4_tear 94 = .ok (.if_icmp .ne 7, 3) := by decide +kernel
theorem dX4_tear_97 : decode cX4_tear 97 = .ok (.iconst 0, 1) := by decide +kernel
theorem dX4_tear_98 : decode cX4_tear 98 = .ok (.goto 4, 3) := by decide +kernel
theorem dX4_tear_101 : decode cX4_tear 101 = .ok (.iconst 1, 1) := by decide +kernel
theorem dX4_tear_102 : decode cX4_tear 102 = .ok (.ireturn, 1) := by decide +kernel
theorem dX4_draw_0 : decode cX4_draw 0 = .ok (.aload_n 0, 1) := by decide +kernel
theorem dX4_draw_1 : decode cX4_draw 1 = .ok (.iload_n 1, 1) := by decide +kernel
theorem dX4_draw_2 : decode cX4_draw 2 = .ok (.invokestatic 73, 3) := by decide +kernel
theorem dX4_draw_5 : decode cX4_draw 5 = .ok (.invokevirtual 80, 3) := by decide +kernel
theorem dX4_draw_8 : decode cX4_draw 8 = .ok (.ifCond .ne 5, 3) := by decide +kernel
theorem dX4_draw_11 : decode cX4_draw 11 = .ok (.iconst 0, 1) := by decide +kernel
theorem dX4_draw_12 : decode cX4_draw 12 = .ok (.ireturn, 1) := by decide +kernel
theorem dX4_draw_13 : decode cX4_draw 13 = .ok (.iconst 0, 1) := by decide +kernel
theorem dX4_draw_14 : decode cX4_draw 14 = .ok (.istore_n 3, 1) := by decide +kernel
theorem dX4_draw_15 : decode cX4_draw 15 = .ok (.aload_n 0, 1) := by decide +kernel
theorem dX4_draw_16 : decode cX4_draw 16 = .ok (.getfield 41, 3) := by decide +kernel
theorem dX4_draw_19 : decode cX4_draw 19 = .ok (.ifCond .ne 81, 3) := by decide +kernel
theorem dX4_draw_22 : decode cX4_draw 22 = .ok (.aload_n 0, 1) := by decide +kernel
theorem dX4_draw_23 : decode cX4_draw 23 = .ok (.iload_n 1, 1) := by decide +kernel
theorem dX4_draw_24 : decode cX4_draw 24 = .ok (.iload_n 3, 1) := by decide +kernel
theorem dX4_draw_25 : decode cX4_draw 25 = .ok (.invokevirtual 103, 3) := by decide +kernel
theorem dX4_draw_28 : decode cX4_draw 28 = .ok (.istore 4, 2) := by decide +kernel
theorem dX4_draw_30 : decode cX4_draw 30 = .ok (.aload_n 0, 1) := by decide +kernel
theorem dX4_draw_31 : decode cX4_draw 31 = .ok (.aload_n 0, 1) := by decide +kernel
theorem dX4_draw_32 : decode cX4_draw 32 = .ok (.getfield 100, 3) := by decide +kernel
theorem dX4_draw_35 : decode cX4_draw 35 = .ok (.putfield 41, 3) := by decide +kernel
theorem dX4_draw_38 : decode cX4_draw 38 = .ok (.aload_n 0, 1) := by decide +kernel
theorem dX4_draw_39 : decode cX4_draw 39 = .ok (.getfield 41, 3) := by decide +kernel
theorem dX4_draw_42 : decode cX4_draw 42 = .ok (.ifCond .ne 17, 3) := by decide +kernel
theorem dX4_draw_45 : decode cX4_draw 45 = .ok (.aload_n 0, 1) := by decide +kernel
theorem dX4_draw_46 : decode cX4_draw 46 = .ok (.aload_n 0, 1) := by decide +kernel
theorem dX4_draw_47 : decode cX4_draw 47 = .ok (.aload_n 0, 1) := by decide +kernel
theorem dX4_draw_48 : decode cX4_draw 48 = .ok (.iload_n 2, 1) := by decide +kernel
theorem dX4_draw_49 : decode cX4_draw 49 = .ok (.iload_n 3, 1) := by decide +kernel
theorem dX4_draw_50 : decode cX4_draw 50 = .ok (.invokevirtual 128, 3) := by decide +kernel
theorem dX4_draw_53 : decode cX4_draw 53 = .ok (.invokevirtual 57, 3) := by decide +kernel
theorem dX4_draw_56 : decode cX4_draw 56 = .ok (.putfield 41, 3) := by decide +kernel
theorem dX4_draw_59 : decode cX4_draw 59 = .ok (.aload_n 0, 1) := by decide +kernel
theorem dX4_draw_60 : decode cX4_draw 60 = .ok (.getfield 41, 3) := by decide +kernel
theorem dX4_draw_63 : decode cX4_draw 63 = .ok (.ifCond .ne 34, 3) := by decide +kernel
theorem dX4_draw_66 : decode cX4_draw 66 = .ok (.aload_n 0, 1) := by decide +kernel
theorem dX4_draw_67 : decode cX4_draw 67 = .ok (.getfield 22, 3) := by decide +kernel
theorem dX4_draw_70 : decode cX4_draw 70 = .ok (.bipush 12, 2) := by decide +kernel
theorem dX4_draw_72 : decode cX4_draw 72 = .ok (.aload_n 0, 1) := by decide +kernel
theorem dX4_draw_73 : decode cX4_draw 73 = .ok (.getfield 19, 3) := by decide +kernel
theorem dX4_draw_76 : decode cX4_draw 76 = .ok (.iload_n 2, 1) := by decide +kernel
theorem dX4_draw_77 : decode cX4_draw 77 = .ok (.iaload, 1) := by decide +kernel
theorem dX4_draw_78 : decode cX4_draw 78 = .ok (.imul, 1) := by decide +kernel
theorem dX4_draw_79 : decode cX4_draw 79 = .ok (.iload_n 3, 1) := by decide +kernel
theorem dX4_draw_80 : decode cX4_draw 80 = .ok (.iadd, 1) := by decide +kernel
theorem dX4_draw_81 : decode cX4_draw 81 = .ok (.iload 4, 2) := by decide +kernel
theorem dX4_draw_83 : decode cX4_draw 83 = .ok (.iastore, 1) := by decide +kernel
theorem dX4_draw_84 : decode cX4_draw 84 = .ok (.aload_n 0, 1) := by decide +kernel
theorem dX4_draw_85 : decode cX4_draw 85 = .ok (.dup, 1) := by decide +kernel
theorem dX4_draw_86 : decode cX4_draw 86 = .ok (.getfield 131, 3) := by decide +kernel
theorem dX4_draw_89 : decode cX4_draw 89 = .ok (.iconst 1, 1) := by decide +kernel
theorem dX4_draw_90 : decode cX4_draw 90 = .ok (.iadd, 1) := by decide +kernel
theorem dX4_draw_91 : decode cX4_draw 91 = .ok (.putfield 131, 3) := by decide +kernel
theorem dX4_draw_94 : decode cX4_draw 94 = .ok (.iinc 3 1, 3) := by decide +kernel
theorem dX4_draw_97 : decode cX4_draw 97 = .ok (.goto (-82), 3) := by decide +kernel
theorem dX4_draw_100 : decode cX4_draw 100 = .ok (.iload_n 3, 1) := by decide +kernel
theorem dX4_draw_101 : decode cX4_draw 101 = .ok (.ireturn, 1) := by decide +kernel
theorem dX4_status_0 : decode cX4_status 0 = .ok (.aload_n 0, 1) := by decide +kernel
theorem dX4_status_1 : decode cX4_status 1 = .ok (.getfield 41, 3) := by decide +kernel
theorem dX4_status_4 : decode cX4_status 4 = .ok (.ireturn, 1) := by decide +kernel
theorem dX4_count_0 : decode cX4_count 0 = .ok (.iconst 0, 1) := by decide +kernel
theorem dX4_count_1 : decode cX4_count 1 = .ok (.istore_n 2, 1) := by decide +kernel
theorem dX4_count_2 : decode cX4_count 2 = .ok (.iconst 0, 1) := by decide +kernel
theorem dX4_count_3 : decode cX4_count 3 = .ok (.istore_n 3, 1) := by decide +kernel
theorem dX4_count_4 : decode cX4_count 4 = .ok (.iload_n 3, 1) := by decide +kernel
theorem dX4_count_5 : decode cX4_count 5 = .ok (.bipush 24, 2) := by decide +kernel
theorem dX4_count_7 : decode cX4_count 7 = .ok (.if_icmp .ge 27, 3) := by decide +kernel
theorem dX4_count_10 : decode cX4_count 10 = .ok (.iload_n 2, 1) := by decide +kernel
theorem dX4_count_11 : decode cX4_count 11 = .ok (.aload_n 0, 1) := by decide +kernel
theorem dX4_count_12 : decode cX4_count 12 = .ok (.getfield 7, 3) := by decide +kernel
theorem dX4_count_15 : decode cX4_count 15 = .ok (.iload_n 3, 1) := by decide +kernel
theorem dX4_count_16 : decode cX4_count 16 = .ok (.iaload, 1) := by decide +kernel
theorem dX4_count_17 : decode cX4_count 17 = .ok (.iconst (-1), 1) := by decide +kernel
theorem dX4_count_18 : decode cX4_count 18 = .ok (.if_icmp .ne 7, 3) := by decide +kernel
theorem dX4_count_21 : decode cX4_count 21 = .ok (.iconst 0, 1) := by decide +kernel
theorem dX4_count_22 : decode cX4_count 22 = .ok (.goto 4, 3) := by decide +kernel
theorem dX4_count_25 : decode cX4_count 25 = .ok (.iconst 1, 1) := by decide +kernel
theorem dX4_count_26 : decode cX4_count 26 = .ok (.iadd, 1) := by decide +kernel
theorem dX4_count_27 : decode cX4_count 27 = .ok (.istore_n 2, 1) := by decide +kernel
theorem dX4_count_28 : decode cX4_count 28 = .ok (.iinc 3 1, 3) := by decide +kernel
theorem dX4_count_31 : decode cX4_count 31 = .ok (.goto (-27), 3) := by decide +kernel
theorem dX4_count_34 : decode cX4_count 34 = .ok (.iload_n 1, 1) := by decide +kernel
theorem dX4_count_35 : decode cX4_count 35 = .ok (.tableswitch 120 0 10 #[57, 62, 67, 72, 77, 82, 87, 92, 94, 99, 115], 57) := by decide +kernel
theorem dX4_count_92 : decode cX4_count 92 = .ok (.aload_n 0, 1) := by decide +kernel
theorem dX4_count_93 : decode cX4_count 93 = .ok (.getfield 60, 3) := by decide +kernel
theorem dX4_count_96 : decode cX4_count 96 = .ok (.ireturn, 1) := by decide +kernel
theorem dX4_count_97 : decode cX4_count 97 = .ok (.aload_n 0, 1) := by decide +kernel
theorem dX4_count_98 : decode cX4_count 98 = .ok (.getfield 63, 3) := by decide +kernel
theorem dX4_count_101 : decode cX4_count 101 = .ok (.ireturn, 1) := by decide +kernel
theorem dX4_count_102 : decode cX4_count 102 = .ok (.aload_n 0, 1) := by decide +kernel
theorem dX4_count_103 : decode cX4_count 103 = .ok (.getfield 84, 3) := by decide +kernel
theorem dX4_count_106 : decode cX4_count 106 = .ok (.ireturn, 1) := by decide +kernel
theorem dX4_count_107 : decode cX4_count 107 = .ok (.aload_n 0, 1) := by decide +kernel
theorem dX4_count_108 : decode cX4_count 108 = .ok (.getfield 106, 3) := by decide +kernel
theorem dX4_count_111 : decode cX4_count 111 = .ok (.ireturn, 1) := by decide +kernel
theorem dX4_count_112 : decode cX4_count 112 = .ok (.aload_n 0, 1) := by decide +kernel
theorem dX4_count_113 : decode cX4_count 113 = .ok (.getfield 115, 3) := by decide +kernel
theorem dX4_count_116 : decode cX4_count 116 = .ok (.ireturn, 1) := by decide +kernel
theorem dX4_count_117 : decode cX4_count 117 = .ok (.aload_n 0, 1) := by decide +kernel
theorem dX4_count_118 : decode cX4_count 118 = .ok (.getfield 109, 3) := by decide +kernel
theorem dX4_count_121 : decode cX4_count 121 = .ok (.ireturn, 1) := by decide +kernel
theorem dX4_count_122 : decode cX4_count 122 = .ok (.aload_n 0, 1) := by decide +kernel
theorem dX4_count_123 : decode cX4_count 123 = .ok (.getfield 112, 3) := by decide +kernel
theorem dX4_count_126 : decode cX4_count 126 = .ok (.ireturn, 1) := by decide +kernel
theorem dX4_count_127 : decode cX4_count 127 = .ok (.iload_n 2, 1) := by decide +kernel
theorem dX4_count_128 : decode cX4_count 128 = .ok (.ireturn, 1) := by decide +kernel
theorem dX4_count_129 : decode cX4_count 129 = .ok (.aload_n 0, 1) := by decide +kernel
theorem dX4_count_130 : decode cX4_count 130 = .ok (.getfield 70, 3) := by decide +kernel
theorem dX4_count_133 : decode cX4_count 133 = .ok (.ireturn, 1) := by decide +kernel
theorem dX4_count_134 : decode cX4_count 134 = .ok (.aload_n 0, 1) := by decide +kernel
theorem dX4_count_135 : decode cX4_count 135 = .ok (.getfield 118, 3) := by decide +kernel
theorem dX4_count_138 : decode cX4_count 138 = .ok (.ifCond .eq 10, 3) := by decide +kernel
theorem dX4_count_141 : decode cX4_count 141 = .ok (.aload_n 0, 1) := by decide +kernel
theorem dX4_count_142 : decode cX4_count 142 = .ok (.getfield 122, 3) := by decide +kernel
theorem dX4_count_145 : decode cX4_count 145 = .ok (.goto 4, 3) := by decide +kernel
theorem dX4_count_148 : decode cX4_count 148 = .ok (.iconst 0, 1) := by decide +kernel
theorem dX4_count_149 : decode cX4_count 149 = .ok (.ireturn, 1) := by decide +kernel
theorem dX4_count_150 : decode cX4_count 150 = .ok (.aload_n 0, 1) := by decide +kernel
theorem dX4_count_151 : decode cX4_count 151 = .ok (.getfield 131, 3) := by decide +kernel
theorem dX4_count_154 : decode cX4_count 154 = .ok (.ireturn, 1) := by decide +kernel
theorem dX4_count_155 : decode cX4_count 155 = .ok (.iconst 0, 1) := by decide +kernel
theorem dX4_count_156 : decode cX4_count 156 = .ok (.ireturn, 1) := by decide +kernel
