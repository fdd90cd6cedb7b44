theorem dX3_init_0 : decode cX3_init 0 = .ok (.aload_n 0, 1) := by decide +kernel
theorem dX3_init_1 : decode cX3_init 1 = .ok (.invokespecial 1, 3) := by decide +kernel
theorem dX3_init_4 : decode cX3_init 4 = .ok (.aload_n 0, 1) := by decide +kernel
theorem dX3_init_5 : decode cX3_init 5 = .ok (.new 7, 3) := by decide +kernel
theorem dX3_init_8 : decode cX3_init 8 = .ok (.dup, 1) := by decide +kernel
theorem dX3_init_9 : decode cX3_init 9 = .ok (.invokespecial 9, 3) := by decide +kernel
theorem dX3_init_12 : decode cX3_init 12 = .ok (.putfield 10, 3) := by decide +kernel
theorem dX3_init_15 : decode cX3_init 15 = .ok (.aload_n 0, 1) := by decide +kernel
theorem dX3_init_16 : decode cX3_init 16 = .ok (.new 16, 3) := by decide +kernel
theorem dX3_init_19 : decode cX3_init 19 = .ok (.dup, 1) := by decide +kernel
theorem dX3_init_20 : decode cX3_init 20 = .ok (.invokespecial 18, 3) := by decide +kernel
theorem dX3_init_23 : decode cX3_init 23 = .ok (.putfield 19, 3) := by decide +kernel
theorem dX3_init_26 : decode cX3_init 26 = .ok (.aload_n 0, 1) := by decide +kernel
theorem dX3_init_27 : decode cX3_init 27 = .ok (.bipush 16, 2) := by decide +kernel
theorem dX3_init_29 : decode cX3_init 29 = .ok (.anewarray 23, 3) := by decide +kernel
theorem dX3_init_32 : decode cX3_init 32 = .ok (.putfield 25, 3) := by decide +kernel
theorem dX3_init_35 : decode cX3_init 35 = .ok (.return_, 1) := by decide +kernel
theorem dX3_hang_0 : decode cX3_hang 0 = .ok (.iload_n 1, 1) := by decide +kernel
theorem dX3_hang_1 : decode cX3_hang 1 = .ok (.invokestatic 29, 3) := by decide +kernel
theorem dX3_hang_4 : decode cX3_hang 4 = .ok (.ifCond .eq 10, 3) := by decide +kernel
theorem dX3_hang_7 : decode cX3_hang 7 = .ok (.iload_n 2, 1) := by decide +kernel
theorem dX3_hang_8 : decode cX3_hang 8 = .ok (.invokestatic 33, 3) := by decide +kernel
theorem dX3_hang_11 : decode cX3_hang 11 = .ok (.ifCond .ne 10, 3) := by decide +kernel
theorem dX3_hang_14 : decode cX3_hang 14 = .ok (.aload_n 0, 1) := by decide +kernel
theorem dX3_hang_15 : decode cX3_hang 15 = .ok (.iconst 1, 1) := by decide +kernel
theorem dX3_hang_16 : decode cX3_hang 16 = .ok (.iconst 0, 1) := by decide +kernel
theorem dX3_hang_17 : decode cX3_hang 17 = .ok (.invokevirtual 36, 3) := by decide +kernel
theorem dX3_hang_20 : decode cX3_hang 20 = .ok (.ireturn, 1) := by decide +kernel
theorem dX3_hang_21 : decode cX3_hang 21 = .ok (.iload_n 3, 1) := by decide +kernel
theorem dX3_hang_22 : decode cX3_hang 22 = .ok (.bipush 24, 2) := by decide +kernel
theorem dX3_hang_24 : decode cX3_hang 24 = .ok (.if_icmp .le 10, 3) := by decide +kernel
theorem dX3_hang_27 : decode cX3_hang 27 = .ok (.aload_n 0, 1) := by decide +kernel
theorem dX3_hang_28 : decode cX3_hang 28 = .ok (.iconst 5, 1) := by decide +kernel
theorem dX3_hang_29 : decode cX3_hang 29 = .ok (.iconst 0, 1) := by decide +kernel
theorem dX3_hang_30 : decode cX3_hang 30 = .ok (.invokevirtual 36, 3) := by decide +kernel
theorem dX3_hang_33 : decode cX3_hang 33 = .ok (.ireturn, 1) := by decide +kernel
theorem dX3_hang_34 : decode cX3_hang 34 = .ok (.iload_n 3, 1) := by decide +kernel
theorem dX3_hang_35 : decode cX3_hang 35 = .ok (.ifCond .ge 14, 3) := by decide +kernel
theorem dX3_hang_38 : decode cX3_hang 38 = .ok (.aload_n 0, 1) := by decide +kernel
theorem dX3_hang_39 : decode cX3_hang 39 = .ok (.aload_n 0, 1) := by decide +kernel
theorem dX3_hang_40 : decode cX3_hang 40 = .ok (.iconst 4, 1) := by decide +kernel
theorem dX3_hang_41 : decode cX3_hang 41 = .ok (.invokevirtual 40, 3) := by decide +kernel
theorem dX3_hang_44 : decode cX3_hang 44 = .ok (.iconst 0, 1) := by decide +kernel
theorem dX3_hang_45 : decode cX3_hang 45 = .ok (.invokevirtual 36, 3) := by decide +kernel
theorem dX3_hang_48 : decode cX3_hang 48 = .ok (.ireturn, 1) := by decide +kernel
theorem dX3_hang_49 : decode cX3_hang 49 = .ok (.aload_n 0, 1) := by decide +kernel
theorem dX3_hang_50 : decode cX3_hang 50 = .ok (.getfield 10, 3) := by decide +kernel
theorem dX3_hang_53 : decode cX3_hang 53 = .ok (.iload_n 1, 1) := by decide +kernel
theorem dX3_hang_54 : decode cX3_hang 54 = .ok (.iload_n 2, 1) := by decide +kernel
theorem dX3_hang_55 : decode cX3_hang 55 = .ok (.iload_n 3, 1) := by decide +kernel
theorem dX3_hang_56 : decode cX3_hang 56 = .ok (.newarray .int, 2) := by decide +kernel
theorem dX3_hang_58 : decode cX3_hang 58 = .ok (.invokevirtual 44, 3) := by decide +kernel
theorem dX3_hang_61 : decode cX3_hang 61 = .ok (.aload_n 0, 1) := by decide +kernel
theorem dX3_hang_62 : decode cX3_hang 62 = .ok (.iconst 0, 1) := by decide +kernel
theorem dX3_hang_63 : decode cX3_hang 63 = .ok (.iload_n 3, 1) := by decide +kernel
theorem dX3_hang_64 : decode cX3_hang 64 = .ok (.invokevirtual 36, 3) := by decide +kernel
theorem dX3_hang_67 : decode cX3_hang 67 = .ok (.ireturn, 1) := by decide +kernel
theorem dX3_strike_0 : decode cX3_strike 0 = .ok (.iload_n 1, 1) := by decide +kernel
theorem dX3_strike_1 : decode cX3_strike 1 = .ok (.invokestatic 29, 3) := by decide +kernel
theorem dX3_strike_4 : decode cX3_strike 4 = .ok (.ifCond .eq 10, 3) := by decide +kernel
theorem dX3_strike_7 : decode cX3_strike 7 = .ok (.iload_n 2, 1) := by decide +kernel
theorem dX3_strike_8 : decode cX3_strike 8 = .ok (.invokestatic 33, 3) := by decide +kernel
theorem dX3_strike_11 : decode cX3_strike 11 = .ok (.ifCond .ne 10, 3) := by decide +kernel
theorem dX3_strike_14 : decode cX3_strike 14 = .ok (.aload_n 0, 1) := by decide +kernel
theorem dX3_strike_15 : decode cX3_strike 15 = .ok (.iconst 1, 1) := by decide +kernel
theorem dX3_strike_16 : decode cX3_strike 16 = .ok (.iconst 0, 1) := by decide +kernel
theorem dX3_strike_17 : decode cX3_strike 17 = .ok (.invokevirtual 36, 3) := by decide +kernel
theorem dX3_strike_20 : decode cX3_strike 20 = .ok (.ireturn, 1) := by decide +kernel
theorem dX3_strike_21 : decode cX3_strike 21 = .ok (.aload_n 0, 1) := by decide +kernel
theorem dX3_strike_22 : decode cX3_strike 22 = .ok (.getfield 10, 3) := by decide +kernel
theorem dX3_strike_25 : decode cX3_strike 25 = .ok (.iload_n 1, 1) := by decide +kernel
theorem dX3_strike_26 : decode cX3_strike 26 = .ok (.iload_n 2, 1) := by decide +kernel
theorem dX3_strike_27 : decode cX3_strike 27 = .ok (.invokevirtual 48, 3) := by decide +kernel
theorem dX3_strike_30 : decode cX3_strike 30 = .ok (.ifnull 7, 3) := by decide +kernel
theorem dX3_strike_33 : decode cX3_strike 33 = .ok (.iconst 1, 1) := by decide +kernel
theorem dX3_strike_34 : decode cX3_strike 34 = .ok (.goto 4, 3) := by decide +kernel
theorem dX3_strike_37 : decode cX3_strike 37 = .ok (.iconst 0, 1) := by decide +kernel
theorem dX3_strike_38 : decode cX3_strike 38 = .ok (.istore_n 3, 1) := by decide +kernel
theorem dX3_strike_39 : decode cX3_strike 39 = .ok (.aload_n 0, 1) := by decide +kernel
theorem dX3_strike_40 : decode cX3_strike 40 = .ok (.getfield 10, 3) := by decide +kernel
theorem dX3_strike_43 : decode cX3_strike 43 = .ok (.iload_n 1, 1) := by decide +kernel
theorem dX3_strike_44 : decode cX3_strike 44 = .ok (.iload_n 2, 1) := by decide +kernel
theorem dX3_strike_45 : decode cX3_strike 45 = .ok (.aconst_null, 1) := by decide +kernel
theorem dX3_strike_46 : decode cX3_strike 46 = .ok (.invokevirtual 44, 3) := by decide +kernel
theorem dX3_strike_49 : decode cX3_strike 49 = .ok (.aload_n 0, 1) := by decide +kernel
theorem dX3_strike_50 : decode cX3_strike 50 = .ok (.iconst 0, 1) := by decide +kernel
theorem dX3_strike_51 : decode cX3_strike 51 = .ok (.iload_n 3, 1) := by decide +kernel
theorem dX3_strike_52 : decode cX3_strike 52 = .ok (.ifCond .eq 7, 3) := by decide +kernel
theorem dX3_strike_55 : decode cX3_strike 55 = .ok (.iconst 1, 1) := by decide +kernel
theorem dX3_strike_56 : decode cX3_strike 56 = .ok (.goto 4, 3) := by decide +kernel
theorem dX3_strike_59 : decode cX3_strike 59 = .ok (.iconst 0, 1) := by decide +kernel
theorem dX3_strike_60 : decode cX3_strike 60 = .ok (.invokevirtual 36, 3) := by decide +kernel
theorem dX3_strike_63 : decode cX3_strike 63 = .ok (.ireturn, 1) := by decide +kernel
theorem dX3_share_0 : decode cX3_share 0 = .ok (.iload_n 1, 1) := by decide +kernel
theorem dX3_share_1 : decode cX3_share 1 = .ok (.invokestatic 29, 3) := by decide +kernel
theorem dX3_share_4 : decode cX3_share 4 = .ok (.ifCond .eq 17, 3) := by decide +kernel
theorem dX3_share_7 : decode cX3_share 7 = .ok (.iload_n 2, 1) := by decide +kernel
theorem dX3_share_8 : decode cX3_share 8 = .ok (.invokestatic 33, 3) := by decide +kernel
theorem dX3_share_11 : decode cX3_share 11 = .ok (.ifCond .eq 10, 3) := by decide +kernel
theorem dX3_share_14 : decode cX3_share 14 = .ok (.iload_n 3, 1) := by decide +kernel
theorem dX3_share_15 : decode cX3_share 15 = .ok (.invokestatic 29, 3) := by decide +kernel
theorem dX3_share_18 : decode cX3_share 18 = .ok (.ifCond .ne 10, 3) := by decide +kernel
theorem dX3_share_21 : decode cX3_share 21 = .ok (.aload_n 0, 1) := by decide +kernel
theorem dX3_share_22 : decode cX3_share 22 = .ok (.iconst 1, 1) := by decide +kernel
theorem dX3_share_23 : decode cX3_share 23 = .ok (.iconst 0, 1) := by decide +kernel
theorem dX3_share_24 : decode cX3_share 24 = .ok (.invokevirtual 36, 3) := by decide +kernel
theorem dX3_share_27 : decode cX3_share 27 = .ok (.ireturn, 1) := by decide +kernel
theorem dX3_share_28 : decode cX3_share 28 = .ok (.aload_n 0, 1) := by decide +kernel
theorem dX3_share_29 : decode cX3_share 29 = .ok (.getfield 10, 3) := by decide +kernel
theorem dX3_share_32 : decode cX3_share 32 = .ok (.iload_n 3, 1) := by decide +kernel
theorem dX3_share_33 : decode cX3_share 33 = .ok (.iload_n 2, 1) := by decide +kernel
theorem dX3_share_34 : decode cX3_share 34 = .ok (.invokevirtual 48, 3) := by decide +kernel
theorem dX3_share_37 : decode cX3_share 37 = .ok (.astore 4, 2) := by decide +kernel
theorem dX3_share_39 : decode cX3_share 39 = .ok (.aload_n 0, 1) := by decide +kernel
theorem dX3_share_40 : decode cX3_share 40 = .ok (.getfield 10, 3) := by decide +kernel
theorem dX3_share_43 : decode cX3_share 43 = .ok (.iload_n 1, 1) := by decide +kernel
theorem dX3_share_44 : decode cX3_share 44 = .ok (.iload_n 2, 1) := by decide +kernel
theorem dX3_share_45 : decode cX3_share 45 = .ok (.aload 4, 2) := by decide +kernel
theorem dX3_share_47 : decode cX3_share 47 = .ok (.invokevirtual 44, 3) := by decide +kernel
theorem dX3_share_50 : decode cX3_share 50 = .ok (.aload_n 0, 1) := by decide +kernel
theorem dX3_share_51 : decode cX3_share 51 = .ok (.iconst 0, 1) := by decide +kernel
theorem dX3_share_52 : decode cX3_share 52 = .ok (.aload 4, 2) := by decide +kernel
theorem dX3_share_54 : decode cX3_share 54 = .ok (.ifnull 7, 3) := by decide +kernel
theorem dX3_share_57 : decode cX3_share 57 = .ok (.iconst 1, 1) := by decide +kernel
theorem dX3_share_58 : decode cX3_share 58 = .ok (.goto 4, 3) := by decide +kernel
theorem dX3_share_61 : decode cX3_share 61 = .ok (.iconst 0, 1) := by decide +kernel
theorem dX3_share_62 : decode cX3_share 62 = .ok (.invokevirtual 36, 3) := by decide +kernel
theorem dX3_share_65 : decode cX3_share 65 = .ok (.ireturn, 1) := by decide +kernel
theorem dX3_size_0 : decode cX3_size 0 = .ok (.iload_n 1, 1) := by decide +kernel
theorem dX3_size_1 : decode cX3_size 1 = .ok (.invokestatic 29, 3) := by decide +kernel
theorem dX3_size_4 : decode cX3_size 4 = .ok (.ifCond .eq 10, 3) := by decide +kernel
theorem dX3_size_7 : decode cX3_size 7 = .ok (.iload_n 2, 1) := by decide +kernel
theorem dX3_size_8 : decode cX3_size 8 = .ok (.invokestatic 33, 3) := by decide +kernel
theorem dX3_size_11 : decode cX3_size 11 = .ok (.ifCond .ne 10, 3) := by decide +kernel
theorem dX3_size_14 : decode cX3_size 14 = .ok (.aload_n 0, 1) := by decide +kernel
theorem dX3_size_15 : decode cX3_size 15 = .ok (.iconst 1, 1) := by decide +kernel
theorem dX3_size_16 : decode cX3_size 16 = .ok (.iconst 0, 1) := by decide +kernel
theorem dX3_size_17 : decode cX3_size 17 = .ok (.invokevirtual 36, 3) := by decide +kernel
theorem dX3_size_20 : decode cX3_size 20 = .ok (.ireturn, 1) := by decide +kernel
theorem dX3_size_21 : decode cX3_size 21 = .ok (.aload_n 0, 1) := by decide +kernel
theorem dX3_size_22 : decode cX3_size 22 = .ok (.aload_n 0, 1) := by decide +kernel
theorem dX3_size_23 : decode cX3_size 23 = .ok (.iload_n 1, 1) := by decide +kernel
theorem dX3_size_24 : decode cX3_size 24 = .ok (.iload_n 2, 1) := by decide +kernel
theorem dX3_size_25 : decode cX3_size 25 = .ok (.invokevirtual 52, 3) := by decide +kernel
theorem dX3_size_28 : decode cX3_size 28 = .ok (.invokevirtual 55, 3) := by decide +kernel
theorem dX3_size_31 : decode cX3_size 31 = .ok (.ireturn, 1) := by decide +kernel
theorem dX3_get_0 : decode cX3_get 0 = .ok (.iload_n 1, 1) := by decide +kernel
theorem dX3_get_1 : decode cX3_get 1 = .ok (.invokestatic 29, 3) := by decide +kernel
theorem dX3_get_4 : decode cX3_get 4 = .ok (.ifCond .eq 10, 3) := by decide +kernel
theorem dX3_get_7 : decode cX3_get 7 = .ok (.iload_n 2, 1) := by decide +kernel
theorem dX3_get_8 : decode cX3_get 8 = .ok (.invokestatic 33, 3) := by decide +kernel
theorem dX3_get_11 : decode cX3_get 11 = .ok (.ifCond .ne 10, 3) := by decide +kernel
theorem dX3_get_14 : decode cX3_get 14 = .ok (.aload_n 0, 1) := by decide +kernel
theorem dX3_get_15 : decode cX3_get 15 = .ok (.iconst 1, 1) := by decide +kernel
theorem dX3_get_16 : decode cX3_get 16 = .ok (.iconst 0, 1) := by decide +kernel
theorem dX3_get_17 : decode cX3_get 17 = .ok (.invokevirtual 36, 3) := by decide +kernel
theorem dX3_get_20 : decode cX3_get 20 = .ok (.ireturn, 1) := by decide +kernel
theorem dX3_get_21 : decode cX3_get 21 = .ok (.aload_n 0, 1) := by decide +kernel
theorem dX3_get_22 : decode cX3_get 22 = .ok (.aload_n 0, 1) := by decide +kernel
theorem dX3_get_23 : decode cX3_get 23 = .ok (.iload_n 1, 1) := by decide +kernel
theorem dX3_get_24 : decode cX3_get 24 = .ok (.iload_n 2, 1) := by decide +kernel
theorem dX3_get_25 : decode cX3_get 25 = .ok (.iload_n 3, 1) := by decide +kernel
theorem dX3_get_26 : decode cX3_get 26 = .ok (.invokevirtual 58, 3) := by decide +kernel
theorem dX3_get_29 : decode cX3_get 29 = .ok (.invokevirtual 55, 3) := by decide +kernel
theorem dX3_get_32 : decode cX3_get 32 = .ok (.ireturn, 1) := by decide +kernel
theorem dX3_set_0 : decode cX3_set 0 = .ok (.iload_n 1, 1) := by decide +kernel
theorem dX3_set_1 : decode cX3_set 1 = .ok (.invokestatic 29, 3) := by decide +kernel
theorem dX3_set_4 : decode cX3_set 4 = .ok (.ifCond .eq 10, 3) := by decide +kernel
theorem dX3_set_7 : decode cX3_set 7 = .ok (.iload_n 2, 1) := by decide +kernel
theorem dX3_set_8 : decode cX3_set 8 = .ok (.invokestatic 33, 3) := by decide +kernel
theorem dX3_set_11 : decode cX3_set 11 = .ok (.ifCond .ne 10, 3) := by decide +kernel
theorem dX3_set_14 : decode cX3_set 14 = .ok (.aload_n 0, 1) := by decide +kernel
theorem dX3_set_15 : decode cX3_set 15 = .ok (.iconst 1, 1) := by decide +kernel
theorem dX3_set_16 : decode cX3_set 16 = .ok (.iconst 0, 1) := by decide +kernel
theorem dX3_set_17 : decode cX3_set 17 = .ok (.invokevirtual 36, 3) := by decide +kernel
theorem dX3_set_20 : decode cX3_set 20 = .ok (.ireturn, 1) := by decide +kernel
theorem dX3_set_21 : decode cX3_set 21 = .ok (.aload_n 0, 1) := by decide +kernel
theorem dX3_set_22 : decode cX3_set 22 = .ok (.iload_n 1, 1) := by decide +kernel
theorem dX3_set_23 : decode cX3_set 23 = .ok (.iload_n 2, 1) := by decide +kernel
theorem dX3_set_24 : decode cX3_set 24 = .ok (.iload_n 3, 1) := by decide +kernel
theorem dX3_set_25 : decode cX3_set 25 = .ok (.invokevirtual 58, 3) := by decide +kernel
theorem dX3_set_28 : decode cX3_set 28 = .ok (.istore 5, 2) := by decide +kernel
theorem dX3_set_30 : decode cX3_set 30 = .ok (.iload 5, 2) := by decide +kernel
theorem dX3_set_32 : decode cX3_set 32 = .ok (.ifCond .ne 14, 3) := by decide +kernel
theorem dX3_set_35 : decode cX3_set 35 = .ok (.aload_n 0, 1) := by decide +kernel
theorem dX3_set_36 : decode cX3_set 36 = .ok (.iload_n 1, 1) := by decide +kernel
theorem dX3_set_37 : decode cX3_set 37 = .ok (.iload_n 2, 1) := by decide +kernel
theorem dX3_set_38 : decode cX3_set 38 = .ok (.iload_n 3, 1) := by decide +kernel
theorem dX3_set_39 : decode cX3_set 39 = .ok (.iload 4, 2) := by decide +kernel
theorem dX3_set_41 : decode cX3_set 41 = .ok (.invokevirtual 62, 3) := by decide +kernel
theorem dX3_set_44 : decode cX3_set 44 = .ok (.istore 5, 2) := by decide +kernel
theorem dX3_set_46 : decode cX3_set 46 = .ok (.aload_n 0, 1) := by decide +kernel
theorem dX3_set_47 : decode cX3_set 47 = .ok (.iload 5, 2) := by decide +kernel
theorem dX3_set_49 : decode cX3_set 49 = .ok (.invokevirtual 55, 3) := by decide +kernel
theorem dX3_set_52 : decode cX3_set 52 = .ok (.ireturn, 1) := by decide +kernel
theorem dX3_patch_0 : decode cX3_patch 0 = .ok (.iload_n 1, 1) := by decide +kernel
theorem dX3_patch_1 : decode cX3_patch 1 = .ok (.invokestatic 29, 3) := by decide +kernel
theorem dX3_patch_4 : decode cX3_patch 4 = .ok (.ifCond .eq 22, 3) := by decide +kernel
theorem dX3_patch_7 : decode cX3_patch 7 = .ok (.iload_n 3, 1) := by decide +kernel
theorem dX3_patch_8 : decode cX3_patch 8 = .ok (.invokestatic 29, 3) := by decide +kernel
theorem dX3_patch_11 : decode cX3_patch 11 = .ok (.ifCond .eq 15, 3) := by decide +kernel
theorem dX3_patch_14 : decode cX3_patch 14 = .ok (.iload 5, 2) := by decide +kernel
theorem dX3_patch_16 : decode cX3_patch 16 = .ok (.ifCond .lt 10, 3) := by decide +kernel
theorem dX3_patch_19 : decode cX3_patch 19 = .ok (.iload 5, 2) := by decide +kernel
theorem dX3_patch_21 : decode cX3_patch 21 = .ok (.bipush 16, 2) := by decide +kernel
theorem dX3_patch_23 : decode cX3_patch 23 = .ok (.if_icmp .lt 10, 3) := by decide +kernel
theorem dX3_patch_26 : decode cX3_patch 26 = .ok (.aload_n 0, 1) := by decide +kernel
theorem dX3_patch_27 : decode cX3_patch 27 = .ok (.iconst 1, 1) := by decide +kernel
theorem dX3_patch_28 : decode cX3_patch 28 = .ok (.iconst 0, 1) := by decide +kernel
theorem dX3_patch_29 : decode cX3_patch 29 = .ok (.invokevirtual 36, 3) := by decide +kernel
theorem dX3_patch_32 : decode cX3_patch 32 = .ok (.ireturn, 1) := by decide +kernel
theorem dX3_patch_33 : decode cX3_patch 33 = .ok (.aload_n 0, 1) := by decide +kernel
theorem dX3_patch_34 : decode cX3_patch 34 = .ok (.iload_n 1, 1) := by decide +kernel
theorem dX3_patch_35 : decode cX3_patch 35 = .ok (.iload 5, 2) := by decide +kernel
theorem dX3_patch_37 : decode cX3_patch 37 = .ok (.iconst 4, 1) := by decide +kernel
theorem dX3_patch_38 : decode cX3_patch 38 = .ok (.idiv, 1) := by decide +kernel
theorem dX3_patch_39 : decode cX3_patch 39 = .ok (.iload_n 2, 1) := by decide +kernel
theorem dX3_patch_40 : decode cX3_patch 40 = .ok (.invokevirtual 58, 3) := by decide +kernel
theorem dX3_patch_43 : decode cX3_patch 43 = .ok (.istore 6, 2) := by decide +kernel
theorem dX3_patch_45 : decode cX3_patch 45 = .ok (.iload 6, 2) := by decide +kernel
theorem dX3_patch_47 : decode cX3_patch 47 = .ok (.ifCond .ne 20, 3) := by decide +kernel
theorem dX3_patch_50 : decode cX3_patch 50 = .ok (.aload_n 0, 1) := by decide +kernel
theorem dX3_patch_51 : decode cX3_patch 51 = .ok (.iload_n 3, 1) := by decide +kernel
theorem dX3_patch_52 : decode cX3_patch 52 = .ok (.iload 5, 2) := by decide +kernel
theorem dX3_patch_54 : decode cX3_patch 54 = .ok (.iconst 4, 1) := by decide +kernel
theorem dX3_patch_55 : decode cX3_patch 55 = .ok (.irem, 1) := by decide +kernel
theorem dX3_patch_56 : decode cX3_patch 56 = .ok (.iload 4, 2) := by decide +kernel
theorem dX3_patch_58 : decode cX3_patch 58 = .ok (.aload_n 0, 1) := by decide +kernel
theorem dX3_patch_59 : decode cX3_patch 59 = .ok (.getfield 66, 3) := by decide +kernel
theorem dX3_patch_62 : decode cX3_patch 62 = .ok (.invokevirtual 62, 3) := by decide +kernel
theorem dX3_patch_65 : decode cX3_patch 65 = .ok (.istore 6, 2) := by decide +kernel
theorem dX3_patch_67 : decode cX3_patch 67 = .ok (.aload_n 0, 1) := by decide +kernel
theorem dX3_patch_68 : decode cX3_patch 68 = .ok (.iload 6, 2) := by decide +kernel
theorem dX3_patch_70 : decode cX3_patch 70 = .ok (.invokevirtual 55, 3) := by decide +kernel
theorem dX3_patch_73 : decode cX3_patch 73 = .ok (.ireturn, 1) := by decide +kernel
theorem dX3_ripple_0 : decode cX3_ripple 0 = .ok (.iload_n 1, 1) := by decide +kernel
theorem dX3_ripple_1 : decode cX3_ripple 1 = .ok (.invokestatic 29, 3) := by decide +kernel
theorem dX3_ripple_4 : decode cX3_ripple 4 = .ok (.ifCond .eq 15, 3) := by decide +kernel
theorem dX3_ripple_7 : decode cX3_ripple 7 = .ok (.iload 4, 2) := by decide +kernel
theorem dX3_ripple_9 : decode cX3_ripple 9 = .ok (.ifCond .lt 10, 3) := by decide +kernel
theorem dX3_ripple_12 : decode cX3_ripple 12 = .ok (.iload 4, 2) := by decide +kernel
theorem dX3_ripple_14 : decode cX3_ripple 14 = .ok (.bipush 64, 2) := by decide +kernel
theorem dX3_ripple_16 : decode cX3_ripple 16 = .ok (.if_icmp .le 10, 3) := by decide +kernel
theorem dX3_ripple_19 : decode cX3_ripple 19 = .ok (.aload_n 0, 1) := by decide +kernel
theorem dX3_ripple_20 : decode cX3_ripple 20 = .ok (.iconst 1, 1) := by decide +kernel
theorem dX3_ripple_21 : decode cX3_ripple 21 = .ok (.iconst 0, 1) := by decide +kernel
theorem dX3_ripple_22 : decode cX3_ripple 22 = .ok (.invokevirtual 36, 3) := by decide +kernel
theorem dX3_ripple_25 : decode cX3_ripple 25 = .ok (.ireturn, 1) := by decide +kernel
theorem dX3_ripple_26 : decode cX3_ripple 26 = .ok (.iload 5, 2) := by decide +kernel
theorem dX3_ripple_28 : decode cX3_ripple 28 = .ok (.invokestatic 70, 3) := by decide +kernel
theorem dX3_ripple_31 : decode cX3_ripple 31 = .ok (.istore 6, 2) := by decide +kernel
theorem dX3_ripple_33 : decode cX3_ripple 33 = .ok (.iconst 0, 1) := by decide +kernel
theorem dX3_ripple_34 : decode cX3_ripple 34 = .ok (.istore 7, 2) := by decide +kernel
theorem dX3_ripple_36 : decode cX3_ripple 36 = .ok (.iload 7, 2) := by decide +kernel
theorem dX3_ripple_38 : decode cX3_ripple 38 = .ok (.iload 4, 2) := by decide +kernel
theorem dX3_ripple_40 : decode cX3_ripple 40 = .ok (.if_icmp .ge 57, 3) := by decide +kernel
theorem dX3_ripple_43 : decode cX3_ripple 43 = .ok (.iload_n 2, 1) := by decide +kernel
theorem dX3_ripple_44 : decode cX3_ripple 44 = .ok (.iload 7, 2) := by decide +kernel
theorem dX3_ripple_46 : decode cX3_ripple 46 = .ok (.iload_n 3, 1) := by decide +kernel
theorem dX3_ripple_47 : decode cX3_ripple 47 = .ok (.imul, 1) := by decide +kernel
theorem dX3_ripple_48 : decode cX3_ripple 48 = .ok (.iadd, 1) := by decide +kernel
theorem dX3_ripple_49 : decode cX3_ripple 49 = .ok (.istore 8, 2) := by decide +kernel
theorem dX3_ripple_51 : decode cX3_ripple 51 = .ok (.aload_n 0, 1) := by decide +kernel
theorem dX3_ripple_52 : decode cX3_ripple 52 = .ok (.iload_n 1, 1) := by decide +kernel
theorem dX3_ripple_53 : decode cX3_ripple 53 = .ok (.iconst 2, 1) := by decide +kernel
theorem dX3_ripple_54 : decode cX3_ripple 54 = .ok (.iload 8, 2) := by decide +kernel
theorem dX3_ripple_56 : decode cX3_ripple 56 = .ok (.invokevirtual 58, 3) := by decide +kernel
theorem dX3_ripple_59 : decode cX3_ripple 59 = .ok (.istore 9, 2) := by decide +kernel
theorem dX3_ripple_61 : decode cX3_ripple 61 = .ok (.iload 9, 2) := by decide +kernel
theorem dX3_ripple_63 : decode cX3_ripple 63 = .ok (.ifCond .eq 12, 3) := by decide +kernel
theorem dX3_ripple_66 : decode cX3_ripple 66 = .ok (.aload_n 0, 1) := by decide +kernel
theorem dX3_ripple_67 : decode cX3_ripple 67 = .ok (.iload 9, 2) := by decide +kernel
theorem dX3_ripple_69 : decode cX3_ripple 69 = .ok (.iload 7, 2) := by decide +kernel
theorem dX3_ripple_71 : decode cX3_ripple 71 = .ok (.invokevirtual 36, 3) := by decide +kernel
theorem dX3_ripple_74 : decode cX3_ripple 74 = .ok (.ireturn, 1) := by decide +kernel
theorem dX3_ripple_75 : decode cX3_ripple 75 = .ok (.aload_n 0, 1) := by decide +kernel
theorem dX3_ripple_76 : decode cX3_ripple 76 = .ok (.iload_n 1, 1) := by decide +kernel
theorem dX3_ripple_77 : decode cX3_ripple 77 = .ok (.iconst 2, 1) := by decide +kernel
theorem dX3_ripple_78 : decode cX3_ripple 78 = .ok (.iload 8, 2) := by decide +kernel
theorem dX3_ripple_80 : decode cX3_ripple 80 = .ok (.aload_n 0, 1) := by decide +kernel
theorem dX3_ripple_81 : decode cX3_ripple 81 = .ok (.getfield 66, 3) := by decide +kernel
theorem dX3_ripple_84 : decode cX3_ripple 84 = .ok (.iload 6, 2) := by decide +kernel
theorem dX3_ripple_86 : decode cX3_ripple 86 = .ok (.iadd, 1) := by decide +kernel
theorem dX3_ripple_87 : decode cX3_ripple 87 = .ok (.invokevirtual 62, 3) := by decide +kernel
theorem dX3_ripple_90 : decode cX3_ripple 90 = .ok (.pop, 1) := by decide +kernel
theorem dX3_ripple_91 : decode cX3_ripple 91 = .ok (.iinc 7 1, 3) := by decide +kernel
theorem dX3_ripple_94 : decode cX3_ripple 94 = .ok (.goto (-58), 3) := by decide +kernel
theorem dX3_ripple_97 : decode cX3_ripple 97 = .ok (.aload_n 0, 1) := by decide +kernel
theorem dX3_ripple_98 : decode cX3_ripple 98 = .ok (.iconst 0, 1) := by decide +kernel
theorem dX3_ripple_99 : decode cX3_ripple 99 = .ok (.iload 4, 2) := by decide +kernel
theorem dX3_ripple_101 : decode cX3_ripple 101 = .ok (.invokevirtual 36, 3) := by decide +kernel
theorem dX3_ripple_104 : decode cX3_ripple 104 = .ok (.ireturn, 1) := by decide +kernel
theorem dX3_probe_0 : decode cX3_probe 0 = .ok (.iload_n 1, 1) := by decide +kernel
theorem dX3_probe_1 : decode cX3_probe 1 = .ok (.invokestatic 29, 3) := by decide +kernel
theorem dX3_probe_4 : decode cX3_probe 4 = .ok (.ifCond .ne 10, 3) := by decide +kernel
theorem dX3_probe_7 : decode cX3_probe 7 = .ok (.aload_n 0, 1) := by decide +kernel
theorem dX3_probe_8 : decode cX3_probe 8 = .ok (.iconst 1, 1) := by decide +kernel
theorem dX3_probe_9 : decode cX3_probe 9 = .ok (.iconst 0, 1) := by decide +kernel
theorem dX3_probe_10 : decode cX3_probe 10 = .ok (.invokevirtual 36, 3) := by decide +kernel
theorem dX3_probe_13 : decode cX3_probe 13 = .ok (.ireturn, 1) := by decide +kernel
theorem dX3_probe_14 : decode cX3_probe 14 = .ok (.iconst 0, 1) := by decide +kernel
theorem dX3_probe_15 : decode cX3_probe 15 = .ok (.istore_n 3, 1) := by decide +kernel
theorem dX3_probe_16 : decode cX3_probe 16 = .ok (.iconst 1, 1) := by decide +kernel
theorem dX3_probe_17 : decode cX3_probe 17 = .ok (.istore 4, 2) := by decide +kernel
theorem dX3_probe_19 : decode cX3_probe 19 = .ok (.iconst 0, 1) := by decide +kernel
theorem dX3_probe_20 : decode cX3_probe 20 = .ok (.istore 5, 2) := by decide +kernel
theorem dX3_probe_22 : decode cX3_probe 22 = .ok (.iload 5, 2) := by decide +kernel
theorem dX3_probe_24 : decode cX3_probe 24 = .ok (.iconst 4, 1) := by decide +kernel
theorem dX3_probe_25 : decode cX3_probe 25 = .ok (.if_icmp .ge 33, 3) := by decide +kernel
theorem dX3_probe_28 : decode cX3_probe 28 = .ok (.iload_n 3, 1) := by decide +kernel
theorem dX3_probe_29 : decode cX3_probe 29 = .ok (.iload 4, 2) := by decide +kernel
theorem dX3_probe_31 : decode cX3_probe 31 = .ok (.aload_n 0, 1) := by decide +kernel
theorem dX3_probe_32 : decode cX3_probe 32 = .ok (.iload_n 1, 1) := by decide +kernel
theorem dX3_probe_33 : decode cX3_probe 33 = .ok (.iload 5, 2) := by decide +kernel
theorem dX3_probe_35 : decode cX3_probe 35 = .ok (.iload_n 2, 1) := by decide +kernel
theorem dX3_probe_36 : decode cX3_probe 36 = .ok (.invokevirtual 58, 3) := by decide +kernel
theorem dX3_probe_39 : decode cX3_probe 39 = .ok (.invokestatic 73, 3) := by decide +kernel
theorem dX3_probe_42 : decode cX3_probe 42 = .ok (.imul, 1) := by decide +kernel
theorem dX3_probe_43 : decode cX3_probe 43 = .ok (.iadd, 1) := by decide +kernel
theorem dX3_probe_44 : decode cX3_probe 44 = .ok (.istore_n 3, 1) := by decide +kernel
theorem dX3_probe_45 : decode cX3_probe 45 = .ok (.iload 4, 2) := by decide +kernel
theorem dX3_probe_47 : decode cX3_probe 47 = .ok (.bipush 10, 2) := by decide +kernel
theorem dX3_probe_49 : decode cX3_probe 49 = .ok (.imul, 1) := by decide +kernel
theorem dX3_probe_50 : decode cX3_probe 50 = .ok (.istore 4, 2) := by decide +kernel
theorem dX3_probe_52 : decode cX3_probe 52 = .ok (.iinc 5 1, 3) := by decide +kernel
theorem dX3_probe_55 : decode cX3_probe 55 = .ok (.goto (-33), 3) := by decide +kernel
theorem dX3_probe_58 : decode cX3_probe 58 = .ok (.aload_n 0, 1) := by decide +kernel
theorem dX3_probe_59 : decode cX3_probe 59 = .ok (.iconst 0, 1) := by decide +kernel
theorem dX3_probe_60 : decode cX3_probe 60 = .ok (.iload_n 3, 1) := by decide +kernel
theorem dX3_probe_61 : decode cX3_probe 61 = .ok (.invokevirtual 36, 3) := by decide +kernel
theorem dX3_probe_64 : decode cX3_probe 64 = .ok (.ireturn, 1) := by decide +kernel
theorem dX3_poke_0 : decode cX3_poke 0 = .ok (.iload_n 1, 1) := by decide +kernel
theorem dX3_poke_1 : decode cX3_poke 1 = .ok (.invokestatic 29, 3) := by decide +kernel
theorem dX3_poke_4 : decode cX3_poke 4 = .ok (.ifCond .ne 10, 3) := by decide +kernel
theorem dX3_poke_7 : decode cX3_poke 7 = .ok (.aload_n 0, 1) := by decide +kernel
theorem dX3_poke_8 : decode cX3_poke 8 = .ok (.iconst 1, 1) := by decide +kernel
theorem dX3_poke_9 : decode cX3_poke 9 = .ok (.iconst 0, 1) := by decide +kernel
theorem dX3_poke_10 : decode cX3_poke 10 = .ok (.invokevirtual 36, 3) := by decide +kernel
theorem dX3_poke_13 : decode cX3_poke 13 = .ok (.ireturn, 1) := by decide +kernel
theorem dX3_poke_14 : decode cX3_poke 14 = .ok (.iconst 0, 1) := by decide +kernel
theorem dX3_poke_15 : decode cX3_poke 15 = .ok (.istore 4, 2) := by decide +kernel
theorem dX3_poke_17 : decode cX3_poke 17 = .ok (.iconst 1, 1) := by decide +kernel
theorem dX3_poke_18 : decode cX3_poke 18 = .ok (.istore 5, 2) := by decide +kernel
theorem dX3_poke_20 : decode cX3_poke 20 = .ok (.iconst 0, 1) := by decide +kernel
theorem dX3_poke_21 : decode cX3_poke 21 = .ok (.istore 6, 2) := by decide +kernel
theorem dX3_poke_23 : decode cX3_poke 23 = .ok (.iload 6, 2) := by decide +kernel
theorem dX3_poke_25 : decode cX3_poke 25 = .ok (.iconst 4, 1) := by decide +kernel
theorem dX3_poke_26 : decode cX3_poke 26 = .ok (.if_icmp .ge 36, 3) := by decide +kernel
theorem dX3_poke_29 : decode cX3_poke 29 = .ok (.iload 4, 2) := by decide +kernel
theorem dX3_poke_31 : decode cX3_poke 31 = .ok (.iload 5, 2) := by decide +kernel
theorem dX3_poke_33 : decode cX3_poke 33 = .ok (.aload_n 0, 1) := by decide +kernel
theorem dX3_poke_34 : decode cX3_poke 34 = .ok (.iload_n 1, 1) := by decide +kernel
theorem dX3_poke_35 : decode cX3_poke 35 = .ok (.iload 6, 2) := by decide +kernel
theorem dX3_poke_37 : decode cX3_poke 37 = .ok (.iload_n 2, 1) := by decide +kernel
theorem dX3_poke_38 : decode cX3_poke 38 = .ok (.iload_n 3, 1) := by decide +kernel
theorem dX3_poke_39 : decode cX3_poke 39 = .ok (.invokevirtual 62, 3) := by decide +kernel
theorem dX3_poke_42 : decode cX3_poke 42 = .ok (.invokestatic 73, 3) := by decide +kernel
theorem dX3_poke_45 : decode cX3_poke 45 = .ok (.imul, 1) := by decide +kernel
theorem dX3_poke_46 : decode cX3_poke 46 = .ok (.iadd, 1) := by decide +kernel
theorem dX3_poke_47 : decode cX3_poke 47 = .ok (.istore 4, 2) := by decide +kernel
theorem dX3_poke_49 : decode cX3_poke 49 = .ok (.iload 5, 2) := by decide +kernel
theorem dX3_poke_51 : decode cX3_poke 51 = .ok (.bipush 10, 2) := by decide +kernel
theorem dX3_poke_53 : decode cX3_poke 53 = .ok (.imul, 1) := by decide +kernel
theorem dX3_poke_54 : decode cX3_poke 54 = .ok (.istore 5, 2) := by decide +kernel
theorem dX3_poke_56 : decode cX3_poke 56 = .ok (.iinc 6 1, 3) := by decide +kernel
theorem dX3_poke_59 : decode cX3_poke 59 = .ok (.goto (-36), 3) := by decide +kernel
theorem dX3_poke_62 : decode cX3_poke 62 = .ok (.aload_n 0, 1) := by decide +kernel
theorem dX3_poke_63 : decode cX3_poke 63 = .ok (.iconst 0, 1) := by decide +kernel
theorem dX3_poke_64 : decode cX3_poke 64 = .ok (.iload 4, 2) := by decide +kernel
theorem dX3_poke_66 : decode cX3_poke 66 = .ok (.invokevirtual 36, 3) := by decide +kernel
theorem dX3_poke_69 : decode cX3_poke 69 = .ok (.ireturn, 1) := by decide +kernel
theorem dX3_shown_0 : decode cX3_shown 0 = .ok (.iload_n 1, 1) := by decide +kernel
theorem dX3_shown_1 : decode cX3_shown 1 = .ok (.invokestatic 29, 3) := by decide +kernel
theorem dX3_shown_4 : decode cX3_shown 4 = .ok (.ifCond .ne 10, 3) := by decide +kernel
theorem dX3_shown_7 : decode cX3_shown 7 = .ok (.aload_n 0, 1) := by decide +kernel
theorem dX3_shown_8 : decode cX3_shown 8 = .ok (.iconst 1, 1) := by decide +kernel
theorem dX3_shown_9 : decode cX3_shown 9 = .ok (.iconst 0, 1) := by decide +kernel
theorem dX3_shown_10 : decode cX3_shown 10 = .ok (.invokevirtual 36, 3) := by decide +kernel
theorem dX3_shown_13 : decode cX3_shown 13 = .ok (.ireturn, 1) := by decide +kernel
theorem dX3_shown_14 : decode cX3_shown 14 = .ok (.aload_n 0, 1) := by decide +kernel
theorem dX3_shown_15 : decode cX3_shown 15 = .ok (.aload_n 0, 1) := by decide +kernel
theorem dX3_shown_16 : decode cX3_shown 16 = .ok (.iload_n 1, 1) := by decide +kernel
theorem dX3_shown_17 : decode cX3_shown 17 = .ok (.iload_n 2, 1) := by decide +kernel
theorem dX3_shown_18 : decode cX3_shown 18 = .ok (.invokevirtual 76, 3) := by decide +kernel
theorem dX3_shown_21 : decode cX3_shown 21 = .ok (.invokevirtual 55, 3) := by decide +kernel
theorem dX3_shown_24 : decode cX3_shown 24 = .ok (.ireturn, 1) := by decide +kernel
theorem dX3_lit_0 : decode cX3_lit 0 = .ok (.iload_n 1, 1) := by decide +kernel
theorem dX3_lit_1 : decode cX3_lit 1 = .ok (.invokestatic 29, 3) := by decide +kernel
theorem dX3_lit_4 : decode cX3_lit 4 = .ok (.ifCond .ne 10, 3) := by decide +kernel
theorem dX3_lit_7 : decode cX3_lit 7 = .ok (.aload_n 0, 1) := by decide +kernel
theorem dX3_lit_8 : decode cX3_lit 8 = .ok (.iconst 1, 1) := by decide +kernel
theorem dX3_lit_9 : decode cX3_lit 9 = .ok (.iconst 0, 1) := by decide +kernel
theorem dX3_lit_10 : decode cX3_lit 10 = .ok (.invokevirtual 36, 3) := by decide +kernel
theorem dX3_lit_13 : decode cX3_lit 13 = .ok (.ireturn, 1) := by decide +kernel
theorem dX3_lit_14 : decode cX3_lit 14 = .ok (.aload_n 0, 1) := by decide +kernel
theorem dX3_lit_15 : decode cX3_lit 15 = .ok (.iload_n 1, 1) := by decide +kernel
theorem dX3_lit_16 : decode cX3_lit 16 = .ok (.iconst 2, 1) := by decide +kernel
theorem dX3_lit_17 : decode cX3_lit 17 = .ok (.invokevirtual 52, 3) := by decide +kernel
theorem dX3_lit_20 : decode cX3_lit 20 = .ok (.istore_n 2, 1) := by decide +kernel
theorem dX3_lit_21 : decode cX3_lit 21 = .ok (.iload_n 2, 1) := by decide +kernel
theorem dX3_lit_22 : decode cX3_lit 22 = .ok (.ifCond .eq 10, 3) := by decide +kernel
theorem dX3_lit_25 : decode cX3_lit 25 = .ok (.aload_n 0, 1) := by decide +kernel
theorem dX3_lit_26 : decode cX3_lit 26 = .ok (.iload_n 2, 1) := by decide +kernel
theorem dX3_lit_27 : decode cX3_lit 27 = .ok (.iconst 0, 1) := by decide +kernel
theorem dX3_lit_28 : decode cX3_lit 28 = .ok (.invokevirtual 36, 3) := by decide +kernel
theorem dX3_lit_31 : decode cX3_lit 31 = .ok (.ireturn, 1) := by decide +kernel
theorem dX3_lit_32 : decode cX3_lit 32 = .ok (.aload_n 0, 1) := by decide +kernel
theorem dX3_lit_33 : decode cX3_lit 33 = .ok (.getfield 66, 3) := by decide +kernel
theorem dX3_lit_36 : decode cX3_lit 36 = .ok (.istore_n 3, 1) := by decide +kernel
theorem dX3_lit_37 : decode cX3_lit 37 = .ok (.iconst 0, 1) := by decide +kernel
theorem dX3_lit_38 : decode cX3_lit 38 = .ok (.istore 4, 2) := by decide +kernel
theorem dX3_lit_40 : decode cX3_lit 40 = .ok (.iconst 0, 1) := by decide +kernel
theorem dX3_lit_41 : decode cX3_lit 41 = .ok (.istore 5, 2) := by decide +kernel
theorem dX3_lit_43 : decode cX3_lit 43 = .ok (.iload 5, 2) := by decide +kernel
theorem dX3_lit_45 : decode cX3_lit 45 = .ok (.iload_n 3, 1) := by decide +kernel
theorem dX3_lit_46 : decode cX3_lit 46 = .ok (.if_icmp .ge 22, 3) := by decide +kernel
theorem dX3_lit_49 : decode cX3_lit 49 = .ok (.aload_n 0, 1) := by decide +kernel
theorem dX3_lit_50 : decode cX3_lit 50 = .ok (.iload_n 1, 1) := by decide +kernel
theorem dX3_lit_51 : decode cX3_lit 51 = .ok (.iload 5, 2) := by decide +kernel
theorem dX3_lit_53 : decode cX3_lit 53 = .ok (.invokevirtual 79, 3) := by decide +kernel
theorem dX3_lit_56 : decode cX3_lit 56 = .ok (.ifCond .eq 6, 3) := by decide +kernel
theorem dX3_lit_59 : decode cX3_lit 59 = .ok (.iinc 4 1, 3) := by decide +kernel
theorem dX3_lit_62 : decode cX3_lit 62 = .ok (.iinc 5 1, 3) := by decide +kernel
theorem dX3_lit_65 : decode cX3_lit 65 = .ok (.goto (-22), 3) := by decide +kernel
theorem dX3_lit_68 : decode cX3_lit 68 = .ok (.aload_n 0, 1) := by decide +kernel
theorem dX3_lit_69 : decode cX3_lit 69 = .ok (.iconst 0, 1) := by decide +kernel
theorem dX3_lit_70 : decode cX3_lit 70 = .ok (.iload 4, 2) := by decide +kernel
theorem dX3_lit_72 : decode cX3_lit 72 = .ok (.invokevirtual 36, 3) := by decide +kernel
theorem dX3_lit_75 : decode cX3_lit 75 = .ok (.ireturn, 1) := by decide +kernel
theorem dX3_fade_0 : decode cX3_fade 0 = .ok (.iload_n 1, 1) := by decide +kernel
theorem dX3_fade_1 : decode cX3_fade 1 = .ok (.invokestatic 29, 3) := by decide +kernel
theorem dX3_fade_4 : decode cX3_fade 4 = .ok (.ifCond .eq 17, 3) := by decide +kernel
theorem dX3_fade_7 : decode cX3_fade 7 = .ok (.iload 4, 2) := by decide +kernel
theorem dX3_fade_9 : decode cX3_fade 9 = .ok (.iconst 1, 1) := by decide +kernel
theorem dX3_fade_10 : decode cX3_fade 10 = .ok (.if_icmp .lt 11, 3) := by decide +kernel
theorem dX3_fade_13 : decode cX3_fade 13 = .ok (.iload 4, 2) := by decide +kernel
theorem dX3_fade_15 : decode cX3_fade 15 = .ok (.sipush 1000, 3) := by decide +kernel
theorem dX3_fade_18 : decode cX3_fade 18 = .ok (.if_icmp .le 10, 3) := by decide +kernel
theorem dX3_fade_21 : decode cX3_fade 21 = .ok (.aload_n 0, 1) := by decide +kernel
theorem dX3_fade_22 : decode cX3_fade 22 = .ok (.iconst 1, 1) := by decide +kernel
theorem dX3_fade_23 : decode cX3_fade 23 = .ok (.iconst 0, 1) := by decide +kernel
theorem dX3_fade_24 : decode cX3_fade 24 = .ok (.invokevirtual 36, 3) := by decide +kernel
theorem dX3_fade_27 : decode cX3_fade 27 = .ok (.ireturn, 1) := by decide +kernel
theorem dX3_fade_28 : decode cX3_fade 28 = .ok (.aload_n 0, 1) := by decide +kernel
theorem dX3_fade_29 : decode cX3_fade 29 = .ok (.getfield 83, 3) := by decide +kernel
theorem dX3_fade_32 : decode cX3_fade 32 = .ok (.bipush 16, 2) := by decide +kernel
theorem dX3_fade_34 : decode cX3_fade 34 = .ok (.if_icmp .lt 11, 3) := by decide +kernel
theorem dX3_fade_37 : decode cX3_fade 37 = .ok (.aload_n 0, 1) := by decide +kernel
theorem dX3_fade_38 : decode cX3_fade 38 = .ok (.bipush 6, 2) := by decide +kernel
theorem dX3_fade_40 : decode cX3_fade 40 = .ok (.iconst 0, 1) := by decide +kernel
theorem dX3_fade_41 : decode cX3_fade 41 = .ok (.invokevirtual 36, 3) := by decide +kernel
theorem dX3_fade_44 : decode cX3_fade 44 = .ok (.ireturn, 1) := by decide +kernel
theorem dX3_fade_45 : decode cX3_fade 45 = .ok (.aload_n 0, 1) := by decide +kernel
theorem dX3_fade_46 : decode cX3_fade 46 = .ok (.iload_n 1, 1) := by decide +kernel
theorem dX3_fade_47 : decode cX3_fade 47 = .ok (.iconst 2, 1) := by decide +kernel
theorem dX3_fade_48 : decode cX3_fade 48 = .ok (.iload_n 2, 1) := by decide +kernel
theorem dX3_fade_49 : decode cX3_fade 49 = .ok (.invokevirtual 58, 3) := by decide +kernel
theorem dX3_fade_52 : decode cX3_fade 52 = .ok (.istore 5, 2) := by decide +kernel
theorem dX3_fade_54 : decode cX3_fade 54 = .ok (.iload 5, 2) := by decide +kernel
theorem dX3_fade_56 : decode cX3_fade 56 = .ok (.ifCond .eq 11, 3) := by decide +kernel
theorem dX3_fade_59 : decode cX3_fade 59 = .ok (.aload_n 0, 1) := by decide +kernel
theorem dX3_fade_60 : decode cX3_fade 60 = .ok (.iload 5, 2) := by decide +kernel
theorem dX3_fade_62 : decode cX3_fade 62 = .ok (.iconst 0, 1) := by decide +kernel
theorem dX3_fade_63 : decode cX3_fade 63 = .ok (.invokevirtual 36, 3) := by decide +kernel
theorem dX3_fade_66 : decode cX3_fade 66 = .ok (.ireturn, 1) := by decide +kernel
theorem dX3_fade_67 : decode cX3_fade 67 = .ok (.aload_n 0, 1) := by decide +kernel
theorem dX3_fade_68 : decode cX3_fade 68 = .ok (.getfield 25, 3) := by decide +kernel
theorem dX3_fade_71 : decode cX3_fade 71 = .ok (.aload_n 0, 1) := by decide +kernel
theorem dX3_fade_72 : decode cX3_fade 72 = .ok (.getfield 83, 3) := by decide +kernel
theorem dX3_fade_75 : decode cX3_fade 75 = .ok (.new 23, 3) := by decide +kernel
theorem dX3_fade_78 : decode cX3_fade 78 = .ok (.dup, 1) := by decide +kernel
theorem dX3_fade_79 : decode cX3_fade 79 = .ok (.iload_n 1, 1) := by decide +kernel
theorem dX3_fade_80 : decode cX3_fade 80 = .ok (.iload_n 2, 1) := by decide +kernel
theorem dX3_fade_81 : decode cX3_fade 81 = .ok (.iload_n 3, 1) := by decide +kernel
theorem dX3_fade_82 : decode cX3_fade 82 = .ok (.invokestatic 70, 3) := by decide +kernel
theorem dX3_fade_85 : decode cX3_fade 85 = .ok (.iload 4, 2) := by decide +kernel
theorem dX3_fade_87 : decode cX3_fade 87 = .ok (.invokespecial 86, 3) := by decide +kernel
theorem dX3_fade_90 : decode cX3_fade 90 = .ok (.aastore, 1) := by decide +kernel
theorem dX3_fade_91 : decode cX3_fade 91 = .ok (.aload_n 0, 1) := by decide +kernel
theorem dX3_fade_92 : decode cX3_fade 92 = .ok (.dup, 1) := by decide +kernel
theorem dX3_fade_93 : decode cX3_fade 93 = .ok (.getfield 83, 3) := by decide +kernel
theorem dX3_fade_96 : decode cX3_fade 96 = .ok (.iconst 1, 1) := by decide +kernel
theorem dX3_fade_97 : decode cX3_fade 97 = .ok (.iadd, 1) := by decide +kernel
theorem dX3_fade_98 : decode cX3_fade 98 = .ok (.putfield 83, 3) := by decide +kernel
theorem dX3_fade_101 : decode cX3_fade 101 = .ok (.aload_n 0, 1) := by decide +kernel
theorem dX3_fade_102 : decode cX3_fade 102 = .ok (.iconst 0, 1) := by decide +kernel
theorem dX3_fade_103 : decode cX3_fade 103 = .ok (.aload_n 0, 1) := by decide +kernel
theorem dX3_fade_104 : decode cX3_fade 104 = .ok (.getfield 83, 3) := by decide +kernel
theorem dX3_fade_107 : decode cX3_fade 107 = .ok (.invokevirtual 36, 3) := by decide +kernel
theorem dX3_fade_110 : decode cX3_fade 110 = .ok (.ireturn, 1) := by decide +kernel
theorem dX3_tick_0 : decode cX3_tick 0 = .ok (.iconst 0, 1) := by decide +kernel
theorem dX3_tick_1 : decode cX3_tick 1 = .ok (.istore_n 1, 1) := by decide +kernel
theorem dX3_tick_2 : decode cX3_tick 2 = .ok (.iconst 0, 1) := by decide +kernel
theorem dX3_tick_3 : decode cX3_tick 3 = .ok (.istore_n 2, 1) := by decide +kernel
theorem dX3_tick_4 : decode cX3_tick 4 = .ok (.iload_n 2, 1) := by decide +kernel
theorem dX3_tick_5 : decode cX3_tick 5 = .ok (.aload_n 0, 1) := by decide +kernel
theorem dX3_tick_6 : decode cX3_tick 6 = .ok (.getfield 83, 3) := by decide +kernel
theorem dX3_tick_9 : decode cX3_tick 9 = .ok (.if_icmp .ge 38, 3) := by decide +kernel
theorem dX3_tick_12 : decode cX3_tick 12 = .ok (.aload_n 0, 1) := by decide +kernel
theorem dX3_tick_13 : decode cX3_tick 13 = .ok (.getfield 25, 3) := by decide +kernel
theorem dX3_tick_16 : decode cX3_tick 16 = .ok (.iload_n 2, 1) := by decide +kernel
theorem dX3_tick_17 : decode cX3_tick 17 = .ok (.aaload, 1) := by decide +kernel
theorem dX3_tick_18 : decode cX3_tick 18 = .ok (.astore_n 3, 1) := by decide +kernel
theorem dX3_tick_19 : decode cX3_tick 19 = .ok (.aload_n 3, 1) := by decide +kernel
theorem dX3_tick_20 : decode cX3_tick 20 = .ok (.ifnull 21, 3) := by decide +kernel
theorem dX3_tick_23 : decode cX3_tick 23 = .ok (.aload_n 0, 1) := by decide +kernel
theorem dX3_tick_24 : decode cX3_tick 24 = .ok (.aload_n 3, 1) := by decide +kernel
theorem dX3_tick_25 : decode cX3_tick 25 = .ok (.invokevirtual 89, 3) := by decide +kernel
theorem dX3_tick_28 : decode cX3_tick 28 = .ok (.ifCond .eq 13, 3) := by decide +kernel
theorem dX3_tick_31 : decode cX3_tick 31 = .ok (.aload_n 0, 1) := by decide +kernel
theorem dX3_tick_32 : decode cX3_tick 32 = .ok (.getfield 25, 3) := by decide +kernel
theorem dX3_tick_35 : decode cX3_tick 35 = .ok (.iload_n 1, 1) := by decide +kernel
theorem dX3_tick_36 : decode cX3_tick 36 = .ok (.aload_n 3, 1) := by decide +kernel
theorem dX3_tick_37 : decode cX3_tick 37 = .ok (.aastore, 1) := by decide +kernel
theorem dX3_tick_38 : decode cX3_tick 38 = .ok (.iinc 1 1, 3) := by decide +kernel
theorem dX3_tick_41 : decode cX3_tick 41 = .ok (.iinc 2 1, 3) := by decide +kernel
theorem dX3_tick_44 : decode cX3_tick 44 = .ok (.goto (-40), 3) := by decide +kernel
theorem dX3_tick_47 : decode cX3_tick 47 = .ok (.aload_n 0, 1) := by decide +kernel
theorem dX3_tick_48 : decode cX3_tick 48 = .ok (.iload_n 1, 1) := by decide +kernel
theorem dX3_tick_49 : decode cX3_tick 49 = .ok (.putfield 83, 3) := by decide +kernel
theorem dX3_tick_52 : decode cX3_tick 52 = .ok (.aload_n 0, 1) := by decide +kernel
theorem dX3_tick_53 : decode cX3_tick 53 = .ok (.iconst 0, 1) := by decide +kernel
theorem dX3_tick_54 : decode cX3_tick 54 = .ok (.aload_n 0, 1) := by decide +kernel
theorem dX3_tick_55 : decode cX3_tick 55 = .ok (.getfield 83, 3) := by decide +kernel
theorem dX3_tick_58 : decode cX3_tick 58 = .ok (.invokevirtual 36, 3) := by decide +kernel
theorem dX3_tick_61 : decode cX3_tick 61 = .ok (.ireturn, 1) := by decide +kernel
theorem dX3_sheet_0 : decode cX3_sheet 0 = .ok (.iload_n 1, 1) := by decide +kernel
theorem dX3_sheet_1 : decode cX3_sheet 1 = .ok (.bipush 12, 2) := by decide +kernel
theorem dX3_sheet_3 : decode cX3_sheet 3 = .ok (.if_icmp .gt 9, 3) := by decide +kernel
theorem dX3_sheet_6 : decode cX3_sheet 6 = .ok (.iload_n 2, 1) := by decide +kernel
theorem dX3_sheet_7 : decode cX3_sheet 7 = .ok (.bipush 12, 2) := by decide +kernel
theorem dX3_sheet_9 : decode cX3_sheet 9 = .ok (.if_icmp .le 10, 3) := by decide +kernel
theorem dX3_sheet_12 : decode cX3_sheet 12 = .ok (.aload_n 0, 1) := by decide +kernel
theorem dX3_sheet_13 : decode cX3_sheet 13 = .ok (.iconst 5, 1) := by decide +kernel
theorem dX3_sheet_14 : decode cX3_sheet 14 = .ok (.iconst 0, 1) := by decide +kernel
theorem dX3_sheet_15 : decode cX3_sheet 15 = .ok (.invokevirtual 36, 3) := by decide +kernel
theorem dX3_sheet_18 : decode cX3_sheet 18 = .ok (.ireturn, 1) := by decide +kernel
theorem dX3_sheet_19 : decode cX3_sheet 19 = .ok (.iload_n 1, 1) := by decide +kernel
theorem dX3_sheet_20 : decode cX3_sheet 20 = .ok (.ifCond .lt 7, 3) := by decide +kernel
theorem dX3_sheet_23 : decode cX3_sheet 23 = .ok (.iload_n 2, 1) := by decide +kernel
theorem dX3_sheet_24 : decode cX3_sheet 24 = .ok (.ifCond .ge 14, 3) := by decide +kernel
theorem dX3_sheet_27 : decode cX3_sheet 27 = .ok (.aload_n 0, 1) := by decide +kernel
theorem dX3_sheet_28 : decode cX3_sheet 28 = .ok (.aload_n 0, 1) := by decide +kernel
theorem dX3_sheet_29 : decode cX3_sheet 29 = .ok (.iconst 4, 1) := by decide +kernel
theorem dX3_sheet_30 : decode cX3_sheet 30 = .ok (.invokevirtual 40, 3) := by decide +kernel
theorem dX3_sheet_33 : decode cX3_sheet 33 = .ok (.iconst 0, 1) := by decide +kernel
theorem dX3_sheet_34 : decode cX3_sheet 34 = .ok (.invokevirtual 36, 3) := by decide +kernel
theorem dX3_sheet_37 : decode cX3_sheet 37 = .ok (.ireturn, 1) := by decide +kernel
theorem dX3_sheet_38 : decode cX3_sheet 38 = .ok (.iload_n 1, 1) := by decide +kernel
theorem dX3_sheet_39 : decode cX3_sheet 39 = .ok (.anewarray 93, 3) := by decide +kernel
theorem dX3_sheet_42 : decode cX3_sheet 42 = .ok (.astore_n 3, 1) := by decide +kernel
theorem dX3_sheet_43 : decode cX3_sheet 43 = .ok (.iconst 0, 1) := by decide +kernel
theorem dX3_sheet_44 : decode cX3_sheet 44 = .ok (.istore 4, 2) := by decide +kernel
theorem dX3_sheet_46 : decode cX3_sheet 46 = .ok (.iload 4, 2) := by decide +kernel
theorem dX3_sheet_48 : decode cX3_sheet 48 = .ok (.iload_n 1, 1) := by decide +kernel
theorem dX3_sheet_49 : decode cX3_sheet 49 = .ok (.if_icmp .ge 16, 3) := by decide +kernel
theorem dX3_sheet_52 : decode cX3_sheet 52 = .ok (.aload_n 3, 1) := by decide +kernel
theorem dX3_sheet_53 : decode cX3_sheet 53 = .ok (.iload 4, 2) := by decide +kernel
theorem dX3_sheet_55 : decode cX3_sheet 55 = .ok (.iload_n 2, 1) := by decide +kernel
theorem dX3_sheet_56 : decode cX3_sheet 56 = .ok (.newarray .int, 2) := by decide +kernel
theorem dX3_sheet_58 : decode cX3_sheet 58 = .ok (.aastore, 1) := by decide +kernel
theorem dX3_sheet_59 : decode cX3_sheet 59 = .ok (.iinc 4 1, 3) := by decide +kernel
theorem dX3_sheet_62 : decode cX3_sheet 62 = .ok (.goto (-16), 3) := by decide +kernel
theorem dX3_sheet_65 : decode cX3_sheet 65 = .ok (.aload_n 0, 1) := by decide +kernel
theorem dX3_sheet_66 : decode cX3_sheet 66 = .ok (.getfield 19, 3) := by decide +kernel
theorem dX3_sheet_69 : decode cX3_sheet 69 = .ok (.aload_n 3, 1) := by decide +kernel
theorem dX3_sheet_70 : decode cX3_sheet 70 = .ok (.invokevirtual 95, 3) := by decide +kernel
theorem dX3_sheet_73 : decode cX3_sheet 73 = .ok (.aload_n 0, 1) := by decide +kernel
theorem dX3_sheet_74 : decode cX3_sheet 74 = .ok (.iconst 0, 1) := by decide +kernel
theorem dX3_sheet_75 : decode cX3_sheet 75 = .ok (.iload_n 1, 1) := by decide +kernel
theorem dX3_sheet_76 : decode cX3_sheet 76 = .ok (.iload_n 2, 1) := by decide +kernel
theorem dX3_sheet_77 : decode cX3_sheet 77 = .ok (.imul, 1) := by decide +kernel
theorem dX3_sheet_78 : decode cX3_sheet 78 = .ok (.invokevirtual 36, 3) := by decide +kernel
theorem dX3_sheet_81 : decode cX3_sheet 81 = .ok (.ireturn, 1) := by decide +kernel
theorem dX3_cell_0 : decode cX3_cell 0 = .ok (.aload_n 0, 1) := by decide +kernel
theorem dX3_cell_1 : decode cX3_cell 1 = .ok (.aload_n 0, 1) := by decide +kernel
theorem dX3_cell_2 : decode cX3_cell 2 = .ok (.getfield 19, 3) := by decide +kernel
theorem dX3_cell_5 : decode cX3_cell 5 = .ok (.iload_n 1, 1) := by decide +kernel
theorem dX3_cell_6 : decode cX3_cell 6 = .ok (.iload_n 2, 1) := by decide +kernel
theorem dX3_cell_7 : decode cX3_cell 7 = .ok (.invokevirtual 98, 3) := by decide +kernel
theorem dX3_cell_10 : decode cX3_cell 10 = .ok (.invokevirtual 40, 3) := by decide +kernel
theorem dX3_cell_13 : decode cX3_cell 13 = .ok (.istore_n 3, 1) := by decide +kernel
theorem dX3_cell_14 : decode cX3_cell 14 = .ok (.aload_n 0, 1) := by decide +kernel
theorem dX3_cell_15 : decode cX3_cell 15 = .ok (.iload_n 3, 1) := by decide +kernel
theorem dX3_cell_16 : decode cX3_cell 16 = .ok (.iload_n 3, 1) := by decide +kernel
theorem dX3_cell_17 : decode cX3_cell 17 = .ok (.ifCond .ne 15, 3) := by decide +kernel
theorem dX3_cell_20 : decode cX3_cell 20 = .ok (.aload_n 0, 1) := by decide +kernel
theorem dX3_cell_21 : decode cX3_cell 21 = .ok (.getfield 19, 3) := by decide +kernel
theorem dX3_cell_24 : decode cX3_cell 24 = .ok (.iload_n 1, 1) := by decide +kernel
theorem dX3_cell_25 : decode cX3_cell 25 = .ok (.iload_n 2, 1) := by decide +kernel
theorem dX3_cell_26 : decode cX3_cell 26 = .ok (.invokevirtual 101, 3) := by decide +kernel
theorem dX3_cell_29 : decode cX3_cell 29 = .ok (.goto 4, 3) := by decide +kernel
theorem dX3_cell_32 : decode cX3_cell 32 = .ok (.iconst 0, 1) := by decide +kernel
theorem dX3_cell_33 : decode cX3_cell 33 = .ok (.invokevirtual 36, 3) := by decide +kernel
theorem dX3_cell_36 : decode cX3_cell 36 = .ok (.ireturn, 1) := by decide +kernel
theorem dX3_tear_0 : decode cX3_tear 0 = .ok (.iconst 0, 1) := by decide +kernel
theorem dX3_tear_1 : decode cX3_tear 1 = .ok (.istore_n 3, 1) := by decide +kernel
theorem dX3_tear_2 : decode cX3_tear 2 = .ok (.aload_n 0, 1) := by decide +kernel
theorem dX3_tear_3 : decode cX3_tear 3 = .ok (.getfield 19, 3) := by decide +kernel
theorem dX3_tear_6 : decode cX3_tear 6 = .ok (.invokevirtual 104, 3) := by decide +kernel
theorem dX3_tear_9 : decode cX3_tear 9 = .ok (.ifCond .ne 8, 3) := by decide +kernel
theorem dX3_tear_12 : decode cX3_tear 12 = .ok (.iconst 2, 1) := by decide +kernel
theorem dX3_tear_13 : decode cX3_tear 13 = .ok (.istore_n 3, 1) := by decide +kernel
theorem dX3_tear_14 : decode cX3_tear 14 = .ok (.goto 32, 3) := by decide +kernel
theorem dX3_tear_17 : decode cX3_tear 17 = .ok (.iload_n 2, 1) := by decide +kernel
theorem dX3_tear_18 : decode cX3_tear 18 = .ok (.iconst (-1), 1) := by decide +kernel
theorem dX3_tear_19 : decode cX3_tear 19 = .ok (.if_icmp .eq 14, 3) := by decide +kernel
theorem dX3_tear_22 : decode cX3_tear 22 = .ok (.aload_n 0, 1) := by decide +kernel
theorem dX3_tear_23 : decode cX3_tear 23 = .ok (.getfield 19, 3) := by decide +kernel
theorem dX3_tear_26 : decode cX3_tear 26 = .ok (.iload_n 2, 1) := by decide +kernel
theorem dX3_tear_27 : decode cX3_tear 27 = .ok (.invokevirtual 108, 3) := by decide +kernel
theorem dX3_tear_30 : decode cX3_tear 30 = .ok (.ifCond .eq 14, 3) := by decide +kernel
theorem dX3_tear_33 : decode cX3_tear 33 = .ok (.aload_n 0, 1) := by decide +kernel
theorem dX3_tear_34 : decode cX3_tear 34 = .ok (.getfield 19, 3) := by decide +kernel
theorem dX3_tear_37 : decode cX3_tear 37 = .ok (.iload_n 1, 1) := by decide +kernel
theorem dX3_tear_38 : decode cX3_tear 38 = .ok (.invokevirtual 108, 3) := by decide +kernel
theorem dX3_tear_41 : decode cX3_tear 41 = .ok (.ifCond .ne 5, 3) := by decide +kernel
theorem dX3_tear_44 : decode cX3_tear 44 = .ok (.iconst 3, 1) := by decide +kernel
theorem dX3_tear_45 : decode cX3_tear 45 = .ok (.istore_n 3, 1) := by decide +kernel
theorem dX3_tear_46 : decode cX3_tear 46 = .ok (.iload_n 3, 1) := by decide +kernel
theorem dX3_tear_47 : decode cX3_tear 47 = .ok (.ifCond .eq 14, 3) := by decide +kernel
theorem dX3_tear_50 : decode cX3_tear 50 = .ok (.aload_n 0, 1) := by decide +kernel
theorem dX3_tear_51 : decode cX3_tear 51 = .ok (.aload_n 0, 1) := by decide +kernel
theorem dX3_tear_52 : decode cX3_tear 52 = .ok (.iload_n 3, 1) := by decide +kernel
theorem dX3_tear_53 : decode cX3_tear 53 = .ok (.invokevirtual 40, 3) := by decide +kernel
theorem dX3_tear_56 : decode cX3_tear 56 = .ok (.iconst 0, 1) := by decide +kernel
theorem dX3_tear_57 : decode cX3_tear 57 = .ok (.invokevirtual 36, 3) := by decide +kernel
theorem dX3_tear_60 : decode cX3_tear 60 = .ok (.ireturn, 1) := by decide +kernel
theorem dX3_tear_61 : decode cX3_tear 61 = .ok (.iload_n 2, 1) := by decide +kernel
theorem dX3_tear_62 : decode cX3_tear 62 = .ok (.iconst (-1), 1) := by decide +kernel
theorem dX3_tear_63 : decode cX3_tear 63 = .ok (.if_icmp .ne 7, 3) := by decide +kernel
theorem dX3_tear_66 : decode cX3_tear 66 = .ok (.aconst_null, 1) := by decide +kernel
theorem dX3_tear_67 : decode cX3_tear 67 = .ok (.goto 11, 3) := by decide +kernel
theorem dX3_tear_70 : decode cX3_tear 70 = .ok (.aload_n 0, 1) := by decide +kernel
theorem dX3_tear_71 : decode cX3_tear 71 = .ok (.getfield 19, 3) := by decide +kernel
theorem dX3_tear_74 : decode cX3_tear 74 = .ok (.iload_n 2, 1) := by decide +kernel
theorem dX3_tear_75 : decode cX3_tear 75 = .ok (.invokevirtual 111, 3) := by decide +kernel
theorem dX3_tear_78 : decode cX3_tear 78 = .ok (.astore 4, 2) := by decide +kernel
theorem dX3_tear_80 : decode cX3_tear 80 = .ok (.aload_n 0, 1) := by decide +kernel
theorem dX3_tear_81 : decode cX3_tear 81 = .ok (.getfield 19, 3) := by decide +kernel
theorem dX3_tear_84 : decode cX3_tear 84 = .ok (.iload_n 1, 1) := by decide +kernel
theorem dX3_tear_85 : decode cX3_tear 85 = .ok (.aload 4, 2) := by decide +kernel
theorem dX3_tear_87 : decode cX3_tear 87 = .ok (.invokevirtual 115, 3) := by decide +kernel
theorem dX3_tear_90 : decode cX3_tear 90 = .ok (.aload_n 0, 1) := by decide +kernel
theorem dX3_tear_91 : decode cX3_tear 91 = .ok (.iconst 0, 1) := by decide +kernel
theorem dX3_tear_92 : decode cX3_tear 92 = .ok (.aload 4, 2) := by decide +kernel
theorem dX3_tear_94 : decode cX3_tear 94 = .ok (.ifnull 7, 3) := by decide +kernel
theorem dX3_tear_97 : decode cX3_tear 97 = .ok (.iconst 1, 1) := by decide +kernel
theorem dX3_tear_98 : decode cX3_tear 98 = .ok (.goto 4, 3) := by decide +kernel
theorem dX3_tear_101 : decode cX3_tear 101 = .ok (.iconst 0, 1) := by decide +kernel
theorem dX3_tear_102 : decode cX3_tear 102 = .ok (.invokevirtual 36, 3) := by decide +kernel
theorem dX3_tear_105 : decode cX3_tear 105 = .ok (.ireturn, 1) := by decide +kernel
theorem dX3_draw_0 : decode cX3_draw 0 = .ok (.iload_n 1, 1) := by decide +kernel
theorem dX3_draw_1 : decode cX3_draw 1 = .ok (.invokestatic 29, 3) := by decide +kernel
theorem dX3_draw_4 : decode cX3_draw 4 = .ok (.ifCond .ne 10, 3) := by decide +kernel
theorem dX3_draw_7 : decode cX3_draw 7 = .ok (.aload_n 0, 1) := by decide +kernel
theorem dX3_draw_8 : decode cX3_draw 8 = .ok (.iconst 1, 1) := by decide +kernel
theorem dX3_draw_9 : decode cX3_draw 9 = .ok (.iconst 0, 1) := by decide +kernel
theorem dX3_draw_10 : decode cX3_draw 10 = .ok (.invokevirtual 36, 3) := by decide +kernel
theorem dX3_draw_13 : decode cX3_draw 13 = .ok (.ireturn, 1) := by decide +kernel
theorem dX3_draw_14 : decode cX3_draw 14 = .ok (.iconst 0, 1) := by decide +kernel
theorem dX3_draw_15 : decode cX3_draw 15 = .ok (.istore_n 3, 1) := by decide +kernel
theorem dX3_draw_16 : decode cX3_draw 16 = .ok (.iload_n 3, 1) := by decide +kernel
theorem dX3_draw_17 : decode cX3_draw 17 = .ok (.bipush 24, 2) := by decide +kernel
theorem dX3_draw_19 : decode cX3_draw 19 = .ok (.if_icmp .gt 31, 3) := by decide +kernel
theorem dX3_draw_22 : decode cX3_draw 22 = .ok (.aload_n 0, 1) := by decide +kernel
theorem dX3_draw_23 : decode cX3_draw 23 = .ok (.iload_n 1, 1) := by decide +kernel
theorem dX3_draw_24 : decode cX3_draw 24 = .ok (.iload_n 2, 1) := by decide +kernel
theorem dX3_draw_25 : decode cX3_draw 25 = .ok (.iload_n 3, 1) := by decide +kernel
theorem dX3_draw_26 : decode cX3_draw 26 = .ok (.invokevirtual 119, 3) := by decide +kernel
theorem dX3_draw_29 : decode cX3_draw 29 = .ok (.istore 4, 2) := by decide +kernel
theorem dX3_draw_31 : decode cX3_draw 31 = .ok (.iload 4, 2) := by decide +kernel
theorem dX3_draw_33 : decode cX3_draw 33 = .ok (.ifCond .eq 11, 3) := by decide +kernel
theorem dX3_draw_36 : decode cX3_draw 36 = .ok (.aload_n 0, 1) := by decide +kernel
theorem dX3_draw_37 : decode cX3_draw 37 = .ok (.iload 4, 2) := by decide +kernel
theorem dX3_draw_39 : decode cX3_draw 39 = .ok (.iload_n 3, 1) := by decide +kernel
theorem dX3_draw_40 : decode cX3_draw 40 = .ok (.invokevirtual 36, 3) := by decide +kernel
theorem dX3_draw_43 : decode cX3_draw 43 = .ok (.ireturn, 1) := by decide +kernel
theorem dX3_draw_44 : decode cX3_draw 44 = .ok (.iinc 3 1, 3) := by decide +kernel
theorem dX3_draw_47 : decode cX3_draw 47 = .ok (.goto (-31), 3) := by decide +kernel
theorem dX3_draw_50 : decode cX3_draw 50 = .ok (.aload_n 0, 1) := by decide +kernel
theorem dX3_draw_51 : decode cX3_draw 51 = .ok (.iconst 0, 1) := by decide +kernel
theorem dX3_draw_52 : decode cX3_draw 52 = .ok (.bipush 24, 2) := by decide +kernel
theorem dX3_draw_54 : decode cX3_draw 54 = .ok (.invokevirtual 36, 3) := by decide +kernel
theorem dX3_draw_57 : decode cX3_draw 57 = .ok (.ireturn, 1) := by decide +kernel
theorem dX3_status_0 : decode cX3_status 0 = .ok (.aload_n 0, 1) := by decide +kernel
theorem dX3_status_1 : decode cX3_status 1 = .ok (.getfield 122, 3) := by decide +kernel
theorem dX3_status_4 : decode cX3_status 4 = .ok (.ireturn, 1) := by decide +kernel
theorem dX3_count_0 : decode cX3_count 0 = .ok (.iload_n 1, 1) := by decide +kernel
theorem dX3_count_1 : decode cX3_count 1 = .ok (.tableswitch 126 0 10 #[59, 64, 69, 74, 79, 84, 89, 94, 102, 110, 118], 59) := by decide +kernel
theorem dX3_count_60 : decode cX3_count 60 = .ok (.aload_n 0, 1) := by decide +kernel
theorem dX3_count_61 : decode cX3_count 61 = .ok (.getfield 125, 3) := by decide +kernel
theorem dX3_count_64 : decode cX3_count 64 = .ok (.ireturn, 1) := by decide +kernel
theorem dX3_count_65 : decode cX3_count 65 = .ok (.aload_n 0, 1) := by decide +kernel
theorem dX3_count_66 : decode cX3_count 66 = .ok (.getfield 128, 3) := by decide +kernel
theorem dX3_count_69 : decode cX3_count 69 = .ok (.ireturn, 1) := by decide +kernel
theorem dX3_count_70 : decode cX3_count 70 = .ok (.aload_n 0, 1) := by decide +kernel
theorem dX3_count_71 : decode cX3_count 71 = .ok (.getfield 131, 3) := by decide +kernel
theorem dX3_count_74 : decode cX3_count 74 = .ok (.ireturn, 1) := by decide +kernel
theorem dX3_count_75 : decode cX3_count 75 = .ok (.aload_n 0, 1) := by decide +kernel
theorem dX3_count_76 : decode cX3_count 76 = .ok (.getfield 83, 3) := by decide +kernel
theorem dX3_count_79 : decode cX3_count 79 = .ok (.ireturn, 1) := by decide +kernel
theorem dX3_count_80 : decode cX3_count 80 = .ok (.aload_n 0, 1) := by decide +kernel
theorem dX3_count_81 : decode cX3_count 81 = .ok (.getfield 134, 3) := by decide +kernel
theorem dX3_count_84 : decode cX3_count 84 = .ok (.ireturn, 1) := by decide +kernel
theorem dX3_count_85 : decode cX3_count 85 = .ok (.aload_n 0, 1) := by decide +kernel
theorem dX3_count_86 : decode cX3_count 86 = .ok (.getfield 137, 3) := by decide +kernel
theorem dX3_count_89 : decode cX3_count 89 = .ok (.ireturn, 1) := by decide +kernel
theorem dX3_count_90 : decode cX3_count 90 = .ok (.aload_n 0, 1) := by decide +kernel
theorem dX3_count_91 : decode cX3_count 91 = .ok (.getfield 140, 3) := by decide +kernel
theorem dX3_count_94 : decode cX3_count 94 = .ok (.ireturn, 1) := by decide +kernel
theorem dX3_count_95 : decode cX3_count 95 = .ok (.aload_n 0, 1) := by decide +kernel
theorem dX3_count_96 : decode cX3_count 96 = .ok (.getfield 10, 3) := by decide +kernel
theorem dX3_count_99 : decode cX3_count 99 = .ok (.invokevirtual 143, 3) := by decide +kernel
theorem dX3_count_102 : decode cX3_count 102 = .ok (.ireturn, 1) := by decide +kernel
theorem dX3_count_103 : decode cX3_count 103 = .ok (.aload_n 0, 1) := by decide +kernel
theorem dX3_count_104 : decode cX3_count 104 = .ok (.getfield 10, 3) := by decide +kernel
theorem dX3_count_107 : decode cX3_count 107 = .ok (.invokevirtual 147, 3) := by decide +kernel
theorem dX3_count_110 : decode cX3_count 110 = .ok (.ireturn, 1) := by decide +kernel
theorem dX3_count_111 : decode cX3_count 111 = .ok (.aload_n 0, 1) := by decide +kernel
theorem dX3_count_112 : decode cX3_count 112 = .ok (.getfield 19, 3) := by decide +kernel
theorem dX3_count_115 : decode cX3_count 115 = .ok (.invokevirtual 150, 3) := by decide +kernel
theorem dX3_count_118 : decode cX3_count 118 = .ok (.ireturn, 1) := by decide +kernel
theorem dX3_count_119 : decode cX3_count 119 = .ok (.aload_n 0, 1) := by decide +kernel
theorem dX3_count_120 : decode cX3_count 120 = .ok (.getfield 19, 3) := by decide +kernel
theorem dX3_count_123 : decode cX3_count 123 = .ok (.invokevirtual 153, 3) := by decide +kernel
theorem dX3_count_126 : decode cX3_count 126 = .ok (.ireturn, 1) := by decide +kernel
theorem dX3_count_127 : decode cX3_count 127 = .ok (.iconst 0, 1) := by decide +kernel
theorem dX3_count_128 : decode cX3_count 128 = .ok (.ireturn, 1) := by decide +kernel
theorem dX3_leave_0 : decode cX3_leave 0 = .ok (.aload_n 0, 1) := by decide +kernel
theorem dX3_leave_1 : decode cX3_leave 1 = .ok (.iload_n 1, 1) := by decide +kernel
theorem dX3_leave_2 : decode cX3_leave 2 = .ok (.putfield 122, 3) := by decide +kernel
theorem dX3_leave_5 : decode cX3_leave 5 = .ok (.iload_n 2, 1) := by decide +kernel
theorem dX3_leave_6 : decode cX3_leave 6 = .ok (.ireturn, 1) := by decide +kernel
theorem dX3_leaveFound_0 : decode cX3_leaveFound 0 = .ok (.aload_n 0, 1) := by decide +kernel
theorem dX3_leaveFound_1 : decode cX3_leaveFound 1 = .ok (.iload_n 1, 1) := by decide +kernel
theorem dX3_leaveFound_2 : decode cX3_leaveFound 2 = .ok (.iload_n 1, 1) := by decide +kernel
theorem dX3_leaveFound_3 : decode cX3_leaveFound 3 = .ok (.ifCond .ne 10, 3) := by decide +kernel
theorem dX3_leaveFound_6 : decode cX3_leaveFound 6 = .ok (.aload_n 0, 1) := by decide +kernel
theorem dX3_leaveFound_7 : decode cX3_leaveFound 7 = .ok (.getfield 66, 3) := by decide +kernel
theorem dX3_leaveFound_10 : decode cX3_leaveFound 10 = .ok (.goto 4, 3) := by decide +kernel
theorem dX3_leaveFound_13 : decode cX3_leaveFound 13 = .ok (.iconst 0, 1) := by decide +kernel
theorem dX3_leaveFound_14 : decode cX3_leaveFound 14 = .ok (.invokevirtual 36, 3) := by decide +kernel
theorem dX3_leaveFound_17 : decode cX3_leaveFound 17 = .ok (.ireturn, 1) := by decide +kernel
theorem dX3_counted_0 : decode cX3_counted 0 = .ok (.iload_n 1, 1) := by decide +kernel
theorem dX3_counted_1 : decode cX3_counted 1 = .ok (.iconst 2, 1) := by decide +kernel
theorem dX3_counted_2 : decode cX3_counted 2 = .ok (.if_icmp .ne 16, 3) := by decide +kernel
theorem dX3_counted_5 : decode cX3_counted 5 = .ok (.aload_n 0, 1) := by decide +kernel
theorem dX3_counted_6 : decode cX3_counted 6 = .ok (.dup, 1) := by decide +kernel
theorem dX3_counted_7 : decode cX3_counted 7 = .ok (.getfield 125, 3) := by decide +kernel
theorem dX3_counted_10 : decode cX3_counted 10 = .ok (.iconst 1, 1) := by decide +kernel
theorem dX3_counted_11 : decode cX3_counted 11 = .ok (.iadd, 1) := by decide +kernel
theorem dX3_counted_12 : decode cX3_counted 12 = .ok (.putfield 125, 3) := by decide +kernel
theorem dX3_counted_15 : decode cX3_counted 15 = .ok (.goto 36, 3) := by decide +kernel
theorem dX3_counted_18 : decode cX3_counted 18 = .ok (.iload_n 1, 1) := by decide +kernel
theorem dX3_counted_19 : decode cX3_counted 19 = .ok (.iconst 3, 1) := by decide +kernel
theorem dX3_counted_20 : decode cX3_counted 20 = .ok (.if_icmp .ne 16, 3) := by decide +kernel
theorem dX3_counted_23 : decode cX3_counted 23 = .ok (.aload_n 0, 1) := by decide +kernel
theorem dX3_counted_24 : decode cX3_counted 24 = .ok (.dup, 1) := by decide +kernel
theorem dX3_counted_25 : decode cX3_counted 25 = .ok (.getfield 128, 3) := by decide +kernel
theorem dX3_counted_28 : decode cX3_counted 28 = .ok (.iconst 1, 1) := by decide +kernel
theorem dX3_counted_29 : decode cX3_counted 29 = .ok (.iadd, 1) := by decide +kernel
theorem dX3_counted_30 : decode cX3_counted 30 = .ok (.putfield 128, 3) := by decide +kernel
theorem dX3_counted_33 : decode cX3_counted 33 = .ok (.goto 18, 3) := by decide +kernel
theorem dX3_counted_36 : decode cX3_counted 36 = .ok (.iload_n 1, 1) := by decide +kernel
theorem dX3_counted_37 : decode cX3_counted 37 = .ok (.iconst 4, 1) := by decide +kernel
theorem dX3_counted_38 : decode cX3_counted 38 = .ok (.if_icmp .ne 13, 3) := by decide +kernel
theorem dX3_counted_41 : decode cX3_counted 41 = .ok (.aload_n 0, 1) := by decide +kernel
theorem dX3_counted_42 : decode cX3_counted 42 = .ok (.dup, 1) := by decide +kernel
theorem dX3_counted_43 : decode cX3_counted 43 = .ok (.getfield 131, 3) := by decide +kernel
theorem dX3_counted_46 : decode cX3_counted 46 = .ok (.iconst 1, 1) := by decide +kernel
theorem dX3_counted_47 : decode cX3_counted 47 = .ok (.iadd, 1) := by decide +kernel
theorem dX3_counted_48 : decode cX3_counted 48 = .ok (.putfield 131, 3) := by decide +kernel
theorem dX3_counted_51 : decode cX3_counted 51 = .ok (.iload_n 1, 1) := by decide +kernel
theorem dX3_counted_52 : decode cX3_counted 52 = .ok (.ireturn, 1) := by decide +kernel
theorem dX3_look_0 : decode cX3_look 0 = .ok (.aload_n 0, 1) := by decide +kernel
theorem dX3_look_1 : decode cX3_look 1 = .ok (.getfield 10, 3) := by decide +kernel
theorem dX3_look_4 : decode cX3_look 4 = .ok (.iload_n 1, 1) := by decide +kernel
theorem dX3_look_5 : decode cX3_look 5 = .ok (.iload_n 2, 1) := by decide +kernel
theorem dX3_look_6 : decode cX3_look 6 = .ok (.iload_n 3, 1) := by decide +kernel
theorem dX3_look_7 : decode cX3_look 7 = .ok (.invokevirtual 156, 3) := by decide +kernel
theorem dX3_look_10 : decode cX3_look 10 = .ok (.istore 4, 2) := by decide +kernel
theorem dX3_look_12 : decode cX3_look 12 = .ok (.iload 4, 2) := by decide +kernel
theorem dX3_look_14 : decode cX3_look 14 = .ok (.ifCond .ne 17, 3) := by decide +kernel
theorem dX3_look_17 : decode cX3_look 17 = .ok (.aload_n 0, 1) := by decide +kernel
theorem dX3_look_18 : decode cX3_look 18 = .ok (.aload_n 0, 1) := by decide +kernel
theorem dX3_look_19 : decode cX3_look 19 = .ok (.getfield 10, 3) := by decide +kernel
theorem dX3_look_22 : decode cX3_look 22 = .ok (.iload_n 1, 1) := by decide +kernel
theorem dX3_look_23 : decode cX3_look 23 = .ok (.iload_n 2, 1) := by decide +kernel
theorem dX3_look_24 : decode cX3_look 24 = .ok (.iload_n 3, 1) := by decide +kernel
theorem dX3_look_25 : decode cX3_look 25 = .ok (.invokevirtual 158, 3) := by decide +kernel
theorem dX3_look_28 : decode cX3_look 28 = .ok (.putfield 66, 3) := by decide +kernel
theorem dX3_look_31 : decode cX3_look 31 = .ok (.aload_n 0, 1) := by decide +kernel
theorem dX3_look_32 : decode cX3_look 32 = .ok (.iload 4, 2) := by decide +kernel
theorem dX3_look_34 : decode cX3_look 34 = .ok (.invokevirtual 40, 3) := by decide +kernel
theorem dX3_look_37 : decode cX3_look 37 = .ok (.ireturn, 1) := by decide +kernel
theorem dX3_put_0 : decode cX3_put 0 = .ok (.aload_n 0, 1) := by decide +kernel
theorem dX3_put_1 : decode cX3_put 1 = .ok (.getfield 10, 3) := by decide +kernel
theorem dX3_put_4 : decode cX3_put 4 = .ok (.iload_n 1, 1) := by decide +kernel
theorem dX3_put_5 : decode cX3_put 5 = .ok (.iload_n 2, 1) := by decide +kernel
theorem dX3_put_6 : decode cX3_put 6 = .ok (.iload_n 3, 1) := by decide +kernel
theorem dX3_put_7 : decode cX3_put 7 = .ok (.invokevirtual 156, 3) := by decide +kernel
theorem dX3_put_10 : decode cX3_put 10 = .ok (.istore 5, 2) := by decide +kernel
theorem dX3_put_12 : decode cX3_put 12 = .ok (.iload 5, 2) := by decide +kernel
theorem dX3_put_14 : decode cX3_put 14 = .ok (.ifCond .ne 19, 3) := by decide +kernel
theorem dX3_put_17 : decode cX3_put 17 = .ok (.aload_n 0, 1) := by decide +kernel
theorem dX3_put_18 : decode cX3_put 18 = .ok (.getfield 10, 3) := by decide +kernel
theorem dX3_put_21 : decode cX3_put 21 = .ok (.iload_n 1, 1) := by decide +kernel
theorem dX3_put_22 : decode cX3_put 22 = .ok (.iload_n 2, 1) := by decide +kernel
theorem dX3_put_23 : decode cX3_put 23 = .ok (.iload_n 3, 1) := by decide +kernel
theorem dX3_put_24 : decode cX3_put 24 = .ok (.iload_n 2, 1) := by decide +kernel
theorem dX3_put_25 : decode cX3_put 25 = .ok (.iload 4, 2) := by decide +kernel
theorem dX3_put_27 : decode cX3_put 27 = .ok (.invokestatic 160, 3) := by decide +kernel
theorem dX3_put_30 : decode cX3_put 30 = .ok (.invokevirtual 163, 3) := by decide +kernel
theorem dX3_put_33 : decode cX3_put 33 = .ok (.aload_n 0, 1) := by decide +kernel
theorem dX3_put_34 : decode cX3_put 34 = .ok (.iload 5, 2) := by decide +kernel
theorem dX3_put_36 : decode cX3_put 36 = .ok (.invokevirtual 40, 3) := by decide +kernel
theorem dX3_put_39 : decode cX3_put 39 = .ok (.ireturn, 1) := by decide +kernel
theorem dX3_measure_0 : decode cX3_measure 0 = .ok (.aload_n 0, 1) := by decide +kernel
theorem dX3_measure_1 : decode cX3_measure 1 = .ok (.getfield 10, 3) := by decide +kernel
theorem dX3_measure_4 : decode cX3_measure 4 = .ok (.iload_n 1, 1) := by decide +kernel
theorem dX3_measure_5 : decode cX3_measure 5 = .ok (.iload_n 2, 1) := by decide +kernel
theorem dX3_measure_6 : decode cX3_measure 6 = .ok (.invokevirtual 48, 3) := by decide +kernel
theorem dX3_measure_9 : decode cX3_measure 9 = .ok (.astore_n 3, 1) := by decide +kernel
theorem dX3_measure_10 : decode cX3_measure 10 = .ok (.aload_n 3, 1) := by decide +kernel
theorem dX3_measure_11 : decode cX3_measure 11 = .ok (.ifnonnull 9, 3) := by decide +kernel
theorem dX3_measure_14 : decode cX3_measure 14 = .ok (.aload_n 0, 1) := by decide +kernel
theorem dX3_measure_15 : decode cX3_measure 15 = .ok (.iconst 2, 1) := by decide +kernel
theorem dX3_measure_16 : decode cX3_measure 16 = .ok (.invokevirtual 40, 3) := by decide +kernel
theorem dX3_measure_19 : decode cX3_measure 19 = .ok (.ireturn, 1) := by decide +kernel
theorem dX3_measure_20 : decode cX3_measure 20 = .ok (.aload_n 0, 1) := by decide +kernel
theorem dX3_measure_21 : decode cX3_measure 21 = .ok (.aload_n 3, 1) := by decide +kernel
theorem dX3_measure_22 : decode cX3_measure 22 = .ok (.arraylength, 1) := by decide +kernel
theorem dX3_measure_23 : decode cX3_measure 23 = .ok (.putfield 66, 3) := by decide +kernel
theorem dX3_measure_26 : decode cX3_measure 26 = .ok (.iconst 0, 1) := by decide +kernel
theorem dX3_measure_27 : decode cX3_measure 27 = .ok (.ireturn, 1) := by decide +kernel
theorem dX3_findShown_0 : decode cX3_findShown 0 = .ok (.aload_n 0, 1) := by decide +kernel
theorem dX3_findShown_1 : decode cX3_findShown 1 = .ok (.iload_n 1, 1) := by decide +kernel
theorem dX3_findShown_2 : decode cX3_findShown 2 = .ok (.iconst 3, 1) := by decide +kernel
theorem dX3_findShown_3 : decode cX3_findShown 3 = .ok (.iload_n 2, 1) := by decide +kernel
theorem dX3_findShown_4 : decode cX3_findShown 4 = .ok (.invokevirtual 58, 3) := by decide +kernel
theorem dX3_findShown_7 : decode cX3_findShown 7 = .ok (.istore_n 3, 1) := by decide +kernel
theorem dX3_findShown_8 : decode cX3_findShown 8 = .ok (.iload_n 3, 1) := by decide +kernel
theorem dX3_findShown_9 : decode cX3_findShown 9 = .ok (.ifCond .ne 10, 3) := by decide +kernel
theorem dX3_findShown_12 : decode cX3_findShown 12 = .ok (.aload_n 0, 1) := by decide +kernel
theorem dX3_findShown_13 : decode cX3_findShown 13 = .ok (.getfield 66, 3) := by decide +kernel
theorem dX3_findShown_16 : decode cX3_findShown 16 = .ok (.ifCond .ne 5, 3) := by decide +kernel
theorem dX3_findShown_19 : decode cX3_findShown 19 = .ok (.iload_n 3, 1) := by decide +kernel
theorem dX3_findShown_20 : decode cX3_findShown 20 = .ok (.ireturn, 1) := by decide +kernel
theorem dX3_findShown_21 : decode cX3_findShown 21 = .ok (.aload_n 0, 1) := by decide +kernel
theorem dX3_findShown_22 : decode cX3_findShown 22 = .ok (.iload_n 1, 1) := by decide +kernel
theorem dX3_findShown_23 : decode cX3_findShown 23 = .ok (.iconst 2, 1) := by decide +kernel
theorem dX3_findShown_24 : decode cX3_findShown 24 = .ok (.iload_n 2, 1) := by decide +kernel
theorem dX3_findShown_25 : decode cX3_findShown 25 = .ok (.invokevirtual 58, 3) := by decide +kernel
theorem dX3_findShown_28 : decode cX3_findShown 28 = .ok (.istore_n 3, 1) := by decide +kernel
theorem dX3_findShown_29 : decode cX3_findShown 29 = .ok (.iload_n 3, 1) := by decide +kernel
theorem dX3_findShown_30 : decode cX3_findShown 30 = .ok (.ifCond .eq 5, 3) := by decide +kernel
theorem dX3_findShown_33 : decode cX3_findShown 33 = .ok (.iload_n 3, 1) := by decide +kernel
theorem dX3_findShown_34 : decode cX3_findShown 34 = .ok (.ireturn, 1) := by decide +kernel
theorem dX3_findShown_35 : decode cX3_findShown 35 = .ok (.aload_n 0, 1) := by decide +kernel
theorem dX3_findShown_36 : decode cX3_findShown 36 = .ok (.getfield 66, 3) := by decide +kernel
theorem dX3_findShown_39 : decode cX3_findShown 39 = .ok (.istore 4, 2) := by decide +kernel
theorem dX3_findShown_41 : decode cX3_findShown 41 = .ok (.aload_n 0, 1) := by decide +kernel
theorem dX3_findShown_42 : decode cX3_findShown 42 = .ok (.iload_n 1, 1) := by decide +kernel
theorem dX3_findShown_43 : decode cX3_findShown 43 = .ok (.iconst 1, 1) := by decide +kernel
theorem dX3_findShown_44 : decode cX3_findShown 44 = .ok (.iload_n 2, 1) := by decide +kernel
theorem dX3_findShown_45 : decode cX3_findShown 45 = .ok (.invokevirtual 58, 3) := by decide +kernel
theorem dX3_findShown_48 : decode cX3_findShown 48 = .ok (.istore_n 3, 1) := by decide +kernel
theorem dX3_findShown_49 : decode cX3_findShown 49 = .ok (.iload_n 3, 1) := by decide +kernel
theorem dX3_findShown_50 : decode cX3_findShown 50 = .ok (.ifCond .eq 5, 3) := by decide +kernel
theorem dX3_findShown_53 : decode cX3_findShown 53 = .ok (.iload_n 3, 1) := by decide +kernel
theorem dX3_findShown_54 : decode cX3_findShown 54 = .ok (.ireturn, 1) := by decide +kernel
theorem dX3_findShown_55 : decode cX3_findShown 55 = .ok (.iload 4, 2) := by decide +kernel
theorem dX3_findShown_57 : decode cX3_findShown 57 = .ok (.aload_n 0, 1) := by decide +kernel
theorem dX3_findShown_58 : decode cX3_findShown 58 = .ok (.getfield 66, 3) := by decide +kernel
theorem dX3_findShown_61 : decode cX3_findShown 61 = .ok (.iadd, 1) := by decide +kernel
theorem dX3_findShown_62 : decode cX3_findShown 62 = .ok (.istore 5, 2) := by decide +kernel
theorem dX3_findShown_64 : decode cX3_findShown 64 = .ok (.aload_n 0, 1) := by decide +kernel
theorem dX3_findShown_65 : decode cX3_findShown 65 = .ok (.iload_n 1, 1) := by decide +kernel
theorem dX3_findShown_66 : decode cX3_findShown 66 = .ok (.iconst 0, 1) := by decide +kernel
theorem dX3_findShown_67 : decode cX3_findShown 67 = .ok (.iload_n 2, 1) := by decide +kernel
theorem dX3_findShown_68 : decode cX3_findShown 68 = .ok (.invokevirtual 58, 3) := by decide +kernel
theorem dX3_findShown_71 : decode cX3_findShown 71 = .ok (.istore_n 3, 1) := by decide +kernel
theorem dX3_findShown_72 : decode cX3_findShown 72 = .ok (.iload_n 3, 1) := by decide +kernel
theorem dX3_findShown_73 : decode cX3_findShown 73 = .ok (.ifCond .eq 5, 3) := by decide +kernel
theorem dX3_findShown_76 : decode cX3_findShown 76 = .ok (.iload_n 3, 1) := by decide +kernel
theorem dX3_findShown_77 : decode cX3_findShown 77 = .ok (.ireturn, 1) := by decide +kernel
theorem dX3_findShown_78 : decode cX3_findShown 78 = .ok (.aload_n 0, 1) := by decide +kernel
theorem dX3_findShown_79 : decode cX3_findShown 79 = .ok (.aload_n 0, 1) := by decide +kernel
theorem dX3_findShown_80 : decode cX3_findShown 80 = .ok (.getfield 66, 3) := by decide +kernel
theorem dX3_findShown_83 : decode cX3_findShown 83 = .ok (.iconst 2, 1) := by decide +kernel
theorem dX3_findShown_84 : decode cX3_findShown 84 = .ok (.irem, 1) := by decide +kernel
theorem dX3_findShown_85 : decode cX3_findShown 85 = .ok (.ifCond .ne 8, 3) := by decide +kernel
theorem dX3_findShown_88 : decode cX3_findShown 88 = .ok (.iload 5, 2) := by decide +kernel
theorem dX3_findShown_90 : decode cX3_findShown 90 = .ok (.goto 6, 3) := by decide +kernel
theorem dX3_findShown_93 : decode cX3_findShown 93 = .ok (.iload 5, 2) := by decide +kernel
theorem dX3_findShown_95 : decode cX3_findShown 95 = .ok (.ineg, 1) := by decide +kernel
theorem dX3_findShown_96 : decode cX3_findShown 96 = .ok (.putfield 66, 3) := by decide +kernel
theorem dX3_findShown_99 : decode cX3_findShown 99 = .ok (.iconst 0, 1) := by decide +kernel
theorem dX3_findShown_100 : decode cX3_findShown 100 = .ok (.ireturn, 1) := by decide +kernel
theorem dX3_drawLamp_0 : decode cX3_drawLamp 0 = .ok (.aload_n 0, 1) := by decide +kernel
theorem dX3_drawLamp_1 : decode cX3_drawLamp 1 = .ok (.iload_n 1, 1) := by decide +kernel
theorem dX3_drawLamp_2 : decode cX3_drawLamp 2 = .ok (.iload_n 3, 1) := by decide +kernel
theorem dX3_drawLamp_3 : decode cX3_drawLamp 3 = .ok (.invokevirtual 76, 3) := by decide +kernel
theorem dX3_drawLamp_6 : decode cX3_drawLamp 6 = .ok (.istore 4, 2) := by decide +kernel
theorem dX3_drawLamp_8 : decode cX3_drawLamp 8 = .ok (.iload 4, 2) := by decide +kernel
theorem dX3_drawLamp_10 : decode cX3_drawLamp 10 = .ok (.ifCond .eq 6, 3) := by decide +kernel
theorem dX3_drawLamp_13 : decode cX3_drawLamp 13 = .ok (.iload 4, 2) := by decide +kernel
theorem dX3_drawLamp_15 : decode cX3_drawLamp 15 = .ok (.ireturn, 1) := by decide +kernel
theorem dX3_drawLamp_16 : decode cX3_drawLamp 16 = .ok (.aload_n 0, 1) := by decide +kernel
theorem dX3_drawLamp_17 : decode cX3_drawLamp 17 = .ok (.getfield 19, 3) := by decide +kernel
theorem dX3_drawLamp_20 : decode cX3_drawLamp 20 = .ok (.iload_n 2, 1) := by decide +kernel
theorem dX3_drawLamp_21 : decode cX3_drawLamp 21 = .ok (.iload_n 3, 1) := by decide +kernel
theorem dX3_drawLamp_22 : decode cX3_drawLamp 22 = .ok (.invokevirtual 98, 3) := by decide +kernel
theorem dX3_drawLamp_25 : decode cX3_drawLamp 25 = .ok (.istore 4, 2) := by decide +kernel
theorem dX3_drawLamp_27 : decode cX3_drawLamp 27 = .ok (.iload 4, 2) := by decide +kernel
theorem dX3_drawLamp_29 : decode cX3_drawLamp 29 = .ok (.ifCond .ne 16, 3) := by decide +kernel
theorem dX3_drawLamp_32 : decode cX3_drawLamp 32 = .ok (.aload_n 0, 1) := by decide +kernel
theorem dX3_drawLamp_33 : decode cX3_drawLamp 33 = .ok (.getfield 19, 3) := by decide +kernel
theorem dX3_drawLamp_36 : decode cX3_drawLamp 36 = .ok (.iload_n 2, 1) := by decide +kernel
theorem dX3_drawLamp_37 : decode cX3_drawLamp 37 = .ok (.iload_n 3, 1) := by decide +kernel
theorem dX3_drawLamp_38 : decode cX3_drawLamp 38 = .ok (.aload_n 0, 1) := by decide +kernel
theorem dX3_drawLamp_39 : decode cX3_drawLamp 39 = .ok (.getfield 66, 3) := by decide +kernel
theorem dX3_drawLamp_42 : decode cX3_drawLamp 42 = .ok (.invokevirtual 166, 3) := by decide +kernel
theorem dX3_drawLamp_45 : decode cX3_drawLamp 45 = .ok (.aload_n 0, 1) := by decide +kernel
theorem dX3_drawLamp_46 : decode cX3_drawLamp 46 = .ok (.iload 4, 2) := by decide +kernel
theorem dX3_drawLamp_48 : decode cX3_drawLamp 48 = .ok (.invokevirtual 40, 3) := by decide +kernel
theorem dX3_drawLamp_51 : decode cX3_drawLamp 51 = .ok (.ireturn, 1) := by decide +kernel
theorem dX3_isLit_0 : decode cX3_isLit 0 = .ok (.aload_n 0, 1) := by decide +kernel
theorem dX3_isLit_1 : decode cX3_isLit 1 = .ok (.iload_n 1, 1) := by decide +kernel
theorem dX3_isLit_2 : decode cX3_isLit 2 = .ok (.iconst 3, 1) := by decide +kernel
theorem dX3_isLit_3 : decode cX3_isLit 3 = .ok (.iload_n 2, 1) := by decide +kernel
theorem dX3_isLit_4 : decode cX3_isLit 4 = .ok (.invokevirtual 58, 3) := by decide +kernel
theorem dX3_isLit_7 : decode cX3_isLit 7 = .ok (.ifCond .ne 10, 3) := by decide +kernel
theorem dX3_isLit_10 : decode cX3_isLit 10 = .ok (.aload_n 0, 1) := by decide +kernel
theorem dX3_isLit_11 : decode cX3_isLit 11 = .ok (.getfield 66, 3) := by decide +kernel
theorem dX3_isLit_14 : decode cX3_isLit 14 = .ok (.ifCond .ne 5, 3) := by decide +kernel
theorem dX3_isLit_17 : decode cX3_isLit 17 = .ok (.iconst 0, 1) := by decide +kernel
theorem dX3_isLit_18 : decode cX3_isLit 18 = .ok (.ireturn, 1) := by decide +kernel
theorem dX3_isLit_19 : decode cX3_isLit 19 = .ok (.aload_n 0, 1) := by decide +kernel
theorem dX3_isLit_20 : decode cX3_isLit 20 = .ok (.iload_n 1, 1) := by decide +kernel
theorem dX3_isLit_21 : decode cX3_isLit 21 = .ok (.iconst 2, 1) := by decide +kernel
theorem dX3_isLit_22 : decode cX3_isLit 22 = .ok (.iload_n 2, 1) := by decide +kernel
theorem dX3_isLit_23 : decode cX3_isLit 23 = .ok (.invokevirtual 58, 3) := by decide +kernel
theorem dX3_isLit_26 : decode cX3_isLit 26 = .ok (.ifCond .ne 14, 3) := by decide +kernel
theorem dX3_isLit_29 : decode cX3_isLit 29 = .ok (.aload_n 0, 1) := by decide +kernel
theorem dX3_isLit_30 : decode cX3_isLit 30 = .ok (.getfield 66, 3) := by decide +kernel
theorem dX3_isLit_33 : decode cX3_isLit 33 = .ok (.ifCond .le 7, 3) := by decide +kernel
theorem dX3_isLit_36 : decode cX3_isLit 36 = .ok (.iconst 1, 1) := by decide +kernel
theorem dX3_isLit_37 : decode cX3_isLit 37 = .ok (.goto 4, 3) := by decide +kernel
theorem dX3_isLit_40 : decode cX3_isLit 40 = .ok (.iconst 0, 1) := by decide +kernel
theorem dX3_isLit_41 : decode cX3_isLit 41 = .ok (.ireturn, 1) := by decide +kernel
theorem dX3_runsOn_0 : decode cX3_runsOn 0 = .ok (.aload_n 0, 1) := by decide +kernel
theorem dX3_runsOn_1 : decode cX3_runsOn 1 = .ok (.aload_n 1, 1) := by decide +kernel
theorem dX3_runsOn_2 : decode cX3_runsOn 2 = .ok (.getfield 170, 3) := by decide +kernel
theorem dX3_runsOn_5 : decode cX3_runsOn 5 = .ok (.iconst 2, 1) := by decide +kernel
theorem dX3_runsOn_6 : decode cX3_runsOn 6 = .ok (.aload_n 1, 1) := by decide +kernel
theorem dX3_runsOn_7 : decode cX3_runsOn 7 = .ok (.getfield 173, 3) := by decide +kernel
theorem dX3_runsOn_10 : decode cX3_runsOn 10 = .ok (.invokevirtual 58, 3) := by decide +kernel
theorem dX3_runsOn_13 : decode cX3_runsOn 13 = .ok (.istore_n 2, 1) := by decide +kernel
theorem dX3_runsOn_14 : decode cX3_runsOn 14 = .ok (.iload_n 2, 1) := by decide +kernel
theorem dX3_runsOn_15 : decode cX3_runsOn 15 = .ok (.ifCond .eq 10, 3) := by decide +kernel
theorem dX3_runsOn_18 : decode cX3_runsOn 18 = .ok (.aload_n 0, 1) := by decide +kernel
theorem dX3_runsOn_19 : decode cX3_runsOn 19 = .ok (.iload_n 2, 1) := by decide +kernel
theorem dX3_runsOn_20 : decode cX3_runsOn 20 = .ok (.invokevirtual 176, 3) := by decide +kernel
theorem dX3_runsOn_23 : decode cX3_runsOn 23 = .ok (.iconst 0, 1) := by decide +kernel
theorem dX3_runsOn_24 : decode cX3_runsOn 24 = .ok (.ireturn, 1) := by decide +kernel
theorem dX3_runsOn_25 : decode cX3_runsOn 25 = .ok (.aload_n 1, 1) := by decide +kernel
theorem dX3_runsOn_26 : decode cX3_runsOn 26 = .ok (.aload_n 0, 1) := by decide +kernel
theorem dX3_runsOn_27 : decode cX3_runsOn 27 = .ok (.getfield 66, 3) := by decide +kernel
theorem dX3_runsOn_30 : decode cX3_runsOn 30 = .ok (.invokevirtual 180, 3) := by decide +kernel
theorem dX3_runsOn_33 : decode cX3_runsOn 33 = .ok (.istore_n 3, 1) := by decide +kernel
theorem dX3_runsOn_34 : decode cX3_runsOn 34 = .ok (.aload_n 0, 1) := by decide +kernel
theorem dX3_runsOn_35 : decode cX3_runsOn 35 = .ok (.aload_n 1, 1) := by decide +kernel
theorem dX3_runsOn_36 : decode cX3_runsOn 36 = .ok (.getfield 170, 3) := by decide +kernel
theorem dX3_runsOn_39 : decode cX3_runsOn 39 = .ok (.iconst 2, 1) := by decide +kernel
theorem dX3_runsOn_40 : decode cX3_runsOn 40 = .ok (.aload_n 1, 1) := by decide +kernel
theorem dX3_runsOn_41 : decode cX3_runsOn 41 = .ok (.getfield 173, 3) := by decide +kernel
theorem dX3_runsOn_44 : decode cX3_runsOn 44 = .ok (.iload_n 3, 1) := by decide +kernel
theorem dX3_runsOn_45 : decode cX3_runsOn 45 = .ok (.invokevirtual 62, 3) := by decide +kernel
theorem dX3_runsOn_48 : decode cX3_runsOn 48 = .ok (.pop, 1) := by decide +kernel
theorem dX3_runsOn_49 : decode cX3_runsOn 49 = .ok (.iload_n 3, 1) := by decide +kernel
theorem dX3_runsOn_50 : decode cX3_runsOn 50 = .ok (.aload_n 1, 1) := by decide +kernel
theorem dX3_runsOn_51 : decode cX3_runsOn 51 = .ok (.getfield 183, 3) := by decide +kernel
theorem dX3_runsOn_54 : decode cX3_runsOn 54 = .ok (.if_icmp .ne 15, 3) := by decide +kernel
theorem dX3_runsOn_57 : decode cX3_runsOn 57 = .ok (.aload_n 0, 1) := by decide +kernel
theorem dX3_runsOn_58 : decode cX3_runsOn 58 = .ok (.dup, 1) := by decide +kernel
theorem dX3_runsOn_59 : decode cX3_runsOn 59 = .ok (.getfield 134, 3) := by decide +kernel
theorem dX3_runsOn_62 : decode cX3_runsOn 62 = .ok (.iconst 1, 1) := by decide +kernel
theorem dX3_runsOn_63 : decode cX3_runsOn 63 = .ok (.iadd, 1) := by decide +kernel
theorem dX3_runsOn_64 : decode cX3_runsOn 64 = .ok (.putfield 134, 3) := by decide +kernel
theorem dX3_runsOn_67 : decode cX3_runsOn 67 = .ok (.iconst 0, 1) := by decide +kernel
theorem dX3_runsOn_68 : decode cX3_runsOn 68 = .ok (.ireturn, 1) := by decide +kernel
theorem dX3_runsOn_69 : decode cX3_runsOn 69 = .ok (.iconst 1, 1) := by decide +kernel
theorem dX3_runsOn_70 : decode cX3_runsOn 70 = .ok (.ireturn, 1) := by decide +kernel
theorem dX3_countDropped_0 : decode cX3_countDropped 0 = .ok (.iload_n 1, 1) := by decide +kernel
theorem dX3_countDropped_1 : decode cX3_countDropped 1 = .ok (.iconst 2, 1) := by decide +kernel
theorem dX3_countDropped_2 : decode cX3_countDropped 2 = .ok (.if_icmp .ne 16, 3) := by decide +kernel
theorem dX3_countDropped_5 : decode cX3_countDropped 5 = .ok (.aload_n 0, 1) := by decide +kernel
theorem dX3_countDropped_6 : decode cX3_countDropped 6 = .ok (.dup, 1) := by decide +kernel
theorem dX3_countDropped_7 : decode cX3_countDropped 7 = .ok (.getfield 137, 3) := by decide +kernel
theorem dX3_countDropped_10 : decode cX3_countDropped 10 = .ok (.iconst 1, 1) := by decide +kernel
theorem dX3_countDropped_11 : decode cX3_countDropped 11 = .ok (.iadd, 1) := by decide +kernel
theorem dX3_countDropped_12 : decode cX3_countDropped 12 = .ok (.putfield 137, 3) := by decide +kernel
theorem dX3_countDropped_15 : decode cX3_countDropped 15 = .ok (.goto 13, 3) := by decide +kernel
theorem dX3_countDropped_18 : decode cX3_countDropped 18 = .ok (.aload_n 0, 1) := by decide +kernel
theorem dX3_countDropped_19 : decode cX3_countDropped 19 = .ok (.dup, 1) := by decide +kernel
theorem dX3_countDropped_20 : decode cX3_countDropped 20 = .ok (.getfield 140, 3) := by decide +kernel
theorem dX3_countDropped_23 : decode cX3_countDropped 23 = .ok (.iconst 1, 1) := by decide +kernel
theorem dX3_countDropped_24 : decode cX3_countDropped 24 = .ok (.iadd, 1) := by decide +kernel
theorem dX3_countDropped_25 : decode cX3_countDropped 25 = .ok (.putfield 140, 3) := by decide +kernel
theorem dX3_countDropped_28 : decode cX3_countDropped 28 = .ok (.return_, 1) := by decide +kernel
theorem dX3_isBank_0 : decode cX3_isBank 0 = .ok (.iload_n 0, 1) := by decide +kernel
theorem dX3_isBank_1 : decode cX3_isBank 1 = .ok (.ifCond .lt 13, 3) := by decide +kernel
theorem dX3_isBank_4 : decode cX3_isBank 4 = .ok (.iload_n 0, 1) := by decide +kernel
theorem dX3_isBank_5 : decode cX3_isBank 5 = .ok (.bipush 6, 2) := by decide +kernel
theorem dX3_isBank_7 : decode cX3_isBank 7 = .ok (.if_icmp .ge 7, 3) := by decide +kernel
theorem dX3_isBank_10 : decode cX3_isBank 10 = .ok (.iconst 1, 1) := by decide +kernel
theorem dX3_isBank_11 : decode cX3_isBank 11 = .ok (.goto 4, 3) := by decide +kernel
theorem dX3_isBank_14 : decode cX3_isBank 14 = .ok (.iconst 0, 1) := by decide +kernel
theorem dX3_isBank_15 : decode cX3_isBank 15 = .ok (.ireturn, 1) := by decide +kernel
theorem dX3_isStrip_0 : decode cX3_isStrip 0 = .ok (.iload_n 0, 1) := by decide +kernel
theorem dX3_isStrip_1 : decode cX3_isStrip 1 = .ok (.ifCond .lt 12, 3) := by decide +kernel
theorem dX3_isStrip_4 : decode cX3_isStrip 4 = .ok (.iload_n 0, 1) := by decide +kernel
theorem dX3_isStrip_5 : decode cX3_isStrip 5 = .ok (.iconst 4, 1) := by decide +kernel
theorem dX3_isStrip_6 : decode cX3_isStrip 6 = .ok (.if_icmp .ge 7, 3) := by decide +kernel
theorem dX3_isStrip_9 : decode cX3_isStrip 9 = .ok (.iconst 1, 1) := by decide +kernel
theorem dX3_isStrip_10 : decode cX3_isStrip 10 = .ok (.goto 4, 3) := by decide +kernel
theorem dX3_isStrip_13 : decode cX3_isStrip 13 = .ok (.iconst 0, 1) := by decide +kernel
theorem dX3_isStrip_14 : decode cX3_isStrip 14 = .ok (.ireturn, 1) := by decide +kernel
theorem dX3_digitOf_0 : decode cX3_digitOf 0 = .ok (.iload_n 0, 1) := by decide +kernel
theorem dX3_digitOf_1 : decode cX3_digitOf 1 = .ok (.iconst 2, 1) := by decide +kernel
theorem dX3_digitOf_2 : decode cX3_digitOf 2 = .ok (.if_icmp .ne 5, 3) := by decide +kernel
theorem dX3_digitOf_5 : decode cX3_digitOf 5 = .ok (.iconst 1, 1) := by decide +kernel
theorem dX3_digitOf_6 : decode cX3_digitOf 6 = .ok (.ireturn, 1) := by decide +kernel
theorem dX3_digitOf_7 : decode cX3_digitOf 7 = .ok (.iload_n 0, 1) := by decide +kernel
theorem dX3_digitOf_8 : decode cX3_digitOf 8 = .ok (.iconst 3, 1) := by decide +kernel
theorem dX3_digitOf_9 : decode cX3_digitOf 9 = .ok (.if_icmp .ne 7, 3) := by decide +kernel
theorem dX3_digitOf_12 : decode cX3_digitOf 12 = .ok (.iconst 2, 1) := by decide +kernel
theorem dX3_digitOf_13 : decode cX3_digitOf 13 = .ok (.goto 4, 3) := by decide +kernel
theorem dX3_digitOf_16 : decode cX3_digitOf 16 = .ok (.iconst 0, 1) := by decide +kernel
theorem dX3_digitOf_17 : decode cX3_digitOf 17 = .ok (.ireturn, 1) := by decide +kernel
theorem dX3_asNumber_0 : decode cX3_asNumber 0 = .ok (.iload_n 0, 1) := by decide +kernel
theorem dX3_asNumber_1 : decode cX3_asNumber 1 = .ok (.tableswitch 40 0 2 #[27, 32, 35], 27) := by decide +kernel
theorem dX3_asNumber_28 : decode cX3_asNumber 28 = .ok (.iload_n 1, 1) := by decide +kernel
theorem dX3_asNumber_29 : decode cX3_asNumber 29 = .ok (.ldc 186, 2) := by decide +kernel
theorem dX3_asNumber_31 : decode cX3_asNumber 31 = .ok (.iand, 1) := by decide +kernel
theorem dX3_asNumber_32 : decode cX3_asNumber 32 = .ok (.ireturn, 1) := by decide +kernel
theorem dX3_asNumber_33 : decode cX3_asNumber 33 = .ok (.iload_n 1, 1) := by decide +kernel
theorem dX3_asNumber_34 : decode cX3_asNumber 34 = .ok (.i2s, 1) := by decide +kernel
theorem dX3_asNumber_35 : decode cX3_asNumber 35 = .ok (.ireturn, 1) := by decide +kernel
theorem dX3_asNumber_36 : decode cX3_asNumber 36 = .ok (.iload_n 1, 1) := by decide +kernel
theorem dX3_asNumber_37 : decode cX3_asNumber 37 = .ok (.invokestatic 70, 3) := by decide +kernel
theorem dX3_asNumber_40 : decode cX3_asNumber 40 = .ok (.ireturn, 1) := by decide +kernel
theorem dX3_asNumber_41 : decode cX3_asNumber 41 = .ok (.iload_n 1, 1) := by decide +kernel
theorem dX3_asNumber_42 : decode cX3_asNumber 42 = .ok (.iconst 1, 1) := by decide +kernel
theorem dX3_asNumber_43 : decode cX3_asNumber 43 = .ok (.iand, 1) := by decide +kernel
theorem dX3_asNumber_44 : decode cX3_asNumber 44 = .ok (.ireturn, 1) := by decide +kernel
theorem dX3_asLevel_0 : decode cX3_asLevel 0 = .ok (.ldc 187, 2) := by decide +kernel
theorem dX3_asLevel_2 : decode cX3_asLevel 2 = .ok (.ldc 188, 2) := by decide +kernel
theorem dX3_asLevel_4 : decode cX3_asLevel 4 = .ok (.iload_n 0, 1) := by decide +kernel
theorem dX3_asLevel_5 : decode cX3_asLevel 5 = .ok (.invokestatic 189, 3) := by decide +kernel
theorem dX3_asLevel_8 : decode cX3_asLevel 8 = .ok (.invokestatic 194, 3) := by decide +kernel
theorem dX3_asLevel_11 : decode cX3_asLevel 11 = .ok (.ireturn, 1) := by decide +kernel
