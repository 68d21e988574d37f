theorem dX8_init_0 : decode cX8_init 0 = .ok (.aload_n 0, 1) := by decide +kernel
theorem dX8_init_1 : decode cX8_init 1 = .ok (.invokespecial 1, 3) := by decide +kernel
theorem dX8_init_4 : decode cX8_init 4 = .ok (.aload_n 0, 1) := by decide +kernel
theorem dX8_init_5 : decode cX8_init 5 = .ok (.bipush 12, 2) := by decide +kernel
theorem dX8_init_7 : decode cX8_init 7 = .ok (.anewarray 9, 3) := by decide +kernel
theorem dX8_init_10 : decode cX8_init 10 = .ok (.putfield 11, 3) := by decide +kernel
theorem dX8_init_13 : decode cX8_init 13 = .ok (.aload_n 0, 1) := by decide +kernel
theorem dX8_init_14 : decode cX8_init 14 = .ok (.bipush 24, 2) := by decide +kernel
theorem dX8_init_16 : decode cX8_init 16 = .ok (.anewarray 15, 3) := by decide +kernel
theorem dX8_init_19 : decode cX8_init 19 = .ok (.putfield 17, 3) := by decide +kernel
theorem dX8_init_22 : decode cX8_init 22 = .ok (.iconst 0, 1) := by decide +kernel
theorem dX8_init_23 : decode cX8_init 23 = .ok (.istore_n 1, 1) := by decide +kernel
theorem dX8_init_24 : decode cX8_init 24 = .ok (.iload_n 1, 1) := by decide +kernel
theorem dX8_init_25 : decode cX8_init 25 = .ok (.bipush 24, 2) := by decide +kernel
theorem dX8_init_27 : decode cX8_init 27 = .ok (.if_icmp .ge 22, 3) := by decide +kernel
theorem dX8_init_30 : decode cX8_init 30 = .ok (.aload_n 0, 1) := by decide +kernel
theorem dX8_init_31 : decode cX8_init 31 = .ok (.getfield 17, 3) := by decide +kernel
theorem dX8_init_34 : decode cX8_init 34 = .ok (.iload_n 1, 1) := by decide +kernel
theorem dX8_init_35 : decode cX8_init 35 = .ok (.new 15, 3) := by decide +kernel
theorem dX8_init_38 : decode cX8_init 38 = .ok (.dup, 1) := by decide +kernel
theorem dX8_init_39 : decode cX8_init 39 = .ok (.invokespecial 21, 3) := by decide +kernel
theorem dX8_init_42 : decode cX8_init 42 = .ok (.aastore, 1) := by decide +kernel
theorem dX8_init_43 : decode cX8_init 43 = .ok (.iinc 1 1, 3) := by decide +kernel
theorem dX8_init_46 : decode cX8_init 46 = .ok (.goto (-22), 3) := by decide +kernel
theorem dX8_init_49 : decode cX8_init 49 = .ok (.aload_n 0, 1) := by decide +kernel
theorem dX8_init_50 : decode cX8_init 50 = .ok (.bipush 24, 2) := by decide +kernel
theorem dX8_init_52 : decode cX8_init 52 = .ok (.newarray .int, 2) := by decide +kernel
theorem dX8_init_54 : decode cX8_init 54 = .ok (.putfield 22, 3) := by decide +kernel
theorem dX8_init_57 : decode cX8_init 57 = .ok (.aload_n 0, 1) := by decide +kernel
theorem dX8_init_58 : decode cX8_init 58 = .ok (.new 15, 3) := by decide +kernel
theorem dX8_init_61 : decode cX8_init 61 = .ok (.dup, 1) := by decide +kernel
theorem dX8_init_62 : decode cX8_init 62 = .ok (.invokespecial 21, 3) := by decide +kernel
theorem dX8_init_65 : decode cX8_init 65 = .ok (.putfield 26, 3) := by decide +kernel
theorem dX8_init_68 : decode cX8_init 68 = .ok (.aload_n 0, 1) := by decide +kernel
theorem dX8_init_69 : decode cX8_init 69 = .ok (.new 15, 3) := by decide +kernel
theorem dX8_init_72 : decode cX8_init 72 = .ok (.dup, 1) := by decide +kernel
theorem dX8_init_73 : decode cX8_init 73 = .ok (.invokespecial 21, 3) := by decide +kernel
theorem dX8_init_76 : decode cX8_init 76 = .ok (.putfield 30, 3) := by decide +kernel
theorem dX8_init_79 : decode cX8_init 79 = .ok (.aload_n 0, 1) := by decide +kernel
theorem dX8_init_80 : decode cX8_init 80 = .ok (.iconst 0, 1) := by decide +kernel
theorem dX8_init_81 : decode cX8_init 81 = .ok (.putfield 33, 3) := by decide +kernel
theorem dX8_init_84 : decode cX8_init 84 = .ok (.return_, 1) := by decide +kernel
theorem dX8_make_0 : decode cX8_make 0 = .ok (.iload_n 1, 1) := by decide +kernel
theorem dX8_make_1 : decode cX8_make 1 = .ok (.invokestatic 37, 3) := by decide +kernel
theorem dX8_make_4 : decode cX8_make 4 = .ok (.ifCond .eq 13, 3) := by decide +kernel
theorem dX8_make_7 : decode cX8_make 7 = .ok (.iload_n 2, 1) := by decide +kernel
theorem dX8_make_8 : decode cX8_make 8 = .ok (.ifCond .lt 9, 3) := by decide +kernel
theorem dX8_make_11 : decode cX8_make 11 = .ok (.iload_n 2, 1) := by decide +kernel
theorem dX8_make_12 : decode cX8_make 12 = .ok (.bipush 14, 2) := by decide +kernel
theorem dX8_make_14 : decode cX8_make 14 = .ok (.if_icmp .le 9, 3) := by decide +kernel
theorem dX8_make_17 : decode cX8_make 17 = .ok (.aload_n 0, 1) := by decide +kernel
theorem dX8_make_18 : decode cX8_make 18 = .ok (.iconst 1, 1) := by decide +kernel
theorem dX8_make_19 : decode cX8_make 19 = .ok (.invokevirtual 41, 3) := by decide +kernel
theorem dX8_make_22 : decode cX8_make 22 = .ok (.ireturn, 1) := by decide +kernel
theorem dX8_make_23 : decode cX8_make 23 = .ok (.iload_n 2, 1) := by decide +kernel
theorem dX8_make_24 : decode cX8_make 24 = .ok (.bipush 12, 2) := by decide +kernel
theorem dX8_make_26 : decode cX8_make 26 = .ok (.if_icmp .ge 19, 3) := by decide +kernel
theorem dX8_make_29 : decode cX8_make 29 = .ok (.iload_n 3, 1) := by decide +kernel
theorem dX8_make_30 : decode cX8_make 30 = .ok (.ifCond .lt 9, 3) := by decide +kernel
theorem dX8_make_33 : decode cX8_make 33 = .ok (.iload_n 3, 1) := by decide +kernel
theorem dX8_make_34 : decode cX8_make 34 = .ok (.bipush 24, 2) := by decide +kernel
theorem dX8_make_36 : decode cX8_make 36 = .ok (.if_icmp .le 9, 3) := by decide +kernel
theorem dX8_make_39 : decode cX8_make 39 = .ok (.aload_n 0, 1) := by decide +kernel
theorem dX8_make_40 : decode cX8_make 40 = .ok (.iconst 1, 1) := by decide +kernel
theorem dX8_make_41 : decode cX8_make 41 = .ok (.invokevirtual 41, 3) := by decide +kernel
theorem dX8_make_44 : decode cX8_make 44 = .ok (.ireturn, 1) := by decide +kernel
theorem dX8_make_45 : decode cX8_make 45 = .ok (.aload_n 0, 1) := by decide +kernel
theorem dX8_make_46 : decode cX8_make 46 = .ok (.getfield 11, 3) := by decide +kernel
theorem dX8_make_49 : decode cX8_make 49 = .ok (.iload_n 1, 1) := by decide +kernel
theorem dX8_make_50 : decode cX8_make 50 = .ok (.iload_n 2, 1) := by decide +kernel
theorem dX8_make_51 : decode cX8_make 51 = .ok (.bipush 12, 2) := by decide +kernel
theorem dX8_make_53 : decode cX8_make 53 = .ok (.if_icmp .ge 11, 3) := by decide +kernel
theorem dX8_make_56 : decode cX8_make 56 = .ok (.iload_n 2, 1) := by decide +kernel
theorem dX8_make_57 : decode cX8_make 57 = .ok (.iload_n 3, 1) := by decide +kernel
theorem dX8_make_58 : decode cX8_make 58 = .ok (.invokestatic 45, 3) := by decide +kernel
theorem dX8_make_61 : decode cX8_make 61 = .ok (.goto 12, 3) := by decide +kernel
theorem dX8_make_64 : decode cX8_make 64 = .ok (.new 49, 3) := by decide +kernel
theorem dX8_make_67 : decode cX8_make 67 = .ok (.dup, 1) := by decide +kernel
theorem dX8_make_68 : decode cX8_make 68 = .ok (.iload_n 2, 1) := by decide +kernel
theorem dX8_make_69 : decode cX8_make 69 = .ok (.iload_n 3, 1) := by decide +kernel
theorem dX8_make_70 : decode cX8_make 70 = .ok (.invokespecial 51, 3) := by decide +kernel
theorem dX8_make_73 : decode cX8_make 73 = .ok (.aastore, 1) := by decide +kernel
theorem dX8_make_74 : decode cX8_make 74 = .ok (.aload_n 0, 1) := by decide +kernel
theorem dX8_make_75 : decode cX8_make 75 = .ok (.iconst 1, 1) := by decide +kernel
theorem dX8_make_76 : decode cX8_make 76 = .ok (.invokevirtual 54, 3) := by decide +kernel
theorem dX8_make_79 : decode cX8_make 79 = .ok (.ireturn, 1) := by decide +kernel
theorem dX8_lay_0 : decode cX8_lay 0 = .ok (.iload_n 1, 1) := by decide +kernel
theorem dX8_lay_1 : decode cX8_lay 1 = .ok (.invokestatic 37, 3) := by decide +kernel
theorem dX8_lay_4 : decode cX8_lay 4 = .ok (.ifCond .eq 10, 3) := by decide +kernel
theorem dX8_lay_7 : decode cX8_lay 7 = .ok (.iload_n 2, 1) := by decide +kernel
theorem dX8_lay_8 : decode cX8_lay 8 = .ok (.invokestatic 37, 3) := by decide +kernel
theorem dX8_lay_11 : decode cX8_lay 11 = .ok (.ifCond .ne 9, 3) := by decide +kernel
theorem dX8_lay_14 : decode cX8_lay 14 = .ok (.aload_n 0, 1) := by decide +kernel
theorem dX8_lay_15 : decode cX8_lay 15 = .ok (.iconst 1, 1) := by decide +kernel
theorem dX8_lay_16 : decode cX8_lay 16 = .ok (.invokevirtual 41, 3) := by decide +kernel
theorem dX8_lay_19 : decode cX8_lay 19 = .ok (.ireturn, 1) := by decide +kernel
theorem dX8_lay_20 : decode cX8_lay 20 = .ok (.aload_n 0, 1) := by decide +kernel
theorem dX8_lay_21 : decode cX8_lay 21 = .ok (.getfield 11, 3) := by decide +kernel
theorem dX8_lay_24 : decode cX8_lay 24 = .ok (.iload_n 2, 1) := by decide +kernel
theorem dX8_lay_25 : decode cX8_lay 25 = .ok (.aload_n 0, 1) := by decide +kernel
theorem dX8_lay_26 : decode cX8_lay 26 = .ok (.getfield 11, 3) := by decide +kernel
theorem dX8_lay_29 : decode cX8_lay 29 = .ok (.iload_n 1, 1) := by decide +kernel
theorem dX8_lay_30 : decode cX8_lay 30 = .ok (.aaload, 1) := by decide +kernel
theorem dX8_lay_31 : decode cX8_lay 31 = .ok (.aastore, 1) := by decide +kernel
theorem dX8_lay_32 : decode cX8_lay 32 = .ok (.aload_n 0, 1) := by decide +kernel
theorem dX8_lay_33 : decode cX8_lay 33 = .ok (.aload_n 0, 1) := by decide +kernel
theorem dX8_lay_34 : decode cX8_lay 34 = .ok (.getfield 11, 3) := by decide +kernel
theorem dX8_lay_37 : decode cX8_lay 37 = .ok (.iload_n 2, 1) := by decide +kernel
theorem dX8_lay_38 : decode cX8_lay 38 = .ok (.aaload, 1) := by decide +kernel
theorem dX8_lay_39 : decode cX8_lay 39 = .ok (.ifnonnull 7, 3) := by decide +kernel
theorem dX8_lay_42 : decode cX8_lay 42 = .ok (.iconst 0, 1) := by decide +kernel
theorem dX8_lay_43 : decode cX8_lay 43 = .ok (.goto 4, 3) := by decide +kernel
theorem dX8_lay_46 : decode cX8_lay 46 = .ok (.iconst 1, 1) := by decide +kernel
theorem dX8_lay_47 : decode cX8_lay 47 = .ok (.invokevirtual 54, 3) := by decide +kernel
theorem dX8_lay_50 : decode cX8_lay 50 = .ok (.ireturn, 1) := by decide +kernel
theorem dX8_places_0 : decode cX8_places 0 = .ok (.aload_n 0, 1) := by decide +kernel
theorem dX8_places_1 : decode cX8_places 1 = .ok (.iload_n 1, 1) := by decide +kernel
theorem dX8_places_2 : decode cX8_places 2 = .ok (.invokevirtual 57, 3) := by decide +kernel
theorem dX8_places_5 : decode cX8_places 5 = .ok (.astore_n 2, 1) := by decide +kernel
theorem dX8_places_6 : decode cX8_places 6 = .ok (.aload_n 2, 1) := by decide +kernel
theorem dX8_places_7 : decode cX8_places 7 = .ok (.ifnonnull 15, 3) := by decide +kernel
theorem dX8_places_10 : decode cX8_places 10 = .ok (.aload_n 0, 1) := by decide +kernel
theorem dX8_places_11 : decode cX8_places 11 = .ok (.aload_n 0, 1) := by decide +kernel
theorem dX8_places_12 : decode cX8_places 12 = .ok (.iload_n 1, 1) := by decide +kernel
theorem dX8_places_13 : decode cX8_places 13 = .ok (.iload_n 1, 1) := by decide +kernel
theorem dX8_places_14 : decode cX8_places 14 = .ok (.iload_n 1, 1) := by decide +kernel
theorem dX8_places_15 : decode cX8_places 15 = .ok (.invokevirtual 61, 3) := by decide +kernel
theorem dX8_places_18 : decode cX8_places 18 = .ok (.invokevirtual 41, 3) := by decide +kernel
theorem dX8_places_21 : decode cX8_places 21 = .ok (.ireturn, 1) := by decide +kernel
theorem dX8_places_22 : decode cX8_places 22 = .ok (.aload_n 0, 1) := by decide +kernel
theorem dX8_places_23 : decode cX8_places 23 = .ok (.aload_n 2, 1) := by decide +kernel
theorem dX8_places_24 : decode cX8_places 24 = .ok (.getfield 65, 3) := by decide +kernel
theorem dX8_places_27 : decode cX8_places 27 = .ok (.invokevirtual 54, 3) := by decide +kernel
theorem dX8_places_30 : decode cX8_places 30 = .ok (.ireturn, 1) := by decide +kernel
theorem dX8_kind_0 : decode cX8_kind 0 = .ok (.iload_n 1, 1) := by decide +kernel
theorem dX8_kind_1 : decode cX8_kind 1 = .ok (.invokestatic 37, 3) := by decide +kernel
theorem dX8_kind_4 : decode cX8_kind 4 = .ok (.ifCond .ne 9, 3) := by decide +kernel
theorem dX8_kind_7 : decode cX8_kind 7 = .ok (.aload_n 0, 1) := by decide +kernel
theorem dX8_kind_8 : decode cX8_kind 8 = .ok (.iconst 1, 1) := by decide +kernel
theorem dX8_kind_9 : decode cX8_kind 9 = .ok (.invokevirtual 41, 3) := by decide +kernel
theorem dX8_kind_12 : decode cX8_kind 12 = .ok (.ireturn, 1) := by decide +kernel
theorem dX8_kind_13 : decode cX8_kind 13 = .ok (.aload_n 0, 1) := by decide +kernel
theorem dX8_kind_14 : decode cX8_kind 14 = .ok (.aload_n 0, 1) := by decide +kernel
theorem dX8_kind_15 : decode cX8_kind 15 = .ok (.getfield 11, 3) := by decide +kernel
theorem dX8_kind_18 : decode cX8_kind 18 = .ok (.iload_n 1, 1) := by decide +kernel
theorem dX8_kind_19 : decode cX8_kind 19 = .ok (.aaload, 1) := by decide +kernel
theorem dX8_kind_20 : decode cX8_kind 20 = .ok (.invokestatic 70, 3) := by decide +kernel
theorem dX8_kind_23 : decode cX8_kind 23 = .ok (.invokevirtual 54, 3) := by decide +kernel
theorem dX8_kind_26 : decode cX8_kind 26 = .ok (.ireturn, 1) := by decide +kernel
theorem dX8_tag_0 : decode cX8_tag 0 = .ok (.aload_n 0, 1) := by decide +kernel
theorem dX8_tag_1 : decode cX8_tag 1 = .ok (.iload_n 1, 1) := by decide +kernel
theorem dX8_tag_2 : decode cX8_tag 2 = .ok (.invokevirtual 74, 3) := by decide +kernel
theorem dX8_tag_5 : decode cX8_tag 5 = .ok (.astore_n 2, 1) := by decide +kernel
theorem dX8_tag_6 : decode cX8_tag 6 = .ok (.aload_n 2, 1) := by decide +kernel
theorem dX8_tag_7 : decode cX8_tag 7 = .ok (.ifnonnull 12, 3) := by decide +kernel
theorem dX8_tag_10 : decode cX8_tag 10 = .ok (.aload_n 0, 1) := by decide +kernel
theorem dX8_tag_11 : decode cX8_tag 11 = .ok (.iload_n 1, 1) := by decide +kernel
theorem dX8_tag_12 : decode cX8_tag 12 = .ok (.invokestatic 78, 3) := by decide +kernel
theorem dX8_tag_15 : decode cX8_tag 15 = .ok (.invokevirtual 41, 3) := by decide +kernel
theorem dX8_tag_18 : decode cX8_tag 18 = .ok (.ireturn, 1) := by decide +kernel
theorem dX8_tag_19 : decode cX8_tag 19 = .ok (.aload_n 0, 1) := by decide +kernel
theorem dX8_tag_20 : decode cX8_tag 20 = .ok (.aload_n 2, 1) := by decide +kernel
theorem dX8_tag_21 : decode cX8_tag 21 = .ok (.getfield 81, 3) := by decide +kernel
theorem dX8_tag_24 : decode cX8_tag 24 = .ok (.invokevirtual 54, 3) := by decide +kernel
theorem dX8_tag_27 : decode cX8_tag 27 = .ok (.ireturn, 1) := by decide +kernel
theorem dX8_load_0 : decode cX8_load 0 = .ok (.aload_n 0, 1) := by decide +kernel
theorem dX8_load_1 : decode cX8_load 1 = .ok (.iload_n 1, 1) := by decide +kernel
theorem dX8_load_2 : decode cX8_load 2 = .ok (.invokevirtual 74, 3) := by decide +kernel
theorem dX8_load_5 : decode cX8_load 5 = .ok (.astore_n 2, 1) := by decide +kernel
theorem dX8_load_6 : decode cX8_load 6 = .ok (.aload_n 2, 1) := by decide +kernel
theorem dX8_load_7 : decode cX8_load 7 = .ok (.ifnonnull 12, 3) := by decide +kernel
theorem dX8_load_10 : decode cX8_load 10 = .ok (.aload_n 0, 1) := by decide +kernel
theorem dX8_load_11 : decode cX8_load 11 = .ok (.iload_n 1, 1) := by decide +kernel
theorem dX8_load_12 : decode cX8_load 12 = .ok (.invokestatic 78, 3) := by decide +kernel
theorem dX8_load_15 : decode cX8_load 15 = .ok (.invokevirtual 41, 3) := by decide +kernel
theorem dX8_load_18 : decode cX8_load 18 = .ok (.ireturn, 1) := by decide +kernel
theorem dX8_load_19 : decode cX8_load 19 = .ok (.aload_n 0, 1) := by decide +kernel
theorem dX8_load_20 : decode cX8_load 20 = .ok (.aload_n 2, 1) := by decide +kernel
theorem dX8_load_21 : decode cX8_load 21 = .ok (.getfield 84, 3) := by decide +kernel
theorem dX8_load_24 : decode cX8_load 24 = .ok (.bipush 14, 2) := by decide +kernel
theorem dX8_load_26 : decode cX8_load 26 = .ok (.if_icmp .ne 14, 3) := by decide +kernel
theorem dX8_load_29 : decode cX8_load 29 = .ok (.iconst 2, 1) := by decide +kernel
theorem dX8_load_30 : decode cX8_load 30 = .ok (.aload_n 2, 1) := by decide +kernel
theorem dX8_load_31 : decode cX8_load 31 = .ok (.getfield 81, 3) := by decide +kernel
theorem dX8_load_34 : decode cX8_load 34 = .ok (.imul, 1) := by decide +kernel
theorem dX8_load_35 : decode cX8_load 35 = .ok (.iconst 1, 1) := by decide +kernel
theorem dX8_load_36 : decode cX8_load 36 = .ok (.iadd, 1) := by decide +kernel
theorem dX8_load_37 : decode cX8_load 37 = .ok (.goto 7, 3) := by decide +kernel
theorem dX8_load_40 : decode cX8_load 40 = .ok (.aload_n 2, 1) := by decide +kernel
theorem dX8_load_41 : decode cX8_load 41 = .ok (.getfield 81, 3) := by decide +kernel
theorem dX8_load_44 : decode cX8_load 44 = .ok (.invokevirtual 54, 3) := by decide +kernel
theorem dX8_load_47 : decode cX8_load 47 = .ok (.ireturn, 1) := by decide +kernel
theorem dX8_put_0 : decode cX8_put 0 = .ok (.iload_n 3, 1) := by decide +kernel
theorem dX8_put_1 : decode cX8_put 1 = .ok (.ifCond .lt 9, 3) := by decide +kernel
theorem dX8_put_4 : decode cX8_put 4 = .ok (.iload_n 3, 1) := by decide +kernel
theorem dX8_put_5 : decode cX8_put 5 = .ok (.bipush 7, 2) := by decide +kernel
theorem dX8_put_7 : decode cX8_put 7 = .ok (.if_icmp .le 9, 3) := by decide +kernel
theorem dX8_put_10 : decode cX8_put 10 = .ok (.aload_n 0, 1) := by decide +kernel
theorem dX8_put_11 : decode cX8_put 11 = .ok (.iconst 1, 1) := by decide +kernel
theorem dX8_put_12 : decode cX8_put 12 = .ok (.invokevirtual 41, 3) := by decide +kernel
theorem dX8_put_15 : decode cX8_put 15 = .ok (.ireturn, 1) := by decide +kernel
theorem dX8_put_16 : decode cX8_put 16 = .ok (.aload_n 0, 1) := by decide +kernel
theorem dX8_put_17 : decode cX8_put 17 = .ok (.iload_n 1, 1) := by decide +kernel
theorem dX8_put_18 : decode cX8_put 18 = .ok (.invokevirtual 57, 3) := by decide +kernel
theorem dX8_put_21 : decode cX8_put 21 = .ok (.astore 6, 2) := by decide +kernel
theorem dX8_put_23 : decode cX8_put 23 = .ok (.aload 6, 2) := by decide +kernel
theorem dX8_put_25 : decode cX8_put 25 = .ok (.ifnonnull 15, 3) := by decide +kernel
theorem dX8_put_28 : decode cX8_put 28 = .ok (.aload_n 0, 1) := by decide +kernel
theorem dX8_put_29 : decode cX8_put 29 = .ok (.aload_n 0, 1) := by decide +kernel
theorem dX8_put_30 : decode cX8_put 30 = .ok (.iload_n 1, 1) := by decide +kernel
theorem dX8_put_31 : decode cX8_put 31 = .ok (.iload_n 1, 1) := by decide +kernel
theorem dX8_put_32 : decode cX8_put 32 = .ok (.iload_n 1, 1) := by decide +kernel
theorem dX8_put_33 : decode cX8_put 33 = .ok (.invokevirtual 61, 3) := by decide +kernel
theorem dX8_put_36 : decode cX8_put 36 = .ok (.invokevirtual 41, 3) := by decide +kernel
theorem dX8_put_39 : decode cX8_put 39 = .ok (.ireturn, 1) := by decide +kernel
theorem dX8_put_40 : decode cX8_put 40 = .ok (.aload 6, 2) := by decide +kernel
theorem dX8_put_42 : decode cX8_put 42 = .ok (.iload_n 2, 1) := by decide +kernel
theorem dX8_put_43 : decode cX8_put 43 = .ok (.invokevirtual 87, 3) := by decide +kernel
theorem dX8_put_46 : decode cX8_put 46 = .ok (.ifCond .ne 9, 3) := by decide +kernel
theorem dX8_put_49 : decode cX8_put 49 = .ok (.aload_n 0, 1) := by decide +kernel
theorem dX8_put_50 : decode cX8_put 50 = .ok (.iconst 4, 1) := by decide +kernel
theorem dX8_put_51 : decode cX8_put 51 = .ok (.invokevirtual 41, 3) := by decide +kernel
theorem dX8_put_54 : decode cX8_put 54 = .ok (.ireturn, 1) := by decide +kernel
theorem dX8_put_55 : decode cX8_put 55 = .ok (.aload_n 0, 1) := by decide +kernel
theorem dX8_put_56 : decode cX8_put 56 = .ok (.getfield 26, 3) := by decide +kernel
theorem dX8_put_59 : decode cX8_put 59 = .ok (.iload_n 3, 1) := by decide +kernel
theorem dX8_put_60 : decode cX8_put 60 = .ok (.iload 4, 2) := by decide +kernel
theorem dX8_put_62 : decode cX8_put 62 = .ok (.iload 5, 2) := by decide +kernel
theorem dX8_put_64 : decode cX8_put 64 = .ok (.invokevirtual 90, 3) := by decide +kernel
theorem dX8_put_67 : decode cX8_put 67 = .ok (.aload 6, 2) := by decide +kernel
theorem dX8_put_69 : decode cX8_put 69 = .ok (.aload_n 0, 1) := by decide +kernel
theorem dX8_put_70 : decode cX8_put 70 = .ok (.getfield 26, 3) := by decide +kernel
theorem dX8_put_73 : decode cX8_put 73 = .ok (.invokevirtual 94, 3) := by decide +kernel
theorem dX8_put_76 : decode cX8_put 76 = .ok (.ifCond .ne 9, 3) := by decide +kernel
theorem dX8_put_79 : decode cX8_put 79 = .ok (.aload_n 0, 1) := by decide +kernel
theorem dX8_put_80 : decode cX8_put 80 = .ok (.iconst 5, 1) := by decide +kernel
theorem dX8_put_81 : decode cX8_put 81 = .ok (.invokevirtual 41, 3) := by decide +kernel
theorem dX8_put_84 : decode cX8_put 84 = .ok (.ireturn, 1) := by decide +kernel
theorem dX8_put_85 : decode cX8_put 85 = .ok (.aload 6, 2) := by decide +kernel
theorem dX8_put_87 : decode cX8_put 87 = .ok (.iload_n 2, 1) := by decide +kernel
theorem dX8_put_88 : decode cX8_put 88 = .ok (.aload_n 0, 1) := by decide +kernel
theorem dX8_put_89 : decode cX8_put 89 = .ok (.getfield 26, 3) := by decide +kernel
theorem dX8_put_92 : decode cX8_put 92 = .ok (.invokevirtual 98, 3) := by decide +kernel
theorem dX8_put_95 : decode cX8_put 95 = .ok (.aload_n 0, 1) := by decide +kernel
theorem dX8_put_96 : decode cX8_put 96 = .ok (.iconst 1, 1) := by decide +kernel
theorem dX8_put_97 : decode cX8_put 97 = .ok (.invokevirtual 54, 3) := by decide +kernel
theorem dX8_put_100 : decode cX8_put 100 = .ok (.ireturn, 1) := by decide +kernel
theorem dX8_putBoxed_0 : decode cX8_putBoxed 0 = .ok (.aload_n 0, 1) := by decide +kernel
theorem dX8_putBoxed_1 : decode cX8_putBoxed 1 = .ok (.iload_n 1, 1) := by decide +kernel
theorem dX8_putBoxed_2 : decode cX8_putBoxed 2 = .ok (.iload_n 2, 1) := by decide +kernel
theorem dX8_putBoxed_3 : decode cX8_putBoxed 3 = .ok (.iload_n 3, 1) := by decide +kernel
theorem dX8_putBoxed_4 : decode cX8_putBoxed 4 = .ok (.iload 4, 2) := by decide +kernel
theorem dX8_putBoxed_6 : decode cX8_putBoxed 6 = .ok (.iload 5, 2) := by decide +kernel
theorem dX8_putBoxed_8 : decode cX8_putBoxed 8 = .ok (.invokevirtual 102, 3) := by decide +kernel
theorem dX8_putBoxed_11 : decode cX8_putBoxed 11 = .ok (.ireturn, 1) := by decide +kernel
theorem dX8_putThing_0 : decode cX8_putThing 0 = .ok (.iload_n 3, 1) := by decide +kernel
theorem dX8_putThing_1 : decode cX8_putThing 1 = .ok (.invokestatic 37, 3) := by decide +kernel
theorem dX8_putThing_4 : decode cX8_putThing 4 = .ok (.ifCond .ne 9, 3) := by decide +kernel
theorem dX8_putThing_7 : decode cX8_putThing 7 = .ok (.aload_n 0, 1) := by decide +kernel
theorem dX8_putThing_8 : decode cX8_putThing 8 = .ok (.iconst 1, 1) := by decide +kernel
theorem dX8_putThing_9 : decode cX8_putThing 9 = .ok (.invokevirtual 41, 3) := by decide +kernel
theorem dX8_putThing_12 : decode cX8_putThing 12 = .ok (.ireturn, 1) := by decide +kernel
theorem dX8_putThing_13 : decode cX8_putThing 13 = .ok (.aload_n 0, 1) := by decide +kernel
theorem dX8_putThing_14 : decode cX8_putThing 14 = .ok (.iload_n 1, 1) := by decide +kernel
theorem dX8_putThing_15 : decode cX8_putThing 15 = .ok (.invokevirtual 57, 3) := by decide +kernel
theorem dX8_putThing_18 : decode cX8_putThing 18 = .ok (.astore 4, 2) := by decide +kernel
theorem dX8_putThing_20 : decode cX8_putThing 20 = .ok (.aload 4, 2) := by decide +kernel
theorem dX8_putThing_22 : decode cX8_putThing 22 = .ok (.ifnonnull 15, 3) := by decide +kernel
theorem dX8_putThing_25 : decode cX8_putThing 25 = .ok (.aload_n 0, 1) := by decide +kernel
theorem dX8_putThing_26 : decode cX8_putThing 26 = .ok (.aload_n 0, 1) := by decide +kernel
theorem dX8_putThing_27 : decode cX8_putThing 27 = .ok (.iload_n 1, 1) := by decide +kernel
theorem dX8_putThing_28 : decode cX8_putThing 28 = .ok (.iload_n 1, 1) := by decide +kernel
theorem dX8_putThing_29 : decode cX8_putThing 29 = .ok (.iload_n 1, 1) := by decide +kernel
theorem dX8_putThing_30 : decode cX8_putThing 30 = .ok (.invokevirtual 61, 3) := by decide +kernel
theorem dX8_putThing_33 : decode cX8_putThing 33 = .ok (.invokevirtual 41, 3) := by decide +kernel
theorem dX8_putThing_36 : decode cX8_putThing 36 = .ok (.ireturn, 1) := by decide +kernel
theorem dX8_putThing_37 : decode cX8_putThing 37 = .ok (.aload 4, 2) := by decide +kernel
theorem dX8_putThing_39 : decode cX8_putThing 39 = .ok (.iload_n 2, 1) := by decide +kernel
theorem dX8_putThing_40 : decode cX8_putThing 40 = .ok (.invokevirtual 87, 3) := by decide +kernel
theorem dX8_putThing_43 : decode cX8_putThing 43 = .ok (.ifCond .ne 9, 3) := by decide +kernel
theorem dX8_putThing_46 : decode cX8_putThing 46 = .ok (.aload_n 0, 1) := by decide +kernel
theorem dX8_putThing_47 : decode cX8_putThing 47 = .ok (.iconst 4, 1) := by decide +kernel
theorem dX8_putThing_48 : decode cX8_putThing 48 = .ok (.invokevirtual 41, 3) := by decide +kernel
theorem dX8_putThing_51 : decode cX8_putThing 51 = .ok (.ireturn, 1) := by decide +kernel
theorem dX8_putThing_52 : decode cX8_putThing 52 = .ok (.aload_n 0, 1) := by decide +kernel
theorem dX8_putThing_53 : decode cX8_putThing 53 = .ok (.getfield 26, 3) := by decide +kernel
theorem dX8_putThing_56 : decode cX8_putThing 56 = .ok (.aload_n 0, 1) := by decide +kernel
theorem dX8_putThing_57 : decode cX8_putThing 57 = .ok (.getfield 11, 3) := by decide +kernel
theorem dX8_putThing_60 : decode cX8_putThing 60 = .ok (.iload_n 3, 1) := by decide +kernel
theorem dX8_putThing_61 : decode cX8_putThing 61 = .ok (.aaload, 1) := by decide +kernel
theorem dX8_putThing_62 : decode cX8_putThing 62 = .ok (.invokevirtual 106, 3) := by decide +kernel
theorem dX8_putThing_65 : decode cX8_putThing 65 = .ok (.aload 4, 2) := by decide +kernel
theorem dX8_putThing_67 : decode cX8_putThing 67 = .ok (.aload_n 0, 1) := by decide +kernel
theorem dX8_putThing_68 : decode cX8_putThing 68 = .ok (.getfield 26, 3) := by decide +kernel
theorem dX8_putThing_71 : decode cX8_putThing 71 = .ok (.invokevirtual 94, 3) := by decide +kernel
theorem dX8_putThing_74 : decode cX8_putThing 74 = .ok (.ifCond .ne 9, 3) := by decide +kernel
theorem dX8_putThing_77 : decode cX8_putThing 77 = .ok (.aload_n 0, 1) := by decide +kernel
theorem dX8_putThing_78 : decode cX8_putThing 78 = .ok (.iconst 5, 1) := by decide +kernel
theorem dX8_putThing_79 : decode cX8_putThing 79 = .ok (.invokevirtual 41, 3) := by decide +kernel
theorem dX8_putThing_82 : decode cX8_putThing 82 = .ok (.ireturn, 1) := by decide +kernel
theorem dX8_putThing_83 : decode cX8_putThing 83 = .ok (.aload 4, 2) := by decide +kernel
theorem dX8_putThing_85 : decode cX8_putThing 85 = .ok (.iload_n 2, 1) := by decide +kernel
theorem dX8_putThing_86 : decode cX8_putThing 86 = .ok (.aload_n 0, 1) := by decide +kernel
theorem dX8_putThing_87 : decode cX8_putThing 87 = .ok (.getfield 26, 3) := by decide +kernel
theorem dX8_putThing_90 : decode cX8_putThing 90 = .ok (.invokevirtual 98, 3) := by decide +kernel
theorem dX8_putThing_93 : decode cX8_putThing 93 = .ok (.aload_n 0, 1) := by decide +kernel
theorem dX8_putThing_94 : decode cX8_putThing 94 = .ok (.aload_n 0, 1) := by decide +kernel
theorem dX8_putThing_95 : decode cX8_putThing 95 = .ok (.getfield 11, 3) := by decide +kernel
theorem dX8_putThing_98 : decode cX8_putThing 98 = .ok (.iload_n 3, 1) := by decide +kernel
theorem dX8_putThing_99 : decode cX8_putThing 99 = .ok (.aaload, 1) := by decide +kernel
theorem dX8_putThing_100 : decode cX8_putThing 100 = .ok (.ifnonnull 7, 3) := by decide +kernel
theorem dX8_putThing_103 : decode cX8_putThing 103 = .ok (.iconst 0, 1) := by decide +kernel
theorem dX8_putThing_104 : decode cX8_putThing 104 = .ok (.goto 4, 3) := by decide +kernel
theorem dX8_putThing_107 : decode cX8_putThing 107 = .ok (.iconst 1, 1) := by decide +kernel
theorem dX8_putThing_108 : decode cX8_putThing 108 = .ok (.invokevirtual 54, 3) := by decide +kernel
theorem dX8_putThing_111 : decode cX8_putThing 111 = .ok (.ireturn, 1) := by decide +kernel
theorem dX8_number_0 : decode cX8_number 0 = .ok (.iload_n 3, 1) := by decide +kernel
theorem dX8_number_1 : decode cX8_number 1 = .ok (.ifCond .lt 8, 3) := by decide +kernel
theorem dX8_number_4 : decode cX8_number 4 = .ok (.iload_n 3, 1) := by decide +kernel
theorem dX8_number_5 : decode cX8_number 5 = .ok (.iconst 5, 1) := by decide +kernel
theorem dX8_number_6 : decode cX8_number 6 = .ok (.if_icmp .le 10, 3) := by decide +kernel
theorem dX8_number_9 : decode cX8_number 9 = .ok (.aload_n 0, 1) := by decide +kernel
theorem dX8_number_10 : decode cX8_number 10 = .ok (.iconst 1, 1) := by decide +kernel
theorem dX8_number_11 : decode cX8_number 11 = .ok (.invokevirtual 41, 3) := by decide +kernel
theorem dX8_number_14 : decode cX8_number 14 = .ok (.i2l, 1) := by decide +kernel
theorem dX8_number_15 : decode cX8_number 15 = .ok (.lreturn, 1) := by decide +kernel
theorem dX8_number_16 : decode cX8_number 16 = .ok (.aload_n 0, 1) := by decide +kernel
theorem dX8_number_17 : decode cX8_number 17 = .ok (.iload_n 1, 1) := by decide +kernel
theorem dX8_number_18 : decode cX8_number 18 = .ok (.iload_n 2, 1) := by decide +kernel
theorem dX8_number_19 : decode cX8_number 19 = .ok (.iload_n 3, 1) := by decide +kernel
theorem dX8_number_20 : decode cX8_number 20 = .ok (.invokevirtual 110, 3) := by decide +kernel
theorem dX8_number_23 : decode cX8_number 23 = .ok (.istore 4, 2) := by decide +kernel
theorem dX8_number_25 : decode cX8_number 25 = .ok (.iload 4, 2) := by decide +kernel
theorem dX8_number_27 : decode cX8_number 27 = .ok (.ifCond .eq 11, 3) := by decide +kernel
theorem dX8_number_30 : decode cX8_number 30 = .ok (.aload_n 0, 1) := by decide +kernel
theorem dX8_number_31 : decode cX8_number 31 = .ok (.iload 4, 2) := by decide +kernel
theorem dX8_number_33 : decode cX8_number 33 = .ok (.invokevirtual 41, 3) := by decide +kernel
theorem dX8_number_36 : decode cX8_number 36 = .ok (.i2l, 1) := by decide +kernel
theorem dX8_number_37 : decode cX8_number 37 = .ok (.lreturn, 1) := by decide +kernel
theorem dX8_number_38 : decode cX8_number 38 = .ok (.aload_n 0, 1) := by decide +kernel
theorem dX8_number_39 : decode cX8_number 39 = .ok (.iconst 0, 1) := by decide +kernel
theorem dX8_number_40 : decode cX8_number 40 = .ok (.putfield 33, 3) := by decide +kernel
theorem dX8_number_43 : decode cX8_number 43 = .ok (.aload_n 0, 1) := by decide +kernel
theorem dX8_number_44 : decode cX8_number 44 = .ok (.getfield 26, 3) := by decide +kernel
theorem dX8_number_47 : decode cX8_number 47 = .ok (.getfield 113, 3) := by decide +kernel
theorem dX8_number_50 : decode cX8_number 50 = .ok (.lreturn, 1) := by decide +kernel
theorem dX8_point_0 : decode cX8_point 0 = .ok (.iload_n 3, 1) := by decide +kernel
theorem dX8_point_1 : decode cX8_point 1 = .ok (.bipush 6, 2) := by decide +kernel
theorem dX8_point_3 : decode cX8_point 3 = .ok (.if_icmp .eq 16, 3) := by decide +kernel
theorem dX8_point_6 : decode cX8_point 6 = .ok (.iload_n 3, 1) := by decide +kernel
theorem dX8_point_7 : decode cX8_point 7 = .ok (.bipush 7, 2) := by decide +kernel
theorem dX8_point_9 : decode cX8_point 9 = .ok (.if_icmp .eq 10, 3) := by decide +kernel
theorem dX8_point_12 : decode cX8_point 12 = .ok (.aload_n 0, 1) := by decide +kernel
theorem dX8_point_13 : decode cX8_point 13 = .ok (.iconst 1, 1) := by decide +kernel
theorem dX8_point_14 : decode cX8_point 14 = .ok (.invokevirtual 41, 3) := by decide +kernel
theorem dX8_point_17 : decode cX8_point 17 = .ok (.i2d, 1) := by decide +kernel
theorem dX8_point_18 : decode cX8_point 18 = .ok (.dreturn, 1) := by decide +kernel
theorem dX8_point_19 : decode cX8_point 19 = .ok (.aload_n 0, 1) := by decide +kernel
theorem dX8_point_20 : decode cX8_point 20 = .ok (.iload_n 1, 1) := by decide +kernel
theorem dX8_point_21 : decode cX8_point 21 = .ok (.iload_n 2, 1) := by decide +kernel
theorem dX8_point_22 : decode cX8_point 22 = .ok (.iload_n 3, 1) := by decide +kernel
theorem dX8_point_23 : decode cX8_point 23 = .ok (.invokevirtual 110, 3) := by decide +kernel
theorem dX8_point_26 : decode cX8_point 26 = .ok (.istore 4, 2) := by decide +kernel
theorem dX8_point_28 : decode cX8_point 28 = .ok (.iload 4, 2) := by decide +kernel
theorem dX8_point_30 : decode cX8_point 30 = .ok (.ifCond .eq 11, 3) := by decide +kernel
theorem dX8_point_33 : decode cX8_point 33 = .ok (.aload_n 0, 1) := by decide +kernel
theorem dX8_point_34 : decode cX8_point 34 = .ok (.iload 4, 2) := by decide +kernel
theorem dX8_point_36 : decode cX8_point 36 = .ok (.invokevirtual 41, 3) := by decide +kernel
theorem dX8_point_39 : decode cX8_point 39 = .ok (.i2d, 1) := by decide +kernel
theorem dX8_point_40 : decode cX8_point 40 = .ok (.dreturn, 1) := by decide +kernel
theorem dX8_point_41 : decode cX8_point 41 = .ok (.aload_n 0, 1) := by decide +kernel
theorem dX8_point_42 : decode cX8_point 42 = .ok (.iconst 0, 1) := by decide +kernel
theorem dX8_point_43 : decode cX8_point 43 = .ok (.putfield 33, 3) := by decide +kernel
theorem dX8_point_46 : decode cX8_point 46 = .ok (.aload_n 0, 1) := by decide +kernel
theorem dX8_point_47 : decode cX8_point 47 = .ok (.getfield 26, 3) := by decide +kernel
theorem dX8_point_50 : decode cX8_point 50 = .ok (.iload_n 3, 1) := by decide +kernel
theorem dX8_point_51 : decode cX8_point 51 = .ok (.invokevirtual 117, 3) := by decide +kernel
theorem dX8_point_54 : decode cX8_point 54 = .ok (.dreturn, 1) := by decide +kernel
theorem dX8_what_0 : decode cX8_what 0 = .ok (.aload_n 0, 1) := by decide +kernel
theorem dX8_what_1 : decode cX8_what 1 = .ok (.iload_n 1, 1) := by decide +kernel
theorem dX8_what_2 : decode cX8_what 2 = .ok (.invokevirtual 57, 3) := by decide +kernel
theorem dX8_what_5 : decode cX8_what 5 = .ok (.astore_n 3, 1) := by decide +kernel
theorem dX8_what_6 : decode cX8_what 6 = .ok (.aload_n 3, 1) := by decide +kernel
theorem dX8_what_7 : decode cX8_what 7 = .ok (.ifnonnull 15, 3) := by decide +kernel
theorem dX8_what_10 : decode cX8_what 10 = .ok (.aload_n 0, 1) := by decide +kernel
theorem dX8_what_11 : decode cX8_what 11 = .ok (.aload_n 0, 1) := by decide +kernel
theorem dX8_what_12 : decode cX8_what 12 = .ok (.iload_n 1, 1) := by decide +kernel
theorem dX8_what_13 : decode cX8_what 13 = .ok (.iload_n 1, 1) := by decide +kernel
theorem dX8_what_14 : decode cX8_what 14 = .ok (.iload_n 1, 1) := by decide +kernel
theorem dX8_what_15 : decode cX8_what 15 = .ok (.invokevirtual 61, 3) := by decide +kernel
theorem dX8_what_18 : decode cX8_what 18 = .ok (.invokevirtual 41, 3) := by decide +kernel
theorem dX8_what_21 : decode cX8_what 21 = .ok (.ireturn, 1) := by decide +kernel
theorem dX8_what_22 : decode cX8_what 22 = .ok (.aload_n 3, 1) := by decide +kernel
theorem dX8_what_23 : decode cX8_what 23 = .ok (.iload_n 2, 1) := by decide +kernel
theorem dX8_what_24 : decode cX8_what 24 = .ok (.invokevirtual 87, 3) := by decide +kernel
theorem dX8_what_27 : decode cX8_what 27 = .ok (.ifCond .ne 9, 3) := by decide +kernel
theorem dX8_what_30 : decode cX8_what 30 = .ok (.aload_n 0, 1) := by decide +kernel
theorem dX8_what_31 : decode cX8_what 31 = .ok (.iconst 4, 1) := by decide +kernel
theorem dX8_what_32 : decode cX8_what 32 = .ok (.invokevirtual 41, 3) := by decide +kernel
theorem dX8_what_35 : decode cX8_what 35 = .ok (.ireturn, 1) := by decide +kernel
theorem dX8_what_36 : decode cX8_what 36 = .ok (.aload_n 3, 1) := by decide +kernel
theorem dX8_what_37 : decode cX8_what 37 = .ok (.iload_n 2, 1) := by decide +kernel
theorem dX8_what_38 : decode cX8_what 38 = .ok (.aload_n 0, 1) := by decide +kernel
theorem dX8_what_39 : decode cX8_what 39 = .ok (.getfield 26, 3) := by decide +kernel
theorem dX8_what_42 : decode cX8_what 42 = .ok (.invokevirtual 121, 3) := by decide +kernel
theorem dX8_what_45 : decode cX8_what 45 = .ok (.aload_n 0, 1) := by decide +kernel
theorem dX8_what_46 : decode cX8_what 46 = .ok (.aload_n 0, 1) := by decide +kernel
theorem dX8_what_47 : decode cX8_what 47 = .ok (.getfield 26, 3) := by decide +kernel
theorem dX8_what_50 : decode cX8_what 50 = .ok (.invokevirtual 124, 3) := by decide +kernel
theorem dX8_what_53 : decode cX8_what 53 = .ok (.ifCond .eq 13, 3) := by decide +kernel
theorem dX8_what_56 : decode cX8_what 56 = .ok (.aload_n 0, 1) := by decide +kernel
theorem dX8_what_57 : decode cX8_what 57 = .ok (.getfield 26, 3) := by decide +kernel
theorem dX8_what_60 : decode cX8_what 60 = .ok (.getfield 128, 3) := by decide +kernel
theorem dX8_what_63 : decode cX8_what 63 = .ok (.goto 13, 3) := by decide +kernel
theorem dX8_what_66 : decode cX8_what 66 = .ok (.aload_n 0, 1) := by decide +kernel
theorem dX8_what_67 : decode cX8_what 67 = .ok (.getfield 26, 3) := by decide +kernel
theorem dX8_what_70 : decode cX8_what 70 = .ok (.getfield 131, 3) := by decide +kernel
theorem dX8_what_73 : decode cX8_what 73 = .ok (.invokestatic 70, 3) := by decide +kernel
theorem dX8_what_76 : decode cX8_what 76 = .ok (.invokevirtual 54, 3) := by decide +kernel
theorem dX8_what_79 : decode cX8_what 79 = .ok (.ireturn, 1) := by decide +kernel
theorem dX8_take_0 : decode cX8_take 0 = .ok (.iload_n 3, 1) := by decide +kernel
theorem dX8_take_1 : decode cX8_take 1 = .ok (.invokestatic 37, 3) := by decide +kernel
theorem dX8_take_4 : decode cX8_take 4 = .ok (.ifCond .ne 9, 3) := by decide +kernel
theorem dX8_take_7 : decode cX8_take 7 = .ok (.aload_n 0, 1) := by decide +kernel
theorem dX8_take_8 : decode cX8_take 8 = .ok (.iconst 1, 1) := by decide +kernel
theorem dX8_take_9 : decode cX8_take 9 = .ok (.invokevirtual 41, 3) := by decide +kernel
theorem dX8_take_12 : decode cX8_take 12 = .ok (.ireturn, 1) := by decide +kernel
theorem dX8_take_13 : decode cX8_take 13 = .ok (.aload_n 0, 1) := by decide +kernel
theorem dX8_take_14 : decode cX8_take 14 = .ok (.iload_n 1, 1) := by decide +kernel
theorem dX8_take_15 : decode cX8_take 15 = .ok (.invokevirtual 57, 3) := by decide +kernel
theorem dX8_take_18 : decode cX8_take 18 = .ok (.astore 4, 2) := by decide +kernel
theorem dX8_take_20 : decode cX8_take 20 = .ok (.aload 4, 2) := by decide +kernel
theorem dX8_take_22 : decode cX8_take 22 = .ok (.ifnonnull 15, 3) := by decide +kernel
theorem dX8_take_25 : decode cX8_take 25 = .ok (.aload_n 0, 1) := by decide +kernel
theorem dX8_take_26 : decode cX8_take 26 = .ok (.aload_n 0, 1) := by decide +kernel
theorem dX8_take_27 : decode cX8_take 27 = .ok (.iload_n 1, 1) := by decide +kernel
theorem dX8_take_28 : decode cX8_take 28 = .ok (.iload_n 1, 1) := by decide +kernel
theorem dX8_take_29 : decode cX8_take 29 = .ok (.iload_n 1, 1) := by decide +kernel
theorem dX8_take_30 : decode cX8_take 30 = .ok (.invokevirtual 61, 3) := by decide +kernel
theorem dX8_take_33 : decode cX8_take 33 = .ok (.invokevirtual 41, 3) := by decide +kernel
theorem dX8_take_36 : decode cX8_take 36 = .ok (.ireturn, 1) := by decide +kernel
theorem dX8_take_37 : decode cX8_take 37 = .ok (.aload 4, 2) := by decide +kernel
theorem dX8_take_39 : decode cX8_take 39 = .ok (.invokevirtual 135, 3) := by decide +kernel
theorem dX8_take_42 : decode cX8_take 42 = .ok (.ifCond .eq 10, 3) := by decide +kernel
theorem dX8_take_45 : decode cX8_take 45 = .ok (.aload_n 0, 1) := by decide +kernel
theorem dX8_take_46 : decode cX8_take 46 = .ok (.bipush 6, 2) := by decide +kernel
theorem dX8_take_48 : decode cX8_take 48 = .ok (.invokevirtual 41, 3) := by decide +kernel
theorem dX8_take_51 : decode cX8_take 51 = .ok (.ireturn, 1) := by decide +kernel
theorem dX8_take_52 : decode cX8_take 52 = .ok (.aload 4, 2) := by decide +kernel
theorem dX8_take_54 : decode cX8_take 54 = .ok (.iload_n 2, 1) := by decide +kernel
theorem dX8_take_55 : decode cX8_take 55 = .ok (.invokevirtual 87, 3) := by decide +kernel
theorem dX8_take_58 : decode cX8_take 58 = .ok (.ifCond .ne 9, 3) := by decide +kernel
theorem dX8_take_61 : decode cX8_take 61 = .ok (.aload_n 0, 1) := by decide +kernel
theorem dX8_take_62 : decode cX8_take 62 = .ok (.iconst 4, 1) := by decide +kernel
theorem dX8_take_63 : decode cX8_take 63 = .ok (.invokevirtual 41, 3) := by decide +kernel
theorem dX8_take_66 : decode cX8_take 66 = .ok (.ireturn, 1) := by decide +kernel
theorem dX8_take_67 : decode cX8_take 67 = .ok (.aload 4, 2) := by decide +kernel
theorem dX8_take_69 : decode cX8_take 69 = .ok (.iload_n 2, 1) := by decide +kernel
theorem dX8_take_70 : decode cX8_take 70 = .ok (.aload_n 0, 1) := by decide +kernel
theorem dX8_take_71 : decode cX8_take 71 = .ok (.getfield 26, 3) := by decide +kernel
theorem dX8_take_74 : decode cX8_take 74 = .ok (.invokevirtual 121, 3) := by decide +kernel
theorem dX8_take_77 : decode cX8_take 77 = .ok (.aload_n 0, 1) := by decide +kernel
theorem dX8_take_78 : decode cX8_take 78 = .ok (.getfield 11, 3) := by decide +kernel
theorem dX8_take_81 : decode cX8_take 81 = .ok (.iload_n 3, 1) := by decide +kernel
theorem dX8_take_82 : decode cX8_take 82 = .ok (.aload_n 0, 1) := by decide +kernel
theorem dX8_take_83 : decode cX8_take 83 = .ok (.getfield 26, 3) := by decide +kernel
theorem dX8_take_86 : decode cX8_take 86 = .ok (.getfield 131, 3) := by decide +kernel
theorem dX8_take_89 : decode cX8_take 89 = .ok (.aastore, 1) := by decide +kernel
theorem dX8_take_90 : decode cX8_take 90 = .ok (.aload_n 0, 1) := by decide +kernel
theorem dX8_take_91 : decode cX8_take 91 = .ok (.aload_n 0, 1) := by decide +kernel
theorem dX8_take_92 : decode cX8_take 92 = .ok (.getfield 26, 3) := by decide +kernel
theorem dX8_take_95 : decode cX8_take 95 = .ok (.getfield 131, 3) := by decide +kernel
theorem dX8_take_98 : decode cX8_take 98 = .ok (.ifnonnull 7, 3) := by decide +kernel
theorem dX8_take_101 : decode cX8_take 101 = .ok (.iconst 0, 1) := by decide +kernel
theorem dX8_take_102 : decode cX8_take 102 = .ok (.goto 4, 3) := by decide +kernel
theorem dX8_take_105 : decode cX8_take 105 = .ok (.iconst 1, 1) := by decide +kernel
theorem dX8_take_106 : decode cX8_take 106 = .ok (.invokevirtual 54, 3) := by decide +kernel
theorem dX8_take_109 : decode cX8_take 109 = .ok (.ireturn, 1) := by decide +kernel
theorem dX8_copy_0 : decode cX8_copy 0 = .ok (.aload_n 0, 1) := by decide +kernel
theorem dX8_copy_1 : decode cX8_copy 1 = .ok (.iload_n 1, 1) := by decide +kernel
theorem dX8_copy_2 : decode cX8_copy 2 = .ok (.invokevirtual 57, 3) := by decide +kernel
theorem dX8_copy_5 : decode cX8_copy 5 = .ok (.astore_n 3, 1) := by decide +kernel
theorem dX8_copy_6 : decode cX8_copy 6 = .ok (.aload_n 0, 1) := by decide +kernel
theorem dX8_copy_7 : decode cX8_copy 7 = .ok (.iload_n 2, 1) := by decide +kernel
theorem dX8_copy_8 : decode cX8_copy 8 = .ok (.invokevirtual 57, 3) := by decide +kernel
theorem dX8_copy_11 : decode cX8_copy 11 = .ok (.astore 4, 2) := by decide +kernel
theorem dX8_copy_13 : decode cX8_copy 13 = .ok (.aload_n 3, 1) := by decide +kernel
theorem dX8_copy_14 : decode cX8_copy 14 = .ok (.ifnull 8, 3) := by decide +kernel
theorem dX8_copy_17 : decode cX8_copy 17 = .ok (.aload 4, 2) := by decide +kernel
theorem dX8_copy_19 : decode cX8_copy 19 = .ok (.ifnonnull 15, 3) := by decide +kernel
theorem dX8_copy_22 : decode cX8_copy 22 = .ok (.aload_n 0, 1) := by decide +kernel
theorem dX8_copy_23 : decode cX8_copy 23 = .ok (.aload_n 0, 1) := by decide +kernel
theorem dX8_copy_24 : decode cX8_copy 24 = .ok (.iload_n 1, 1) := by decide +kernel
theorem dX8_copy_25 : decode cX8_copy 25 = .ok (.iload_n 2, 1) := by decide +kernel
theorem dX8_copy_26 : decode cX8_copy 26 = .ok (.iload_n 2, 1) := by decide +kernel
theorem dX8_copy_27 : decode cX8_copy 27 = .ok (.invokevirtual 61, 3) := by decide +kernel
theorem dX8_copy_30 : decode cX8_copy 30 = .ok (.invokevirtual 41, 3) := by decide +kernel
theorem dX8_copy_33 : decode cX8_copy 33 = .ok (.ireturn, 1) := by decide +kernel
theorem dX8_copy_34 : decode cX8_copy 34 = .ok (.aload_n 3, 1) := by decide +kernel
theorem dX8_copy_35 : decode cX8_copy 35 = .ok (.getfield 65, 3) := by decide +kernel
theorem dX8_copy_38 : decode cX8_copy 38 = .ok (.aload 4, 2) := by decide +kernel
theorem dX8_copy_40 : decode cX8_copy 40 = .ok (.getfield 65, 3) := by decide +kernel
theorem dX8_copy_43 : decode cX8_copy 43 = .ok (.if_icmp .eq 9, 3) := by decide +kernel
theorem dX8_copy_46 : decode cX8_copy 46 = .ok (.aload_n 0, 1) := by decide +kernel
theorem dX8_copy_47 : decode cX8_copy 47 = .ok (.iconst 4, 1) := by decide +kernel
theorem dX8_copy_48 : decode cX8_copy 48 = .ok (.invokevirtual 41, 3) := by decide +kernel
theorem dX8_copy_51 : decode cX8_copy 51 = .ok (.ireturn, 1) := by decide +kernel
theorem dX8_copy_52 : decode cX8_copy 52 = .ok (.iconst 0, 1) := by decide +kernel
theorem dX8_copy_53 : decode cX8_copy 53 = .ok (.istore 5, 2) := by decide +kernel
theorem dX8_copy_55 : decode cX8_copy 55 = .ok (.iload 5, 2) := by decide +kernel
theorem dX8_copy_57 : decode cX8_copy 57 = .ok (.aload 4, 2) := by decide +kernel
theorem dX8_copy_59 : decode cX8_copy 59 = .ok (.getfield 65, 3) := by decide +kernel
theorem dX8_copy_62 : decode cX8_copy 62 = .ok (.if_icmp .ge 29, 3) := by decide +kernel
theorem dX8_copy_65 : decode cX8_copy 65 = .ok (.aload_n 0, 1) := by decide +kernel
theorem dX8_copy_66 : decode cX8_copy 66 = .ok (.iload 5, 2) := by decide +kernel
theorem dX8_copy_68 : decode cX8_copy 68 = .ok (.aload_n 3, 1) := by decide +kernel
theorem dX8_copy_69 : decode cX8_copy 69 = .ok (.iload 5, 2) := by decide +kernel
theorem dX8_copy_71 : decode cX8_copy 71 = .ok (.aload 4, 2) := by decide +kernel
theorem dX8_copy_73 : decode cX8_copy 73 = .ok (.invokevirtual 138, 3) := by decide +kernel
theorem dX8_copy_76 : decode cX8_copy 76 = .ok (.ifCond .ne 9, 3) := by decide +kernel
theorem dX8_copy_79 : decode cX8_copy 79 = .ok (.aload_n 0, 1) := by decide +kernel
theorem dX8_copy_80 : decode cX8_copy 80 = .ok (.iconst 5, 1) := by decide +kernel
theorem dX8_copy_81 : decode cX8_copy 81 = .ok (.invokevirtual 41, 3) := by decide +kernel
theorem dX8_copy_84 : decode cX8_copy 84 = .ok (.ireturn, 1) := by decide +kernel
theorem dX8_copy_85 : decode cX8_copy 85 = .ok (.iinc 5 1, 3) := by decide +kernel
theorem dX8_copy_88 : decode cX8_copy 88 = .ok (.goto (-33), 3) := by decide +kernel
theorem dX8_copy_91 : decode cX8_copy 91 = .ok (.aload_n 0, 1) := by decide +kernel
theorem dX8_copy_92 : decode cX8_copy 92 = .ok (.aload_n 0, 1) := by decide +kernel
theorem dX8_copy_93 : decode cX8_copy 93 = .ok (.aload 4, 2) := by decide +kernel
theorem dX8_copy_95 : decode cX8_copy 95 = .ok (.invokevirtual 142, 3) := by decide +kernel
theorem dX8_copy_98 : decode cX8_copy 98 = .ok (.invokevirtual 54, 3) := by decide +kernel
theorem dX8_copy_101 : decode cX8_copy 101 = .ok (.ireturn, 1) := by decide +kernel
theorem dX8_gather_0 : decode cX8_gather 0 = .ok (.aload_n 0, 1) := by decide +kernel
theorem dX8_gather_1 : decode cX8_gather 1 = .ok (.iload_n 1, 1) := by decide +kernel
theorem dX8_gather_2 : decode cX8_gather 2 = .ok (.invokevirtual 57, 3) := by decide +kernel
theorem dX8_gather_5 : decode cX8_gather 5 = .ok (.astore 4, 2) := by decide +kernel
theorem dX8_gather_7 : decode cX8_gather 7 = .ok (.aload_n 0, 1) := by decide +kernel
theorem dX8_gather_8 : decode cX8_gather 8 = .ok (.iload_n 2, 1) := by decide +kernel
theorem dX8_gather_9 : decode cX8_gather 9 = .ok (.invokevirtual 57, 3) := by decide +kernel
theorem dX8_gather_12 : decode cX8_gather 12 = .ok (.astore 5, 2) := by decide +kernel
theorem dX8_gather_14 : decode cX8_gather 14 = .ok (.aload_n 0, 1) := by decide +kernel
theorem dX8_gather_15 : decode cX8_gather 15 = .ok (.iload_n 3, 1) := by decide +kernel
theorem dX8_gather_16 : decode cX8_gather 16 = .ok (.invokevirtual 57, 3) := by decide +kernel
theorem dX8_gather_19 : decode cX8_gather 19 = .ok (.astore 6, 2) := by decide +kernel
theorem dX8_gather_21 : decode cX8_gather 21 = .ok (.aload 4, 2) := by decide +kernel
theorem dX8_gather_23 : decode cX8_gather 23 = .ok (.ifnull 13, 3) := by decide +kernel
theorem dX8_gather_26 : decode cX8_gather 26 = .ok (.aload 5, 2) := by decide +kernel
theorem dX8_gather_28 : decode cX8_gather 28 = .ok (.ifnull 8, 3) := by decide +kernel
theorem dX8_gather_31 : decode cX8_gather 31 = .ok (.aload 6, 2) := by decide +kernel
theorem dX8_gather_33 : decode cX8_gather 33 = .ok (.ifnonnull 15, 3) := by decide +kernel
theorem dX8_gather_36 : decode cX8_gather 36 = .ok (.aload_n 0, 1) := by decide +kernel
theorem dX8_gather_37 : decode cX8_gather 37 = .ok (.aload_n 0, 1) := by decide +kernel
theorem dX8_gather_38 : decode cX8_gather 38 = .ok (.iload_n 1, 1) := by decide +kernel
theorem dX8_gather_39 : decode cX8_gather 39 = .ok (.iload_n 2, 1) := by decide +kernel
theorem dX8_gather_40 : decode cX8_gather 40 = .ok (.iload_n 3, 1) := by decide +kernel
theorem dX8_gather_41 : decode cX8_gather 41 = .ok (.invokevirtual 61, 3) := by decide +kernel
theorem dX8_gather_44 : decode cX8_gather 44 = .ok (.invokevirtual 41, 3) := by decide +kernel
theorem dX8_gather_47 : decode cX8_gather 47 = .ok (.ireturn, 1) := by decide +kernel
theorem dX8_gather_48 : decode cX8_gather 48 = .ok (.aload 5, 2) := by decide +kernel
theorem dX8_gather_50 : decode cX8_gather 50 = .ok (.aload 6, 2) := by decide +kernel
theorem dX8_gather_52 : decode cX8_gather 52 = .ok (.getfield 65, 3) := by decide +kernel
theorem dX8_gather_55 : decode cX8_gather 55 = .ok (.invokestatic 146, 3) := by decide +kernel
theorem dX8_gather_58 : decode cX8_gather 58 = .ok (.istore 7, 2) := by decide +kernel
theorem dX8_gather_60 : decode cX8_gather 60 = .ok (.iload 7, 2) := by decide +kernel
theorem dX8_gather_62 : decode cX8_gather 62 = .ok (.ifCond .eq 10, 3) := by decide +kernel
theorem dX8_gather_65 : decode cX8_gather 65 = .ok (.aload_n 0, 1) := by decide +kernel
theorem dX8_gather_66 : decode cX8_gather 66 = .ok (.iload 7, 2) := by decide +kernel
theorem dX8_gather_68 : decode cX8_gather 68 = .ok (.invokevirtual 41, 3) := by decide +kernel
theorem dX8_gather_71 : decode cX8_gather 71 = .ok (.ireturn, 1) := by decide +kernel
theorem dX8_gather_72 : decode cX8_gather 72 = .ok (.iconst 0, 1) := by decide +kernel
theorem dX8_gather_73 : decode cX8_gather 73 = .ok (.istore 8, 2) := by decide +kernel
theorem dX8_gather_75 : decode cX8_gather 75 = .ok (.iload 8, 2) := by decide +kernel
theorem dX8_gather_77 : decode cX8_gather 77 = .ok (.aload 6, 2) := by decide +kernel
theorem dX8_gather_79 : decode cX8_gather 79 = .ok (.getfield 65, 3) := by decide +kernel
theorem dX8_gather_82 : decode cX8_gather 82 = .ok (.if_icmp .ge 56, 3) := by decide +kernel
theorem dX8_gather_85 : decode cX8_gather 85 = .ok (.aload_n 0, 1) := by decide +kernel
theorem dX8_gather_86 : decode cX8_gather 86 = .ok (.aload 5, 2) := by decide +kernel
theorem dX8_gather_88 : decode cX8_gather 88 = .ok (.iload 8, 2) := by decide +kernel
theorem dX8_gather_90 : decode cX8_gather 90 = .ok (.invokevirtual 150, 3) := by decide +kernel
theorem dX8_gather_93 : decode cX8_gather 93 = .ok (.istore 9, 2) := by decide +kernel
theorem dX8_gather_95 : decode cX8_gather 95 = .ok (.aload 4, 2) := by decide +kernel
theorem dX8_gather_97 : decode cX8_gather 97 = .ok (.iload 9, 2) := by decide +kernel
theorem dX8_gather_99 : decode cX8_gather 99 = .ok (.invokevirtual 87, 3) := by decide +kernel
theorem dX8_gather_102 : decode cX8_gather 102 = .ok (.ifCond .ne 9, 3) := by decide +kernel
theorem dX8_gather_105 : decode cX8_gather 105 = .ok (.aload_n 0, 1) := by decide +kernel
theorem dX8_gather_106 : decode cX8_gather 106 = .ok (.iconst 4, 1) := by decide +kernel
theorem dX8_gather_107 : decode cX8_gather 107 = .ok (.invokevirtual 41, 3) := by decide +kernel
theorem dX8_gather_110 : decode cX8_gather 110 = .ok (.ireturn, 1) := by decide +kernel
theorem dX8_gather_111 : decode cX8_gather 111 = .ok (.aload_n 0, 1) := by decide +kernel
theorem dX8_gather_112 : decode cX8_gather 112 = .ok (.iload 8, 2) := by decide +kernel
theorem dX8_gather_114 : decode cX8_gather 114 = .ok (.aload 4, 2) := by decide +kernel
theorem dX8_gather_116 : decode cX8_gather 116 = .ok (.iload 9, 2) := by decide +kernel
theorem dX8_gather_118 : decode cX8_gather 118 = .ok (.aload 6, 2) := by decide +kernel
theorem dX8_gather_120 : decode cX8_gather 120 = .ok (.invokevirtual 138, 3) := by decide +kernel
theorem dX8_gather_123 : decode cX8_gather 123 = .ok (.ifCond .ne 9, 3) := by decide +kernel
theorem dX8_gather_126 : decode cX8_gather 126 = .ok (.aload_n 0, 1) := by decide +kernel
theorem dX8_gather_127 : decode cX8_gather 127 = .ok (.iconst 5, 1) := by decide +kernel
theorem dX8_gather_128 : decode cX8_gather 128 = .ok (.invokevirtual 41, 3) := by decide +kernel
theorem dX8_gather_131 : decode cX8_gather 131 = .ok (.ireturn, 1) := by decide +kernel
theorem dX8_gather_132 : decode cX8_gather 132 = .ok (.iinc 8 1, 3) := by decide +kernel
theorem dX8_gather_135 : decode cX8_gather 135 = .ok (.goto (-60), 3) := by decide +kernel
theorem dX8_gather_138 : decode cX8_gather 138 = .ok (.aload_n 0, 1) := by decide +kernel
theorem dX8_gather_139 : decode cX8_gather 139 = .ok (.aload_n 0, 1) := by decide +kernel
theorem dX8_gather_140 : decode cX8_gather 140 = .ok (.aload 6, 2) := by decide +kernel
theorem dX8_gather_142 : decode cX8_gather 142 = .ok (.invokevirtual 142, 3) := by decide +kernel
theorem dX8_gather_145 : decode cX8_gather 145 = .ok (.invokevirtual 54, 3) := by decide +kernel
theorem dX8_gather_148 : decode cX8_gather 148 = .ok (.ireturn, 1) := by decide +kernel
theorem dX8_scatter_0 : decode cX8_scatter 0 = .ok (.aload_n 0, 1) := by decide +kernel
theorem dX8_scatter_1 : decode cX8_scatter 1 = .ok (.iload_n 1, 1) := by decide +kernel
theorem dX8_scatter_2 : decode cX8_scatter 2 = .ok (.invokevirtual 57, 3) := by decide +kernel
theorem dX8_scatter_5 : decode cX8_scatter 5 = .ok (.astore 4, 2) := by decide +kernel
theorem dX8_scatter_7 : decode cX8_scatter 7 = .ok (.aload_n 0, 1) := by decide +kernel
theorem dX8_scatter_8 : decode cX8_scatter 8 = .ok (.iload_n 2, 1) := by decide +kernel
theorem dX8_scatter_9 : decode cX8_scatter 9 = .ok (.invokevirtual 57, 3) := by decide +kernel
theorem dX8_scatter_12 : decode cX8_scatter 12 = .ok (.astore 5, 2) := by decide +kernel
theorem dX8_scatter_14 : decode cX8_scatter 14 = .ok (.aload_n 0, 1) := by decide +kernel
theorem dX8_scatter_15 : decode cX8_scatter 15 = .ok (.iload_n 3, 1) := by decide +kernel
theorem dX8_scatter_16 : decode cX8_scatter 16 = .ok (.invokevirtual 57, 3) := by decide +kernel
theorem dX8_scatter_19 : decode cX8_scatter 19 = .ok (.astore 6, 2) := by decide +kernel
theorem dX8_scatter_21 : decode cX8_scatter 21 = .ok (.aload 4, 2) := by decide +kernel
theorem dX8_scatter_23 : decode cX8_scatter 23 = .ok (.ifnull 13, 3) := by decide +kernel
theorem dX8_scatter_26 : decode cX8_scatter 26 = .ok (.aload 5, 2) := by decide +kernel
theorem dX8_scatter_28 : decode cX8_scatter 28 = .ok (.ifnull 8, 3) := by decide +kernel
theorem dX8_scatter_31 : decode cX8_scatter 31 = .ok (.aload 6, 2) := by decide +kernel
theorem dX8_scatter_33 : decode cX8_scatter 33 = .ok (.ifnonnull 15, 3) := by decide +kernel
theorem dX8_scatter_36 : decode cX8_scatter 36 = .ok (.aload_n 0, 1) := by decide +kernel
theorem dX8_scatter_37 : decode cX8_scatter 37 = .ok (.aload_n 0, 1) := by decide +kernel
theorem dX8_scatter_38 : decode cX8_scatter 38 = .ok (.iload_n 1, 1) := by decide +kernel
theorem dX8_scatter_39 : decode cX8_scatter 39 = .ok (.iload_n 2, 1) := by decide +kernel
theorem dX8_scatter_40 : decode cX8_scatter 40 = .ok (.iload_n 3, 1) := by decide +kernel
theorem dX8_scatter_41 : decode cX8_scatter 41 = .ok (.invokevirtual 61, 3) := by decide +kernel
theorem dX8_scatter_44 : decode cX8_scatter 44 = .ok (.invokevirtual 41, 3) := by decide +kernel
theorem dX8_scatter_47 : decode cX8_scatter 47 = .ok (.ireturn, 1) := by decide +kernel
theorem dX8_scatter_48 : decode cX8_scatter 48 = .ok (.aload 5, 2) := by decide +kernel
theorem dX8_scatter_50 : decode cX8_scatter 50 = .ok (.aload 4, 2) := by decide +kernel
theorem dX8_scatter_52 : decode cX8_scatter 52 = .ok (.getfield 65, 3) := by decide +kernel
theorem dX8_scatter_55 : decode cX8_scatter 55 = .ok (.invokestatic 146, 3) := by decide +kernel
theorem dX8_scatter_58 : decode cX8_scatter 58 = .ok (.istore 7, 2) := by decide +kernel
theorem dX8_scatter_60 : decode cX8_scatter 60 = .ok (.iload 7, 2) := by decide +kernel
theorem dX8_scatter_62 : decode cX8_scatter 62 = .ok (.ifCond .eq 10, 3) := by decide +kernel
theorem dX8_scatter_65 : decode cX8_scatter 65 = .ok (.aload_n 0, 1) := by decide +kernel
theorem dX8_scatter_66 : decode cX8_scatter 66 = .ok (.iload 7, 2) := by decide +kernel
theorem dX8_scatter_68 : decode cX8_scatter 68 = .ok (.invokevirtual 41, 3) := by decide +kernel
theorem dX8_scatter_71 : decode cX8_scatter 71 = .ok (.ireturn, 1) := by decide +kernel
theorem dX8_scatter_72 : decode cX8_scatter 72 = .ok (.iconst 0, 1) := by decide +kernel
theorem dX8_scatter_73 : decode cX8_scatter 73 = .ok (.istore 8, 2) := by decide +kernel
theorem dX8_scatter_75 : decode cX8_scatter 75 = .ok (.iload 8, 2) := by decide +kernel
theorem dX8_scatter_77 : decode cX8_scatter 77 = .ok (.aload 5, 2) := by decide +kernel
theorem dX8_scatter_79 : decode cX8_scatter 79 = .ok (.getfield 65, 3) := by decide +kernel
theorem dX8_scatter_82 : decode cX8_scatter 82 = .ok (.if_icmp .ge 66, 3) := by decide +kernel
theorem dX8_scatter_85 : decode cX8_scatter 85 = .ok (.aload_n 0, 1) := by decide +kernel
theorem dX8_scatter_86 : decode cX8_scatter 86 = .ok (.getfield 22, 3) := by decide +kernel
theorem dX8_scatter_89 : decode cX8_scatter 89 = .ok (.iload 8, 2) := by decide +kernel
theorem dX8_scatter_91 : decode cX8_scatter 91 = .ok (.aload_n 0, 1) := by decide +kernel
theorem dX8_scatter_92 : decode cX8_scatter 92 = .ok (.aload 5, 2) := by decide +kernel
theorem dX8_scatter_94 : decode cX8_scatter 94 = .ok (.iload 8, 2) := by decide +kernel
theorem dX8_scatter_96 : decode cX8_scatter 96 = .ok (.invokevirtual 150, 3) := by decide +kernel
theorem dX8_scatter_99 : decode cX8_scatter 99 = .ok (.iastore, 1) := by decide +kernel
theorem dX8_scatter_100 : decode cX8_scatter 100 = .ok (.aload 6, 2) := by decide +kernel
theorem dX8_scatter_102 : decode cX8_scatter 102 = .ok (.aload_n 0, 1) := by decide +kernel
theorem dX8_scatter_103 : decode cX8_scatter 103 = .ok (.getfield 22, 3) := by decide +kernel
theorem dX8_scatter_106 : decode cX8_scatter 106 = .ok (.iload 8, 2) := by decide +kernel
theorem dX8_scatter_108 : decode cX8_scatter 108 = .ok (.iaload, 1) := by decide +kernel
theorem dX8_scatter_109 : decode cX8_scatter 109 = .ok (.invokevirtual 87, 3) := by decide +kernel
theorem dX8_scatter_112 : decode cX8_scatter 112 = .ok (.ifCond .ne 9, 3) := by decide +kernel
theorem dX8_scatter_115 : decode cX8_scatter 115 = .ok (.aload_n 0, 1) := by decide +kernel
theorem dX8_scatter_116 : decode cX8_scatter 116 = .ok (.iconst 4, 1) := by decide +kernel
theorem dX8_scatter_117 : decode cX8_scatter 117 = .ok (.invokevirtual 41, 3) := by decide +kernel
theorem dX8_scatter_120 : decode cX8_scatter 120 = .ok (.ireturn, 1) := by decide +kernel
theorem dX8_scatter_121 : decode cX8_scatter 121 = .ok (.aload_n 0, 1) := by decide +kernel
theorem dX8_scatter_122 : decode cX8_scatter 122 = .ok (.iload 8, 2) := by decide +kernel
theorem dX8_scatter_124 : decode cX8_scatter 124 = .ok (.aload 4, 2) := by decide +kernel
theorem dX8_scatter_126 : decode cX8_scatter 126 = .ok (.iload 8, 2) := by decide +kernel
theorem dX8_scatter_128 : decode cX8_scatter 128 = .ok (.aload 6, 2) := by decide +kernel
theorem dX8_scatter_130 : decode cX8_scatter 130 = .ok (.invokevirtual 138, 3) := by decide +kernel
theorem dX8_scatter_133 : decode cX8_scatter 133 = .ok (.ifCond .ne 9, 3) := by decide +kernel
theorem dX8_scatter_136 : decode cX8_scatter 136 = .ok (.aload_n 0, 1) := by decide +kernel
theorem dX8_scatter_137 : decode cX8_scatter 137 = .ok (.iconst 5, 1) := by decide +kernel
theorem dX8_scatter_138 : decode cX8_scatter 138 = .ok (.invokevirtual 41, 3) := by decide +kernel
theorem dX8_scatter_141 : decode cX8_scatter 141 = .ok (.ireturn, 1) := by decide +kernel
theorem dX8_scatter_142 : decode cX8_scatter 142 = .ok (.iinc 8 1, 3) := by decide +kernel
theorem dX8_scatter_145 : decode cX8_scatter 145 = .ok (.goto (-70), 3) := by decide +kernel
theorem dX8_scatter_148 : decode cX8_scatter 148 = .ok (.iconst 0, 1) := by decide +kernel
theorem dX8_scatter_149 : decode cX8_scatter 149 = .ok (.istore 8, 2) := by decide +kernel
theorem dX8_scatter_151 : decode cX8_scatter 151 = .ok (.iload 8, 2) := by decide +kernel
theorem dX8_scatter_153 : decode cX8_scatter 153 = .ok (.aload 5, 2) := by decide +kernel
theorem dX8_scatter_155 : decode cX8_scatter 155 = .ok (.getfield 65, 3) := by decide +kernel
theorem dX8_scatter_158 : decode cX8_scatter 158 = .ok (.if_icmp .ge 28, 3) := by decide +kernel
theorem dX8_scatter_161 : decode cX8_scatter 161 = .ok (.aload 6, 2) := by decide +kernel
theorem dX8_scatter_163 : decode cX8_scatter 163 = .ok (.aload_n 0, 1) := by decide +kernel
theorem dX8_scatter_164 : decode cX8_scatter 164 = .ok (.getfield 22, 3) := by decide +kernel
theorem dX8_scatter_167 : decode cX8_scatter 167 = .ok (.iload 8, 2) := by decide +kernel
theorem dX8_scatter_169 : decode cX8_scatter 169 = .ok (.iaload, 1) := by decide +kernel
theorem dX8_scatter_170 : decode cX8_scatter 170 = .ok (.aload_n 0, 1) := by decide +kernel
theorem dX8_scatter_171 : decode cX8_scatter 171 = .ok (.getfield 17, 3) := by decide +kernel
theorem dX8_scatter_174 : decode cX8_scatter 174 = .ok (.iload 8, 2) := by decide +kernel
theorem dX8_scatter_176 : decode cX8_scatter 176 = .ok (.aaload, 1) := by decide +kernel
theorem dX8_scatter_177 : decode cX8_scatter 177 = .ok (.invokevirtual 98, 3) := by decide +kernel
theorem dX8_scatter_180 : decode cX8_scatter 180 = .ok (.iinc 8 1, 3) := by decide +kernel
theorem dX8_scatter_183 : decode cX8_scatter 183 = .ok (.goto (-32), 3) := by decide +kernel
theorem dX8_scatter_186 : decode cX8_scatter 186 = .ok (.aload_n 0, 1) := by decide +kernel
theorem dX8_scatter_187 : decode cX8_scatter 187 = .ok (.aload 5, 2) := by decide +kernel
theorem dX8_scatter_189 : decode cX8_scatter 189 = .ok (.getfield 65, 3) := by decide +kernel
theorem dX8_scatter_192 : decode cX8_scatter 192 = .ok (.invokevirtual 54, 3) := by decide +kernel
theorem dX8_scatter_195 : decode cX8_scatter 195 = .ok (.ireturn, 1) := by decide +kernel
theorem dX8_merge_0 : decode cX8_merge 0 = .ok (.aload_n 0, 1) := by decide +kernel
theorem dX8_merge_1 : decode cX8_merge 1 = .ok (.iload_n 1, 1) := by decide +kernel
theorem dX8_merge_2 : decode cX8_merge 2 = .ok (.invokevirtual 57, 3) := by decide +kernel
theorem dX8_merge_5 : decode cX8_merge 5 = .ok (.astore 4, 2) := by decide +kernel
theorem dX8_merge_7 : decode cX8_merge 7 = .ok (.aload_n 0, 1) := by decide +kernel
theorem dX8_merge_8 : decode cX8_merge 8 = .ok (.iload_n 2, 1) := by decide +kernel
theorem dX8_merge_9 : decode cX8_merge 9 = .ok (.invokevirtual 57, 3) := by decide +kernel
theorem dX8_merge_12 : decode cX8_merge 12 = .ok (.astore 5, 2) := by decide +kernel
theorem dX8_merge_14 : decode cX8_merge 14 = .ok (.aload_n 0, 1) := by decide +kernel
theorem dX8_merge_15 : decode cX8_merge 15 = .ok (.iload_n 3, 1) := by decide +kernel
theorem dX8_merge_16 : decode cX8_merge 16 = .ok (.invokevirtual 57, 3) := by decide +kernel
theorem dX8_merge_19 : decode cX8_merge 19 = .ok (.astore 6, 2) := by decide +kernel
theorem dX8_merge_21 : decode cX8_merge 21 = .ok (.aload 4, 2) := by decide +kernel
theorem dX8_merge_23 : decode cX8_merge 23 = .ok (.ifnull 13, 3) := by decide +kernel
theorem dX8_merge_26 : decode cX8_merge 26 = .ok (.aload 5, 2) := by decide +kernel
theorem dX8_merge_28 : decode cX8_merge 28 = .ok (.ifnull 8, 3) := by decide +kernel
theorem dX8_merge_31 : decode cX8_merge 31 = .ok (.aload 6, 2) := by decide +kernel
theorem dX8_merge_33 : decode cX8_merge 33 = .ok (.ifnonnull 15, 3) := by decide +kernel
theorem dX8_merge_36 : decode cX8_merge 36 = .ok (.aload_n 0, 1) := by decide +kernel
theorem dX8_merge_37 : decode cX8_merge 37 = .ok (.aload_n 0, 1) := by decide +kernel
theorem dX8_merge_38 : decode cX8_merge 38 = .ok (.iload_n 1, 1) := by decide +kernel
theorem dX8_merge_39 : decode cX8_merge 39 = .ok (.iload_n 2, 1) := by decide +kernel
theorem dX8_merge_40 : decode cX8_merge 40 = .ok (.iload_n 3, 1) := by decide +kernel
theorem dX8_merge_41 : decode cX8_merge 41 = .ok (.invokevirtual 61, 3) := by decide +kernel
theorem dX8_merge_44 : decode cX8_merge 44 = .ok (.invokevirtual 41, 3) := by decide +kernel
theorem dX8_merge_47 : decode cX8_merge 47 = .ok (.ireturn, 1) := by decide +kernel
theorem dX8_merge_48 : decode cX8_merge 48 = .ok (.aload 4, 2) := by decide +kernel
theorem dX8_merge_50 : decode cX8_merge 50 = .ok (.invokevirtual 135, 3) := by decide +kernel
theorem dX8_merge_53 : decode cX8_merge 53 = .ok (.ifCond .eq 19, 3) := by decide +kernel
theorem dX8_merge_56 : decode cX8_merge 56 = .ok (.aload 5, 2) := by decide +kernel
theorem dX8_merge_58 : decode cX8_merge 58 = .ok (.invokevirtual 135, 3) := by decide +kernel
theorem dX8_merge_61 : decode cX8_merge 61 = .ok (.ifCond .eq 11, 3) := by decide +kernel
theorem dX8_merge_64 : decode cX8_merge 64 = .ok (.aload 6, 2) := by decide +kernel
theorem dX8_merge_66 : decode cX8_merge 66 = .ok (.invokevirtual 135, 3) := by decide +kernel
theorem dX8_merge_69 : decode cX8_merge 69 = .ok (.ifCond .ne 10, 3) := by decide +kernel
theorem dX8_merge_72 : decode cX8_merge 72 = .ok (.aload_n 0, 1) := by decide +kernel
theorem dX8_merge_73 : decode cX8_merge 73 = .ok (.bipush 6, 2) := by decide +kernel
theorem dX8_merge_75 : decode cX8_merge 75 = .ok (.invokevirtual 41, 3) := by decide +kernel
theorem dX8_merge_78 : decode cX8_merge 78 = .ok (.ireturn, 1) := by decide +kernel
theorem dX8_merge_79 : decode cX8_merge 79 = .ok (.aload 4, 2) := by decide +kernel
theorem dX8_merge_81 : decode cX8_merge 81 = .ok (.getfield 153, 3) := by decide +kernel
theorem dX8_merge_84 : decode cX8_merge 84 = .ok (.ifCond .ne 7, 3) := by decide +kernel
theorem dX8_merge_87 : decode cX8_merge 87 = .ok (.iconst 1, 1) := by decide +kernel
theorem dX8_merge_88 : decode cX8_merge 88 = .ok (.goto 4, 3) := by decide +kernel
theorem dX8_merge_91 : decode cX8_merge 91 = .ok (.iconst 0, 1) := by decide +kernel
theorem dX8_merge_92 : decode cX8_merge 92 = .ok (.aload 5, 2) := by decide +kernel
theorem dX8_merge_94 : decode cX8_merge 94 = .ok (.getfield 153, 3) := by decide +kernel
theorem dX8_merge_97 : decode cX8_merge 97 = .ok (.ifCond .ne 7, 3) := by decide +kernel
theorem dX8_merge_100 : decode cX8_merge 100 = .ok (.iconst 1, 1) := by decide +kernel
theorem dX8_merge_101 : decode cX8_merge 101 = .ok (.goto 4, 3) := by decide +kernel
theorem dX8_merge_104 : decode cX8_merge 104 = .ok (.iconst 0, 1) := by decide +kernel
theorem dX8_merge_105 : decode cX8_merge 105 = .ok (.if_icmp .eq 10, 3) := by decide +kernel
theorem dX8_merge_108 : decode cX8_merge 108 = .ok (.aload_n 0, 1) := by decide +kernel
theorem dX8_merge_109 : decode cX8_merge 109 = .ok (.bipush 6, 2) := by decide +kernel
theorem dX8_merge_111 : decode cX8_merge 111 = .ok (.invokevirtual 41, 3) := by decide +kernel
theorem dX8_merge_114 : decode cX8_merge 114 = .ok (.ireturn, 1) := by decide +kernel
theorem dX8_merge_115 : decode cX8_merge 115 = .ok (.aload 6, 2) := by decide +kernel
theorem dX8_merge_117 : decode cX8_merge 117 = .ok (.getfield 65, 3) := by decide +kernel
theorem dX8_merge_120 : decode cX8_merge 120 = .ok (.aload 4, 2) := by decide +kernel
theorem dX8_merge_122 : decode cX8_merge 122 = .ok (.getfield 65, 3) := by decide +kernel
theorem dX8_merge_125 : decode cX8_merge 125 = .ok (.aload 5, 2) := by decide +kernel
theorem dX8_merge_127 : decode cX8_merge 127 = .ok (.getfield 65, 3) := by decide +kernel
theorem dX8_merge_130 : decode cX8_merge 130 = .ok (.iadd, 1) := by decide +kernel
theorem dX8_merge_131 : decode cX8_merge 131 = .ok (.if_icmp .eq 9, 3) := by decide +kernel
theorem dX8_merge_134 : decode cX8_merge 134 = .ok (.aload_n 0, 1) := by decide +kernel
theorem dX8_merge_135 : decode cX8_merge 135 = .ok (.iconst 4, 1) := by decide +kernel
theorem dX8_merge_136 : decode cX8_merge 136 = .ok (.invokevirtual 41, 3) := by decide +kernel
theorem dX8_merge_139 : decode cX8_merge 139 = .ok (.ireturn, 1) := by decide +kernel
theorem dX8_merge_140 : decode cX8_merge 140 = .ok (.iconst 0, 1) := by decide +kernel
theorem dX8_merge_141 : decode cX8_merge 141 = .ok (.istore 7, 2) := by decide +kernel
theorem dX8_merge_143 : decode cX8_merge 143 = .ok (.iconst 0, 1) := by decide +kernel
theorem dX8_merge_144 : decode cX8_merge 144 = .ok (.istore 8, 2) := by decide +kernel
theorem dX8_merge_146 : decode cX8_merge 146 = .ok (.iconst 0, 1) := by decide +kernel
theorem dX8_merge_147 : decode cX8_merge 147 = .ok (.istore 9, 2) := by decide +kernel
theorem dX8_merge_149 : decode cX8_merge 149 = .ok (.iload 9, 2) := by decide +kernel
theorem dX8_merge_151 : decode cX8_merge 151 = .ok (.aload 6, 2) := by decide +kernel
theorem dX8_merge_153 : decode cX8_merge 153 = .ok (.getfield 65, 3) := by decide +kernel
theorem dX8_merge_156 : decode cX8_merge 156 = .ok (.if_icmp .ge 98, 3) := by decide +kernel
theorem dX8_merge_159 : decode cX8_merge 159 = .ok (.aload_n 0, 1) := by decide +kernel
theorem dX8_merge_160 : decode cX8_merge 160 = .ok (.aload 4, 2) := by decide +kernel
theorem dX8_merge_162 : decode cX8_merge 162 = .ok (.iload 7, 2) := by decide +kernel
theorem dX8_merge_164 : decode cX8_merge 164 = .ok (.aload 5, 2) := by decide +kernel
theorem dX8_merge_166 : decode cX8_merge 166 = .ok (.iload 8, 2) := by decide +kernel
theorem dX8_merge_168 : decode cX8_merge 168 = .ok (.invokevirtual 154, 3) := by decide +kernel
theorem dX8_merge_171 : decode cX8_merge 171 = .ok (.istore 10, 2) := by decide +kernel
theorem dX8_merge_173 : decode cX8_merge 173 = .ok (.iload 10, 2) := by decide +kernel
theorem dX8_merge_175 : decode cX8_merge 175 = .ok (.ifCond .eq 18, 3) := by decide +kernel
theorem dX8_merge_178 : decode cX8_merge 178 = .ok (.aload_n 0, 1) := by decide +kernel
theorem dX8_merge_179 : decode cX8_merge 179 = .ok (.iload 9, 2) := by decide +kernel
theorem dX8_merge_181 : decode cX8_merge 181 = .ok (.aload 5, 2) := by decide +kernel
theorem dX8_merge_183 : decode cX8_merge 183 = .ok (.iload 8, 2) := by decide +kernel
theorem dX8_merge_185 : decode cX8_merge 185 = .ok (.aload 6, 2) := by decide +kernel
theorem dX8_merge_187 : decode cX8_merge 187 = .ok (.invokevirtual 138, 3) := by decide +kernel
theorem dX8_merge_190 : decode cX8_merge 190 = .ok (.goto 15, 3) := by decide +kernel
theorem dX8_merge_193 : decode cX8_merge 193 = .ok (.aload_n 0, 1) := by decide +kernel
theorem dX8_merge_194 : decode cX8_merge 194 = .ok (.iload 9, 2) := by decide +kernel
theorem dX8_merge_196 : decode cX8_merge 196 = .ok (.aload 4, 2) := by decide +kernel
theorem dX8_merge_198 : decode cX8_merge 198 = .ok (.iload 7, 2) := by decide +kernel
theorem dX8_merge_200 : decode cX8_merge 200 = .ok (.aload 6, 2) := by decide +kernel
theorem dX8_merge_202 : decode cX8_merge 202 = .ok (.invokevirtual 138, 3) := by decide +kernel
theorem dX8_merge_205 : decode cX8_merge 205 = .ok (.istore 11, 2) := by decide +kernel
theorem dX8_merge_207 : decode cX8_merge 207 = .ok (.iload 11, 2) := by decide +kernel
theorem dX8_merge_209 : decode cX8_merge 209 = .ok (.ifCond .ne 9, 3) := by decide +kernel
theorem dX8_merge_212 : decode cX8_merge 212 = .ok (.aload_n 0, 1) := by decide +kernel
theorem dX8_merge_213 : decode cX8_merge 213 = .ok (.iconst 5, 1) := by decide +kernel
theorem dX8_merge_214 : decode cX8_merge 214 = .ok (.invokevirtual 41, 3) := by decide +kernel
theorem dX8_merge_217 : decode cX8_merge 217 = .ok (.ireturn, 1) := by decide +kernel
theorem dX8_merge_218 : decode cX8_merge 218 = .ok (.iload 7, 2) := by decide +kernel
theorem dX8_merge_220 : decode cX8_merge 220 = .ok (.iload 10, 2) := by decide +kernel
theorem dX8_merge_222 : decode cX8_merge 222 = .ok (.ifCond .eq 7, 3) := by decide +kernel
theorem dX8_merge_225 : decode cX8_merge 225 = .ok (.iconst 0, 1) := by decide +kernel
theorem dX8_merge_226 : decode cX8_merge 226 = .ok (.goto 4, 3) := by decide +kernel
theorem dX8_merge_229 : decode cX8_merge 229 = .ok (.iconst 1, 1) := by decide +kernel
theorem dX8_merge_230 : decode cX8_merge 230 = .ok (.iadd, 1) := by decide +kernel
theorem dX8_merge_231 : decode cX8_merge 231 = .ok (.istore 7, 2) := by decide +kernel
theorem dX8_merge_233 : decode cX8_merge 233 = .ok (.iload 8, 2) := by decide +kernel
theorem dX8_merge_235 : decode cX8_merge 235 = .ok (.iload 10, 2) := by decide +kernel
theorem dX8_merge_237 : decode cX8_merge 237 = .ok (.ifCond .eq 7, 3) := by decide +kernel
theorem dX8_merge_240 : decode cX8_merge 240 = .ok (.iconst 1, 1) := by decide +kernel
theorem dX8_merge_241 : decode cX8_merge 241 = .ok (.goto 4, 3) := by decide +kernel
theorem dX8_merge_244 : decode cX8_merge 244 = .ok (.iconst 0, 1) := by decide +kernel
theorem dX8_merge_245 : decode cX8_merge 245 = .ok (.iadd, 1) := by decide +kernel
theorem dX8_merge_246 : decode cX8_merge 246 = .ok (.istore 8, 2) := by decide +kernel
theorem dX8_merge_248 : decode cX8_merge 248 = .ok (.iinc 9 1, 3) := by decide +kernel
theorem dX8_merge_251 : decode cX8_merge 251 = .ok (.goto (-102), 3) := by decide +kernel
theorem dX8_merge_254 : decode cX8_merge 254 = .ok (.aload_n 0, 1) := by decide +kernel
theorem dX8_merge_255 : decode cX8_merge 255 = .ok (.aload_n 0, 1) := by decide +kernel
theorem dX8_merge_256 : decode cX8_merge 256 = .ok (.aload 6, 2) := by decide +kernel
theorem dX8_merge_258 : decode cX8_merge 258 = .ok (.invokevirtual 142, 3) := by decide +kernel
theorem dX8_merge_261 : decode cX8_merge 261 = .ok (.invokevirtual 54, 3) := by decide +kernel
theorem dX8_merge_264 : decode cX8_merge 264 = .ok (.ireturn, 1) := by decide +kernel
theorem dX8_sort_0 : decode cX8_sort 0 = .ok (.aload_n 0, 1) := by decide +kernel
theorem dX8_sort_1 : decode cX8_sort 1 = .ok (.iload_n 1, 1) := by decide +kernel
theorem dX8_sort_2 : decode cX8_sort 2 = .ok (.invokevirtual 57, 3) := by decide +kernel
theorem dX8_sort_5 : decode cX8_sort 5 = .ok (.astore_n 2, 1) := by decide +kernel
theorem dX8_sort_6 : decode cX8_sort 6 = .ok (.aload_n 2, 1) := by decide +kernel
theorem dX8_sort_7 : decode cX8_sort 7 = .ok (.ifnonnull 15, 3) := by decide +kernel
theorem dX8_sort_10 : decode cX8_sort 10 = .ok (.aload_n 0, 1) := by decide +kernel
theorem dX8_sort_11 : decode cX8_sort 11 = .ok (.aload_n 0, 1) := by decide +kernel
theorem dX8_sort_12 : decode cX8_sort 12 = .ok (.iload_n 1, 1) := by decide +kernel
theorem dX8_sort_13 : decode cX8_sort 13 = .ok (.iload_n 1, 1) := by decide +kernel
theorem dX8_sort_14 : decode cX8_sort 14 = .ok (.iload_n 1, 1) := by decide +kernel
theorem dX8_sort_15 : decode cX8_sort 15 = .ok (.invokevirtual 61, 3) := by decide +kernel
theorem dX8_sort_18 : decode cX8_sort 18 = .ok (.invokevirtual 41, 3) := by decide +kernel
theorem dX8_sort_21 : decode cX8_sort 21 = .ok (.ireturn, 1) := by decide +kernel
theorem dX8_sort_22 : decode cX8_sort 22 = .ok (.aload_n 0, 1) := by decide +kernel
theorem dX8_sort_23 : decode cX8_sort 23 = .ok (.aload_n 2, 1) := by decide +kernel
theorem dX8_sort_24 : decode cX8_sort 24 = .ok (.invokevirtual 158, 3) := by decide +kernel
theorem dX8_sort_27 : decode cX8_sort 27 = .ok (.aload_n 0, 1) := by decide +kernel
theorem dX8_sort_28 : decode cX8_sort 28 = .ok (.aload_n 2, 1) := by decide +kernel
theorem dX8_sort_29 : decode cX8_sort 29 = .ok (.getfield 65, 3) := by decide +kernel
theorem dX8_sort_32 : decode cX8_sort 32 = .ok (.invokevirtual 162, 3) := by decide +kernel
theorem dX8_sort_35 : decode cX8_sort 35 = .ok (.iconst 0, 1) := by decide +kernel
theorem dX8_sort_36 : decode cX8_sort 36 = .ok (.istore_n 3, 1) := by decide +kernel
theorem dX8_sort_37 : decode cX8_sort 37 = .ok (.iconst 0, 1) := by decide +kernel
theorem dX8_sort_38 : decode cX8_sort 38 = .ok (.istore 4, 2) := by decide +kernel
theorem dX8_sort_40 : decode cX8_sort 40 = .ok (.iload 4, 2) := by decide +kernel
theorem dX8_sort_42 : decode cX8_sort 42 = .ok (.aload_n 2, 1) := by decide +kernel
theorem dX8_sort_43 : decode cX8_sort 43 = .ok (.getfield 65, 3) := by decide +kernel
theorem dX8_sort_46 : decode cX8_sort 46 = .ok (.if_icmp .ge 52, 3) := by decide +kernel
theorem dX8_sort_49 : decode cX8_sort 49 = .ok (.aload_n 2, 1) := by decide +kernel
theorem dX8_sort_50 : decode cX8_sort 50 = .ok (.iload 4, 2) := by decide +kernel
theorem dX8_sort_52 : decode cX8_sort 52 = .ok (.aload_n 0, 1) := by decide +kernel
theorem dX8_sort_53 : decode cX8_sort 53 = .ok (.getfield 26, 3) := by decide +kernel
theorem dX8_sort_56 : decode cX8_sort 56 = .ok (.invokevirtual 121, 3) := by decide +kernel
theorem dX8_sort_59 : decode cX8_sort 59 = .ok (.aload_n 0, 1) := by decide +kernel
theorem dX8_sort_60 : decode cX8_sort 60 = .ok (.getfield 26, 3) := by decide +kernel
theorem dX8_sort_63 : decode cX8_sort 63 = .ok (.aload_n 0, 1) := by decide +kernel
theorem dX8_sort_64 : decode cX8_sort 64 = .ok (.getfield 17, 3) := by decide +kernel
theorem dX8_sort_67 : decode cX8_sort 67 = .ok (.iload 4, 2) := by decide +kernel
theorem dX8_sort_69 : decode cX8_sort 69 = .ok (.aaload, 1) := by decide +kernel
theorem dX8_sort_70 : decode cX8_sort 70 = .ok (.invokevirtual 166, 3) := by decide +kernel
theorem dX8_sort_73 : decode cX8_sort 73 = .ok (.ifCond .ne 6, 3) := by decide +kernel
theorem dX8_sort_76 : decode cX8_sort 76 = .ok (.iinc 3 1, 3) := by decide +kernel
theorem dX8_sort_79 : decode cX8_sort 79 = .ok (.aload_n 2, 1) := by decide +kernel
theorem dX8_sort_80 : decode cX8_sort 80 = .ok (.iload 4, 2) := by decide +kernel
theorem dX8_sort_82 : decode cX8_sort 82 = .ok (.aload_n 0, 1) := by decide +kernel
theorem dX8_sort_83 : decode cX8_sort 83 = .ok (.getfield 17, 3) := by decide +kernel
theorem dX8_sort_86 : decode cX8_sort 86 = .ok (.iload 4, 2) := by decide +kernel
theorem dX8_sort_88 : decode cX8_sort 88 = .ok (.aaload, 1) := by decide +kernel
theorem dX8_sort_89 : decode cX8_sort 89 = .ok (.invokevirtual 98, 3) := by decide +kernel
theorem dX8_sort_92 : decode cX8_sort 92 = .ok (.iinc 4 1, 3) := by decide +kernel
theorem dX8_sort_95 : decode cX8_sort 95 = .ok (.goto (-55), 3) := by decide +kernel
theorem dX8_sort_98 : decode cX8_sort 98 = .ok (.aload_n 0, 1) := by decide +kernel
theorem dX8_sort_99 : decode cX8_sort 99 = .ok (.iload_n 3, 1) := by decide +kernel
theorem dX8_sort_100 : decode cX8_sort 100 = .ok (.invokevirtual 54, 3) := by decide +kernel
theorem dX8_sort_103 : decode cX8_sort 103 = .ok (.ireturn, 1) := by decide +kernel
theorem dX8_turn_0 : decode cX8_turn 0 = .ok (.aload_n 0, 1) := by decide +kernel
theorem dX8_turn_1 : decode cX8_turn 1 = .ok (.iload_n 1, 1) := by decide +kernel
theorem dX8_turn_2 : decode cX8_turn 2 = .ok (.invokevirtual 57, 3) := by decide +kernel
theorem dX8_turn_5 : decode cX8_turn 5 = .ok (.astore_n 3, 1) := by decide +kernel
theorem dX8_turn_6 : decode cX8_turn 6 = .ok (.aload_n 3, 1) := by decide +kernel
theorem dX8_turn_7 : decode cX8_turn 7 = .ok (.ifnonnull 15, 3) := by decide +kernel
theorem dX8_turn_10 : decode cX8_turn 10 = .ok (.aload_n 0, 1) := by decide +kernel
theorem dX8_turn_11 : decode cX8_turn 11 = .ok (.aload_n 0, 1) := by decide +kernel
theorem dX8_turn_12 : decode cX8_turn 12 = .ok (.iload_n 1, 1) := by decide +kernel
theorem dX8_turn_13 : decode cX8_turn 13 = .ok (.iload_n 1, 1) := by decide +kernel
theorem dX8_turn_14 : decode cX8_turn 14 = .ok (.iload_n 1, 1) := by decide +kernel
theorem dX8_turn_15 : decode cX8_turn 15 = .ok (.invokevirtual 61, 3) := by decide +kernel
theorem dX8_turn_18 : decode cX8_turn 18 = .ok (.invokevirtual 41, 3) := by decide +kernel
theorem dX8_turn_21 : decode cX8_turn 21 = .ok (.ireturn, 1) := by decide +kernel
theorem dX8_turn_22 : decode cX8_turn 22 = .ok (.aload_n 3, 1) := by decide +kernel
theorem dX8_turn_23 : decode cX8_turn 23 = .ok (.getfield 65, 3) := by decide +kernel
theorem dX8_turn_26 : decode cX8_turn 26 = .ok (.ifCond .ne 9, 3) := by decide +kernel
theorem dX8_turn_29 : decode cX8_turn 29 = .ok (.aload_n 0, 1) := by decide +kernel
theorem dX8_turn_30 : decode cX8_turn 30 = .ok (.iconst 0, 1) := by decide +kernel
theorem dX8_turn_31 : decode cX8_turn 31 = .ok (.invokevirtual 54, 3) := by decide +kernel
theorem dX8_turn_34 : decode cX8_turn 34 = .ok (.ireturn, 1) := by decide +kernel
theorem dX8_turn_35 : decode cX8_turn 35 = .ok (.aload_n 0, 1) := by decide +kernel
theorem dX8_turn_36 : decode cX8_turn 36 = .ok (.aload_n 3, 1) := by decide +kernel
theorem dX8_turn_37 : decode cX8_turn 37 = .ok (.invokevirtual 158, 3) := by decide +kernel
theorem dX8_turn_40 : decode cX8_turn 40 = .ok (.iload_n 2, 1) := by decide +kernel
theorem dX8_turn_41 : decode cX8_turn 41 = .ok (.aload_n 3, 1) := by decide +kernel
theorem dX8_turn_42 : decode cX8_turn 42 = .ok (.getfield 65, 3) := by decide +kernel
theorem dX8_turn_45 : decode cX8_turn 45 = .ok (.invokestatic 169, 3) := by decide +kernel
theorem dX8_turn_48 : decode cX8_turn 48 = .ok (.istore 4, 2) := by decide +kernel
theorem dX8_turn_50 : decode cX8_turn 50 = .ok (.iconst 0, 1) := by decide +kernel
theorem dX8_turn_51 : decode cX8_turn 51 = .ok (.istore 5, 2) := by decide +kernel
theorem dX8_turn_53 : decode cX8_turn 53 = .ok (.iload 5, 2) := by decide +kernel
theorem dX8_turn_55 : decode cX8_turn 55 = .ok (.aload_n 3, 1) := by decide +kernel
theorem dX8_turn_56 : decode cX8_turn 56 = .ok (.getfield 65, 3) := by decide +kernel
theorem dX8_turn_59 : decode cX8_turn 59 = .ok (.if_icmp .ge 43, 3) := by decide +kernel
theorem dX8_turn_62 : decode cX8_turn 62 = .ok (.aload_n 3, 1) := by decide +kernel
theorem dX8_turn_63 : decode cX8_turn 63 = .ok (.iload 4, 2) := by decide +kernel
theorem dX8_turn_65 : decode cX8_turn 65 = .ok (.aload_n 0, 1) := by decide +kernel
theorem dX8_turn_66 : decode cX8_turn 66 = .ok (.getfield 17, 3) := by decide +kernel
theorem dX8_turn_69 : decode cX8_turn 69 = .ok (.iload 5, 2) := by decide +kernel
theorem dX8_turn_71 : decode cX8_turn 71 = .ok (.aaload, 1) := by decide +kernel
theorem dX8_turn_72 : decode cX8_turn 72 = .ok (.invokevirtual 98, 3) := by decide +kernel
theorem dX8_turn_75 : decode cX8_turn 75 = .ok (.iload 4, 2) := by decide +kernel
theorem dX8_turn_77 : decode cX8_turn 77 = .ok (.iconst 1, 1) := by decide +kernel
theorem dX8_turn_78 : decode cX8_turn 78 = .ok (.iadd, 1) := by decide +kernel
theorem dX8_turn_79 : decode cX8_turn 79 = .ok (.aload_n 3, 1) := by decide +kernel
theorem dX8_turn_80 : decode cX8_turn 80 = .ok (.getfield 65, 3) := by decide +kernel
theorem dX8_turn_83 : decode cX8_turn 83 = .ok (.if_icmp .ge 10, 3) := by decide +kernel
theorem dX8_turn_86 : decode cX8_turn 86 = .ok (.iload 4, 2) := by decide +kernel
theorem dX8_turn_88 : decode cX8_turn 88 = .ok (.iconst 1, 1) := by decide +kernel
theorem dX8_turn_89 : decode cX8_turn 89 = .ok (.iadd, 1) := by decide +kernel
theorem dX8_turn_90 : decode cX8_turn 90 = .ok (.goto 4, 3) := by decide +kernel
theorem dX8_turn_93 : decode cX8_turn 93 = .ok (.iconst 0, 1) := by decide +kernel
theorem dX8_turn_94 : decode cX8_turn 94 = .ok (.istore 4, 2) := by decide +kernel
theorem dX8_turn_96 : decode cX8_turn 96 = .ok (.iinc 5 1, 3) := by decide +kernel
theorem dX8_turn_99 : decode cX8_turn 99 = .ok (.goto (-46), 3) := by decide +kernel
theorem dX8_turn_102 : decode cX8_turn 102 = .ok (.aload_n 0, 1) := by decide +kernel
theorem dX8_turn_103 : decode cX8_turn 103 = .ok (.aload_n 3, 1) := by decide +kernel
theorem dX8_turn_104 : decode cX8_turn 104 = .ok (.getfield 65, 3) := by decide +kernel
theorem dX8_turn_107 : decode cX8_turn 107 = .ok (.invokevirtual 54, 3) := by decide +kernel
theorem dX8_turn_110 : decode cX8_turn 110 = .ok (.ireturn, 1) := by decide +kernel
theorem dX8_sum_0 : decode cX8_sum 0 = .ok (.aload_n 0, 1) := by decide +kernel
theorem dX8_sum_1 : decode cX8_sum 1 = .ok (.iload_n 1, 1) := by decide +kernel
theorem dX8_sum_2 : decode cX8_sum 2 = .ok (.invokevirtual 57, 3) := by decide +kernel
theorem dX8_sum_5 : decode cX8_sum 5 = .ok (.astore_n 2, 1) := by decide +kernel
theorem dX8_sum_6 : decode cX8_sum 6 = .ok (.aload_n 2, 1) := by decide +kernel
theorem dX8_sum_7 : decode cX8_sum 7 = .ok (.ifnonnull 16, 3) := by decide +kernel
theorem dX8_sum_10 : decode cX8_sum 10 = .ok (.aload_n 0, 1) := by decide +kernel
theorem dX8_sum_11 : decode cX8_sum 11 = .ok (.aload_n 0, 1) := by decide +kernel
theorem dX8_sum_12 : decode cX8_sum 12 = .ok (.iload_n 1, 1) := by decide +kernel
theorem dX8_sum_13 : decode cX8_sum 13 = .ok (.iload_n 1, 1) := by decide +kernel
theorem dX8_sum_14 : decode cX8_sum 14 = .ok (.iload_n 1, 1) := by decide +kernel
theorem dX8_sum_15 : decode cX8_sum 15 = .ok (.invokevirtual 61, 3) := by decide +kernel
theorem dX8_sum_18 : decode cX8_sum 18 = .ok (.invokevirtual 41, 3) := by decide +kernel
theorem dX8_sum_21 : decode cX8_sum 21 = .ok (.i2l, 1) := by decide +kernel
theorem dX8_sum_22 : decode cX8_sum 22 = .ok (.lreturn, 1) := by decide +kernel
theorem dX8_sum_23 : decode cX8_sum 23 = .ok (.aload_n 2, 1) := by decide +kernel
theorem dX8_sum_24 : decode cX8_sum 24 = .ok (.getfield 153, 3) := by decide +kernel
theorem dX8_sum_27 : decode cX8_sum 27 = .ok (.iconst 1, 1) := by decide +kernel
theorem dX8_sum_28 : decode cX8_sum 28 = .ok (.if_icmp .lt 11, 3) := by decide +kernel
theorem dX8_sum_31 : decode cX8_sum 31 = .ok (.aload_n 2, 1) := by decide +kernel
theorem dX8_sum_32 : decode cX8_sum 32 = .ok (.getfield 153, 3) := by decide +kernel
theorem dX8_sum_35 : decode cX8_sum 35 = .ok (.iconst 5, 1) := by decide +kernel
theorem dX8_sum_36 : decode cX8_sum 36 = .ok (.if_icmp .le 11, 3) := by decide +kernel
theorem dX8_sum_39 : decode cX8_sum 39 = .ok (.aload_n 0, 1) := by decide +kernel
theorem dX8_sum_40 : decode cX8_sum 40 = .ok (.bipush 6, 2) := by decide +kernel
theorem dX8_sum_42 : decode cX8_sum 42 = .ok (.invokevirtual 41, 3) := by decide +kernel
theorem dX8_sum_45 : decode cX8_sum 45 = .ok (.i2l, 1) := by decide +kernel
theorem dX8_sum_46 : decode cX8_sum 46 = .ok (.lreturn, 1) := by decide +kernel
theorem dX8_sum_47 : decode cX8_sum 47 = .ok (.lconst 0, 1) := by decide +kernel
theorem dX8_sum_48 : decode cX8_sum 48 = .ok (.lstore_n 3, 1) := by decide +kernel
theorem dX8_sum_49 : decode cX8_sum 49 = .ok (.iconst 0, 1) := by decide +kernel
theorem dX8_sum_50 : decode cX8_sum 50 = .ok (.istore 5, 2) := by decide +kernel
theorem dX8_sum_52 : decode cX8_sum 52 = .ok (.iload 5, 2) := by decide +kernel
theorem dX8_sum_54 : decode cX8_sum 54 = .ok (.aload_n 2, 1) := by decide +kernel
theorem dX8_sum_55 : decode cX8_sum 55 = .ok (.getfield 65, 3) := by decide +kernel
theorem dX8_sum_58 : decode cX8_sum 58 = .ok (.if_icmp .ge 29, 3) := by decide +kernel
theorem dX8_sum_61 : decode cX8_sum 61 = .ok (.aload_n 2, 1) := by decide +kernel
theorem dX8_sum_62 : decode cX8_sum 62 = .ok (.iload 5, 2) := by decide +kernel
theorem dX8_sum_64 : decode cX8_sum 64 = .ok (.aload_n 0, 1) := by decide +kernel
theorem dX8_sum_65 : decode cX8_sum 65 = .ok (.getfield 26, 3) := by decide +kernel
theorem dX8_sum_68 : decode cX8_sum 68 = .ok (.invokevirtual 121, 3) := by decide +kernel
theorem dX8_sum_71 : decode cX8_sum 71 = .ok (.lload_n 3, 1) := by decide +kernel
theorem dX8_sum_72 : decode cX8_sum 72 = .ok (.aload_n 0, 1) := by decide +kernel
theorem dX8_sum_73 : decode cX8_sum 73 = .ok (.getfield 26, 3) := by decide +kernel
theorem dX8_sum_76 : decode cX8_sum 76 = .ok (.getfield 113, 3) := by decide +kernel
theorem dX8_sum_79 : decode cX8_sum 79 = .ok (.ladd, 1) := by decide +kernel
theorem dX8_sum_80 : decode cX8_sum 80 = .ok (.lstore_n 3, 1) := by decide +kernel
theorem dX8_sum_81 : decode cX8_sum 81 = .ok (.iinc 5 1, 3) := by decide +kernel
theorem dX8_sum_84 : decode cX8_sum 84 = .ok (.goto (-32), 3) := by decide +kernel
theorem dX8_sum_87 : decode cX8_sum 87 = .ok (.aload_n 0, 1) := by decide +kernel
theorem dX8_sum_88 : decode cX8_sum 88 = .ok (.iconst 0, 1) := by decide +kernel
theorem dX8_sum_89 : decode cX8_sum 89 = .ok (.putfield 33, 3) := by decide +kernel
theorem dX8_sum_92 : decode cX8_sum 92 = .ok (.lload_n 3, 1) := by decide +kernel
theorem dX8_sum_93 : decode cX8_sum 93 = .ok (.lreturn, 1) := by decide +kernel
theorem dX8_total_0 : decode cX8_total 0 = .ok (.aload_n 0, 1) := by decide +kernel
theorem dX8_total_1 : decode cX8_total 1 = .ok (.iload_n 1, 1) := by decide +kernel
theorem dX8_total_2 : decode cX8_total 2 = .ok (.invokevirtual 57, 3) := by decide +kernel
theorem dX8_total_5 : decode cX8_total 5 = .ok (.astore_n 2, 1) := by decide +kernel
theorem dX8_total_6 : decode cX8_total 6 = .ok (.aload_n 2, 1) := by decide +kernel
theorem dX8_total_7 : decode cX8_total 7 = .ok (.ifnonnull 16, 3) := by decide +kernel
theorem dX8_total_10 : decode cX8_total 10 = .ok (.aload_n 0, 1) := by decide +kernel
theorem dX8_total_11 : decode cX8_total 11 = .ok (.aload_n 0, 1) := by decide +kernel
theorem dX8_total_12 : decode cX8_total 12 = .ok (.iload_n 1, 1) := by decide +kernel
theorem dX8_total_13 : decode cX8_total 13 = .ok (.iload_n 1, 1) := by decide +kernel
theorem dX8_total_14 : decode cX8_total 14 = .ok (.iload_n 1, 1) := by decide +kernel
theorem dX8_total_15 : decode cX8_total 15 = .ok (.invokevirtual 61, 3) := by decide +kernel
theorem dX8_total_18 : decode cX8_total 18 = .ok (.invokevirtual 41, 3) := by decide +kernel
theorem dX8_total_21 : decode cX8_total 21 = .ok (.i2d, 1) := by decide +kernel
theorem dX8_total_22 : decode cX8_total 22 = .ok (.dreturn, 1) := by decide +kernel
theorem dX8_total_23 : decode cX8_total 23 = .ok (.aload_n 2, 1) := by decide +kernel
theorem dX8_total_24 : decode cX8_total 24 = .ok (.invokevirtual 135, 3) := by decide +kernel
theorem dX8_total_27 : decode cX8_total 27 = .ok (.ifCond .eq 10, 3) := by decide +kernel
theorem dX8_total_30 : decode cX8_total 30 = .ok (.aload_n 2, 1) := by decide +kernel
theorem dX8_total_31 : decode cX8_total 31 = .ok (.getfield 153, 3) := by decide +kernel
theorem dX8_total_34 : decode cX8_total 34 = .ok (.ifCond .ne 11, 3) := by decide +kernel
theorem dX8_total_37 : decode cX8_total 37 = .ok (.aload_n 0, 1) := by decide +kernel
theorem dX8_total_38 : decode cX8_total 38 = .ok (.bipush 6, 2) := by decide +kernel
theorem dX8_total_40 : decode cX8_total 40 = .ok (.invokevirtual 41, 3) := by decide +kernel
theorem dX8_total_43 : decode cX8_total 43 = .ok (.i2d, 1) := by decide +kernel
theorem dX8_total_44 : decode cX8_total 44 = .ok (.dreturn, 1) := by decide +kernel
theorem dX8_total_45 : decode cX8_total 45 = .ok (.dconst 0, 1) := by decide +kernel
theorem dX8_total_46 : decode cX8_total 46 = .ok (.dstore_n 3, 1) := by decide +kernel
theorem dX8_total_47 : decode cX8_total 47 = .ok (.iconst 0, 1) := by decide +kernel
theorem dX8_total_48 : decode cX8_total 48 = .ok (.istore 5, 2) := by decide +kernel
theorem dX8_total_50 : decode cX8_total 50 = .ok (.iload 5, 2) := by decide +kernel
theorem dX8_total_52 : decode cX8_total 52 = .ok (.aload_n 2, 1) := by decide +kernel
theorem dX8_total_53 : decode cX8_total 53 = .ok (.getfield 65, 3) := by decide +kernel
theorem dX8_total_56 : decode cX8_total 56 = .ok (.if_icmp .ge 31, 3) := by decide +kernel
theorem dX8_total_59 : decode cX8_total 59 = .ok (.aload_n 2, 1) := by decide +kernel
theorem dX8_total_60 : decode cX8_total 60 = .ok (.iload 5, 2) := by decide +kernel
theorem dX8_total_62 : decode cX8_total 62 = .ok (.aload_n 0, 1) := by decide +kernel
theorem dX8_total_63 : decode cX8_total 63 = .ok (.getfield 26, 3) := by decide +kernel
theorem dX8_total_66 : decode cX8_total 66 = .ok (.invokevirtual 121, 3) := by decide +kernel
theorem dX8_total_69 : decode cX8_total 69 = .ok (.dload_n 3, 1) := by decide +kernel
theorem dX8_total_70 : decode cX8_total 70 = .ok (.aload_n 0, 1) := by decide +kernel
theorem dX8_total_71 : decode cX8_total 71 = .ok (.getfield 26, 3) := by decide +kernel
theorem dX8_total_74 : decode cX8_total 74 = .ok (.bipush 7, 2) := by decide +kernel
theorem dX8_total_76 : decode cX8_total 76 = .ok (.invokevirtual 117, 3) := by decide +kernel
theorem dX8_total_79 : decode cX8_total 79 = .ok (.dadd, 1) := by decide +kernel
theorem dX8_total_80 : decode cX8_total 80 = .ok (.dstore_n 3, 1) := by decide +kernel
theorem dX8_total_81 : decode cX8_total 81 = .ok (.iinc 5 1, 3) := by decide +kernel
theorem dX8_total_84 : decode cX8_total 84 = .ok (.goto (-34), 3) := by decide +kernel
theorem dX8_total_87 : decode cX8_total 87 = .ok (.aload_n 0, 1) := by decide +kernel
theorem dX8_total_88 : decode cX8_total 88 = .ok (.iconst 0, 1) := by decide +kernel
theorem dX8_total_89 : decode cX8_total 89 = .ok (.putfield 33, 3) := by decide +kernel
theorem dX8_total_92 : decode cX8_total 92 = .ok (.dload_n 3, 1) := by decide +kernel
theorem dX8_total_93 : decode cX8_total 93 = .ok (.dreturn, 1) := by decide +kernel
theorem dX8_find_0 : decode cX8_find 0 = .ok (.iload_n 3, 1) := by decide +kernel
theorem dX8_find_1 : decode cX8_find 1 = .ok (.ifCond .lt 9, 3) := by decide +kernel
theorem dX8_find_4 : decode cX8_find 4 = .ok (.iload_n 3, 1) := by decide +kernel
theorem dX8_find_5 : decode cX8_find 5 = .ok (.bipush 7, 2) := by decide +kernel
theorem dX8_find_7 : decode cX8_find 7 = .ok (.if_icmp .le 9, 3) := by decide +kernel
theorem dX8_find_10 : decode cX8_find 10 = .ok (.aload_n 0, 1) := by decide +kernel
theorem dX8_find_11 : decode cX8_find 11 = .ok (.iconst 1, 1) := by decide +kernel
theorem dX8_find_12 : decode cX8_find 12 = .ok (.invokevirtual 41, 3) := by decide +kernel
theorem dX8_find_15 : decode cX8_find 15 = .ok (.ireturn, 1) := by decide +kernel
theorem dX8_find_16 : decode cX8_find 16 = .ok (.aload_n 0, 1) := by decide +kernel
theorem dX8_find_17 : decode cX8_find 17 = .ok (.iload_n 1, 1) := by decide +kernel
theorem dX8_find_18 : decode cX8_find 18 = .ok (.invokevirtual 57, 3) := by decide +kernel
theorem dX8_find_21 : decode cX8_find 21 = .ok (.astore 6, 2) := by decide +kernel
theorem dX8_find_23 : decode cX8_find 23 = .ok (.aload 6, 2) := by decide +kernel
theorem dX8_find_25 : decode cX8_find 25 = .ok (.ifnonnull 15, 3) := by decide +kernel
theorem dX8_find_28 : decode cX8_find 28 = .ok (.aload_n 0, 1) := by decide +kernel
theorem dX8_find_29 : decode cX8_find 29 = .ok (.aload_n 0, 1) := by decide +kernel
theorem dX8_find_30 : decode cX8_find 30 = .ok (.iload_n 1, 1) := by decide +kernel
theorem dX8_find_31 : decode cX8_find 31 = .ok (.iload_n 1, 1) := by decide +kernel
theorem dX8_find_32 : decode cX8_find 32 = .ok (.iload_n 1, 1) := by decide +kernel
theorem dX8_find_33 : decode cX8_find 33 = .ok (.invokevirtual 61, 3) := by decide +kernel
theorem dX8_find_36 : decode cX8_find 36 = .ok (.invokevirtual 41, 3) := by decide +kernel
theorem dX8_find_39 : decode cX8_find 39 = .ok (.ireturn, 1) := by decide +kernel
theorem dX8_find_40 : decode cX8_find 40 = .ok (.aload 6, 2) := by decide +kernel
theorem dX8_find_42 : decode cX8_find 42 = .ok (.invokevirtual 135, 3) := by decide +kernel
theorem dX8_find_45 : decode cX8_find 45 = .ok (.ifCond .ne 10, 3) := by decide +kernel
theorem dX8_find_48 : decode cX8_find 48 = .ok (.aload_n 0, 1) := by decide +kernel
theorem dX8_find_49 : decode cX8_find 49 = .ok (.bipush 6, 2) := by decide +kernel
theorem dX8_find_51 : decode cX8_find 51 = .ok (.invokevirtual 41, 3) := by decide +kernel
theorem dX8_find_54 : decode cX8_find 54 = .ok (.ireturn, 1) := by decide +kernel
theorem dX8_find_55 : decode cX8_find 55 = .ok (.aload_n 0, 1) := by decide +kernel
theorem dX8_find_56 : decode cX8_find 56 = .ok (.getfield 26, 3) := by decide +kernel
theorem dX8_find_59 : decode cX8_find 59 = .ok (.iload_n 3, 1) := by decide +kernel
theorem dX8_find_60 : decode cX8_find 60 = .ok (.iload 4, 2) := by decide +kernel
theorem dX8_find_62 : decode cX8_find 62 = .ok (.iload 5, 2) := by decide +kernel
theorem dX8_find_64 : decode cX8_find 64 = .ok (.invokevirtual 90, 3) := by decide +kernel
theorem dX8_find_67 : decode cX8_find 67 = .ok (.iload_n 2, 1) := by decide +kernel
theorem dX8_find_68 : decode cX8_find 68 = .ok (.iconst 0, 1) := by decide +kernel
theorem dX8_find_69 : decode cX8_find 69 = .ok (.invokestatic 175, 3) := by decide +kernel
theorem dX8_find_72 : decode cX8_find 72 = .ok (.istore 7, 2) := by decide +kernel
theorem dX8_find_74 : decode cX8_find 74 = .ok (.iload 7, 2) := by decide +kernel
theorem dX8_find_76 : decode cX8_find 76 = .ok (.aload 6, 2) := by decide +kernel
theorem dX8_find_78 : decode cX8_find 78 = .ok (.getfield 65, 3) := by decide +kernel
theorem dX8_find_81 : decode cX8_find 81 = .ok (.if_icmp .ge 41, 3) := by decide +kernel
theorem dX8_find_84 : decode cX8_find 84 = .ok (.aload 6, 2) := by decide +kernel
theorem dX8_find_86 : decode cX8_find 86 = .ok (.iload 7, 2) := by decide +kernel
theorem dX8_find_88 : decode cX8_find 88 = .ok (.aload_n 0, 1) := by decide +kernel
theorem dX8_find_89 : decode cX8_find 89 = .ok (.getfield 30, 3) := by decide +kernel
theorem dX8_find_92 : decode cX8_find 92 = .ok (.invokevirtual 121, 3) := by decide +kernel
theorem dX8_find_95 : decode cX8_find 95 = .ok (.aload_n 0, 1) := by decide +kernel
theorem dX8_find_96 : decode cX8_find 96 = .ok (.getfield 26, 3) := by decide +kernel
theorem dX8_find_99 : decode cX8_find 99 = .ok (.aload_n 0, 1) := by decide +kernel
theorem dX8_find_100 : decode cX8_find 100 = .ok (.getfield 30, 3) := by decide +kernel
theorem dX8_find_103 : decode cX8_find 103 = .ok (.invokevirtual 166, 3) := by decide +kernel
theorem dX8_find_106 : decode cX8_find 106 = .ok (.ifCond .eq 10, 3) := by decide +kernel
theorem dX8_find_109 : decode cX8_find 109 = .ok (.aload_n 0, 1) := by decide +kernel
theorem dX8_find_110 : decode cX8_find 110 = .ok (.iload 7, 2) := by decide +kernel
theorem dX8_find_112 : decode cX8_find 112 = .ok (.invokevirtual 54, 3) := by decide +kernel
theorem dX8_find_115 : decode cX8_find 115 = .ok (.ireturn, 1) := by decide +kernel
theorem dX8_find_116 : decode cX8_find 116 = .ok (.iinc 7 1, 3) := by decide +kernel
theorem dX8_find_119 : decode cX8_find 119 = .ok (.goto (-45), 3) := by decide +kernel
theorem dX8_find_122 : decode cX8_find 122 = .ok (.aload_n 0, 1) := by decide +kernel
theorem dX8_find_123 : decode cX8_find 123 = .ok (.iconst (-1), 1) := by decide +kernel
theorem dX8_find_124 : decode cX8_find 124 = .ok (.invokevirtual 54, 3) := by decide +kernel
theorem dX8_find_127 : decode cX8_find 127 = .ok (.ireturn, 1) := by decide +kernel
theorem dX8_alike_0 : decode cX8_alike 0 = .ok (.aload_n 0, 1) := by decide +kernel
theorem dX8_alike_1 : decode cX8_alike 1 = .ok (.iload_n 1, 1) := by decide +kernel
theorem dX8_alike_2 : decode cX8_alike 2 = .ok (.invokevirtual 57, 3) := by decide +kernel
theorem dX8_alike_5 : decode cX8_alike 5 = .ok (.astore_n 3, 1) := by decide +kernel
theorem dX8_alike_6 : decode cX8_alike 6 = .ok (.aload_n 0, 1) := by decide +kernel
theorem dX8_alike_7 : decode cX8_alike 7 = .ok (.iload_n 2, 1) := by decide +kernel
theorem dX8_alike_8 : decode cX8_alike 8 = .ok (.invokevirtual 57, 3) := by decide +kernel
theorem dX8_alike_11 : decode cX8_alike 11 = .ok (.astore 4, 2) := by decide +kernel
theorem dX8_alike_13 : decode cX8_alike 13 = .ok (.aload_n 3, 1) := by decide +kernel
theorem dX8_alike_14 : decode cX8_alike 14 = .ok (.ifnull 8, 3) := by decide +kernel
theorem dX8_alike_17 : decode cX8_alike 17 = .ok (.aload 4, 2) := by decide +kernel
theorem dX8_alike_19 : decode cX8_alike 19 = .ok (.ifnonnull 15, 3) := by decide +kernel
theorem dX8_alike_22 : decode cX8_alike 22 = .ok (.aload_n 0, 1) := by decide +kernel
theorem dX8_alike_23 : decode cX8_alike 23 = .ok (.aload_n 0, 1) := by decide +kernel
theorem dX8_alike_24 : decode cX8_alike 24 = .ok (.iload_n 1, 1) := by decide +kernel
theorem dX8_alike_25 : decode cX8_alike 25 = .ok (.iload_n 2, 1) := by decide +kernel
theorem dX8_alike_26 : decode cX8_alike 26 = .ok (.iload_n 2, 1) := by decide +kernel
theorem dX8_alike_27 : decode cX8_alike 27 = .ok (.invokevirtual 61, 3) := by decide +kernel
theorem dX8_alike_30 : decode cX8_alike 30 = .ok (.invokevirtual 41, 3) := by decide +kernel
theorem dX8_alike_33 : decode cX8_alike 33 = .ok (.ireturn, 1) := by decide +kernel
theorem dX8_alike_34 : decode cX8_alike 34 = .ok (.aload_n 3, 1) := by decide +kernel
theorem dX8_alike_35 : decode cX8_alike 35 = .ok (.getfield 65, 3) := by decide +kernel
theorem dX8_alike_38 : decode cX8_alike 38 = .ok (.aload 4, 2) := by decide +kernel
theorem dX8_alike_40 : decode cX8_alike 40 = .ok (.getfield 65, 3) := by decide +kernel
theorem dX8_alike_43 : decode cX8_alike 43 = .ok (.if_icmp .eq 9, 3) := by decide +kernel
theorem dX8_alike_46 : decode cX8_alike 46 = .ok (.aload_n 0, 1) := by decide +kernel
theorem dX8_alike_47 : decode cX8_alike 47 = .ok (.iconst 0, 1) := by decide +kernel
theorem dX8_alike_48 : decode cX8_alike 48 = .ok (.invokevirtual 54, 3) := by decide +kernel
theorem dX8_alike_51 : decode cX8_alike 51 = .ok (.ireturn, 1) := by decide +kernel
theorem dX8_alike_52 : decode cX8_alike 52 = .ok (.iconst 0, 1) := by decide +kernel
theorem dX8_alike_53 : decode cX8_alike 53 = .ok (.istore 5, 2) := by decide +kernel
theorem dX8_alike_55 : decode cX8_alike 55 = .ok (.iload 5, 2) := by decide +kernel
theorem dX8_alike_57 : decode cX8_alike 57 = .ok (.aload_n 3, 1) := by decide +kernel
theorem dX8_alike_58 : decode cX8_alike 58 = .ok (.getfield 65, 3) := by decide +kernel
theorem dX8_alike_61 : decode cX8_alike 61 = .ok (.if_icmp .ge 50, 3) := by decide +kernel
theorem dX8_alike_64 : decode cX8_alike 64 = .ok (.aload_n 3, 1) := by decide +kernel
theorem dX8_alike_65 : decode cX8_alike 65 = .ok (.iload 5, 2) := by decide +kernel
theorem dX8_alike_67 : decode cX8_alike 67 = .ok (.aload_n 0, 1) := by decide +kernel
theorem dX8_alike_68 : decode cX8_alike 68 = .ok (.getfield 26, 3) := by decide +kernel
theorem dX8_alike_71 : decode cX8_alike 71 = .ok (.invokevirtual 121, 3) := by decide +kernel
theorem dX8_alike_74 : decode cX8_alike 74 = .ok (.aload 4, 2) := by decide +kernel
theorem dX8_alike_76 : decode cX8_alike 76 = .ok (.iload 5, 2) := by decide +kernel
theorem dX8_alike_78 : decode cX8_alike 78 = .ok (.aload_n 0, 1) := by decide +kernel
theorem dX8_alike_79 : decode cX8_alike 79 = .ok (.getfield 30, 3) := by decide +kernel
theorem dX8_alike_82 : decode cX8_alike 82 = .ok (.invokevirtual 121, 3) := by decide +kernel
theorem dX8_alike_85 : decode cX8_alike 85 = .ok (.aload_n 0, 1) := by decide +kernel
theorem dX8_alike_86 : decode cX8_alike 86 = .ok (.getfield 26, 3) := by decide +kernel
theorem dX8_alike_89 : decode cX8_alike 89 = .ok (.aload_n 0, 1) := by decide +kernel
theorem dX8_alike_90 : decode cX8_alike 90 = .ok (.getfield 30, 3) := by decide +kernel
theorem dX8_alike_93 : decode cX8_alike 93 = .ok (.invokevirtual 166, 3) := by decide +kernel
theorem dX8_alike_96 : decode cX8_alike 96 = .ok (.ifCond .ne 9, 3) := by decide +kernel
theorem dX8_alike_99 : decode cX8_alike 99 = .ok (.aload_n 0, 1) := by decide +kernel
theorem dX8_alike_100 : decode cX8_alike 100 = .ok (.iconst 0, 1) := by decide +kernel
theorem dX8_alike_101 : decode cX8_alike 101 = .ok (.invokevirtual 54, 3) := by decide +kernel
theorem dX8_alike_104 : decode cX8_alike 104 = .ok (.ireturn, 1) := by decide +kernel
theorem dX8_alike_105 : decode cX8_alike 105 = .ok (.iinc 5 1, 3) := by decide +kernel
theorem dX8_alike_108 : decode cX8_alike 108 = .ok (.goto (-53), 3) := by decide +kernel
theorem dX8_alike_111 : decode cX8_alike 111 = .ok (.aload_n 0, 1) := by decide +kernel
theorem dX8_alike_112 : decode cX8_alike 112 = .ok (.iconst 1, 1) := by decide +kernel
theorem dX8_alike_113 : decode cX8_alike 113 = .ok (.invokevirtual 54, 3) := by decide +kernel
theorem dX8_alike_116 : decode cX8_alike 116 = .ok (.ireturn, 1) := by decide +kernel
theorem dX8_why_0 : decode cX8_why 0 = .ok (.aload_n 0, 1) := by decide +kernel
theorem dX8_why_1 : decode cX8_why 1 = .ok (.getfield 33, 3) := by decide +kernel
theorem dX8_why_4 : decode cX8_why 4 = .ok (.ireturn, 1) := by decide +kernel
theorem dX8_refuse_0 : decode cX8_refuse 0 = .ok (.aload_n 0, 1) := by decide +kernel
theorem dX8_refuse_1 : decode cX8_refuse 1 = .ok (.iload_n 1, 1) := by decide +kernel
theorem dX8_refuse_2 : decode cX8_refuse 2 = .ok (.putfield 33, 3) := by decide +kernel
theorem dX8_refuse_5 : decode cX8_refuse 5 = .ok (.iconst 0, 1) := by decide +kernel
theorem dX8_refuse_6 : decode cX8_refuse 6 = .ok (.ireturn, 1) := by decide +kernel
theorem dX8_done_0 : decode cX8_done 0 = .ok (.aload_n 0, 1) := by decide +kernel
theorem dX8_done_1 : decode cX8_done 1 = .ok (.iconst 0, 1) := by decide +kernel
theorem dX8_done_2 : decode cX8_done 2 = .ok (.putfield 33, 3) := by decide +kernel
theorem dX8_done_5 : decode cX8_done 5 = .ok (.iload_n 1, 1) := by decide +kernel
theorem dX8_done_6 : decode cX8_done 6 = .ok (.ireturn, 1) := by decide +kernel
theorem dX8_isColumn_0 : decode cX8_isColumn 0 = .ok (.iload_n 0, 1) := by decide +kernel
theorem dX8_isColumn_1 : decode cX8_isColumn 1 = .ok (.ifCond .lt 13, 3) := by decide +kernel
theorem dX8_isColumn_4 : decode cX8_isColumn 4 = .ok (.iload_n 0, 1) := by decide +kernel
theorem dX8_isColumn_5 : decode cX8_isColumn 5 = .ok (.bipush 12, 2) := by decide +kernel
theorem dX8_isColumn_7 : decode cX8_isColumn 7 = .ok (.if_icmp .ge 7, 3) := by decide +kernel
theorem dX8_isColumn_10 : decode cX8_isColumn 10 = .ok (.iconst 1, 1) := by decide +kernel
theorem dX8_isColumn_11 : decode cX8_isColumn 11 = .ok (.goto 4, 3) := by decide +kernel
theorem dX8_isColumn_14 : decode cX8_isColumn 14 = .ok (.iconst 0, 1) := by decide +kernel
theorem dX8_isColumn_15 : decode cX8_isColumn 15 = .ok (.ireturn, 1) := by decide +kernel
theorem dX8_rowIn_0 : decode cX8_rowIn 0 = .ok (.iload_n 1, 1) := by decide +kernel
theorem dX8_rowIn_1 : decode cX8_rowIn 1 = .ok (.invokestatic 37, 3) := by decide +kernel
theorem dX8_rowIn_4 : decode cX8_rowIn 4 = .ok (.ifCond .eq 26, 3) := by decide +kernel
theorem dX8_rowIn_7 : decode cX8_rowIn 7 = .ok (.aload_n 0, 1) := by decide +kernel
theorem dX8_rowIn_8 : decode cX8_rowIn 8 = .ok (.getfield 11, 3) := by decide +kernel
theorem dX8_rowIn_11 : decode cX8_rowIn 11 = .ok (.iload_n 1, 1) := by decide +kernel
theorem dX8_rowIn_12 : decode cX8_rowIn 12 = .ok (.aaload, 1) := by decide +kernel
theorem dX8_rowIn_13 : decode cX8_rowIn 13 = .ok (.astore_n 3, 1) := by decide +kernel
theorem dX8_rowIn_14 : decode cX8_rowIn 14 = .ok (.aload_n 3, 1) := by decide +kernel
theorem dX8_rowIn_15 : decode cX8_rowIn 15 = .ok (.instanceof 66, 3) := by decide +kernel
theorem dX8_rowIn_18 : decode cX8_rowIn 18 = .ok (.ifCond .eq 12, 3) := by decide +kernel
theorem dX8_rowIn_21 : decode cX8_rowIn 21 = .ok (.aload_n 3, 1) := by decide +kernel
theorem dX8_rowIn_22 : decode cX8_rowIn 22 = .ok (.checkcast 66, 3) := by decide +kernel
theorem dX8_rowIn_25 : decode cX8_rowIn 25 = .ok (.astore_n 2, 1) := by decide +kernel
theorem dX8_rowIn_26 : decode cX8_rowIn 26 = .ok (.aload_n 2, 1) := by decide +kernel
theorem dX8_rowIn_27 : decode cX8_rowIn 27 = .ok (.goto 4, 3) := by decide +kernel
theorem dX8_rowIn_30 : decode cX8_rowIn 30 = .ok (.aconst_null, 1) := by decide +kernel
theorem dX8_rowIn_31 : decode cX8_rowIn 31 = .ok (.areturn, 1) := by decide +kernel
theorem dX8_cardIn_0 : decode cX8_cardIn 0 = .ok (.iload_n 1, 1) := by decide +kernel
theorem dX8_cardIn_1 : decode cX8_cardIn 1 = .ok (.invokestatic 37, 3) := by decide +kernel
theorem dX8_cardIn_4 : decode cX8_cardIn 4 = .ok (.ifCond .eq 26, 3) := by decide +kernel
theorem dX8_cardIn_7 : decode cX8_cardIn 7 = .ok (.aload_n 0, 1) := by decide +kernel
theorem dX8_cardIn_8 : decode cX8_cardIn 8 = .ok (.getfield 11, 3) := by decide +kernel
theorem dX8_cardIn_11 : decode cX8_cardIn 11 = .ok (.iload_n 1, 1) := by decide +kernel
theorem dX8_cardIn_12 : decode cX8_cardIn 12 = .ok (.aaload, 1) := by decide +kernel
theorem dX8_cardIn_13 : decode cX8_cardIn 13 = .ok (.astore_n 3, 1) := by decide +kernel
theorem dX8_cardIn_14 : decode cX8_cardIn 14 = .ok (.aload_n 3, 1) := by decide +kernel
theorem dX8_cardIn_15 : decode cX8_cardIn 15 = .ok (.instanceof 49, 3) := by decide +kernel
theorem dX8_cardIn_18 : decode cX8_cardIn 18 = .ok (.ifCond .eq 12, 3) := by decide +kernel
theorem dX8_cardIn_21 : decode cX8_cardIn 21 = .ok (.aload_n 3, 1) := by decide +kernel
theorem dX8_cardIn_22 : decode cX8_cardIn 22 = .ok (.checkcast 49, 3) := by decide +kernel
theorem dX8_cardIn_25 : decode cX8_cardIn 25 = .ok (.astore_n 2, 1) := by decide +kernel
theorem dX8_cardIn_26 : decode cX8_cardIn 26 = .ok (.aload_n 2, 1) := by decide +kernel
theorem dX8_cardIn_27 : decode cX8_cardIn 27 = .ok (.goto 4, 3) := by decide +kernel
theorem dX8_cardIn_30 : decode cX8_cardIn 30 = .ok (.aconst_null, 1) := by decide +kernel
theorem dX8_cardIn_31 : decode cX8_cardIn 31 = .ok (.areturn, 1) := by decide +kernel
theorem dX8_kindOf_0 : decode cX8_kindOf 0 = .ok (.aload_n 0, 1) := by decide +kernel
theorem dX8_kindOf_1 : decode cX8_kindOf 1 = .ok (.ifnonnull 7, 3) := by decide +kernel
theorem dX8_kindOf_4 : decode cX8_kindOf 4 = .ok (.iconst (-1), 1) := by decide +kernel
theorem dX8_kindOf_5 : decode cX8_kindOf 5 = .ok (.goto 7, 3) := by decide +kernel
theorem dX8_kindOf_8 : decode cX8_kindOf 8 = .ok (.aload_n 0, 1) := by decide +kernel
theorem dX8_kindOf_9 : decode cX8_kindOf 9 = .ok (.getfield 178, 3) := by decide +kernel
theorem dX8_kindOf_12 : decode cX8_kindOf 12 = .ok (.ireturn, 1) := by decide +kernel
theorem dX8_newRow_0 : decode cX8_newRow 0 = .ok (.iload_n 0, 1) := by decide +kernel
theorem dX8_newRow_1 : decode cX8_newRow 1 = .ok (.iconst 5, 1) := by decide +kernel
theorem dX8_newRow_2 : decode cX8_newRow 2 = .ok (.if_icmp .gt 13, 3) := by decide +kernel
theorem dX8_newRow_5 : decode cX8_newRow 5 = .ok (.new 179, 3) := by decide +kernel
theorem dX8_newRow_8 : decode cX8_newRow 8 = .ok (.dup, 1) := by decide +kernel
theorem dX8_newRow_9 : decode cX8_newRow 9 = .ok (.iload_n 0, 1) := by decide +kernel
theorem dX8_newRow_10 : decode cX8_newRow 10 = .ok (.iload_n 1, 1) := by decide +kernel
theorem dX8_newRow_11 : decode cX8_newRow 11 = .ok (.invokespecial 181, 3) := by decide +kernel
theorem dX8_newRow_14 : decode cX8_newRow 14 = .ok (.areturn, 1) := by decide +kernel
theorem dX8_newRow_15 : decode cX8_newRow 15 = .ok (.iload_n 0, 1) := by decide +kernel
theorem dX8_newRow_16 : decode cX8_newRow 16 = .ok (.bipush 7, 2) := by decide +kernel
theorem dX8_newRow_18 : decode cX8_newRow 18 = .ok (.if_icmp .gt 13, 3) := by decide +kernel
theorem dX8_newRow_21 : decode cX8_newRow 21 = .ok (.new 182, 3) := by decide +kernel
theorem dX8_newRow_24 : decode cX8_newRow 24 = .ok (.dup, 1) := by decide +kernel
theorem dX8_newRow_25 : decode cX8_newRow 25 = .ok (.iload_n 0, 1) := by decide +kernel
theorem dX8_newRow_26 : decode cX8_newRow 26 = .ok (.iload_n 1, 1) := by decide +kernel
theorem dX8_newRow_27 : decode cX8_newRow 27 = .ok (.invokespecial 184, 3) := by decide +kernel
theorem dX8_newRow_30 : decode cX8_newRow 30 = .ok (.areturn, 1) := by decide +kernel
theorem dX8_newRow_31 : decode cX8_newRow 31 = .ok (.new 185, 3) := by decide +kernel
theorem dX8_newRow_34 : decode cX8_newRow 34 = .ok (.dup, 1) := by decide +kernel
theorem dX8_newRow_35 : decode cX8_newRow 35 = .ok (.iload_n 0, 1) := by decide +kernel
theorem dX8_newRow_36 : decode cX8_newRow 36 = .ok (.iload_n 1, 1) := by decide +kernel
theorem dX8_newRow_37 : decode cX8_newRow 37 = .ok (.invokespecial 187, 3) := by decide +kernel
theorem dX8_newRow_40 : decode cX8_newRow 40 = .ok (.areturn, 1) := by decide +kernel
theorem dX8_whyNoRow_0 : decode cX8_whyNoRow 0 = .ok (.iload_n 1, 1) := by decide +kernel
theorem dX8_whyNoRow_1 : decode cX8_whyNoRow 1 = .ok (.invokestatic 37, 3) := by decide +kernel
theorem dX8_whyNoRow_4 : decode cX8_whyNoRow 4 = .ok (.ifCond .eq 17, 3) := by decide +kernel
theorem dX8_whyNoRow_7 : decode cX8_whyNoRow 7 = .ok (.iload_n 2, 1) := by decide +kernel
theorem dX8_whyNoRow_8 : decode cX8_whyNoRow 8 = .ok (.invokestatic 37, 3) := by decide +kernel
theorem dX8_whyNoRow_11 : decode cX8_whyNoRow 11 = .ok (.ifCond .eq 10, 3) := by decide +kernel
theorem dX8_whyNoRow_14 : decode cX8_whyNoRow 14 = .ok (.iload_n 3, 1) := by decide +kernel
theorem dX8_whyNoRow_15 : decode cX8_whyNoRow 15 = .ok (.invokestatic 37, 3) := by decide +kernel
theorem dX8_whyNoRow_18 : decode cX8_whyNoRow 18 = .ok (.ifCond .ne 5, 3) := by decide +kernel
theorem dX8_whyNoRow_21 : decode cX8_whyNoRow 21 = .ok (.iconst 1, 1) := by decide +kernel
theorem dX8_whyNoRow_22 : decode cX8_whyNoRow 22 = .ok (.ireturn, 1) := by decide +kernel
theorem dX8_whyNoRow_23 : decode cX8_whyNoRow 23 = .ok (.aload_n 0, 1) := by decide +kernel
theorem dX8_whyNoRow_24 : decode cX8_whyNoRow 24 = .ok (.getfield 11, 3) := by decide +kernel
theorem dX8_whyNoRow_27 : decode cX8_whyNoRow 27 = .ok (.iload_n 1, 1) := by decide +kernel
theorem dX8_whyNoRow_28 : decode cX8_whyNoRow 28 = .ok (.aaload, 1) := by decide +kernel
theorem dX8_whyNoRow_29 : decode cX8_whyNoRow 29 = .ok (.ifnull 21, 3) := by decide +kernel
theorem dX8_whyNoRow_32 : decode cX8_whyNoRow 32 = .ok (.aload_n 0, 1) := by decide +kernel
theorem dX8_whyNoRow_33 : decode cX8_whyNoRow 33 = .ok (.getfield 11, 3) := by decide +kernel
theorem dX8_whyNoRow_36 : decode cX8_whyNoRow 36 = .ok (.iload_n 2, 1) := by decide +kernel
theorem dX8_whyNoRow_37 : decode cX8_whyNoRow 37 = .ok (.aaload, 1) := by decide +kernel
theorem dX8_whyNoRow_38 : decode cX8_whyNoRow 38 = .ok (.ifnull 12, 3) := by decide +kernel
theorem dX8_whyNoRow_41 : decode cX8_whyNoRow 41 = .ok (.aload_n 0, 1) := by decide +kernel
theorem dX8_whyNoRow_42 : decode cX8_whyNoRow 42 = .ok (.getfield 11, 3) := by decide +kernel
theorem dX8_whyNoRow_45 : decode cX8_whyNoRow 45 = .ok (.iload_n 3, 1) := by decide +kernel
theorem dX8_whyNoRow_46 : decode cX8_whyNoRow 46 = .ok (.aaload, 1) := by decide +kernel
theorem dX8_whyNoRow_47 : decode cX8_whyNoRow 47 = .ok (.ifnonnull 5, 3) := by decide +kernel
theorem dX8_whyNoRow_50 : decode cX8_whyNoRow 50 = .ok (.iconst 2, 1) := by decide +kernel
theorem dX8_whyNoRow_51 : decode cX8_whyNoRow 51 = .ok (.ireturn, 1) := by decide +kernel
theorem dX8_whyNoRow_52 : decode cX8_whyNoRow 52 = .ok (.iconst 3, 1) := by decide +kernel
theorem dX8_whyNoRow_53 : decode cX8_whyNoRow 53 = .ok (.ireturn, 1) := by decide +kernel
theorem dX8_whyNoCard_0 : decode cX8_whyNoCard 0 = .ok (.iload_n 0, 1) := by decide +kernel
theorem dX8_whyNoCard_1 : decode cX8_whyNoCard 1 = .ok (.invokestatic 37, 3) := by decide +kernel
theorem dX8_whyNoCard_4 : decode cX8_whyNoCard 4 = .ok (.ifCond .eq 7, 3) := by decide +kernel
theorem dX8_whyNoCard_7 : decode cX8_whyNoCard 7 = .ok (.iconst 5, 1) := by decide +kernel
theorem dX8_whyNoCard_8 : decode cX8_whyNoCard 8 = .ok (.goto 4, 3) := by decide +kernel
theorem dX8_whyNoCard_11 : decode cX8_whyNoCard 11 = .ok (.iconst 1, 1) := by decide +kernel
theorem dX8_whyNoCard_12 : decode cX8_whyNoCard 12 = .ok (.ireturn, 1) := by decide +kernel
theorem dX8_whyNoValue_0 : decode cX8_whyNoValue 0 = .ok (.aload_n 0, 1) := by decide +kernel
theorem dX8_whyNoValue_1 : decode cX8_whyNoValue 1 = .ok (.iload_n 1, 1) := by decide +kernel
theorem dX8_whyNoValue_2 : decode cX8_whyNoValue 2 = .ok (.invokevirtual 57, 3) := by decide +kernel
theorem dX8_whyNoValue_5 : decode cX8_whyNoValue 5 = .ok (.astore 4, 2) := by decide +kernel
theorem dX8_whyNoValue_7 : decode cX8_whyNoValue 7 = .ok (.aload 4, 2) := by decide +kernel
theorem dX8_whyNoValue_9 : decode cX8_whyNoValue 9 = .ok (.ifnonnull 11, 3) := by decide +kernel
theorem dX8_whyNoValue_12 : decode cX8_whyNoValue 12 = .ok (.aload_n 0, 1) := by decide +kernel
theorem dX8_whyNoValue_13 : decode cX8_whyNoValue 13 = .ok (.iload_n 1, 1) := by decide +kernel
theorem dX8_whyNoValue_14 : decode cX8_whyNoValue 14 = .ok (.iload_n 1, 1) := by decide +kernel
theorem dX8_whyNoValue_15 : decode cX8_whyNoValue 15 = .ok (.iload_n 1, 1) := by decide +kernel
theorem dX8_whyNoValue_16 : decode cX8_whyNoValue 16 = .ok (.invokevirtual 61, 3) := by decide +kernel
theorem dX8_whyNoValue_19 : decode cX8_whyNoValue 19 = .ok (.ireturn, 1) := by decide +kernel
theorem dX8_whyNoValue_20 : decode cX8_whyNoValue 20 = .ok (.aload 4, 2) := by decide +kernel
theorem dX8_whyNoValue_22 : decode cX8_whyNoValue 22 = .ok (.iload_n 2, 1) := by decide +kernel
theorem dX8_whyNoValue_23 : decode cX8_whyNoValue 23 = .ok (.invokevirtual 87, 3) := by decide +kernel
theorem dX8_whyNoValue_26 : decode cX8_whyNoValue 26 = .ok (.ifCond .ne 5, 3) := by decide +kernel
theorem dX8_whyNoValue_29 : decode cX8_whyNoValue 29 = .ok (.iconst 4, 1) := by decide +kernel
theorem dX8_whyNoValue_30 : decode cX8_whyNoValue 30 = .ok (.ireturn, 1) := by decide +kernel
theorem dX8_whyNoValue_31 : decode cX8_whyNoValue 31 = .ok (.aload 4, 2) := by decide +kernel
theorem dX8_whyNoValue_33 : decode cX8_whyNoValue 33 = .ok (.getfield 153, 3) := by decide +kernel
theorem dX8_whyNoValue_36 : decode cX8_whyNoValue 36 = .ok (.iload_n 3, 1) := by decide +kernel
theorem dX8_whyNoValue_37 : decode cX8_whyNoValue 37 = .ok (.invokestatic 188, 3) := by decide +kernel
theorem dX8_whyNoValue_40 : decode cX8_whyNoValue 40 = .ok (.ifCond .ne 5, 3) := by decide +kernel
theorem dX8_whyNoValue_43 : decode cX8_whyNoValue 43 = .ok (.iconst 5, 1) := by decide +kernel
theorem dX8_whyNoValue_44 : decode cX8_whyNoValue 44 = .ok (.ireturn, 1) := by decide +kernel
theorem dX8_whyNoValue_45 : decode cX8_whyNoValue 45 = .ok (.aload 4, 2) := by decide +kernel
theorem dX8_whyNoValue_47 : decode cX8_whyNoValue 47 = .ok (.iload_n 2, 1) := by decide +kernel
theorem dX8_whyNoValue_48 : decode cX8_whyNoValue 48 = .ok (.aload_n 0, 1) := by decide +kernel
theorem dX8_whyNoValue_49 : decode cX8_whyNoValue 49 = .ok (.getfield 26, 3) := by decide +kernel
theorem dX8_whyNoValue_52 : decode cX8_whyNoValue 52 = .ok (.invokevirtual 121, 3) := by decide +kernel
theorem dX8_whyNoValue_55 : decode cX8_whyNoValue 55 = .ok (.iconst 0, 1) := by decide +kernel
theorem dX8_whyNoValue_56 : decode cX8_whyNoValue 56 = .ok (.ireturn, 1) := by decide +kernel
theorem dX8_goesInto_0 : decode cX8_goesInto 0 = .ok (.iload_n 0, 1) := by decide +kernel
theorem dX8_goesInto_1 : decode cX8_goesInto 1 = .ok (.iload_n 1, 1) := by decide +kernel
theorem dX8_goesInto_2 : decode cX8_goesInto 2 = .ok (.if_icmp .ne 5, 3) := by decide +kernel
theorem dX8_goesInto_5 : decode cX8_goesInto 5 = .ok (.iconst 1, 1) := by decide +kernel
theorem dX8_goesInto_6 : decode cX8_goesInto 6 = .ok (.ireturn, 1) := by decide +kernel
theorem dX8_goesInto_7 : decode cX8_goesInto 7 = .ok (.iload_n 0, 1) := by decide +kernel
theorem dX8_goesInto_8 : decode cX8_goesInto 8 = .ok (.ifCond .eq 18, 3) := by decide +kernel
theorem dX8_goesInto_11 : decode cX8_goesInto 11 = .ok (.iload_n 1, 1) := by decide +kernel
theorem dX8_goesInto_12 : decode cX8_goesInto 12 = .ok (.iconst 2, 1) := by decide +kernel
theorem dX8_goesInto_13 : decode cX8_goesInto 13 = .ok (.if_icmp .eq 13, 3) := by decide +kernel
theorem dX8_goesInto_16 : decode cX8_goesInto 16 = .ok (.iload_n 0, 1) := by decide +kernel
theorem dX8_goesInto_17 : decode cX8_goesInto 17 = .ok (.iconst 2, 1) := by decide +kernel
theorem dX8_goesInto_18 : decode cX8_goesInto 18 = .ok (.if_icmp .ne 10, 3) := by decide +kernel
theorem dX8_goesInto_21 : decode cX8_goesInto 21 = .ok (.iload_n 1, 1) := by decide +kernel
theorem dX8_goesInto_22 : decode cX8_goesInto 22 = .ok (.iconst 3, 1) := by decide +kernel
theorem dX8_goesInto_23 : decode cX8_goesInto 23 = .ok (.if_icmp .ne 5, 3) := by decide +kernel
theorem dX8_goesInto_26 : decode cX8_goesInto 26 = .ok (.iconst 0, 1) := by decide +kernel
theorem dX8_goesInto_27 : decode cX8_goesInto 27 = .ok (.ireturn, 1) := by decide +kernel
theorem dX8_goesInto_28 : decode cX8_goesInto 28 = .ok (.iload_n 0, 1) := by decide +kernel
theorem dX8_goesInto_29 : decode cX8_goesInto 29 = .ok (.iload_n 1, 1) := by decide +kernel
theorem dX8_goesInto_30 : decode cX8_goesInto 30 = .ok (.if_icmp .ge 7, 3) := by decide +kernel
theorem dX8_goesInto_33 : decode cX8_goesInto 33 = .ok (.iconst 1, 1) := by decide +kernel
theorem dX8_goesInto_34 : decode cX8_goesInto 34 = .ok (.goto 4, 3) := by decide +kernel
theorem dX8_goesInto_37 : decode cX8_goesInto 37 = .ok (.iconst 0, 1) := by decide +kernel
theorem dX8_goesInto_38 : decode cX8_goesInto 38 = .ok (.ireturn, 1) := by decide +kernel
theorem dX8_whyNoIndex_0 : decode cX8_whyNoIndex 0 = .ok (.aload_n 0, 1) := by decide +kernel
theorem dX8_whyNoIndex_1 : decode cX8_whyNoIndex 1 = .ok (.getfield 153, 3) := by decide +kernel
theorem dX8_whyNoIndex_4 : decode cX8_whyNoIndex 4 = .ok (.iconst 4, 1) := by decide +kernel
theorem dX8_whyNoIndex_5 : decode cX8_whyNoIndex 5 = .ok (.invokestatic 188, 3) := by decide +kernel
theorem dX8_whyNoIndex_8 : decode cX8_whyNoIndex 8 = .ok (.ifCond .ne 6, 3) := by decide +kernel
theorem dX8_whyNoIndex_11 : decode cX8_whyNoIndex 11 = .ok (.bipush 6, 2) := by decide +kernel
theorem dX8_whyNoIndex_13 : decode cX8_whyNoIndex 13 = .ok (.ireturn, 1) := by decide +kernel
theorem dX8_whyNoIndex_14 : decode cX8_whyNoIndex 14 = .ok (.aload_n 0, 1) := by decide +kernel
theorem dX8_whyNoIndex_15 : decode cX8_whyNoIndex 15 = .ok (.getfield 65, 3) := by decide +kernel
theorem dX8_whyNoIndex_18 : decode cX8_whyNoIndex 18 = .ok (.iload_n 1, 1) := by decide +kernel
theorem dX8_whyNoIndex_19 : decode cX8_whyNoIndex 19 = .ok (.if_icmp .ne 7, 3) := by decide +kernel
theorem dX8_whyNoIndex_22 : decode cX8_whyNoIndex 22 = .ok (.iconst 0, 1) := by decide +kernel
theorem dX8_whyNoIndex_23 : decode cX8_whyNoIndex 23 = .ok (.goto 4, 3) := by decide +kernel
theorem dX8_whyNoIndex_26 : decode cX8_whyNoIndex 26 = .ok (.iconst 4, 1) := by decide +kernel
theorem dX8_whyNoIndex_27 : decode cX8_whyNoIndex 27 = .ok (.ireturn, 1) := by decide +kernel
theorem dX8_placeAt_0 : decode cX8_placeAt 0 = .ok (.aload_n 1, 1) := by decide +kernel
theorem dX8_placeAt_1 : decode cX8_placeAt 1 = .ok (.iload_n 2, 1) := by decide +kernel
theorem dX8_placeAt_2 : decode cX8_placeAt 2 = .ok (.aload_n 0, 1) := by decide +kernel
theorem dX8_placeAt_3 : decode cX8_placeAt 3 = .ok (.getfield 26, 3) := by decide +kernel
theorem dX8_placeAt_6 : decode cX8_placeAt 6 = .ok (.invokevirtual 121, 3) := by decide +kernel
theorem dX8_placeAt_9 : decode cX8_placeAt 9 = .ok (.aload_n 0, 1) := by decide +kernel
theorem dX8_placeAt_10 : decode cX8_placeAt 10 = .ok (.getfield 26, 3) := by decide +kernel
theorem dX8_placeAt_13 : decode cX8_placeAt 13 = .ok (.getfield 113, 3) := by decide +kernel
theorem dX8_placeAt_16 : decode cX8_placeAt 16 = .ok (.l2i, 1) := by decide +kernel
theorem dX8_placeAt_17 : decode cX8_placeAt 17 = .ok (.ireturn, 1) := by decide +kernel
theorem dX8_secondIsNext_0 : decode cX8_secondIsNext 0 = .ok (.aload_n 1, 1) := by decide +kernel
theorem dX8_secondIsNext_1 : decode cX8_secondIsNext 1 = .ok (.iload_n 2, 1) := by decide +kernel
theorem dX8_secondIsNext_2 : decode cX8_secondIsNext 2 = .ok (.invokevirtual 87, 3) := by decide +kernel
theorem dX8_secondIsNext_5 : decode cX8_secondIsNext 5 = .ok (.ifCond .ne 5, 3) := by decide +kernel
theorem dX8_secondIsNext_8 : decode cX8_secondIsNext 8 = .ok (.iconst 1, 1) := by decide +kernel
theorem dX8_secondIsNext_9 : decode cX8_secondIsNext 9 = .ok (.ireturn, 1) := by decide +kernel
theorem dX8_secondIsNext_10 : decode cX8_secondIsNext 10 = .ok (.aload_n 3, 1) := by decide +kernel
theorem dX8_secondIsNext_11 : decode cX8_secondIsNext 11 = .ok (.iload 4, 2) := by decide +kernel
theorem dX8_secondIsNext_13 : decode cX8_secondIsNext 13 = .ok (.invokevirtual 87, 3) := by decide +kernel
theorem dX8_secondIsNext_16 : decode cX8_secondIsNext 16 = .ok (.ifCond .ne 5, 3) := by decide +kernel
theorem dX8_secondIsNext_19 : decode cX8_secondIsNext 19 = .ok (.iconst 0, 1) := by decide +kernel
theorem dX8_secondIsNext_20 : decode cX8_secondIsNext 20 = .ok (.ireturn, 1) := by decide +kernel
theorem dX8_secondIsNext_21 : decode cX8_secondIsNext 21 = .ok (.aload_n 1, 1) := by decide +kernel
theorem dX8_secondIsNext_22 : decode cX8_secondIsNext 22 = .ok (.iload_n 2, 1) := by decide +kernel
theorem dX8_secondIsNext_23 : decode cX8_secondIsNext 23 = .ok (.aload_n 0, 1) := by decide +kernel
theorem dX8_secondIsNext_24 : decode cX8_secondIsNext 24 = .ok (.getfield 26, 3) := by decide +kernel
theorem dX8_secondIsNext_27 : decode cX8_secondIsNext 27 = .ok (.invokevirtual 121, 3) := by decide +kernel
theorem dX8_secondIsNext_30 : decode cX8_secondIsNext 30 = .ok (.aload_n 3, 1) := by decide +kernel
theorem dX8_secondIsNext_31 : decode cX8_secondIsNext 31 = .ok (.iload 4, 2) := by decide +kernel
theorem dX8_secondIsNext_33 : decode cX8_secondIsNext 33 = .ok (.aload_n 0, 1) := by decide +kernel
theorem dX8_secondIsNext_34 : decode cX8_secondIsNext 34 = .ok (.getfield 30, 3) := by decide +kernel
theorem dX8_secondIsNext_37 : decode cX8_secondIsNext 37 = .ok (.invokevirtual 121, 3) := by decide +kernel
theorem dX8_secondIsNext_40 : decode cX8_secondIsNext 40 = .ok (.aload_n 0, 1) := by decide +kernel
theorem dX8_secondIsNext_41 : decode cX8_secondIsNext 41 = .ok (.getfield 30, 3) := by decide +kernel
theorem dX8_secondIsNext_44 : decode cX8_secondIsNext 44 = .ok (.aload_n 0, 1) := by decide +kernel
theorem dX8_secondIsNext_45 : decode cX8_secondIsNext 45 = .ok (.getfield 26, 3) := by decide +kernel
theorem dX8_secondIsNext_48 : decode cX8_secondIsNext 48 = .ok (.invokevirtual 192, 3) := by decide +kernel
theorem dX8_secondIsNext_51 : decode cX8_secondIsNext 51 = .ok (.ireturn, 1) := by decide +kernel
theorem dX8_drafts_0 : decode cX8_drafts 0 = .ok (.aload_n 2, 1) := by decide +kernel
theorem dX8_drafts_1 : decode cX8_drafts 1 = .ok (.iload_n 3, 1) := by decide +kernel
theorem dX8_drafts_2 : decode cX8_drafts 2 = .ok (.aload_n 0, 1) := by decide +kernel
theorem dX8_drafts_3 : decode cX8_drafts 3 = .ok (.getfield 17, 3) := by decide +kernel
theorem dX8_drafts_6 : decode cX8_drafts 6 = .ok (.iload_n 1, 1) := by decide +kernel
theorem dX8_drafts_7 : decode cX8_drafts 7 = .ok (.aaload, 1) := by decide +kernel
theorem dX8_drafts_8 : decode cX8_drafts 8 = .ok (.invokevirtual 121, 3) := by decide +kernel
theorem dX8_drafts_11 : decode cX8_drafts 11 = .ok (.aload 4, 2) := by decide +kernel
theorem dX8_drafts_13 : decode cX8_drafts 13 = .ok (.aload_n 0, 1) := by decide +kernel
theorem dX8_drafts_14 : decode cX8_drafts 14 = .ok (.getfield 17, 3) := by decide +kernel
theorem dX8_drafts_17 : decode cX8_drafts 17 = .ok (.iload_n 1, 1) := by decide +kernel
theorem dX8_drafts_18 : decode cX8_drafts 18 = .ok (.aaload, 1) := by decide +kernel
theorem dX8_drafts_19 : decode cX8_drafts 19 = .ok (.invokevirtual 94, 3) := by decide +kernel
theorem dX8_drafts_22 : decode cX8_drafts 22 = .ok (.ireturn, 1) := by decide +kernel
theorem dX8_readDraft_0 : decode cX8_readDraft 0 = .ok (.iconst 0, 1) := by decide +kernel
theorem dX8_readDraft_1 : decode cX8_readDraft 1 = .ok (.istore_n 2, 1) := by decide +kernel
theorem dX8_readDraft_2 : decode cX8_readDraft 2 = .ok (.iload_n 2, 1) := by decide +kernel
theorem dX8_readDraft_3 : decode cX8_readDraft 3 = .ok (.aload_n 1, 1) := by decide +kernel
theorem dX8_readDraft_4 : decode cX8_readDraft 4 = .ok (.getfield 65, 3) := by decide +kernel
theorem dX8_readDraft_7 : decode cX8_readDraft 7 = .ok (.if_icmp .ge 20, 3) := by decide +kernel
theorem dX8_readDraft_10 : decode cX8_readDraft 10 = .ok (.aload_n 1, 1) := by decide +kernel
theorem dX8_readDraft_11 : decode cX8_readDraft 11 = .ok (.iload_n 2, 1) := by decide +kernel
theorem dX8_readDraft_12 : decode cX8_readDraft 12 = .ok (.aload_n 0, 1) := by decide +kernel
theorem dX8_readDraft_13 : decode cX8_readDraft 13 = .ok (.getfield 17, 3) := by decide +kernel
theorem dX8_readDraft_16 : decode cX8_readDraft 16 = .ok (.iload_n 2, 1) := by decide +kernel
theorem dX8_readDraft_17 : decode cX8_readDraft 17 = .ok (.aaload, 1) := by decide +kernel
theorem dX8_readDraft_18 : decode cX8_readDraft 18 = .ok (.invokevirtual 121, 3) := by decide +kernel
theorem dX8_readDraft_21 : decode cX8_readDraft 21 = .ok (.iinc 2 1, 3) := by decide +kernel
theorem dX8_readDraft_24 : decode cX8_readDraft 24 = .ok (.goto (-22), 3) := by decide +kernel
theorem dX8_readDraft_27 : decode cX8_readDraft 27 = .ok (.return_, 1) := by decide +kernel
theorem dX8_writeDraft_0 : decode cX8_writeDraft 0 = .ok (.iconst 0, 1) := by decide +kernel
theorem dX8_writeDraft_1 : decode cX8_writeDraft 1 = .ok (.istore_n 2, 1) := by decide +kernel
theorem dX8_writeDraft_2 : decode cX8_writeDraft 2 = .ok (.iload_n 2, 1) := by decide +kernel
theorem dX8_writeDraft_3 : decode cX8_writeDraft 3 = .ok (.aload_n 1, 1) := by decide +kernel
theorem dX8_writeDraft_4 : decode cX8_writeDraft 4 = .ok (.getfield 65, 3) := by decide +kernel
theorem dX8_writeDraft_7 : decode cX8_writeDraft 7 = .ok (.if_icmp .ge 20, 3) := by decide +kernel
theorem dX8_writeDraft_10 : decode cX8_writeDraft 10 = .ok (.aload_n 1, 1) := by decide +kernel
theorem dX8_writeDraft_11 : decode cX8_writeDraft 11 = .ok (.iload_n 2, 1) := by decide +kernel
theorem dX8_writeDraft_12 : decode cX8_writeDraft 12 = .ok (.aload_n 0, 1) := by decide +kernel
theorem dX8_writeDraft_13 : decode cX8_writeDraft 13 = .ok (.getfield 17, 3) := by decide +kernel
theorem dX8_writeDraft_16 : decode cX8_writeDraft 16 = .ok (.iload_n 2, 1) := by decide +kernel
theorem dX8_writeDraft_17 : decode cX8_writeDraft 17 = .ok (.aaload, 1) := by decide +kernel
theorem dX8_writeDraft_18 : decode cX8_writeDraft 18 = .ok (.invokevirtual 98, 3) := by decide +kernel
theorem dX8_writeDraft_21 : decode cX8_writeDraft 21 = .ok (.iinc 2 1, 3) := by decide +kernel
theorem dX8_writeDraft_24 : decode cX8_writeDraft 24 = .ok (.goto (-22), 3) := by decide +kernel
theorem dX8_writeDraft_27 : decode cX8_writeDraft 27 = .ok (.aload_n 1, 1) := by decide +kernel
theorem dX8_writeDraft_28 : decode cX8_writeDraft 28 = .ok (.getfield 65, 3) := by decide +kernel
theorem dX8_writeDraft_31 : decode cX8_writeDraft 31 = .ok (.ireturn, 1) := by decide +kernel
theorem dX8_orderDraft_0 : decode cX8_orderDraft 0 = .ok (.iconst 1, 1) := by decide +kernel
theorem dX8_orderDraft_1 : decode cX8_orderDraft 1 = .ok (.istore_n 2, 1) := by decide +kernel
theorem dX8_orderDraft_2 : decode cX8_orderDraft 2 = .ok (.iload_n 2, 1) := by decide +kernel
theorem dX8_orderDraft_3 : decode cX8_orderDraft 3 = .ok (.iload_n 1, 1) := by decide +kernel
theorem dX8_orderDraft_4 : decode cX8_orderDraft 4 = .ok (.if_icmp .ge 70, 3) := by decide +kernel
theorem dX8_orderDraft_7 : decode cX8_orderDraft 7 = .ok (.aload_n 0, 1) := by decide +kernel
theorem dX8_orderDraft_8 : decode cX8_orderDraft 8 = .ok (.getfield 17, 3) := by decide +kernel
theorem dX8_orderDraft_11 : decode cX8_orderDraft 11 = .ok (.iload_n 2, 1) := by decide +kernel
theorem dX8_orderDraft_12 : decode cX8_orderDraft 12 = .ok (.aaload, 1) := by decide +kernel
theorem dX8_orderDraft_13 : decode cX8_orderDraft 13 = .ok (.astore_n 3, 1) := by decide +kernel
theorem dX8_orderDraft_14 : decode cX8_orderDraft 14 = .ok (.iload_n 2, 1) := by decide +kernel
theorem dX8_orderDraft_15 : decode cX8_orderDraft 15 = .ok (.istore 4, 2) := by decide +kernel
theorem dX8_orderDraft_17 : decode cX8_orderDraft 17 = .ok (.iload 4, 2) := by decide +kernel
theorem dX8_orderDraft_19 : decode cX8_orderDraft 19 = .ok (.ifCond .le 41, 3) := by decide +kernel
theorem dX8_orderDraft_22 : decode cX8_orderDraft 22 = .ok (.aload_n 3, 1) := by decide +kernel
theorem dX8_orderDraft_23 : decode cX8_orderDraft 23 = .ok (.aload_n 0, 1) := by decide +kernel
theorem dX8_orderDraft_24 : decode cX8_orderDraft 24 = .ok (.getfield 17, 3) := by decide +kernel
theorem dX8_orderDraft_27 : decode cX8_orderDraft 27 = .ok (.iload 4, 2) := by decide +kernel
theorem dX8_orderDraft_29 : decode cX8_orderDraft 29 = .ok (.iconst 1, 1) := by decide +kernel
theorem dX8_orderDraft_30 : decode cX8_orderDraft 30 = .ok (.isub, 1) := by decide +kernel
theorem dX8_orderDraft_31 : decode cX8_orderDraft 31 = .ok (.aaload, 1) := by decide +kernel
theorem dX8_orderDraft_32 : decode cX8_orderDraft 32 = .ok (.invokevirtual 192, 3) := by decide +kernel
theorem dX8_orderDraft_35 : decode cX8_orderDraft 35 = .ok (.ifCond .eq 25, 3) := by decide +kernel
theorem dX8_orderDraft_38 : decode cX8_orderDraft 38 = .ok (.aload_n 0, 1) := by decide +kernel
theorem dX8_orderDraft_39 : decode cX8_orderDraft 39 = .ok (.getfield 17, 3) := by decide +kernel
theorem dX8_orderDraft_42 : decode cX8_orderDraft 42 = .ok (.iload 4, 2) := by decide +kernel
theorem dX8_orderDraft_44 : decode cX8_orderDraft 44 = .ok (.aload_n 0, 1) := by decide +kernel
theorem dX8_orderDraft_45 : decode cX8_orderDraft 45 = .ok (.getfield 17, 3) := by decide +kernel
theorem dX8_orderDraft_48 : decode cX8_orderDraft 48 = .ok (.iload 4, 2) := by decide +kernel
theorem dX8_orderDraft_50 : decode cX8_orderDraft 50 = .ok (.iconst 1, 1) := by decide +kernel
theorem dX8_orderDraft_51 : decode cX8_orderDraft 51 = .ok (.isub, 1) := by decide +kernel
theorem dX8_orderDraft_52 : decode cX8_orderDraft 52 = .ok (.aaload, 1) := by decide +kernel
theorem dX8_orderDraft_53 : decode cX8_orderDraft 53 = .ok (.aastore, 1) := by decide +kernel
theorem dX8_orderDraft_54 : decode cX8_orderDraft 54 = .ok (.iinc 4 (-1), 3) := by decide +kernel
theorem dX8_orderDraft_57 : decode cX8_orderDraft 57 = .ok (.goto (-40), 3) := by decide +kernel
theorem dX8_orderDraft_60 : decode cX8_orderDraft 60 = .ok (.aload_n 0, 1) := by decide +kernel
theorem dX8_orderDraft_61 : decode cX8_orderDraft 61 = .ok (.getfield 17, 3) := by decide +kernel
theorem dX8_orderDraft_64 : decode cX8_orderDraft 64 = .ok (.iload 4, 2) := by decide +kernel
theorem dX8_orderDraft_66 : decode cX8_orderDraft 66 = .ok (.aload_n 3, 1) := by decide +kernel
theorem dX8_orderDraft_67 : decode cX8_orderDraft 67 = .ok (.aastore, 1) := by decide +kernel
theorem dX8_orderDraft_68 : decode cX8_orderDraft 68 = .ok (.iinc 2 1, 3) := by decide +kernel
theorem dX8_orderDraft_71 : decode cX8_orderDraft 71 = .ok (.goto (-69), 3) := by decide +kernel
theorem dX8_orderDraft_74 : decode cX8_orderDraft 74 = .ok (.return_, 1) := by decide +kernel
