theorem dX3_init_0 : decode cX3_init 0 = .ok (.aload_n 0, 1) := by decide +kernel
theorem dX3_init_1 : decode cX3_init 1 = .ok (.invokespecial 3, 3) := by decide +kernel
theorem dX3_init_4 : decode cX3_init 4 = .ok (.aload_n 0, 1) := by decide +kernel
theorem dX3_init_5 : decode cX3_init 5 = .ok (.new 9, 3) := by decide +kernel
theorem dX3_init_8 : decode cX3_init 8 = .ok (.dup, 1) := by decide +kernel
theorem dX3_init_9 : decode cX3_init 9 = .ok (.invokespecial 11, 3) := by decide +kernel
theorem dX3_init_12 : decode cX3_init 12 = .ok (.putfield 12, 3) := by decide +kernel
theorem dX3_init_15 : decode cX3_init 15 = .ok (.aload_n 0, 1) := by decide +kernel
theorem dX3_init_16 : decode cX3_init 16 = .ok (.new 16, 3) := by decide +kernel
theorem dX3_init_19 : decode cX3_init 19 = .ok (.dup, 1) := by decide +kernel
theorem dX3_init_20 : decode cX3_init 20 = .ok (.invokespecial 18, 3) := by decide +kernel
theorem dX3_init_23 : decode cX3_init 23 = .ok (.putfield 19, 3) := by decide +kernel
theorem dX3_init_26 : decode cX3_init 26 = .ok (.aload_n 0, 1) := by decide +kernel
theorem dX3_init_27 : decode cX3_init 27 = .ok (.iconst 0, 1) := by decide +kernel
theorem dX3_init_28 : decode cX3_init 28 = .ok (.putfield 23, 3) := by decide +kernel
theorem dX3_init_31 : decode cX3_init 31 = .ok (.aload_n 0, 1) := by decide +kernel
theorem dX3_init_32 : decode cX3_init 32 = .ok (.new 27, 3) := by decide +kernel
theorem dX3_init_35 : decode cX3_init 35 = .ok (.dup, 1) := by decide +kernel
theorem dX3_init_36 : decode cX3_init 36 = .ok (.iload_n 1, 1) := by decide +kernel
theorem dX3_init_37 : decode cX3_init 37 = .ok (.invokestatic 29, 3) := by decide +kernel
theorem dX3_init_40 : decode cX3_init 40 = .ok (.iload_n 2, 1) := by decide +kernel
theorem dX3_init_41 : decode cX3_init 41 = .ok (.invokestatic 29, 3) := by decide +kernel
theorem dX3_init_44 : decode cX3_init 44 = .ok (.invokespecial 33, 3) := by decide +kernel
theorem dX3_init_47 : decode cX3_init 47 = .ok (.putfield 36, 3) := by decide +kernel
theorem dX3_init_50 : decode cX3_init 50 = .ok (.return_, 1) := by decide +kernel
theorem dX3_corner_0 : decode cX3_corner 0 = .ok (.iload_n 1, 1) := by decide +kernel
theorem dX3_corner_1 : decode cX3_corner 1 = .ok (.iconst 0, 1) := by decide +kernel
theorem dX3_corner_2 : decode cX3_corner 2 = .ok (.iconst 2, 1) := by decide +kernel
theorem dX3_corner_3 : decode cX3_corner 3 = .ok (.invokestatic 40, 3) := by decide +kernel
theorem dX3_corner_6 : decode cX3_corner 6 = .ok (.ifCond .eq 55, 3) := by decide +kernel
theorem dX3_corner_9 : decode cX3_corner 9 = .ok (.iload_n 2, 1) := by decide +kernel
theorem dX3_corner_10 : decode cX3_corner 10 = .ok (.sipush (-4096), 3) := by decide +kernel
theorem dX3_corner_13 : decode cX3_corner 13 = .ok (.sipush 4096, 3) := by decide +kernel
theorem dX3_corner_16 : decode cX3_corner 16 = .ok (.invokestatic 40, 3) := by decide +kernel
theorem dX3_corner_19 : decode cX3_corner 19 = .ok (.ifCond .eq 42, 3) := by decide +kernel
theorem dX3_corner_22 : decode cX3_corner 22 = .ok (.iload_n 3, 1) := by decide +kernel
theorem dX3_corner_23 : decode cX3_corner 23 = .ok (.sipush (-4096), 3) := by decide +kernel
theorem dX3_corner_26 : decode cX3_corner 26 = .ok (.sipush 4096, 3) := by decide +kernel
theorem dX3_corner_29 : decode cX3_corner 29 = .ok (.invokestatic 40, 3) := by decide +kernel
theorem dX3_corner_32 : decode cX3_corner 32 = .ok (.ifCond .eq 29, 3) := by decide +kernel
theorem dX3_corner_35 : decode cX3_corner 35 = .ok (.iload 4, 2) := by decide +kernel
theorem dX3_corner_37 : decode cX3_corner 37 = .ok (.iconst 1, 1) := by decide +kernel
theorem dX3_corner_38 : decode cX3_corner 38 = .ok (.ldc 44, 2) := by decide +kernel
theorem dX3_corner_40 : decode cX3_corner 40 = .ok (.invokestatic 40, 3) := by decide +kernel
theorem dX3_corner_43 : decode cX3_corner 43 = .ok (.ifCond .eq 18, 3) := by decide +kernel
theorem dX3_corner_46 : decode cX3_corner 46 = .ok (.iload 5, 2) := by decide +kernel
theorem dX3_corner_48 : decode cX3_corner 48 = .ok (.iconst 0, 1) := by decide +kernel
theorem dX3_corner_49 : decode cX3_corner 49 = .ok (.ldc 45, 2) := by decide +kernel
theorem dX3_corner_51 : decode cX3_corner 51 = .ok (.invokestatic 40, 3) := by decide +kernel
theorem dX3_corner_54 : decode cX3_corner 54 = .ok (.ifCond .eq 7, 3) := by decide +kernel
theorem dX3_corner_57 : decode cX3_corner 57 = .ok (.iconst 1, 1) := by decide +kernel
theorem dX3_corner_58 : decode cX3_corner 58 = .ok (.goto 4, 3) := by decide +kernel
theorem dX3_corner_61 : decode cX3_corner 61 = .ok (.iconst 0, 1) := by decide +kernel
theorem dX3_corner_62 : decode cX3_corner 62 = .ok (.istore 6, 2) := by decide +kernel
theorem dX3_corner_64 : decode cX3_corner 64 = .ok (.iload 6, 2) := by decide +kernel
theorem dX3_corner_66 : decode cX3_corner 66 = .ok (.ifCond .eq 21, 3) := by decide +kernel
theorem dX3_corner_69 : decode cX3_corner 69 = .ok (.aload_n 0, 1) := by decide +kernel
theorem dX3_corner_70 : decode cX3_corner 70 = .ok (.getfield 12, 3) := by decide +kernel
theorem dX3_corner_73 : decode cX3_corner 73 = .ok (.iload_n 1, 1) := by decide +kernel
theorem dX3_corner_74 : decode cX3_corner 74 = .ok (.iload_n 2, 1) := by decide +kernel
theorem dX3_corner_75 : decode cX3_corner 75 = .ok (.i2l, 1) := by decide +kernel
theorem dX3_corner_76 : decode cX3_corner 76 = .ok (.iload_n 3, 1) := by decide +kernel
theorem dX3_corner_77 : decode cX3_corner 77 = .ok (.i2l, 1) := by decide +kernel
theorem dX3_corner_78 : decode cX3_corner 78 = .ok (.iload 4, 2) := by decide +kernel
theorem dX3_corner_80 : decode cX3_corner 80 = .ok (.i2l, 1) := by decide +kernel
theorem dX3_corner_81 : decode cX3_corner 81 = .ok (.iload 5, 2) := by decide +kernel
theorem dX3_corner_83 : decode cX3_corner 83 = .ok (.i2l, 1) := by decide +kernel
theorem dX3_corner_84 : decode cX3_corner 84 = .ok (.invokevirtual 46, 3) := by decide +kernel
theorem dX3_corner_87 : decode cX3_corner 87 = .ok (.iload 6, 2) := by decide +kernel
theorem dX3_corner_89 : decode cX3_corner 89 = .ok (.ireturn, 1) := by decide +kernel
theorem dX3_add_0 : decode cX3_add 0 = .ok (.iload_n 1, 1) := by decide +kernel
theorem dX3_add_1 : decode cX3_add 1 = .ok (.invokestatic 50, 3) := by decide +kernel
theorem dX3_add_4 : decode cX3_add 4 = .ok (.ifCond .eq 26, 3) := by decide +kernel
theorem dX3_add_7 : decode cX3_add 7 = .ok (.iload_n 2, 1) := by decide +kernel
theorem dX3_add_8 : decode cX3_add 8 = .ok (.iconst 0, 1) := by decide +kernel
theorem dX3_add_9 : decode cX3_add 9 = .ok (.sipush 255, 3) := by decide +kernel
theorem dX3_add_12 : decode cX3_add 12 = .ok (.invokestatic 40, 3) := by decide +kernel
theorem dX3_add_15 : decode cX3_add 15 = .ok (.ifCond .eq 15, 3) := by decide +kernel
theorem dX3_add_18 : decode cX3_add 18 = .ok (.aload_n 0, 1) := by decide +kernel
theorem dX3_add_19 : decode cX3_add 19 = .ok (.getfield 12, 3) := by decide +kernel
theorem dX3_add_22 : decode cX3_add 22 = .ok (.invokevirtual 54, 3) := by decide +kernel
theorem dX3_add_25 : decode cX3_add 25 = .ok (.lconst 0, 1) := by decide +kernel
theorem dX3_add_26 : decode cX3_add 26 = .ok (.lcmp, 1) := by decide +kernel
theorem dX3_add_27 : decode cX3_add 27 = .ok (.ifCond .gt 5, 3) := by decide +kernel
theorem dX3_add_30 : decode cX3_add 30 = .ok (.iconst (-1), 1) := by decide +kernel
theorem dX3_add_31 : decode cX3_add 31 = .ok (.ireturn, 1) := by decide +kernel
theorem dX3_add_32 : decode cX3_add 32 = .ok (.aload_n 0, 1) := by decide +kernel
theorem dX3_add_33 : decode cX3_add 33 = .ok (.getfield 19, 3) := by decide +kernel
theorem dX3_add_36 : decode cX3_add 36 = .ok (.aload_n 0, 1) := by decide +kernel
theorem dX3_add_37 : decode cX3_add 37 = .ok (.getfield 12, 3) := by decide +kernel
theorem dX3_add_40 : decode cX3_add 40 = .ok (.iload_n 1, 1) := by decide +kernel
theorem dX3_add_41 : decode cX3_add 41 = .ok (.iload_n 2, 1) := by decide +kernel
theorem dX3_add_42 : decode cX3_add 42 = .ok (.invokevirtual 58, 3) := by decide +kernel
theorem dX3_add_45 : decode cX3_add 45 = .ok (.ireturn, 1) := by decide +kernel
theorem dX3_clear_0 : decode cX3_clear 0 = .ok (.aload_n 0, 1) := by decide +kernel
theorem dX3_clear_1 : decode cX3_clear 1 = .ok (.getfield 19, 3) := by decide +kernel
theorem dX3_clear_4 : decode cX3_clear 4 = .ok (.invokevirtual 62, 3) := by decide +kernel
theorem dX3_clear_7 : decode cX3_clear 7 = .ok (.return_, 1) := by decide +kernel
theorem dX3_background_0 : decode cX3_background 0 = .ok (.iload_n 1, 1) := by decide +kernel
theorem dX3_background_1 : decode cX3_background 1 = .ok (.invokestatic 50, 3) := by decide +kernel
theorem dX3_background_4 : decode cX3_background 4 = .ok (.ifCond .ne 5, 3) := by decide +kernel
theorem dX3_background_7 : decode cX3_background 7 = .ok (.iconst 0, 1) := by decide +kernel
theorem dX3_background_8 : decode cX3_background 8 = .ok (.ireturn, 1) := by decide +kernel
theorem dX3_background_9 : decode cX3_background 9 = .ok (.aload_n 0, 1) := by decide +kernel
theorem dX3_background_10 : decode cX3_background 10 = .ok (.iload_n 1, 1) := by decide +kernel
theorem dX3_background_11 : decode cX3_background 11 = .ok (.putfield 23, 3) := by decide +kernel
theorem dX3_background_14 : decode cX3_background 14 = .ok (.iconst 1, 1) := by decide +kernel
theorem dX3_background_15 : decode cX3_background 15 = .ok (.ireturn, 1) := by decide +kernel
theorem dX3_begin_0 : decode cX3_begin 0 = .ok (.aload_n 0, 1) := by decide +kernel
theorem dX3_begin_1 : decode cX3_begin 1 = .ok (.getfield 36, 3) := by decide +kernel
theorem dX3_begin_4 : decode cX3_begin 4 = .ok (.aload_n 0, 1) := by decide +kernel
theorem dX3_begin_5 : decode cX3_begin 5 = .ok (.getfield 19, 3) := by decide +kernel
theorem dX3_begin_8 : decode cX3_begin 8 = .ok (.aload_n 0, 1) := by decide +kernel
theorem dX3_begin_9 : decode cX3_begin 9 = .ok (.getfield 23, 3) := by decide +kernel
theorem dX3_begin_12 : decode cX3_begin 12 = .ok (.invokevirtual 65, 3) := by decide +kernel
theorem dX3_begin_15 : decode cX3_begin 15 = .ok (.ireturn, 1) := by decide +kernel
theorem dX3_tile_0 : decode cX3_tile 0 = .ok (.aload_n 0, 1) := by decide +kernel
theorem dX3_tile_1 : decode cX3_tile 1 = .ok (.getfield 36, 3) := by decide +kernel
theorem dX3_tile_4 : decode cX3_tile 4 = .ok (.iload_n 1, 1) := by decide +kernel
theorem dX3_tile_5 : decode cX3_tile 5 = .ok (.invokevirtual 69, 3) := by decide +kernel
theorem dX3_tile_8 : decode cX3_tile 8 = .ok (.ireturn, 1) := by decide +kernel
theorem dX3_pixel_0 : decode cX3_pixel 0 = .ok (.aload_n 0, 1) := by decide +kernel
theorem dX3_pixel_1 : decode cX3_pixel 1 = .ok (.getfield 36, 3) := by decide +kernel
theorem dX3_pixel_4 : decode cX3_pixel 4 = .ok (.iload_n 1, 1) := by decide +kernel
theorem dX3_pixel_5 : decode cX3_pixel 5 = .ok (.iload_n 2, 1) := by decide +kernel
theorem dX3_pixel_6 : decode cX3_pixel 6 = .ok (.invokevirtual 72, 3) := by decide +kernel
theorem dX3_pixel_9 : decode cX3_pixel 9 = .ok (.ifCond .eq 23, 3) := by decide +kernel
theorem dX3_pixel_12 : decode cX3_pixel 12 = .ok (.aload_n 0, 1) := by decide +kernel
theorem dX3_pixel_13 : decode cX3_pixel 13 = .ok (.getfield 36, 3) := by decide +kernel
theorem dX3_pixel_16 : decode cX3_pixel 16 = .ok (.getfield 76, 3) := by decide +kernel
theorem dX3_pixel_19 : decode cX3_pixel 19 = .ok (.aload_n 0, 1) := by decide +kernel
theorem dX3_pixel_20 : decode cX3_pixel 20 = .ok (.getfield 36, 3) := by decide +kernel
theorem dX3_pixel_23 : decode cX3_pixel 23 = .ok (.iload_n 1, 1) := by decide +kernel
theorem dX3_pixel_24 : decode cX3_pixel 24 = .ok (.iload_n 2, 1) := by decide +kernel
theorem dX3_pixel_25 : decode cX3_pixel 25 = .ok (.invokevirtual 80, 3) := by decide +kernel
theorem dX3_pixel_28 : decode cX3_pixel 28 = .ok (.iaload, 1) := by decide +kernel
theorem dX3_pixel_29 : decode cX3_pixel 29 = .ok (.goto 4, 3) := by decide +kernel
theorem dX3_pixel_32 : decode cX3_pixel 32 = .ok (.iconst (-1), 1) := by decide +kernel
theorem dX3_pixel_33 : decode cX3_pixel 33 = .ok (.ireturn, 1) := by decide +kernel
theorem dX3_nearness_0 : decode cX3_nearness 0 = .ok (.aload_n 0, 1) := by decide +kernel
theorem dX3_nearness_1 : decode cX3_nearness 1 = .ok (.getfield 36, 3) := by decide +kernel
theorem dX3_nearness_4 : decode cX3_nearness 4 = .ok (.iload_n 1, 1) := by decide +kernel
theorem dX3_nearness_5 : decode cX3_nearness 5 = .ok (.iload_n 2, 1) := by decide +kernel
theorem dX3_nearness_6 : decode cX3_nearness 6 = .ok (.invokevirtual 72, 3) := by decide +kernel
theorem dX3_nearness_9 : decode cX3_nearness 9 = .ok (.ifCond .eq 23, 3) := by decide +kernel
theorem dX3_nearness_12 : decode cX3_nearness 12 = .ok (.aload_n 0, 1) := by decide +kernel
theorem dX3_nearness_13 : decode cX3_nearness 13 = .ok (.getfield 36, 3) := by decide +kernel
theorem dX3_nearness_16 : decode cX3_nearness 16 = .ok (.getfield 84, 3) := by decide +kernel
theorem dX3_nearness_19 : decode cX3_nearness 19 = .ok (.aload_n 0, 1) := by decide +kernel
theorem dX3_nearness_20 : decode cX3_nearness 20 = .ok (.getfield 36, 3) := by decide +kernel
theorem dX3_nearness_23 : decode cX3_nearness 23 = .ok (.iload_n 1, 1) := by decide +kernel
theorem dX3_nearness_24 : decode cX3_nearness 24 = .ok (.iload_n 2, 1) := by decide +kernel
theorem dX3_nearness_25 : decode cX3_nearness 25 = .ok (.invokevirtual 80, 3) := by decide +kernel
theorem dX3_nearness_28 : decode cX3_nearness 28 = .ok (.iaload, 1) := by decide +kernel
theorem dX3_nearness_29 : decode cX3_nearness 29 = .ok (.goto 4, 3) := by decide +kernel
theorem dX3_nearness_32 : decode cX3_nearness 32 = .ok (.iconst (-1), 1) := by decide +kernel
theorem dX3_nearness_33 : decode cX3_nearness 33 = .ok (.ireturn, 1) := by decide +kernel
theorem dX3_count_0 : decode cX3_count 0 = .ok (.iload_n 1, 1) := by decide +kernel
theorem dX3_count_1 : decode cX3_count 1 = .ok (.tableswitch 78 0 4 #[35, 43, 54, 62, 70], 35) := by decide +kernel
theorem dX3_count_36 : decode cX3_count 36 = .ok (.aload_n 0, 1) := by decide +kernel
theorem dX3_count_37 : decode cX3_count 37 = .ok (.getfield 19, 3) := by decide +kernel
theorem dX3_count_40 : decode cX3_count 40 = .ok (.getfield 87, 3) := by decide +kernel
theorem dX3_count_43 : decode cX3_count 43 = .ok (.ireturn, 1) := by decide +kernel
theorem dX3_count_44 : decode cX3_count 44 = .ok (.aload_n 0, 1) := by decide +kernel
theorem dX3_count_45 : decode cX3_count 45 = .ok (.getfield 36, 3) := by decide +kernel
theorem dX3_count_48 : decode cX3_count 48 = .ok (.getfield 90, 3) := by decide +kernel
theorem dX3_count_51 : decode cX3_count 51 = .ok (.getfield 87, 3) := by decide +kernel
theorem dX3_count_54 : decode cX3_count 54 = .ok (.ireturn, 1) := by decide +kernel
theorem dX3_count_55 : decode cX3_count 55 = .ok (.aload_n 0, 1) := by decide +kernel
theorem dX3_count_56 : decode cX3_count 56 = .ok (.getfield 36, 3) := by decide +kernel
theorem dX3_count_59 : decode cX3_count 59 = .ok (.getfield 93, 3) := by decide +kernel
theorem dX3_count_62 : decode cX3_count 62 = .ok (.ireturn, 1) := by decide +kernel
theorem dX3_count_63 : decode cX3_count 63 = .ok (.aload_n 0, 1) := by decide +kernel
theorem dX3_count_64 : decode cX3_count 64 = .ok (.getfield 36, 3) := by decide +kernel
theorem dX3_count_67 : decode cX3_count 67 = .ok (.getfield 96, 3) := by decide +kernel
theorem dX3_count_70 : decode cX3_count 70 = .ok (.ireturn, 1) := by decide +kernel
theorem dX3_count_71 : decode cX3_count 71 = .ok (.aload_n 0, 1) := by decide +kernel
theorem dX3_count_72 : decode cX3_count 72 = .ok (.getfield 36, 3) := by decide +kernel
theorem dX3_count_75 : decode cX3_count 75 = .ok (.getfield 99, 3) := by decide +kernel
theorem dX3_count_78 : decode cX3_count 78 = .ok (.ireturn, 1) := by decide +kernel
theorem dX3_count_79 : decode cX3_count 79 = .ok (.iconst (-1), 1) := by decide +kernel
theorem dX3_count_80 : decode cX3_count 80 = .ok (.ireturn, 1) := by decide +kernel
theorem dX3_nearestSide_0 : decode cX3_nearestSide 0 = .ok (.bipush 8, 2) := by decide +kernel
theorem dX3_nearestSide_2 : decode cX3_nearestSide 2 = .ok (.bipush 48, 2) := by decide +kernel
theorem dX3_nearestSide_4 : decode cX3_nearestSide 4 = .ok (.iload_n 0, 1) := by decide +kernel
theorem dX3_nearestSide_5 : decode cX3_nearestSide 5 = .ok (.invokestatic 102, 3) := by decide +kernel
theorem dX3_nearestSide_8 : decode cX3_nearestSide 8 = .ok (.invokestatic 107, 3) := by decide +kernel
theorem dX3_nearestSide_11 : decode cX3_nearestSide 11 = .ok (.ireturn, 1) := by decide +kernel
theorem dX3_isWithin_0 : decode cX3_isWithin 0 = .ok (.iload_n 0, 1) := by decide +kernel
theorem dX3_isWithin_1 : decode cX3_isWithin 1 = .ok (.iload_n 1, 1) := by decide +kernel
theorem dX3_isWithin_2 : decode cX3_isWithin 2 = .ok (.if_icmp .lt 12, 3) := by decide +kernel
theorem dX3_isWithin_5 : decode cX3_isWithin 5 = .ok (.iload_n 0, 1) := by decide +kernel
theorem dX3_isWithin_6 : decode cX3_isWithin 6 = .ok (.iload_n 2, 1) := by decide +kernel
theorem dX3_isWithin_7 : decode cX3_isWithin 7 = .ok (.if_icmp .gt 7, 3) := by decide +kernel
theorem dX3_isWithin_10 : decode cX3_isWithin 10 = .ok (.iconst 1, 1) := by decide +kernel
theorem dX3_isWithin_11 : decode cX3_isWithin 11 = .ok (.goto 4, 3) := by decide +kernel
theorem dX3_isWithin_14 : decode cX3_isWithin 14 = .ok (.iconst 0, 1) := by decide +kernel
theorem dX3_isWithin_15 : decode cX3_isWithin 15 = .ok (.ireturn, 1) := by decide +kernel
theorem dX3_isColour_0 : decode cX3_isColour 0 = .ok (.iload_n 0, 1) := by decide +kernel
theorem dX3_isColour_1 : decode cX3_isColour 1 = .ok (.iconst 0, 1) := by decide +kernel
theorem dX3_isColour_2 : decode cX3_isColour 2 = .ok (.ldc 110, 2) := by decide +kernel
theorem dX3_isColour_4 : decode cX3_isColour 4 = .ok (.invokestatic 40, 3) := by decide +kernel
theorem dX3_isColour_7 : decode cX3_isColour 7 = .ok (.ireturn, 1) := by decide +kernel
theorem dX3_quotient_0 : decode cX3_quotient 0 = .ok (.lload_n 2, 1) := by decide +kernel
theorem dX3_quotient_1 : decode cX3_quotient 1 = .ok (.lconst 0, 1) := by decide +kernel
theorem dX3_quotient_2 : decode cX3_quotient 2 = .ok (.lcmp, 1) := by decide +kernel
theorem dX3_quotient_3 : decode cX3_quotient 3 = .ok (.ifCond .le 11, 3) := by decide +kernel
theorem dX3_quotient_6 : decode cX3_quotient 6 = .ok (.lload_n 0, 1) := by decide +kernel
theorem dX3_quotient_7 : decode cX3_quotient 7 = .ok (.lload_n 2, 1) := by decide +kernel
theorem dX3_quotient_8 : decode cX3_quotient 8 = .ok (.invokestatic 111, 3) := by decide +kernel
theorem dX3_quotient_11 : decode cX3_quotient 11 = .ok (.goto 4, 3) := by decide +kernel
theorem dX3_quotient_14 : decode cX3_quotient 14 = .ok (.lconst 0, 1) := by decide +kernel
theorem dX3_quotient_15 : decode cX3_quotient 15 = .ok (.lreturn, 1) := by decide +kernel
theorem dX3_litColour_0 : decode cX3_litColour 0 = .ok (.iconst 0, 1) := by decide +kernel
theorem dX3_litColour_1 : decode cX3_litColour 1 = .ok (.istore_n 3, 1) := by decide +kernel
theorem dX3_litColour_2 : decode cX3_litColour 2 = .ok (.iconst 0, 1) := by decide +kernel
theorem dX3_litColour_3 : decode cX3_litColour 3 = .ok (.istore 4, 2) := by decide +kernel
theorem dX3_litColour_5 : decode cX3_litColour 5 = .ok (.iload 4, 2) := by decide +kernel
theorem dX3_litColour_7 : decode cX3_litColour 7 = .ok (.bipush 16, 2) := by decide +kernel
theorem dX3_litColour_9 : decode cX3_litColour 9 = .ok (.if_icmp .gt 37, 3) := by decide +kernel
theorem dX3_litColour_12 : decode cX3_litColour 12 = .ok (.iload_n 0, 1) := by decide +kernel
theorem dX3_litColour_13 : decode cX3_litColour 13 = .ok (.iload 4, 2) := by decide +kernel
theorem dX3_litColour_15 : decode cX3_litColour 15 = .ok (.ishr, 1) := by decide +kernel
theorem dX3_litColour_16 : decode cX3_litColour 16 = .ok (.sipush 255, 3) := by decide +kernel
theorem dX3_litColour_19 : decode cX3_litColour 19 = .ok (.iand, 1) := by decide +kernel
theorem dX3_litColour_20 : decode cX3_litColour 20 = .ok (.i2l, 1) := by decide +kernel
theorem dX3_litColour_21 : decode cX3_litColour 21 = .ok (.lstore 5, 2) := by decide +kernel
theorem dX3_litColour_23 : decode cX3_litColour 23 = .ok (.iload_n 3, 1) := by decide +kernel
theorem dX3_litColour_24 : decode cX3_litColour 24 = .ok (.lload 5, 2) := by decide +kernel
theorem dX3_litColour_26 : decode cX3_litColour 26 = .ok (.lload_n 1, 1) := by decide +kernel
theorem dX3_litColour_27 : decode cX3_litColour 27 = .ok (.lmul, 1) := by decide +kernel
theorem dX3_litColour_28 : decode cX3_litColour 28 = .ok (.ldc2_w 115, 3) := by decide +kernel
theorem dX3_litColour_31 : decode cX3_litColour 31 = .ok (.invokestatic 117, 3) := by decide +kernel
theorem dX3_litColour_34 : decode cX3_litColour 34 = .ok (.l2i, 1) := by decide +kernel
theorem dX3_litColour_35 : decode cX3_litColour 35 = .ok (.iload 4, 2) := by decide +kernel
theorem dX3_litColour_37 : decode cX3_litColour 37 = .ok (.ishl, 1) := by decide +kernel
theorem dX3_litColour_38 : decode cX3_litColour 38 = .ok (.ior, 1) := by decide +kernel
theorem dX3_litColour_39 : decode cX3_litColour 39 = .ok (.istore_n 3, 1) := by decide +kernel
theorem dX3_litColour_40 : decode cX3_litColour 40 = .ok (.iinc 4 8, 3) := by decide +kernel
theorem dX3_litColour_43 : decode cX3_litColour 43 = .ok (.goto (-38), 3) := by decide +kernel
theorem dX3_litColour_46 : decode cX3_litColour 46 = .ok (.iload_n 3, 1) := by decide +kernel
theorem dX3_litColour_47 : decode cX3_litColour 47 = .ok (.ireturn, 1) := by decide +kernel
theorem dX3_mixedColour_0 : decode cX3_mixedColour 0 = .ok (.iconst 0, 1) := by decide +kernel
theorem dX3_mixedColour_1 : decode cX3_mixedColour 1 = .ok (.istore_n 3, 1) := by decide +kernel
theorem dX3_mixedColour_2 : decode cX3_mixedColour 2 = .ok (.iconst 0, 1) := by decide +kernel
theorem dX3_mixedColour_3 : decode cX3_mixedColour 3 = .ok (.istore 4, 2) := by decide +kernel
theorem dX3_mixedColour_5 : decode cX3_mixedColour 5 = .ok (.iload 4, 2) := by decide +kernel
theorem dX3_mixedColour_7 : decode cX3_mixedColour 7 = .ok (.bipush 16, 2) := by decide +kernel
theorem dX3_mixedColour_9 : decode cX3_mixedColour 9 = .ok (.if_icmp .gt 63, 3) := by decide +kernel
theorem dX3_mixedColour_12 : decode cX3_mixedColour 12 = .ok (.iload_n 0, 1) := by decide +kernel
theorem dX3_mixedColour_13 : decode cX3_mixedColour 13 = .ok (.iload 4, 2) := by decide +kernel
theorem dX3_mixedColour_15 : decode cX3_mixedColour 15 = .ok (.ishr, 1) := by decide +kernel
theorem dX3_mixedColour_16 : decode cX3_mixedColour 16 = .ok (.sipush 255, 3) := by decide +kernel
theorem dX3_mixedColour_19 : decode cX3_mixedColour 19 = .ok (.iand, 1) := by decide +kernel
theorem dX3_mixedColour_20 : decode cX3_mixedColour 20 = .ok (.i2l, 1) := by decide +kernel
theorem dX3_mixedColour_21 : decode cX3_mixedColour 21 = .ok (.lstore 5, 2) := by decide +kernel
theorem dX3_mixedColour_23 : decode cX3_mixedColour 23 = .ok (.iload_n 1, 1) := by decide +kernel
theorem dX3_mixedColour_24 : decode cX3_mixedColour 24 = .ok (.iload 4, 2) := by decide +kernel
theorem dX3_mixedColour_26 : decode cX3_mixedColour 26 = .ok (.ishr, 1) := by decide +kernel
theorem dX3_mixedColour_27 : decode cX3_mixedColour 27 = .ok (.sipush 255, 3) := by decide +kernel
theorem dX3_mixedColour_30 : decode cX3_mixedColour 30 = .ok (.iand, 1) := by decide +kernel
theorem dX3_mixedColour_31 : decode cX3_mixedColour 31 = .ok (.i2l, 1) := by decide +kernel
theorem dX3_mixedColour_32 : decode cX3_mixedColour 32 = .ok (.lstore 7, 2) := by decide +kernel
theorem dX3_mixedColour_34 : decode cX3_mixedColour 34 = .ok (.lload 5, 2) := by decide +kernel
theorem dX3_mixedColour_36 : decode cX3_mixedColour 36 = .ok (.iload_n 2, 1) := by decide +kernel
theorem dX3_mixedColour_37 : decode cX3_mixedColour 37 = .ok (.i2l, 1) := by decide +kernel
theorem dX3_mixedColour_38 : decode cX3_mixedColour 38 = .ok (.lmul, 1) := by decide +kernel
theorem dX3_mixedColour_39 : decode cX3_mixedColour 39 = .ok (.lload 7, 2) := by decide +kernel
theorem dX3_mixedColour_41 : decode cX3_mixedColour 41 = .ok (.sipush 255, 3) := by decide +kernel
theorem dX3_mixedColour_44 : decode cX3_mixedColour 44 = .ok (.iload_n 2, 1) := by decide +kernel
theorem dX3_mixedColour_45 : decode cX3_mixedColour 45 = .ok (.isub, 1) := by decide +kernel
theorem dX3_mixedColour_46 : decode cX3_mixedColour 46 = .ok (.i2l, 1) := by decide +kernel
theorem dX3_mixedColour_47 : decode cX3_mixedColour 47 = .ok (.lmul, 1) := by decide +kernel
theorem dX3_mixedColour_48 : decode cX3_mixedColour 48 = .ok (.ladd, 1) := by decide +kernel
theorem dX3_mixedColour_49 : decode cX3_mixedColour 49 = .ok (.lstore 9, 2) := by decide +kernel
theorem dX3_mixedColour_51 : decode cX3_mixedColour 51 = .ok (.iload_n 3, 1) := by decide +kernel
theorem dX3_mixedColour_52 : decode cX3_mixedColour 52 = .ok (.lload 9, 2) := by decide +kernel
theorem dX3_mixedColour_54 : decode cX3_mixedColour 54 = .ok (.ldc2_w 120, 3) := by decide +kernel
theorem dX3_mixedColour_57 : decode cX3_mixedColour 57 = .ok (.invokestatic 117, 3) := by decide +kernel
theorem dX3_mixedColour_60 : decode cX3_mixedColour 60 = .ok (.l2i, 1) := by decide +kernel
theorem dX3_mixedColour_61 : decode cX3_mixedColour 61 = .ok (.iload 4, 2) := by decide +kernel
theorem dX3_mixedColour_63 : decode cX3_mixedColour 63 = .ok (.ishl, 1) := by decide +kernel
theorem dX3_mixedColour_64 : decode cX3_mixedColour 64 = .ok (.ior, 1) := by decide +kernel
theorem dX3_mixedColour_65 : decode cX3_mixedColour 65 = .ok (.istore_n 3, 1) := by decide +kernel
theorem dX3_mixedColour_66 : decode cX3_mixedColour 66 = .ok (.iinc 4 8, 3) := by decide +kernel
theorem dX3_mixedColour_69 : decode cX3_mixedColour 69 = .ok (.goto (-64), 3) := by decide +kernel
theorem dX3_mixedColour_72 : decode cX3_mixedColour 72 = .ok (.iload_n 3, 1) := by decide +kernel
theorem dX3_mixedColour_73 : decode cX3_mixedColour 73 = .ok (.ireturn, 1) := by decide +kernel
theorem dX1_init_0 : decode cX1_init 0 = .ok (.aload_n 0, 1) := by decide +kernel
theorem dX1_init_1 : decode cX1_init 1 = .ok (.invokespecial 3, 3) := by decide +kernel
theorem dX1_init_4 : decode cX1_init 4 = .ok (.aload_n 0, 1) := by decide +kernel
theorem dX1_init_5 : decode cX1_init 5 = .ok (.sipush 1536, 3) := by decide +kernel
theorem dX1_init_8 : decode cX1_init 8 = .ok (.newarray .long, 2) := by decide +kernel
theorem dX1_init_10 : decode cX1_init 10 = .ok (.putfield 9, 3) := by decide +kernel
theorem dX1_init_13 : decode cX1_init 13 = .ok (.aload_n 0, 1) := by decide +kernel
theorem dX1_init_14 : decode cX1_init 14 = .ok (.sipush 512, 3) := by decide +kernel
theorem dX1_init_17 : decode cX1_init 17 = .ok (.newarray .int, 2) := by decide +kernel
theorem dX1_init_19 : decode cX1_init 19 = .ok (.putfield 15, 3) := by decide +kernel
theorem dX1_init_22 : decode cX1_init 22 = .ok (.aload_n 0, 1) := by decide +kernel
theorem dX1_init_23 : decode cX1_init 23 = .ok (.sipush 512, 3) := by decide +kernel
theorem dX1_init_26 : decode cX1_init 26 = .ok (.newarray .int, 2) := by decide +kernel
theorem dX1_init_28 : decode cX1_init 28 = .ok (.putfield 19, 3) := by decide +kernel
theorem dX1_init_31 : decode cX1_init 31 = .ok (.aload_n 0, 1) := by decide +kernel
theorem dX1_init_32 : decode cX1_init 32 = .ok (.iconst 0, 1) := by decide +kernel
theorem dX1_init_33 : decode cX1_init 33 = .ok (.putfield 22, 3) := by decide +kernel
theorem dX1_init_36 : decode cX1_init 36 = .ok (.return_, 1) := by decide +kernel
theorem dX1_append_0 : decode cX1_append 0 = .ok (.aload_n 0, 1) := by decide +kernel
theorem dX1_append_1 : decode cX1_append 1 = .ok (.getfield 22, 3) := by decide +kernel
theorem dX1_append_4 : decode cX1_append 4 = .ok (.sipush 512, 3) := by decide +kernel
theorem dX1_append_7 : decode cX1_append 7 = .ok (.if_icmp .lt 5, 3) := by decide +kernel
theorem dX1_append_10 : decode cX1_append 10 = .ok (.iconst (-1), 1) := by decide +kernel
theorem dX1_append_11 : decode cX1_append 11 = .ok (.ireturn, 1) := by decide +kernel
theorem dX1_append_12 : decode cX1_append 12 = .ok (.iconst 0, 1) := by decide +kernel
theorem dX1_append_13 : decode cX1_append 13 = .ok (.istore 4, 2) := by decide +kernel
theorem dX1_append_15 : decode cX1_append 15 = .ok (.iload 4, 2) := by decide +kernel
theorem dX1_append_17 : decode cX1_append 17 = .ok (.iconst 3, 1) := by decide +kernel
theorem dX1_append_18 : decode cX1_append 18 = .ok (.if_icmp .ge 29, 3) := by decide +kernel
theorem dX1_append_21 : decode cX1_append 21 = .ok (.aload_n 0, 1) := by decide +kernel
theorem dX1_append_22 : decode cX1_append 22 = .ok (.getfield 9, 3) := by decide +kernel
theorem dX1_append_25 : decode cX1_append 25 = .ok (.iconst 3, 1) := by decide +kernel
theorem dX1_append_26 : decode cX1_append 26 = .ok (.aload_n 0, 1) := by decide +kernel
theorem dX1_append_27 : decode cX1_append 27 = .ok (.getfield 22, 3) := by decide +kernel
theorem dX1_append_30 : decode cX1_append 30 = .ok (.imul, 1) := by decide +kernel
theorem dX1_append_31 : decode cX1_append 31 = .ok (.iload 4, 2) := by decide +kernel
theorem dX1_append_33 : decode cX1_append 33 = .ok (.iadd, 1) := by decide +kernel
theorem dX1_append_34 : decode cX1_append 34 = .ok (.aload_n 1, 1) := by decide +kernel
theorem dX1_append_35 : decode cX1_append 35 = .ok (.iload 4, 2) := by decide +kernel
theorem dX1_append_37 : decode cX1_append 37 = .ok (.invokevirtual 26, 3) := by decide +kernel
theorem dX1_append_40 : decode cX1_append 40 = .ok (.lastore, 1) := by decide +kernel
theorem dX1_append_41 : decode cX1_append 41 = .ok (.iinc 4 1, 3) := by decide +kernel
theorem dX1_append_44 : decode cX1_append 44 = .ok (.goto (-29), 3) := by decide +kernel
theorem dX1_append_47 : decode cX1_append 47 = .ok (.aload_n 0, 1) := by decide +kernel
theorem dX1_append_48 : decode cX1_append 48 = .ok (.getfield 15, 3) := by decide +kernel
theorem dX1_append_51 : decode cX1_append 51 = .ok (.aload_n 0, 1) := by decide +kernel
theorem dX1_append_52 : decode cX1_append 52 = .ok (.getfield 22, 3) := by decide +kernel
theorem dX1_append_55 : decode cX1_append 55 = .ok (.iload_n 2, 1) := by decide +kernel
theorem dX1_append_56 : decode cX1_append 56 = .ok (.iastore, 1) := by decide +kernel
theorem dX1_append_57 : decode cX1_append 57 = .ok (.aload_n 0, 1) := by decide +kernel
theorem dX1_append_58 : decode cX1_append 58 = .ok (.getfield 19, 3) := by decide +kernel
theorem dX1_append_61 : decode cX1_append 61 = .ok (.aload_n 0, 1) := by decide +kernel
theorem dX1_append_62 : decode cX1_append 62 = .ok (.getfield 22, 3) := by decide +kernel
theorem dX1_append_65 : decode cX1_append 65 = .ok (.iload_n 3, 1) := by decide +kernel
theorem dX1_append_66 : decode cX1_append 66 = .ok (.iastore, 1) := by decide +kernel
theorem dX1_append_67 : decode cX1_append 67 = .ok (.aload_n 0, 1) := by decide +kernel
theorem dX1_append_68 : decode cX1_append 68 = .ok (.dup, 1) := by decide +kernel
theorem dX1_append_69 : decode cX1_append 69 = .ok (.getfield 22, 3) := by decide +kernel
theorem dX1_append_72 : decode cX1_append 72 = .ok (.dup_x1, 1) := by decide +kernel
theorem dX1_append_73 : decode cX1_append 73 = .ok (.iconst 1, 1) := by decide +kernel
theorem dX1_append_74 : decode cX1_append 74 = .ok (.iadd, 1) := by decide +kernel
theorem dX1_append_75 : decode cX1_append 75 = .ok (.putfield 22, 3) := by decide +kernel
theorem dX1_append_78 : decode cX1_append 78 = .ok (.ireturn, 1) := by decide +kernel
theorem dX1_removeAll_0 : decode cX1_removeAll 0 = .ok (.aload_n 0, 1) := by decide +kernel
theorem dX1_removeAll_1 : decode cX1_removeAll 1 = .ok (.iconst 0, 1) := by decide +kernel
theorem dX1_removeAll_2 : decode cX1_removeAll 2 = .ok (.putfield 22, 3) := by decide +kernel
theorem dX1_removeAll_5 : decode cX1_removeAll 5 = .ok (.return_, 1) := by decide +kernel
theorem dX1_copyFrom_0 : decode cX1_copyFrom 0 = .ok (.aload_n 0, 1) := by decide +kernel
theorem dX1_copyFrom_1 : decode cX1_copyFrom 1 = .ok (.aload_n 1, 1) := by decide +kernel
theorem dX1_copyFrom_2 : decode cX1_copyFrom 2 = .ok (.getfield 22, 3) := by decide +kernel
theorem dX1_copyFrom_5 : decode cX1_copyFrom 5 = .ok (.putfield 22, 3) := by decide +kernel
theorem dX1_copyFrom_8 : decode cX1_copyFrom 8 = .ok (.aload_n 1, 1) := by decide +kernel
theorem dX1_copyFrom_9 : decode cX1_copyFrom 9 = .ok (.getfield 9, 3) := by decide +kernel
theorem dX1_copyFrom_12 : decode cX1_copyFrom 12 = .ok (.iconst 0, 1) := by decide +kernel
theorem dX1_copyFrom_13 : decode cX1_copyFrom 13 = .ok (.aload_n 0, 1) := by decide +kernel
theorem dX1_copyFrom_14 : decode cX1_copyFrom 14 = .ok (.getfield 9, 3) := by decide +kernel
theorem dX1_copyFrom_17 : decode cX1_copyFrom 17 = .ok (.iconst 0, 1) := by decide +kernel
theorem dX1_copyFrom_18 : decode cX1_copyFrom 18 = .ok (.iconst 3, 1) := by decide +kernel
theorem dX1_copyFrom_19 : decode cX1_copyFrom 19 = .ok (.aload_n 0, 1) := by decide +kernel
theorem dX1_copyFrom_20 : decode cX1_copyFrom 20 = .ok (.getfield 22, 3) := by decide +kernel
theorem dX1_copyFrom_23 : decode cX1_copyFrom 23 = .ok (.imul, 1) := by decide +kernel
theorem dX1_copyFrom_24 : decode cX1_copyFrom 24 = .ok (.invokestatic 32, 3) := by decide +kernel
theorem dX1_copyFrom_27 : decode cX1_copyFrom 27 = .ok (.aload_n 1, 1) := by decide +kernel
theorem dX1_copyFrom_28 : decode cX1_copyFrom 28 = .ok (.getfield 15, 3) := by decide +kernel
theorem dX1_copyFrom_31 : decode cX1_copyFrom 31 = .ok (.iconst 0, 1) := by decide +kernel
theorem dX1_copyFrom_32 : decode cX1_copyFrom 32 = .ok (.aload_n 0, 1) := by decide +kernel
theorem dX1_copyFrom_33 : decode cX1_copyFrom 33 = .ok (.getfield 15, 3) := by decide +kernel
theorem dX1_copyFrom_36 : decode cX1_copyFrom 36 = .ok (.iconst 0, 1) := by decide +kernel
theorem dX1_copyFrom_37 : decode cX1_copyFrom 37 = .ok (.aload_n 0, 1) := by decide +kernel
theorem dX1_copyFrom_38 : decode cX1_copyFrom 38 = .ok (.getfield 22, 3) := by decide +kernel
theorem dX1_copyFrom_41 : decode cX1_copyFrom 41 = .ok (.invokestatic 32, 3) := by decide +kernel
theorem dX1_copyFrom_44 : decode cX1_copyFrom 44 = .ok (.aload_n 1, 1) := by decide +kernel
theorem dX1_copyFrom_45 : decode cX1_copyFrom 45 = .ok (.getfield 19, 3) := by decide +kernel
theorem dX1_copyFrom_48 : decode cX1_copyFrom 48 = .ok (.iconst 0, 1) := by decide +kernel
theorem dX1_copyFrom_49 : decode cX1_copyFrom 49 = .ok (.aload_n 0, 1) := by decide +kernel
theorem dX1_copyFrom_50 : decode cX1_copyFrom 50 = .ok (.getfield 19, 3) := by decide +kernel
theorem dX1_copyFrom_53 : decode cX1_copyFrom 53 = .ok (.iconst 0, 1) := by decide +kernel
theorem dX1_copyFrom_54 : decode cX1_copyFrom 54 = .ok (.aload_n 0, 1) := by decide +kernel
theorem dX1_copyFrom_55 : decode cX1_copyFrom 55 = .ok (.getfield 22, 3) := by decide +kernel
theorem dX1_copyFrom_58 : decode cX1_copyFrom 58 = .ok (.invokestatic 32, 3) := by decide +kernel
theorem dX1_copyFrom_61 : decode cX1_copyFrom 61 = .ok (.return_, 1) := by decide +kernel
theorem dX1_unpackTo_0 : decode cX1_unpackTo 0 = .ok (.iconst 0, 1) := by decide +kernel
theorem dX1_unpackTo_1 : decode cX1_unpackTo 1 = .ok (.istore_n 3, 1) := by decide +kernel
theorem dX1_unpackTo_2 : decode cX1_unpackTo 2 = .ok (.iload_n 3, 1) := by decide +kernel
theorem dX1_unpackTo_3 : decode cX1_unpackTo 3 = .ok (.iconst 3, 1) := by decide +kernel
theorem dX1_unpackTo_4 : decode cX1_unpackTo 4 = .ok (.if_icmp .ge 24, 3) := by decide +kernel
theorem dX1_unpackTo_7 : decode cX1_unpackTo 7 = .ok (.aload_n 1, 1) := by decide +kernel
theorem dX1_unpackTo_8 : decode cX1_unpackTo 8 = .ok (.iload_n 3, 1) := by decide +kernel
theorem dX1_unpackTo_9 : decode cX1_unpackTo 9 = .ok (.aload_n 0, 1) := by decide +kernel
theorem dX1_unpackTo_10 : decode cX1_unpackTo 10 = .ok (.getfield 9, 3) := by decide +kernel
theorem dX1_unpackTo_13 : decode cX1_unpackTo 13 = .ok (.iconst 3, 1) := by decide +kernel
theorem dX1_unpackTo_14 : decode cX1_unpackTo 14 = .ok (.iload_n 2, 1) := by decide +kernel
theorem dX1_unpackTo_15 : decode cX1_unpackTo 15 = .ok (.imul, 1) := by decide +kernel
theorem dX1_unpackTo_16 : decode cX1_unpackTo 16 = .ok (.iload_n 3, 1) := by decide +kernel
theorem dX1_unpackTo_17 : decode cX1_unpackTo 17 = .ok (.iadd, 1) := by decide +kernel
theorem dX1_unpackTo_18 : decode cX1_unpackTo 18 = .ok (.laload, 1) := by decide +kernel
theorem dX1_unpackTo_19 : decode cX1_unpackTo 19 = .ok (.invokevirtual 38, 3) := by decide +kernel
theorem dX1_unpackTo_22 : decode cX1_unpackTo 22 = .ok (.iinc 3 1, 3) := by decide +kernel
theorem dX1_unpackTo_25 : decode cX1_unpackTo 25 = .ok (.goto (-23), 3) := by decide +kernel
theorem dX1_unpackTo_28 : decode cX1_unpackTo 28 = .ok (.return_, 1) := by decide +kernel
theorem dJ_floorDiv_0 : decode cJ_floorDiv 0 = .ok (.lload_n 0, 1) := by decide +kernel
theorem dJ_floorDiv_1 : decode cJ_floorDiv 1 = .ok (.lload_n 2, 1) := by decide +kernel
theorem dJ_floorDiv_2 : decode cJ_floorDiv 2 = .ok (.ldiv, 1) := by decide +kernel
theorem dJ_floorDiv_3 : decode cJ_floorDiv 3 = .ok (.lstore 4, 2) := by decide +kernel
theorem dJ_floorDiv_5 : decode cJ_floorDiv 5 = .ok (.lload_n 0, 1) := by decide +kernel
theorem dJ_floorDiv_6 : decode cJ_floorDiv 6 = .ok (.lload_n 2, 1) := by decide +kernel
theorem dJ_floorDiv_7 : decode cJ_floorDiv 7 = .ok (.lxor, 1) := by decide +kernel
theorem dJ_floorDiv_8 : decode cJ_floorDiv 8 = .ok (.lconst 0, 1) := by decide +kernel
theorem dJ_floorDiv_9 : decode cJ_floorDiv 9 = .ok (.lcmp, 1) := by decide +kernel
theorem dJ_floorDiv_10 : decode cJ_floorDiv 10 = .ok (.ifCond .ge 17, 3) := by decide +kernel
theorem dJ_floorDiv_13 : decode cJ_floorDiv 13 = .ok (.lload 4, 2) := by decide +kernel
theorem dJ_floorDiv_15 : decode cJ_floorDiv 15 = .ok (.lload_n 2, 1) := by decide +kernel
theorem dJ_floorDiv_16 : decode cJ_floorDiv 16 = .ok (.lmul, 1) := by decide +kernel
theorem dJ_floorDiv_17 : decode cJ_floorDiv 17 = .ok (.lload_n 0, 1) := by decide +kernel
theorem dJ_floorDiv_18 : decode cJ_floorDiv 18 = .ok (.lcmp, 1) := by decide +kernel
theorem dJ_floorDiv_19 : decode cJ_floorDiv 19 = .ok (.ifCond .eq 8, 3) := by decide +kernel
theorem dJ_floorDiv_22 : decode cJ_floorDiv 22 = .ok (.lload 4, 2) := by decide +kernel
theorem dJ_floorDiv_24 : decode cJ_floorDiv 24 = .ok (.lconst 1, 1) := by decide +kernel
theorem dJ_floorDiv_25 : decode cJ_floorDiv 25 = .ok (.lsub, 1) := by decide +kernel
theorem dJ_floorDiv_26 : decode cJ_floorDiv 26 = .ok (.lreturn, 1) := by decide +kernel
theorem dJ_floorDiv_27 : decode cJ_floorDiv 27 = .ok (.lload 4, 2) := by decide +kernel
theorem dJ_floorDiv_29 : decode cJ_floorDiv 29 = .ok (.lreturn, 1) := by decide +kernel
theorem dJ_max_0 : decode cJ_max 0 = .ok (.iload_n 0, 1) := by decide +kernel
theorem dJ_max_1 : decode cJ_max 1 = .ok (.iload_n 1, 1) := by decide +kernel
theorem dJ_max_2 : decode cJ_max 2 = .ok (.if_icmp .lt 7, 3) := by decide +kernel
theorem dJ_max_5 : decode cJ_max 5 = .ok (.iload_n 0, 1) := by decide +kernel
theorem dJ_max_6 : decode cJ_max 6 = .ok (.goto 4, 3) := by decide +kernel
theorem dJ_max_9 : decode cJ_max 9 = .ok (.iload_n 1, 1) := by decide +kernel
theorem dJ_max_10 : decode cJ_max 10 = .ok (.ireturn, 1) := by decide +kernel
theorem dJ_max__0 : decode cJ_max_ 0 = .ok (.lload_n 0, 1) := by decide +kernel
theorem dJ_max__1 : decode cJ_max_ 1 = .ok (.lload_n 2, 1) := by decide +kernel
theorem dJ_max__2 : decode cJ_max_ 2 = .ok (.lcmp, 1) := by decide +kernel
theorem dJ_max__3 : decode cJ_max_ 3 = .ok (.ifCond .lt 7, 3) := by decide +kernel
theorem dJ_max__6 : decode cJ_max_ 6 = .ok (.lload_n 0, 1) := by decide +kernel
theorem dJ_max__7 : decode cJ_max_ 7 = .ok (.goto 4, 3) := by decide +kernel
theorem dJ_max__10 : decode cJ_max_ 10 = .ok (.lload_n 2, 1) := by decide +kernel
theorem dJ_max__11 : decode cJ_max_ 11 = .ok (.lreturn, 1) := by decide +kernel
theorem dJ_min_0 : decode cJ_min 0 = .ok (.iload_n 0, 1) := by decide +kernel
theorem dJ_min_1 : decode cJ_min 1 = .ok (.iload_n 1, 1) := by decide +kernel
theorem dJ_min_2 : decode cJ_min 2 = .ok (.if_icmp .gt 7, 3) := by decide +kernel
theorem dJ_min_5 : decode cJ_min 5 = .ok (.iload_n 0, 1) := by decide +kernel
theorem dJ_min_6 : decode cJ_min 6 = .ok (.goto 4, 3) := by decide +kernel
theorem dJ_min_9 : decode cJ_min 9 = .ok (.iload_n 1, 1) := by decide +kernel
theorem dJ_min_10 : decode cJ_min 10 = .ok (.ireturn, 1) := by decide +kernel
theorem dJ_min__0 : decode cJ_min_ 0 = .ok (.lload_n 0, 1) := by decide +kernel
theorem dJ_min__1 : decode cJ_min_ 1 = .ok (.lload_n 2, 1) := by decide +kernel
theorem dJ_min__2 : decode cJ_min_ 2 = .ok (.lcmp, 1) := by decide +kernel
theorem dJ_min__3 : decode cJ_min_ 3 = .ok (.ifCond .gt 7, 3) := by decide +kernel
theorem dJ_min__6 : decode cJ_min_ 6 = .ok (.lload_n 0, 1) := by decide +kernel
theorem dJ_min__7 : decode cJ_min_ 7 = .ok (.goto 4, 3) := by decide +kernel
theorem dJ_min__10 : decode cJ_min_ 10 = .ok (.lload_n 2, 1) := by decide +kernel
theorem dJ_min__11 : decode cJ_min_ 11 = .ok (.lreturn, 1) := by decide +kernel
