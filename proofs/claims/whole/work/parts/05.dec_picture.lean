theorem dX2_init_0 : decode cX2_init 0 = .ok (.aload_n 0, 1) := by decide +kernel
theorem dX2_init_1 : decode cX2_init 1 = .ok (.invokespecial 3, 3) := by decide +kernel
theorem dX2_init_4 : decode cX2_init 4 = .ok (.aload_n 0, 1) := by decide +kernel
theorem dX2_init_5 : decode cX2_init 5 = .ok (.new 9, 3) := by decide +kernel
theorem dX2_init_8 : decode cX2_init 8 = .ok (.dup, 1) := by decide +kernel
theorem dX2_init_9 : decode cX2_init 9 = .ok (.invokespecial 11, 3) := by decide +kernel
theorem dX2_init_12 : decode cX2_init 12 = .ok (.putfield 12, 3) := by decide +kernel
theorem dX2_init_15 : decode cX2_init 15 = .ok (.aload_n 0, 1) := by decide +kernel
theorem dX2_init_16 : decode cX2_init 16 = .ok (.new 18, 3) := by decide +kernel
theorem dX2_init_19 : decode cX2_init 19 = .ok (.dup, 1) := by decide +kernel
theorem dX2_init_20 : decode cX2_init 20 = .ok (.invokespecial 20, 3) := by decide +kernel
theorem dX2_init_23 : decode cX2_init 23 = .ok (.putfield 21, 3) := by decide +kernel
theorem dX2_init_26 : decode cX2_init 26 = .ok (.aload_n 0, 1) := by decide +kernel
theorem dX2_init_27 : decode cX2_init 27 = .ok (.iconst 0, 1) := by decide +kernel
theorem dX2_init_28 : decode cX2_init 28 = .ok (.putfield 25, 3) := by decide +kernel
theorem dX2_init_31 : decode cX2_init 31 = .ok (.aload_n 0, 1) := by decide +kernel
theorem dX2_init_32 : decode cX2_init 32 = .ok (.iconst 0, 1) := by decide +kernel
theorem dX2_init_33 : decode cX2_init 33 = .ok (.putfield 29, 3) := by decide +kernel
theorem dX2_init_36 : decode cX2_init 36 = .ok (.aload_n 0, 1) := by decide +kernel
theorem dX2_init_37 : decode cX2_init 37 = .ok (.iconst 0, 1) := by decide +kernel
theorem dX2_init_38 : decode cX2_init 38 = .ok (.putfield 33, 3) := by decide +kernel
theorem dX2_init_41 : decode cX2_init 41 = .ok (.aload_n 0, 1) := by decide +kernel
theorem dX2_init_42 : decode cX2_init 42 = .ok (.iconst 0, 1) := by decide +kernel
theorem dX2_init_43 : decode cX2_init 43 = .ok (.putfield 36, 3) := by decide +kernel
theorem dX2_init_46 : decode cX2_init 46 = .ok (.aload_n 0, 1) := by decide +kernel
theorem dX2_init_47 : decode cX2_init 47 = .ok (.iconst 0, 1) := by decide +kernel
theorem dX2_init_48 : decode cX2_init 48 = .ok (.putfield 39, 3) := by decide +kernel
theorem dX2_init_51 : decode cX2_init 51 = .ok (.aload_n 0, 1) := by decide +kernel
theorem dX2_init_52 : decode cX2_init 52 = .ok (.iconst 0, 1) := by decide +kernel
theorem dX2_init_53 : decode cX2_init 53 = .ok (.putfield 42, 3) := by decide +kernel
theorem dX2_init_56 : decode cX2_init 56 = .ok (.aload_n 0, 1) := by decide +kernel
theorem dX2_init_57 : decode cX2_init 57 = .ok (.iconst 0, 1) := by decide +kernel
theorem dX2_init_58 : decode cX2_init 58 = .ok (.putfield 45, 3) := by decide +kernel
theorem dX2_init_61 : decode cX2_init 61 = .ok (.aload_n 0, 1) := by decide +kernel
theorem dX2_init_62 : decode cX2_init 62 = .ok (.iload_n 1, 1) := by decide +kernel
theorem dX2_init_63 : decode cX2_init 63 = .ok (.putfield 48, 3) := by decide +kernel
theorem dX2_init_66 : decode cX2_init 66 = .ok (.aload_n 0, 1) := by decide +kernel
theorem dX2_init_67 : decode cX2_init 67 = .ok (.iload_n 2, 1) := by decide +kernel
theorem dX2_init_68 : decode cX2_init 68 = .ok (.putfield 51, 3) := by decide +kernel
theorem dX2_init_71 : decode cX2_init 71 = .ok (.aload_n 0, 1) := by decide +kernel
theorem dX2_init_72 : decode cX2_init 72 = .ok (.iload_n 1, 1) := by decide +kernel
theorem dX2_init_73 : decode cX2_init 73 = .ok (.bipush 8, 2) := by decide +kernel
theorem dX2_init_75 : decode cX2_init 75 = .ok (.iadd, 1) := by decide +kernel
theorem dX2_init_76 : decode cX2_init 76 = .ok (.iconst 1, 1) := by decide +kernel
theorem dX2_init_77 : decode cX2_init 77 = .ok (.isub, 1) := by decide +kernel
theorem dX2_init_78 : decode cX2_init 78 = .ok (.bipush 8, 2) := by decide +kernel
theorem dX2_init_80 : decode cX2_init 80 = .ok (.idiv, 1) := by decide +kernel
theorem dX2_init_81 : decode cX2_init 81 = .ok (.putfield 54, 3) := by decide +kernel
theorem dX2_init_84 : decode cX2_init 84 = .ok (.iload_n 2, 1) := by decide +kernel
theorem dX2_init_85 : decode cX2_init 85 = .ok (.bipush 8, 2) := by decide +kernel
theorem dX2_init_87 : decode cX2_init 87 = .ok (.iadd, 1) := by decide +kernel
theorem dX2_init_88 : decode cX2_init 88 = .ok (.iconst 1, 1) := by decide +kernel
theorem dX2_init_89 : decode cX2_init 89 = .ok (.isub, 1) := by decide +kernel
theorem dX2_init_90 : decode cX2_init 90 = .ok (.bipush 8, 2) := by decide +kernel
theorem dX2_init_92 : decode cX2_init 92 = .ok (.idiv, 1) := by decide +kernel
theorem dX2_init_93 : decode cX2_init 93 = .ok (.istore_n 3, 1) := by decide +kernel
theorem dX2_init_94 : decode cX2_init 94 = .ok (.aload_n 0, 1) := by decide +kernel
theorem dX2_init_95 : decode cX2_init 95 = .ok (.iload_n 1, 1) := by decide +kernel
theorem dX2_init_96 : decode cX2_init 96 = .ok (.iload_n 2, 1) := by decide +kernel
theorem dX2_init_97 : decode cX2_init 97 = .ok (.imul, 1) := by decide +kernel
theorem dX2_init_98 : decode cX2_init 98 = .ok (.newarray .int, 2) := by decide +kernel
theorem dX2_init_100 : decode cX2_init 100 = .ok (.putfield 57, 3) := by decide +kernel
theorem dX2_init_103 : decode cX2_init 103 = .ok (.aload_n 0, 1) := by decide +kernel
theorem dX2_init_104 : decode cX2_init 104 = .ok (.iload_n 1, 1) := by decide +kernel
theorem dX2_init_105 : decode cX2_init 105 = .ok (.iload_n 2, 1) := by decide +kernel
theorem dX2_init_106 : decode cX2_init 106 = .ok (.imul, 1) := by decide +kernel
theorem dX2_init_107 : decode cX2_init 107 = .ok (.newarray .int, 2) := by decide +kernel
theorem dX2_init_109 : decode cX2_init 109 = .ok (.putfield 61, 3) := by decide +kernel
theorem dX2_init_112 : decode cX2_init 112 = .ok (.aload_n 0, 1) := by decide +kernel
theorem dX2_init_113 : decode cX2_init 113 = .ok (.aload_n 0, 1) := by decide +kernel
theorem dX2_init_114 : decode cX2_init 114 = .ok (.getfield 54, 3) := by decide +kernel
theorem dX2_init_117 : decode cX2_init 117 = .ok (.iload_n 3, 1) := by decide +kernel
theorem dX2_init_118 : decode cX2_init 118 = .ok (.imul, 1) := by decide +kernel
theorem dX2_init_119 : decode cX2_init 119 = .ok (.newarray .boolean, 2) := by decide +kernel
theorem dX2_init_121 : decode cX2_init 121 = .ok (.putfield 64, 3) := by decide +kernel
theorem dX2_init_124 : decode cX2_init 124 = .ok (.return_, 1) := by decide +kernel
theorem dX2_start_0 : decode cX2_start 0 = .ok (.aload_n 0, 1) := by decide +kernel
theorem dX2_start_1 : decode cX2_start 1 = .ok (.getfield 12, 3) := by decide +kernel
theorem dX2_start_4 : decode cX2_start 4 = .ok (.aload_n 1, 1) := by decide +kernel
theorem dX2_start_5 : decode cX2_start 5 = .ok (.invokevirtual 68, 3) := by decide +kernel
theorem dX2_start_8 : decode cX2_start 8 = .ok (.aload_n 0, 1) := by decide +kernel
theorem dX2_start_9 : decode cX2_start 9 = .ok (.iload_n 2, 1) := by decide +kernel
theorem dX2_start_10 : decode cX2_start 10 = .ok (.putfield 25, 3) := by decide +kernel
theorem dX2_start_13 : decode cX2_start 13 = .ok (.aload_n 0, 1) := by decide +kernel
theorem dX2_start_14 : decode cX2_start 14 = .ok (.iconst 1, 1) := by decide +kernel
theorem dX2_start_15 : decode cX2_start 15 = .ok (.putfield 29, 3) := by decide +kernel
theorem dX2_start_18 : decode cX2_start 18 = .ok (.aload_n 0, 1) := by decide +kernel
theorem dX2_start_19 : decode cX2_start 19 = .ok (.iconst 0, 1) := by decide +kernel
theorem dX2_start_20 : decode cX2_start 20 = .ok (.putfield 33, 3) := by decide +kernel
theorem dX2_start_23 : decode cX2_start 23 = .ok (.iconst 0, 1) := by decide +kernel
theorem dX2_start_24 : decode cX2_start 24 = .ok (.istore_n 3, 1) := by decide +kernel
theorem dX2_start_25 : decode cX2_start 25 = .ok (.iload_n 3, 1) := by decide +kernel
theorem dX2_start_26 : decode cX2_start 26 = .ok (.aload_n 0, 1) := by decide +kernel
theorem dX2_start_27 : decode cX2_start 27 = .ok (.getfield 64, 3) := by decide +kernel
theorem dX2_start_30 : decode cX2_start 30 = .ok (.arraylength, 1) := by decide +kernel
theorem dX2_start_31 : decode cX2_start 31 = .ok (.if_icmp .ge 16, 3) := by decide +kernel
theorem dX2_start_34 : decode cX2_start 34 = .ok (.aload_n 0, 1) := by decide +kernel
theorem dX2_start_35 : decode cX2_start 35 = .ok (.getfield 64, 3) := by decide +kernel
theorem dX2_start_38 : decode cX2_start 38 = .ok (.iload_n 3, 1) := by decide +kernel
theorem dX2_start_39 : decode cX2_start 39 = .ok (.iconst 0, 1) := by decide +kernel
theorem dX2_start_40 : decode cX2_start 40 = .ok (.bastore, 1) := by decide +kernel
theorem dX2_start_41 : decode cX2_start 41 = .ok (.iinc 3 1, 3) := by decide +kernel
theorem dX2_start_44 : decode cX2_start 44 = .ok (.goto (-19), 3) := by decide +kernel
theorem dX2_start_47 : decode cX2_start 47 = .ok (.aload_n 0, 1) := by decide +kernel
theorem dX2_start_48 : decode cX2_start 48 = .ok (.getfield 64, 3) := by decide +kernel
theorem dX2_start_51 : decode cX2_start 51 = .ok (.arraylength, 1) := by decide +kernel
theorem dX2_start_52 : decode cX2_start 52 = .ok (.ireturn, 1) := by decide +kernel
theorem dX2_pixelIndex_0 : decode cX2_pixelIndex 0 = .ok (.iload_n 2, 1) := by decide +kernel
theorem dX2_pixelIndex_1 : decode cX2_pixelIndex 1 = .ok (.aload_n 0, 1) := by decide +kernel
theorem dX2_pixelIndex_2 : decode cX2_pixelIndex 2 = .ok (.getfield 48, 3) := by decide +kernel
theorem dX2_pixelIndex_5 : decode cX2_pixelIndex 5 = .ok (.imul, 1) := by decide +kernel
theorem dX2_pixelIndex_6 : decode cX2_pixelIndex 6 = .ok (.iload_n 1, 1) := by decide +kernel
theorem dX2_pixelIndex_7 : decode cX2_pixelIndex 7 = .ok (.iadd, 1) := by decide +kernel
theorem dX2_pixelIndex_8 : decode cX2_pixelIndex 8 = .ok (.ireturn, 1) := by decide +kernel
theorem dX2_isShown_0 : decode cX2_isShown 0 = .ok (.iload_n 1, 1) := by decide +kernel
theorem dX2_isShown_1 : decode cX2_isShown 1 = .ok (.iconst 0, 1) := by decide +kernel
theorem dX2_isShown_2 : decode cX2_isShown 2 = .ok (.aload_n 0, 1) := by decide +kernel
theorem dX2_isShown_3 : decode cX2_isShown 3 = .ok (.getfield 48, 3) := by decide +kernel
theorem dX2_isShown_6 : decode cX2_isShown 6 = .ok (.iconst 1, 1) := by decide +kernel
theorem dX2_isShown_7 : decode cX2_isShown 7 = .ok (.isub, 1) := by decide +kernel
theorem dX2_isShown_8 : decode cX2_isShown 8 = .ok (.invokestatic 72, 3) := by decide +kernel
theorem dX2_isShown_11 : decode cX2_isShown 11 = .ok (.ifCond .eq 43, 3) := by decide +kernel
theorem dX2_isShown_14 : decode cX2_isShown 14 = .ok (.iload_n 2, 1) := by decide +kernel
theorem dX2_isShown_15 : decode cX2_isShown 15 = .ok (.iconst 0, 1) := by decide +kernel
theorem dX2_isShown_16 : decode cX2_isShown 16 = .ok (.aload_n 0, 1) := by decide +kernel
theorem dX2_isShown_17 : decode cX2_isShown 17 = .ok (.getfield 51, 3) := by decide +kernel
theorem dX2_isShown_20 : decode cX2_isShown 20 = .ok (.iconst 1, 1) := by decide +kernel
theorem dX2_isShown_21 : decode cX2_isShown 21 = .ok (.isub, 1) := by decide +kernel
theorem dX2_isShown_22 : decode cX2_isShown 22 = .ok (.invokestatic 72, 3) := by decide +kernel
theorem dX2_isShown_25 : decode cX2_isShown 25 = .ok (.ifCond .eq 29, 3) := by decide +kernel
theorem dX2_isShown_28 : decode cX2_isShown 28 = .ok (.aload_n 0, 1) := by decide +kernel
theorem dX2_isShown_29 : decode cX2_isShown 29 = .ok (.getfield 64, 3) := by decide +kernel
theorem dX2_isShown_32 : decode cX2_isShown 32 = .ok (.iload_n 2, 1) := by decide +kernel
theorem dX2_isShown_33 : decode cX2_isShown 33 = .ok (.bipush 8, 2) := by decide +kernel
theorem dX2_isShown_35 : decode cX2_isShown 35 = .ok (.idiv, 1) := by decide +kernel
theorem dX2_isShown_36 : decode cX2_isShown 36 = .ok (.aload_n 0, 1) := by decide +kernel
theorem dX2_isShown_37 : decode cX2_isShown 37 = .ok (.getfield 54, 3) := by decide +kernel
theorem dX2_isShown_40 : decode cX2_isShown 40 = .ok (.imul, 1) := by decide +kernel
theorem dX2_isShown_41 : decode cX2_isShown 41 = .ok (.iload_n 1, 1) := by decide +kernel
theorem dX2_isShown_42 : decode cX2_isShown 42 = .ok (.bipush 8, 2) := by decide +kernel
theorem dX2_isShown_44 : decode cX2_isShown 44 = .ok (.idiv, 1) := by decide +kernel
theorem dX2_isShown_45 : decode cX2_isShown 45 = .ok (.iadd, 1) := by decide +kernel
theorem dX2_isShown_46 : decode cX2_isShown 46 = .ok (.baload, 1) := by decide +kernel
theorem dX2_isShown_47 : decode cX2_isShown 47 = .ok (.ifCond .eq 7, 3) := by decide +kernel
theorem dX2_isShown_50 : decode cX2_isShown 50 = .ok (.iconst 1, 1) := by decide +kernel
theorem dX2_isShown_51 : decode cX2_isShown 51 = .ok (.goto 4, 3) := by decide +kernel
theorem dX2_isShown_54 : decode cX2_isShown 54 = .ok (.iconst 0, 1) := by decide +kernel
theorem dX2_isShown_55 : decode cX2_isShown 55 = .ok (.ireturn, 1) := by decide +kernel
theorem dX2_drawTile_0 : decode cX2_drawTile 0 = .ok (.aload_n 0, 1) := by decide +kernel
theorem dX2_drawTile_1 : decode cX2_drawTile 1 = .ok (.getfield 29, 3) := by decide +kernel
theorem dX2_drawTile_4 : decode cX2_drawTile 4 = .ok (.ifCond .eq 25, 3) := by decide +kernel
theorem dX2_drawTile_7 : decode cX2_drawTile 7 = .ok (.iload_n 1, 1) := by decide +kernel
theorem dX2_drawTile_8 : decode cX2_drawTile 8 = .ok (.ifCond .lt 21, 3) := by decide +kernel
theorem dX2_drawTile_11 : decode cX2_drawTile 11 = .ok (.iload_n 1, 1) := by decide +kernel
theorem dX2_drawTile_12 : decode cX2_drawTile 12 = .ok (.aload_n 0, 1) := by decide +kernel
theorem dX2_drawTile_13 : decode cX2_drawTile 13 = .ok (.getfield 64, 3) := by decide +kernel
theorem dX2_drawTile_16 : decode cX2_drawTile 16 = .ok (.arraylength, 1) := by decide +kernel
theorem dX2_drawTile_17 : decode cX2_drawTile 17 = .ok (.if_icmp .ge 12, 3) := by decide +kernel
theorem dX2_drawTile_20 : decode cX2_drawTile 20 = .ok (.aload_n 0, 1) := by decide +kernel
theorem dX2_drawTile_21 : decode cX2_drawTile 21 = .ok (.getfield 64, 3) := by decide +kernel
theorem dX2_drawTile_24 : decode cX2_drawTile 24 = .ok (.iload_n 1, 1) := by decide +kernel
theorem dX2_drawTile_25 : decode cX2_drawTile 25 = .ok (.baload, 1) := by decide +kernel
theorem dX2_drawTile_26 : decode cX2_drawTile 26 = .ok (.ifCond .eq 5, 3) := by decide +kernel
theorem dX2_drawTile_29 : decode cX2_drawTile 29 = .ok (.iconst 0, 1) := by decide +kernel
theorem dX2_drawTile_30 : decode cX2_drawTile 30 = .ok (.ireturn, 1) := by decide +kernel
theorem dX2_drawTile_31 : decode cX2_drawTile 31 = .ok (.aload_n 0, 1) := by decide +kernel
theorem dX2_drawTile_32 : decode cX2_drawTile 32 = .ok (.iload_n 1, 1) := by decide +kernel
theorem dX2_drawTile_33 : decode cX2_drawTile 33 = .ok (.invokevirtual 76, 3) := by decide +kernel
theorem dX2_drawTile_36 : decode cX2_drawTile 36 = .ok (.aload_n 0, 1) := by decide +kernel
theorem dX2_drawTile_37 : decode cX2_drawTile 37 = .ok (.invokevirtual 80, 3) := by decide +kernel
theorem dX2_drawTile_40 : decode cX2_drawTile 40 = .ok (.iconst 0, 1) := by decide +kernel
theorem dX2_drawTile_41 : decode cX2_drawTile 41 = .ok (.istore_n 2, 1) := by decide +kernel
theorem dX2_drawTile_42 : decode cX2_drawTile 42 = .ok (.iload_n 2, 1) := by decide +kernel
theorem dX2_drawTile_43 : decode cX2_drawTile 43 = .ok (.aload_n 0, 1) := by decide +kernel
theorem dX2_drawTile_44 : decode cX2_drawTile 44 = .ok (.getfield 12, 3) := by decide +kernel
theorem dX2_drawTile_47 : decode cX2_drawTile 47 = .ok (.getfield 83, 3) := by decide +kernel
theorem dX2_drawTile_50 : decode cX2_drawTile 50 = .ok (.if_icmp .ge 14, 3) := by decide +kernel
theorem dX2_drawTile_53 : decode cX2_drawTile 53 = .ok (.aload_n 0, 1) := by decide +kernel
theorem dX2_drawTile_54 : decode cX2_drawTile 54 = .ok (.iload_n 2, 1) := by decide +kernel
theorem dX2_drawTile_55 : decode cX2_drawTile 55 = .ok (.invokevirtual 86, 3) := by decide +kernel
theorem dX2_drawTile_58 : decode cX2_drawTile 58 = .ok (.iinc 2 1, 3) := by decide +kernel
theorem dX2_drawTile_61 : decode cX2_drawTile 61 = .ok (.goto (-19), 3) := by decide +kernel
theorem dX2_drawTile_64 : decode cX2_drawTile 64 = .ok (.aload_n 0, 1) := by decide +kernel
theorem dX2_drawTile_65 : decode cX2_drawTile 65 = .ok (.getfield 64, 3) := by decide +kernel
theorem dX2_drawTile_68 : decode cX2_drawTile 68 = .ok (.iload_n 1, 1) := by decide +kernel
theorem dX2_drawTile_69 : decode cX2_drawTile 69 = .ok (.iconst 1, 1) := by decide +kernel
theorem dX2_drawTile_70 : decode cX2_drawTile 70 = .ok (.bastore, 1) := by decide +kernel
theorem dX2_drawTile_71 : decode cX2_drawTile 71 = .ok (.aload_n 0, 1) := by decide +kernel
theorem dX2_drawTile_72 : decode cX2_drawTile 72 = .ok (.dup, 1) := by decide +kernel
theorem dX2_drawTile_73 : decode cX2_drawTile 73 = .ok (.getfield 33, 3) := by decide +kernel
theorem dX2_drawTile_76 : decode cX2_drawTile 76 = .ok (.iconst 1, 1) := by decide +kernel
theorem dX2_drawTile_77 : decode cX2_drawTile 77 = .ok (.iadd, 1) := by decide +kernel
theorem dX2_drawTile_78 : decode cX2_drawTile 78 = .ok (.putfield 33, 3) := by decide +kernel
theorem dX2_drawTile_81 : decode cX2_drawTile 81 = .ok (.iconst 1, 1) := by decide +kernel
theorem dX2_drawTile_82 : decode cX2_drawTile 82 = .ok (.ireturn, 1) := by decide +kernel
theorem dX2_frameTile_0 : decode cX2_frameTile 0 = .ok (.iload_n 1, 1) := by decide +kernel
theorem dX2_frameTile_1 : decode cX2_frameTile 1 = .ok (.i2l, 1) := by decide +kernel
theorem dX2_frameTile_2 : decode cX2_frameTile 2 = .ok (.aload_n 0, 1) := by decide +kernel
theorem dX2_frameTile_3 : decode cX2_frameTile 3 = .ok (.getfield 54, 3) := by decide +kernel
theorem dX2_frameTile_6 : decode cX2_frameTile 6 = .ok (.i2l, 1) := by decide +kernel
theorem dX2_frameTile_7 : decode cX2_frameTile 7 = .ok (.invokestatic 89, 3) := by decide +kernel
theorem dX2_frameTile_10 : decode cX2_frameTile 10 = .ok (.l2i, 1) := by decide +kernel
theorem dX2_frameTile_11 : decode cX2_frameTile 11 = .ok (.istore_n 2, 1) := by decide +kernel
theorem dX2_frameTile_12 : decode cX2_frameTile 12 = .ok (.iload_n 1, 1) := by decide +kernel
theorem dX2_frameTile_13 : decode cX2_frameTile 13 = .ok (.iload_n 2, 1) := by decide +kernel
theorem dX2_frameTile_14 : decode cX2_frameTile 14 = .ok (.aload_n 0, 1) := by decide +kernel
theorem dX2_frameTile_15 : decode cX2_frameTile 15 = .ok (.getfield 54, 3) := by decide +kernel
theorem dX2_frameTile_18 : decode cX2_frameTile 18 = .ok (.imul, 1) := by decide +kernel
theorem dX2_frameTile_19 : decode cX2_frameTile 19 = .ok (.isub, 1) := by decide +kernel
theorem dX2_frameTile_20 : decode cX2_frameTile 20 = .ok (.istore_n 3, 1) := by decide +kernel
theorem dX2_frameTile_21 : decode cX2_frameTile 21 = .ok (.aload_n 0, 1) := by decide +kernel
theorem dX2_frameTile_22 : decode cX2_frameTile 22 = .ok (.iload_n 3, 1) := by decide +kernel
theorem dX2_frameTile_23 : decode cX2_frameTile 23 = .ok (.bipush 8, 2) := by decide +kernel
theorem dX2_frameTile_25 : decode cX2_frameTile 25 = .ok (.imul, 1) := by decide +kernel
theorem dX2_frameTile_26 : decode cX2_frameTile 26 = .ok (.putfield 36, 3) := by decide +kernel
theorem dX2_frameTile_29 : decode cX2_frameTile 29 = .ok (.aload_n 0, 1) := by decide +kernel
theorem dX2_frameTile_30 : decode cX2_frameTile 30 = .ok (.iload_n 2, 1) := by decide +kernel
theorem dX2_frameTile_31 : decode cX2_frameTile 31 = .ok (.bipush 8, 2) := by decide +kernel
theorem dX2_frameTile_33 : decode cX2_frameTile 33 = .ok (.imul, 1) := by decide +kernel
theorem dX2_frameTile_34 : decode cX2_frameTile 34 = .ok (.putfield 39, 3) := by decide +kernel
theorem dX2_frameTile_37 : decode cX2_frameTile 37 = .ok (.aload_n 0, 1) := by decide +kernel
theorem dX2_frameTile_38 : decode cX2_frameTile 38 = .ok (.aload_n 0, 1) := by decide +kernel
theorem dX2_frameTile_39 : decode cX2_frameTile 39 = .ok (.getfield 48, 3) := by decide +kernel
theorem dX2_frameTile_42 : decode cX2_frameTile 42 = .ok (.aload_n 0, 1) := by decide +kernel
theorem dX2_frameTile_43 : decode cX2_frameTile 43 = .ok (.getfield 36, 3) := by decide +kernel
theorem dX2_frameTile_46 : decode cX2_frameTile 46 = .ok (.bipush 8, 2) := by decide +kernel
theorem dX2_frameTile_48 : decode cX2_frameTile 48 = .ok (.iadd, 1) := by decide +kernel
theorem dX2_frameTile_49 : decode cX2_frameTile 49 = .ok (.invokestatic 93, 3) := by decide +kernel
theorem dX2_frameTile_52 : decode cX2_frameTile 52 = .ok (.putfield 42, 3) := by decide +kernel
theorem dX2_frameTile_55 : decode cX2_frameTile 55 = .ok (.aload_n 0, 1) := by decide +kernel
theorem dX2_frameTile_56 : decode cX2_frameTile 56 = .ok (.aload_n 0, 1) := by decide +kernel
theorem dX2_frameTile_57 : decode cX2_frameTile 57 = .ok (.getfield 51, 3) := by decide +kernel
theorem dX2_frameTile_60 : decode cX2_frameTile 60 = .ok (.aload_n 0, 1) := by decide +kernel
theorem dX2_frameTile_61 : decode cX2_frameTile 61 = .ok (.getfield 39, 3) := by decide +kernel
theorem dX2_frameTile_64 : decode cX2_frameTile 64 = .ok (.bipush 8, 2) := by decide +kernel
theorem dX2_frameTile_66 : decode cX2_frameTile 66 = .ok (.iadd, 1) := by decide +kernel
theorem dX2_frameTile_67 : decode cX2_frameTile 67 = .ok (.invokestatic 93, 3) := by decide +kernel
theorem dX2_frameTile_70 : decode cX2_frameTile 70 = .ok (.putfield 45, 3) := by decide +kernel
theorem dX2_frameTile_73 : decode cX2_frameTile 73 = .ok (.return_, 1) := by decide +kernel
theorem dX2_fillWithBackground_0 : decode cX2_fillWithBackground 0 = .ok (.aload_n 0, 1) := by decide +kernel
theorem dX2_fillWithBackground_1 : decode cX2_fillWithBackground 1 = .ok (.getfield 39, 3) := by decide +kernel
theorem dX2_fillWithBackground_4 : decode cX2_fillWithBackground 4 = .ok (.istore_n 1, 1) := by decide +kernel
theorem dX2_fillWithBackground_5 : decode cX2_fillWithBackground 5 = .ok (.iload_n 1, 1) := by decide +kernel
theorem dX2_fillWithBackground_6 : decode cX2_fillWithBackground 6 = .ok (.aload_n 0, 1) := by decide +kernel
theorem dX2_fillWithBackground_7 : decode cX2_fillWithBackground 7 = .ok (.getfield 45, 3) := by decide +kernel
theorem dX2_fillWithBackground_10 : decode cX2_fillWithBackground 10 = .ok (.if_icmp .ge 55, 3) := by decide +kernel
theorem dX2_fillWithBackground_13 : decode cX2_fillWithBackground 13 = .ok (.aload_n 0, 1) := by decide +kernel
theorem dX2_fillWithBackground_14 : decode cX2_fillWithBackground 14 = .ok (.getfield 36, 3) := by decide +kernel
theorem dX2_fillWithBackground_17 : decode cX2_fillWithBackground 17 = .ok (.istore_n 2, 1) := by decide +kernel
theorem dX2_fillWithBackground_18 : decode cX2_fillWithBackground 18 = .ok (.iload_n 2, 1) := by decide +kernel
theorem dX2_fillWithBackground_19 : decode cX2_fillWithBackground 19 = .ok (.aload_n 0, 1) := by decide +kernel
theorem dX2_fillWithBackground_20 : decode cX2_fillWithBackground 20 = .ok (.getfield 42, 3) := by decide +kernel
theorem dX2_fillWithBackground_23 : decode cX2_fillWithBackground 23 = .ok (.if_icmp .ge 36, 3) := by decide +kernel
theorem dX2_fillWithBackground_26 : decode cX2_fillWithBackground 26 = .ok (.aload_n 0, 1) := by decide +kernel
theorem dX2_fillWithBackground_27 : decode cX2_fillWithBackground 27 = .ok (.getfield 57, 3) := by decide +kernel
theorem dX2_fillWithBackground_30 : decode cX2_fillWithBackground 30 = .ok (.aload_n 0, 1) := by decide +kernel
theorem dX2_fillWithBackground_31 : decode cX2_fillWithBackground 31 = .ok (.iload_n 2, 1) := by decide +kernel
theorem dX2_fillWithBackground_32 : decode cX2_fillWithBackground 32 = .ok (.iload_n 1, 1) := by decide +kernel
theorem dX2_fillWithBackground_33 : decode cX2_fillWithBackground 33 = .ok (.invokevirtual 99, 3) := by decide +kernel
theorem dX2_fillWithBackground_36 : decode cX2_fillWithBackground 36 = .ok (.aload_n 0, 1) := by decide +kernel
theorem dX2_fillWithBackground_37 : decode cX2_fillWithBackground 37 = .ok (.getfield 25, 3) := by decide +kernel
theorem dX2_fillWithBackground_40 : decode cX2_fillWithBackground 40 = .ok (.iastore, 1) := by decide +kernel
theorem dX2_fillWithBackground_41 : decode cX2_fillWithBackground 41 = .ok (.aload_n 0, 1) := by decide +kernel
theorem dX2_fillWithBackground_42 : decode cX2_fillWithBackground 42 = .ok (.getfield 61, 3) := by decide +kernel
theorem dX2_fillWithBackground_45 : decode cX2_fillWithBackground 45 = .ok (.aload_n 0, 1) := by decide +kernel
theorem dX2_fillWithBackground_46 : decode cX2_fillWithBackground 46 = .ok (.iload_n 2, 1) := by decide +kernel
theorem dX2_fillWithBackground_47 : decode cX2_fillWithBackground 47 = .ok (.iload_n 1, 1) := by decide +kernel
theorem dX2_fillWithBackground_48 : decode cX2_fillWithBackground 48 = .ok (.invokevirtual 99, 3) := by decide +kernel
theorem dX2_fillWithBackground_51 : decode cX2_fillWithBackground 51 = .ok (.iconst 0, 1) := by decide +kernel
theorem dX2_fillWithBackground_52 : decode cX2_fillWithBackground 52 = .ok (.iastore, 1) := by decide +kernel
theorem dX2_fillWithBackground_53 : decode cX2_fillWithBackground 53 = .ok (.iinc 2 1, 3) := by decide +kernel
theorem dX2_fillWithBackground_56 : decode cX2_fillWithBackground 56 = .ok (.goto (-38), 3) := by decide +kernel
theorem dX2_fillWithBackground_59 : decode cX2_fillWithBackground 59 = .ok (.iinc 1 1, 3) := by decide +kernel
theorem dX2_fillWithBackground_62 : decode cX2_fillWithBackground 62 = .ok (.goto (-57), 3) := by decide +kernel
theorem dX2_fillWithBackground_65 : decode cX2_fillWithBackground 65 = .ok (.return_, 1) := by decide +kernel
theorem dX2_drawPiece_0 : decode cX2_drawPiece 0 = .ok (.aload_n 0, 1) := by decide +kernel
theorem dX2_drawPiece_1 : decode cX2_drawPiece 1 = .ok (.getfield 12, 3) := by decide +kernel
theorem dX2_drawPiece_4 : decode cX2_drawPiece 4 = .ok (.aload_n 0, 1) := by decide +kernel
theorem dX2_drawPiece_5 : decode cX2_drawPiece 5 = .ok (.getfield 21, 3) := by decide +kernel
theorem dX2_drawPiece_8 : decode cX2_drawPiece 8 = .ok (.iload_n 1, 1) := by decide +kernel
theorem dX2_drawPiece_9 : decode cX2_drawPiece 9 = .ok (.invokevirtual 102, 3) := by decide +kernel
theorem dX2_drawPiece_12 : decode cX2_drawPiece 12 = .ok (.aload_n 0, 1) := by decide +kernel
theorem dX2_drawPiece_13 : decode cX2_drawPiece 13 = .ok (.getfield 36, 3) := by decide +kernel
theorem dX2_drawPiece_16 : decode cX2_drawPiece 16 = .ok (.aload_n 0, 1) := by decide +kernel
theorem dX2_drawPiece_17 : decode cX2_drawPiece 17 = .ok (.getfield 21, 3) := by decide +kernel
theorem dX2_drawPiece_20 : decode cX2_drawPiece 20 = .ok (.invokevirtual 106, 3) := by decide +kernel
theorem dX2_drawPiece_23 : decode cX2_drawPiece 23 = .ok (.invokestatic 110, 3) := by decide +kernel
theorem dX2_drawPiece_26 : decode cX2_drawPiece 26 = .ok (.istore_n 2, 1) := by decide +kernel
theorem dX2_drawPiece_27 : decode cX2_drawPiece 27 = .ok (.aload_n 0, 1) := by decide +kernel
theorem dX2_drawPiece_28 : decode cX2_drawPiece 28 = .ok (.getfield 42, 3) := by decide +kernel
theorem dX2_drawPiece_31 : decode cX2_drawPiece 31 = .ok (.iconst 1, 1) := by decide +kernel
theorem dX2_drawPiece_32 : decode cX2_drawPiece 32 = .ok (.isub, 1) := by decide +kernel
theorem dX2_drawPiece_33 : decode cX2_drawPiece 33 = .ok (.aload_n 0, 1) := by decide +kernel
theorem dX2_drawPiece_34 : decode cX2_drawPiece 34 = .ok (.getfield 21, 3) := by decide +kernel
theorem dX2_drawPiece_37 : decode cX2_drawPiece 37 = .ok (.invokevirtual 113, 3) := by decide +kernel
theorem dX2_drawPiece_40 : decode cX2_drawPiece 40 = .ok (.invokestatic 93, 3) := by decide +kernel
theorem dX2_drawPiece_43 : decode cX2_drawPiece 43 = .ok (.istore_n 3, 1) := by decide +kernel
theorem dX2_drawPiece_44 : decode cX2_drawPiece 44 = .ok (.aload_n 0, 1) := by decide +kernel
theorem dX2_drawPiece_45 : decode cX2_drawPiece 45 = .ok (.getfield 39, 3) := by decide +kernel
theorem dX2_drawPiece_48 : decode cX2_drawPiece 48 = .ok (.aload_n 0, 1) := by decide +kernel
theorem dX2_drawPiece_49 : decode cX2_drawPiece 49 = .ok (.getfield 21, 3) := by decide +kernel
theorem dX2_drawPiece_52 : decode cX2_drawPiece 52 = .ok (.invokevirtual 116, 3) := by decide +kernel
theorem dX2_drawPiece_55 : decode cX2_drawPiece 55 = .ok (.invokestatic 110, 3) := by decide +kernel
theorem dX2_drawPiece_58 : decode cX2_drawPiece 58 = .ok (.istore 4, 2) := by decide +kernel
theorem dX2_drawPiece_60 : decode cX2_drawPiece 60 = .ok (.aload_n 0, 1) := by decide +kernel
theorem dX2_drawPiece_61 : decode cX2_drawPiece 61 = .ok (.getfield 45, 3) := by decide +kernel
theorem dX2_drawPiece_64 : decode cX2_drawPiece 64 = .ok (.iconst 1, 1) := by decide +kernel
theorem dX2_drawPiece_65 : decode cX2_drawPiece 65 = .ok (.isub, 1) := by decide +kernel
theorem dX2_drawPiece_66 : decode cX2_drawPiece 66 = .ok (.aload_n 0, 1) := by decide +kernel
theorem dX2_drawPiece_67 : decode cX2_drawPiece 67 = .ok (.getfield 21, 3) := by decide +kernel
theorem dX2_drawPiece_70 : decode cX2_drawPiece 70 = .ok (.invokevirtual 119, 3) := by decide +kernel
theorem dX2_drawPiece_73 : decode cX2_drawPiece 73 = .ok (.invokestatic 93, 3) := by decide +kernel
theorem dX2_drawPiece_76 : decode cX2_drawPiece 76 = .ok (.istore 5, 2) := by decide +kernel
theorem dX2_drawPiece_78 : decode cX2_drawPiece 78 = .ok (.iload 4, 2) := by decide +kernel
theorem dX2_drawPiece_80 : decode cX2_drawPiece 80 = .ok (.istore 6, 2) := by decide +kernel
theorem dX2_drawPiece_82 : decode cX2_drawPiece 82 = .ok (.iload 6, 2) := by decide +kernel
theorem dX2_drawPiece_84 : decode cX2_drawPiece 84 = .ok (.iload 5, 2) := by decide +kernel
theorem dX2_drawPiece_86 : decode cX2_drawPiece 86 = .ok (.if_icmp .gt 68, 3) := by decide +kernel
theorem dX2_drawPiece_89 : decode cX2_drawPiece 89 = .ok (.iload_n 2, 1) := by decide +kernel
theorem dX2_drawPiece_90 : decode cX2_drawPiece 90 = .ok (.istore 7, 2) := by decide +kernel
theorem dX2_drawPiece_92 : decode cX2_drawPiece 92 = .ok (.iload 7, 2) := by decide +kernel
theorem dX2_drawPiece_94 : decode cX2_drawPiece 94 = .ok (.iload_n 3, 1) := by decide +kernel
theorem dX2_drawPiece_95 : decode cX2_drawPiece 95 = .ok (.if_icmp .gt 53, 3) := by decide +kernel
theorem dX2_drawPiece_98 : decode cX2_drawPiece 98 = .ok (.aload_n 0, 1) := by decide +kernel
theorem dX2_drawPiece_99 : decode cX2_drawPiece 99 = .ok (.getfield 21, 3) := by decide +kernel
theorem dX2_drawPiece_102 : decode cX2_drawPiece 102 = .ok (.iload 7, 2) := by decide +kernel
theorem dX2_drawPiece_104 : decode cX2_drawPiece 104 = .ok (.iload 6, 2) := by decide +kernel
theorem dX2_drawPiece_106 : decode cX2_drawPiece 106 = .ok (.invokevirtual 122, 3) := by decide +kernel
theorem dX2_drawPiece_109 : decode cX2_drawPiece 109 = .ok (.ifCond .eq 33, 3) := by decide +kernel
theorem dX2_drawPiece_112 : decode cX2_drawPiece 112 = .ok (.aload_n 0, 1) := by decide +kernel
theorem dX2_drawPiece_113 : decode cX2_drawPiece 113 = .ok (.aload_n 0, 1) := by decide +kernel
theorem dX2_drawPiece_114 : decode cX2_drawPiece 114 = .ok (.iload 7, 2) := by decide +kernel
theorem dX2_drawPiece_116 : decode cX2_drawPiece 116 = .ok (.iload 6, 2) := by decide +kernel
theorem dX2_drawPiece_118 : decode cX2_drawPiece 118 = .ok (.invokevirtual 99, 3) := by decide +kernel
theorem dX2_drawPiece_121 : decode cX2_drawPiece 121 = .ok (.aload_n 0, 1) := by decide +kernel
theorem dX2_drawPiece_122 : decode cX2_drawPiece 122 = .ok (.getfield 12, 3) := by decide +kernel
theorem dX2_drawPiece_125 : decode cX2_drawPiece 125 = .ok (.getfield 126, 3) := by decide +kernel
theorem dX2_drawPiece_128 : decode cX2_drawPiece 128 = .ok (.iload_n 1, 1) := by decide +kernel
theorem dX2_drawPiece_129 : decode cX2_drawPiece 129 = .ok (.iaload, 1) := by decide +kernel
theorem dX2_drawPiece_130 : decode cX2_drawPiece 130 = .ok (.aload_n 0, 1) := by decide +kernel
theorem dX2_drawPiece_131 : decode cX2_drawPiece 131 = .ok (.getfield 12, 3) := by decide +kernel
theorem dX2_drawPiece_134 : decode cX2_drawPiece 134 = .ok (.getfield 129, 3) := by decide +kernel
theorem dX2_drawPiece_137 : decode cX2_drawPiece 137 = .ok (.iload_n 1, 1) := by decide +kernel
theorem dX2_drawPiece_138 : decode cX2_drawPiece 138 = .ok (.iaload, 1) := by decide +kernel
theorem dX2_drawPiece_139 : decode cX2_drawPiece 139 = .ok (.invokevirtual 132, 3) := by decide +kernel
theorem dX2_drawPiece_142 : decode cX2_drawPiece 142 = .ok (.iinc 7 1, 3) := by decide +kernel
theorem dX2_drawPiece_145 : decode cX2_drawPiece 145 = .ok (.goto (-53), 3) := by decide +kernel
theorem dX2_drawPiece_148 : decode cX2_drawPiece 148 = .ok (.iinc 6 1, 3) := by decide +kernel
theorem dX2_drawPiece_151 : decode cX2_drawPiece 151 = .ok (.goto (-69), 3) := by decide +kernel
theorem dX2_drawPiece_154 : decode cX2_drawPiece 154 = .ok (.return_, 1) := by decide +kernel
theorem dX2_paint_0 : decode cX2_paint 0 = .ok (.aload_n 0, 1) := by decide +kernel
theorem dX2_paint_1 : decode cX2_paint 1 = .ok (.getfield 21, 3) := by decide +kernel
theorem dX2_paint_4 : decode cX2_paint 4 = .ok (.invokevirtual 136, 3) := by decide +kernel
theorem dX2_paint_7 : decode cX2_paint 7 = .ok (.l2i, 1) := by decide +kernel
theorem dX2_paint_8 : decode cX2_paint 8 = .ok (.istore 4, 2) := by decide +kernel
theorem dX2_paint_10 : decode cX2_paint 10 = .ok (.iload 4, 2) := by decide +kernel
theorem dX2_paint_12 : decode cX2_paint 12 = .ok (.aload_n 0, 1) := by decide +kernel
theorem dX2_paint_13 : decode cX2_paint 13 = .ok (.getfield 61, 3) := by decide +kernel
theorem dX2_paint_16 : decode cX2_paint 16 = .ok (.iload_n 1, 1) := by decide +kernel
theorem dX2_paint_17 : decode cX2_paint 17 = .ok (.iaload, 1) := by decide +kernel
theorem dX2_paint_18 : decode cX2_paint 18 = .ok (.if_icmp .gt 4, 3) := by decide +kernel
theorem dX2_paint_21 : decode cX2_paint 21 = .ok (.return_, 1) := by decide +kernel
theorem dX2_paint_22 : decode cX2_paint 22 = .ok (.iload_n 2, 1) := by decide +kernel
theorem dX2_paint_23 : decode cX2_paint 23 = .ok (.aload_n 0, 1) := by decide +kernel
theorem dX2_paint_24 : decode cX2_paint 24 = .ok (.getfield 21, 3) := by decide +kernel
theorem dX2_paint_27 : decode cX2_paint 27 = .ok (.invokevirtual 140, 3) := by decide +kernel
theorem dX2_paint_30 : decode cX2_paint 30 = .ok (.invokestatic 143, 3) := by decide +kernel
theorem dX2_paint_33 : decode cX2_paint 33 = .ok (.istore 5, 2) := by decide +kernel
theorem dX2_paint_35 : decode cX2_paint 35 = .ok (.iload_n 3, 1) := by decide +kernel
theorem dX2_paint_36 : decode cX2_paint 36 = .ok (.sipush 255, 3) := by decide +kernel
theorem dX2_paint_39 : decode cX2_paint 39 = .ok (.if_icmp .ne 22, 3) := by decide +kernel
theorem dX2_paint_42 : decode cX2_paint 42 = .ok (.aload_n 0, 1) := by decide +kernel
theorem dX2_paint_43 : decode cX2_paint 43 = .ok (.getfield 57, 3) := by decide +kernel
theorem dX2_paint_46 : decode cX2_paint 46 = .ok (.iload_n 1, 1) := by decide +kernel
theorem dX2_paint_47 : decode cX2_paint 47 = .ok (.iload 5, 2) := by decide +kernel
theorem dX2_paint_49 : decode cX2_paint 49 = .ok (.iastore, 1) := by decide +kernel
theorem dX2_paint_50 : decode cX2_paint 50 = .ok (.aload_n 0, 1) := by decide +kernel
theorem dX2_paint_51 : decode cX2_paint 51 = .ok (.getfield 61, 3) := by decide +kernel
theorem dX2_paint_54 : decode cX2_paint 54 = .ok (.iload_n 1, 1) := by decide +kernel
theorem dX2_paint_55 : decode cX2_paint 55 = .ok (.iload 4, 2) := by decide +kernel
theorem dX2_paint_57 : decode cX2_paint 57 = .ok (.iastore, 1) := by decide +kernel
theorem dX2_paint_58 : decode cX2_paint 58 = .ok (.goto 21, 3) := by decide +kernel
theorem dX2_paint_61 : decode cX2_paint 61 = .ok (.aload_n 0, 1) := by decide +kernel
theorem dX2_paint_62 : decode cX2_paint 62 = .ok (.getfield 57, 3) := by decide +kernel
theorem dX2_paint_65 : decode cX2_paint 65 = .ok (.iload_n 1, 1) := by decide +kernel
theorem dX2_paint_66 : decode cX2_paint 66 = .ok (.iload 5, 2) := by decide +kernel
theorem dX2_paint_68 : decode cX2_paint 68 = .ok (.aload_n 0, 1) := by decide +kernel
theorem dX2_paint_69 : decode cX2_paint 69 = .ok (.getfield 57, 3) := by decide +kernel
theorem dX2_paint_72 : decode cX2_paint 72 = .ok (.iload_n 1, 1) := by decide +kernel
theorem dX2_paint_73 : decode cX2_paint 73 = .ok (.iaload, 1) := by decide +kernel
theorem dX2_paint_74 : decode cX2_paint 74 = .ok (.iload_n 3, 1) := by decide +kernel
theorem dX2_paint_75 : decode cX2_paint 75 = .ok (.invokestatic 147, 3) := by decide +kernel
theorem dX2_paint_78 : decode cX2_paint 78 = .ok (.iastore, 1) := by decide +kernel
theorem dX2_paint_79 : decode cX2_paint 79 = .ok (.return_, 1) := by decide +kernel
