theorem dX4_init_0 : decode cX4_init 0 = .ok (.aload_n 0, 1) := by decide +kernel
theorem dX4_init_1 : decode cX4_init 1 = .ok (.invokespecial 1, 3) := by decide +kernel
theorem dX4_init_4 : decode cX4_init 4 = .ok (.aload_n 0, 1) := by decide +kernel
theorem dX4_init_5 : decode cX4_init 5 = .ok (.sipush 7180, 3) := by decide +kernel
theorem dX4_init_8 : decode cX4_init 8 = .ok (.newarray .int, 2) := by decide +kernel
theorem dX4_init_10 : decode cX4_init 10 = .ok (.putfield 7, 3) := by decide +kernel
theorem dX4_init_13 : decode cX4_init 13 = .ok (.aload_n 0, 1) := by decide +kernel
theorem dX4_init_14 : decode cX4_init 14 = .ok (.sipush 2304, 3) := by decide +kernel
theorem dX4_init_17 : decode cX4_init 17 = .ok (.newarray .int, 2) := by decide +kernel
theorem dX4_init_19 : decode cX4_init 19 = .ok (.putfield 13, 3) := by decide +kernel
theorem dX4_init_22 : decode cX4_init 22 = .ok (.aload_n 0, 1) := by decide +kernel
theorem dX4_init_23 : decode cX4_init 23 = .ok (.sipush 2304, 3) := by decide +kernel
theorem dX4_init_26 : decode cX4_init 26 = .ok (.newarray .int, 2) := by decide +kernel
theorem dX4_init_28 : decode cX4_init 28 = .ok (.putfield 16, 3) := by decide +kernel
theorem dX4_init_31 : decode cX4_init 31 = .ok (.aload_n 0, 1) := by decide +kernel
theorem dX4_init_32 : decode cX4_init 32 = .ok (.bipush 36, 2) := by decide +kernel
theorem dX4_init_34 : decode cX4_init 34 = .ok (.newarray .boolean, 2) := by decide +kernel
theorem dX4_init_36 : decode cX4_init 36 = .ok (.putfield 19, 3) := by decide +kernel
theorem dX4_init_39 : decode cX4_init 39 = .ok (.aload_n 0, 1) := by decide +kernel
theorem dX4_init_40 : decode cX4_init 40 = .ok (.iload_n 1, 1) := by decide +kernel
theorem dX4_init_41 : decode cX4_init 41 = .ok (.bipush 8, 2) := by decide +kernel
theorem dX4_init_43 : decode cX4_init 43 = .ok (.if_icmp .ge 8, 3) := by decide +kernel
theorem dX4_init_46 : decode cX4_init 46 = .ok (.bipush 8, 2) := by decide +kernel
theorem dX4_init_48 : decode cX4_init 48 = .ok (.goto 15, 3) := by decide +kernel
theorem dX4_init_51 : decode cX4_init 51 = .ok (.iload_n 1, 1) := by decide +kernel
theorem dX4_init_52 : decode cX4_init 52 = .ok (.bipush 48, 2) := by decide +kernel
theorem dX4_init_54 : decode cX4_init 54 = .ok (.if_icmp .le 8, 3) := by decide +kernel
theorem dX4_init_57 : decode cX4_init 57 = .ok (.bipush 48, 2) := by decide +kernel
theorem dX4_init_59 : decode cX4_init 59 = .ok (.goto 4, 3) := by decide +kernel
theorem dX4_init_62 : decode cX4_init 62 = .ok (.iload_n 1, 1) := by decide +kernel
theorem dX4_init_63 : decode cX4_init 63 = .ok (.putfield 23, 3) := by decide +kernel
theorem dX4_init_66 : decode cX4_init 66 = .ok (.aload_n 0, 1) := by decide +kernel
theorem dX4_init_67 : decode cX4_init 67 = .ok (.iload_n 2, 1) := by decide +kernel
theorem dX4_init_68 : decode cX4_init 68 = .ok (.bipush 8, 2) := by decide +kernel
theorem dX4_init_70 : decode cX4_init 70 = .ok (.if_icmp .ge 8, 3) := by decide +kernel
theorem dX4_init_73 : decode cX4_init 73 = .ok (.bipush 8, 2) := by decide +kernel
theorem dX4_init_75 : decode cX4_init 75 = .ok (.goto 15, 3) := by decide +kernel
theorem dX4_init_78 : decode cX4_init 78 = .ok (.iload_n 2, 1) := by decide +kernel
theorem dX4_init_79 : decode cX4_init 79 = .ok (.bipush 48, 2) := by decide +kernel
theorem dX4_init_81 : decode cX4_init 81 = .ok (.if_icmp .le 8, 3) := by decide +kernel
theorem dX4_init_84 : decode cX4_init 84 = .ok (.bipush 48, 2) := by decide +kernel
theorem dX4_init_86 : decode cX4_init 86 = .ok (.goto 4, 3) := by decide +kernel
theorem dX4_init_89 : decode cX4_init 89 = .ok (.iload_n 2, 1) := by decide +kernel
theorem dX4_init_90 : decode cX4_init 90 = .ok (.putfield 27, 3) := by decide +kernel
theorem dX4_init_93 : decode cX4_init 93 = .ok (.iconst 0, 1) := by decide +kernel
theorem dX4_init_94 : decode cX4_init 94 = .ok (.istore_n 3, 1) := by decide +kernel
theorem dX4_init_95 : decode cX4_init 95 = .ok (.iload_n 3, 1) := by decide +kernel
theorem dX4_init_96 : decode cX4_init 96 = .ok (.iconst 3, 1) := by decide +kernel
theorem dX4_init_97 : decode cX4_init 97 = .ok (.if_icmp .ge 24, 3) := by decide +kernel
theorem dX4_init_100 : decode cX4_init 100 = .ok (.aload_n 0, 1) := by decide +kernel
theorem dX4_init_101 : decode cX4_init 101 = .ok (.getfield 7, 3) := by decide +kernel
theorem dX4_init_104 : decode cX4_init 104 = .ok (.sipush 7168, 3) := by decide +kernel
theorem dX4_init_107 : decode cX4_init 107 = .ok (.iconst 4, 1) := by decide +kernel
theorem dX4_init_108 : decode cX4_init 108 = .ok (.iload_n 3, 1) := by decide +kernel
theorem dX4_init_109 : decode cX4_init 109 = .ok (.imul, 1) := by decide +kernel
theorem dX4_init_110 : decode cX4_init 110 = .ok (.iadd, 1) := by decide +kernel
theorem dX4_init_111 : decode cX4_init 111 = .ok (.iconst 2, 1) := by decide +kernel
theorem dX4_init_112 : decode cX4_init 112 = .ok (.iadd, 1) := by decide +kernel
theorem dX4_init_113 : decode cX4_init 113 = .ok (.iconst 1, 1) := by decide +kernel
theorem dX4_init_114 : decode cX4_init 114 = .ok (.iastore, 1) := by decide +kernel
theorem dX4_init_115 : decode cX4_init 115 = .ok (.iinc 3 1, 3) := by decide +kernel
theorem dX4_init_118 : decode cX4_init 118 = .ok (.goto (-23), 3) := by decide +kernel
theorem dX4_init_121 : decode cX4_init 121 = .ok (.return_, 1) := by decide +kernel
theorem dX4_corner_0 : decode cX4_corner 0 = .ok (.aload_n 0, 1) := by decide +kernel
theorem dX4_corner_1 : decode cX4_corner 1 = .ok (.iconst 0, 1) := by decide +kernel
theorem dX4_corner_2 : decode cX4_corner 2 = .ok (.putfield 30, 3) := by decide +kernel
theorem dX4_corner_5 : decode cX4_corner 5 = .ok (.iload_n 1, 1) := by decide +kernel
theorem dX4_corner_6 : decode cX4_corner 6 = .ok (.ifCond .lt 65, 3) := by decide +kernel
theorem dX4_corner_9 : decode cX4_corner 9 = .ok (.iload_n 1, 1) := by decide +kernel
theorem dX4_corner_10 : decode cX4_corner 10 = .ok (.iconst 3, 1) := by decide +kernel
theorem dX4_corner_11 : decode cX4_corner 11 = .ok (.if_icmp .ge 60, 3) := by decide +kernel
theorem dX4_corner_14 : decode cX4_corner 14 = .ok (.iload_n 2, 1) := by decide +kernel
theorem dX4_corner_15 : decode cX4_corner 15 = .ok (.sipush (-4096), 3) := by decide +kernel
theorem dX4_corner_18 : decode cX4_corner 18 = .ok (.if_icmp .lt 53, 3) := by decide +kernel
theorem dX4_corner_21 : decode cX4_corner 21 = .ok (.iload_n 2, 1) := by decide +kernel
theorem dX4_corner_22 : decode cX4_corner 22 = .ok (.sipush 4096, 3) := by decide +kernel
theorem dX4_corner_25 : decode cX4_corner 25 = .ok (.if_icmp .gt 46, 3) := by decide +kernel
theorem dX4_corner_28 : decode cX4_corner 28 = .ok (.iload_n 3, 1) := by decide +kernel
theorem dX4_corner_29 : decode cX4_corner 29 = .ok (.sipush (-4096), 3) := by decide +kernel
theorem dX4_corner_32 : decode cX4_corner 32 = .ok (.if_icmp .lt 39, 3) := by decide +kernel
theorem dX4_corner_35 : decode cX4_corner 35 = .ok (.iload_n 3, 1) := by decide +kernel
theorem dX4_corner_36 : decode cX4_corner 36 = .ok (.sipush 4096, 3) := by decide +kernel
theorem dX4_corner_39 : decode cX4_corner 39 = .ok (.if_icmp .gt 32, 3) := by decide +kernel
theorem dX4_corner_42 : decode cX4_corner 42 = .ok (.iload 4, 2) := by decide +kernel
theorem dX4_corner_44 : decode cX4_corner 44 = .ok (.iconst 1, 1) := by decide +kernel
theorem dX4_corner_45 : decode cX4_corner 45 = .ok (.if_icmp .lt 26, 3) := by decide +kernel
theorem dX4_corner_48 : decode cX4_corner 48 = .ok (.iload 4, 2) := by decide +kernel
theorem dX4_corner_50 : decode cX4_corner 50 = .ok (.ldc 33, 2) := by decide +kernel
theorem dX4_corner_52 : decode cX4_corner 52 = .ok (.if_icmp .gt 19, 3) := by decide +kernel
theorem dX4_corner_55 : decode cX4_corner 55 = .ok (.iload 5, 2) := by decide +kernel
theorem dX4_corner_57 : decode cX4_corner 57 = .ok (.ifCond .lt 14, 3) := by decide +kernel
theorem dX4_corner_60 : decode cX4_corner 60 = .ok (.iload 5, 2) := by decide +kernel
theorem dX4_corner_62 : decode cX4_corner 62 = .ok (.ldc 34, 2) := by decide +kernel
theorem dX4_corner_64 : decode cX4_corner 64 = .ok (.if_icmp .gt 7, 3) := by decide +kernel
theorem dX4_corner_67 : decode cX4_corner 67 = .ok (.iconst 1, 1) := by decide +kernel
theorem dX4_corner_68 : decode cX4_corner 68 = .ok (.goto 4, 3) := by decide +kernel
theorem dX4_corner_71 : decode cX4_corner 71 = .ok (.iconst 0, 1) := by decide +kernel
theorem dX4_corner_72 : decode cX4_corner 72 = .ok (.istore 6, 2) := by decide +kernel
theorem dX4_corner_74 : decode cX4_corner 74 = .ok (.iload 6, 2) := by decide +kernel
theorem dX4_corner_76 : decode cX4_corner 76 = .ok (.ifCond .eq 63, 3) := by decide +kernel
theorem dX4_corner_79 : decode cX4_corner 79 = .ok (.aload_n 0, 1) := by decide +kernel
theorem dX4_corner_80 : decode cX4_corner 80 = .ok (.getfield 7, 3) := by decide +kernel
theorem dX4_corner_83 : decode cX4_corner 83 = .ok (.sipush 7168, 3) := by decide +kernel
theorem dX4_corner_86 : decode cX4_corner 86 = .ok (.iconst 4, 1) := by decide +kernel
theorem dX4_corner_87 : decode cX4_corner 87 = .ok (.iload_n 1, 1) := by decide +kernel
theorem dX4_corner_88 : decode cX4_corner 88 = .ok (.imul, 1) := by decide +kernel
theorem dX4_corner_89 : decode cX4_corner 89 = .ok (.iadd, 1) := by decide +kernel
theorem dX4_corner_90 : decode cX4_corner 90 = .ok (.iload_n 2, 1) := by decide +kernel
theorem dX4_corner_91 : decode cX4_corner 91 = .ok (.iastore, 1) := by decide +kernel
theorem dX4_corner_92 : decode cX4_corner 92 = .ok (.aload_n 0, 1) := by decide +kernel
theorem dX4_corner_93 : decode cX4_corner 93 = .ok (.getfield 7, 3) := by decide +kernel
theorem dX4_corner_96 : decode cX4_corner 96 = .ok (.sipush 7168, 3) := by decide +kernel
theorem dX4_corner_99 : decode cX4_corner 99 = .ok (.iconst 4, 1) := by decide +kernel
theorem dX4_corner_100 : decode cX4_corner 100 = .ok (.iload_n 1, 1) := by decide +kernel
theorem dX4_corner_101 : decode cX4_corner 101 = .ok (.imul, 1) := by decide +kernel
theorem dX4_corner_102 : decode cX4_corner 102 = .ok (.iadd, 1) := by decide +kernel
theorem dX4_corner_103 : decode cX4_corner 103 = .ok (.iconst 1, 1) := by decide +kernel
theorem dX4_corner_104 : decode cX4_corner 104 = .ok (.iadd, 1) := by decide +kernel
theorem dX4_corner_105 : decode cX4_corner 105 = .ok (.iload_n 3, 1) := by decide +kernel
theorem dX4_corner_106 : decode cX4_corner 106 = .ok (.iastore, 1) := by decide +kernel
theorem dX4_corner_107 : decode cX4_corner 107 = .ok (.aload_n 0, 1) := by decide +kernel
theorem dX4_corner_108 : decode cX4_corner 108 = .ok (.getfield 7, 3) := by decide +kernel
theorem dX4_corner_111 : decode cX4_corner 111 = .ok (.sipush 7168, 3) := by decide +kernel
theorem dX4_corner_114 : decode cX4_corner 114 = .ok (.iconst 4, 1) := by decide +kernel
theorem dX4_corner_115 : decode cX4_corner 115 = .ok (.iload_n 1, 1) := by decide +kernel
theorem dX4_corner_116 : decode cX4_corner 116 = .ok (.imul, 1) := by decide +kernel
theorem dX4_corner_117 : decode cX4_corner 117 = .ok (.iadd, 1) := by decide +kernel
theorem dX4_corner_118 : decode cX4_corner 118 = .ok (.iconst 2, 1) := by decide +kernel
theorem dX4_corner_119 : decode cX4_corner 119 = .ok (.iadd, 1) := by decide +kernel
theorem dX4_corner_120 : decode cX4_corner 120 = .ok (.iload 4, 2) := by decide +kernel
theorem dX4_corner_122 : decode cX4_corner 122 = .ok (.iastore, 1) := by decide +kernel
theorem dX4_corner_123 : decode cX4_corner 123 = .ok (.aload_n 0, 1) := by decide +kernel
theorem dX4_corner_124 : decode cX4_corner 124 = .ok (.getfield 7, 3) := by decide +kernel
theorem dX4_corner_127 : decode cX4_corner 127 = .ok (.sipush 7168, 3) := by decide +kernel
theorem dX4_corner_130 : decode cX4_corner 130 = .ok (.iconst 4, 1) := by decide +kernel
theorem dX4_corner_131 : decode cX4_corner 131 = .ok (.iload_n 1, 1) := by decide +kernel
theorem dX4_corner_132 : decode cX4_corner 132 = .ok (.imul, 1) := by decide +kernel
theorem dX4_corner_133 : decode cX4_corner 133 = .ok (.iadd, 1) := by decide +kernel
theorem dX4_corner_134 : decode cX4_corner 134 = .ok (.iconst 3, 1) := by decide +kernel
theorem dX4_corner_135 : decode cX4_corner 135 = .ok (.iadd, 1) := by decide +kernel
theorem dX4_corner_136 : decode cX4_corner 136 = .ok (.iload 5, 2) := by decide +kernel
theorem dX4_corner_138 : decode cX4_corner 138 = .ok (.iastore, 1) := by decide +kernel
theorem dX4_corner_139 : decode cX4_corner 139 = .ok (.iload 6, 2) := by decide +kernel
theorem dX4_corner_141 : decode cX4_corner 141 = .ok (.ireturn, 1) := by decide +kernel
theorem dX4_edge_0 : decode cX4_edge 0 = .ok (.aload_n 0, 1) := by decide +kernel
theorem dX4_edge_1 : decode cX4_edge 1 = .ok (.getfield 7, 3) := by decide +kernel
theorem dX4_edge_4 : decode cX4_edge 4 = .ok (.iload_n 2, 1) := by decide +kernel
theorem dX4_edge_5 : decode cX4_edge 5 = .ok (.iaload, 1) := by decide +kernel
theorem dX4_edge_6 : decode cX4_edge 6 = .ok (.aload_n 0, 1) := by decide +kernel
theorem dX4_edge_7 : decode cX4_edge 7 = .ok (.getfield 7, 3) := by decide +kernel
theorem dX4_edge_10 : decode cX4_edge 10 = .ok (.iload_n 1, 1) := by decide +kernel
theorem dX4_edge_11 : decode cX4_edge 11 = .ok (.iaload, 1) := by decide +kernel
theorem dX4_edge_12 : decode cX4_edge 12 = .ok (.isub, 1) := by decide +kernel
theorem dX4_edge_13 : decode cX4_edge 13 = .ok (.i2l, 1) := by decide +kernel
theorem dX4_edge_14 : decode cX4_edge 14 = .ok (.lload 5, 2) := by decide +kernel
theorem dX4_edge_16 : decode cX4_edge 16 = .ok (.aload_n 0, 1) := by decide +kernel
theorem dX4_edge_17 : decode cX4_edge 17 = .ok (.getfield 7, 3) := by decide +kernel
theorem dX4_edge_20 : decode cX4_edge 20 = .ok (.iload_n 1, 1) := by decide +kernel
theorem dX4_edge_21 : decode cX4_edge 21 = .ok (.iconst 1, 1) := by decide +kernel
theorem dX4_edge_22 : decode cX4_edge 22 = .ok (.iadd, 1) := by decide +kernel
theorem dX4_edge_23 : decode cX4_edge 23 = .ok (.iaload, 1) := by decide +kernel
theorem dX4_edge_24 : decode cX4_edge 24 = .ok (.i2l, 1) := by decide +kernel
theorem dX4_edge_25 : decode cX4_edge 25 = .ok (.lsub, 1) := by decide +kernel
theorem dX4_edge_26 : decode cX4_edge 26 = .ok (.lmul, 1) := by decide +kernel
theorem dX4_edge_27 : decode cX4_edge 27 = .ok (.aload_n 0, 1) := by decide +kernel
theorem dX4_edge_28 : decode cX4_edge 28 = .ok (.getfield 7, 3) := by decide +kernel
theorem dX4_edge_31 : decode cX4_edge 31 = .ok (.iload_n 2, 1) := by decide +kernel
theorem dX4_edge_32 : decode cX4_edge 32 = .ok (.iconst 1, 1) := by decide +kernel
theorem dX4_edge_33 : decode cX4_edge 33 = .ok (.iadd, 1) := by decide +kernel
theorem dX4_edge_34 : decode cX4_edge 34 = .ok (.iaload, 1) := by decide +kernel
theorem dX4_edge_35 : decode cX4_edge 35 = .ok (.aload_n 0, 1) := by decide +kernel
theorem dX4_edge_36 : decode cX4_edge 36 = .ok (.getfield 7, 3) := by decide +kernel
theorem dX4_edge_39 : decode cX4_edge 39 = .ok (.iload_n 1, 1) := by decide +kernel
theorem dX4_edge_40 : decode cX4_edge 40 = .ok (.iconst 1, 1) := by decide +kernel
theorem dX4_edge_41 : decode cX4_edge 41 = .ok (.iadd, 1) := by decide +kernel
theorem dX4_edge_42 : decode cX4_edge 42 = .ok (.iaload, 1) := by decide +kernel
theorem dX4_edge_43 : decode cX4_edge 43 = .ok (.isub, 1) := by decide +kernel
theorem dX4_edge_44 : decode cX4_edge 44 = .ok (.i2l, 1) := by decide +kernel
theorem dX4_edge_45 : decode cX4_edge 45 = .ok (.lload_n 3, 1) := by decide +kernel
theorem dX4_edge_46 : decode cX4_edge 46 = .ok (.aload_n 0, 1) := by decide +kernel
theorem dX4_edge_47 : decode cX4_edge 47 = .ok (.getfield 7, 3) := by decide +kernel
theorem dX4_edge_50 : decode cX4_edge 50 = .ok (.iload_n 1, 1) := by decide +kernel
theorem dX4_edge_51 : decode cX4_edge 51 = .ok (.iaload, 1) := by decide +kernel
theorem dX4_edge_52 : decode cX4_edge 52 = .ok (.i2l, 1) := by decide +kernel
theorem dX4_edge_53 : decode cX4_edge 53 = .ok (.lsub, 1) := by decide +kernel
theorem dX4_edge_54 : decode cX4_edge 54 = .ok (.lmul, 1) := by decide +kernel
theorem dX4_edge_55 : decode cX4_edge 55 = .ok (.lsub, 1) := by decide +kernel
theorem dX4_edge_56 : decode cX4_edge 56 = .ok (.lreturn, 1) := by decide +kernel
theorem dX4_area_0 : decode cX4_area 0 = .ok (.aload_n 0, 1) := by decide +kernel
theorem dX4_area_1 : decode cX4_area 1 = .ok (.iload_n 1, 1) := by decide +kernel
theorem dX4_area_2 : decode cX4_area 2 = .ok (.iload_n 1, 1) := by decide +kernel
theorem dX4_area_3 : decode cX4_area 3 = .ok (.iconst 4, 1) := by decide +kernel
theorem dX4_area_4 : decode cX4_area 4 = .ok (.iadd, 1) := by decide +kernel
theorem dX4_area_5 : decode cX4_area 5 = .ok (.aload_n 0, 1) := by decide +kernel
theorem dX4_area_6 : decode cX4_area 6 = .ok (.getfield 7, 3) := by decide +kernel
theorem dX4_area_9 : decode cX4_area 9 = .ok (.iload_n 1, 1) := by decide +kernel
theorem dX4_area_10 : decode cX4_area 10 = .ok (.bipush 8, 2) := by decide +kernel
theorem dX4_area_12 : decode cX4_area 12 = .ok (.iadd, 1) := by decide +kernel
theorem dX4_area_13 : decode cX4_area 13 = .ok (.iaload, 1) := by decide +kernel
theorem dX4_area_14 : decode cX4_area 14 = .ok (.i2l, 1) := by decide +kernel
theorem dX4_area_15 : decode cX4_area 15 = .ok (.aload_n 0, 1) := by decide +kernel
theorem dX4_area_16 : decode cX4_area 16 = .ok (.getfield 7, 3) := by decide +kernel
theorem dX4_area_19 : decode cX4_area 19 = .ok (.iload_n 1, 1) := by decide +kernel
theorem dX4_area_20 : decode cX4_area 20 = .ok (.bipush 9, 2) := by decide +kernel
theorem dX4_area_22 : decode cX4_area 22 = .ok (.iadd, 1) := by decide +kernel
theorem dX4_area_23 : decode cX4_area 23 = .ok (.iaload, 1) := by decide +kernel
theorem dX4_area_24 : decode cX4_area 24 = .ok (.i2l, 1) := by decide +kernel
theorem dX4_area_25 : decode cX4_area 25 = .ok (.invokevirtual 35, 3) := by decide +kernel
theorem dX4_area_28 : decode cX4_area 28 = .ok (.lreturn, 1) := by decide +kernel
theorem dX4_isColour_0 : decode cX4_isColour 0 = .ok (.iload_n 0, 1) := by decide +kernel
theorem dX4_isColour_1 : decode cX4_isColour 1 = .ok (.ifCond .lt 13, 3) := by decide +kernel
theorem dX4_isColour_4 : decode cX4_isColour 4 = .ok (.iload_n 0, 1) := by decide +kernel
theorem dX4_isColour_5 : decode cX4_isColour 5 = .ok (.ldc 39, 2) := by decide +kernel
theorem dX4_isColour_7 : decode cX4_isColour 7 = .ok (.if_icmp .ge 7, 3) := by decide +kernel
theorem dX4_isColour_10 : decode cX4_isColour 10 = .ok (.iconst 1, 1) := by decide +kernel
theorem dX4_isColour_11 : decode cX4_isColour 11 = .ok (.goto 4, 3) := by decide +kernel
theorem dX4_isColour_14 : decode cX4_isColour 14 = .ok (.iconst 0, 1) := by decide +kernel
theorem dX4_isColour_15 : decode cX4_isColour 15 = .ok (.ireturn, 1) := by decide +kernel
theorem dX4_add_0 : decode cX4_add 0 = .ok (.aload_n 0, 1) := by decide +kernel
theorem dX4_add_1 : decode cX4_add 1 = .ok (.iconst 0, 1) := by decide +kernel
theorem dX4_add_2 : decode cX4_add 2 = .ok (.putfield 30, 3) := by decide +kernel
theorem dX4_add_5 : decode cX4_add 5 = .ok (.aload_n 0, 1) := by decide +kernel
theorem dX4_add_6 : decode cX4_add 6 = .ok (.getfield 40, 3) := by decide +kernel
theorem dX4_add_9 : decode cX4_add 9 = .ok (.sipush 512, 3) := by decide +kernel
theorem dX4_add_12 : decode cX4_add 12 = .ok (.if_icmp .eq 33, 3) := by decide +kernel
theorem dX4_add_15 : decode cX4_add 15 = .ok (.aload_n 0, 1) := by decide +kernel
theorem dX4_add_16 : decode cX4_add 16 = .ok (.sipush 7168, 3) := by decide +kernel
theorem dX4_add_19 : decode cX4_add 19 = .ok (.invokevirtual 43, 3) := by decide +kernel
theorem dX4_add_22 : decode cX4_add 22 = .ok (.lconst 0, 1) := by decide +kernel
theorem dX4_add_23 : decode cX4_add 23 = .ok (.lcmp, 1) := by decide +kernel
theorem dX4_add_24 : decode cX4_add 24 = .ok (.ifCond .le 21, 3) := by decide +kernel
theorem dX4_add_27 : decode cX4_add 27 = .ok (.iload_n 1, 1) := by decide +kernel
theorem dX4_add_28 : decode cX4_add 28 = .ok (.invokestatic 47, 3) := by decide +kernel
theorem dX4_add_31 : decode cX4_add 31 = .ok (.ifCond .eq 14, 3) := by decide +kernel
theorem dX4_add_34 : decode cX4_add 34 = .ok (.iload_n 2, 1) := by decide +kernel
theorem dX4_add_35 : decode cX4_add 35 = .ok (.ifCond .lt 10, 3) := by decide +kernel
theorem dX4_add_38 : decode cX4_add 38 = .ok (.iload_n 2, 1) := by decide +kernel
theorem dX4_add_39 : decode cX4_add 39 = .ok (.sipush 255, 3) := by decide +kernel
theorem dX4_add_42 : decode cX4_add 42 = .ok (.if_icmp .le 5, 3) := by decide +kernel
theorem dX4_add_45 : decode cX4_add 45 = .ok (.iconst (-1), 1) := by decide +kernel
theorem dX4_add_46 : decode cX4_add 46 = .ok (.ireturn, 1) := by decide +kernel
theorem dX4_add_47 : decode cX4_add 47 = .ok (.iconst 0, 1) := by decide +kernel
theorem dX4_add_48 : decode cX4_add 48 = .ok (.istore_n 3, 1) := by decide +kernel
theorem dX4_add_49 : decode cX4_add 49 = .ok (.iload_n 3, 1) := by decide +kernel
theorem dX4_add_50 : decode cX4_add 50 = .ok (.bipush 12, 2) := by decide +kernel
theorem dX4_add_52 : decode cX4_add 52 = .ok (.if_icmp .ge 33, 3) := by decide +kernel
theorem dX4_add_55 : decode cX4_add 55 = .ok (.aload_n 0, 1) := by decide +kernel
theorem dX4_add_56 : decode cX4_add 56 = .ok (.getfield 7, 3) := by decide +kernel
theorem dX4_add_59 : decode cX4_add 59 = .ok (.bipush 14, 2) := by decide +kernel
theorem dX4_add_61 : decode cX4_add 61 = .ok (.aload_n 0, 1) := by decide +kernel
theorem dX4_add_62 : decode cX4_add 62 = .ok (.getfield 40, 3) := by decide +kernel
theorem dX4_add_65 : decode cX4_add 65 = .ok (.imul, 1) := by decide +kernel
theorem dX4_add_66 : decode cX4_add 66 = .ok (.iload_n 3, 1) := by decide +kernel
theorem dX4_add_67 : decode cX4_add 67 = .ok (.iadd, 1) := by decide +kernel
theorem dX4_add_68 : decode cX4_add 68 = .ok (.aload_n 0, 1) := by decide +kernel
theorem dX4_add_69 : decode cX4_add 69 = .ok (.getfield 7, 3) := by decide +kernel
theorem dX4_add_72 : decode cX4_add 72 = .ok (.sipush 7168, 3) := by decide +kernel
theorem dX4_add_75 : decode cX4_add 75 = .ok (.iload_n 3, 1) := by decide +kernel
theorem dX4_add_76 : decode cX4_add 76 = .ok (.iadd, 1) := by decide +kernel
theorem dX4_add_77 : decode cX4_add 77 = .ok (.iaload, 1) := by decide +kernel
theorem dX4_add_78 : decode cX4_add 78 = .ok (.iastore, 1) := by decide +kernel
theorem dX4_add_79 : decode cX4_add 79 = .ok (.iinc 3 1, 3) := by decide +kernel
theorem dX4_add_82 : decode cX4_add 82 = .ok (.goto (-33), 3) := by decide +kernel
theorem dX4_add_85 : decode cX4_add 85 = .ok (.aload_n 0, 1) := by decide +kernel
theorem dX4_add_86 : decode cX4_add 86 = .ok (.getfield 7, 3) := by decide +kernel
theorem dX4_add_89 : decode cX4_add 89 = .ok (.bipush 14, 2) := by decide +kernel
theorem dX4_add_91 : decode cX4_add 91 = .ok (.aload_n 0, 1) := by decide +kernel
theorem dX4_add_92 : decode cX4_add 92 = .ok (.getfield 40, 3) := by decide +kernel
theorem dX4_add_95 : decode cX4_add 95 = .ok (.imul, 1) := by decide +kernel
theorem dX4_add_96 : decode cX4_add 96 = .ok (.bipush 12, 2) := by decide +kernel
theorem dX4_add_98 : decode cX4_add 98 = .ok (.iadd, 1) := by decide +kernel
theorem dX4_add_99 : decode cX4_add 99 = .ok (.iload_n 1, 1) := by decide +kernel
theorem dX4_add_100 : decode cX4_add 100 = .ok (.iastore, 1) := by decide +kernel
theorem dX4_add_101 : decode cX4_add 101 = .ok (.aload_n 0, 1) := by decide +kernel
theorem dX4_add_102 : decode cX4_add 102 = .ok (.getfield 7, 3) := by decide +kernel
theorem dX4_add_105 : decode cX4_add 105 = .ok (.bipush 14, 2) := by decide +kernel
theorem dX4_add_107 : decode cX4_add 107 = .ok (.aload_n 0, 1) := by decide +kernel
theorem dX4_add_108 : decode cX4_add 108 = .ok (.getfield 40, 3) := by decide +kernel
theorem dX4_add_111 : decode cX4_add 111 = .ok (.imul, 1) := by decide +kernel
theorem dX4_add_112 : decode cX4_add 112 = .ok (.bipush 13, 2) := by decide +kernel
theorem dX4_add_114 : decode cX4_add 114 = .ok (.iadd, 1) := by decide +kernel
theorem dX4_add_115 : decode cX4_add 115 = .ok (.iload_n 2, 1) := by decide +kernel
theorem dX4_add_116 : decode cX4_add 116 = .ok (.iastore, 1) := by decide +kernel
theorem dX4_add_117 : decode cX4_add 117 = .ok (.aload_n 0, 1) := by decide +kernel
theorem dX4_add_118 : decode cX4_add 118 = .ok (.dup, 1) := by decide +kernel
theorem dX4_add_119 : decode cX4_add 119 = .ok (.getfield 40, 3) := by decide +kernel
theorem dX4_add_122 : decode cX4_add 122 = .ok (.iconst 1, 1) := by decide +kernel
theorem dX4_add_123 : decode cX4_add 123 = .ok (.iadd, 1) := by decide +kernel
theorem dX4_add_124 : decode cX4_add 124 = .ok (.putfield 40, 3) := by decide +kernel
theorem dX4_add_127 : decode cX4_add 127 = .ok (.aload_n 0, 1) := by decide +kernel
theorem dX4_add_128 : decode cX4_add 128 = .ok (.getfield 40, 3) := by decide +kernel
theorem dX4_add_131 : decode cX4_add 131 = .ok (.iconst 1, 1) := by decide +kernel
theorem dX4_add_132 : decode cX4_add 132 = .ok (.isub, 1) := by decide +kernel
theorem dX4_add_133 : decode cX4_add 133 = .ok (.ireturn, 1) := by decide +kernel
theorem dX4_clear_0 : decode cX4_clear 0 = .ok (.aload_n 0, 1) := by decide +kernel
theorem dX4_clear_1 : decode cX4_clear 1 = .ok (.iconst 0, 1) := by decide +kernel
theorem dX4_clear_2 : decode cX4_clear 2 = .ok (.putfield 30, 3) := by decide +kernel
theorem dX4_clear_5 : decode cX4_clear 5 = .ok (.aload_n 0, 1) := by decide +kernel
theorem dX4_clear_6 : decode cX4_clear 6 = .ok (.iconst 0, 1) := by decide +kernel
theorem dX4_clear_7 : decode cX4_clear 7 = .ok (.putfield 40, 3) := by decide +kernel
theorem dX4_clear_10 : decode cX4_clear 10 = .ok (.return_, 1) := by decide +kernel
theorem dX4_background_0 : decode cX4_background 0 = .ok (.aload_n 0, 1) := by decide +kernel
theorem dX4_background_1 : decode cX4_background 1 = .ok (.iconst 0, 1) := by decide +kernel
theorem dX4_background_2 : decode cX4_background 2 = .ok (.putfield 30, 3) := by decide +kernel
theorem dX4_background_5 : decode cX4_background 5 = .ok (.aload_n 0, 1) := by decide +kernel
theorem dX4_background_6 : decode cX4_background 6 = .ok (.iload_n 1, 1) := by decide +kernel
theorem dX4_background_7 : decode cX4_background 7 = .ok (.invokestatic 47, 3) := by decide +kernel
theorem dX4_background_10 : decode cX4_background 10 = .ok (.ifCond .eq 7, 3) := by decide +kernel
theorem dX4_background_13 : decode cX4_background 13 = .ok (.iload_n 1, 1) := by decide +kernel
theorem dX4_background_14 : decode cX4_background 14 = .ok (.goto 7, 3) := by decide +kernel
theorem dX4_background_17 : decode cX4_background 17 = .ok (.aload_n 0, 1) := by decide +kernel
theorem dX4_background_18 : decode cX4_background 18 = .ok (.getfield 51, 3) := by decide +kernel
theorem dX4_background_21 : decode cX4_background 21 = .ok (.putfield 51, 3) := by decide +kernel
theorem dX4_background_24 : decode cX4_background 24 = .ok (.iload_n 1, 1) := by decide +kernel
theorem dX4_background_25 : decode cX4_background 25 = .ok (.invokestatic 47, 3) := by decide +kernel
theorem dX4_background_28 : decode cX4_background 28 = .ok (.ireturn, 1) := by decide +kernel
theorem dX4_holds_0 : decode cX4_holds 0 = .ok (.aload_n 0, 1) := by decide +kernel
theorem dX4_holds_1 : decode cX4_holds 1 = .ok (.iload_n 1, 1) := by decide +kernel
theorem dX4_holds_2 : decode cX4_holds 2 = .ok (.iload_n 2, 1) := by decide +kernel
theorem dX4_holds_3 : decode cX4_holds 3 = .ok (.lload_n 3, 1) := by decide +kernel
theorem dX4_holds_4 : decode cX4_holds 4 = .ok (.lload 5, 2) := by decide +kernel
theorem dX4_holds_6 : decode cX4_holds 6 = .ok (.invokevirtual 35, 3) := by decide +kernel
theorem dX4_holds_9 : decode cX4_holds 9 = .ok (.lstore 7, 2) := by decide +kernel
theorem dX4_holds_11 : decode cX4_holds 11 = .ok (.aload_n 0, 1) := by decide +kernel
theorem dX4_holds_12 : decode cX4_holds 12 = .ok (.getfield 7, 3) := by decide +kernel
theorem dX4_holds_15 : decode cX4_holds 15 = .ok (.iload_n 2, 1) := by decide +kernel
theorem dX4_holds_16 : decode cX4_holds 16 = .ok (.iconst 1, 1) := by decide +kernel
theorem dX4_holds_17 : decode cX4_holds 17 = .ok (.iadd, 1) := by decide +kernel
theorem dX4_holds_18 : decode cX4_holds 18 = .ok (.iaload, 1) := by decide +kernel
theorem dX4_holds_19 : decode cX4_holds 19 = .ok (.aload_n 0, 1) := by decide +kernel
theorem dX4_holds_20 : decode cX4_holds 20 = .ok (.getfield 7, 3) := by decide +kernel
theorem dX4_holds_23 : decode cX4_holds 23 = .ok (.iload_n 1, 1) := by decide +kernel
theorem dX4_holds_24 : decode cX4_holds 24 = .ok (.iconst 1, 1) := by decide +kernel
theorem dX4_holds_25 : decode cX4_holds 25 = .ok (.iadd, 1) := by decide +kernel
theorem dX4_holds_26 : decode cX4_holds 26 = .ok (.iaload, 1) := by decide +kernel
theorem dX4_holds_27 : decode cX4_holds 27 = .ok (.if_icmp .lt 37, 3) := by decide +kernel
theorem dX4_holds_30 : decode cX4_holds 30 = .ok (.aload_n 0, 1) := by decide +kernel
theorem dX4_holds_31 : decode cX4_holds 31 = .ok (.getfield 7, 3) := by decide +kernel
theorem dX4_holds_34 : decode cX4_holds 34 = .ok (.iload_n 2, 1) := by decide +kernel
theorem dX4_holds_35 : decode cX4_holds 35 = .ok (.iconst 1, 1) := by decide +kernel
theorem dX4_holds_36 : decode cX4_holds 36 = .ok (.iadd, 1) := by decide +kernel
theorem dX4_holds_37 : decode cX4_holds 37 = .ok (.iaload, 1) := by decide +kernel
theorem dX4_holds_38 : decode cX4_holds 38 = .ok (.aload_n 0, 1) := by decide +kernel
theorem dX4_holds_39 : decode cX4_holds 39 = .ok (.getfield 7, 3) := by decide +kernel
theorem dX4_holds_42 : decode cX4_holds 42 = .ok (.iload_n 1, 1) := by decide +kernel
theorem dX4_holds_43 : decode cX4_holds 43 = .ok (.iconst 1, 1) := by decide +kernel
theorem dX4_holds_44 : decode cX4_holds 44 = .ok (.iadd, 1) := by decide +kernel
theorem dX4_holds_45 : decode cX4_holds 45 = .ok (.iaload, 1) := by decide +kernel
theorem dX4_holds_46 : decode cX4_holds 46 = .ok (.if_icmp .ne 22, 3) := by decide +kernel
theorem dX4_holds_49 : decode cX4_holds 49 = .ok (.aload_n 0, 1) := by decide +kernel
theorem dX4_holds_50 : decode cX4_holds 50 = .ok (.getfield 7, 3) := by decide +kernel
theorem dX4_holds_53 : decode cX4_holds 53 = .ok (.iload_n 2, 1) := by decide +kernel
theorem dX4_holds_54 : decode cX4_holds 54 = .ok (.iaload, 1) := by decide +kernel
theorem dX4_holds_55 : decode cX4_holds 55 = .ok (.aload_n 0, 1) := by decide +kernel
theorem dX4_holds_56 : decode cX4_holds 56 = .ok (.getfield 7, 3) := by decide +kernel
theorem dX4_holds_59 : decode cX4_holds 59 = .ok (.iload_n 1, 1) := by decide +kernel
theorem dX4_holds_60 : decode cX4_holds 60 = .ok (.iaload, 1) := by decide +kernel
theorem dX4_holds_61 : decode cX4_holds 61 = .ok (.if_icmp .le 7, 3) := by decide +kernel
theorem dX4_holds_64 : decode cX4_holds 64 = .ok (.iconst 1, 1) := by decide +kernel
theorem dX4_holds_65 : decode cX4_holds 65 = .ok (.goto 4, 3) := by decide +kernel
theorem dX4_holds_68 : decode cX4_holds 68 = .ok (.iconst 0, 1) := by decide +kernel
theorem dX4_holds_69 : decode cX4_holds 69 = .ok (.istore 9, 2) := by decide +kernel
theorem dX4_holds_71 : decode cX4_holds 71 = .ok (.lload 7, 2) := by decide +kernel
theorem dX4_holds_73 : decode cX4_holds 73 = .ok (.lconst 0, 1) := by decide +kernel
theorem dX4_holds_74 : decode cX4_holds 74 = .ok (.lcmp, 1) := by decide +kernel
theorem dX4_holds_75 : decode cX4_holds 75 = .ok (.ifCond .gt 15, 3) := by decide +kernel
theorem dX4_holds_78 : decode cX4_holds 78 = .ok (.lload 7, 2) := by decide +kernel
theorem dX4_holds_80 : decode cX4_holds 80 = .ok (.lconst 0, 1) := by decide +kernel
theorem dX4_holds_81 : decode cX4_holds 81 = .ok (.lcmp, 1) := by decide +kernel
theorem dX4_holds_82 : decode cX4_holds 82 = .ok (.ifCond .ne 12, 3) := by decide +kernel
theorem dX4_holds_85 : decode cX4_holds 85 = .ok (.iload 9, 2) := by decide +kernel
theorem dX4_holds_87 : decode cX4_holds 87 = .ok (.ifCond .eq 7, 3) := by decide +kernel
theorem dX4_holds_90 : decode cX4_holds 90 = .ok (.iconst 1, 1) := by decide +kernel
theorem dX4_holds_91 : decode cX4_holds 91 = .ok (.goto 4, 3) := by decide +kernel
theorem dX4_holds_94 : decode cX4_holds 94 = .ok (.iconst 0, 1) := by decide +kernel
theorem dX4_holds_95 : decode cX4_holds 95 = .ok (.ireturn, 1) := by decide +kernel
theorem dX4_part_0 : decode cX4_part 0 = .ok (.iload_n 1, 1) := by decide +kernel
theorem dX4_part_1 : decode cX4_part 1 = .ok (.ifCond .ne 10, 3) := by decide +kernel
theorem dX4_part_4 : decode cX4_part 4 = .ok (.iload_n 0, 1) := by decide +kernel
theorem dX4_part_5 : decode cX4_part 5 = .ok (.ldc 34, 2) := by decide +kernel
theorem dX4_part_7 : decode cX4_part 7 = .ok (.idiv, 1) := by decide +kernel
theorem dX4_part_8 : decode cX4_part 8 = .ok (.goto 25, 3) := by decide +kernel
theorem dX4_part_11 : decode cX4_part 11 = .ok (.iload_n 1, 1) := by decide +kernel
theorem dX4_part_12 : decode cX4_part 12 = .ok (.iconst 1, 1) := by decide +kernel
theorem dX4_part_13 : decode cX4_part 13 = .ok (.if_icmp .ne 15, 3) := by decide +kernel
theorem dX4_part_16 : decode cX4_part 16 = .ok (.iload_n 0, 1) := by decide +kernel
theorem dX4_part_17 : decode cX4_part 17 = .ok (.sipush 256, 3) := by decide +kernel
theorem dX4_part_20 : decode cX4_part 20 = .ok (.idiv, 1) := by decide +kernel
theorem dX4_part_21 : decode cX4_part 21 = .ok (.sipush 256, 3) := by decide +kernel
theorem dX4_part_24 : decode cX4_part 24 = .ok (.irem, 1) := by decide +kernel
theorem dX4_part_25 : decode cX4_part 25 = .ok (.goto 8, 3) := by decide +kernel
theorem dX4_part_28 : decode cX4_part 28 = .ok (.iload_n 0, 1) := by decide +kernel
theorem dX4_part_29 : decode cX4_part 29 = .ok (.sipush 256, 3) := by decide +kernel
theorem dX4_part_32 : decode cX4_part 32 = .ok (.irem, 1) := by decide +kernel
theorem dX4_part_33 : decode cX4_part 33 = .ok (.ireturn, 1) := by decide +kernel
theorem dX4_over_0 : decode cX4_over 0 = .ok (.iconst 0, 1) := by decide +kernel
theorem dX4_over_1 : decode cX4_over 1 = .ok (.istore 5, 2) := by decide +kernel
theorem dX4_over_3 : decode cX4_over 3 = .ok (.iconst 0, 1) := by decide +kernel
theorem dX4_over_4 : decode cX4_over 4 = .ok (.istore 6, 2) := by decide +kernel
theorem dX4_over_6 : decode cX4_over 6 = .ok (.iload 6, 2) := by decide +kernel
theorem dX4_over_8 : decode cX4_over 8 = .ok (.iconst 3, 1) := by decide +kernel
theorem dX4_over_9 : decode cX4_over 9 = .ok (.if_icmp .ge 72, 3) := by decide +kernel
theorem dX4_over_12 : decode cX4_over 12 = .ok (.iload_n 0, 1) := by decide +kernel
theorem dX4_over_13 : decode cX4_over 13 = .ok (.iload 6, 2) := by decide +kernel
theorem dX4_over_15 : decode cX4_over 15 = .ok (.invokestatic 54, 3) := by decide +kernel
theorem dX4_over_18 : decode cX4_over 18 = .ok (.i2l, 1) := by decide +kernel
theorem dX4_over_19 : decode cX4_over 19 = .ok (.lload_n 1, 1) := by decide +kernel
theorem dX4_over_20 : decode cX4_over 20 = .ok (.lmul, 1) := by decide +kernel
theorem dX4_over_21 : decode cX4_over 21 = .ok (.ldc2_w 58, 3) := by decide +kernel
theorem dX4_over_24 : decode cX4_over 24 = .ok (.ldiv, 1) := by decide +kernel
theorem dX4_over_25 : decode cX4_over 25 = .ok (.l2i, 1) := by decide +kernel
theorem dX4_over_26 : decode cX4_over 26 = .ok (.istore 7, 2) := by decide +kernel
theorem dX4_over_28 : decode cX4_over 28 = .ok (.iload_n 3, 1) := by decide +kernel
theorem dX4_over_29 : decode cX4_over 29 = .ok (.sipush 255, 3) := by decide +kernel
theorem dX4_over_32 : decode cX4_over 32 = .ok (.if_icmp .ne 8, 3) := by decide +kernel
theorem dX4_over_35 : decode cX4_over 35 = .ok (.iload 7, 2) := by decide +kernel
theorem dX4_over_37 : decode cX4_over 37 = .ok (.goto 25, 3) := by decide +kernel
theorem dX4_over_40 : decode cX4_over 40 = .ok (.iload 7, 2) := by decide +kernel
theorem dX4_over_42 : decode cX4_over 42 = .ok (.iload_n 3, 1) := by decide +kernel
theorem dX4_over_43 : decode cX4_over 43 = .ok (.imul, 1) := by decide +kernel
theorem dX4_over_44 : decode cX4_over 44 = .ok (.iload 4, 2) := by decide +kernel
theorem dX4_over_46 : decode cX4_over 46 = .ok (.iload 6, 2) := by decide +kernel
theorem dX4_over_48 : decode cX4_over 48 = .ok (.invokestatic 54, 3) := by decide +kernel
theorem dX4_over_51 : decode cX4_over 51 = .ok (.sipush 255, 3) := by decide +kernel
theorem dX4_over_54 : decode cX4_over 54 = .ok (.iload_n 3, 1) := by decide +kernel
theorem dX4_over_55 : decode cX4_over 55 = .ok (.isub, 1) := by decide +kernel
theorem dX4_over_56 : decode cX4_over 56 = .ok (.imul, 1) := by decide +kernel
theorem dX4_over_57 : decode cX4_over 57 = .ok (.iadd, 1) := by decide +kernel
theorem dX4_over_58 : decode cX4_over 58 = .ok (.sipush 255, 3) := by decide +kernel
theorem dX4_over_61 : decode cX4_over 61 = .ok (.idiv, 1) := by decide +kernel
theorem dX4_over_62 : decode cX4_over 62 = .ok (.istore 8, 2) := by decide +kernel
theorem dX4_over_64 : decode cX4_over 64 = .ok (.iload 5, 2) := by decide +kernel
theorem dX4_over_66 : decode cX4_over 66 = .ok (.sipush 256, 3) := by decide +kernel
theorem dX4_over_69 : decode cX4_over 69 = .ok (.imul, 1) := by decide +kernel
theorem dX4_over_70 : decode cX4_over 70 = .ok (.iload 8, 2) := by decide +kernel
theorem dX4_over_72 : decode cX4_over 72 = .ok (.iadd, 1) := by decide +kernel
theorem dX4_over_73 : decode cX4_over 73 = .ok (.istore 5, 2) := by decide +kernel
theorem dX4_over_75 : decode cX4_over 75 = .ok (.iinc 6 1, 3) := by decide +kernel
theorem dX4_over_78 : decode cX4_over 78 = .ok (.goto (-72), 3) := by decide +kernel
theorem dX4_over_81 : decode cX4_over 81 = .ok (.iload 5, 2) := by decide +kernel
theorem dX4_over_83 : decode cX4_over 83 = .ok (.ireturn, 1) := by decide +kernel
theorem dX4_draw_0 : decode cX4_draw 0 = .ok (.ldc2_w 60, 3) := by decide +kernel
theorem dX4_draw_3 : decode cX4_draw 3 = .ok (.iload_n 2, 1) := by decide +kernel
theorem dX4_draw_4 : decode cX4_draw 4 = .ok (.i2l, 1) := by decide +kernel
theorem dX4_draw_5 : decode cX4_draw 5 = .ok (.lmul, 1) := by decide +kernel
theorem dX4_draw_6 : decode cX4_draw 6 = .ok (.ldc2_w 62, 3) := by decide +kernel
theorem dX4_draw_9 : decode cX4_draw 9 = .ok (.ladd, 1) := by decide +kernel
theorem dX4_draw_10 : decode cX4_draw 10 = .ok (.lstore 5, 2) := by decide +kernel
theorem dX4_draw_12 : decode cX4_draw 12 = .ok (.ldc2_w 60, 3) := by decide +kernel
theorem dX4_draw_15 : decode cX4_draw 15 = .ok (.iload_n 3, 1) := by decide +kernel
theorem dX4_draw_16 : decode cX4_draw 16 = .ok (.i2l, 1) := by decide +kernel
theorem dX4_draw_17 : decode cX4_draw 17 = .ok (.lmul, 1) := by decide +kernel
theorem dX4_draw_18 : decode cX4_draw 18 = .ok (.ldc2_w 62, 3) := by decide +kernel
theorem dX4_draw_21 : decode cX4_draw 21 = .ok (.ladd, 1) := by decide +kernel
theorem dX4_draw_22 : decode cX4_draw 22 = .ok (.lstore 7, 2) := by decide +kernel
theorem dX4_draw_24 : decode cX4_draw 24 = .ok (.aload_n 0, 1) := by decide +kernel
theorem dX4_draw_25 : decode cX4_draw 25 = .ok (.iload_n 1, 1) := by decide +kernel
theorem dX4_draw_26 : decode cX4_draw 26 = .ok (.iconst 4, 1) := by decide +kernel
theorem dX4_draw_27 : decode cX4_draw 27 = .ok (.iadd, 1) := by decide +kernel
theorem dX4_draw_28 : decode cX4_draw 28 = .ok (.iload_n 1, 1) := by decide +kernel
theorem dX4_draw_29 : decode cX4_draw 29 = .ok (.bipush 8, 2) := by decide +kernel
theorem dX4_draw_31 : decode cX4_draw 31 = .ok (.iadd, 1) := by decide +kernel
theorem dX4_draw_32 : decode cX4_draw 32 = .ok (.lload 5, 2) := by decide +kernel
theorem dX4_draw_34 : decode cX4_draw 34 = .ok (.lload 7, 2) := by decide +kernel
theorem dX4_draw_36 : decode cX4_draw 36 = .ok (.invokevirtual 64, 3) := by decide +kernel
theorem dX4_draw_39 : decode cX4_draw 39 = .ok (.ifCond .eq 34, 3) := by decide +kernel
theorem dX4_draw_42 : decode cX4_draw 42 = .ok (.aload_n 0, 1) := by decide +kernel
theorem dX4_draw_43 : decode cX4_draw 43 = .ok (.iload_n 1, 1) := by decide +kernel
theorem dX4_draw_44 : decode cX4_draw 44 = .ok (.bipush 8, 2) := by decide +kernel
theorem dX4_draw_46 : decode cX4_draw 46 = .ok (.iadd, 1) := by decide +kernel
theorem dX4_draw_47 : decode cX4_draw 47 = .ok (.iload_n 1, 1) := by decide +kernel
theorem dX4_draw_48 : decode cX4_draw 48 = .ok (.lload 5, 2) := by decide +kernel
theorem dX4_draw_50 : decode cX4_draw 50 = .ok (.lload 7, 2) := by decide +kernel
theorem dX4_draw_52 : decode cX4_draw 52 = .ok (.invokevirtual 64, 3) := by decide +kernel
theorem dX4_draw_55 : decode cX4_draw 55 = .ok (.ifCond .eq 18, 3) := by decide +kernel
theorem dX4_draw_58 : decode cX4_draw 58 = .ok (.aload_n 0, 1) := by decide +kernel
theorem dX4_draw_59 : decode cX4_draw 59 = .ok (.iload_n 1, 1) := by decide +kernel
theorem dX4_draw_60 : decode cX4_draw 60 = .ok (.iload_n 1, 1) := by decide +kernel
theorem dX4_draw_61 : decode cX4_draw 61 = .ok (.iconst 4, 1) := by decide +kernel
theorem dX4_draw_62 : decode cX4_draw 62 = .ok (.iadd, 1) := by decide +kernel
theorem dX4_draw_63 : decode cX4_draw 63 = .ok (.lload 5, 2) := by decide +kernel
theorem dX4_draw_65 : decode cX4_draw 65 = .ok (.lload 7, 2) := by decide +kernel
theorem dX4_draw_67 : decode cX4_draw 67 = .ok (.invokevirtual 64, 3) := by decide +kernel
theorem dX4_draw_70 : decode cX4_draw 70 = .ok (.ifCond .ne 4, 3) := by decide +kernel
theorem dX4_draw_73 : decode cX4_draw 73 = .ok (.return_, 1) := by decide +kernel
theorem dX4_draw_74 : decode cX4_draw 74 = .ok (.aload_n 0, 1) := by decide +kernel
theorem dX4_draw_75 : decode cX4_draw 75 = .ok (.iload_n 1, 1) := by decide +kernel
theorem dX4_draw_76 : decode cX4_draw 76 = .ok (.iconst 4, 1) := by decide +kernel
theorem dX4_draw_77 : decode cX4_draw 77 = .ok (.iadd, 1) := by decide +kernel
theorem dX4_draw_78 : decode cX4_draw 78 = .ok (.iload_n 1, 1) := by decide +kernel
theorem dX4_draw_79 : decode cX4_draw 79 = .ok (.bipush 8, 2) := by decide +kernel
theorem dX4_draw_81 : decode cX4_draw 81 = .ok (.iadd, 1) := by decide +kernel
theorem dX4_draw_82 : decode cX4_draw 82 = .ok (.lload 5, 2) := by decide +kernel
theorem dX4_draw_84 : decode cX4_draw 84 = .ok (.lload 7, 2) := by decide +kernel
theorem dX4_draw_86 : decode cX4_draw 86 = .ok (.invokevirtual 35, 3) := by decide +kernel
theorem dX4_draw_89 : decode cX4_draw 89 = .ok (.aload_n 0, 1) := by decide +kernel
theorem dX4_draw_90 : decode cX4_draw 90 = .ok (.getfield 7, 3) := by decide +kernel
theorem dX4_draw_93 : decode cX4_draw 93 = .ok (.iload_n 1, 1) := by decide +kernel
theorem dX4_draw_94 : decode cX4_draw 94 = .ok (.iconst 2, 1) := by decide +kernel
theorem dX4_draw_95 : decode cX4_draw 95 = .ok (.iadd, 1) := by decide +kernel
theorem dX4_draw_96 : decode cX4_draw 96 = .ok (.iaload, 1) := by decide +kernel
theorem dX4_draw_97 : decode cX4_draw 97 = .ok (.i2l, 1) := by decide +kernel
theorem dX4_draw_98 : decode cX4_draw 98 = .ok (.lmul, 1) := by decide +kernel
theorem dX4_draw_99 : decode cX4_draw 99 = .ok (.lstore 9, 2) := by decide +kernel
theorem dX4_draw_101 : decode cX4_draw 101 = .ok (.aload_n 0, 1) := by decide +kernel
theorem dX4_draw_102 : decode cX4_draw 102 = .ok (.iload_n 1, 1) := by decide +kernel
theorem dX4_draw_103 : decode cX4_draw 103 = .ok (.bipush 8, 2) := by decide +kernel
theorem dX4_draw_105 : decode cX4_draw 105 = .ok (.iadd, 1) := by decide +kernel
theorem dX4_draw_106 : decode cX4_draw 106 = .ok (.iload_n 1, 1) := by decide +kernel
theorem dX4_draw_107 : decode cX4_draw 107 = .ok (.lload 5, 2) := by decide +kernel
theorem dX4_draw_109 : decode cX4_draw 109 = .ok (.lload 7, 2) := by decide +kernel
theorem dX4_draw_111 : decode cX4_draw 111 = .ok (.invokevirtual 35, 3) := by decide +kernel
theorem dX4_draw_114 : decode cX4_draw 114 = .ok (.aload_n 0, 1) := by decide +kernel
theorem dX4_draw_115 : decode cX4_draw 115 = .ok (.getfield 7, 3) := by decide +kernel
theorem dX4_draw_118 : decode cX4_draw 118 = .ok (.iload_n 1, 1) := by decide +kernel
theorem dX4_draw_119 : decode cX4_draw 119 = .ok (.bipush 6, 2) := by decide +kernel
theorem dX4_draw_121 : decode cX4_draw 121 = .ok (.iadd, 1) := by decide +kernel
theorem dX4_draw_122 : decode cX4_draw 122 = .ok (.iaload, 1) := by decide +kernel
theorem dX4_draw_123 : decode cX4_draw 123 = .ok (.i2l, 1) := by decide +kernel
theorem dX4_draw_124 : decode cX4_draw 124 = .ok (.lmul, 1) := by decide +kernel
theorem dX4_draw_125 : decode cX4_draw 125 = .ok (.lstore 11, 2) := by decide +kernel
theorem dX4_draw_127 : decode cX4_draw 127 = .ok (.aload_n 0, 1) := by decide +kernel
theorem dX4_draw_128 : decode cX4_draw 128 = .ok (.iload_n 1, 1) := by decide +kernel
theorem dX4_draw_129 : decode cX4_draw 129 = .ok (.iload_n 1, 1) := by decide +kernel
theorem dX4_draw_130 : decode cX4_draw 130 = .ok (.iconst 4, 1) := by decide +kernel
theorem dX4_draw_131 : decode cX4_draw 131 = .ok (.iadd, 1) := by decide +kernel
theorem dX4_draw_132 : decode cX4_draw 132 = .ok (.lload 5, 2) := by decide +kernel
theorem dX4_draw_134 : decode cX4_draw 134 = .ok (.lload 7, 2) := by decide +kernel
theorem dX4_draw_136 : decode cX4_draw 136 = .ok (.invokevirtual 35, 3) := by decide +kernel
theorem dX4_draw_139 : decode cX4_draw 139 = .ok (.aload_n 0, 1) := by decide +kernel
theorem dX4_draw_140 : decode cX4_draw 140 = .ok (.getfield 7, 3) := by decide +kernel
theorem dX4_draw_143 : decode cX4_draw 143 = .ok (.iload_n 1, 1) := by decide +kernel
theorem dX4_draw_144 : decode cX4_draw 144 = .ok (.bipush 10, 2) := by decide +kernel
theorem dX4_draw_146 : decode cX4_draw 146 = .ok (.iadd, 1) := by decide +kernel
theorem dX4_draw_147 : decode cX4_draw 147 = .ok (.iaload, 1) := by decide +kernel
theorem dX4_draw_148 : decode cX4_draw 148 = .ok (.i2l, 1) := by decide +kernel
theorem dX4_draw_149 : decode cX4_draw 149 = .ok (.lmul, 1) := by decide +kernel
theorem dX4_draw_150 : decode cX4_draw 150 = .ok (.lstore 13, 2) := by decide +kernel
theorem dX4_draw_152 : decode cX4_draw 152 = .ok (.lload 9, 2) := by decide +kernel
theorem dX4_draw_154 : decode cX4_draw 154 = .ok (.lload 11, 2) := by decide +kernel
theorem dX4_draw_156 : decode cX4_draw 156 = .ok (.ladd, 1) := by decide +kernel
theorem dX4_draw_157 : decode cX4_draw 157 = .ok (.lload 13, 2) := by decide +kernel
theorem dX4_draw_159 : decode cX4_draw 159 = .ok (.ladd, 1) := by decide +kernel
theorem dX4_draw_160 : decode cX4_draw 160 = .ok (.lstore 15, 2) := by decide +kernel
theorem dX4_draw_162 : decode cX4_draw 162 = .ok (.lload 15, 2) := by decide +kernel
theorem dX4_draw_164 : decode cX4_draw 164 = .ok (.aload_n 0, 1) := by decide +kernel
theorem dX4_draw_165 : decode cX4_draw 165 = .ok (.iload_n 1, 1) := by decide +kernel
theorem dX4_draw_166 : decode cX4_draw 166 = .ok (.invokevirtual 43, 3) := by decide +kernel
theorem dX4_draw_169 : decode cX4_draw 169 = .ok (.ldiv, 1) := by decide +kernel
theorem dX4_draw_170 : decode cX4_draw 170 = .ok (.l2i, 1) := by decide +kernel
theorem dX4_draw_171 : decode cX4_draw 171 = .ok (.istore 17, 2) := by decide +kernel
theorem dX4_draw_173 : decode cX4_draw 173 = .ok (.iload 17, 2) := by decide +kernel
theorem dX4_draw_175 : decode cX4_draw 175 = .ok (.aload_n 0, 1) := by decide +kernel
theorem dX4_draw_176 : decode cX4_draw 176 = .ok (.getfield 16, 3) := by decide +kernel
theorem dX4_draw_179 : decode cX4_draw 179 = .ok (.iload 4, 2) := by decide +kernel
theorem dX4_draw_181 : decode cX4_draw 181 = .ok (.iaload, 1) := by decide +kernel
theorem dX4_draw_182 : decode cX4_draw 182 = .ok (.if_icmp .gt 4, 3) := by decide +kernel
theorem dX4_draw_185 : decode cX4_draw 185 = .ok (.return_, 1) := by decide +kernel
theorem dX4_draw_186 : decode cX4_draw 186 = .ok (.lload 9, 2) := by decide +kernel
theorem dX4_draw_188 : decode cX4_draw 188 = .ok (.aload_n 0, 1) := by decide +kernel
theorem dX4_draw_189 : decode cX4_draw 189 = .ok (.getfield 7, 3) := by decide +kernel
theorem dX4_draw_192 : decode cX4_draw 192 = .ok (.iload_n 1, 1) := by decide +kernel
theorem dX4_draw_193 : decode cX4_draw 193 = .ok (.iconst 3, 1) := by decide +kernel
theorem dX4_draw_194 : decode cX4_draw 194 = .ok (.iadd, 1) := by decide +kernel
theorem dX4_draw_195 : decode cX4_draw 195 = .ok (.iaload, 1) := by decide +kernel
theorem dX4_draw_196 : decode cX4_draw 196 = .ok (.i2l, 1) := by decide +kernel
theorem dX4_draw_197 : decode cX4_draw 197 = .ok (.lmul, 1) := by decide +kernel
theorem dX4_draw_198 : decode cX4_draw 198 = .ok (.lload 11, 2) := by decide +kernel
theorem dX4_draw_200 : decode cX4_draw 200 = .ok (.aload_n 0, 1) := by decide +kernel
theorem dX4_draw_201 : decode cX4_draw 201 = .ok (.getfield 7, 3) := by decide +kernel
theorem dX4_draw_204 : decode cX4_draw 204 = .ok (.iload_n 1, 1) := by decide +kernel
theorem dX4_draw_205 : decode cX4_draw 205 = .ok (.bipush 7, 2) := by decide +kernel
theorem dX4_draw_207 : decode cX4_draw 207 = .ok (.iadd, 1) := by decide +kernel
theorem dX4_draw_208 : decode cX4_draw 208 = .ok (.iaload, 1) := by decide +kernel
theorem dX4_draw_209 : decode cX4_draw 209 = .ok (.i2l, 1) := by decide +kernel
theorem dX4_draw_210 : decode cX4_draw 210 = .ok (.lmul, 1) := by decide +kernel
theorem dX4_draw_211 : decode cX4_draw 211 = .ok (.ladd, 1) := by decide +kernel
theorem dX4_draw_212 : decode cX4_draw 212 = .ok (.lload 13, 2) := by decide +kernel
theorem dX4_draw_214 : decode cX4_draw 214 = .ok (.aload_n 0, 1) := by decide +kernel
theorem dX4_draw_215 : decode cX4_draw 215 = .ok (.getfield 7, 3) := by decide +kernel
theorem dX4_draw_218 : decode cX4_draw 218 = .ok (.iload_n 1, 1) := by decide +kernel
theorem dX4_draw_219 : decode cX4_draw 219 = .ok (.bipush 11, 2) := by decide +kernel
theorem dX4_draw_221 : decode cX4_draw 221 = .ok (.iadd, 1) := by decide +kernel
theorem dX4_draw_222 : decode cX4_draw 222 = .ok (.iaload, 1) := by decide +kernel
theorem dX4_draw_223 : decode cX4_draw 223 = .ok (.i2l, 1) := by decide +kernel
theorem dX4_draw_224 : decode cX4_draw 224 = .ok (.lmul, 1) := by decide +kernel
theorem dX4_draw_225 : decode cX4_draw 225 = .ok (.ladd, 1) := by decide +kernel
theorem dX4_draw_226 : decode cX4_draw 226 = .ok (.lload 15, 2) := by decide +kernel
theorem dX4_draw_228 : decode cX4_draw 228 = .ok (.ldiv, 1) := by decide +kernel
theorem dX4_draw_229 : decode cX4_draw 229 = .ok (.lstore 18, 2) := by decide +kernel
theorem dX4_draw_231 : decode cX4_draw 231 = .ok (.aload_n 0, 1) := by decide +kernel
theorem dX4_draw_232 : decode cX4_draw 232 = .ok (.getfield 7, 3) := by decide +kernel
theorem dX4_draw_235 : decode cX4_draw 235 = .ok (.iload_n 1, 1) := by decide +kernel
theorem dX4_draw_236 : decode cX4_draw 236 = .ok (.bipush 13, 2) := by decide +kernel
theorem dX4_draw_238 : decode cX4_draw 238 = .ok (.iadd, 1) := by decide +kernel
theorem dX4_draw_239 : decode cX4_draw 239 = .ok (.iaload, 1) := by decide +kernel
theorem dX4_draw_240 : decode cX4_draw 240 = .ok (.istore 20, 2) := by decide +kernel
theorem dX4_draw_242 : decode cX4_draw 242 = .ok (.aload_n 0, 1) := by decide +kernel
theorem dX4_draw_243 : decode cX4_draw 243 = .ok (.getfield 13, 3) := by decide +kernel
theorem dX4_draw_246 : decode cX4_draw 246 = .ok (.iload 4, 2) := by decide +kernel
theorem dX4_draw_248 : decode cX4_draw 248 = .ok (.aload_n 0, 1) := by decide +kernel
theorem dX4_draw_249 : decode cX4_draw 249 = .ok (.getfield 7, 3) := by decide +kernel
theorem dX4_draw_252 : decode cX4_draw 252 = .ok (.iload_n 1, 1) := by decide +kernel
theorem dX4_draw_253 : decode cX4_draw 253 = .ok (.bipush 12, 2) := by decide +kernel
theorem dX4_draw_255 : decode cX4_draw 255 = .ok (.iadd, 1) := by decide +kernel
theorem dX4_draw_256 : decode cX4_draw 256 = .ok (.iaload, 1) := by decide +kernel
theorem dX4_draw_257 : decode cX4_draw 257 = .ok (.lload 18, 2) := by decide +kernel
theorem dX4_draw_259 : decode cX4_draw 259 = .ok (.iload 20, 2) := by decide +kernel
theorem dX4_draw_261 : decode cX4_draw 261 = .ok (.aload_n 0, 1) := by decide +kernel
theorem dX4_draw_262 : decode cX4_draw 262 = .ok (.getfield 13, 3) := by decide +kernel
theorem dX4_draw_265 : decode cX4_draw 265 = .ok (.iload 4, 2) := by decide +kernel
theorem dX4_draw_267 : decode cX4_draw 267 = .ok (.iaload, 1) := by decide +kernel
theorem dX4_draw_268 : decode cX4_draw 268 = .ok (.invokestatic 68, 3) := by decide +kernel
theorem dX4_draw_271 : decode cX4_draw 271 = .ok (.iastore, 1) := by decide +kernel
theorem dX4_draw_272 : decode cX4_draw 272 = .ok (.aload_n 0, 1) := by decide +kernel
theorem dX4_draw_273 : decode cX4_draw 273 = .ok (.getfield 16, 3) := by decide +kernel
theorem dX4_draw_276 : decode cX4_draw 276 = .ok (.iload 4, 2) := by decide +kernel
theorem dX4_draw_278 : decode cX4_draw 278 = .ok (.iload 20, 2) := by decide +kernel
theorem dX4_draw_280 : decode cX4_draw 280 = .ok (.sipush 255, 3) := by decide +kernel
theorem dX4_draw_283 : decode cX4_draw 283 = .ok (.if_icmp .ne 8, 3) := by decide +kernel
theorem dX4_draw_286 : decode cX4_draw 286 = .ok (.iload 17, 2) := by decide +kernel
theorem dX4_draw_288 : decode cX4_draw 288 = .ok (.goto 10, 3) := by decide +kernel
theorem dX4_draw_291 : decode cX4_draw 291 = .ok (.aload_n 0, 1) := by decide +kernel
theorem dX4_draw_292 : decode cX4_draw 292 = .ok (.getfield 16, 3) := by decide +kernel
theorem dX4_draw_295 : decode cX4_draw 295 = .ok (.iload 4, 2) := by decide +kernel
theorem dX4_draw_297 : decode cX4_draw 297 = .ok (.iaload, 1) := by decide +kernel
theorem dX4_draw_298 : decode cX4_draw 298 = .ok (.iastore, 1) := by decide +kernel
theorem dX4_draw_299 : decode cX4_draw 299 = .ok (.return_, 1) := by decide +kernel
theorem dX4_columns_0 : decode cX4_columns 0 = .ok (.aload_n 0, 1) := by decide +kernel
theorem dX4_columns_1 : decode cX4_columns 1 = .ok (.getfield 23, 3) := by decide +kernel
theorem dX4_columns_4 : decode cX4_columns 4 = .ok (.bipush 7, 2) := by decide +kernel
theorem dX4_columns_6 : decode cX4_columns 6 = .ok (.iadd, 1) := by decide +kernel
theorem dX4_columns_7 : decode cX4_columns 7 = .ok (.bipush 8, 2) := by decide +kernel
theorem dX4_columns_9 : decode cX4_columns 9 = .ok (.idiv, 1) := by decide +kernel
theorem dX4_columns_10 : decode cX4_columns 10 = .ok (.ireturn, 1) := by decide +kernel
theorem dX4_tiles_0 : decode cX4_tiles 0 = .ok (.aload_n 0, 1) := by decide +kernel
theorem dX4_tiles_1 : decode cX4_tiles 1 = .ok (.invokevirtual 72, 3) := by decide +kernel
theorem dX4_tiles_4 : decode cX4_tiles 4 = .ok (.aload_n 0, 1) := by decide +kernel
theorem dX4_tiles_5 : decode cX4_tiles 5 = .ok (.getfield 27, 3) := by decide +kernel
theorem dX4_tiles_8 : decode cX4_tiles 8 = .ok (.bipush 7, 2) := by decide +kernel
theorem dX4_tiles_10 : decode cX4_tiles 10 = .ok (.iadd, 1) := by decide +kernel
theorem dX4_tiles_11 : decode cX4_tiles 11 = .ok (.bipush 8, 2) := by decide +kernel
theorem dX4_tiles_13 : decode cX4_tiles 13 = .ok (.idiv, 1) := by decide +kernel
theorem dX4_tiles_14 : decode cX4_tiles 14 = .ok (.imul, 1) := by decide +kernel
theorem dX4_tiles_15 : decode cX4_tiles 15 = .ok (.ireturn, 1) := by decide +kernel
theorem dX4_begin_0 : decode cX4_begin 0 = .ok (.aload_n 0, 1) := by decide +kernel
theorem dX4_begin_1 : decode cX4_begin 1 = .ok (.iconst 0, 1) := by decide +kernel
theorem dX4_begin_2 : decode cX4_begin 2 = .ok (.putfield 30, 3) := by decide +kernel
theorem dX4_begin_5 : decode cX4_begin 5 = .ok (.aload_n 0, 1) := by decide +kernel
theorem dX4_begin_6 : decode cX4_begin 6 = .ok (.iconst 1, 1) := by decide +kernel
theorem dX4_begin_7 : decode cX4_begin 7 = .ok (.putfield 76, 3) := by decide +kernel
theorem dX4_begin_10 : decode cX4_begin 10 = .ok (.aload_n 0, 1) := by decide +kernel
theorem dX4_begin_11 : decode cX4_begin 11 = .ok (.aload_n 0, 1) := by decide +kernel
theorem dX4_begin_12 : decode cX4_begin 12 = .ok (.getfield 40, 3) := by decide +kernel
theorem dX4_begin_15 : decode cX4_begin 15 = .ok (.putfield 80, 3) := by decide +kernel
theorem dX4_begin_18 : decode cX4_begin 18 = .ok (.iconst 0, 1) := by decide +kernel
theorem dX4_begin_19 : decode cX4_begin 19 = .ok (.istore_n 1, 1) := by decide +kernel
theorem dX4_begin_20 : decode cX4_begin 20 = .ok (.iload_n 1, 1) := by decide +kernel
theorem dX4_begin_21 : decode cX4_begin 21 = .ok (.bipush 36, 2) := by decide +kernel
theorem dX4_begin_23 : decode cX4_begin 23 = .ok (.if_icmp .ge 16, 3) := by decide +kernel
theorem dX4_begin_26 : decode cX4_begin 26 = .ok (.aload_n 0, 1) := by decide +kernel
theorem dX4_begin_27 : decode cX4_begin 27 = .ok (.getfield 19, 3) := by decide +kernel
theorem dX4_begin_30 : decode cX4_begin 30 = .ok (.iload_n 1, 1) := by decide +kernel
theorem dX4_begin_31 : decode cX4_begin 31 = .ok (.iconst 0, 1) := by decide +kernel
theorem dX4_begin_32 : decode cX4_begin 32 = .ok (.bastore, 1) := by decide +kernel
theorem dX4_begin_33 : decode cX4_begin 33 = .ok (.iinc 1 1, 3) := by decide +kernel
theorem dX4_begin_36 : decode cX4_begin 36 = .ok (.goto (-16), 3) := by decide +kernel
theorem dX4_begin_39 : decode cX4_begin 39 = .ok (.iconst 0, 1) := by decide +kernel
theorem dX4_begin_40 : decode cX4_begin 40 = .ok (.istore_n 1, 1) := by decide +kernel
theorem dX4_begin_41 : decode cX4_begin 41 = .ok (.iload_n 1, 1) := by decide +kernel
theorem dX4_begin_42 : decode cX4_begin 42 = .ok (.aload_n 0, 1) := by decide +kernel
theorem dX4_begin_43 : decode cX4_begin 43 = .ok (.getfield 27, 3) := by decide +kernel
theorem dX4_begin_46 : decode cX4_begin 46 = .ok (.if_icmp .ge 79, 3) := by decide +kernel
theorem dX4_begin_49 : decode cX4_begin 49 = .ok (.iconst 0, 1) := by decide +kernel
theorem dX4_begin_50 : decode cX4_begin 50 = .ok (.istore_n 2, 1) := by decide +kernel
theorem dX4_begin_51 : decode cX4_begin 51 = .ok (.iload_n 2, 1) := by decide +kernel
theorem dX4_begin_52 : decode cX4_begin 52 = .ok (.aload_n 0, 1) := by decide +kernel
theorem dX4_begin_53 : decode cX4_begin 53 = .ok (.getfield 23, 3) := by decide +kernel
theorem dX4_begin_56 : decode cX4_begin 56 = .ok (.if_icmp .ge 63, 3) := by decide +kernel
theorem dX4_begin_59 : decode cX4_begin 59 = .ok (.bipush 48, 2) := by decide +kernel
theorem dX4_begin_61 : decode cX4_begin 61 = .ok (.iload_n 1, 1) := by decide +kernel
theorem dX4_begin_62 : decode cX4_begin 62 = .ok (.imul, 1) := by decide +kernel
theorem dX4_begin_63 : decode cX4_begin 63 = .ok (.iload_n 2, 1) := by decide +kernel
theorem dX4_begin_64 : decode cX4_begin 64 = .ok (.iadd, 1) := by decide +kernel
theorem dX4_begin_65 : decode cX4_begin 65 = .ok (.istore_n 3, 1) := by decide +kernel
theorem dX4_begin_66 : decode cX4_begin 66 = .ok (.aload_n 0, 1) := by decide +kernel
theorem dX4_begin_67 : decode cX4_begin 67 = .ok (.getfield 13, 3) := by decide +kernel
theorem dX4_begin_70 : decode cX4_begin 70 = .ok (.iload_n 3, 1) := by decide +kernel
theorem dX4_begin_71 : decode cX4_begin 71 = .ok (.aload_n 0, 1) := by decide +kernel
theorem dX4_begin_72 : decode cX4_begin 72 = .ok (.getfield 51, 3) := by decide +kernel
theorem dX4_begin_75 : decode cX4_begin 75 = .ok (.iastore, 1) := by decide +kernel
theorem dX4_begin_76 : decode cX4_begin 76 = .ok (.aload_n 0, 1) := by decide +kernel
theorem dX4_begin_77 : decode cX4_begin 77 = .ok (.getfield 16, 3) := by decide +kernel
theorem dX4_begin_80 : decode cX4_begin 80 = .ok (.iload_n 3, 1) := by decide +kernel
theorem dX4_begin_81 : decode cX4_begin 81 = .ok (.iconst 0, 1) := by decide +kernel
theorem dX4_begin_82 : decode cX4_begin 82 = .ok (.iastore, 1) := by decide +kernel
theorem dX4_begin_83 : decode cX4_begin 83 = .ok (.iconst 0, 1) := by decide +kernel
theorem dX4_begin_84 : decode cX4_begin 84 = .ok (.istore 4, 2) := by decide +kernel
theorem dX4_begin_86 : decode cX4_begin 86 = .ok (.iload 4, 2) := by decide +kernel
theorem dX4_begin_88 : decode cX4_begin 88 = .ok (.aload_n 0, 1) := by decide +kernel
theorem dX4_begin_89 : decode cX4_begin 89 = .ok (.getfield 40, 3) := by decide +kernel
theorem dX4_begin_92 : decode cX4_begin 92 = .ok (.if_icmp .ge 21, 3) := by decide +kernel
theorem dX4_begin_95 : decode cX4_begin 95 = .ok (.aload_n 0, 1) := by decide +kernel
theorem dX4_begin_96 : decode cX4_begin 96 = .ok (.bipush 14, 2) := by decide +kernel
theorem dX4_begin_98 : decode cX4_begin 98 = .ok (.iload 4, 2) := by decide +kernel
theorem dX4_begin_100 : decode cX4_begin 100 = .ok (.imul, 1) := by decide +kernel
theorem dX4_begin_101 : decode cX4_begin 101 = .ok (.iload_n 2, 1) := by decide +kernel
theorem dX4_begin_102 : decode cX4_begin 102 = .ok (.iload_n 1, 1) := by decide +kernel
theorem dX4_begin_103 : decode cX4_begin 103 = .ok (.iload_n 3, 1) := by decide +kernel
theorem dX4_begin_104 : decode cX4_begin 104 = .ok (.invokevirtual 83, 3) := by decide +kernel
theorem dX4_begin_107 : decode cX4_begin 107 = .ok (.iinc 4 1, 3) := by decide +kernel
theorem dX4_begin_110 : decode cX4_begin 110 = .ok (.goto (-24), 3) := by decide +kernel
theorem dX4_begin_113 : decode cX4_begin 113 = .ok (.iinc 2 1, 3) := by decide +kernel
theorem dX4_begin_116 : decode cX4_begin 116 = .ok (.goto (-65), 3) := by decide +kernel
theorem dX4_begin_119 : decode cX4_begin 119 = .ok (.iinc 1 1, 3) := by decide +kernel
theorem dX4_begin_122 : decode cX4_begin 122 = .ok (.goto (-81), 3) := by decide +kernel
theorem dX4_begin_125 : decode cX4_begin 125 = .ok (.aload_n 0, 1) := by decide +kernel
theorem dX4_begin_126 : decode cX4_begin 126 = .ok (.invokevirtual 87, 3) := by decide +kernel
theorem dX4_begin_129 : decode cX4_begin 129 = .ok (.ireturn, 1) := by decide +kernel
theorem dX4_tile_0 : decode cX4_tile 0 = .ok (.aload_n 0, 1) := by decide +kernel
theorem dX4_tile_1 : decode cX4_tile 1 = .ok (.iconst 0, 1) := by decide +kernel
theorem dX4_tile_2 : decode cX4_tile 2 = .ok (.putfield 30, 3) := by decide +kernel
theorem dX4_tile_5 : decode cX4_tile 5 = .ok (.aload_n 0, 1) := by decide +kernel
theorem dX4_tile_6 : decode cX4_tile 6 = .ok (.getfield 76, 3) := by decide +kernel
theorem dX4_tile_9 : decode cX4_tile 9 = .ok (.ifCond .eq 24, 3) := by decide +kernel
theorem dX4_tile_12 : decode cX4_tile 12 = .ok (.iload_n 1, 1) := by decide +kernel
theorem dX4_tile_13 : decode cX4_tile 13 = .ok (.ifCond .lt 20, 3) := by decide +kernel
theorem dX4_tile_16 : decode cX4_tile 16 = .ok (.iload_n 1, 1) := by decide +kernel
theorem dX4_tile_17 : decode cX4_tile 17 = .ok (.aload_n 0, 1) := by decide +kernel
theorem dX4_tile_18 : decode cX4_tile 18 = .ok (.invokevirtual 87, 3) := by decide +kernel
theorem dX4_tile_21 : decode cX4_tile 21 = .ok (.if_icmp .ge 12, 3) := by decide +kernel
theorem dX4_tile_24 : decode cX4_tile 24 = .ok (.aload_n 0, 1) := by decide +kernel
theorem dX4_tile_25 : decode cX4_tile 25 = .ok (.getfield 19, 3) := by decide +kernel
theorem dX4_tile_28 : decode cX4_tile 28 = .ok (.iload_n 1, 1) := by decide +kernel
theorem dX4_tile_29 : decode cX4_tile 29 = .ok (.baload, 1) := by decide +kernel
theorem dX4_tile_30 : decode cX4_tile 30 = .ok (.ifCond .eq 5, 3) := by decide +kernel
theorem dX4_tile_33 : decode cX4_tile 33 = .ok (.iconst 0, 1) := by decide +kernel
theorem dX4_tile_34 : decode cX4_tile 34 = .ok (.ireturn, 1) := by decide +kernel
theorem dX4_tile_35 : decode cX4_tile 35 = .ok (.aload_n 0, 1) := by decide +kernel
theorem dX4_tile_36 : decode cX4_tile 36 = .ok (.getfield 19, 3) := by decide +kernel
theorem dX4_tile_39 : decode cX4_tile 39 = .ok (.iload_n 1, 1) := by decide +kernel
theorem dX4_tile_40 : decode cX4_tile 40 = .ok (.iconst 1, 1) := by decide +kernel
theorem dX4_tile_41 : decode cX4_tile 41 = .ok (.bastore, 1) := by decide +kernel
theorem dX4_tile_42 : decode cX4_tile 42 = .ok (.iconst 1, 1) := by decide +kernel
theorem dX4_tile_43 : decode cX4_tile 43 = .ok (.ireturn, 1) := by decide +kernel
theorem dX4_isSeen_0 : decode cX4_isSeen 0 = .ok (.aload_n 0, 1) := by decide +kernel
theorem dX4_isSeen_1 : decode cX4_isSeen 1 = .ok (.getfield 76, 3) := by decide +kernel
theorem dX4_isSeen_4 : decode cX4_isSeen 4 = .ok (.ifCond .eq 53, 3) := by decide +kernel
theorem dX4_isSeen_7 : decode cX4_isSeen 7 = .ok (.iload_n 1, 1) := by decide +kernel
theorem dX4_isSeen_8 : decode cX4_isSeen 8 = .ok (.ifCond .lt 49, 3) := by decide +kernel
theorem dX4_isSeen_11 : decode cX4_isSeen 11 = .ok (.iload_n 1, 1) := by decide +kernel
theorem dX4_isSeen_12 : decode cX4_isSeen 12 = .ok (.aload_n 0, 1) := by decide +kernel
theorem dX4_isSeen_13 : decode cX4_isSeen 13 = .ok (.getfield 23, 3) := by decide +kernel
theorem dX4_isSeen_16 : decode cX4_isSeen 16 = .ok (.if_icmp .ge 41, 3) := by decide +kernel
theorem dX4_isSeen_19 : decode cX4_isSeen 19 = .ok (.iload_n 2, 1) := by decide +kernel
theorem dX4_isSeen_20 : decode cX4_isSeen 20 = .ok (.ifCond .lt 37, 3) := by decide +kernel
theorem dX4_isSeen_23 : decode cX4_isSeen 23 = .ok (.iload_n 2, 1) := by decide +kernel
theorem dX4_isSeen_24 : decode cX4_isSeen 24 = .ok (.aload_n 0, 1) := by decide +kernel
theorem dX4_isSeen_25 : decode cX4_isSeen 25 = .ok (.getfield 27, 3) := by decide +kernel
theorem dX4_isSeen_28 : decode cX4_isSeen 28 = .ok (.if_icmp .ge 29, 3) := by decide +kernel
theorem dX4_isSeen_31 : decode cX4_isSeen 31 = .ok (.aload_n 0, 1) := by decide +kernel
theorem dX4_isSeen_32 : decode cX4_isSeen 32 = .ok (.getfield 19, 3) := by decide +kernel
theorem dX4_isSeen_35 : decode cX4_isSeen 35 = .ok (.iload_n 2, 1) := by decide +kernel
theorem dX4_isSeen_36 : decode cX4_isSeen 36 = .ok (.bipush 8, 2) := by decide +kernel
theorem dX4_isSeen_38 : decode cX4_isSeen 38 = .ok (.idiv, 1) := by decide +kernel
theorem dX4_isSeen_39 : decode cX4_isSeen 39 = .ok (.aload_n 0, 1) := by decide +kernel
theorem dX4_isSeen_40 : decode cX4_isSeen 40 = .ok (.invokevirtual 72, 3) := by decide +kernel
theorem dX4_isSeen_43 : decode cX4_isSeen 43 = .ok (.imul, 1) := by decide +kernel
theorem dX4_isSeen_44 : decode cX4_isSeen 44 = .ok (.iload_n 1, 1) := by decide +kernel
theorem dX4_isSeen_45 : decode cX4_isSeen 45 = .ok (.bipush 8, 2) := by decide +kernel
theorem dX4_isSeen_47 : decode cX4_isSeen 47 = .ok (.idiv, 1) := by decide +kernel
theorem dX4_isSeen_48 : decode cX4_isSeen 48 = .ok (.iadd, 1) := by decide +kernel
theorem dX4_isSeen_49 : decode cX4_isSeen 49 = .ok (.baload, 1) := by decide +kernel
theorem dX4_isSeen_50 : decode cX4_isSeen 50 = .ok (.ifCond .eq 7, 3) := by decide +kernel
theorem dX4_isSeen_53 : decode cX4_isSeen 53 = .ok (.iconst 1, 1) := by decide +kernel
theorem dX4_isSeen_54 : decode cX4_isSeen 54 = .ok (.goto 4, 3) := by decide +kernel
theorem dX4_isSeen_57 : decode cX4_isSeen 57 = .ok (.iconst 0, 1) := by decide +kernel
theorem dX4_isSeen_58 : decode cX4_isSeen 58 = .ok (.ireturn, 1) := by decide +kernel
theorem dX4_pixel_0 : decode cX4_pixel 0 = .ok (.aload_n 0, 1) := by decide +kernel
theorem dX4_pixel_1 : decode cX4_pixel 1 = .ok (.iconst 0, 1) := by decide +kernel
theorem dX4_pixel_2 : decode cX4_pixel 2 = .ok (.putfield 30, 3) := by decide +kernel
theorem dX4_pixel_5 : decode cX4_pixel 5 = .ok (.aload_n 0, 1) := by decide +kernel
theorem dX4_pixel_6 : decode cX4_pixel 6 = .ok (.iload_n 1, 1) := by decide +kernel
theorem dX4_pixel_7 : decode cX4_pixel 7 = .ok (.iload_n 2, 1) := by decide +kernel
theorem dX4_pixel_8 : decode cX4_pixel 8 = .ok (.invokevirtual 90, 3) := by decide +kernel
theorem dX4_pixel_11 : decode cX4_pixel 11 = .ok (.ifCond .eq 17, 3) := by decide +kernel
theorem dX4_pixel_14 : decode cX4_pixel 14 = .ok (.aload_n 0, 1) := by decide +kernel
theorem dX4_pixel_15 : decode cX4_pixel 15 = .ok (.getfield 13, 3) := by decide +kernel
theorem dX4_pixel_18 : decode cX4_pixel 18 = .ok (.bipush 48, 2) := by decide +kernel
theorem dX4_pixel_20 : decode cX4_pixel 20 = .ok (.iload_n 2, 1) := by decide +kernel
theorem dX4_pixel_21 : decode cX4_pixel 21 = .ok (.imul, 1) := by decide +kernel
theorem dX4_pixel_22 : decode cX4_pixel 22 = .ok (.iload_n 1, 1) := by decide +kernel
theorem dX4_pixel_23 : decode cX4_pixel 23 = .ok (.iadd, 1) := by decide +kernel
theorem dX4_pixel_24 : decode cX4_pixel 24 = .ok (.iaload, 1) := by decide +kernel
theorem dX4_pixel_25 : decode cX4_pixel 25 = .ok (.goto 4, 3) := by decide +kernel
theorem dX4_pixel_28 : decode cX4_pixel 28 = .ok (.iconst (-1), 1) := by decide +kernel
theorem dX4_pixel_29 : decode cX4_pixel 29 = .ok (.ireturn, 1) := by decide +kernel
theorem dX4_nearness_0 : decode cX4_nearness 0 = .ok (.aload_n 0, 1) := by decide +kernel
theorem dX4_nearness_1 : decode cX4_nearness 1 = .ok (.iconst 0, 1) := by decide +kernel
theorem dX4_nearness_2 : decode cX4_nearness 2 = .ok (.putfield 30, 3) := by decide +kernel
theorem dX4_nearness_5 : decode cX4_nearness 5 = .ok (.aload_n 0, 1) := by decide +kernel
theorem dX4_nearness_6 : decode cX4_nearness 6 = .ok (.iload_n 1, 1) := by decide +kernel
theorem dX4_nearness_7 : decode cX4_nearness 7 = .ok (.iload_n 2, 1) := by decide +kernel
theorem dX4_nearness_8 : decode cX4_nearness 8 = .ok (.invokevirtual 90, 3) := by decide +kernel
theorem dX4_nearness_11 : decode cX4_nearness 11 = .ok (.ifCond .eq 17, 3) := by decide +kernel
theorem dX4_nearness_14 : decode cX4_nearness 14 = .ok (.aload_n 0, 1) := by decide +kernel
theorem dX4_nearness_15 : decode cX4_nearness 15 = .ok (.getfield 16, 3) := by decide +kernel
theorem dX4_nearness_18 : decode cX4_nearness 18 = .ok (.bipush 48, 2) := by decide +kernel
theorem dX4_nearness_20 : decode cX4_nearness 20 = .ok (.iload_n 2, 1) := by decide +kernel
theorem dX4_nearness_21 : decode cX4_nearness 21 = .ok (.imul, 1) := by decide +kernel
theorem dX4_nearness_22 : decode cX4_nearness 22 = .ok (.iload_n 1, 1) := by decide +kernel
theorem dX4_nearness_23 : decode cX4_nearness 23 = .ok (.iadd, 1) := by decide +kernel
theorem dX4_nearness_24 : decode cX4_nearness 24 = .ok (.iaload, 1) := by decide +kernel
theorem dX4_nearness_25 : decode cX4_nearness 25 = .ok (.goto 4, 3) := by decide +kernel
theorem dX4_nearness_28 : decode cX4_nearness 28 = .ok (.iconst (-1), 1) := by decide +kernel
theorem dX4_nearness_29 : decode cX4_nearness 29 = .ok (.ireturn, 1) := by decide +kernel
theorem dX4_count_0 : decode cX4_count 0 = .ok (.aload_n 0, 1) := by decide +kernel
theorem dX4_count_1 : decode cX4_count 1 = .ok (.iconst 0, 1) := by decide +kernel
theorem dX4_count_2 : decode cX4_count 2 = .ok (.putfield 30, 3) := by decide +kernel
theorem dX4_count_5 : decode cX4_count 5 = .ok (.iconst 0, 1) := by decide +kernel
theorem dX4_count_6 : decode cX4_count 6 = .ok (.istore_n 2, 1) := by decide +kernel
theorem dX4_count_7 : decode cX4_count 7 = .ok (.iconst 0, 1) := by decide +kernel
theorem dX4_count_8 : decode cX4_count 8 = .ok (.istore_n 3, 1) := by decide +kernel
theorem dX4_count_9 : decode cX4_count 9 = .ok (.iload_n 3, 1) := by decide +kernel
theorem dX4_count_10 : decode cX4_count 10 = .ok (.bipush 36, 2) := by decide +kernel
theorem dX4_count_12 : decode cX4_count 12 = .ok (.if_icmp .ge 26, 3) := by decide +kernel
theorem dX4_count_15 : decode cX4_count 15 = .ok (.iload_n 2, 1) := by decide +kernel
theorem dX4_count_16 : decode cX4_count 16 = .ok (.aload_n 0, 1) := by decide +kernel
theorem dX4_count_17 : decode cX4_count 17 = .ok (.getfield 19, 3) := by decide +kernel
theorem dX4_count_20 : decode cX4_count 20 = .ok (.iload_n 3, 1) := by decide +kernel
theorem dX4_count_21 : decode cX4_count 21 = .ok (.baload, 1) := by decide +kernel
theorem dX4_count_22 : decode cX4_count 22 = .ok (.ifCond .eq 7, 3) := by decide +kernel
theorem dX4_count_25 : decode cX4_count 25 = .ok (.iconst 1, 1) := by decide +kernel
theorem dX4_count_26 : decode cX4_count 26 = .ok (.goto 4, 3) := by decide +kernel
theorem dX4_count_29 : decode cX4_count 29 = .ok (.iconst 0, 1) := by decide +kernel
theorem dX4_count_30 : decode cX4_count 30 = .ok (.iadd, 1) := by decide +kernel
theorem dX4_count_31 : decode cX4_count 31 = .ok (.istore_n 2, 1) := by decide +kernel
theorem dX4_count_32 : decode cX4_count 32 = .ok (.iinc 3 1, 3) := by decide +kernel
theorem dX4_count_35 : decode cX4_count 35 = .ok (.goto (-26), 3) := by decide +kernel
theorem dX4_count_38 : decode cX4_count 38 = .ok (.iload_n 1, 1) := by decide +kernel
theorem dX4_count_39 : decode cX4_count 39 = .ok (.tableswitch 55 0 4 #[33, 38, 43, 45, 50], 33) := by decide +kernel
theorem dX4_count_72 : decode cX4_count 72 = .ok (.aload_n 0, 1) := by decide +kernel
theorem dX4_count_73 : decode cX4_count 73 = .ok (.getfield 40, 3) := by decide +kernel
theorem dX4_count_76 : decode cX4_count 76 = .ok (.ireturn, 1) := by decide +kernel
theorem dX4_count_77 : decode cX4_count 77 = .ok (.aload_n 0, 1) := by decide +kernel
theorem dX4_count_78 : decode cX4_count 78 = .ok (.getfield 80, 3) := by decide +kernel
theorem dX4_count_81 : decode cX4_count 81 = .ok (.ireturn, 1) := by decide +kernel
theorem dX4_count_82 : decode cX4_count 82 = .ok (.iload_n 2, 1) := by decide +kernel
theorem dX4_count_83 : decode cX4_count 83 = .ok (.ireturn, 1) := by decide +kernel
theorem dX4_count_84 : decode cX4_count 84 = .ok (.aload_n 0, 1) := by decide +kernel
theorem dX4_count_85 : decode cX4_count 85 = .ok (.getfield 23, 3) := by decide +kernel
theorem dX4_count_88 : decode cX4_count 88 = .ok (.ireturn, 1) := by decide +kernel
theorem dX4_count_89 : decode cX4_count 89 = .ok (.aload_n 0, 1) := by decide +kernel
theorem dX4_count_90 : decode cX4_count 90 = .ok (.getfield 27, 3) := by decide +kernel
theorem dX4_count_93 : decode cX4_count 93 = .ok (.ireturn, 1) := by decide +kernel
theorem dX4_count_94 : decode cX4_count 94 = .ok (.iconst (-1), 1) := by decide +kernel
theorem dX4_count_95 : decode cX4_count 95 = .ok (.ireturn, 1) := by decide +kernel
