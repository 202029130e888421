theorem dX0_init_0 : decode cX0_init 0 = .ok (.aload_n 0, 1) := by decide +kernel
theorem dX0_init_1 : decode cX0_init 1 = .ok (.invokespecial 3, 3) := by decide +kernel
theorem dX0_init_4 : decode cX0_init 4 = .ok (.aload_n 0, 1) := by decide +kernel
theorem dX0_init_5 : decode cX0_init 5 = .ok (.iconst 3, 1) := by decide +kernel
theorem dX0_init_6 : decode cX0_init 6 = .ok (.newarray .long, 2) := by decide +kernel
theorem dX0_init_8 : decode cX0_init 8 = .ok (.putfield 9, 3) := by decide +kernel
theorem dX0_init_11 : decode cX0_init 11 = .ok (.aload_n 0, 1) := by decide +kernel
theorem dX0_init_12 : decode cX0_init 12 = .ok (.iconst 3, 1) := by decide +kernel
theorem dX0_init_13 : decode cX0_init 13 = .ok (.newarray .long, 2) := by decide +kernel
theorem dX0_init_15 : decode cX0_init 15 = .ok (.putfield 15, 3) := by decide +kernel
theorem dX0_init_18 : decode cX0_init 18 = .ok (.aload_n 0, 1) := by decide +kernel
theorem dX0_init_19 : decode cX0_init 19 = .ok (.iconst 3, 1) := by decide +kernel
theorem dX0_init_20 : decode cX0_init 20 = .ok (.newarray .long, 2) := by decide +kernel
theorem dX0_init_22 : decode cX0_init 22 = .ok (.dup, 1) := by decide +kernel
theorem dX0_init_23 : decode cX0_init 23 = .ok (.iconst 0, 1) := by decide +kernel
theorem dX0_init_24 : decode cX0_init 24 = .ok (.lconst 1, 1) := by decide +kernel
theorem dX0_init_25 : decode cX0_init 25 = .ok (.lastore, 1) := by decide +kernel
theorem dX0_init_26 : decode cX0_init 26 = .ok (.dup, 1) := by decide +kernel
theorem dX0_init_27 : decode cX0_init 27 = .ok (.iconst 1, 1) := by decide +kernel
theorem dX0_init_28 : decode cX0_init 28 = .ok (.lconst 1, 1) := by decide +kernel
theorem dX0_init_29 : decode cX0_init 29 = .ok (.lastore, 1) := by decide +kernel
theorem dX0_init_30 : decode cX0_init 30 = .ok (.dup, 1) := by decide +kernel
theorem dX0_init_31 : decode cX0_init 31 = .ok (.iconst 2, 1) := by decide +kernel
theorem dX0_init_32 : decode cX0_init 32 = .ok (.lconst 1, 1) := by decide +kernel
theorem dX0_init_33 : decode cX0_init 33 = .ok (.lastore, 1) := by decide +kernel
theorem dX0_init_34 : decode cX0_init 34 = .ok (.putfield 18, 3) := by decide +kernel
theorem dX0_init_37 : decode cX0_init 37 = .ok (.aload_n 0, 1) := by decide +kernel
theorem dX0_init_38 : decode cX0_init 38 = .ok (.iconst 3, 1) := by decide +kernel
theorem dX0_init_39 : decode cX0_init 39 = .ok (.newarray .long, 2) := by decide +kernel
theorem dX0_init_41 : decode cX0_init 41 = .ok (.putfield 21, 3) := by decide +kernel
theorem dX0_init_44 : decode cX0_init 44 = .ok (.aload_n 0, 1) := by decide +kernel
theorem dX0_init_45 : decode cX0_init 45 = .ok (.iconst 3, 1) := by decide +kernel
theorem dX0_init_46 : decode cX0_init 46 = .ok (.newarray .long, 2) := by decide +kernel
theorem dX0_init_48 : decode cX0_init 48 = .ok (.putfield 24, 3) := by decide +kernel
theorem dX0_init_51 : decode cX0_init 51 = .ok (.return_, 1) := by decide +kernel
theorem dX0_setCorner_0 : decode cX0_setCorner 0 = .ok (.aload_n 0, 1) := by decide +kernel
theorem dX0_setCorner_1 : decode cX0_setCorner 1 = .ok (.getfield 9, 3) := by decide +kernel
theorem dX0_setCorner_4 : decode cX0_setCorner 4 = .ok (.iload_n 1, 1) := by decide +kernel
theorem dX0_setCorner_5 : decode cX0_setCorner 5 = .ok (.lload_n 2, 1) := by decide +kernel
theorem dX0_setCorner_6 : decode cX0_setCorner 6 = .ok (.lastore, 1) := by decide +kernel
theorem dX0_setCorner_7 : decode cX0_setCorner 7 = .ok (.aload_n 0, 1) := by decide +kernel
theorem dX0_setCorner_8 : decode cX0_setCorner 8 = .ok (.getfield 15, 3) := by decide +kernel
theorem dX0_setCorner_11 : decode cX0_setCorner 11 = .ok (.iload_n 1, 1) := by decide +kernel
theorem dX0_setCorner_12 : decode cX0_setCorner 12 = .ok (.lload 4, 2) := by decide +kernel
theorem dX0_setCorner_14 : decode cX0_setCorner 14 = .ok (.lastore, 1) := by decide +kernel
theorem dX0_setCorner_15 : decode cX0_setCorner 15 = .ok (.aload_n 0, 1) := by decide +kernel
theorem dX0_setCorner_16 : decode cX0_setCorner 16 = .ok (.getfield 18, 3) := by decide +kernel
theorem dX0_setCorner_19 : decode cX0_setCorner 19 = .ok (.iload_n 1, 1) := by decide +kernel
theorem dX0_setCorner_20 : decode cX0_setCorner 20 = .ok (.lload 6, 2) := by decide +kernel
theorem dX0_setCorner_22 : decode cX0_setCorner 22 = .ok (.lastore, 1) := by decide +kernel
theorem dX0_setCorner_23 : decode cX0_setCorner 23 = .ok (.aload_n 0, 1) := by decide +kernel
theorem dX0_setCorner_24 : decode cX0_setCorner 24 = .ok (.getfield 21, 3) := by decide +kernel
theorem dX0_setCorner_27 : decode cX0_setCorner 27 = .ok (.iload_n 1, 1) := by decide +kernel
theorem dX0_setCorner_28 : decode cX0_setCorner 28 = .ok (.lload 8, 2) := by decide +kernel
theorem dX0_setCorner_30 : decode cX0_setCorner 30 = .ok (.lastore, 1) := by decide +kernel
theorem dX0_setCorner_31 : decode cX0_setCorner 31 = .ok (.return_, 1) := by decide +kernel
theorem dX0_packedCorner_0 : decode cX0_packedCorner 0 = .ok (.aload_n 0, 1) := by decide +kernel
theorem dX0_packedCorner_1 : decode cX0_packedCorner 1 = .ok (.getfield 9, 3) := by decide +kernel
theorem dX0_packedCorner_4 : decode cX0_packedCorner 4 = .ok (.iload_n 1, 1) := by decide +kernel
theorem dX0_packedCorner_5 : decode cX0_packedCorner 5 = .ok (.laload, 1) := by decide +kernel
theorem dX0_packedCorner_6 : decode cX0_packedCorner 6 = .ok (.ldc2_w 27, 3) := by decide +kernel
theorem dX0_packedCorner_9 : decode cX0_packedCorner 9 = .ok (.ladd, 1) := by decide +kernel
theorem dX0_packedCorner_10 : decode cX0_packedCorner 10 = .ok (.ldc2_w 29, 3) := by decide +kernel
theorem dX0_packedCorner_13 : decode cX0_packedCorner 13 = .ok (.lmul, 1) := by decide +kernel
theorem dX0_packedCorner_14 : decode cX0_packedCorner 14 = .ok (.aload_n 0, 1) := by decide +kernel
theorem dX0_packedCorner_15 : decode cX0_packedCorner 15 = .ok (.getfield 15, 3) := by decide +kernel
theorem dX0_packedCorner_18 : decode cX0_packedCorner 18 = .ok (.iload_n 1, 1) := by decide +kernel
theorem dX0_packedCorner_19 : decode cX0_packedCorner 19 = .ok (.laload, 1) := by decide +kernel
theorem dX0_packedCorner_20 : decode cX0_packedCorner 20 = .ok (.ladd, 1) := by decide +kernel
theorem dX0_packedCorner_21 : decode cX0_packedCorner 21 = .ok (.ldc2_w 27, 3) := by decide +kernel
theorem dX0_packedCorner_24 : decode cX0_packedCorner 24 = .ok (.ladd, 1) := by decide +kernel
theorem dX0_packedCorner_25 : decode cX0_packedCorner 25 = .ok (.lstore_n 2, 1) := by decide +kernel
theorem dX0_packedCorner_26 : decode cX0_packedCorner 26 = .ok (.lload_n 2, 1) := by decide +kernel
theorem dX0_packedCorner_27 : decode cX0_packedCorner 27 = .ok (.ldc2_w 31, 3) := by decide +kernel
theorem dX0_packedCorner_30 : decode cX0_packedCorner 30 = .ok (.lmul, 1) := by decide +kernel
theorem dX0_packedCorner_31 : decode cX0_packedCorner 31 = .ok (.aload_n 0, 1) := by decide +kernel
theorem dX0_packedCorner_32 : decode cX0_packedCorner 32 = .ok (.getfield 18, 3) := by decide +kernel
theorem dX0_packedCorner_35 : decode cX0_packedCorner 35 = .ok (.iload_n 1, 1) := by decide +kernel
theorem dX0_packedCorner_36 : decode cX0_packedCorner 36 = .ok (.laload, 1) := by decide +kernel
theorem dX0_packedCorner_37 : decode cX0_packedCorner 37 = .ok (.ladd, 1) := by decide +kernel
theorem dX0_packedCorner_38 : decode cX0_packedCorner 38 = .ok (.lconst 1, 1) := by decide +kernel
theorem dX0_packedCorner_39 : decode cX0_packedCorner 39 = .ok (.lsub, 1) := by decide +kernel
theorem dX0_packedCorner_40 : decode cX0_packedCorner 40 = .ok (.ldc2_w 33, 3) := by decide +kernel
theorem dX0_packedCorner_43 : decode cX0_packedCorner 43 = .ok (.lmul, 1) := by decide +kernel
theorem dX0_packedCorner_44 : decode cX0_packedCorner 44 = .ok (.aload_n 0, 1) := by decide +kernel
theorem dX0_packedCorner_45 : decode cX0_packedCorner 45 = .ok (.getfield 21, 3) := by decide +kernel
theorem dX0_packedCorner_48 : decode cX0_packedCorner 48 = .ok (.iload_n 1, 1) := by decide +kernel
theorem dX0_packedCorner_49 : decode cX0_packedCorner 49 = .ok (.laload, 1) := by decide +kernel
theorem dX0_packedCorner_50 : decode cX0_packedCorner 50 = .ok (.ladd, 1) := by decide +kernel
theorem dX0_packedCorner_51 : decode cX0_packedCorner 51 = .ok (.lreturn, 1) := by decide +kernel
theorem dX0_unpackCorner_0 : decode cX0_unpackCorner 0 = .ok (.lload_n 2, 1) := by decide +kernel
theorem dX0_unpackCorner_1 : decode cX0_unpackCorner 1 = .ok (.ldc2_w 33, 3) := by decide +kernel
theorem dX0_unpackCorner_4 : decode cX0_unpackCorner 4 = .ok (.ldiv, 1) := by decide +kernel
theorem dX0_unpackCorner_5 : decode cX0_unpackCorner 5 = .ok (.lstore 4, 2) := by decide +kernel
theorem dX0_unpackCorner_7 : decode cX0_unpackCorner 7 = .ok (.lload 4, 2) := by decide +kernel
theorem dX0_unpackCorner_9 : decode cX0_unpackCorner 9 = .ok (.ldc2_w 31, 3) := by decide +kernel
theorem dX0_unpackCorner_12 : decode cX0_unpackCorner 12 = .ok (.ldiv, 1) := by decide +kernel
theorem dX0_unpackCorner_13 : decode cX0_unpackCorner 13 = .ok (.lstore 6, 2) := by decide +kernel
theorem dX0_unpackCorner_15 : decode cX0_unpackCorner 15 = .ok (.aload_n 0, 1) := by decide +kernel
theorem dX0_unpackCorner_16 : decode cX0_unpackCorner 16 = .ok (.iload_n 1, 1) := by decide +kernel
theorem dX0_unpackCorner_17 : decode cX0_unpackCorner 17 = .ok (.lload 6, 2) := by decide +kernel
theorem dX0_unpackCorner_19 : decode cX0_unpackCorner 19 = .ok (.ldc2_w 29, 3) := by decide +kernel
theorem dX0_unpackCorner_22 : decode cX0_unpackCorner 22 = .ok (.ldiv, 1) := by decide +kernel
theorem dX0_unpackCorner_23 : decode cX0_unpackCorner 23 = .ok (.ldc2_w 27, 3) := by decide +kernel
theorem dX0_unpackCorner_26 : decode cX0_unpackCorner 26 = .ok (.lsub, 1) := by decide +kernel
theorem dX0_unpackCorner_27 : decode cX0_unpackCorner 27 = .ok (.lload 6, 2) := by decide +kernel
theorem dX0_unpackCorner_29 : decode cX0_unpackCorner 29 = .ok (.ldc2_w 29, 3) := by decide +kernel
theorem dX0_unpackCorner_32 : decode cX0_unpackCorner 32 = .ok (.lrem, 1) := by decide +kernel
theorem dX0_unpackCorner_33 : decode cX0_unpackCorner 33 = .ok (.ldc2_w 27, 3) := by decide +kernel
theorem dX0_unpackCorner_36 : decode cX0_unpackCorner 36 = .ok (.lsub, 1) := by decide +kernel
theorem dX0_unpackCorner_37 : decode cX0_unpackCorner 37 = .ok (.lload 4, 2) := by decide +kernel
theorem dX0_unpackCorner_39 : decode cX0_unpackCorner 39 = .ok (.ldc2_w 31, 3) := by decide +kernel
theorem dX0_unpackCorner_42 : decode cX0_unpackCorner 42 = .ok (.lrem, 1) := by decide +kernel
theorem dX0_unpackCorner_43 : decode cX0_unpackCorner 43 = .ok (.lconst 1, 1) := by decide +kernel
theorem dX0_unpackCorner_44 : decode cX0_unpackCorner 44 = .ok (.ladd, 1) := by decide +kernel
theorem dX0_unpackCorner_45 : decode cX0_unpackCorner 45 = .ok (.lload_n 2, 1) := by decide +kernel
theorem dX0_unpackCorner_46 : decode cX0_unpackCorner 46 = .ok (.ldc2_w 33, 3) := by decide +kernel
theorem dX0_unpackCorner_49 : decode cX0_unpackCorner 49 = .ok (.lrem, 1) := by decide +kernel
theorem dX0_unpackCorner_50 : decode cX0_unpackCorner 50 = .ok (.invokevirtual 35, 3) := by decide +kernel
theorem dX0_unpackCorner_53 : decode cX0_unpackCorner 53 = .ok (.return_, 1) := by decide +kernel
theorem dX0_area_0 : decode cX0_area 0 = .ok (.aload_n 0, 1) := by decide +kernel
theorem dX0_area_1 : decode cX0_area 1 = .ok (.getfield 9, 3) := by decide +kernel
theorem dX0_area_4 : decode cX0_area 4 = .ok (.iconst 1, 1) := by decide +kernel
theorem dX0_area_5 : decode cX0_area 5 = .ok (.laload, 1) := by decide +kernel
theorem dX0_area_6 : decode cX0_area 6 = .ok (.aload_n 0, 1) := by decide +kernel
theorem dX0_area_7 : decode cX0_area 7 = .ok (.getfield 9, 3) := by decide +kernel
theorem dX0_area_10 : decode cX0_area 10 = .ok (.iconst 0, 1) := by decide +kernel
theorem dX0_area_11 : decode cX0_area 11 = .ok (.laload, 1) := by decide +kernel
theorem dX0_area_12 : decode cX0_area 12 = .ok (.lsub, 1) := by decide +kernel
theorem dX0_area_13 : decode cX0_area 13 = .ok (.aload_n 0, 1) := by decide +kernel
theorem dX0_area_14 : decode cX0_area 14 = .ok (.getfield 15, 3) := by decide +kernel
theorem dX0_area_17 : decode cX0_area 17 = .ok (.iconst 2, 1) := by decide +kernel
theorem dX0_area_18 : decode cX0_area 18 = .ok (.laload, 1) := by decide +kernel
theorem dX0_area_19 : decode cX0_area 19 = .ok (.aload_n 0, 1) := by decide +kernel
theorem dX0_area_20 : decode cX0_area 20 = .ok (.getfield 15, 3) := by decide +kernel
theorem dX0_area_23 : decode cX0_area 23 = .ok (.iconst 0, 1) := by decide +kernel
theorem dX0_area_24 : decode cX0_area 24 = .ok (.laload, 1) := by decide +kernel
theorem dX0_area_25 : decode cX0_area 25 = .ok (.lsub, 1) := by decide +kernel
theorem dX0_area_26 : decode cX0_area 26 = .ok (.lmul, 1) := by decide +kernel
theorem dX0_area_27 : decode cX0_area 27 = .ok (.aload_n 0, 1) := by decide +kernel
theorem dX0_area_28 : decode cX0_area 28 = .ok (.getfield 9, 3) := by decide +kernel
theorem dX0_area_31 : decode cX0_area 31 = .ok (.iconst 2, 1) := by decide +kernel
theorem dX0_area_32 : decode cX0_area 32 = .ok (.laload, 1) := by decide +kernel
theorem dX0_area_33 : decode cX0_area 33 = .ok (.aload_n 0, 1) := by decide +kernel
theorem dX0_area_34 : decode cX0_area 34 = .ok (.getfield 9, 3) := by decide +kernel
theorem dX0_area_37 : decode cX0_area 37 = .ok (.iconst 0, 1) := by decide +kernel
theorem dX0_area_38 : decode cX0_area 38 = .ok (.laload, 1) := by decide +kernel
theorem dX0_area_39 : decode cX0_area 39 = .ok (.lsub, 1) := by decide +kernel
theorem dX0_area_40 : decode cX0_area 40 = .ok (.aload_n 0, 1) := by decide +kernel
theorem dX0_area_41 : decode cX0_area 41 = .ok (.getfield 15, 3) := by decide +kernel
theorem dX0_area_44 : decode cX0_area 44 = .ok (.iconst 1, 1) := by decide +kernel
theorem dX0_area_45 : decode cX0_area 45 = .ok (.laload, 1) := by decide +kernel
theorem dX0_area_46 : decode cX0_area 46 = .ok (.aload_n 0, 1) := by decide +kernel
theorem dX0_area_47 : decode cX0_area 47 = .ok (.getfield 15, 3) := by decide +kernel
theorem dX0_area_50 : decode cX0_area 50 = .ok (.iconst 0, 1) := by decide +kernel
theorem dX0_area_51 : decode cX0_area 51 = .ok (.laload, 1) := by decide +kernel
theorem dX0_area_52 : decode cX0_area 52 = .ok (.lsub, 1) := by decide +kernel
theorem dX0_area_53 : decode cX0_area 53 = .ok (.lmul, 1) := by decide +kernel
theorem dX0_area_54 : decode cX0_area 54 = .ok (.lsub, 1) := by decide +kernel
theorem dX0_area_55 : decode cX0_area 55 = .ok (.lreturn, 1) := by decide +kernel
theorem dX0_coversPixel_0 : decode cX0_coversPixel 0 = .ok (.bipush 16, 2) := by decide +kernel
theorem dX0_coversPixel_2 : decode cX0_coversPixel 2 = .ok (.iload_n 1, 1) := by decide +kernel
theorem dX0_coversPixel_3 : decode cX0_coversPixel 3 = .ok (.imul, 1) := by decide +kernel
theorem dX0_coversPixel_4 : decode cX0_coversPixel 4 = .ok (.bipush 8, 2) := by decide +kernel
theorem dX0_coversPixel_6 : decode cX0_coversPixel 6 = .ok (.iadd, 1) := by decide +kernel
theorem dX0_coversPixel_7 : decode cX0_coversPixel 7 = .ok (.i2l, 1) := by decide +kernel
theorem dX0_coversPixel_8 : decode cX0_coversPixel 8 = .ok (.lstore_n 3, 1) := by decide +kernel
theorem dX0_coversPixel_9 : decode cX0_coversPixel 9 = .ok (.bipush 16, 2) := by decide +kernel
theorem dX0_coversPixel_11 : decode cX0_coversPixel 11 = .ok (.iload_n 2, 1) := by decide +kernel
theorem dX0_coversPixel_12 : decode cX0_coversPixel 12 = .ok (.imul, 1) := by decide +kernel
theorem dX0_coversPixel_13 : decode cX0_coversPixel 13 = .ok (.bipush 8, 2) := by decide +kernel
theorem dX0_coversPixel_15 : decode cX0_coversPixel 15 = .ok (.iadd, 1) := by decide +kernel
theorem dX0_coversPixel_16 : decode cX0_coversPixel 16 = .ok (.i2l, 1) := by decide +kernel
theorem dX0_coversPixel_17 : decode cX0_coversPixel 17 = .ok (.lstore 5, 2) := by decide +kernel
theorem dX0_coversPixel_19 : decode cX0_coversPixel 19 = .ok (.iconst 0, 1) := by decide +kernel
theorem dX0_coversPixel_20 : decode cX0_coversPixel 20 = .ok (.istore 7, 2) := by decide +kernel
theorem dX0_coversPixel_22 : decode cX0_coversPixel 22 = .ok (.iload 7, 2) := by decide +kernel
theorem dX0_coversPixel_24 : decode cX0_coversPixel 24 = .ok (.iconst 3, 1) := by decide +kernel
theorem dX0_coversPixel_25 : decode cX0_coversPixel 25 = .ok (.if_icmp .ge 115, 3) := by decide +kernel
theorem dX0_coversPixel_28 : decode cX0_coversPixel 28 = .ok (.iload 7, 2) := by decide +kernel
theorem dX0_coversPixel_30 : decode cX0_coversPixel 30 = .ok (.iconst 1, 1) := by decide +kernel
theorem dX0_coversPixel_31 : decode cX0_coversPixel 31 = .ok (.iadd, 1) := by decide +kernel
theorem dX0_coversPixel_32 : decode cX0_coversPixel 32 = .ok (.iconst 3, 1) := by decide +kernel
theorem dX0_coversPixel_33 : decode cX0_coversPixel 33 = .ok (.irem, 1) := by decide +kernel
theorem dX0_coversPixel_34 : decode cX0_coversPixel 34 = .ok (.istore 8, 2) := by decide +kernel
theorem dX0_coversPixel_36 : decode cX0_coversPixel 36 = .ok (.iload 7, 2) := by decide +kernel
theorem dX0_coversPixel_38 : decode cX0_coversPixel 38 = .ok (.iconst 2, 1) := by decide +kernel
theorem dX0_coversPixel_39 : decode cX0_coversPixel 39 = .ok (.iadd, 1) := by decide +kernel
theorem dX0_coversPixel_40 : decode cX0_coversPixel 40 = .ok (.iconst 3, 1) := by decide +kernel
theorem dX0_coversPixel_41 : decode cX0_coversPixel 41 = .ok (.irem, 1) := by decide +kernel
theorem dX0_coversPixel_42 : decode cX0_coversPixel 42 = .ok (.istore 9, 2) := by decide +kernel
theorem dX0_coversPixel_44 : decode cX0_coversPixel 44 = .ok (.aload_n 0, 1) := by decide +kernel
theorem dX0_coversPixel_45 : decode cX0_coversPixel 45 = .ok (.getfield 9, 3) := by decide +kernel
theorem dX0_coversPixel_48 : decode cX0_coversPixel 48 = .ok (.iload 9, 2) := by decide +kernel
theorem dX0_coversPixel_50 : decode cX0_coversPixel 50 = .ok (.laload, 1) := by decide +kernel
theorem dX0_coversPixel_51 : decode cX0_coversPixel 51 = .ok (.aload_n 0, 1) := by decide +kernel
theorem dX0_coversPixel_52 : decode cX0_coversPixel 52 = .ok (.getfield 9, 3) := by decide +kernel
theorem dX0_coversPixel_55 : decode cX0_coversPixel 55 = .ok (.iload 8, 2) := by decide +kernel
theorem dX0_coversPixel_57 : decode cX0_coversPixel 57 = .ok (.laload, 1) := by decide +kernel
theorem dX0_coversPixel_58 : decode cX0_coversPixel 58 = .ok (.lsub, 1) := by decide +kernel
theorem dX0_coversPixel_59 : decode cX0_coversPixel 59 = .ok (.lload 5, 2) := by decide +kernel
theorem dX0_coversPixel_61 : decode cX0_coversPixel 61 = .ok (.aload_n 0, 1) := by decide +kernel
theorem dX0_coversPixel_62 : decode cX0_coversPixel 62 = .ok (.getfield 15, 3) := by decide +kernel
theorem dX0_coversPixel_65 : decode cX0_coversPixel 65 = .ok (.iload 8, 2) := by decide +kernel
theorem dX0_coversPixel_67 : decode cX0_coversPixel 67 = .ok (.laload, 1) := by decide +kernel
theorem dX0_coversPixel_68 : decode cX0_coversPixel 68 = .ok (.lsub, 1) := by decide +kernel
theorem dX0_coversPixel_69 : decode cX0_coversPixel 69 = .ok (.lmul, 1) := by decide +kernel
theorem dX0_coversPixel_70 : decode cX0_coversPixel 70 = .ok (.aload_n 0, 1) := by decide +kernel
theorem dX0_coversPixel_71 : decode cX0_coversPixel 71 = .ok (.getfield 15, 3) := by decide +kernel
theorem dX0_coversPixel_74 : decode cX0_coversPixel 74 = .ok (.iload 9, 2) := by decide +kernel
theorem dX0_coversPixel_76 : decode cX0_coversPixel 76 = .ok (.laload, 1) := by decide +kernel
theorem dX0_coversPixel_77 : decode cX0_coversPixel 77 = .ok (.aload_n 0, 1) := by decide +kernel
theorem dX0_coversPixel_78 : decode cX0_coversPixel 78 = .ok (.getfield 15, 3) := by decide +kernel
theorem dX0_coversPixel_81 : decode cX0_coversPixel 81 = .ok (.iload 8, 2) := by decide +kernel
theorem dX0_coversPixel_83 : decode cX0_coversPixel 83 = .ok (.laload, 1) := by decide +kernel
theorem dX0_coversPixel_84 : decode cX0_coversPixel 84 = .ok (.lsub, 1) := by decide +kernel
theorem dX0_coversPixel_85 : decode cX0_coversPixel 85 = .ok (.lload_n 3, 1) := by decide +kernel
theorem dX0_coversPixel_86 : decode cX0_coversPixel 86 = .ok (.aload_n 0, 1) := by decide +kernel
theorem dX0_coversPixel_87 : decode cX0_coversPixel 87 = .ok (.getfield 9, 3) := by decide +kernel
theorem dX0_coversPixel_90 : decode cX0_coversPixel 90 = .ok (.iload 8, 2) := by decide +kernel
theorem dX0_coversPixel_92 : decode cX0_coversPixel 92 = .ok (.laload, 1) := by decide +kernel
theorem dX0_coversPixel_93 : decode cX0_coversPixel 93 = .ok (.lsub, 1) := by decide +kernel
theorem dX0_coversPixel_94 : decode cX0_coversPixel 94 = .ok (.lmul, 1) := by decide +kernel
theorem dX0_coversPixel_95 : decode cX0_coversPixel 95 = .ok (.lsub, 1) := by decide +kernel
theorem dX0_coversPixel_96 : decode cX0_coversPixel 96 = .ok (.lstore 10, 2) := by decide +kernel
theorem dX0_coversPixel_98 : decode cX0_coversPixel 98 = .ok (.lload 10, 2) := by decide +kernel
theorem dX0_coversPixel_100 : decode cX0_coversPixel 100 = .ok (.lconst 0, 1) := by decide +kernel
theorem dX0_coversPixel_101 : decode cX0_coversPixel 101 = .ok (.lcmp, 1) := by decide +kernel
theorem dX0_coversPixel_102 : decode cX0_coversPixel 102 = .ok (.ifCond .lt 21, 3) := by decide +kernel
theorem dX0_coversPixel_105 : decode cX0_coversPixel 105 = .ok (.lload 10, 2) := by decide +kernel
theorem dX0_coversPixel_107 : decode cX0_coversPixel 107 = .ok (.lconst 0, 1) := by decide +kernel
theorem dX0_coversPixel_108 : decode cX0_coversPixel 108 = .ok (.lcmp, 1) := by decide +kernel
theorem dX0_coversPixel_109 : decode cX0_coversPixel 109 = .ok (.ifCond .ne 16, 3) := by decide +kernel
theorem dX0_coversPixel_112 : decode cX0_coversPixel 112 = .ok (.aload_n 0, 1) := by decide +kernel
theorem dX0_coversPixel_113 : decode cX0_coversPixel 113 = .ok (.iload 8, 2) := by decide +kernel
theorem dX0_coversPixel_115 : decode cX0_coversPixel 115 = .ok (.iload 9, 2) := by decide +kernel
theorem dX0_coversPixel_117 : decode cX0_coversPixel 117 = .ok (.invokevirtual 39, 3) := by decide +kernel
theorem dX0_coversPixel_120 : decode cX0_coversPixel 120 = .ok (.ifCond .ne 5, 3) := by decide +kernel
theorem dX0_coversPixel_123 : decode cX0_coversPixel 123 = .ok (.iconst 0, 1) := by decide +kernel
theorem dX0_coversPixel_124 : decode cX0_coversPixel 124 = .ok (.ireturn, 1) := by decide +kernel
theorem dX0_coversPixel_125 : decode cX0_coversPixel 125 = .ok (.aload_n 0, 1) := by decide +kernel
theorem dX0_coversPixel_126 : decode cX0_coversPixel 126 = .ok (.getfield 24, 3) := by decide +kernel
theorem dX0_coversPixel_129 : decode cX0_coversPixel 129 = .ok (.iload 7, 2) := by decide +kernel
theorem dX0_coversPixel_131 : decode cX0_coversPixel 131 = .ok (.lload 10, 2) := by decide +kernel
theorem dX0_coversPixel_133 : decode cX0_coversPixel 133 = .ok (.lastore, 1) := by decide +kernel
theorem dX0_coversPixel_134 : decode cX0_coversPixel 134 = .ok (.iinc 7 1, 3) := by decide +kernel
theorem dX0_coversPixel_137 : decode cX0_coversPixel 137 = .ok (.goto (-115), 3) := by decide +kernel
theorem dX0_coversPixel_140 : decode cX0_coversPixel 140 = .ok (.iconst 1, 1) := by decide +kernel
theorem dX0_coversPixel_141 : decode cX0_coversPixel 141 = .ok (.ireturn, 1) := by decide +kernel
theorem dX0_ownsItsEdge_0 : decode cX0_ownsItsEdge 0 = .ok (.aload_n 0, 1) := by decide +kernel
theorem dX0_ownsItsEdge_1 : decode cX0_ownsItsEdge 1 = .ok (.getfield 15, 3) := by decide +kernel
theorem dX0_ownsItsEdge_4 : decode cX0_ownsItsEdge 4 = .ok (.iload_n 2, 1) := by decide +kernel
theorem dX0_ownsItsEdge_5 : decode cX0_ownsItsEdge 5 = .ok (.laload, 1) := by decide +kernel
theorem dX0_ownsItsEdge_6 : decode cX0_ownsItsEdge 6 = .ok (.aload_n 0, 1) := by decide +kernel
theorem dX0_ownsItsEdge_7 : decode cX0_ownsItsEdge 7 = .ok (.getfield 15, 3) := by decide +kernel
theorem dX0_ownsItsEdge_10 : decode cX0_ownsItsEdge 10 = .ok (.iload_n 1, 1) := by decide +kernel
theorem dX0_ownsItsEdge_11 : decode cX0_ownsItsEdge 11 = .ok (.laload, 1) := by decide +kernel
theorem dX0_ownsItsEdge_12 : decode cX0_ownsItsEdge 12 = .ok (.lcmp, 1) := by decide +kernel
theorem dX0_ownsItsEdge_13 : decode cX0_ownsItsEdge 13 = .ok (.ifCond .lt 35, 3) := by decide +kernel
theorem dX0_ownsItsEdge_16 : decode cX0_ownsItsEdge 16 = .ok (.aload_n 0, 1) := by decide +kernel
theorem dX0_ownsItsEdge_17 : decode cX0_ownsItsEdge 17 = .ok (.getfield 15, 3) := by decide +kernel
theorem dX0_ownsItsEdge_20 : decode cX0_ownsItsEdge 20 = .ok (.iload_n 2, 1) := by decide +kernel
theorem dX0_ownsItsEdge_21 : decode cX0_ownsItsEdge 21 = .ok (.laload, 1) := by decide +kernel
theorem dX0_ownsItsEdge_22 : decode cX0_ownsItsEdge 22 = .ok (.aload_n 0, 1) := by decide +kernel
theorem dX0_ownsItsEdge_23 : decode cX0_ownsItsEdge 23 = .ok (.getfield 15, 3) := by decide +kernel
theorem dX0_ownsItsEdge_26 : decode cX0_ownsItsEdge 26 = .ok (.iload_n 1, 1) := by decide +kernel
theorem dX0_ownsItsEdge_27 : decode cX0_ownsItsEdge 27 = .ok (.laload, 1) := by decide +kernel
theorem dX0_ownsItsEdge_28 : decode cX0_ownsItsEdge 28 = .ok (.lcmp, 1) := by decide +kernel
theorem dX0_ownsItsEdge_29 : decode cX0_ownsItsEdge 29 = .ok (.ifCond .ne 23, 3) := by decide +kernel
theorem dX0_ownsItsEdge_32 : decode cX0_ownsItsEdge 32 = .ok (.aload_n 0, 1) := by decide +kernel
theorem dX0_ownsItsEdge_33 : decode cX0_ownsItsEdge 33 = .ok (.getfield 9, 3) := by decide +kernel
theorem dX0_ownsItsEdge_36 : decode cX0_ownsItsEdge 36 = .ok (.iload_n 2, 1) := by decide +kernel
theorem dX0_ownsItsEdge_37 : decode cX0_ownsItsEdge 37 = .ok (.laload, 1) := by decide +kernel
theorem dX0_ownsItsEdge_38 : decode cX0_ownsItsEdge 38 = .ok (.aload_n 0, 1) := by decide +kernel
theorem dX0_ownsItsEdge_39 : decode cX0_ownsItsEdge 39 = .ok (.getfield 9, 3) := by decide +kernel
theorem dX0_ownsItsEdge_42 : decode cX0_ownsItsEdge 42 = .ok (.iload_n 1, 1) := by decide +kernel
theorem dX0_ownsItsEdge_43 : decode cX0_ownsItsEdge 43 = .ok (.laload, 1) := by decide +kernel
theorem dX0_ownsItsEdge_44 : decode cX0_ownsItsEdge 44 = .ok (.lcmp, 1) := by decide +kernel
theorem dX0_ownsItsEdge_45 : decode cX0_ownsItsEdge 45 = .ok (.ifCond .le 7, 3) := by decide +kernel
theorem dX0_ownsItsEdge_48 : decode cX0_ownsItsEdge 48 = .ok (.iconst 1, 1) := by decide +kernel
theorem dX0_ownsItsEdge_49 : decode cX0_ownsItsEdge 49 = .ok (.goto 4, 3) := by decide +kernel
theorem dX0_ownsItsEdge_52 : decode cX0_ownsItsEdge 52 = .ok (.iconst 0, 1) := by decide +kernel
theorem dX0_ownsItsEdge_53 : decode cX0_ownsItsEdge 53 = .ok (.ireturn, 1) := by decide +kernel
theorem dX0_weighedR_0 : decode cX0_weighedR 0 = .ok (.aload_n 0, 1) := by decide +kernel
theorem dX0_weighedR_1 : decode cX0_weighedR 1 = .ok (.getfield 24, 3) := by decide +kernel
theorem dX0_weighedR_4 : decode cX0_weighedR 4 = .ok (.iconst 0, 1) := by decide +kernel
theorem dX0_weighedR_5 : decode cX0_weighedR 5 = .ok (.laload, 1) := by decide +kernel
theorem dX0_weighedR_6 : decode cX0_weighedR 6 = .ok (.aload_n 0, 1) := by decide +kernel
theorem dX0_weighedR_7 : decode cX0_weighedR 7 = .ok (.getfield 18, 3) := by decide +kernel
theorem dX0_weighedR_10 : decode cX0_weighedR 10 = .ok (.iconst 0, 1) := by decide +kernel
theorem dX0_weighedR_11 : decode cX0_weighedR 11 = .ok (.laload, 1) := by decide +kernel
theorem dX0_weighedR_12 : decode cX0_weighedR 12 = .ok (.lmul, 1) := by decide +kernel
theorem dX0_weighedR_13 : decode cX0_weighedR 13 = .ok (.aload_n 0, 1) := by decide +kernel
theorem dX0_weighedR_14 : decode cX0_weighedR 14 = .ok (.getfield 24, 3) := by decide +kernel
theorem dX0_weighedR_17 : decode cX0_weighedR 17 = .ok (.iconst 1, 1) := by decide +kernel
theorem dX0_weighedR_18 : decode cX0_weighedR 18 = .ok (.laload, 1) := by decide +kernel
theorem dX0_weighedR_19 : decode cX0_weighedR 19 = .ok (.aload_n 0, 1) := by decide +kernel
theorem dX0_weighedR_20 : decode cX0_weighedR 20 = .ok (.getfield 18, 3) := by decide +kernel
theorem dX0_weighedR_23 : decode cX0_weighedR 23 = .ok (.iconst 1, 1) := by decide +kernel
theorem dX0_weighedR_24 : decode cX0_weighedR 24 = .ok (.laload, 1) := by decide +kernel
theorem dX0_weighedR_25 : decode cX0_weighedR 25 = .ok (.lmul, 1) := by decide +kernel
theorem dX0_weighedR_26 : decode cX0_weighedR 26 = .ok (.ladd, 1) := by decide +kernel
theorem dX0_weighedR_27 : decode cX0_weighedR 27 = .ok (.aload_n 0, 1) := by decide +kernel
theorem dX0_weighedR_28 : decode cX0_weighedR 28 = .ok (.getfield 24, 3) := by decide +kernel
theorem dX0_weighedR_31 : decode cX0_weighedR 31 = .ok (.iconst 2, 1) := by decide +kernel
theorem dX0_weighedR_32 : decode cX0_weighedR 32 = .ok (.laload, 1) := by decide +kernel
theorem dX0_weighedR_33 : decode cX0_weighedR 33 = .ok (.aload_n 0, 1) := by decide +kernel
theorem dX0_weighedR_34 : decode cX0_weighedR 34 = .ok (.getfield 18, 3) := by decide +kernel
theorem dX0_weighedR_37 : decode cX0_weighedR 37 = .ok (.iconst 2, 1) := by decide +kernel
theorem dX0_weighedR_38 : decode cX0_weighedR 38 = .ok (.laload, 1) := by decide +kernel
theorem dX0_weighedR_39 : decode cX0_weighedR 39 = .ok (.lmul, 1) := by decide +kernel
theorem dX0_weighedR_40 : decode cX0_weighedR 40 = .ok (.ladd, 1) := by decide +kernel
theorem dX0_weighedR_41 : decode cX0_weighedR 41 = .ok (.lreturn, 1) := by decide +kernel
theorem dX0_nearnessHere_0 : decode cX0_nearnessHere 0 = .ok (.aload_n 0, 1) := by decide +kernel
theorem dX0_nearnessHere_1 : decode cX0_nearnessHere 1 = .ok (.invokevirtual 43, 3) := by decide +kernel
theorem dX0_nearnessHere_4 : decode cX0_nearnessHere 4 = .ok (.aload_n 0, 1) := by decide +kernel
theorem dX0_nearnessHere_5 : decode cX0_nearnessHere 5 = .ok (.invokevirtual 47, 3) := by decide +kernel
theorem dX0_nearnessHere_8 : decode cX0_nearnessHere 8 = .ok (.invokestatic 50, 3) := by decide +kernel
theorem dX0_nearnessHere_11 : decode cX0_nearnessHere 11 = .ok (.lreturn, 1) := by decide +kernel
theorem dX0_lightHere_0 : decode cX0_lightHere 0 = .ok (.aload_n 0, 1) := by decide +kernel
theorem dX0_lightHere_1 : decode cX0_lightHere 1 = .ok (.getfield 24, 3) := by decide +kernel
theorem dX0_lightHere_4 : decode cX0_lightHere 4 = .ok (.iconst 0, 1) := by decide +kernel
theorem dX0_lightHere_5 : decode cX0_lightHere 5 = .ok (.laload, 1) := by decide +kernel
theorem dX0_lightHere_6 : decode cX0_lightHere 6 = .ok (.aload_n 0, 1) := by decide +kernel
theorem dX0_lightHere_7 : decode cX0_lightHere 7 = .ok (.getfield 18, 3) := by decide +kernel
theorem dX0_lightHere_10 : decode cX0_lightHere 10 = .ok (.iconst 0, 1) := by decide +kernel
theorem dX0_lightHere_11 : decode cX0_lightHere 11 = .ok (.laload, 1) := by decide +kernel
theorem dX0_lightHere_12 : decode cX0_lightHere 12 = .ok (.lmul, 1) := by decide +kernel
theorem dX0_lightHere_13 : decode cX0_lightHere 13 = .ok (.aload_n 0, 1) := by decide +kernel
theorem dX0_lightHere_14 : decode cX0_lightHere 14 = .ok (.getfield 21, 3) := by decide +kernel
theorem dX0_lightHere_17 : decode cX0_lightHere 17 = .ok (.iconst 0, 1) := by decide +kernel
theorem dX0_lightHere_18 : decode cX0_lightHere 18 = .ok (.laload, 1) := by decide +kernel
theorem dX0_lightHere_19 : decode cX0_lightHere 19 = .ok (.lmul, 1) := by decide +kernel
theorem dX0_lightHere_20 : decode cX0_lightHere 20 = .ok (.aload_n 0, 1) := by decide +kernel
theorem dX0_lightHere_21 : decode cX0_lightHere 21 = .ok (.getfield 24, 3) := by decide +kernel
theorem dX0_lightHere_24 : decode cX0_lightHere 24 = .ok (.iconst 1, 1) := by decide +kernel
theorem dX0_lightHere_25 : decode cX0_lightHere 25 = .ok (.laload, 1) := by decide +kernel
theorem dX0_lightHere_26 : decode cX0_lightHere 26 = .ok (.aload_n 0, 1) := by decide +kernel
theorem dX0_lightHere_27 : decode cX0_lightHere 27 = .ok (.getfield 18, 3) := by decide +kernel
theorem dX0_lightHere_30 : decode cX0_lightHere 30 = .ok (.iconst 1, 1) := by decide +kernel
theorem dX0_lightHere_31 : decode cX0_lightHere 31 = .ok (.laload, 1) := by decide +kernel
theorem dX0_lightHere_32 : decode cX0_lightHere 32 = .ok (.lmul, 1) := by decide +kernel
theorem dX0_lightHere_33 : decode cX0_lightHere 33 = .ok (.aload_n 0, 1) := by decide +kernel
theorem dX0_lightHere_34 : decode cX0_lightHere 34 = .ok (.getfield 21, 3) := by decide +kernel
theorem dX0_lightHere_37 : decode cX0_lightHere 37 = .ok (.iconst 1, 1) := by decide +kernel
theorem dX0_lightHere_38 : decode cX0_lightHere 38 = .ok (.laload, 1) := by decide +kernel
theorem dX0_lightHere_39 : decode cX0_lightHere 39 = .ok (.lmul, 1) := by decide +kernel
theorem dX0_lightHere_40 : decode cX0_lightHere 40 = .ok (.ladd, 1) := by decide +kernel
theorem dX0_lightHere_41 : decode cX0_lightHere 41 = .ok (.aload_n 0, 1) := by decide +kernel
theorem dX0_lightHere_42 : decode cX0_lightHere 42 = .ok (.getfield 24, 3) := by decide +kernel
theorem dX0_lightHere_45 : decode cX0_lightHere 45 = .ok (.iconst 2, 1) := by decide +kernel
theorem dX0_lightHere_46 : decode cX0_lightHere 46 = .ok (.laload, 1) := by decide +kernel
theorem dX0_lightHere_47 : decode cX0_lightHere 47 = .ok (.aload_n 0, 1) := by decide +kernel
theorem dX0_lightHere_48 : decode cX0_lightHere 48 = .ok (.getfield 18, 3) := by decide +kernel
theorem dX0_lightHere_51 : decode cX0_lightHere 51 = .ok (.iconst 2, 1) := by decide +kernel
theorem dX0_lightHere_52 : decode cX0_lightHere 52 = .ok (.laload, 1) := by decide +kernel
theorem dX0_lightHere_53 : decode cX0_lightHere 53 = .ok (.lmul, 1) := by decide +kernel
theorem dX0_lightHere_54 : decode cX0_lightHere 54 = .ok (.aload_n 0, 1) := by decide +kernel
theorem dX0_lightHere_55 : decode cX0_lightHere 55 = .ok (.getfield 21, 3) := by decide +kernel
theorem dX0_lightHere_58 : decode cX0_lightHere 58 = .ok (.iconst 2, 1) := by decide +kernel
theorem dX0_lightHere_59 : decode cX0_lightHere 59 = .ok (.laload, 1) := by decide +kernel
theorem dX0_lightHere_60 : decode cX0_lightHere 60 = .ok (.lmul, 1) := by decide +kernel
theorem dX0_lightHere_61 : decode cX0_lightHere 61 = .ok (.ladd, 1) := by decide +kernel
theorem dX0_lightHere_62 : decode cX0_lightHere 62 = .ok (.lstore_n 1, 1) := by decide +kernel
theorem dX0_lightHere_63 : decode cX0_lightHere 63 = .ok (.lload_n 1, 1) := by decide +kernel
theorem dX0_lightHere_64 : decode cX0_lightHere 64 = .ok (.aload_n 0, 1) := by decide +kernel
theorem dX0_lightHere_65 : decode cX0_lightHere 65 = .ok (.invokevirtual 43, 3) := by decide +kernel
theorem dX0_lightHere_68 : decode cX0_lightHere 68 = .ok (.invokestatic 50, 3) := by decide +kernel
theorem dX0_lightHere_71 : decode cX0_lightHere 71 = .ok (.lreturn, 1) := by decide +kernel
theorem dX0_firstColumn_0 : decode cX0_firstColumn 0 = .ok (.aload_n 0, 1) := by decide +kernel
theorem dX0_firstColumn_1 : decode cX0_firstColumn 1 = .ok (.getfield 9, 3) := by decide +kernel
theorem dX0_firstColumn_4 : decode cX0_firstColumn 4 = .ok (.invokestatic 54, 3) := by decide +kernel
theorem dX0_firstColumn_7 : decode cX0_firstColumn 7 = .ok (.invokestatic 58, 3) := by decide +kernel
theorem dX0_firstColumn_10 : decode cX0_firstColumn 10 = .ok (.ireturn, 1) := by decide +kernel
theorem dX0_lastColumn_0 : decode cX0_lastColumn 0 = .ok (.aload_n 0, 1) := by decide +kernel
theorem dX0_lastColumn_1 : decode cX0_lastColumn 1 = .ok (.getfield 9, 3) := by decide +kernel
theorem dX0_lastColumn_4 : decode cX0_lastColumn 4 = .ok (.invokestatic 62, 3) := by decide +kernel
theorem dX0_lastColumn_7 : decode cX0_lastColumn 7 = .ok (.invokestatic 65, 3) := by decide +kernel
theorem dX0_lastColumn_10 : decode cX0_lastColumn 10 = .ok (.ireturn, 1) := by decide +kernel
theorem dX0_firstRow_0 : decode cX0_firstRow 0 = .ok (.aload_n 0, 1) := by decide +kernel
theorem dX0_firstRow_1 : decode cX0_firstRow 1 = .ok (.getfield 15, 3) := by decide +kernel
theorem dX0_firstRow_4 : decode cX0_firstRow 4 = .ok (.invokestatic 54, 3) := by decide +kernel
theorem dX0_firstRow_7 : decode cX0_firstRow 7 = .ok (.invokestatic 58, 3) := by decide +kernel
theorem dX0_firstRow_10 : decode cX0_firstRow 10 = .ok (.ireturn, 1) := by decide +kernel
theorem dX0_lastRow_0 : decode cX0_lastRow 0 = .ok (.aload_n 0, 1) := by decide +kernel
theorem dX0_lastRow_1 : decode cX0_lastRow 1 = .ok (.getfield 15, 3) := by decide +kernel
theorem dX0_lastRow_4 : decode cX0_lastRow 4 = .ok (.invokestatic 62, 3) := by decide +kernel
theorem dX0_lastRow_7 : decode cX0_lastRow 7 = .ok (.invokestatic 65, 3) := by decide +kernel
theorem dX0_lastRow_10 : decode cX0_lastRow 10 = .ok (.ireturn, 1) := by decide +kernel
theorem dX0_least_0 : decode cX0_least 0 = .ok (.aload_n 0, 1) := by decide +kernel
theorem dX0_least_1 : decode cX0_least 1 = .ok (.iconst 0, 1) := by decide +kernel
theorem dX0_least_2 : decode cX0_least 2 = .ok (.laload, 1) := by decide +kernel
theorem dX0_least_3 : decode cX0_least 3 = .ok (.aload_n 0, 1) := by decide +kernel
theorem dX0_least_4 : decode cX0_least 4 = .ok (.iconst 1, 1) := by decide +kernel
theorem dX0_least_5 : decode cX0_least 5 = .ok (.laload, 1) := by decide +kernel
theorem dX0_least_6 : decode cX0_least 6 = .ok (.aload_n 0, 1) := by decide +kernel
theorem dX0_least_7 : decode cX0_least 7 = .ok (.iconst 2, 1) := by decide +kernel
theorem dX0_least_8 : decode cX0_least 8 = .ok (.laload, 1) := by decide +kernel
theorem dX0_least_9 : decode cX0_least 9 = .ok (.invokestatic 68, 3) := by decide +kernel
theorem dX0_least_12 : decode cX0_least 12 = .ok (.invokestatic 68, 3) := by decide +kernel
theorem dX0_least_15 : decode cX0_least 15 = .ok (.lreturn, 1) := by decide +kernel
theorem dX0_most_0 : decode cX0_most 0 = .ok (.aload_n 0, 1) := by decide +kernel
theorem dX0_most_1 : decode cX0_most 1 = .ok (.iconst 0, 1) := by decide +kernel
theorem dX0_most_2 : decode cX0_most 2 = .ok (.laload, 1) := by decide +kernel
theorem dX0_most_3 : decode cX0_most 3 = .ok (.aload_n 0, 1) := by decide +kernel
theorem dX0_most_4 : decode cX0_most 4 = .ok (.iconst 1, 1) := by decide +kernel
theorem dX0_most_5 : decode cX0_most 5 = .ok (.laload, 1) := by decide +kernel
theorem dX0_most_6 : decode cX0_most 6 = .ok (.aload_n 0, 1) := by decide +kernel
theorem dX0_most_7 : decode cX0_most 7 = .ok (.iconst 2, 1) := by decide +kernel
theorem dX0_most_8 : decode cX0_most 8 = .ok (.laload, 1) := by decide +kernel
theorem dX0_most_9 : decode cX0_most 9 = .ok (.invokestatic 73, 3) := by decide +kernel
theorem dX0_most_12 : decode cX0_most 12 = .ok (.invokestatic 73, 3) := by decide +kernel
theorem dX0_most_15 : decode cX0_most 15 = .ok (.lreturn, 1) := by decide +kernel
theorem dX0_firstMiddle_0 : decode cX0_firstMiddle 0 = .ok (.lload_n 0, 1) := by decide +kernel
theorem dX0_firstMiddle_1 : decode cX0_firstMiddle 1 = .ok (.ldc2_w 76, 3) := by decide +kernel
theorem dX0_firstMiddle_4 : decode cX0_firstMiddle 4 = .ok (.lsub, 1) := by decide +kernel
theorem dX0_firstMiddle_5 : decode cX0_firstMiddle 5 = .ok (.ldc2_w 78, 3) := by decide +kernel
theorem dX0_firstMiddle_8 : decode cX0_firstMiddle 8 = .ok (.ladd, 1) := by decide +kernel
theorem dX0_firstMiddle_9 : decode cX0_firstMiddle 9 = .ok (.lconst 1, 1) := by decide +kernel
theorem dX0_firstMiddle_10 : decode cX0_firstMiddle 10 = .ok (.lsub, 1) := by decide +kernel
theorem dX0_firstMiddle_11 : decode cX0_firstMiddle 11 = .ok (.ldc2_w 78, 3) := by decide +kernel
theorem dX0_firstMiddle_14 : decode cX0_firstMiddle 14 = .ok (.invokestatic 50, 3) := by decide +kernel
theorem dX0_firstMiddle_17 : decode cX0_firstMiddle 17 = .ok (.l2i, 1) := by decide +kernel
theorem dX0_firstMiddle_18 : decode cX0_firstMiddle 18 = .ok (.ireturn, 1) := by decide +kernel
theorem dX0_lastMiddle_0 : decode cX0_lastMiddle 0 = .ok (.lload_n 0, 1) := by decide +kernel
theorem dX0_lastMiddle_1 : decode cX0_lastMiddle 1 = .ok (.ldc2_w 76, 3) := by decide +kernel
theorem dX0_lastMiddle_4 : decode cX0_lastMiddle 4 = .ok (.lsub, 1) := by decide +kernel
theorem dX0_lastMiddle_5 : decode cX0_lastMiddle 5 = .ok (.ldc2_w 78, 3) := by decide +kernel
theorem dX0_lastMiddle_8 : decode cX0_lastMiddle 8 = .ok (.invokestatic 50, 3) := by decide +kernel
theorem dX0_lastMiddle_11 : decode cX0_lastMiddle 11 = .ok (.l2i, 1) := by decide +kernel
theorem dX0_lastMiddle_12 : decode cX0_lastMiddle 12 = .ok (.ireturn, 1) := by decide +kernel
