/-! ===== decode rows: the class ===== -/
theorem dX0_init_0 : decode cX0_init 0 = .ok (.aload_n 0, 1) := by decide +kernel
theorem dX0_init_1 : decode cX0_init 1 = .ok (.invokespecial 3, 3) := by decide +kernel
theorem dX0_init_4 : decode cX0_init 4 = .ok (.aload_n 0, 1) := by decide +kernel
theorem dX0_init_5 : decode cX0_init 5 = .ok (.bipush 14, 2) := by decide +kernel
theorem dX0_init_7 : decode cX0_init 7 = .ok (.newarray .int, 2) := by decide +kernel
theorem dX0_init_9 : decode cX0_init 9 = .ok (.putfield 9, 3) := by decide +kernel
theorem dX0_init_12 : decode cX0_init 12 = .ok (.aload_n 0, 1) := by decide +kernel
theorem dX0_init_13 : decode cX0_init 13 = .ok (.bipush 14, 2) := by decide +kernel
theorem dX0_init_15 : decode cX0_init 15 = .ok (.newarray .int, 2) := by decide +kernel
theorem dX0_init_17 : decode cX0_init 17 = .ok (.putfield 15, 3) := by decide +kernel
theorem dX0_init_20 : decode cX0_init 20 = .ok (.aload_n 0, 1) := by decide +kernel
theorem dX0_init_21 : decode cX0_init 21 = .ok (.bipush 6, 2) := by decide +kernel
theorem dX0_init_23 : decode cX0_init 23 = .ok (.newarray .int, 2) := by decide +kernel
theorem dX0_init_25 : decode cX0_init 25 = .ok (.putfield 18, 3) := by decide +kernel
theorem dX0_init_28 : decode cX0_init 28 = .ok (.aload_n 0, 1) := by decide +kernel
theorem dX0_init_29 : decode cX0_init 29 = .ok (.bipush 6, 2) := by decide +kernel
theorem dX0_init_31 : decode cX0_init 31 = .ok (.newarray .int, 2) := by decide +kernel
theorem dX0_init_33 : decode cX0_init 33 = .ok (.putfield 21, 3) := by decide +kernel
theorem dX0_init_36 : decode cX0_init 36 = .ok (.aload_n 0, 1) := by decide +kernel
theorem dX0_init_37 : decode cX0_init 37 = .ok (.iconst 4, 1) := by decide +kernel
theorem dX0_init_38 : decode cX0_init 38 = .ok (.bipush 6, 2) := by decide +kernel
theorem dX0_init_40 : decode cX0_init 40 = .ok (.multianewarray 24 2, 4) := by decide +kernel
theorem dX0_init_44 : decode cX0_init 44 = .ok (.putfield 26, 3) := by decide +kernel
theorem dX0_init_47 : decode cX0_init 47 = .ok (.aload_n 0, 1) := by decide +kernel
theorem dX0_init_48 : decode cX0_init 48 = .ok (.iconst 0, 1) := by decide +kernel
theorem dX0_init_49 : decode cX0_init 49 = .ok (.putfield 29, 3) := by decide +kernel
theorem dX0_init_52 : decode cX0_init 52 = .ok (.aload_n 0, 1) := by decide +kernel
theorem dX0_init_53 : decode cX0_init 53 = .ok (.iconst 0, 1) := by decide +kernel
theorem dX0_init_54 : decode cX0_init 54 = .ok (.putfield 33, 3) := by decide +kernel
theorem dX0_init_57 : decode cX0_init 57 = .ok (.aload_n 0, 1) := by decide +kernel
theorem dX0_init_58 : decode cX0_init 58 = .ok (.iconst 0, 1) := by decide +kernel
theorem dX0_init_59 : decode cX0_init 59 = .ok (.putfield 36, 3) := by decide +kernel
theorem dX0_init_62 : decode cX0_init 62 = .ok (.aload_n 0, 1) := by decide +kernel
theorem dX0_init_63 : decode cX0_init 63 = .ok (.iconst 0, 1) := by decide +kernel
theorem dX0_init_64 : decode cX0_init 64 = .ok (.putfield 39, 3) := by decide +kernel
theorem dX0_init_67 : decode cX0_init 67 = .ok (.return_, 1) := by decide +kernel
theorem dX0_clearBlock_0 : decode cX0_clearBlock 0 = .ok (.aload_n 0, 1) := by decide +kernel
theorem dX0_clearBlock_1 : decode cX0_clearBlock 1 = .ok (.iconst 0, 1) := by decide +kernel
theorem dX0_clearBlock_2 : decode cX0_clearBlock 2 = .ok (.bipush 6, 2) := by decide +kernel
theorem dX0_clearBlock_4 : decode cX0_clearBlock 4 = .ok (.iload_n 1, 1) := by decide +kernel
theorem dX0_clearBlock_5 : decode cX0_clearBlock 5 = .ok (.invokestatic 43, 3) := by decide +kernel
theorem dX0_clearBlock_8 : decode cX0_clearBlock 8 = .ok (.invokestatic 49, 3) := by decide +kernel
theorem dX0_clearBlock_11 : decode cX0_clearBlock 11 = .ok (.putfield 29, 3) := by decide +kernel
theorem dX0_clearBlock_14 : decode cX0_clearBlock 14 = .ok (.aload_n 0, 1) := by decide +kernel
theorem dX0_clearBlock_15 : decode cX0_clearBlock 15 = .ok (.iconst 0, 1) := by decide +kernel
theorem dX0_clearBlock_16 : decode cX0_clearBlock 16 = .ok (.putfield 33, 3) := by decide +kernel
theorem dX0_clearBlock_19 : decode cX0_clearBlock 19 = .ok (.aload_n 0, 1) := by decide +kernel
theorem dX0_clearBlock_20 : decode cX0_clearBlock 20 = .ok (.iconst 0, 1) := by decide +kernel
theorem dX0_clearBlock_21 : decode cX0_clearBlock 21 = .ok (.putfield 36, 3) := by decide +kernel
theorem dX0_clearBlock_24 : decode cX0_clearBlock 24 = .ok (.aload_n 0, 1) := by decide +kernel
theorem dX0_clearBlock_25 : decode cX0_clearBlock 25 = .ok (.iconst 0, 1) := by decide +kernel
theorem dX0_clearBlock_26 : decode cX0_clearBlock 26 = .ok (.putfield 39, 3) := by decide +kernel
theorem dX0_clearBlock_29 : decode cX0_clearBlock 29 = .ok (.iconst 0, 1) := by decide +kernel
theorem dX0_clearBlock_30 : decode cX0_clearBlock 30 = .ok (.istore_n 2, 1) := by decide +kernel
theorem dX0_clearBlock_31 : decode cX0_clearBlock 31 = .ok (.iload_n 2, 1) := by decide +kernel
theorem dX0_clearBlock_32 : decode cX0_clearBlock 32 = .ok (.bipush 14, 2) := by decide +kernel
theorem dX0_clearBlock_34 : decode cX0_clearBlock 34 = .ok (.if_icmp .ge 23, 3) := by decide +kernel
theorem dX0_clearBlock_37 : decode cX0_clearBlock 37 = .ok (.aload_n 0, 1) := by decide +kernel
theorem dX0_clearBlock_38 : decode cX0_clearBlock 38 = .ok (.getfield 9, 3) := by decide +kernel
theorem dX0_clearBlock_41 : decode cX0_clearBlock 41 = .ok (.iload_n 2, 1) := by decide +kernel
theorem dX0_clearBlock_42 : decode cX0_clearBlock 42 = .ok (.iconst 0, 1) := by decide +kernel
theorem dX0_clearBlock_43 : decode cX0_clearBlock 43 = .ok (.iastore, 1) := by decide +kernel
theorem dX0_clearBlock_44 : decode cX0_clearBlock 44 = .ok (.aload_n 0, 1) := by decide +kernel
theorem dX0_clearBlock_45 : decode cX0_clearBlock 45 = .ok (.getfield 15, 3) := by decide +kernel
theorem dX0_clearBlock_48 : decode cX0_clearBlock 48 = .ok (.iload_n 2, 1) := by decide +kernel
theorem dX0_clearBlock_49 : decode cX0_clearBlock 49 = .ok (.iconst 0, 1) := by decide +kernel
theorem dX0_clearBlock_50 : decode cX0_clearBlock 50 = .ok (.iastore, 1) := by decide +kernel
theorem dX0_clearBlock_51 : decode cX0_clearBlock 51 = .ok (.iinc 2 1, 3) := by decide +kernel
theorem dX0_clearBlock_54 : decode cX0_clearBlock 54 = .ok (.goto (-23), 3) := by decide +kernel
theorem dX0_clearBlock_57 : decode cX0_clearBlock 57 = .ok (.return_, 1) := by decide +kernel
theorem dX0_load_0 : decode cX0_load 0 = .ok (.aload_n 0, 1) := by decide +kernel
theorem dX0_load_1 : decode cX0_load 1 = .ok (.aload_n 1, 1) := by decide +kernel
theorem dX0_load_2 : decode cX0_load 2 = .ok (.getfield 52, 3) := by decide +kernel
theorem dX0_load_5 : decode cX0_load 5 = .ok (.iload_n 2, 1) := by decide +kernel
theorem dX0_load_6 : decode cX0_load 6 = .ok (.iaload, 1) := by decide +kernel
theorem dX0_load_7 : decode cX0_load 7 = .ok (.invokevirtual 56, 3) := by decide +kernel
theorem dX0_load_10 : decode cX0_load 10 = .ok (.iconst 0, 1) := by decide +kernel
theorem dX0_load_11 : decode cX0_load 11 = .ok (.istore 4, 2) := by decide +kernel
theorem dX0_load_13 : decode cX0_load 13 = .ok (.iload 4, 2) := by decide +kernel
theorem dX0_load_15 : decode cX0_load 15 = .ok (.bipush 8, 2) := by decide +kernel
theorem dX0_load_17 : decode cX0_load 17 = .ok (.aload_n 0, 1) := by decide +kernel
theorem dX0_load_18 : decode cX0_load 18 = .ok (.getfield 29, 3) := by decide +kernel
theorem dX0_load_21 : decode cX0_load 21 = .ok (.iadd, 1) := by decide +kernel
theorem dX0_load_22 : decode cX0_load 22 = .ok (.if_icmp .ge 52, 3) := by decide +kernel
theorem dX0_load_25 : decode cX0_load 25 = .ok (.aload_n 1, 1) := by decide +kernel
theorem dX0_load_26 : decode cX0_load 26 = .ok (.iload_n 2, 1) := by decide +kernel
theorem dX0_load_27 : decode cX0_load 27 = .ok (.iload_n 3, 1) := by decide +kernel
theorem dX0_load_28 : decode cX0_load 28 = .ok (.iload 4, 2) := by decide +kernel
theorem dX0_load_30 : decode cX0_load 30 = .ok (.invokevirtual 60, 3) := by decide +kernel
theorem dX0_load_33 : decode cX0_load 33 = .ok (.istore 5, 2) := by decide +kernel
theorem dX0_load_35 : decode cX0_load 35 = .ok (.aload_n 0, 1) := by decide +kernel
theorem dX0_load_36 : decode cX0_load 36 = .ok (.getfield 9, 3) := by decide +kernel
theorem dX0_load_39 : decode cX0_load 39 = .ok (.iload 4, 2) := by decide +kernel
theorem dX0_load_41 : decode cX0_load 41 = .ok (.aload_n 1, 1) := by decide +kernel
theorem dX0_load_42 : decode cX0_load 42 = .ok (.getfield 64, 3) := by decide +kernel
theorem dX0_load_45 : decode cX0_load 45 = .ok (.iload 5, 2) := by decide +kernel
theorem dX0_load_47 : decode cX0_load 47 = .ok (.iaload, 1) := by decide +kernel
theorem dX0_load_48 : decode cX0_load 48 = .ok (.iastore, 1) := by decide +kernel
theorem dX0_load_49 : decode cX0_load 49 = .ok (.aload_n 0, 1) := by decide +kernel
theorem dX0_load_50 : decode cX0_load 50 = .ok (.dup, 1) := by decide +kernel
theorem dX0_load_51 : decode cX0_load 51 = .ok (.getfield 33, 3) := by decide +kernel
theorem dX0_load_54 : decode cX0_load 54 = .ok (.aload_n 1, 1) := by decide +kernel
theorem dX0_load_55 : decode cX0_load 55 = .ok (.getfield 67, 3) := by decide +kernel
theorem dX0_load_58 : decode cX0_load 58 = .ok (.iload 5, 2) := by decide +kernel
theorem dX0_load_60 : decode cX0_load 60 = .ok (.iaload, 1) := by decide +kernel
theorem dX0_load_61 : decode cX0_load 61 = .ok (.iload 4, 2) := by decide +kernel
theorem dX0_load_63 : decode cX0_load 63 = .ok (.ishl, 1) := by decide +kernel
theorem dX0_load_64 : decode cX0_load 64 = .ok (.ior, 1) := by decide +kernel
theorem dX0_load_65 : decode cX0_load 65 = .ok (.putfield 33, 3) := by decide +kernel
theorem dX0_load_68 : decode cX0_load 68 = .ok (.iinc 4 1, 3) := by decide +kernel
theorem dX0_load_71 : decode cX0_load 71 = .ok (.goto (-58), 3) := by decide +kernel
theorem dX0_load_74 : decode cX0_load 74 = .ok (.aload_n 0, 1) := by decide +kernel
theorem dX0_load_75 : decode cX0_load 75 = .ok (.invokevirtual 70, 3) := by decide +kernel
theorem dX0_load_78 : decode cX0_load 78 = .ok (.return_, 1) := by decide +kernel
theorem dX0_decode_0 : decode cX0_decode 0 = .ok (.aload_n 0, 1) := by decide +kernel
theorem dX0_decode_1 : decode cX0_decode 1 = .ok (.aload_n 1, 1) := by decide +kernel
theorem dX0_decode_2 : decode cX0_decode 2 = .ok (.iload_n 2, 1) := by decide +kernel
theorem dX0_decode_3 : decode cX0_decode 3 = .ok (.iload_n 3, 1) := by decide +kernel
theorem dX0_decode_4 : decode cX0_decode 4 = .ok (.invokevirtual 73, 3) := by decide +kernel
theorem dX0_decode_7 : decode cX0_decode 7 = .ok (.aload_n 0, 1) := by decide +kernel
theorem dX0_decode_8 : decode cX0_decode 8 = .ok (.getfield 29, 3) := by decide +kernel
theorem dX0_decode_11 : decode cX0_decode 11 = .ok (.aload_n 0, 1) := by decide +kernel
theorem dX0_decode_12 : decode cX0_decode 12 = .ok (.getfield 33, 3) := by decide +kernel
theorem dX0_decode_15 : decode cX0_decode 15 = .ok (.invokestatic 77, 3) := by decide +kernel
theorem dX0_decode_18 : decode cX0_decode 18 = .ok (.isub, 1) := by decide +kernel
theorem dX0_decode_19 : decode cX0_decode 19 = .ok (.istore 4, 2) := by decide +kernel
theorem dX0_decode_21 : decode cX0_decode 21 = .ok (.iload 4, 2) := by decide +kernel
theorem dX0_decode_23 : decode cX0_decode 23 = .ok (.ifCond .ge 5, 3) := by decide +kernel
theorem dX0_decode_26 : decode cX0_decode 26 = .ok (.iconst 0, 1) := by decide +kernel
theorem dX0_decode_27 : decode cX0_decode 27 = .ok (.ireturn, 1) := by decide +kernel
theorem dX0_decode_28 : decode cX0_decode 28 = .ok (.aload_n 0, 1) := by decide +kernel
theorem dX0_decode_29 : decode cX0_decode 29 = .ok (.invokevirtual 83, 3) := by decide +kernel
theorem dX0_decode_32 : decode cX0_decode 32 = .ok (.iconst 0, 1) := by decide +kernel
theorem dX0_decode_33 : decode cX0_decode 33 = .ok (.istore 5, 2) := by decide +kernel
theorem dX0_decode_35 : decode cX0_decode 35 = .ok (.iconst 2, 1) := by decide +kernel
theorem dX0_decode_36 : decode cX0_decode 36 = .ok (.iload 5, 2) := by decide +kernel
theorem dX0_decode_38 : decode cX0_decode 38 = .ok (.imul, 1) := by decide +kernel
theorem dX0_decode_39 : decode cX0_decode 39 = .ok (.iload 4, 2) := by decide +kernel
theorem dX0_decode_41 : decode cX0_decode 41 = .ok (.if_icmp .gt 71, 3) := by decide +kernel
theorem dX0_decode_44 : decode cX0_decode 44 = .ok (.aload_n 0, 1) := by decide +kernel
theorem dX0_decode_45 : decode cX0_decode 45 = .ok (.getfield 39, 3) := by decide +kernel
theorem dX0_decode_48 : decode cX0_decode 48 = .ok (.ifCond .ne 64, 3) := by decide +kernel
theorem dX0_decode_51 : decode cX0_decode 51 = .ok (.aload_n 0, 1) := by decide +kernel
theorem dX0_decode_52 : decode cX0_decode 52 = .ok (.getfield 26, 3) := by decide +kernel
theorem dX0_decode_55 : decode cX0_decode 55 = .ok (.iconst 0, 1) := by decide +kernel
theorem dX0_decode_56 : decode cX0_decode 56 = .ok (.iload 4, 2) := by decide +kernel
theorem dX0_decode_58 : decode cX0_decode 58 = .ok (.iconst 0, 1) := by decide +kernel
theorem dX0_decode_59 : decode cX0_decode 59 = .ok (.iload 5, 2) := by decide +kernel
theorem dX0_decode_61 : decode cX0_decode 61 = .ok (.bipush 8, 2) := by decide +kernel
theorem dX0_decode_63 : decode cX0_decode 63 = .ok (.aload_n 0, 1) := by decide +kernel
theorem dX0_decode_64 : decode cX0_decode 64 = .ok (.getfield 29, 3) := by decide +kernel
theorem dX0_decode_67 : decode cX0_decode 67 = .ok (.iadd, 1) := by decide +kernel
theorem dX0_decode_68 : decode cX0_decode 68 = .ok (.aload_n 0, 1) := by decide +kernel
theorem dX0_decode_69 : decode cX0_decode 69 = .ok (.getfield 33, 3) := by decide +kernel
theorem dX0_decode_72 : decode cX0_decode 72 = .ok (.invokestatic 86, 3) := by decide +kernel
theorem dX0_decode_75 : decode cX0_decode 75 = .ok (.istore 6, 2) := by decide +kernel
theorem dX0_decode_77 : decode cX0_decode 77 = .ok (.iload 6, 2) := by decide +kernel
theorem dX0_decode_79 : decode cX0_decode 79 = .ok (.ifCond .lt 27, 3) := by decide +kernel
theorem dX0_decode_82 : decode cX0_decode 82 = .ok (.aload_n 0, 1) := by decide +kernel
theorem dX0_decode_83 : decode cX0_decode 83 = .ok (.iload 6, 2) := by decide +kernel
theorem dX0_decode_85 : decode cX0_decode 85 = .ok (.putfield 36, 3) := by decide +kernel
theorem dX0_decode_88 : decode cX0_decode 88 = .ok (.aload_n 0, 1) := by decide +kernel
theorem dX0_decode_89 : decode cX0_decode 89 = .ok (.iconst 1, 1) := by decide +kernel
theorem dX0_decode_90 : decode cX0_decode 90 = .ok (.putfield 39, 3) := by decide +kernel
theorem dX0_decode_93 : decode cX0_decode 93 = .ok (.aload_n 0, 1) := by decide +kernel
theorem dX0_decode_94 : decode cX0_decode 94 = .ok (.aload_n 0, 1) := by decide +kernel
theorem dX0_decode_95 : decode cX0_decode 95 = .ok (.getfield 33, 3) := by decide +kernel
theorem dX0_decode_98 : decode cX0_decode 98 = .ok (.aload_n 0, 1) := by decide +kernel
theorem dX0_decode_99 : decode cX0_decode 99 = .ok (.getfield 36, 3) := by decide +kernel
theorem dX0_decode_102 : decode cX0_decode 102 = .ok (.ior, 1) := by decide +kernel
theorem dX0_decode_103 : decode cX0_decode 103 = .ok (.invokevirtual 90, 3) := by decide +kernel
theorem dX0_decode_106 : decode cX0_decode 106 = .ok (.iinc 5 1, 3) := by decide +kernel
theorem dX0_decode_109 : decode cX0_decode 109 = .ok (.goto (-74), 3) := by decide +kernel
theorem dX0_decode_112 : decode cX0_decode 112 = .ok (.aload_n 0, 1) := by decide +kernel
theorem dX0_decode_113 : decode cX0_decode 113 = .ok (.getfield 39, 3) := by decide +kernel
theorem dX0_decode_116 : decode cX0_decode 116 = .ok (.ireturn, 1) := by decide +kernel
theorem dX0_encode_0 : decode cX0_encode 0 = .ok (.aload_n 0, 1) := by decide +kernel
theorem dX0_encode_1 : decode cX0_encode 1 = .ok (.invokevirtual 70, 3) := by decide +kernel
theorem dX0_encode_4 : decode cX0_encode 4 = .ok (.aload_n 0, 1) := by decide +kernel
theorem dX0_encode_5 : decode cX0_encode 5 = .ok (.iconst 1, 1) := by decide +kernel
theorem dX0_encode_6 : decode cX0_encode 6 = .ok (.aload_n 0, 1) := by decide +kernel
theorem dX0_encode_7 : decode cX0_encode 7 = .ok (.getfield 29, 3) := by decide +kernel
theorem dX0_encode_10 : decode cX0_encode 10 = .ok (.ishl, 1) := by decide +kernel
theorem dX0_encode_11 : decode cX0_encode 11 = .ok (.iconst 1, 1) := by decide +kernel
theorem dX0_encode_12 : decode cX0_encode 12 = .ok (.isub, 1) := by decide +kernel
theorem dX0_encode_13 : decode cX0_encode 13 = .ok (.invokevirtual 90, 3) := by decide +kernel
theorem dX0_encode_16 : decode cX0_encode 16 = .ok (.return_, 1) := by decide +kernel
theorem dX0_damageCount_0 : decode cX0_damageCount 0 = .ok (.aload_n 0, 1) := by decide +kernel
theorem dX0_damageCount_1 : decode cX0_damageCount 1 = .ok (.getfield 39, 3) := by decide +kernel
theorem dX0_damageCount_4 : decode cX0_damageCount 4 = .ok (.ifCond .eq 18, 3) := by decide +kernel
theorem dX0_damageCount_7 : decode cX0_damageCount 7 = .ok (.aload_n 0, 1) := by decide +kernel
theorem dX0_damageCount_8 : decode cX0_damageCount 8 = .ok (.getfield 36, 3) := by decide +kernel
theorem dX0_damageCount_11 : decode cX0_damageCount 11 = .ok (.aload_n 0, 1) := by decide +kernel
theorem dX0_damageCount_12 : decode cX0_damageCount 12 = .ok (.getfield 33, 3) := by decide +kernel
theorem dX0_damageCount_15 : decode cX0_damageCount 15 = .ok (.ior, 1) := by decide +kernel
theorem dX0_damageCount_16 : decode cX0_damageCount 16 = .ok (.invokestatic 77, 3) := by decide +kernel
theorem dX0_damageCount_19 : decode cX0_damageCount 19 = .ok (.goto 4, 3) := by decide +kernel
theorem dX0_damageCount_22 : decode cX0_damageCount 22 = .ok (.iconst 0, 1) := by decide +kernel
theorem dX0_damageCount_23 : decode cX0_damageCount 23 = .ok (.ireturn, 1) := by decide +kernel
theorem dX0_addSums_0 : decode cX0_addSums 0 = .ok (.iconst 0, 1) := by decide +kernel
theorem dX0_addSums_1 : decode cX0_addSums 1 = .ok (.istore_n 1, 1) := by decide +kernel
theorem dX0_addSums_2 : decode cX0_addSums 2 = .ok (.iload_n 1, 1) := by decide +kernel
theorem dX0_addSums_3 : decode cX0_addSums 3 = .ok (.bipush 6, 2) := by decide +kernel
theorem dX0_addSums_5 : decode cX0_addSums 5 = .ok (.if_icmp .ge 59, 3) := by decide +kernel
theorem dX0_addSums_8 : decode cX0_addSums 8 = .ok (.iconst 0, 1) := by decide +kernel
theorem dX0_addSums_9 : decode cX0_addSums 9 = .ok (.istore_n 2, 1) := by decide +kernel
theorem dX0_addSums_10 : decode cX0_addSums 10 = .ok (.iconst 0, 1) := by decide +kernel
theorem dX0_addSums_11 : decode cX0_addSums 11 = .ok (.istore_n 3, 1) := by decide +kernel
theorem dX0_addSums_12 : decode cX0_addSums 12 = .ok (.iload_n 3, 1) := by decide +kernel
theorem dX0_addSums_13 : decode cX0_addSums 13 = .ok (.bipush 8, 2) := by decide +kernel
theorem dX0_addSums_15 : decode cX0_addSums 15 = .ok (.aload_n 0, 1) := by decide +kernel
theorem dX0_addSums_16 : decode cX0_addSums 16 = .ok (.getfield 29, 3) := by decide +kernel
theorem dX0_addSums_19 : decode cX0_addSums 19 = .ok (.iadd, 1) := by decide +kernel
theorem dX0_addSums_20 : decode cX0_addSums 20 = .ok (.if_icmp .ge 31, 3) := by decide +kernel
theorem dX0_addSums_23 : decode cX0_addSums 23 = .ok (.iload_n 2, 1) := by decide +kernel
theorem dX0_addSums_24 : decode cX0_addSums 24 = .ok (.aload_n 0, 1) := by decide +kernel
theorem dX0_addSums_25 : decode cX0_addSums 25 = .ok (.getfield 9, 3) := by decide +kernel
theorem dX0_addSums_28 : decode cX0_addSums 28 = .ok (.iload_n 3, 1) := by decide +kernel
theorem dX0_addSums_29 : decode cX0_addSums 29 = .ok (.iaload, 1) := by decide +kernel
theorem dX0_addSums_30 : decode cX0_addSums 30 = .ok (.getstatic 93, 3) := by decide +kernel
theorem dX0_addSums_33 : decode cX0_addSums 33 = .ok (.iload_n 3, 1) := by decide +kernel
theorem dX0_addSums_34 : decode cX0_addSums 34 = .ok (.iload_n 1, 1) := by decide +kernel
theorem dX0_addSums_35 : decode cX0_addSums 35 = .ok (.imul, 1) := by decide +kernel
theorem dX0_addSums_36 : decode cX0_addSums 36 = .ok (.bipush 15, 2) := by decide +kernel
theorem dX0_addSums_38 : decode cX0_addSums 38 = .ok (.irem, 1) := by decide +kernel
theorem dX0_addSums_39 : decode cX0_addSums 39 = .ok (.iaload, 1) := by decide +kernel
theorem dX0_addSums_40 : decode cX0_addSums 40 = .ok (.invokestatic 96, 3) := by decide +kernel
theorem dX0_addSums_43 : decode cX0_addSums 43 = .ok (.ixor, 1) := by decide +kernel
theorem dX0_addSums_44 : decode cX0_addSums 44 = .ok (.istore_n 2, 1) := by decide +kernel
theorem dX0_addSums_45 : decode cX0_addSums 45 = .ok (.iinc 3 1, 3) := by decide +kernel
theorem dX0_addSums_48 : decode cX0_addSums 48 = .ok (.goto (-36), 3) := by decide +kernel
theorem dX0_addSums_51 : decode cX0_addSums 51 = .ok (.aload_n 0, 1) := by decide +kernel
theorem dX0_addSums_52 : decode cX0_addSums 52 = .ok (.getfield 18, 3) := by decide +kernel
theorem dX0_addSums_55 : decode cX0_addSums 55 = .ok (.iload_n 1, 1) := by decide +kernel
theorem dX0_addSums_56 : decode cX0_addSums 56 = .ok (.iload_n 2, 1) := by decide +kernel
theorem dX0_addSums_57 : decode cX0_addSums 57 = .ok (.iastore, 1) := by decide +kernel
theorem dX0_addSums_58 : decode cX0_addSums 58 = .ok (.iinc 1 1, 3) := by decide +kernel
theorem dX0_addSums_61 : decode cX0_addSums 61 = .ok (.goto (-59), 3) := by decide +kernel
theorem dX0_addSums_64 : decode cX0_addSums 64 = .ok (.return_, 1) := by decide +kernel
theorem dX0_errorSet_0 : decode cX0_errorSet 0 = .ok (.iload 4, 2) := by decide +kernel
theorem dX0_errorSet_2 : decode cX0_errorSet 2 = .ok (.ifCond .ne 19, 3) := by decide +kernel
theorem dX0_errorSet_5 : decode cX0_errorSet 5 = .ok (.aload_n 0, 1) := by decide +kernel
theorem dX0_errorSet_6 : decode cX0_errorSet 6 = .ok (.iload_n 1, 1) := by decide +kernel
theorem dX0_errorSet_7 : decode cX0_errorSet 7 = .ok (.aaload, 1) := by decide +kernel
theorem dX0_errorSet_8 : decode cX0_errorSet 8 = .ok (.iload_n 2, 1) := by decide +kernel
theorem dX0_errorSet_9 : decode cX0_errorSet 9 = .ok (.invokestatic 99, 3) := by decide +kernel
theorem dX0_errorSet_12 : decode cX0_errorSet 12 = .ok (.ifCond .eq 7, 3) := by decide +kernel
theorem dX0_errorSet_15 : decode cX0_errorSet 15 = .ok (.iconst 0, 1) := by decide +kernel
theorem dX0_errorSet_16 : decode cX0_errorSet 16 = .ok (.goto 4, 3) := by decide +kernel
theorem dX0_errorSet_19 : decode cX0_errorSet 19 = .ok (.iconst (-1), 1) := by decide +kernel
theorem dX0_errorSet_20 : decode cX0_errorSet 20 = .ok (.ireturn, 1) := by decide +kernel
theorem dX0_errorSet_21 : decode cX0_errorSet 21 = .ok (.iload_n 1, 1) := by decide +kernel
theorem dX0_errorSet_22 : decode cX0_errorSet 22 = .ok (.iconst 1, 1) := by decide +kernel
theorem dX0_errorSet_23 : decode cX0_errorSet 23 = .ok (.iadd, 1) := by decide +kernel
theorem dX0_errorSet_24 : decode cX0_errorSet 24 = .ok (.aload_n 0, 1) := by decide +kernel
theorem dX0_errorSet_25 : decode cX0_errorSet 25 = .ok (.arraylength, 1) := by decide +kernel
theorem dX0_errorSet_26 : decode cX0_errorSet 26 = .ok (.if_icmp .lt 5, 3) := by decide +kernel
theorem dX0_errorSet_29 : decode cX0_errorSet 29 = .ok (.iconst (-1), 1) := by decide +kernel
theorem dX0_errorSet_30 : decode cX0_errorSet 30 = .ok (.ireturn, 1) := by decide +kernel
theorem dX0_errorSet_31 : decode cX0_errorSet 31 = .ok (.iload_n 3, 1) := by decide +kernel
theorem dX0_errorSet_32 : decode cX0_errorSet 32 = .ok (.istore 7, 2) := by decide +kernel
theorem dX0_errorSet_34 : decode cX0_errorSet 34 = .ok (.iload 7, 2) := by decide +kernel
theorem dX0_errorSet_36 : decode cX0_errorSet 36 = .ok (.iload 5, 2) := by decide +kernel
theorem dX0_errorSet_38 : decode cX0_errorSet 38 = .ok (.if_icmp .ge 70, 3) := by decide +kernel
theorem dX0_errorSet_41 : decode cX0_errorSet 41 = .ok (.iload 6, 2) := by decide +kernel
theorem dX0_errorSet_43 : decode cX0_errorSet 43 = .ok (.iload 7, 2) := by decide +kernel
theorem dX0_errorSet_45 : decode cX0_errorSet 45 = .ok (.ishr, 1) := by decide +kernel
theorem dX0_errorSet_46 : decode cX0_errorSet 46 = .ok (.iconst 1, 1) := by decide +kernel
theorem dX0_errorSet_47 : decode cX0_errorSet 47 = .ok (.iand, 1) := by decide +kernel
theorem dX0_errorSet_48 : decode cX0_errorSet 48 = .ok (.ifCond .ne 54, 3) := by decide +kernel
theorem dX0_errorSet_51 : decode cX0_errorSet 51 = .ok (.aload_n 0, 1) := by decide +kernel
theorem dX0_errorSet_52 : decode cX0_errorSet 52 = .ok (.iload_n 1, 1) := by decide +kernel
theorem dX0_errorSet_53 : decode cX0_errorSet 53 = .ok (.aaload, 1) := by decide +kernel
theorem dX0_errorSet_54 : decode cX0_errorSet 54 = .ok (.aload_n 0, 1) := by decide +kernel
theorem dX0_errorSet_55 : decode cX0_errorSet 55 = .ok (.iload_n 1, 1) := by decide +kernel
theorem dX0_errorSet_56 : decode cX0_errorSet 56 = .ok (.iconst 1, 1) := by decide +kernel
theorem dX0_errorSet_57 : decode cX0_errorSet 57 = .ok (.iadd, 1) := by decide +kernel
theorem dX0_errorSet_58 : decode cX0_errorSet 58 = .ok (.aaload, 1) := by decide +kernel
theorem dX0_errorSet_59 : decode cX0_errorSet 59 = .ok (.iload 7, 2) := by decide +kernel
theorem dX0_errorSet_61 : decode cX0_errorSet 61 = .ok (.iload_n 2, 1) := by decide +kernel
theorem dX0_errorSet_62 : decode cX0_errorSet 62 = .ok (.invokestatic 103, 3) := by decide +kernel
theorem dX0_errorSet_65 : decode cX0_errorSet 65 = .ok (.aload_n 0, 1) := by decide +kernel
theorem dX0_errorSet_66 : decode cX0_errorSet 66 = .ok (.iload_n 1, 1) := by decide +kernel
theorem dX0_errorSet_67 : decode cX0_errorSet 67 = .ok (.iconst 1, 1) := by decide +kernel
theorem dX0_errorSet_68 : decode cX0_errorSet 68 = .ok (.iadd, 1) := by decide +kernel
theorem dX0_errorSet_69 : decode cX0_errorSet 69 = .ok (.iload_n 2, 1) := by decide +kernel
theorem dX0_errorSet_70 : decode cX0_errorSet 70 = .ok (.iconst 1, 1) := by decide +kernel
theorem dX0_errorSet_71 : decode cX0_errorSet 71 = .ok (.isub, 1) := by decide +kernel
theorem dX0_errorSet_72 : decode cX0_errorSet 72 = .ok (.iload 7, 2) := by decide +kernel
theorem dX0_errorSet_74 : decode cX0_errorSet 74 = .ok (.iconst 1, 1) := by decide +kernel
theorem dX0_errorSet_75 : decode cX0_errorSet 75 = .ok (.iadd, 1) := by decide +kernel
theorem dX0_errorSet_76 : decode cX0_errorSet 76 = .ok (.iload 4, 2) := by decide +kernel
theorem dX0_errorSet_78 : decode cX0_errorSet 78 = .ok (.iconst 1, 1) := by decide +kernel
theorem dX0_errorSet_79 : decode cX0_errorSet 79 = .ok (.isub, 1) := by decide +kernel
theorem dX0_errorSet_80 : decode cX0_errorSet 80 = .ok (.iload 5, 2) := by decide +kernel
theorem dX0_errorSet_82 : decode cX0_errorSet 82 = .ok (.iload 6, 2) := by decide +kernel
theorem dX0_errorSet_84 : decode cX0_errorSet 84 = .ok (.invokestatic 86, 3) := by decide +kernel
theorem dX0_errorSet_87 : decode cX0_errorSet 87 = .ok (.istore 8, 2) := by decide +kernel
theorem dX0_errorSet_89 : decode cX0_errorSet 89 = .ok (.iload 8, 2) := by decide +kernel
theorem dX0_errorSet_91 : decode cX0_errorSet 91 = .ok (.ifCond .lt 11, 3) := by decide +kernel
theorem dX0_errorSet_94 : decode cX0_errorSet 94 = .ok (.iload 8, 2) := by decide +kernel
theorem dX0_errorSet_96 : decode cX0_errorSet 96 = .ok (.iconst 1, 1) := by decide +kernel
theorem dX0_errorSet_97 : decode cX0_errorSet 97 = .ok (.iload 7, 2) := by decide +kernel
theorem dX0_errorSet_99 : decode cX0_errorSet 99 = .ok (.ishl, 1) := by decide +kernel
theorem dX0_errorSet_100 : decode cX0_errorSet 100 = .ok (.ior, 1) := by decide +kernel
theorem dX0_errorSet_101 : decode cX0_errorSet 101 = .ok (.ireturn, 1) := by decide +kernel
theorem dX0_errorSet_102 : decode cX0_errorSet 102 = .ok (.iinc 7 1, 3) := by decide +kernel
theorem dX0_errorSet_105 : decode cX0_errorSet 105 = .ok (.goto (-71), 3) := by decide +kernel
theorem dX0_errorSet_108 : decode cX0_errorSet 108 = .ok (.iconst (-1), 1) := by decide +kernel
theorem dX0_errorSet_109 : decode cX0_errorSet 109 = .ok (.ireturn, 1) := by decide +kernel
theorem dX0_isZero_0 : decode cX0_isZero 0 = .ok (.iconst 0, 1) := by decide +kernel
theorem dX0_isZero_1 : decode cX0_isZero 1 = .ok (.istore_n 2, 1) := by decide +kernel
theorem dX0_isZero_2 : decode cX0_isZero 2 = .ok (.iload_n 2, 1) := by decide +kernel
theorem dX0_isZero_3 : decode cX0_isZero 3 = .ok (.iload_n 1, 1) := by decide +kernel
theorem dX0_isZero_4 : decode cX0_isZero 4 = .ok (.if_icmp .ge 23, 3) := by decide +kernel
theorem dX0_isZero_7 : decode cX0_isZero 7 = .ok (.iload_n 2, 1) := by decide +kernel
theorem dX0_isZero_8 : decode cX0_isZero 8 = .ok (.aload_n 0, 1) := by decide +kernel
theorem dX0_isZero_9 : decode cX0_isZero 9 = .ok (.arraylength, 1) := by decide +kernel
theorem dX0_isZero_10 : decode cX0_isZero 10 = .ok (.if_icmp .ge 17, 3) := by decide +kernel
theorem dX0_isZero_13 : decode cX0_isZero 13 = .ok (.aload_n 0, 1) := by decide +kernel
theorem dX0_isZero_14 : decode cX0_isZero 14 = .ok (.iload_n 2, 1) := by decide +kernel
theorem dX0_isZero_15 : decode cX0_isZero 15 = .ok (.iaload, 1) := by decide +kernel
theorem dX0_isZero_16 : decode cX0_isZero 16 = .ok (.ifCond .eq 5, 3) := by decide +kernel
theorem dX0_isZero_19 : decode cX0_isZero 19 = .ok (.iconst 0, 1) := by decide +kernel
theorem dX0_isZero_20 : decode cX0_isZero 20 = .ok (.ireturn, 1) := by decide +kernel
theorem dX0_isZero_21 : decode cX0_isZero 21 = .ok (.iinc 2 1, 3) := by decide +kernel
theorem dX0_isZero_24 : decode cX0_isZero 24 = .ok (.goto (-22), 3) := by decide +kernel
theorem dX0_isZero_27 : decode cX0_isZero 27 = .ok (.iconst 1, 1) := by decide +kernel
theorem dX0_isZero_28 : decode cX0_isZero 28 = .ok (.ireturn, 1) := by decide +kernel
theorem dX0_cancel_0 : decode cX0_cancel 0 = .ok (.iconst 0, 1) := by decide +kernel
theorem dX0_cancel_1 : decode cX0_cancel 1 = .ok (.istore 4, 2) := by decide +kernel
theorem dX0_cancel_3 : decode cX0_cancel 3 = .ok (.iload 4, 2) := by decide +kernel
theorem dX0_cancel_5 : decode cX0_cancel 5 = .ok (.iconst 1, 1) := by decide +kernel
theorem dX0_cancel_6 : decode cX0_cancel 6 = .ok (.iadd, 1) := by decide +kernel
theorem dX0_cancel_7 : decode cX0_cancel 7 = .ok (.iload_n 3, 1) := by decide +kernel
theorem dX0_cancel_8 : decode cX0_cancel 8 = .ok (.if_icmp .ge 44, 3) := by decide +kernel
theorem dX0_cancel_11 : decode cX0_cancel 11 = .ok (.iload 4, 2) := by decide +kernel
theorem dX0_cancel_13 : decode cX0_cancel 13 = .ok (.iconst 1, 1) := by decide +kernel
theorem dX0_cancel_14 : decode cX0_cancel 14 = .ok (.iadd, 1) := by decide +kernel
theorem dX0_cancel_15 : decode cX0_cancel 15 = .ok (.aload_n 0, 1) := by decide +kernel
theorem dX0_cancel_16 : decode cX0_cancel 16 = .ok (.arraylength, 1) := by decide +kernel
theorem dX0_cancel_17 : decode cX0_cancel 17 = .ok (.if_icmp .ge 35, 3) := by decide +kernel
theorem dX0_cancel_20 : decode cX0_cancel 20 = .ok (.aload_n 1, 1) := by decide +kernel
theorem dX0_cancel_21 : decode cX0_cancel 21 = .ok (.iload 4, 2) := by decide +kernel
theorem dX0_cancel_23 : decode cX0_cancel 23 = .ok (.aload_n 0, 1) := by decide +kernel
theorem dX0_cancel_24 : decode cX0_cancel 24 = .ok (.iload 4, 2) := by decide +kernel
theorem dX0_cancel_26 : decode cX0_cancel 26 = .ok (.iconst 1, 1) := by decide +kernel
theorem dX0_cancel_27 : decode cX0_cancel 27 = .ok (.iadd, 1) := by decide +kernel
theorem dX0_cancel_28 : decode cX0_cancel 28 = .ok (.iaload, 1) := by decide +kernel
theorem dX0_cancel_29 : decode cX0_cancel 29 = .ok (.getstatic 93, 3) := by decide +kernel
theorem dX0_cancel_32 : decode cX0_cancel 32 = .ok (.iload_n 2, 1) := by decide +kernel
theorem dX0_cancel_33 : decode cX0_cancel 33 = .ok (.bipush 15, 2) := by decide +kernel
theorem dX0_cancel_35 : decode cX0_cancel 35 = .ok (.irem, 1) := by decide +kernel
theorem dX0_cancel_36 : decode cX0_cancel 36 = .ok (.iaload, 1) := by decide +kernel
theorem dX0_cancel_37 : decode cX0_cancel 37 = .ok (.aload_n 0, 1) := by decide +kernel
theorem dX0_cancel_38 : decode cX0_cancel 38 = .ok (.iload 4, 2) := by decide +kernel
theorem dX0_cancel_40 : decode cX0_cancel 40 = .ok (.iaload, 1) := by decide +kernel
theorem dX0_cancel_41 : decode cX0_cancel 41 = .ok (.invokestatic 96, 3) := by decide +kernel
theorem dX0_cancel_44 : decode cX0_cancel 44 = .ok (.ixor, 1) := by decide +kernel
theorem dX0_cancel_45 : decode cX0_cancel 45 = .ok (.iastore, 1) := by decide +kernel
theorem dX0_cancel_46 : decode cX0_cancel 46 = .ok (.iinc 4 1, 3) := by decide +kernel
theorem dX0_cancel_49 : decode cX0_cancel 49 = .ok (.goto (-46), 3) := by decide +kernel
theorem dX0_cancel_52 : decode cX0_cancel 52 = .ok (.return_, 1) := by decide +kernel
theorem dX0_cancelErasures_0 : decode cX0_cancelErasures 0 = .ok (.aload_n 0, 1) := by decide +kernel
theorem dX0_cancelErasures_1 : decode cX0_cancelErasures 1 = .ok (.getfield 18, 3) := by decide +kernel
theorem dX0_cancelErasures_4 : decode cX0_cancelErasures 4 = .ok (.iconst 0, 1) := by decide +kernel
theorem dX0_cancelErasures_5 : decode cX0_cancelErasures 5 = .ok (.aload_n 0, 1) := by decide +kernel
theorem dX0_cancelErasures_6 : decode cX0_cancelErasures 6 = .ok (.getfield 26, 3) := by decide +kernel
theorem dX0_cancelErasures_9 : decode cX0_cancelErasures 9 = .ok (.iconst 0, 1) := by decide +kernel
theorem dX0_cancelErasures_10 : decode cX0_cancelErasures 10 = .ok (.aaload, 1) := by decide +kernel
theorem dX0_cancelErasures_11 : decode cX0_cancelErasures 11 = .ok (.iconst 0, 1) := by decide +kernel
theorem dX0_cancelErasures_12 : decode cX0_cancelErasures 12 = .ok (.bipush 6, 2) := by decide +kernel
theorem dX0_cancelErasures_14 : decode cX0_cancelErasures 14 = .ok (.invokestatic 107, 3) := by decide +kernel
theorem dX0_cancelErasures_17 : decode cX0_cancelErasures 17 = .ok (.aload_n 0, 1) := by decide +kernel
theorem dX0_cancelErasures_18 : decode cX0_cancelErasures 18 = .ok (.getfield 29, 3) := by decide +kernel
theorem dX0_cancelErasures_21 : decode cX0_cancelErasures 21 = .ok (.istore_n 1, 1) := by decide +kernel
theorem dX0_cancelErasures_22 : decode cX0_cancelErasures 22 = .ok (.iconst 0, 1) := by decide +kernel
theorem dX0_cancelErasures_23 : decode cX0_cancelErasures 23 = .ok (.istore_n 2, 1) := by decide +kernel
theorem dX0_cancelErasures_24 : decode cX0_cancelErasures 24 = .ok (.iload_n 2, 1) := by decide +kernel
theorem dX0_cancelErasures_25 : decode cX0_cancelErasures 25 = .ok (.bipush 14, 2) := by decide +kernel
theorem dX0_cancelErasures_27 : decode cX0_cancelErasures 27 = .ok (.if_icmp .ge 40, 3) := by decide +kernel
theorem dX0_cancelErasures_30 : decode cX0_cancelErasures 30 = .ok (.aload_n 0, 1) := by decide +kernel
theorem dX0_cancelErasures_31 : decode cX0_cancelErasures 31 = .ok (.getfield 33, 3) := by decide +kernel
theorem dX0_cancelErasures_34 : decode cX0_cancelErasures 34 = .ok (.iload_n 2, 1) := by decide +kernel
theorem dX0_cancelErasures_35 : decode cX0_cancelErasures 35 = .ok (.ishr, 1) := by decide +kernel
theorem dX0_cancelErasures_36 : decode cX0_cancelErasures 36 = .ok (.iconst 1, 1) := by decide +kernel
theorem dX0_cancelErasures_37 : decode cX0_cancelErasures 37 = .ok (.iand, 1) := by decide +kernel
theorem dX0_cancelErasures_38 : decode cX0_cancelErasures 38 = .ok (.ifCond .eq 23, 3) := by decide +kernel
theorem dX0_cancelErasures_41 : decode cX0_cancelErasures 41 = .ok (.aload_n 0, 1) := by decide +kernel
theorem dX0_cancelErasures_42 : decode cX0_cancelErasures 42 = .ok (.getfield 26, 3) := by decide +kernel
theorem dX0_cancelErasures_45 : decode cX0_cancelErasures 45 = .ok (.iconst 0, 1) := by decide +kernel
theorem dX0_cancelErasures_46 : decode cX0_cancelErasures 46 = .ok (.aaload, 1) := by decide +kernel
theorem dX0_cancelErasures_47 : decode cX0_cancelErasures 47 = .ok (.aload_n 0, 1) := by decide +kernel
theorem dX0_cancelErasures_48 : decode cX0_cancelErasures 48 = .ok (.getfield 26, 3) := by decide +kernel
theorem dX0_cancelErasures_51 : decode cX0_cancelErasures 51 = .ok (.iconst 0, 1) := by decide +kernel
theorem dX0_cancelErasures_52 : decode cX0_cancelErasures 52 = .ok (.aaload, 1) := by decide +kernel
theorem dX0_cancelErasures_53 : decode cX0_cancelErasures 53 = .ok (.iload_n 2, 1) := by decide +kernel
theorem dX0_cancelErasures_54 : decode cX0_cancelErasures 54 = .ok (.iload_n 1, 1) := by decide +kernel
theorem dX0_cancelErasures_55 : decode cX0_cancelErasures 55 = .ok (.invokestatic 103, 3) := by decide +kernel
theorem dX0_cancelErasures_58 : decode cX0_cancelErasures 58 = .ok (.iinc 1 (-1), 3) := by decide +kernel
theorem dX0_cancelErasures_61 : decode cX0_cancelErasures 61 = .ok (.iinc 2 1, 3) := by decide +kernel
theorem dX0_cancelErasures_64 : decode cX0_cancelErasures 64 = .ok (.goto (-40), 3) := by decide +kernel
theorem dX0_cancelErasures_67 : decode cX0_cancelErasures 67 = .ok (.return_, 1) := by decide +kernel
theorem dX0_solve_0 : decode cX0_solve 0 = .ok (.iconst 0, 1) := by decide +kernel
theorem dX0_solve_1 : decode cX0_solve 1 = .ok (.istore_n 2, 1) := by decide +kernel
theorem dX0_solve_2 : decode cX0_solve 2 = .ok (.iload_n 2, 1) := by decide +kernel
theorem dX0_solve_3 : decode cX0_solve 3 = .ok (.bipush 14, 2) := by decide +kernel
theorem dX0_solve_5 : decode cX0_solve 5 = .ok (.if_icmp .ge 50, 3) := by decide +kernel
theorem dX0_solve_8 : decode cX0_solve 8 = .ok (.aload_n 0, 1) := by decide +kernel
theorem dX0_solve_9 : decode cX0_solve 9 = .ok (.getfield 15, 3) := by decide +kernel
theorem dX0_solve_12 : decode cX0_solve 12 = .ok (.iload_n 2, 1) := by decide +kernel
theorem dX0_solve_13 : decode cX0_solve 13 = .ok (.aload_n 0, 1) := by decide +kernel
theorem dX0_solve_14 : decode cX0_solve 14 = .ok (.getfield 9, 3) := by decide +kernel
theorem dX0_solve_17 : decode cX0_solve 17 = .ok (.iload_n 2, 1) := by decide +kernel
theorem dX0_solve_18 : decode cX0_solve 18 = .ok (.iaload, 1) := by decide +kernel
theorem dX0_solve_19 : decode cX0_solve 19 = .ok (.iastore, 1) := by decide +kernel
theorem dX0_solve_20 : decode cX0_solve 20 = .ok (.iload_n 1, 1) := by decide +kernel
theorem dX0_solve_21 : decode cX0_solve 21 = .ok (.iload_n 2, 1) := by decide +kernel
theorem dX0_solve_22 : decode cX0_solve 22 = .ok (.ishr, 1) := by decide +kernel
theorem dX0_solve_23 : decode cX0_solve 23 = .ok (.iconst 1, 1) := by decide +kernel
theorem dX0_solve_24 : decode cX0_solve 24 = .ok (.iand, 1) := by decide +kernel
theorem dX0_solve_25 : decode cX0_solve 25 = .ok (.ifCond .eq 24, 3) := by decide +kernel
theorem dX0_solve_28 : decode cX0_solve 28 = .ok (.aload_n 0, 1) := by decide +kernel
theorem dX0_solve_29 : decode cX0_solve 29 = .ok (.getfield 15, 3) := by decide +kernel
theorem dX0_solve_32 : decode cX0_solve 32 = .ok (.iload_n 2, 1) := by decide +kernel
theorem dX0_solve_33 : decode cX0_solve 33 = .ok (.dup2, 1) := by decide +kernel
theorem dX0_solve_34 : decode cX0_solve 34 = .ok (.iaload, 1) := by decide +kernel
theorem dX0_solve_35 : decode cX0_solve 35 = .ok (.aload_n 0, 1) := by decide +kernel
theorem dX0_solve_36 : decode cX0_solve 36 = .ok (.iload_n 2, 1) := by decide +kernel
theorem dX0_solve_37 : decode cX0_solve 37 = .ok (.iload_n 1, 1) := by decide +kernel
theorem dX0_solve_38 : decode cX0_solve 38 = .ok (.iconst 1, 1) := by decide +kernel
theorem dX0_solve_39 : decode cX0_solve 39 = .ok (.iload_n 2, 1) := by decide +kernel
theorem dX0_solve_40 : decode cX0_solve 40 = .ok (.ishl, 1) := by decide +kernel
theorem dX0_solve_41 : decode cX0_solve 41 = .ok (.iconst (-1), 1) := by decide +kernel
theorem dX0_solve_42 : decode cX0_solve 42 = .ok (.ixor, 1) := by decide +kernel
theorem dX0_solve_43 : decode cX0_solve 43 = .ok (.iand, 1) := by decide +kernel
theorem dX0_solve_44 : decode cX0_solve 44 = .ok (.invokevirtual 113, 3) := by decide +kernel
theorem dX0_solve_47 : decode cX0_solve 47 = .ok (.ixor, 1) := by decide +kernel
theorem dX0_solve_48 : decode cX0_solve 48 = .ok (.iastore, 1) := by decide +kernel
theorem dX0_solve_49 : decode cX0_solve 49 = .ok (.iinc 2 1, 3) := by decide +kernel
theorem dX0_solve_52 : decode cX0_solve 52 = .ok (.goto (-50), 3) := by decide +kernel
theorem dX0_solve_55 : decode cX0_solve 55 = .ok (.return_, 1) := by decide +kernel
theorem dX0_difference_0 : decode cX0_difference 0 = .ok (.aload_n 0, 1) := by decide +kernel
theorem dX0_difference_1 : decode cX0_difference 1 = .ok (.getfield 18, 3) := by decide +kernel
theorem dX0_difference_4 : decode cX0_difference 4 = .ok (.iconst 0, 1) := by decide +kernel
theorem dX0_difference_5 : decode cX0_difference 5 = .ok (.aload_n 0, 1) := by decide +kernel
theorem dX0_difference_6 : decode cX0_difference 6 = .ok (.getfield 21, 3) := by decide +kernel
theorem dX0_difference_9 : decode cX0_difference 9 = .ok (.iconst 0, 1) := by decide +kernel
theorem dX0_difference_10 : decode cX0_difference 10 = .ok (.bipush 6, 2) := by decide +kernel
theorem dX0_difference_12 : decode cX0_difference 12 = .ok (.invokestatic 107, 3) := by decide +kernel
theorem dX0_difference_15 : decode cX0_difference 15 = .ok (.aload_n 0, 1) := by decide +kernel
theorem dX0_difference_16 : decode cX0_difference 16 = .ok (.getfield 29, 3) := by decide +kernel
theorem dX0_difference_19 : decode cX0_difference 19 = .ok (.istore_n 3, 1) := by decide +kernel
theorem dX0_difference_20 : decode cX0_difference 20 = .ok (.iconst 1, 1) := by decide +kernel
theorem dX0_difference_21 : decode cX0_difference 21 = .ok (.istore 4, 2) := by decide +kernel
theorem dX0_difference_23 : decode cX0_difference 23 = .ok (.iconst 0, 1) := by decide +kernel
theorem dX0_difference_24 : decode cX0_difference 24 = .ok (.istore 5, 2) := by decide +kernel
theorem dX0_difference_26 : decode cX0_difference 26 = .ok (.iload 5, 2) := by decide +kernel
theorem dX0_difference_28 : decode cX0_difference 28 = .ok (.bipush 14, 2) := by decide +kernel
theorem dX0_difference_30 : decode cX0_difference 30 = .ok (.if_icmp .ge 54, 3) := by decide +kernel
theorem dX0_difference_33 : decode cX0_difference 33 = .ok (.iload_n 2, 1) := by decide +kernel
theorem dX0_difference_34 : decode cX0_difference 34 = .ok (.iload 5, 2) := by decide +kernel
theorem dX0_difference_36 : decode cX0_difference 36 = .ok (.ishr, 1) := by decide +kernel
theorem dX0_difference_37 : decode cX0_difference 37 = .ok (.iconst 1, 1) := by decide +kernel
theorem dX0_difference_38 : decode cX0_difference 38 = .ok (.iand, 1) := by decide +kernel
theorem dX0_difference_39 : decode cX0_difference 39 = .ok (.ifCond .eq 39, 3) := by decide +kernel
theorem dX0_difference_42 : decode cX0_difference 42 = .ok (.aload_n 0, 1) := by decide +kernel
theorem dX0_difference_43 : decode cX0_difference 43 = .ok (.getfield 21, 3) := by decide +kernel
theorem dX0_difference_46 : decode cX0_difference 46 = .ok (.aload_n 0, 1) := by decide +kernel
theorem dX0_difference_47 : decode cX0_difference 47 = .ok (.getfield 21, 3) := by decide +kernel
theorem dX0_difference_50 : decode cX0_difference 50 = .ok (.iload 5, 2) := by decide +kernel
theorem dX0_difference_52 : decode cX0_difference 52 = .ok (.iload_n 3, 1) := by decide +kernel
theorem dX0_difference_53 : decode cX0_difference 53 = .ok (.invokestatic 103, 3) := by decide +kernel
theorem dX0_difference_56 : decode cX0_difference 56 = .ok (.iinc 3 (-1), 3) := by decide +kernel
theorem dX0_difference_59 : decode cX0_difference 59 = .ok (.iload 4, 2) := by decide +kernel
theorem dX0_difference_61 : decode cX0_difference 61 = .ok (.getstatic 93, 3) := by decide +kernel
theorem dX0_difference_64 : decode cX0_difference 64 = .ok (.iload_n 1, 1) := by decide +kernel
theorem dX0_difference_65 : decode cX0_difference 65 = .ok (.iaload, 1) := by decide +kernel
theorem dX0_difference_66 : decode cX0_difference 66 = .ok (.getstatic 93, 3) := by decide +kernel
theorem dX0_difference_69 : decode cX0_difference 69 = .ok (.iload 5, 2) := by decide +kernel
theorem dX0_difference_71 : decode cX0_difference 71 = .ok (.iaload, 1) := by decide +kernel
theorem dX0_difference_72 : decode cX0_difference 72 = .ok (.ixor, 1) := by decide +kernel
theorem dX0_difference_73 : decode cX0_difference 73 = .ok (.invokestatic 96, 3) := by decide +kernel
theorem dX0_difference_76 : decode cX0_difference 76 = .ok (.istore 4, 2) := by decide +kernel
theorem dX0_difference_78 : decode cX0_difference 78 = .ok (.iinc 5 1, 3) := by decide +kernel
theorem dX0_difference_81 : decode cX0_difference 81 = .ok (.goto (-55), 3) := by decide +kernel
theorem dX0_difference_84 : decode cX0_difference 84 = .ok (.aload_n 0, 1) := by decide +kernel
theorem dX0_difference_85 : decode cX0_difference 85 = .ok (.getfield 21, 3) := by decide +kernel
theorem dX0_difference_88 : decode cX0_difference 88 = .ok (.iconst 0, 1) := by decide +kernel
theorem dX0_difference_89 : decode cX0_difference 89 = .ok (.iaload, 1) := by decide +kernel
theorem dX0_difference_90 : decode cX0_difference 90 = .ok (.iload 4, 2) := by decide +kernel
theorem dX0_difference_92 : decode cX0_difference 92 = .ok (.invokestatic 116, 3) := by decide +kernel
theorem dX0_difference_95 : decode cX0_difference 95 = .ok (.ireturn, 1) := by decide +kernel
theorem dX1_init_0 : decode cX1_init 0 = .ok (.aload_n 0, 1) := by decide +kernel
theorem dX1_init_1 : decode cX1_init 1 = .ok (.invokespecial 3, 3) := by decide +kernel
theorem dX1_init_4 : decode cX1_init 4 = .ok (.aload_n 0, 1) := by decide +kernel
theorem dX1_init_5 : decode cX1_init 5 = .ok (.sipush 240, 3) := by decide +kernel
theorem dX1_init_8 : decode cX1_init 8 = .ok (.newarray .int, 2) := by decide +kernel
theorem dX1_init_10 : decode cX1_init 10 = .ok (.putfield 9, 3) := by decide +kernel
theorem dX1_init_13 : decode cX1_init 13 = .ok (.aload_n 0, 1) := by decide +kernel
theorem dX1_init_14 : decode cX1_init 14 = .ok (.sipush 240, 3) := by decide +kernel
theorem dX1_init_17 : decode cX1_init 17 = .ok (.newarray .int, 2) := by decide +kernel
theorem dX1_init_19 : decode cX1_init 19 = .ok (.putfield 15, 3) := by decide +kernel
theorem dX1_init_22 : decode cX1_init 22 = .ok (.aload_n 0, 1) := by decide +kernel
theorem dX1_init_23 : decode cX1_init 23 = .ok (.sipush 240, 3) := by decide +kernel
theorem dX1_init_26 : decode cX1_init 26 = .ok (.newarray .int, 2) := by decide +kernel
theorem dX1_init_28 : decode cX1_init 28 = .ok (.putfield 18, 3) := by decide +kernel
theorem dX1_init_31 : decode cX1_init 31 = .ok (.aload_n 0, 1) := by decide +kernel
theorem dX1_init_32 : decode cX1_init 32 = .ok (.bipush 8, 2) := by decide +kernel
theorem dX1_init_34 : decode cX1_init 34 = .ok (.newarray .int, 2) := by decide +kernel
theorem dX1_init_36 : decode cX1_init 36 = .ok (.putfield 21, 3) := by decide +kernel
theorem dX1_init_39 : decode cX1_init 39 = .ok (.aload_n 0, 1) := by decide +kernel
theorem dX1_init_40 : decode cX1_init 40 = .ok (.bipush 8, 2) := by decide +kernel
theorem dX1_init_42 : decode cX1_init 42 = .ok (.newarray .int, 2) := by decide +kernel
theorem dX1_init_44 : decode cX1_init 44 = .ok (.putfield 24, 3) := by decide +kernel
theorem dX1_init_47 : decode cX1_init 47 = .ok (.aload_n 0, 1) := by decide +kernel
theorem dX1_init_48 : decode cX1_init 48 = .ok (.bipush 8, 2) := by decide +kernel
theorem dX1_init_50 : decode cX1_init 50 = .ok (.newarray .int, 2) := by decide +kernel
theorem dX1_init_52 : decode cX1_init 52 = .ok (.putfield 27, 3) := by decide +kernel
theorem dX1_init_55 : decode cX1_init 55 = .ok (.aload_n 0, 1) := by decide +kernel
theorem dX1_init_56 : decode cX1_init 56 = .ok (.bipush 8, 2) := by decide +kernel
theorem dX1_init_58 : decode cX1_init 58 = .ok (.newarray .int, 2) := by decide +kernel
theorem dX1_init_60 : decode cX1_init 60 = .ok (.putfield 30, 3) := by decide +kernel
theorem dX1_init_63 : decode cX1_init 63 = .ok (.aload_n 0, 1) := by decide +kernel
theorem dX1_init_64 : decode cX1_init 64 = .ok (.bipush 8, 2) := by decide +kernel
theorem dX1_init_66 : decode cX1_init 66 = .ok (.newarray .int, 2) := by decide +kernel
theorem dX1_init_68 : decode cX1_init 68 = .ok (.putfield 33, 3) := by decide +kernel
theorem dX1_init_71 : decode cX1_init 71 = .ok (.aload_n 0, 1) := by decide +kernel
theorem dX1_init_72 : decode cX1_init 72 = .ok (.bipush 8, 2) := by decide +kernel
theorem dX1_init_74 : decode cX1_init 74 = .ok (.newarray .int, 2) := by decide +kernel
theorem dX1_init_76 : decode cX1_init 76 = .ok (.putfield 36, 3) := by decide +kernel
theorem dX1_init_79 : decode cX1_init 79 = .ok (.aload_n 0, 1) := by decide +kernel
theorem dX1_init_80 : decode cX1_init 80 = .ok (.bipush 8, 2) := by decide +kernel
theorem dX1_init_82 : decode cX1_init 82 = .ok (.newarray .int, 2) := by decide +kernel
theorem dX1_init_84 : decode cX1_init 84 = .ok (.putfield 39, 3) := by decide +kernel
theorem dX1_init_87 : decode cX1_init 87 = .ok (.aload_n 0, 1) := by decide +kernel
theorem dX1_init_88 : decode cX1_init 88 = .ok (.bipush 32, 2) := by decide +kernel
theorem dX1_init_90 : decode cX1_init 90 = .ok (.newarray .int, 2) := by decide +kernel
theorem dX1_init_92 : decode cX1_init 92 = .ok (.putfield 42, 3) := by decide +kernel
theorem dX1_init_95 : decode cX1_init 95 = .ok (.aload_n 0, 1) := by decide +kernel
theorem dX1_init_96 : decode cX1_init 96 = .ok (.iconst 0, 1) := by decide +kernel
theorem dX1_init_97 : decode cX1_init 97 = .ok (.putfield 45, 3) := by decide +kernel
theorem dX1_init_100 : decode cX1_init 100 = .ok (.return_, 1) := by decide +kernel
theorem dX1_takeOver_0 : decode cX1_takeOver 0 = .ok (.aload_n 1, 1) := by decide +kernel
theorem dX1_takeOver_1 : decode cX1_takeOver 1 = .ok (.getfield 9, 3) := by decide +kernel
theorem dX1_takeOver_4 : decode cX1_takeOver 4 = .ok (.iconst 0, 1) := by decide +kernel
theorem dX1_takeOver_5 : decode cX1_takeOver 5 = .ok (.aload_n 0, 1) := by decide +kernel
theorem dX1_takeOver_6 : decode cX1_takeOver 6 = .ok (.getfield 9, 3) := by decide +kernel
theorem dX1_takeOver_9 : decode cX1_takeOver 9 = .ok (.iconst 0, 1) := by decide +kernel
theorem dX1_takeOver_10 : decode cX1_takeOver 10 = .ok (.sipush 240, 3) := by decide +kernel
theorem dX1_takeOver_13 : decode cX1_takeOver 13 = .ok (.invokestatic 49, 3) := by decide +kernel
theorem dX1_takeOver_16 : decode cX1_takeOver 16 = .ok (.aload_n 1, 1) := by decide +kernel
theorem dX1_takeOver_17 : decode cX1_takeOver 17 = .ok (.getfield 15, 3) := by decide +kernel
theorem dX1_takeOver_20 : decode cX1_takeOver 20 = .ok (.iconst 0, 1) := by decide +kernel
theorem dX1_takeOver_21 : decode cX1_takeOver 21 = .ok (.aload_n 0, 1) := by decide +kernel
theorem dX1_takeOver_22 : decode cX1_takeOver 22 = .ok (.getfield 15, 3) := by decide +kernel
theorem dX1_takeOver_25 : decode cX1_takeOver 25 = .ok (.iconst 0, 1) := by decide +kernel
theorem dX1_takeOver_26 : decode cX1_takeOver 26 = .ok (.sipush 240, 3) := by decide +kernel
theorem dX1_takeOver_29 : decode cX1_takeOver 29 = .ok (.invokestatic 49, 3) := by decide +kernel
theorem dX1_takeOver_32 : decode cX1_takeOver 32 = .ok (.aload_n 1, 1) := by decide +kernel
theorem dX1_takeOver_33 : decode cX1_takeOver 33 = .ok (.getfield 18, 3) := by decide +kernel
theorem dX1_takeOver_36 : decode cX1_takeOver 36 = .ok (.iconst 0, 1) := by decide +kernel
theorem dX1_takeOver_37 : decode cX1_takeOver 37 = .ok (.aload_n 0, 1) := by decide +kernel
theorem dX1_takeOver_38 : decode cX1_takeOver 38 = .ok (.getfield 18, 3) := by decide +kernel
theorem dX1_takeOver_41 : decode cX1_takeOver 41 = .ok (.iconst 0, 1) := by decide +kernel
theorem dX1_takeOver_42 : decode cX1_takeOver 42 = .ok (.sipush 240, 3) := by decide +kernel
theorem dX1_takeOver_45 : decode cX1_takeOver 45 = .ok (.invokestatic 49, 3) := by decide +kernel
theorem dX1_takeOver_48 : decode cX1_takeOver 48 = .ok (.aload_n 1, 1) := by decide +kernel
theorem dX1_takeOver_49 : decode cX1_takeOver 49 = .ok (.getfield 21, 3) := by decide +kernel
theorem dX1_takeOver_52 : decode cX1_takeOver 52 = .ok (.iconst 0, 1) := by decide +kernel
theorem dX1_takeOver_53 : decode cX1_takeOver 53 = .ok (.aload_n 0, 1) := by decide +kernel
theorem dX1_takeOver_54 : decode cX1_takeOver 54 = .ok (.getfield 21, 3) := by decide +kernel
theorem dX1_takeOver_57 : decode cX1_takeOver 57 = .ok (.iconst 0, 1) := by decide +kernel
theorem dX1_takeOver_58 : decode cX1_takeOver 58 = .ok (.bipush 8, 2) := by decide +kernel
theorem dX1_takeOver_60 : decode cX1_takeOver 60 = .ok (.invokestatic 49, 3) := by decide +kernel
theorem dX1_takeOver_63 : decode cX1_takeOver 63 = .ok (.aload_n 1, 1) := by decide +kernel
theorem dX1_takeOver_64 : decode cX1_takeOver 64 = .ok (.getfield 24, 3) := by decide +kernel
theorem dX1_takeOver_67 : decode cX1_takeOver 67 = .ok (.iconst 0, 1) := by decide +kernel
theorem dX1_takeOver_68 : decode cX1_takeOver 68 = .ok (.aload_n 0, 1) := by decide +kernel
theorem dX1_takeOver_69 : decode cX1_takeOver 69 = .ok (.getfield 24, 3) := by decide +kernel
theorem dX1_takeOver_72 : decode cX1_takeOver 72 = .ok (.iconst 0, 1) := by decide +kernel
theorem dX1_takeOver_73 : decode cX1_takeOver 73 = .ok (.bipush 8, 2) := by decide +kernel
theorem dX1_takeOver_75 : decode cX1_takeOver 75 = .ok (.invokestatic 49, 3) := by decide +kernel
theorem dX1_takeOver_78 : decode cX1_takeOver 78 = .ok (.aload_n 1, 1) := by decide +kernel
theorem dX1_takeOver_79 : decode cX1_takeOver 79 = .ok (.getfield 27, 3) := by decide +kernel
theorem dX1_takeOver_82 : decode cX1_takeOver 82 = .ok (.iconst 0, 1) := by decide +kernel
theorem dX1_takeOver_83 : decode cX1_takeOver 83 = .ok (.aload_n 0, 1) := by decide +kernel
theorem dX1_takeOver_84 : decode cX1_takeOver 84 = .ok (.getfield 27, 3) := by decide +kernel
theorem dX1_takeOver_87 : decode cX1_takeOver 87 = .ok (.iconst 0, 1) := by decide +kernel
theorem dX1_takeOver_88 : decode cX1_takeOver 88 = .ok (.bipush 8, 2) := by decide +kernel
theorem dX1_takeOver_90 : decode cX1_takeOver 90 = .ok (.invokestatic 49, 3) := by decide +kernel
theorem dX1_takeOver_93 : decode cX1_takeOver 93 = .ok (.aload_n 1, 1) := by decide +kernel
theorem dX1_takeOver_94 : decode cX1_takeOver 94 = .ok (.getfield 30, 3) := by decide +kernel
theorem dX1_takeOver_97 : decode cX1_takeOver 97 = .ok (.iconst 0, 1) := by decide +kernel
theorem dX1_takeOver_98 : decode cX1_takeOver 98 = .ok (.aload_n 0, 1) := by decide +kernel
theorem dX1_takeOver_99 : decode cX1_takeOver 99 = .ok (.getfield 30, 3) := by decide +kernel
theorem dX1_takeOver_102 : decode cX1_takeOver 102 = .ok (.iconst 0, 1) := by decide +kernel
theorem dX1_takeOver_103 : decode cX1_takeOver 103 = .ok (.bipush 8, 2) := by decide +kernel
theorem dX1_takeOver_105 : decode cX1_takeOver 105 = .ok (.invokestatic 49, 3) := by decide +kernel
theorem dX1_takeOver_108 : decode cX1_takeOver 108 = .ok (.aload_n 1, 1) := by decide +kernel
theorem dX1_takeOver_109 : decode cX1_takeOver 109 = .ok (.getfield 33, 3) := by decide +kernel
theorem dX1_takeOver_112 : decode cX1_takeOver 112 = .ok (.iconst 0, 1) := by decide +kernel
theorem dX1_takeOver_113 : decode cX1_takeOver 113 = .ok (.aload_n 0, 1) := by decide +kernel
theorem dX1_takeOver_114 : decode cX1_takeOver 114 = .ok (.getfield 33, 3) := by decide +kernel
theorem dX1_takeOver_117 : decode cX1_takeOver 117 = .ok (.iconst 0, 1) := by decide +kernel
theorem dX1_takeOver_118 : decode cX1_takeOver 118 = .ok (.bipush 8, 2) := by decide +kernel
theorem dX1_takeOver_120 : decode cX1_takeOver 120 = .ok (.invokestatic 49, 3) := by decide +kernel
theorem dX1_takeOver_123 : decode cX1_takeOver 123 = .ok (.aload_n 1, 1) := by decide +kernel
theorem dX1_takeOver_124 : decode cX1_takeOver 124 = .ok (.getfield 36, 3) := by decide +kernel
theorem dX1_takeOver_127 : decode cX1_takeOver 127 = .ok (.iconst 0, 1) := by decide +kernel
theorem dX1_takeOver_128 : decode cX1_takeOver 128 = .ok (.aload_n 0, 1) := by decide +kernel
theorem dX1_takeOver_129 : decode cX1_takeOver 129 = .ok (.getfield 36, 3) := by decide +kernel
theorem dX1_takeOver_132 : decode cX1_takeOver 132 = .ok (.iconst 0, 1) := by decide +kernel
theorem dX1_takeOver_133 : decode cX1_takeOver 133 = .ok (.bipush 8, 2) := by decide +kernel
theorem dX1_takeOver_135 : decode cX1_takeOver 135 = .ok (.invokestatic 49, 3) := by decide +kernel
theorem dX1_takeOver_138 : decode cX1_takeOver 138 = .ok (.aload_n 1, 1) := by decide +kernel
theorem dX1_takeOver_139 : decode cX1_takeOver 139 = .ok (.getfield 39, 3) := by decide +kernel
theorem dX1_takeOver_142 : decode cX1_takeOver 142 = .ok (.iconst 0, 1) := by decide +kernel
theorem dX1_takeOver_143 : decode cX1_takeOver 143 = .ok (.aload_n 0, 1) := by decide +kernel
theorem dX1_takeOver_144 : decode cX1_takeOver 144 = .ok (.getfield 39, 3) := by decide +kernel
theorem dX1_takeOver_147 : decode cX1_takeOver 147 = .ok (.iconst 0, 1) := by decide +kernel
theorem dX1_takeOver_148 : decode cX1_takeOver 148 = .ok (.bipush 8, 2) := by decide +kernel
theorem dX1_takeOver_150 : decode cX1_takeOver 150 = .ok (.invokestatic 49, 3) := by decide +kernel
theorem dX1_takeOver_153 : decode cX1_takeOver 153 = .ok (.aload_n 1, 1) := by decide +kernel
theorem dX1_takeOver_154 : decode cX1_takeOver 154 = .ok (.getfield 42, 3) := by decide +kernel
theorem dX1_takeOver_157 : decode cX1_takeOver 157 = .ok (.iconst 0, 1) := by decide +kernel
theorem dX1_takeOver_158 : decode cX1_takeOver 158 = .ok (.aload_n 0, 1) := by decide +kernel
theorem dX1_takeOver_159 : decode cX1_takeOver 159 = .ok (.getfield 42, 3) := by decide +kernel
theorem dX1_takeOver_162 : decode cX1_takeOver 162 = .ok (.iconst 0, 1) := by decide +kernel
theorem dX1_takeOver_163 : decode cX1_takeOver 163 = .ok (.bipush 32, 2) := by decide +kernel
theorem dX1_takeOver_165 : decode cX1_takeOver 165 = .ok (.invokestatic 49, 3) := by decide +kernel
theorem dX1_takeOver_168 : decode cX1_takeOver 168 = .ok (.aload_n 0, 1) := by decide +kernel
theorem dX1_takeOver_169 : decode cX1_takeOver 169 = .ok (.aload_n 1, 1) := by decide +kernel
theorem dX1_takeOver_170 : decode cX1_takeOver 170 = .ok (.getfield 45, 3) := by decide +kernel
theorem dX1_takeOver_173 : decode cX1_takeOver 173 = .ok (.putfield 45, 3) := by decide +kernel
theorem dX1_takeOver_176 : decode cX1_takeOver 176 = .ok (.return_, 1) := by decide +kernel
theorem dX1_reset_0 : decode cX1_reset 0 = .ok (.iconst 0, 1) := by decide +kernel
theorem dX1_reset_1 : decode cX1_reset 1 = .ok (.istore_n 1, 1) := by decide +kernel
theorem dX1_reset_2 : decode cX1_reset 2 = .ok (.iload_n 1, 1) := by decide +kernel
theorem dX1_reset_3 : decode cX1_reset 3 = .ok (.sipush 240, 3) := by decide +kernel
theorem dX1_reset_6 : decode cX1_reset 6 = .ok (.if_icmp .ge 30, 3) := by decide +kernel
theorem dX1_reset_9 : decode cX1_reset 9 = .ok (.aload_n 0, 1) := by decide +kernel
theorem dX1_reset_10 : decode cX1_reset 10 = .ok (.getfield 9, 3) := by decide +kernel
theorem dX1_reset_13 : decode cX1_reset 13 = .ok (.iload_n 1, 1) := by decide +kernel
theorem dX1_reset_14 : decode cX1_reset 14 = .ok (.iconst 0, 1) := by decide +kernel
theorem dX1_reset_15 : decode cX1_reset 15 = .ok (.iastore, 1) := by decide +kernel
theorem dX1_reset_16 : decode cX1_reset 16 = .ok (.aload_n 0, 1) := by decide +kernel
theorem dX1_reset_17 : decode cX1_reset 17 = .ok (.getfield 15, 3) := by decide +kernel
theorem dX1_reset_20 : decode cX1_reset 20 = .ok (.iload_n 1, 1) := by decide +kernel
theorem dX1_reset_21 : decode cX1_reset 21 = .ok (.iconst 0, 1) := by decide +kernel
theorem dX1_reset_22 : decode cX1_reset 22 = .ok (.iastore, 1) := by decide +kernel
theorem dX1_reset_23 : decode cX1_reset 23 = .ok (.aload_n 0, 1) := by decide +kernel
theorem dX1_reset_24 : decode cX1_reset 24 = .ok (.getfield 18, 3) := by decide +kernel
theorem dX1_reset_27 : decode cX1_reset 27 = .ok (.iload_n 1, 1) := by decide +kernel
theorem dX1_reset_28 : decode cX1_reset 28 = .ok (.iconst 0, 1) := by decide +kernel
theorem dX1_reset_29 : decode cX1_reset 29 = .ok (.iastore, 1) := by decide +kernel
theorem dX1_reset_30 : decode cX1_reset 30 = .ok (.iinc 1 1, 3) := by decide +kernel
theorem dX1_reset_33 : decode cX1_reset 33 = .ok (.goto (-31), 3) := by decide +kernel
theorem dX1_reset_36 : decode cX1_reset 36 = .ok (.iconst 0, 1) := by decide +kernel
theorem dX1_reset_37 : decode cX1_reset 37 = .ok (.istore_n 1, 1) := by decide +kernel
theorem dX1_reset_38 : decode cX1_reset 38 = .ok (.iload_n 1, 1) := by decide +kernel
theorem dX1_reset_39 : decode cX1_reset 39 = .ok (.bipush 8, 2) := by decide +kernel
theorem dX1_reset_41 : decode cX1_reset 41 = .ok (.if_icmp .ge 16, 3) := by decide +kernel
theorem dX1_reset_44 : decode cX1_reset 44 = .ok (.aload_n 0, 1) := by decide +kernel
theorem dX1_reset_45 : decode cX1_reset 45 = .ok (.getfield 21, 3) := by decide +kernel
theorem dX1_reset_48 : decode cX1_reset 48 = .ok (.iload_n 1, 1) := by decide +kernel
theorem dX1_reset_49 : decode cX1_reset 49 = .ok (.iconst 0, 1) := by decide +kernel
theorem dX1_reset_50 : decode cX1_reset 50 = .ok (.iastore, 1) := by decide +kernel
theorem dX1_reset_51 : decode cX1_reset 51 = .ok (.iinc 1 1, 3) := by decide +kernel
theorem dX1_reset_54 : decode cX1_reset 54 = .ok (.goto (-16), 3) := by decide +kernel
theorem dX1_reset_57 : decode cX1_reset 57 = .ok (.iconst 0, 1) := by decide +kernel
theorem dX1_reset_58 : decode cX1_reset 58 = .ok (.istore_n 1, 1) := by decide +kernel
theorem dX1_reset_59 : decode cX1_reset 59 = .ok (.iload_n 1, 1) := by decide +kernel
theorem dX1_reset_60 : decode cX1_reset 60 = .ok (.bipush 8, 2) := by decide +kernel
theorem dX1_reset_62 : decode cX1_reset 62 = .ok (.if_icmp .ge 14, 3) := by decide +kernel
theorem dX1_reset_65 : decode cX1_reset 65 = .ok (.aload_n 0, 1) := by decide +kernel
theorem dX1_reset_66 : decode cX1_reset 66 = .ok (.iload_n 1, 1) := by decide +kernel
theorem dX1_reset_67 : decode cX1_reset 67 = .ok (.invokevirtual 55, 3) := by decide +kernel
theorem dX1_reset_70 : decode cX1_reset 70 = .ok (.iinc 1 1, 3) := by decide +kernel
theorem dX1_reset_73 : decode cX1_reset 73 = .ok (.goto (-14), 3) := by decide +kernel
theorem dX1_reset_76 : decode cX1_reset 76 = .ok (.aload_n 0, 1) := by decide +kernel
theorem dX1_reset_77 : decode cX1_reset 77 = .ok (.iconst 0, 1) := by decide +kernel
theorem dX1_reset_78 : decode cX1_reset 78 = .ok (.putfield 45, 3) := by decide +kernel
theorem dX1_reset_81 : decode cX1_reset 81 = .ok (.return_, 1) := by decide +kernel
theorem dX1_hasFile_0 : decode cX1_hasFile 0 = .ok (.iload_n 1, 1) := by decide +kernel
theorem dX1_hasFile_1 : decode cX1_hasFile 1 = .ok (.ifCond .lt 22, 3) := by decide +kernel
theorem dX1_hasFile_4 : decode cX1_hasFile 4 = .ok (.iload_n 1, 1) := by decide +kernel
theorem dX1_hasFile_5 : decode cX1_hasFile 5 = .ok (.bipush 8, 2) := by decide +kernel
theorem dX1_hasFile_7 : decode cX1_hasFile 7 = .ok (.if_icmp .ge 16, 3) := by decide +kernel
theorem dX1_hasFile_10 : decode cX1_hasFile 10 = .ok (.aload_n 0, 1) := by decide +kernel
theorem dX1_hasFile_11 : decode cX1_hasFile 11 = .ok (.getfield 24, 3) := by decide +kernel
theorem dX1_hasFile_14 : decode cX1_hasFile 14 = .ok (.iload_n 1, 1) := by decide +kernel
theorem dX1_hasFile_15 : decode cX1_hasFile 15 = .ok (.iaload, 1) := by decide +kernel
theorem dX1_hasFile_16 : decode cX1_hasFile 16 = .ok (.ifCond .le 7, 3) := by decide +kernel
theorem dX1_hasFile_19 : decode cX1_hasFile 19 = .ok (.iconst 1, 1) := by decide +kernel
theorem dX1_hasFile_20 : decode cX1_hasFile 20 = .ok (.goto 4, 3) := by decide +kernel
theorem dX1_hasFile_23 : decode cX1_hasFile 23 = .ok (.iconst 0, 1) := by decide +kernel
theorem dX1_hasFile_24 : decode cX1_hasFile 24 = .ok (.ireturn, 1) := by decide +kernel
theorem dX1_hasBlock_0 : decode cX1_hasBlock 0 = .ok (.aload_n 0, 1) := by decide +kernel
theorem dX1_hasBlock_1 : decode cX1_hasBlock 1 = .ok (.iload_n 1, 1) := by decide +kernel
theorem dX1_hasBlock_2 : decode cX1_hasBlock 2 = .ok (.invokevirtual 59, 3) := by decide +kernel
theorem dX1_hasBlock_5 : decode cX1_hasBlock 5 = .ok (.ifCond .eq 21, 3) := by decide +kernel
theorem dX1_hasBlock_8 : decode cX1_hasBlock 8 = .ok (.iload_n 2, 1) := by decide +kernel
theorem dX1_hasBlock_9 : decode cX1_hasBlock 9 = .ok (.ifCond .lt 17, 3) := by decide +kernel
theorem dX1_hasBlock_12 : decode cX1_hasBlock 12 = .ok (.iload_n 2, 1) := by decide +kernel
theorem dX1_hasBlock_13 : decode cX1_hasBlock 13 = .ok (.aload_n 0, 1) := by decide +kernel
theorem dX1_hasBlock_14 : decode cX1_hasBlock 14 = .ok (.getfield 27, 3) := by decide +kernel
theorem dX1_hasBlock_17 : decode cX1_hasBlock 17 = .ok (.iload_n 1, 1) := by decide +kernel
theorem dX1_hasBlock_18 : decode cX1_hasBlock 18 = .ok (.iaload, 1) := by decide +kernel
theorem dX1_hasBlock_19 : decode cX1_hasBlock 19 = .ok (.if_icmp .ge 7, 3) := by decide +kernel
theorem dX1_hasBlock_22 : decode cX1_hasBlock 22 = .ok (.iconst 1, 1) := by decide +kernel
theorem dX1_hasBlock_23 : decode cX1_hasBlock 23 = .ok (.goto 4, 3) := by decide +kernel
theorem dX1_hasBlock_26 : decode cX1_hasBlock 26 = .ok (.iconst 0, 1) := by decide +kernel
theorem dX1_hasBlock_27 : decode cX1_hasBlock 27 = .ok (.ireturn, 1) := by decide +kernel
theorem dX1_hasPosition_0 : decode cX1_hasPosition 0 = .ok (.aload_n 0, 1) := by decide +kernel
theorem dX1_hasPosition_1 : decode cX1_hasPosition 1 = .ok (.iload_n 1, 1) := by decide +kernel
theorem dX1_hasPosition_2 : decode cX1_hasPosition 2 = .ok (.iload_n 2, 1) := by decide +kernel
theorem dX1_hasPosition_3 : decode cX1_hasPosition 3 = .ok (.invokevirtual 63, 3) := by decide +kernel
theorem dX1_hasPosition_6 : decode cX1_hasPosition 6 = .ok (.ifCond .eq 20, 3) := by decide +kernel
theorem dX1_hasPosition_9 : decode cX1_hasPosition 9 = .ok (.iload_n 3, 1) := by decide +kernel
theorem dX1_hasPosition_10 : decode cX1_hasPosition 10 = .ok (.ifCond .lt 16, 3) := by decide +kernel
theorem dX1_hasPosition_13 : decode cX1_hasPosition 13 = .ok (.iload_n 3, 1) := by decide +kernel
theorem dX1_hasPosition_14 : decode cX1_hasPosition 14 = .ok (.aload_n 0, 1) := by decide +kernel
theorem dX1_hasPosition_15 : decode cX1_hasPosition 15 = .ok (.iload_n 1, 1) := by decide +kernel
theorem dX1_hasPosition_16 : decode cX1_hasPosition 16 = .ok (.invokevirtual 67, 3) := by decide +kernel
theorem dX1_hasPosition_19 : decode cX1_hasPosition 19 = .ok (.if_icmp .ge 7, 3) := by decide +kernel
theorem dX1_hasPosition_22 : decode cX1_hasPosition 22 = .ok (.iconst 1, 1) := by decide +kernel
theorem dX1_hasPosition_23 : decode cX1_hasPosition 23 = .ok (.goto 4, 3) := by decide +kernel
theorem dX1_hasPosition_26 : decode cX1_hasPosition 26 = .ok (.iconst 0, 1) := by decide +kernel
theorem dX1_hasPosition_27 : decode cX1_hasPosition 27 = .ok (.ireturn, 1) := by decide +kernel
theorem dX1_fileCount_0 : decode cX1_fileCount 0 = .ok (.iconst 0, 1) := by decide +kernel
theorem dX1_fileCount_1 : decode cX1_fileCount 1 = .ok (.istore_n 1, 1) := by decide +kernel
theorem dX1_fileCount_2 : decode cX1_fileCount 2 = .ok (.iconst 0, 1) := by decide +kernel
theorem dX1_fileCount_3 : decode cX1_fileCount 3 = .ok (.istore_n 2, 1) := by decide +kernel
theorem dX1_fileCount_4 : decode cX1_fileCount 4 = .ok (.iload_n 2, 1) := by decide +kernel
theorem dX1_fileCount_5 : decode cX1_fileCount 5 = .ok (.bipush 8, 2) := by decide +kernel
theorem dX1_fileCount_7 : decode cX1_fileCount 7 = .ok (.if_icmp .ge 20, 3) := by decide +kernel
theorem dX1_fileCount_10 : decode cX1_fileCount 10 = .ok (.aload_n 0, 1) := by decide +kernel
theorem dX1_fileCount_11 : decode cX1_fileCount 11 = .ok (.iload_n 2, 1) := by decide +kernel
theorem dX1_fileCount_12 : decode cX1_fileCount 12 = .ok (.invokevirtual 59, 3) := by decide +kernel
theorem dX1_fileCount_15 : decode cX1_fileCount 15 = .ok (.ifCond .eq 6, 3) := by decide +kernel
theorem dX1_fileCount_18 : decode cX1_fileCount 18 = .ok (.iinc 1 1, 3) := by decide +kernel
theorem dX1_fileCount_21 : decode cX1_fileCount 21 = .ok (.iinc 2 1, 3) := by decide +kernel
theorem dX1_fileCount_24 : decode cX1_fileCount 24 = .ok (.goto (-20), 3) := by decide +kernel
theorem dX1_fileCount_27 : decode cX1_fileCount 27 = .ok (.iload_n 1, 1) := by decide +kernel
theorem dX1_fileCount_28 : decode cX1_fileCount 28 = .ok (.ireturn, 1) := by decide +kernel
theorem dX1_freeFile_0 : decode cX1_freeFile 0 = .ok (.iconst 0, 1) := by decide +kernel
theorem dX1_freeFile_1 : decode cX1_freeFile 1 = .ok (.istore_n 1, 1) := by decide +kernel
theorem dX1_freeFile_2 : decode cX1_freeFile 2 = .ok (.iload_n 1, 1) := by decide +kernel
theorem dX1_freeFile_3 : decode cX1_freeFile 3 = .ok (.bipush 8, 2) := by decide +kernel
theorem dX1_freeFile_5 : decode cX1_freeFile 5 = .ok (.if_icmp .ge 19, 3) := by decide +kernel
theorem dX1_freeFile_8 : decode cX1_freeFile 8 = .ok (.aload_n 0, 1) := by decide +kernel
theorem dX1_freeFile_9 : decode cX1_freeFile 9 = .ok (.iload_n 1, 1) := by decide +kernel
theorem dX1_freeFile_10 : decode cX1_freeFile 10 = .ok (.invokevirtual 59, 3) := by decide +kernel
theorem dX1_freeFile_13 : decode cX1_freeFile 13 = .ok (.ifCond .ne 5, 3) := by decide +kernel
theorem dX1_freeFile_16 : decode cX1_freeFile 16 = .ok (.iload_n 1, 1) := by decide +kernel
theorem dX1_freeFile_17 : decode cX1_freeFile 17 = .ok (.ireturn, 1) := by decide +kernel
theorem dX1_freeFile_18 : decode cX1_freeFile 18 = .ok (.iinc 1 1, 3) := by decide +kernel
theorem dX1_freeFile_21 : decode cX1_freeFile 21 = .ok (.goto (-19), 3) := by decide +kernel
theorem dX1_freeFile_24 : decode cX1_freeFile 24 = .ok (.iconst (-1), 1) := by decide +kernel
theorem dX1_freeFile_25 : decode cX1_freeFile 25 = .ok (.ireturn, 1) := by decide +kernel
theorem dX1_enter_0 : decode cX1_enter 0 = .ok (.aload_n 0, 1) := by decide +kernel
theorem dX1_enter_1 : decode cX1_enter 1 = .ok (.getfield 24, 3) := by decide +kernel
theorem dX1_enter_4 : decode cX1_enter 4 = .ok (.iload_n 1, 1) := by decide +kernel
theorem dX1_enter_5 : decode cX1_enter 5 = .ok (.iload_n 2, 1) := by decide +kernel
theorem dX1_enter_6 : decode cX1_enter 6 = .ok (.iastore, 1) := by decide +kernel
theorem dX1_enter_7 : decode cX1_enter 7 = .ok (.aload_n 0, 1) := by decide +kernel
theorem dX1_enter_8 : decode cX1_enter 8 = .ok (.getfield 27, 3) := by decide +kernel
theorem dX1_enter_11 : decode cX1_enter 11 = .ok (.iload_n 1, 1) := by decide +kernel
theorem dX1_enter_12 : decode cX1_enter 12 = .ok (.iload_n 2, 1) := by decide +kernel
theorem dX1_enter_13 : decode cX1_enter 13 = .ok (.invokestatic 71, 3) := by decide +kernel
theorem dX1_enter_16 : decode cX1_enter 16 = .ok (.iastore, 1) := by decide +kernel
theorem dX1_enter_17 : decode cX1_enter 17 = .ok (.aload_n 0, 1) := by decide +kernel
theorem dX1_enter_18 : decode cX1_enter 18 = .ok (.getfield 30, 3) := by decide +kernel
theorem dX1_enter_21 : decode cX1_enter 21 = .ok (.iload_n 1, 1) := by decide +kernel
theorem dX1_enter_22 : decode cX1_enter 22 = .ok (.iload_n 3, 1) := by decide +kernel
theorem dX1_enter_23 : decode cX1_enter 23 = .ok (.iastore, 1) := by decide +kernel
theorem dX1_enter_24 : decode cX1_enter 24 = .ok (.aload_n 0, 1) := by decide +kernel
theorem dX1_enter_25 : decode cX1_enter 25 = .ok (.getfield 33, 3) := by decide +kernel
theorem dX1_enter_28 : decode cX1_enter 28 = .ok (.iload_n 1, 1) := by decide +kernel
theorem dX1_enter_29 : decode cX1_enter 29 = .ok (.iload 4, 2) := by decide +kernel
theorem dX1_enter_31 : decode cX1_enter 31 = .ok (.iastore, 1) := by decide +kernel
theorem dX1_enter_32 : decode cX1_enter 32 = .ok (.aload_n 0, 1) := by decide +kernel
theorem dX1_enter_33 : decode cX1_enter 33 = .ok (.getfield 39, 3) := by decide +kernel
theorem dX1_enter_36 : decode cX1_enter 36 = .ok (.iload_n 1, 1) := by decide +kernel
theorem dX1_enter_37 : decode cX1_enter 37 = .ok (.iload 5, 2) := by decide +kernel
theorem dX1_enter_39 : decode cX1_enter 39 = .ok (.iastore, 1) := by decide +kernel
theorem dX1_enter_40 : decode cX1_enter 40 = .ok (.iconst 0, 1) := by decide +kernel
theorem dX1_enter_41 : decode cX1_enter 41 = .ok (.istore 6, 2) := by decide +kernel
theorem dX1_enter_43 : decode cX1_enter 43 = .ok (.iload 6, 2) := by decide +kernel
theorem dX1_enter_45 : decode cX1_enter 45 = .ok (.iconst 4, 1) := by decide +kernel
theorem dX1_enter_46 : decode cX1_enter 46 = .ok (.if_icmp .ge 24, 3) := by decide +kernel
theorem dX1_enter_49 : decode cX1_enter 49 = .ok (.aload_n 0, 1) := by decide +kernel
theorem dX1_enter_50 : decode cX1_enter 50 = .ok (.getfield 42, 3) := by decide +kernel
theorem dX1_enter_53 : decode cX1_enter 53 = .ok (.iload_n 1, 1) := by decide +kernel
theorem dX1_enter_54 : decode cX1_enter 54 = .ok (.iconst 4, 1) := by decide +kernel
theorem dX1_enter_55 : decode cX1_enter 55 = .ok (.imul, 1) := by decide +kernel
theorem dX1_enter_56 : decode cX1_enter 56 = .ok (.iload 6, 2) := by decide +kernel
theorem dX1_enter_58 : decode cX1_enter 58 = .ok (.iadd, 1) := by decide +kernel
theorem dX1_enter_59 : decode cX1_enter 59 = .ok (.aload_n 0, 1) := by decide +kernel
theorem dX1_enter_60 : decode cX1_enter 60 = .ok (.getfield 45, 3) := by decide +kernel
theorem dX1_enter_63 : decode cX1_enter 63 = .ok (.iastore, 1) := by decide +kernel
theorem dX1_enter_64 : decode cX1_enter 64 = .ok (.iinc 6 1, 3) := by decide +kernel
theorem dX1_enter_67 : decode cX1_enter 67 = .ok (.goto (-24), 3) := by decide +kernel
theorem dX1_enter_70 : decode cX1_enter 70 = .ok (.return_, 1) := by decide +kernel
theorem dX1_drop_0 : decode cX1_drop 0 = .ok (.aload_n 0, 1) := by decide +kernel
theorem dX1_drop_1 : decode cX1_drop 1 = .ok (.getfield 24, 3) := by decide +kernel
theorem dX1_drop_4 : decode cX1_drop 4 = .ok (.iload_n 1, 1) := by decide +kernel
theorem dX1_drop_5 : decode cX1_drop 5 = .ok (.iconst 0, 1) := by decide +kernel
theorem dX1_drop_6 : decode cX1_drop 6 = .ok (.iastore, 1) := by decide +kernel
theorem dX1_drop_7 : decode cX1_drop 7 = .ok (.aload_n 0, 1) := by decide +kernel
theorem dX1_drop_8 : decode cX1_drop 8 = .ok (.getfield 27, 3) := by decide +kernel
theorem dX1_drop_11 : decode cX1_drop 11 = .ok (.iload_n 1, 1) := by decide +kernel
theorem dX1_drop_12 : decode cX1_drop 12 = .ok (.iconst 0, 1) := by decide +kernel
theorem dX1_drop_13 : decode cX1_drop 13 = .ok (.iastore, 1) := by decide +kernel
theorem dX1_drop_14 : decode cX1_drop 14 = .ok (.aload_n 0, 1) := by decide +kernel
theorem dX1_drop_15 : decode cX1_drop 15 = .ok (.getfield 30, 3) := by decide +kernel
theorem dX1_drop_18 : decode cX1_drop 18 = .ok (.iload_n 1, 1) := by decide +kernel
theorem dX1_drop_19 : decode cX1_drop 19 = .ok (.iconst 0, 1) := by decide +kernel
theorem dX1_drop_20 : decode cX1_drop 20 = .ok (.iastore, 1) := by decide +kernel
theorem dX1_drop_21 : decode cX1_drop 21 = .ok (.aload_n 0, 1) := by decide +kernel
theorem dX1_drop_22 : decode cX1_drop 22 = .ok (.getfield 33, 3) := by decide +kernel
theorem dX1_drop_25 : decode cX1_drop 25 = .ok (.iload_n 1, 1) := by decide +kernel
theorem dX1_drop_26 : decode cX1_drop 26 = .ok (.iconst 0, 1) := by decide +kernel
theorem dX1_drop_27 : decode cX1_drop 27 = .ok (.iastore, 1) := by decide +kernel
theorem dX1_drop_28 : decode cX1_drop 28 = .ok (.aload_n 0, 1) := by decide +kernel
theorem dX1_drop_29 : decode cX1_drop 29 = .ok (.getfield 36, 3) := by decide +kernel
theorem dX1_drop_32 : decode cX1_drop 32 = .ok (.iload_n 1, 1) := by decide +kernel
theorem dX1_drop_33 : decode cX1_drop 33 = .ok (.iconst 0, 1) := by decide +kernel
theorem dX1_drop_34 : decode cX1_drop 34 = .ok (.iastore, 1) := by decide +kernel
theorem dX1_drop_35 : decode cX1_drop 35 = .ok (.aload_n 0, 1) := by decide +kernel
theorem dX1_drop_36 : decode cX1_drop 36 = .ok (.getfield 39, 3) := by decide +kernel
theorem dX1_drop_39 : decode cX1_drop 39 = .ok (.iload_n 1, 1) := by decide +kernel
theorem dX1_drop_40 : decode cX1_drop 40 = .ok (.iconst 0, 1) := by decide +kernel
theorem dX1_drop_41 : decode cX1_drop 41 = .ok (.iastore, 1) := by decide +kernel
theorem dX1_drop_42 : decode cX1_drop 42 = .ok (.return_, 1) := by decide +kernel
theorem dX1_blockSize_0 : decode cX1_blockSize 0 = .ok (.bipush 8, 2) := by decide +kernel
theorem dX1_blockSize_2 : decode cX1_blockSize 2 = .ok (.aload_n 0, 1) := by decide +kernel
theorem dX1_blockSize_3 : decode cX1_blockSize 3 = .ok (.getfield 30, 3) := by decide +kernel
theorem dX1_blockSize_6 : decode cX1_blockSize 6 = .ok (.iload_n 1, 1) := by decide +kernel
theorem dX1_blockSize_7 : decode cX1_blockSize 7 = .ok (.iaload, 1) := by decide +kernel
theorem dX1_blockSize_8 : decode cX1_blockSize 8 = .ok (.iadd, 1) := by decide +kernel
theorem dX1_blockSize_9 : decode cX1_blockSize 9 = .ok (.ireturn, 1) := by decide +kernel
theorem dX1_areaSize_0 : decode cX1_areaSize 0 = .ok (.aload_n 0, 1) := by decide +kernel
theorem dX1_areaSize_1 : decode cX1_areaSize 1 = .ok (.getfield 27, 3) := by decide +kernel
theorem dX1_areaSize_4 : decode cX1_areaSize 4 = .ok (.iload_n 1, 1) := by decide +kernel
theorem dX1_areaSize_5 : decode cX1_areaSize 5 = .ok (.iaload, 1) := by decide +kernel
theorem dX1_areaSize_6 : decode cX1_areaSize 6 = .ok (.aload_n 0, 1) := by decide +kernel
theorem dX1_areaSize_7 : decode cX1_areaSize 7 = .ok (.iload_n 1, 1) := by decide +kernel
theorem dX1_areaSize_8 : decode cX1_areaSize 8 = .ok (.invokevirtual 67, 3) := by decide +kernel
theorem dX1_areaSize_11 : decode cX1_areaSize 11 = .ok (.imul, 1) := by decide +kernel
theorem dX1_areaSize_12 : decode cX1_areaSize 12 = .ok (.ireturn, 1) := by decide +kernel
theorem dX1_areaStart_0 : decode cX1_areaStart 0 = .ok (.iload_n 1, 1) := by decide +kernel
theorem dX1_areaStart_1 : decode cX1_areaStart 1 = .ok (.ifCond .ge 7, 3) := by decide +kernel
theorem dX1_areaStart_4 : decode cX1_areaStart 4 = .ok (.iconst 0, 1) := by decide +kernel
theorem dX1_areaStart_5 : decode cX1_areaStart 5 = .ok (.goto 9, 3) := by decide +kernel
theorem dX1_areaStart_8 : decode cX1_areaStart 8 = .ok (.aload_n 0, 1) := by decide +kernel
theorem dX1_areaStart_9 : decode cX1_areaStart 9 = .ok (.getfield 39, 3) := by decide +kernel
theorem dX1_areaStart_12 : decode cX1_areaStart 12 = .ok (.iload_n 1, 1) := by decide +kernel
theorem dX1_areaStart_13 : decode cX1_areaStart 13 = .ok (.iaload, 1) := by decide +kernel
theorem dX1_areaStart_14 : decode cX1_areaStart 14 = .ok (.ireturn, 1) := by decide +kernel
theorem dX1_areaEnd_0 : decode cX1_areaEnd 0 = .ok (.iload_n 1, 1) := by decide +kernel
theorem dX1_areaEnd_1 : decode cX1_areaEnd 1 = .ok (.ifCond .ge 9, 3) := by decide +kernel
theorem dX1_areaEnd_4 : decode cX1_areaEnd 4 = .ok (.sipush 240, 3) := by decide +kernel
theorem dX1_areaEnd_7 : decode cX1_areaEnd 7 = .ok (.goto 15, 3) := by decide +kernel
theorem dX1_areaEnd_10 : decode cX1_areaEnd 10 = .ok (.aload_n 0, 1) := by decide +kernel
theorem dX1_areaEnd_11 : decode cX1_areaEnd 11 = .ok (.getfield 39, 3) := by decide +kernel
theorem dX1_areaEnd_14 : decode cX1_areaEnd 14 = .ok (.iload_n 1, 1) := by decide +kernel
theorem dX1_areaEnd_15 : decode cX1_areaEnd 15 = .ok (.iaload, 1) := by decide +kernel
theorem dX1_areaEnd_16 : decode cX1_areaEnd 16 = .ok (.aload_n 0, 1) := by decide +kernel
theorem dX1_areaEnd_17 : decode cX1_areaEnd 17 = .ok (.iload_n 1, 1) := by decide +kernel
theorem dX1_areaEnd_18 : decode cX1_areaEnd 18 = .ok (.invokevirtual 74, 3) := by decide +kernel
theorem dX1_areaEnd_21 : decode cX1_areaEnd 21 = .ok (.iadd, 1) := by decide +kernel
theorem dX1_areaEnd_22 : decode cX1_areaEnd 22 = .ok (.ireturn, 1) := by decide +kernel
theorem dX1_groupSize_0 : decode cX1_groupSize 0 = .ok (.iconst 1, 1) := by decide +kernel
theorem dX1_groupSize_1 : decode cX1_groupSize 1 = .ok (.aload_n 0, 1) := by decide +kernel
theorem dX1_groupSize_2 : decode cX1_groupSize 2 = .ok (.getfield 33, 3) := by decide +kernel
theorem dX1_groupSize_5 : decode cX1_groupSize 5 = .ok (.iload_n 1, 1) := by decide +kernel
theorem dX1_groupSize_6 : decode cX1_groupSize 6 = .ok (.iaload, 1) := by decide +kernel
theorem dX1_groupSize_7 : decode cX1_groupSize 7 = .ok (.aload_n 0, 1) := by decide +kernel
theorem dX1_groupSize_8 : decode cX1_groupSize 8 = .ok (.getfield 27, 3) := by decide +kernel
theorem dX1_groupSize_11 : decode cX1_groupSize 11 = .ok (.iload_n 1, 1) := by decide +kernel
theorem dX1_groupSize_12 : decode cX1_groupSize 12 = .ok (.iaload, 1) := by decide +kernel
theorem dX1_groupSize_13 : decode cX1_groupSize 13 = .ok (.iload_n 2, 1) := by decide +kernel
theorem dX1_groupSize_14 : decode cX1_groupSize 14 = .ok (.isub, 1) := by decide +kernel
theorem dX1_groupSize_15 : decode cX1_groupSize 15 = .ok (.invokestatic 77, 3) := by decide +kernel
theorem dX1_groupSize_18 : decode cX1_groupSize 18 = .ok (.invokestatic 83, 3) := by decide +kernel
theorem dX1_groupSize_21 : decode cX1_groupSize 21 = .ok (.ireturn, 1) := by decide +kernel
theorem dX1_cellAt_0 : decode cX1_cellAt 0 = .ok (.iload_n 2, 1) := by decide +kernel
theorem dX1_cellAt_1 : decode cX1_cellAt 1 = .ok (.iconst 1, 1) := by decide +kernel
theorem dX1_cellAt_2 : decode cX1_cellAt 2 = .ok (.aload_n 0, 1) := by decide +kernel
theorem dX1_cellAt_3 : decode cX1_cellAt 3 = .ok (.getfield 33, 3) := by decide +kernel
theorem dX1_cellAt_6 : decode cX1_cellAt 6 = .ok (.iload_n 1, 1) := by decide +kernel
theorem dX1_cellAt_7 : decode cX1_cellAt 7 = .ok (.iaload, 1) := by decide +kernel
theorem dX1_cellAt_8 : decode cX1_cellAt 8 = .ok (.invokestatic 83, 3) := by decide +kernel
theorem dX1_cellAt_11 : decode cX1_cellAt 11 = .ok (.irem, 1) := by decide +kernel
theorem dX1_cellAt_12 : decode cX1_cellAt 12 = .ok (.istore 4, 2) := by decide +kernel
theorem dX1_cellAt_14 : decode cX1_cellAt 14 = .ok (.iload_n 2, 1) := by decide +kernel
theorem dX1_cellAt_15 : decode cX1_cellAt 15 = .ok (.iload 4, 2) := by decide +kernel
theorem dX1_cellAt_17 : decode cX1_cellAt 17 = .ok (.isub, 1) := by decide +kernel
theorem dX1_cellAt_18 : decode cX1_cellAt 18 = .ok (.istore 5, 2) := by decide +kernel
theorem dX1_cellAt_20 : decode cX1_cellAt 20 = .ok (.aload_n 0, 1) := by decide +kernel
theorem dX1_cellAt_21 : decode cX1_cellAt 21 = .ok (.getfield 39, 3) := by decide +kernel
theorem dX1_cellAt_24 : decode cX1_cellAt 24 = .ok (.iload_n 1, 1) := by decide +kernel
theorem dX1_cellAt_25 : decode cX1_cellAt 25 = .ok (.iaload, 1) := by decide +kernel
theorem dX1_cellAt_26 : decode cX1_cellAt 26 = .ok (.iload 5, 2) := by decide +kernel
theorem dX1_cellAt_28 : decode cX1_cellAt 28 = .ok (.aload_n 0, 1) := by decide +kernel
theorem dX1_cellAt_29 : decode cX1_cellAt 29 = .ok (.iload_n 1, 1) := by decide +kernel
theorem dX1_cellAt_30 : decode cX1_cellAt 30 = .ok (.invokevirtual 67, 3) := by decide +kernel
theorem dX1_cellAt_33 : decode cX1_cellAt 33 = .ok (.imul, 1) := by decide +kernel
theorem dX1_cellAt_34 : decode cX1_cellAt 34 = .ok (.iadd, 1) := by decide +kernel
theorem dX1_cellAt_35 : decode cX1_cellAt 35 = .ok (.iload_n 3, 1) := by decide +kernel
theorem dX1_cellAt_36 : decode cX1_cellAt 36 = .ok (.aload_n 0, 1) := by decide +kernel
theorem dX1_cellAt_37 : decode cX1_cellAt 37 = .ok (.iload_n 1, 1) := by decide +kernel
theorem dX1_cellAt_38 : decode cX1_cellAt 38 = .ok (.iload 5, 2) := by decide +kernel
theorem dX1_cellAt_40 : decode cX1_cellAt 40 = .ok (.invokevirtual 86, 3) := by decide +kernel
theorem dX1_cellAt_43 : decode cX1_cellAt 43 = .ok (.imul, 1) := by decide +kernel
theorem dX1_cellAt_44 : decode cX1_cellAt 44 = .ok (.iadd, 1) := by decide +kernel
theorem dX1_cellAt_45 : decode cX1_cellAt 45 = .ok (.iload 4, 2) := by decide +kernel
theorem dX1_cellAt_47 : decode cX1_cellAt 47 = .ok (.iadd, 1) := by decide +kernel
theorem dX1_cellAt_48 : decode cX1_cellAt 48 = .ok (.ireturn, 1) := by decide +kernel
theorem dX1_placeInFile_0 : decode cX1_placeInFile 0 = .ok (.iload_n 2, 1) := by decide +kernel
theorem dX1_placeInFile_1 : decode cX1_placeInFile 1 = .ok (.aload_n 0, 1) := by decide +kernel
theorem dX1_placeInFile_2 : decode cX1_placeInFile 2 = .ok (.getfield 39, 3) := by decide +kernel
theorem dX1_placeInFile_5 : decode cX1_placeInFile 5 = .ok (.iload_n 1, 1) := by decide +kernel
theorem dX1_placeInFile_6 : decode cX1_placeInFile 6 = .ok (.iaload, 1) := by decide +kernel
theorem dX1_placeInFile_7 : decode cX1_placeInFile 7 = .ok (.isub, 1) := by decide +kernel
theorem dX1_placeInFile_8 : decode cX1_placeInFile 8 = .ok (.istore_n 3, 1) := by decide +kernel
theorem dX1_placeInFile_9 : decode cX1_placeInFile 9 = .ok (.iconst 1, 1) := by decide +kernel
theorem dX1_placeInFile_10 : decode cX1_placeInFile 10 = .ok (.aload_n 0, 1) := by decide +kernel
theorem dX1_placeInFile_11 : decode cX1_placeInFile 11 = .ok (.getfield 33, 3) := by decide +kernel
theorem dX1_placeInFile_14 : decode cX1_placeInFile 14 = .ok (.iload_n 1, 1) := by decide +kernel
theorem dX1_placeInFile_15 : decode cX1_placeInFile 15 = .ok (.iaload, 1) := by decide +kernel
theorem dX1_placeInFile_16 : decode cX1_placeInFile 16 = .ok (.invokestatic 83, 3) := by decide +kernel
theorem dX1_placeInFile_19 : decode cX1_placeInFile 19 = .ok (.istore 4, 2) := by decide +kernel
theorem dX1_placeInFile_21 : decode cX1_placeInFile 21 = .ok (.iload_n 3, 1) := by decide +kernel
theorem dX1_placeInFile_22 : decode cX1_placeInFile 22 = .ok (.iload 4, 2) := by decide +kernel
theorem dX1_placeInFile_24 : decode cX1_placeInFile 24 = .ok (.aload_n 0, 1) := by decide +kernel
theorem dX1_placeInFile_25 : decode cX1_placeInFile 25 = .ok (.iload_n 1, 1) := by decide +kernel
theorem dX1_placeInFile_26 : decode cX1_placeInFile 26 = .ok (.invokevirtual 67, 3) := by decide +kernel
theorem dX1_placeInFile_29 : decode cX1_placeInFile 29 = .ok (.imul, 1) := by decide +kernel
theorem dX1_placeInFile_30 : decode cX1_placeInFile 30 = .ok (.idiv, 1) := by decide +kernel
theorem dX1_placeInFile_31 : decode cX1_placeInFile 31 = .ok (.iload 4, 2) := by decide +kernel
theorem dX1_placeInFile_33 : decode cX1_placeInFile 33 = .ok (.imul, 1) := by decide +kernel
theorem dX1_placeInFile_34 : decode cX1_placeInFile 34 = .ok (.istore 5, 2) := by decide +kernel
theorem dX1_placeInFile_36 : decode cX1_placeInFile 36 = .ok (.iload_n 3, 1) := by decide +kernel
theorem dX1_placeInFile_37 : decode cX1_placeInFile 37 = .ok (.iload 5, 2) := by decide +kernel
theorem dX1_placeInFile_39 : decode cX1_placeInFile 39 = .ok (.aload_n 0, 1) := by decide +kernel
theorem dX1_placeInFile_40 : decode cX1_placeInFile 40 = .ok (.iload_n 1, 1) := by decide +kernel
theorem dX1_placeInFile_41 : decode cX1_placeInFile 41 = .ok (.invokevirtual 67, 3) := by decide +kernel
theorem dX1_placeInFile_44 : decode cX1_placeInFile 44 = .ok (.imul, 1) := by decide +kernel
theorem dX1_placeInFile_45 : decode cX1_placeInFile 45 = .ok (.isub, 1) := by decide +kernel
theorem dX1_placeInFile_46 : decode cX1_placeInFile 46 = .ok (.istore 6, 2) := by decide +kernel
theorem dX1_placeInFile_48 : decode cX1_placeInFile 48 = .ok (.aload_n 0, 1) := by decide +kernel
theorem dX1_placeInFile_49 : decode cX1_placeInFile 49 = .ok (.iload_n 1, 1) := by decide +kernel
theorem dX1_placeInFile_50 : decode cX1_placeInFile 50 = .ok (.iload 5, 2) := by decide +kernel
theorem dX1_placeInFile_52 : decode cX1_placeInFile 52 = .ok (.invokevirtual 86, 3) := by decide +kernel
theorem dX1_placeInFile_55 : decode cX1_placeInFile 55 = .ok (.istore 7, 2) := by decide +kernel
theorem dX1_placeInFile_57 : decode cX1_placeInFile 57 = .ok (.bipush 100, 2) := by decide +kernel
theorem dX1_placeInFile_59 : decode cX1_placeInFile 59 = .ok (.iload 5, 2) := by decide +kernel
theorem dX1_placeInFile_61 : decode cX1_placeInFile 61 = .ok (.iload 6, 2) := by decide +kernel
theorem dX1_placeInFile_63 : decode cX1_placeInFile 63 = .ok (.iload 7, 2) := by decide +kernel
theorem dX1_placeInFile_65 : decode cX1_placeInFile 65 = .ok (.irem, 1) := by decide +kernel
theorem dX1_placeInFile_66 : decode cX1_placeInFile 66 = .ok (.iadd, 1) := by decide +kernel
theorem dX1_placeInFile_67 : decode cX1_placeInFile 67 = .ok (.imul, 1) := by decide +kernel
theorem dX1_placeInFile_68 : decode cX1_placeInFile 68 = .ok (.iload 6, 2) := by decide +kernel
theorem dX1_placeInFile_70 : decode cX1_placeInFile 70 = .ok (.iload 7, 2) := by decide +kernel
theorem dX1_placeInFile_72 : decode cX1_placeInFile 72 = .ok (.idiv, 1) := by decide +kernel
theorem dX1_placeInFile_73 : decode cX1_placeInFile 73 = .ok (.iadd, 1) := by decide +kernel
theorem dX1_placeInFile_74 : decode cX1_placeInFile 74 = .ok (.ireturn, 1) := by decide +kernel
theorem dX1_fileAt_0 : decode cX1_fileAt 0 = .ok (.iconst 0, 1) := by decide +kernel
theorem dX1_fileAt_1 : decode cX1_fileAt 1 = .ok (.istore_n 2, 1) := by decide +kernel
theorem dX1_fileAt_2 : decode cX1_fileAt 2 = .ok (.iload_n 2, 1) := by decide +kernel
theorem dX1_fileAt_3 : decode cX1_fileAt 3 = .ok (.bipush 8, 2) := by decide +kernel
theorem dX1_fileAt_5 : decode cX1_fileAt 5 = .ok (.if_icmp .ge 37, 3) := by decide +kernel
theorem dX1_fileAt_8 : decode cX1_fileAt 8 = .ok (.aload_n 0, 1) := by decide +kernel
theorem dX1_fileAt_9 : decode cX1_fileAt 9 = .ok (.iload_n 2, 1) := by decide +kernel
theorem dX1_fileAt_10 : decode cX1_fileAt 10 = .ok (.invokevirtual 59, 3) := by decide +kernel
theorem dX1_fileAt_13 : decode cX1_fileAt 13 = .ok (.ifCond .eq 23, 3) := by decide +kernel
theorem dX1_fileAt_16 : decode cX1_fileAt 16 = .ok (.iload_n 1, 1) := by decide +kernel
theorem dX1_fileAt_17 : decode cX1_fileAt 17 = .ok (.aload_n 0, 1) := by decide +kernel
theorem dX1_fileAt_18 : decode cX1_fileAt 18 = .ok (.iload_n 2, 1) := by decide +kernel
theorem dX1_fileAt_19 : decode cX1_fileAt 19 = .ok (.invokevirtual 89, 3) := by decide +kernel
theorem dX1_fileAt_22 : decode cX1_fileAt 22 = .ok (.if_icmp .lt 14, 3) := by decide +kernel
theorem dX1_fileAt_25 : decode cX1_fileAt 25 = .ok (.iload_n 1, 1) := by decide +kernel
theorem dX1_fileAt_26 : decode cX1_fileAt 26 = .ok (.aload_n 0, 1) := by decide +kernel
theorem dX1_fileAt_27 : decode cX1_fileAt 27 = .ok (.iload_n 2, 1) := by decide +kernel
theorem dX1_fileAt_28 : decode cX1_fileAt 28 = .ok (.invokevirtual 92, 3) := by decide +kernel
theorem dX1_fileAt_31 : decode cX1_fileAt 31 = .ok (.if_icmp .ge 5, 3) := by decide +kernel
theorem dX1_fileAt_34 : decode cX1_fileAt 34 = .ok (.iload_n 2, 1) := by decide +kernel
theorem dX1_fileAt_35 : decode cX1_fileAt 35 = .ok (.ireturn, 1) := by decide +kernel
theorem dX1_fileAt_36 : decode cX1_fileAt 36 = .ok (.iinc 2 1, 3) := by decide +kernel
theorem dX1_fileAt_39 : decode cX1_fileAt 39 = .ok (.goto (-37), 3) := by decide +kernel
theorem dX1_fileAt_42 : decode cX1_fileAt 42 = .ok (.iconst (-1), 1) := by decide +kernel
theorem dX1_fileAt_43 : decode cX1_fileAt 43 = .ok (.ireturn, 1) := by decide +kernel
theorem dX1_freeArea_0 : decode cX1_freeArea 0 = .ok (.iconst 0, 1) := by decide +kernel
theorem dX1_freeArea_1 : decode cX1_freeArea 1 = .ok (.istore_n 2, 1) := by decide +kernel
theorem dX1_freeArea_2 : decode cX1_freeArea 2 = .ok (.iconst 0, 1) := by decide +kernel
theorem dX1_freeArea_3 : decode cX1_freeArea 3 = .ok (.istore_n 3, 1) := by decide +kernel
theorem dX1_freeArea_4 : decode cX1_freeArea 4 = .ok (.iload_n 3, 1) := by decide +kernel
theorem dX1_freeArea_5 : decode cX1_freeArea 5 = .ok (.sipush 240, 3) := by decide +kernel
theorem dX1_freeArea_8 : decode cX1_freeArea 8 = .ok (.if_icmp .ge 36, 3) := by decide +kernel
theorem dX1_freeArea_11 : decode cX1_freeArea 11 = .ok (.aload_n 0, 1) := by decide +kernel
theorem dX1_freeArea_12 : decode cX1_freeArea 12 = .ok (.iload_n 3, 1) := by decide +kernel
theorem dX1_freeArea_13 : decode cX1_freeArea 13 = .ok (.invokevirtual 95, 3) := by decide +kernel
theorem dX1_freeArea_16 : decode cX1_freeArea 16 = .ok (.ifCond .ge 9, 3) := by decide +kernel
theorem dX1_freeArea_19 : decode cX1_freeArea 19 = .ok (.iload_n 2, 1) := by decide +kernel
theorem dX1_freeArea_20 : decode cX1_freeArea 20 = .ok (.iconst 1, 1) := by decide +kernel
theorem dX1_freeArea_21 : decode cX1_freeArea 21 = .ok (.iadd, 1) := by decide +kernel
theorem dX1_freeArea_22 : decode cX1_freeArea 22 = .ok (.goto 4, 3) := by decide +kernel
theorem dX1_freeArea_25 : decode cX1_freeArea 25 = .ok (.iconst 0, 1) := by decide +kernel
theorem dX1_freeArea_26 : decode cX1_freeArea 26 = .ok (.istore_n 2, 1) := by decide +kernel
theorem dX1_freeArea_27 : decode cX1_freeArea 27 = .ok (.iload_n 2, 1) := by decide +kernel
theorem dX1_freeArea_28 : decode cX1_freeArea 28 = .ok (.iload_n 1, 1) := by decide +kernel
theorem dX1_freeArea_29 : decode cX1_freeArea 29 = .ok (.if_icmp .ne 9, 3) := by decide +kernel
theorem dX1_freeArea_32 : decode cX1_freeArea 32 = .ok (.iload_n 3, 1) := by decide +kernel
theorem dX1_freeArea_33 : decode cX1_freeArea 33 = .ok (.iload_n 1, 1) := by decide +kernel
theorem dX1_freeArea_34 : decode cX1_freeArea 34 = .ok (.isub, 1) := by decide +kernel
theorem dX1_freeArea_35 : decode cX1_freeArea 35 = .ok (.iconst 1, 1) := by decide +kernel
theorem dX1_freeArea_36 : decode cX1_freeArea 36 = .ok (.iadd, 1) := by decide +kernel
theorem dX1_freeArea_37 : decode cX1_freeArea 37 = .ok (.ireturn, 1) := by decide +kernel
theorem dX1_freeArea_38 : decode cX1_freeArea 38 = .ok (.iinc 3 1, 3) := by decide +kernel
theorem dX1_freeArea_41 : decode cX1_freeArea 41 = .ok (.goto (-37), 3) := by decide +kernel
theorem dX1_freeArea_44 : decode cX1_freeArea 44 = .ok (.iconst (-1), 1) := by decide +kernel
theorem dX1_freeArea_45 : decode cX1_freeArea 45 = .ok (.ireturn, 1) := by decide +kernel
theorem dX1_greatestFreeArea_0 : decode cX1_greatestFreeArea 0 = .ok (.iconst 0, 1) := by decide +kernel
theorem dX1_greatestFreeArea_1 : decode cX1_greatestFreeArea 1 = .ok (.istore_n 1, 1) := by decide +kernel
theorem dX1_greatestFreeArea_2 : decode cX1_greatestFreeArea 2 = .ok (.iconst 0, 1) := by decide +kernel
theorem dX1_greatestFreeArea_3 : decode cX1_greatestFreeArea 3 = .ok (.istore_n 2, 1) := by decide +kernel
theorem dX1_greatestFreeArea_4 : decode cX1_greatestFreeArea 4 = .ok (.iconst 0, 1) := by decide +kernel
theorem dX1_greatestFreeArea_5 : decode cX1_greatestFreeArea 5 = .ok (.istore_n 3, 1) := by decide +kernel
theorem dX1_greatestFreeArea_6 : decode cX1_greatestFreeArea 6 = .ok (.iload_n 3, 1) := by decide +kernel
theorem dX1_greatestFreeArea_7 : decode cX1_greatestFreeArea 7 = .ok (.sipush 240, 3) := by decide +kernel
theorem dX1_greatestFreeArea_10 : decode cX1_greatestFreeArea 10 = .ok (.if_icmp .ge 31, 3) := by decide +kernel
theorem dX1_greatestFreeArea_13 : decode cX1_greatestFreeArea 13 = .ok (.aload_n 0, 1) := by decide +kernel
theorem dX1_greatestFreeArea_14 : decode cX1_greatestFreeArea 14 = .ok (.iload_n 3, 1) := by decide +kernel
theorem dX1_greatestFreeArea_15 : decode cX1_greatestFreeArea 15 = .ok (.invokevirtual 95, 3) := by decide +kernel
theorem dX1_greatestFreeArea_18 : decode cX1_greatestFreeArea 18 = .ok (.ifCond .ge 9, 3) := by decide +kernel
theorem dX1_greatestFreeArea_21 : decode cX1_greatestFreeArea 21 = .ok (.iload_n 2, 1) := by decide +kernel
theorem dX1_greatestFreeArea_22 : decode cX1_greatestFreeArea 22 = .ok (.iconst 1, 1) := by decide +kernel
theorem dX1_greatestFreeArea_23 : decode cX1_greatestFreeArea 23 = .ok (.iadd, 1) := by decide +kernel
theorem dX1_greatestFreeArea_24 : decode cX1_greatestFreeArea 24 = .ok (.goto 4, 3) := by decide +kernel
theorem dX1_greatestFreeArea_27 : decode cX1_greatestFreeArea 27 = .ok (.iconst 0, 1) := by decide +kernel
theorem dX1_greatestFreeArea_28 : decode cX1_greatestFreeArea 28 = .ok (.istore_n 2, 1) := by decide +kernel
theorem dX1_greatestFreeArea_29 : decode cX1_greatestFreeArea 29 = .ok (.iload_n 1, 1) := by decide +kernel
theorem dX1_greatestFreeArea_30 : decode cX1_greatestFreeArea 30 = .ok (.iload_n 2, 1) := by decide +kernel
theorem dX1_greatestFreeArea_31 : decode cX1_greatestFreeArea 31 = .ok (.invokestatic 83, 3) := by decide +kernel
theorem dX1_greatestFreeArea_34 : decode cX1_greatestFreeArea 34 = .ok (.istore_n 1, 1) := by decide +kernel
theorem dX1_greatestFreeArea_35 : decode cX1_greatestFreeArea 35 = .ok (.iinc 3 1, 3) := by decide +kernel
theorem dX1_greatestFreeArea_38 : decode cX1_greatestFreeArea 38 = .ok (.goto (-32), 3) := by decide +kernel
theorem dX1_greatestFreeArea_41 : decode cX1_greatestFreeArea 41 = .ok (.iload_n 1, 1) := by decide +kernel
theorem dX1_greatestFreeArea_42 : decode cX1_greatestFreeArea 42 = .ok (.ireturn, 1) := by decide +kernel
theorem dX1_write_0 : decode cX1_write 0 = .ok (.aload_n 0, 1) := by decide +kernel
theorem dX1_write_1 : decode cX1_write 1 = .ok (.getfield 9, 3) := by decide +kernel
theorem dX1_write_4 : decode cX1_write 4 = .ok (.iload_n 1, 1) := by decide +kernel
theorem dX1_write_5 : decode cX1_write 5 = .ok (.iload_n 2, 1) := by decide +kernel
theorem dX1_write_6 : decode cX1_write 6 = .ok (.iastore, 1) := by decide +kernel
theorem dX1_write_7 : decode cX1_write 7 = .ok (.aload_n 0, 1) := by decide +kernel
theorem dX1_write_8 : decode cX1_write 8 = .ok (.getfield 15, 3) := by decide +kernel
theorem dX1_write_11 : decode cX1_write 11 = .ok (.iload_n 1, 1) := by decide +kernel
theorem dX1_write_12 : decode cX1_write 12 = .ok (.iload_n 2, 1) := by decide +kernel
theorem dX1_write_13 : decode cX1_write 13 = .ok (.iastore, 1) := by decide +kernel
theorem dX1_write_14 : decode cX1_write 14 = .ok (.aload_n 0, 1) := by decide +kernel
theorem dX1_write_15 : decode cX1_write 15 = .ok (.getfield 18, 3) := by decide +kernel
theorem dX1_write_18 : decode cX1_write 18 = .ok (.iload_n 1, 1) := by decide +kernel
theorem dX1_write_19 : decode cX1_write 19 = .ok (.iconst 0, 1) := by decide +kernel
theorem dX1_write_20 : decode cX1_write 20 = .ok (.iastore, 1) := by decide +kernel
theorem dX1_write_21 : decode cX1_write 21 = .ok (.return_, 1) := by decide +kernel
theorem dX1_damage_0 : decode cX1_damage 0 = .ok (.iload_n 2, 1) := by decide +kernel
theorem dX1_damage_1 : decode cX1_damage 1 = .ok (.ifCond .ne 13, 3) := by decide +kernel
theorem dX1_damage_4 : decode cX1_damage 4 = .ok (.aload_n 0, 1) := by decide +kernel
theorem dX1_damage_5 : decode cX1_damage 5 = .ok (.getfield 18, 3) := by decide +kernel
theorem dX1_damage_8 : decode cX1_damage 8 = .ok (.iload_n 1, 1) := by decide +kernel
theorem dX1_damage_9 : decode cX1_damage 9 = .ok (.iconst 1, 1) := by decide +kernel
theorem dX1_damage_10 : decode cX1_damage 10 = .ok (.iastore, 1) := by decide +kernel
theorem dX1_damage_11 : decode cX1_damage 11 = .ok (.goto 13, 3) := by decide +kernel
theorem dX1_damage_14 : decode cX1_damage 14 = .ok (.aload_n 0, 1) := by decide +kernel
theorem dX1_damage_15 : decode cX1_damage 15 = .ok (.getfield 9, 3) := by decide +kernel
theorem dX1_damage_18 : decode cX1_damage 18 = .ok (.iload_n 1, 1) := by decide +kernel
theorem dX1_damage_19 : decode cX1_damage 19 = .ok (.dup2, 1) := by decide +kernel
theorem dX1_damage_20 : decode cX1_damage 20 = .ok (.iaload, 1) := by decide +kernel
theorem dX1_damage_21 : decode cX1_damage 21 = .ok (.iload_n 2, 1) := by decide +kernel
theorem dX1_damage_22 : decode cX1_damage 22 = .ok (.ixor, 1) := by decide +kernel
theorem dX1_damage_23 : decode cX1_damage 23 = .ok (.iastore, 1) := by decide +kernel
theorem dX1_damage_24 : decode cX1_damage 24 = .ok (.return_, 1) := by decide +kernel
theorem dX1_isDue_0 : decode cX1_isDue 0 = .ok (.aload_n 0, 1) := by decide +kernel
theorem dX1_isDue_1 : decode cX1_isDue 1 = .ok (.getfield 42, 3) := by decide +kernel
theorem dX1_isDue_4 : decode cX1_isDue 4 = .ok (.iload_n 1, 1) := by decide +kernel
theorem dX1_isDue_5 : decode cX1_isDue 5 = .ok (.iconst 4, 1) := by decide +kernel
theorem dX1_isDue_6 : decode cX1_isDue 6 = .ok (.imul, 1) := by decide +kernel
theorem dX1_isDue_7 : decode cX1_isDue 7 = .ok (.iload_n 2, 1) := by decide +kernel
theorem dX1_isDue_8 : decode cX1_isDue 8 = .ok (.iadd, 1) := by decide +kernel
theorem dX1_isDue_9 : decode cX1_isDue 9 = .ok (.iaload, 1) := by decide +kernel
theorem dX1_isDue_10 : decode cX1_isDue 10 = .ok (.aload_n 0, 1) := by decide +kernel
theorem dX1_isDue_11 : decode cX1_isDue 11 = .ok (.getfield 45, 3) := by decide +kernel
theorem dX1_isDue_14 : decode cX1_isDue 14 = .ok (.if_icmp .eq 7, 3) := by decide +kernel
theorem dX1_isDue_17 : decode cX1_isDue 17 = .ok (.iconst 1, 1) := by decide +kernel
theorem dX1_isDue_18 : decode cX1_isDue 18 = .ok (.goto 4, 3) := by decide +kernel
theorem dX1_isDue_21 : decode cX1_isDue 21 = .ok (.iconst 0, 1) := by decide +kernel
theorem dX1_isDue_22 : decode cX1_isDue 22 = .ok (.ireturn, 1) := by decide +kernel
theorem dX1_blockToCheck_0 : decode cX1_blockToCheck 0 = .ok (.iconst (-1), 1) := by decide +kernel
theorem dX1_blockToCheck_1 : decode cX1_blockToCheck 1 = .ok (.istore_n 1, 1) := by decide +kernel
theorem dX1_blockToCheck_2 : decode cX1_blockToCheck 2 = .ok (.aload_n 0, 1) := by decide +kernel
theorem dX1_blockToCheck_3 : decode cX1_blockToCheck 3 = .ok (.getfield 45, 3) := by decide +kernel
theorem dX1_blockToCheck_6 : decode cX1_blockToCheck 6 = .ok (.istore_n 2, 1) := by decide +kernel
theorem dX1_blockToCheck_7 : decode cX1_blockToCheck 7 = .ok (.iconst 0, 1) := by decide +kernel
theorem dX1_blockToCheck_8 : decode cX1_blockToCheck 8 = .ok (.istore_n 3, 1) := by decide +kernel
theorem dX1_blockToCheck_9 : decode cX1_blockToCheck 9 = .ok (.iload_n 3, 1) := by decide +kernel
theorem dX1_blockToCheck_10 : decode cX1_blockToCheck 10 = .ok (.bipush 8, 2) := by decide +kernel
theorem dX1_blockToCheck_12 : decode cX1_blockToCheck 12 = .ok (.if_icmp .ge 64, 3) := by decide +kernel
theorem dX1_blockToCheck_15 : decode cX1_blockToCheck 15 = .ok (.iconst 0, 1) := by decide +kernel
theorem dX1_blockToCheck_16 : decode cX1_blockToCheck 16 = .ok (.istore 4, 2) := by decide +kernel
theorem dX1_blockToCheck_18 : decode cX1_blockToCheck 18 = .ok (.iload 4, 2) := by decide +kernel
theorem dX1_blockToCheck_20 : decode cX1_blockToCheck 20 = .ok (.aload_n 0, 1) := by decide +kernel
theorem dX1_blockToCheck_21 : decode cX1_blockToCheck 21 = .ok (.getfield 27, 3) := by decide +kernel
theorem dX1_blockToCheck_24 : decode cX1_blockToCheck 24 = .ok (.iload_n 3, 1) := by decide +kernel
theorem dX1_blockToCheck_25 : decode cX1_blockToCheck 25 = .ok (.iaload, 1) := by decide +kernel
theorem dX1_blockToCheck_26 : decode cX1_blockToCheck 26 = .ok (.if_icmp .ge 44, 3) := by decide +kernel
theorem dX1_blockToCheck_29 : decode cX1_blockToCheck 29 = .ok (.aload_n 0, 1) := by decide +kernel
theorem dX1_blockToCheck_30 : decode cX1_blockToCheck 30 = .ok (.getfield 42, 3) := by decide +kernel
theorem dX1_blockToCheck_33 : decode cX1_blockToCheck 33 = .ok (.iload_n 3, 1) := by decide +kernel
theorem dX1_blockToCheck_34 : decode cX1_blockToCheck 34 = .ok (.iconst 4, 1) := by decide +kernel
theorem dX1_blockToCheck_35 : decode cX1_blockToCheck 35 = .ok (.imul, 1) := by decide +kernel
theorem dX1_blockToCheck_36 : decode cX1_blockToCheck 36 = .ok (.iload 4, 2) := by decide +kernel
theorem dX1_blockToCheck_38 : decode cX1_blockToCheck 38 = .ok (.iadd, 1) := by decide +kernel
theorem dX1_blockToCheck_39 : decode cX1_blockToCheck 39 = .ok (.iaload, 1) := by decide +kernel
theorem dX1_blockToCheck_40 : decode cX1_blockToCheck 40 = .ok (.iload_n 2, 1) := by decide +kernel
theorem dX1_blockToCheck_41 : decode cX1_blockToCheck 41 = .ok (.if_icmp .ge 23, 3) := by decide +kernel
theorem dX1_blockToCheck_44 : decode cX1_blockToCheck 44 = .ok (.bipush 100, 2) := by decide +kernel
theorem dX1_blockToCheck_46 : decode cX1_blockToCheck 46 = .ok (.iload_n 3, 1) := by decide +kernel
theorem dX1_blockToCheck_47 : decode cX1_blockToCheck 47 = .ok (.imul, 1) := by decide +kernel
theorem dX1_blockToCheck_48 : decode cX1_blockToCheck 48 = .ok (.iload 4, 2) := by decide +kernel
theorem dX1_blockToCheck_50 : decode cX1_blockToCheck 50 = .ok (.iadd, 1) := by decide +kernel
theorem dX1_blockToCheck_51 : decode cX1_blockToCheck 51 = .ok (.istore_n 1, 1) := by decide +kernel
theorem dX1_blockToCheck_52 : decode cX1_blockToCheck 52 = .ok (.aload_n 0, 1) := by decide +kernel
theorem dX1_blockToCheck_53 : decode cX1_blockToCheck 53 = .ok (.getfield 42, 3) := by decide +kernel
theorem dX1_blockToCheck_56 : decode cX1_blockToCheck 56 = .ok (.iload_n 3, 1) := by decide +kernel
theorem dX1_blockToCheck_57 : decode cX1_blockToCheck 57 = .ok (.iconst 4, 1) := by decide +kernel
theorem dX1_blockToCheck_58 : decode cX1_blockToCheck 58 = .ok (.imul, 1) := by decide +kernel
theorem dX1_blockToCheck_59 : decode cX1_blockToCheck 59 = .ok (.iload 4, 2) := by decide +kernel
theorem dX1_blockToCheck_61 : decode cX1_blockToCheck 61 = .ok (.iadd, 1) := by decide +kernel
theorem dX1_blockToCheck_62 : decode cX1_blockToCheck 62 = .ok (.iaload, 1) := by decide +kernel
theorem dX1_blockToCheck_63 : decode cX1_blockToCheck 63 = .ok (.istore_n 2, 1) := by decide +kernel
theorem dX1_blockToCheck_64 : decode cX1_blockToCheck 64 = .ok (.iinc 4 1, 3) := by decide +kernel
theorem dX1_blockToCheck_67 : decode cX1_blockToCheck 67 = .ok (.goto (-49), 3) := by decide +kernel
theorem dX1_blockToCheck_70 : decode cX1_blockToCheck 70 = .ok (.iinc 3 1, 3) := by decide +kernel
theorem dX1_blockToCheck_73 : decode cX1_blockToCheck 73 = .ok (.goto (-64), 3) := by decide +kernel
theorem dX1_blockToCheck_76 : decode cX1_blockToCheck 76 = .ok (.iload_n 1, 1) := by decide +kernel
theorem dX1_blockToCheck_77 : decode cX1_blockToCheck 77 = .ok (.ireturn, 1) := by decide +kernel
theorem dX2_init_0 : decode cX2_init 0 = .ok (.aload_n 0, 1) := by decide +kernel
theorem dX2_init_1 : decode cX2_init 1 = .ok (.invokespecial 3, 3) := by decide +kernel
theorem dX2_init_4 : decode cX2_init 4 = .ok (.aload_n 0, 1) := by decide +kernel
theorem dX2_init_5 : decode cX2_init 5 = .ok (.new 9, 3) := by decide +kernel
theorem dX2_init_8 : decode cX2_init 8 = .ok (.dup, 1) := by decide +kernel
theorem dX2_init_9 : decode cX2_init 9 = .ok (.invokespecial 11, 3) := by decide +kernel
theorem dX2_init_12 : decode cX2_init 12 = .ok (.putfield 12, 3) := by decide +kernel
theorem dX2_init_15 : decode cX2_init 15 = .ok (.aload_n 0, 1) := by decide +kernel
theorem dX2_init_16 : decode cX2_init 16 = .ok (.new 9, 3) := by decide +kernel
theorem dX2_init_19 : decode cX2_init 19 = .ok (.dup, 1) := by decide +kernel
theorem dX2_init_20 : decode cX2_init 20 = .ok (.invokespecial 11, 3) := by decide +kernel
theorem dX2_init_23 : decode cX2_init 23 = .ok (.putfield 16, 3) := by decide +kernel
theorem dX2_init_26 : decode cX2_init 26 = .ok (.aload_n 0, 1) := by decide +kernel
theorem dX2_init_27 : decode cX2_init 27 = .ok (.bipush 6, 2) := by decide +kernel
theorem dX2_init_29 : decode cX2_init 29 = .ok (.anewarray 9, 3) := by decide +kernel
theorem dX2_init_32 : decode cX2_init 32 = .ok (.putfield 19, 3) := by decide +kernel
theorem dX2_init_35 : decode cX2_init 35 = .ok (.aload_n 0, 1) := by decide +kernel
theorem dX2_init_36 : decode cX2_init 36 = .ok (.new 23, 3) := by decide +kernel
theorem dX2_init_39 : decode cX2_init 39 = .ok (.dup, 1) := by decide +kernel
theorem dX2_init_40 : decode cX2_init 40 = .ok (.invokespecial 25, 3) := by decide +kernel
theorem dX2_init_43 : decode cX2_init 43 = .ok (.putfield 26, 3) := by decide +kernel
theorem dX2_init_46 : decode cX2_init 46 = .ok (.aload_n 0, 1) := by decide +kernel
theorem dX2_init_47 : decode cX2_init 47 = .ok (.bipush 60, 2) := by decide +kernel
theorem dX2_init_49 : decode cX2_init 49 = .ok (.newarray .char, 2) := by decide +kernel
theorem dX2_init_51 : decode cX2_init 51 = .ok (.putfield 30, 3) := by decide +kernel
theorem dX2_init_54 : decode cX2_init 54 = .ok (.aload_n 0, 1) := by decide +kernel
theorem dX2_init_55 : decode cX2_init 55 = .ok (.sipush 128, 3) := by decide +kernel
theorem dX2_init_58 : decode cX2_init 58 = .ok (.newarray .int, 2) := by decide +kernel
theorem dX2_init_60 : decode cX2_init 60 = .ok (.putfield 34, 3) := by decide +kernel
theorem dX2_init_63 : decode cX2_init 63 = .ok (.aload_n 0, 1) := by decide +kernel
theorem dX2_init_64 : decode cX2_init 64 = .ok (.iconst 4, 1) := by decide +kernel
theorem dX2_init_65 : decode cX2_init 65 = .ok (.newarray .int, 2) := by decide +kernel
theorem dX2_init_67 : decode cX2_init 67 = .ok (.putfield 38, 3) := by decide +kernel
theorem dX2_init_70 : decode cX2_init 70 = .ok (.aload_n 0, 1) := by decide +kernel
theorem dX2_init_71 : decode cX2_init 71 = .ok (.iconst 0, 1) := by decide +kernel
theorem dX2_init_72 : decode cX2_init 72 = .ok (.putfield 41, 3) := by decide +kernel
theorem dX2_init_75 : decode cX2_init 75 = .ok (.aload_n 0, 1) := by decide +kernel
theorem dX2_init_76 : decode cX2_init 76 = .ok (.iconst 0, 1) := by decide +kernel
theorem dX2_init_77 : decode cX2_init 77 = .ok (.putfield 45, 3) := by decide +kernel
theorem dX2_init_80 : decode cX2_init 80 = .ok (.aload_n 0, 1) := by decide +kernel
theorem dX2_init_81 : decode cX2_init 81 = .ok (.iconst (-1), 1) := by decide +kernel
theorem dX2_init_82 : decode cX2_init 82 = .ok (.putfield 48, 3) := by decide +kernel
theorem dX2_init_85 : decode cX2_init 85 = .ok (.aload_n 0, 1) := by decide +kernel
theorem dX2_init_86 : decode cX2_init 86 = .ok (.iconst 0, 1) := by decide +kernel
theorem dX2_init_87 : decode cX2_init 87 = .ok (.putfield 51, 3) := by decide +kernel
theorem dX2_init_90 : decode cX2_init 90 = .ok (.aload_n 0, 1) := by decide +kernel
theorem dX2_init_91 : decode cX2_init 91 = .ok (.iconst 0, 1) := by decide +kernel
theorem dX2_init_92 : decode cX2_init 92 = .ok (.putfield 55, 3) := by decide +kernel
theorem dX2_init_95 : decode cX2_init 95 = .ok (.aload_n 0, 1) := by decide +kernel
theorem dX2_init_96 : decode cX2_init 96 = .ok (.iconst 0, 1) := by decide +kernel
theorem dX2_init_97 : decode cX2_init 97 = .ok (.putfield 58, 3) := by decide +kernel
theorem dX2_init_100 : decode cX2_init 100 = .ok (.iconst 0, 1) := by decide +kernel
theorem dX2_init_101 : decode cX2_init 101 = .ok (.istore_n 1, 1) := by decide +kernel
theorem dX2_init_102 : decode cX2_init 102 = .ok (.iload_n 1, 1) := by decide +kernel
theorem dX2_init_103 : decode cX2_init 103 = .ok (.bipush 6, 2) := by decide +kernel
theorem dX2_init_105 : decode cX2_init 105 = .ok (.if_icmp .ge 22, 3) := by decide +kernel
theorem dX2_init_108 : decode cX2_init 108 = .ok (.aload_n 0, 1) := by decide +kernel
theorem dX2_init_109 : decode cX2_init 109 = .ok (.getfield 19, 3) := by decide +kernel
theorem dX2_init_112 : decode cX2_init 112 = .ok (.iload_n 1, 1) := by decide +kernel
theorem dX2_init_113 : decode cX2_init 113 = .ok (.new 9, 3) := by decide +kernel
theorem dX2_init_116 : decode cX2_init 116 = .ok (.dup, 1) := by decide +kernel
theorem dX2_init_117 : decode cX2_init 117 = .ok (.invokespecial 11, 3) := by decide +kernel
theorem dX2_init_120 : decode cX2_init 120 = .ok (.aastore, 1) := by decide +kernel
theorem dX2_init_121 : decode cX2_init 121 = .ok (.iinc 1 1, 3) := by decide +kernel
theorem dX2_init_124 : decode cX2_init 124 = .ok (.goto (-22), 3) := by decide +kernel
theorem dX2_init_127 : decode cX2_init 127 = .ok (.return_, 1) := by decide +kernel
theorem dX2_clear_0 : decode cX2_clear 0 = .ok (.aload_n 0, 1) := by decide +kernel
theorem dX2_clear_1 : decode cX2_clear 1 = .ok (.getfield 12, 3) := by decide +kernel
theorem dX2_clear_4 : decode cX2_clear 4 = .ok (.invokevirtual 61, 3) := by decide +kernel
theorem dX2_clear_7 : decode cX2_clear 7 = .ok (.istore_n 1, 1) := by decide +kernel
theorem dX2_clear_8 : decode cX2_clear 8 = .ok (.aload_n 0, 1) := by decide +kernel
theorem dX2_clear_9 : decode cX2_clear 9 = .ok (.getfield 12, 3) := by decide +kernel
theorem dX2_clear_12 : decode cX2_clear 12 = .ok (.invokevirtual 65, 3) := by decide +kernel
theorem dX2_clear_15 : decode cX2_clear 15 = .ok (.aload_n 0, 1) := by decide +kernel
theorem dX2_clear_16 : decode cX2_clear 16 = .ok (.invokevirtual 68, 3) := by decide +kernel
theorem dX2_clear_19 : decode cX2_clear 19 = .ok (.iload_n 1, 1) := by decide +kernel
theorem dX2_clear_20 : decode cX2_clear 20 = .ok (.ireturn, 1) := by decide +kernel
theorem dX2_append_0 : decode cX2_append 0 = .ok (.iload_n 1, 1) := by decide +kernel
theorem dX2_append_1 : decode cX2_append 1 = .ok (.bipush 32, 2) := by decide +kernel
theorem dX2_append_3 : decode cX2_append 3 = .ok (.if_icmp .lt 9, 3) := by decide +kernel
theorem dX2_append_6 : decode cX2_append 6 = .ok (.iload_n 1, 1) := by decide +kernel
theorem dX2_append_7 : decode cX2_append 7 = .ok (.bipush 126, 2) := by decide +kernel
theorem dX2_append_9 : decode cX2_append 9 = .ok (.if_icmp .le 13, 3) := by decide +kernel
theorem dX2_append_12 : decode cX2_append 12 = .ok (.new 71, 3) := by decide +kernel
theorem dX2_append_15 : decode cX2_append 15 = .ok (.dup, 1) := by decide +kernel
theorem dX2_append_16 : decode cX2_append 16 = .ok (.ldc 73, 2) := by decide +kernel
theorem dX2_append_18 : decode cX2_append 18 = .ok (.invokespecial 75, 3) := by decide +kernel
theorem dX2_append_21 : decode cX2_append 21 = .ok (.athrow, 1) := by decide +kernel
theorem dX2_append_22 : decode cX2_append 22 = .ok (.aload_n 0, 1) := by decide +kernel
theorem dX2_append_23 : decode cX2_append 23 = .ok (.getfield 41, 3) := by decide +kernel
theorem dX2_append_26 : decode cX2_append 26 = .ok (.ifCond .lt 12, 3) := by decide +kernel
theorem dX2_append_29 : decode cX2_append 29 = .ok (.aload_n 0, 1) := by decide +kernel
theorem dX2_append_30 : decode cX2_append 30 = .ok (.getfield 41, 3) := by decide +kernel
theorem dX2_append_33 : decode cX2_append 33 = .ok (.bipush 60, 2) := by decide +kernel
theorem dX2_append_35 : decode cX2_append 35 = .ok (.if_icmp .lt 13, 3) := by decide +kernel
theorem dX2_append_38 : decode cX2_append 38 = .ok (.new 78, 3) := by decide +kernel
theorem dX2_append_41 : decode cX2_append 41 = .ok (.dup, 1) := by decide +kernel
theorem dX2_append_42 : decode cX2_append 42 = .ok (.ldc 80, 2) := by decide +kernel
theorem dX2_append_44 : decode cX2_append 44 = .ok (.invokespecial 82, 3) := by decide +kernel
theorem dX2_append_47 : decode cX2_append 47 = .ok (.athrow, 1) := by decide +kernel
theorem dX2_append_48 : decode cX2_append 48 = .ok (.aload_n 0, 1) := by decide +kernel
theorem dX2_append_49 : decode cX2_append 49 = .ok (.getfield 30, 3) := by decide +kernel
theorem dX2_append_52 : decode cX2_append 52 = .ok (.aload_n 0, 1) := by decide +kernel
theorem dX2_append_53 : decode cX2_append 53 = .ok (.getfield 41, 3) := by decide +kernel
theorem dX2_append_56 : decode cX2_append 56 = .ok (.iload_n 1, 1) := by decide +kernel
theorem dX2_append_57 : decode cX2_append 57 = .ok (.castore, 1) := by decide +kernel
theorem dX2_append_58 : decode cX2_append 58 = .ok (.aload_n 0, 1) := by decide +kernel
theorem dX2_append_59 : decode cX2_append 59 = .ok (.dup, 1) := by decide +kernel
theorem dX2_append_60 : decode cX2_append 60 = .ok (.getfield 41, 3) := by decide +kernel
theorem dX2_append_63 : decode cX2_append 63 = .ok (.iconst 1, 1) := by decide +kernel
theorem dX2_append_64 : decode cX2_append 64 = .ok (.iadd, 1) := by decide +kernel
theorem dX2_append_65 : decode cX2_append 65 = .ok (.putfield 41, 3) := by decide +kernel
theorem dX2_append_68 : decode cX2_append 68 = .ok (.aload_n 0, 1) := by decide +kernel
theorem dX2_append_69 : decode cX2_append 69 = .ok (.getfield 41, 3) := by decide +kernel
theorem dX2_append_72 : decode cX2_append 72 = .ok (.ireturn, 1) := by decide +kernel
theorem dX2_store_0 : decode cX2_store 0 = .ok (.aload_n 0, 1) := by decide +kernel
theorem dX2_store_1 : decode cX2_store 1 = .ok (.getfield 41, 3) := by decide +kernel
theorem dX2_store_4 : decode cX2_store 4 = .ok (.istore_n 1, 1) := by decide +kernel
theorem dX2_store_5 : decode cX2_store 5 = .ok (.aload_n 0, 1) := by decide +kernel
theorem dX2_store_6 : decode cX2_store 6 = .ok (.iconst 0, 1) := by decide +kernel
theorem dX2_store_7 : decode cX2_store 7 = .ok (.putfield 41, 3) := by decide +kernel
theorem dX2_store_10 : decode cX2_store 10 = .ok (.aload_n 0, 1) := by decide +kernel
theorem dX2_store_11 : decode cX2_store 11 = .ok (.getfield 30, 3) := by decide +kernel
theorem dX2_store_14 : decode cX2_store 14 = .ok (.iload_n 1, 1) := by decide +kernel
theorem dX2_store_15 : decode cX2_store 15 = .ok (.invokestatic 83, 3) := by decide +kernel
theorem dX2_store_18 : decode cX2_store 18 = .ok (.istore_n 2, 1) := by decide +kernel
theorem dX2_store_19 : decode cX2_store 19 = .ok (.iload_n 2, 1) := by decide +kernel
theorem dX2_store_20 : decode cX2_store 20 = .ok (.ifCond .lt 18, 3) := by decide +kernel
theorem dX2_store_23 : decode cX2_store 23 = .ok (.aload_n 0, 1) := by decide +kernel
theorem dX2_store_24 : decode cX2_store 24 = .ok (.iload_n 2, 1) := by decide +kernel
theorem dX2_store_25 : decode cX2_store 25 = .ok (.putfield 48, 3) := by decide +kernel
theorem dX2_store_28 : decode cX2_store 28 = .ok (.new 71, 3) := by decide +kernel
theorem dX2_store_31 : decode cX2_store 31 = .ok (.dup, 1) := by decide +kernel
theorem dX2_store_32 : decode cX2_store 32 = .ok (.ldc 87, 2) := by decide +kernel
theorem dX2_store_34 : decode cX2_store 34 = .ok (.invokespecial 75, 3) := by decide +kernel
theorem dX2_store_37 : decode cX2_store 37 = .ok (.athrow, 1) := by decide +kernel
theorem dX2_store_38 : decode cX2_store 38 = .ok (.iload_n 1, 1) := by decide +kernel
theorem dX2_store_39 : decode cX2_store 39 = .ok (.iconst 4, 1) := by decide +kernel
theorem dX2_store_40 : decode cX2_store 40 = .ok (.isub, 1) := by decide +kernel
theorem dX2_store_41 : decode cX2_store 41 = .ok (.istore_n 3, 1) := by decide +kernel
theorem dX2_store_42 : decode cX2_store 42 = .ok (.aload_n 0, 1) := by decide +kernel
theorem dX2_store_43 : decode cX2_store 43 = .ok (.getfield 30, 3) := by decide +kernel
theorem dX2_store_46 : decode cX2_store 46 = .ok (.iconst 0, 1) := by decide +kernel
theorem dX2_store_47 : decode cX2_store 47 = .ok (.caload, 1) := by decide +kernel
theorem dX2_store_48 : decode cX2_store 48 = .ok (.bipush 48, 2) := by decide +kernel
theorem dX2_store_50 : decode cX2_store 50 = .ok (.isub, 1) := by decide +kernel
theorem dX2_store_51 : decode cX2_store 51 = .ok (.istore 4, 2) := by decide +kernel
theorem dX2_store_53 : decode cX2_store 53 = .ok (.aload_n 0, 1) := by decide +kernel
theorem dX2_store_54 : decode cX2_store 54 = .ok (.getfield 12, 3) := by decide +kernel
theorem dX2_store_57 : decode cX2_store 57 = .ok (.invokevirtual 89, 3) := by decide +kernel
theorem dX2_store_60 : decode cX2_store 60 = .ok (.istore 5, 2) := by decide +kernel
theorem dX2_store_62 : decode cX2_store 62 = .ok (.aload_n 0, 1) := by decide +kernel
theorem dX2_store_63 : decode cX2_store 63 = .ok (.getfield 12, 3) := by decide +kernel
theorem dX2_store_66 : decode cX2_store 66 = .ok (.iload_n 3, 1) := by decide +kernel
theorem dX2_store_67 : decode cX2_store 67 = .ok (.invokestatic 92, 3) := by decide +kernel
theorem dX2_store_70 : decode cX2_store 70 = .ok (.bipush 8, 2) := by decide +kernel
theorem dX2_store_72 : decode cX2_store 72 = .ok (.iload 4, 2) := by decide +kernel
theorem dX2_store_74 : decode cX2_store 74 = .ok (.iadd, 1) := by decide +kernel
theorem dX2_store_75 : decode cX2_store 75 = .ok (.imul, 1) := by decide +kernel
theorem dX2_store_76 : decode cX2_store 76 = .ok (.invokevirtual 96, 3) := by decide +kernel
theorem dX2_store_79 : decode cX2_store 79 = .ok (.istore 6, 2) := by decide +kernel
theorem dX2_store_81 : decode cX2_store 81 = .ok (.iload 5, 2) := by decide +kernel
theorem dX2_store_83 : decode cX2_store 83 = .ok (.ifCond .lt 8, 3) := by decide +kernel
theorem dX2_store_86 : decode cX2_store 86 = .ok (.iload 6, 2) := by decide +kernel
theorem dX2_store_88 : decode cX2_store 88 = .ok (.ifCond .ge 13, 3) := by decide +kernel
theorem dX2_store_91 : decode cX2_store 91 = .ok (.new 78, 3) := by decide +kernel
theorem dX2_store_94 : decode cX2_store 94 = .ok (.dup, 1) := by decide +kernel
theorem dX2_store_95 : decode cX2_store 95 = .ok (.ldc 99, 2) := by decide +kernel
theorem dX2_store_97 : decode cX2_store 97 = .ok (.invokespecial 82, 3) := by decide +kernel
theorem dX2_store_100 : decode cX2_store 100 = .ok (.athrow, 1) := by decide +kernel
theorem dX2_store_101 : decode cX2_store 101 = .ok (.aload_n 0, 1) := by decide +kernel
theorem dX2_store_102 : decode cX2_store 102 = .ok (.invokevirtual 101, 3) := by decide +kernel
theorem dX2_store_105 : decode cX2_store 105 = .ok (.aload_n 0, 1) := by decide +kernel
theorem dX2_store_106 : decode cX2_store 106 = .ok (.getfield 12, 3) := by decide +kernel
theorem dX2_store_109 : decode cX2_store 109 = .ok (.iload 5, 2) := by decide +kernel
theorem dX2_store_111 : decode cX2_store 111 = .ok (.iload_n 3, 1) := by decide +kernel
theorem dX2_store_112 : decode cX2_store 112 = .ok (.iload 4, 2) := by decide +kernel
theorem dX2_store_114 : decode cX2_store 114 = .ok (.aload_n 0, 1) := by decide +kernel
theorem dX2_store_115 : decode cX2_store 115 = .ok (.getfield 30, 3) := by decide +kernel
theorem dX2_store_118 : decode cX2_store 118 = .ok (.iconst 2, 1) := by decide +kernel
theorem dX2_store_119 : decode cX2_store 119 = .ok (.caload, 1) := by decide +kernel
theorem dX2_store_120 : decode cX2_store 120 = .ok (.bipush 48, 2) := by decide +kernel
theorem dX2_store_122 : decode cX2_store 122 = .ok (.isub, 1) := by decide +kernel
theorem dX2_store_123 : decode cX2_store 123 = .ok (.iload 6, 2) := by decide +kernel
theorem dX2_store_125 : decode cX2_store 125 = .ok (.invokevirtual 104, 3) := by decide +kernel
theorem dX2_store_128 : decode cX2_store 128 = .ok (.aload_n 0, 1) := by decide +kernel
theorem dX2_store_129 : decode cX2_store 129 = .ok (.iload 5, 2) := by decide +kernel
theorem dX2_store_131 : decode cX2_store 131 = .ok (.invokevirtual 108, 3) := by decide +kernel
theorem dX2_store_134 : decode cX2_store 134 = .ok (.iload 5, 2) := by decide +kernel
theorem dX2_store_136 : decode cX2_store 136 = .ok (.ireturn, 1) := by decide +kernel
theorem dX2_errorPosition_0 : decode cX2_errorPosition 0 = .ok (.aload_n 0, 1) := by decide +kernel
theorem dX2_errorPosition_1 : decode cX2_errorPosition 1 = .ok (.getfield 48, 3) := by decide +kernel
theorem dX2_errorPosition_4 : decode cX2_errorPosition 4 = .ok (.ifCond .ge 13, 3) := by decide +kernel
theorem dX2_errorPosition_7 : decode cX2_errorPosition 7 = .ok (.new 112, 3) := by decide +kernel
theorem dX2_errorPosition_10 : decode cX2_errorPosition 10 = .ok (.dup, 1) := by decide +kernel
theorem dX2_errorPosition_11 : decode cX2_errorPosition 11 = .ok (.ldc 114, 2) := by decide +kernel
theorem dX2_errorPosition_13 : decode cX2_errorPosition 13 = .ok (.invokespecial 116, 3) := by decide +kernel
theorem dX2_errorPosition_16 : decode cX2_errorPosition 16 = .ok (.athrow, 1) := by decide +kernel
theorem dX2_errorPosition_17 : decode cX2_errorPosition 17 = .ok (.aload_n 0, 1) := by decide +kernel
theorem dX2_errorPosition_18 : decode cX2_errorPosition 18 = .ok (.getfield 48, 3) := by decide +kernel
theorem dX2_errorPosition_21 : decode cX2_errorPosition 21 = .ok (.ireturn, 1) := by decide +kernel
theorem dX2_remove_0 : decode cX2_remove 0 = .ok (.aload_n 0, 1) := by decide +kernel
theorem dX2_remove_1 : decode cX2_remove 1 = .ok (.getfield 12, 3) := by decide +kernel
theorem dX2_remove_4 : decode cX2_remove 4 = .ok (.iload_n 1, 1) := by decide +kernel
theorem dX2_remove_5 : decode cX2_remove 5 = .ok (.invokevirtual 117, 3) := by decide +kernel
theorem dX2_remove_8 : decode cX2_remove 8 = .ok (.ifCond .ne 13, 3) := by decide +kernel
theorem dX2_remove_11 : decode cX2_remove 11 = .ok (.new 121, 3) := by decide +kernel
theorem dX2_remove_14 : decode cX2_remove 14 = .ok (.dup, 1) := by decide +kernel
theorem dX2_remove_15 : decode cX2_remove 15 = .ok (.ldc 123, 2) := by decide +kernel
theorem dX2_remove_17 : decode cX2_remove 17 = .ok (.invokespecial 125, 3) := by decide +kernel
theorem dX2_remove_20 : decode cX2_remove 20 = .ok (.athrow, 1) := by decide +kernel
theorem dX2_remove_21 : decode cX2_remove 21 = .ok (.aload_n 0, 1) := by decide +kernel
theorem dX2_remove_22 : decode cX2_remove 22 = .ok (.invokevirtual 101, 3) := by decide +kernel
theorem dX2_remove_25 : decode cX2_remove 25 = .ok (.aload_n 0, 1) := by decide +kernel
theorem dX2_remove_26 : decode cX2_remove 26 = .ok (.getfield 12, 3) := by decide +kernel
theorem dX2_remove_29 : decode cX2_remove 29 = .ok (.iload_n 1, 1) := by decide +kernel
theorem dX2_remove_30 : decode cX2_remove 30 = .ok (.invokevirtual 126, 3) := by decide +kernel
theorem dX2_remove_33 : decode cX2_remove 33 = .ok (.aload_n 0, 1) := by decide +kernel
theorem dX2_remove_34 : decode cX2_remove 34 = .ok (.getfield 12, 3) := by decide +kernel
theorem dX2_remove_37 : decode cX2_remove 37 = .ok (.invokevirtual 61, 3) := by decide +kernel
theorem dX2_remove_40 : decode cX2_remove 40 = .ok (.ireturn, 1) := by decide +kernel
theorem dX2_file_0 : decode cX2_file 0 = .ok (.aload_n 0, 1) := by decide +kernel
theorem dX2_file_1 : decode cX2_file 1 = .ok (.getfield 12, 3) := by decide +kernel
theorem dX2_file_4 : decode cX2_file 4 = .ok (.iload_n 1, 1) := by decide +kernel
theorem dX2_file_5 : decode cX2_file 5 = .ok (.invokevirtual 117, 3) := by decide +kernel
theorem dX2_file_8 : decode cX2_file 8 = .ok (.ifCond .ne 13, 3) := by decide +kernel
theorem dX2_file_11 : decode cX2_file 11 = .ok (.new 121, 3) := by decide +kernel
theorem dX2_file_14 : decode cX2_file 14 = .ok (.dup, 1) := by decide +kernel
theorem dX2_file_15 : decode cX2_file 15 = .ok (.ldc 123, 2) := by decide +kernel
theorem dX2_file_17 : decode cX2_file 17 = .ok (.invokespecial 125, 3) := by decide +kernel
theorem dX2_file_20 : decode cX2_file 20 = .ok (.athrow, 1) := by decide +kernel
theorem dX2_file_21 : decode cX2_file 21 = .ok (.iload_n 2, 1) := by decide +kernel
theorem dX2_file_22 : decode cX2_file 22 = .ok (.tableswitch 111 0 6 #[42, 52, 62, 72, 82, 92, 102], 42) := by decide +kernel
theorem dX2_file_64 : decode cX2_file 64 = .ok (.aload_n 0, 1) := by decide +kernel
theorem dX2_file_65 : decode cX2_file 65 = .ok (.getfield 12, 3) := by decide +kernel
theorem dX2_file_68 : decode cX2_file 68 = .ok (.getfield 129, 3) := by decide +kernel
theorem dX2_file_71 : decode cX2_file 71 = .ok (.iload_n 1, 1) := by decide +kernel
theorem dX2_file_72 : decode cX2_file 72 = .ok (.iaload, 1) := by decide +kernel
theorem dX2_file_73 : decode cX2_file 73 = .ok (.ireturn, 1) := by decide +kernel
theorem dX2_file_74 : decode cX2_file 74 = .ok (.aload_n 0, 1) := by decide +kernel
theorem dX2_file_75 : decode cX2_file 75 = .ok (.getfield 12, 3) := by decide +kernel
theorem dX2_file_78 : decode cX2_file 78 = .ok (.getfield 132, 3) := by decide +kernel
theorem dX2_file_81 : decode cX2_file 81 = .ok (.iload_n 1, 1) := by decide +kernel
theorem dX2_file_82 : decode cX2_file 82 = .ok (.iaload, 1) := by decide +kernel
theorem dX2_file_83 : decode cX2_file 83 = .ok (.ireturn, 1) := by decide +kernel
theorem dX2_file_84 : decode cX2_file 84 = .ok (.aload_n 0, 1) := by decide +kernel
theorem dX2_file_85 : decode cX2_file 85 = .ok (.getfield 12, 3) := by decide +kernel
theorem dX2_file_88 : decode cX2_file 88 = .ok (.getfield 135, 3) := by decide +kernel
theorem dX2_file_91 : decode cX2_file 91 = .ok (.iload_n 1, 1) := by decide +kernel
theorem dX2_file_92 : decode cX2_file 92 = .ok (.iaload, 1) := by decide +kernel
theorem dX2_file_93 : decode cX2_file 93 = .ok (.ireturn, 1) := by decide +kernel
theorem dX2_file_94 : decode cX2_file 94 = .ok (.aload_n 0, 1) := by decide +kernel
theorem dX2_file_95 : decode cX2_file 95 = .ok (.getfield 12, 3) := by decide +kernel
theorem dX2_file_98 : decode cX2_file 98 = .ok (.getfield 138, 3) := by decide +kernel
theorem dX2_file_101 : decode cX2_file 101 = .ok (.iload_n 1, 1) := by decide +kernel
theorem dX2_file_102 : decode cX2_file 102 = .ok (.iaload, 1) := by decide +kernel
theorem dX2_file_103 : decode cX2_file 103 = .ok (.ireturn, 1) := by decide +kernel
theorem dX2_file_104 : decode cX2_file 104 = .ok (.aload_n 0, 1) := by decide +kernel
theorem dX2_file_105 : decode cX2_file 105 = .ok (.getfield 12, 3) := by decide +kernel
theorem dX2_file_108 : decode cX2_file 108 = .ok (.getfield 141, 3) := by decide +kernel
theorem dX2_file_111 : decode cX2_file 111 = .ok (.iload_n 1, 1) := by decide +kernel
theorem dX2_file_112 : decode cX2_file 112 = .ok (.iaload, 1) := by decide +kernel
theorem dX2_file_113 : decode cX2_file 113 = .ok (.ireturn, 1) := by decide +kernel
theorem dX2_file_114 : decode cX2_file 114 = .ok (.aload_n 0, 1) := by decide +kernel
theorem dX2_file_115 : decode cX2_file 115 = .ok (.getfield 12, 3) := by decide +kernel
theorem dX2_file_118 : decode cX2_file 118 = .ok (.getfield 144, 3) := by decide +kernel
theorem dX2_file_121 : decode cX2_file 121 = .ok (.iload_n 1, 1) := by decide +kernel
theorem dX2_file_122 : decode cX2_file 122 = .ok (.iaload, 1) := by decide +kernel
theorem dX2_file_123 : decode cX2_file 123 = .ok (.ireturn, 1) := by decide +kernel
theorem dX2_file_124 : decode cX2_file 124 = .ok (.aload_n 0, 1) := by decide +kernel
theorem dX2_file_125 : decode cX2_file 125 = .ok (.getfield 12, 3) := by decide +kernel
theorem dX2_file_128 : decode cX2_file 128 = .ok (.iload_n 1, 1) := by decide +kernel
theorem dX2_file_129 : decode cX2_file 129 = .ok (.invokevirtual 147, 3) := by decide +kernel
theorem dX2_file_132 : decode cX2_file 132 = .ok (.ireturn, 1) := by decide +kernel
theorem dX2_file_133 : decode cX2_file 133 = .ok (.new 71, 3) := by decide +kernel
theorem dX2_file_136 : decode cX2_file 136 = .ok (.dup, 1) := by decide +kernel
theorem dX2_file_137 : decode cX2_file 137 = .ok (.ldc 150, 2) := by decide +kernel
theorem dX2_file_139 : decode cX2_file 139 = .ok (.invokespecial 75, 3) := by decide +kernel
theorem dX2_file_142 : decode cX2_file 142 = .ok (.athrow, 1) := by decide +kernel
theorem dX2_files_0 : decode cX2_files 0 = .ok (.iconst 0, 1) := by decide +kernel
theorem dX2_files_1 : decode cX2_files 1 = .ok (.istore_n 1, 1) := by decide +kernel
theorem dX2_files_2 : decode cX2_files 2 = .ok (.iconst 0, 1) := by decide +kernel
theorem dX2_files_3 : decode cX2_files 3 = .ok (.istore_n 2, 1) := by decide +kernel
theorem dX2_files_4 : decode cX2_files 4 = .ok (.iload_n 2, 1) := by decide +kernel
theorem dX2_files_5 : decode cX2_files 5 = .ok (.bipush 8, 2) := by decide +kernel
theorem dX2_files_7 : decode cX2_files 7 = .ok (.if_icmp .ge 26, 3) := by decide +kernel
theorem dX2_files_10 : decode cX2_files 10 = .ok (.aload_n 0, 1) := by decide +kernel
theorem dX2_files_11 : decode cX2_files 11 = .ok (.getfield 12, 3) := by decide +kernel
theorem dX2_files_14 : decode cX2_files 14 = .ok (.iload_n 2, 1) := by decide +kernel
theorem dX2_files_15 : decode cX2_files 15 = .ok (.invokevirtual 117, 3) := by decide +kernel
theorem dX2_files_18 : decode cX2_files 18 = .ok (.ifCond .eq 9, 3) := by decide +kernel
theorem dX2_files_21 : decode cX2_files 21 = .ok (.iload_n 1, 1) := by decide +kernel
theorem dX2_files_22 : decode cX2_files 22 = .ok (.iconst 1, 1) := by decide +kernel
theorem dX2_files_23 : decode cX2_files 23 = .ok (.iload_n 2, 1) := by decide +kernel
theorem dX2_files_24 : decode cX2_files 24 = .ok (.ishl, 1) := by decide +kernel
theorem dX2_files_25 : decode cX2_files 25 = .ok (.ior, 1) := by decide +kernel
theorem dX2_files_26 : decode cX2_files 26 = .ok (.istore_n 1, 1) := by decide +kernel
theorem dX2_files_27 : decode cX2_files 27 = .ok (.iinc 2 1, 3) := by decide +kernel
theorem dX2_files_30 : decode cX2_files 30 = .ok (.goto (-26), 3) := by decide +kernel
theorem dX2_files_33 : decode cX2_files 33 = .ok (.iload_n 1, 1) := by decide +kernel
theorem dX2_files_34 : decode cX2_files 34 = .ok (.ireturn, 1) := by decide +kernel
theorem dX2_cellOf_0 : decode cX2_cellOf 0 = .ok (.aload_n 0, 1) := by decide +kernel
theorem dX2_cellOf_1 : decode cX2_cellOf 1 = .ok (.getfield 12, 3) := by decide +kernel
theorem dX2_cellOf_4 : decode cX2_cellOf 4 = .ok (.iload_n 1, 1) := by decide +kernel
theorem dX2_cellOf_5 : decode cX2_cellOf 5 = .ok (.iload_n 2, 1) := by decide +kernel
theorem dX2_cellOf_6 : decode cX2_cellOf 6 = .ok (.iload_n 3, 1) := by decide +kernel
theorem dX2_cellOf_7 : decode cX2_cellOf 7 = .ok (.invokevirtual 152, 3) := by decide +kernel
theorem dX2_cellOf_10 : decode cX2_cellOf 10 = .ok (.ifCond .ne 13, 3) := by decide +kernel
theorem dX2_cellOf_13 : decode cX2_cellOf 13 = .ok (.new 121, 3) := by decide +kernel
theorem dX2_cellOf_16 : decode cX2_cellOf 16 = .ok (.dup, 1) := by decide +kernel
theorem dX2_cellOf_17 : decode cX2_cellOf 17 = .ok (.ldc 156, 2) := by decide +kernel
theorem dX2_cellOf_19 : decode cX2_cellOf 19 = .ok (.invokespecial 125, 3) := by decide +kernel
theorem dX2_cellOf_22 : decode cX2_cellOf 22 = .ok (.athrow, 1) := by decide +kernel
theorem dX2_cellOf_23 : decode cX2_cellOf 23 = .ok (.aload_n 0, 1) := by decide +kernel
theorem dX2_cellOf_24 : decode cX2_cellOf 24 = .ok (.getfield 12, 3) := by decide +kernel
theorem dX2_cellOf_27 : decode cX2_cellOf 27 = .ok (.iload_n 1, 1) := by decide +kernel
theorem dX2_cellOf_28 : decode cX2_cellOf 28 = .ok (.iload_n 2, 1) := by decide +kernel
theorem dX2_cellOf_29 : decode cX2_cellOf 29 = .ok (.iload_n 3, 1) := by decide +kernel
theorem dX2_cellOf_30 : decode cX2_cellOf 30 = .ok (.invokevirtual 158, 3) := by decide +kernel
theorem dX2_cellOf_33 : decode cX2_cellOf 33 = .ok (.ireturn, 1) := by decide +kernel
theorem dX2_owner_0 : decode cX2_owner 0 = .ok (.iload_n 1, 1) := by decide +kernel
theorem dX2_owner_1 : decode cX2_owner 1 = .ok (.invokestatic 162, 3) := by decide +kernel
theorem dX2_owner_4 : decode cX2_owner 4 = .ok (.ifCond .ne 13, 3) := by decide +kernel
theorem dX2_owner_7 : decode cX2_owner 7 = .ok (.new 121, 3) := by decide +kernel
theorem dX2_owner_10 : decode cX2_owner 10 = .ok (.dup, 1) := by decide +kernel
theorem dX2_owner_11 : decode cX2_owner 11 = .ok (.ldc 165, 2) := by decide +kernel
theorem dX2_owner_13 : decode cX2_owner 13 = .ok (.invokespecial 125, 3) := by decide +kernel
theorem dX2_owner_16 : decode cX2_owner 16 = .ok (.athrow, 1) := by decide +kernel
theorem dX2_owner_17 : decode cX2_owner 17 = .ok (.aload_n 0, 1) := by decide +kernel
theorem dX2_owner_18 : decode cX2_owner 18 = .ok (.getfield 12, 3) := by decide +kernel
theorem dX2_owner_21 : decode cX2_owner 21 = .ok (.iload_n 1, 1) := by decide +kernel
theorem dX2_owner_22 : decode cX2_owner 22 = .ok (.invokevirtual 167, 3) := by decide +kernel
theorem dX2_owner_25 : decode cX2_owner 25 = .ok (.ireturn, 1) := by decide +kernel
theorem dX2_placeOf_0 : decode cX2_placeOf 0 = .ok (.iload_n 1, 1) := by decide +kernel
theorem dX2_placeOf_1 : decode cX2_placeOf 1 = .ok (.invokestatic 162, 3) := by decide +kernel
theorem dX2_placeOf_4 : decode cX2_placeOf 4 = .ok (.ifCond .ne 13, 3) := by decide +kernel
theorem dX2_placeOf_7 : decode cX2_placeOf 7 = .ok (.new 121, 3) := by decide +kernel
theorem dX2_placeOf_10 : decode cX2_placeOf 10 = .ok (.dup, 1) := by decide +kernel
theorem dX2_placeOf_11 : decode cX2_placeOf 11 = .ok (.ldc 165, 2) := by decide +kernel
theorem dX2_placeOf_13 : decode cX2_placeOf 13 = .ok (.invokespecial 125, 3) := by decide +kernel
theorem dX2_placeOf_16 : decode cX2_placeOf 16 = .ok (.athrow, 1) := by decide +kernel
theorem dX2_placeOf_17 : decode cX2_placeOf 17 = .ok (.aload_n 0, 1) := by decide +kernel
theorem dX2_placeOf_18 : decode cX2_placeOf 18 = .ok (.getfield 12, 3) := by decide +kernel
theorem dX2_placeOf_21 : decode cX2_placeOf 21 = .ok (.iload_n 1, 1) := by decide +kernel
theorem dX2_placeOf_22 : decode cX2_placeOf 22 = .ok (.invokevirtual 167, 3) := by decide +kernel
theorem dX2_placeOf_25 : decode cX2_placeOf 25 = .ok (.istore_n 2, 1) := by decide +kernel
theorem dX2_placeOf_26 : decode cX2_placeOf 26 = .ok (.iload_n 2, 1) := by decide +kernel
theorem dX2_placeOf_27 : decode cX2_placeOf 27 = .ok (.ifCond .ge 13, 3) := by decide +kernel
theorem dX2_placeOf_30 : decode cX2_placeOf 30 = .ok (.new 112, 3) := by decide +kernel
theorem dX2_placeOf_33 : decode cX2_placeOf 33 = .ok (.dup, 1) := by decide +kernel
theorem dX2_placeOf_34 : decode cX2_placeOf 34 = .ok (.ldc 170, 2) := by decide +kernel
theorem dX2_placeOf_36 : decode cX2_placeOf 36 = .ok (.invokespecial 116, 3) := by decide +kernel
theorem dX2_placeOf_39 : decode cX2_placeOf 39 = .ok (.athrow, 1) := by decide +kernel
theorem dX2_placeOf_40 : decode cX2_placeOf 40 = .ok (.aload_n 0, 1) := by decide +kernel
theorem dX2_placeOf_41 : decode cX2_placeOf 41 = .ok (.getfield 12, 3) := by decide +kernel
theorem dX2_placeOf_44 : decode cX2_placeOf 44 = .ok (.iload_n 2, 1) := by decide +kernel
theorem dX2_placeOf_45 : decode cX2_placeOf 45 = .ok (.iload_n 1, 1) := by decide +kernel
theorem dX2_placeOf_46 : decode cX2_placeOf 46 = .ok (.invokevirtual 172, 3) := by decide +kernel
theorem dX2_placeOf_49 : decode cX2_placeOf 49 = .ok (.ireturn, 1) := by decide +kernel
theorem dX2_room_0 : decode cX2_room 0 = .ok (.aload_n 0, 1) := by decide +kernel
theorem dX2_room_1 : decode cX2_room 1 = .ok (.getfield 12, 3) := by decide +kernel
theorem dX2_room_4 : decode cX2_room 4 = .ok (.invokevirtual 176, 3) := by decide +kernel
theorem dX2_room_7 : decode cX2_room 7 = .ok (.ireturn, 1) := by decide +kernel
theorem dX2_symbol_0 : decode cX2_symbol 0 = .ok (.iload_n 1, 1) := by decide +kernel
theorem dX2_symbol_1 : decode cX2_symbol 1 = .ok (.invokestatic 162, 3) := by decide +kernel
theorem dX2_symbol_4 : decode cX2_symbol 4 = .ok (.ifCond .ne 13, 3) := by decide +kernel
theorem dX2_symbol_7 : decode cX2_symbol 7 = .ok (.new 121, 3) := by decide +kernel
theorem dX2_symbol_10 : decode cX2_symbol 10 = .ok (.dup, 1) := by decide +kernel
theorem dX2_symbol_11 : decode cX2_symbol 11 = .ok (.ldc 165, 2) := by decide +kernel
theorem dX2_symbol_13 : decode cX2_symbol 13 = .ok (.invokespecial 125, 3) := by decide +kernel
theorem dX2_symbol_16 : decode cX2_symbol 16 = .ok (.athrow, 1) := by decide +kernel
theorem dX2_symbol_17 : decode cX2_symbol 17 = .ok (.aload_n 0, 1) := by decide +kernel
theorem dX2_symbol_18 : decode cX2_symbol 18 = .ok (.getfield 12, 3) := by decide +kernel
theorem dX2_symbol_21 : decode cX2_symbol 21 = .ok (.getfield 179, 3) := by decide +kernel
theorem dX2_symbol_24 : decode cX2_symbol 24 = .ok (.iload_n 1, 1) := by decide +kernel
theorem dX2_symbol_25 : decode cX2_symbol 25 = .ok (.iaload, 1) := by decide +kernel
theorem dX2_symbol_26 : decode cX2_symbol 26 = .ok (.ireturn, 1) := by decide +kernel
theorem dX2_isErased_0 : decode cX2_isErased 0 = .ok (.iload_n 1, 1) := by decide +kernel
theorem dX2_isErased_1 : decode cX2_isErased 1 = .ok (.invokestatic 162, 3) := by decide +kernel
theorem dX2_isErased_4 : decode cX2_isErased 4 = .ok (.ifCond .ne 13, 3) := by decide +kernel
theorem dX2_isErased_7 : decode cX2_isErased 7 = .ok (.new 121, 3) := by decide +kernel
theorem dX2_isErased_10 : decode cX2_isErased 10 = .ok (.dup, 1) := by decide +kernel
theorem dX2_isErased_11 : decode cX2_isErased 11 = .ok (.ldc 165, 2) := by decide +kernel
theorem dX2_isErased_13 : decode cX2_isErased 13 = .ok (.invokespecial 125, 3) := by decide +kernel
theorem dX2_isErased_16 : decode cX2_isErased 16 = .ok (.athrow, 1) := by decide +kernel
theorem dX2_isErased_17 : decode cX2_isErased 17 = .ok (.aload_n 0, 1) := by decide +kernel
theorem dX2_isErased_18 : decode cX2_isErased 18 = .ok (.getfield 12, 3) := by decide +kernel
theorem dX2_isErased_21 : decode cX2_isErased 21 = .ok (.getfield 182, 3) := by decide +kernel
theorem dX2_isErased_24 : decode cX2_isErased 24 = .ok (.iload_n 1, 1) := by decide +kernel
theorem dX2_isErased_25 : decode cX2_isErased 25 = .ok (.iaload, 1) := by decide +kernel
theorem dX2_isErased_26 : decode cX2_isErased 26 = .ok (.ifCond .eq 7, 3) := by decide +kernel
theorem dX2_isErased_29 : decode cX2_isErased 29 = .ok (.iconst 1, 1) := by decide +kernel
theorem dX2_isErased_30 : decode cX2_isErased 30 = .ok (.goto 4, 3) := by decide +kernel
theorem dX2_isErased_33 : decode cX2_isErased 33 = .ok (.iconst 0, 1) := by decide +kernel
theorem dX2_isErased_34 : decode cX2_isErased 34 = .ok (.ireturn, 1) := by decide +kernel
theorem dX2_flip_0 : decode cX2_flip 0 = .ok (.iload_n 1, 1) := by decide +kernel
theorem dX2_flip_1 : decode cX2_flip 1 = .ok (.invokestatic 162, 3) := by decide +kernel
theorem dX2_flip_4 : decode cX2_flip 4 = .ok (.ifCond .ne 13, 3) := by decide +kernel
theorem dX2_flip_7 : decode cX2_flip 7 = .ok (.new 121, 3) := by decide +kernel
theorem dX2_flip_10 : decode cX2_flip 10 = .ok (.dup, 1) := by decide +kernel
theorem dX2_flip_11 : decode cX2_flip 11 = .ok (.ldc 165, 2) := by decide +kernel
theorem dX2_flip_13 : decode cX2_flip 13 = .ok (.invokespecial 125, 3) := by decide +kernel
theorem dX2_flip_16 : decode cX2_flip 16 = .ok (.athrow, 1) := by decide +kernel
theorem dX2_flip_17 : decode cX2_flip 17 = .ok (.iload_n 2, 1) := by decide +kernel
theorem dX2_flip_18 : decode cX2_flip 18 = .ok (.iconst 1, 1) := by decide +kernel
theorem dX2_flip_19 : decode cX2_flip 19 = .ok (.if_icmp .lt 9, 3) := by decide +kernel
theorem dX2_flip_22 : decode cX2_flip 22 = .ok (.iload_n 2, 1) := by decide +kernel
theorem dX2_flip_23 : decode cX2_flip 23 = .ok (.bipush 15, 2) := by decide +kernel
theorem dX2_flip_25 : decode cX2_flip 25 = .ok (.if_icmp .le 13, 3) := by decide +kernel
theorem dX2_flip_28 : decode cX2_flip 28 = .ok (.new 71, 3) := by decide +kernel
theorem dX2_flip_31 : decode cX2_flip 31 = .ok (.dup, 1) := by decide +kernel
theorem dX2_flip_32 : decode cX2_flip 32 = .ok (.ldc 185, 2) := by decide +kernel
theorem dX2_flip_34 : decode cX2_flip 34 = .ok (.invokespecial 75, 3) := by decide +kernel
theorem dX2_flip_37 : decode cX2_flip 37 = .ok (.athrow, 1) := by decide +kernel
theorem dX2_flip_38 : decode cX2_flip 38 = .ok (.aload_n 0, 1) := by decide +kernel
theorem dX2_flip_39 : decode cX2_flip 39 = .ok (.invokevirtual 101, 3) := by decide +kernel
theorem dX2_flip_42 : decode cX2_flip 42 = .ok (.aload_n 0, 1) := by decide +kernel
theorem dX2_flip_43 : decode cX2_flip 43 = .ok (.getfield 12, 3) := by decide +kernel
theorem dX2_flip_46 : decode cX2_flip 46 = .ok (.iload_n 1, 1) := by decide +kernel
theorem dX2_flip_47 : decode cX2_flip 47 = .ok (.iload_n 2, 1) := by decide +kernel
theorem dX2_flip_48 : decode cX2_flip 48 = .ok (.invokevirtual 187, 3) := by decide +kernel
theorem dX2_flip_51 : decode cX2_flip 51 = .ok (.aload_n 0, 1) := by decide +kernel
theorem dX2_flip_52 : decode cX2_flip 52 = .ok (.getfield 12, 3) := by decide +kernel
theorem dX2_flip_55 : decode cX2_flip 55 = .ok (.getfield 179, 3) := by decide +kernel
theorem dX2_flip_58 : decode cX2_flip 58 = .ok (.iload_n 1, 1) := by decide +kernel
theorem dX2_flip_59 : decode cX2_flip 59 = .ok (.iaload, 1) := by decide +kernel
theorem dX2_flip_60 : decode cX2_flip 60 = .ok (.ireturn, 1) := by decide +kernel
theorem dX2_erase_0 : decode cX2_erase 0 = .ok (.iload_n 1, 1) := by decide +kernel
theorem dX2_erase_1 : decode cX2_erase 1 = .ok (.invokestatic 162, 3) := by decide +kernel
theorem dX2_erase_4 : decode cX2_erase 4 = .ok (.ifCond .ne 13, 3) := by decide +kernel
theorem dX2_erase_7 : decode cX2_erase 7 = .ok (.new 121, 3) := by decide +kernel
theorem dX2_erase_10 : decode cX2_erase 10 = .ok (.dup, 1) := by decide +kernel
theorem dX2_erase_11 : decode cX2_erase 11 = .ok (.ldc 165, 2) := by decide +kernel
theorem dX2_erase_13 : decode cX2_erase 13 = .ok (.invokespecial 125, 3) := by decide +kernel
theorem dX2_erase_16 : decode cX2_erase 16 = .ok (.athrow, 1) := by decide +kernel
theorem dX2_erase_17 : decode cX2_erase 17 = .ok (.aload_n 0, 1) := by decide +kernel
theorem dX2_erase_18 : decode cX2_erase 18 = .ok (.invokevirtual 101, 3) := by decide +kernel
theorem dX2_erase_21 : decode cX2_erase 21 = .ok (.iconst 1, 1) := by decide +kernel
theorem dX2_erase_22 : decode cX2_erase 22 = .ok (.aload_n 0, 1) := by decide +kernel
theorem dX2_erase_23 : decode cX2_erase 23 = .ok (.getfield 12, 3) := by decide +kernel
theorem dX2_erase_26 : decode cX2_erase 26 = .ok (.getfield 182, 3) := by decide +kernel
theorem dX2_erase_29 : decode cX2_erase 29 = .ok (.iload_n 1, 1) := by decide +kernel
theorem dX2_erase_30 : decode cX2_erase 30 = .ok (.iaload, 1) := by decide +kernel
theorem dX2_erase_31 : decode cX2_erase 31 = .ok (.isub, 1) := by decide +kernel
theorem dX2_erase_32 : decode cX2_erase 32 = .ok (.istore_n 2, 1) := by decide +kernel
theorem dX2_erase_33 : decode cX2_erase 33 = .ok (.aload_n 0, 1) := by decide +kernel
theorem dX2_erase_34 : decode cX2_erase 34 = .ok (.getfield 12, 3) := by decide +kernel
theorem dX2_erase_37 : decode cX2_erase 37 = .ok (.iload_n 1, 1) := by decide +kernel
theorem dX2_erase_38 : decode cX2_erase 38 = .ok (.iconst 0, 1) := by decide +kernel
theorem dX2_erase_39 : decode cX2_erase 39 = .ok (.invokevirtual 187, 3) := by decide +kernel
theorem dX2_erase_42 : decode cX2_erase 42 = .ok (.iload_n 2, 1) := by decide +kernel
theorem dX2_erase_43 : decode cX2_erase 43 = .ok (.ireturn, 1) := by decide +kernel
theorem dX2_burst_0 : decode cX2_burst 0 = .ok (.iload_n 1, 1) := by decide +kernel
theorem dX2_burst_1 : decode cX2_burst 1 = .ok (.invokestatic 162, 3) := by decide +kernel
theorem dX2_burst_4 : decode cX2_burst 4 = .ok (.ifCond .ne 13, 3) := by decide +kernel
theorem dX2_burst_7 : decode cX2_burst 7 = .ok (.new 121, 3) := by decide +kernel
theorem dX2_burst_10 : decode cX2_burst 10 = .ok (.dup, 1) := by decide +kernel
theorem dX2_burst_11 : decode cX2_burst 11 = .ok (.ldc 165, 2) := by decide +kernel
theorem dX2_burst_13 : decode cX2_burst 13 = .ok (.invokespecial 125, 3) := by decide +kernel
theorem dX2_burst_16 : decode cX2_burst 16 = .ok (.athrow, 1) := by decide +kernel
theorem dX2_burst_17 : decode cX2_burst 17 = .ok (.iload_n 2, 1) := by decide +kernel
theorem dX2_burst_18 : decode cX2_burst 18 = .ok (.iconst 1, 1) := by decide +kernel
theorem dX2_burst_19 : decode cX2_burst 19 = .ok (.if_icmp .lt 22, 3) := by decide +kernel
theorem dX2_burst_22 : decode cX2_burst 22 = .ok (.iload_n 2, 1) := by decide +kernel
theorem dX2_burst_23 : decode cX2_burst 23 = .ok (.sipush 240, 3) := by decide +kernel
theorem dX2_burst_26 : decode cX2_burst 26 = .ok (.iload_n 1, 1) := by decide +kernel
theorem dX2_burst_27 : decode cX2_burst 27 = .ok (.isub, 1) := by decide +kernel
theorem dX2_burst_28 : decode cX2_burst 28 = .ok (.if_icmp .gt 13, 3) := by decide +kernel
theorem dX2_burst_31 : decode cX2_burst 31 = .ok (.iload_n 3, 1) := by decide +kernel
theorem dX2_burst_32 : decode cX2_burst 32 = .ok (.ifCond .lt 9, 3) := by decide +kernel
theorem dX2_burst_35 : decode cX2_burst 35 = .ok (.iload_n 3, 1) := by decide +kernel
theorem dX2_burst_36 : decode cX2_burst 36 = .ok (.bipush 15, 2) := by decide +kernel
theorem dX2_burst_38 : decode cX2_burst 38 = .ok (.if_icmp .le 13, 3) := by decide +kernel
theorem dX2_burst_41 : decode cX2_burst 41 = .ok (.new 71, 3) := by decide +kernel
theorem dX2_burst_44 : decode cX2_burst 44 = .ok (.dup, 1) := by decide +kernel
theorem dX2_burst_45 : decode cX2_burst 45 = .ok (.ldc 191, 2) := by decide +kernel
theorem dX2_burst_47 : decode cX2_burst 47 = .ok (.invokespecial 75, 3) := by decide +kernel
theorem dX2_burst_50 : decode cX2_burst 50 = .ok (.athrow, 1) := by decide +kernel
theorem dX2_burst_51 : decode cX2_burst 51 = .ok (.aload_n 0, 1) := by decide +kernel
theorem dX2_burst_52 : decode cX2_burst 52 = .ok (.invokevirtual 101, 3) := by decide +kernel
theorem dX2_burst_55 : decode cX2_burst 55 = .ok (.iconst 0, 1) := by decide +kernel
theorem dX2_burst_56 : decode cX2_burst 56 = .ok (.istore 4, 2) := by decide +kernel
theorem dX2_burst_58 : decode cX2_burst 58 = .ok (.iload_n 1, 1) := by decide +kernel
theorem dX2_burst_59 : decode cX2_burst 59 = .ok (.istore 5, 2) := by decide +kernel
theorem dX2_burst_61 : decode cX2_burst 61 = .ok (.iload 5, 2) := by decide +kernel
theorem dX2_burst_63 : decode cX2_burst 63 = .ok (.iload_n 1, 1) := by decide +kernel
theorem dX2_burst_64 : decode cX2_burst 64 = .ok (.iload_n 2, 1) := by decide +kernel
theorem dX2_burst_65 : decode cX2_burst 65 = .ok (.iadd, 1) := by decide +kernel
theorem dX2_burst_66 : decode cX2_burst 66 = .ok (.if_icmp .ge 34, 3) := by decide +kernel
theorem dX2_burst_69 : decode cX2_burst 69 = .ok (.aload_n 0, 1) := by decide +kernel
theorem dX2_burst_70 : decode cX2_burst 70 = .ok (.getfield 12, 3) := by decide +kernel
theorem dX2_burst_73 : decode cX2_burst 73 = .ok (.iload 5, 2) := by decide +kernel
theorem dX2_burst_75 : decode cX2_burst 75 = .ok (.iload_n 3, 1) := by decide +kernel
theorem dX2_burst_76 : decode cX2_burst 76 = .ok (.invokevirtual 187, 3) := by decide +kernel
theorem dX2_burst_79 : decode cX2_burst 79 = .ok (.aload_n 0, 1) := by decide +kernel
theorem dX2_burst_80 : decode cX2_burst 80 = .ok (.getfield 12, 3) := by decide +kernel
theorem dX2_burst_83 : decode cX2_burst 83 = .ok (.iload 5, 2) := by decide +kernel
theorem dX2_burst_85 : decode cX2_burst 85 = .ok (.invokevirtual 167, 3) := by decide +kernel
theorem dX2_burst_88 : decode cX2_burst 88 = .ok (.ifCond .lt 6, 3) := by decide +kernel
theorem dX2_burst_91 : decode cX2_burst 91 = .ok (.iinc 4 1, 3) := by decide +kernel
theorem dX2_burst_94 : decode cX2_burst 94 = .ok (.iinc 5 1, 3) := by decide +kernel
theorem dX2_burst_97 : decode cX2_burst 97 = .ok (.goto (-36), 3) := by decide +kernel
theorem dX2_burst_100 : decode cX2_burst 100 = .ok (.iload 4, 2) := by decide +kernel
theorem dX2_burst_102 : decode cX2_burst 102 = .ok (.ireturn, 1) := by decide +kernel
theorem dX2_wrong_0 : decode cX2_wrong 0 = .ok (.iload_n 1, 1) := by decide +kernel
theorem dX2_wrong_1 : decode cX2_wrong 1 = .ok (.iconst (-1), 1) := by decide +kernel
theorem dX2_wrong_2 : decode cX2_wrong 2 = .ok (.if_icmp .eq 24, 3) := by decide +kernel
theorem dX2_wrong_5 : decode cX2_wrong 5 = .ok (.aload_n 0, 1) := by decide +kernel
theorem dX2_wrong_6 : decode cX2_wrong 6 = .ok (.getfield 12, 3) := by decide +kernel
theorem dX2_wrong_9 : decode cX2_wrong 9 = .ok (.iload_n 1, 1) := by decide +kernel
theorem dX2_wrong_10 : decode cX2_wrong 10 = .ok (.invokevirtual 117, 3) := by decide +kernel
theorem dX2_wrong_13 : decode cX2_wrong 13 = .ok (.ifCond .ne 13, 3) := by decide +kernel
theorem dX2_wrong_16 : decode cX2_wrong 16 = .ok (.new 121, 3) := by decide +kernel
theorem dX2_wrong_19 : decode cX2_wrong 19 = .ok (.dup, 1) := by decide +kernel
theorem dX2_wrong_20 : decode cX2_wrong 20 = .ok (.ldc 123, 2) := by decide +kernel
theorem dX2_wrong_22 : decode cX2_wrong 22 = .ok (.invokespecial 125, 3) := by decide +kernel
theorem dX2_wrong_25 : decode cX2_wrong 25 = .ok (.athrow, 1) := by decide +kernel
theorem dX2_wrong_26 : decode cX2_wrong 26 = .ok (.iconst 0, 1) := by decide +kernel
theorem dX2_wrong_27 : decode cX2_wrong 27 = .ok (.istore_n 2, 1) := by decide +kernel
theorem dX2_wrong_28 : decode cX2_wrong 28 = .ok (.aload_n 0, 1) := by decide +kernel
theorem dX2_wrong_29 : decode cX2_wrong 29 = .ok (.getfield 12, 3) := by decide +kernel
theorem dX2_wrong_32 : decode cX2_wrong 32 = .ok (.iload_n 1, 1) := by decide +kernel
theorem dX2_wrong_33 : decode cX2_wrong 33 = .ok (.invokevirtual 193, 3) := by decide +kernel
theorem dX2_wrong_36 : decode cX2_wrong 36 = .ok (.istore_n 3, 1) := by decide +kernel
theorem dX2_wrong_37 : decode cX2_wrong 37 = .ok (.iload_n 3, 1) := by decide +kernel
theorem dX2_wrong_38 : decode cX2_wrong 38 = .ok (.aload_n 0, 1) := by decide +kernel
theorem dX2_wrong_39 : decode cX2_wrong 39 = .ok (.getfield 12, 3) := by decide +kernel
theorem dX2_wrong_42 : decode cX2_wrong 42 = .ok (.iload_n 1, 1) := by decide +kernel
theorem dX2_wrong_43 : decode cX2_wrong 43 = .ok (.invokevirtual 196, 3) := by decide +kernel
theorem dX2_wrong_46 : decode cX2_wrong 46 = .ok (.if_icmp .ge 33, 3) := by decide +kernel
theorem dX2_wrong_49 : decode cX2_wrong 49 = .ok (.aload_n 0, 1) := by decide +kernel
theorem dX2_wrong_50 : decode cX2_wrong 50 = .ok (.getfield 12, 3) := by decide +kernel
theorem dX2_wrong_53 : decode cX2_wrong 53 = .ok (.getfield 179, 3) := by decide +kernel
theorem dX2_wrong_56 : decode cX2_wrong 56 = .ok (.iload_n 3, 1) := by decide +kernel
theorem dX2_wrong_57 : decode cX2_wrong 57 = .ok (.iaload, 1) := by decide +kernel
theorem dX2_wrong_58 : decode cX2_wrong 58 = .ok (.aload_n 0, 1) := by decide +kernel
theorem dX2_wrong_59 : decode cX2_wrong 59 = .ok (.getfield 12, 3) := by decide +kernel
theorem dX2_wrong_62 : decode cX2_wrong 62 = .ok (.getfield 199, 3) := by decide +kernel
theorem dX2_wrong_65 : decode cX2_wrong 65 = .ok (.iload_n 3, 1) := by decide +kernel
theorem dX2_wrong_66 : decode cX2_wrong 66 = .ok (.iaload, 1) := by decide +kernel
theorem dX2_wrong_67 : decode cX2_wrong 67 = .ok (.if_icmp .eq 6, 3) := by decide +kernel
theorem dX2_wrong_70 : decode cX2_wrong 70 = .ok (.iinc 2 1, 3) := by decide +kernel
theorem dX2_wrong_73 : decode cX2_wrong 73 = .ok (.iinc 3 1, 3) := by decide +kernel
theorem dX2_wrong_76 : decode cX2_wrong 76 = .ok (.goto (-39), 3) := by decide +kernel
theorem dX2_wrong_79 : decode cX2_wrong 79 = .ok (.iload_n 2, 1) := by decide +kernel
theorem dX2_wrong_80 : decode cX2_wrong 80 = .ok (.ireturn, 1) := by decide +kernel
theorem dX2_erased_0 : decode cX2_erased 0 = .ok (.iload_n 1, 1) := by decide +kernel
theorem dX2_erased_1 : decode cX2_erased 1 = .ok (.iconst (-1), 1) := by decide +kernel
theorem dX2_erased_2 : decode cX2_erased 2 = .ok (.if_icmp .eq 24, 3) := by decide +kernel
theorem dX2_erased_5 : decode cX2_erased 5 = .ok (.aload_n 0, 1) := by decide +kernel
theorem dX2_erased_6 : decode cX2_erased 6 = .ok (.getfield 12, 3) := by decide +kernel
theorem dX2_erased_9 : decode cX2_erased 9 = .ok (.iload_n 1, 1) := by decide +kernel
theorem dX2_erased_10 : decode cX2_erased 10 = .ok (.invokevirtual 117, 3) := by decide +kernel
theorem dX2_erased_13 : decode cX2_erased 13 = .ok (.ifCond .ne 13, 3) := by decide +kernel
theorem dX2_erased_16 : decode cX2_erased 16 = .ok (.new 121, 3) := by decide +kernel
theorem dX2_erased_19 : decode cX2_erased 19 = .ok (.dup, 1) := by decide +kernel
theorem dX2_erased_20 : decode cX2_erased 20 = .ok (.ldc 123, 2) := by decide +kernel
theorem dX2_erased_22 : decode cX2_erased 22 = .ok (.invokespecial 125, 3) := by decide +kernel
theorem dX2_erased_25 : decode cX2_erased 25 = .ok (.athrow, 1) := by decide +kernel
theorem dX2_erased_26 : decode cX2_erased 26 = .ok (.iconst 0, 1) := by decide +kernel
theorem dX2_erased_27 : decode cX2_erased 27 = .ok (.istore_n 2, 1) := by decide +kernel
theorem dX2_erased_28 : decode cX2_erased 28 = .ok (.aload_n 0, 1) := by decide +kernel
theorem dX2_erased_29 : decode cX2_erased 29 = .ok (.getfield 12, 3) := by decide +kernel
theorem dX2_erased_32 : decode cX2_erased 32 = .ok (.iload_n 1, 1) := by decide +kernel
theorem dX2_erased_33 : decode cX2_erased 33 = .ok (.invokevirtual 193, 3) := by decide +kernel
theorem dX2_erased_36 : decode cX2_erased 36 = .ok (.istore_n 3, 1) := by decide +kernel
theorem dX2_erased_37 : decode cX2_erased 37 = .ok (.iload_n 3, 1) := by decide +kernel
theorem dX2_erased_38 : decode cX2_erased 38 = .ok (.aload_n 0, 1) := by decide +kernel
theorem dX2_erased_39 : decode cX2_erased 39 = .ok (.getfield 12, 3) := by decide +kernel
theorem dX2_erased_42 : decode cX2_erased 42 = .ok (.iload_n 1, 1) := by decide +kernel
theorem dX2_erased_43 : decode cX2_erased 43 = .ok (.invokevirtual 196, 3) := by decide +kernel
theorem dX2_erased_46 : decode cX2_erased 46 = .ok (.if_icmp .ge 21, 3) := by decide +kernel
theorem dX2_erased_49 : decode cX2_erased 49 = .ok (.iload_n 2, 1) := by decide +kernel
theorem dX2_erased_50 : decode cX2_erased 50 = .ok (.aload_n 0, 1) := by decide +kernel
theorem dX2_erased_51 : decode cX2_erased 51 = .ok (.getfield 12, 3) := by decide +kernel
theorem dX2_erased_54 : decode cX2_erased 54 = .ok (.getfield 182, 3) := by decide +kernel
theorem dX2_erased_57 : decode cX2_erased 57 = .ok (.iload_n 3, 1) := by decide +kernel
theorem dX2_erased_58 : decode cX2_erased 58 = .ok (.iaload, 1) := by decide +kernel
theorem dX2_erased_59 : decode cX2_erased 59 = .ok (.iadd, 1) := by decide +kernel
theorem dX2_erased_60 : decode cX2_erased 60 = .ok (.istore_n 2, 1) := by decide +kernel
theorem dX2_erased_61 : decode cX2_erased 61 = .ok (.iinc 3 1, 3) := by decide +kernel
theorem dX2_erased_64 : decode cX2_erased 64 = .ok (.goto (-27), 3) := by decide +kernel
theorem dX2_erased_67 : decode cX2_erased 67 = .ok (.iload_n 2, 1) := by decide +kernel
theorem dX2_erased_68 : decode cX2_erased 68 = .ok (.ireturn, 1) := by decide +kernel
theorem dX2_sum_0 : decode cX2_sum 0 = .ok (.aload_n 0, 1) := by decide +kernel
theorem dX2_sum_1 : decode cX2_sum 1 = .ok (.getfield 12, 3) := by decide +kernel
theorem dX2_sum_4 : decode cX2_sum 4 = .ok (.iload_n 1, 1) := by decide +kernel
theorem dX2_sum_5 : decode cX2_sum 5 = .ok (.iload_n 2, 1) := by decide +kernel
theorem dX2_sum_6 : decode cX2_sum 6 = .ok (.invokevirtual 202, 3) := by decide +kernel
theorem dX2_sum_9 : decode cX2_sum 9 = .ok (.ifCond .eq 20, 3) := by decide +kernel
theorem dX2_sum_12 : decode cX2_sum 12 = .ok (.iload_n 3, 1) := by decide +kernel
theorem dX2_sum_13 : decode cX2_sum 13 = .ok (.ifCond .lt 16, 3) := by decide +kernel
theorem dX2_sum_16 : decode cX2_sum 16 = .ok (.iload_n 3, 1) := by decide +kernel
theorem dX2_sum_17 : decode cX2_sum 17 = .ok (.aload_n 0, 1) := by decide +kernel
theorem dX2_sum_18 : decode cX2_sum 18 = .ok (.getfield 12, 3) := by decide +kernel
theorem dX2_sum_21 : decode cX2_sum 21 = .ok (.getfield 132, 3) := by decide +kernel
theorem dX2_sum_24 : decode cX2_sum 24 = .ok (.iload_n 1, 1) := by decide +kernel
theorem dX2_sum_25 : decode cX2_sum 25 = .ok (.iaload, 1) := by decide +kernel
theorem dX2_sum_26 : decode cX2_sum 26 = .ok (.if_icmp .lt 13, 3) := by decide +kernel
theorem dX2_sum_29 : decode cX2_sum 29 = .ok (.new 121, 3) := by decide +kernel
theorem dX2_sum_32 : decode cX2_sum 32 = .ok (.dup, 1) := by decide +kernel
theorem dX2_sum_33 : decode cX2_sum 33 = .ok (.ldc 206, 2) := by decide +kernel
theorem dX2_sum_35 : decode cX2_sum 35 = .ok (.invokespecial 125, 3) := by decide +kernel
theorem dX2_sum_38 : decode cX2_sum 38 = .ok (.athrow, 1) := by decide +kernel
theorem dX2_sum_39 : decode cX2_sum 39 = .ok (.aload_n 0, 1) := by decide +kernel
theorem dX2_sum_40 : decode cX2_sum 40 = .ok (.getfield 26, 3) := by decide +kernel
theorem dX2_sum_43 : decode cX2_sum 43 = .ok (.aload_n 0, 1) := by decide +kernel
theorem dX2_sum_44 : decode cX2_sum 44 = .ok (.getfield 12, 3) := by decide +kernel
theorem dX2_sum_47 : decode cX2_sum 47 = .ok (.iload_n 1, 1) := by decide +kernel
theorem dX2_sum_48 : decode cX2_sum 48 = .ok (.iload_n 2, 1) := by decide +kernel
theorem dX2_sum_49 : decode cX2_sum 49 = .ok (.invokevirtual 208, 3) := by decide +kernel
theorem dX2_sum_52 : decode cX2_sum 52 = .ok (.aload_n 0, 1) := by decide +kernel
theorem dX2_sum_53 : decode cX2_sum 53 = .ok (.getfield 26, 3) := by decide +kernel
theorem dX2_sum_56 : decode cX2_sum 56 = .ok (.getfield 212, 3) := by decide +kernel
theorem dX2_sum_59 : decode cX2_sum 59 = .ok (.iload_n 3, 1) := by decide +kernel
theorem dX2_sum_60 : decode cX2_sum 60 = .ok (.iaload, 1) := by decide +kernel
theorem dX2_sum_61 : decode cX2_sum 61 = .ok (.ireturn, 1) := by decide +kernel
theorem dX2_decoded_0 : decode cX2_decoded 0 = .ok (.aload_n 0, 1) := by decide +kernel
theorem dX2_decoded_1 : decode cX2_decoded 1 = .ok (.getfield 12, 3) := by decide +kernel
theorem dX2_decoded_4 : decode cX2_decoded 4 = .ok (.iload_n 1, 1) := by decide +kernel
theorem dX2_decoded_5 : decode cX2_decoded 5 = .ok (.iload_n 2, 1) := by decide +kernel
theorem dX2_decoded_6 : decode cX2_decoded 6 = .ok (.invokevirtual 202, 3) := by decide +kernel
theorem dX2_decoded_9 : decode cX2_decoded 9 = .ok (.ifCond .ne 13, 3) := by decide +kernel
theorem dX2_decoded_12 : decode cX2_decoded 12 = .ok (.new 121, 3) := by decide +kernel
theorem dX2_decoded_15 : decode cX2_decoded 15 = .ok (.dup, 1) := by decide +kernel
theorem dX2_decoded_16 : decode cX2_decoded 16 = .ok (.ldc 215, 2) := by decide +kernel
theorem dX2_decoded_18 : decode cX2_decoded 18 = .ok (.invokespecial 125, 3) := by decide +kernel
theorem dX2_decoded_21 : decode cX2_decoded 21 = .ok (.athrow, 1) := by decide +kernel
theorem dX2_decoded_22 : decode cX2_decoded 22 = .ok (.iload_n 3, 1) := by decide +kernel
theorem dX2_decoded_23 : decode cX2_decoded 23 = .ok (.ifCond .lt 8, 3) := by decide +kernel
theorem dX2_decoded_26 : decode cX2_decoded 26 = .ok (.iload_n 3, 1) := by decide +kernel
theorem dX2_decoded_27 : decode cX2_decoded 27 = .ok (.iconst 2, 1) := by decide +kernel
theorem dX2_decoded_28 : decode cX2_decoded 28 = .ok (.if_icmp .le 13, 3) := by decide +kernel
theorem dX2_decoded_31 : decode cX2_decoded 31 = .ok (.new 71, 3) := by decide +kernel
theorem dX2_decoded_34 : decode cX2_decoded 34 = .ok (.dup, 1) := by decide +kernel
theorem dX2_decoded_35 : decode cX2_decoded 35 = .ok (.ldc 217, 2) := by decide +kernel
theorem dX2_decoded_37 : decode cX2_decoded 37 = .ok (.invokespecial 75, 3) := by decide +kernel
theorem dX2_decoded_40 : decode cX2_decoded 40 = .ok (.athrow, 1) := by decide +kernel
theorem dX2_decoded_41 : decode cX2_decoded 41 = .ok (.aload_n 0, 1) := by decide +kernel
theorem dX2_decoded_42 : decode cX2_decoded 42 = .ok (.getfield 26, 3) := by decide +kernel
theorem dX2_decoded_45 : decode cX2_decoded 45 = .ok (.aload_n 0, 1) := by decide +kernel
theorem dX2_decoded_46 : decode cX2_decoded 46 = .ok (.getfield 12, 3) := by decide +kernel
theorem dX2_decoded_49 : decode cX2_decoded 49 = .ok (.iload_n 1, 1) := by decide +kernel
theorem dX2_decoded_50 : decode cX2_decoded 50 = .ok (.iload_n 2, 1) := by decide +kernel
theorem dX2_decoded_51 : decode cX2_decoded 51 = .ok (.invokevirtual 219, 3) := by decide +kernel
theorem dX2_decoded_54 : decode cX2_decoded 54 = .ok (.istore 4, 2) := by decide +kernel
theorem dX2_decoded_56 : decode cX2_decoded 56 = .ok (.iload_n 3, 1) := by decide +kernel
theorem dX2_decoded_57 : decode cX2_decoded 57 = .ok (.ifCond .ne 14, 3) := by decide +kernel
theorem dX2_decoded_60 : decode cX2_decoded 60 = .ok (.aload_n 0, 1) := by decide +kernel
theorem dX2_decoded_61 : decode cX2_decoded 61 = .ok (.getfield 26, 3) := by decide +kernel
theorem dX2_decoded_64 : decode cX2_decoded 64 = .ok (.getfield 223, 3) := by decide +kernel
theorem dX2_decoded_67 : decode cX2_decoded 67 = .ok (.invokestatic 226, 3) := by decide +kernel
theorem dX2_decoded_70 : decode cX2_decoded 70 = .ok (.ireturn, 1) := by decide +kernel
theorem dX2_decoded_71 : decode cX2_decoded 71 = .ok (.iload 4, 2) := by decide +kernel
theorem dX2_decoded_73 : decode cX2_decoded 73 = .ok (.ifCond .ne 13, 3) := by decide +kernel
theorem dX2_decoded_76 : decode cX2_decoded 76 = .ok (.new 112, 3) := by decide +kernel
theorem dX2_decoded_79 : decode cX2_decoded 79 = .ok (.dup, 1) := by decide +kernel
theorem dX2_decoded_80 : decode cX2_decoded 80 = .ok (.ldc 231, 2) := by decide +kernel
theorem dX2_decoded_82 : decode cX2_decoded 82 = .ok (.invokespecial 116, 3) := by decide +kernel
theorem dX2_decoded_85 : decode cX2_decoded 85 = .ok (.athrow, 1) := by decide +kernel
theorem dX2_decoded_86 : decode cX2_decoded 86 = .ok (.iload_n 3, 1) := by decide +kernel
theorem dX2_decoded_87 : decode cX2_decoded 87 = .ok (.iconst 1, 1) := by decide +kernel
theorem dX2_decoded_88 : decode cX2_decoded 88 = .ok (.if_icmp .ne 16, 3) := by decide +kernel
theorem dX2_decoded_91 : decode cX2_decoded 91 = .ok (.aload_n 0, 1) := by decide +kernel
theorem dX2_decoded_92 : decode cX2_decoded 92 = .ok (.getfield 26, 3) := by decide +kernel
theorem dX2_decoded_95 : decode cX2_decoded 95 = .ok (.getfield 233, 3) := by decide +kernel
theorem dX2_decoded_98 : decode cX2_decoded 98 = .ok (.invokestatic 226, 3) := by decide +kernel
theorem dX2_decoded_101 : decode cX2_decoded 101 = .ok (.goto 10, 3) := by decide +kernel
theorem dX2_decoded_104 : decode cX2_decoded 104 = .ok (.aload_n 0, 1) := by decide +kernel
theorem dX2_decoded_105 : decode cX2_decoded 105 = .ok (.getfield 26, 3) := by decide +kernel
theorem dX2_decoded_108 : decode cX2_decoded 108 = .ok (.getfield 233, 3) := by decide +kernel
theorem dX2_decoded_111 : decode cX2_decoded 111 = .ok (.ireturn, 1) := by decide +kernel
theorem dX2_found_0 : decode cX2_found 0 = .ok (.aload_n 0, 1) := by decide +kernel
theorem dX2_found_1 : decode cX2_found 1 = .ok (.getfield 12, 3) := by decide +kernel
theorem dX2_found_4 : decode cX2_found 4 = .ok (.iload_n 1, 1) := by decide +kernel
theorem dX2_found_5 : decode cX2_found 5 = .ok (.iload_n 2, 1) := by decide +kernel
theorem dX2_found_6 : decode cX2_found 6 = .ok (.iload_n 3, 1) := by decide +kernel
theorem dX2_found_7 : decode cX2_found 7 = .ok (.invokevirtual 152, 3) := by decide +kernel
theorem dX2_found_10 : decode cX2_found 10 = .ok (.ifCond .ne 13, 3) := by decide +kernel
theorem dX2_found_13 : decode cX2_found 13 = .ok (.new 121, 3) := by decide +kernel
theorem dX2_found_16 : decode cX2_found 16 = .ok (.dup, 1) := by decide +kernel
theorem dX2_found_17 : decode cX2_found 17 = .ok (.ldc 156, 2) := by decide +kernel
theorem dX2_found_19 : decode cX2_found 19 = .ok (.invokespecial 125, 3) := by decide +kernel
theorem dX2_found_22 : decode cX2_found 22 = .ok (.athrow, 1) := by decide +kernel
theorem dX2_found_23 : decode cX2_found 23 = .ok (.aload_n 0, 1) := by decide +kernel
theorem dX2_found_24 : decode cX2_found 24 = .ok (.getfield 26, 3) := by decide +kernel
theorem dX2_found_27 : decode cX2_found 27 = .ok (.aload_n 0, 1) := by decide +kernel
theorem dX2_found_28 : decode cX2_found 28 = .ok (.getfield 12, 3) := by decide +kernel
theorem dX2_found_31 : decode cX2_found 31 = .ok (.iload_n 1, 1) := by decide +kernel
theorem dX2_found_32 : decode cX2_found 32 = .ok (.iload_n 2, 1) := by decide +kernel
theorem dX2_found_33 : decode cX2_found 33 = .ok (.invokevirtual 219, 3) := by decide +kernel
theorem dX2_found_36 : decode cX2_found 36 = .ok (.ifCond .ne 13, 3) := by decide +kernel
theorem dX2_found_39 : decode cX2_found 39 = .ok (.new 112, 3) := by decide +kernel
theorem dX2_found_42 : decode cX2_found 42 = .ok (.dup, 1) := by decide +kernel
theorem dX2_found_43 : decode cX2_found 43 = .ok (.ldc 231, 2) := by decide +kernel
theorem dX2_found_45 : decode cX2_found 45 = .ok (.invokespecial 116, 3) := by decide +kernel
theorem dX2_found_48 : decode cX2_found 48 = .ok (.athrow, 1) := by decide +kernel
theorem dX2_found_49 : decode cX2_found 49 = .ok (.aload_n 0, 1) := by decide +kernel
theorem dX2_found_50 : decode cX2_found 50 = .ok (.getfield 26, 3) := by decide +kernel
theorem dX2_found_53 : decode cX2_found 53 = .ok (.getfield 236, 3) := by decide +kernel
theorem dX2_found_56 : decode cX2_found 56 = .ok (.iload_n 3, 1) := by decide +kernel
theorem dX2_found_57 : decode cX2_found 57 = .ok (.iaload, 1) := by decide +kernel
theorem dX2_found_58 : decode cX2_found 58 = .ok (.ireturn, 1) := by decide +kernel
theorem dX2_read_0 : decode cX2_read 0 = .ok (.aload_n 0, 1) := by decide +kernel
theorem dX2_read_1 : decode cX2_read 1 = .ok (.getfield 12, 3) := by decide +kernel
theorem dX2_read_4 : decode cX2_read 4 = .ok (.iload_n 1, 1) := by decide +kernel
theorem dX2_read_5 : decode cX2_read 5 = .ok (.invokevirtual 117, 3) := by decide +kernel
theorem dX2_read_8 : decode cX2_read 8 = .ok (.ifCond .eq 20, 3) := by decide +kernel
theorem dX2_read_11 : decode cX2_read 11 = .ok (.iload_n 2, 1) := by decide +kernel
theorem dX2_read_12 : decode cX2_read 12 = .ok (.ifCond .lt 16, 3) := by decide +kernel
theorem dX2_read_15 : decode cX2_read 15 = .ok (.iload_n 2, 1) := by decide +kernel
theorem dX2_read_16 : decode cX2_read 16 = .ok (.aload_n 0, 1) := by decide +kernel
theorem dX2_read_17 : decode cX2_read 17 = .ok (.getfield 12, 3) := by decide +kernel
theorem dX2_read_20 : decode cX2_read 20 = .ok (.getfield 129, 3) := by decide +kernel
theorem dX2_read_23 : decode cX2_read 23 = .ok (.iload_n 1, 1) := by decide +kernel
theorem dX2_read_24 : decode cX2_read 24 = .ok (.iaload, 1) := by decide +kernel
theorem dX2_read_25 : decode cX2_read 25 = .ok (.if_icmp .lt 13, 3) := by decide +kernel
theorem dX2_read_28 : decode cX2_read 28 = .ok (.new 121, 3) := by decide +kernel
theorem dX2_read_31 : decode cX2_read 31 = .ok (.dup, 1) := by decide +kernel
theorem dX2_read_32 : decode cX2_read 32 = .ok (.ldc 239, 2) := by decide +kernel
theorem dX2_read_34 : decode cX2_read 34 = .ok (.invokespecial 125, 3) := by decide +kernel
theorem dX2_read_37 : decode cX2_read 37 = .ok (.athrow, 1) := by decide +kernel
theorem dX2_read_38 : decode cX2_read 38 = .ok (.aload_n 0, 1) := by decide +kernel
theorem dX2_read_39 : decode cX2_read 39 = .ok (.getfield 26, 3) := by decide +kernel
theorem dX2_read_42 : decode cX2_read 42 = .ok (.aload_n 0, 1) := by decide +kernel
theorem dX2_read_43 : decode cX2_read 43 = .ok (.getfield 12, 3) := by decide +kernel
theorem dX2_read_46 : decode cX2_read 46 = .ok (.iload_n 1, 1) := by decide +kernel
theorem dX2_read_47 : decode cX2_read 47 = .ok (.iload_n 2, 1) := by decide +kernel
theorem dX2_read_48 : decode cX2_read 48 = .ok (.bipush 8, 2) := by decide +kernel
theorem dX2_read_50 : decode cX2_read 50 = .ok (.idiv, 1) := by decide +kernel
theorem dX2_read_51 : decode cX2_read 51 = .ok (.invokevirtual 219, 3) := by decide +kernel
theorem dX2_read_54 : decode cX2_read 54 = .ok (.ifCond .ne 13, 3) := by decide +kernel
theorem dX2_read_57 : decode cX2_read 57 = .ok (.new 112, 3) := by decide +kernel
theorem dX2_read_60 : decode cX2_read 60 = .ok (.dup, 1) := by decide +kernel
theorem dX2_read_61 : decode cX2_read 61 = .ok (.ldc 231, 2) := by decide +kernel
theorem dX2_read_63 : decode cX2_read 63 = .ok (.invokespecial 116, 3) := by decide +kernel
theorem dX2_read_66 : decode cX2_read 66 = .ok (.athrow, 1) := by decide +kernel
theorem dX2_read_67 : decode cX2_read 67 = .ok (.aload_n 0, 1) := by decide +kernel
theorem dX2_read_68 : decode cX2_read 68 = .ok (.getfield 26, 3) := by decide +kernel
theorem dX2_read_71 : decode cX2_read 71 = .ok (.getfield 236, 3) := by decide +kernel
theorem dX2_read_74 : decode cX2_read 74 = .ok (.aload_n 0, 1) := by decide +kernel
theorem dX2_read_75 : decode cX2_read 75 = .ok (.getfield 12, 3) := by decide +kernel
theorem dX2_read_78 : decode cX2_read 78 = .ok (.getfield 132, 3) := by decide +kernel
theorem dX2_read_81 : decode cX2_read 81 = .ok (.iload_n 1, 1) := by decide +kernel
theorem dX2_read_82 : decode cX2_read 82 = .ok (.iaload, 1) := by decide +kernel
theorem dX2_read_83 : decode cX2_read 83 = .ok (.iload_n 2, 1) := by decide +kernel
theorem dX2_read_84 : decode cX2_read 84 = .ok (.bipush 8, 2) := by decide +kernel
theorem dX2_read_86 : decode cX2_read 86 = .ok (.irem, 1) := by decide +kernel
theorem dX2_read_87 : decode cX2_read 87 = .ok (.iadd, 1) := by decide +kernel
theorem dX2_read_88 : decode cX2_read 88 = .ok (.iaload, 1) := by decide +kernel
theorem dX2_read_89 : decode cX2_read 89 = .ok (.ireturn, 1) := by decide +kernel
theorem dX2_condition_0 : decode cX2_condition 0 = .ok (.aload_n 0, 1) := by decide +kernel
theorem dX2_condition_1 : decode cX2_condition 1 = .ok (.getfield 12, 3) := by decide +kernel
theorem dX2_condition_4 : decode cX2_condition 4 = .ok (.iload_n 1, 1) := by decide +kernel
theorem dX2_condition_5 : decode cX2_condition 5 = .ok (.invokevirtual 117, 3) := by decide +kernel
theorem dX2_condition_8 : decode cX2_condition 8 = .ok (.ifCond .ne 13, 3) := by decide +kernel
theorem dX2_condition_11 : decode cX2_condition 11 = .ok (.new 121, 3) := by decide +kernel
theorem dX2_condition_14 : decode cX2_condition 14 = .ok (.dup, 1) := by decide +kernel
theorem dX2_condition_15 : decode cX2_condition 15 = .ok (.ldc 123, 2) := by decide +kernel
theorem dX2_condition_17 : decode cX2_condition 17 = .ok (.invokespecial 125, 3) := by decide +kernel
theorem dX2_condition_20 : decode cX2_condition 20 = .ok (.athrow, 1) := by decide +kernel
theorem dX2_condition_21 : decode cX2_condition 21 = .ok (.iconst 1, 1) := by decide +kernel
theorem dX2_condition_22 : decode cX2_condition 22 = .ok (.istore_n 2, 1) := by decide +kernel
theorem dX2_condition_23 : decode cX2_condition 23 = .ok (.iconst 0, 1) := by decide +kernel
theorem dX2_condition_24 : decode cX2_condition 24 = .ok (.istore_n 3, 1) := by decide +kernel
theorem dX2_condition_25 : decode cX2_condition 25 = .ok (.iconst 0, 1) := by decide +kernel
theorem dX2_condition_26 : decode cX2_condition 26 = .ok (.istore 4, 2) := by decide +kernel
theorem dX2_condition_28 : decode cX2_condition 28 = .ok (.iload 4, 2) := by decide +kernel
theorem dX2_condition_30 : decode cX2_condition 30 = .ok (.aload_n 0, 1) := by decide +kernel
theorem dX2_condition_31 : decode cX2_condition 31 = .ok (.getfield 12, 3) := by decide +kernel
theorem dX2_condition_34 : decode cX2_condition 34 = .ok (.getfield 141, 3) := by decide +kernel
theorem dX2_condition_37 : decode cX2_condition 37 = .ok (.iload_n 1, 1) := by decide +kernel
theorem dX2_condition_38 : decode cX2_condition 38 = .ok (.iaload, 1) := by decide +kernel
theorem dX2_condition_39 : decode cX2_condition 39 = .ok (.if_icmp .ge 47, 3) := by decide +kernel
theorem dX2_condition_42 : decode cX2_condition 42 = .ok (.aload_n 0, 1) := by decide +kernel
theorem dX2_condition_43 : decode cX2_condition 43 = .ok (.getfield 26, 3) := by decide +kernel
theorem dX2_condition_46 : decode cX2_condition 46 = .ok (.aload_n 0, 1) := by decide +kernel
theorem dX2_condition_47 : decode cX2_condition 47 = .ok (.getfield 12, 3) := by decide +kernel
theorem dX2_condition_50 : decode cX2_condition 50 = .ok (.iload_n 1, 1) := by decide +kernel
theorem dX2_condition_51 : decode cX2_condition 51 = .ok (.iload 4, 2) := by decide +kernel
theorem dX2_condition_53 : decode cX2_condition 53 = .ok (.invokevirtual 219, 3) := by decide +kernel
theorem dX2_condition_56 : decode cX2_condition 56 = .ok (.ifCond .ne 5, 3) := by decide +kernel
theorem dX2_condition_59 : decode cX2_condition 59 = .ok (.iconst 3, 1) := by decide +kernel
theorem dX2_condition_60 : decode cX2_condition 60 = .ok (.ireturn, 1) := by decide +kernel
theorem dX2_condition_61 : decode cX2_condition 61 = .ok (.iload_n 3, 1) := by decide +kernel
theorem dX2_condition_62 : decode cX2_condition 62 = .ok (.aload_n 0, 1) := by decide +kernel
theorem dX2_condition_63 : decode cX2_condition 63 = .ok (.getfield 26, 3) := by decide +kernel
theorem dX2_condition_66 : decode cX2_condition 66 = .ok (.invokevirtual 241, 3) := by decide +kernel
theorem dX2_condition_69 : decode cX2_condition 69 = .ok (.iadd, 1) := by decide +kernel
theorem dX2_condition_70 : decode cX2_condition 70 = .ok (.istore_n 3, 1) := by decide +kernel
theorem dX2_condition_71 : decode cX2_condition 71 = .ok (.aload_n 0, 1) := by decide +kernel
theorem dX2_condition_72 : decode cX2_condition 72 = .ok (.iload_n 2, 1) := by decide +kernel
theorem dX2_condition_73 : decode cX2_condition 73 = .ok (.iload_n 1, 1) := by decide +kernel
theorem dX2_condition_74 : decode cX2_condition 74 = .ok (.iload 4, 2) := by decide +kernel
theorem dX2_condition_76 : decode cX2_condition 76 = .ok (.invokevirtual 244, 3) := by decide +kernel
theorem dX2_condition_79 : decode cX2_condition 79 = .ok (.istore_n 2, 1) := by decide +kernel
theorem dX2_condition_80 : decode cX2_condition 80 = .ok (.iinc 4 1, 3) := by decide +kernel
theorem dX2_condition_83 : decode cX2_condition 83 = .ok (.goto (-55), 3) := by decide +kernel
theorem dX2_condition_86 : decode cX2_condition 86 = .ok (.iload_n 2, 1) := by decide +kernel
theorem dX2_condition_87 : decode cX2_condition 87 = .ok (.aload_n 0, 1) := by decide +kernel
theorem dX2_condition_88 : decode cX2_condition 88 = .ok (.getfield 12, 3) := by decide +kernel
theorem dX2_condition_91 : decode cX2_condition 91 = .ok (.getfield 138, 3) := by decide +kernel
theorem dX2_condition_94 : decode cX2_condition 94 = .ok (.iload_n 1, 1) := by decide +kernel
theorem dX2_condition_95 : decode cX2_condition 95 = .ok (.iaload, 1) := by decide +kernel
theorem dX2_condition_96 : decode cX2_condition 96 = .ok (.if_icmp .eq 5, 3) := by decide +kernel
theorem dX2_condition_99 : decode cX2_condition 99 = .ok (.iconst 2, 1) := by decide +kernel
theorem dX2_condition_100 : decode cX2_condition 100 = .ok (.ireturn, 1) := by decide +kernel
theorem dX2_condition_101 : decode cX2_condition 101 = .ok (.iload_n 3, 1) := by decide +kernel
theorem dX2_condition_102 : decode cX2_condition 102 = .ok (.ifCond .ne 7, 3) := by decide +kernel
theorem dX2_condition_105 : decode cX2_condition 105 = .ok (.iconst 0, 1) := by decide +kernel
theorem dX2_condition_106 : decode cX2_condition 106 = .ok (.goto 4, 3) := by decide +kernel
theorem dX2_condition_109 : decode cX2_condition 109 = .ok (.iconst 1, 1) := by decide +kernel
theorem dX2_condition_110 : decode cX2_condition 110 = .ok (.ireturn, 1) := by decide +kernel
theorem dX2_undecodable_0 : decode cX2_undecodable 0 = .ok (.aload_n 0, 1) := by decide +kernel
theorem dX2_undecodable_1 : decode cX2_undecodable 1 = .ok (.getfield 12, 3) := by decide +kernel
theorem dX2_undecodable_4 : decode cX2_undecodable 4 = .ok (.iload_n 1, 1) := by decide +kernel
theorem dX2_undecodable_5 : decode cX2_undecodable 5 = .ok (.invokevirtual 117, 3) := by decide +kernel
theorem dX2_undecodable_8 : decode cX2_undecodable 8 = .ok (.ifCond .ne 13, 3) := by decide +kernel
theorem dX2_undecodable_11 : decode cX2_undecodable 11 = .ok (.new 121, 3) := by decide +kernel
theorem dX2_undecodable_14 : decode cX2_undecodable 14 = .ok (.dup, 1) := by decide +kernel
theorem dX2_undecodable_15 : decode cX2_undecodable 15 = .ok (.ldc 123, 2) := by decide +kernel
theorem dX2_undecodable_17 : decode cX2_undecodable 17 = .ok (.invokespecial 125, 3) := by decide +kernel
theorem dX2_undecodable_20 : decode cX2_undecodable 20 = .ok (.athrow, 1) := by decide +kernel
theorem dX2_undecodable_21 : decode cX2_undecodable 21 = .ok (.aload_n 0, 1) := by decide +kernel
theorem dX2_undecodable_22 : decode cX2_undecodable 22 = .ok (.iload_n 1, 1) := by decide +kernel
theorem dX2_undecodable_23 : decode cX2_undecodable 23 = .ok (.invokevirtual 247, 3) := by decide +kernel
theorem dX2_undecodable_26 : decode cX2_undecodable 26 = .ok (.ireturn, 1) := by decide +kernel
theorem dX2_margin_0 : decode cX2_margin 0 = .ok (.aload_n 0, 1) := by decide +kernel
theorem dX2_margin_1 : decode cX2_margin 1 = .ok (.getfield 12, 3) := by decide +kernel
theorem dX2_margin_4 : decode cX2_margin 4 = .ok (.iload_n 1, 1) := by decide +kernel
theorem dX2_margin_5 : decode cX2_margin 5 = .ok (.iload_n 2, 1) := by decide +kernel
theorem dX2_margin_6 : decode cX2_margin 6 = .ok (.invokevirtual 202, 3) := by decide +kernel
theorem dX2_margin_9 : decode cX2_margin 9 = .ok (.ifCond .ne 13, 3) := by decide +kernel
theorem dX2_margin_12 : decode cX2_margin 12 = .ok (.new 121, 3) := by decide +kernel
theorem dX2_margin_15 : decode cX2_margin 15 = .ok (.dup, 1) := by decide +kernel
theorem dX2_margin_16 : decode cX2_margin 16 = .ok (.ldc 215, 2) := by decide +kernel
theorem dX2_margin_18 : decode cX2_margin 18 = .ok (.invokespecial 125, 3) := by decide +kernel
theorem dX2_margin_21 : decode cX2_margin 21 = .ok (.athrow, 1) := by decide +kernel
theorem dX2_margin_22 : decode cX2_margin 22 = .ok (.aload_n 0, 1) := by decide +kernel
theorem dX2_margin_23 : decode cX2_margin 23 = .ok (.getfield 26, 3) := by decide +kernel
theorem dX2_margin_26 : decode cX2_margin 26 = .ok (.aload_n 0, 1) := by decide +kernel
theorem dX2_margin_27 : decode cX2_margin 27 = .ok (.getfield 12, 3) := by decide +kernel
theorem dX2_margin_30 : decode cX2_margin 30 = .ok (.iload_n 1, 1) := by decide +kernel
theorem dX2_margin_31 : decode cX2_margin 31 = .ok (.iload_n 2, 1) := by decide +kernel
theorem dX2_margin_32 : decode cX2_margin 32 = .ok (.invokevirtual 219, 3) := by decide +kernel
theorem dX2_margin_35 : decode cX2_margin 35 = .ok (.ifCond .ne 13, 3) := by decide +kernel
theorem dX2_margin_38 : decode cX2_margin 38 = .ok (.new 112, 3) := by decide +kernel
theorem dX2_margin_41 : decode cX2_margin 41 = .ok (.dup, 1) := by decide +kernel
theorem dX2_margin_42 : decode cX2_margin 42 = .ok (.ldc 231, 2) := by decide +kernel
theorem dX2_margin_44 : decode cX2_margin 44 = .ok (.invokespecial 116, 3) := by decide +kernel
theorem dX2_margin_47 : decode cX2_margin 47 = .ok (.athrow, 1) := by decide +kernel
theorem dX2_margin_48 : decode cX2_margin 48 = .ok (.aload_n 0, 1) := by decide +kernel
theorem dX2_margin_49 : decode cX2_margin 49 = .ok (.getfield 12, 3) := by decide +kernel
theorem dX2_margin_52 : decode cX2_margin 52 = .ok (.getfield 132, 3) := by decide +kernel
theorem dX2_margin_55 : decode cX2_margin 55 = .ok (.iload_n 1, 1) := by decide +kernel
theorem dX2_margin_56 : decode cX2_margin 56 = .ok (.iaload, 1) := by decide +kernel
theorem dX2_margin_57 : decode cX2_margin 57 = .ok (.iconst 2, 1) := by decide +kernel
theorem dX2_margin_58 : decode cX2_margin 58 = .ok (.aload_n 0, 1) := by decide +kernel
theorem dX2_margin_59 : decode cX2_margin 59 = .ok (.getfield 26, 3) := by decide +kernel
theorem dX2_margin_62 : decode cX2_margin 62 = .ok (.getfield 233, 3) := by decide +kernel
theorem dX2_margin_65 : decode cX2_margin 65 = .ok (.invokestatic 226, 3) := by decide +kernel
theorem dX2_margin_68 : decode cX2_margin 68 = .ok (.imul, 1) := by decide +kernel
theorem dX2_margin_69 : decode cX2_margin 69 = .ok (.isub, 1) := by decide +kernel
theorem dX2_margin_70 : decode cX2_margin 70 = .ok (.aload_n 0, 1) := by decide +kernel
theorem dX2_margin_71 : decode cX2_margin 71 = .ok (.getfield 26, 3) := by decide +kernel
theorem dX2_margin_74 : decode cX2_margin 74 = .ok (.getfield 223, 3) := by decide +kernel
theorem dX2_margin_77 : decode cX2_margin 77 = .ok (.invokestatic 226, 3) := by decide +kernel
theorem dX2_margin_80 : decode cX2_margin 80 = .ok (.isub, 1) := by decide +kernel
theorem dX2_margin_81 : decode cX2_margin 81 = .ok (.ireturn, 1) := by decide +kernel
theorem dX2_burstLimit_0 : decode cX2_burstLimit 0 = .ok (.aload_n 0, 1) := by decide +kernel
theorem dX2_burstLimit_1 : decode cX2_burstLimit 1 = .ok (.getfield 12, 3) := by decide +kernel
theorem dX2_burstLimit_4 : decode cX2_burstLimit 4 = .ok (.iload_n 1, 1) := by decide +kernel
theorem dX2_burstLimit_5 : decode cX2_burstLimit 5 = .ok (.invokevirtual 117, 3) := by decide +kernel
theorem dX2_burstLimit_8 : decode cX2_burstLimit 8 = .ok (.ifCond .ne 13, 3) := by decide +kernel
theorem dX2_burstLimit_11 : decode cX2_burstLimit 11 = .ok (.new 121, 3) := by decide +kernel
theorem dX2_burstLimit_14 : decode cX2_burstLimit 14 = .ok (.dup, 1) := by decide +kernel
theorem dX2_burstLimit_15 : decode cX2_burstLimit 15 = .ok (.ldc 123, 2) := by decide +kernel
theorem dX2_burstLimit_17 : decode cX2_burstLimit 17 = .ok (.invokespecial 125, 3) := by decide +kernel
theorem dX2_burstLimit_20 : decode cX2_burstLimit 20 = .ok (.athrow, 1) := by decide +kernel
theorem dX2_burstLimit_21 : decode cX2_burstLimit 21 = .ok (.aload_n 0, 1) := by decide +kernel
theorem dX2_burstLimit_22 : decode cX2_burstLimit 22 = .ok (.getfield 12, 3) := by decide +kernel
theorem dX2_burstLimit_25 : decode cX2_burstLimit 25 = .ok (.iload_n 1, 1) := by decide +kernel
theorem dX2_burstLimit_26 : decode cX2_burstLimit 26 = .ok (.invokevirtual 147, 3) := by decide +kernel
theorem dX2_burstLimit_29 : decode cX2_burstLimit 29 = .ok (.istore_n 2, 1) := by decide +kernel
theorem dX2_burstLimit_30 : decode cX2_burstLimit 30 = .ok (.aload_n 0, 1) := by decide +kernel
theorem dX2_burstLimit_31 : decode cX2_burstLimit 31 = .ok (.getfield 12, 3) := by decide +kernel
theorem dX2_burstLimit_34 : decode cX2_burstLimit 34 = .ok (.iload_n 1, 1) := by decide +kernel
theorem dX2_burstLimit_35 : decode cX2_burstLimit 35 = .ok (.invokevirtual 193, 3) := by decide +kernel
theorem dX2_burstLimit_38 : decode cX2_burstLimit 38 = .ok (.istore_n 3, 1) := by decide +kernel
theorem dX2_burstLimit_39 : decode cX2_burstLimit 39 = .ok (.iload_n 3, 1) := by decide +kernel
theorem dX2_burstLimit_40 : decode cX2_burstLimit 40 = .ok (.aload_n 0, 1) := by decide +kernel
theorem dX2_burstLimit_41 : decode cX2_burstLimit 41 = .ok (.getfield 12, 3) := by decide +kernel
theorem dX2_burstLimit_44 : decode cX2_burstLimit 44 = .ok (.iload_n 1, 1) := by decide +kernel
theorem dX2_burstLimit_45 : decode cX2_burstLimit 45 = .ok (.invokevirtual 196, 3) := by decide +kernel
theorem dX2_burstLimit_48 : decode cX2_burstLimit 48 = .ok (.if_icmp .ge 17, 3) := by decide +kernel
theorem dX2_burstLimit_51 : decode cX2_burstLimit 51 = .ok (.aload_n 0, 1) := by decide +kernel
theorem dX2_burstLimit_52 : decode cX2_burstLimit 52 = .ok (.iload_n 1, 1) := by decide +kernel
theorem dX2_burstLimit_53 : decode cX2_burstLimit 53 = .ok (.iload_n 3, 1) := by decide +kernel
theorem dX2_burstLimit_54 : decode cX2_burstLimit 54 = .ok (.iload_n 2, 1) := by decide +kernel
theorem dX2_burstLimit_55 : decode cX2_burstLimit 55 = .ok (.invokevirtual 250, 3) := by decide +kernel
theorem dX2_burstLimit_58 : decode cX2_burstLimit 58 = .ok (.istore_n 2, 1) := by decide +kernel
theorem dX2_burstLimit_59 : decode cX2_burstLimit 59 = .ok (.iinc 3 1, 3) := by decide +kernel
theorem dX2_burstLimit_62 : decode cX2_burstLimit 62 = .ok (.goto (-23), 3) := by decide +kernel
theorem dX2_burstLimit_65 : decode cX2_burstLimit 65 = .ok (.iload_n 2, 1) := by decide +kernel
theorem dX2_burstLimit_66 : decode cX2_burstLimit 66 = .ok (.ireturn, 1) := by decide +kernel
theorem dX2_advance_0 : decode cX2_advance 0 = .ok (.iload_n 1, 1) := by decide +kernel
theorem dX2_advance_1 : decode cX2_advance 1 = .ok (.iconst 1, 1) := by decide +kernel
theorem dX2_advance_2 : decode cX2_advance 2 = .ok (.if_icmp .lt 9, 3) := by decide +kernel
theorem dX2_advance_5 : decode cX2_advance 5 = .ok (.iload_n 1, 1) := by decide +kernel
theorem dX2_advance_6 : decode cX2_advance 6 = .ok (.bipush 100, 2) := by decide +kernel
theorem dX2_advance_8 : decode cX2_advance 8 = .ok (.if_icmp .le 13, 3) := by decide +kernel
theorem dX2_advance_11 : decode cX2_advance 11 = .ok (.new 71, 3) := by decide +kernel
theorem dX2_advance_14 : decode cX2_advance 14 = .ok (.dup, 1) := by decide +kernel
theorem dX2_advance_15 : decode cX2_advance 15 = .ok (.ldc 253, 2) := by decide +kernel
theorem dX2_advance_17 : decode cX2_advance 17 = .ok (.invokespecial 75, 3) := by decide +kernel
theorem dX2_advance_20 : decode cX2_advance 20 = .ok (.athrow, 1) := by decide +kernel
theorem dX2_advance_21 : decode cX2_advance 21 = .ok (.aload_n 0, 1) := by decide +kernel
theorem dX2_advance_22 : decode cX2_advance 22 = .ok (.getfield 12, 3) := by decide +kernel
theorem dX2_advance_25 : decode cX2_advance 25 = .ok (.getfield 255, 3) := by decide +kernel
theorem dX2_advance_28 : decode cX2_advance 28 = .ok (.sipush 10000, 3) := by decide +kernel
theorem dX2_advance_31 : decode cX2_advance 31 = .ok (.iload_n 1, 1) := by decide +kernel
theorem dX2_advance_32 : decode cX2_advance 32 = .ok (.isub, 1) := by decide +kernel
theorem dX2_advance_33 : decode cX2_advance 33 = .ok (.if_icmp .le 14, 3) := by decide +kernel
theorem dX2_advance_36 : decode cX2_advance 36 = .ok (.new 78, 3) := by decide +kernel
theorem dX2_advance_39 : decode cX2_advance 39 = .ok (.dup, 1) := by decide +kernel
theorem dX2_advance_40 : decode cX2_advance 40 = .ok (.ldc_w 258, 3) := by decide +kernel
theorem dX2_advance_43 : decode cX2_advance 43 = .ok (.invokespecial 82, 3) := by decide +kernel
theorem dX2_advance_46 : decode cX2_advance 46 = .ok (.athrow, 1) := by decide +kernel
theorem dX2_advance_47 : decode cX2_advance 47 = .ok (.aload_n 0, 1) := by decide +kernel
theorem dX2_advance_48 : decode cX2_advance 48 = .ok (.invokevirtual 101, 3) := by decide +kernel
theorem dX2_advance_51 : decode cX2_advance 51 = .ok (.aload_n 0, 1) := by decide +kernel
theorem dX2_advance_52 : decode cX2_advance 52 = .ok (.getfield 12, 3) := by decide +kernel
theorem dX2_advance_55 : decode cX2_advance 55 = .ok (.dup, 1) := by decide +kernel
theorem dX2_advance_56 : decode cX2_advance 56 = .ok (.getfield 255, 3) := by decide +kernel
theorem dX2_advance_59 : decode cX2_advance 59 = .ok (.iload_n 1, 1) := by decide +kernel
theorem dX2_advance_60 : decode cX2_advance 60 = .ok (.iadd, 1) := by decide +kernel
theorem dX2_advance_61 : decode cX2_advance 61 = .ok (.putfield 255, 3) := by decide +kernel
theorem dX2_advance_64 : decode cX2_advance 64 = .ok (.aload_n 0, 1) := by decide +kernel
theorem dX2_advance_65 : decode cX2_advance 65 = .ok (.getfield 12, 3) := by decide +kernel
theorem dX2_advance_68 : decode cX2_advance 68 = .ok (.getfield 255, 3) := by decide +kernel
theorem dX2_advance_71 : decode cX2_advance 71 = .ok (.ireturn, 1) := by decide +kernel
theorem dX2_scrub_0 : decode cX2_scrub 0 = .ok (.iload_n 1, 1) := by decide +kernel
theorem dX2_scrub_1 : decode cX2_scrub 1 = .ok (.ifCond .lt 10, 3) := by decide +kernel
theorem dX2_scrub_4 : decode cX2_scrub 4 = .ok (.iload_n 1, 1) := by decide +kernel
theorem dX2_scrub_5 : decode cX2_scrub 5 = .ok (.sipush 200, 3) := by decide +kernel
theorem dX2_scrub_8 : decode cX2_scrub 8 = .ok (.if_icmp .le 14, 3) := by decide +kernel
theorem dX2_scrub_11 : decode cX2_scrub 11 = .ok (.new 71, 3) := by decide +kernel
theorem dX2_scrub_14 : decode cX2_scrub 14 = .ok (.dup, 1) := by decide +kernel
theorem dX2_scrub_15 : decode cX2_scrub 15 = .ok (.ldc_w 260, 3) := by decide +kernel
theorem dX2_scrub_18 : decode cX2_scrub 18 = .ok (.invokespecial 75, 3) := by decide +kernel
theorem dX2_scrub_21 : decode cX2_scrub 21 = .ok (.athrow, 1) := by decide +kernel
theorem dX2_scrub_22 : decode cX2_scrub 22 = .ok (.aload_n 0, 1) := by decide +kernel
theorem dX2_scrub_23 : decode cX2_scrub 23 = .ok (.invokevirtual 101, 3) := by decide +kernel
theorem dX2_scrub_26 : decode cX2_scrub 26 = .ok (.aload_n 0, 1) := by decide +kernel
theorem dX2_scrub_27 : decode cX2_scrub 27 = .ok (.iconst 0, 1) := by decide +kernel
theorem dX2_scrub_28 : decode cX2_scrub 28 = .ok (.putfield 45, 3) := by decide +kernel
theorem dX2_scrub_31 : decode cX2_scrub 31 = .ok (.iload_n 1, 1) := by decide +kernel
theorem dX2_scrub_32 : decode cX2_scrub 32 = .ok (.istore_n 2, 1) := by decide +kernel
theorem dX2_scrub_33 : decode cX2_scrub 33 = .ok (.iconst 0, 1) := by decide +kernel
theorem dX2_scrub_34 : decode cX2_scrub 34 = .ok (.istore_n 3, 1) := by decide +kernel
theorem dX2_scrub_35 : decode cX2_scrub 35 = .ok (.iconst 0, 1) := by decide +kernel
theorem dX2_scrub_36 : decode cX2_scrub 36 = .ok (.istore 4, 2) := by decide +kernel
theorem dX2_scrub_38 : decode cX2_scrub 38 = .ok (.iload 4, 2) := by decide +kernel
theorem dX2_scrub_40 : decode cX2_scrub 40 = .ok (.bipush 32, 2) := by decide +kernel
theorem dX2_scrub_42 : decode cX2_scrub 42 = .ok (.if_icmp .ge 88, 3) := by decide +kernel
theorem dX2_scrub_45 : decode cX2_scrub 45 = .ok (.iload_n 2, 1) := by decide +kernel
theorem dX2_scrub_46 : decode cX2_scrub 46 = .ok (.ifCond .le 84, 3) := by decide +kernel
theorem dX2_scrub_49 : decode cX2_scrub 49 = .ok (.iload_n 3, 1) := by decide +kernel
theorem dX2_scrub_50 : decode cX2_scrub 50 = .ok (.ifCond .ne 80, 3) := by decide +kernel
theorem dX2_scrub_53 : decode cX2_scrub 53 = .ok (.aload_n 0, 1) := by decide +kernel
theorem dX2_scrub_54 : decode cX2_scrub 54 = .ok (.getfield 12, 3) := by decide +kernel
theorem dX2_scrub_57 : decode cX2_scrub 57 = .ok (.invokevirtual 262, 3) := by decide +kernel
theorem dX2_scrub_60 : decode cX2_scrub 60 = .ok (.istore 5, 2) := by decide +kernel
theorem dX2_scrub_62 : decode cX2_scrub 62 = .ok (.iload 5, 2) := by decide +kernel
theorem dX2_scrub_64 : decode cX2_scrub 64 = .ok (.ifCond .ge 8, 3) := by decide +kernel
theorem dX2_scrub_67 : decode cX2_scrub 67 = .ok (.iconst 1, 1) := by decide +kernel
theorem dX2_scrub_68 : decode cX2_scrub 68 = .ok (.istore_n 3, 1) := by decide +kernel
theorem dX2_scrub_69 : decode cX2_scrub 69 = .ok (.goto 55, 3) := by decide +kernel
theorem dX2_scrub_72 : decode cX2_scrub 72 = .ok (.iinc 2 (-1), 3) := by decide +kernel
theorem dX2_scrub_75 : decode cX2_scrub 75 = .ok (.aload_n 0, 1) := by decide +kernel
theorem dX2_scrub_76 : decode cX2_scrub 76 = .ok (.iload 5, 2) := by decide +kernel
theorem dX2_scrub_78 : decode cX2_scrub 78 = .ok (.bipush 100, 2) := by decide +kernel
theorem dX2_scrub_80 : decode cX2_scrub 80 = .ok (.idiv, 1) := by decide +kernel
theorem dX2_scrub_81 : decode cX2_scrub 81 = .ok (.iload 5, 2) := by decide +kernel
theorem dX2_scrub_83 : decode cX2_scrub 83 = .ok (.bipush 100, 2) := by decide +kernel
theorem dX2_scrub_85 : decode cX2_scrub 85 = .ok (.irem, 1) := by decide +kernel
theorem dX2_scrub_86 : decode cX2_scrub 86 = .ok (.iload_n 2, 1) := by decide +kernel
theorem dX2_scrub_87 : decode cX2_scrub 87 = .ok (.invokevirtual 265, 3) := by decide +kernel
theorem dX2_scrub_90 : decode cX2_scrub 90 = .ok (.istore 6, 2) := by decide +kernel
theorem dX2_scrub_92 : decode cX2_scrub 92 = .ok (.iload_n 2, 1) := by decide +kernel
theorem dX2_scrub_93 : decode cX2_scrub 93 = .ok (.iload 6, 2) := by decide +kernel
theorem dX2_scrub_95 : decode cX2_scrub 95 = .ok (.iconst 1, 1) := by decide +kernel
theorem dX2_scrub_96 : decode cX2_scrub 96 = .ok (.if_icmp .ne 13, 3) := by decide +kernel
theorem dX2_scrub_99 : decode cX2_scrub 99 = .ok (.aload_n 0, 1) := by decide +kernel
theorem dX2_scrub_100 : decode cX2_scrub 100 = .ok (.getfield 26, 3) := by decide +kernel
theorem dX2_scrub_103 : decode cX2_scrub 103 = .ok (.invokevirtual 241, 3) := by decide +kernel
theorem dX2_scrub_106 : decode cX2_scrub 106 = .ok (.goto 4, 3) := by decide +kernel
theorem dX2_scrub_109 : decode cX2_scrub 109 = .ok (.iconst 0, 1) := by decide +kernel
theorem dX2_scrub_110 : decode cX2_scrub 110 = .ok (.isub, 1) := by decide +kernel
theorem dX2_scrub_111 : decode cX2_scrub 111 = .ok (.istore_n 2, 1) := by decide +kernel
theorem dX2_scrub_112 : decode cX2_scrub 112 = .ok (.iload 6, 2) := by decide +kernel
theorem dX2_scrub_114 : decode cX2_scrub 114 = .ok (.iconst 3, 1) := by decide +kernel
theorem dX2_scrub_115 : decode cX2_scrub 115 = .ok (.if_icmp .ne 7, 3) := by decide +kernel
theorem dX2_scrub_118 : decode cX2_scrub 118 = .ok (.iconst 1, 1) := by decide +kernel
theorem dX2_scrub_119 : decode cX2_scrub 119 = .ok (.goto 4, 3) := by decide +kernel
theorem dX2_scrub_122 : decode cX2_scrub 122 = .ok (.iconst 0, 1) := by decide +kernel
theorem dX2_scrub_123 : decode cX2_scrub 123 = .ok (.istore_n 3, 1) := by decide +kernel
theorem dX2_scrub_124 : decode cX2_scrub 124 = .ok (.iinc 4 1, 3) := by decide +kernel
theorem dX2_scrub_127 : decode cX2_scrub 127 = .ok (.goto (-89), 3) := by decide +kernel
theorem dX2_scrub_130 : decode cX2_scrub 130 = .ok (.aload_n 0, 1) := by decide +kernel
theorem dX2_scrub_131 : decode cX2_scrub 131 = .ok (.getfield 12, 3) := by decide +kernel
theorem dX2_scrub_134 : decode cX2_scrub 134 = .ok (.getfield 268, 3) := by decide +kernel
theorem dX2_scrub_137 : decode cX2_scrub 137 = .ok (.bipush 6, 2) := by decide +kernel
theorem dX2_scrub_139 : decode cX2_scrub 139 = .ok (.dup2, 1) := by decide +kernel
theorem dX2_scrub_140 : decode cX2_scrub 140 = .ok (.iaload, 1) := by decide +kernel
theorem dX2_scrub_141 : decode cX2_scrub 141 = .ok (.iload_n 1, 1) := by decide +kernel
theorem dX2_scrub_142 : decode cX2_scrub 142 = .ok (.iload_n 2, 1) := by decide +kernel
theorem dX2_scrub_143 : decode cX2_scrub 143 = .ok (.isub, 1) := by decide +kernel
theorem dX2_scrub_144 : decode cX2_scrub 144 = .ok (.iadd, 1) := by decide +kernel
theorem dX2_scrub_145 : decode cX2_scrub 145 = .ok (.iastore, 1) := by decide +kernel
theorem dX2_scrub_146 : decode cX2_scrub 146 = .ok (.iload_n 2, 1) := by decide +kernel
theorem dX2_scrub_147 : decode cX2_scrub 147 = .ok (.ireturn, 1) := by decide +kernel
theorem dX2_report_0 : decode cX2_report 0 = .ok (.iload_n 1, 1) := by decide +kernel
theorem dX2_report_1 : decode cX2_report 1 = .ok (.ifCond .lt 11, 3) := by decide +kernel
theorem dX2_report_4 : decode cX2_report 4 = .ok (.iload_n 1, 1) := by decide +kernel
theorem dX2_report_5 : decode cX2_report 5 = .ok (.aload_n 0, 1) := by decide +kernel
theorem dX2_report_6 : decode cX2_report 6 = .ok (.getfield 45, 3) := by decide +kernel
theorem dX2_report_9 : decode cX2_report 9 = .ok (.if_icmp .lt 14, 3) := by decide +kernel
theorem dX2_report_12 : decode cX2_report 12 = .ok (.new 121, 3) := by decide +kernel
theorem dX2_report_15 : decode cX2_report 15 = .ok (.dup, 1) := by decide +kernel
theorem dX2_report_16 : decode cX2_report 16 = .ok (.ldc_w 271, 3) := by decide +kernel
theorem dX2_report_19 : decode cX2_report 19 = .ok (.invokespecial 125, 3) := by decide +kernel
theorem dX2_report_22 : decode cX2_report 22 = .ok (.athrow, 1) := by decide +kernel
theorem dX2_report_23 : decode cX2_report 23 = .ok (.iload_n 2, 1) := by decide +kernel
theorem dX2_report_24 : decode cX2_report 24 = .ok (.ifCond .lt 8, 3) := by decide +kernel
theorem dX2_report_27 : decode cX2_report 27 = .ok (.iload_n 2, 1) := by decide +kernel
theorem dX2_report_28 : decode cX2_report 28 = .ok (.iconst 4, 1) := by decide +kernel
theorem dX2_report_29 : decode cX2_report 29 = .ok (.if_icmp .lt 14, 3) := by decide +kernel
theorem dX2_report_32 : decode cX2_report 32 = .ok (.new 71, 3) := by decide +kernel
theorem dX2_report_35 : decode cX2_report 35 = .ok (.dup, 1) := by decide +kernel
theorem dX2_report_36 : decode cX2_report 36 = .ok (.ldc_w 273, 3) := by decide +kernel
theorem dX2_report_39 : decode cX2_report 39 = .ok (.invokespecial 75, 3) := by decide +kernel
theorem dX2_report_42 : decode cX2_report 42 = .ok (.athrow, 1) := by decide +kernel
theorem dX2_report_43 : decode cX2_report 43 = .ok (.aload_n 0, 1) := by decide +kernel
theorem dX2_report_44 : decode cX2_report 44 = .ok (.getfield 34, 3) := by decide +kernel
theorem dX2_report_47 : decode cX2_report 47 = .ok (.iload_n 1, 1) := by decide +kernel
theorem dX2_report_48 : decode cX2_report 48 = .ok (.iconst 4, 1) := by decide +kernel
theorem dX2_report_49 : decode cX2_report 49 = .ok (.imul, 1) := by decide +kernel
theorem dX2_report_50 : decode cX2_report 50 = .ok (.iload_n 2, 1) := by decide +kernel
theorem dX2_report_51 : decode cX2_report 51 = .ok (.iadd, 1) := by decide +kernel
theorem dX2_report_52 : decode cX2_report 52 = .ok (.iaload, 1) := by decide +kernel
theorem dX2_report_53 : decode cX2_report 53 = .ok (.ireturn, 1) := by decide +kernel
theorem dX2_reportLines_0 : decode cX2_reportLines 0 = .ok (.aload_n 0, 1) := by decide +kernel
theorem dX2_reportLines_1 : decode cX2_reportLines 1 = .ok (.getfield 45, 3) := by decide +kernel
theorem dX2_reportLines_4 : decode cX2_reportLines 4 = .ok (.ireturn, 1) := by decide +kernel
theorem dX2_repair_0 : decode cX2_repair 0 = .ok (.aload_n 0, 1) := by decide +kernel
theorem dX2_repair_1 : decode cX2_repair 1 = .ok (.getfield 12, 3) := by decide +kernel
theorem dX2_repair_4 : decode cX2_repair 4 = .ok (.iload_n 1, 1) := by decide +kernel
theorem dX2_repair_5 : decode cX2_repair 5 = .ok (.iload_n 2, 1) := by decide +kernel
theorem dX2_repair_6 : decode cX2_repair 6 = .ok (.invokevirtual 202, 3) := by decide +kernel
theorem dX2_repair_9 : decode cX2_repair 9 = .ok (.ifCond .ne 13, 3) := by decide +kernel
theorem dX2_repair_12 : decode cX2_repair 12 = .ok (.new 121, 3) := by decide +kernel
theorem dX2_repair_15 : decode cX2_repair 15 = .ok (.dup, 1) := by decide +kernel
theorem dX2_repair_16 : decode cX2_repair 16 = .ok (.ldc 215, 2) := by decide +kernel
theorem dX2_repair_18 : decode cX2_repair 18 = .ok (.invokespecial 125, 3) := by decide +kernel
theorem dX2_repair_21 : decode cX2_repair 21 = .ok (.athrow, 1) := by decide +kernel
theorem dX2_repair_22 : decode cX2_repair 22 = .ok (.aload_n 0, 1) := by decide +kernel
theorem dX2_repair_23 : decode cX2_repair 23 = .ok (.getfield 26, 3) := by decide +kernel
theorem dX2_repair_26 : decode cX2_repair 26 = .ok (.aload_n 0, 1) := by decide +kernel
theorem dX2_repair_27 : decode cX2_repair 27 = .ok (.getfield 12, 3) := by decide +kernel
theorem dX2_repair_30 : decode cX2_repair 30 = .ok (.iload_n 1, 1) := by decide +kernel
theorem dX2_repair_31 : decode cX2_repair 31 = .ok (.iload_n 2, 1) := by decide +kernel
theorem dX2_repair_32 : decode cX2_repair 32 = .ok (.invokevirtual 219, 3) := by decide +kernel
theorem dX2_repair_35 : decode cX2_repair 35 = .ok (.ifCond .ne 13, 3) := by decide +kernel
theorem dX2_repair_38 : decode cX2_repair 38 = .ok (.new 275, 3) := by decide +kernel
theorem dX2_repair_41 : decode cX2_repair 41 = .ok (.dup, 1) := by decide +kernel
theorem dX2_repair_42 : decode cX2_repair 42 = .ok (.ldc 231, 2) := by decide +kernel
theorem dX2_repair_44 : decode cX2_repair 44 = .ok (.invokespecial 277, 3) := by decide +kernel
theorem dX2_repair_47 : decode cX2_repair 47 = .ok (.athrow, 1) := by decide +kernel
theorem dX2_repair_48 : decode cX2_repair 48 = .ok (.aload_n 0, 1) := by decide +kernel
theorem dX2_repair_49 : decode cX2_repair 49 = .ok (.invokevirtual 101, 3) := by decide +kernel
theorem dX2_repair_52 : decode cX2_repair 52 = .ok (.aload_n 0, 1) := by decide +kernel
theorem dX2_repair_53 : decode cX2_repair 53 = .ok (.iload_n 1, 1) := by decide +kernel
theorem dX2_repair_54 : decode cX2_repair 54 = .ok (.iload_n 2, 1) := by decide +kernel
theorem dX2_repair_55 : decode cX2_repair 55 = .ok (.aload_n 0, 1) := by decide +kernel
theorem dX2_repair_56 : decode cX2_repair 56 = .ok (.getfield 26, 3) := by decide +kernel
theorem dX2_repair_59 : decode cX2_repair 59 = .ok (.getfield 233, 3) := by decide +kernel
theorem dX2_repair_62 : decode cX2_repair 62 = .ok (.aload_n 0, 1) := by decide +kernel
theorem dX2_repair_63 : decode cX2_repair 63 = .ok (.getfield 26, 3) := by decide +kernel
theorem dX2_repair_66 : decode cX2_repair 66 = .ok (.getfield 223, 3) := by decide +kernel
theorem dX2_repair_69 : decode cX2_repair 69 = .ok (.ior, 1) := by decide +kernel
theorem dX2_repair_70 : decode cX2_repair 70 = .ok (.invokevirtual 278, 3) := by decide +kernel
theorem dX2_repair_73 : decode cX2_repair 73 = .ok (.aload_n 0, 1) := by decide +kernel
theorem dX2_repair_74 : decode cX2_repair 74 = .ok (.getfield 26, 3) := by decide +kernel
theorem dX2_repair_77 : decode cX2_repair 77 = .ok (.invokevirtual 241, 3) := by decide +kernel
theorem dX2_repair_80 : decode cX2_repair 80 = .ok (.ireturn, 1) := by decide +kernel
theorem dX2_checked_0 : decode cX2_checked 0 = .ok (.aload_n 0, 1) := by decide +kernel
theorem dX2_checked_1 : decode cX2_checked 1 = .ok (.getfield 12, 3) := by decide +kernel
theorem dX2_checked_4 : decode cX2_checked 4 = .ok (.iload_n 1, 1) := by decide +kernel
theorem dX2_checked_5 : decode cX2_checked 5 = .ok (.iload_n 2, 1) := by decide +kernel
theorem dX2_checked_6 : decode cX2_checked 6 = .ok (.invokevirtual 202, 3) := by decide +kernel
theorem dX2_checked_9 : decode cX2_checked 9 = .ok (.ifCond .ne 13, 3) := by decide +kernel
theorem dX2_checked_12 : decode cX2_checked 12 = .ok (.new 121, 3) := by decide +kernel
theorem dX2_checked_15 : decode cX2_checked 15 = .ok (.dup, 1) := by decide +kernel
theorem dX2_checked_16 : decode cX2_checked 16 = .ok (.ldc 215, 2) := by decide +kernel
theorem dX2_checked_18 : decode cX2_checked 18 = .ok (.invokespecial 125, 3) := by decide +kernel
theorem dX2_checked_21 : decode cX2_checked 21 = .ok (.athrow, 1) := by decide +kernel
theorem dX2_checked_22 : decode cX2_checked 22 = .ok (.aload_n 0, 1) := by decide +kernel
theorem dX2_checked_23 : decode cX2_checked 23 = .ok (.getfield 12, 3) := by decide +kernel
theorem dX2_checked_26 : decode cX2_checked 26 = .ok (.getfield 282, 3) := by decide +kernel
theorem dX2_checked_29 : decode cX2_checked 29 = .ok (.iload_n 1, 1) := by decide +kernel
theorem dX2_checked_30 : decode cX2_checked 30 = .ok (.iconst 4, 1) := by decide +kernel
theorem dX2_checked_31 : decode cX2_checked 31 = .ok (.imul, 1) := by decide +kernel
theorem dX2_checked_32 : decode cX2_checked 32 = .ok (.iload_n 2, 1) := by decide +kernel
theorem dX2_checked_33 : decode cX2_checked 33 = .ok (.iadd, 1) := by decide +kernel
theorem dX2_checked_34 : decode cX2_checked 34 = .ok (.iaload, 1) := by decide +kernel
theorem dX2_checked_35 : decode cX2_checked 35 = .ok (.ireturn, 1) := by decide +kernel
theorem dX2_nextToCheck_0 : decode cX2_nextToCheck 0 = .ok (.aload_n 0, 1) := by decide +kernel
theorem dX2_nextToCheck_1 : decode cX2_nextToCheck 1 = .ok (.getfield 12, 3) := by decide +kernel
theorem dX2_nextToCheck_4 : decode cX2_nextToCheck 4 = .ok (.invokevirtual 262, 3) := by decide +kernel
theorem dX2_nextToCheck_7 : decode cX2_nextToCheck 7 = .ok (.istore_n 1, 1) := by decide +kernel
theorem dX2_nextToCheck_8 : decode cX2_nextToCheck 8 = .ok (.iload_n 1, 1) := by decide +kernel
theorem dX2_nextToCheck_9 : decode cX2_nextToCheck 9 = .ok (.ifCond .ge 14, 3) := by decide +kernel
theorem dX2_nextToCheck_12 : decode cX2_nextToCheck 12 = .ok (.new 112, 3) := by decide +kernel
theorem dX2_nextToCheck_15 : decode cX2_nextToCheck 15 = .ok (.dup, 1) := by decide +kernel
theorem dX2_nextToCheck_16 : decode cX2_nextToCheck 16 = .ok (.ldc_w 285, 3) := by decide +kernel
theorem dX2_nextToCheck_19 : decode cX2_nextToCheck 19 = .ok (.invokespecial 116, 3) := by decide +kernel
theorem dX2_nextToCheck_22 : decode cX2_nextToCheck 22 = .ok (.athrow, 1) := by decide +kernel
theorem dX2_nextToCheck_23 : decode cX2_nextToCheck 23 = .ok (.iload_n 1, 1) := by decide +kernel
theorem dX2_nextToCheck_24 : decode cX2_nextToCheck 24 = .ok (.ireturn, 1) := by decide +kernel
theorem dX2_needed_0 : decode cX2_needed 0 = .ok (.iconst 0, 1) := by decide +kernel
theorem dX2_needed_1 : decode cX2_needed 1 = .ok (.istore_n 1, 1) := by decide +kernel
theorem dX2_needed_2 : decode cX2_needed 2 = .ok (.iconst 0, 1) := by decide +kernel
theorem dX2_needed_3 : decode cX2_needed 3 = .ok (.istore_n 2, 1) := by decide +kernel
theorem dX2_needed_4 : decode cX2_needed 4 = .ok (.iload_n 2, 1) := by decide +kernel
theorem dX2_needed_5 : decode cX2_needed 5 = .ok (.bipush 8, 2) := by decide +kernel
theorem dX2_needed_7 : decode cX2_needed 7 = .ok (.if_icmp .ge 68, 3) := by decide +kernel
theorem dX2_needed_10 : decode cX2_needed 10 = .ok (.iconst 0, 1) := by decide +kernel
theorem dX2_needed_11 : decode cX2_needed 11 = .ok (.istore_n 3, 1) := by decide +kernel
theorem dX2_needed_12 : decode cX2_needed 12 = .ok (.iload_n 3, 1) := by decide +kernel
theorem dX2_needed_13 : decode cX2_needed 13 = .ok (.aload_n 0, 1) := by decide +kernel
theorem dX2_needed_14 : decode cX2_needed 14 = .ok (.getfield 12, 3) := by decide +kernel
theorem dX2_needed_17 : decode cX2_needed 17 = .ok (.getfield 141, 3) := by decide +kernel
theorem dX2_needed_20 : decode cX2_needed 20 = .ok (.iload_n 2, 1) := by decide +kernel
theorem dX2_needed_21 : decode cX2_needed 21 = .ok (.iaload, 1) := by decide +kernel
theorem dX2_needed_22 : decode cX2_needed 22 = .ok (.if_icmp .ge 47, 3) := by decide +kernel
theorem dX2_needed_25 : decode cX2_needed 25 = .ok (.aload_n 0, 1) := by decide +kernel
theorem dX2_needed_26 : decode cX2_needed 26 = .ok (.getfield 12, 3) := by decide +kernel
theorem dX2_needed_29 : decode cX2_needed 29 = .ok (.iload_n 2, 1) := by decide +kernel
theorem dX2_needed_30 : decode cX2_needed 30 = .ok (.iload_n 3, 1) := by decide +kernel
theorem dX2_needed_31 : decode cX2_needed 31 = .ok (.invokevirtual 287, 3) := by decide +kernel
theorem dX2_needed_34 : decode cX2_needed 34 = .ok (.ifCond .eq 29, 3) := by decide +kernel
theorem dX2_needed_37 : decode cX2_needed 37 = .ok (.aload_n 0, 1) := by decide +kernel
theorem dX2_needed_38 : decode cX2_needed 38 = .ok (.getfield 26, 3) := by decide +kernel
theorem dX2_needed_41 : decode cX2_needed 41 = .ok (.aload_n 0, 1) := by decide +kernel
theorem dX2_needed_42 : decode cX2_needed 42 = .ok (.getfield 12, 3) := by decide +kernel
theorem dX2_needed_45 : decode cX2_needed 45 = .ok (.iload_n 2, 1) := by decide +kernel
theorem dX2_needed_46 : decode cX2_needed 46 = .ok (.iload_n 3, 1) := by decide +kernel
theorem dX2_needed_47 : decode cX2_needed 47 = .ok (.invokevirtual 219, 3) := by decide +kernel
theorem dX2_needed_50 : decode cX2_needed 50 = .ok (.pop, 1) := by decide +kernel
theorem dX2_needed_51 : decode cX2_needed 51 = .ok (.iload_n 1, 1) := by decide +kernel
theorem dX2_needed_52 : decode cX2_needed 52 = .ok (.iconst 1, 1) := by decide +kernel
theorem dX2_needed_53 : decode cX2_needed 53 = .ok (.aload_n 0, 1) := by decide +kernel
theorem dX2_needed_54 : decode cX2_needed 54 = .ok (.getfield 26, 3) := by decide +kernel
theorem dX2_needed_57 : decode cX2_needed 57 = .ok (.invokevirtual 241, 3) := by decide +kernel
theorem dX2_needed_60 : decode cX2_needed 60 = .ok (.iadd, 1) := by decide +kernel
theorem dX2_needed_61 : decode cX2_needed 61 = .ok (.iadd, 1) := by decide +kernel
theorem dX2_needed_62 : decode cX2_needed 62 = .ok (.istore_n 1, 1) := by decide +kernel
theorem dX2_needed_63 : decode cX2_needed 63 = .ok (.iinc 3 1, 3) := by decide +kernel
theorem dX2_needed_66 : decode cX2_needed 66 = .ok (.goto (-54), 3) := by decide +kernel
theorem dX2_needed_69 : decode cX2_needed 69 = .ok (.iinc 2 1, 3) := by decide +kernel
theorem dX2_needed_72 : decode cX2_needed 72 = .ok (.goto (-68), 3) := by decide +kernel
theorem dX2_needed_75 : decode cX2_needed 75 = .ok (.iload_n 1, 1) := by decide +kernel
theorem dX2_needed_76 : decode cX2_needed 76 = .ok (.ireturn, 1) := by decide +kernel
theorem dX2_account_0 : decode cX2_account 0 = .ok (.iload_n 1, 1) := by decide +kernel
theorem dX2_account_1 : decode cX2_account 1 = .ok (.ifCond .lt 9, 3) := by decide +kernel
theorem dX2_account_4 : decode cX2_account 4 = .ok (.iload_n 1, 1) := by decide +kernel
theorem dX2_account_5 : decode cX2_account 5 = .ok (.bipush 8, 2) := by decide +kernel
theorem dX2_account_7 : decode cX2_account 7 = .ok (.if_icmp .lt 14, 3) := by decide +kernel
theorem dX2_account_10 : decode cX2_account 10 = .ok (.new 71, 3) := by decide +kernel
theorem dX2_account_13 : decode cX2_account 13 = .ok (.dup, 1) := by decide +kernel
theorem dX2_account_14 : decode cX2_account 14 = .ok (.ldc_w 290, 3) := by decide +kernel
theorem dX2_account_17 : decode cX2_account 17 = .ok (.invokespecial 75, 3) := by decide +kernel
theorem dX2_account_20 : decode cX2_account 20 = .ok (.athrow, 1) := by decide +kernel
theorem dX2_account_21 : decode cX2_account 21 = .ok (.aload_n 0, 1) := by decide +kernel
theorem dX2_account_22 : decode cX2_account 22 = .ok (.getfield 12, 3) := by decide +kernel
theorem dX2_account_25 : decode cX2_account 25 = .ok (.getfield 268, 3) := by decide +kernel
theorem dX2_account_28 : decode cX2_account 28 = .ok (.iload_n 1, 1) := by decide +kernel
theorem dX2_account_29 : decode cX2_account 29 = .ok (.iaload, 1) := by decide +kernel
theorem dX2_account_30 : decode cX2_account 30 = .ok (.ireturn, 1) := by decide +kernel
theorem dX2_day_0 : decode cX2_day 0 = .ok (.aload_n 0, 1) := by decide +kernel
theorem dX2_day_1 : decode cX2_day 1 = .ok (.getfield 12, 3) := by decide +kernel
theorem dX2_day_4 : decode cX2_day 4 = .ok (.getfield 255, 3) := by decide +kernel
theorem dX2_day_7 : decode cX2_day 7 = .ok (.ireturn, 1) := by decide +kernel
theorem dX2_health_0 : decode cX2_health 0 = .ok (.iconst 0, 1) := by decide +kernel
theorem dX2_health_1 : decode cX2_health 1 = .ok (.istore_n 1, 1) := by decide +kernel
theorem dX2_health_2 : decode cX2_health 2 = .ok (.iconst 0, 1) := by decide +kernel
theorem dX2_health_3 : decode cX2_health 3 = .ok (.istore_n 2, 1) := by decide +kernel
theorem dX2_health_4 : decode cX2_health 4 = .ok (.iconst 0, 1) := by decide +kernel
theorem dX2_health_5 : decode cX2_health 5 = .ok (.istore_n 3, 1) := by decide +kernel
theorem dX2_health_6 : decode cX2_health 6 = .ok (.iload_n 3, 1) := by decide +kernel
theorem dX2_health_7 : decode cX2_health 7 = .ok (.sipush 240, 3) := by decide +kernel
theorem dX2_health_10 : decode cX2_health 10 = .ok (.if_icmp .ge 59, 3) := by decide +kernel
theorem dX2_health_13 : decode cX2_health 13 = .ok (.aload_n 0, 1) := by decide +kernel
theorem dX2_health_14 : decode cX2_health 14 = .ok (.getfield 12, 3) := by decide +kernel
theorem dX2_health_17 : decode cX2_health 17 = .ok (.iload_n 3, 1) := by decide +kernel
theorem dX2_health_18 : decode cX2_health 18 = .ok (.invokevirtual 167, 3) := by decide +kernel
theorem dX2_health_21 : decode cX2_health 21 = .ok (.ifCond .lt 42, 3) := by decide +kernel
theorem dX2_health_24 : decode cX2_health 24 = .ok (.iinc 1 1, 3) := by decide +kernel
theorem dX2_health_27 : decode cX2_health 27 = .ok (.aload_n 0, 1) := by decide +kernel
theorem dX2_health_28 : decode cX2_health 28 = .ok (.getfield 12, 3) := by decide +kernel
theorem dX2_health_31 : decode cX2_health 31 = .ok (.getfield 179, 3) := by decide +kernel
theorem dX2_health_34 : decode cX2_health 34 = .ok (.iload_n 3, 1) := by decide +kernel
theorem dX2_health_35 : decode cX2_health 35 = .ok (.iaload, 1) := by decide +kernel
theorem dX2_health_36 : decode cX2_health 36 = .ok (.aload_n 0, 1) := by decide +kernel
theorem dX2_health_37 : decode cX2_health 37 = .ok (.getfield 12, 3) := by decide +kernel
theorem dX2_health_40 : decode cX2_health 40 = .ok (.getfield 199, 3) := by decide +kernel
theorem dX2_health_43 : decode cX2_health 43 = .ok (.iload_n 3, 1) := by decide +kernel
theorem dX2_health_44 : decode cX2_health 44 = .ok (.iaload, 1) := by decide +kernel
theorem dX2_health_45 : decode cX2_health 45 = .ok (.if_icmp .ne 18, 3) := by decide +kernel
theorem dX2_health_48 : decode cX2_health 48 = .ok (.aload_n 0, 1) := by decide +kernel
theorem dX2_health_49 : decode cX2_health 49 = .ok (.getfield 12, 3) := by decide +kernel
theorem dX2_health_52 : decode cX2_health 52 = .ok (.getfield 182, 3) := by decide +kernel
theorem dX2_health_55 : decode cX2_health 55 = .ok (.iload_n 3, 1) := by decide +kernel
theorem dX2_health_56 : decode cX2_health 56 = .ok (.iaload, 1) := by decide +kernel
theorem dX2_health_57 : decode cX2_health 57 = .ok (.ifCond .ne 6, 3) := by decide +kernel
theorem dX2_health_60 : decode cX2_health 60 = .ok (.iinc 2 1, 3) := by decide +kernel
theorem dX2_health_63 : decode cX2_health 63 = .ok (.iinc 3 1, 3) := by decide +kernel
theorem dX2_health_66 : decode cX2_health 66 = .ok (.goto (-60), 3) := by decide +kernel
theorem dX2_health_69 : decode cX2_health 69 = .ok (.iload_n 1, 1) := by decide +kernel
theorem dX2_health_70 : decode cX2_health 70 = .ok (.ifCond .ne 14, 3) := by decide +kernel
theorem dX2_health_73 : decode cX2_health 73 = .ok (.new 292, 3) := by decide +kernel
theorem dX2_health_76 : decode cX2_health 76 = .ok (.dup, 1) := by decide +kernel
theorem dX2_health_77 : decode cX2_health 77 = .ok (.ldc_w 294, 3) := by decide +kernel
theorem dX2_health_80 : decode cX2_health 80 = .ok (.invokespecial 296, 3) := by decide +kernel
theorem dX2_health_83 : decode cX2_health 83 = .ok (.athrow, 1) := by decide +kernel
theorem dX2_health_84 : decode cX2_health 84 = .ok (.iload_n 2, 1) := by decide +kernel
theorem dX2_health_85 : decode cX2_health 85 = .ok (.i2d, 1) := by decide +kernel
theorem dX2_health_86 : decode cX2_health 86 = .ok (.iload_n 1, 1) := by decide +kernel
theorem dX2_health_87 : decode cX2_health 87 = .ok (.i2d, 1) := by decide +kernel
theorem dX2_health_88 : decode cX2_health 88 = .ok (.ddiv, 1) := by decide +kernel
theorem dX2_health_89 : decode cX2_health 89 = .ok (.dreturn, 1) := by decide +kernel
theorem dX2_describe_0 : decode cX2_describe 0 = .ok (.aload_n 0, 1) := by decide +kernel
theorem dX2_describe_1 : decode cX2_describe 1 = .ok (.getfield 12, 3) := by decide +kernel
theorem dX2_describe_4 : decode cX2_describe 4 = .ok (.iload_n 1, 1) := by decide +kernel
theorem dX2_describe_5 : decode cX2_describe 5 = .ok (.invokevirtual 117, 3) := by decide +kernel
theorem dX2_describe_8 : decode cX2_describe 8 = .ok (.ifCond .ne 13, 3) := by decide +kernel
theorem dX2_describe_11 : decode cX2_describe 11 = .ok (.new 121, 3) := by decide +kernel
theorem dX2_describe_14 : decode cX2_describe 14 = .ok (.dup, 1) := by decide +kernel
theorem dX2_describe_15 : decode cX2_describe 15 = .ok (.ldc 123, 2) := by decide +kernel
theorem dX2_describe_17 : decode cX2_describe 17 = .ok (.invokespecial 125, 3) := by decide +kernel
theorem dX2_describe_20 : decode cX2_describe 20 = .ok (.athrow, 1) := by decide +kernel
theorem dX2_describe_21 : decode cX2_describe 21 = .ok (.aload_n 0, 1) := by decide +kernel
theorem dX2_describe_22 : decode cX2_describe 22 = .ok (.iload_n 1, 1) := by decide +kernel
theorem dX2_describe_23 : decode cX2_describe 23 = .ok (.invokevirtual 247, 3) := by decide +kernel
theorem dX2_describe_26 : decode cX2_describe 26 = .ok (.ifCond .eq 14, 3) := by decide +kernel
theorem dX2_describe_29 : decode cX2_describe 29 = .ok (.new 78, 3) := by decide +kernel
theorem dX2_describe_32 : decode cX2_describe 32 = .ok (.dup, 1) := by decide +kernel
theorem dX2_describe_33 : decode cX2_describe 33 = .ok (.ldc_w 297, 3) := by decide +kernel
theorem dX2_describe_36 : decode cX2_describe 36 = .ok (.invokespecial 82, 3) := by decide +kernel
theorem dX2_describe_39 : decode cX2_describe 39 = .ok (.athrow, 1) := by decide +kernel
theorem dX2_describe_40 : decode cX2_describe 40 = .ok (.iconst 4, 1) := by decide +kernel
theorem dX2_describe_41 : decode cX2_describe 41 = .ok (.aload_n 0, 1) := by decide +kernel
theorem dX2_describe_42 : decode cX2_describe 42 = .ok (.getfield 12, 3) := by decide +kernel
theorem dX2_describe_45 : decode cX2_describe 45 = .ok (.getfield 129, 3) := by decide +kernel
theorem dX2_describe_48 : decode cX2_describe 48 = .ok (.iload_n 1, 1) := by decide +kernel
theorem dX2_describe_49 : decode cX2_describe 49 = .ok (.iaload, 1) := by decide +kernel
theorem dX2_describe_50 : decode cX2_describe 50 = .ok (.iadd, 1) := by decide +kernel
theorem dX2_describe_51 : decode cX2_describe 51 = .ok (.istore_n 3, 1) := by decide +kernel
theorem dX2_describe_52 : decode cX2_describe 52 = .ok (.iload_n 2, 1) := by decide +kernel
theorem dX2_describe_53 : decode cX2_describe 53 = .ok (.iconst (-1), 1) := by decide +kernel
theorem dX2_describe_54 : decode cX2_describe 54 = .ok (.if_icmp .ne 5, 3) := by decide +kernel
theorem dX2_describe_57 : decode cX2_describe 57 = .ok (.iload_n 3, 1) := by decide +kernel
theorem dX2_describe_58 : decode cX2_describe 58 = .ok (.ireturn, 1) := by decide +kernel
theorem dX2_describe_59 : decode cX2_describe 59 = .ok (.iload_n 2, 1) := by decide +kernel
theorem dX2_describe_60 : decode cX2_describe 60 = .ok (.ifCond .lt 8, 3) := by decide +kernel
theorem dX2_describe_63 : decode cX2_describe 63 = .ok (.iload_n 2, 1) := by decide +kernel
theorem dX2_describe_64 : decode cX2_describe 64 = .ok (.iload_n 3, 1) := by decide +kernel
theorem dX2_describe_65 : decode cX2_describe 65 = .ok (.if_icmp .lt 14, 3) := by decide +kernel
theorem dX2_describe_68 : decode cX2_describe 68 = .ok (.new 112, 3) := by decide +kernel
theorem dX2_describe_71 : decode cX2_describe 71 = .ok (.dup, 1) := by decide +kernel
theorem dX2_describe_72 : decode cX2_describe 72 = .ok (.ldc_w 299, 3) := by decide +kernel
theorem dX2_describe_75 : decode cX2_describe 75 = .ok (.invokespecial 116, 3) := by decide +kernel
theorem dX2_describe_78 : decode cX2_describe 78 = .ok (.athrow, 1) := by decide +kernel
theorem dX2_describe_79 : decode cX2_describe 79 = .ok (.iload_n 2, 1) := by decide +kernel
theorem dX2_describe_80 : decode cX2_describe 80 = .ok (.iconst 4, 1) := by decide +kernel
theorem dX2_describe_81 : decode cX2_describe 81 = .ok (.if_icmp .ge 12, 3) := by decide +kernel
theorem dX2_describe_84 : decode cX2_describe 84 = .ok (.aload_n 0, 1) := by decide +kernel
theorem dX2_describe_85 : decode cX2_describe 85 = .ok (.iload_n 1, 1) := by decide +kernel
theorem dX2_describe_86 : decode cX2_describe 86 = .ok (.iload_n 2, 1) := by decide +kernel
theorem dX2_describe_87 : decode cX2_describe 87 = .ok (.invokevirtual 301, 3) := by decide +kernel
theorem dX2_describe_90 : decode cX2_describe 90 = .ok (.goto 11, 3) := by decide +kernel
theorem dX2_describe_93 : decode cX2_describe 93 = .ok (.aload_n 0, 1) := by decide +kernel
theorem dX2_describe_94 : decode cX2_describe 94 = .ok (.iload_n 1, 1) := by decide +kernel
theorem dX2_describe_95 : decode cX2_describe 95 = .ok (.iload_n 2, 1) := by decide +kernel
theorem dX2_describe_96 : decode cX2_describe 96 = .ok (.iconst 4, 1) := by decide +kernel
theorem dX2_describe_97 : decode cX2_describe 97 = .ok (.isub, 1) := by decide +kernel
theorem dX2_describe_98 : decode cX2_describe 98 = .ok (.invokevirtual 304, 3) := by decide +kernel
theorem dX2_describe_101 : decode cX2_describe 101 = .ok (.ireturn, 1) := by decide +kernel
theorem dX2_undo_0 : decode cX2_undo 0 = .ok (.aload_n 0, 1) := by decide +kernel
theorem dX2_undo_1 : decode cX2_undo 1 = .ok (.getfield 58, 3) := by decide +kernel
theorem dX2_undo_4 : decode cX2_undo 4 = .ok (.ifCond .gt 14, 3) := by decide +kernel
theorem dX2_undo_7 : decode cX2_undo 7 = .ok (.new 112, 3) := by decide +kernel
theorem dX2_undo_10 : decode cX2_undo 10 = .ok (.dup, 1) := by decide +kernel
theorem dX2_undo_11 : decode cX2_undo 11 = .ok (.ldc_w 307, 3) := by decide +kernel
theorem dX2_undo_14 : decode cX2_undo 14 = .ok (.invokespecial 116, 3) := by decide +kernel
theorem dX2_undo_17 : decode cX2_undo 17 = .ok (.athrow, 1) := by decide +kernel
theorem dX2_undo_18 : decode cX2_undo 18 = .ok (.aload_n 0, 1) := by decide +kernel
theorem dX2_undo_19 : decode cX2_undo 19 = .ok (.dup, 1) := by decide +kernel
theorem dX2_undo_20 : decode cX2_undo 20 = .ok (.getfield 58, 3) := by decide +kernel
theorem dX2_undo_23 : decode cX2_undo 23 = .ok (.iconst 1, 1) := by decide +kernel
theorem dX2_undo_24 : decode cX2_undo 24 = .ok (.isub, 1) := by decide +kernel
theorem dX2_undo_25 : decode cX2_undo 25 = .ok (.putfield 58, 3) := by decide +kernel
theorem dX2_undo_28 : decode cX2_undo 28 = .ok (.aload_n 0, 1) := by decide +kernel
theorem dX2_undo_29 : decode cX2_undo 29 = .ok (.getfield 12, 3) := by decide +kernel
theorem dX2_undo_32 : decode cX2_undo 32 = .ok (.aload_n 0, 1) := by decide +kernel
theorem dX2_undo_33 : decode cX2_undo 33 = .ok (.getfield 19, 3) := by decide +kernel
theorem dX2_undo_36 : decode cX2_undo 36 = .ok (.aload_n 0, 1) := by decide +kernel
theorem dX2_undo_37 : decode cX2_undo 37 = .ok (.getfield 55, 3) := by decide +kernel
theorem dX2_undo_40 : decode cX2_undo 40 = .ok (.aload_n 0, 1) := by decide +kernel
theorem dX2_undo_41 : decode cX2_undo 41 = .ok (.getfield 58, 3) := by decide +kernel
theorem dX2_undo_44 : decode cX2_undo 44 = .ok (.iadd, 1) := by decide +kernel
theorem dX2_undo_45 : decode cX2_undo 45 = .ok (.bipush 6, 2) := by decide +kernel
theorem dX2_undo_47 : decode cX2_undo 47 = .ok (.irem, 1) := by decide +kernel
theorem dX2_undo_48 : decode cX2_undo 48 = .ok (.aaload, 1) := by decide +kernel
theorem dX2_undo_49 : decode cX2_undo 49 = .ok (.invokevirtual 309, 3) := by decide +kernel
theorem dX2_undo_52 : decode cX2_undo 52 = .ok (.aload_n 0, 1) := by decide +kernel
theorem dX2_undo_53 : decode cX2_undo 53 = .ok (.getfield 58, 3) := by decide +kernel
theorem dX2_undo_56 : decode cX2_undo 56 = .ok (.ireturn, 1) := by decide +kernel
theorem dX2_save_0 : decode cX2_save 0 = .ok (.aload_n 0, 1) := by decide +kernel
theorem dX2_save_1 : decode cX2_save 1 = .ok (.getfield 16, 3) := by decide +kernel
theorem dX2_save_4 : decode cX2_save 4 = .ok (.aload_n 0, 1) := by decide +kernel
theorem dX2_save_5 : decode cX2_save 5 = .ok (.getfield 12, 3) := by decide +kernel
theorem dX2_save_8 : decode cX2_save 8 = .ok (.invokevirtual 309, 3) := by decide +kernel
theorem dX2_save_11 : decode cX2_save 11 = .ok (.aload_n 0, 1) := by decide +kernel
theorem dX2_save_12 : decode cX2_save 12 = .ok (.iconst 1, 1) := by decide +kernel
theorem dX2_save_13 : decode cX2_save 13 = .ok (.putfield 51, 3) := by decide +kernel
theorem dX2_save_16 : decode cX2_save 16 = .ok (.aload_n 0, 1) := by decide +kernel
theorem dX2_save_17 : decode cX2_save 17 = .ok (.getfield 12, 3) := by decide +kernel
theorem dX2_save_20 : decode cX2_save 20 = .ok (.invokevirtual 61, 3) := by decide +kernel
theorem dX2_save_23 : decode cX2_save 23 = .ok (.ireturn, 1) := by decide +kernel
theorem dX2_restore_0 : decode cX2_restore 0 = .ok (.aload_n 0, 1) := by decide +kernel
theorem dX2_restore_1 : decode cX2_restore 1 = .ok (.getfield 51, 3) := by decide +kernel
theorem dX2_restore_4 : decode cX2_restore 4 = .ok (.ifCond .ne 14, 3) := by decide +kernel
theorem dX2_restore_7 : decode cX2_restore 7 = .ok (.new 78, 3) := by decide +kernel
theorem dX2_restore_10 : decode cX2_restore 10 = .ok (.dup, 1) := by decide +kernel
theorem dX2_restore_11 : decode cX2_restore 11 = .ok (.ldc_w 313, 3) := by decide +kernel
theorem dX2_restore_14 : decode cX2_restore 14 = .ok (.invokespecial 82, 3) := by decide +kernel
theorem dX2_restore_17 : decode cX2_restore 17 = .ok (.athrow, 1) := by decide +kernel
theorem dX2_restore_18 : decode cX2_restore 18 = .ok (.aload_n 0, 1) := by decide +kernel
theorem dX2_restore_19 : decode cX2_restore 19 = .ok (.getfield 12, 3) := by decide +kernel
theorem dX2_restore_22 : decode cX2_restore 22 = .ok (.aload_n 0, 1) := by decide +kernel
theorem dX2_restore_23 : decode cX2_restore 23 = .ok (.getfield 16, 3) := by decide +kernel
theorem dX2_restore_26 : decode cX2_restore 26 = .ok (.invokevirtual 309, 3) := by decide +kernel
theorem dX2_restore_29 : decode cX2_restore 29 = .ok (.aload_n 0, 1) := by decide +kernel
theorem dX2_restore_30 : decode cX2_restore 30 = .ok (.invokevirtual 68, 3) := by decide +kernel
theorem dX2_restore_33 : decode cX2_restore 33 = .ok (.aload_n 0, 1) := by decide +kernel
theorem dX2_restore_34 : decode cX2_restore 34 = .ok (.getfield 12, 3) := by decide +kernel
theorem dX2_restore_37 : decode cX2_restore 37 = .ok (.invokevirtual 61, 3) := by decide +kernel
theorem dX2_restore_40 : decode cX2_restore 40 = .ok (.ireturn, 1) := by decide +kernel
theorem dX2_remember_0 : decode cX2_remember 0 = .ok (.aload_n 0, 1) := by decide +kernel
theorem dX2_remember_1 : decode cX2_remember 1 = .ok (.getfield 58, 3) := by decide +kernel
theorem dX2_remember_4 : decode cX2_remember 4 = .ok (.bipush 6, 2) := by decide +kernel
theorem dX2_remember_6 : decode cX2_remember 6 = .ok (.if_icmp .lt 21, 3) := by decide +kernel
theorem dX2_remember_9 : decode cX2_remember 9 = .ok (.aload_n 0, 1) := by decide +kernel
theorem dX2_remember_10 : decode cX2_remember 10 = .ok (.aload_n 0, 1) := by decide +kernel
theorem dX2_remember_11 : decode cX2_remember 11 = .ok (.getfield 55, 3) := by decide +kernel
theorem dX2_remember_14 : decode cX2_remember 14 = .ok (.iconst 1, 1) := by decide +kernel
theorem dX2_remember_15 : decode cX2_remember 15 = .ok (.iadd, 1) := by decide +kernel
theorem dX2_remember_16 : decode cX2_remember 16 = .ok (.bipush 6, 2) := by decide +kernel
theorem dX2_remember_18 : decode cX2_remember 18 = .ok (.irem, 1) := by decide +kernel
theorem dX2_remember_19 : decode cX2_remember 19 = .ok (.putfield 55, 3) := by decide +kernel
theorem dX2_remember_22 : decode cX2_remember 22 = .ok (.aload_n 0, 1) := by decide +kernel
theorem dX2_remember_23 : decode cX2_remember 23 = .ok (.iconst 5, 1) := by decide +kernel
theorem dX2_remember_24 : decode cX2_remember 24 = .ok (.putfield 58, 3) := by decide +kernel
theorem dX2_remember_27 : decode cX2_remember 27 = .ok (.aload_n 0, 1) := by decide +kernel
theorem dX2_remember_28 : decode cX2_remember 28 = .ok (.getfield 19, 3) := by decide +kernel
theorem dX2_remember_31 : decode cX2_remember 31 = .ok (.aload_n 0, 1) := by decide +kernel
theorem dX2_remember_32 : decode cX2_remember 32 = .ok (.getfield 55, 3) := by decide +kernel
theorem dX2_remember_35 : decode cX2_remember 35 = .ok (.aload_n 0, 1) := by decide +kernel
theorem dX2_remember_36 : decode cX2_remember 36 = .ok (.getfield 58, 3) := by decide +kernel
theorem dX2_remember_39 : decode cX2_remember 39 = .ok (.iadd, 1) := by decide +kernel
theorem dX2_remember_40 : decode cX2_remember 40 = .ok (.bipush 6, 2) := by decide +kernel
theorem dX2_remember_42 : decode cX2_remember 42 = .ok (.irem, 1) := by decide +kernel
theorem dX2_remember_43 : decode cX2_remember 43 = .ok (.aaload, 1) := by decide +kernel
theorem dX2_remember_44 : decode cX2_remember 44 = .ok (.aload_n 0, 1) := by decide +kernel
theorem dX2_remember_45 : decode cX2_remember 45 = .ok (.getfield 12, 3) := by decide +kernel
theorem dX2_remember_48 : decode cX2_remember 48 = .ok (.invokevirtual 309, 3) := by decide +kernel
theorem dX2_remember_51 : decode cX2_remember 51 = .ok (.aload_n 0, 1) := by decide +kernel
theorem dX2_remember_52 : decode cX2_remember 52 = .ok (.dup, 1) := by decide +kernel
theorem dX2_remember_53 : decode cX2_remember 53 = .ok (.getfield 58, 3) := by decide +kernel
theorem dX2_remember_56 : decode cX2_remember 56 = .ok (.iconst 1, 1) := by decide +kernel
theorem dX2_remember_57 : decode cX2_remember 57 = .ok (.iadd, 1) := by decide +kernel
theorem dX2_remember_58 : decode cX2_remember 58 = .ok (.putfield 58, 3) := by decide +kernel
theorem dX2_remember_61 : decode cX2_remember 61 = .ok (.return_, 1) := by decide +kernel
theorem dX2_forgetChanges_0 : decode cX2_forgetChanges 0 = .ok (.aload_n 0, 1) := by decide +kernel
theorem dX2_forgetChanges_1 : decode cX2_forgetChanges 1 = .ok (.iconst 0, 1) := by decide +kernel
theorem dX2_forgetChanges_2 : decode cX2_forgetChanges 2 = .ok (.putfield 55, 3) := by decide +kernel
theorem dX2_forgetChanges_5 : decode cX2_forgetChanges 5 = .ok (.aload_n 0, 1) := by decide +kernel
theorem dX2_forgetChanges_6 : decode cX2_forgetChanges 6 = .ok (.iconst 0, 1) := by decide +kernel
theorem dX2_forgetChanges_7 : decode cX2_forgetChanges 7 = .ok (.putfield 58, 3) := by decide +kernel
theorem dX2_forgetChanges_10 : decode cX2_forgetChanges 10 = .ok (.return_, 1) := by decide +kernel
theorem dX2_textError_0 : decode cX2_textError 0 = .ok (.iconst 0, 1) := by decide +kernel
theorem dX2_textError_1 : decode cX2_textError 1 = .ok (.istore_n 2, 1) := by decide +kernel
theorem dX2_textError_2 : decode cX2_textError 2 = .ok (.iload_n 2, 1) := by decide +kernel
theorem dX2_textError_3 : decode cX2_textError 3 = .ok (.iload_n 1, 1) := by decide +kernel
theorem dX2_textError_4 : decode cX2_textError 4 = .ok (.if_icmp .ge 27, 3) := by decide +kernel
theorem dX2_textError_7 : decode cX2_textError 7 = .ok (.iload_n 2, 1) := by decide +kernel
theorem dX2_textError_8 : decode cX2_textError 8 = .ok (.aload_n 0, 1) := by decide +kernel
theorem dX2_textError_9 : decode cX2_textError 9 = .ok (.arraylength, 1) := by decide +kernel
theorem dX2_textError_10 : decode cX2_textError 10 = .ok (.if_icmp .ge 21, 3) := by decide +kernel
theorem dX2_textError_13 : decode cX2_textError 13 = .ok (.iload_n 2, 1) := by decide +kernel
theorem dX2_textError_14 : decode cX2_textError 14 = .ok (.aload_n 0, 1) := by decide +kernel
theorem dX2_textError_15 : decode cX2_textError 15 = .ok (.iload_n 2, 1) := by decide +kernel
theorem dX2_textError_16 : decode cX2_textError 16 = .ok (.caload, 1) := by decide +kernel
theorem dX2_textError_17 : decode cX2_textError 17 = .ok (.invokestatic 315, 3) := by decide +kernel
theorem dX2_textError_20 : decode cX2_textError 20 = .ok (.ifCond .ne 5, 3) := by decide +kernel
theorem dX2_textError_23 : decode cX2_textError 23 = .ok (.iload_n 2, 1) := by decide +kernel
theorem dX2_textError_24 : decode cX2_textError 24 = .ok (.ireturn, 1) := by decide +kernel
theorem dX2_textError_25 : decode cX2_textError 25 = .ok (.iinc 2 1, 3) := by decide +kernel
theorem dX2_textError_28 : decode cX2_textError 28 = .ok (.goto (-26), 3) := by decide +kernel
theorem dX2_textError_31 : decode cX2_textError 31 = .ok (.iload_n 1, 1) := by decide +kernel
theorem dX2_textError_32 : decode cX2_textError 32 = .ok (.iconst 4, 1) := by decide +kernel
theorem dX2_textError_33 : decode cX2_textError 33 = .ok (.if_icmp .gt 7, 3) := by decide +kernel
theorem dX2_textError_36 : decode cX2_textError 36 = .ok (.iload_n 1, 1) := by decide +kernel
theorem dX2_textError_37 : decode cX2_textError 37 = .ok (.goto 4, 3) := by decide +kernel
theorem dX2_textError_40 : decode cX2_textError 40 = .ok (.iconst (-1), 1) := by decide +kernel
theorem dX2_textError_41 : decode cX2_textError 41 = .ok (.ireturn, 1) := by decide +kernel
theorem dX2_fitsText_0 : decode cX2_fitsText 0 = .ok (.iload_n 0, 1) := by decide +kernel
theorem dX2_fitsText_1 : decode cX2_fitsText 1 = .ok (.tableswitch 91 0 3 #[31, 49, 61, 79], 31) := by decide +kernel
theorem dX2_fitsText_32 : decode cX2_fitsText 32 = .ok (.iload_n 1, 1) := by decide +kernel
theorem dX2_fitsText_33 : decode cX2_fitsText 33 = .ok (.bipush 49, 2) := by decide +kernel
theorem dX2_fitsText_35 : decode cX2_fitsText 35 = .ok (.if_icmp .lt 13, 3) := by decide +kernel
theorem dX2_fitsText_38 : decode cX2_fitsText 38 = .ok (.iload_n 1, 1) := by decide +kernel
theorem dX2_fitsText_39 : decode cX2_fitsText 39 = .ok (.bipush 54, 2) := by decide +kernel
theorem dX2_fitsText_41 : decode cX2_fitsText 41 = .ok (.if_icmp .gt 7, 3) := by decide +kernel
theorem dX2_fitsText_44 : decode cX2_fitsText 44 = .ok (.iconst 1, 1) := by decide +kernel
theorem dX2_fitsText_45 : decode cX2_fitsText 45 = .ok (.goto 4, 3) := by decide +kernel
theorem dX2_fitsText_48 : decode cX2_fitsText 48 = .ok (.iconst 0, 1) := by decide +kernel
theorem dX2_fitsText_49 : decode cX2_fitsText 49 = .ok (.ireturn, 1) := by decide +kernel
theorem dX2_fitsText_50 : decode cX2_fitsText 50 = .ok (.iload_n 1, 1) := by decide +kernel
theorem dX2_fitsText_51 : decode cX2_fitsText 51 = .ok (.bipush 42, 2) := by decide +kernel
theorem dX2_fitsText_53 : decode cX2_fitsText 53 = .ok (.if_icmp .ne 7, 3) := by decide +kernel
theorem dX2_fitsText_56 : decode cX2_fitsText 56 = .ok (.iconst 1, 1) := by decide +kernel
theorem dX2_fitsText_57 : decode cX2_fitsText 57 = .ok (.goto 4, 3) := by decide +kernel
theorem dX2_fitsText_60 : decode cX2_fitsText 60 = .ok (.iconst 0, 1) := by decide +kernel
theorem dX2_fitsText_61 : decode cX2_fitsText 61 = .ok (.ireturn, 1) := by decide +kernel
theorem dX2_fitsText_62 : decode cX2_fitsText 62 = .ok (.iload_n 1, 1) := by decide +kernel
theorem dX2_fitsText_63 : decode cX2_fitsText 63 = .ok (.bipush 49, 2) := by decide +kernel
theorem dX2_fitsText_65 : decode cX2_fitsText 65 = .ok (.if_icmp .lt 13, 3) := by decide +kernel
theorem dX2_fitsText_68 : decode cX2_fitsText 68 = .ok (.iload_n 1, 1) := by decide +kernel
theorem dX2_fitsText_69 : decode cX2_fitsText 69 = .ok (.bipush 52, 2) := by decide +kernel
theorem dX2_fitsText_71 : decode cX2_fitsText 71 = .ok (.if_icmp .gt 7, 3) := by decide +kernel
theorem dX2_fitsText_74 : decode cX2_fitsText 74 = .ok (.iconst 1, 1) := by decide +kernel
theorem dX2_fitsText_75 : decode cX2_fitsText 75 = .ok (.goto 4, 3) := by decide +kernel
theorem dX2_fitsText_78 : decode cX2_fitsText 78 = .ok (.iconst 0, 1) := by decide +kernel
theorem dX2_fitsText_79 : decode cX2_fitsText 79 = .ok (.ireturn, 1) := by decide +kernel
theorem dX2_fitsText_80 : decode cX2_fitsText 80 = .ok (.iload_n 1, 1) := by decide +kernel
theorem dX2_fitsText_81 : decode cX2_fitsText 81 = .ok (.bipush 58, 2) := by decide +kernel
theorem dX2_fitsText_83 : decode cX2_fitsText 83 = .ok (.if_icmp .ne 7, 3) := by decide +kernel
theorem dX2_fitsText_86 : decode cX2_fitsText 86 = .ok (.iconst 1, 1) := by decide +kernel
theorem dX2_fitsText_87 : decode cX2_fitsText 87 = .ok (.goto 4, 3) := by decide +kernel
theorem dX2_fitsText_90 : decode cX2_fitsText 90 = .ok (.iconst 0, 1) := by decide +kernel
theorem dX2_fitsText_91 : decode cX2_fitsText 91 = .ok (.ireturn, 1) := by decide +kernel
theorem dX2_fitsText_92 : decode cX2_fitsText 92 = .ok (.iload_n 0, 1) := by decide +kernel
theorem dX2_fitsText_93 : decode cX2_fitsText 93 = .ok (.bipush 36, 2) := by decide +kernel
theorem dX2_fitsText_95 : decode cX2_fitsText 95 = .ok (.if_icmp .ge 14, 3) := by decide +kernel
theorem dX2_fitsText_98 : decode cX2_fitsText 98 = .ok (.iload_n 1, 1) := by decide +kernel
theorem dX2_fitsText_99 : decode cX2_fitsText 99 = .ok (.invokestatic 319, 3) := by decide +kernel
theorem dX2_fitsText_102 : decode cX2_fitsText 102 = .ok (.ifCond .lt 7, 3) := by decide +kernel
theorem dX2_fitsText_105 : decode cX2_fitsText 105 = .ok (.iconst 1, 1) := by decide +kernel
theorem dX2_fitsText_106 : decode cX2_fitsText 106 = .ok (.goto 4, 3) := by decide +kernel
theorem dX2_fitsText_109 : decode cX2_fitsText 109 = .ok (.iconst 0, 1) := by decide +kernel
theorem dX2_fitsText_110 : decode cX2_fitsText 110 = .ok (.ireturn, 1) := by decide +kernel
theorem dX2_symbolOf_0 : decode cX2_symbolOf 0 = .ok (.iload_n 0, 1) := by decide +kernel
theorem dX2_symbolOf_1 : decode cX2_symbolOf 1 = .ok (.bipush 48, 2) := by decide +kernel
theorem dX2_symbolOf_3 : decode cX2_symbolOf 3 = .ok (.if_icmp .lt 14, 3) := by decide +kernel
theorem dX2_symbolOf_6 : decode cX2_symbolOf 6 = .ok (.iload_n 0, 1) := by decide +kernel
theorem dX2_symbolOf_7 : decode cX2_symbolOf 7 = .ok (.bipush 57, 2) := by decide +kernel
theorem dX2_symbolOf_9 : decode cX2_symbolOf 9 = .ok (.if_icmp .gt 8, 3) := by decide +kernel
theorem dX2_symbolOf_12 : decode cX2_symbolOf 12 = .ok (.iload_n 0, 1) := by decide +kernel
theorem dX2_symbolOf_13 : decode cX2_symbolOf 13 = .ok (.bipush 48, 2) := by decide +kernel
theorem dX2_symbolOf_15 : decode cX2_symbolOf 15 = .ok (.isub, 1) := by decide +kernel
theorem dX2_symbolOf_16 : decode cX2_symbolOf 16 = .ok (.ireturn, 1) := by decide +kernel
theorem dX2_symbolOf_17 : decode cX2_symbolOf 17 = .ok (.iload_n 0, 1) := by decide +kernel
theorem dX2_symbolOf_18 : decode cX2_symbolOf 18 = .ok (.bipush 97, 2) := by decide +kernel
theorem dX2_symbolOf_20 : decode cX2_symbolOf 20 = .ok (.if_icmp .lt 17, 3) := by decide +kernel
theorem dX2_symbolOf_23 : decode cX2_symbolOf 23 = .ok (.iload_n 0, 1) := by decide +kernel
theorem dX2_symbolOf_24 : decode cX2_symbolOf 24 = .ok (.bipush 102, 2) := by decide +kernel
theorem dX2_symbolOf_26 : decode cX2_symbolOf 26 = .ok (.if_icmp .gt 11, 3) := by decide +kernel
theorem dX2_symbolOf_29 : decode cX2_symbolOf 29 = .ok (.iload_n 0, 1) := by decide +kernel
theorem dX2_symbolOf_30 : decode cX2_symbolOf 30 = .ok (.bipush 97, 2) := by decide +kernel
theorem dX2_symbolOf_32 : decode cX2_symbolOf 32 = .ok (.isub, 1) := by decide +kernel
theorem dX2_symbolOf_33 : decode cX2_symbolOf 33 = .ok (.bipush 10, 2) := by decide +kernel
theorem dX2_symbolOf_35 : decode cX2_symbolOf 35 = .ok (.iadd, 1) := by decide +kernel
theorem dX2_symbolOf_36 : decode cX2_symbolOf 36 = .ok (.ireturn, 1) := by decide +kernel
theorem dX2_symbolOf_37 : decode cX2_symbolOf 37 = .ok (.iconst (-1), 1) := by decide +kernel
theorem dX2_symbolOf_38 : decode cX2_symbolOf 38 = .ok (.ireturn, 1) := by decide +kernel
theorem dX2_headCharacter_0 : decode cX2_headCharacter 0 = .ok (.iload_n 2, 1) := by decide +kernel
theorem dX2_headCharacter_1 : decode cX2_headCharacter 1 = .ok (.tableswitch 56 0 2 #[27, 40, 43], 27) := by decide +kernel
theorem dX2_headCharacter_28 : decode cX2_headCharacter 28 = .ok (.bipush 48, 2) := by decide +kernel
theorem dX2_headCharacter_30 : decode cX2_headCharacter 30 = .ok (.aload_n 0, 1) := by decide +kernel
theorem dX2_headCharacter_31 : decode cX2_headCharacter 31 = .ok (.getfield 12, 3) := by decide +kernel
theorem dX2_headCharacter_34 : decode cX2_headCharacter 34 = .ok (.getfield 132, 3) := by decide +kernel
theorem dX2_headCharacter_37 : decode cX2_headCharacter 37 = .ok (.iload_n 1, 1) := by decide +kernel
theorem dX2_headCharacter_38 : decode cX2_headCharacter 38 = .ok (.iaload, 1) := by decide +kernel
theorem dX2_headCharacter_39 : decode cX2_headCharacter 39 = .ok (.iadd, 1) := by decide +kernel
theorem dX2_headCharacter_40 : decode cX2_headCharacter 40 = .ok (.ireturn, 1) := by decide +kernel
theorem dX2_headCharacter_41 : decode cX2_headCharacter 41 = .ok (.bipush 42, 2) := by decide +kernel
theorem dX2_headCharacter_43 : decode cX2_headCharacter 43 = .ok (.ireturn, 1) := by decide +kernel
theorem dX2_headCharacter_44 : decode cX2_headCharacter 44 = .ok (.bipush 48, 2) := by decide +kernel
theorem dX2_headCharacter_46 : decode cX2_headCharacter 46 = .ok (.aload_n 0, 1) := by decide +kernel
theorem dX2_headCharacter_47 : decode cX2_headCharacter 47 = .ok (.getfield 12, 3) := by decide +kernel
theorem dX2_headCharacter_50 : decode cX2_headCharacter 50 = .ok (.getfield 135, 3) := by decide +kernel
theorem dX2_headCharacter_53 : decode cX2_headCharacter 53 = .ok (.iload_n 1, 1) := by decide +kernel
theorem dX2_headCharacter_54 : decode cX2_headCharacter 54 = .ok (.iaload, 1) := by decide +kernel
theorem dX2_headCharacter_55 : decode cX2_headCharacter 55 = .ok (.iadd, 1) := by decide +kernel
theorem dX2_headCharacter_56 : decode cX2_headCharacter 56 = .ok (.ireturn, 1) := by decide +kernel
theorem dX2_headCharacter_57 : decode cX2_headCharacter 57 = .ok (.bipush 58, 2) := by decide +kernel
theorem dX2_headCharacter_59 : decode cX2_headCharacter 59 = .ok (.ireturn, 1) := by decide +kernel
theorem dX2_dataCharacter_0 : decode cX2_dataCharacter 0 = .ok (.aload_n 0, 1) := by decide +kernel
theorem dX2_dataCharacter_1 : decode cX2_dataCharacter 1 = .ok (.getfield 26, 3) := by decide +kernel
theorem dX2_dataCharacter_4 : decode cX2_dataCharacter 4 = .ok (.aload_n 0, 1) := by decide +kernel
theorem dX2_dataCharacter_5 : decode cX2_dataCharacter 5 = .ok (.getfield 12, 3) := by decide +kernel
theorem dX2_dataCharacter_8 : decode cX2_dataCharacter 8 = .ok (.iload_n 1, 1) := by decide +kernel
theorem dX2_dataCharacter_9 : decode cX2_dataCharacter 9 = .ok (.iload_n 2, 1) := by decide +kernel
theorem dX2_dataCharacter_10 : decode cX2_dataCharacter 10 = .ok (.bipush 8, 2) := by decide +kernel
theorem dX2_dataCharacter_12 : decode cX2_dataCharacter 12 = .ok (.idiv, 1) := by decide +kernel
theorem dX2_dataCharacter_13 : decode cX2_dataCharacter 13 = .ok (.invokevirtual 219, 3) := by decide +kernel
theorem dX2_dataCharacter_16 : decode cX2_dataCharacter 16 = .ok (.pop, 1) := by decide +kernel
theorem dX2_dataCharacter_17 : decode cX2_dataCharacter 17 = .ok (.aload_n 0, 1) := by decide +kernel
theorem dX2_dataCharacter_18 : decode cX2_dataCharacter 18 = .ok (.getfield 26, 3) := by decide +kernel
theorem dX2_dataCharacter_21 : decode cX2_dataCharacter 21 = .ok (.getfield 236, 3) := by decide +kernel
theorem dX2_dataCharacter_24 : decode cX2_dataCharacter 24 = .ok (.aload_n 0, 1) := by decide +kernel
theorem dX2_dataCharacter_25 : decode cX2_dataCharacter 25 = .ok (.getfield 12, 3) := by decide +kernel
theorem dX2_dataCharacter_28 : decode cX2_dataCharacter 28 = .ok (.getfield 132, 3) := by decide +kernel
theorem dX2_dataCharacter_31 : decode cX2_dataCharacter 31 = .ok (.iload_n 1, 1) := by decide +kernel
theorem dX2_dataCharacter_32 : decode cX2_dataCharacter 32 = .ok (.iaload, 1) := by decide +kernel
theorem dX2_dataCharacter_33 : decode cX2_dataCharacter 33 = .ok (.iload_n 2, 1) := by decide +kernel
theorem dX2_dataCharacter_34 : decode cX2_dataCharacter 34 = .ok (.bipush 8, 2) := by decide +kernel
theorem dX2_dataCharacter_36 : decode cX2_dataCharacter 36 = .ok (.irem, 1) := by decide +kernel
theorem dX2_dataCharacter_37 : decode cX2_dataCharacter 37 = .ok (.iadd, 1) := by decide +kernel
theorem dX2_dataCharacter_38 : decode cX2_dataCharacter 38 = .ok (.iaload, 1) := by decide +kernel
theorem dX2_dataCharacter_39 : decode cX2_dataCharacter 39 = .ok (.istore_n 3, 1) := by decide +kernel
theorem dX2_dataCharacter_40 : decode cX2_dataCharacter 40 = .ok (.iload_n 3, 1) := by decide +kernel
theorem dX2_dataCharacter_41 : decode cX2_dataCharacter 41 = .ok (.bipush 10, 2) := by decide +kernel
theorem dX2_dataCharacter_43 : decode cX2_dataCharacter 43 = .ok (.if_icmp .ge 10, 3) := by decide +kernel
theorem dX2_dataCharacter_46 : decode cX2_dataCharacter 46 = .ok (.bipush 48, 2) := by decide +kernel
theorem dX2_dataCharacter_48 : decode cX2_dataCharacter 48 = .ok (.iload_n 3, 1) := by decide +kernel
theorem dX2_dataCharacter_49 : decode cX2_dataCharacter 49 = .ok (.iadd, 1) := by decide +kernel
theorem dX2_dataCharacter_50 : decode cX2_dataCharacter 50 = .ok (.goto 10, 3) := by decide +kernel
theorem dX2_dataCharacter_53 : decode cX2_dataCharacter 53 = .ok (.bipush 97, 2) := by decide +kernel
theorem dX2_dataCharacter_55 : decode cX2_dataCharacter 55 = .ok (.iload_n 3, 1) := by decide +kernel
theorem dX2_dataCharacter_56 : decode cX2_dataCharacter 56 = .ok (.iadd, 1) := by decide +kernel
theorem dX2_dataCharacter_57 : decode cX2_dataCharacter 57 = .ok (.bipush 10, 2) := by decide +kernel
theorem dX2_dataCharacter_59 : decode cX2_dataCharacter 59 = .ok (.isub, 1) := by decide +kernel
theorem dX2_dataCharacter_60 : decode cX2_dataCharacter 60 = .ok (.ireturn, 1) := by decide +kernel
theorem dX2_writeFile_0 : decode cX2_writeFile 0 = .ok (.iconst 1, 1) := by decide +kernel
theorem dX2_writeFile_1 : decode cX2_writeFile 1 = .ok (.istore_n 2, 1) := by decide +kernel
theorem dX2_writeFile_2 : decode cX2_writeFile 2 = .ok (.aload_n 0, 1) := by decide +kernel
theorem dX2_writeFile_3 : decode cX2_writeFile 3 = .ok (.getfield 12, 3) := by decide +kernel
theorem dX2_writeFile_6 : decode cX2_writeFile 6 = .ok (.iload_n 1, 1) := by decide +kernel
theorem dX2_writeFile_7 : decode cX2_writeFile 7 = .ok (.invokevirtual 323, 3) := by decide +kernel
theorem dX2_writeFile_10 : decode cX2_writeFile 10 = .ok (.istore_n 3, 1) := by decide +kernel
theorem dX2_writeFile_11 : decode cX2_writeFile 11 = .ok (.iconst 0, 1) := by decide +kernel
theorem dX2_writeFile_12 : decode cX2_writeFile 12 = .ok (.istore 4, 2) := by decide +kernel
theorem dX2_writeFile_14 : decode cX2_writeFile 14 = .ok (.iload 4, 2) := by decide +kernel
theorem dX2_writeFile_16 : decode cX2_writeFile 16 = .ok (.aload_n 0, 1) := by decide +kernel
theorem dX2_writeFile_17 : decode cX2_writeFile 17 = .ok (.getfield 12, 3) := by decide +kernel
theorem dX2_writeFile_20 : decode cX2_writeFile 20 = .ok (.getfield 141, 3) := by decide +kernel
theorem dX2_writeFile_23 : decode cX2_writeFile 23 = .ok (.iload_n 1, 1) := by decide +kernel
theorem dX2_writeFile_24 : decode cX2_writeFile 24 = .ok (.iaload, 1) := by decide +kernel
theorem dX2_writeFile_25 : decode cX2_writeFile 25 = .ok (.if_icmp .ge 116, 3) := by decide +kernel
theorem dX2_writeFile_28 : decode cX2_writeFile 28 = .ok (.aload_n 0, 1) := by decide +kernel
theorem dX2_writeFile_29 : decode cX2_writeFile 29 = .ok (.getfield 26, 3) := by decide +kernel
theorem dX2_writeFile_32 : decode cX2_writeFile 32 = .ok (.aload_n 0, 1) := by decide +kernel
theorem dX2_writeFile_33 : decode cX2_writeFile 33 = .ok (.getfield 12, 3) := by decide +kernel
theorem dX2_writeFile_36 : decode cX2_writeFile 36 = .ok (.getfield 132, 3) := by decide +kernel
theorem dX2_writeFile_39 : decode cX2_writeFile 39 = .ok (.iload_n 1, 1) := by decide +kernel
theorem dX2_writeFile_40 : decode cX2_writeFile 40 = .ok (.iaload, 1) := by decide +kernel
theorem dX2_writeFile_41 : decode cX2_writeFile 41 = .ok (.invokevirtual 326, 3) := by decide +kernel
theorem dX2_writeFile_44 : decode cX2_writeFile 44 = .ok (.iconst 0, 1) := by decide +kernel
theorem dX2_writeFile_45 : decode cX2_writeFile 45 = .ok (.istore 5, 2) := by decide +kernel
theorem dX2_writeFile_47 : decode cX2_writeFile 47 = .ok (.iload 5, 2) := by decide +kernel
theorem dX2_writeFile_49 : decode cX2_writeFile 49 = .ok (.aload_n 0, 1) := by decide +kernel
theorem dX2_writeFile_50 : decode cX2_writeFile 50 = .ok (.iload_n 1, 1) := by decide +kernel
theorem dX2_writeFile_51 : decode cX2_writeFile 51 = .ok (.iload 4, 2) := by decide +kernel
theorem dX2_writeFile_53 : decode cX2_writeFile 53 = .ok (.invokevirtual 329, 3) := by decide +kernel
theorem dX2_writeFile_56 : decode cX2_writeFile 56 = .ok (.if_icmp .ge 51, 3) := by decide +kernel
theorem dX2_writeFile_59 : decode cX2_writeFile 59 = .ok (.aload_n 0, 1) := by decide +kernel
theorem dX2_writeFile_60 : decode cX2_writeFile 60 = .ok (.getfield 26, 3) := by decide +kernel
theorem dX2_writeFile_63 : decode cX2_writeFile 63 = .ok (.getfield 332, 3) := by decide +kernel
theorem dX2_writeFile_66 : decode cX2_writeFile 66 = .ok (.aload_n 0, 1) := by decide +kernel
theorem dX2_writeFile_67 : decode cX2_writeFile 67 = .ok (.getfield 12, 3) := by decide +kernel
theorem dX2_writeFile_70 : decode cX2_writeFile 70 = .ok (.getfield 132, 3) := by decide +kernel
theorem dX2_writeFile_73 : decode cX2_writeFile 73 = .ok (.iload_n 1, 1) := by decide +kernel
theorem dX2_writeFile_74 : decode cX2_writeFile 74 = .ok (.iaload, 1) := by decide +kernel
theorem dX2_writeFile_75 : decode cX2_writeFile 75 = .ok (.iload 5, 2) := by decide +kernel
theorem dX2_writeFile_77 : decode cX2_writeFile 77 = .ok (.iadd, 1) := by decide +kernel
theorem dX2_writeFile_78 : decode cX2_writeFile 78 = .ok (.iconst 0, 1) := by decide +kernel
theorem dX2_writeFile_79 : decode cX2_writeFile 79 = .ok (.aload_n 0, 1) := by decide +kernel
theorem dX2_writeFile_80 : decode cX2_writeFile 80 = .ok (.getfield 30, 3) := by decide +kernel
theorem dX2_writeFile_83 : decode cX2_writeFile 83 = .ok (.iconst 4, 1) := by decide +kernel
theorem dX2_writeFile_84 : decode cX2_writeFile 84 = .ok (.iload 4, 2) := by decide +kernel
theorem dX2_writeFile_86 : decode cX2_writeFile 86 = .ok (.bipush 8, 2) := by decide +kernel
theorem dX2_writeFile_88 : decode cX2_writeFile 88 = .ok (.imul, 1) := by decide +kernel
theorem dX2_writeFile_89 : decode cX2_writeFile 89 = .ok (.iadd, 1) := by decide +kernel
theorem dX2_writeFile_90 : decode cX2_writeFile 90 = .ok (.iload 5, 2) := by decide +kernel
theorem dX2_writeFile_92 : decode cX2_writeFile 92 = .ok (.iadd, 1) := by decide +kernel
theorem dX2_writeFile_93 : decode cX2_writeFile 93 = .ok (.caload, 1) := by decide +kernel
theorem dX2_writeFile_94 : decode cX2_writeFile 94 = .ok (.invokestatic 319, 3) := by decide +kernel
theorem dX2_writeFile_97 : decode cX2_writeFile 97 = .ok (.invokestatic 335, 3) := by decide +kernel
theorem dX2_writeFile_100 : decode cX2_writeFile 100 = .ok (.iastore, 1) := by decide +kernel
theorem dX2_writeFile_101 : decode cX2_writeFile 101 = .ok (.iinc 5 1, 3) := by decide +kernel
theorem dX2_writeFile_104 : decode cX2_writeFile 104 = .ok (.goto (-57), 3) := by decide +kernel
theorem dX2_writeFile_107 : decode cX2_writeFile 107 = .ok (.aload_n 0, 1) := by decide +kernel
theorem dX2_writeFile_108 : decode cX2_writeFile 108 = .ok (.getfield 26, 3) := by decide +kernel
theorem dX2_writeFile_111 : decode cX2_writeFile 111 = .ok (.invokevirtual 340, 3) := by decide +kernel
theorem dX2_writeFile_114 : decode cX2_writeFile 114 = .ok (.aload_n 0, 1) := by decide +kernel
theorem dX2_writeFile_115 : decode cX2_writeFile 115 = .ok (.iload_n 2, 1) := by decide +kernel
theorem dX2_writeFile_116 : decode cX2_writeFile 116 = .ok (.iload_n 1, 1) := by decide +kernel
theorem dX2_writeFile_117 : decode cX2_writeFile 117 = .ok (.iload 4, 2) := by decide +kernel
theorem dX2_writeFile_119 : decode cX2_writeFile 119 = .ok (.invokevirtual 244, 3) := by decide +kernel
theorem dX2_writeFile_122 : decode cX2_writeFile 122 = .ok (.istore_n 2, 1) := by decide +kernel
theorem dX2_writeFile_123 : decode cX2_writeFile 123 = .ok (.aload_n 0, 1) := by decide +kernel
theorem dX2_writeFile_124 : decode cX2_writeFile 124 = .ok (.iload_n 1, 1) := by decide +kernel
theorem dX2_writeFile_125 : decode cX2_writeFile 125 = .ok (.iload 4, 2) := by decide +kernel
theorem dX2_writeFile_127 : decode cX2_writeFile 127 = .ok (.iconst 1, 1) := by decide +kernel
theorem dX2_writeFile_128 : decode cX2_writeFile 128 = .ok (.iload_n 3, 1) := by decide +kernel
theorem dX2_writeFile_129 : decode cX2_writeFile 129 = .ok (.ishl, 1) := by decide +kernel
theorem dX2_writeFile_130 : decode cX2_writeFile 130 = .ok (.iconst 1, 1) := by decide +kernel
theorem dX2_writeFile_131 : decode cX2_writeFile 131 = .ok (.isub, 1) := by decide +kernel
theorem dX2_writeFile_132 : decode cX2_writeFile 132 = .ok (.invokevirtual 278, 3) := by decide +kernel
theorem dX2_writeFile_135 : decode cX2_writeFile 135 = .ok (.iinc 4 1, 3) := by decide +kernel
theorem dX2_writeFile_138 : decode cX2_writeFile 138 = .ok (.goto (-124), 3) := by decide +kernel
theorem dX2_writeFile_141 : decode cX2_writeFile 141 = .ok (.aload_n 0, 1) := by decide +kernel
theorem dX2_writeFile_142 : decode cX2_writeFile 142 = .ok (.getfield 12, 3) := by decide +kernel
theorem dX2_writeFile_145 : decode cX2_writeFile 145 = .ok (.getfield 138, 3) := by decide +kernel
theorem dX2_writeFile_148 : decode cX2_writeFile 148 = .ok (.iload_n 1, 1) := by decide +kernel
theorem dX2_writeFile_149 : decode cX2_writeFile 149 = .ok (.iload_n 2, 1) := by decide +kernel
theorem dX2_writeFile_150 : decode cX2_writeFile 150 = .ok (.iastore, 1) := by decide +kernel
theorem dX2_writeFile_151 : decode cX2_writeFile 151 = .ok (.return_, 1) := by decide +kernel
theorem dX2_writeFound_0 : decode cX2_writeFound 0 = .ok (.iconst 0, 1) := by decide +kernel
theorem dX2_writeFound_1 : decode cX2_writeFound 1 = .ok (.istore 4, 2) := by decide +kernel
theorem dX2_writeFound_3 : decode cX2_writeFound 3 = .ok (.iload 4, 2) := by decide +kernel
theorem dX2_writeFound_5 : decode cX2_writeFound 5 = .ok (.aload_n 0, 1) := by decide +kernel
theorem dX2_writeFound_6 : decode cX2_writeFound 6 = .ok (.getfield 12, 3) := by decide +kernel
theorem dX2_writeFound_9 : decode cX2_writeFound 9 = .ok (.iload_n 1, 1) := by decide +kernel
theorem dX2_writeFound_10 : decode cX2_writeFound 10 = .ok (.invokevirtual 323, 3) := by decide +kernel
theorem dX2_writeFound_13 : decode cX2_writeFound 13 = .ok (.if_icmp .ge 46, 3) := by decide +kernel
theorem dX2_writeFound_16 : decode cX2_writeFound 16 = .ok (.iload_n 3, 1) := by decide +kernel
theorem dX2_writeFound_17 : decode cX2_writeFound 17 = .ok (.iload 4, 2) := by decide +kernel
theorem dX2_writeFound_19 : decode cX2_writeFound 19 = .ok (.ishr, 1) := by decide +kernel
theorem dX2_writeFound_20 : decode cX2_writeFound 20 = .ok (.iconst 1, 1) := by decide +kernel
theorem dX2_writeFound_21 : decode cX2_writeFound 21 = .ok (.iand, 1) := by decide +kernel
theorem dX2_writeFound_22 : decode cX2_writeFound 22 = .ok (.ifCond .eq 31, 3) := by decide +kernel
theorem dX2_writeFound_25 : decode cX2_writeFound 25 = .ok (.aload_n 0, 1) := by decide +kernel
theorem dX2_writeFound_26 : decode cX2_writeFound 26 = .ok (.getfield 12, 3) := by decide +kernel
theorem dX2_writeFound_29 : decode cX2_writeFound 29 = .ok (.aload_n 0, 1) := by decide +kernel
theorem dX2_writeFound_30 : decode cX2_writeFound 30 = .ok (.getfield 12, 3) := by decide +kernel
theorem dX2_writeFound_33 : decode cX2_writeFound 33 = .ok (.iload_n 1, 1) := by decide +kernel
theorem dX2_writeFound_34 : decode cX2_writeFound 34 = .ok (.iload_n 2, 1) := by decide +kernel
theorem dX2_writeFound_35 : decode cX2_writeFound 35 = .ok (.iload 4, 2) := by decide +kernel
theorem dX2_writeFound_37 : decode cX2_writeFound 37 = .ok (.invokevirtual 158, 3) := by decide +kernel
theorem dX2_writeFound_40 : decode cX2_writeFound 40 = .ok (.aload_n 0, 1) := by decide +kernel
theorem dX2_writeFound_41 : decode cX2_writeFound 41 = .ok (.getfield 26, 3) := by decide +kernel
theorem dX2_writeFound_44 : decode cX2_writeFound 44 = .ok (.getfield 236, 3) := by decide +kernel
theorem dX2_writeFound_47 : decode cX2_writeFound 47 = .ok (.iload 4, 2) := by decide +kernel
theorem dX2_writeFound_49 : decode cX2_writeFound 49 = .ok (.iaload, 1) := by decide +kernel
theorem dX2_writeFound_50 : decode cX2_writeFound 50 = .ok (.invokevirtual 343, 3) := by decide +kernel
theorem dX2_writeFound_53 : decode cX2_writeFound 53 = .ok (.iinc 4 1, 3) := by decide +kernel
theorem dX2_writeFound_56 : decode cX2_writeFound 56 = .ok (.goto (-53), 3) := by decide +kernel
theorem dX2_writeFound_59 : decode cX2_writeFound 59 = .ok (.aload_n 0, 1) := by decide +kernel
theorem dX2_writeFound_60 : decode cX2_writeFound 60 = .ok (.getfield 12, 3) := by decide +kernel
theorem dX2_writeFound_63 : decode cX2_writeFound 63 = .ok (.getfield 268, 3) := by decide +kernel
theorem dX2_writeFound_66 : decode cX2_writeFound 66 = .ok (.bipush 7, 2) := by decide +kernel
theorem dX2_writeFound_68 : decode cX2_writeFound 68 = .ok (.dup2, 1) := by decide +kernel
theorem dX2_writeFound_69 : decode cX2_writeFound 69 = .ok (.iaload, 1) := by decide +kernel
theorem dX2_writeFound_70 : decode cX2_writeFound 70 = .ok (.iload_n 3, 1) := by decide +kernel
theorem dX2_writeFound_71 : decode cX2_writeFound 71 = .ok (.invokestatic 226, 3) := by decide +kernel
theorem dX2_writeFound_74 : decode cX2_writeFound 74 = .ok (.iadd, 1) := by decide +kernel
theorem dX2_writeFound_75 : decode cX2_writeFound 75 = .ok (.iastore, 1) := by decide +kernel
theorem dX2_writeFound_76 : decode cX2_writeFound 76 = .ok (.return_, 1) := by decide +kernel
theorem dX2_sealBehind_0 : decode cX2_sealBehind 0 = .ok (.iload_n 1, 1) := by decide +kernel
theorem dX2_sealBehind_1 : decode cX2_sealBehind 1 = .ok (.istore 4, 2) := by decide +kernel
theorem dX2_sealBehind_3 : decode cX2_sealBehind 3 = .ok (.iconst 0, 1) := by decide +kernel
theorem dX2_sealBehind_4 : decode cX2_sealBehind 4 = .ok (.istore 5, 2) := by decide +kernel
theorem dX2_sealBehind_6 : decode cX2_sealBehind 6 = .ok (.iload 5, 2) := by decide +kernel
theorem dX2_sealBehind_8 : decode cX2_sealBehind 8 = .ok (.aload_n 0, 1) := by decide +kernel
theorem dX2_sealBehind_9 : decode cX2_sealBehind 9 = .ok (.iload_n 2, 1) := by decide +kernel
theorem dX2_sealBehind_10 : decode cX2_sealBehind 10 = .ok (.iload_n 3, 1) := by decide +kernel
theorem dX2_sealBehind_11 : decode cX2_sealBehind 11 = .ok (.invokevirtual 329, 3) := by decide +kernel
theorem dX2_sealBehind_14 : decode cX2_sealBehind 14 = .ok (.if_icmp .ge 41, 3) := by decide +kernel
theorem dX2_sealBehind_17 : decode cX2_sealBehind 17 = .ok (.iload 4, 2) := by decide +kernel
theorem dX2_sealBehind_19 : decode cX2_sealBehind 19 = .ok (.bipush 17, 2) := by decide +kernel
theorem dX2_sealBehind_21 : decode cX2_sealBehind 21 = .ok (.imul, 1) := by decide +kernel
theorem dX2_sealBehind_22 : decode cX2_sealBehind 22 = .ok (.aload_n 0, 1) := by decide +kernel
theorem dX2_sealBehind_23 : decode cX2_sealBehind 23 = .ok (.getfield 26, 3) := by decide +kernel
theorem dX2_sealBehind_26 : decode cX2_sealBehind 26 = .ok (.getfield 236, 3) := by decide +kernel
theorem dX2_sealBehind_29 : decode cX2_sealBehind 29 = .ok (.aload_n 0, 1) := by decide +kernel
theorem dX2_sealBehind_30 : decode cX2_sealBehind 30 = .ok (.getfield 12, 3) := by decide +kernel
theorem dX2_sealBehind_33 : decode cX2_sealBehind 33 = .ok (.getfield 132, 3) := by decide +kernel
theorem dX2_sealBehind_36 : decode cX2_sealBehind 36 = .ok (.iload_n 2, 1) := by decide +kernel
theorem dX2_sealBehind_37 : decode cX2_sealBehind 37 = .ok (.iaload, 1) := by decide +kernel
theorem dX2_sealBehind_38 : decode cX2_sealBehind 38 = .ok (.iload 5, 2) := by decide +kernel
theorem dX2_sealBehind_40 : decode cX2_sealBehind 40 = .ok (.iadd, 1) := by decide +kernel
theorem dX2_sealBehind_41 : decode cX2_sealBehind 41 = .ok (.iaload, 1) := by decide +kernel
theorem dX2_sealBehind_42 : decode cX2_sealBehind 42 = .ok (.iadd, 1) := by decide +kernel
theorem dX2_sealBehind_43 : decode cX2_sealBehind 43 = .ok (.sipush 251, 3) := by decide +kernel
theorem dX2_sealBehind_46 : decode cX2_sealBehind 46 = .ok (.irem, 1) := by decide +kernel
theorem dX2_sealBehind_47 : decode cX2_sealBehind 47 = .ok (.istore 4, 2) := by decide +kernel
theorem dX2_sealBehind_49 : decode cX2_sealBehind 49 = .ok (.iinc 5 1, 3) := by decide +kernel
theorem dX2_sealBehind_52 : decode cX2_sealBehind 52 = .ok (.goto (-46), 3) := by decide +kernel
theorem dX2_sealBehind_55 : decode cX2_sealBehind 55 = .ok (.iload 4, 2) := by decide +kernel
theorem dX2_sealBehind_57 : decode cX2_sealBehind 57 = .ok (.ireturn, 1) := by decide +kernel
theorem dX2_dataIn_0 : decode cX2_dataIn 0 = .ok (.bipush 8, 2) := by decide +kernel
theorem dX2_dataIn_2 : decode cX2_dataIn 2 = .ok (.aload_n 0, 1) := by decide +kernel
theorem dX2_dataIn_3 : decode cX2_dataIn 3 = .ok (.getfield 12, 3) := by decide +kernel
theorem dX2_dataIn_6 : decode cX2_dataIn 6 = .ok (.getfield 129, 3) := by decide +kernel
theorem dX2_dataIn_9 : decode cX2_dataIn 9 = .ok (.iload_n 1, 1) := by decide +kernel
theorem dX2_dataIn_10 : decode cX2_dataIn 10 = .ok (.iaload, 1) := by decide +kernel
theorem dX2_dataIn_11 : decode cX2_dataIn 11 = .ok (.iload_n 2, 1) := by decide +kernel
theorem dX2_dataIn_12 : decode cX2_dataIn 12 = .ok (.bipush 8, 2) := by decide +kernel
theorem dX2_dataIn_14 : decode cX2_dataIn 14 = .ok (.imul, 1) := by decide +kernel
theorem dX2_dataIn_15 : decode cX2_dataIn 15 = .ok (.isub, 1) := by decide +kernel
theorem dX2_dataIn_16 : decode cX2_dataIn 16 = .ok (.invokestatic 346, 3) := by decide +kernel
theorem dX2_dataIn_19 : decode cX2_dataIn 19 = .ok (.ireturn, 1) := by decide +kernel
theorem dX2_lostBlocks_0 : decode cX2_lostBlocks 0 = .ok (.iconst 0, 1) := by decide +kernel
theorem dX2_lostBlocks_1 : decode cX2_lostBlocks 1 = .ok (.istore_n 2, 1) := by decide +kernel
theorem dX2_lostBlocks_2 : decode cX2_lostBlocks 2 = .ok (.iconst 0, 1) := by decide +kernel
theorem dX2_lostBlocks_3 : decode cX2_lostBlocks 3 = .ok (.istore_n 3, 1) := by decide +kernel
theorem dX2_lostBlocks_4 : decode cX2_lostBlocks 4 = .ok (.iload_n 3, 1) := by decide +kernel
theorem dX2_lostBlocks_5 : decode cX2_lostBlocks 5 = .ok (.aload_n 0, 1) := by decide +kernel
theorem dX2_lostBlocks_6 : decode cX2_lostBlocks 6 = .ok (.getfield 12, 3) := by decide +kernel
theorem dX2_lostBlocks_9 : decode cX2_lostBlocks 9 = .ok (.getfield 141, 3) := by decide +kernel
theorem dX2_lostBlocks_12 : decode cX2_lostBlocks 12 = .ok (.iload_n 1, 1) := by decide +kernel
theorem dX2_lostBlocks_13 : decode cX2_lostBlocks 13 = .ok (.iaload, 1) := by decide +kernel
theorem dX2_lostBlocks_14 : decode cX2_lostBlocks 14 = .ok (.if_icmp .ge 31, 3) := by decide +kernel
theorem dX2_lostBlocks_17 : decode cX2_lostBlocks 17 = .ok (.aload_n 0, 1) := by decide +kernel
theorem dX2_lostBlocks_18 : decode cX2_lostBlocks 18 = .ok (.getfield 26, 3) := by decide +kernel
theorem dX2_lostBlocks_21 : decode cX2_lostBlocks 21 = .ok (.aload_n 0, 1) := by decide +kernel
theorem dX2_lostBlocks_22 : decode cX2_lostBlocks 22 = .ok (.getfield 12, 3) := by decide +kernel
theorem dX2_lostBlocks_25 : decode cX2_lostBlocks 25 = .ok (.iload_n 1, 1) := by decide +kernel
theorem dX2_lostBlocks_26 : decode cX2_lostBlocks 26 = .ok (.iload_n 3, 1) := by decide +kernel
theorem dX2_lostBlocks_27 : decode cX2_lostBlocks 27 = .ok (.invokevirtual 219, 3) := by decide +kernel
theorem dX2_lostBlocks_30 : decode cX2_lostBlocks 30 = .ok (.ifCond .ne 9, 3) := by decide +kernel
theorem dX2_lostBlocks_33 : decode cX2_lostBlocks 33 = .ok (.iload_n 2, 1) := by decide +kernel
theorem dX2_lostBlocks_34 : decode cX2_lostBlocks 34 = .ok (.iconst 1, 1) := by decide +kernel
theorem dX2_lostBlocks_35 : decode cX2_lostBlocks 35 = .ok (.iload_n 3, 1) := by decide +kernel
theorem dX2_lostBlocks_36 : decode cX2_lostBlocks 36 = .ok (.ishl, 1) := by decide +kernel
theorem dX2_lostBlocks_37 : decode cX2_lostBlocks 37 = .ok (.ior, 1) := by decide +kernel
theorem dX2_lostBlocks_38 : decode cX2_lostBlocks 38 = .ok (.istore_n 2, 1) := by decide +kernel
theorem dX2_lostBlocks_39 : decode cX2_lostBlocks 39 = .ok (.iinc 3 1, 3) := by decide +kernel
theorem dX2_lostBlocks_42 : decode cX2_lostBlocks 42 = .ok (.goto (-38), 3) := by decide +kernel
theorem dX2_lostBlocks_45 : decode cX2_lostBlocks 45 = .ok (.iload_n 2, 1) := by decide +kernel
theorem dX2_lostBlocks_46 : decode cX2_lostBlocks 46 = .ok (.ireturn, 1) := by decide +kernel
theorem dX2_standingFrom_0 : decode cX2_standingFrom 0 = .ok (.iconst 0, 1) := by decide +kernel
theorem dX2_standingFrom_1 : decode cX2_standingFrom 1 = .ok (.istore 4, 2) := by decide +kernel
theorem dX2_standingFrom_3 : decode cX2_standingFrom 3 = .ok (.iload 4, 2) := by decide +kernel
theorem dX2_standingFrom_5 : decode cX2_standingFrom 5 = .ok (.iconst 4, 1) := by decide +kernel
theorem dX2_standingFrom_6 : decode cX2_standingFrom 6 = .ok (.if_icmp .ge 17, 3) := by decide +kernel
theorem dX2_standingFrom_9 : decode cX2_standingFrom 9 = .ok (.aload_n 0, 1) := by decide +kernel
theorem dX2_standingFrom_10 : decode cX2_standingFrom 10 = .ok (.getfield 38, 3) := by decide +kernel
theorem dX2_standingFrom_13 : decode cX2_standingFrom 13 = .ok (.iload 4, 2) := by decide +kernel
theorem dX2_standingFrom_15 : decode cX2_standingFrom 15 = .ok (.iconst 0, 1) := by decide +kernel
theorem dX2_standingFrom_16 : decode cX2_standingFrom 16 = .ok (.iastore, 1) := by decide +kernel
theorem dX2_standingFrom_17 : decode cX2_standingFrom 17 = .ok (.iinc 4 1, 3) := by decide +kernel
theorem dX2_standingFrom_20 : decode cX2_standingFrom 20 = .ok (.goto (-17), 3) := by decide +kernel
theorem dX2_standingFrom_23 : decode cX2_standingFrom 23 = .ok (.iconst 0, 1) := by decide +kernel
theorem dX2_standingFrom_24 : decode cX2_standingFrom 24 = .ok (.istore 4, 2) := by decide +kernel
theorem dX2_standingFrom_26 : decode cX2_standingFrom 26 = .ok (.iload 4, 2) := by decide +kernel
theorem dX2_standingFrom_28 : decode cX2_standingFrom 28 = .ok (.iload_n 3, 1) := by decide +kernel
theorem dX2_standingFrom_29 : decode cX2_standingFrom 29 = .ok (.if_icmp .ge 74, 3) := by decide +kernel
theorem dX2_standingFrom_32 : decode cX2_standingFrom 32 = .ok (.iload_n 2, 1) := by decide +kernel
theorem dX2_standingFrom_33 : decode cX2_standingFrom 33 = .ok (.iload 4, 2) := by decide +kernel
theorem dX2_standingFrom_35 : decode cX2_standingFrom 35 = .ok (.iadd, 1) := by decide +kernel
theorem dX2_standingFrom_36 : decode cX2_standingFrom 36 = .ok (.aload_n 0, 1) := by decide +kernel
theorem dX2_standingFrom_37 : decode cX2_standingFrom 37 = .ok (.getfield 12, 3) := by decide +kernel
theorem dX2_standingFrom_40 : decode cX2_standingFrom 40 = .ok (.iload_n 1, 1) := by decide +kernel
theorem dX2_standingFrom_41 : decode cX2_standingFrom 41 = .ok (.invokevirtual 196, 3) := by decide +kernel
theorem dX2_standingFrom_44 : decode cX2_standingFrom 44 = .ok (.if_icmp .ge 59, 3) := by decide +kernel
theorem dX2_standingFrom_47 : decode cX2_standingFrom 47 = .ok (.aload_n 0, 1) := by decide +kernel
theorem dX2_standingFrom_48 : decode cX2_standingFrom 48 = .ok (.getfield 12, 3) := by decide +kernel
theorem dX2_standingFrom_51 : decode cX2_standingFrom 51 = .ok (.iload_n 1, 1) := by decide +kernel
theorem dX2_standingFrom_52 : decode cX2_standingFrom 52 = .ok (.iload_n 2, 1) := by decide +kernel
theorem dX2_standingFrom_53 : decode cX2_standingFrom 53 = .ok (.iload 4, 2) := by decide +kernel
theorem dX2_standingFrom_55 : decode cX2_standingFrom 55 = .ok (.iadd, 1) := by decide +kernel
theorem dX2_standingFrom_56 : decode cX2_standingFrom 56 = .ok (.invokevirtual 172, 3) := by decide +kernel
theorem dX2_standingFrom_59 : decode cX2_standingFrom 59 = .ok (.bipush 100, 2) := by decide +kernel
theorem dX2_standingFrom_61 : decode cX2_standingFrom 61 = .ok (.idiv, 1) := by decide +kernel
theorem dX2_standingFrom_62 : decode cX2_standingFrom 62 = .ok (.istore 5, 2) := by decide +kernel
theorem dX2_standingFrom_64 : decode cX2_standingFrom 64 = .ok (.aload_n 0, 1) := by decide +kernel
theorem dX2_standingFrom_65 : decode cX2_standingFrom 65 = .ok (.getfield 38, 3) := by decide +kernel
theorem dX2_standingFrom_68 : decode cX2_standingFrom 68 = .ok (.iload 5, 2) := by decide +kernel
theorem dX2_standingFrom_70 : decode cX2_standingFrom 70 = .ok (.dup2, 1) := by decide +kernel
theorem dX2_standingFrom_71 : decode cX2_standingFrom 71 = .ok (.iaload, 1) := by decide +kernel
theorem dX2_standingFrom_72 : decode cX2_standingFrom 72 = .ok (.iconst 1, 1) := by decide +kernel
theorem dX2_standingFrom_73 : decode cX2_standingFrom 73 = .ok (.iadd, 1) := by decide +kernel
theorem dX2_standingFrom_74 : decode cX2_standingFrom 74 = .ok (.iastore, 1) := by decide +kernel
theorem dX2_standingFrom_75 : decode cX2_standingFrom 75 = .ok (.aload_n 0, 1) := by decide +kernel
theorem dX2_standingFrom_76 : decode cX2_standingFrom 76 = .ok (.getfield 38, 3) := by decide +kernel
theorem dX2_standingFrom_79 : decode cX2_standingFrom 79 = .ok (.iload 5, 2) := by decide +kernel
theorem dX2_standingFrom_81 : decode cX2_standingFrom 81 = .ok (.iaload, 1) := by decide +kernel
theorem dX2_standingFrom_82 : decode cX2_standingFrom 82 = .ok (.aload_n 0, 1) := by decide +kernel
theorem dX2_standingFrom_83 : decode cX2_standingFrom 83 = .ok (.getfield 12, 3) := by decide +kernel
theorem dX2_standingFrom_86 : decode cX2_standingFrom 86 = .ok (.getfield 132, 3) := by decide +kernel
theorem dX2_standingFrom_89 : decode cX2_standingFrom 89 = .ok (.iload_n 1, 1) := by decide +kernel
theorem dX2_standingFrom_90 : decode cX2_standingFrom 90 = .ok (.iaload, 1) := by decide +kernel
theorem dX2_standingFrom_91 : decode cX2_standingFrom 91 = .ok (.if_icmp .le 6, 3) := by decide +kernel
theorem dX2_standingFrom_94 : decode cX2_standingFrom 94 = .ok (.iload 4, 2) := by decide +kernel
theorem dX2_standingFrom_96 : decode cX2_standingFrom 96 = .ok (.ireturn, 1) := by decide +kernel
theorem dX2_standingFrom_97 : decode cX2_standingFrom 97 = .ok (.iinc 4 1, 3) := by decide +kernel
theorem dX2_standingFrom_100 : decode cX2_standingFrom 100 = .ok (.goto (-74), 3) := by decide +kernel
theorem dX2_standingFrom_103 : decode cX2_standingFrom 103 = .ok (.iload_n 3, 1) := by decide +kernel
theorem dX2_standingFrom_104 : decode cX2_standingFrom 104 = .ok (.ireturn, 1) := by decide +kernel
theorem dX2_scrubBlock_0 : decode cX2_scrubBlock 0 = .ok (.aload_n 0, 1) := by decide +kernel
theorem dX2_scrubBlock_1 : decode cX2_scrubBlock 1 = .ok (.getfield 26, 3) := by decide +kernel
theorem dX2_scrubBlock_4 : decode cX2_scrubBlock 4 = .ok (.aload_n 0, 1) := by decide +kernel
theorem dX2_scrubBlock_5 : decode cX2_scrubBlock 5 = .ok (.getfield 12, 3) := by decide +kernel
theorem dX2_scrubBlock_8 : decode cX2_scrubBlock 8 = .ok (.iload_n 1, 1) := by decide +kernel
theorem dX2_scrubBlock_9 : decode cX2_scrubBlock 9 = .ok (.iload_n 2, 1) := by decide +kernel
theorem dX2_scrubBlock_10 : decode cX2_scrubBlock 10 = .ok (.invokevirtual 219, 3) := by decide +kernel
theorem dX2_scrubBlock_13 : decode cX2_scrubBlock 13 = .ok (.istore 4, 2) := by decide +kernel
theorem dX2_scrubBlock_15 : decode cX2_scrubBlock 15 = .ok (.aload_n 0, 1) := by decide +kernel
theorem dX2_scrubBlock_16 : decode cX2_scrubBlock 16 = .ok (.getfield 26, 3) := by decide +kernel
theorem dX2_scrubBlock_19 : decode cX2_scrubBlock 19 = .ok (.invokevirtual 241, 3) := by decide +kernel
theorem dX2_scrubBlock_22 : decode cX2_scrubBlock 22 = .ok (.istore 5, 2) := by decide +kernel
theorem dX2_scrubBlock_24 : decode cX2_scrubBlock 24 = .ok (.iconst 0, 1) := by decide +kernel
theorem dX2_scrubBlock_25 : decode cX2_scrubBlock 25 = .ok (.istore 6, 2) := by decide +kernel
theorem dX2_scrubBlock_27 : decode cX2_scrubBlock 27 = .ok (.iload 4, 2) := by decide +kernel
theorem dX2_scrubBlock_29 : decode cX2_scrubBlock 29 = .ok (.ifCond .ne 9, 3) := by decide +kernel
theorem dX2_scrubBlock_32 : decode cX2_scrubBlock 32 = .ok (.iconst 2, 1) := by decide +kernel
theorem dX2_scrubBlock_33 : decode cX2_scrubBlock 33 = .ok (.istore 6, 2) := by decide +kernel
theorem dX2_scrubBlock_35 : decode cX2_scrubBlock 35 = .ok (.goto 21, 3) := by decide +kernel
theorem dX2_scrubBlock_38 : decode cX2_scrubBlock 38 = .ok (.iload 5, 2) := by decide +kernel
theorem dX2_scrubBlock_40 : decode cX2_scrubBlock 40 = .ok (.ifCond .le 16, 3) := by decide +kernel
theorem dX2_scrubBlock_43 : decode cX2_scrubBlock 43 = .ok (.iload 5, 2) := by decide +kernel
theorem dX2_scrubBlock_45 : decode cX2_scrubBlock 45 = .ok (.iload_n 3, 1) := by decide +kernel
theorem dX2_scrubBlock_46 : decode cX2_scrubBlock 46 = .ok (.if_icmp .gt 7, 3) := by decide +kernel
theorem dX2_scrubBlock_49 : decode cX2_scrubBlock 49 = .ok (.iconst 1, 1) := by decide +kernel
theorem dX2_scrubBlock_50 : decode cX2_scrubBlock 50 = .ok (.goto 4, 3) := by decide +kernel
theorem dX2_scrubBlock_53 : decode cX2_scrubBlock 53 = .ok (.iconst 3, 1) := by decide +kernel
theorem dX2_scrubBlock_54 : decode cX2_scrubBlock 54 = .ok (.istore 6, 2) := by decide +kernel
theorem dX2_scrubBlock_56 : decode cX2_scrubBlock 56 = .ok (.iload 6, 2) := by decide +kernel
theorem dX2_scrubBlock_58 : decode cX2_scrubBlock 58 = .ok (.iconst 1, 1) := by decide +kernel
theorem dX2_scrubBlock_59 : decode cX2_scrubBlock 59 = .ok (.if_icmp .ne 68, 3) := by decide +kernel
theorem dX2_scrubBlock_62 : decode cX2_scrubBlock 62 = .ok (.aload_n 0, 1) := by decide +kernel
theorem dX2_scrubBlock_63 : decode cX2_scrubBlock 63 = .ok (.iload_n 1, 1) := by decide +kernel
theorem dX2_scrubBlock_64 : decode cX2_scrubBlock 64 = .ok (.iload_n 2, 1) := by decide +kernel
theorem dX2_scrubBlock_65 : decode cX2_scrubBlock 65 = .ok (.aload_n 0, 1) := by decide +kernel
theorem dX2_scrubBlock_66 : decode cX2_scrubBlock 66 = .ok (.getfield 26, 3) := by decide +kernel
theorem dX2_scrubBlock_69 : decode cX2_scrubBlock 69 = .ok (.getfield 233, 3) := by decide +kernel
theorem dX2_scrubBlock_72 : decode cX2_scrubBlock 72 = .ok (.aload_n 0, 1) := by decide +kernel
theorem dX2_scrubBlock_73 : decode cX2_scrubBlock 73 = .ok (.getfield 26, 3) := by decide +kernel
theorem dX2_scrubBlock_76 : decode cX2_scrubBlock 76 = .ok (.getfield 223, 3) := by decide +kernel
theorem dX2_scrubBlock_79 : decode cX2_scrubBlock 79 = .ok (.ior, 1) := by decide +kernel
theorem dX2_scrubBlock_80 : decode cX2_scrubBlock 80 = .ok (.invokevirtual 278, 3) := by decide +kernel
theorem dX2_scrubBlock_83 : decode cX2_scrubBlock 83 = .ok (.aload_n 0, 1) := by decide +kernel
theorem dX2_scrubBlock_84 : decode cX2_scrubBlock 84 = .ok (.getfield 12, 3) := by decide +kernel
theorem dX2_scrubBlock_87 : decode cX2_scrubBlock 87 = .ok (.getfield 268, 3) := by decide +kernel
theorem dX2_scrubBlock_90 : decode cX2_scrubBlock 90 = .ok (.iconst 4, 1) := by decide +kernel
theorem dX2_scrubBlock_91 : decode cX2_scrubBlock 91 = .ok (.dup2, 1) := by decide +kernel
theorem dX2_scrubBlock_92 : decode cX2_scrubBlock 92 = .ok (.iaload, 1) := by decide +kernel
theorem dX2_scrubBlock_93 : decode cX2_scrubBlock 93 = .ok (.aload_n 0, 1) := by decide +kernel
theorem dX2_scrubBlock_94 : decode cX2_scrubBlock 94 = .ok (.getfield 26, 3) := by decide +kernel
theorem dX2_scrubBlock_97 : decode cX2_scrubBlock 97 = .ok (.getfield 233, 3) := by decide +kernel
theorem dX2_scrubBlock_100 : decode cX2_scrubBlock 100 = .ok (.invokestatic 226, 3) := by decide +kernel
theorem dX2_scrubBlock_103 : decode cX2_scrubBlock 103 = .ok (.iadd, 1) := by decide +kernel
theorem dX2_scrubBlock_104 : decode cX2_scrubBlock 104 = .ok (.iastore, 1) := by decide +kernel
theorem dX2_scrubBlock_105 : decode cX2_scrubBlock 105 = .ok (.aload_n 0, 1) := by decide +kernel
theorem dX2_scrubBlock_106 : decode cX2_scrubBlock 106 = .ok (.getfield 12, 3) := by decide +kernel
theorem dX2_scrubBlock_109 : decode cX2_scrubBlock 109 = .ok (.getfield 268, 3) := by decide +kernel
theorem dX2_scrubBlock_112 : decode cX2_scrubBlock 112 = .ok (.iconst 5, 1) := by decide +kernel
theorem dX2_scrubBlock_113 : decode cX2_scrubBlock 113 = .ok (.dup2, 1) := by decide +kernel
theorem dX2_scrubBlock_114 : decode cX2_scrubBlock 114 = .ok (.iaload, 1) := by decide +kernel
theorem dX2_scrubBlock_115 : decode cX2_scrubBlock 115 = .ok (.aload_n 0, 1) := by decide +kernel
theorem dX2_scrubBlock_116 : decode cX2_scrubBlock 116 = .ok (.getfield 26, 3) := by decide +kernel
theorem dX2_scrubBlock_119 : decode cX2_scrubBlock 119 = .ok (.getfield 223, 3) := by decide +kernel
theorem dX2_scrubBlock_122 : decode cX2_scrubBlock 122 = .ok (.invokestatic 226, 3) := by decide +kernel
theorem dX2_scrubBlock_125 : decode cX2_scrubBlock 125 = .ok (.iadd, 1) := by decide +kernel
theorem dX2_scrubBlock_126 : decode cX2_scrubBlock 126 = .ok (.iastore, 1) := by decide +kernel
theorem dX2_scrubBlock_127 : decode cX2_scrubBlock 127 = .ok (.iload 6, 2) := by decide +kernel
theorem dX2_scrubBlock_129 : decode cX2_scrubBlock 129 = .ok (.iconst 3, 1) := by decide +kernel
theorem dX2_scrubBlock_130 : decode cX2_scrubBlock 130 = .ok (.if_icmp .eq 23, 3) := by decide +kernel
theorem dX2_scrubBlock_133 : decode cX2_scrubBlock 133 = .ok (.aload_n 0, 1) := by decide +kernel
theorem dX2_scrubBlock_134 : decode cX2_scrubBlock 134 = .ok (.getfield 12, 3) := by decide +kernel
theorem dX2_scrubBlock_137 : decode cX2_scrubBlock 137 = .ok (.getfield 282, 3) := by decide +kernel
theorem dX2_scrubBlock_140 : decode cX2_scrubBlock 140 = .ok (.iload_n 1, 1) := by decide +kernel
theorem dX2_scrubBlock_141 : decode cX2_scrubBlock 141 = .ok (.iconst 4, 1) := by decide +kernel
theorem dX2_scrubBlock_142 : decode cX2_scrubBlock 142 = .ok (.imul, 1) := by decide +kernel
theorem dX2_scrubBlock_143 : decode cX2_scrubBlock 143 = .ok (.iload_n 2, 1) := by decide +kernel
theorem dX2_scrubBlock_144 : decode cX2_scrubBlock 144 = .ok (.iadd, 1) := by decide +kernel
theorem dX2_scrubBlock_145 : decode cX2_scrubBlock 145 = .ok (.aload_n 0, 1) := by decide +kernel
theorem dX2_scrubBlock_146 : decode cX2_scrubBlock 146 = .ok (.getfield 12, 3) := by decide +kernel
theorem dX2_scrubBlock_149 : decode cX2_scrubBlock 149 = .ok (.getfield 255, 3) := by decide +kernel
theorem dX2_scrubBlock_152 : decode cX2_scrubBlock 152 = .ok (.iastore, 1) := by decide +kernel
theorem dX2_scrubBlock_153 : decode cX2_scrubBlock 153 = .ok (.aload_n 0, 1) := by decide +kernel
theorem dX2_scrubBlock_154 : decode cX2_scrubBlock 154 = .ok (.getfield 12, 3) := by decide +kernel
theorem dX2_scrubBlock_157 : decode cX2_scrubBlock 157 = .ok (.getfield 268, 3) := by decide +kernel
theorem dX2_scrubBlock_160 : decode cX2_scrubBlock 160 = .ok (.iload 6, 2) := by decide +kernel
theorem dX2_scrubBlock_162 : decode cX2_scrubBlock 162 = .ok (.dup2, 1) := by decide +kernel
theorem dX2_scrubBlock_163 : decode cX2_scrubBlock 163 = .ok (.iaload, 1) := by decide +kernel
theorem dX2_scrubBlock_164 : decode cX2_scrubBlock 164 = .ok (.iconst 1, 1) := by decide +kernel
theorem dX2_scrubBlock_165 : decode cX2_scrubBlock 165 = .ok (.iadd, 1) := by decide +kernel
theorem dX2_scrubBlock_166 : decode cX2_scrubBlock 166 = .ok (.iastore, 1) := by decide +kernel
theorem dX2_scrubBlock_167 : decode cX2_scrubBlock 167 = .ok (.aload_n 0, 1) := by decide +kernel
theorem dX2_scrubBlock_168 : decode cX2_scrubBlock 168 = .ok (.iload_n 1, 1) := by decide +kernel
theorem dX2_scrubBlock_169 : decode cX2_scrubBlock 169 = .ok (.iload_n 2, 1) := by decide +kernel
theorem dX2_scrubBlock_170 : decode cX2_scrubBlock 170 = .ok (.iload 6, 2) := by decide +kernel
theorem dX2_scrubBlock_172 : decode cX2_scrubBlock 172 = .ok (.iload 5, 2) := by decide +kernel
theorem dX2_scrubBlock_174 : decode cX2_scrubBlock 174 = .ok (.invokevirtual 349, 3) := by decide +kernel
theorem dX2_scrubBlock_177 : decode cX2_scrubBlock 177 = .ok (.iload 6, 2) := by decide +kernel
theorem dX2_scrubBlock_179 : decode cX2_scrubBlock 179 = .ok (.ireturn, 1) := by decide +kernel
theorem dX2_addLine_0 : decode cX2_addLine 0 = .ok (.aload_n 0, 1) := by decide +kernel
theorem dX2_addLine_1 : decode cX2_addLine 1 = .ok (.getfield 45, 3) := by decide +kernel
theorem dX2_addLine_4 : decode cX2_addLine 4 = .ok (.bipush 32, 2) := by decide +kernel
theorem dX2_addLine_6 : decode cX2_addLine 6 = .ok (.if_icmp .lt 4, 3) := by decide +kernel
theorem dX2_addLine_9 : decode cX2_addLine 9 = .ok (.return_, 1) := by decide +kernel
theorem dX2_addLine_10 : decode cX2_addLine 10 = .ok (.aload_n 0, 1) := by decide +kernel
theorem dX2_addLine_11 : decode cX2_addLine 11 = .ok (.getfield 45, 3) := by decide +kernel
theorem dX2_addLine_14 : decode cX2_addLine 14 = .ok (.iconst 4, 1) := by decide +kernel
theorem dX2_addLine_15 : decode cX2_addLine 15 = .ok (.imul, 1) := by decide +kernel
theorem dX2_addLine_16 : decode cX2_addLine 16 = .ok (.istore 5, 2) := by decide +kernel
theorem dX2_addLine_18 : decode cX2_addLine 18 = .ok (.aload_n 0, 1) := by decide +kernel
theorem dX2_addLine_19 : decode cX2_addLine 19 = .ok (.getfield 34, 3) := by decide +kernel
theorem dX2_addLine_22 : decode cX2_addLine 22 = .ok (.iload 5, 2) := by decide +kernel
theorem dX2_addLine_24 : decode cX2_addLine 24 = .ok (.iload_n 1, 1) := by decide +kernel
theorem dX2_addLine_25 : decode cX2_addLine 25 = .ok (.iastore, 1) := by decide +kernel
theorem dX2_addLine_26 : decode cX2_addLine 26 = .ok (.aload_n 0, 1) := by decide +kernel
theorem dX2_addLine_27 : decode cX2_addLine 27 = .ok (.getfield 34, 3) := by decide +kernel
theorem dX2_addLine_30 : decode cX2_addLine 30 = .ok (.iload 5, 2) := by decide +kernel
theorem dX2_addLine_32 : decode cX2_addLine 32 = .ok (.iconst 1, 1) := by decide +kernel
theorem dX2_addLine_33 : decode cX2_addLine 33 = .ok (.iadd, 1) := by decide +kernel
theorem dX2_addLine_34 : decode cX2_addLine 34 = .ok (.iload_n 2, 1) := by decide +kernel
theorem dX2_addLine_35 : decode cX2_addLine 35 = .ok (.iastore, 1) := by decide +kernel
theorem dX2_addLine_36 : decode cX2_addLine 36 = .ok (.aload_n 0, 1) := by decide +kernel
theorem dX2_addLine_37 : decode cX2_addLine 37 = .ok (.getfield 34, 3) := by decide +kernel
theorem dX2_addLine_40 : decode cX2_addLine 40 = .ok (.iload 5, 2) := by decide +kernel
theorem dX2_addLine_42 : decode cX2_addLine 42 = .ok (.iconst 2, 1) := by decide +kernel
theorem dX2_addLine_43 : decode cX2_addLine 43 = .ok (.iadd, 1) := by decide +kernel
theorem dX2_addLine_44 : decode cX2_addLine 44 = .ok (.iload_n 3, 1) := by decide +kernel
theorem dX2_addLine_45 : decode cX2_addLine 45 = .ok (.iastore, 1) := by decide +kernel
theorem dX2_addLine_46 : decode cX2_addLine 46 = .ok (.aload_n 0, 1) := by decide +kernel
theorem dX2_addLine_47 : decode cX2_addLine 47 = .ok (.getfield 34, 3) := by decide +kernel
theorem dX2_addLine_50 : decode cX2_addLine 50 = .ok (.iload 5, 2) := by decide +kernel
theorem dX2_addLine_52 : decode cX2_addLine 52 = .ok (.iconst 3, 1) := by decide +kernel
theorem dX2_addLine_53 : decode cX2_addLine 53 = .ok (.iadd, 1) := by decide +kernel
theorem dX2_addLine_54 : decode cX2_addLine 54 = .ok (.iload 4, 2) := by decide +kernel
theorem dX2_addLine_56 : decode cX2_addLine 56 = .ok (.iastore, 1) := by decide +kernel
theorem dX2_addLine_57 : decode cX2_addLine 57 = .ok (.aload_n 0, 1) := by decide +kernel
theorem dX2_addLine_58 : decode cX2_addLine 58 = .ok (.dup, 1) := by decide +kernel
theorem dX2_addLine_59 : decode cX2_addLine 59 = .ok (.getfield 45, 3) := by decide +kernel
theorem dX2_addLine_62 : decode cX2_addLine 62 = .ok (.iconst 1, 1) := by decide +kernel
theorem dX2_addLine_63 : decode cX2_addLine 63 = .ok (.iadd, 1) := by decide +kernel
theorem dX2_addLine_64 : decode cX2_addLine 64 = .ok (.putfield 45, 3) := by decide +kernel
theorem dX2_addLine_67 : decode cX2_addLine 67 = .ok (.return_, 1) := by decide +kernel
theorem dX2_isCell_0 : decode cX2_isCell 0 = .ok (.iload_n 0, 1) := by decide +kernel
theorem dX2_isCell_1 : decode cX2_isCell 1 = .ok (.ifCond .lt 14, 3) := by decide +kernel
theorem dX2_isCell_4 : decode cX2_isCell 4 = .ok (.iload_n 0, 1) := by decide +kernel
theorem dX2_isCell_5 : decode cX2_isCell 5 = .ok (.sipush 240, 3) := by decide +kernel
theorem dX2_isCell_8 : decode cX2_isCell 8 = .ok (.if_icmp .ge 7, 3) := by decide +kernel
theorem dX2_isCell_11 : decode cX2_isCell 11 = .ok (.iconst 1, 1) := by decide +kernel
theorem dX2_isCell_12 : decode cX2_isCell 12 = .ok (.goto 4, 3) := by decide +kernel
theorem dX2_isCell_15 : decode cX2_isCell 15 = .ok (.iconst 0, 1) := by decide +kernel
theorem dX2_isCell_16 : decode cX2_isCell 16 = .ok (.ireturn, 1) := by decide +kernel
theorem dX2_blocksFor_0 : decode cX2_blocksFor 0 = .ok (.iload_n 0, 1) := by decide +kernel
theorem dX2_blocksFor_1 : decode cX2_blocksFor 1 = .ok (.bipush 8, 2) := by decide +kernel
theorem dX2_blocksFor_3 : decode cX2_blocksFor 3 = .ok (.iadd, 1) := by decide +kernel
theorem dX2_blocksFor_4 : decode cX2_blocksFor 4 = .ok (.iconst 1, 1) := by decide +kernel
theorem dX2_blocksFor_5 : decode cX2_blocksFor 5 = .ok (.isub, 1) := by decide +kernel
theorem dX2_blocksFor_6 : decode cX2_blocksFor 6 = .ok (.bipush 8, 2) := by decide +kernel
theorem dX2_blocksFor_8 : decode cX2_blocksFor 8 = .ok (.idiv, 1) := by decide +kernel
theorem dX2_blocksFor_9 : decode cX2_blocksFor 9 = .ok (.ireturn, 1) := by decide +kernel
theorem dX2_product_0 : decode cX2_product 0 = .ok (.iload_n 0, 1) := by decide +kernel
theorem dX2_product_1 : decode cX2_product 1 = .ok (.ifCond .eq 7, 3) := by decide +kernel
theorem dX2_product_4 : decode cX2_product 4 = .ok (.iload_n 1, 1) := by decide +kernel
theorem dX2_product_5 : decode cX2_product 5 = .ok (.ifCond .ne 5, 3) := by decide +kernel
theorem dX2_product_8 : decode cX2_product 8 = .ok (.iconst 0, 1) := by decide +kernel
theorem dX2_product_9 : decode cX2_product 9 = .ok (.ireturn, 1) := by decide +kernel
theorem dX2_product_10 : decode cX2_product 10 = .ok (.getstatic 353, 3) := by decide +kernel
theorem dX2_product_13 : decode cX2_product 13 = .ok (.getstatic 356, 3) := by decide +kernel
theorem dX2_product_16 : decode cX2_product 16 = .ok (.iload_n 0, 1) := by decide +kernel
theorem dX2_product_17 : decode cX2_product 17 = .ok (.bipush 15, 2) := by decide +kernel
theorem dX2_product_19 : decode cX2_product 19 = .ok (.iand, 1) := by decide +kernel
theorem dX2_product_20 : decode cX2_product 20 = .ok (.iaload, 1) := by decide +kernel
theorem dX2_product_21 : decode cX2_product 21 = .ok (.getstatic 356, 3) := by decide +kernel
theorem dX2_product_24 : decode cX2_product 24 = .ok (.iload_n 1, 1) := by decide +kernel
theorem dX2_product_25 : decode cX2_product 25 = .ok (.bipush 15, 2) := by decide +kernel
theorem dX2_product_27 : decode cX2_product 27 = .ok (.iand, 1) := by decide +kernel
theorem dX2_product_28 : decode cX2_product 28 = .ok (.iaload, 1) := by decide +kernel
theorem dX2_product_29 : decode cX2_product 29 = .ok (.iadd, 1) := by decide +kernel
theorem dX2_product_30 : decode cX2_product 30 = .ok (.bipush 15, 2) := by decide +kernel
theorem dX2_product_32 : decode cX2_product 32 = .ok (.irem, 1) := by decide +kernel
theorem dX2_product_33 : decode cX2_product 33 = .ok (.iaload, 1) := by decide +kernel
theorem dX2_product_34 : decode cX2_product 34 = .ok (.ireturn, 1) := by decide +kernel
theorem dX2_quotient_0 : decode cX2_quotient 0 = .ok (.iload_n 0, 1) := by decide +kernel
theorem dX2_quotient_1 : decode cX2_quotient 1 = .ok (.ifCond .eq 7, 3) := by decide +kernel
theorem dX2_quotient_4 : decode cX2_quotient 4 = .ok (.iload_n 1, 1) := by decide +kernel
theorem dX2_quotient_5 : decode cX2_quotient 5 = .ok (.ifCond .ne 5, 3) := by decide +kernel
theorem dX2_quotient_8 : decode cX2_quotient 8 = .ok (.iconst 0, 1) := by decide +kernel
theorem dX2_quotient_9 : decode cX2_quotient 9 = .ok (.ireturn, 1) := by decide +kernel
theorem dX2_quotient_10 : decode cX2_quotient 10 = .ok (.getstatic 353, 3) := by decide +kernel
theorem dX2_quotient_13 : decode cX2_quotient 13 = .ok (.getstatic 356, 3) := by decide +kernel
theorem dX2_quotient_16 : decode cX2_quotient 16 = .ok (.iload_n 0, 1) := by decide +kernel
theorem dX2_quotient_17 : decode cX2_quotient 17 = .ok (.bipush 15, 2) := by decide +kernel
theorem dX2_quotient_19 : decode cX2_quotient 19 = .ok (.iand, 1) := by decide +kernel
theorem dX2_quotient_20 : decode cX2_quotient 20 = .ok (.iaload, 1) := by decide +kernel
theorem dX2_quotient_21 : decode cX2_quotient 21 = .ok (.bipush 15, 2) := by decide +kernel
theorem dX2_quotient_23 : decode cX2_quotient 23 = .ok (.iadd, 1) := by decide +kernel
theorem dX2_quotient_24 : decode cX2_quotient 24 = .ok (.getstatic 356, 3) := by decide +kernel
theorem dX2_quotient_27 : decode cX2_quotient 27 = .ok (.iload_n 1, 1) := by decide +kernel
theorem dX2_quotient_28 : decode cX2_quotient 28 = .ok (.bipush 15, 2) := by decide +kernel
theorem dX2_quotient_30 : decode cX2_quotient 30 = .ok (.iand, 1) := by decide +kernel
theorem dX2_quotient_31 : decode cX2_quotient 31 = .ok (.iaload, 1) := by decide +kernel
theorem dX2_quotient_32 : decode cX2_quotient 32 = .ok (.isub, 1) := by decide +kernel
theorem dX2_quotient_33 : decode cX2_quotient 33 = .ok (.bipush 15, 2) := by decide +kernel
theorem dX2_quotient_35 : decode cX2_quotient 35 = .ok (.irem, 1) := by decide +kernel
theorem dX2_quotient_36 : decode cX2_quotient 36 = .ok (.iaload, 1) := by decide +kernel
theorem dX2_quotient_37 : decode cX2_quotient 37 = .ok (.ireturn, 1) := by decide +kernel
theorem dJ6_bitCount_0f7a4_0 : decode cJ6_bitCount_0f7a4 0 = .ok (.iload_n 0, 1) := by decide +kernel
theorem dJ6_bitCount_0f7a4_1 : decode cJ6_bitCount_0f7a4 1 = .ok (.iload_n 0, 1) := by decide +kernel
theorem dJ6_bitCount_0f7a4_2 : decode cJ6_bitCount_0f7a4 2 = .ok (.iconst 1, 1) := by decide +kernel
theorem dJ6_bitCount_0f7a4_3 : decode cJ6_bitCount_0f7a4 3 = .ok (.iushr, 1) := by decide +kernel
theorem dJ6_bitCount_0f7a4_4 : decode cJ6_bitCount_0f7a4 4 = .ok (.ldc_w 265, 3) := by decide +kernel
theorem dJ6_bitCount_0f7a4_7 : decode cJ6_bitCount_0f7a4 7 = .ok (.iand, 1) := by decide +kernel
theorem dJ6_bitCount_0f7a4_8 : decode cJ6_bitCount_0f7a4 8 = .ok (.isub, 1) := by decide +kernel
theorem dJ6_bitCount_0f7a4_9 : decode cJ6_bitCount_0f7a4 9 = .ok (.istore_n 0, 1) := by decide +kernel
theorem dJ6_bitCount_0f7a4_10 : decode cJ6_bitCount_0f7a4 10 = .ok (.iload_n 0, 1) := by decide +kernel
theorem dJ6_bitCount_0f7a4_11 : decode cJ6_bitCount_0f7a4 11 = .ok (.ldc_w 266, 3) := by decide +kernel
theorem dJ6_bitCount_0f7a4_14 : decode cJ6_bitCount_0f7a4 14 = .ok (.iand, 1) := by decide +kernel
theorem dJ6_bitCount_0f7a4_15 : decode cJ6_bitCount_0f7a4 15 = .ok (.iload_n 0, 1) := by decide +kernel
theorem dJ6_bitCount_0f7a4_16 : decode cJ6_bitCount_0f7a4 16 = .ok (.iconst 2, 1) := by decide +kernel
theorem dJ6_bitCount_0f7a4_17 : decode cJ6_bitCount_0f7a4 17 = .ok (.iushr, 1) := by decide +kernel
theorem dJ6_bitCount_0f7a4_18 : decode cJ6_bitCount_0f7a4 18 = .ok (.ldc_w 266, 3) := by decide +kernel
theorem dJ6_bitCount_0f7a4_21 : decode cJ6_bitCount_0f7a4 21 = .ok (.iand, 1) := by decide +kernel
theorem dJ6_bitCount_0f7a4_22 : decode cJ6_bitCount_0f7a4 22 = .ok (.iadd, 1) := by decide +kernel
theorem dJ6_bitCount_0f7a4_23 : decode cJ6_bitCount_0f7a4 23 = .ok (.istore_n 0, 1) := by decide +kernel
theorem dJ6_bitCount_0f7a4_24 : decode cJ6_bitCount_0f7a4 24 = .ok (.iload_n 0, 1) := by decide +kernel
theorem dJ6_bitCount_0f7a4_25 : decode cJ6_bitCount_0f7a4 25 = .ok (.iload_n 0, 1) := by decide +kernel
theorem dJ6_bitCount_0f7a4_26 : decode cJ6_bitCount_0f7a4 26 = .ok (.iconst 4, 1) := by decide +kernel
theorem dJ6_bitCount_0f7a4_27 : decode cJ6_bitCount_0f7a4 27 = .ok (.iushr, 1) := by decide +kernel
theorem dJ6_bitCount_0f7a4_28 : decode cJ6_bitCount_0f7a4 28 = .ok (.iadd, 1) := by decide +kernel
theorem dJ6_bitCount_0f7a4_29 : decode cJ6_bitCount_0f7a4 29 = .ok (.ldc_w 267, 3) := by decide +kernel
theorem dJ6_bitCount_0f7a4_32 : decode cJ6_bitCount_0f7a4 32 = .ok (.iand, 1) := by decide +kernel
theorem dJ6_bitCount_0f7a4_33 : decode cJ6_bitCount_0f7a4 33 = .ok (.istore_n 0, 1) := by decide +kernel
theorem dJ6_bitCount_0f7a4_34 : decode cJ6_bitCount_0f7a4 34 = .ok (.iload_n 0, 1) := by decide +kernel
theorem dJ6_bitCount_0f7a4_35 : decode cJ6_bitCount_0f7a4 35 = .ok (.iload_n 0, 1) := by decide +kernel
theorem dJ6_bitCount_0f7a4_36 : decode cJ6_bitCount_0f7a4 36 = .ok (.bipush 8, 2) := by decide +kernel
theorem dJ6_bitCount_0f7a4_38 : decode cJ6_bitCount_0f7a4 38 = .ok (.iushr, 1) := by decide +kernel
theorem dJ6_bitCount_0f7a4_39 : decode cJ6_bitCount_0f7a4 39 = .ok (.iadd, 1) := by decide +kernel
theorem dJ6_bitCount_0f7a4_40 : decode cJ6_bitCount_0f7a4 40 = .ok (.istore_n 0, 1) := by decide +kernel
theorem dJ6_bitCount_0f7a4_41 : decode cJ6_bitCount_0f7a4 41 = .ok (.iload_n 0, 1) := by decide +kernel
theorem dJ6_bitCount_0f7a4_42 : decode cJ6_bitCount_0f7a4 42 = .ok (.iload_n 0, 1) := by decide +kernel
theorem dJ6_bitCount_0f7a4_43 : decode cJ6_bitCount_0f7a4 43 = .ok (.bipush 16, 2) := by decide +kernel
theorem dJ6_bitCount_0f7a4_45 : decode cJ6_bitCount_0f7a4 45 = .ok (.iushr, 1) := by decide +kernel
theorem dJ6_bitCount_0f7a4_46 : decode cJ6_bitCount_0f7a4 46 = .ok (.iadd, 1) := by decide +kernel
theorem dJ6_bitCount_0f7a4_47 : decode cJ6_bitCount_0f7a4 47 = .ok (.istore_n 0, 1) := by decide +kernel
theorem dJ6_bitCount_0f7a4_48 : decode cJ6_bitCount_0f7a4 48 = .ok (.iload_n 0, 1) := by decide +kernel
theorem dJ6_bitCount_0f7a4_49 : decode cJ6_bitCount_0f7a4 49 = .ok (.bipush 63, 2) := by decide +kernel
theorem dJ6_bitCount_0f7a4_51 : decode cJ6_bitCount_0f7a4 51 = .ok (.iand, 1) := by decide +kernel
theorem dJ6_bitCount_0f7a4_52 : decode cJ6_bitCount_0f7a4 52 = .ok (.ireturn, 1) := by decide +kernel
