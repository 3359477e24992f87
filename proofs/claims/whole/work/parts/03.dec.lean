theorem dX5_readSong_86 : decode cX5_readSong 86 = .ok (.iconst 0, 1) := by decide +kernel
theorem dX5_readSong_87 : decode cX5_readSong 87 = .ok (.invokestatic 88, 3) := by decide +kernel
theorem dX5_readSong_90 : decode cX5_readSong 90 = .ok (.iconst 1, 1) := by decide +kernel
theorem dX5_readSong_91 : decode cX5_readSong 91 = .ok (.ireturn, 1) := by decide +kernel
theorem dX5_readPart_0 : decode cX5_readPart 0 = .ok (.aload_n 0, 1) := by decide +kernel
theorem dX5_readPart_1 : decode cX5_readPart 1 = .ok (.getfield 7, 3) := by decide +kernel
theorem dX5_readPart_4 : decode cX5_readPart 4 = .ok (.aload_n 0, 1) := by decide +kernel
theorem dX5_readPart_5 : decode cX5_readPart 5 = .ok (.getfield 78, 3) := by decide +kernel
theorem dX5_readPart_8 : decode cX5_readPart 8 = .ok (.iaload, 1) := by decide +kernel
theorem dX5_readPart_9 : decode cX5_readPart 9 = .ok (.istore_n 1, 1) := by decide +kernel
theorem dX5_readPart_10 : decode cX5_readPart 10 = .ok (.iload_n 1, 1) := by decide +kernel
theorem dX5_readPart_11 : decode cX5_readPart 11 = .ok (.bipush 87, 2) := by decide +kernel
theorem dX5_readPart_13 : decode cX5_readPart 13 = .ok (.if_icmp .ne 26, 3) := by decide +kernel
theorem dX5_readPart_16 : decode cX5_readPart 16 = .ok (.aload_n 0, 1) := by decide +kernel
theorem dX5_readPart_17 : decode cX5_readPart 17 = .ok (.getfield 85, 3) := by decide +kernel
theorem dX5_readPart_20 : decode cX5_readPart 20 = .ok (.iconst 4, 1) := by decide +kernel
theorem dX5_readPart_21 : decode cX5_readPart 21 = .ok (.if_icmp .ge 18, 3) := by decide +kernel
theorem dX5_readPart_24 : decode cX5_readPart 24 = .ok (.aload_n 0, 1) := by decide +kernel
theorem dX5_readPart_25 : decode cX5_readPart 25 = .ok (.dup, 1) := by decide +kernel
theorem dX5_readPart_26 : decode cX5_readPart 26 = .ok (.getfield 78, 3) := by decide +kernel
theorem dX5_readPart_29 : decode cX5_readPart 29 = .ok (.iconst 1, 1) := by decide +kernel
theorem dX5_readPart_30 : decode cX5_readPart 30 = .ok (.iadd, 1) := by decide +kernel
theorem dX5_readPart_31 : decode cX5_readPart 31 = .ok (.putfield 78, 3) := by decide +kernel
theorem dX5_readPart_34 : decode cX5_readPart 34 = .ok (.aload_n 0, 1) := by decide +kernel
theorem dX5_readPart_35 : decode cX5_readPart 35 = .ok (.invokevirtual 92, 3) := by decide +kernel
theorem dX5_readPart_38 : decode cX5_readPart 38 = .ok (.ireturn, 1) := by decide +kernel
theorem dX5_readPart_39 : decode cX5_readPart 39 = .ok (.iload_n 1, 1) := by decide +kernel
theorem dX5_readPart_40 : decode cX5_readPart 40 = .ok (.bipush 83, 2) := by decide +kernel
theorem dX5_readPart_42 : decode cX5_readPart 42 = .ok (.if_icmp .ne 37, 3) := by decide +kernel
theorem dX5_readPart_45 : decode cX5_readPart 45 = .ok (.aload_n 0, 1) := by decide +kernel
theorem dX5_readPart_46 : decode cX5_readPart 46 = .ok (.getfield 85, 3) := by decide +kernel
theorem dX5_readPart_49 : decode cX5_readPart 49 = .ok (.ifCond .le 30, 3) := by decide +kernel
theorem dX5_readPart_52 : decode cX5_readPart 52 = .ok (.aload_n 0, 1) := by decide +kernel
theorem dX5_readPart_53 : decode cX5_readPart 53 = .ok (.getfield 25, 3) := by decide +kernel
theorem dX5_readPart_56 : decode cX5_readPart 56 = .ok (.bipush 48, 2) := by decide +kernel
theorem dX5_readPart_58 : decode cX5_readPart 58 = .ok (.iaload, 1) := by decide +kernel
theorem dX5_readPart_59 : decode cX5_readPart 59 = .ok (.bipush 6, 2) := by decide +kernel
theorem dX5_readPart_61 : decode cX5_readPart 61 = .ok (.if_icmp .ge 18, 3) := by decide +kernel
theorem dX5_readPart_64 : decode cX5_readPart 64 = .ok (.aload_n 0, 1) := by decide +kernel
theorem dX5_readPart_65 : decode cX5_readPart 65 = .ok (.dup, 1) := by decide +kernel
theorem dX5_readPart_66 : decode cX5_readPart 66 = .ok (.getfield 78, 3) := by decide +kernel
theorem dX5_readPart_69 : decode cX5_readPart 69 = .ok (.iconst 1, 1) := by decide +kernel
theorem dX5_readPart_70 : decode cX5_readPart 70 = .ok (.iadd, 1) := by decide +kernel
theorem dX5_readPart_71 : decode cX5_readPart 71 = .ok (.putfield 78, 3) := by decide +kernel
theorem dX5_readPart_74 : decode cX5_readPart 74 = .ok (.aload_n 0, 1) := by decide +kernel
theorem dX5_readPart_75 : decode cX5_readPart 75 = .ok (.invokevirtual 96, 3) := by decide +kernel
theorem dX5_readPart_78 : decode cX5_readPart 78 = .ok (.ireturn, 1) := by decide +kernel
theorem dX5_readPart_79 : decode cX5_readPart 79 = .ok (.iconst 0, 1) := by decide +kernel
theorem dX5_readPart_80 : decode cX5_readPart 80 = .ok (.ireturn, 1) := by decide +kernel
theorem dX5_readLand_0 : decode cX5_readLand 0 = .ok (.aload_n 0, 1) := by decide +kernel
theorem dX5_readLand_1 : decode cX5_readLand 1 = .ok (.iconst 0, 1) := by decide +kernel
theorem dX5_readLand_2 : decode cX5_readLand 2 = .ok (.putfield 78, 3) := by decide +kernel
theorem dX5_readLand_5 : decode cX5_readLand 5 = .ok (.aload_n 0, 1) := by decide +kernel
theorem dX5_readLand_6 : decode cX5_readLand 6 = .ok (.iconst 0, 1) := by decide +kernel
theorem dX5_readLand_7 : decode cX5_readLand 7 = .ok (.putfield 85, 3) := by decide +kernel
theorem dX5_readLand_10 : decode cX5_readLand 10 = .ok (.iconst 0, 1) := by decide +kernel
theorem dX5_readLand_11 : decode cX5_readLand 11 = .ok (.istore_n 1, 1) := by decide +kernel
theorem dX5_readLand_12 : decode cX5_readLand 12 = .ok (.iload_n 1, 1) := by decide +kernel
theorem dX5_readLand_13 : decode cX5_readLand 13 = .ok (.bipush 52, 2) := by decide +kernel
theorem dX5_readLand_15 : decode cX5_readLand 15 = .ok (.if_icmp .ge 16, 3) := by decide +kernel
theorem dX5_readLand_18 : decode cX5_readLand 18 = .ok (.aload_n 0, 1) := by decide +kernel
theorem dX5_readLand_19 : decode cX5_readLand 19 = .ok (.getfield 25, 3) := by decide +kernel
theorem dX5_readLand_22 : decode cX5_readLand 22 = .ok (.iload_n 1, 1) := by decide +kernel
theorem dX5_readLand_23 : decode cX5_readLand 23 = .ok (.iconst 0, 1) := by decide +kernel
theorem dX5_readLand_24 : decode cX5_readLand 24 = .ok (.iastore, 1) := by decide +kernel
theorem dX5_readLand_25 : decode cX5_readLand 25 = .ok (.iinc 1 1, 3) := by decide +kernel
theorem dX5_readLand_28 : decode cX5_readLand 28 = .ok (.goto (-16), 3) := by decide +kernel
theorem dX5_readLand_31 : decode cX5_readLand 31 = .ok (.aload_n 0, 1) := by decide +kernel
theorem dX5_readLand_32 : decode cX5_readLand 32 = .ok (.getfield 75, 3) := by decide +kernel
theorem dX5_readLand_35 : decode cX5_readLand 35 = .ok (.ifCond .eq 14, 3) := by decide +kernel
theorem dX5_readLand_38 : decode cX5_readLand 38 = .ok (.aload_n 0, 1) := by decide +kernel
theorem dX5_readLand_39 : decode cX5_readLand 39 = .ok (.getfield 7, 3) := by decide +kernel
theorem dX5_readLand_42 : decode cX5_readLand 42 = .ok (.iconst 0, 1) := by decide +kernel
theorem dX5_readLand_43 : decode cX5_readLand 43 = .ok (.iaload, 1) := by decide +kernel
theorem dX5_readLand_44 : decode cX5_readLand 44 = .ok (.bipush 76, 2) := by decide +kernel
theorem dX5_readLand_46 : decode cX5_readLand 46 = .ok (.if_icmp .eq 5, 3) := by decide +kernel
theorem dX5_readLand_49 : decode cX5_readLand 49 = .ok (.iconst 0, 1) := by decide +kernel
theorem dX5_readLand_50 : decode cX5_readLand 50 = .ok (.ireturn, 1) := by decide +kernel
theorem dX5_readLand_51 : decode cX5_readLand 51 = .ok (.aload_n 0, 1) := by decide +kernel
theorem dX5_readLand_52 : decode cX5_readLand 52 = .ok (.iconst 1, 1) := by decide +kernel
theorem dX5_readLand_53 : decode cX5_readLand 53 = .ok (.putfield 78, 3) := by decide +kernel
theorem dX5_readLand_56 : decode cX5_readLand 56 = .ok (.aload_n 0, 1) := by decide +kernel
theorem dX5_readLand_57 : decode cX5_readLand 57 = .ok (.getfield 78, 3) := by decide +kernel
theorem dX5_readLand_60 : decode cX5_readLand 60 = .ok (.aload_n 0, 1) := by decide +kernel
theorem dX5_readLand_61 : decode cX5_readLand 61 = .ok (.getfield 75, 3) := by decide +kernel
theorem dX5_readLand_64 : decode cX5_readLand 64 = .ok (.if_icmp .ge 15, 3) := by decide +kernel
theorem dX5_readLand_67 : decode cX5_readLand 67 = .ok (.aload_n 0, 1) := by decide +kernel
theorem dX5_readLand_68 : decode cX5_readLand 68 = .ok (.invokevirtual 99, 3) := by decide +kernel
theorem dX5_readLand_71 : decode cX5_readLand 71 = .ok (.ifCond .ne (-15), 3) := by decide +kernel
theorem dX5_readLand_74 : decode cX5_readLand 74 = .ok (.aload_n 0, 1) := by decide +kernel
theorem dX5_readLand_75 : decode cX5_readLand 75 = .ok (.getfield 78, 3) := by decide +kernel
theorem dX5_readLand_78 : decode cX5_readLand 78 = .ok (.ireturn, 1) := by decide +kernel
theorem dX5_readLand_79 : decode cX5_readLand 79 = .ok (.bipush (-9), 2) := by decide +kernel
theorem dX5_readLand_81 : decode cX5_readLand 81 = .ok (.ireturn, 1) := by decide +kernel
theorem dX5_fault_0 : decode cX5_fault 0 = .ok (.aload_n 0, 1) := by decide +kernel
theorem dX5_fault_1 : decode cX5_fault 1 = .ok (.iconst 0, 1) := by decide +kernel
theorem dX5_fault_2 : decode cX5_fault 2 = .ok (.putfield 62, 3) := by decide +kernel
theorem dX5_fault_5 : decode cX5_fault 5 = .ok (.aload_n 0, 1) := by decide +kernel
theorem dX5_fault_6 : decode cX5_fault 6 = .ok (.invokevirtual 102, 3) := by decide +kernel
theorem dX5_fault_9 : decode cX5_fault 9 = .ok (.ireturn, 1) := by decide +kernel
theorem dX5_land_0 : decode cX5_land 0 = .ok (.aload_n 0, 1) := by decide +kernel
theorem dX5_land_1 : decode cX5_land 1 = .ok (.iconst 0, 1) := by decide +kernel
theorem dX5_land_2 : decode cX5_land 2 = .ok (.putfield 62, 3) := by decide +kernel
theorem dX5_land_5 : decode cX5_land 5 = .ok (.aload_n 0, 1) := by decide +kernel
theorem dX5_land_6 : decode cX5_land 6 = .ok (.invokevirtual 102, 3) := by decide +kernel
theorem dX5_land_9 : decode cX5_land 9 = .ok (.bipush (-9), 2) := by decide +kernel
theorem dX5_land_11 : decode cX5_land 11 = .ok (.if_icmp .eq 6, 3) := by decide +kernel
theorem dX5_land_14 : decode cX5_land 14 = .ok (.bipush (-3), 2) := by decide +kernel
theorem dX5_land_16 : decode cX5_land 16 = .ok (.ireturn, 1) := by decide +kernel
theorem dX5_land_17 : decode cX5_land 17 = .ok (.aload_n 0, 1) := by decide +kernel
theorem dX5_land_18 : decode cX5_land 18 = .ok (.aload_n 0, 1) := by decide +kernel
theorem dX5_land_19 : decode cX5_land 19 = .ok (.getfield 85, 3) := by decide +kernel
theorem dX5_land_22 : decode cX5_land 22 = .ok (.putfield 66, 3) := by decide +kernel
theorem dX5_land_25 : decode cX5_land 25 = .ok (.iconst 0, 1) := by decide +kernel
theorem dX5_land_26 : decode cX5_land 26 = .ok (.istore_n 1, 1) := by decide +kernel
theorem dX5_land_27 : decode cX5_land 27 = .ok (.iload_n 1, 1) := by decide +kernel
theorem dX5_land_28 : decode cX5_land 28 = .ok (.aload_n 0, 1) := by decide +kernel
theorem dX5_land_29 : decode cX5_land 29 = .ok (.getfield 66, 3) := by decide +kernel
theorem dX5_land_32 : decode cX5_land 32 = .ok (.if_icmp .ge 33, 3) := by decide +kernel
theorem dX5_land_35 : decode cX5_land 35 = .ok (.aload_n 0, 1) := by decide +kernel
theorem dX5_land_36 : decode cX5_land 36 = .ok (.getfield 13, 3) := by decide +kernel
theorem dX5_land_39 : decode cX5_land 39 = .ok (.iload_n 1, 1) := by decide +kernel
theorem dX5_land_40 : decode cX5_land 40 = .ok (.aload_n 0, 1) := by decide +kernel
theorem dX5_land_41 : decode cX5_land 41 = .ok (.getfield 19, 3) := by decide +kernel
theorem dX5_land_44 : decode cX5_land 44 = .ok (.iload_n 1, 1) := by decide +kernel
theorem dX5_land_45 : decode cX5_land 45 = .ok (.iaload, 1) := by decide +kernel
theorem dX5_land_46 : decode cX5_land 46 = .ok (.iastore, 1) := by decide +kernel
theorem dX5_land_47 : decode cX5_land 47 = .ok (.aload_n 0, 1) := by decide +kernel
theorem dX5_land_48 : decode cX5_land 48 = .ok (.getfield 16, 3) := by decide +kernel
theorem dX5_land_51 : decode cX5_land 51 = .ok (.iload_n 1, 1) := by decide +kernel
theorem dX5_land_52 : decode cX5_land 52 = .ok (.aload_n 0, 1) := by decide +kernel
theorem dX5_land_53 : decode cX5_land 53 = .ok (.getfield 22, 3) := by decide +kernel
theorem dX5_land_56 : decode cX5_land 56 = .ok (.iload_n 1, 1) := by decide +kernel
theorem dX5_land_57 : decode cX5_land 57 = .ok (.iaload, 1) := by decide +kernel
theorem dX5_land_58 : decode cX5_land 58 = .ok (.iastore, 1) := by decide +kernel
theorem dX5_land_59 : decode cX5_land 59 = .ok (.iinc 1 1, 3) := by decide +kernel
theorem dX5_land_62 : decode cX5_land 62 = .ok (.goto (-35), 3) := by decide +kernel
theorem dX5_land_65 : decode cX5_land 65 = .ok (.iconst 0, 1) := by decide +kernel
theorem dX5_land_66 : decode cX5_land 66 = .ok (.istore_n 1, 1) := by decide +kernel
theorem dX5_land_67 : decode cX5_land 67 = .ok (.iload_n 1, 1) := by decide +kernel
theorem dX5_land_68 : decode cX5_land 68 = .ok (.bipush 52, 2) := by decide +kernel
theorem dX5_land_70 : decode cX5_land 70 = .ok (.if_icmp .ge 21, 3) := by decide +kernel
theorem dX5_land_73 : decode cX5_land 73 = .ok (.aload_n 0, 1) := by decide +kernel
theorem dX5_land_74 : decode cX5_land 74 = .ok (.getfield 28, 3) := by decide +kernel
theorem dX5_land_77 : decode cX5_land 77 = .ok (.iload_n 1, 1) := by decide +kernel
theorem dX5_land_78 : decode cX5_land 78 = .ok (.aload_n 0, 1) := by decide +kernel
theorem dX5_land_79 : decode cX5_land 79 = .ok (.getfield 25, 3) := by decide +kernel
theorem dX5_land_82 : decode cX5_land 82 = .ok (.iload_n 1, 1) := by decide +kernel
theorem dX5_land_83 : decode cX5_land 83 = .ok (.iaload, 1) := by decide +kernel
theorem dX5_land_84 : decode cX5_land 84 = .ok (.iastore, 1) := by decide +kernel
theorem dX5_land_85 : decode cX5_land 85 = .ok (.iinc 1 1, 3) := by decide +kernel
theorem dX5_land_88 : decode cX5_land 88 = .ok (.goto (-21), 3) := by decide +kernel
theorem dX5_land_91 : decode cX5_land 91 = .ok (.aload_n 0, 1) := by decide +kernel
theorem dX5_land_92 : decode cX5_land 92 = .ok (.aload_n 0, 1) := by decide +kernel
theorem dX5_land_93 : decode cX5_land 93 = .ok (.getfield 28, 3) := by decide +kernel
theorem dX5_land_96 : decode cX5_land 96 = .ok (.invokestatic 106, 3) := by decide +kernel
theorem dX5_land_99 : decode cX5_land 99 = .ok (.putfield 110, 3) := by decide +kernel
theorem dX5_land_102 : decode cX5_land 102 = .ok (.aload_n 0, 1) := by decide +kernel
theorem dX5_land_103 : decode cX5_land 103 = .ok (.iconst 0, 1) := by decide +kernel
theorem dX5_land_104 : decode cX5_land 104 = .ok (.putfield 113, 3) := by decide +kernel
theorem dX5_land_107 : decode cX5_land 107 = .ok (.aload_n 0, 1) := by decide +kernel
theorem dX5_land_108 : decode cX5_land 108 = .ok (.getfield 37, 3) := by decide +kernel
theorem dX5_land_111 : decode cX5_land 111 = .ok (.iconst 0, 1) := by decide +kernel
theorem dX5_land_112 : decode cX5_land 112 = .ok (.iconst 0, 1) := by decide +kernel
theorem dX5_land_113 : decode cX5_land 113 = .ok (.bastore, 1) := by decide +kernel
theorem dX5_land_114 : decode cX5_land 114 = .ok (.aload_n 0, 1) := by decide +kernel
theorem dX5_land_115 : decode cX5_land 115 = .ok (.getfield 37, 3) := by decide +kernel
theorem dX5_land_118 : decode cX5_land 118 = .ok (.iconst 1, 1) := by decide +kernel
theorem dX5_land_119 : decode cX5_land 119 = .ok (.iconst 0, 1) := by decide +kernel
theorem dX5_land_120 : decode cX5_land 120 = .ok (.bastore, 1) := by decide +kernel
theorem dX5_land_121 : decode cX5_land 121 = .ok (.bipush 10, 2) := by decide +kernel
theorem dX5_land_123 : decode cX5_land 123 = .ok (.aload_n 0, 1) := by decide +kernel
theorem dX5_land_124 : decode cX5_land 124 = .ok (.getfield 66, 3) := by decide +kernel
theorem dX5_land_127 : decode cX5_land 127 = .ok (.imul, 1) := by decide +kernel
theorem dX5_land_128 : decode cX5_land 128 = .ok (.aload_n 0, 1) := by decide +kernel
theorem dX5_land_129 : decode cX5_land 129 = .ok (.getfield 28, 3) := by decide +kernel
theorem dX5_land_132 : decode cX5_land 132 = .ok (.bipush 48, 2) := by decide +kernel
theorem dX5_land_134 : decode cX5_land 134 = .ok (.iaload, 1) := by decide +kernel
theorem dX5_land_135 : decode cX5_land 135 = .ok (.iadd, 1) := by decide +kernel
theorem dX5_land_136 : decode cX5_land 136 = .ok (.ireturn, 1) := by decide +kernel
theorem dX5_add_0 : decode cX5_add 0 = .ok (.bipush 6, 2) := by decide +kernel
theorem dX5_add_2 : decode cX5_add 2 = .ok (.aload_n 0, 1) := by decide +kernel
theorem dX5_add_3 : decode cX5_add 3 = .ok (.bipush 48, 2) := by decide +kernel
theorem dX5_add_5 : decode cX5_add 5 = .ok (.iaload, 1) := by decide +kernel
theorem dX5_add_6 : decode cX5_add 6 = .ok (.imul, 1) := by decide +kernel
theorem dX5_add_7 : decode cX5_add 7 = .ok (.istore 6, 2) := by decide +kernel
theorem dX5_add_9 : decode cX5_add 9 = .ok (.aload_n 0, 1) := by decide +kernel
theorem dX5_add_10 : decode cX5_add 10 = .ok (.iload 6, 2) := by decide +kernel
theorem dX5_add_12 : decode cX5_add 12 = .ok (.iload_n 1, 1) := by decide +kernel
theorem dX5_add_13 : decode cX5_add 13 = .ok (.iastore, 1) := by decide +kernel
theorem dX5_add_14 : decode cX5_add 14 = .ok (.aload_n 0, 1) := by decide +kernel
theorem dX5_add_15 : decode cX5_add 15 = .ok (.iload 6, 2) := by decide +kernel
theorem dX5_add_17 : decode cX5_add 17 = .ok (.iconst 1, 1) := by decide +kernel
theorem dX5_add_18 : decode cX5_add 18 = .ok (.iadd, 1) := by decide +kernel
theorem dX5_add_19 : decode cX5_add 19 = .ok (.iload_n 2, 1) := by decide +kernel
theorem dX5_add_20 : decode cX5_add 20 = .ok (.iastore, 1) := by decide +kernel
theorem dX5_add_21 : decode cX5_add 21 = .ok (.aload_n 0, 1) := by decide +kernel
theorem dX5_add_22 : decode cX5_add 22 = .ok (.iload 6, 2) := by decide +kernel
theorem dX5_add_24 : decode cX5_add 24 = .ok (.iconst 2, 1) := by decide +kernel
theorem dX5_add_25 : decode cX5_add 25 = .ok (.iadd, 1) := by decide +kernel
theorem dX5_add_26 : decode cX5_add 26 = .ok (.iload_n 3, 1) := by decide +kernel
theorem dX5_add_27 : decode cX5_add 27 = .ok (.iastore, 1) := by decide +kernel
theorem dX5_add_28 : decode cX5_add 28 = .ok (.aload_n 0, 1) := by decide +kernel
theorem dX5_add_29 : decode cX5_add 29 = .ok (.iload 6, 2) := by decide +kernel
theorem dX5_add_31 : decode cX5_add 31 = .ok (.iconst 3, 1) := by decide +kernel
theorem dX5_add_32 : decode cX5_add 32 = .ok (.iadd, 1) := by decide +kernel
theorem dX5_add_33 : decode cX5_add 33 = .ok (.iload 4, 2) := by decide +kernel
theorem dX5_add_35 : decode cX5_add 35 = .ok (.iastore, 1) := by decide +kernel
theorem dX5_add_36 : decode cX5_add 36 = .ok (.aload_n 0, 1) := by decide +kernel
theorem dX5_add_37 : decode cX5_add 37 = .ok (.iload 6, 2) := by decide +kernel
theorem dX5_add_39 : decode cX5_add 39 = .ok (.iconst 4, 1) := by decide +kernel
theorem dX5_add_40 : decode cX5_add 40 = .ok (.iadd, 1) := by decide +kernel
theorem dX5_add_41 : decode cX5_add 41 = .ok (.iconst 0, 1) := by decide +kernel
theorem dX5_add_42 : decode cX5_add 42 = .ok (.iastore, 1) := by decide +kernel
theorem dX5_add_43 : decode cX5_add 43 = .ok (.aload_n 0, 1) := by decide +kernel
theorem dX5_add_44 : decode cX5_add 44 = .ok (.iload 6, 2) := by decide +kernel
theorem dX5_add_46 : decode cX5_add 46 = .ok (.iconst 5, 1) := by decide +kernel
theorem dX5_add_47 : decode cX5_add 47 = .ok (.iadd, 1) := by decide +kernel
theorem dX5_add_48 : decode cX5_add 48 = .ok (.iload 5, 2) := by decide +kernel
theorem dX5_add_50 : decode cX5_add 50 = .ok (.iastore, 1) := by decide +kernel
theorem dX5_add_51 : decode cX5_add 51 = .ok (.aload_n 0, 1) := by decide +kernel
theorem dX5_add_52 : decode cX5_add 52 = .ok (.bipush 48, 2) := by decide +kernel
theorem dX5_add_54 : decode cX5_add 54 = .ok (.dup2, 1) := by decide +kernel
theorem dX5_add_55 : decode cX5_add 55 = .ok (.iaload, 1) := by decide +kernel
theorem dX5_add_56 : decode cX5_add 56 = .ok (.iconst 1, 1) := by decide +kernel
theorem dX5_add_57 : decode cX5_add 57 = .ok (.iadd, 1) := by decide +kernel
theorem dX5_add_58 : decode cX5_add 58 = .ok (.iastore, 1) := by decide +kernel
theorem dX5_add_59 : decode cX5_add 59 = .ok (.return_, 1) := by decide +kernel
theorem dX5_lawsOf_0 : decode cX5_lawsOf 0 = .ok (.iconst 0, 1) := by decide +kernel
theorem dX5_lawsOf_1 : decode cX5_lawsOf 1 = .ok (.istore_n 1, 1) := by decide +kernel
theorem dX5_lawsOf_2 : decode cX5_lawsOf 2 = .ok (.iconst 0, 1) := by decide +kernel
theorem dX5_lawsOf_3 : decode cX5_lawsOf 3 = .ok (.istore_n 2, 1) := by decide +kernel
theorem dX5_lawsOf_4 : decode cX5_lawsOf 4 = .ok (.iload_n 2, 1) := by decide +kernel
theorem dX5_lawsOf_5 : decode cX5_lawsOf 5 = .ok (.aload_n 0, 1) := by decide +kernel
theorem dX5_lawsOf_6 : decode cX5_lawsOf 6 = .ok (.bipush 48, 2) := by decide +kernel
theorem dX5_lawsOf_8 : decode cX5_lawsOf 8 = .ok (.iaload, 1) := by decide +kernel
theorem dX5_lawsOf_9 : decode cX5_lawsOf 9 = .ok (.if_icmp .ge 20, 3) := by decide +kernel
theorem dX5_lawsOf_12 : decode cX5_lawsOf 12 = .ok (.iload_n 1, 1) := by decide +kernel
theorem dX5_lawsOf_13 : decode cX5_lawsOf 13 = .ok (.iconst 1, 1) := by decide +kernel
theorem dX5_lawsOf_14 : decode cX5_lawsOf 14 = .ok (.aload_n 0, 1) := by decide +kernel
theorem dX5_lawsOf_15 : decode cX5_lawsOf 15 = .ok (.bipush 6, 2) := by decide +kernel
theorem dX5_lawsOf_17 : decode cX5_lawsOf 17 = .ok (.iload_n 2, 1) := by decide +kernel
theorem dX5_lawsOf_18 : decode cX5_lawsOf 18 = .ok (.imul, 1) := by decide +kernel
theorem dX5_lawsOf_19 : decode cX5_lawsOf 19 = .ok (.iaload, 1) := by decide +kernel
theorem dX5_lawsOf_20 : decode cX5_lawsOf 20 = .ok (.ishl, 1) := by decide +kernel
theorem dX5_lawsOf_21 : decode cX5_lawsOf 21 = .ok (.ior, 1) := by decide +kernel
theorem dX5_lawsOf_22 : decode cX5_lawsOf 22 = .ok (.istore_n 1, 1) := by decide +kernel
theorem dX5_lawsOf_23 : decode cX5_lawsOf 23 = .ok (.iinc 2 1, 3) := by decide +kernel
theorem dX5_lawsOf_26 : decode cX5_lawsOf 26 = .ok (.goto (-22), 3) := by decide +kernel
theorem dX5_lawsOf_29 : decode cX5_lawsOf 29 = .ok (.iload_n 1, 1) := by decide +kernel
theorem dX5_lawsOf_30 : decode cX5_lawsOf 30 = .ok (.ireturn, 1) := by decide +kernel
theorem dX5_about_0 : decode cX5_about 0 = .ok (.aload_n 0, 1) := by decide +kernel
theorem dX5_about_1 : decode cX5_about 1 = .ok (.iconst 0, 1) := by decide +kernel
theorem dX5_about_2 : decode cX5_about 2 = .ok (.putfield 62, 3) := by decide +kernel
theorem dX5_about_5 : decode cX5_about 5 = .ok (.iload_n 1, 1) := by decide +kernel
theorem dX5_about_6 : decode cX5_about 6 = .ok (.tableswitch 110 0 8 #[50, 55, 63, 71, 79, 87, 92, 100, 105], 50) := by decide +kernel
theorem dX5_about_56 : decode cX5_about 56 = .ok (.aload_n 0, 1) := by decide +kernel
theorem dX5_about_57 : decode cX5_about 57 = .ok (.getfield 66, 3) := by decide +kernel
theorem dX5_about_60 : decode cX5_about 60 = .ok (.ireturn, 1) := by decide +kernel
theorem dX5_about_61 : decode cX5_about 61 = .ok (.aload_n 0, 1) := by decide +kernel
theorem dX5_about_62 : decode cX5_about 62 = .ok (.getfield 28, 3) := by decide +kernel
theorem dX5_about_65 : decode cX5_about 65 = .ok (.bipush 48, 2) := by decide +kernel
theorem dX5_about_67 : decode cX5_about 67 = .ok (.iaload, 1) := by decide +kernel
theorem dX5_about_68 : decode cX5_about 68 = .ok (.ireturn, 1) := by decide +kernel
theorem dX5_about_69 : decode cX5_about 69 = .ok (.aload_n 0, 1) := by decide +kernel
theorem dX5_about_70 : decode cX5_about 70 = .ok (.getfield 28, 3) := by decide +kernel
theorem dX5_about_73 : decode cX5_about 73 = .ok (.bipush 50, 2) := by decide +kernel
theorem dX5_about_75 : decode cX5_about 75 = .ok (.iaload, 1) := by decide +kernel
theorem dX5_about_76 : decode cX5_about 76 = .ok (.ireturn, 1) := by decide +kernel
theorem dX5_about_77 : decode cX5_about 77 = .ok (.aload_n 0, 1) := by decide +kernel
theorem dX5_about_78 : decode cX5_about 78 = .ok (.getfield 28, 3) := by decide +kernel
theorem dX5_about_81 : decode cX5_about 81 = .ok (.bipush 51, 2) := by decide +kernel
theorem dX5_about_83 : decode cX5_about 83 = .ok (.iaload, 1) := by decide +kernel
theorem dX5_about_84 : decode cX5_about 84 = .ok (.ireturn, 1) := by decide +kernel
theorem dX5_about_85 : decode cX5_about 85 = .ok (.aload_n 0, 1) := by decide +kernel
theorem dX5_about_86 : decode cX5_about 86 = .ok (.getfield 28, 3) := by decide +kernel
theorem dX5_about_89 : decode cX5_about 89 = .ok (.bipush 49, 2) := by decide +kernel
theorem dX5_about_91 : decode cX5_about 91 = .ok (.iaload, 1) := by decide +kernel
theorem dX5_about_92 : decode cX5_about 92 = .ok (.ireturn, 1) := by decide +kernel
theorem dX5_about_93 : decode cX5_about 93 = .ok (.aload_n 0, 1) := by decide +kernel
theorem dX5_about_94 : decode cX5_about 94 = .ok (.getfield 110, 3) := by decide +kernel
theorem dX5_about_97 : decode cX5_about 97 = .ok (.ireturn, 1) := by decide +kernel
theorem dX5_about_98 : decode cX5_about 98 = .ok (.aload_n 0, 1) := by decide +kernel
theorem dX5_about_99 : decode cX5_about 99 = .ok (.getfield 28, 3) := by decide +kernel
theorem dX5_about_102 : decode cX5_about 102 = .ok (.invokestatic 106, 3) := by decide +kernel
theorem dX5_about_105 : decode cX5_about 105 = .ok (.ireturn, 1) := by decide +kernel
theorem dX5_about_106 : decode cX5_about 106 = .ok (.aload_n 0, 1) := by decide +kernel
theorem dX5_about_107 : decode cX5_about 107 = .ok (.getfield 113, 3) := by decide +kernel
theorem dX5_about_110 : decode cX5_about 110 = .ok (.ireturn, 1) := by decide +kernel
theorem dX5_about_111 : decode cX5_about 111 = .ok (.aload_n 0, 1) := by decide +kernel
theorem dX5_about_112 : decode cX5_about 112 = .ok (.getfield 75, 3) := by decide +kernel
theorem dX5_about_115 : decode cX5_about 115 = .ok (.ireturn, 1) := by decide +kernel
theorem dX5_about_116 : decode cX5_about 116 = .ok (.bipush (-2), 2) := by decide +kernel
theorem dX5_about_118 : decode cX5_about 118 = .ok (.ireturn, 1) := by decide +kernel
theorem dX5_well_0 : decode cX5_well 0 = .ok (.aload_n 0, 1) := by decide +kernel
theorem dX5_well_1 : decode cX5_well 1 = .ok (.iconst 0, 1) := by decide +kernel
theorem dX5_well_2 : decode cX5_well 2 = .ok (.putfield 62, 3) := by decide +kernel
theorem dX5_well_5 : decode cX5_well 5 = .ok (.aload_n 0, 1) := by decide +kernel
theorem dX5_well_6 : decode cX5_well 6 = .ok (.iload_n 1, 1) := by decide +kernel
theorem dX5_well_7 : decode cX5_well 7 = .ok (.invokevirtual 116, 3) := by decide +kernel
theorem dX5_well_10 : decode cX5_well 10 = .ok (.ifCond .eq 5, 3) := by decide +kernel
theorem dX5_well_13 : decode cX5_well 13 = .ok (.iconst (-1), 1) := by decide +kernel
theorem dX5_well_14 : decode cX5_well 14 = .ok (.ireturn, 1) := by decide +kernel
theorem dX5_well_15 : decode cX5_well 15 = .ok (.iconst 0, 1) := by decide +kernel
theorem dX5_well_16 : decode cX5_well 16 = .ok (.istore_n 3, 1) := by decide +kernel
theorem dX5_well_17 : decode cX5_well 17 = .ok (.iconst 0, 1) := by decide +kernel
theorem dX5_well_18 : decode cX5_well 18 = .ok (.istore 4, 2) := by decide +kernel
theorem dX5_well_20 : decode cX5_well 20 = .ok (.iload 4, 2) := by decide +kernel
theorem dX5_well_22 : decode cX5_well 22 = .ok (.aload_n 0, 1) := by decide +kernel
theorem dX5_well_23 : decode cX5_well 23 = .ok (.getfield 28, 3) := by decide +kernel
theorem dX5_well_26 : decode cX5_well 26 = .ok (.bipush 48, 2) := by decide +kernel
theorem dX5_well_28 : decode cX5_well 28 = .ok (.iaload, 1) := by decide +kernel
theorem dX5_well_29 : decode cX5_well 29 = .ok (.if_icmp .ge 36, 3) := by decide +kernel
theorem dX5_well_32 : decode cX5_well 32 = .ok (.iload_n 3, 1) := by decide +kernel
theorem dX5_well_33 : decode cX5_well 33 = .ok (.aload_n 0, 1) := by decide +kernel
theorem dX5_well_34 : decode cX5_well 34 = .ok (.getfield 28, 3) := by decide +kernel
theorem dX5_well_37 : decode cX5_well 37 = .ok (.bipush 6, 2) := by decide +kernel
theorem dX5_well_39 : decode cX5_well 39 = .ok (.iload 4, 2) := by decide +kernel
theorem dX5_well_41 : decode cX5_well 41 = .ok (.imul, 1) := by decide +kernel
theorem dX5_well_42 : decode cX5_well 42 = .ok (.iconst 1, 1) := by decide +kernel
theorem dX5_well_43 : decode cX5_well 43 = .ok (.iadd, 1) := by decide +kernel
theorem dX5_well_44 : decode cX5_well 44 = .ok (.iaload, 1) := by decide +kernel
theorem dX5_well_45 : decode cX5_well 45 = .ok (.iload_n 1, 1) := by decide +kernel
theorem dX5_well_46 : decode cX5_well 46 = .ok (.if_icmp .ne 10, 3) := by decide +kernel
theorem dX5_well_49 : decode cX5_well 49 = .ok (.iconst 1, 1) := by decide +kernel
theorem dX5_well_50 : decode cX5_well 50 = .ok (.iload 4, 2) := by decide +kernel
theorem dX5_well_52 : decode cX5_well 52 = .ok (.ishl, 1) := by decide +kernel
theorem dX5_well_53 : decode cX5_well 53 = .ok (.goto 4, 3) := by decide +kernel
theorem dX5_well_56 : decode cX5_well 56 = .ok (.iconst 0, 1) := by decide +kernel
theorem dX5_well_57 : decode cX5_well 57 = .ok (.ior, 1) := by decide +kernel
theorem dX5_well_58 : decode cX5_well 58 = .ok (.istore_n 3, 1) := by decide +kernel
theorem dX5_well_59 : decode cX5_well 59 = .ok (.iinc 4 1, 3) := by decide +kernel
theorem dX5_well_62 : decode cX5_well 62 = .ok (.goto (-42), 3) := by decide +kernel
theorem dX5_well_65 : decode cX5_well 65 = .ok (.iload_n 2, 1) := by decide +kernel
theorem dX5_well_66 : decode cX5_well 66 = .ok (.ifCond .ne 12, 3) := by decide +kernel
theorem dX5_well_69 : decode cX5_well 69 = .ok (.aload_n 0, 1) := by decide +kernel
theorem dX5_well_70 : decode cX5_well 70 = .ok (.getfield 13, 3) := by decide +kernel
theorem dX5_well_73 : decode cX5_well 73 = .ok (.iload_n 1, 1) := by decide +kernel
theorem dX5_well_74 : decode cX5_well 74 = .ok (.iaload, 1) := by decide +kernel
theorem dX5_well_75 : decode cX5_well 75 = .ok (.goto 47, 3) := by decide +kernel
theorem dX5_well_78 : decode cX5_well 78 = .ok (.iload_n 2, 1) := by decide +kernel
theorem dX5_well_79 : decode cX5_well 79 = .ok (.iconst 1, 1) := by decide +kernel
theorem dX5_well_80 : decode cX5_well 80 = .ok (.if_icmp .ne 12, 3) := by decide +kernel
theorem dX5_well_83 : decode cX5_well 83 = .ok (.aload_n 0, 1) := by decide +kernel
theorem dX5_well_84 : decode cX5_well 84 = .ok (.getfield 16, 3) := by decide +kernel
theorem dX5_well_87 : decode cX5_well 87 = .ok (.iload_n 1, 1) := by decide +kernel
theorem dX5_well_88 : decode cX5_well 88 = .ok (.iaload, 1) := by decide +kernel
theorem dX5_well_89 : decode cX5_well 89 = .ok (.goto 33, 3) := by decide +kernel
theorem dX5_well_92 : decode cX5_well 92 = .ok (.iload_n 2, 1) := by decide +kernel
theorem dX5_well_93 : decode cX5_well 93 = .ok (.iconst 2, 1) := by decide +kernel
theorem dX5_well_94 : decode cX5_well 94 = .ok (.if_icmp .ne 17, 3) := by decide +kernel
theorem dX5_well_97 : decode cX5_well 97 = .ok (.aload_n 0, 1) := by decide +kernel
theorem dX5_well_98 : decode cX5_well 98 = .ok (.getfield 28, 3) := by decide +kernel
theorem dX5_well_101 : decode cX5_well 101 = .ok (.bipush 49, 2) := by decide +kernel
theorem dX5_well_103 : decode cX5_well 103 = .ok (.iaload, 1) := by decide +kernel
theorem dX5_well_104 : decode cX5_well 104 = .ok (.iload_n 1, 1) := by decide +kernel
theorem dX5_well_105 : decode cX5_well 105 = .ok (.ishr, 1) := by decide +kernel
theorem dX5_well_106 : decode cX5_well 106 = .ok (.iconst 1, 1) := by decide +kernel
theorem dX5_well_107 : decode cX5_well 107 = .ok (.iand, 1) := by decide +kernel
theorem dX5_well_108 : decode cX5_well 108 = .ok (.goto 14, 3) := by decide +kernel
theorem dX5_well_111 : decode cX5_well 111 = .ok (.iload_n 2, 1) := by decide +kernel
theorem dX5_well_112 : decode cX5_well 112 = .ok (.iconst 3, 1) := by decide +kernel
theorem dX5_well_113 : decode cX5_well 113 = .ok (.if_icmp .ne 7, 3) := by decide +kernel
theorem dX5_well_116 : decode cX5_well 116 = .ok (.iload_n 3, 1) := by decide +kernel
theorem dX5_well_117 : decode cX5_well 117 = .ok (.goto 5, 3) := by decide +kernel
theorem dX5_well_120 : decode cX5_well 120 = .ok (.bipush (-2), 2) := by decide +kernel
theorem dX5_well_122 : decode cX5_well 122 = .ok (.ireturn, 1) := by decide +kernel
theorem dX5_song_0 : decode cX5_song 0 = .ok (.aload_n 0, 1) := by decide +kernel
theorem dX5_song_1 : decode cX5_song 1 = .ok (.iconst 0, 1) := by decide +kernel
theorem dX5_song_2 : decode cX5_song 2 = .ok (.putfield 62, 3) := by decide +kernel
theorem dX5_song_5 : decode cX5_song 5 = .ok (.aload_n 0, 1) := by decide +kernel
theorem dX5_song_6 : decode cX5_song 6 = .ok (.iload_n 1, 1) := by decide +kernel
theorem dX5_song_7 : decode cX5_song 7 = .ok (.invokevirtual 120, 3) := by decide +kernel
theorem dX5_song_10 : decode cX5_song 10 = .ok (.ifCond .eq 5, 3) := by decide +kernel
theorem dX5_song_13 : decode cX5_song 13 = .ok (.iconst (-1), 1) := by decide +kernel
theorem dX5_song_14 : decode cX5_song 14 = .ok (.ireturn, 1) := by decide +kernel
theorem dX5_song_15 : decode cX5_song 15 = .ok (.iload_n 2, 1) := by decide +kernel
theorem dX5_song_16 : decode cX5_song 16 = .ok (.i2l, 1) := by decide +kernel
theorem dX5_song_17 : decode cX5_song 17 = .ok (.lconst 0, 1) := by decide +kernel
theorem dX5_song_18 : decode cX5_song 18 = .ok (.ldc2_w 123, 3) := by decide +kernel
theorem dX5_song_21 : decode cX5_song 21 = .ok (.invokestatic 69, 3) := by decide +kernel
theorem dX5_song_24 : decode cX5_song 24 = .ok (.ifCond .eq 17, 3) := by decide +kernel
theorem dX5_song_27 : decode cX5_song 27 = .ok (.aload_n 0, 1) := by decide +kernel
theorem dX5_song_28 : decode cX5_song 28 = .ok (.getfield 28, 3) := by decide +kernel
theorem dX5_song_31 : decode cX5_song 31 = .ok (.bipush 6, 2) := by decide +kernel
theorem dX5_song_33 : decode cX5_song 33 = .ok (.iload_n 1, 1) := by decide +kernel
theorem dX5_song_34 : decode cX5_song 34 = .ok (.imul, 1) := by decide +kernel
theorem dX5_song_35 : decode cX5_song 35 = .ok (.iload_n 2, 1) := by decide +kernel
theorem dX5_song_36 : decode cX5_song 36 = .ok (.iadd, 1) := by decide +kernel
theorem dX5_song_37 : decode cX5_song 37 = .ok (.iaload, 1) := by decide +kernel
theorem dX5_song_38 : decode cX5_song 38 = .ok (.goto 5, 3) := by decide +kernel
theorem dX5_song_41 : decode cX5_song 41 = .ok (.bipush (-2), 2) := by decide +kernel
theorem dX5_song_43 : decode cX5_song 43 = .ok (.ireturn, 1) := by decide +kernel
theorem dX5_note_0 : decode cX5_note 0 = .ok (.aload_n 0, 1) := by decide +kernel
theorem dX5_note_1 : decode cX5_note 1 = .ok (.getfield 113, 3) := by decide +kernel
theorem dX5_note_4 : decode cX5_note 4 = .ok (.bipush 12, 2) := by decide +kernel
theorem dX5_note_6 : decode cX5_note 6 = .ok (.if_icmp .ne 43, 3) := by decide +kernel
theorem dX5_note_9 : decode cX5_note 9 = .ok (.iconst 0, 1) := by decide +kernel
theorem dX5_note_10 : decode cX5_note 10 = .ok (.istore_n 1, 1) := by decide +kernel
theorem dX5_note_11 : decode cX5_note 11 = .ok (.iload_n 1, 1) := by decide +kernel
theorem dX5_note_12 : decode cX5_note 12 = .ok (.sipush 572, 3) := by decide +kernel
theorem dX5_note_15 : decode cX5_note 15 = .ok (.if_icmp .ge 24, 3) := by decide +kernel
theorem dX5_note_18 : decode cX5_note 18 = .ok (.aload_n 0, 1) := by decide +kernel
theorem dX5_note_19 : decode cX5_note 19 = .ok (.getfield 31, 3) := by decide +kernel
theorem dX5_note_22 : decode cX5_note 22 = .ok (.iload_n 1, 1) := by decide +kernel
theorem dX5_note_23 : decode cX5_note 23 = .ok (.aload_n 0, 1) := by decide +kernel
theorem dX5_note_24 : decode cX5_note 24 = .ok (.getfield 31, 3) := by decide +kernel
theorem dX5_note_27 : decode cX5_note 27 = .ok (.iload_n 1, 1) := by decide +kernel
theorem dX5_note_28 : decode cX5_note 28 = .ok (.bipush 52, 2) := by decide +kernel
theorem dX5_note_30 : decode cX5_note 30 = .ok (.iadd, 1) := by decide +kernel
theorem dX5_note_31 : decode cX5_note 31 = .ok (.iaload, 1) := by decide +kernel
theorem dX5_note_32 : decode cX5_note 32 = .ok (.iastore, 1) := by decide +kernel
theorem dX5_note_33 : decode cX5_note 33 = .ok (.iinc 1 1, 3) := by decide +kernel
theorem dX5_note_36 : decode cX5_note 36 = .ok (.goto (-25), 3) := by decide +kernel
theorem dX5_note_39 : decode cX5_note 39 = .ok (.aload_n 0, 1) := by decide +kernel
theorem dX5_note_40 : decode cX5_note 40 = .ok (.dup, 1) := by decide +kernel
theorem dX5_note_41 : decode cX5_note 41 = .ok (.getfield 113, 3) := by decide +kernel
theorem dX5_note_44 : decode cX5_note 44 = .ok (.iconst 1, 1) := by decide +kernel
theorem dX5_note_45 : decode cX5_note 45 = .ok (.isub, 1) := by decide +kernel
theorem dX5_note_46 : decode cX5_note 46 = .ok (.putfield 113, 3) := by decide +kernel
theorem dX5_note_49 : decode cX5_note 49 = .ok (.iconst 0, 1) := by decide +kernel
theorem dX5_note_50 : decode cX5_note 50 = .ok (.istore_n 1, 1) := by decide +kernel
theorem dX5_note_51 : decode cX5_note 51 = .ok (.iload_n 1, 1) := by decide +kernel
theorem dX5_note_52 : decode cX5_note 52 = .ok (.bipush 52, 2) := by decide +kernel
theorem dX5_note_54 : decode cX5_note 54 = .ok (.if_icmp .ge 29, 3) := by decide +kernel
theorem dX5_note_57 : decode cX5_note 57 = .ok (.aload_n 0, 1) := by decide +kernel
theorem dX5_note_58 : decode cX5_note 58 = .ok (.getfield 31, 3) := by decide +kernel
theorem dX5_note_61 : decode cX5_note 61 = .ok (.bipush 52, 2) := by decide +kernel
theorem dX5_note_63 : decode cX5_note 63 = .ok (.aload_n 0, 1) := by decide +kernel
theorem dX5_note_64 : decode cX5_note 64 = .ok (.getfield 113, 3) := by decide +kernel
theorem dX5_note_67 : decode cX5_note 67 = .ok (.imul, 1) := by decide +kernel
theorem dX5_note_68 : decode cX5_note 68 = .ok (.iload_n 1, 1) := by decide +kernel
theorem dX5_note_69 : decode cX5_note 69 = .ok (.iadd, 1) := by decide +kernel
theorem dX5_note_70 : decode cX5_note 70 = .ok (.aload_n 0, 1) := by decide +kernel
theorem dX5_note_71 : decode cX5_note 71 = .ok (.getfield 28, 3) := by decide +kernel
theorem dX5_note_74 : decode cX5_note 74 = .ok (.iload_n 1, 1) := by decide +kernel
theorem dX5_note_75 : decode cX5_note 75 = .ok (.iaload, 1) := by decide +kernel
theorem dX5_note_76 : decode cX5_note 76 = .ok (.iastore, 1) := by decide +kernel
theorem dX5_note_77 : decode cX5_note 77 = .ok (.iinc 1 1, 3) := by decide +kernel
theorem dX5_note_80 : decode cX5_note 80 = .ok (.goto (-29), 3) := by decide +kernel
theorem dX5_note_83 : decode cX5_note 83 = .ok (.aload_n 0, 1) := by decide +kernel
theorem dX5_note_84 : decode cX5_note 84 = .ok (.dup, 1) := by decide +kernel
theorem dX5_note_85 : decode cX5_note 85 = .ok (.getfield 113, 3) := by decide +kernel
theorem dX5_note_88 : decode cX5_note 88 = .ok (.iconst 1, 1) := by decide +kernel
theorem dX5_note_89 : decode cX5_note 89 = .ok (.iadd, 1) := by decide +kernel
theorem dX5_note_90 : decode cX5_note 90 = .ok (.putfield 113, 3) := by decide +kernel
theorem dX5_note_93 : decode cX5_note 93 = .ok (.return_, 1) := by decide +kernel
theorem dX5_copy_0 : decode cX5_copy 0 = .ok (.iconst 0, 1) := by decide +kernel
theorem dX5_copy_1 : decode cX5_copy 1 = .ok (.istore_n 2, 1) := by decide +kernel
theorem dX5_copy_2 : decode cX5_copy 2 = .ok (.iload_n 2, 1) := by decide +kernel
theorem dX5_copy_3 : decode cX5_copy 3 = .ok (.bipush 52, 2) := by decide +kernel
theorem dX5_copy_5 : decode cX5_copy 5 = .ok (.if_icmp .ge 15, 3) := by decide +kernel
theorem dX5_copy_8 : decode cX5_copy 8 = .ok (.aload_n 1, 1) := by decide +kernel
theorem dX5_copy_9 : decode cX5_copy 9 = .ok (.iload_n 2, 1) := by decide +kernel
theorem dX5_copy_10 : decode cX5_copy 10 = .ok (.aload_n 0, 1) := by decide +kernel
theorem dX5_copy_11 : decode cX5_copy 11 = .ok (.iload_n 2, 1) := by decide +kernel
theorem dX5_copy_12 : decode cX5_copy 12 = .ok (.iaload, 1) := by decide +kernel
theorem dX5_copy_13 : decode cX5_copy 13 = .ok (.iastore, 1) := by decide +kernel
theorem dX5_copy_14 : decode cX5_copy 14 = .ok (.iinc 2 1, 3) := by decide +kernel
theorem dX5_copy_17 : decode cX5_copy 17 = .ok (.goto (-15), 3) := by decide +kernel
theorem dX5_copy_20 : decode cX5_copy 20 = .ok (.return_, 1) := by decide +kernel
theorem dX5_wear_0 : decode cX5_wear 0 = .ok (.aload_n 1, 1) := by decide +kernel
theorem dX5_wear_1 : decode cX5_wear 1 = .ok (.bipush 48, 2) := by decide +kernel
theorem dX5_wear_3 : decode cX5_wear 3 = .ok (.iaload, 1) := by decide +kernel
theorem dX5_wear_4 : decode cX5_wear 4 = .ok (.istore 4, 2) := by decide +kernel
theorem dX5_wear_6 : decode cX5_wear 6 = .ok (.bipush (-9), 2) := by decide +kernel
theorem dX5_wear_8 : decode cX5_wear 8 = .ok (.istore 5, 2) := by decide +kernel
theorem dX5_wear_10 : decode cX5_wear 10 = .ok (.aload_n 1, 1) := by decide +kernel
theorem dX5_wear_11 : decode cX5_wear 11 = .ok (.bipush 48, 2) := by decide +kernel
theorem dX5_wear_13 : decode cX5_wear 13 = .ok (.iconst 0, 1) := by decide +kernel
theorem dX5_wear_14 : decode cX5_wear 14 = .ok (.iastore, 1) := by decide +kernel
theorem dX5_wear_15 : decode cX5_wear 15 = .ok (.iconst 0, 1) := by decide +kernel
theorem dX5_wear_16 : decode cX5_wear 16 = .ok (.istore 6, 2) := by decide +kernel
theorem dX5_wear_18 : decode cX5_wear 18 = .ok (.iload 6, 2) := by decide +kernel
theorem dX5_wear_20 : decode cX5_wear 20 = .ok (.iload 4, 2) := by decide +kernel
theorem dX5_wear_22 : decode cX5_wear 22 = .ok (.if_icmp .ge 129, 3) := by decide +kernel
theorem dX5_wear_25 : decode cX5_wear 25 = .ok (.aload_n 1, 1) := by decide +kernel
theorem dX5_wear_26 : decode cX5_wear 26 = .ok (.bipush 6, 2) := by decide +kernel
theorem dX5_wear_28 : decode cX5_wear 28 = .ok (.iload 6, 2) := by decide +kernel
theorem dX5_wear_30 : decode cX5_wear 30 = .ok (.imul, 1) := by decide +kernel
theorem dX5_wear_31 : decode cX5_wear 31 = .ok (.iconst 2, 1) := by decide +kernel
theorem dX5_wear_32 : decode cX5_wear 32 = .ok (.iadd, 1) := by decide +kernel
theorem dX5_wear_33 : decode cX5_wear 33 = .ok (.iaload, 1) := by decide +kernel
theorem dX5_wear_34 : decode cX5_wear 34 = .ok (.aload_n 0, 1) := by decide +kernel
theorem dX5_wear_35 : decode cX5_wear 35 = .ok (.getfield 50, 3) := by decide +kernel
theorem dX5_wear_38 : decode cX5_wear 38 = .ok (.iload 6, 2) := by decide +kernel
theorem dX5_wear_40 : decode cX5_wear 40 = .ok (.iaload, 1) := by decide +kernel
theorem dX5_wear_41 : decode cX5_wear 41 = .ok (.if_icmp .le 104, 3) := by decide +kernel
theorem dX5_wear_44 : decode cX5_wear 44 = .ok (.bipush 6, 2) := by decide +kernel
theorem dX5_wear_46 : decode cX5_wear 46 = .ok (.aload_n 1, 1) := by decide +kernel
theorem dX5_wear_47 : decode cX5_wear 47 = .ok (.bipush 48, 2) := by decide +kernel
theorem dX5_wear_49 : decode cX5_wear 49 = .ok (.iaload, 1) := by decide +kernel
theorem dX5_wear_50 : decode cX5_wear 50 = .ok (.imul, 1) := by decide +kernel
theorem dX5_wear_51 : decode cX5_wear 51 = .ok (.istore 7, 2) := by decide +kernel
theorem dX5_wear_53 : decode cX5_wear 53 = .ok (.iconst 0, 1) := by decide +kernel
theorem dX5_wear_54 : decode cX5_wear 54 = .ok (.istore 8, 2) := by decide +kernel
theorem dX5_wear_56 : decode cX5_wear 56 = .ok (.iload 8, 2) := by decide +kernel
theorem dX5_wear_58 : decode cX5_wear 58 = .ok (.bipush 6, 2) := by decide +kernel
theorem dX5_wear_60 : decode cX5_wear 60 = .ok (.if_icmp .ge 26, 3) := by decide +kernel
theorem dX5_wear_63 : decode cX5_wear 63 = .ok (.aload_n 1, 1) := by decide +kernel
theorem dX5_wear_64 : decode cX5_wear 64 = .ok (.iload 7, 2) := by decide +kernel
theorem dX5_wear_66 : decode cX5_wear 66 = .ok (.iload 8, 2) := by decide +kernel
theorem dX5_wear_68 : decode cX5_wear 68 = .ok (.iadd, 1) := by decide +kernel
theorem dX5_wear_69 : decode cX5_wear 69 = .ok (.aload_n 1, 1) := by decide +kernel
theorem dX5_wear_70 : decode cX5_wear 70 = .ok (.bipush 6, 2) := by decide +kernel
theorem dX5_wear_72 : decode cX5_wear 72 = .ok (.iload 6, 2) := by decide +kernel
theorem dX5_wear_74 : decode cX5_wear 74 = .ok (.imul, 1) := by decide +kernel
theorem dX5_wear_75 : decode cX5_wear 75 = .ok (.iload 8, 2) := by decide +kernel
theorem dX5_wear_77 : decode cX5_wear 77 = .ok (.iadd, 1) := by decide +kernel
theorem dX5_wear_78 : decode cX5_wear 78 = .ok (.iaload, 1) := by decide +kernel
theorem dX5_wear_79 : decode cX5_wear 79 = .ok (.iastore, 1) := by decide +kernel
theorem dX5_wear_80 : decode cX5_wear 80 = .ok (.iinc 8 1, 3) := by decide +kernel
theorem dX5_wear_83 : decode cX5_wear 83 = .ok (.goto (-27), 3) := by decide +kernel
theorem dX5_wear_86 : decode cX5_wear 86 = .ok (.aload_n 1, 1) := by decide +kernel
theorem dX5_wear_87 : decode cX5_wear 87 = .ok (.iload 7, 2) := by decide +kernel
theorem dX5_wear_89 : decode cX5_wear 89 = .ok (.iconst 2, 1) := by decide +kernel
theorem dX5_wear_90 : decode cX5_wear 90 = .ok (.iadd, 1) := by decide +kernel
theorem dX5_wear_91 : decode cX5_wear 91 = .ok (.dup2, 1) := by decide +kernel
theorem dX5_wear_92 : decode cX5_wear 92 = .ok (.iaload, 1) := by decide +kernel
theorem dX5_wear_93 : decode cX5_wear 93 = .ok (.aload_n 0, 1) := by decide +kernel
theorem dX5_wear_94 : decode cX5_wear 94 = .ok (.getfield 50, 3) := by decide +kernel
theorem dX5_wear_97 : decode cX5_wear 97 = .ok (.iload 6, 2) := by decide +kernel
theorem dX5_wear_99 : decode cX5_wear 99 = .ok (.iaload, 1) := by decide +kernel
theorem dX5_wear_100 : decode cX5_wear 100 = .ok (.isub, 1) := by decide +kernel
theorem dX5_wear_101 : decode cX5_wear 101 = .ok (.iastore, 1) := by decide +kernel
theorem dX5_wear_102 : decode cX5_wear 102 = .ok (.aload_n 1, 1) := by decide +kernel
theorem dX5_wear_103 : decode cX5_wear 103 = .ok (.iload 7, 2) := by decide +kernel
theorem dX5_wear_105 : decode cX5_wear 105 = .ok (.iconst 4, 1) := by decide +kernel
theorem dX5_wear_106 : decode cX5_wear 106 = .ok (.iadd, 1) := by decide +kernel
theorem dX5_wear_107 : decode cX5_wear 107 = .ok (.dup2, 1) := by decide +kernel
theorem dX5_wear_108 : decode cX5_wear 108 = .ok (.iaload, 1) := by decide +kernel
theorem dX5_wear_109 : decode cX5_wear 109 = .ok (.iload_n 3, 1) := by decide +kernel
theorem dX5_wear_110 : decode cX5_wear 110 = .ok (.ifCond .eq 7, 3) := by decide +kernel
theorem dX5_wear_113 : decode cX5_wear 113 = .ok (.iconst 1, 1) := by decide +kernel
theorem dX5_wear_114 : decode cX5_wear 114 = .ok (.goto 4, 3) := by decide +kernel
theorem dX5_wear_117 : decode cX5_wear 117 = .ok (.iconst 0, 1) := by decide +kernel
theorem dX5_wear_118 : decode cX5_wear 118 = .ok (.iadd, 1) := by decide +kernel
theorem dX5_wear_119 : decode cX5_wear 119 = .ok (.iastore, 1) := by decide +kernel
theorem dX5_wear_120 : decode cX5_wear 120 = .ok (.iload 6, 2) := by decide +kernel
theorem dX5_wear_122 : decode cX5_wear 122 = .ok (.iload_n 2, 1) := by decide +kernel
theorem dX5_wear_123 : decode cX5_wear 123 = .ok (.if_icmp .ne 10, 3) := by decide +kernel
theorem dX5_wear_126 : decode cX5_wear 126 = .ok (.aload_n 1, 1) := by decide +kernel
theorem dX5_wear_127 : decode cX5_wear 127 = .ok (.bipush 48, 2) := by decide +kernel
theorem dX5_wear_129 : decode cX5_wear 129 = .ok (.iaload, 1) := by decide +kernel
theorem dX5_wear_130 : decode cX5_wear 130 = .ok (.goto 5, 3) := by decide +kernel
theorem dX5_wear_133 : decode cX5_wear 133 = .ok (.iload 5, 2) := by decide +kernel
theorem dX5_wear_135 : decode cX5_wear 135 = .ok (.istore 5, 2) := by decide +kernel
theorem dX5_wear_137 : decode cX5_wear 137 = .ok (.aload_n 1, 1) := by decide +kernel
theorem dX5_wear_138 : decode cX5_wear 138 = .ok (.bipush 48, 2) := by decide +kernel
theorem dX5_wear_140 : decode cX5_wear 140 = .ok (.dup2, 1) := by decide +kernel
theorem dX5_wear_141 : decode cX5_wear 141 = .ok (.iaload, 1) := by decide +kernel
theorem dX5_wear_142 : decode cX5_wear 142 = .ok (.iconst 1, 1) := by decide +kernel
theorem dX5_wear_143 : decode cX5_wear 143 = .ok (.iadd, 1) := by decide +kernel
theorem dX5_wear_144 : decode cX5_wear 144 = .ok (.iastore, 1) := by decide +kernel
theorem dX5_wear_145 : decode cX5_wear 145 = .ok (.iinc 6 1, 3) := by decide +kernel
theorem dX5_wear_148 : decode cX5_wear 148 = .ok (.goto (-130), 3) := by decide +kernel
theorem dX5_wear_151 : decode cX5_wear 151 = .ok (.iload 5, 2) := by decide +kernel
theorem dX5_wear_153 : decode cX5_wear 153 = .ok (.ireturn, 1) := by decide +kernel
theorem dX5_aloneLoss_0 : decode cX5_aloneLoss 0 = .ok (.iconst 1, 1) := by decide +kernel
theorem dX5_aloneLoss_1 : decode cX5_aloneLoss 1 = .ok (.aload_n 0, 1) := by decide +kernel
theorem dX5_aloneLoss_2 : decode cX5_aloneLoss 2 = .ok (.getfield 16, 3) := by decide +kernel
theorem dX5_aloneLoss_5 : decode cX5_aloneLoss 5 = .ok (.iload_n 1, 1) := by decide +kernel
theorem dX5_aloneLoss_6 : decode cX5_aloneLoss 6 = .ok (.iaload, 1) := by decide +kernel
theorem dX5_aloneLoss_7 : decode cX5_aloneLoss 7 = .ok (.iadd, 1) := by decide +kernel
theorem dX5_aloneLoss_8 : decode cX5_aloneLoss 8 = .ok (.iload_n 2, 1) := by decide +kernel
theorem dX5_aloneLoss_9 : decode cX5_aloneLoss 9 = .ok (.iload_n 1, 1) := by decide +kernel
theorem dX5_aloneLoss_10 : decode cX5_aloneLoss 10 = .ok (.invokestatic 125, 3) := by decide +kernel
theorem dX5_aloneLoss_13 : decode cX5_aloneLoss 13 = .ok (.ifCond .eq 7, 3) := by decide +kernel
theorem dX5_aloneLoss_16 : decode cX5_aloneLoss 16 = .ok (.iconst 1, 1) := by decide +kernel
theorem dX5_aloneLoss_17 : decode cX5_aloneLoss 17 = .ok (.goto 4, 3) := by decide +kernel
theorem dX5_aloneLoss_20 : decode cX5_aloneLoss 20 = .ok (.iconst 0, 1) := by decide +kernel
theorem dX5_aloneLoss_21 : decode cX5_aloneLoss 21 = .ok (.isub, 1) := by decide +kernel
theorem dX5_aloneLoss_22 : decode cX5_aloneLoss 22 = .ok (.ireturn, 1) := by decide +kernel
theorem dX5_goYear_0 : decode cX5_goYear 0 = .ok (.iconst 0, 1) := by decide +kernel
theorem dX5_goYear_1 : decode cX5_goYear 1 = .ok (.istore_n 3, 1) := by decide +kernel
theorem dX5_goYear_2 : decode cX5_goYear 2 = .ok (.iload_n 3, 1) := by decide +kernel
theorem dX5_goYear_3 : decode cX5_goYear 3 = .ok (.aload_n 1, 1) := by decide +kernel
theorem dX5_goYear_4 : decode cX5_goYear 4 = .ok (.bipush 48, 2) := by decide +kernel
theorem dX5_goYear_6 : decode cX5_goYear 6 = .ok (.iaload, 1) := by decide +kernel
theorem dX5_goYear_7 : decode cX5_goYear 7 = .ok (.if_icmp .ge 109, 3) := by decide +kernel
theorem dX5_goYear_10 : decode cX5_goYear 10 = .ok (.aload_n 0, 1) := by decide +kernel
theorem dX5_goYear_11 : decode cX5_goYear 11 = .ok (.getfield 50, 3) := by decide +kernel
theorem dX5_goYear_14 : decode cX5_goYear 14 = .ok (.iload_n 3, 1) := by decide +kernel
theorem dX5_goYear_15 : decode cX5_goYear 15 = .ok (.aload_n 0, 1) := by decide +kernel
theorem dX5_goYear_16 : decode cX5_goYear 16 = .ok (.aload_n 1, 1) := by decide +kernel
theorem dX5_goYear_17 : decode cX5_goYear 17 = .ok (.bipush 6, 2) := by decide +kernel
theorem dX5_goYear_19 : decode cX5_goYear 19 = .ok (.iload_n 3, 1) := by decide +kernel
theorem dX5_goYear_20 : decode cX5_goYear 20 = .ok (.imul, 1) := by decide +kernel
theorem dX5_goYear_21 : decode cX5_goYear 21 = .ok (.iconst 1, 1) := by decide +kernel
theorem dX5_goYear_22 : decode cX5_goYear 22 = .ok (.iadd, 1) := by decide +kernel
theorem dX5_goYear_23 : decode cX5_goYear 23 = .ok (.iaload, 1) := by decide +kernel
theorem dX5_goYear_24 : decode cX5_goYear 24 = .ok (.aload_n 1, 1) := by decide +kernel
theorem dX5_goYear_25 : decode cX5_goYear 25 = .ok (.bipush 49, 2) := by decide +kernel
theorem dX5_goYear_27 : decode cX5_goYear 27 = .ok (.iaload, 1) := by decide +kernel
theorem dX5_goYear_28 : decode cX5_goYear 28 = .ok (.invokevirtual 129, 3) := by decide +kernel
theorem dX5_goYear_31 : decode cX5_goYear 31 = .ok (.iastore, 1) := by decide +kernel
theorem dX5_goYear_32 : decode cX5_goYear 32 = .ok (.iconst 0, 1) := by decide +kernel
theorem dX5_goYear_33 : decode cX5_goYear 33 = .ok (.istore 4, 2) := by decide +kernel
theorem dX5_goYear_35 : decode cX5_goYear 35 = .ok (.iload 4, 2) := by decide +kernel
theorem dX5_goYear_37 : decode cX5_goYear 37 = .ok (.aload_n 1, 1) := by decide +kernel
theorem dX5_goYear_38 : decode cX5_goYear 38 = .ok (.bipush 48, 2) := by decide +kernel
theorem dX5_goYear_40 : decode cX5_goYear 40 = .ok (.iaload, 1) := by decide +kernel
theorem dX5_goYear_41 : decode cX5_goYear 41 = .ok (.if_icmp .ge 69, 3) := by decide +kernel
theorem dX5_goYear_44 : decode cX5_goYear 44 = .ok (.aload_n 0, 1) := by decide +kernel
theorem dX5_goYear_45 : decode cX5_goYear 45 = .ok (.getfield 50, 3) := by decide +kernel
theorem dX5_goYear_48 : decode cX5_goYear 48 = .ok (.iload_n 3, 1) := by decide +kernel
theorem dX5_goYear_49 : decode cX5_goYear 49 = .ok (.dup2, 1) := by decide +kernel
theorem dX5_goYear_50 : decode cX5_goYear 50 = .ok (.iaload, 1) := by decide +kernel
theorem dX5_goYear_51 : decode cX5_goYear 51 = .ok (.iload 4, 2) := by decide +kernel
theorem dX5_goYear_53 : decode cX5_goYear 53 = .ok (.iload_n 3, 1) := by decide +kernel
theorem dX5_goYear_54 : decode cX5_goYear 54 = .ok (.if_icmp .eq 47, 3) := by decide +kernel
theorem dX5_goYear_57 : decode cX5_goYear 57 = .ok (.aload_n 1, 1) := by decide +kernel
theorem dX5_goYear_58 : decode cX5_goYear 58 = .ok (.bipush 6, 2) := by decide +kernel
theorem dX5_goYear_60 : decode cX5_goYear 60 = .ok (.iload 4, 2) := by decide +kernel
theorem dX5_goYear_62 : decode cX5_goYear 62 = .ok (.imul, 1) := by decide +kernel
theorem dX5_goYear_63 : decode cX5_goYear 63 = .ok (.iconst 1, 1) := by decide +kernel
theorem dX5_goYear_64 : decode cX5_goYear 64 = .ok (.iadd, 1) := by decide +kernel
theorem dX5_goYear_65 : decode cX5_goYear 65 = .ok (.iaload, 1) := by decide +kernel
theorem dX5_goYear_66 : decode cX5_goYear 66 = .ok (.aload_n 1, 1) := by decide +kernel
theorem dX5_goYear_67 : decode cX5_goYear 67 = .ok (.bipush 6, 2) := by decide +kernel
theorem dX5_goYear_69 : decode cX5_goYear 69 = .ok (.iload_n 3, 1) := by decide +kernel
theorem dX5_goYear_70 : decode cX5_goYear 70 = .ok (.imul, 1) := by decide +kernel
theorem dX5_goYear_71 : decode cX5_goYear 71 = .ok (.iconst 1, 1) := by decide +kernel
theorem dX5_goYear_72 : decode cX5_goYear 72 = .ok (.iadd, 1) := by decide +kernel
theorem dX5_goYear_73 : decode cX5_goYear 73 = .ok (.iaload, 1) := by decide +kernel
theorem dX5_goYear_74 : decode cX5_goYear 74 = .ok (.if_icmp .ne 27, 3) := by decide +kernel
theorem dX5_goYear_77 : decode cX5_goYear 77 = .ok (.aload_n 1, 1) := by decide +kernel
theorem dX5_goYear_78 : decode cX5_goYear 78 = .ok (.bipush 6, 2) := by decide +kernel
theorem dX5_goYear_80 : decode cX5_goYear 80 = .ok (.iload 4, 2) := by decide +kernel
theorem dX5_goYear_82 : decode cX5_goYear 82 = .ok (.imul, 1) := by decide +kernel
theorem dX5_goYear_83 : decode cX5_goYear 83 = .ok (.iconst 3, 1) := by decide +kernel
theorem dX5_goYear_84 : decode cX5_goYear 84 = .ok (.iadd, 1) := by decide +kernel
theorem dX5_goYear_85 : decode cX5_goYear 85 = .ok (.iaload, 1) := by decide +kernel
theorem dX5_goYear_86 : decode cX5_goYear 86 = .ok (.aload_n 1, 1) := by decide +kernel
theorem dX5_goYear_87 : decode cX5_goYear 87 = .ok (.bipush 6, 2) := by decide +kernel
theorem dX5_goYear_89 : decode cX5_goYear 89 = .ok (.iload_n 3, 1) := by decide +kernel
theorem dX5_goYear_90 : decode cX5_goYear 90 = .ok (.imul, 1) := by decide +kernel
theorem dX5_goYear_91 : decode cX5_goYear 91 = .ok (.iconst 3, 1) := by decide +kernel
theorem dX5_goYear_92 : decode cX5_goYear 92 = .ok (.iadd, 1) := by decide +kernel
theorem dX5_goYear_93 : decode cX5_goYear 93 = .ok (.iaload, 1) := by decide +kernel
theorem dX5_goYear_94 : decode cX5_goYear 94 = .ok (.if_icmp .ne 7, 3) := by decide +kernel
theorem dX5_goYear_97 : decode cX5_goYear 97 = .ok (.iconst 1, 1) := by decide +kernel
theorem dX5_goYear_98 : decode cX5_goYear 98 = .ok (.goto 4, 3) := by decide +kernel
theorem dX5_goYear_101 : decode cX5_goYear 101 = .ok (.iconst 0, 1) := by decide +kernel
theorem dX5_goYear_102 : decode cX5_goYear 102 = .ok (.iadd, 1) := by decide +kernel
theorem dX5_goYear_103 : decode cX5_goYear 103 = .ok (.iastore, 1) := by decide +kernel
theorem dX5_goYear_104 : decode cX5_goYear 104 = .ok (.iinc 4 1, 3) := by decide +kernel
theorem dX5_goYear_107 : decode cX5_goYear 107 = .ok (.goto (-72), 3) := by decide +kernel
theorem dX5_goYear_110 : decode cX5_goYear 110 = .ok (.iinc 3 1, 3) := by decide +kernel
theorem dX5_goYear_113 : decode cX5_goYear 113 = .ok (.goto (-111), 3) := by decide +kernel
theorem dX5_goYear_116 : decode cX5_goYear 116 = .ok (.aload_n 1, 1) := by decide +kernel
theorem dX5_goYear_117 : decode cX5_goYear 117 = .ok (.bipush 50, 2) := by decide +kernel
theorem dX5_goYear_119 : decode cX5_goYear 119 = .ok (.dup2, 1) := by decide +kernel
theorem dX5_goYear_120 : decode cX5_goYear 120 = .ok (.iaload, 1) := by decide +kernel
theorem dX5_goYear_121 : decode cX5_goYear 121 = .ok (.iconst 1, 1) := by decide +kernel
theorem dX5_goYear_122 : decode cX5_goYear 122 = .ok (.iadd, 1) := by decide +kernel
theorem dX5_goYear_123 : decode cX5_goYear 123 = .ok (.iastore, 1) := by decide +kernel
theorem dX5_goYear_124 : decode cX5_goYear 124 = .ok (.aload_n 0, 1) := by decide +kernel
theorem dX5_goYear_125 : decode cX5_goYear 125 = .ok (.aload_n 1, 1) := by decide +kernel
theorem dX5_goYear_126 : decode cX5_goYear 126 = .ok (.iload_n 2, 1) := by decide +kernel
theorem dX5_goYear_127 : decode cX5_goYear 127 = .ok (.iconst 1, 1) := by decide +kernel
theorem dX5_goYear_128 : decode cX5_goYear 128 = .ok (.invokevirtual 132, 3) := by decide +kernel
theorem dX5_goYear_131 : decode cX5_goYear 131 = .ok (.ireturn, 1) := by decide +kernel
theorem dX5_goYears_0 : decode cX5_goYears 0 = .ok (.iconst 0, 1) := by decide +kernel
theorem dX5_goYears_1 : decode cX5_goYears 1 = .ok (.istore_n 3, 1) := by decide +kernel
theorem dX5_goYears_2 : decode cX5_goYears 2 = .ok (.iload_n 3, 1) := by decide +kernel
theorem dX5_goYears_3 : decode cX5_goYears 3 = .ok (.iload_n 2, 1) := by decide +kernel
theorem dX5_goYears_4 : decode cX5_goYears 4 = .ok (.if_icmp .ge 17, 3) := by decide +kernel
theorem dX5_goYears_7 : decode cX5_goYears 7 = .ok (.aload_n 0, 1) := by decide +kernel
theorem dX5_goYears_8 : decode cX5_goYears 8 = .ok (.aload_n 1, 1) := by decide +kernel
theorem dX5_goYears_9 : decode cX5_goYears 9 = .ok (.bipush (-9), 2) := by decide +kernel
theorem dX5_goYears_11 : decode cX5_goYears 11 = .ok (.invokevirtual 136, 3) := by decide +kernel
theorem dX5_goYears_14 : decode cX5_goYears 14 = .ok (.pop, 1) := by decide +kernel
theorem dX5_goYears_15 : decode cX5_goYears 15 = .ok (.iinc 3 1, 3) := by decide +kernel
theorem dX5_goYears_18 : decode cX5_goYears 18 = .ok (.goto (-16), 3) := by decide +kernel
theorem dX5_goYears_21 : decode cX5_goYears 21 = .ok (.return_, 1) := by decide +kernel
theorem dX5_year_0 : decode cX5_year 0 = .ok (.aload_n 0, 1) := by decide +kernel
theorem dX5_year_1 : decode cX5_year 1 = .ok (.iconst 0, 1) := by decide +kernel
theorem dX5_year_2 : decode cX5_year 2 = .ok (.putfield 62, 3) := by decide +kernel
theorem dX5_year_5 : decode cX5_year 5 = .ok (.aload_n 0, 1) := by decide +kernel
theorem dX5_year_6 : decode cX5_year 6 = .ok (.invokevirtual 140, 3) := by decide +kernel
theorem dX5_year_9 : decode cX5_year 9 = .ok (.aload_n 0, 1) := by decide +kernel
theorem dX5_year_10 : decode cX5_year 10 = .ok (.getfield 28, 3) := by decide +kernel
theorem dX5_year_13 : decode cX5_year 13 = .ok (.bipush 48, 2) := by decide +kernel
theorem dX5_year_15 : decode cX5_year 15 = .ok (.iaload, 1) := by decide +kernel
theorem dX5_year_16 : decode cX5_year 16 = .ok (.istore_n 1, 1) := by decide +kernel
theorem dX5_year_17 : decode cX5_year 17 = .ok (.aload_n 0, 1) := by decide +kernel
theorem dX5_year_18 : decode cX5_year 18 = .ok (.aload_n 0, 1) := by decide +kernel
theorem dX5_year_19 : decode cX5_year 19 = .ok (.getfield 28, 3) := by decide +kernel
theorem dX5_year_22 : decode cX5_year 22 = .ok (.bipush (-9), 2) := by decide +kernel
theorem dX5_year_24 : decode cX5_year 24 = .ok (.invokevirtual 136, 3) := by decide +kernel
theorem dX5_year_27 : decode cX5_year 27 = .ok (.pop, 1) := by decide +kernel
theorem dX5_year_28 : decode cX5_year 28 = .ok (.iload_n 1, 1) := by decide +kernel
theorem dX5_year_29 : decode cX5_year 29 = .ok (.aload_n 0, 1) := by decide +kernel
theorem dX5_year_30 : decode cX5_year 30 = .ok (.getfield 28, 3) := by decide +kernel
theorem dX5_year_33 : decode cX5_year 33 = .ok (.bipush 48, 2) := by decide +kernel
theorem dX5_year_35 : decode cX5_year 35 = .ok (.iaload, 1) := by decide +kernel
theorem dX5_year_36 : decode cX5_year 36 = .ok (.isub, 1) := by decide +kernel
theorem dX5_year_37 : decode cX5_year 37 = .ok (.ireturn, 1) := by decide +kernel
theorem dX5_canSing_0 : decode cX5_canSing 0 = .ok (.aload_n 1, 1) := by decide +kernel
theorem dX5_canSing_1 : decode cX5_canSing 1 = .ok (.bipush 6, 2) := by decide +kernel
theorem dX5_canSing_3 : decode cX5_canSing 3 = .ok (.iload_n 2, 1) := by decide +kernel
theorem dX5_canSing_4 : decode cX5_canSing 4 = .ok (.imul, 1) := by decide +kernel
theorem dX5_canSing_5 : decode cX5_canSing 5 = .ok (.iconst 1, 1) := by decide +kernel
theorem dX5_canSing_6 : decode cX5_canSing 6 = .ok (.iadd, 1) := by decide +kernel
theorem dX5_canSing_7 : decode cX5_canSing 7 = .ok (.iaload, 1) := by decide +kernel
theorem dX5_canSing_8 : decode cX5_canSing 8 = .ok (.istore 4, 2) := by decide +kernel
theorem dX5_canSing_10 : decode cX5_canSing 10 = .ok (.iload_n 3, 1) := by decide +kernel
theorem dX5_canSing_11 : decode cX5_canSing 11 = .ok (.ifCond .ne 10, 3) := by decide +kernel
theorem dX5_canSing_14 : decode cX5_canSing 14 = .ok (.iload 4, 2) := by decide +kernel
theorem dX5_canSing_16 : decode cX5_canSing 16 = .ok (.iconst 1, 1) := by decide +kernel
theorem dX5_canSing_17 : decode cX5_canSing 17 = .ok (.isub, 1) := by decide +kernel
theorem dX5_canSing_18 : decode cX5_canSing 18 = .ok (.goto 7, 3) := by decide +kernel
theorem dX5_canSing_21 : decode cX5_canSing 21 = .ok (.iload 4, 2) := by decide +kernel
theorem dX5_canSing_23 : decode cX5_canSing 23 = .ok (.iconst 1, 1) := by decide +kernel
theorem dX5_canSing_24 : decode cX5_canSing 24 = .ok (.iadd, 1) := by decide +kernel
theorem dX5_canSing_25 : decode cX5_canSing 25 = .ok (.istore 5, 2) := by decide +kernel
theorem dX5_canSing_27 : decode cX5_canSing 27 = .ok (.aload_n 0, 1) := by decide +kernel
theorem dX5_canSing_28 : decode cX5_canSing 28 = .ok (.iload 5, 2) := by decide +kernel
theorem dX5_canSing_30 : decode cX5_canSing 30 = .ok (.invokevirtual 116, 3) := by decide +kernel
theorem dX5_canSing_33 : decode cX5_canSing 33 = .ok (.ifCond .ne 31, 3) := by decide +kernel
theorem dX5_canSing_36 : decode cX5_canSing 36 = .ok (.aload_n 1, 1) := by decide +kernel
theorem dX5_canSing_37 : decode cX5_canSing 37 = .ok (.bipush 49, 2) := by decide +kernel
theorem dX5_canSing_39 : decode cX5_canSing 39 = .ok (.iaload, 1) := by decide +kernel
theorem dX5_canSing_40 : decode cX5_canSing 40 = .ok (.iload 4, 2) := by decide +kernel
theorem dX5_canSing_42 : decode cX5_canSing 42 = .ok (.invokestatic 125, 3) := by decide +kernel
theorem dX5_canSing_45 : decode cX5_canSing 45 = .ok (.ifCond .ne 19, 3) := by decide +kernel
theorem dX5_canSing_48 : decode cX5_canSing 48 = .ok (.aload_n 1, 1) := by decide +kernel
theorem dX5_canSing_49 : decode cX5_canSing 49 = .ok (.bipush 49, 2) := by decide +kernel
theorem dX5_canSing_51 : decode cX5_canSing 51 = .ok (.iaload, 1) := by decide +kernel
theorem dX5_canSing_52 : decode cX5_canSing 52 = .ok (.iload 5, 2) := by decide +kernel
theorem dX5_canSing_54 : decode cX5_canSing 54 = .ok (.invokestatic 125, 3) := by decide +kernel
theorem dX5_canSing_57 : decode cX5_canSing 57 = .ok (.ifCond .ne 7, 3) := by decide +kernel
theorem dX5_canSing_60 : decode cX5_canSing 60 = .ok (.iconst 1, 1) := by decide +kernel
theorem dX5_canSing_61 : decode cX5_canSing 61 = .ok (.goto 4, 3) := by decide +kernel
theorem dX5_canSing_64 : decode cX5_canSing 64 = .ok (.iconst 0, 1) := by decide +kernel
theorem dX5_canSing_65 : decode cX5_canSing 65 = .ok (.ireturn, 1) := by decide +kernel
theorem dX5_goSing_0 : decode cX5_goSing 0 = .ok (.aload_n 1, 1) := by decide +kernel
theorem dX5_goSing_1 : decode cX5_goSing 1 = .ok (.bipush 6, 2) := by decide +kernel
theorem dX5_goSing_3 : decode cX5_goSing 3 = .ok (.iload_n 2, 1) := by decide +kernel
theorem dX5_goSing_4 : decode cX5_goSing 4 = .ok (.imul, 1) := by decide +kernel
theorem dX5_goSing_5 : decode cX5_goSing 5 = .ok (.iconst 1, 1) := by decide +kernel
theorem dX5_goSing_6 : decode cX5_goSing 6 = .ok (.iadd, 1) := by decide +kernel
theorem dX5_goSing_7 : decode cX5_goSing 7 = .ok (.iaload, 1) := by decide +kernel
theorem dX5_goSing_8 : decode cX5_goSing 8 = .ok (.istore 6, 2) := by decide +kernel
theorem dX5_goSing_10 : decode cX5_goSing 10 = .ok (.aload_n 1, 1) := by decide +kernel
theorem dX5_goSing_11 : decode cX5_goSing 11 = .ok (.bipush 6, 2) := by decide +kernel
theorem dX5_goSing_13 : decode cX5_goSing 13 = .ok (.iload_n 2, 1) := by decide +kernel
theorem dX5_goSing_14 : decode cX5_goSing 14 = .ok (.imul, 1) := by decide +kernel
theorem dX5_goSing_15 : decode cX5_goSing 15 = .ok (.iconst 5, 1) := by decide +kernel
theorem dX5_goSing_16 : decode cX5_goSing 16 = .ok (.iadd, 1) := by decide +kernel
theorem dX5_goSing_17 : decode cX5_goSing 17 = .ok (.iaload, 1) := by decide +kernel
theorem dX5_goSing_18 : decode cX5_goSing 18 = .ok (.aload_n 0, 1) := by decide +kernel
theorem dX5_goSing_19 : decode cX5_goSing 19 = .ok (.getfield 16, 3) := by decide +kernel
theorem dX5_goSing_22 : decode cX5_goSing 22 = .ok (.iload 6, 2) := by decide +kernel
theorem dX5_goSing_24 : decode cX5_goSing 24 = .ok (.iaload, 1) := by decide +kernel
theorem dX5_goSing_25 : decode cX5_goSing 25 = .ok (.iconst 2, 1) := by decide +kernel
theorem dX5_goSing_26 : decode cX5_goSing 26 = .ok (.if_icmp .ne 7, 3) := by decide +kernel
theorem dX5_goSing_29 : decode cX5_goSing 29 = .ok (.iconst 1, 1) := by decide +kernel
theorem dX5_goSing_30 : decode cX5_goSing 30 = .ok (.goto 4, 3) := by decide +kernel
theorem dX5_goSing_33 : decode cX5_goSing 33 = .ok (.iconst 0, 1) := by decide +kernel
theorem dX5_goSing_34 : decode cX5_goSing 34 = .ok (.iadd, 1) := by decide +kernel
theorem dX5_goSing_35 : decode cX5_goSing 35 = .ok (.istore 7, 2) := by decide +kernel
theorem dX5_goSing_37 : decode cX5_goSing 37 = .ok (.aload_n 1, 1) := by decide +kernel
theorem dX5_goSing_38 : decode cX5_goSing 38 = .ok (.aload_n 1, 1) := by decide +kernel
theorem dX5_goSing_39 : decode cX5_goSing 39 = .ok (.bipush 6, 2) := by decide +kernel
theorem dX5_goSing_41 : decode cX5_goSing 41 = .ok (.iload_n 2, 1) := by decide +kernel
theorem dX5_goSing_42 : decode cX5_goSing 42 = .ok (.imul, 1) := by decide +kernel
theorem dX5_goSing_43 : decode cX5_goSing 43 = .ok (.iaload, 1) := by decide +kernel
theorem dX5_goSing_44 : decode cX5_goSing 44 = .ok (.iload_n 3, 1) := by decide +kernel
theorem dX5_goSing_45 : decode cX5_goSing 45 = .ok (.ifCond .ne 10, 3) := by decide +kernel
theorem dX5_goSing_48 : decode cX5_goSing 48 = .ok (.iload 6, 2) := by decide +kernel
theorem dX5_goSing_50 : decode cX5_goSing 50 = .ok (.iconst 1, 1) := by decide +kernel
theorem dX5_goSing_51 : decode cX5_goSing 51 = .ok (.isub, 1) := by decide +kernel
theorem dX5_goSing_52 : decode cX5_goSing 52 = .ok (.goto 7, 3) := by decide +kernel
theorem dX5_goSing_55 : decode cX5_goSing 55 = .ok (.iload 6, 2) := by decide +kernel
theorem dX5_goSing_57 : decode cX5_goSing 57 = .ok (.iconst 1, 1) := by decide +kernel
theorem dX5_goSing_58 : decode cX5_goSing 58 = .ok (.iadd, 1) := by decide +kernel
theorem dX5_goSing_59 : decode cX5_goSing 59 = .ok (.iload 4, 2) := by decide +kernel
theorem dX5_goSing_61 : decode cX5_goSing 61 = .ok (.iload 5, 2) := by decide +kernel
theorem dX5_goSing_63 : decode cX5_goSing 63 = .ok (.iload 7, 2) := by decide +kernel
theorem dX5_goSing_65 : decode cX5_goSing 65 = .ok (.bipush 9, 2) := by decide +kernel
theorem dX5_goSing_67 : decode cX5_goSing 67 = .ok (.if_icmp .le 8, 3) := by decide +kernel
theorem dX5_goSing_70 : decode cX5_goSing 70 = .ok (.bipush 9, 2) := by decide +kernel
theorem dX5_goSing_72 : decode cX5_goSing 72 = .ok (.goto 5, 3) := by decide +kernel
theorem dX5_goSing_75 : decode cX5_goSing 75 = .ok (.iload 7, 2) := by decide +kernel
theorem dX5_goSing_77 : decode cX5_goSing 77 = .ok (.invokestatic 88, 3) := by decide +kernel
theorem dX5_goSing_80 : decode cX5_goSing 80 = .ok (.aload_n 1, 1) := by decide +kernel
theorem dX5_goSing_81 : decode cX5_goSing 81 = .ok (.bipush 51, 2) := by decide +kernel
theorem dX5_goSing_83 : decode cX5_goSing 83 = .ok (.dup2, 1) := by decide +kernel
theorem dX5_goSing_84 : decode cX5_goSing 84 = .ok (.iaload, 1) := by decide +kernel
theorem dX5_goSing_85 : decode cX5_goSing 85 = .ok (.iload 4, 2) := by decide +kernel
theorem dX5_goSing_87 : decode cX5_goSing 87 = .ok (.iadd, 1) := by decide +kernel
theorem dX5_goSing_88 : decode cX5_goSing 88 = .ok (.iastore, 1) := by decide +kernel
theorem dX5_goSing_89 : decode cX5_goSing 89 = .ok (.return_, 1) := by decide +kernel
theorem dX5_sing_0 : decode cX5_sing 0 = .ok (.aload_n 0, 1) := by decide +kernel
theorem dX5_sing_1 : decode cX5_sing 1 = .ok (.iconst 0, 1) := by decide +kernel
theorem dX5_sing_2 : decode cX5_sing 2 = .ok (.putfield 62, 3) := by decide +kernel
theorem dX5_sing_5 : decode cX5_sing 5 = .ok (.aload_n 0, 1) := by decide +kernel
theorem dX5_sing_6 : decode cX5_sing 6 = .ok (.iload_n 1, 1) := by decide +kernel
theorem dX5_sing_7 : decode cX5_sing 7 = .ok (.invokevirtual 120, 3) := by decide +kernel
theorem dX5_sing_10 : decode cX5_sing 10 = .ok (.ifCond .eq 5, 3) := by decide +kernel
theorem dX5_sing_13 : decode cX5_sing 13 = .ok (.iconst (-1), 1) := by decide +kernel
theorem dX5_sing_14 : decode cX5_sing 14 = .ok (.ireturn, 1) := by decide +kernel
theorem dX5_sing_15 : decode cX5_sing 15 = .ok (.iload_n 2, 1) := by decide +kernel
theorem dX5_sing_16 : decode cX5_sing 16 = .ok (.i2l, 1) := by decide +kernel
theorem dX5_sing_17 : decode cX5_sing 17 = .ok (.lconst 0, 1) := by decide +kernel
theorem dX5_sing_18 : decode cX5_sing 18 = .ok (.lconst 1, 1) := by decide +kernel
theorem dX5_sing_19 : decode cX5_sing 19 = .ok (.invokestatic 69, 3) := by decide +kernel
theorem dX5_sing_22 : decode cX5_sing 22 = .ok (.ifCond .eq 28, 3) := by decide +kernel
theorem dX5_sing_25 : decode cX5_sing 25 = .ok (.iload_n 3, 1) := by decide +kernel
theorem dX5_sing_26 : decode cX5_sing 26 = .ok (.i2l, 1) := by decide +kernel
theorem dX5_sing_27 : decode cX5_sing 27 = .ok (.lconst 1, 1) := by decide +kernel
theorem dX5_sing_28 : decode cX5_sing 28 = .ok (.ldc2_w 143, 3) := by decide +kernel
theorem dX5_sing_31 : decode cX5_sing 31 = .ok (.invokestatic 69, 3) := by decide +kernel
theorem dX5_sing_34 : decode cX5_sing 34 = .ok (.ifCond .eq 16, 3) := by decide +kernel
theorem dX5_sing_37 : decode cX5_sing 37 = .ok (.iload 4, 2) := by decide +kernel
theorem dX5_sing_39 : decode cX5_sing 39 = .ok (.i2l, 1) := by decide +kernel
theorem dX5_sing_40 : decode cX5_sing 40 = .ok (.lconst 0, 1) := by decide +kernel
theorem dX5_sing_41 : decode cX5_sing 41 = .ok (.ldc2_w 145, 3) := by decide +kernel
theorem dX5_sing_44 : decode cX5_sing 44 = .ok (.invokestatic 69, 3) := by decide +kernel
theorem dX5_sing_47 : decode cX5_sing 47 = .ok (.ifCond .ne 6, 3) := by decide +kernel
theorem dX5_sing_50 : decode cX5_sing 50 = .ok (.bipush (-2), 2) := by decide +kernel
theorem dX5_sing_52 : decode cX5_sing 52 = .ok (.ireturn, 1) := by decide +kernel
theorem dX5_sing_53 : decode cX5_sing 53 = .ok (.aload_n 0, 1) := by decide +kernel
theorem dX5_sing_54 : decode cX5_sing 54 = .ok (.aload_n 0, 1) := by decide +kernel
theorem dX5_sing_55 : decode cX5_sing 55 = .ok (.getfield 28, 3) := by decide +kernel
theorem dX5_sing_58 : decode cX5_sing 58 = .ok (.iload_n 1, 1) := by decide +kernel
theorem dX5_sing_59 : decode cX5_sing 59 = .ok (.iload_n 2, 1) := by decide +kernel
theorem dX5_sing_60 : decode cX5_sing 60 = .ok (.invokevirtual 147, 3) := by decide +kernel
theorem dX5_sing_63 : decode cX5_sing 63 = .ok (.ifCond .ne 6, 3) := by decide +kernel
theorem dX5_sing_66 : decode cX5_sing 66 = .ok (.bipush (-3), 2) := by decide +kernel
theorem dX5_sing_68 : decode cX5_sing 68 = .ok (.ireturn, 1) := by decide +kernel
theorem dX5_sing_69 : decode cX5_sing 69 = .ok (.aload_n 0, 1) := by decide +kernel
theorem dX5_sing_70 : decode cX5_sing 70 = .ok (.getfield 28, 3) := by decide +kernel
theorem dX5_sing_73 : decode cX5_sing 73 = .ok (.bipush 48, 2) := by decide +kernel
theorem dX5_sing_75 : decode cX5_sing 75 = .ok (.iaload, 1) := by decide +kernel
theorem dX5_sing_76 : decode cX5_sing 76 = .ok (.bipush 8, 2) := by decide +kernel
theorem dX5_sing_78 : decode cX5_sing 78 = .ok (.if_icmp .ne 6, 3) := by decide +kernel
theorem dX5_sing_81 : decode cX5_sing 81 = .ok (.bipush (-4), 2) := by decide +kernel
theorem dX5_sing_83 : decode cX5_sing 83 = .ok (.ireturn, 1) := by decide +kernel
theorem dX5_sing_84 : decode cX5_sing 84 = .ok (.aload_n 0, 1) := by decide +kernel
theorem dX5_sing_85 : decode cX5_sing 85 = .ok (.invokevirtual 140, 3) := by decide +kernel
theorem dX5_sing_88 : decode cX5_sing 88 = .ok (.aload_n 0, 1) := by decide +kernel
theorem dX5_sing_89 : decode cX5_sing 89 = .ok (.aload_n 0, 1) := by decide +kernel
theorem dX5_sing_90 : decode cX5_sing 90 = .ok (.getfield 28, 3) := by decide +kernel
theorem dX5_sing_93 : decode cX5_sing 93 = .ok (.iload_n 1, 1) := by decide +kernel
theorem dX5_sing_94 : decode cX5_sing 94 = .ok (.iload_n 2, 1) := by decide +kernel
theorem dX5_sing_95 : decode cX5_sing 95 = .ok (.iload_n 3, 1) := by decide +kernel
theorem dX5_sing_96 : decode cX5_sing 96 = .ok (.iload 4, 2) := by decide +kernel
theorem dX5_sing_98 : decode cX5_sing 98 = .ok (.invokevirtual 151, 3) := by decide +kernel
theorem dX5_sing_101 : decode cX5_sing 101 = .ok (.aload_n 0, 1) := by decide +kernel
theorem dX5_sing_102 : decode cX5_sing 102 = .ok (.getfield 28, 3) := by decide +kernel
theorem dX5_sing_105 : decode cX5_sing 105 = .ok (.bipush 48, 2) := by decide +kernel
theorem dX5_sing_107 : decode cX5_sing 107 = .ok (.iaload, 1) := by decide +kernel
theorem dX5_sing_108 : decode cX5_sing 108 = .ok (.iconst 1, 1) := by decide +kernel
theorem dX5_sing_109 : decode cX5_sing 109 = .ok (.isub, 1) := by decide +kernel
theorem dX5_sing_110 : decode cX5_sing 110 = .ok (.ireturn, 1) := by decide +kernel
theorem dX5_lid_0 : decode cX5_lid 0 = .ok (.aload_n 0, 1) := by decide +kernel
theorem dX5_lid_1 : decode cX5_lid 1 = .ok (.iconst 0, 1) := by decide +kernel
theorem dX5_lid_2 : decode cX5_lid 2 = .ok (.putfield 62, 3) := by decide +kernel
theorem dX5_lid_5 : decode cX5_lid 5 = .ok (.aload_n 0, 1) := by decide +kernel
theorem dX5_lid_6 : decode cX5_lid 6 = .ok (.iload_n 1, 1) := by decide +kernel
theorem dX5_lid_7 : decode cX5_lid 7 = .ok (.invokevirtual 116, 3) := by decide +kernel
theorem dX5_lid_10 : decode cX5_lid 10 = .ok (.ifCond .eq 5, 3) := by decide +kernel
theorem dX5_lid_13 : decode cX5_lid 13 = .ok (.iconst (-1), 1) := by decide +kernel
theorem dX5_lid_14 : decode cX5_lid 14 = .ok (.ireturn, 1) := by decide +kernel
theorem dX5_lid_15 : decode cX5_lid 15 = .ok (.aload_n 0, 1) := by decide +kernel
theorem dX5_lid_16 : decode cX5_lid 16 = .ok (.invokevirtual 140, 3) := by decide +kernel
theorem dX5_lid_19 : decode cX5_lid 19 = .ok (.aload_n 0, 1) := by decide +kernel
theorem dX5_lid_20 : decode cX5_lid 20 = .ok (.getfield 28, 3) := by decide +kernel
theorem dX5_lid_23 : decode cX5_lid 23 = .ok (.bipush 49, 2) := by decide +kernel
theorem dX5_lid_25 : decode cX5_lid 25 = .ok (.dup2, 1) := by decide +kernel
theorem dX5_lid_26 : decode cX5_lid 26 = .ok (.iaload, 1) := by decide +kernel
theorem dX5_lid_27 : decode cX5_lid 27 = .ok (.iconst 1, 1) := by decide +kernel
theorem dX5_lid_28 : decode cX5_lid 28 = .ok (.iload_n 1, 1) := by decide +kernel
theorem dX5_lid_29 : decode cX5_lid 29 = .ok (.ishl, 1) := by decide +kernel
theorem dX5_lid_30 : decode cX5_lid 30 = .ok (.ixor, 1) := by decide +kernel
theorem dX5_lid_31 : decode cX5_lid 31 = .ok (.iastore, 1) := by decide +kernel
theorem dX5_lid_32 : decode cX5_lid 32 = .ok (.aload_n 0, 1) := by decide +kernel
theorem dX5_lid_33 : decode cX5_lid 33 = .ok (.getfield 28, 3) := by decide +kernel
theorem dX5_lid_36 : decode cX5_lid 36 = .ok (.bipush 49, 2) := by decide +kernel
theorem dX5_lid_38 : decode cX5_lid 38 = .ok (.iaload, 1) := by decide +kernel
theorem dX5_lid_39 : decode cX5_lid 39 = .ok (.iload_n 1, 1) := by decide +kernel
theorem dX5_lid_40 : decode cX5_lid 40 = .ok (.ishr, 1) := by decide +kernel
theorem dX5_lid_41 : decode cX5_lid 41 = .ok (.iconst 1, 1) := by decide +kernel
theorem dX5_lid_42 : decode cX5_lid 42 = .ok (.iand, 1) := by decide +kernel
theorem dX5_lid_43 : decode cX5_lid 43 = .ok (.ireturn, 1) := by decide +kernel
theorem dX5_undo_0 : decode cX5_undo 0 = .ok (.aload_n 0, 1) := by decide +kernel
theorem dX5_undo_1 : decode cX5_undo 1 = .ok (.iconst 0, 1) := by decide +kernel
theorem dX5_undo_2 : decode cX5_undo 2 = .ok (.putfield 62, 3) := by decide +kernel
theorem dX5_undo_5 : decode cX5_undo 5 = .ok (.aload_n 0, 1) := by decide +kernel
theorem dX5_undo_6 : decode cX5_undo 6 = .ok (.getfield 113, 3) := by decide +kernel
theorem dX5_undo_9 : decode cX5_undo 9 = .ok (.ifCond .ne 6, 3) := by decide +kernel
theorem dX5_undo_12 : decode cX5_undo 12 = .ok (.bipush (-3), 2) := by decide +kernel
theorem dX5_undo_14 : decode cX5_undo 14 = .ok (.ireturn, 1) := by decide +kernel
theorem dX5_undo_15 : decode cX5_undo 15 = .ok (.aload_n 0, 1) := by decide +kernel
theorem dX5_undo_16 : decode cX5_undo 16 = .ok (.dup, 1) := by decide +kernel
theorem dX5_undo_17 : decode cX5_undo 17 = .ok (.getfield 113, 3) := by decide +kernel
theorem dX5_undo_20 : decode cX5_undo 20 = .ok (.iconst 1, 1) := by decide +kernel
theorem dX5_undo_21 : decode cX5_undo 21 = .ok (.isub, 1) := by decide +kernel
theorem dX5_undo_22 : decode cX5_undo 22 = .ok (.putfield 113, 3) := by decide +kernel
theorem dX5_undo_25 : decode cX5_undo 25 = .ok (.iconst 0, 1) := by decide +kernel
theorem dX5_undo_26 : decode cX5_undo 26 = .ok (.istore_n 1, 1) := by decide +kernel
theorem dX5_undo_27 : decode cX5_undo 27 = .ok (.iload_n 1, 1) := by decide +kernel
theorem dX5_undo_28 : decode cX5_undo 28 = .ok (.bipush 52, 2) := by decide +kernel
theorem dX5_undo_30 : decode cX5_undo 30 = .ok (.if_icmp .ge 29, 3) := by decide +kernel
theorem dX5_undo_33 : decode cX5_undo 33 = .ok (.aload_n 0, 1) := by decide +kernel
theorem dX5_undo_34 : decode cX5_undo 34 = .ok (.getfield 28, 3) := by decide +kernel
theorem dX5_undo_37 : decode cX5_undo 37 = .ok (.iload_n 1, 1) := by decide +kernel
theorem dX5_undo_38 : decode cX5_undo 38 = .ok (.aload_n 0, 1) := by decide +kernel
theorem dX5_undo_39 : decode cX5_undo 39 = .ok (.getfield 31, 3) := by decide +kernel
theorem dX5_undo_42 : decode cX5_undo 42 = .ok (.bipush 52, 2) := by decide +kernel
theorem dX5_undo_44 : decode cX5_undo 44 = .ok (.aload_n 0, 1) := by decide +kernel
theorem dX5_undo_45 : decode cX5_undo 45 = .ok (.getfield 113, 3) := by decide +kernel
theorem dX5_undo_48 : decode cX5_undo 48 = .ok (.imul, 1) := by decide +kernel
theorem dX5_undo_49 : decode cX5_undo 49 = .ok (.iload_n 1, 1) := by decide +kernel
theorem dX5_undo_50 : decode cX5_undo 50 = .ok (.iadd, 1) := by decide +kernel
theorem dX5_undo_51 : decode cX5_undo 51 = .ok (.iaload, 1) := by decide +kernel
theorem dX5_undo_52 : decode cX5_undo 52 = .ok (.iastore, 1) := by decide +kernel
theorem dX5_undo_53 : decode cX5_undo 53 = .ok (.iinc 1 1, 3) := by decide +kernel
theorem dX5_undo_56 : decode cX5_undo 56 = .ok (.goto (-29), 3) := by decide +kernel
theorem dX5_undo_59 : decode cX5_undo 59 = .ok (.aload_n 0, 1) := by decide +kernel
theorem dX5_undo_60 : decode cX5_undo 60 = .ok (.getfield 113, 3) := by decide +kernel
theorem dX5_undo_63 : decode cX5_undo 63 = .ok (.ireturn, 1) := by decide +kernel
theorem dX5_hears_0 : decode cX5_hears 0 = .ok (.iload_n 2, 1) := by decide +kernel
theorem dX5_hears_1 : decode cX5_hears 1 = .ok (.aload_n 0, 1) := by decide +kernel
theorem dX5_hears_2 : decode cX5_hears 2 = .ok (.getfield 13, 3) := by decide +kernel
theorem dX5_hears_5 : decode cX5_hears 5 = .ok (.iload_n 1, 1) := by decide +kernel
theorem dX5_hears_6 : decode cX5_hears 6 = .ok (.iaload, 1) := by decide +kernel
theorem dX5_hears_7 : decode cX5_hears 7 = .ok (.if_icmp .ge 7, 3) := by decide +kernel
theorem dX5_hears_10 : decode cX5_hears 10 = .ok (.iload_n 2, 1) := by decide +kernel
theorem dX5_hears_11 : decode cX5_hears 11 = .ok (.goto 9, 3) := by decide +kernel
theorem dX5_hears_14 : decode cX5_hears 14 = .ok (.aload_n 0, 1) := by decide +kernel
theorem dX5_hears_15 : decode cX5_hears 15 = .ok (.getfield 13, 3) := by decide +kernel
theorem dX5_hears_18 : decode cX5_hears 18 = .ok (.iload_n 1, 1) := by decide +kernel
theorem dX5_hears_19 : decode cX5_hears 19 = .ok (.iaload, 1) := by decide +kernel
theorem dX5_hears_20 : decode cX5_hears 20 = .ok (.istore 4, 2) := by decide +kernel
theorem dX5_hears_22 : decode cX5_hears 22 = .ok (.iconst 0, 1) := by decide +kernel
theorem dX5_hears_23 : decode cX5_hears 23 = .ok (.istore 5, 2) := by decide +kernel
theorem dX5_hears_25 : decode cX5_hears 25 = .ok (.iconst 0, 1) := by decide +kernel
theorem dX5_hears_26 : decode cX5_hears 26 = .ok (.istore 6, 2) := by decide +kernel
theorem dX5_hears_28 : decode cX5_hears 28 = .ok (.iload 6, 2) := by decide +kernel
theorem dX5_hears_30 : decode cX5_hears 30 = .ok (.aload_n 0, 1) := by decide +kernel
theorem dX5_hears_31 : decode cX5_hears 31 = .ok (.getfield 28, 3) := by decide +kernel
theorem dX5_hears_34 : decode cX5_hears 34 = .ok (.bipush 48, 2) := by decide +kernel
theorem dX5_hears_36 : decode cX5_hears 36 = .ok (.iaload, 1) := by decide +kernel
theorem dX5_hears_37 : decode cX5_hears 37 = .ok (.if_icmp .ge 147, 3) := by decide +kernel
theorem dX5_hears_40 : decode cX5_hears 40 = .ok (.aload_n 0, 1) := by decide +kernel
theorem dX5_hears_41 : decode cX5_hears 41 = .ok (.getfield 28, 3) := by decide +kernel
theorem dX5_hears_44 : decode cX5_hears 44 = .ok (.bipush 49, 2) := by decide +kernel
theorem dX5_hears_46 : decode cX5_hears 46 = .ok (.iaload, 1) := by decide +kernel
theorem dX5_hears_47 : decode cX5_hears 47 = .ok (.iload_n 1, 1) := by decide +kernel
theorem dX5_hears_48 : decode cX5_hears 48 = .ok (.invokestatic 125, 3) := by decide +kernel
theorem dX5_hears_51 : decode cX5_hears 51 = .ok (.ifCond .ne 133, 3) := by decide +kernel
theorem dX5_hears_54 : decode cX5_hears 54 = .ok (.bipush 6, 2) := by decide +kernel
theorem dX5_hears_56 : decode cX5_hears 56 = .ok (.iload 6, 2) := by decide +kernel
theorem dX5_hears_58 : decode cX5_hears 58 = .ok (.imul, 1) := by decide +kernel
theorem dX5_hears_59 : decode cX5_hears 59 = .ok (.istore 7, 2) := by decide +kernel
theorem dX5_hears_61 : decode cX5_hears 61 = .ok (.aload_n 0, 1) := by decide +kernel
theorem dX5_hears_62 : decode cX5_hears 62 = .ok (.getfield 28, 3) := by decide +kernel
theorem dX5_hears_65 : decode cX5_hears 65 = .ok (.iload 7, 2) := by decide +kernel
theorem dX5_hears_67 : decode cX5_hears 67 = .ok (.iconst 4, 1) := by decide +kernel
theorem dX5_hears_68 : decode cX5_hears 68 = .ok (.iadd, 1) := by decide +kernel
theorem dX5_hears_69 : decode cX5_hears 69 = .ok (.iaload, 1) := by decide +kernel
theorem dX5_hears_70 : decode cX5_hears 70 = .ok (.aload_n 0, 1) := by decide +kernel
theorem dX5_hears_71 : decode cX5_hears 71 = .ok (.getfield 13, 3) := by decide +kernel
theorem dX5_hears_74 : decode cX5_hears 74 = .ok (.iload_n 1, 1) := by decide +kernel
theorem dX5_hears_75 : decode cX5_hears 75 = .ok (.iaload, 1) := by decide +kernel
theorem dX5_hears_76 : decode cX5_hears 76 = .ok (.if_icmp .ge 15, 3) := by decide +kernel
theorem dX5_hears_79 : decode cX5_hears 79 = .ok (.aload_n 0, 1) := by decide +kernel
theorem dX5_hears_80 : decode cX5_hears 80 = .ok (.getfield 28, 3) := by decide +kernel
theorem dX5_hears_83 : decode cX5_hears 83 = .ok (.iload 7, 2) := by decide +kernel
theorem dX5_hears_85 : decode cX5_hears 85 = .ok (.iconst 4, 1) := by decide +kernel
theorem dX5_hears_86 : decode cX5_hears 86 = .ok (.iadd, 1) := by decide +kernel
theorem dX5_hears_87 : decode cX5_hears 87 = .ok (.iaload, 1) := by decide +kernel
theorem dX5_hears_88 : decode cX5_hears 88 = .ok (.goto 9, 3) := by decide +kernel
theorem dX5_hears_91 : decode cX5_hears 91 = .ok (.aload_n 0, 1) := by decide +kernel
theorem dX5_hears_92 : decode cX5_hears 92 = .ok (.getfield 13, 3) := by decide +kernel
theorem dX5_hears_95 : decode cX5_hears 95 = .ok (.iload_n 1, 1) := by decide +kernel
theorem dX5_hears_96 : decode cX5_hears 96 = .ok (.iaload, 1) := by decide +kernel
theorem dX5_hears_97 : decode cX5_hears 97 = .ok (.istore 8, 2) := by decide +kernel
theorem dX5_hears_99 : decode cX5_hears 99 = .ok (.iload 8, 2) := by decide +kernel
theorem dX5_hears_101 : decode cX5_hears 101 = .ok (.iload 4, 2) := by decide +kernel
theorem dX5_hears_103 : decode cX5_hears 103 = .ok (.if_icmp .ge 11, 3) := by decide +kernel
theorem dX5_hears_106 : decode cX5_hears 106 = .ok (.iload 4, 2) := by decide +kernel
theorem dX5_hears_108 : decode cX5_hears 108 = .ok (.iload 8, 2) := by decide +kernel
theorem dX5_hears_110 : decode cX5_hears 110 = .ok (.isub, 1) := by decide +kernel
theorem dX5_hears_111 : decode cX5_hears 111 = .ok (.goto 8, 3) := by decide +kernel
theorem dX5_hears_114 : decode cX5_hears 114 = .ok (.iload 8, 2) := by decide +kernel
theorem dX5_hears_116 : decode cX5_hears 116 = .ok (.iload 4, 2) := by decide +kernel
theorem dX5_hears_118 : decode cX5_hears 118 = .ok (.isub, 1) := by decide +kernel
theorem dX5_hears_119 : decode cX5_hears 119 = .ok (.istore 9, 2) := by decide +kernel
theorem dX5_hears_121 : decode cX5_hears 121 = .ok (.iload 5, 2) := by decide +kernel
theorem dX5_hears_123 : decode cX5_hears 123 = .ok (.aload_n 0, 1) := by decide +kernel
theorem dX5_hears_124 : decode cX5_hears 124 = .ok (.getfield 28, 3) := by decide +kernel
theorem dX5_hears_127 : decode cX5_hears 127 = .ok (.iload 7, 2) := by decide +kernel
theorem dX5_hears_129 : decode cX5_hears 129 = .ok (.iconst 1, 1) := by decide +kernel
theorem dX5_hears_130 : decode cX5_hears 130 = .ok (.iadd, 1) := by decide +kernel
theorem dX5_hears_131 : decode cX5_hears 131 = .ok (.iaload, 1) := by decide +kernel
theorem dX5_hears_132 : decode cX5_hears 132 = .ok (.iload_n 1, 1) := by decide +kernel
theorem dX5_hears_133 : decode cX5_hears 133 = .ok (.if_icmp .ne 41, 3) := by decide +kernel
theorem dX5_hears_136 : decode cX5_hears 136 = .ok (.aload_n 0, 1) := by decide +kernel
theorem dX5_hears_137 : decode cX5_hears 137 = .ok (.getfield 28, 3) := by decide +kernel
theorem dX5_hears_140 : decode cX5_hears 140 = .ok (.iload 7, 2) := by decide +kernel
theorem dX5_hears_142 : decode cX5_hears 142 = .ok (.iconst 2, 1) := by decide +kernel
theorem dX5_hears_143 : decode cX5_hears 143 = .ok (.iadd, 1) := by decide +kernel
theorem dX5_hears_144 : decode cX5_hears 144 = .ok (.iaload, 1) := by decide +kernel
theorem dX5_hears_145 : decode cX5_hears 145 = .ok (.iload 9, 2) := by decide +kernel
theorem dX5_hears_147 : decode cX5_hears 147 = .ok (.if_icmp .le 27, 3) := by decide +kernel
theorem dX5_hears_150 : decode cX5_hears 150 = .ok (.iload_n 3, 1) := by decide +kernel
theorem dX5_hears_151 : decode cX5_hears 151 = .ok (.ifCond .eq 16, 3) := by decide +kernel
theorem dX5_hears_154 : decode cX5_hears 154 = .ok (.aload_n 0, 1) := by decide +kernel
theorem dX5_hears_155 : decode cX5_hears 155 = .ok (.getfield 28, 3) := by decide +kernel
theorem dX5_hears_158 : decode cX5_hears 158 = .ok (.iload 7, 2) := by decide +kernel
theorem dX5_hears_160 : decode cX5_hears 160 = .ok (.iconst 3, 1) := by decide +kernel
theorem dX5_hears_161 : decode cX5_hears 161 = .ok (.iadd, 1) := by decide +kernel
theorem dX5_hears_162 : decode cX5_hears 162 = .ok (.iaload, 1) := by decide +kernel
theorem dX5_hears_163 : decode cX5_hears 163 = .ok (.iconst 2, 1) := by decide +kernel
theorem dX5_hears_164 : decode cX5_hears 164 = .ok (.if_icmp .ge 10, 3) := by decide +kernel
theorem dX5_hears_167 : decode cX5_hears 167 = .ok (.iconst 1, 1) := by decide +kernel
theorem dX5_hears_168 : decode cX5_hears 168 = .ok (.iload 6, 2) := by decide +kernel
theorem dX5_hears_170 : decode cX5_hears 170 = .ok (.ishl, 1) := by decide +kernel
theorem dX5_hears_171 : decode cX5_hears 171 = .ok (.goto 4, 3) := by decide +kernel
theorem dX5_hears_174 : decode cX5_hears 174 = .ok (.iconst 0, 1) := by decide +kernel
theorem dX5_hears_175 : decode cX5_hears 175 = .ok (.ior, 1) := by decide +kernel
theorem dX5_hears_176 : decode cX5_hears 176 = .ok (.istore 5, 2) := by decide +kernel
theorem dX5_hears_178 : decode cX5_hears 178 = .ok (.iinc 6 1, 3) := by decide +kernel
theorem dX5_hears_181 : decode cX5_hears 181 = .ok (.goto (-153), 3) := by decide +kernel
theorem dX5_hears_184 : decode cX5_hears 184 = .ok (.iload 5, 2) := by decide +kernel
theorem dX5_hears_186 : decode cX5_hears 186 = .ok (.ireturn, 1) := by decide +kernel
theorem dX5_heard_0 : decode cX5_heard 0 = .ok (.aload_n 0, 1) := by decide +kernel
theorem dX5_heard_1 : decode cX5_heard 1 = .ok (.iconst 0, 1) := by decide +kernel
theorem dX5_heard_2 : decode cX5_heard 2 = .ok (.putfield 62, 3) := by decide +kernel
theorem dX5_heard_5 : decode cX5_heard 5 = .ok (.aload_n 0, 1) := by decide +kernel
theorem dX5_heard_6 : decode cX5_heard 6 = .ok (.iload_n 1, 1) := by decide +kernel
theorem dX5_heard_7 : decode cX5_heard 7 = .ok (.invokevirtual 116, 3) := by decide +kernel
theorem dX5_heard_10 : decode cX5_heard 10 = .ok (.ifCond .eq 7, 3) := by decide +kernel
theorem dX5_heard_13 : decode cX5_heard 13 = .ok (.iconst (-1), 1) := by decide +kernel
theorem dX5_heard_14 : decode cX5_heard 14 = .ok (.goto 27, 3) := by decide +kernel
theorem dX5_heard_17 : decode cX5_heard 17 = .ok (.iload_n 2, 1) := by decide +kernel
theorem dX5_heard_18 : decode cX5_heard 18 = .ok (.i2l, 1) := by decide +kernel
theorem dX5_heard_19 : decode cX5_heard 19 = .ok (.lconst 0, 1) := by decide +kernel
theorem dX5_heard_20 : decode cX5_heard 20 = .ok (.ldc2_w 143, 3) := by decide +kernel
theorem dX5_heard_23 : decode cX5_heard 23 = .ok (.invokestatic 69, 3) := by decide +kernel
theorem dX5_heard_26 : decode cX5_heard 26 = .ok (.ifCond .eq 13, 3) := by decide +kernel
theorem dX5_heard_29 : decode cX5_heard 29 = .ok (.aload_n 0, 1) := by decide +kernel
theorem dX5_heard_30 : decode cX5_heard 30 = .ok (.iload_n 1, 1) := by decide +kernel
theorem dX5_heard_31 : decode cX5_heard 31 = .ok (.iload_n 2, 1) := by decide +kernel
theorem dX5_heard_32 : decode cX5_heard 32 = .ok (.iload_n 3, 1) := by decide +kernel
theorem dX5_heard_33 : decode cX5_heard 33 = .ok (.invokevirtual 155, 3) := by decide +kernel
theorem dX5_heard_36 : decode cX5_heard 36 = .ok (.goto 5, 3) := by decide +kernel
theorem dX5_heard_39 : decode cX5_heard 39 = .ok (.bipush (-2), 2) := by decide +kernel
theorem dX5_heard_41 : decode cX5_heard 41 = .ok (.ireturn, 1) := by decide +kernel
theorem dX5_songLasts_0 : decode cX5_songLasts 0 = .ok (.aload_n 0, 1) := by decide +kernel
theorem dX5_songLasts_1 : decode cX5_songLasts 1 = .ok (.iconst 0, 1) := by decide +kernel
theorem dX5_songLasts_2 : decode cX5_songLasts 2 = .ok (.putfield 62, 3) := by decide +kernel
theorem dX5_songLasts_5 : decode cX5_songLasts 5 = .ok (.aload_n 0, 1) := by decide +kernel
theorem dX5_songLasts_6 : decode cX5_songLasts 6 = .ok (.iload_n 1, 1) := by decide +kernel
theorem dX5_songLasts_7 : decode cX5_songLasts 7 = .ok (.invokevirtual 120, 3) := by decide +kernel
theorem dX5_songLasts_10 : decode cX5_songLasts 10 = .ok (.ifCond .eq 5, 3) := by decide +kernel
theorem dX5_songLasts_13 : decode cX5_songLasts 13 = .ok (.iconst (-1), 1) := by decide +kernel
theorem dX5_songLasts_14 : decode cX5_songLasts 14 = .ok (.ireturn, 1) := by decide +kernel
theorem dX5_songLasts_15 : decode cX5_songLasts 15 = .ok (.aload_n 0, 1) := by decide +kernel
theorem dX5_songLasts_16 : decode cX5_songLasts 16 = .ok (.getfield 28, 3) := by decide +kernel
theorem dX5_songLasts_19 : decode cX5_songLasts 19 = .ok (.aload_n 0, 1) := by decide +kernel
theorem dX5_songLasts_20 : decode cX5_songLasts 20 = .ok (.getfield 41, 3) := by decide +kernel
theorem dX5_songLasts_23 : decode cX5_songLasts 23 = .ok (.invokestatic 159, 3) := by decide +kernel
theorem dX5_songLasts_26 : decode cX5_songLasts 26 = .ok (.iload_n 1, 1) := by decide +kernel
theorem dX5_songLasts_27 : decode cX5_songLasts 27 = .ok (.istore_n 2, 1) := by decide +kernel
theorem dX5_songLasts_28 : decode cX5_songLasts 28 = .ok (.iconst 1, 1) := by decide +kernel
theorem dX5_songLasts_29 : decode cX5_songLasts 29 = .ok (.istore_n 3, 1) := by decide +kernel
theorem dX5_songLasts_30 : decode cX5_songLasts 30 = .ok (.iload_n 3, 1) := by decide +kernel
theorem dX5_songLasts_31 : decode cX5_songLasts 31 = .ok (.bipush 99, 2) := by decide +kernel
theorem dX5_songLasts_33 : decode cX5_songLasts 33 = .ok (.if_icmp .ge 27, 3) := by decide +kernel
theorem dX5_songLasts_36 : decode cX5_songLasts 36 = .ok (.aload_n 0, 1) := by decide +kernel
theorem dX5_songLasts_37 : decode cX5_songLasts 37 = .ok (.aload_n 0, 1) := by decide +kernel
theorem dX5_songLasts_38 : decode cX5_songLasts 38 = .ok (.getfield 41, 3) := by decide +kernel
theorem dX5_songLasts_41 : decode cX5_songLasts 41 = .ok (.iload_n 2, 1) := by decide +kernel
theorem dX5_songLasts_42 : decode cX5_songLasts 42 = .ok (.invokevirtual 136, 3) := by decide +kernel
theorem dX5_songLasts_45 : decode cX5_songLasts 45 = .ok (.istore_n 2, 1) := by decide +kernel
theorem dX5_songLasts_46 : decode cX5_songLasts 46 = .ok (.iload_n 2, 1) := by decide +kernel
theorem dX5_songLasts_47 : decode cX5_songLasts 47 = .ok (.bipush (-9), 2) := by decide +kernel
theorem dX5_songLasts_49 : decode cX5_songLasts 49 = .ok (.if_icmp .ne 5, 3) := by decide +kernel
theorem dX5_songLasts_52 : decode cX5_songLasts 52 = .ok (.iload_n 3, 1) := by decide +kernel
theorem dX5_songLasts_53 : decode cX5_songLasts 53 = .ok (.ireturn, 1) := by decide +kernel
theorem dX5_songLasts_54 : decode cX5_songLasts 54 = .ok (.iinc 3 1, 3) := by decide +kernel
theorem dX5_songLasts_57 : decode cX5_songLasts 57 = .ok (.goto (-27), 3) := by decide +kernel
theorem dX5_songLasts_60 : decode cX5_songLasts 60 = .ok (.bipush 99, 2) := by decide +kernel
theorem dX5_songLasts_62 : decode cX5_songLasts 62 = .ok (.ireturn, 1) := by decide +kernel
theorem dX5_noLaw_0 : decode cX5_noLaw 0 = .ok (.iload_n 0, 1) := by decide +kernel
theorem dX5_noLaw_1 : decode cX5_noLaw 1 = .ok (.i2l, 1) := by decide +kernel
theorem dX5_noLaw_2 : decode cX5_noLaw 2 = .ok (.lconst 0, 1) := by decide +kernel
theorem dX5_noLaw_3 : decode cX5_noLaw 3 = .ok (.ldc2_w 123, 3) := by decide +kernel
theorem dX5_noLaw_6 : decode cX5_noLaw 6 = .ok (.invokestatic 69, 3) := by decide +kernel
theorem dX5_noLaw_9 : decode cX5_noLaw 9 = .ok (.ifCond .ne 7, 3) := by decide +kernel
theorem dX5_noLaw_12 : decode cX5_noLaw 12 = .ok (.iconst 1, 1) := by decide +kernel
theorem dX5_noLaw_13 : decode cX5_noLaw 13 = .ok (.goto 4, 3) := by decide +kernel
theorem dX5_noLaw_16 : decode cX5_noLaw 16 = .ok (.iconst 0, 1) := by decide +kernel
theorem dX5_noLaw_17 : decode cX5_noLaw 17 = .ok (.ireturn, 1) := by decide +kernel
theorem dX5_lawLasts_0 : decode cX5_lawLasts 0 = .ok (.aload_n 0, 1) := by decide +kernel
theorem dX5_lawLasts_1 : decode cX5_lawLasts 1 = .ok (.iconst 0, 1) := by decide +kernel
theorem dX5_lawLasts_2 : decode cX5_lawLasts 2 = .ok (.putfield 62, 3) := by decide +kernel
theorem dX5_lawLasts_5 : decode cX5_lawLasts 5 = .ok (.iload_n 1, 1) := by decide +kernel
theorem dX5_lawLasts_6 : decode cX5_lawLasts 6 = .ok (.invokestatic 163, 3) := by decide +kernel
theorem dX5_lawLasts_9 : decode cX5_lawLasts 9 = .ok (.ifCond .eq 6, 3) := by decide +kernel
theorem dX5_lawLasts_12 : decode cX5_lawLasts 12 = .ok (.bipush (-2), 2) := by decide +kernel
theorem dX5_lawLasts_14 : decode cX5_lawLasts 14 = .ok (.ireturn, 1) := by decide +kernel
theorem dX5_lawLasts_15 : decode cX5_lawLasts 15 = .ok (.aload_n 0, 1) := by decide +kernel
theorem dX5_lawLasts_16 : decode cX5_lawLasts 16 = .ok (.getfield 28, 3) := by decide +kernel
theorem dX5_lawLasts_19 : decode cX5_lawLasts 19 = .ok (.aload_n 0, 1) := by decide +kernel
theorem dX5_lawLasts_20 : decode cX5_lawLasts 20 = .ok (.getfield 41, 3) := by decide +kernel
theorem dX5_lawLasts_23 : decode cX5_lawLasts 23 = .ok (.invokestatic 159, 3) := by decide +kernel
theorem dX5_lawLasts_26 : decode cX5_lawLasts 26 = .ok (.iconst 0, 1) := by decide +kernel
theorem dX5_lawLasts_27 : decode cX5_lawLasts 27 = .ok (.istore_n 2, 1) := by decide +kernel
theorem dX5_lawLasts_28 : decode cX5_lawLasts 28 = .ok (.iload_n 2, 1) := by decide +kernel
theorem dX5_lawLasts_29 : decode cX5_lawLasts 29 = .ok (.bipush 99, 2) := by decide +kernel
theorem dX5_lawLasts_31 : decode cX5_lawLasts 31 = .ok (.if_icmp .ge 34, 3) := by decide +kernel
theorem dX5_lawLasts_34 : decode cX5_lawLasts 34 = .ok (.aload_n 0, 1) := by decide +kernel
theorem dX5_lawLasts_35 : decode cX5_lawLasts 35 = .ok (.getfield 41, 3) := by decide +kernel
theorem dX5_lawLasts_38 : decode cX5_lawLasts 38 = .ok (.invokestatic 106, 3) := by decide +kernel
theorem dX5_lawLasts_41 : decode cX5_lawLasts 41 = .ok (.iload_n 1, 1) := by decide +kernel
theorem dX5_lawLasts_42 : decode cX5_lawLasts 42 = .ok (.invokestatic 125, 3) := by decide +kernel
theorem dX5_lawLasts_45 : decode cX5_lawLasts 45 = .ok (.ifCond .eq 20, 3) := by decide +kernel
theorem dX5_lawLasts_48 : decode cX5_lawLasts 48 = .ok (.aload_n 0, 1) := by decide +kernel
theorem dX5_lawLasts_49 : decode cX5_lawLasts 49 = .ok (.aload_n 0, 1) := by decide +kernel
theorem dX5_lawLasts_50 : decode cX5_lawLasts 50 = .ok (.getfield 41, 3) := by decide +kernel
theorem dX5_lawLasts_53 : decode cX5_lawLasts 53 = .ok (.bipush (-9), 2) := by decide +kernel
theorem dX5_lawLasts_55 : decode cX5_lawLasts 55 = .ok (.invokevirtual 136, 3) := by decide +kernel
theorem dX5_lawLasts_58 : decode cX5_lawLasts 58 = .ok (.pop, 1) := by decide +kernel
theorem dX5_lawLasts_59 : decode cX5_lawLasts 59 = .ok (.iinc 2 1, 3) := by decide +kernel
theorem dX5_lawLasts_62 : decode cX5_lawLasts 62 = .ok (.goto (-34), 3) := by decide +kernel
theorem dX5_lawLasts_65 : decode cX5_lawLasts 65 = .ok (.iload_n 2, 1) := by decide +kernel
theorem dX5_lawLasts_66 : decode cX5_lawLasts 66 = .ok (.ireturn, 1) := by decide +kernel
theorem dX5_lost_0 : decode cX5_lost 0 = .ok (.aload_n 0, 1) := by decide +kernel
theorem dX5_lost_1 : decode cX5_lost 1 = .ok (.iconst 0, 1) := by decide +kernel
theorem dX5_lost_2 : decode cX5_lost 2 = .ok (.putfield 62, 3) := by decide +kernel
theorem dX5_lost_5 : decode cX5_lost 5 = .ok (.iload_n 1, 1) := by decide +kernel
theorem dX5_lost_6 : decode cX5_lost 6 = .ok (.i2l, 1) := by decide +kernel
theorem dX5_lost_7 : decode cX5_lost 7 = .ok (.lconst 0, 1) := by decide +kernel
theorem dX5_lost_8 : decode cX5_lost 8 = .ok (.ldc2_w 166, 3) := by decide +kernel
theorem dX5_lost_11 : decode cX5_lost 11 = .ok (.invokestatic 69, 3) := by decide +kernel
theorem dX5_lost_14 : decode cX5_lost 14 = .ok (.ifCond .ne 6, 3) := by decide +kernel
theorem dX5_lost_17 : decode cX5_lost 17 = .ok (.bipush (-2), 2) := by decide +kernel
theorem dX5_lost_19 : decode cX5_lost 19 = .ok (.ireturn, 1) := by decide +kernel
theorem dX5_lost_20 : decode cX5_lost 20 = .ok (.aload_n 0, 1) := by decide +kernel
theorem dX5_lost_21 : decode cX5_lost 21 = .ok (.getfield 28, 3) := by decide +kernel
theorem dX5_lost_24 : decode cX5_lost 24 = .ok (.aload_n 0, 1) := by decide +kernel
theorem dX5_lost_25 : decode cX5_lost 25 = .ok (.getfield 41, 3) := by decide +kernel
theorem dX5_lost_28 : decode cX5_lost 28 = .ok (.invokestatic 159, 3) := by decide +kernel
theorem dX5_lost_31 : decode cX5_lost 31 = .ok (.aload_n 0, 1) := by decide +kernel
theorem dX5_lost_32 : decode cX5_lost 32 = .ok (.aload_n 0, 1) := by decide +kernel
theorem dX5_lost_33 : decode cX5_lost 33 = .ok (.getfield 41, 3) := by decide +kernel
theorem dX5_lost_36 : decode cX5_lost 36 = .ok (.iload_n 1, 1) := by decide +kernel
theorem dX5_lost_37 : decode cX5_lost 37 = .ok (.invokevirtual 168, 3) := by decide +kernel
theorem dX5_lost_40 : decode cX5_lost 40 = .ok (.aload_n 0, 1) := by decide +kernel
theorem dX5_lost_41 : decode cX5_lost 41 = .ok (.getfield 110, 3) := by decide +kernel
theorem dX5_lost_44 : decode cX5_lost 44 = .ok (.aload_n 0, 1) := by decide +kernel
theorem dX5_lost_45 : decode cX5_lost 45 = .ok (.getfield 41, 3) := by decide +kernel
theorem dX5_lost_48 : decode cX5_lost 48 = .ok (.invokestatic 106, 3) := by decide +kernel
theorem dX5_lost_51 : decode cX5_lost 51 = .ok (.iconst (-1), 1) := by decide +kernel
theorem dX5_lost_52 : decode cX5_lost 52 = .ok (.ixor, 1) := by decide +kernel
theorem dX5_lost_53 : decode cX5_lost 53 = .ok (.iand, 1) := by decide +kernel
theorem dX5_lost_54 : decode cX5_lost 54 = .ok (.ireturn, 1) := by decide +kernel
theorem dX5_doPlan_0 : decode cX5_doPlan 0 = .ok (.iload_n 2, 1) := by decide +kernel
theorem dX5_doPlan_1 : decode cX5_doPlan 1 = .ok (.iconst 1, 1) := by decide +kernel
theorem dX5_doPlan_2 : decode cX5_doPlan 2 = .ok (.isub, 1) := by decide +kernel
theorem dX5_doPlan_3 : decode cX5_doPlan 3 = .ok (.iconst 2, 1) := by decide +kernel
theorem dX5_doPlan_4 : decode cX5_doPlan 4 = .ok (.idiv, 1) := by decide +kernel
theorem dX5_doPlan_5 : decode cX5_doPlan 5 = .ok (.istore_n 3, 1) := by decide +kernel
theorem dX5_doPlan_6 : decode cX5_doPlan 6 = .ok (.iload_n 2, 1) := by decide +kernel
theorem dX5_doPlan_7 : decode cX5_doPlan 7 = .ok (.iconst 1, 1) := by decide +kernel
theorem dX5_doPlan_8 : decode cX5_doPlan 8 = .ok (.isub, 1) := by decide +kernel
theorem dX5_doPlan_9 : decode cX5_doPlan 9 = .ok (.iconst 2, 1) := by decide +kernel
theorem dX5_doPlan_10 : decode cX5_doPlan 10 = .ok (.irem, 1) := by decide +kernel
theorem dX5_doPlan_11 : decode cX5_doPlan 11 = .ok (.istore 4, 2) := by decide +kernel
theorem dX5_doPlan_13 : decode cX5_doPlan 13 = .ok (.iload_n 2, 1) := by decide +kernel
theorem dX5_doPlan_14 : decode cX5_doPlan 14 = .ok (.ifCond .ne 5, 3) := by decide +kernel
theorem dX5_doPlan_17 : decode cX5_doPlan 17 = .ok (.iconst 1, 1) := by decide +kernel
theorem dX5_doPlan_18 : decode cX5_doPlan 18 = .ok (.ireturn, 1) := by decide +kernel
theorem dX5_doPlan_19 : decode cX5_doPlan 19 = .ok (.iload_n 3, 1) := by decide +kernel
theorem dX5_doPlan_20 : decode cX5_doPlan 20 = .ok (.aload_n 1, 1) := by decide +kernel
theorem dX5_doPlan_21 : decode cX5_doPlan 21 = .ok (.bipush 48, 2) := by decide +kernel
theorem dX5_doPlan_23 : decode cX5_doPlan 23 = .ok (.iaload, 1) := by decide +kernel
theorem dX5_doPlan_24 : decode cX5_doPlan 24 = .ok (.if_icmp .ge 23, 3) := by decide +kernel
theorem dX5_doPlan_27 : decode cX5_doPlan 27 = .ok (.aload_n 1, 1) := by decide +kernel
theorem dX5_doPlan_28 : decode cX5_doPlan 28 = .ok (.bipush 48, 2) := by decide +kernel
theorem dX5_doPlan_30 : decode cX5_doPlan 30 = .ok (.iaload, 1) := by decide +kernel
theorem dX5_doPlan_31 : decode cX5_doPlan 31 = .ok (.bipush 8, 2) := by decide +kernel
theorem dX5_doPlan_33 : decode cX5_doPlan 33 = .ok (.if_icmp .eq 14, 3) := by decide +kernel
theorem dX5_doPlan_36 : decode cX5_doPlan 36 = .ok (.aload_n 0, 1) := by decide +kernel
theorem dX5_doPlan_37 : decode cX5_doPlan 37 = .ok (.aload_n 1, 1) := by decide +kernel
theorem dX5_doPlan_38 : decode cX5_doPlan 38 = .ok (.iload_n 3, 1) := by decide +kernel
theorem dX5_doPlan_39 : decode cX5_doPlan 39 = .ok (.iload 4, 2) := by decide +kernel
theorem dX5_doPlan_41 : decode cX5_doPlan 41 = .ok (.invokevirtual 147, 3) := by decide +kernel
theorem dX5_doPlan_44 : decode cX5_doPlan 44 = .ok (.ifCond .ne 5, 3) := by decide +kernel
theorem dX5_doPlan_47 : decode cX5_doPlan 47 = .ok (.iconst 0, 1) := by decide +kernel
theorem dX5_doPlan_48 : decode cX5_doPlan 48 = .ok (.ireturn, 1) := by decide +kernel
theorem dX5_doPlan_49 : decode cX5_doPlan 49 = .ok (.aload_n 0, 1) := by decide +kernel
theorem dX5_doPlan_50 : decode cX5_doPlan 50 = .ok (.aload_n 1, 1) := by decide +kernel
theorem dX5_doPlan_51 : decode cX5_doPlan 51 = .ok (.iload_n 3, 1) := by decide +kernel
theorem dX5_doPlan_52 : decode cX5_doPlan 52 = .ok (.iload 4, 2) := by decide +kernel
theorem dX5_doPlan_54 : decode cX5_doPlan 54 = .ok (.bipush 6, 2) := by decide +kernel
theorem dX5_doPlan_56 : decode cX5_doPlan 56 = .ok (.aload_n 1, 1) := by decide +kernel
theorem dX5_doPlan_57 : decode cX5_doPlan 57 = .ok (.bipush 6, 2) := by decide +kernel
theorem dX5_doPlan_59 : decode cX5_doPlan 59 = .ok (.iload_n 3, 1) := by decide +kernel
theorem dX5_doPlan_60 : decode cX5_doPlan 60 = .ok (.imul, 1) := by decide +kernel
theorem dX5_doPlan_61 : decode cX5_doPlan 61 = .ok (.iconst 3, 1) := by decide +kernel
theorem dX5_doPlan_62 : decode cX5_doPlan 62 = .ok (.iadd, 1) := by decide +kernel
theorem dX5_doPlan_63 : decode cX5_doPlan 63 = .ok (.iaload, 1) := by decide +kernel
theorem dX5_doPlan_64 : decode cX5_doPlan 64 = .ok (.invokevirtual 151, 3) := by decide +kernel
theorem dX5_doPlan_67 : decode cX5_doPlan 67 = .ok (.iconst 1, 1) := by decide +kernel
theorem dX5_doPlan_68 : decode cX5_doPlan 68 = .ok (.ireturn, 1) := by decide +kernel
theorem dX5_plan_0 : decode cX5_plan 0 = .ok (.aload_n 0, 1) := by decide +kernel
theorem dX5_plan_1 : decode cX5_plan 1 = .ok (.iconst 0, 1) := by decide +kernel
theorem dX5_plan_2 : decode cX5_plan 2 = .ok (.putfield 62, 3) := by decide +kernel
theorem dX5_plan_5 : decode cX5_plan 5 = .ok (.iload_n 1, 1) := by decide +kernel
theorem dX5_plan_6 : decode cX5_plan 6 = .ok (.i2l, 1) := by decide +kernel
theorem dX5_plan_7 : decode cX5_plan 7 = .ok (.lconst 1, 1) := by decide +kernel
theorem dX5_plan_8 : decode cX5_plan 8 = .ok (.ldc2_w 172, 3) := by decide +kernel
theorem dX5_plan_11 : decode cX5_plan 11 = .ok (.invokestatic 69, 3) := by decide +kernel
theorem dX5_plan_14 : decode cX5_plan 14 = .ok (.ifCond .eq 13, 3) := by decide +kernel
theorem dX5_plan_17 : decode cX5_plan 17 = .ok (.iload_n 2, 1) := by decide +kernel
theorem dX5_plan_18 : decode cX5_plan 18 = .ok (.i2l, 1) := by decide +kernel
theorem dX5_plan_19 : decode cX5_plan 19 = .ok (.lconst 0, 1) := by decide +kernel
theorem dX5_plan_20 : decode cX5_plan 20 = .ok (.lconst 1, 1) := by decide +kernel
theorem dX5_plan_21 : decode cX5_plan 21 = .ok (.invokestatic 69, 3) := by decide +kernel
theorem dX5_plan_24 : decode cX5_plan 24 = .ok (.ifCond .ne 6, 3) := by decide +kernel
theorem dX5_plan_27 : decode cX5_plan 27 = .ok (.bipush (-2), 2) := by decide +kernel
theorem dX5_plan_29 : decode cX5_plan 29 = .ok (.ireturn, 1) := by decide +kernel
theorem dX5_plan_30 : decode cX5_plan 30 = .ok (.bipush (-9), 2) := by decide +kernel
theorem dX5_plan_32 : decode cX5_plan 32 = .ok (.istore_n 3, 1) := by decide +kernel
theorem dX5_plan_33 : decode cX5_plan 33 = .ok (.iconst 0, 1) := by decide +kernel
theorem dX5_plan_34 : decode cX5_plan 34 = .ok (.istore 4, 2) := by decide +kernel
theorem dX5_plan_36 : decode cX5_plan 36 = .ok (.iconst 0, 1) := by decide +kernel
theorem dX5_plan_37 : decode cX5_plan 37 = .ok (.istore 5, 2) := by decide +kernel
theorem dX5_plan_39 : decode cX5_plan 39 = .ok (.iconst 0, 1) := by decide +kernel
theorem dX5_plan_40 : decode cX5_plan 40 = .ok (.istore 6, 2) := by decide +kernel
theorem dX5_plan_42 : decode cX5_plan 42 = .ok (.iload 6, 2) := by decide +kernel
theorem dX5_plan_44 : decode cX5_plan 44 = .ok (.bipush 16, 2) := by decide +kernel
theorem dX5_plan_46 : decode cX5_plan 46 = .ok (.if_icmp .gt 178, 3) := by decide +kernel
theorem dX5_plan_49 : decode cX5_plan 49 = .ok (.aload_n 0, 1) := by decide +kernel
theorem dX5_plan_50 : decode cX5_plan 50 = .ok (.getfield 28, 3) := by decide +kernel
theorem dX5_plan_53 : decode cX5_plan 53 = .ok (.aload_n 0, 1) := by decide +kernel
theorem dX5_plan_54 : decode cX5_plan 54 = .ok (.getfield 41, 3) := by decide +kernel
theorem dX5_plan_57 : decode cX5_plan 57 = .ok (.invokestatic 159, 3) := by decide +kernel
theorem dX5_plan_60 : decode cX5_plan 60 = .ok (.aload_n 0, 1) := by decide +kernel
theorem dX5_plan_61 : decode cX5_plan 61 = .ok (.aload_n 0, 1) := by decide +kernel
theorem dX5_plan_62 : decode cX5_plan 62 = .ok (.getfield 41, 3) := by decide +kernel
theorem dX5_plan_65 : decode cX5_plan 65 = .ok (.iload 6, 2) := by decide +kernel
theorem dX5_plan_67 : decode cX5_plan 67 = .ok (.invokevirtual 174, 3) := by decide +kernel
theorem dX5_plan_70 : decode cX5_plan 70 = .ok (.istore 7, 2) := by decide +kernel
theorem dX5_plan_72 : decode cX5_plan 72 = .ok (.aload_n 0, 1) := by decide +kernel
theorem dX5_plan_73 : decode cX5_plan 73 = .ok (.aload_n 0, 1) := by decide +kernel
theorem dX5_plan_74 : decode cX5_plan 74 = .ok (.getfield 41, 3) := by decide +kernel
theorem dX5_plan_77 : decode cX5_plan 77 = .ok (.bipush (-9), 2) := by decide +kernel
theorem dX5_plan_79 : decode cX5_plan 79 = .ok (.invokevirtual 136, 3) := by decide +kernel
theorem dX5_plan_82 : decode cX5_plan 82 = .ok (.pop, 1) := by decide +kernel
theorem dX5_plan_83 : decode cX5_plan 83 = .ok (.iconst 0, 1) := by decide +kernel
theorem dX5_plan_84 : decode cX5_plan 84 = .ok (.istore 8, 2) := by decide +kernel
theorem dX5_plan_86 : decode cX5_plan 86 = .ok (.iload 8, 2) := by decide +kernel
theorem dX5_plan_88 : decode cX5_plan 88 = .ok (.iload_n 1, 1) := by decide +kernel
theorem dX5_plan_89 : decode cX5_plan 89 = .ok (.iconst 2, 1) := by decide +kernel
theorem dX5_plan_90 : decode cX5_plan 90 = .ok (.if_icmp .ne 8, 3) := by decide +kernel
theorem dX5_plan_93 : decode cX5_plan 93 = .ok (.bipush 16, 2) := by decide +kernel
theorem dX5_plan_95 : decode cX5_plan 95 = .ok (.goto 4, 3) := by decide +kernel
theorem dX5_plan_98 : decode cX5_plan 98 = .ok (.iconst 0, 1) := by decide +kernel
theorem dX5_plan_99 : decode cX5_plan 99 = .ok (.if_icmp .gt 119, 3) := by decide +kernel
theorem dX5_plan_102 : decode cX5_plan 102 = .ok (.iload 7, 2) := by decide +kernel
theorem dX5_plan_104 : decode cX5_plan 104 = .ok (.ifCond .eq 114, 3) := by decide +kernel
theorem dX5_plan_107 : decode cX5_plan 107 = .ok (.aload_n 0, 1) := by decide +kernel
theorem dX5_plan_108 : decode cX5_plan 108 = .ok (.getfield 41, 3) := by decide +kernel
theorem dX5_plan_111 : decode cX5_plan 111 = .ok (.aload_n 0, 1) := by decide +kernel
theorem dX5_plan_112 : decode cX5_plan 112 = .ok (.getfield 44, 3) := by decide +kernel
theorem dX5_plan_115 : decode cX5_plan 115 = .ok (.invokestatic 159, 3) := by decide +kernel
theorem dX5_plan_118 : decode cX5_plan 118 = .ok (.aload_n 0, 1) := by decide +kernel
theorem dX5_plan_119 : decode cX5_plan 119 = .ok (.aload_n 0, 1) := by decide +kernel
theorem dX5_plan_120 : decode cX5_plan 120 = .ok (.getfield 44, 3) := by decide +kernel
theorem dX5_plan_123 : decode cX5_plan 123 = .ok (.iload 8, 2) := by decide +kernel
theorem dX5_plan_125 : decode cX5_plan 125 = .ok (.invokevirtual 174, 3) := by decide +kernel
theorem dX5_plan_128 : decode cX5_plan 128 = .ok (.ifCond .eq 84, 3) := by decide +kernel
theorem dX5_plan_131 : decode cX5_plan 131 = .ok (.aload_n 0, 1) := by decide +kernel
theorem dX5_plan_132 : decode cX5_plan 132 = .ok (.aload_n 0, 1) := by decide +kernel
theorem dX5_plan_133 : decode cX5_plan 133 = .ok (.getfield 44, 3) := by decide +kernel
theorem dX5_plan_136 : decode cX5_plan 136 = .ok (.iload_n 1, 1) := by decide +kernel
theorem dX5_plan_137 : decode cX5_plan 137 = .ok (.iconst 2, 1) := by decide +kernel
theorem dX5_plan_138 : decode cX5_plan 138 = .ok (.iadd, 1) := by decide +kernel
theorem dX5_plan_139 : decode cX5_plan 139 = .ok (.invokevirtual 168, 3) := by decide +kernel
theorem dX5_plan_142 : decode cX5_plan 142 = .ok (.aload_n 0, 1) := by decide +kernel
theorem dX5_plan_143 : decode cX5_plan 143 = .ok (.getfield 44, 3) := by decide +kernel
theorem dX5_plan_146 : decode cX5_plan 146 = .ok (.invokestatic 106, 3) := by decide +kernel
theorem dX5_plan_149 : decode cX5_plan 149 = .ok (.aload_n 0, 1) := by decide +kernel
theorem dX5_plan_150 : decode cX5_plan 150 = .ok (.getfield 110, 3) := by decide +kernel
theorem dX5_plan_153 : decode cX5_plan 153 = .ok (.iand, 1) := by decide +kernel
theorem dX5_plan_154 : decode cX5_plan 154 = .ok (.invokestatic 178, 3) := by decide +kernel
theorem dX5_plan_157 : decode cX5_plan 157 = .ok (.istore 9, 2) := by decide +kernel
theorem dX5_plan_159 : decode cX5_plan 159 = .ok (.iload 6, 2) := by decide +kernel
theorem dX5_plan_161 : decode cX5_plan 161 = .ok (.ifCond .le 7, 3) := by decide +kernel
theorem dX5_plan_164 : decode cX5_plan 164 = .ok (.iconst 1, 1) := by decide +kernel
theorem dX5_plan_165 : decode cX5_plan 165 = .ok (.goto 4, 3) := by decide +kernel
theorem dX5_plan_168 : decode cX5_plan 168 = .ok (.iconst 0, 1) := by decide +kernel
theorem dX5_plan_169 : decode cX5_plan 169 = .ok (.iload 8, 2) := by decide +kernel
theorem dX5_plan_171 : decode cX5_plan 171 = .ok (.ifCond .le 7, 3) := by decide +kernel
theorem dX5_plan_174 : decode cX5_plan 174 = .ok (.iconst 1, 1) := by decide +kernel
theorem dX5_plan_175 : decode cX5_plan 175 = .ok (.goto 4, 3) := by decide +kernel
theorem dX5_plan_178 : decode cX5_plan 178 = .ok (.iconst 0, 1) := by decide +kernel
theorem dX5_plan_179 : decode cX5_plan 179 = .ok (.iadd, 1) := by decide +kernel
theorem dX5_plan_180 : decode cX5_plan 180 = .ok (.istore 10, 2) := by decide +kernel
theorem dX5_plan_182 : decode cX5_plan 182 = .ok (.iload 9, 2) := by decide +kernel
theorem dX5_plan_184 : decode cX5_plan 184 = .ok (.iload_n 3, 1) := by decide +kernel
theorem dX5_plan_185 : decode cX5_plan 185 = .ok (.if_icmp .gt 16, 3) := by decide +kernel
theorem dX5_plan_188 : decode cX5_plan 188 = .ok (.iload 9, 2) := by decide +kernel
theorem dX5_plan_190 : decode cX5_plan 190 = .ok (.iload_n 3, 1) := by decide +kernel
theorem dX5_plan_191 : decode cX5_plan 191 = .ok (.if_icmp .ne 21, 3) := by decide +kernel
theorem dX5_plan_194 : decode cX5_plan 194 = .ok (.iload 10, 2) := by decide +kernel
theorem dX5_plan_196 : decode cX5_plan 196 = .ok (.iload 4, 2) := by decide +kernel
theorem dX5_plan_198 : decode cX5_plan 198 = .ok (.if_icmp .ge 14, 3) := by decide +kernel
theorem dX5_plan_201 : decode cX5_plan 201 = .ok (.iload 9, 2) := by decide +kernel
theorem dX5_plan_203 : decode cX5_plan 203 = .ok (.istore_n 3, 1) := by decide +kernel
theorem dX5_plan_204 : decode cX5_plan 204 = .ok (.iload 10, 2) := by decide +kernel
theorem dX5_plan_206 : decode cX5_plan 206 = .ok (.istore 4, 2) := by decide +kernel
theorem dX5_plan_208 : decode cX5_plan 208 = .ok (.iload 6, 2) := by decide +kernel
theorem dX5_plan_210 : decode cX5_plan 210 = .ok (.istore 5, 2) := by decide +kernel
theorem dX5_plan_212 : decode cX5_plan 212 = .ok (.iinc 8 1, 3) := by decide +kernel
theorem dX5_plan_215 : decode cX5_plan 215 = .ok (.goto (-129), 3) := by decide +kernel
theorem dX5_plan_218 : decode cX5_plan 218 = .ok (.iinc 6 1, 3) := by decide +kernel
theorem dX5_plan_221 : decode cX5_plan 221 = .ok (.goto (-179), 3) := by decide +kernel
theorem dX5_plan_224 : decode cX5_plan 224 = .ok (.iload_n 2, 1) := by decide +kernel
theorem dX5_plan_225 : decode cX5_plan 225 = .ok (.ifCond .ne 7, 3) := by decide +kernel
theorem dX5_plan_228 : decode cX5_plan 228 = .ok (.iload_n 3, 1) := by decide +kernel
theorem dX5_plan_229 : decode cX5_plan 229 = .ok (.goto 5, 3) := by decide +kernel
theorem dX5_plan_232 : decode cX5_plan 232 = .ok (.iload 5, 2) := by decide +kernel
theorem dX5_plan_234 : decode cX5_plan 234 = .ok (.ireturn, 1) := by decide +kernel
theorem dX5_hadBy_0 : decode cX5_hadBy 0 = .ok (.aload_n 0, 1) := by decide +kernel
theorem dX5_hadBy_1 : decode cX5_hadBy 1 = .ok (.getfield 28, 3) := by decide +kernel
theorem dX5_hadBy_4 : decode cX5_hadBy 4 = .ok (.aload_n 0, 1) := by decide +kernel
theorem dX5_hadBy_5 : decode cX5_hadBy 5 = .ok (.getfield 47, 3) := by decide +kernel
theorem dX5_hadBy_8 : decode cX5_hadBy 8 = .ok (.invokestatic 159, 3) := by decide +kernel
theorem dX5_hadBy_11 : decode cX5_hadBy 11 = .ok (.aload_n 0, 1) := by decide +kernel
theorem dX5_hadBy_12 : decode cX5_hadBy 12 = .ok (.getfield 47, 3) := by decide +kernel
theorem dX5_hadBy_15 : decode cX5_hadBy 15 = .ok (.bipush 49, 2) := by decide +kernel
theorem dX5_hadBy_17 : decode cX5_hadBy 17 = .ok (.iload_n 1, 1) := by decide +kernel
theorem dX5_hadBy_18 : decode cX5_hadBy 18 = .ok (.iastore, 1) := by decide +kernel
theorem dX5_hadBy_19 : decode cX5_hadBy 19 = .ok (.aload_n 0, 1) := by decide +kernel
theorem dX5_hadBy_20 : decode cX5_hadBy 20 = .ok (.aload_n 0, 1) := by decide +kernel
theorem dX5_hadBy_21 : decode cX5_hadBy 21 = .ok (.getfield 47, 3) := by decide +kernel
theorem dX5_hadBy_24 : decode cX5_hadBy 24 = .ok (.iload_n 2, 1) := by decide +kernel
theorem dX5_hadBy_25 : decode cX5_hadBy 25 = .ok (.invokevirtual 168, 3) := by decide +kernel
theorem dX5_hadBy_28 : decode cX5_hadBy 28 = .ok (.aload_n 0, 1) := by decide +kernel
theorem dX5_hadBy_29 : decode cX5_hadBy 29 = .ok (.getfield 47, 3) := by decide +kernel
theorem dX5_hadBy_32 : decode cX5_hadBy 32 = .ok (.invokestatic 106, 3) := by decide +kernel
theorem dX5_hadBy_35 : decode cX5_hadBy 35 = .ok (.aload_n 0, 1) := by decide +kernel
theorem dX5_hadBy_36 : decode cX5_hadBy 36 = .ok (.getfield 110, 3) := by decide +kernel
theorem dX5_hadBy_39 : decode cX5_hadBy 39 = .ok (.iand, 1) := by decide +kernel
theorem dX5_hadBy_40 : decode cX5_hadBy 40 = .ok (.invokestatic 178, 3) := by decide +kernel
theorem dX5_hadBy_43 : decode cX5_hadBy 43 = .ok (.ireturn, 1) := by decide +kernel
theorem dX5_bestLid_0 : decode cX5_bestLid 0 = .ok (.aload_n 0, 1) := by decide +kernel
theorem dX5_bestLid_1 : decode cX5_bestLid 1 = .ok (.iconst 0, 1) := by decide +kernel
theorem dX5_bestLid_2 : decode cX5_bestLid 2 = .ok (.putfield 62, 3) := by decide +kernel
theorem dX5_bestLid_5 : decode cX5_bestLid 5 = .ok (.iload_n 1, 1) := by decide +kernel
theorem dX5_bestLid_6 : decode cX5_bestLid 6 = .ok (.i2l, 1) := by decide +kernel
theorem dX5_bestLid_7 : decode cX5_bestLid 7 = .ok (.lconst 1, 1) := by decide +kernel
theorem dX5_bestLid_8 : decode cX5_bestLid 8 = .ok (.ldc2_w 143, 3) := by decide +kernel
theorem dX5_bestLid_11 : decode cX5_bestLid 11 = .ok (.invokestatic 69, 3) := by decide +kernel
theorem dX5_bestLid_14 : decode cX5_bestLid 14 = .ok (.ifCond .ne 6, 3) := by decide +kernel
theorem dX5_bestLid_17 : decode cX5_bestLid 17 = .ok (.bipush (-2), 2) := by decide +kernel
theorem dX5_bestLid_19 : decode cX5_bestLid 19 = .ok (.ireturn, 1) := by decide +kernel
theorem dX5_bestLid_20 : decode cX5_bestLid 20 = .ok (.bipush (-9), 2) := by decide +kernel
theorem dX5_bestLid_22 : decode cX5_bestLid 22 = .ok (.istore_n 2, 1) := by decide +kernel
theorem dX5_bestLid_23 : decode cX5_bestLid 23 = .ok (.aload_n 0, 1) := by decide +kernel
theorem dX5_bestLid_24 : decode cX5_bestLid 24 = .ok (.aload_n 0, 1) := by decide +kernel
theorem dX5_bestLid_25 : decode cX5_bestLid 25 = .ok (.getfield 28, 3) := by decide +kernel
theorem dX5_bestLid_28 : decode cX5_bestLid 28 = .ok (.bipush 49, 2) := by decide +kernel
theorem dX5_bestLid_30 : decode cX5_bestLid 30 = .ok (.iaload, 1) := by decide +kernel
theorem dX5_bestLid_31 : decode cX5_bestLid 31 = .ok (.iload_n 1, 1) := by decide +kernel
theorem dX5_bestLid_32 : decode cX5_bestLid 32 = .ok (.invokevirtual 182, 3) := by decide +kernel
theorem dX5_bestLid_35 : decode cX5_bestLid 35 = .ok (.istore_n 3, 1) := by decide +kernel
theorem dX5_bestLid_36 : decode cX5_bestLid 36 = .ok (.iconst 0, 1) := by decide +kernel
theorem dX5_bestLid_37 : decode cX5_bestLid 37 = .ok (.istore 4, 2) := by decide +kernel
theorem dX5_bestLid_39 : decode cX5_bestLid 39 = .ok (.iload 4, 2) := by decide +kernel
theorem dX5_bestLid_41 : decode cX5_bestLid 41 = .ok (.aload_n 0, 1) := by decide +kernel
theorem dX5_bestLid_42 : decode cX5_bestLid 42 = .ok (.getfield 66, 3) := by decide +kernel
theorem dX5_bestLid_45 : decode cX5_bestLid 45 = .ok (.if_icmp .ge 73, 3) := by decide +kernel
theorem dX5_bestLid_48 : decode cX5_bestLid 48 = .ok (.aload_n 0, 1) := by decide +kernel
theorem dX5_bestLid_49 : decode cX5_bestLid 49 = .ok (.getfield 28, 3) := by decide +kernel
theorem dX5_bestLid_52 : decode cX5_bestLid 52 = .ok (.bipush 49, 2) := by decide +kernel
theorem dX5_bestLid_54 : decode cX5_bestLid 54 = .ok (.iaload, 1) := by decide +kernel
theorem dX5_bestLid_55 : decode cX5_bestLid 55 = .ok (.iload 4, 2) := by decide +kernel
theorem dX5_bestLid_57 : decode cX5_bestLid 57 = .ok (.invokestatic 125, 3) := by decide +kernel
theorem dX5_bestLid_60 : decode cX5_bestLid 60 = .ok (.ifCond .eq 7, 3) := by decide +kernel
theorem dX5_bestLid_63 : decode cX5_bestLid 63 = .ok (.iconst 0, 1) := by decide +kernel
theorem dX5_bestLid_64 : decode cX5_bestLid 64 = .ok (.goto 20, 3) := by decide +kernel
theorem dX5_bestLid_67 : decode cX5_bestLid 67 = .ok (.aload_n 0, 1) := by decide +kernel
theorem dX5_bestLid_68 : decode cX5_bestLid 68 = .ok (.aload_n 0, 1) := by decide +kernel
theorem dX5_bestLid_69 : decode cX5_bestLid 69 = .ok (.getfield 28, 3) := by decide +kernel
theorem dX5_bestLid_72 : decode cX5_bestLid 72 = .ok (.bipush 49, 2) := by decide +kernel
theorem dX5_bestLid_74 : decode cX5_bestLid 74 = .ok (.iaload, 1) := by decide +kernel
theorem dX5_bestLid_75 : decode cX5_bestLid 75 = .ok (.iconst 1, 1) := by decide +kernel
theorem dX5_bestLid_76 : decode cX5_bestLid 76 = .ok (.iload 4, 2) := by decide +kernel
theorem dX5_bestLid_78 : decode cX5_bestLid 78 = .ok (.ishl, 1) := by decide +kernel
theorem dX5_bestLid_79 : decode cX5_bestLid 79 = .ok (.ior, 1) := by decide +kernel
theorem dX5_bestLid_80 : decode cX5_bestLid 80 = .ok (.iload_n 1, 1) := by decide +kernel
theorem dX5_bestLid_81 : decode cX5_bestLid 81 = .ok (.invokevirtual 182, 3) := by decide +kernel
theorem dX5_bestLid_84 : decode cX5_bestLid 84 = .ok (.istore 5, 2) := by decide +kernel
theorem dX5_bestLid_86 : decode cX5_bestLid 86 = .ok (.iload 5, 2) := by decide +kernel
theorem dX5_bestLid_88 : decode cX5_bestLid 88 = .ok (.iload_n 3, 1) := by decide +kernel
theorem dX5_bestLid_89 : decode cX5_bestLid 89 = .ok (.if_icmp .le 8, 3) := by decide +kernel
theorem dX5_bestLid_92 : decode cX5_bestLid 92 = .ok (.iload 4, 2) := by decide +kernel
theorem dX5_bestLid_94 : decode cX5_bestLid 94 = .ok (.goto 4, 3) := by decide +kernel
theorem dX5_bestLid_97 : decode cX5_bestLid 97 = .ok (.iload_n 2, 1) := by decide +kernel
theorem dX5_bestLid_98 : decode cX5_bestLid 98 = .ok (.istore_n 2, 1) := by decide +kernel
theorem dX5_bestLid_99 : decode cX5_bestLid 99 = .ok (.iload 5, 2) := by decide +kernel
theorem dX5_bestLid_101 : decode cX5_bestLid 101 = .ok (.iload_n 3, 1) := by decide +kernel
theorem dX5_bestLid_102 : decode cX5_bestLid 102 = .ok (.if_icmp .le 8, 3) := by decide +kernel
theorem dX5_bestLid_105 : decode cX5_bestLid 105 = .ok (.iload 5, 2) := by decide +kernel
theorem dX5_bestLid_107 : decode cX5_bestLid 107 = .ok (.goto 4, 3) := by decide +kernel
theorem dX5_bestLid_110 : decode cX5_bestLid 110 = .ok (.iload_n 3, 1) := by decide +kernel
theorem dX5_bestLid_111 : decode cX5_bestLid 111 = .ok (.istore_n 3, 1) := by decide +kernel
theorem dX5_bestLid_112 : decode cX5_bestLid 112 = .ok (.iinc 4 1, 3) := by decide +kernel
theorem dX5_bestLid_115 : decode cX5_bestLid 115 = .ok (.goto (-76), 3) := by decide +kernel
theorem dX5_bestLid_118 : decode cX5_bestLid 118 = .ok (.iload_n 2, 1) := by decide +kernel
theorem dX5_bestLid_119 : decode cX5_bestLid 119 = .ok (.ireturn, 1) := by decide +kernel
theorem dX5_lamps_0 : decode cX5_lamps 0 = .ok (.aload_n 0, 1) := by decide +kernel
theorem dX5_lamps_1 : decode cX5_lamps 1 = .ok (.iconst 0, 1) := by decide +kernel
theorem dX5_lamps_2 : decode cX5_lamps 2 = .ok (.putfield 62, 3) := by decide +kernel
theorem dX5_lamps_5 : decode cX5_lamps 5 = .ok (.iconst 0, 1) := by decide +kernel
theorem dX5_lamps_6 : decode cX5_lamps 6 = .ok (.istore_n 1, 1) := by decide +kernel
theorem dX5_lamps_7 : decode cX5_lamps 7 = .ok (.iload_n 1, 1) := by decide +kernel
theorem dX5_lamps_8 : decode cX5_lamps 8 = .ok (.bipush 64, 2) := by decide +kernel
theorem dX5_lamps_10 : decode cX5_lamps 10 = .ok (.if_icmp .ge 25, 3) := by decide +kernel
theorem dX5_lamps_13 : decode cX5_lamps 13 = .ok (.aload_n 0, 1) := by decide +kernel
theorem dX5_lamps_14 : decode cX5_lamps 14 = .ok (.getfield 53, 3) := by decide +kernel
theorem dX5_lamps_17 : decode cX5_lamps 17 = .ok (.iload_n 1, 1) := by decide +kernel
theorem dX5_lamps_18 : decode cX5_lamps 18 = .ok (.iload_n 1, 1) := by decide +kernel
theorem dX5_lamps_19 : decode cX5_lamps 19 = .ok (.ifCond .ne 7, 3) := by decide +kernel
theorem dX5_lamps_22 : decode cX5_lamps 22 = .ok (.iconst 0, 1) := by decide +kernel
theorem dX5_lamps_23 : decode cX5_lamps 23 = .ok (.goto 5, 3) := by decide +kernel
theorem dX5_lamps_26 : decode cX5_lamps 26 = .ok (.bipush 99, 2) := by decide +kernel
theorem dX5_lamps_28 : decode cX5_lamps 28 = .ok (.iastore, 1) := by decide +kernel
theorem dX5_lamps_29 : decode cX5_lamps 29 = .ok (.iinc 1 1, 3) := by decide +kernel
theorem dX5_lamps_32 : decode cX5_lamps 32 = .ok (.goto (-25), 3) := by decide +kernel
theorem dX5_lamps_35 : decode cX5_lamps 35 = .ok (.iconst 0, 1) := by decide +kernel
theorem dX5_lamps_36 : decode cX5_lamps 36 = .ok (.istore_n 1, 1) := by decide +kernel
theorem dX5_lamps_37 : decode cX5_lamps 37 = .ok (.iload_n 1, 1) := by decide +kernel
theorem dX5_lamps_38 : decode cX5_lamps 38 = .ok (.bipush 6, 2) := by decide +kernel
theorem dX5_lamps_40 : decode cX5_lamps 40 = .ok (.if_icmp .ge 162, 3) := by decide +kernel
theorem dX5_lamps_43 : decode cX5_lamps 43 = .ok (.iconst 0, 1) := by decide +kernel
theorem dX5_lamps_44 : decode cX5_lamps 44 = .ok (.istore_n 2, 1) := by decide +kernel
theorem dX5_lamps_45 : decode cX5_lamps 45 = .ok (.iload_n 2, 1) := by decide +kernel
theorem dX5_lamps_46 : decode cX5_lamps 46 = .ok (.bipush 10, 2) := by decide +kernel
theorem dX5_lamps_48 : decode cX5_lamps 48 = .ok (.aload_n 0, 1) := by decide +kernel
theorem dX5_lamps_49 : decode cX5_lamps 49 = .ok (.getfield 66, 3) := by decide +kernel
theorem dX5_lamps_52 : decode cX5_lamps 52 = .ok (.imul, 1) := by decide +kernel
theorem dX5_lamps_53 : decode cX5_lamps 53 = .ok (.if_icmp .ge 143, 3) := by decide +kernel
theorem dX5_lamps_56 : decode cX5_lamps 56 = .ok (.iconst 0, 1) := by decide +kernel
theorem dX5_lamps_57 : decode cX5_lamps 57 = .ok (.istore_n 3, 1) := by decide +kernel
theorem dX5_lamps_58 : decode cX5_lamps 58 = .ok (.aload_n 0, 1) := by decide +kernel
theorem dX5_lamps_59 : decode cX5_lamps 59 = .ok (.iload_n 2, 1) := by decide +kernel
theorem dX5_lamps_60 : decode cX5_lamps 60 = .ok (.bipush 10, 2) := by decide +kernel
theorem dX5_lamps_62 : decode cX5_lamps 62 = .ok (.idiv, 1) := by decide +kernel
theorem dX5_lamps_63 : decode cX5_lamps 63 = .ok (.iload_n 2, 1) := by decide +kernel
theorem dX5_lamps_64 : decode cX5_lamps 64 = .ok (.bipush 10, 2) := by decide +kernel
theorem dX5_lamps_66 : decode cX5_lamps 66 = .ok (.irem, 1) := by decide +kernel
theorem dX5_lamps_67 : decode cX5_lamps 67 = .ok (.iconst 0, 1) := by decide +kernel
theorem dX5_lamps_68 : decode cX5_lamps 68 = .ok (.invokevirtual 155, 3) := by decide +kernel
theorem dX5_lamps_71 : decode cX5_lamps 71 = .ok (.istore 4, 2) := by decide +kernel
theorem dX5_lamps_73 : decode cX5_lamps 73 = .ok (.iconst 0, 1) := by decide +kernel
theorem dX5_lamps_74 : decode cX5_lamps 74 = .ok (.istore 5, 2) := by decide +kernel
theorem dX5_lamps_76 : decode cX5_lamps 76 = .ok (.iload 5, 2) := by decide +kernel
theorem dX5_lamps_78 : decode cX5_lamps 78 = .ok (.aload_n 0, 1) := by decide +kernel
theorem dX5_lamps_79 : decode cX5_lamps 79 = .ok (.getfield 28, 3) := by decide +kernel
theorem dX5_lamps_82 : decode cX5_lamps 82 = .ok (.bipush 48, 2) := by decide +kernel
theorem dX5_lamps_84 : decode cX5_lamps 84 = .ok (.iaload, 1) := by decide +kernel
theorem dX5_lamps_85 : decode cX5_lamps 85 = .ok (.if_icmp .ge 38, 3) := by decide +kernel
theorem dX5_lamps_88 : decode cX5_lamps 88 = .ok (.iload_n 3, 1) := by decide +kernel
theorem dX5_lamps_89 : decode cX5_lamps 89 = .ok (.iload 4, 2) := by decide +kernel
theorem dX5_lamps_91 : decode cX5_lamps 91 = .ok (.iload 5, 2) := by decide +kernel
theorem dX5_lamps_93 : decode cX5_lamps 93 = .ok (.invokestatic 125, 3) := by decide +kernel
theorem dX5_lamps_96 : decode cX5_lamps 96 = .ok (.ifCond .eq 18, 3) := by decide +kernel
theorem dX5_lamps_99 : decode cX5_lamps 99 = .ok (.iconst 1, 1) := by decide +kernel
theorem dX5_lamps_100 : decode cX5_lamps 100 = .ok (.aload_n 0, 1) := by decide +kernel
theorem dX5_lamps_101 : decode cX5_lamps 101 = .ok (.getfield 28, 3) := by decide +kernel
theorem dX5_lamps_104 : decode cX5_lamps 104 = .ok (.bipush 6, 2) := by decide +kernel
theorem dX5_lamps_106 : decode cX5_lamps 106 = .ok (.iload 5, 2) := by decide +kernel
theorem dX5_lamps_108 : decode cX5_lamps 108 = .ok (.imul, 1) := by decide +kernel
theorem dX5_lamps_109 : decode cX5_lamps 109 = .ok (.iaload, 1) := by decide +kernel
theorem dX5_lamps_110 : decode cX5_lamps 110 = .ok (.ishl, 1) := by decide +kernel
theorem dX5_lamps_111 : decode cX5_lamps 111 = .ok (.goto 4, 3) := by decide +kernel
theorem dX5_lamps_114 : decode cX5_lamps 114 = .ok (.iconst 0, 1) := by decide +kernel
theorem dX5_lamps_115 : decode cX5_lamps 115 = .ok (.ior, 1) := by decide +kernel
theorem dX5_lamps_116 : decode cX5_lamps 116 = .ok (.istore_n 3, 1) := by decide +kernel
theorem dX5_lamps_117 : decode cX5_lamps 117 = .ok (.iinc 5 1, 3) := by decide +kernel
theorem dX5_lamps_120 : decode cX5_lamps 120 = .ok (.goto (-44), 3) := by decide +kernel
theorem dX5_lamps_123 : decode cX5_lamps 123 = .ok (.iconst 0, 1) := by decide +kernel
theorem dX5_lamps_124 : decode cX5_lamps 124 = .ok (.istore 5, 2) := by decide +kernel
theorem dX5_lamps_126 : decode cX5_lamps 126 = .ok (.iload 5, 2) := by decide +kernel
theorem dX5_lamps_128 : decode cX5_lamps 128 = .ok (.bipush 64, 2) := by decide +kernel
theorem dX5_lamps_130 : decode cX5_lamps 130 = .ok (.if_icmp .ge 60, 3) := by decide +kernel
theorem dX5_lamps_133 : decode cX5_lamps 133 = .ok (.iload 5, 2) := by decide +kernel
theorem dX5_lamps_135 : decode cX5_lamps 135 = .ok (.iload_n 3, 1) := by decide +kernel
theorem dX5_lamps_136 : decode cX5_lamps 136 = .ok (.ior, 1) := by decide +kernel
theorem dX5_lamps_137 : decode cX5_lamps 137 = .ok (.istore 6, 2) := by decide +kernel
theorem dX5_lamps_139 : decode cX5_lamps 139 = .ok (.aload_n 0, 1) := by decide +kernel
theorem dX5_lamps_140 : decode cX5_lamps 140 = .ok (.getfield 53, 3) := by decide +kernel
theorem dX5_lamps_143 : decode cX5_lamps 143 = .ok (.iload 6, 2) := by decide +kernel
theorem dX5_lamps_145 : decode cX5_lamps 145 = .ok (.aload_n 0, 1) := by decide +kernel
theorem dX5_lamps_146 : decode cX5_lamps 146 = .ok (.getfield 53, 3) := by decide +kernel
theorem dX5_lamps_149 : decode cX5_lamps 149 = .ok (.iload 5, 2) := by decide +kernel
theorem dX5_lamps_151 : decode cX5_lamps 151 = .ok (.iaload, 1) := by decide +kernel
theorem dX5_lamps_152 : decode cX5_lamps 152 = .ok (.iconst 1, 1) := by decide +kernel
theorem dX5_lamps_153 : decode cX5_lamps 153 = .ok (.iadd, 1) := by decide +kernel
theorem dX5_lamps_154 : decode cX5_lamps 154 = .ok (.aload_n 0, 1) := by decide +kernel
theorem dX5_lamps_155 : decode cX5_lamps 155 = .ok (.getfield 53, 3) := by decide +kernel
theorem dX5_lamps_158 : decode cX5_lamps 158 = .ok (.iload 6, 2) := by decide +kernel
theorem dX5_lamps_160 : decode cX5_lamps 160 = .ok (.iaload, 1) := by decide +kernel
theorem dX5_lamps_161 : decode cX5_lamps 161 = .ok (.if_icmp .ge 15, 3) := by decide +kernel
theorem dX5_lamps_164 : decode cX5_lamps 164 = .ok (.aload_n 0, 1) := by decide +kernel
theorem dX5_lamps_165 : decode cX5_lamps 165 = .ok (.getfield 53, 3) := by decide +kernel
theorem dX5_lamps_168 : decode cX5_lamps 168 = .ok (.iload 5, 2) := by decide +kernel
theorem dX5_lamps_170 : decode cX5_lamps 170 = .ok (.iaload, 1) := by decide +kernel
theorem dX5_lamps_171 : decode cX5_lamps 171 = .ok (.iconst 1, 1) := by decide +kernel
theorem dX5_lamps_172 : decode cX5_lamps 172 = .ok (.iadd, 1) := by decide +kernel
theorem dX5_lamps_173 : decode cX5_lamps 173 = .ok (.goto 10, 3) := by decide +kernel
theorem dX5_lamps_176 : decode cX5_lamps 176 = .ok (.aload_n 0, 1) := by decide +kernel
theorem dX5_lamps_177 : decode cX5_lamps 177 = .ok (.getfield 53, 3) := by decide +kernel
theorem dX5_lamps_180 : decode cX5_lamps 180 = .ok (.iload 6, 2) := by decide +kernel
theorem dX5_lamps_182 : decode cX5_lamps 182 = .ok (.iaload, 1) := by decide +kernel
theorem dX5_lamps_183 : decode cX5_lamps 183 = .ok (.iastore, 1) := by decide +kernel
theorem dX5_lamps_184 : decode cX5_lamps 184 = .ok (.iinc 5 1, 3) := by decide +kernel
theorem dX5_lamps_187 : decode cX5_lamps 187 = .ok (.goto (-61), 3) := by decide +kernel
theorem dX5_lamps_190 : decode cX5_lamps 190 = .ok (.iinc 2 1, 3) := by decide +kernel
theorem dX5_lamps_193 : decode cX5_lamps 193 = .ok (.goto (-148), 3) := by decide +kernel
theorem dX5_lamps_196 : decode cX5_lamps 196 = .ok (.iinc 1 1, 3) := by decide +kernel
theorem dX5_lamps_199 : decode cX5_lamps 199 = .ok (.goto (-162), 3) := by decide +kernel
theorem dX5_lamps_202 : decode cX5_lamps 202 = .ok (.aload_n 0, 1) := by decide +kernel
theorem dX5_lamps_203 : decode cX5_lamps 203 = .ok (.getfield 53, 3) := by decide +kernel
theorem dX5_lamps_206 : decode cX5_lamps 206 = .ok (.aload_n 0, 1) := by decide +kernel
theorem dX5_lamps_207 : decode cX5_lamps 207 = .ok (.getfield 28, 3) := by decide +kernel
theorem dX5_lamps_210 : decode cX5_lamps 210 = .ok (.invokestatic 106, 3) := by decide +kernel
theorem dX5_lamps_213 : decode cX5_lamps 213 = .ok (.iaload, 1) := by decide +kernel
theorem dX5_lamps_214 : decode cX5_lamps 214 = .ok (.istore_n 1, 1) := by decide +kernel
theorem dX5_lamps_215 : decode cX5_lamps 215 = .ok (.iload_n 1, 1) := by decide +kernel
theorem dX5_lamps_216 : decode cX5_lamps 216 = .ok (.bipush 99, 2) := by decide +kernel
theorem dX5_lamps_218 : decode cX5_lamps 218 = .ok (.if_icmp .lt 8, 3) := by decide +kernel
theorem dX5_lamps_221 : decode cX5_lamps 221 = .ok (.bipush (-9), 2) := by decide +kernel
theorem dX5_lamps_223 : decode cX5_lamps 223 = .ok (.goto 4, 3) := by decide +kernel
theorem dX5_lamps_226 : decode cX5_lamps 226 = .ok (.iload_n 1, 1) := by decide +kernel
theorem dX5_lamps_227 : decode cX5_lamps 227 = .ok (.ireturn, 1) := by decide +kernel
theorem dX5_mostPitch_0 : decode cX5_mostPitch 0 = .ok (.aload_n 0, 1) := by decide +kernel
theorem dX5_mostPitch_1 : decode cX5_mostPitch 1 = .ok (.iconst 0, 1) := by decide +kernel
theorem dX5_mostPitch_2 : decode cX5_mostPitch 2 = .ok (.putfield 62, 3) := by decide +kernel
theorem dX5_mostPitch_5 : decode cX5_mostPitch 5 = .ok (.iload_n 1, 1) := by decide +kernel
theorem dX5_mostPitch_6 : decode cX5_mostPitch 6 = .ok (.invokestatic 163, 3) := by decide +kernel
theorem dX5_mostPitch_9 : decode cX5_mostPitch 9 = .ok (.ifCond .eq 6, 3) := by decide +kernel
theorem dX5_mostPitch_12 : decode cX5_mostPitch 12 = .ok (.bipush (-2), 2) := by decide +kernel
theorem dX5_mostPitch_14 : decode cX5_mostPitch 14 = .ok (.ireturn, 1) := by decide +kernel
theorem dX5_mostPitch_15 : decode cX5_mostPitch 15 = .ok (.bipush (-9), 2) := by decide +kernel
theorem dX5_mostPitch_17 : decode cX5_mostPitch 17 = .ok (.istore_n 2, 1) := by decide +kernel
theorem dX5_mostPitch_18 : decode cX5_mostPitch 18 = .ok (.iconst 0, 1) := by decide +kernel
theorem dX5_mostPitch_19 : decode cX5_mostPitch 19 = .ok (.istore_n 3, 1) := by decide +kernel
theorem dX5_mostPitch_20 : decode cX5_mostPitch 20 = .ok (.iconst 0, 1) := by decide +kernel
theorem dX5_mostPitch_21 : decode cX5_mostPitch 21 = .ok (.istore 4, 2) := by decide +kernel
theorem dX5_mostPitch_23 : decode cX5_mostPitch 23 = .ok (.iload 4, 2) := by decide +kernel
theorem dX5_mostPitch_25 : decode cX5_mostPitch 25 = .ok (.iconst 4, 1) := by decide +kernel
theorem dX5_mostPitch_26 : decode cX5_mostPitch 26 = .ok (.if_icmp .ge 111, 3) := by decide +kernel
theorem dX5_mostPitch_29 : decode cX5_mostPitch 29 = .ok (.iconst 0, 1) := by decide +kernel
theorem dX5_mostPitch_30 : decode cX5_mostPitch 30 = .ok (.istore 5, 2) := by decide +kernel
theorem dX5_mostPitch_32 : decode cX5_mostPitch 32 = .ok (.iconst 0, 1) := by decide +kernel
theorem dX5_mostPitch_33 : decode cX5_mostPitch 33 = .ok (.istore 6, 2) := by decide +kernel
theorem dX5_mostPitch_35 : decode cX5_mostPitch 35 = .ok (.iload 6, 2) := by decide +kernel
theorem dX5_mostPitch_37 : decode cX5_mostPitch 37 = .ok (.aload_n 0, 1) := by decide +kernel
theorem dX5_mostPitch_38 : decode cX5_mostPitch 38 = .ok (.getfield 28, 3) := by decide +kernel
theorem dX5_mostPitch_41 : decode cX5_mostPitch 41 = .ok (.bipush 48, 2) := by decide +kernel
theorem dX5_mostPitch_43 : decode cX5_mostPitch 43 = .ok (.iaload, 1) := by decide +kernel
theorem dX5_mostPitch_44 : decode cX5_mostPitch 44 = .ok (.if_icmp .ge 50, 3) := by decide +kernel
theorem dX5_mostPitch_47 : decode cX5_mostPitch 47 = .ok (.iload 5, 2) := by decide +kernel
theorem dX5_mostPitch_49 : decode cX5_mostPitch 49 = .ok (.aload_n 0, 1) := by decide +kernel
theorem dX5_mostPitch_50 : decode cX5_mostPitch 50 = .ok (.getfield 28, 3) := by decide +kernel
theorem dX5_mostPitch_53 : decode cX5_mostPitch 53 = .ok (.bipush 6, 2) := by decide +kernel
theorem dX5_mostPitch_55 : decode cX5_mostPitch 55 = .ok (.iload 6, 2) := by decide +kernel
theorem dX5_mostPitch_57 : decode cX5_mostPitch 57 = .ok (.imul, 1) := by decide +kernel
theorem dX5_mostPitch_58 : decode cX5_mostPitch 58 = .ok (.iaload, 1) := by decide +kernel
theorem dX5_mostPitch_59 : decode cX5_mostPitch 59 = .ok (.iload_n 1, 1) := by decide +kernel
theorem dX5_mostPitch_60 : decode cX5_mostPitch 60 = .ok (.if_icmp .ne 24, 3) := by decide +kernel
theorem dX5_mostPitch_63 : decode cX5_mostPitch 63 = .ok (.aload_n 0, 1) := by decide +kernel
theorem dX5_mostPitch_64 : decode cX5_mostPitch 64 = .ok (.getfield 28, 3) := by decide +kernel
theorem dX5_mostPitch_67 : decode cX5_mostPitch 67 = .ok (.bipush 6, 2) := by decide +kernel
theorem dX5_mostPitch_69 : decode cX5_mostPitch 69 = .ok (.iload 6, 2) := by decide +kernel
theorem dX5_mostPitch_71 : decode cX5_mostPitch 71 = .ok (.imul, 1) := by decide +kernel
theorem dX5_mostPitch_72 : decode cX5_mostPitch 72 = .ok (.iconst 3, 1) := by decide +kernel
theorem dX5_mostPitch_73 : decode cX5_mostPitch 73 = .ok (.iadd, 1) := by decide +kernel
theorem dX5_mostPitch_74 : decode cX5_mostPitch 74 = .ok (.iaload, 1) := by decide +kernel
theorem dX5_mostPitch_75 : decode cX5_mostPitch 75 = .ok (.iload 4, 2) := by decide +kernel
theorem dX5_mostPitch_77 : decode cX5_mostPitch 77 = .ok (.if_icmp .ne 7, 3) := by decide +kernel
theorem dX5_mostPitch_80 : decode cX5_mostPitch 80 = .ok (.iconst 1, 1) := by decide +kernel
theorem dX5_mostPitch_81 : decode cX5_mostPitch 81 = .ok (.goto 4, 3) := by decide +kernel
theorem dX5_mostPitch_84 : decode cX5_mostPitch 84 = .ok (.iconst 0, 1) := by decide +kernel
theorem dX5_mostPitch_85 : decode cX5_mostPitch 85 = .ok (.iadd, 1) := by decide +kernel
theorem dX5_mostPitch_86 : decode cX5_mostPitch 86 = .ok (.istore 5, 2) := by decide +kernel
theorem dX5_mostPitch_88 : decode cX5_mostPitch 88 = .ok (.iinc 6 1, 3) := by decide +kernel
theorem dX5_mostPitch_91 : decode cX5_mostPitch 91 = .ok (.goto (-56), 3) := by decide +kernel
theorem dX5_mostPitch_94 : decode cX5_mostPitch 94 = .ok (.iload 5, 2) := by decide +kernel
theorem dX5_mostPitch_96 : decode cX5_mostPitch 96 = .ok (.iload_n 3, 1) := by decide +kernel
theorem dX5_mostPitch_97 : decode cX5_mostPitch 97 = .ok (.if_icmp .le 8, 3) := by decide +kernel
theorem dX5_mostPitch_100 : decode cX5_mostPitch 100 = .ok (.iload 4, 2) := by decide +kernel
theorem dX5_mostPitch_102 : decode cX5_mostPitch 102 = .ok (.goto 15, 3) := by decide +kernel
theorem dX5_mostPitch_105 : decode cX5_mostPitch 105 = .ok (.iload 5, 2) := by decide +kernel
theorem dX5_mostPitch_107 : decode cX5_mostPitch 107 = .ok (.iload_n 3, 1) := by decide +kernel
theorem dX5_mostPitch_108 : decode cX5_mostPitch 108 = .ok (.if_icmp .ne 8, 3) := by decide +kernel
theorem dX5_mostPitch_111 : decode cX5_mostPitch 111 = .ok (.bipush (-9), 2) := by decide +kernel
theorem dX5_mostPitch_113 : decode cX5_mostPitch 113 = .ok (.goto 4, 3) := by decide +kernel
theorem dX5_mostPitch_116 : decode cX5_mostPitch 116 = .ok (.iload_n 2, 1) := by decide +kernel
theorem dX5_mostPitch_117 : decode cX5_mostPitch 117 = .ok (.istore_n 2, 1) := by decide +kernel
theorem dX5_mostPitch_118 : decode cX5_mostPitch 118 = .ok (.iload 5, 2) := by decide +kernel
theorem dX5_mostPitch_120 : decode cX5_mostPitch 120 = .ok (.iload_n 3, 1) := by decide +kernel
theorem dX5_mostPitch_121 : decode cX5_mostPitch 121 = .ok (.if_icmp .le 8, 3) := by decide +kernel
theorem dX5_mostPitch_124 : decode cX5_mostPitch 124 = .ok (.iload 5, 2) := by decide +kernel
theorem dX5_mostPitch_126 : decode cX5_mostPitch 126 = .ok (.goto 4, 3) := by decide +kernel
theorem dX5_mostPitch_129 : decode cX5_mostPitch 129 = .ok (.iload_n 3, 1) := by decide +kernel
theorem dX5_mostPitch_130 : decode cX5_mostPitch 130 = .ok (.istore_n 3, 1) := by decide +kernel
theorem dX5_mostPitch_131 : decode cX5_mostPitch 131 = .ok (.iinc 4 1, 3) := by decide +kernel
theorem dX5_mostPitch_134 : decode cX5_mostPitch 134 = .ok (.goto (-111), 3) := by decide +kernel
theorem dX5_mostPitch_137 : decode cX5_mostPitch 137 = .ok (.iload_n 3, 1) := by decide +kernel
theorem dX5_mostPitch_138 : decode cX5_mostPitch 138 = .ok (.ifCond .ne 8, 3) := by decide +kernel
theorem dX5_mostPitch_141 : decode cX5_mostPitch 141 = .ok (.bipush (-9), 2) := by decide +kernel
theorem dX5_mostPitch_143 : decode cX5_mostPitch 143 = .ok (.goto 4, 3) := by decide +kernel
theorem dX5_mostPitch_146 : decode cX5_mostPitch 146 = .ok (.iload_n 2, 1) := by decide +kernel
theorem dX5_mostPitch_147 : decode cX5_mostPitch 147 = .ok (.ireturn, 1) := by decide +kernel
theorem dX5_truest_0 : decode cX5_truest 0 = .ok (.aload_n 0, 1) := by decide +kernel
theorem dX5_truest_1 : decode cX5_truest 1 = .ok (.iconst 0, 1) := by decide +kernel
theorem dX5_truest_2 : decode cX5_truest 2 = .ok (.putfield 62, 3) := by decide +kernel
theorem dX5_truest_5 : decode cX5_truest 5 = .ok (.iload_n 1, 1) := by decide +kernel
theorem dX5_truest_6 : decode cX5_truest 6 = .ok (.invokestatic 163, 3) := by decide +kernel
theorem dX5_truest_9 : decode cX5_truest 9 = .ok (.ifCond .eq 6, 3) := by decide +kernel
theorem dX5_truest_12 : decode cX5_truest 12 = .ok (.bipush (-2), 2) := by decide +kernel
theorem dX5_truest_14 : decode cX5_truest 14 = .ok (.ireturn, 1) := by decide +kernel
theorem dX5_truest_15 : decode cX5_truest 15 = .ok (.bipush (-9), 2) := by decide +kernel
theorem dX5_truest_17 : decode cX5_truest 17 = .ok (.istore_n 2, 1) := by decide +kernel
theorem dX5_truest_18 : decode cX5_truest 18 = .ok (.iconst 0, 1) := by decide +kernel
theorem dX5_truest_19 : decode cX5_truest 19 = .ok (.istore_n 3, 1) := by decide +kernel
theorem dX5_truest_20 : decode cX5_truest 20 = .ok (.iload_n 3, 1) := by decide +kernel
theorem dX5_truest_21 : decode cX5_truest 21 = .ok (.aload_n 0, 1) := by decide +kernel
theorem dX5_truest_22 : decode cX5_truest 22 = .ok (.getfield 28, 3) := by decide +kernel
theorem dX5_truest_25 : decode cX5_truest 25 = .ok (.bipush 48, 2) := by decide +kernel
theorem dX5_truest_27 : decode cX5_truest 27 = .ok (.iaload, 1) := by decide +kernel
theorem dX5_truest_28 : decode cX5_truest 28 = .ok (.if_icmp .ge 59, 3) := by decide +kernel
theorem dX5_truest_31 : decode cX5_truest 31 = .ok (.aload_n 0, 1) := by decide +kernel
theorem dX5_truest_32 : decode cX5_truest 32 = .ok (.getfield 28, 3) := by decide +kernel
theorem dX5_truest_35 : decode cX5_truest 35 = .ok (.bipush 6, 2) := by decide +kernel
theorem dX5_truest_37 : decode cX5_truest 37 = .ok (.iload_n 3, 1) := by decide +kernel
theorem dX5_truest_38 : decode cX5_truest 38 = .ok (.imul, 1) := by decide +kernel
theorem dX5_truest_39 : decode cX5_truest 39 = .ok (.iaload, 1) := by decide +kernel
theorem dX5_truest_40 : decode cX5_truest 40 = .ok (.iload_n 1, 1) := by decide +kernel
theorem dX5_truest_41 : decode cX5_truest 41 = .ok (.if_icmp .ne 38, 3) := by decide +kernel
theorem dX5_truest_44 : decode cX5_truest 44 = .ok (.iload_n 2, 1) := by decide +kernel
theorem dX5_truest_45 : decode cX5_truest 45 = .ok (.bipush (-9), 2) := by decide +kernel
theorem dX5_truest_47 : decode cX5_truest 47 = .ok (.if_icmp .eq 28, 3) := by decide +kernel
theorem dX5_truest_50 : decode cX5_truest 50 = .ok (.aload_n 0, 1) := by decide +kernel
theorem dX5_truest_51 : decode cX5_truest 51 = .ok (.getfield 28, 3) := by decide +kernel
theorem dX5_truest_54 : decode cX5_truest 54 = .ok (.bipush 6, 2) := by decide +kernel
theorem dX5_truest_56 : decode cX5_truest 56 = .ok (.iload_n 3, 1) := by decide +kernel
theorem dX5_truest_57 : decode cX5_truest 57 = .ok (.imul, 1) := by decide +kernel
theorem dX5_truest_58 : decode cX5_truest 58 = .ok (.iconst 5, 1) := by decide +kernel
theorem dX5_truest_59 : decode cX5_truest 59 = .ok (.iadd, 1) := by decide +kernel
theorem dX5_truest_60 : decode cX5_truest 60 = .ok (.iaload, 1) := by decide +kernel
theorem dX5_truest_61 : decode cX5_truest 61 = .ok (.aload_n 0, 1) := by decide +kernel
theorem dX5_truest_62 : decode cX5_truest 62 = .ok (.getfield 28, 3) := by decide +kernel
theorem dX5_truest_65 : decode cX5_truest 65 = .ok (.bipush 6, 2) := by decide +kernel
theorem dX5_truest_67 : decode cX5_truest 67 = .ok (.iload_n 2, 1) := by decide +kernel
theorem dX5_truest_68 : decode cX5_truest 68 = .ok (.imul, 1) := by decide +kernel
theorem dX5_truest_69 : decode cX5_truest 69 = .ok (.iconst 5, 1) := by decide +kernel
theorem dX5_truest_70 : decode cX5_truest 70 = .ok (.iadd, 1) := by decide +kernel
theorem dX5_truest_71 : decode cX5_truest 71 = .ok (.iaload, 1) := by decide +kernel
theorem dX5_truest_72 : decode cX5_truest 72 = .ok (.if_icmp .ge 7, 3) := by decide +kernel
theorem dX5_truest_75 : decode cX5_truest 75 = .ok (.iload_n 3, 1) := by decide +kernel
theorem dX5_truest_76 : decode cX5_truest 76 = .ok (.goto 4, 3) := by decide +kernel
theorem dX5_truest_79 : decode cX5_truest 79 = .ok (.iload_n 2, 1) := by decide +kernel
theorem dX5_truest_80 : decode cX5_truest 80 = .ok (.istore_n 2, 1) := by decide +kernel
theorem dX5_truest_81 : decode cX5_truest 81 = .ok (.iinc 3 1, 3) := by decide +kernel
theorem dX5_truest_84 : decode cX5_truest 84 = .ok (.goto (-64), 3) := by decide +kernel
theorem dX5_truest_87 : decode cX5_truest 87 = .ok (.iload_n 2, 1) := by decide +kernel
theorem dX5_truest_88 : decode cX5_truest 88 = .ok (.ireturn, 1) := by decide +kernel
theorem dX5_back_0 : decode cX5_back 0 = .ok (.aload_n 0, 1) := by decide +kernel
theorem dX5_back_1 : decode cX5_back 1 = .ok (.iconst 0, 1) := by decide +kernel
theorem dX5_back_2 : decode cX5_back 2 = .ok (.putfield 62, 3) := by decide +kernel
theorem dX5_back_5 : decode cX5_back 5 = .ok (.aload_n 0, 1) := by decide +kernel
theorem dX5_back_6 : decode cX5_back 6 = .ok (.iload_n 1, 1) := by decide +kernel
theorem dX5_back_7 : decode cX5_back 7 = .ok (.invokevirtual 116, 3) := by decide +kernel
theorem dX5_back_10 : decode cX5_back 10 = .ok (.ifCond .eq 5, 3) := by decide +kernel
theorem dX5_back_13 : decode cX5_back 13 = .ok (.iconst (-1), 1) := by decide +kernel
theorem dX5_back_14 : decode cX5_back 14 = .ok (.ireturn, 1) := by decide +kernel
theorem dX5_back_15 : decode cX5_back 15 = .ok (.iload_n 2, 1) := by decide +kernel
theorem dX5_back_16 : decode cX5_back 16 = .ok (.i2l, 1) := by decide +kernel
theorem dX5_back_17 : decode cX5_back 17 = .ok (.lconst 1, 1) := by decide +kernel
theorem dX5_back_18 : decode cX5_back 18 = .ok (.ldc2_w 143, 3) := by decide +kernel
theorem dX5_back_21 : decode cX5_back 21 = .ok (.invokestatic 69, 3) := by decide +kernel
theorem dX5_back_24 : decode cX5_back 24 = .ok (.ifCond .eq 34, 3) := by decide +kernel
theorem dX5_back_27 : decode cX5_back 27 = .ok (.iload_n 3, 1) := by decide +kernel
theorem dX5_back_28 : decode cX5_back 28 = .ok (.i2l, 1) := by decide +kernel
theorem dX5_back_29 : decode cX5_back 29 = .ok (.lconst 0, 1) := by decide +kernel
theorem dX5_back_30 : decode cX5_back 30 = .ok (.ldc2_w 143, 3) := by decide +kernel
theorem dX5_back_33 : decode cX5_back 33 = .ok (.invokestatic 69, 3) := by decide +kernel
theorem dX5_back_36 : decode cX5_back 36 = .ok (.ifCond .eq 22, 3) := by decide +kernel
theorem dX5_back_39 : decode cX5_back 39 = .ok (.iload_n 2, 1) := by decide +kernel
theorem dX5_back_40 : decode cX5_back 40 = .ok (.iload_n 3, 1) := by decide +kernel
theorem dX5_back_41 : decode cX5_back 41 = .ok (.aload_n 0, 1) := by decide +kernel
theorem dX5_back_42 : decode cX5_back 42 = .ok (.iload_n 1, 1) := by decide +kernel
theorem dX5_back_43 : decode cX5_back 43 = .ok (.aload_n 0, 1) := by decide +kernel
theorem dX5_back_44 : decode cX5_back 44 = .ok (.getfield 28, 3) := by decide +kernel
theorem dX5_back_47 : decode cX5_back 47 = .ok (.bipush 49, 2) := by decide +kernel
theorem dX5_back_49 : decode cX5_back 49 = .ok (.iaload, 1) := by decide +kernel
theorem dX5_back_50 : decode cX5_back 50 = .ok (.invokevirtual 129, 3) := by decide +kernel
theorem dX5_back_53 : decode cX5_back 53 = .ok (.imul, 1) := by decide +kernel
theorem dX5_back_54 : decode cX5_back 54 = .ok (.iadd, 1) := by decide +kernel
theorem dX5_back_55 : decode cX5_back 55 = .ok (.goto 5, 3) := by decide +kernel
theorem dX5_back_58 : decode cX5_back 58 = .ok (.bipush (-2), 2) := by decide +kernel
theorem dX5_back_60 : decode cX5_back 60 = .ok (.ireturn, 1) := by decide +kernel
theorem dX5_lords_0 : decode cX5_lords 0 = .ok (.aload_n 0, 1) := by decide +kernel
theorem dX5_lords_1 : decode cX5_lords 1 = .ok (.iconst 0, 1) := by decide +kernel
theorem dX5_lords_2 : decode cX5_lords 2 = .ok (.putfield 62, 3) := by decide +kernel
theorem dX5_lords_5 : decode cX5_lords 5 = .ok (.iload_n 1, 1) := by decide +kernel
theorem dX5_lords_6 : decode cX5_lords 6 = .ok (.i2l, 1) := by decide +kernel
theorem dX5_lords_7 : decode cX5_lords 7 = .ok (.lconst 1, 1) := by decide +kernel
theorem dX5_lords_8 : decode cX5_lords 8 = .ok (.ldc2_w 145, 3) := by decide +kernel
theorem dX5_lords_11 : decode cX5_lords 11 = .ok (.invokestatic 69, 3) := by decide +kernel
theorem dX5_lords_14 : decode cX5_lords 14 = .ok (.ifCond .eq 13, 3) := by decide +kernel
theorem dX5_lords_17 : decode cX5_lords 17 = .ok (.iload_n 2, 1) := by decide +kernel
theorem dX5_lords_18 : decode cX5_lords 18 = .ok (.i2l, 1) := by decide +kernel
theorem dX5_lords_19 : decode cX5_lords 19 = .ok (.lconst 0, 1) := by decide +kernel
theorem dX5_lords_20 : decode cX5_lords 20 = .ok (.lconst 1, 1) := by decide +kernel
theorem dX5_lords_21 : decode cX5_lords 21 = .ok (.invokestatic 69, 3) := by decide +kernel
theorem dX5_lords_24 : decode cX5_lords 24 = .ok (.ifCond .ne 6, 3) := by decide +kernel
theorem dX5_lords_27 : decode cX5_lords 27 = .ok (.bipush (-2), 2) := by decide +kernel
theorem dX5_lords_29 : decode cX5_lords 29 = .ok (.ireturn, 1) := by decide +kernel
theorem dX5_lords_30 : decode cX5_lords 30 = .ok (.iconst 0, 1) := by decide +kernel
theorem dX5_lords_31 : decode cX5_lords 31 = .ok (.istore_n 3, 1) := by decide +kernel
theorem dX5_lords_32 : decode cX5_lords 32 = .ok (.iload_n 3, 1) := by decide +kernel
theorem dX5_lords_33 : decode cX5_lords 33 = .ok (.iconst 1, 1) := by decide +kernel
theorem dX5_lords_34 : decode cX5_lords 34 = .ok (.aload_n 0, 1) := by decide +kernel
theorem dX5_lords_35 : decode cX5_lords 35 = .ok (.getfield 66, 3) := by decide +kernel
theorem dX5_lords_38 : decode cX5_lords 38 = .ok (.ishl, 1) := by decide +kernel
theorem dX5_lords_39 : decode cX5_lords 39 = .ok (.if_icmp .ge 21, 3) := by decide +kernel
theorem dX5_lords_42 : decode cX5_lords 42 = .ok (.aload_n 0, 1) := by decide +kernel
theorem dX5_lords_43 : decode cX5_lords 43 = .ok (.getfield 56, 3) := by decide +kernel
theorem dX5_lords_46 : decode cX5_lords 46 = .ok (.iload_n 3, 1) := by decide +kernel
theorem dX5_lords_47 : decode cX5_lords 47 = .ok (.aload_n 0, 1) := by decide +kernel
theorem dX5_lords_48 : decode cX5_lords 48 = .ok (.iload_n 3, 1) := by decide +kernel
theorem dX5_lords_49 : decode cX5_lords 49 = .ok (.iconst 4, 1) := by decide +kernel
theorem dX5_lords_50 : decode cX5_lords 50 = .ok (.invokevirtual 182, 3) := by decide +kernel
theorem dX5_lords_53 : decode cX5_lords 53 = .ok (.iastore, 1) := by decide +kernel
theorem dX5_lords_54 : decode cX5_lords 54 = .ok (.iinc 3 1, 3) := by decide +kernel
theorem dX5_lords_57 : decode cX5_lords 57 = .ok (.goto (-25), 3) := by decide +kernel
theorem dX5_lords_60 : decode cX5_lords 60 = .ok (.iconst 0, 1) := by decide +kernel
theorem dX5_lords_61 : decode cX5_lords 61 = .ok (.istore_n 3, 1) := by decide +kernel
theorem dX5_lords_62 : decode cX5_lords 62 = .ok (.iload_n 1, 1) := by decide +kernel
theorem dX5_lords_63 : decode cX5_lords 63 = .ok (.iconst 1, 1) := by decide +kernel
theorem dX5_lords_64 : decode cX5_lords 64 = .ok (.isub, 1) := by decide +kernel
theorem dX5_lords_65 : decode cX5_lords 65 = .ok (.istore 4, 2) := by decide +kernel
theorem dX5_lords_67 : decode cX5_lords 67 = .ok (.iload 4, 2) := by decide +kernel
theorem dX5_lords_69 : decode cX5_lords 69 = .ok (.ifCond .lt 206, 3) := by decide +kernel
theorem dX5_lords_72 : decode cX5_lords 72 = .ok (.iconst 0, 1) := by decide +kernel
theorem dX5_lords_73 : decode cX5_lords 73 = .ok (.istore 5, 2) := by decide +kernel
theorem dX5_lords_75 : decode cX5_lords 75 = .ok (.iload 5, 2) := by decide +kernel
theorem dX5_lords_77 : decode cX5_lords 77 = .ok (.iconst 1, 1) := by decide +kernel
theorem dX5_lords_78 : decode cX5_lords 78 = .ok (.aload_n 0, 1) := by decide +kernel
theorem dX5_lords_79 : decode cX5_lords 79 = .ok (.getfield 66, 3) := by decide +kernel
theorem dX5_lords_82 : decode cX5_lords 82 = .ok (.ishl, 1) := by decide +kernel
theorem dX5_lords_83 : decode cX5_lords 83 = .ok (.if_icmp .ge 152, 3) := by decide +kernel
theorem dX5_lords_86 : decode cX5_lords 86 = .ok (.aload_n 0, 1) := by decide +kernel
theorem dX5_lords_87 : decode cX5_lords 87 = .ok (.getfield 56, 3) := by decide +kernel
theorem dX5_lords_90 : decode cX5_lords 90 = .ok (.iload 5, 2) := by decide +kernel
theorem dX5_lords_92 : decode cX5_lords 92 = .ok (.iaload, 1) := by decide +kernel
theorem dX5_lords_93 : decode cX5_lords 93 = .ok (.istore 6, 2) := by decide +kernel
theorem dX5_lords_95 : decode cX5_lords 95 = .ok (.iconst 0, 1) := by decide +kernel
theorem dX5_lords_96 : decode cX5_lords 96 = .ok (.istore 7, 2) := by decide +kernel
theorem dX5_lords_98 : decode cX5_lords 98 = .ok (.iconst 0, 1) := by decide +kernel
theorem dX5_lords_99 : decode cX5_lords 99 = .ok (.istore 8, 2) := by decide +kernel
theorem dX5_lords_101 : decode cX5_lords 101 = .ok (.iload 8, 2) := by decide +kernel
theorem dX5_lords_103 : decode cX5_lords 103 = .ok (.aload_n 0, 1) := by decide +kernel
theorem dX5_lords_104 : decode cX5_lords 104 = .ok (.getfield 66, 3) := by decide +kernel
theorem dX5_lords_107 : decode cX5_lords 107 = .ok (.if_icmp .ge 89, 3) := by decide +kernel
theorem dX5_lords_110 : decode cX5_lords 110 = .ok (.aload_n 0, 1) := by decide +kernel
theorem dX5_lords_111 : decode cX5_lords 111 = .ok (.getfield 56, 3) := by decide +kernel
theorem dX5_lords_114 : decode cX5_lords 114 = .ok (.iload 5, 2) := by decide +kernel
theorem dX5_lords_116 : decode cX5_lords 116 = .ok (.iconst 1, 1) := by decide +kernel
theorem dX5_lords_117 : decode cX5_lords 117 = .ok (.iload 8, 2) := by decide +kernel
theorem dX5_lords_119 : decode cX5_lords 119 = .ok (.ishl, 1) := by decide +kernel
theorem dX5_lords_120 : decode cX5_lords 120 = .ok (.ixor, 1) := by decide +kernel
theorem dX5_lords_121 : decode cX5_lords 121 = .ok (.iaload, 1) := by decide +kernel
theorem dX5_lords_122 : decode cX5_lords 122 = .ok (.istore 9, 2) := by decide +kernel
theorem dX5_lords_124 : decode cX5_lords 124 = .ok (.iload 4, 2) := by decide +kernel
theorem dX5_lords_126 : decode cX5_lords 126 = .ok (.iconst 2, 1) := by decide +kernel
theorem dX5_lords_127 : decode cX5_lords 127 = .ok (.irem, 1) := by decide +kernel
theorem dX5_lords_128 : decode cX5_lords 128 = .ok (.ifCond .ne 18, 3) := by decide +kernel
theorem dX5_lords_131 : decode cX5_lords 131 = .ok (.iload 9, 2) := by decide +kernel
theorem dX5_lords_133 : decode cX5_lords 133 = .ok (.iload 6, 2) := by decide +kernel
theorem dX5_lords_135 : decode cX5_lords 135 = .ok (.if_icmp .le 7, 3) := by decide +kernel
theorem dX5_lords_138 : decode cX5_lords 138 = .ok (.iconst 1, 1) := by decide +kernel
theorem dX5_lords_139 : decode cX5_lords 139 = .ok (.goto 19, 3) := by decide +kernel
theorem dX5_lords_142 : decode cX5_lords 142 = .ok (.iconst 0, 1) := by decide +kernel
theorem dX5_lords_143 : decode cX5_lords 143 = .ok (.goto 15, 3) := by decide +kernel
theorem dX5_lords_146 : decode cX5_lords 146 = .ok (.iload 9, 2) := by decide +kernel
theorem dX5_lords_148 : decode cX5_lords 148 = .ok (.iload 6, 2) := by decide +kernel
theorem dX5_lords_150 : decode cX5_lords 150 = .ok (.if_icmp .ge 7, 3) := by decide +kernel
theorem dX5_lords_153 : decode cX5_lords 153 = .ok (.iconst 1, 1) := by decide +kernel
theorem dX5_lords_154 : decode cX5_lords 154 = .ok (.goto 4, 3) := by decide +kernel
theorem dX5_lords_157 : decode cX5_lords 157 = .ok (.iconst 0, 1) := by decide +kernel
theorem dX5_lords_158 : decode cX5_lords 158 = .ok (.istore 10, 2) := by decide +kernel
theorem dX5_lords_160 : decode cX5_lords 160 = .ok (.iload 10, 2) := by decide +kernel
theorem dX5_lords_162 : decode cX5_lords 162 = .ok (.ifCond .eq 10, 3) := by decide +kernel
theorem dX5_lords_165 : decode cX5_lords 165 = .ok (.iconst 1, 1) := by decide +kernel
theorem dX5_lords_166 : decode cX5_lords 166 = .ok (.iload 8, 2) := by decide +kernel
theorem dX5_lords_168 : decode cX5_lords 168 = .ok (.iadd, 1) := by decide +kernel
theorem dX5_lords_169 : decode cX5_lords 169 = .ok (.goto 5, 3) := by decide +kernel
theorem dX5_lords_172 : decode cX5_lords 172 = .ok (.iload 7, 2) := by decide +kernel
theorem dX5_lords_174 : decode cX5_lords 174 = .ok (.istore 7, 2) := by decide +kernel
theorem dX5_lords_176 : decode cX5_lords 176 = .ok (.iload 10, 2) := by decide +kernel
theorem dX5_lords_178 : decode cX5_lords 178 = .ok (.ifCond .eq 8, 3) := by decide +kernel
theorem dX5_lords_181 : decode cX5_lords 181 = .ok (.iload 9, 2) := by decide +kernel
theorem dX5_lords_183 : decode cX5_lords 183 = .ok (.goto 5, 3) := by decide +kernel
theorem dX5_lords_186 : decode cX5_lords 186 = .ok (.iload 6, 2) := by decide +kernel
theorem dX5_lords_188 : decode cX5_lords 188 = .ok (.istore 6, 2) := by decide +kernel
theorem dX5_lords_190 : decode cX5_lords 190 = .ok (.iinc 8 1, 3) := by decide +kernel
theorem dX5_lords_193 : decode cX5_lords 193 = .ok (.goto (-92), 3) := by decide +kernel
theorem dX5_lords_196 : decode cX5_lords 196 = .ok (.aload_n 0, 1) := by decide +kernel
theorem dX5_lords_197 : decode cX5_lords 197 = .ok (.getfield 59, 3) := by decide +kernel
theorem dX5_lords_200 : decode cX5_lords 200 = .ok (.iload 5, 2) := by decide +kernel
theorem dX5_lords_202 : decode cX5_lords 202 = .ok (.iload 6, 2) := by decide +kernel
theorem dX5_lords_204 : decode cX5_lords 204 = .ok (.iastore, 1) := by decide +kernel
theorem dX5_lords_205 : decode cX5_lords 205 = .ok (.iload 4, 2) := by decide +kernel
theorem dX5_lords_207 : decode cX5_lords 207 = .ok (.ifCond .ne 20, 3) := by decide +kernel
theorem dX5_lords_210 : decode cX5_lords 210 = .ok (.iload 5, 2) := by decide +kernel
theorem dX5_lords_212 : decode cX5_lords 212 = .ok (.aload_n 0, 1) := by decide +kernel
theorem dX5_lords_213 : decode cX5_lords 213 = .ok (.getfield 28, 3) := by decide +kernel
theorem dX5_lords_216 : decode cX5_lords 216 = .ok (.bipush 49, 2) := by decide +kernel
theorem dX5_lords_218 : decode cX5_lords 218 = .ok (.iaload, 1) := by decide +kernel
theorem dX5_lords_219 : decode cX5_lords 219 = .ok (.if_icmp .ne 8, 3) := by decide +kernel
theorem dX5_lords_222 : decode cX5_lords 222 = .ok (.iload 7, 2) := by decide +kernel
theorem dX5_lords_224 : decode cX5_lords 224 = .ok (.goto 4, 3) := by decide +kernel
theorem dX5_lords_227 : decode cX5_lords 227 = .ok (.iload_n 3, 1) := by decide +kernel
theorem dX5_lords_228 : decode cX5_lords 228 = .ok (.istore_n 3, 1) := by decide +kernel
theorem dX5_lords_229 : decode cX5_lords 229 = .ok (.iinc 5 1, 3) := by decide +kernel
theorem dX5_lords_232 : decode cX5_lords 232 = .ok (.goto (-157), 3) := by decide +kernel
theorem dX5_lords_235 : decode cX5_lords 235 = .ok (.iconst 0, 1) := by decide +kernel
theorem dX5_lords_236 : decode cX5_lords 236 = .ok (.istore 5, 2) := by decide +kernel
theorem dX5_lords_238 : decode cX5_lords 238 = .ok (.iload 5, 2) := by decide +kernel
theorem dX5_lords_240 : decode cX5_lords 240 = .ok (.iconst 1, 1) := by decide +kernel
theorem dX5_lords_241 : decode cX5_lords 241 = .ok (.aload_n 0, 1) := by decide +kernel
theorem dX5_lords_242 : decode cX5_lords 242 = .ok (.getfield 66, 3) := by decide +kernel
theorem dX5_lords_245 : decode cX5_lords 245 = .ok (.ishl, 1) := by decide +kernel
theorem dX5_lords_246 : decode cX5_lords 246 = .ok (.if_icmp .ge 23, 3) := by decide +kernel
theorem dX5_lords_249 : decode cX5_lords 249 = .ok (.aload_n 0, 1) := by decide +kernel
theorem dX5_lords_250 : decode cX5_lords 250 = .ok (.getfield 56, 3) := by decide +kernel
theorem dX5_lords_253 : decode cX5_lords 253 = .ok (.iload 5, 2) := by decide +kernel
theorem dX5_lords_255 : decode cX5_lords 255 = .ok (.aload_n 0, 1) := by decide +kernel
theorem dX5_lords_256 : decode cX5_lords 256 = .ok (.getfield 59, 3) := by decide +kernel
theorem dX5_lords_259 : decode cX5_lords 259 = .ok (.iload 5, 2) := by decide +kernel
theorem dX5_lords_261 : decode cX5_lords 261 = .ok (.iaload, 1) := by decide +kernel
theorem dX5_lords_262 : decode cX5_lords 262 = .ok (.iastore, 1) := by decide +kernel
theorem dX5_lords_263 : decode cX5_lords 263 = .ok (.iinc 5 1, 3) := by decide +kernel
theorem dX5_lords_266 : decode cX5_lords 266 = .ok (.goto (-28), 3) := by decide +kernel
theorem dX5_lords_269 : decode cX5_lords 269 = .ok (.iinc 4 (-1), 3) := by decide +kernel
theorem dX5_lords_272 : decode cX5_lords 272 = .ok (.goto (-205), 3) := by decide +kernel
theorem dX5_lords_275 : decode cX5_lords 275 = .ok (.iload_n 2, 1) := by decide +kernel
theorem dX5_lords_276 : decode cX5_lords 276 = .ok (.ifCond .ne 18, 3) := by decide +kernel
theorem dX5_lords_279 : decode cX5_lords 279 = .ok (.aload_n 0, 1) := by decide +kernel
theorem dX5_lords_280 : decode cX5_lords 280 = .ok (.getfield 56, 3) := by decide +kernel
theorem dX5_lords_283 : decode cX5_lords 283 = .ok (.aload_n 0, 1) := by decide +kernel
theorem dX5_lords_284 : decode cX5_lords 284 = .ok (.getfield 28, 3) := by decide +kernel
theorem dX5_lords_287 : decode cX5_lords 287 = .ok (.bipush 49, 2) := by decide +kernel
theorem dX5_lords_289 : decode cX5_lords 289 = .ok (.iaload, 1) := by decide +kernel
theorem dX5_lords_290 : decode cX5_lords 290 = .ok (.iaload, 1) := by decide +kernel
theorem dX5_lords_291 : decode cX5_lords 291 = .ok (.goto 4, 3) := by decide +kernel
theorem dX5_lords_294 : decode cX5_lords 294 = .ok (.iload_n 3, 1) := by decide +kernel
theorem dX5_lords_295 : decode cX5_lords 295 = .ok (.ireturn, 1) := by decide +kernel
theorem dX5_flood_0 : decode cX5_flood 0 = .ok (.iconst 0, 1) := by decide +kernel
theorem dX5_flood_1 : decode cX5_flood 1 = .ok (.istore_n 3, 1) := by decide +kernel
theorem dX5_flood_2 : decode cX5_flood 2 = .ok (.iload_n 3, 1) := by decide +kernel
theorem dX5_flood_3 : decode cX5_flood 3 = .ok (.aload_n 1, 1) := by decide +kernel
theorem dX5_flood_4 : decode cX5_flood 4 = .ok (.bipush 48, 2) := by decide +kernel
theorem dX5_flood_6 : decode cX5_flood 6 = .ok (.iaload, 1) := by decide +kernel
theorem dX5_flood_7 : decode cX5_flood 7 = .ok (.if_icmp .ge 35, 3) := by decide +kernel
theorem dX5_flood_10 : decode cX5_flood 10 = .ok (.aload_n 0, 1) := by decide +kernel
theorem dX5_flood_11 : decode cX5_flood 11 = .ok (.getfield 50, 3) := by decide +kernel
theorem dX5_flood_14 : decode cX5_flood 14 = .ok (.iload_n 3, 1) := by decide +kernel
theorem dX5_flood_15 : decode cX5_flood 15 = .ok (.iload_n 2, 1) := by decide +kernel
theorem dX5_flood_16 : decode cX5_flood 16 = .ok (.aload_n 1, 1) := by decide +kernel
theorem dX5_flood_17 : decode cX5_flood 17 = .ok (.bipush 6, 2) := by decide +kernel
theorem dX5_flood_19 : decode cX5_flood 19 = .ok (.iload_n 3, 1) := by decide +kernel
theorem dX5_flood_20 : decode cX5_flood 20 = .ok (.imul, 1) := by decide +kernel
theorem dX5_flood_21 : decode cX5_flood 21 = .ok (.iconst 1, 1) := by decide +kernel
theorem dX5_flood_22 : decode cX5_flood 22 = .ok (.iadd, 1) := by decide +kernel
theorem dX5_flood_23 : decode cX5_flood 23 = .ok (.iaload, 1) := by decide +kernel
theorem dX5_flood_24 : decode cX5_flood 24 = .ok (.invokestatic 125, 3) := by decide +kernel
theorem dX5_flood_27 : decode cX5_flood 27 = .ok (.ifCond .eq 7, 3) := by decide +kernel
theorem dX5_flood_30 : decode cX5_flood 30 = .ok (.iconst 3, 1) := by decide +kernel
theorem dX5_flood_31 : decode cX5_flood 31 = .ok (.goto 4, 3) := by decide +kernel
theorem dX5_flood_34 : decode cX5_flood 34 = .ok (.iconst 0, 1) := by decide +kernel
theorem dX5_flood_35 : decode cX5_flood 35 = .ok (.iastore, 1) := by decide +kernel
theorem dX5_flood_36 : decode cX5_flood 36 = .ok (.iinc 3 1, 3) := by decide +kernel
theorem dX5_flood_39 : decode cX5_flood 39 = .ok (.goto (-37), 3) := by decide +kernel
theorem dX5_flood_42 : decode cX5_flood 42 = .ok (.aload_n 0, 1) := by decide +kernel
theorem dX5_flood_43 : decode cX5_flood 43 = .ok (.aload_n 1, 1) := by decide +kernel
theorem dX5_flood_44 : decode cX5_flood 44 = .ok (.bipush (-9), 2) := by decide +kernel
theorem dX5_flood_46 : decode cX5_flood 46 = .ok (.iconst 0, 1) := by decide +kernel
theorem dX5_flood_47 : decode cX5_flood 47 = .ok (.invokevirtual 132, 3) := by decide +kernel
theorem dX5_flood_50 : decode cX5_flood 50 = .ok (.pop, 1) := by decide +kernel
theorem dX5_flood_51 : decode cX5_flood 51 = .ok (.return_, 1) := by decide +kernel
theorem dX5_divisor_0 : decode cX5_divisor 0 = .ok (.iload_n 0, 1) := by decide +kernel
theorem dX5_divisor_1 : decode cX5_divisor 1 = .ok (.istore_n 2, 1) := by decide +kernel
theorem dX5_divisor_2 : decode cX5_divisor 2 = .ok (.iload_n 1, 1) := by decide +kernel
theorem dX5_divisor_3 : decode cX5_divisor 3 = .ok (.istore_n 3, 1) := by decide +kernel
theorem dX5_divisor_4 : decode cX5_divisor 4 = .ok (.iload_n 3, 1) := by decide +kernel
theorem dX5_divisor_5 : decode cX5_divisor 5 = .ok (.ifCond .eq 16, 3) := by decide +kernel
theorem dX5_divisor_8 : decode cX5_divisor 8 = .ok (.iload_n 2, 1) := by decide +kernel
theorem dX5_divisor_9 : decode cX5_divisor 9 = .ok (.iload_n 3, 1) := by decide +kernel
theorem dX5_divisor_10 : decode cX5_divisor 10 = .ok (.irem, 1) := by decide +kernel
theorem dX5_divisor_11 : decode cX5_divisor 11 = .ok (.istore 4, 2) := by decide +kernel
theorem dX5_divisor_13 : decode cX5_divisor 13 = .ok (.iload_n 3, 1) := by decide +kernel
theorem dX5_divisor_14 : decode cX5_divisor 14 = .ok (.istore_n 2, 1) := by decide +kernel
theorem dX5_divisor_15 : decode cX5_divisor 15 = .ok (.iload 4, 2) := by decide +kernel
theorem dX5_divisor_17 : decode cX5_divisor 17 = .ok (.istore_n 3, 1) := by decide +kernel
theorem dX5_divisor_18 : decode cX5_divisor 18 = .ok (.goto (-14), 3) := by decide +kernel
theorem dX5_divisor_21 : decode cX5_divisor 21 = .ok (.iload_n 2, 1) := by decide +kernel
theorem dX5_divisor_22 : decode cX5_divisor 22 = .ok (.ireturn, 1) := by decide +kernel
theorem dX5_rain_0 : decode cX5_rain 0 = .ok (.aload_n 0, 1) := by decide +kernel
theorem dX5_rain_1 : decode cX5_rain 1 = .ok (.iconst 0, 1) := by decide +kernel
theorem dX5_rain_2 : decode cX5_rain 2 = .ok (.putfield 62, 3) := by decide +kernel
theorem dX5_rain_5 : decode cX5_rain 5 = .ok (.iload_n 1, 1) := by decide +kernel
theorem dX5_rain_6 : decode cX5_rain 6 = .ok (.invokestatic 163, 3) := by decide +kernel
theorem dX5_rain_9 : decode cX5_rain 9 = .ok (.ifCond .ne 15, 3) := by decide +kernel
theorem dX5_rain_12 : decode cX5_rain 12 = .ok (.iload_n 2, 1) := by decide +kernel
theorem dX5_rain_13 : decode cX5_rain 13 = .ok (.i2l, 1) := by decide +kernel
theorem dX5_rain_14 : decode cX5_rain 14 = .ok (.lconst 0, 1) := by decide +kernel
theorem dX5_rain_15 : decode cX5_rain 15 = .ok (.ldc2_w 185, 3) := by decide +kernel
theorem dX5_rain_18 : decode cX5_rain 18 = .ok (.invokestatic 69, 3) := by decide +kernel
theorem dX5_rain_21 : decode cX5_rain 21 = .ok (.ifCond .ne 6, 3) := by decide +kernel
theorem dX5_rain_24 : decode cX5_rain 24 = .ok (.bipush (-2), 2) := by decide +kernel
theorem dX5_rain_26 : decode cX5_rain 26 = .ok (.ireturn, 1) := by decide +kernel
theorem dX5_rain_27 : decode cX5_rain 27 = .ok (.iconst 0, 1) := by decide +kernel
theorem dX5_rain_28 : decode cX5_rain 28 = .ok (.istore 4, 2) := by decide +kernel
theorem dX5_rain_30 : decode cX5_rain 30 = .ok (.iconst 1, 1) := by decide +kernel
theorem dX5_rain_31 : decode cX5_rain 31 = .ok (.istore 5, 2) := by decide +kernel
theorem dX5_rain_33 : decode cX5_rain 33 = .ok (.iconst 0, 1) := by decide +kernel
theorem dX5_rain_34 : decode cX5_rain 34 = .ok (.istore 6, 2) := by decide +kernel
theorem dX5_rain_36 : decode cX5_rain 36 = .ok (.iload 6, 2) := by decide +kernel
theorem dX5_rain_38 : decode cX5_rain 38 = .ok (.aload_n 0, 1) := by decide +kernel
theorem dX5_rain_39 : decode cX5_rain 39 = .ok (.getfield 66, 3) := by decide +kernel
theorem dX5_rain_42 : decode cX5_rain 42 = .ok (.if_icmp .ge 35, 3) := by decide +kernel
theorem dX5_rain_45 : decode cX5_rain 45 = .ok (.iload 5, 2) := by decide +kernel
theorem dX5_rain_47 : decode cX5_rain 47 = .ok (.aload_n 0, 1) := by decide +kernel
theorem dX5_rain_48 : decode cX5_rain 48 = .ok (.getfield 28, 3) := by decide +kernel
theorem dX5_rain_51 : decode cX5_rain 51 = .ok (.bipush 49, 2) := by decide +kernel
theorem dX5_rain_53 : decode cX5_rain 53 = .ok (.iaload, 1) := by decide +kernel
theorem dX5_rain_54 : decode cX5_rain 54 = .ok (.iload 6, 2) := by decide +kernel
theorem dX5_rain_56 : decode cX5_rain 56 = .ok (.invokestatic 125, 3) := by decide +kernel
theorem dX5_rain_59 : decode cX5_rain 59 = .ok (.ifCond .eq 7, 3) := by decide +kernel
theorem dX5_rain_62 : decode cX5_rain 62 = .ok (.iconst 1, 1) := by decide +kernel
theorem dX5_rain_63 : decode cX5_rain 63 = .ok (.goto 5, 3) := by decide +kernel
theorem dX5_rain_66 : decode cX5_rain 66 = .ok (.bipush 10, 2) := by decide +kernel
theorem dX5_rain_68 : decode cX5_rain 68 = .ok (.imul, 1) := by decide +kernel
theorem dX5_rain_69 : decode cX5_rain 69 = .ok (.istore 5, 2) := by decide +kernel
theorem dX5_rain_71 : decode cX5_rain 71 = .ok (.iinc 6 1, 3) := by decide +kernel
theorem dX5_rain_74 : decode cX5_rain 74 = .ok (.goto (-38), 3) := by decide +kernel
theorem dX5_rain_77 : decode cX5_rain 77 = .ok (.iconst 0, 1) := by decide +kernel
theorem dX5_rain_78 : decode cX5_rain 78 = .ok (.istore 6, 2) := by decide +kernel
theorem dX5_rain_80 : decode cX5_rain 80 = .ok (.iload 6, 2) := by decide +kernel
theorem dX5_rain_82 : decode cX5_rain 82 = .ok (.iconst 1, 1) := by decide +kernel
theorem dX5_rain_83 : decode cX5_rain 83 = .ok (.aload_n 0, 1) := by decide +kernel
theorem dX5_rain_84 : decode cX5_rain 84 = .ok (.getfield 66, 3) := by decide +kernel
theorem dX5_rain_87 : decode cX5_rain 87 = .ok (.ishl, 1) := by decide +kernel
theorem dX5_rain_88 : decode cX5_rain 88 = .ok (.if_icmp .ge 131, 3) := by decide +kernel
theorem dX5_rain_91 : decode cX5_rain 91 = .ok (.iload 6, 2) := by decide +kernel
theorem dX5_rain_93 : decode cX5_rain 93 = .ok (.aload_n 0, 1) := by decide +kernel
theorem dX5_rain_94 : decode cX5_rain 94 = .ok (.getfield 28, 3) := by decide +kernel
theorem dX5_rain_97 : decode cX5_rain 97 = .ok (.bipush 49, 2) := by decide +kernel
theorem dX5_rain_99 : decode cX5_rain 99 = .ok (.iaload, 1) := by decide +kernel
theorem dX5_rain_100 : decode cX5_rain 100 = .ok (.iand, 1) := by decide +kernel
theorem dX5_rain_101 : decode cX5_rain 101 = .ok (.ifCond .ne 112, 3) := by decide +kernel
theorem dX5_rain_104 : decode cX5_rain 104 = .ok (.iconst 1, 1) := by decide +kernel
theorem dX5_rain_105 : decode cX5_rain 105 = .ok (.istore 7, 2) := by decide +kernel
theorem dX5_rain_107 : decode cX5_rain 107 = .ok (.iconst 0, 1) := by decide +kernel
theorem dX5_rain_108 : decode cX5_rain 108 = .ok (.istore 8, 2) := by decide +kernel
theorem dX5_rain_110 : decode cX5_rain 110 = .ok (.iload 8, 2) := by decide +kernel
theorem dX5_rain_112 : decode cX5_rain 112 = .ok (.aload_n 0, 1) := by decide +kernel
theorem dX5_rain_113 : decode cX5_rain 113 = .ok (.getfield 66, 3) := by decide +kernel
theorem dX5_rain_116 : decode cX5_rain 116 = .ok (.if_icmp .ge 51, 3) := by decide +kernel
theorem dX5_rain_119 : decode cX5_rain 119 = .ok (.iload 7, 2) := by decide +kernel
theorem dX5_rain_121 : decode cX5_rain 121 = .ok (.aload_n 0, 1) := by decide +kernel
theorem dX5_rain_122 : decode cX5_rain 122 = .ok (.getfield 28, 3) := by decide +kernel
theorem dX5_rain_125 : decode cX5_rain 125 = .ok (.bipush 49, 2) := by decide +kernel
theorem dX5_rain_127 : decode cX5_rain 127 = .ok (.iaload, 1) := by decide +kernel
theorem dX5_rain_128 : decode cX5_rain 128 = .ok (.iload 8, 2) := by decide +kernel
theorem dX5_rain_130 : decode cX5_rain 130 = .ok (.invokestatic 125, 3) := by decide +kernel
theorem dX5_rain_133 : decode cX5_rain 133 = .ok (.ifCond .eq 7, 3) := by decide +kernel
theorem dX5_rain_136 : decode cX5_rain 136 = .ok (.iconst 1, 1) := by decide +kernel
theorem dX5_rain_137 : decode cX5_rain 137 = .ok (.goto 21, 3) := by decide +kernel
theorem dX5_rain_140 : decode cX5_rain 140 = .ok (.iload 6, 2) := by decide +kernel
theorem dX5_rain_142 : decode cX5_rain 142 = .ok (.iload 8, 2) := by decide +kernel
theorem dX5_rain_144 : decode cX5_rain 144 = .ok (.invokestatic 125, 3) := by decide +kernel
theorem dX5_rain_147 : decode cX5_rain 147 = .ok (.ifCond .eq 7, 3) := by decide +kernel
theorem dX5_rain_150 : decode cX5_rain 150 = .ok (.iload_n 2, 1) := by decide +kernel
theorem dX5_rain_151 : decode cX5_rain 151 = .ok (.goto 7, 3) := by decide +kernel
theorem dX5_rain_154 : decode cX5_rain 154 = .ok (.bipush 10, 2) := by decide +kernel
theorem dX5_rain_156 : decode cX5_rain 156 = .ok (.iload_n 2, 1) := by decide +kernel
theorem dX5_rain_157 : decode cX5_rain 157 = .ok (.isub, 1) := by decide +kernel
theorem dX5_rain_158 : decode cX5_rain 158 = .ok (.imul, 1) := by decide +kernel
theorem dX5_rain_159 : decode cX5_rain 159 = .ok (.istore 7, 2) := by decide +kernel
theorem dX5_rain_161 : decode cX5_rain 161 = .ok (.iinc 8 1, 3) := by decide +kernel
theorem dX5_rain_164 : decode cX5_rain 164 = .ok (.goto (-54), 3) := by decide +kernel
theorem dX5_rain_167 : decode cX5_rain 167 = .ok (.aload_n 0, 1) := by decide +kernel
theorem dX5_rain_168 : decode cX5_rain 168 = .ok (.getfield 28, 3) := by decide +kernel
theorem dX5_rain_171 : decode cX5_rain 171 = .ok (.aload_n 0, 1) := by decide +kernel
theorem dX5_rain_172 : decode cX5_rain 172 = .ok (.getfield 41, 3) := by decide +kernel
theorem dX5_rain_175 : decode cX5_rain 175 = .ok (.invokestatic 159, 3) := by decide +kernel
theorem dX5_rain_178 : decode cX5_rain 178 = .ok (.aload_n 0, 1) := by decide +kernel
theorem dX5_rain_179 : decode cX5_rain 179 = .ok (.aload_n 0, 1) := by decide +kernel
theorem dX5_rain_180 : decode cX5_rain 180 = .ok (.getfield 41, 3) := by decide +kernel
theorem dX5_rain_183 : decode cX5_rain 183 = .ok (.iload 6, 2) := by decide +kernel
theorem dX5_rain_185 : decode cX5_rain 185 = .ok (.invokevirtual 187, 3) := by decide +kernel
theorem dX5_rain_188 : decode cX5_rain 188 = .ok (.iload 4, 2) := by decide +kernel
theorem dX5_rain_190 : decode cX5_rain 190 = .ok (.aload_n 0, 1) := by decide +kernel
theorem dX5_rain_191 : decode cX5_rain 191 = .ok (.getfield 41, 3) := by decide +kernel
theorem dX5_rain_194 : decode cX5_rain 194 = .ok (.invokestatic 106, 3) := by decide +kernel
theorem dX5_rain_197 : decode cX5_rain 197 = .ok (.iload_n 1, 1) := by decide +kernel
theorem dX5_rain_198 : decode cX5_rain 198 = .ok (.invokestatic 125, 3) := by decide +kernel
theorem dX5_rain_201 : decode cX5_rain 201 = .ok (.ifCond .eq 8, 3) := by decide +kernel
theorem dX5_rain_204 : decode cX5_rain 204 = .ok (.iload 7, 2) := by decide +kernel
theorem dX5_rain_206 : decode cX5_rain 206 = .ok (.goto 4, 3) := by decide +kernel
theorem dX5_rain_209 : decode cX5_rain 209 = .ok (.iconst 0, 1) := by decide +kernel
theorem dX5_rain_210 : decode cX5_rain 210 = .ok (.iadd, 1) := by decide +kernel
theorem dX5_rain_211 : decode cX5_rain 211 = .ok (.istore 4, 2) := by decide +kernel
theorem dX5_rain_213 : decode cX5_rain 213 = .ok (.iinc 6 1, 3) := by decide +kernel
theorem dX5_rain_216 : decode cX5_rain 216 = .ok (.goto (-136), 3) := by decide +kernel
theorem dX5_rain_219 : decode cX5_rain 219 = .ok (.iload 4, 2) := by decide +kernel
theorem dX5_rain_221 : decode cX5_rain 221 = .ok (.iload 5, 2) := by decide +kernel
theorem dX5_rain_223 : decode cX5_rain 223 = .ok (.invokestatic 190, 3) := by decide +kernel
theorem dX5_rain_226 : decode cX5_rain 226 = .ok (.istore 6, 2) := by decide +kernel
theorem dX5_rain_228 : decode cX5_rain 228 = .ok (.iload_n 3, 1) := by decide +kernel
theorem dX5_rain_229 : decode cX5_rain 229 = .ok (.ifCond .eq 11, 3) := by decide +kernel
theorem dX5_rain_232 : decode cX5_rain 232 = .ok (.iload 4, 2) := by decide +kernel
theorem dX5_rain_234 : decode cX5_rain 234 = .ok (.iload 6, 2) := by decide +kernel
theorem dX5_rain_236 : decode cX5_rain 236 = .ok (.idiv, 1) := by decide +kernel
theorem dX5_rain_237 : decode cX5_rain 237 = .ok (.goto 8, 3) := by decide +kernel
theorem dX5_rain_240 : decode cX5_rain 240 = .ok (.iload 5, 2) := by decide +kernel
theorem dX5_rain_242 : decode cX5_rain 242 = .ok (.iload 6, 2) := by decide +kernel
theorem dX5_rain_244 : decode cX5_rain 244 = .ok (.idiv, 1) := by decide +kernel
theorem dX5_rain_245 : decode cX5_rain 245 = .ok (.ireturn, 1) := by decide +kernel
theorem dX5_seed_0 : decode cX5_seed 0 = .ok (.aload_n 0, 1) := by decide +kernel
theorem dX5_seed_1 : decode cX5_seed 1 = .ok (.iconst 0, 1) := by decide +kernel
theorem dX5_seed_2 : decode cX5_seed 2 = .ok (.putfield 62, 3) := by decide +kernel
theorem dX5_seed_5 : decode cX5_seed 5 = .ok (.aload_n 0, 1) := by decide +kernel
theorem dX5_seed_6 : decode cX5_seed 6 = .ok (.getfield 193, 3) := by decide +kernel
theorem dX5_seed_9 : decode cX5_seed 9 = .ok (.lstore_n 3, 1) := by decide +kernel
theorem dX5_seed_10 : decode cX5_seed 10 = .ok (.aload_n 0, 1) := by decide +kernel
theorem dX5_seed_11 : decode cX5_seed 11 = .ok (.lload_n 1, 1) := by decide +kernel
theorem dX5_seed_12 : decode cX5_seed 12 = .ok (.putfield 193, 3) := by decide +kernel
theorem dX5_seed_15 : decode cX5_seed 15 = .ok (.lload_n 3, 1) := by decide +kernel
theorem dX5_seed_16 : decode cX5_seed 16 = .ok (.lreturn, 1) := by decide +kernel
theorem dX5_rains_0 : decode cX5_rains 0 = .ok (.aload_n 0, 1) := by decide +kernel
theorem dX5_rains_1 : decode cX5_rains 1 = .ok (.iconst 0, 1) := by decide +kernel
theorem dX5_rains_2 : decode cX5_rains 2 = .ok (.putfield 62, 3) := by decide +kernel
theorem dX5_rains_5 : decode cX5_rains 5 = .ok (.iload_n 1, 1) := by decide +kernel
theorem dX5_rains_6 : decode cX5_rains 6 = .ok (.i2l, 1) := by decide +kernel
theorem dX5_rains_7 : decode cX5_rains 7 = .ok (.lconst 1, 1) := by decide +kernel
theorem dX5_rains_8 : decode cX5_rains 8 = .ok (.ldc2_w 197, 3) := by decide +kernel
theorem dX5_rains_11 : decode cX5_rains 11 = .ok (.invokestatic 69, 3) := by decide +kernel
theorem dX5_rains_14 : decode cX5_rains 14 = .ok (.ifCond .eq 15, 3) := by decide +kernel
theorem dX5_rains_17 : decode cX5_rains 17 = .ok (.iload_n 2, 1) := by decide +kernel
theorem dX5_rains_18 : decode cX5_rains 18 = .ok (.i2l, 1) := by decide +kernel
theorem dX5_rains_19 : decode cX5_rains 19 = .ok (.lconst 0, 1) := by decide +kernel
theorem dX5_rains_20 : decode cX5_rains 20 = .ok (.ldc2_w 185, 3) := by decide +kernel
theorem dX5_rains_23 : decode cX5_rains 23 = .ok (.invokestatic 69, 3) := by decide +kernel
theorem dX5_rains_26 : decode cX5_rains 26 = .ok (.ifCond .ne 6, 3) := by decide +kernel
theorem dX5_rains_29 : decode cX5_rains 29 = .ok (.bipush (-2), 2) := by decide +kernel
theorem dX5_rains_31 : decode cX5_rains 31 = .ok (.ireturn, 1) := by decide +kernel
theorem dX5_rains_32 : decode cX5_rains 32 = .ok (.aload_n 0, 1) := by decide +kernel
theorem dX5_rains_33 : decode cX5_rains 33 = .ok (.getfield 28, 3) := by decide +kernel
theorem dX5_rains_36 : decode cX5_rains 36 = .ok (.aload_n 0, 1) := by decide +kernel
theorem dX5_rains_37 : decode cX5_rains 37 = .ok (.getfield 41, 3) := by decide +kernel
theorem dX5_rains_40 : decode cX5_rains 40 = .ok (.invokestatic 159, 3) := by decide +kernel
theorem dX5_rains_43 : decode cX5_rains 43 = .ok (.iconst 0, 1) := by decide +kernel
theorem dX5_rains_44 : decode cX5_rains 44 = .ok (.istore_n 3, 1) := by decide +kernel
theorem dX5_rains_45 : decode cX5_rains 45 = .ok (.iload_n 3, 1) := by decide +kernel
theorem dX5_rains_46 : decode cX5_rains 46 = .ok (.iload_n 1, 1) := by decide +kernel
theorem dX5_rains_47 : decode cX5_rains 47 = .ok (.if_icmp .ge 112, 3) := by decide +kernel
theorem dX5_rains_50 : decode cX5_rains 50 = .ok (.aload_n 0, 1) := by decide +kernel
theorem dX5_rains_51 : decode cX5_rains 51 = .ok (.aload_n 0, 1) := by decide +kernel
theorem dX5_rains_52 : decode cX5_rains 52 = .ok (.getfield 41, 3) := by decide +kernel
theorem dX5_rains_55 : decode cX5_rains 55 = .ok (.bipush (-9), 2) := by decide +kernel
theorem dX5_rains_57 : decode cX5_rains 57 = .ok (.invokevirtual 136, 3) := by decide +kernel
theorem dX5_rains_60 : decode cX5_rains 60 = .ok (.pop, 1) := by decide +kernel
theorem dX5_rains_61 : decode cX5_rains 61 = .ok (.iconst 0, 1) := by decide +kernel
theorem dX5_rains_62 : decode cX5_rains 62 = .ok (.istore 4, 2) := by decide +kernel
theorem dX5_rains_64 : decode cX5_rains 64 = .ok (.iconst 0, 1) := by decide +kernel
theorem dX5_rains_65 : decode cX5_rains 65 = .ok (.istore 5, 2) := by decide +kernel
theorem dX5_rains_67 : decode cX5_rains 67 = .ok (.iload 5, 2) := by decide +kernel
theorem dX5_rains_69 : decode cX5_rains 69 = .ok (.aload_n 0, 1) := by decide +kernel
theorem dX5_rains_70 : decode cX5_rains 70 = .ok (.getfield 66, 3) := by decide +kernel
theorem dX5_rains_73 : decode cX5_rains 73 = .ok (.if_icmp .ge 70, 3) := by decide +kernel
theorem dX5_rains_76 : decode cX5_rains 76 = .ok (.aload_n 0, 1) := by decide +kernel
theorem dX5_rains_77 : decode cX5_rains 77 = .ok (.getfield 41, 3) := by decide +kernel
theorem dX5_rains_80 : decode cX5_rains 80 = .ok (.bipush 49, 2) := by decide +kernel
theorem dX5_rains_82 : decode cX5_rains 82 = .ok (.iaload, 1) := by decide +kernel
theorem dX5_rains_83 : decode cX5_rains 83 = .ok (.iload 5, 2) := by decide +kernel
theorem dX5_rains_85 : decode cX5_rains 85 = .ok (.invokestatic 125, 3) := by decide +kernel
theorem dX5_rains_88 : decode cX5_rains 88 = .ok (.ifCond .ne 49, 3) := by decide +kernel
theorem dX5_rains_91 : decode cX5_rains 91 = .ok (.aload_n 0, 1) := by decide +kernel
theorem dX5_rains_92 : decode cX5_rains 92 = .ok (.aload_n 0, 1) := by decide +kernel
theorem dX5_rains_93 : decode cX5_rains 93 = .ok (.getfield 193, 3) := by decide +kernel
theorem dX5_rains_96 : decode cX5_rains 96 = .ok (.ldc2_w 199, 3) := by decide +kernel
theorem dX5_rains_99 : decode cX5_rains 99 = .ok (.lmul, 1) := by decide +kernel
theorem dX5_rains_100 : decode cX5_rains 100 = .ok (.ldc2_w 201, 3) := by decide +kernel
theorem dX5_rains_103 : decode cX5_rains 103 = .ok (.ladd, 1) := by decide +kernel
theorem dX5_rains_104 : decode cX5_rains 104 = .ok (.putfield 193, 3) := by decide +kernel
theorem dX5_rains_107 : decode cX5_rains 107 = .ok (.iload 4, 2) := by decide +kernel
theorem dX5_rains_109 : decode cX5_rains 109 = .ok (.aload_n 0, 1) := by decide +kernel
theorem dX5_rains_110 : decode cX5_rains 110 = .ok (.getfield 193, 3) := by decide +kernel
theorem dX5_rains_113 : decode cX5_rains 113 = .ok (.bipush 33, 2) := by decide +kernel
theorem dX5_rains_115 : decode cX5_rains 115 = .ok (.lushr, 1) := by decide +kernel
theorem dX5_rains_116 : decode cX5_rains 116 = .ok (.ldc2_w 185, 3) := by decide +kernel
theorem dX5_rains_119 : decode cX5_rains 119 = .ok (.lrem, 1) := by decide +kernel
theorem dX5_rains_120 : decode cX5_rains 120 = .ok (.iload_n 2, 1) := by decide +kernel
theorem dX5_rains_121 : decode cX5_rains 121 = .ok (.i2l, 1) := by decide +kernel
theorem dX5_rains_122 : decode cX5_rains 122 = .ok (.lcmp, 1) := by decide +kernel
theorem dX5_rains_123 : decode cX5_rains 123 = .ok (.ifCond .ge 10, 3) := by decide +kernel
theorem dX5_rains_126 : decode cX5_rains 126 = .ok (.iconst 1, 1) := by decide +kernel
theorem dX5_rains_127 : decode cX5_rains 127 = .ok (.iload 5, 2) := by decide +kernel
theorem dX5_rains_129 : decode cX5_rains 129 = .ok (.ishl, 1) := by decide +kernel
theorem dX5_rains_130 : decode cX5_rains 130 = .ok (.goto 4, 3) := by decide +kernel
theorem dX5_rains_133 : decode cX5_rains 133 = .ok (.iconst 0, 1) := by decide +kernel
theorem dX5_rains_134 : decode cX5_rains 134 = .ok (.ior, 1) := by decide +kernel
theorem dX5_rains_135 : decode cX5_rains 135 = .ok (.istore 4, 2) := by decide +kernel
theorem dX5_rains_137 : decode cX5_rains 137 = .ok (.iinc 5 1, 3) := by decide +kernel
theorem dX5_rains_140 : decode cX5_rains 140 = .ok (.goto (-73), 3) := by decide +kernel
theorem dX5_rains_143 : decode cX5_rains 143 = .ok (.aload_n 0, 1) := by decide +kernel
theorem dX5_rains_144 : decode cX5_rains 144 = .ok (.aload_n 0, 1) := by decide +kernel
theorem dX5_rains_145 : decode cX5_rains 145 = .ok (.getfield 41, 3) := by decide +kernel
theorem dX5_rains_148 : decode cX5_rains 148 = .ok (.iload 4, 2) := by decide +kernel
theorem dX5_rains_150 : decode cX5_rains 150 = .ok (.invokevirtual 187, 3) := by decide +kernel
theorem dX5_rains_153 : decode cX5_rains 153 = .ok (.iinc 3 1, 3) := by decide +kernel
theorem dX5_rains_156 : decode cX5_rains 156 = .ok (.goto (-111), 3) := by decide +kernel
theorem dX5_rains_159 : decode cX5_rains 159 = .ok (.aload_n 0, 1) := by decide +kernel
theorem dX5_rains_160 : decode cX5_rains 160 = .ok (.getfield 41, 3) := by decide +kernel
theorem dX5_rains_163 : decode cX5_rains 163 = .ok (.invokestatic 106, 3) := by decide +kernel
theorem dX5_rains_166 : decode cX5_rains 166 = .ok (.ireturn, 1) := by decide +kernel
theorem dX5_keep_0 : decode cX5_keep 0 = .ok (.aload_n 0, 1) := by decide +kernel
theorem dX5_keep_1 : decode cX5_keep 1 = .ok (.iconst 0, 1) := by decide +kernel
theorem dX5_keep_2 : decode cX5_keep 2 = .ok (.putfield 62, 3) := by decide +kernel
theorem dX5_keep_5 : decode cX5_keep 5 = .ok (.iload_n 1, 1) := by decide +kernel
theorem dX5_keep_6 : decode cX5_keep 6 = .ok (.i2l, 1) := by decide +kernel
theorem dX5_keep_7 : decode cX5_keep 7 = .ok (.lconst 0, 1) := by decide +kernel
theorem dX5_keep_8 : decode cX5_keep 8 = .ok (.lconst 1, 1) := by decide +kernel
theorem dX5_keep_9 : decode cX5_keep 9 = .ok (.invokestatic 69, 3) := by decide +kernel
theorem dX5_keep_12 : decode cX5_keep 12 = .ok (.ifCond .ne 5, 3) := by decide +kernel
theorem dX5_keep_15 : decode cX5_keep 15 = .ok (.iconst (-1), 1) := by decide +kernel
theorem dX5_keep_16 : decode cX5_keep 16 = .ok (.ireturn, 1) := by decide +kernel
theorem dX5_keep_17 : decode cX5_keep 17 = .ok (.aload_n 0, 1) := by decide +kernel
theorem dX5_keep_18 : decode cX5_keep 18 = .ok (.getfield 37, 3) := by decide +kernel
theorem dX5_keep_21 : decode cX5_keep 21 = .ok (.iload_n 1, 1) := by decide +kernel
theorem dX5_keep_22 : decode cX5_keep 22 = .ok (.iconst 1, 1) := by decide +kernel
theorem dX5_keep_23 : decode cX5_keep 23 = .ok (.bastore, 1) := by decide +kernel
theorem dX5_keep_24 : decode cX5_keep 24 = .ok (.iconst 0, 1) := by decide +kernel
theorem dX5_keep_25 : decode cX5_keep 25 = .ok (.istore_n 2, 1) := by decide +kernel
theorem dX5_keep_26 : decode cX5_keep 26 = .ok (.iload_n 2, 1) := by decide +kernel
theorem dX5_keep_27 : decode cX5_keep 27 = .ok (.bipush 52, 2) := by decide +kernel
theorem dX5_keep_29 : decode cX5_keep 29 = .ok (.if_icmp .ge 26, 3) := by decide +kernel
theorem dX5_keep_32 : decode cX5_keep 32 = .ok (.aload_n 0, 1) := by decide +kernel
theorem dX5_keep_33 : decode cX5_keep 33 = .ok (.getfield 34, 3) := by decide +kernel
theorem dX5_keep_36 : decode cX5_keep 36 = .ok (.bipush 52, 2) := by decide +kernel
theorem dX5_keep_38 : decode cX5_keep 38 = .ok (.iload_n 1, 1) := by decide +kernel
theorem dX5_keep_39 : decode cX5_keep 39 = .ok (.imul, 1) := by decide +kernel
theorem dX5_keep_40 : decode cX5_keep 40 = .ok (.iload_n 2, 1) := by decide +kernel
theorem dX5_keep_41 : decode cX5_keep 41 = .ok (.iadd, 1) := by decide +kernel
theorem dX5_keep_42 : decode cX5_keep 42 = .ok (.aload_n 0, 1) := by decide +kernel
theorem dX5_keep_43 : decode cX5_keep 43 = .ok (.getfield 28, 3) := by decide +kernel
theorem dX5_keep_46 : decode cX5_keep 46 = .ok (.iload_n 2, 1) := by decide +kernel
theorem dX5_keep_47 : decode cX5_keep 47 = .ok (.iaload, 1) := by decide +kernel
theorem dX5_keep_48 : decode cX5_keep 48 = .ok (.iastore, 1) := by decide +kernel
theorem dX5_keep_49 : decode cX5_keep 49 = .ok (.iinc 2 1, 3) := by decide +kernel
theorem dX5_keep_52 : decode cX5_keep 52 = .ok (.goto (-26), 3) := by decide +kernel
theorem dX5_keep_55 : decode cX5_keep 55 = .ok (.aload_n 0, 1) := by decide +kernel
theorem dX5_keep_56 : decode cX5_keep 56 = .ok (.getfield 28, 3) := by decide +kernel
theorem dX5_keep_59 : decode cX5_keep 59 = .ok (.bipush 48, 2) := by decide +kernel
theorem dX5_keep_61 : decode cX5_keep 61 = .ok (.iaload, 1) := by decide +kernel
theorem dX5_keep_62 : decode cX5_keep 62 = .ok (.ireturn, 1) := by decide +kernel
theorem dX5_again_0 : decode cX5_again 0 = .ok (.aload_n 0, 1) := by decide +kernel
theorem dX5_again_1 : decode cX5_again 1 = .ok (.iconst 0, 1) := by decide +kernel
theorem dX5_again_2 : decode cX5_again 2 = .ok (.putfield 62, 3) := by decide +kernel
theorem dX5_again_5 : decode cX5_again 5 = .ok (.iload_n 1, 1) := by decide +kernel
theorem dX5_again_6 : decode cX5_again 6 = .ok (.i2l, 1) := by decide +kernel
theorem dX5_again_7 : decode cX5_again 7 = .ok (.lconst 0, 1) := by decide +kernel
theorem dX5_again_8 : decode cX5_again 8 = .ok (.lconst 1, 1) := by decide +kernel
theorem dX5_again_9 : decode cX5_again 9 = .ok (.invokestatic 69, 3) := by decide +kernel
theorem dX5_again_12 : decode cX5_again 12 = .ok (.ifCond .ne 5, 3) := by decide +kernel
theorem dX5_again_15 : decode cX5_again 15 = .ok (.iconst (-1), 1) := by decide +kernel
theorem dX5_again_16 : decode cX5_again 16 = .ok (.ireturn, 1) := by decide +kernel
theorem dX5_again_17 : decode cX5_again 17 = .ok (.aload_n 0, 1) := by decide +kernel
theorem dX5_again_18 : decode cX5_again 18 = .ok (.getfield 37, 3) := by decide +kernel
theorem dX5_again_21 : decode cX5_again 21 = .ok (.iload_n 1, 1) := by decide +kernel
theorem dX5_again_22 : decode cX5_again 22 = .ok (.baload, 1) := by decide +kernel
theorem dX5_again_23 : decode cX5_again 23 = .ok (.ifCond .ne 6, 3) := by decide +kernel
theorem dX5_again_26 : decode cX5_again 26 = .ok (.bipush (-3), 2) := by decide +kernel
theorem dX5_again_28 : decode cX5_again 28 = .ok (.ireturn, 1) := by decide +kernel
theorem dX5_again_29 : decode cX5_again 29 = .ok (.iconst 0, 1) := by decide +kernel
theorem dX5_again_30 : decode cX5_again 30 = .ok (.istore_n 2, 1) := by decide +kernel
theorem dX5_again_31 : decode cX5_again 31 = .ok (.iload_n 2, 1) := by decide +kernel
theorem dX5_again_32 : decode cX5_again 32 = .ok (.bipush 52, 2) := by decide +kernel
theorem dX5_again_34 : decode cX5_again 34 = .ok (.if_icmp .ge 26, 3) := by decide +kernel
theorem dX5_again_37 : decode cX5_again 37 = .ok (.aload_n 0, 1) := by decide +kernel
theorem dX5_again_38 : decode cX5_again 38 = .ok (.getfield 28, 3) := by decide +kernel
theorem dX5_again_41 : decode cX5_again 41 = .ok (.iload_n 2, 1) := by decide +kernel
theorem dX5_again_42 : decode cX5_again 42 = .ok (.aload_n 0, 1) := by decide +kernel
theorem dX5_again_43 : decode cX5_again 43 = .ok (.getfield 34, 3) := by decide +kernel
theorem dX5_again_46 : decode cX5_again 46 = .ok (.bipush 52, 2) := by decide +kernel
theorem dX5_again_48 : decode cX5_again 48 = .ok (.iload_n 1, 1) := by decide +kernel
theorem dX5_again_49 : decode cX5_again 49 = .ok (.imul, 1) := by decide +kernel
theorem dX5_again_50 : decode cX5_again 50 = .ok (.iload_n 2, 1) := by decide +kernel
theorem dX5_again_51 : decode cX5_again 51 = .ok (.iadd, 1) := by decide +kernel
theorem dX5_again_52 : decode cX5_again 52 = .ok (.iaload, 1) := by decide +kernel
theorem dX5_again_53 : decode cX5_again 53 = .ok (.iastore, 1) := by decide +kernel
theorem dX5_again_54 : decode cX5_again 54 = .ok (.iinc 2 1, 3) := by decide +kernel
theorem dX5_again_57 : decode cX5_again 57 = .ok (.goto (-26), 3) := by decide +kernel
theorem dX5_again_60 : decode cX5_again 60 = .ok (.aload_n 0, 1) := by decide +kernel
theorem dX5_again_61 : decode cX5_again 61 = .ok (.iconst 0, 1) := by decide +kernel
theorem dX5_again_62 : decode cX5_again 62 = .ok (.putfield 113, 3) := by decide +kernel
theorem dX5_again_65 : decode cX5_again 65 = .ok (.aload_n 0, 1) := by decide +kernel
theorem dX5_again_66 : decode cX5_again 66 = .ok (.getfield 28, 3) := by decide +kernel
theorem dX5_again_69 : decode cX5_again 69 = .ok (.bipush 48, 2) := by decide +kernel
theorem dX5_again_71 : decode cX5_again 71 = .ok (.iaload, 1) := by decide +kernel
theorem dX5_again_72 : decode cX5_again 72 = .ok (.ireturn, 1) := by decide +kernel
theorem dJ6_bitCount_0f7a4_0 : decode cJ6_bitCount_0f7a4 0 = .ok (.iload_n 0, 1) := by decide +kernel
theorem dJ6_bitCount_0f7a4_1 : decode cJ6_bitCount_0f7a4 1 = .ok (.iload_n 0, 1) := by decide +kernel
theorem dJ6_bitCount_0f7a4_2 : decode cJ6_bitCount_0f7a4 2 = .ok (.iconst 1, 1) := by decide +kernel
theorem dJ6_bitCount_0f7a4_3 : decode cJ6_bitCount_0f7a4 3 = .ok (.iushr, 1) := by decide +kernel
theorem dJ6_bitCount_0f7a4_4 : decode cJ6_bitCount_0f7a4 4 = .ok (.ldc_w 265, 3) := by decide +kernel
theorem dJ6_bitCount_0f7a4_7 : decode cJ6_bitCount_0f7a4 7 = .ok (.iand, 1) := by decide +kernel
theorem dJ6_bitCount_0f7a4_8 : decode cJ6_bitCount_0f7a4 8 = .ok (.isub, 1) := by decide +kernel
theorem dJ6_bitCount_0f7a4_9 : decode cJ6_bitCount_0f7a4 9 = .ok (.istore_n 0, 1) := by decide +kernel
theorem dJ6_bitCount_0f7a4_10 : decode cJ6_bitCount_0f7a4 10 = .ok (.iload_n 0, 1) := by decide +kernel
theorem dJ6_bitCount_0f7a4_11 : decode cJ6_bitCount_0f7a4 11 = .ok (.ldc_w 266, 3) := by decide +kernel
theorem dJ6_bitCount_0f7a4_14 : decode cJ6_bitCount_0f7a4 14 = .ok (.iand, 1) := by decide +kernel
theorem dJ6_bitCount_0f7a4_15 : decode cJ6_bitCount_0f7a4 15 = .ok (.iload_n 0, 1) := by decide +kernel
theorem dJ6_bitCount_0f7a4_16 : decode cJ6_bitCount_0f7a4 16 = .ok (.iconst 2, 1) := by decide +kernel
theorem dJ6_bitCount_0f7a4_17 : decode cJ6_bitCount_0f7a4 17 = .ok (.iushr, 1) := by decide +kernel
theorem dJ6_bitCount_0f7a4_18 : decode cJ6_bitCount_0f7a4 18 = .ok (.ldc_w 266, 3) := by decide +kernel
theorem dJ6_bitCount_0f7a4_21 : decode cJ6_bitCount_0f7a4 21 = .ok (.iand, 1) := by decide +kernel
theorem dJ6_bitCount_0f7a4_22 : decode cJ6_bitCount_0f7a4 22 = .ok (.iadd, 1) := by decide +kernel
theorem dJ6_bitCount_0f7a4_23 : decode cJ6_bitCount_0f7a4 23 = .ok (.istore_n 0, 1) := by decide +kernel
theorem dJ6_bitCount_0f7a4_24 : decode cJ6_bitCount_0f7a4 24 = .ok (.iload_n 0, 1) := by decide +kernel
theorem dJ6_bitCount_0f7a4_25 : decode cJ6_bitCount_0f7a4 25 = .ok (.iload_n 0, 1) := by decide +kernel
theorem dJ6_bitCount_0f7a4_26 : decode cJ6_bitCount_0f7a4 26 = .ok (.iconst 4, 1) := by decide +kernel
theorem dJ6_bitCount_0f7a4_27 : decode cJ6_bitCount_0f7a4 27 = .ok (.iushr, 1) := by decide +kernel
theorem dJ6_bitCount_0f7a4_28 : decode cJ6_bitCount_0f7a4 28 = .ok (.iadd, 1) := by decide +kernel
theorem dJ6_bitCount_0f7a4_29 : decode cJ6_bitCount_0f7a4 29 = .ok (.ldc_w 267, 3) := by decide +kernel
theorem dJ6_bitCount_0f7a4_32 : decode cJ6_bitCount_0f7a4 32 = .ok (.iand, 1) := by decide +kernel
theorem dJ6_bitCount_0f7a4_33 : decode cJ6_bitCount_0f7a4 33 = .ok (.istore_n 0, 1) := by decide +kernel
theorem dJ6_bitCount_0f7a4_34 : decode cJ6_bitCount_0f7a4 34 = .ok (.iload_n 0, 1) := by decide +kernel
theorem dJ6_bitCount_0f7a4_35 : decode cJ6_bitCount_0f7a4 35 = .ok (.iload_n 0, 1) := by decide +kernel
theorem dJ6_bitCount_0f7a4_36 : decode cJ6_bitCount_0f7a4 36 = .ok (.bipush 8, 2) := by decide +kernel
theorem dJ6_bitCount_0f7a4_38 : decode cJ6_bitCount_0f7a4 38 = .ok (.iushr, 1) := by decide +kernel
theorem dJ6_bitCount_0f7a4_39 : decode cJ6_bitCount_0f7a4 39 = .ok (.iadd, 1) := by decide +kernel
theorem dJ6_bitCount_0f7a4_40 : decode cJ6_bitCount_0f7a4 40 = .ok (.istore_n 0, 1) := by decide +kernel
theorem dJ6_bitCount_0f7a4_41 : decode cJ6_bitCount_0f7a4 41 = .ok (.iload_n 0, 1) := by decide +kernel
theorem dJ6_bitCount_0f7a4_42 : decode cJ6_bitCount_0f7a4 42 = .ok (.iload_n 0, 1) := by decide +kernel
theorem dJ6_bitCount_0f7a4_43 : decode cJ6_bitCount_0f7a4 43 = .ok (.bipush 16, 2) := by decide +kernel
theorem dJ6_bitCount_0f7a4_45 : decode cJ6_bitCount_0f7a4 45 = .ok (.iushr, 1) := by decide +kernel
theorem dJ6_bitCount_0f7a4_46 : decode cJ6_bitCount_0f7a4 46 = .ok (.iadd, 1) := by decide +kernel
theorem dJ6_bitCount_0f7a4_47 : decode cJ6_bitCount_0f7a4 47 = .ok (.istore_n 0, 1) := by decide +kernel
theorem dJ6_bitCount_0f7a4_48 : decode cJ6_bitCount_0f7a4 48 = .ok (.iload_n 0, 1) := by decide +kernel
theorem dJ6_bitCount_0f7a4_49 : decode cJ6_bitCount_0f7a4 49 = .ok (.bipush 63, 2) := by decide +kernel
theorem dJ6_bitCount_0f7a4_51 : decode cJ6_bitCount_0f7a4 51 = .ok (.iand, 1) := by decide +kernel
theorem dJ6_bitCount_0f7a4_52 : decode cJ6_bitCount_0f7a4 52 = .ok (.ireturn, 1) := by decide +kernel
theorem dJ9_abs_0f7a4_0 : decode cJ9_abs_0f7a4 0 = .ok (.iload_n 0, 1) := by decide +kernel
theorem dJ9_abs_0f7a4_1 : decode cJ9_abs_0f7a4 1 = .ok (.ifCond .ge 8, 3) := by decide +kernel
theorem dJ9_abs_0f7a4_4 : decode cJ9_abs_0f7a4 4 = .ok (.iload_n 0, 1) := by decide +kernel
theorem dJ9_abs_0f7a4_5 : decode cJ9_abs_0f7a4 5 = .ok (.ineg, 1) := by decide +kernel
theorem dJ9_abs_0f7a4_6 : decode cJ9_abs_0f7a4 6 = .ok (.goto 4, 3) := by decide +kernel
theorem dJ9_abs_0f7a4_9 : decode cJ9_abs_0f7a4 9 = .ok (.iload_n 0, 1) := by decide +kernel
theorem dJ9_abs_0f7a4_10 : decode cJ9_abs_0f7a4 10 = .ok (.ireturn, 1) := by decide +kernel
theorem dJ9_max_7cf53_0 : decode cJ9_max_7cf53 0 = .ok (.iload_n 0, 1) := by decide +kernel
theorem dJ9_max_7cf53_1 : decode cJ9_max_7cf53 1 = .ok (.iload_n 1, 1) := by decide +kernel
theorem dJ9_max_7cf53_2 : decode cJ9_max_7cf53 2 = .ok (.if_icmp .lt 7, 3) := by decide +kernel
theorem dJ9_max_7cf53_5 : decode cJ9_max_7cf53 5 = .ok (.iload_n 0, 1) := by decide +kernel
theorem dJ9_max_7cf53_6 : decode cJ9_max_7cf53 6 = .ok (.goto 4, 3) := by decide +kernel
theorem dJ9_max_7cf53_9 : decode cJ9_max_7cf53 9 = .ok (.iload_n 1, 1) := by decide +kernel
theorem dJ9_max_7cf53_10 : decode cJ9_max_7cf53 10 = .ok (.ireturn, 1) := by decide +kernel
theorem dJ9_min_7cf53_0 : decode cJ9_min_7cf53 0 = .ok (.iload_n 0, 1) := by decide +kernel
theorem dJ9_min_7cf53_1 : decode cJ9_min_7cf53 1 = .ok (.iload_n 1, 1) := by decide +kernel
theorem dJ9_min_7cf53_2 : decode cJ9_min_7cf53 2 = .ok (.if_icmp .gt 7, 3) := by decide +kernel
theorem dJ9_min_7cf53_5 : decode cJ9_min_7cf53 5 = .ok (.iload_n 0, 1) := by decide +kernel
theorem dJ9_min_7cf53_6 : decode cJ9_min_7cf53 6 = .ok (.goto 4, 3) := by decide +kernel
theorem dJ9_min_7cf53_9 : decode cJ9_min_7cf53 9 = .ok (.iload_n 1, 1) := by decide +kernel
theorem dJ9_min_7cf53_10 : decode cJ9_min_7cf53 10 = .ok (.ireturn, 1) := by decide +kernel
theorem dL_law_0 : decode cL_law 0 = .ok (.new 7, 3) := by decide +kernel
theorem dL_law_3 : decode cL_law 3 = .ok (.dup, 1) := by decide +kernel
theorem dL_law_4 : decode cL_law 4 = .ok (.invokespecial 9, 3) := by decide +kernel
theorem dL_law_7 : decode cL_law 7 = .ok (.astore_n 1, 1) := by decide +kernel
theorem dL_law_8 : decode cL_law 8 = .ok (.new 10, 3) := by decide +kernel
theorem dL_law_11 : decode cL_law 11 = .ok (.dup, 1) := by decide +kernel
theorem dL_law_12 : decode cL_law 12 = .ok (.invokespecial 12, 3) := by decide +kernel
theorem dL_law_15 : decode cL_law 15 = .ok (.astore_n 2, 1) := by decide +kernel
theorem dL_law_16 : decode cL_law 16 = .ok (.iconst 0, 1) := by decide +kernel
theorem dL_law_17 : decode cL_law 17 = .ok (.istore_n 3, 1) := by decide +kernel
theorem dL_law_18 : decode cL_law 18 = .ok (.iload_n 3, 1) := by decide +kernel
theorem dL_law_19 : decode cL_law 19 = .ok (.aload_n 0, 1) := by decide +kernel
theorem dL_law_20 : decode cL_law 20 = .ok (.arraylength, 1) := by decide +kernel
theorem dL_law_21 : decode cL_law 21 = .ok (.iconst 5, 1) := by decide +kernel
theorem dL_law_22 : decode cL_law 22 = .ok (.isub, 1) := by decide +kernel
theorem dL_law_23 : decode cL_law 23 = .ok (.if_icmp .gt 903, 3) := by decide +kernel
theorem dL_law_26 : decode cL_law 26 = .ok (.aload_n 0, 1) := by decide +kernel
theorem dL_law_27 : decode cL_law 27 = .ok (.iload_n 3, 1) := by decide +kernel
theorem dL_law_28 : decode cL_law 28 = .ok (.iaload, 1) := by decide +kernel
theorem dL_law_29 : decode cL_law 29 = .ok (.bipush 31, 2) := by decide +kernel
theorem dL_law_31 : decode cL_law 31 = .ok (.iand, 1) := by decide +kernel
theorem dL_law_32 : decode cL_law 32 = .ok (.tableswitch 888 0 26 #[124, 147, 160, 173, 186, 209, 242, 275, 288, 341, 364, 377, 436, 459, 482, 505, 538, 561, 574, 597, 620, 663, 696, 755, 809, 842, 865], 124) := by decide +kernel
theorem dL_law_156 : decode cL_law 156 = .ok (.aload_n 1, 1) := by decide +kernel
theorem dL_law_157 : decode cL_law 157 = .ok (.aload_n 0, 1) := by decide +kernel
theorem dL_law_158 : decode cL_law 158 = .ok (.iload_n 3, 1) := by decide +kernel
theorem dL_law_159 : decode cL_law 159 = .ok (.iconst 1, 1) := by decide +kernel
theorem dL_law_160 : decode cL_law 160 = .ok (.iadd, 1) := by decide +kernel
theorem dL_law_161 : decode cL_law 161 = .ok (.iaload, 1) := by decide +kernel
theorem dL_law_162 : decode cL_law 162 = .ok (.invokevirtual 13, 3) := by decide +kernel
theorem dL_law_165 : decode cL_law 165 = .ok (.aload_n 2, 1) := by decide +kernel
theorem dL_law_166 : decode cL_law 166 = .ok (.aload_n 0, 1) := by decide +kernel
theorem dL_law_167 : decode cL_law 167 = .ok (.iload_n 3, 1) := by decide +kernel
theorem dL_law_168 : decode cL_law 168 = .ok (.iconst 1, 1) := by decide +kernel
theorem dL_law_169 : decode cL_law 169 = .ok (.iadd, 1) := by decide +kernel
theorem dL_law_170 : decode cL_law 170 = .ok (.iaload, 1) := by decide +kernel
theorem dL_law_171 : decode cL_law 171 = .ok (.invokevirtual 17, 3) := by decide +kernel
theorem dL_law_174 : decode cL_law 174 = .ok (.if_icmp .eq 746, 3) := by decide +kernel
theorem dL_law_177 : decode cL_law 177 = .ok (.iconst 0, 1) := by decide +kernel
theorem dL_law_178 : decode cL_law 178 = .ok (.ireturn, 1) := by decide +kernel
theorem dL_law_179 : decode cL_law 179 = .ok (.aload_n 1, 1) := by decide +kernel
theorem dL_law_180 : decode cL_law 180 = .ok (.invokevirtual 18, 3) := by decide +kernel
theorem dL_law_183 : decode cL_law 183 = .ok (.aload_n 2, 1) := by decide +kernel
theorem dL_law_184 : decode cL_law 184 = .ok (.invokevirtual 22, 3) := by decide +kernel
theorem dL_law_187 : decode cL_law 187 = .ok (.if_icmp .eq 733, 3) := by decide +kernel
theorem dL_law_190 : decode cL_law 190 = .ok (.iconst 0, 1) := by decide +kernel
theorem dL_law_191 : decode cL_law 191 = .ok (.ireturn, 1) := by decide +kernel
theorem dL_law_192 : decode cL_law 192 = .ok (.aload_n 1, 1) := by decide +kernel
theorem dL_law_193 : decode cL_law 193 = .ok (.invokevirtual 23, 3) := by decide +kernel
theorem dL_law_196 : decode cL_law 196 = .ok (.aload_n 2, 1) := by decide +kernel
theorem dL_law_197 : decode cL_law 197 = .ok (.invokevirtual 26, 3) := by decide +kernel
theorem dL_law_200 : decode cL_law 200 = .ok (.if_icmp .eq 720, 3) := by decide +kernel
theorem dL_law_203 : decode cL_law 203 = .ok (.iconst 0, 1) := by decide +kernel
theorem dL_law_204 : decode cL_law 204 = .ok (.ireturn, 1) := by decide +kernel
theorem dL_law_205 : decode cL_law 205 = .ok (.aload_n 1, 1) := by decide +kernel
theorem dL_law_206 : decode cL_law 206 = .ok (.invokevirtual 27, 3) := by decide +kernel
theorem dL_law_209 : decode cL_law 209 = .ok (.aload_n 2, 1) := by decide +kernel
theorem dL_law_210 : decode cL_law 210 = .ok (.invokevirtual 30, 3) := by decide +kernel
theorem dL_law_213 : decode cL_law 213 = .ok (.if_icmp .eq 707, 3) := by decide +kernel
theorem dL_law_216 : decode cL_law 216 = .ok (.iconst 0, 1) := by decide +kernel
theorem dL_law_217 : decode cL_law 217 = .ok (.ireturn, 1) := by decide +kernel
theorem dL_law_218 : decode cL_law 218 = .ok (.aload_n 1, 1) := by decide +kernel
theorem dL_law_219 : decode cL_law 219 = .ok (.aload_n 0, 1) := by decide +kernel
theorem dL_law_220 : decode cL_law 220 = .ok (.iload_n 3, 1) := by decide +kernel
theorem dL_law_221 : decode cL_law 221 = .ok (.iconst 1, 1) := by decide +kernel
theorem dL_law_222 : decode cL_law 222 = .ok (.iadd, 1) := by decide +kernel
theorem dL_law_223 : decode cL_law 223 = .ok (.iaload, 1) := by decide +kernel
theorem dL_law_224 : decode cL_law 224 = .ok (.invokevirtual 31, 3) := by decide +kernel
theorem dL_law_227 : decode cL_law 227 = .ok (.aload_n 2, 1) := by decide +kernel
theorem dL_law_228 : decode cL_law 228 = .ok (.aload_n 0, 1) := by decide +kernel
theorem dL_law_229 : decode cL_law 229 = .ok (.iload_n 3, 1) := by decide +kernel
theorem dL_law_230 : decode cL_law 230 = .ok (.iconst 1, 1) := by decide +kernel
theorem dL_law_231 : decode cL_law 231 = .ok (.iadd, 1) := by decide +kernel
theorem dL_law_232 : decode cL_law 232 = .ok (.iaload, 1) := by decide +kernel
theorem dL_law_233 : decode cL_law 233 = .ok (.invokevirtual 34, 3) := by decide +kernel
theorem dL_law_236 : decode cL_law 236 = .ok (.if_icmp .eq 684, 3) := by decide +kernel
theorem dL_law_239 : decode cL_law 239 = .ok (.iconst 0, 1) := by decide +kernel
theorem dL_law_240 : decode cL_law 240 = .ok (.ireturn, 1) := by decide +kernel
theorem dL_law_241 : decode cL_law 241 = .ok (.aload_n 1, 1) := by decide +kernel
theorem dL_law_242 : decode cL_law 242 = .ok (.aload_n 0, 1) := by decide +kernel
theorem dL_law_243 : decode cL_law 243 = .ok (.iload_n 3, 1) := by decide +kernel
theorem dL_law_244 : decode cL_law 244 = .ok (.iconst 1, 1) := by decide +kernel
theorem dL_law_245 : decode cL_law 245 = .ok (.iadd, 1) := by decide +kernel
theorem dL_law_246 : decode cL_law 246 = .ok (.iaload, 1) := by decide +kernel
theorem dL_law_247 : decode cL_law 247 = .ok (.aload_n 0, 1) := by decide +kernel
theorem dL_law_248 : decode cL_law 248 = .ok (.iload_n 3, 1) := by decide +kernel
theorem dL_law_249 : decode cL_law 249 = .ok (.iconst 2, 1) := by decide +kernel
theorem dL_law_250 : decode cL_law 250 = .ok (.iadd, 1) := by decide +kernel
theorem dL_law_251 : decode cL_law 251 = .ok (.iaload, 1) := by decide +kernel
theorem dL_law_252 : decode cL_law 252 = .ok (.invokevirtual 35, 3) := by decide +kernel
theorem dL_law_255 : decode cL_law 255 = .ok (.aload_n 2, 1) := by decide +kernel
theorem dL_law_256 : decode cL_law 256 = .ok (.aload_n 0, 1) := by decide +kernel
theorem dL_law_257 : decode cL_law 257 = .ok (.iload_n 3, 1) := by decide +kernel
theorem dL_law_258 : decode cL_law 258 = .ok (.iconst 1, 1) := by decide +kernel
theorem dL_law_259 : decode cL_law 259 = .ok (.iadd, 1) := by decide +kernel
theorem dL_law_260 : decode cL_law 260 = .ok (.iaload, 1) := by decide +kernel
theorem dL_law_261 : decode cL_law 261 = .ok (.aload_n 0, 1) := by decide +kernel
theorem dL_law_262 : decode cL_law 262 = .ok (.iload_n 3, 1) := by decide +kernel
theorem dL_law_263 : decode cL_law 263 = .ok (.iconst 2, 1) := by decide +kernel
theorem dL_law_264 : decode cL_law 264 = .ok (.iadd, 1) := by decide +kernel
theorem dL_law_265 : decode cL_law 265 = .ok (.iaload, 1) := by decide +kernel
theorem dL_law_266 : decode cL_law 266 = .ok (.invokevirtual 39, 3) := by decide +kernel
theorem dL_law_269 : decode cL_law 269 = .ok (.if_icmp .eq 651, 3) := by decide +kernel
theorem dL_law_272 : decode cL_law 272 = .ok (.iconst 0, 1) := by decide +kernel
theorem dL_law_273 : decode cL_law 273 = .ok (.ireturn, 1) := by decide +kernel
theorem dL_law_274 : decode cL_law 274 = .ok (.aload_n 1, 1) := by decide +kernel
theorem dL_law_275 : decode cL_law 275 = .ok (.aload_n 0, 1) := by decide +kernel
theorem dL_law_276 : decode cL_law 276 = .ok (.iload_n 3, 1) := by decide +kernel
theorem dL_law_277 : decode cL_law 277 = .ok (.iconst 1, 1) := by decide +kernel
theorem dL_law_278 : decode cL_law 278 = .ok (.iadd, 1) := by decide +kernel
theorem dL_law_279 : decode cL_law 279 = .ok (.iaload, 1) := by decide +kernel
theorem dL_law_280 : decode cL_law 280 = .ok (.aload_n 0, 1) := by decide +kernel
theorem dL_law_281 : decode cL_law 281 = .ok (.iload_n 3, 1) := by decide +kernel
theorem dL_law_282 : decode cL_law 282 = .ok (.iconst 2, 1) := by decide +kernel
theorem dL_law_283 : decode cL_law 283 = .ok (.iadd, 1) := by decide +kernel
theorem dL_law_284 : decode cL_law 284 = .ok (.iaload, 1) := by decide +kernel
theorem dL_law_285 : decode cL_law 285 = .ok (.invokevirtual 40, 3) := by decide +kernel
theorem dL_law_288 : decode cL_law 288 = .ok (.aload_n 2, 1) := by decide +kernel
theorem dL_law_289 : decode cL_law 289 = .ok (.aload_n 0, 1) := by decide +kernel
theorem dL_law_290 : decode cL_law 290 = .ok (.iload_n 3, 1) := by decide +kernel
theorem dL_law_291 : decode cL_law 291 = .ok (.iconst 1, 1) := by decide +kernel
theorem dL_law_292 : decode cL_law 292 = .ok (.iadd, 1) := by decide +kernel
theorem dL_law_293 : decode cL_law 293 = .ok (.iaload, 1) := by decide +kernel
theorem dL_law_294 : decode cL_law 294 = .ok (.aload_n 0, 1) := by decide +kernel
theorem dL_law_295 : decode cL_law 295 = .ok (.iload_n 3, 1) := by decide +kernel
theorem dL_law_296 : decode cL_law 296 = .ok (.iconst 2, 1) := by decide +kernel
theorem dL_law_297 : decode cL_law 297 = .ok (.iadd, 1) := by decide +kernel
theorem dL_law_298 : decode cL_law 298 = .ok (.iaload, 1) := by decide +kernel
theorem dL_law_299 : decode cL_law 299 = .ok (.invokevirtual 43, 3) := by decide +kernel
theorem dL_law_302 : decode cL_law 302 = .ok (.if_icmp .eq 618, 3) := by decide +kernel
theorem dL_law_305 : decode cL_law 305 = .ok (.iconst 0, 1) := by decide +kernel
theorem dL_law_306 : decode cL_law 306 = .ok (.ireturn, 1) := by decide +kernel
theorem dL_law_307 : decode cL_law 307 = .ok (.aload_n 1, 1) := by decide +kernel
theorem dL_law_308 : decode cL_law 308 = .ok (.invokevirtual 44, 3) := by decide +kernel
theorem dL_law_311 : decode cL_law 311 = .ok (.aload_n 2, 1) := by decide +kernel
theorem dL_law_312 : decode cL_law 312 = .ok (.invokevirtual 47, 3) := by decide +kernel
theorem dL_law_315 : decode cL_law 315 = .ok (.if_icmp .eq 605, 3) := by decide +kernel
theorem dL_law_318 : decode cL_law 318 = .ok (.iconst 0, 1) := by decide +kernel
theorem dL_law_319 : decode cL_law 319 = .ok (.ireturn, 1) := by decide +kernel
theorem dL_law_320 : decode cL_law 320 = .ok (.aload_n 1, 1) := by decide +kernel
theorem dL_law_321 : decode cL_law 321 = .ok (.aload_n 0, 1) := by decide +kernel
theorem dL_law_322 : decode cL_law 322 = .ok (.iload_n 3, 1) := by decide +kernel
theorem dL_law_323 : decode cL_law 323 = .ok (.iconst 1, 1) := by decide +kernel
theorem dL_law_324 : decode cL_law 324 = .ok (.iadd, 1) := by decide +kernel
theorem dL_law_325 : decode cL_law 325 = .ok (.iaload, 1) := by decide +kernel
theorem dL_law_326 : decode cL_law 326 = .ok (.aload_n 0, 1) := by decide +kernel
theorem dL_law_327 : decode cL_law 327 = .ok (.iload_n 3, 1) := by decide +kernel
theorem dL_law_328 : decode cL_law 328 = .ok (.iconst 2, 1) := by decide +kernel
theorem dL_law_329 : decode cL_law 329 = .ok (.iadd, 1) := by decide +kernel
theorem dL_law_330 : decode cL_law 330 = .ok (.iaload, 1) := by decide +kernel
theorem dL_law_331 : decode cL_law 331 = .ok (.aload_n 0, 1) := by decide +kernel
theorem dL_law_332 : decode cL_law 332 = .ok (.iload_n 3, 1) := by decide +kernel
theorem dL_law_333 : decode cL_law 333 = .ok (.iconst 3, 1) := by decide +kernel
theorem dL_law_334 : decode cL_law 334 = .ok (.iadd, 1) := by decide +kernel
theorem dL_law_335 : decode cL_law 335 = .ok (.iaload, 1) := by decide +kernel
theorem dL_law_336 : decode cL_law 336 = .ok (.aload_n 0, 1) := by decide +kernel
theorem dL_law_337 : decode cL_law 337 = .ok (.iload_n 3, 1) := by decide +kernel
theorem dL_law_338 : decode cL_law 338 = .ok (.iconst 4, 1) := by decide +kernel
theorem dL_law_339 : decode cL_law 339 = .ok (.iadd, 1) := by decide +kernel
theorem dL_law_340 : decode cL_law 340 = .ok (.iaload, 1) := by decide +kernel
theorem dL_law_341 : decode cL_law 341 = .ok (.invokevirtual 48, 3) := by decide +kernel
theorem dL_law_344 : decode cL_law 344 = .ok (.aload_n 2, 1) := by decide +kernel
theorem dL_law_345 : decode cL_law 345 = .ok (.aload_n 0, 1) := by decide +kernel
theorem dL_law_346 : decode cL_law 346 = .ok (.iload_n 3, 1) := by decide +kernel
theorem dL_law_347 : decode cL_law 347 = .ok (.iconst 1, 1) := by decide +kernel
theorem dL_law_348 : decode cL_law 348 = .ok (.iadd, 1) := by decide +kernel
theorem dL_law_349 : decode cL_law 349 = .ok (.iaload, 1) := by decide +kernel
theorem dL_law_350 : decode cL_law 350 = .ok (.aload_n 0, 1) := by decide +kernel
theorem dL_law_351 : decode cL_law 351 = .ok (.iload_n 3, 1) := by decide +kernel
theorem dL_law_352 : decode cL_law 352 = .ok (.iconst 2, 1) := by decide +kernel
theorem dL_law_353 : decode cL_law 353 = .ok (.iadd, 1) := by decide +kernel
theorem dL_law_354 : decode cL_law 354 = .ok (.iaload, 1) := by decide +kernel
theorem dL_law_355 : decode cL_law 355 = .ok (.aload_n 0, 1) := by decide +kernel
theorem dL_law_356 : decode cL_law 356 = .ok (.iload_n 3, 1) := by decide +kernel
theorem dL_law_357 : decode cL_law 357 = .ok (.iconst 3, 1) := by decide +kernel
theorem dL_law_358 : decode cL_law 358 = .ok (.iadd, 1) := by decide +kernel
theorem dL_law_359 : decode cL_law 359 = .ok (.iaload, 1) := by decide +kernel
theorem dL_law_360 : decode cL_law 360 = .ok (.aload_n 0, 1) := by decide +kernel
theorem dL_law_361 : decode cL_law 361 = .ok (.iload_n 3, 1) := by decide +kernel
theorem dL_law_362 : decode cL_law 362 = .ok (.iconst 4, 1) := by decide +kernel
theorem dL_law_363 : decode cL_law 363 = .ok (.iadd, 1) := by decide +kernel
theorem dL_law_364 : decode cL_law 364 = .ok (.iaload, 1) := by decide +kernel
theorem dL_law_365 : decode cL_law 365 = .ok (.invokevirtual 52, 3) := by decide +kernel
theorem dL_law_368 : decode cL_law 368 = .ok (.if_icmp .eq 552, 3) := by decide +kernel
theorem dL_law_371 : decode cL_law 371 = .ok (.iconst 0, 1) := by decide +kernel
theorem dL_law_372 : decode cL_law 372 = .ok (.ireturn, 1) := by decide +kernel
theorem dL_law_373 : decode cL_law 373 = .ok (.aload_n 1, 1) := by decide +kernel
theorem dL_law_374 : decode cL_law 374 = .ok (.aload_n 0, 1) := by decide +kernel
theorem dL_law_375 : decode cL_law 375 = .ok (.iload_n 3, 1) := by decide +kernel
theorem dL_law_376 : decode cL_law 376 = .ok (.iconst 1, 1) := by decide +kernel
theorem dL_law_377 : decode cL_law 377 = .ok (.iadd, 1) := by decide +kernel
theorem dL_law_378 : decode cL_law 378 = .ok (.iaload, 1) := by decide +kernel
theorem dL_law_379 : decode cL_law 379 = .ok (.invokevirtual 53, 3) := by decide +kernel
theorem dL_law_382 : decode cL_law 382 = .ok (.aload_n 2, 1) := by decide +kernel
theorem dL_law_383 : decode cL_law 383 = .ok (.aload_n 0, 1) := by decide +kernel
theorem dL_law_384 : decode cL_law 384 = .ok (.iload_n 3, 1) := by decide +kernel
theorem dL_law_385 : decode cL_law 385 = .ok (.iconst 1, 1) := by decide +kernel
theorem dL_law_386 : decode cL_law 386 = .ok (.iadd, 1) := by decide +kernel
theorem dL_law_387 : decode cL_law 387 = .ok (.iaload, 1) := by decide +kernel
theorem dL_law_388 : decode cL_law 388 = .ok (.invokevirtual 56, 3) := by decide +kernel
theorem dL_law_391 : decode cL_law 391 = .ok (.if_icmp .eq 529, 3) := by decide +kernel
theorem dL_law_394 : decode cL_law 394 = .ok (.iconst 0, 1) := by decide +kernel
theorem dL_law_395 : decode cL_law 395 = .ok (.ireturn, 1) := by decide +kernel
theorem dL_law_396 : decode cL_law 396 = .ok (.aload_n 1, 1) := by decide +kernel
theorem dL_law_397 : decode cL_law 397 = .ok (.invokevirtual 57, 3) := by decide +kernel
theorem dL_law_400 : decode cL_law 400 = .ok (.aload_n 2, 1) := by decide +kernel
theorem dL_law_401 : decode cL_law 401 = .ok (.invokevirtual 60, 3) := by decide +kernel
theorem dL_law_404 : decode cL_law 404 = .ok (.if_icmp .eq 516, 3) := by decide +kernel
theorem dL_law_407 : decode cL_law 407 = .ok (.iconst 0, 1) := by decide +kernel
theorem dL_law_408 : decode cL_law 408 = .ok (.ireturn, 1) := by decide +kernel
theorem dL_law_409 : decode cL_law 409 = .ok (.aload_n 1, 1) := by decide +kernel
theorem dL_law_410 : decode cL_law 410 = .ok (.aload_n 0, 1) := by decide +kernel
theorem dL_law_411 : decode cL_law 411 = .ok (.iload_n 3, 1) := by decide +kernel
theorem dL_law_412 : decode cL_law 412 = .ok (.iconst 1, 1) := by decide +kernel
theorem dL_law_413 : decode cL_law 413 = .ok (.iadd, 1) := by decide +kernel
theorem dL_law_414 : decode cL_law 414 = .ok (.iaload, 1) := by decide +kernel
theorem dL_law_415 : decode cL_law 415 = .ok (.aload_n 0, 1) := by decide +kernel
theorem dL_law_416 : decode cL_law 416 = .ok (.iload_n 3, 1) := by decide +kernel
theorem dL_law_417 : decode cL_law 417 = .ok (.iconst 2, 1) := by decide +kernel
theorem dL_law_418 : decode cL_law 418 = .ok (.iadd, 1) := by decide +kernel
theorem dL_law_419 : decode cL_law 419 = .ok (.iaload, 1) := by decide +kernel
theorem dL_law_420 : decode cL_law 420 = .ok (.aload_n 0, 1) := by decide +kernel
theorem dL_law_421 : decode cL_law 421 = .ok (.iload_n 3, 1) := by decide +kernel
theorem dL_law_422 : decode cL_law 422 = .ok (.iconst 3, 1) := by decide +kernel
theorem dL_law_423 : decode cL_law 423 = .ok (.iadd, 1) := by decide +kernel
theorem dL_law_424 : decode cL_law 424 = .ok (.iaload, 1) := by decide +kernel
theorem dL_law_425 : decode cL_law 425 = .ok (.ifCond .eq 7, 3) := by decide +kernel
theorem dL_law_428 : decode cL_law 428 = .ok (.iconst 1, 1) := by decide +kernel
theorem dL_law_429 : decode cL_law 429 = .ok (.goto 4, 3) := by decide +kernel
theorem dL_law_432 : decode cL_law 432 = .ok (.iconst 0, 1) := by decide +kernel
theorem dL_law_433 : decode cL_law 433 = .ok (.invokevirtual 61, 3) := by decide +kernel
theorem dL_law_436 : decode cL_law 436 = .ok (.aload_n 2, 1) := by decide +kernel
theorem dL_law_437 : decode cL_law 437 = .ok (.aload_n 0, 1) := by decide +kernel
theorem dL_law_438 : decode cL_law 438 = .ok (.iload_n 3, 1) := by decide +kernel
theorem dL_law_439 : decode cL_law 439 = .ok (.iconst 1, 1) := by decide +kernel
theorem dL_law_440 : decode cL_law 440 = .ok (.iadd, 1) := by decide +kernel
theorem dL_law_441 : decode cL_law 441 = .ok (.iaload, 1) := by decide +kernel
theorem dL_law_442 : decode cL_law 442 = .ok (.aload_n 0, 1) := by decide +kernel
theorem dL_law_443 : decode cL_law 443 = .ok (.iload_n 3, 1) := by decide +kernel
theorem dL_law_444 : decode cL_law 444 = .ok (.iconst 2, 1) := by decide +kernel
theorem dL_law_445 : decode cL_law 445 = .ok (.iadd, 1) := by decide +kernel
theorem dL_law_446 : decode cL_law 446 = .ok (.iaload, 1) := by decide +kernel
theorem dL_law_447 : decode cL_law 447 = .ok (.aload_n 0, 1) := by decide +kernel
theorem dL_law_448 : decode cL_law 448 = .ok (.iload_n 3, 1) := by decide +kernel
theorem dL_law_449 : decode cL_law 449 = .ok (.iconst 3, 1) := by decide +kernel
theorem dL_law_450 : decode cL_law 450 = .ok (.iadd, 1) := by decide +kernel
theorem dL_law_451 : decode cL_law 451 = .ok (.iaload, 1) := by decide +kernel
theorem dL_law_452 : decode cL_law 452 = .ok (.ifCond .eq 7, 3) := by decide +kernel
theorem dL_law_455 : decode cL_law 455 = .ok (.iconst 1, 1) := by decide +kernel
theorem dL_law_456 : decode cL_law 456 = .ok (.goto 4, 3) := by decide +kernel
theorem dL_law_459 : decode cL_law 459 = .ok (.iconst 0, 1) := by decide +kernel
theorem dL_law_460 : decode cL_law 460 = .ok (.invokevirtual 65, 3) := by decide +kernel
theorem dL_law_463 : decode cL_law 463 = .ok (.if_icmp .eq 457, 3) := by decide +kernel
theorem dL_law_466 : decode cL_law 466 = .ok (.iconst 0, 1) := by decide +kernel
theorem dL_law_467 : decode cL_law 467 = .ok (.ireturn, 1) := by decide +kernel
theorem dL_law_468 : decode cL_law 468 = .ok (.aload_n 1, 1) := by decide +kernel
theorem dL_law_469 : decode cL_law 469 = .ok (.aload_n 0, 1) := by decide +kernel
theorem dL_law_470 : decode cL_law 470 = .ok (.iload_n 3, 1) := by decide +kernel
theorem dL_law_471 : decode cL_law 471 = .ok (.iconst 1, 1) := by decide +kernel
theorem dL_law_472 : decode cL_law 472 = .ok (.iadd, 1) := by decide +kernel
theorem dL_law_473 : decode cL_law 473 = .ok (.iaload, 1) := by decide +kernel
theorem dL_law_474 : decode cL_law 474 = .ok (.invokevirtual 66, 3) := by decide +kernel
theorem dL_law_477 : decode cL_law 477 = .ok (.aload_n 2, 1) := by decide +kernel
theorem dL_law_478 : decode cL_law 478 = .ok (.aload_n 0, 1) := by decide +kernel
theorem dL_law_479 : decode cL_law 479 = .ok (.iload_n 3, 1) := by decide +kernel
theorem dL_law_480 : decode cL_law 480 = .ok (.iconst 1, 1) := by decide +kernel
theorem dL_law_481 : decode cL_law 481 = .ok (.iadd, 1) := by decide +kernel
theorem dL_law_482 : decode cL_law 482 = .ok (.iaload, 1) := by decide +kernel
theorem dL_law_483 : decode cL_law 483 = .ok (.invokevirtual 69, 3) := by decide +kernel
theorem dL_law_486 : decode cL_law 486 = .ok (.if_icmp .eq 434, 3) := by decide +kernel
theorem dL_law_489 : decode cL_law 489 = .ok (.iconst 0, 1) := by decide +kernel
theorem dL_law_490 : decode cL_law 490 = .ok (.ireturn, 1) := by decide +kernel
theorem dL_law_491 : decode cL_law 491 = .ok (.aload_n 1, 1) := by decide +kernel
theorem dL_law_492 : decode cL_law 492 = .ok (.aload_n 0, 1) := by decide +kernel
theorem dL_law_493 : decode cL_law 493 = .ok (.iload_n 3, 1) := by decide +kernel
theorem dL_law_494 : decode cL_law 494 = .ok (.iconst 1, 1) := by decide +kernel
theorem dL_law_495 : decode cL_law 495 = .ok (.iadd, 1) := by decide +kernel
theorem dL_law_496 : decode cL_law 496 = .ok (.iaload, 1) := by decide +kernel
theorem dL_law_497 : decode cL_law 497 = .ok (.invokevirtual 70, 3) := by decide +kernel
theorem dL_law_500 : decode cL_law 500 = .ok (.aload_n 2, 1) := by decide +kernel
theorem dL_law_501 : decode cL_law 501 = .ok (.aload_n 0, 1) := by decide +kernel
theorem dL_law_502 : decode cL_law 502 = .ok (.iload_n 3, 1) := by decide +kernel
theorem dL_law_503 : decode cL_law 503 = .ok (.iconst 1, 1) := by decide +kernel
theorem dL_law_504 : decode cL_law 504 = .ok (.iadd, 1) := by decide +kernel
theorem dL_law_505 : decode cL_law 505 = .ok (.iaload, 1) := by decide +kernel
theorem dL_law_506 : decode cL_law 506 = .ok (.invokevirtual 73, 3) := by decide +kernel
theorem dL_law_509 : decode cL_law 509 = .ok (.if_icmp .eq 411, 3) := by decide +kernel
theorem dL_law_512 : decode cL_law 512 = .ok (.iconst 0, 1) := by decide +kernel
theorem dL_law_513 : decode cL_law 513 = .ok (.ireturn, 1) := by decide +kernel
theorem dL_law_514 : decode cL_law 514 = .ok (.aload_n 1, 1) := by decide +kernel
theorem dL_law_515 : decode cL_law 515 = .ok (.aload_n 0, 1) := by decide +kernel
theorem dL_law_516 : decode cL_law 516 = .ok (.iload_n 3, 1) := by decide +kernel
theorem dL_law_517 : decode cL_law 517 = .ok (.iconst 1, 1) := by decide +kernel
theorem dL_law_518 : decode cL_law 518 = .ok (.iadd, 1) := by decide +kernel
theorem dL_law_519 : decode cL_law 519 = .ok (.iaload, 1) := by decide +kernel
theorem dL_law_520 : decode cL_law 520 = .ok (.invokevirtual 74, 3) := by decide +kernel
theorem dL_law_523 : decode cL_law 523 = .ok (.aload_n 2, 1) := by decide +kernel
theorem dL_law_524 : decode cL_law 524 = .ok (.aload_n 0, 1) := by decide +kernel
theorem dL_law_525 : decode cL_law 525 = .ok (.iload_n 3, 1) := by decide +kernel
theorem dL_law_526 : decode cL_law 526 = .ok (.iconst 1, 1) := by decide +kernel
theorem dL_law_527 : decode cL_law 527 = .ok (.iadd, 1) := by decide +kernel
theorem dL_law_528 : decode cL_law 528 = .ok (.iaload, 1) := by decide +kernel
theorem dL_law_529 : decode cL_law 529 = .ok (.invokevirtual 77, 3) := by decide +kernel
theorem dL_law_532 : decode cL_law 532 = .ok (.if_icmp .eq 388, 3) := by decide +kernel
theorem dL_law_535 : decode cL_law 535 = .ok (.iconst 0, 1) := by decide +kernel
theorem dL_law_536 : decode cL_law 536 = .ok (.ireturn, 1) := by decide +kernel
theorem dL_law_537 : decode cL_law 537 = .ok (.aload_n 1, 1) := by decide +kernel
theorem dL_law_538 : decode cL_law 538 = .ok (.aload_n 0, 1) := by decide +kernel
theorem dL_law_539 : decode cL_law 539 = .ok (.iload_n 3, 1) := by decide +kernel
theorem dL_law_540 : decode cL_law 540 = .ok (.iconst 1, 1) := by decide +kernel
theorem dL_law_541 : decode cL_law 541 = .ok (.iadd, 1) := by decide +kernel
theorem dL_law_542 : decode cL_law 542 = .ok (.iaload, 1) := by decide +kernel
theorem dL_law_543 : decode cL_law 543 = .ok (.aload_n 0, 1) := by decide +kernel
theorem dL_law_544 : decode cL_law 544 = .ok (.iload_n 3, 1) := by decide +kernel
theorem dL_law_545 : decode cL_law 545 = .ok (.iconst 2, 1) := by decide +kernel
theorem dL_law_546 : decode cL_law 546 = .ok (.iadd, 1) := by decide +kernel
theorem dL_law_547 : decode cL_law 547 = .ok (.iaload, 1) := by decide +kernel
theorem dL_law_548 : decode cL_law 548 = .ok (.invokevirtual 78, 3) := by decide +kernel
theorem dL_law_551 : decode cL_law 551 = .ok (.aload_n 2, 1) := by decide +kernel
theorem dL_law_552 : decode cL_law 552 = .ok (.aload_n 0, 1) := by decide +kernel
theorem dL_law_553 : decode cL_law 553 = .ok (.iload_n 3, 1) := by decide +kernel
theorem dL_law_554 : decode cL_law 554 = .ok (.iconst 1, 1) := by decide +kernel
theorem dL_law_555 : decode cL_law 555 = .ok (.iadd, 1) := by decide +kernel
theorem dL_law_556 : decode cL_law 556 = .ok (.iaload, 1) := by decide +kernel
theorem dL_law_557 : decode cL_law 557 = .ok (.aload_n 0, 1) := by decide +kernel
theorem dL_law_558 : decode cL_law 558 = .ok (.iload_n 3, 1) := by decide +kernel
theorem dL_law_559 : decode cL_law 559 = .ok (.iconst 2, 1) := by decide +kernel
theorem dL_law_560 : decode cL_law 560 = .ok (.iadd, 1) := by decide +kernel
theorem dL_law_561 : decode cL_law 561 = .ok (.iaload, 1) := by decide +kernel
theorem dL_law_562 : decode cL_law 562 = .ok (.invokevirtual 81, 3) := by decide +kernel
theorem dL_law_565 : decode cL_law 565 = .ok (.if_icmp .eq 355, 3) := by decide +kernel
theorem dL_law_568 : decode cL_law 568 = .ok (.iconst 0, 1) := by decide +kernel
theorem dL_law_569 : decode cL_law 569 = .ok (.ireturn, 1) := by decide +kernel
theorem dL_law_570 : decode cL_law 570 = .ok (.aload_n 1, 1) := by decide +kernel
theorem dL_law_571 : decode cL_law 571 = .ok (.aload_n 0, 1) := by decide +kernel
theorem dL_law_572 : decode cL_law 572 = .ok (.iload_n 3, 1) := by decide +kernel
theorem dL_law_573 : decode cL_law 573 = .ok (.iconst 1, 1) := by decide +kernel
theorem dL_law_574 : decode cL_law 574 = .ok (.iadd, 1) := by decide +kernel
theorem dL_law_575 : decode cL_law 575 = .ok (.iaload, 1) := by decide +kernel
theorem dL_law_576 : decode cL_law 576 = .ok (.invokevirtual 82, 3) := by decide +kernel
theorem dL_law_579 : decode cL_law 579 = .ok (.aload_n 2, 1) := by decide +kernel
theorem dL_law_580 : decode cL_law 580 = .ok (.aload_n 0, 1) := by decide +kernel
theorem dL_law_581 : decode cL_law 581 = .ok (.iload_n 3, 1) := by decide +kernel
theorem dL_law_582 : decode cL_law 582 = .ok (.iconst 1, 1) := by decide +kernel
theorem dL_law_583 : decode cL_law 583 = .ok (.iadd, 1) := by decide +kernel
theorem dL_law_584 : decode cL_law 584 = .ok (.iaload, 1) := by decide +kernel
theorem dL_law_585 : decode cL_law 585 = .ok (.invokevirtual 85, 3) := by decide +kernel
theorem dL_law_588 : decode cL_law 588 = .ok (.if_icmp .eq 332, 3) := by decide +kernel
theorem dL_law_591 : decode cL_law 591 = .ok (.iconst 0, 1) := by decide +kernel
theorem dL_law_592 : decode cL_law 592 = .ok (.ireturn, 1) := by decide +kernel
theorem dL_law_593 : decode cL_law 593 = .ok (.aload_n 1, 1) := by decide +kernel
theorem dL_law_594 : decode cL_law 594 = .ok (.invokevirtual 86, 3) := by decide +kernel
theorem dL_law_597 : decode cL_law 597 = .ok (.aload_n 2, 1) := by decide +kernel
theorem dL_law_598 : decode cL_law 598 = .ok (.invokevirtual 89, 3) := by decide +kernel
theorem dL_law_601 : decode cL_law 601 = .ok (.if_icmp .eq 319, 3) := by decide +kernel
theorem dL_law_604 : decode cL_law 604 = .ok (.iconst 0, 1) := by decide +kernel
theorem dL_law_605 : decode cL_law 605 = .ok (.ireturn, 1) := by decide +kernel
theorem dL_law_606 : decode cL_law 606 = .ok (.aload_n 1, 1) := by decide +kernel
theorem dL_law_607 : decode cL_law 607 = .ok (.aload_n 0, 1) := by decide +kernel
theorem dL_law_608 : decode cL_law 608 = .ok (.iload_n 3, 1) := by decide +kernel
theorem dL_law_609 : decode cL_law 609 = .ok (.iconst 1, 1) := by decide +kernel
theorem dL_law_610 : decode cL_law 610 = .ok (.iadd, 1) := by decide +kernel
theorem dL_law_611 : decode cL_law 611 = .ok (.iaload, 1) := by decide +kernel
theorem dL_law_612 : decode cL_law 612 = .ok (.invokevirtual 90, 3) := by decide +kernel
theorem dL_law_615 : decode cL_law 615 = .ok (.aload_n 2, 1) := by decide +kernel
theorem dL_law_616 : decode cL_law 616 = .ok (.aload_n 0, 1) := by decide +kernel
theorem dL_law_617 : decode cL_law 617 = .ok (.iload_n 3, 1) := by decide +kernel
theorem dL_law_618 : decode cL_law 618 = .ok (.iconst 1, 1) := by decide +kernel
theorem dL_law_619 : decode cL_law 619 = .ok (.iadd, 1) := by decide +kernel
theorem dL_law_620 : decode cL_law 620 = .ok (.iaload, 1) := by decide +kernel
theorem dL_law_621 : decode cL_law 621 = .ok (.invokevirtual 93, 3) := by decide +kernel
theorem dL_law_624 : decode cL_law 624 = .ok (.if_icmp .eq 296, 3) := by decide +kernel
theorem dL_law_627 : decode cL_law 627 = .ok (.iconst 0, 1) := by decide +kernel
theorem dL_law_628 : decode cL_law 628 = .ok (.ireturn, 1) := by decide +kernel
theorem dL_law_629 : decode cL_law 629 = .ok (.aload_n 1, 1) := by decide +kernel
theorem dL_law_630 : decode cL_law 630 = .ok (.aload_n 0, 1) := by decide +kernel
theorem dL_law_631 : decode cL_law 631 = .ok (.iload_n 3, 1) := by decide +kernel
theorem dL_law_632 : decode cL_law 632 = .ok (.iconst 1, 1) := by decide +kernel
theorem dL_law_633 : decode cL_law 633 = .ok (.iadd, 1) := by decide +kernel
theorem dL_law_634 : decode cL_law 634 = .ok (.iaload, 1) := by decide +kernel
theorem dL_law_635 : decode cL_law 635 = .ok (.invokevirtual 94, 3) := by decide +kernel
theorem dL_law_638 : decode cL_law 638 = .ok (.aload_n 2, 1) := by decide +kernel
theorem dL_law_639 : decode cL_law 639 = .ok (.aload_n 0, 1) := by decide +kernel
theorem dL_law_640 : decode cL_law 640 = .ok (.iload_n 3, 1) := by decide +kernel
theorem dL_law_641 : decode cL_law 641 = .ok (.iconst 1, 1) := by decide +kernel
theorem dL_law_642 : decode cL_law 642 = .ok (.iadd, 1) := by decide +kernel
theorem dL_law_643 : decode cL_law 643 = .ok (.iaload, 1) := by decide +kernel
theorem dL_law_644 : decode cL_law 644 = .ok (.invokevirtual 97, 3) := by decide +kernel
theorem dL_law_647 : decode cL_law 647 = .ok (.if_icmp .eq 273, 3) := by decide +kernel
theorem dL_law_650 : decode cL_law 650 = .ok (.iconst 0, 1) := by decide +kernel
theorem dL_law_651 : decode cL_law 651 = .ok (.ireturn, 1) := by decide +kernel
theorem dL_law_652 : decode cL_law 652 = .ok (.aload_n 1, 1) := by decide +kernel
theorem dL_law_653 : decode cL_law 653 = .ok (.aload_n 0, 1) := by decide +kernel
theorem dL_law_654 : decode cL_law 654 = .ok (.iload_n 3, 1) := by decide +kernel
theorem dL_law_655 : decode cL_law 655 = .ok (.iconst 1, 1) := by decide +kernel
theorem dL_law_656 : decode cL_law 656 = .ok (.iadd, 1) := by decide +kernel
theorem dL_law_657 : decode cL_law 657 = .ok (.iaload, 1) := by decide +kernel
theorem dL_law_658 : decode cL_law 658 = .ok (.aload_n 0, 1) := by decide +kernel
theorem dL_law_659 : decode cL_law 659 = .ok (.iload_n 3, 1) := by decide +kernel
theorem dL_law_660 : decode cL_law 660 = .ok (.iconst 2, 1) := by decide +kernel
theorem dL_law_661 : decode cL_law 661 = .ok (.iadd, 1) := by decide +kernel
theorem dL_law_662 : decode cL_law 662 = .ok (.iaload, 1) := by decide +kernel
theorem dL_law_663 : decode cL_law 663 = .ok (.aload_n 0, 1) := by decide +kernel
theorem dL_law_664 : decode cL_law 664 = .ok (.iload_n 3, 1) := by decide +kernel
theorem dL_law_665 : decode cL_law 665 = .ok (.iconst 3, 1) := by decide +kernel
theorem dL_law_666 : decode cL_law 666 = .ok (.iadd, 1) := by decide +kernel
theorem dL_law_667 : decode cL_law 667 = .ok (.iaload, 1) := by decide +kernel
theorem dL_law_668 : decode cL_law 668 = .ok (.invokevirtual 98, 3) := by decide +kernel
theorem dL_law_671 : decode cL_law 671 = .ok (.aload_n 2, 1) := by decide +kernel
theorem dL_law_672 : decode cL_law 672 = .ok (.aload_n 0, 1) := by decide +kernel
theorem dL_law_673 : decode cL_law 673 = .ok (.iload_n 3, 1) := by decide +kernel
theorem dL_law_674 : decode cL_law 674 = .ok (.iconst 1, 1) := by decide +kernel
theorem dL_law_675 : decode cL_law 675 = .ok (.iadd, 1) := by decide +kernel
theorem dL_law_676 : decode cL_law 676 = .ok (.iaload, 1) := by decide +kernel
theorem dL_law_677 : decode cL_law 677 = .ok (.aload_n 0, 1) := by decide +kernel
theorem dL_law_678 : decode cL_law 678 = .ok (.iload_n 3, 1) := by decide +kernel
theorem dL_law_679 : decode cL_law 679 = .ok (.iconst 2, 1) := by decide +kernel
theorem dL_law_680 : decode cL_law 680 = .ok (.iadd, 1) := by decide +kernel
theorem dL_law_681 : decode cL_law 681 = .ok (.iaload, 1) := by decide +kernel
theorem dL_law_682 : decode cL_law 682 = .ok (.aload_n 0, 1) := by decide +kernel
theorem dL_law_683 : decode cL_law 683 = .ok (.iload_n 3, 1) := by decide +kernel
theorem dL_law_684 : decode cL_law 684 = .ok (.iconst 3, 1) := by decide +kernel
theorem dL_law_685 : decode cL_law 685 = .ok (.iadd, 1) := by decide +kernel
theorem dL_law_686 : decode cL_law 686 = .ok (.iaload, 1) := by decide +kernel
theorem dL_law_687 : decode cL_law 687 = .ok (.invokevirtual 102, 3) := by decide +kernel
theorem dL_law_690 : decode cL_law 690 = .ok (.if_icmp .eq 230, 3) := by decide +kernel
theorem dL_law_693 : decode cL_law 693 = .ok (.iconst 0, 1) := by decide +kernel
theorem dL_law_694 : decode cL_law 694 = .ok (.ireturn, 1) := by decide +kernel
theorem dL_law_695 : decode cL_law 695 = .ok (.aload_n 1, 1) := by decide +kernel
theorem dL_law_696 : decode cL_law 696 = .ok (.aload_n 0, 1) := by decide +kernel
theorem dL_law_697 : decode cL_law 697 = .ok (.iload_n 3, 1) := by decide +kernel
theorem dL_law_698 : decode cL_law 698 = .ok (.iconst 1, 1) := by decide +kernel
theorem dL_law_699 : decode cL_law 699 = .ok (.iadd, 1) := by decide +kernel
theorem dL_law_700 : decode cL_law 700 = .ok (.iaload, 1) := by decide +kernel
theorem dL_law_701 : decode cL_law 701 = .ok (.aload_n 0, 1) := by decide +kernel
theorem dL_law_702 : decode cL_law 702 = .ok (.iload_n 3, 1) := by decide +kernel
theorem dL_law_703 : decode cL_law 703 = .ok (.iconst 2, 1) := by decide +kernel
theorem dL_law_704 : decode cL_law 704 = .ok (.iadd, 1) := by decide +kernel
theorem dL_law_705 : decode cL_law 705 = .ok (.iaload, 1) := by decide +kernel
theorem dL_law_706 : decode cL_law 706 = .ok (.invokevirtual 103, 3) := by decide +kernel
theorem dL_law_709 : decode cL_law 709 = .ok (.aload_n 2, 1) := by decide +kernel
theorem dL_law_710 : decode cL_law 710 = .ok (.aload_n 0, 1) := by decide +kernel
theorem dL_law_711 : decode cL_law 711 = .ok (.iload_n 3, 1) := by decide +kernel
theorem dL_law_712 : decode cL_law 712 = .ok (.iconst 1, 1) := by decide +kernel
theorem dL_law_713 : decode cL_law 713 = .ok (.iadd, 1) := by decide +kernel
theorem dL_law_714 : decode cL_law 714 = .ok (.iaload, 1) := by decide +kernel
theorem dL_law_715 : decode cL_law 715 = .ok (.aload_n 0, 1) := by decide +kernel
theorem dL_law_716 : decode cL_law 716 = .ok (.iload_n 3, 1) := by decide +kernel
theorem dL_law_717 : decode cL_law 717 = .ok (.iconst 2, 1) := by decide +kernel
theorem dL_law_718 : decode cL_law 718 = .ok (.iadd, 1) := by decide +kernel
theorem dL_law_719 : decode cL_law 719 = .ok (.iaload, 1) := by decide +kernel
theorem dL_law_720 : decode cL_law 720 = .ok (.invokevirtual 106, 3) := by decide +kernel
theorem dL_law_723 : decode cL_law 723 = .ok (.if_icmp .eq 197, 3) := by decide +kernel
theorem dL_law_726 : decode cL_law 726 = .ok (.iconst 0, 1) := by decide +kernel
theorem dL_law_727 : decode cL_law 727 = .ok (.ireturn, 1) := by decide +kernel
theorem dL_law_728 : decode cL_law 728 = .ok (.aload_n 1, 1) := by decide +kernel
theorem dL_law_729 : decode cL_law 729 = .ok (.aload_n 0, 1) := by decide +kernel
theorem dL_law_730 : decode cL_law 730 = .ok (.iload_n 3, 1) := by decide +kernel
theorem dL_law_731 : decode cL_law 731 = .ok (.iconst 1, 1) := by decide +kernel
theorem dL_law_732 : decode cL_law 732 = .ok (.iadd, 1) := by decide +kernel
theorem dL_law_733 : decode cL_law 733 = .ok (.iaload, 1) := by decide +kernel
theorem dL_law_734 : decode cL_law 734 = .ok (.aload_n 0, 1) := by decide +kernel
theorem dL_law_735 : decode cL_law 735 = .ok (.iload_n 3, 1) := by decide +kernel
theorem dL_law_736 : decode cL_law 736 = .ok (.iconst 2, 1) := by decide +kernel
theorem dL_law_737 : decode cL_law 737 = .ok (.iadd, 1) := by decide +kernel
theorem dL_law_738 : decode cL_law 738 = .ok (.iaload, 1) := by decide +kernel
theorem dL_law_739 : decode cL_law 739 = .ok (.aload_n 0, 1) := by decide +kernel
theorem dL_law_740 : decode cL_law 740 = .ok (.iload_n 3, 1) := by decide +kernel
theorem dL_law_741 : decode cL_law 741 = .ok (.iconst 3, 1) := by decide +kernel
theorem dL_law_742 : decode cL_law 742 = .ok (.iadd, 1) := by decide +kernel
theorem dL_law_743 : decode cL_law 743 = .ok (.iaload, 1) := by decide +kernel
theorem dL_law_744 : decode cL_law 744 = .ok (.ifCond .eq 7, 3) := by decide +kernel
theorem dL_law_747 : decode cL_law 747 = .ok (.iconst 1, 1) := by decide +kernel
theorem dL_law_748 : decode cL_law 748 = .ok (.goto 4, 3) := by decide +kernel
theorem dL_law_751 : decode cL_law 751 = .ok (.iconst 0, 1) := by decide +kernel
theorem dL_law_752 : decode cL_law 752 = .ok (.invokevirtual 107, 3) := by decide +kernel
theorem dL_law_755 : decode cL_law 755 = .ok (.aload_n 2, 1) := by decide +kernel
theorem dL_law_756 : decode cL_law 756 = .ok (.aload_n 0, 1) := by decide +kernel
theorem dL_law_757 : decode cL_law 757 = .ok (.iload_n 3, 1) := by decide +kernel
theorem dL_law_758 : decode cL_law 758 = .ok (.iconst 1, 1) := by decide +kernel
theorem dL_law_759 : decode cL_law 759 = .ok (.iadd, 1) := by decide +kernel
theorem dL_law_760 : decode cL_law 760 = .ok (.iaload, 1) := by decide +kernel
theorem dL_law_761 : decode cL_law 761 = .ok (.aload_n 0, 1) := by decide +kernel
theorem dL_law_762 : decode cL_law 762 = .ok (.iload_n 3, 1) := by decide +kernel
theorem dL_law_763 : decode cL_law 763 = .ok (.iconst 2, 1) := by decide +kernel
theorem dL_law_764 : decode cL_law 764 = .ok (.iadd, 1) := by decide +kernel
theorem dL_law_765 : decode cL_law 765 = .ok (.iaload, 1) := by decide +kernel
theorem dL_law_766 : decode cL_law 766 = .ok (.aload_n 0, 1) := by decide +kernel
theorem dL_law_767 : decode cL_law 767 = .ok (.iload_n 3, 1) := by decide +kernel
theorem dL_law_768 : decode cL_law 768 = .ok (.iconst 3, 1) := by decide +kernel
theorem dL_law_769 : decode cL_law 769 = .ok (.iadd, 1) := by decide +kernel
theorem dL_law_770 : decode cL_law 770 = .ok (.iaload, 1) := by decide +kernel
theorem dL_law_771 : decode cL_law 771 = .ok (.ifCond .eq 7, 3) := by decide +kernel
theorem dL_law_774 : decode cL_law 774 = .ok (.iconst 1, 1) := by decide +kernel
theorem dL_law_775 : decode cL_law 775 = .ok (.goto 4, 3) := by decide +kernel
theorem dL_law_778 : decode cL_law 778 = .ok (.iconst 0, 1) := by decide +kernel
theorem dL_law_779 : decode cL_law 779 = .ok (.invokevirtual 110, 3) := by decide +kernel
theorem dL_law_782 : decode cL_law 782 = .ok (.if_icmp .eq 138, 3) := by decide +kernel
theorem dL_law_785 : decode cL_law 785 = .ok (.iconst 0, 1) := by decide +kernel
theorem dL_law_786 : decode cL_law 786 = .ok (.ireturn, 1) := by decide +kernel
theorem dL_law_787 : decode cL_law 787 = .ok (.aload_n 1, 1) := by decide +kernel
theorem dL_law_788 : decode cL_law 788 = .ok (.aload_n 0, 1) := by decide +kernel
theorem dL_law_789 : decode cL_law 789 = .ok (.iload_n 3, 1) := by decide +kernel
theorem dL_law_790 : decode cL_law 790 = .ok (.iconst 1, 1) := by decide +kernel
theorem dL_law_791 : decode cL_law 791 = .ok (.iadd, 1) := by decide +kernel
theorem dL_law_792 : decode cL_law 792 = .ok (.iaload, 1) := by decide +kernel
theorem dL_law_793 : decode cL_law 793 = .ok (.i2l, 1) := by decide +kernel
theorem dL_law_794 : decode cL_law 794 = .ok (.bipush 32, 2) := by decide +kernel
theorem dL_law_796 : decode cL_law 796 = .ok (.lshl, 1) := by decide +kernel
theorem dL_law_797 : decode cL_law 797 = .ok (.aload_n 0, 1) := by decide +kernel
theorem dL_law_798 : decode cL_law 798 = .ok (.iload_n 3, 1) := by decide +kernel
theorem dL_law_799 : decode cL_law 799 = .ok (.iconst 2, 1) := by decide +kernel
theorem dL_law_800 : decode cL_law 800 = .ok (.iadd, 1) := by decide +kernel
theorem dL_law_801 : decode cL_law 801 = .ok (.iaload, 1) := by decide +kernel
theorem dL_law_802 : decode cL_law 802 = .ok (.i2l, 1) := by decide +kernel
theorem dL_law_803 : decode cL_law 803 = .ok (.ldc2_w 111, 3) := by decide +kernel
theorem dL_law_806 : decode cL_law 806 = .ok (.land, 1) := by decide +kernel
theorem dL_law_807 : decode cL_law 807 = .ok (.lor, 1) := by decide +kernel
theorem dL_law_808 : decode cL_law 808 = .ok (.invokevirtual 113, 3) := by decide +kernel
theorem dL_law_811 : decode cL_law 811 = .ok (.aload_n 2, 1) := by decide +kernel
theorem dL_law_812 : decode cL_law 812 = .ok (.aload_n 0, 1) := by decide +kernel
theorem dL_law_813 : decode cL_law 813 = .ok (.iload_n 3, 1) := by decide +kernel
theorem dL_law_814 : decode cL_law 814 = .ok (.iconst 1, 1) := by decide +kernel
theorem dL_law_815 : decode cL_law 815 = .ok (.iadd, 1) := by decide +kernel
theorem dL_law_816 : decode cL_law 816 = .ok (.iaload, 1) := by decide +kernel
theorem dL_law_817 : decode cL_law 817 = .ok (.i2l, 1) := by decide +kernel
theorem dL_law_818 : decode cL_law 818 = .ok (.bipush 32, 2) := by decide +kernel
theorem dL_law_820 : decode cL_law 820 = .ok (.lshl, 1) := by decide +kernel
theorem dL_law_821 : decode cL_law 821 = .ok (.aload_n 0, 1) := by decide +kernel
theorem dL_law_822 : decode cL_law 822 = .ok (.iload_n 3, 1) := by decide +kernel
theorem dL_law_823 : decode cL_law 823 = .ok (.iconst 2, 1) := by decide +kernel
theorem dL_law_824 : decode cL_law 824 = .ok (.iadd, 1) := by decide +kernel
theorem dL_law_825 : decode cL_law 825 = .ok (.iaload, 1) := by decide +kernel
theorem dL_law_826 : decode cL_law 826 = .ok (.i2l, 1) := by decide +kernel
theorem dL_law_827 : decode cL_law 827 = .ok (.ldc2_w 111, 3) := by decide +kernel
theorem dL_law_830 : decode cL_law 830 = .ok (.land, 1) := by decide +kernel
theorem dL_law_831 : decode cL_law 831 = .ok (.lor, 1) := by decide +kernel
theorem dL_law_832 : decode cL_law 832 = .ok (.invokevirtual 117, 3) := by decide +kernel
theorem dL_law_835 : decode cL_law 835 = .ok (.lcmp, 1) := by decide +kernel
theorem dL_law_836 : decode cL_law 836 = .ok (.ifCond .eq 84, 3) := by decide +kernel
theorem dL_law_839 : decode cL_law 839 = .ok (.iconst 0, 1) := by decide +kernel
theorem dL_law_840 : decode cL_law 840 = .ok (.ireturn, 1) := by decide +kernel
theorem dL_law_841 : decode cL_law 841 = .ok (.aload_n 1, 1) := by decide +kernel
theorem dL_law_842 : decode cL_law 842 = .ok (.aload_n 0, 1) := by decide +kernel
theorem dL_law_843 : decode cL_law 843 = .ok (.iload_n 3, 1) := by decide +kernel
theorem dL_law_844 : decode cL_law 844 = .ok (.iconst 1, 1) := by decide +kernel
theorem dL_law_845 : decode cL_law 845 = .ok (.iadd, 1) := by decide +kernel
theorem dL_law_846 : decode cL_law 846 = .ok (.iaload, 1) := by decide +kernel
theorem dL_law_847 : decode cL_law 847 = .ok (.aload_n 0, 1) := by decide +kernel
theorem dL_law_848 : decode cL_law 848 = .ok (.iload_n 3, 1) := by decide +kernel
theorem dL_law_849 : decode cL_law 849 = .ok (.iconst 2, 1) := by decide +kernel
theorem dL_law_850 : decode cL_law 850 = .ok (.iadd, 1) := by decide +kernel
theorem dL_law_851 : decode cL_law 851 = .ok (.iaload, 1) := by decide +kernel
theorem dL_law_852 : decode cL_law 852 = .ok (.invokevirtual 118, 3) := by decide +kernel
theorem dL_law_855 : decode cL_law 855 = .ok (.aload_n 2, 1) := by decide +kernel
theorem dL_law_856 : decode cL_law 856 = .ok (.aload_n 0, 1) := by decide +kernel
theorem dL_law_857 : decode cL_law 857 = .ok (.iload_n 3, 1) := by decide +kernel
theorem dL_law_858 : decode cL_law 858 = .ok (.iconst 1, 1) := by decide +kernel
theorem dL_law_859 : decode cL_law 859 = .ok (.iadd, 1) := by decide +kernel
theorem dL_law_860 : decode cL_law 860 = .ok (.iaload, 1) := by decide +kernel
theorem dL_law_861 : decode cL_law 861 = .ok (.aload_n 0, 1) := by decide +kernel
theorem dL_law_862 : decode cL_law 862 = .ok (.iload_n 3, 1) := by decide +kernel
theorem dL_law_863 : decode cL_law 863 = .ok (.iconst 2, 1) := by decide +kernel
theorem dL_law_864 : decode cL_law 864 = .ok (.iadd, 1) := by decide +kernel
theorem dL_law_865 : decode cL_law 865 = .ok (.iaload, 1) := by decide +kernel
theorem dL_law_866 : decode cL_law 866 = .ok (.invokevirtual 121, 3) := by decide +kernel
theorem dL_law_869 : decode cL_law 869 = .ok (.if_icmp .eq 51, 3) := by decide +kernel
theorem dL_law_872 : decode cL_law 872 = .ok (.iconst 0, 1) := by decide +kernel
theorem dL_law_873 : decode cL_law 873 = .ok (.ireturn, 1) := by decide +kernel
theorem dL_law_874 : decode cL_law 874 = .ok (.aload_n 1, 1) := by decide +kernel
theorem dL_law_875 : decode cL_law 875 = .ok (.aload_n 0, 1) := by decide +kernel
theorem dL_law_876 : decode cL_law 876 = .ok (.iload_n 3, 1) := by decide +kernel
theorem dL_law_877 : decode cL_law 877 = .ok (.iconst 1, 1) := by decide +kernel
theorem dL_law_878 : decode cL_law 878 = .ok (.iadd, 1) := by decide +kernel
theorem dL_law_879 : decode cL_law 879 = .ok (.iaload, 1) := by decide +kernel
theorem dL_law_880 : decode cL_law 880 = .ok (.invokevirtual 122, 3) := by decide +kernel
theorem dL_law_883 : decode cL_law 883 = .ok (.aload_n 2, 1) := by decide +kernel
theorem dL_law_884 : decode cL_law 884 = .ok (.aload_n 0, 1) := by decide +kernel
theorem dL_law_885 : decode cL_law 885 = .ok (.iload_n 3, 1) := by decide +kernel
theorem dL_law_886 : decode cL_law 886 = .ok (.iconst 1, 1) := by decide +kernel
theorem dL_law_887 : decode cL_law 887 = .ok (.iadd, 1) := by decide +kernel
theorem dL_law_888 : decode cL_law 888 = .ok (.iaload, 1) := by decide +kernel
theorem dL_law_889 : decode cL_law 889 = .ok (.invokevirtual 125, 3) := by decide +kernel
theorem dL_law_892 : decode cL_law 892 = .ok (.if_icmp .eq 28, 3) := by decide +kernel
theorem dL_law_895 : decode cL_law 895 = .ok (.iconst 0, 1) := by decide +kernel
theorem dL_law_896 : decode cL_law 896 = .ok (.ireturn, 1) := by decide +kernel
theorem dL_law_897 : decode cL_law 897 = .ok (.aload_n 1, 1) := by decide +kernel
theorem dL_law_898 : decode cL_law 898 = .ok (.aload_n 0, 1) := by decide +kernel
theorem dL_law_899 : decode cL_law 899 = .ok (.iload_n 3, 1) := by decide +kernel
theorem dL_law_900 : decode cL_law 900 = .ok (.iconst 1, 1) := by decide +kernel
theorem dL_law_901 : decode cL_law 901 = .ok (.iadd, 1) := by decide +kernel
theorem dL_law_902 : decode cL_law 902 = .ok (.iaload, 1) := by decide +kernel
theorem dL_law_903 : decode cL_law 903 = .ok (.invokevirtual 126, 3) := by decide +kernel
theorem dL_law_906 : decode cL_law 906 = .ok (.aload_n 2, 1) := by decide +kernel
theorem dL_law_907 : decode cL_law 907 = .ok (.aload_n 0, 1) := by decide +kernel
theorem dL_law_908 : decode cL_law 908 = .ok (.iload_n 3, 1) := by decide +kernel
theorem dL_law_909 : decode cL_law 909 = .ok (.iconst 1, 1) := by decide +kernel
theorem dL_law_910 : decode cL_law 910 = .ok (.iadd, 1) := by decide +kernel
theorem dL_law_911 : decode cL_law 911 = .ok (.iaload, 1) := by decide +kernel
theorem dL_law_912 : decode cL_law 912 = .ok (.invokevirtual 129, 3) := by decide +kernel
theorem dL_law_915 : decode cL_law 915 = .ok (.if_icmp .eq 5, 3) := by decide +kernel
theorem dL_law_918 : decode cL_law 918 = .ok (.iconst 0, 1) := by decide +kernel
theorem dL_law_919 : decode cL_law 919 = .ok (.ireturn, 1) := by decide +kernel
theorem dL_law_920 : decode cL_law 920 = .ok (.iinc 3 5, 3) := by decide +kernel
theorem dL_law_923 : decode cL_law 923 = .ok (.goto (-905), 3) := by decide +kernel
theorem dL_law_926 : decode cL_law 926 = .ok (.iconst 1, 1) := by decide +kernel
theorem dL_law_927 : decode cL_law 927 = .ok (.ireturn, 1) := by decide +kernel
