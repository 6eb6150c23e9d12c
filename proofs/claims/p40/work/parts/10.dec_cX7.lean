theorem dX7_init_0 : decode cX7_init 0 = .ok (.aload_n 0, 1) := by decide +kernel
theorem dX7_init_1 : decode cX7_init 1 = .ok (.invokespecial 3, 3) := by decide +kernel
theorem dX7_init_4 : decode cX7_init 4 = .ok (.aload_n 0, 1) := by decide +kernel
theorem dX7_init_5 : decode cX7_init 5 = .ok (.bipush 64, 2) := by decide +kernel
theorem dX7_init_7 : decode cX7_init 7 = .ok (.newarray .int, 2) := by decide +kernel
theorem dX7_init_9 : decode cX7_init 9 = .ok (.putfield 11, 3) := by decide +kernel
theorem dX7_init_12 : decode cX7_init 12 = .ok (.return_, 1) := by decide +kernel
theorem dX7_get_0 : decode cX7_get 0 = .ok (.iload_n 1, 1) := by decide +kernel
theorem dX7_get_1 : decode cX7_get 1 = .ok (.iconst 4, 1) := by decide +kernel
theorem dX7_get_2 : decode cX7_get 2 = .ok (.imul, 1) := by decide +kernel
theorem dX7_get_3 : decode cX7_get 3 = .ok (.iload_n 2, 1) := by decide +kernel
theorem dX7_get_4 : decode cX7_get 4 = .ok (.iadd, 1) := by decide +kernel
theorem dX7_get_5 : decode cX7_get 5 = .ok (.istore_n 3, 1) := by decide +kernel
theorem dX7_get_6 : decode cX7_get 6 = .ok (.iload_n 1, 1) := by decide +kernel
theorem dX7_get_7 : decode cX7_get 7 = .ok (.ifCond .lt 29, 3) := by decide +kernel
theorem dX7_get_10 : decode cX7_get 10 = .ok (.iload_n 1, 1) := by decide +kernel
theorem dX7_get_11 : decode cX7_get 11 = .ok (.aload_n 0, 1) := by decide +kernel
theorem dX7_get_12 : decode cX7_get 12 = .ok (.getfield 15, 3) := by decide +kernel
theorem dX7_get_15 : decode cX7_get 15 = .ok (.if_icmp .ge 21, 3) := by decide +kernel
theorem dX7_get_18 : decode cX7_get 18 = .ok (.iload_n 2, 1) := by decide +kernel
theorem dX7_get_19 : decode cX7_get 19 = .ok (.ifCond .lt 17, 3) := by decide +kernel
theorem dX7_get_22 : decode cX7_get 22 = .ok (.iload_n 2, 1) := by decide +kernel
theorem dX7_get_23 : decode cX7_get 23 = .ok (.iconst 4, 1) := by decide +kernel
theorem dX7_get_24 : decode cX7_get 24 = .ok (.if_icmp .ge 12, 3) := by decide +kernel
theorem dX7_get_27 : decode cX7_get 27 = .ok (.iload_n 3, 1) := by decide +kernel
theorem dX7_get_28 : decode cX7_get 28 = .ok (.aload_n 0, 1) := by decide +kernel
theorem dX7_get_29 : decode cX7_get 29 = .ok (.getfield 11, 3) := by decide +kernel
theorem dX7_get_32 : decode cX7_get 32 = .ok (.arraylength, 1) := by decide +kernel
theorem dX7_get_33 : decode cX7_get 33 = .ok (.if_icmp .lt 5, 3) := by decide +kernel
theorem dX7_get_36 : decode cX7_get 36 = .ok (.iconst (-1), 1) := by decide +kernel
theorem dX7_get_37 : decode cX7_get 37 = .ok (.ireturn, 1) := by decide +kernel
theorem dX7_get_38 : decode cX7_get 38 = .ok (.aload_n 0, 1) := by decide +kernel
theorem dX7_get_39 : decode cX7_get 39 = .ok (.getfield 11, 3) := by decide +kernel
theorem dX7_get_42 : decode cX7_get 42 = .ok (.iload_n 3, 1) := by decide +kernel
theorem dX7_get_43 : decode cX7_get 43 = .ok (.iaload, 1) := by decide +kernel
theorem dX7_get_44 : decode cX7_get 44 = .ok (.ireturn, 1) := by decide +kernel
theorem dX7_set_0 : decode cX7_set 0 = .ok (.iload_n 1, 1) := by decide +kernel
theorem dX7_set_1 : decode cX7_set 1 = .ok (.iconst 4, 1) := by decide +kernel
theorem dX7_set_2 : decode cX7_set 2 = .ok (.imul, 1) := by decide +kernel
theorem dX7_set_3 : decode cX7_set 3 = .ok (.iload_n 2, 1) := by decide +kernel
theorem dX7_set_4 : decode cX7_set 4 = .ok (.iadd, 1) := by decide +kernel
theorem dX7_set_5 : decode cX7_set 5 = .ok (.istore 4, 2) := by decide +kernel
theorem dX7_set_7 : decode cX7_set 7 = .ok (.iload_n 1, 1) := by decide +kernel
theorem dX7_set_8 : decode cX7_set 8 = .ok (.ifCond .lt 38, 3) := by decide +kernel
theorem dX7_set_11 : decode cX7_set 11 = .ok (.iload_n 1, 1) := by decide +kernel
theorem dX7_set_12 : decode cX7_set 12 = .ok (.aload_n 0, 1) := by decide +kernel
theorem dX7_set_13 : decode cX7_set 13 = .ok (.getfield 15, 3) := by decide +kernel
theorem dX7_set_16 : decode cX7_set 16 = .ok (.if_icmp .ge 30, 3) := by decide +kernel
theorem dX7_set_19 : decode cX7_set 19 = .ok (.iload_n 2, 1) := by decide +kernel
theorem dX7_set_20 : decode cX7_set 20 = .ok (.ifCond .lt 26, 3) := by decide +kernel
theorem dX7_set_23 : decode cX7_set 23 = .ok (.iload_n 2, 1) := by decide +kernel
theorem dX7_set_24 : decode cX7_set 24 = .ok (.iconst 4, 1) := by decide +kernel
theorem dX7_set_25 : decode cX7_set 25 = .ok (.if_icmp .ge 21, 3) := by decide +kernel
theorem dX7_set_28 : decode cX7_set 28 = .ok (.iload 4, 2) := by decide +kernel
theorem dX7_set_30 : decode cX7_set 30 = .ok (.aload_n 0, 1) := by decide +kernel
theorem dX7_set_31 : decode cX7_set 31 = .ok (.getfield 11, 3) := by decide +kernel
theorem dX7_set_34 : decode cX7_set 34 = .ok (.arraylength, 1) := by decide +kernel
theorem dX7_set_35 : decode cX7_set 35 = .ok (.if_icmp .ge 11, 3) := by decide +kernel
theorem dX7_set_38 : decode cX7_set 38 = .ok (.aload_n 0, 1) := by decide +kernel
theorem dX7_set_39 : decode cX7_set 39 = .ok (.getfield 11, 3) := by decide +kernel
theorem dX7_set_42 : decode cX7_set 42 = .ok (.iload 4, 2) := by decide +kernel
theorem dX7_set_44 : decode cX7_set 44 = .ok (.iload_n 3, 1) := by decide +kernel
theorem dX7_set_45 : decode cX7_set 45 = .ok (.iastore, 1) := by decide +kernel
theorem dX7_set_46 : decode cX7_set 46 = .ok (.return_, 1) := by decide +kernel
theorem dX7_add_0 : decode cX7_add 0 = .ok (.aload_n 0, 1) := by decide +kernel
theorem dX7_add_1 : decode cX7_add 1 = .ok (.aload_n 0, 1) := by decide +kernel
theorem dX7_add_2 : decode cX7_add 2 = .ok (.getfield 15, 3) := by decide +kernel
theorem dX7_add_5 : decode cX7_add 5 = .ok (.iload_n 1, 1) := by decide +kernel
theorem dX7_add_6 : decode cX7_add 6 = .ok (.iload_n 2, 1) := by decide +kernel
theorem dX7_add_7 : decode cX7_add 7 = .ok (.iload_n 3, 1) := by decide +kernel
theorem dX7_add_8 : decode cX7_add 8 = .ok (.iload 4, 2) := by decide +kernel
theorem dX7_add_10 : decode cX7_add 10 = .ok (.invokevirtual 19, 3) := by decide +kernel
theorem dX7_add_13 : decode cX7_add 13 = .ok (.return_, 1) := by decide +kernel
theorem dX7_insert_0 : decode cX7_insert 0 = .ok (.aload_n 0, 1) := by decide +kernel
theorem dX7_insert_1 : decode cX7_insert 1 = .ok (.getfield 15, 3) := by decide +kernel
theorem dX7_insert_4 : decode cX7_insert 4 = .ok (.iconst 4, 1) := by decide +kernel
theorem dX7_insert_5 : decode cX7_insert 5 = .ok (.imul, 1) := by decide +kernel
theorem dX7_insert_6 : decode cX7_insert 6 = .ok (.istore 6, 2) := by decide +kernel
theorem dX7_insert_8 : decode cX7_insert 8 = .ok (.iload_n 1, 1) := by decide +kernel
theorem dX7_insert_9 : decode cX7_insert 9 = .ok (.ifCond .lt 20, 3) := by decide +kernel
theorem dX7_insert_12 : decode cX7_insert 12 = .ok (.iload_n 1, 1) := by decide +kernel
theorem dX7_insert_13 : decode cX7_insert 13 = .ok (.aload_n 0, 1) := by decide +kernel
theorem dX7_insert_14 : decode cX7_insert 14 = .ok (.getfield 15, 3) := by decide +kernel
theorem dX7_insert_17 : decode cX7_insert 17 = .ok (.if_icmp .gt 12, 3) := by decide +kernel
theorem dX7_insert_20 : decode cX7_insert 20 = .ok (.iload 6, 2) := by decide +kernel
theorem dX7_insert_22 : decode cX7_insert 22 = .ok (.iconst 4, 1) := by decide +kernel
theorem dX7_insert_23 : decode cX7_insert 23 = .ok (.iadd, 1) := by decide +kernel
theorem dX7_insert_24 : decode cX7_insert 24 = .ok (.ldc 23, 2) := by decide +kernel
theorem dX7_insert_26 : decode cX7_insert 26 = .ok (.if_icmp .le 4, 3) := by decide +kernel
theorem dX7_insert_29 : decode cX7_insert 29 = .ok (.return_, 1) := by decide +kernel
theorem dX7_insert_30 : decode cX7_insert 30 = .ok (.iload 6, 2) := by decide +kernel
theorem dX7_insert_32 : decode cX7_insert 32 = .ok (.iconst 4, 1) := by decide +kernel
theorem dX7_insert_33 : decode cX7_insert 33 = .ok (.iadd, 1) := by decide +kernel
theorem dX7_insert_34 : decode cX7_insert 34 = .ok (.aload_n 0, 1) := by decide +kernel
theorem dX7_insert_35 : decode cX7_insert 35 = .ok (.getfield 11, 3) := by decide +kernel
theorem dX7_insert_38 : decode cX7_insert 38 = .ok (.arraylength, 1) := by decide +kernel
theorem dX7_insert_39 : decode cX7_insert 39 = .ok (.if_icmp .le 20, 3) := by decide +kernel
theorem dX7_insert_42 : decode cX7_insert 42 = .ok (.aload_n 0, 1) := by decide +kernel
theorem dX7_insert_43 : decode cX7_insert 43 = .ok (.aload_n 0, 1) := by decide +kernel
theorem dX7_insert_44 : decode cX7_insert 44 = .ok (.getfield 11, 3) := by decide +kernel
theorem dX7_insert_47 : decode cX7_insert 47 = .ok (.iconst 2, 1) := by decide +kernel
theorem dX7_insert_48 : decode cX7_insert 48 = .ok (.iload 6, 2) := by decide +kernel
theorem dX7_insert_50 : decode cX7_insert 50 = .ok (.iconst 4, 1) := by decide +kernel
theorem dX7_insert_51 : decode cX7_insert 51 = .ok (.iadd, 1) := by decide +kernel
theorem dX7_insert_52 : decode cX7_insert 52 = .ok (.imul, 1) := by decide +kernel
theorem dX7_insert_53 : decode cX7_insert 53 = .ok (.invokestatic 24, 3) := by decide +kernel
theorem dX7_insert_56 : decode cX7_insert 56 = .ok (.putfield 11, 3) := by decide +kernel
theorem dX7_insert_59 : decode cX7_insert 59 = .ok (.iload_n 1, 1) := by decide +kernel
theorem dX7_insert_60 : decode cX7_insert 60 = .ok (.iconst 4, 1) := by decide +kernel
theorem dX7_insert_61 : decode cX7_insert 61 = .ok (.imul, 1) := by decide +kernel
theorem dX7_insert_62 : decode cX7_insert 62 = .ok (.istore 7, 2) := by decide +kernel
theorem dX7_insert_64 : decode cX7_insert 64 = .ok (.aload_n 0, 1) := by decide +kernel
theorem dX7_insert_65 : decode cX7_insert 65 = .ok (.getfield 11, 3) := by decide +kernel
theorem dX7_insert_68 : decode cX7_insert 68 = .ok (.iload 7, 2) := by decide +kernel
theorem dX7_insert_70 : decode cX7_insert 70 = .ok (.aload_n 0, 1) := by decide +kernel
theorem dX7_insert_71 : decode cX7_insert 71 = .ok (.getfield 11, 3) := by decide +kernel
theorem dX7_insert_74 : decode cX7_insert 74 = .ok (.iload 7, 2) := by decide +kernel
theorem dX7_insert_76 : decode cX7_insert 76 = .ok (.iconst 4, 1) := by decide +kernel
theorem dX7_insert_77 : decode cX7_insert 77 = .ok (.iadd, 1) := by decide +kernel
theorem dX7_insert_78 : decode cX7_insert 78 = .ok (.iload 6, 2) := by decide +kernel
theorem dX7_insert_80 : decode cX7_insert 80 = .ok (.iload 7, 2) := by decide +kernel
theorem dX7_insert_82 : decode cX7_insert 82 = .ok (.isub, 1) := by decide +kernel
theorem dX7_insert_83 : decode cX7_insert 83 = .ok (.invokestatic 30, 3) := by decide +kernel
theorem dX7_insert_86 : decode cX7_insert 86 = .ok (.aload_n 0, 1) := by decide +kernel
theorem dX7_insert_87 : decode cX7_insert 87 = .ok (.getfield 11, 3) := by decide +kernel
theorem dX7_insert_90 : decode cX7_insert 90 = .ok (.iload 7, 2) := by decide +kernel
theorem dX7_insert_92 : decode cX7_insert 92 = .ok (.iload_n 2, 1) := by decide +kernel
theorem dX7_insert_93 : decode cX7_insert 93 = .ok (.iastore, 1) := by decide +kernel
theorem dX7_insert_94 : decode cX7_insert 94 = .ok (.aload_n 0, 1) := by decide +kernel
theorem dX7_insert_95 : decode cX7_insert 95 = .ok (.getfield 11, 3) := by decide +kernel
theorem dX7_insert_98 : decode cX7_insert 98 = .ok (.iload 7, 2) := by decide +kernel
theorem dX7_insert_100 : decode cX7_insert 100 = .ok (.iconst 1, 1) := by decide +kernel
theorem dX7_insert_101 : decode cX7_insert 101 = .ok (.iadd, 1) := by decide +kernel
theorem dX7_insert_102 : decode cX7_insert 102 = .ok (.iload_n 3, 1) := by decide +kernel
theorem dX7_insert_103 : decode cX7_insert 103 = .ok (.iastore, 1) := by decide +kernel
theorem dX7_insert_104 : decode cX7_insert 104 = .ok (.aload_n 0, 1) := by decide +kernel
theorem dX7_insert_105 : decode cX7_insert 105 = .ok (.getfield 11, 3) := by decide +kernel
theorem dX7_insert_108 : decode cX7_insert 108 = .ok (.iload 7, 2) := by decide +kernel
theorem dX7_insert_110 : decode cX7_insert 110 = .ok (.iconst 2, 1) := by decide +kernel
theorem dX7_insert_111 : decode cX7_insert 111 = .ok (.iadd, 1) := by decide +kernel
theorem dX7_insert_112 : decode cX7_insert 112 = .ok (.iload 4, 2) := by decide +kernel
theorem dX7_insert_114 : decode cX7_insert 114 = .ok (.iastore, 1) := by decide +kernel
theorem dX7_insert_115 : decode cX7_insert 115 = .ok (.aload_n 0, 1) := by decide +kernel
theorem dX7_insert_116 : decode cX7_insert 116 = .ok (.getfield 11, 3) := by decide +kernel
theorem dX7_insert_119 : decode cX7_insert 119 = .ok (.iload 7, 2) := by decide +kernel
theorem dX7_insert_121 : decode cX7_insert 121 = .ok (.iconst 3, 1) := by decide +kernel
theorem dX7_insert_122 : decode cX7_insert 122 = .ok (.iadd, 1) := by decide +kernel
theorem dX7_insert_123 : decode cX7_insert 123 = .ok (.iload 5, 2) := by decide +kernel
theorem dX7_insert_125 : decode cX7_insert 125 = .ok (.iastore, 1) := by decide +kernel
theorem dX7_insert_126 : decode cX7_insert 126 = .ok (.aload_n 0, 1) := by decide +kernel
theorem dX7_insert_127 : decode cX7_insert 127 = .ok (.dup, 1) := by decide +kernel
theorem dX7_insert_128 : decode cX7_insert 128 = .ok (.getfield 15, 3) := by decide +kernel
theorem dX7_insert_131 : decode cX7_insert 131 = .ok (.iconst 1, 1) := by decide +kernel
theorem dX7_insert_132 : decode cX7_insert 132 = .ok (.iadd, 1) := by decide +kernel
theorem dX7_insert_133 : decode cX7_insert 133 = .ok (.putfield 15, 3) := by decide +kernel
theorem dX7_insert_136 : decode cX7_insert 136 = .ok (.return_, 1) := by decide +kernel
theorem dX7_remove_0 : decode cX7_remove 0 = .ok (.aload_n 0, 1) := by decide +kernel
theorem dX7_remove_1 : decode cX7_remove 1 = .ok (.getfield 15, 3) := by decide +kernel
theorem dX7_remove_4 : decode cX7_remove 4 = .ok (.iconst 4, 1) := by decide +kernel
theorem dX7_remove_5 : decode cX7_remove 5 = .ok (.imul, 1) := by decide +kernel
theorem dX7_remove_6 : decode cX7_remove 6 = .ok (.istore_n 2, 1) := by decide +kernel
theorem dX7_remove_7 : decode cX7_remove 7 = .ok (.iload_n 1, 1) := by decide +kernel
theorem dX7_remove_8 : decode cX7_remove 8 = .ok (.ifCond .lt 20, 3) := by decide +kernel
theorem dX7_remove_11 : decode cX7_remove 11 = .ok (.iload_n 1, 1) := by decide +kernel
theorem dX7_remove_12 : decode cX7_remove 12 = .ok (.aload_n 0, 1) := by decide +kernel
theorem dX7_remove_13 : decode cX7_remove 13 = .ok (.getfield 15, 3) := by decide +kernel
theorem dX7_remove_16 : decode cX7_remove 16 = .ok (.if_icmp .ge 12, 3) := by decide +kernel
theorem dX7_remove_19 : decode cX7_remove 19 = .ok (.iload_n 2, 1) := by decide +kernel
theorem dX7_remove_20 : decode cX7_remove 20 = .ok (.aload_n 0, 1) := by decide +kernel
theorem dX7_remove_21 : decode cX7_remove 21 = .ok (.getfield 11, 3) := by decide +kernel
theorem dX7_remove_24 : decode cX7_remove 24 = .ok (.arraylength, 1) := by decide +kernel
theorem dX7_remove_25 : decode cX7_remove 25 = .ok (.if_icmp .le 4, 3) := by decide +kernel
theorem dX7_remove_28 : decode cX7_remove 28 = .ok (.return_, 1) := by decide +kernel
theorem dX7_remove_29 : decode cX7_remove 29 = .ok (.iload_n 1, 1) := by decide +kernel
theorem dX7_remove_30 : decode cX7_remove 30 = .ok (.iconst 1, 1) := by decide +kernel
theorem dX7_remove_31 : decode cX7_remove 31 = .ok (.iadd, 1) := by decide +kernel
theorem dX7_remove_32 : decode cX7_remove 32 = .ok (.iconst 4, 1) := by decide +kernel
theorem dX7_remove_33 : decode cX7_remove 33 = .ok (.imul, 1) := by decide +kernel
theorem dX7_remove_34 : decode cX7_remove 34 = .ok (.istore_n 3, 1) := by decide +kernel
theorem dX7_remove_35 : decode cX7_remove 35 = .ok (.aload_n 0, 1) := by decide +kernel
theorem dX7_remove_36 : decode cX7_remove 36 = .ok (.getfield 11, 3) := by decide +kernel
theorem dX7_remove_39 : decode cX7_remove 39 = .ok (.iload_n 3, 1) := by decide +kernel
theorem dX7_remove_40 : decode cX7_remove 40 = .ok (.aload_n 0, 1) := by decide +kernel
theorem dX7_remove_41 : decode cX7_remove 41 = .ok (.getfield 11, 3) := by decide +kernel
theorem dX7_remove_44 : decode cX7_remove 44 = .ok (.iload_n 3, 1) := by decide +kernel
theorem dX7_remove_45 : decode cX7_remove 45 = .ok (.iconst 4, 1) := by decide +kernel
theorem dX7_remove_46 : decode cX7_remove 46 = .ok (.isub, 1) := by decide +kernel
theorem dX7_remove_47 : decode cX7_remove 47 = .ok (.iload_n 2, 1) := by decide +kernel
theorem dX7_remove_48 : decode cX7_remove 48 = .ok (.iload_n 3, 1) := by decide +kernel
theorem dX7_remove_49 : decode cX7_remove 49 = .ok (.isub, 1) := by decide +kernel
theorem dX7_remove_50 : decode cX7_remove 50 = .ok (.invokestatic 30, 3) := by decide +kernel
theorem dX7_remove_53 : decode cX7_remove 53 = .ok (.aload_n 0, 1) := by decide +kernel
theorem dX7_remove_54 : decode cX7_remove 54 = .ok (.dup, 1) := by decide +kernel
theorem dX7_remove_55 : decode cX7_remove 55 = .ok (.getfield 15, 3) := by decide +kernel
theorem dX7_remove_58 : decode cX7_remove 58 = .ok (.iconst 1, 1) := by decide +kernel
theorem dX7_remove_59 : decode cX7_remove 59 = .ok (.isub, 1) := by decide +kernel
theorem dX7_remove_60 : decode cX7_remove 60 = .ok (.putfield 15, 3) := by decide +kernel
theorem dX7_remove_63 : decode cX7_remove 63 = .ok (.return_, 1) := by decide +kernel
theorem dX7_clear_0 : decode cX7_clear 0 = .ok (.aload_n 0, 1) := by decide +kernel
theorem dX7_clear_1 : decode cX7_clear 1 = .ok (.iconst 0, 1) := by decide +kernel
theorem dX7_clear_2 : decode cX7_clear 2 = .ok (.putfield 15, 3) := by decide +kernel
theorem dX7_clear_5 : decode cX7_clear 5 = .ok (.return_, 1) := by decide +kernel
