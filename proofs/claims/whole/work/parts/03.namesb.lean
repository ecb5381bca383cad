theorem dX3_init_0 : decode cX3_init 0 = .ok (.aload_n 0, 1) := by decide +kernel
theorem dX3_init_1 : decode cX3_init 1 = .ok (.invokespecial 1, 3) := by decide +kernel
theorem dX3_init_4 : decode cX3_init 4 = .ok (.aload_n 0, 1) := by decide +kernel
theorem dX3_init_5 : decode cX3_init 5 = .ok (.sipush 192, 3) := by decide +kernel
theorem dX3_init_8 : decode cX3_init 8 = .ok (.newarray .int, 2) := by decide +kernel
theorem dX3_init_10 : decode cX3_init 10 = .ok (.putfield 7, 3) := by decide +kernel
theorem dX3_init_13 : decode cX3_init 13 = .ok (.aload_n 0, 1) := by decide +kernel
theorem dX3_init_14 : decode cX3_init 14 = .ok (.sipush 192, 3) := by decide +kernel
theorem dX3_init_17 : decode cX3_init 17 = .ok (.newarray .int, 2) := by decide +kernel
theorem dX3_init_19 : decode cX3_init 19 = .ok (.putfield 13, 3) := by decide +kernel
theorem dX3_init_22 : decode cX3_init 22 = .ok (.aload_n 0, 1) := by decide +kernel
theorem dX3_init_23 : decode cX3_init 23 = .ok (.sipush 192, 3) := by decide +kernel
theorem dX3_init_26 : decode cX3_init 26 = .ok (.newarray .int, 2) := by decide +kernel
theorem dX3_init_28 : decode cX3_init 28 = .ok (.putfield 16, 3) := by decide +kernel
theorem dX3_init_31 : decode cX3_init 31 = .ok (.aload_n 0, 1) := by decide +kernel
theorem dX3_init_32 : decode cX3_init 32 = .ok (.bipush 6, 2) := by decide +kernel
theorem dX3_init_34 : decode cX3_init 34 = .ok (.newarray .int, 2) := by decide +kernel
theorem dX3_init_36 : decode cX3_init 36 = .ok (.putfield 19, 3) := by decide +kernel
theorem dX3_init_39 : decode cX3_init 39 = .ok (.aload_n 0, 1) := by decide +kernel
theorem dX3_init_40 : decode cX3_init 40 = .ok (.bipush 6, 2) := by decide +kernel
theorem dX3_init_42 : decode cX3_init 42 = .ok (.newarray .int, 2) := by decide +kernel
theorem dX3_init_44 : decode cX3_init 44 = .ok (.putfield 22, 3) := by decide +kernel
theorem dX3_init_47 : decode cX3_init 47 = .ok (.aload_n 0, 1) := by decide +kernel
theorem dX3_init_48 : decode cX3_init 48 = .ok (.iconst 3, 1) := by decide +kernel
theorem dX3_init_49 : decode cX3_init 49 = .ok (.newarray .int, 2) := by decide +kernel
theorem dX3_init_51 : decode cX3_init 51 = .ok (.putfield 25, 3) := by decide +kernel
theorem dX3_init_54 : decode cX3_init 54 = .ok (.aload_n 0, 1) := by decide +kernel
theorem dX3_init_55 : decode cX3_init 55 = .ok (.iconst 3, 1) := by decide +kernel
theorem dX3_init_56 : decode cX3_init 56 = .ok (.newarray .int, 2) := by decide +kernel
theorem dX3_init_58 : decode cX3_init 58 = .ok (.putfield 28, 3) := by decide +kernel
theorem dX3_init_61 : decode cX3_init 61 = .ok (.aload_n 0, 1) := by decide +kernel
theorem dX3_init_62 : decode cX3_init 62 = .ok (.iconst 3, 1) := by decide +kernel
theorem dX3_init_63 : decode cX3_init 63 = .ok (.newarray .int, 2) := by decide +kernel
theorem dX3_init_65 : decode cX3_init 65 = .ok (.putfield 31, 3) := by decide +kernel
theorem dX3_init_68 : decode cX3_init 68 = .ok (.aload_n 0, 1) := by decide +kernel
theorem dX3_init_69 : decode cX3_init 69 = .ok (.iconst 3, 1) := by decide +kernel
theorem dX3_init_70 : decode cX3_init 70 = .ok (.newarray .int, 2) := by decide +kernel
theorem dX3_init_72 : decode cX3_init 72 = .ok (.putfield 34, 3) := by decide +kernel
theorem dX3_init_75 : decode cX3_init 75 = .ok (.aload_n 0, 1) := by decide +kernel
theorem dX3_init_76 : decode cX3_init 76 = .ok (.iconst 3, 1) := by decide +kernel
theorem dX3_init_77 : decode cX3_init 77 = .ok (.newarray .int, 2) := by decide +kernel
theorem dX3_init_79 : decode cX3_init 79 = .ok (.putfield 37, 3) := by decide +kernel
theorem dX3_init_82 : decode cX3_init 82 = .ok (.aload_n 0, 1) := by decide +kernel
theorem dX3_init_83 : decode cX3_init 83 = .ok (.iconst 3, 1) := by decide +kernel
theorem dX3_init_84 : decode cX3_init 84 = .ok (.newarray .int, 2) := by decide +kernel
theorem dX3_init_86 : decode cX3_init 86 = .ok (.putfield 40, 3) := by decide +kernel
theorem dX3_init_89 : decode cX3_init 89 = .ok (.aload_n 0, 1) := by decide +kernel
theorem dX3_init_90 : decode cX3_init 90 = .ok (.iconst 3, 1) := by decide +kernel
theorem dX3_init_91 : decode cX3_init 91 = .ok (.newarray .int, 2) := by decide +kernel
theorem dX3_init_93 : decode cX3_init 93 = .ok (.putfield 43, 3) := by decide +kernel
theorem dX3_init_96 : decode cX3_init 96 = .ok (.aload_n 0, 1) := by decide +kernel
theorem dX3_init_97 : decode cX3_init 97 = .ok (.iconst 3, 1) := by decide +kernel
theorem dX3_init_98 : decode cX3_init 98 = .ok (.newarray .int, 2) := by decide +kernel
theorem dX3_init_100 : decode cX3_init 100 = .ok (.putfield 46, 3) := by decide +kernel
theorem dX3_init_103 : decode cX3_init 103 = .ok (.aload_n 0, 1) := by decide +kernel
theorem dX3_init_104 : decode cX3_init 104 = .ok (.iconst 3, 1) := by decide +kernel
theorem dX3_init_105 : decode cX3_init 105 = .ok (.newarray .int, 2) := by decide +kernel
theorem dX3_init_107 : decode cX3_init 107 = .ok (.putfield 49, 3) := by decide +kernel
theorem dX3_init_110 : decode cX3_init 110 = .ok (.aload_n 0, 1) := by decide +kernel
theorem dX3_init_111 : decode cX3_init 111 = .ok (.bipush 63, 2) := by decide +kernel
theorem dX3_init_113 : decode cX3_init 113 = .ok (.putfield 52, 3) := by decide +kernel
theorem dX3_init_116 : decode cX3_init 116 = .ok (.iconst 0, 1) := by decide +kernel
theorem dX3_init_117 : decode cX3_init 117 = .ok (.istore_n 1, 1) := by decide +kernel
theorem dX3_init_118 : decode cX3_init 118 = .ok (.iload_n 1, 1) := by decide +kernel
theorem dX3_init_119 : decode cX3_init 119 = .ok (.iconst 3, 1) := by decide +kernel
theorem dX3_init_120 : decode cX3_init 120 = .ok (.if_icmp .ge 17, 3) := by decide +kernel
theorem dX3_init_123 : decode cX3_init 123 = .ok (.aload_n 0, 1) := by decide +kernel
theorem dX3_init_124 : decode cX3_init 124 = .ok (.getfield 31, 3) := by decide +kernel
theorem dX3_init_127 : decode cX3_init 127 = .ok (.iload_n 1, 1) := by decide +kernel
theorem dX3_init_128 : decode cX3_init 128 = .ok (.bipush 63, 2) := by decide +kernel
theorem dX3_init_130 : decode cX3_init 130 = .ok (.iastore, 1) := by decide +kernel
theorem dX3_init_131 : decode cX3_init 131 = .ok (.iinc 1 1, 3) := by decide +kernel
theorem dX3_init_134 : decode cX3_init 134 = .ok (.goto (-16), 3) := by decide +kernel
theorem dX3_init_137 : decode cX3_init 137 = .ok (.return_, 1) := by decide +kernel
theorem dX3_look_0 : decode cX3_look 0 = .ok (.iconst 0, 1) := by decide +kernel
theorem dX3_look_1 : decode cX3_look 1 = .ok (.istore_n 3, 1) := by decide +kernel
theorem dX3_look_2 : decode cX3_look 2 = .ok (.iload_n 3, 1) := by decide +kernel
theorem dX3_look_3 : decode cX3_look 3 = .ok (.aload_n 0, 1) := by decide +kernel
theorem dX3_look_4 : decode cX3_look 4 = .ok (.getfield 56, 3) := by decide +kernel
theorem dX3_look_7 : decode cX3_look 7 = .ok (.if_icmp .ge 36, 3) := by decide +kernel
theorem dX3_look_10 : decode cX3_look 10 = .ok (.aload_n 0, 1) := by decide +kernel
theorem dX3_look_11 : decode cX3_look 11 = .ok (.getfield 7, 3) := by decide +kernel
theorem dX3_look_14 : decode cX3_look 14 = .ok (.iload_n 3, 1) := by decide +kernel
theorem dX3_look_15 : decode cX3_look 15 = .ok (.iaload, 1) := by decide +kernel
theorem dX3_look_16 : decode cX3_look 16 = .ok (.iload_n 1, 1) := by decide +kernel
theorem dX3_look_17 : decode cX3_look 17 = .ok (.if_icmp .ne 20, 3) := by decide +kernel
theorem dX3_look_20 : decode cX3_look 20 = .ok (.aload_n 0, 1) := by decide +kernel
theorem dX3_look_21 : decode cX3_look 21 = .ok (.getfield 13, 3) := by decide +kernel
theorem dX3_look_24 : decode cX3_look 24 = .ok (.iload_n 3, 1) := by decide +kernel
theorem dX3_look_25 : decode cX3_look 25 = .ok (.iaload, 1) := by decide +kernel
theorem dX3_look_26 : decode cX3_look 26 = .ok (.iload_n 2, 1) := by decide +kernel
theorem dX3_look_27 : decode cX3_look 27 = .ok (.if_icmp .ne 10, 3) := by decide +kernel
theorem dX3_look_30 : decode cX3_look 30 = .ok (.aload_n 0, 1) := by decide +kernel
theorem dX3_look_31 : decode cX3_look 31 = .ok (.getfield 16, 3) := by decide +kernel
theorem dX3_look_34 : decode cX3_look 34 = .ok (.iload_n 3, 1) := by decide +kernel
theorem dX3_look_35 : decode cX3_look 35 = .ok (.iaload, 1) := by decide +kernel
theorem dX3_look_36 : decode cX3_look 36 = .ok (.ireturn, 1) := by decide +kernel
theorem dX3_look_37 : decode cX3_look 37 = .ok (.iinc 3 1, 3) := by decide +kernel
theorem dX3_look_40 : decode cX3_look 40 = .ok (.goto (-38), 3) := by decide +kernel
theorem dX3_look_43 : decode cX3_look 43 = .ok (.bipush (-2), 2) := by decide +kernel
theorem dX3_look_45 : decode cX3_look 45 = .ok (.ireturn, 1) := by decide +kernel
theorem dX3_put_0 : decode cX3_put 0 = .ok (.aload_n 0, 1) := by decide +kernel
theorem dX3_put_1 : decode cX3_put 1 = .ok (.getfield 7, 3) := by decide +kernel
theorem dX3_put_4 : decode cX3_put 4 = .ok (.aload_n 0, 1) := by decide +kernel
theorem dX3_put_5 : decode cX3_put 5 = .ok (.getfield 56, 3) := by decide +kernel
theorem dX3_put_8 : decode cX3_put 8 = .ok (.iload_n 1, 1) := by decide +kernel
theorem dX3_put_9 : decode cX3_put 9 = .ok (.iastore, 1) := by decide +kernel
theorem dX3_put_10 : decode cX3_put 10 = .ok (.aload_n 0, 1) := by decide +kernel
theorem dX3_put_11 : decode cX3_put 11 = .ok (.getfield 13, 3) := by decide +kernel
theorem dX3_put_14 : decode cX3_put 14 = .ok (.aload_n 0, 1) := by decide +kernel
theorem dX3_put_15 : decode cX3_put 15 = .ok (.getfield 56, 3) := by decide +kernel
theorem dX3_put_18 : decode cX3_put 18 = .ok (.iload_n 2, 1) := by decide +kernel
theorem dX3_put_19 : decode cX3_put 19 = .ok (.iastore, 1) := by decide +kernel
theorem dX3_put_20 : decode cX3_put 20 = .ok (.aload_n 0, 1) := by decide +kernel
theorem dX3_put_21 : decode cX3_put 21 = .ok (.getfield 16, 3) := by decide +kernel
theorem dX3_put_24 : decode cX3_put 24 = .ok (.aload_n 0, 1) := by decide +kernel
theorem dX3_put_25 : decode cX3_put 25 = .ok (.getfield 56, 3) := by decide +kernel
theorem dX3_put_28 : decode cX3_put 28 = .ok (.iload_n 3, 1) := by decide +kernel
theorem dX3_put_29 : decode cX3_put 29 = .ok (.iastore, 1) := by decide +kernel
theorem dX3_put_30 : decode cX3_put 30 = .ok (.aload_n 0, 1) := by decide +kernel
theorem dX3_put_31 : decode cX3_put 31 = .ok (.aload_n 0, 1) := by decide +kernel
theorem dX3_put_32 : decode cX3_put 32 = .ok (.getfield 56, 3) := by decide +kernel
theorem dX3_put_35 : decode cX3_put 35 = .ok (.iconst 1, 1) := by decide +kernel
theorem dX3_put_36 : decode cX3_put 36 = .ok (.iadd, 1) := by decide +kernel
theorem dX3_put_37 : decode cX3_put 37 = .ok (.putfield 56, 3) := by decide +kernel
theorem dX3_put_40 : decode cX3_put 40 = .ok (.return_, 1) := by decide +kernel
theorem dX3_nth_0 : decode cX3_nth 0 = .ok (.iconst 0, 1) := by decide +kernel
theorem dX3_nth_1 : decode cX3_nth 1 = .ok (.istore_n 3, 1) := by decide +kernel
theorem dX3_nth_2 : decode cX3_nth 2 = .ok (.iconst 0, 1) := by decide +kernel
theorem dX3_nth_3 : decode cX3_nth 3 = .ok (.istore 4, 2) := by decide +kernel
theorem dX3_nth_5 : decode cX3_nth 5 = .ok (.iload 4, 2) := by decide +kernel
theorem dX3_nth_7 : decode cX3_nth 7 = .ok (.bipush 6, 2) := by decide +kernel
theorem dX3_nth_9 : decode cX3_nth 9 = .ok (.if_icmp .ge 44, 3) := by decide +kernel
theorem dX3_nth_12 : decode cX3_nth 12 = .ok (.iload_n 0, 1) := by decide +kernel
theorem dX3_nth_13 : decode cX3_nth 13 = .ok (.iload 4, 2) := by decide +kernel
theorem dX3_nth_15 : decode cX3_nth 15 = .ok (.iushr, 1) := by decide +kernel
theorem dX3_nth_16 : decode cX3_nth 16 = .ok (.iconst 1, 1) := by decide +kernel
theorem dX3_nth_17 : decode cX3_nth 17 = .ok (.iand, 1) := by decide +kernel
theorem dX3_nth_18 : decode cX3_nth 18 = .ok (.iconst 1, 1) := by decide +kernel
theorem dX3_nth_19 : decode cX3_nth 19 = .ok (.if_icmp .ne 28, 3) := by decide +kernel
theorem dX3_nth_22 : decode cX3_nth 22 = .ok (.iload_n 1, 1) := by decide +kernel
theorem dX3_nth_23 : decode cX3_nth 23 = .ok (.iconst 2, 1) := by decide +kernel
theorem dX3_nth_24 : decode cX3_nth 24 = .ok (.if_icmp .eq 11, 3) := by decide +kernel
theorem dX3_nth_27 : decode cX3_nth 27 = .ok (.iload 4, 2) := by decide +kernel
theorem dX3_nth_29 : decode cX3_nth 29 = .ok (.iconst 2, 1) := by decide +kernel
theorem dX3_nth_30 : decode cX3_nth 30 = .ok (.irem, 1) := by decide +kernel
theorem dX3_nth_31 : decode cX3_nth 31 = .ok (.iload_n 1, 1) := by decide +kernel
theorem dX3_nth_32 : decode cX3_nth 32 = .ok (.if_icmp .ne 15, 3) := by decide +kernel
theorem dX3_nth_35 : decode cX3_nth 35 = .ok (.iload_n 3, 1) := by decide +kernel
theorem dX3_nth_36 : decode cX3_nth 36 = .ok (.iload_n 2, 1) := by decide +kernel
theorem dX3_nth_37 : decode cX3_nth 37 = .ok (.if_icmp .ne 6, 3) := by decide +kernel
theorem dX3_nth_40 : decode cX3_nth 40 = .ok (.iload 4, 2) := by decide +kernel
theorem dX3_nth_42 : decode cX3_nth 42 = .ok (.ireturn, 1) := by decide +kernel
theorem dX3_nth_43 : decode cX3_nth 43 = .ok (.iload_n 3, 1) := by decide +kernel
theorem dX3_nth_44 : decode cX3_nth 44 = .ok (.iconst 1, 1) := by decide +kernel
theorem dX3_nth_45 : decode cX3_nth 45 = .ok (.iadd, 1) := by decide +kernel
theorem dX3_nth_46 : decode cX3_nth 46 = .ok (.istore_n 3, 1) := by decide +kernel
theorem dX3_nth_47 : decode cX3_nth 47 = .ok (.iinc 4 1, 3) := by decide +kernel
theorem dX3_nth_50 : decode cX3_nth 50 = .ok (.goto (-45), 3) := by decide +kernel
theorem dX3_nth_53 : decode cX3_nth 53 = .ok (.iconst (-1), 1) := by decide +kernel
theorem dX3_nth_54 : decode cX3_nth 54 = .ok (.ireturn, 1) := by decide +kernel
theorem dX3_length_0 : decode cX3_length 0 = .ok (.iconst 0, 1) := by decide +kernel
theorem dX3_length_1 : decode cX3_length 1 = .ok (.istore_n 2, 1) := by decide +kernel
theorem dX3_length_2 : decode cX3_length 2 = .ok (.iconst 0, 1) := by decide +kernel
theorem dX3_length_3 : decode cX3_length 3 = .ok (.istore_n 3, 1) := by decide +kernel
theorem dX3_length_4 : decode cX3_length 4 = .ok (.iload_n 3, 1) := by decide +kernel
theorem dX3_length_5 : decode cX3_length 5 = .ok (.bipush 6, 2) := by decide +kernel
theorem dX3_length_7 : decode cX3_length 7 = .ok (.if_icmp .ge 29, 3) := by decide +kernel
theorem dX3_length_10 : decode cX3_length 10 = .ok (.iload_n 0, 1) := by decide +kernel
theorem dX3_length_11 : decode cX3_length 11 = .ok (.iload_n 3, 1) := by decide +kernel
theorem dX3_length_12 : decode cX3_length 12 = .ok (.iushr, 1) := by decide +kernel
theorem dX3_length_13 : decode cX3_length 13 = .ok (.iconst 1, 1) := by decide +kernel
theorem dX3_length_14 : decode cX3_length 14 = .ok (.iand, 1) := by decide +kernel
theorem dX3_length_15 : decode cX3_length 15 = .ok (.iconst 1, 1) := by decide +kernel
theorem dX3_length_16 : decode cX3_length 16 = .ok (.if_icmp .ne 14, 3) := by decide +kernel
theorem dX3_length_19 : decode cX3_length 19 = .ok (.iload_n 3, 1) := by decide +kernel
theorem dX3_length_20 : decode cX3_length 20 = .ok (.iconst 2, 1) := by decide +kernel
theorem dX3_length_21 : decode cX3_length 21 = .ok (.irem, 1) := by decide +kernel
theorem dX3_length_22 : decode cX3_length 22 = .ok (.iload_n 1, 1) := by decide +kernel
theorem dX3_length_23 : decode cX3_length 23 = .ok (.if_icmp .ne 7, 3) := by decide +kernel
theorem dX3_length_26 : decode cX3_length 26 = .ok (.iload_n 2, 1) := by decide +kernel
theorem dX3_length_27 : decode cX3_length 27 = .ok (.iconst 1, 1) := by decide +kernel
theorem dX3_length_28 : decode cX3_length 28 = .ok (.iadd, 1) := by decide +kernel
theorem dX3_length_29 : decode cX3_length 29 = .ok (.istore_n 2, 1) := by decide +kernel
theorem dX3_length_30 : decode cX3_length 30 = .ok (.iinc 3 1, 3) := by decide +kernel
theorem dX3_length_33 : decode cX3_length 33 = .ok (.goto (-29), 3) := by decide +kernel
theorem dX3_length_36 : decode cX3_length 36 = .ok (.iload_n 2, 1) := by decide +kernel
theorem dX3_length_37 : decode cX3_length 37 = .ok (.ireturn, 1) := by decide +kernel
theorem dX3_begin_0 : decode cX3_begin 0 = .ok (.iload_n 1, 1) := by decide +kernel
theorem dX3_begin_1 : decode cX3_begin 1 = .ok (.ifCond .lt 8, 3) := by decide +kernel
theorem dX3_begin_4 : decode cX3_begin 4 = .ok (.iload_n 1, 1) := by decide +kernel
theorem dX3_begin_5 : decode cX3_begin 5 = .ok (.iconst 2, 1) := by decide +kernel
theorem dX3_begin_6 : decode cX3_begin 6 = .ok (.if_icmp .le 5, 3) := by decide +kernel
theorem dX3_begin_9 : decode cX3_begin 9 = .ok (.iconst (-1), 1) := by decide +kernel
theorem dX3_begin_10 : decode cX3_begin 10 = .ok (.ireturn, 1) := by decide +kernel
theorem dX3_begin_11 : decode cX3_begin 11 = .ok (.aload_n 0, 1) := by decide +kernel
theorem dX3_begin_12 : decode cX3_begin 12 = .ok (.getfield 25, 3) := by decide +kernel
theorem dX3_begin_15 : decode cX3_begin 15 = .ok (.iload_n 1, 1) := by decide +kernel
theorem dX3_begin_16 : decode cX3_begin 16 = .ok (.iaload, 1) := by decide +kernel
theorem dX3_begin_17 : decode cX3_begin 17 = .ok (.ifCond .eq 6, 3) := by decide +kernel
theorem dX3_begin_20 : decode cX3_begin 20 = .ok (.bipush (-2), 2) := by decide +kernel
theorem dX3_begin_22 : decode cX3_begin 22 = .ok (.ireturn, 1) := by decide +kernel
theorem dX3_begin_23 : decode cX3_begin 23 = .ok (.iload_n 3, 1) := by decide +kernel
theorem dX3_begin_24 : decode cX3_begin 24 = .ok (.ifCond .ne 6, 3) := by decide +kernel
theorem dX3_begin_27 : decode cX3_begin 27 = .ok (.bipush (-3), 2) := by decide +kernel
theorem dX3_begin_29 : decode cX3_begin 29 = .ok (.ireturn, 1) := by decide +kernel
theorem dX3_begin_30 : decode cX3_begin 30 = .ok (.aload_n 0, 1) := by decide +kernel
theorem dX3_begin_31 : decode cX3_begin 31 = .ok (.getfield 25, 3) := by decide +kernel
theorem dX3_begin_34 : decode cX3_begin 34 = .ok (.iload_n 1, 1) := by decide +kernel
theorem dX3_begin_35 : decode cX3_begin 35 = .ok (.iload_n 2, 1) := by decide +kernel
theorem dX3_begin_36 : decode cX3_begin 36 = .ok (.iastore, 1) := by decide +kernel
theorem dX3_begin_37 : decode cX3_begin 37 = .ok (.aload_n 0, 1) := by decide +kernel
theorem dX3_begin_38 : decode cX3_begin 38 = .ok (.getfield 34, 3) := by decide +kernel
theorem dX3_begin_41 : decode cX3_begin 41 = .ok (.iload_n 1, 1) := by decide +kernel
theorem dX3_begin_42 : decode cX3_begin 42 = .ok (.iconst 0, 1) := by decide +kernel
theorem dX3_begin_43 : decode cX3_begin 43 = .ok (.iastore, 1) := by decide +kernel
theorem dX3_begin_44 : decode cX3_begin 44 = .ok (.aload_n 0, 1) := by decide +kernel
theorem dX3_begin_45 : decode cX3_begin 45 = .ok (.getfield 37, 3) := by decide +kernel
theorem dX3_begin_48 : decode cX3_begin 48 = .ok (.iload_n 1, 1) := by decide +kernel
theorem dX3_begin_49 : decode cX3_begin 49 = .ok (.iconst 0, 1) := by decide +kernel
theorem dX3_begin_50 : decode cX3_begin 50 = .ok (.iastore, 1) := by decide +kernel
theorem dX3_begin_51 : decode cX3_begin 51 = .ok (.aload_n 0, 1) := by decide +kernel
theorem dX3_begin_52 : decode cX3_begin 52 = .ok (.getfield 46, 3) := by decide +kernel
theorem dX3_begin_55 : decode cX3_begin 55 = .ok (.iload_n 1, 1) := by decide +kernel
theorem dX3_begin_56 : decode cX3_begin 56 = .ok (.iconst 0, 1) := by decide +kernel
theorem dX3_begin_57 : decode cX3_begin 57 = .ok (.iastore, 1) := by decide +kernel
theorem dX3_begin_58 : decode cX3_begin 58 = .ok (.aload_n 0, 1) := by decide +kernel
theorem dX3_begin_59 : decode cX3_begin 59 = .ok (.getfield 43, 3) := by decide +kernel
theorem dX3_begin_62 : decode cX3_begin 62 = .ok (.iload_n 1, 1) := by decide +kernel
theorem dX3_begin_63 : decode cX3_begin 63 = .ok (.iconst 0, 1) := by decide +kernel
theorem dX3_begin_64 : decode cX3_begin 64 = .ok (.iastore, 1) := by decide +kernel
theorem dX3_begin_65 : decode cX3_begin 65 = .ok (.aload_n 0, 1) := by decide +kernel
theorem dX3_begin_66 : decode cX3_begin 66 = .ok (.getfield 40, 3) := by decide +kernel
theorem dX3_begin_69 : decode cX3_begin 69 = .ok (.iload_n 1, 1) := by decide +kernel
theorem dX3_begin_70 : decode cX3_begin 70 = .ok (.iconst 0, 1) := by decide +kernel
theorem dX3_begin_71 : decode cX3_begin 71 = .ok (.iastore, 1) := by decide +kernel
theorem dX3_begin_72 : decode cX3_begin 72 = .ok (.iconst 0, 1) := by decide +kernel
theorem dX3_begin_73 : decode cX3_begin 73 = .ok (.ireturn, 1) := by decide +kernel
set_option maxRecDepth 20000 in
theorem ggX3_append_X3_begin : GoodIn wsX3_append wsX3_begin := goodIn_r _ [8, 9, 10, 11, 12, 2, 3, 13, 14, 15, 16, 17, 18, 19, 20, 21, 22, 23, 24, 25, 26, 27, 28, 29, 30, 31] (by decide +kernel) (by decide +kernel)
set_option maxRecDepth 20000 in
theorem gX3_append_X3_begin : GoodIn wsX3_append (wsV RX3 60 RX3 yX3_begin wsX3_begin) := goodIn_app (goodIn_of _ (by decide +kernel)) ggX3_append_X3_begin
theorem dX3_append_0 : decode cX3_append 0 = .ok (.aload_n 0, 1) := by decide +kernel
theorem dX3_append_1 : decode cX3_append 1 = .ok (.iload_n 1, 1) := by decide +kernel
theorem dX3_append_2 : decode cX3_append 2 = .ok (.iconst 1, 1) := by decide +kernel
theorem dX3_append_3 : decode cX3_append 3 = .ok (.iload_n 2, 1) := by decide +kernel
theorem dX3_append_4 : decode cX3_append 4 = .ok (.ifCond .lt 13, 3) := by decide +kernel
theorem dX3_append_7 : decode cX3_append 7 = .ok (.iload_n 2, 1) := by decide +kernel
theorem dX3_append_8 : decode cX3_append 8 = .ok (.ldc 59, 2) := by decide +kernel
theorem dX3_append_10 : decode cX3_append 10 = .ok (.if_icmp .gt 7, 3) := by decide +kernel
theorem dX3_append_13 : decode cX3_append 13 = .ok (.iconst 1, 1) := by decide +kernel
theorem dX3_append_14 : decode cX3_append 14 = .ok (.goto 4, 3) := by decide +kernel
theorem dX3_append_17 : decode cX3_append 17 = .ok (.iconst 0, 1) := by decide +kernel
theorem dX3_append_18 : decode cX3_append 18 = .ok (.invokevirtual 60, 3) := by decide +kernel
theorem dX3_append_21 : decode cX3_append 21 = .ok (.istore_n 3, 1) := by decide +kernel
theorem dX3_append_22 : decode cX3_append 22 = .ok (.iload_n 3, 1) := by decide +kernel
theorem dX3_append_23 : decode cX3_append 23 = .ok (.ifCond .ne 17, 3) := by decide +kernel
theorem dX3_append_26 : decode cX3_append 26 = .ok (.aload_n 0, 1) := by decide +kernel
theorem dX3_append_27 : decode cX3_append 27 = .ok (.getfield 43, 3) := by decide +kernel
theorem dX3_append_30 : decode cX3_append 30 = .ok (.iload_n 1, 1) := by decide +kernel
theorem dX3_append_31 : decode cX3_append 31 = .ok (.iload_n 2, 1) := by decide +kernel
theorem dX3_append_32 : decode cX3_append 32 = .ok (.iastore, 1) := by decide +kernel
theorem dX3_append_33 : decode cX3_append 33 = .ok (.aload_n 0, 1) := by decide +kernel
theorem dX3_append_34 : decode cX3_append 34 = .ok (.getfield 40, 3) := by decide +kernel
theorem dX3_append_37 : decode cX3_append 37 = .ok (.iload_n 1, 1) := by decide +kernel
theorem dX3_append_38 : decode cX3_append 38 = .ok (.iconst (-1), 1) := by decide +kernel
theorem dX3_append_39 : decode cX3_append 39 = .ok (.iastore, 1) := by decide +kernel
theorem dX3_append_40 : decode cX3_append 40 = .ok (.iload_n 3, 1) := by decide +kernel
theorem dX3_append_41 : decode cX3_append 41 = .ok (.ireturn, 1) := by decide +kernel
set_option maxRecDepth 20000 in
theorem ggX3_fill_X3_begin : GoodIn wsX3_fill wsX3_begin := goodIn_r _ [6, 7, 8, 9, 10, 11, 1, 12, 13, 14, 15, 16, 17, 18, 19, 20, 21, 22, 23, 24, 25, 26, 27, 28, 29, 30] (by decide +kernel) (by decide +kernel)
set_option maxRecDepth 20000 in
theorem gX3_fill_X3_begin : GoodIn wsX3_fill (wsV RX3 60 RX3 yX3_begin wsX3_begin) := goodIn_app (goodIn_of _ (by decide +kernel)) ggX3_fill_X3_begin
theorem dX3_fill_0 : decode cX3_fill 0 = .ok (.aload_n 0, 1) := by decide +kernel
theorem dX3_fill_1 : decode cX3_fill 1 = .ok (.iload_n 1, 1) := by decide +kernel
theorem dX3_fill_2 : decode cX3_fill 2 = .ok (.iconst 2, 1) := by decide +kernel
theorem dX3_fill_3 : decode cX3_fill 3 = .ok (.iload_n 2, 1) := by decide +kernel
theorem dX3_fill_4 : decode cX3_fill 4 = .ok (.ifCond .lt 13, 3) := by decide +kernel
theorem dX3_fill_7 : decode cX3_fill 7 = .ok (.iload_n 2, 1) := by decide +kernel
theorem dX3_fill_8 : decode cX3_fill 8 = .ok (.bipush 31, 2) := by decide +kernel
theorem dX3_fill_10 : decode cX3_fill 10 = .ok (.if_icmp .gt 7, 3) := by decide +kernel
theorem dX3_fill_13 : decode cX3_fill 13 = .ok (.iconst 1, 1) := by decide +kernel
theorem dX3_fill_14 : decode cX3_fill 14 = .ok (.goto 4, 3) := by decide +kernel
theorem dX3_fill_17 : decode cX3_fill 17 = .ok (.iconst 0, 1) := by decide +kernel
theorem dX3_fill_18 : decode cX3_fill 18 = .ok (.invokevirtual 60, 3) := by decide +kernel
theorem dX3_fill_21 : decode cX3_fill 21 = .ok (.istore_n 3, 1) := by decide +kernel
theorem dX3_fill_22 : decode cX3_fill 22 = .ok (.iload_n 3, 1) := by decide +kernel
theorem dX3_fill_23 : decode cX3_fill 23 = .ok (.ifCond .ne 10, 3) := by decide +kernel
theorem dX3_fill_26 : decode cX3_fill 26 = .ok (.aload_n 0, 1) := by decide +kernel
theorem dX3_fill_27 : decode cX3_fill 27 = .ok (.getfield 40, 3) := by decide +kernel
theorem dX3_fill_30 : decode cX3_fill 30 = .ok (.iload_n 1, 1) := by decide +kernel
theorem dX3_fill_31 : decode cX3_fill 31 = .ok (.iload_n 2, 1) := by decide +kernel
theorem dX3_fill_32 : decode cX3_fill 32 = .ok (.iastore, 1) := by decide +kernel
theorem dX3_fill_33 : decode cX3_fill 33 = .ok (.iload_n 3, 1) := by decide +kernel
theorem dX3_fill_34 : decode cX3_fill 34 = .ok (.ireturn, 1) := by decide +kernel
set_option maxRecDepth 20000 in
theorem ggX3_read_X3_begin : GoodIn wsX3_read wsX3_begin := goodIn_r _ [6, 7, 8, 9, 10, 11, 1, 12, 13, 14, 15, 16, 17, 18, 19, 20, 21, 22, 23, 24, 25, 26, 27, 28, 29, 30] (by decide +kernel) (by decide +kernel)
set_option maxRecDepth 20000 in
theorem gX3_read_X3_begin : GoodIn wsX3_read (wsV RX3 60 RX3 yX3_begin wsX3_begin) := goodIn_app (goodIn_of _ (by decide +kernel)) ggX3_read_X3_begin
theorem dX3_read_0 : decode cX3_read 0 = .ok (.aload_n 0, 1) := by decide +kernel
theorem dX3_read_1 : decode cX3_read 1 = .ok (.iload_n 1, 1) := by decide +kernel
theorem dX3_read_2 : decode cX3_read 2 = .ok (.iconst 3, 1) := by decide +kernel
theorem dX3_read_3 : decode cX3_read 3 = .ok (.iload_n 2, 1) := by decide +kernel
theorem dX3_read_4 : decode cX3_read 4 = .ok (.ifCond .lt 13, 3) := by decide +kernel
theorem dX3_read_7 : decode cX3_read 7 = .ok (.iload_n 2, 1) := by decide +kernel
theorem dX3_read_8 : decode cX3_read 8 = .ok (.bipush 31, 2) := by decide +kernel
theorem dX3_read_10 : decode cX3_read 10 = .ok (.if_icmp .gt 7, 3) := by decide +kernel
theorem dX3_read_13 : decode cX3_read 13 = .ok (.iconst 1, 1) := by decide +kernel
theorem dX3_read_14 : decode cX3_read 14 = .ok (.goto 4, 3) := by decide +kernel
theorem dX3_read_17 : decode cX3_read 17 = .ok (.iconst 0, 1) := by decide +kernel
theorem dX3_read_18 : decode cX3_read 18 = .ok (.invokevirtual 60, 3) := by decide +kernel
theorem dX3_read_21 : decode cX3_read 21 = .ok (.istore_n 3, 1) := by decide +kernel
theorem dX3_read_22 : decode cX3_read 22 = .ok (.iload_n 3, 1) := by decide +kernel
theorem dX3_read_23 : decode cX3_read 23 = .ok (.ifCond .ne 10, 3) := by decide +kernel
theorem dX3_read_26 : decode cX3_read 26 = .ok (.aload_n 0, 1) := by decide +kernel
theorem dX3_read_27 : decode cX3_read 27 = .ok (.getfield 40, 3) := by decide +kernel
theorem dX3_read_30 : decode cX3_read 30 = .ok (.iload_n 1, 1) := by decide +kernel
theorem dX3_read_31 : decode cX3_read 31 = .ok (.iload_n 2, 1) := by decide +kernel
theorem dX3_read_32 : decode cX3_read 32 = .ok (.iastore, 1) := by decide +kernel
theorem dX3_read_33 : decode cX3_read 33 = .ok (.iload_n 3, 1) := by decide +kernel
theorem dX3_read_34 : decode cX3_read 34 = .ok (.ireturn, 1) := by decide +kernel
set_option maxRecDepth 20000 in
theorem ggX3_replay_X3_begin : GoodIn wsX3_replay wsX3_begin := goodIn_r _ [6, 7, 8, 9, 10, 11, 12, 13, 14, 15, 16, 17, 18, 19, 20, 21, 22, 23, 24, 25, 26, 27, 28, 29, 30, 31] (by decide +kernel) (by decide +kernel)
set_option maxRecDepth 20000 in
theorem gX3_replay_X3_begin : GoodIn wsX3_replay (wsV RX3 60 RX3 yX3_begin wsX3_begin) := goodIn_app (goodIn_of _ (by decide +kernel)) ggX3_replay_X3_begin
theorem dX3_replay_0 : decode cX3_replay 0 = .ok (.aload_n 0, 1) := by decide +kernel
theorem dX3_replay_1 : decode cX3_replay 1 = .ok (.iload_n 1, 1) := by decide +kernel
theorem dX3_replay_2 : decode cX3_replay 2 = .ok (.iconst 4, 1) := by decide +kernel
theorem dX3_replay_3 : decode cX3_replay 3 = .ok (.iload_n 2, 1) := by decide +kernel
theorem dX3_replay_4 : decode cX3_replay 4 = .ok (.ifCond .lt 13, 3) := by decide +kernel
theorem dX3_replay_7 : decode cX3_replay 7 = .ok (.iload_n 2, 1) := by decide +kernel
theorem dX3_replay_8 : decode cX3_replay 8 = .ok (.bipush 32, 2) := by decide +kernel
theorem dX3_replay_10 : decode cX3_replay 10 = .ok (.if_icmp .gt 7, 3) := by decide +kernel
theorem dX3_replay_13 : decode cX3_replay 13 = .ok (.iconst 1, 1) := by decide +kernel
theorem dX3_replay_14 : decode cX3_replay 14 = .ok (.goto 4, 3) := by decide +kernel
theorem dX3_replay_17 : decode cX3_replay 17 = .ok (.iconst 0, 1) := by decide +kernel
theorem dX3_replay_18 : decode cX3_replay 18 = .ok (.invokevirtual 60, 3) := by decide +kernel
theorem dX3_replay_21 : decode cX3_replay 21 = .ok (.istore_n 3, 1) := by decide +kernel
theorem dX3_replay_22 : decode cX3_replay 22 = .ok (.iload_n 3, 1) := by decide +kernel
theorem dX3_replay_23 : decode cX3_replay 23 = .ok (.ifCond .ne 10, 3) := by decide +kernel
theorem dX3_replay_26 : decode cX3_replay 26 = .ok (.aload_n 0, 1) := by decide +kernel
theorem dX3_replay_27 : decode cX3_replay 27 = .ok (.getfield 49, 3) := by decide +kernel
theorem dX3_replay_30 : decode cX3_replay 30 = .ok (.iload_n 1, 1) := by decide +kernel
theorem dX3_replay_31 : decode cX3_replay 31 = .ok (.iload_n 2, 1) := by decide +kernel
theorem dX3_replay_32 : decode cX3_replay 32 = .ok (.iastore, 1) := by decide +kernel
theorem dX3_replay_33 : decode cX3_replay 33 = .ok (.iload_n 3, 1) := by decide +kernel
theorem dX3_replay_34 : decode cX3_replay 34 = .ok (.ireturn, 1) := by decide +kernel
set_option maxRecDepth 20000 in
theorem ggX3_reform_X3_length : GoodIn wsX3_reform wsX3_length := goodIn_r _ [7] (by decide +kernel) (by decide +kernel)
set_option maxRecDepth 20000 in
theorem gX3_reform_X3_length : GoodIn wsX3_reform (va_wsS RX3 64 yX3_length wsX3_length) := goodIn_app (goodIn_of _ (by decide +kernel)) ggX3_reform_X3_length
set_option maxRecDepth 20000 in
theorem ggX3_reform_X3_begin : GoodIn wsX3_reform wsX3_begin := goodIn_r _ [11, 1, 12, 13, 14, 15, 16, 17, 18, 19, 20, 21, 22, 23, 24, 25, 26, 27, 28, 29, 30, 31, 32, 33, 34, 35] (by decide +kernel) (by decide +kernel)
set_option maxRecDepth 20000 in
theorem gX3_reform_X3_begin : GoodIn wsX3_reform (wsV RX3 60 RX3 yX3_begin wsX3_begin) := goodIn_app (goodIn_of _ (by decide +kernel)) ggX3_reform_X3_begin
theorem dX3_reform_0 : decode cX3_reform 0 = .ok (.iload_n 2, 1) := by decide +kernel
theorem dX3_reform_1 : decode cX3_reform 1 = .ok (.ifCond .lt 13, 3) := by decide +kernel
theorem dX3_reform_4 : decode cX3_reform 4 = .ok (.iload_n 2, 1) := by decide +kernel
theorem dX3_reform_5 : decode cX3_reform 5 = .ok (.bipush 63, 2) := by decide +kernel
theorem dX3_reform_7 : decode cX3_reform 7 = .ok (.if_icmp .gt 7, 3) := by decide +kernel
theorem dX3_reform_10 : decode cX3_reform 10 = .ok (.iconst 1, 1) := by decide +kernel
theorem dX3_reform_11 : decode cX3_reform 11 = .ok (.goto 4, 3) := by decide +kernel
theorem dX3_reform_14 : decode cX3_reform 14 = .ok (.iconst 0, 1) := by decide +kernel
theorem dX3_reform_15 : decode cX3_reform 15 = .ok (.istore_n 3, 1) := by decide +kernel
theorem dX3_reform_16 : decode cX3_reform 16 = .ok (.iload_n 1, 1) := by decide +kernel
theorem dX3_reform_17 : decode cX3_reform 17 = .ok (.ifCond .lt 54, 3) := by decide +kernel
theorem dX3_reform_20 : decode cX3_reform 20 = .ok (.iload_n 1, 1) := by decide +kernel
theorem dX3_reform_21 : decode cX3_reform 21 = .ok (.iconst 2, 1) := by decide +kernel
theorem dX3_reform_22 : decode cX3_reform 22 = .ok (.if_icmp .gt 49, 3) := by decide +kernel
theorem dX3_reform_25 : decode cX3_reform 25 = .ok (.aload_n 0, 1) := by decide +kernel
theorem dX3_reform_26 : decode cX3_reform 26 = .ok (.getfield 25, 3) := by decide +kernel
theorem dX3_reform_29 : decode cX3_reform 29 = .ok (.iload_n 1, 1) := by decide +kernel
theorem dX3_reform_30 : decode cX3_reform 30 = .ok (.iaload, 1) := by decide +kernel
theorem dX3_reform_31 : decode cX3_reform 31 = .ok (.ifCond .ne 40, 3) := by decide +kernel
theorem dX3_reform_34 : decode cX3_reform 34 = .ok (.iload_n 3, 1) := by decide +kernel
theorem dX3_reform_35 : decode cX3_reform 35 = .ok (.ifCond .eq 36, 3) := by decide +kernel
theorem dX3_reform_38 : decode cX3_reform 38 = .ok (.aload_n 0, 1) := by decide +kernel
theorem dX3_reform_39 : decode cX3_reform 39 = .ok (.getfield 31, 3) := by decide +kernel
theorem dX3_reform_42 : decode cX3_reform 42 = .ok (.iload_n 1, 1) := by decide +kernel
theorem dX3_reform_43 : decode cX3_reform 43 = .ok (.iaload, 1) := by decide +kernel
theorem dX3_reform_44 : decode cX3_reform 44 = .ok (.iload_n 2, 1) := by decide +kernel
theorem dX3_reform_45 : decode cX3_reform 45 = .ok (.iconst (-1), 1) := by decide +kernel
theorem dX3_reform_46 : decode cX3_reform 46 = .ok (.ixor, 1) := by decide +kernel
theorem dX3_reform_47 : decode cX3_reform 47 = .ok (.iand, 1) := by decide +kernel
theorem dX3_reform_48 : decode cX3_reform 48 = .ok (.istore 4, 2) := by decide +kernel
theorem dX3_reform_50 : decode cX3_reform 50 = .ok (.iload 4, 2) := by decide +kernel
theorem dX3_reform_52 : decode cX3_reform 52 = .ok (.iconst 0, 1) := by decide +kernel
theorem dX3_reform_53 : decode cX3_reform 53 = .ok (.invokestatic 64, 3) := by decide +kernel
theorem dX3_reform_56 : decode cX3_reform 56 = .ok (.ifCond .eq 12, 3) := by decide +kernel
theorem dX3_reform_59 : decode cX3_reform 59 = .ok (.iload 4, 2) := by decide +kernel
theorem dX3_reform_61 : decode cX3_reform 61 = .ok (.iconst 1, 1) := by decide +kernel
theorem dX3_reform_62 : decode cX3_reform 62 = .ok (.invokestatic 64, 3) := by decide +kernel
theorem dX3_reform_65 : decode cX3_reform 65 = .ok (.ifCond .ne 6, 3) := by decide +kernel
theorem dX3_reform_68 : decode cX3_reform 68 = .ok (.bipush (-4), 2) := by decide +kernel
theorem dX3_reform_70 : decode cX3_reform 70 = .ok (.ireturn, 1) := by decide +kernel
theorem dX3_reform_71 : decode cX3_reform 71 = .ok (.aload_n 0, 1) := by decide +kernel
theorem dX3_reform_72 : decode cX3_reform 72 = .ok (.iload_n 1, 1) := by decide +kernel
theorem dX3_reform_73 : decode cX3_reform 73 = .ok (.iconst 5, 1) := by decide +kernel
theorem dX3_reform_74 : decode cX3_reform 74 = .ok (.iload_n 3, 1) := by decide +kernel
theorem dX3_reform_75 : decode cX3_reform 75 = .ok (.invokevirtual 60, 3) := by decide +kernel
theorem dX3_reform_78 : decode cX3_reform 78 = .ok (.istore 4, 2) := by decide +kernel
theorem dX3_reform_80 : decode cX3_reform 80 = .ok (.iload 4, 2) := by decide +kernel
theorem dX3_reform_82 : decode cX3_reform 82 = .ok (.ifCond .ne 19, 3) := by decide +kernel
theorem dX3_reform_85 : decode cX3_reform 85 = .ok (.aload_n 0, 1) := by decide +kernel
theorem dX3_reform_86 : decode cX3_reform 86 = .ok (.getfield 49, 3) := by decide +kernel
theorem dX3_reform_89 : decode cX3_reform 89 = .ok (.iload_n 1, 1) := by decide +kernel
theorem dX3_reform_90 : decode cX3_reform 90 = .ok (.aload_n 0, 1) := by decide +kernel
theorem dX3_reform_91 : decode cX3_reform 91 = .ok (.getfield 31, 3) := by decide +kernel
theorem dX3_reform_94 : decode cX3_reform 94 = .ok (.iload_n 1, 1) := by decide +kernel
theorem dX3_reform_95 : decode cX3_reform 95 = .ok (.iaload, 1) := by decide +kernel
theorem dX3_reform_96 : decode cX3_reform 96 = .ok (.iload_n 2, 1) := by decide +kernel
theorem dX3_reform_97 : decode cX3_reform 97 = .ok (.iconst (-1), 1) := by decide +kernel
theorem dX3_reform_98 : decode cX3_reform 98 = .ok (.ixor, 1) := by decide +kernel
theorem dX3_reform_99 : decode cX3_reform 99 = .ok (.iand, 1) := by decide +kernel
theorem dX3_reform_100 : decode cX3_reform 100 = .ok (.iastore, 1) := by decide +kernel
theorem dX3_reform_101 : decode cX3_reform 101 = .ok (.iload 4, 2) := by decide +kernel
theorem dX3_reform_103 : decode cX3_reform 103 = .ok (.ireturn, 1) := by decide +kernel
theorem dX3_end_0 : decode cX3_end 0 = .ok (.aload_n 0, 1) := by decide +kernel
theorem dX3_end_1 : decode cX3_end 1 = .ok (.getfield 25, 3) := by decide +kernel
theorem dX3_end_4 : decode cX3_end 4 = .ok (.iload_n 1, 1) := by decide +kernel
theorem dX3_end_5 : decode cX3_end 5 = .ok (.iconst 0, 1) := by decide +kernel
theorem dX3_end_6 : decode cX3_end 6 = .ok (.iastore, 1) := by decide +kernel
theorem dX3_end_7 : decode cX3_end 7 = .ok (.aload_n 0, 1) := by decide +kernel
theorem dX3_end_8 : decode cX3_end 8 = .ok (.getfield 34, 3) := by decide +kernel
theorem dX3_end_11 : decode cX3_end 11 = .ok (.iload_n 1, 1) := by decide +kernel
theorem dX3_end_12 : decode cX3_end 12 = .ok (.iload_n 2, 1) := by decide +kernel
theorem dX3_end_13 : decode cX3_end 13 = .ok (.iastore, 1) := by decide +kernel
theorem dX3_end_14 : decode cX3_end 14 = .ok (.aload_n 0, 1) := by decide +kernel
theorem dX3_end_15 : decode cX3_end 15 = .ok (.getfield 37, 3) := by decide +kernel
theorem dX3_end_18 : decode cX3_end 18 = .ok (.iload_n 1, 1) := by decide +kernel
theorem dX3_end_19 : decode cX3_end 19 = .ok (.iload_n 3, 1) := by decide +kernel
theorem dX3_end_20 : decode cX3_end 20 = .ok (.iastore, 1) := by decide +kernel
theorem dX3_end_21 : decode cX3_end 21 = .ok (.iconst 1, 1) := by decide +kernel
theorem dX3_end_22 : decode cX3_end 22 = .ok (.ireturn, 1) := by decide +kernel
set_option maxRecDepth 20000 in
theorem ggX3_alongChain_X3_length : GoodIn wsX3_alongChain wsX3_length := goodIn_r _ [12] (by decide +kernel) (by decide +kernel)
set_option maxRecDepth 20000 in
theorem gX3_alongChain_X3_length : GoodIn wsX3_alongChain (va_wsS RX3 64 yX3_length wsX3_length) := goodIn_app (goodIn_of _ (by decide +kernel)) ggX3_alongChain_X3_length
set_option maxRecDepth 20000 in
theorem ggX3_alongChain_X3_nth : GoodIn wsX3_alongChain wsX3_nth := goodIn_r _ [15] (by decide +kernel) (by decide +kernel)
set_option maxRecDepth 20000 in
theorem gX3_alongChain_X3_nth : GoodIn wsX3_alongChain (va_wsS RX3 68 yX3_nth wsX3_nth) := goodIn_app (goodIn_of _ (by decide +kernel)) ggX3_alongChain_X3_nth
set_option maxRecDepth 20000 in
theorem ggX3_alongChain_X3_end : GoodIn wsX3_alongChain wsX3_end := goodIn_r _ [19, 7, 20, 21, 34, 35, 36, 37, 38, 39, 40, 41, 42, 43, 44, 45, 46, 47, 48, 49, 50, 51, 52] (by decide +kernel) (by decide +kernel)
set_option maxRecDepth 20000 in
theorem gX3_alongChain_X3_end : GoodIn wsX3_alongChain (wsV RX3 72 RX3 yX3_end wsX3_end) := goodIn_app (goodIn_of _ (by decide +kernel)) ggX3_alongChain_X3_end
set_option maxRecDepth 20000 in
theorem ggX3_alongChain_X3_look : GoodIn wsX3_alongChain wsX3_look := goodIn_r _ [25, 26, 27, 28, 29, 34, 35, 36, 37, 38, 39, 40, 41, 42, 43, 44, 45, 46, 47, 48, 49, 50, 51, 52] (by decide +kernel) (by decide +kernel)
set_option maxRecDepth 20000 in
theorem gX3_alongChain_X3_look : GoodIn wsX3_alongChain (wsV RX3 75 RX3 yX3_look wsX3_look) := goodIn_app (goodIn_of _ (by decide +kernel)) ggX3_alongChain_X3_look
set_option maxRecDepth 20000 in
theorem ggX3_alongChain_X3_put : GoodIn wsX3_alongChain wsX3_put := goodIn_r _ [33, 27, 26, 28, 29, 34, 35, 36, 37, 38, 39, 40, 41, 42, 43, 44, 45, 46, 47, 48, 49, 50, 51, 52] (by decide +kernel) (by decide +kernel)
set_option maxRecDepth 20000 in
theorem gX3_alongChain_X3_put : GoodIn wsX3_alongChain (wsV RX3 78 RX3 yX3_put wsX3_put) := goodIn_app (goodIn_of _ (by decide +kernel)) ggX3_alongChain_X3_put
theorem dX3_alongChain_0 : decode cX3_alongChain 0 = .ok (.aload_n 0, 1) := by decide +kernel
theorem dX3_alongChain_1 : decode cX3_alongChain 1 = .ok (.getfield 31, 3) := by decide +kernel
theorem dX3_alongChain_4 : decode cX3_alongChain 4 = .ok (.iload_n 1, 1) := by decide +kernel
theorem dX3_alongChain_5 : decode cX3_alongChain 5 = .ok (.iaload, 1) := by decide +kernel
theorem dX3_alongChain_6 : decode cX3_alongChain 6 = .ok (.aload_n 0, 1) := by decide +kernel
theorem dX3_alongChain_7 : decode cX3_alongChain 7 = .ok (.getfield 40, 3) := by decide +kernel
theorem dX3_alongChain_10 : decode cX3_alongChain 10 = .ok (.iload_n 1, 1) := by decide +kernel
theorem dX3_alongChain_11 : decode cX3_alongChain 11 = .ok (.iaload, 1) := by decide +kernel
theorem dX3_alongChain_12 : decode cX3_alongChain 12 = .ok (.iconst 2, 1) := by decide +kernel
theorem dX3_alongChain_13 : decode cX3_alongChain 13 = .ok (.irem, 1) := by decide +kernel
theorem dX3_alongChain_14 : decode cX3_alongChain 14 = .ok (.invokestatic 64, 3) := by decide +kernel
theorem dX3_alongChain_17 : decode cX3_alongChain 17 = .ok (.istore_n 2, 1) := by decide +kernel
theorem dX3_alongChain_18 : decode cX3_alongChain 18 = .ok (.aload_n 0, 1) := by decide +kernel
theorem dX3_alongChain_19 : decode cX3_alongChain 19 = .ok (.getfield 31, 3) := by decide +kernel
theorem dX3_alongChain_22 : decode cX3_alongChain 22 = .ok (.iload_n 1, 1) := by decide +kernel
theorem dX3_alongChain_23 : decode cX3_alongChain 23 = .ok (.iaload, 1) := by decide +kernel
theorem dX3_alongChain_24 : decode cX3_alongChain 24 = .ok (.aload_n 0, 1) := by decide +kernel
theorem dX3_alongChain_25 : decode cX3_alongChain 25 = .ok (.getfield 40, 3) := by decide +kernel
theorem dX3_alongChain_28 : decode cX3_alongChain 28 = .ok (.iload_n 1, 1) := by decide +kernel
theorem dX3_alongChain_29 : decode cX3_alongChain 29 = .ok (.iaload, 1) := by decide +kernel
theorem dX3_alongChain_30 : decode cX3_alongChain 30 = .ok (.iconst 2, 1) := by decide +kernel
theorem dX3_alongChain_31 : decode cX3_alongChain 31 = .ok (.irem, 1) := by decide +kernel
theorem dX3_alongChain_32 : decode cX3_alongChain 32 = .ok (.aload_n 0, 1) := by decide +kernel
theorem dX3_alongChain_33 : decode cX3_alongChain 33 = .ok (.getfield 46, 3) := by decide +kernel
theorem dX3_alongChain_36 : decode cX3_alongChain 36 = .ok (.iload_n 1, 1) := by decide +kernel
theorem dX3_alongChain_37 : decode cX3_alongChain 37 = .ok (.iaload, 1) := by decide +kernel
theorem dX3_alongChain_38 : decode cX3_alongChain 38 = .ok (.invokestatic 68, 3) := by decide +kernel
theorem dX3_alongChain_41 : decode cX3_alongChain 41 = .ok (.istore_n 3, 1) := by decide +kernel
theorem dX3_alongChain_42 : decode cX3_alongChain 42 = .ok (.aload_n 0, 1) := by decide +kernel
theorem dX3_alongChain_43 : decode cX3_alongChain 43 = .ok (.getfield 22, 3) := by decide +kernel
theorem dX3_alongChain_46 : decode cX3_alongChain 46 = .ok (.iload_n 3, 1) := by decide +kernel
theorem dX3_alongChain_47 : decode cX3_alongChain 47 = .ok (.iaload, 1) := by decide +kernel
theorem dX3_alongChain_48 : decode cX3_alongChain 48 = .ok (.iconst 1, 1) := by decide +kernel
theorem dX3_alongChain_49 : decode cX3_alongChain 49 = .ok (.if_icmp .ne 6, 3) := by decide +kernel
theorem dX3_alongChain_52 : decode cX3_alongChain 52 = .ok (.bipush (-3), 2) := by decide +kernel
theorem dX3_alongChain_54 : decode cX3_alongChain 54 = .ok (.ireturn, 1) := by decide +kernel
theorem dX3_alongChain_55 : decode cX3_alongChain 55 = .ok (.aload_n 0, 1) := by decide +kernel
theorem dX3_alongChain_56 : decode cX3_alongChain 56 = .ok (.getfield 19, 3) := by decide +kernel
theorem dX3_alongChain_59 : decode cX3_alongChain 59 = .ok (.iload_n 3, 1) := by decide +kernel
theorem dX3_alongChain_60 : decode cX3_alongChain 60 = .ok (.iaload, 1) := by decide +kernel
theorem dX3_alongChain_61 : decode cX3_alongChain 61 = .ok (.aload_n 0, 1) := by decide +kernel
theorem dX3_alongChain_62 : decode cX3_alongChain 62 = .ok (.getfield 28, 3) := by decide +kernel
theorem dX3_alongChain_65 : decode cX3_alongChain 65 = .ok (.iload_n 1, 1) := by decide +kernel
theorem dX3_alongChain_66 : decode cX3_alongChain 66 = .ok (.iaload, 1) := by decide +kernel
theorem dX3_alongChain_67 : decode cX3_alongChain 67 = .ok (.if_icmp .le 11, 3) := by decide +kernel
theorem dX3_alongChain_70 : decode cX3_alongChain 70 = .ok (.aload_n 0, 1) := by decide +kernel
theorem dX3_alongChain_71 : decode cX3_alongChain 71 = .ok (.iload_n 1, 1) := by decide +kernel
theorem dX3_alongChain_72 : decode cX3_alongChain 72 = .ok (.iconst 2, 1) := by decide +kernel
theorem dX3_alongChain_73 : decode cX3_alongChain 73 = .ok (.iconst 0, 1) := by decide +kernel
theorem dX3_alongChain_74 : decode cX3_alongChain 74 = .ok (.invokevirtual 72, 3) := by decide +kernel
theorem dX3_alongChain_77 : decode cX3_alongChain 77 = .ok (.ireturn, 1) := by decide +kernel
theorem dX3_alongChain_78 : decode cX3_alongChain 78 = .ok (.aload_n 0, 1) := by decide +kernel
theorem dX3_alongChain_79 : decode cX3_alongChain 79 = .ok (.iload_n 3, 1) := by decide +kernel
theorem dX3_alongChain_80 : decode cX3_alongChain 80 = .ok (.aload_n 0, 1) := by decide +kernel
theorem dX3_alongChain_81 : decode cX3_alongChain 81 = .ok (.getfield 40, 3) := by decide +kernel
theorem dX3_alongChain_84 : decode cX3_alongChain 84 = .ok (.iload_n 1, 1) := by decide +kernel
theorem dX3_alongChain_85 : decode cX3_alongChain 85 = .ok (.iaload, 1) := by decide +kernel
theorem dX3_alongChain_86 : decode cX3_alongChain 86 = .ok (.invokevirtual 75, 3) := by decide +kernel
theorem dX3_alongChain_89 : decode cX3_alongChain 89 = .ok (.istore 4, 2) := by decide +kernel
theorem dX3_alongChain_91 : decode cX3_alongChain 91 = .ok (.aload_n 0, 1) := by decide +kernel
theorem dX3_alongChain_92 : decode cX3_alongChain 92 = .ok (.getfield 25, 3) := by decide +kernel
theorem dX3_alongChain_95 : decode cX3_alongChain 95 = .ok (.iload_n 1, 1) := by decide +kernel
theorem dX3_alongChain_96 : decode cX3_alongChain 96 = .ok (.iaload, 1) := by decide +kernel
theorem dX3_alongChain_97 : decode cX3_alongChain 97 = .ok (.iconst 1, 1) := by decide +kernel
theorem dX3_alongChain_98 : decode cX3_alongChain 98 = .ok (.if_icmp .ne 28, 3) := by decide +kernel
theorem dX3_alongChain_101 : decode cX3_alongChain 101 = .ok (.iload 4, 2) := by decide +kernel
theorem dX3_alongChain_103 : decode cX3_alongChain 103 = .ok (.bipush (-2), 2) := by decide +kernel
theorem dX3_alongChain_105 : decode cX3_alongChain 105 = .ok (.if_icmp .eq 49, 3) := by decide +kernel
theorem dX3_alongChain_108 : decode cX3_alongChain 108 = .ok (.aload_n 0, 1) := by decide +kernel
theorem dX3_alongChain_109 : decode cX3_alongChain 109 = .ok (.getfield 46, 3) := by decide +kernel
theorem dX3_alongChain_112 : decode cX3_alongChain 112 = .ok (.iload_n 1, 1) := by decide +kernel
theorem dX3_alongChain_113 : decode cX3_alongChain 113 = .ok (.iaload, 1) := by decide +kernel
theorem dX3_alongChain_114 : decode cX3_alongChain 114 = .ok (.ifCond .ne 40, 3) := by decide +kernel
theorem dX3_alongChain_117 : decode cX3_alongChain 117 = .ok (.aload_n 0, 1) := by decide +kernel
theorem dX3_alongChain_118 : decode cX3_alongChain 118 = .ok (.getfield 40, 3) := by decide +kernel
theorem dX3_alongChain_121 : decode cX3_alongChain 121 = .ok (.iload_n 1, 1) := by decide +kernel
theorem dX3_alongChain_122 : decode cX3_alongChain 122 = .ok (.iconst (-1), 1) := by decide +kernel
theorem dX3_alongChain_123 : decode cX3_alongChain 123 = .ok (.iastore, 1) := by decide +kernel
theorem dX3_alongChain_124 : decode cX3_alongChain 124 = .ok (.iconst 0, 1) := by decide +kernel
theorem dX3_alongChain_125 : decode cX3_alongChain 125 = .ok (.ireturn, 1) := by decide +kernel
theorem dX3_alongChain_126 : decode cX3_alongChain 126 = .ok (.aload_n 0, 1) := by decide +kernel
theorem dX3_alongChain_127 : decode cX3_alongChain 127 = .ok (.getfield 46, 3) := by decide +kernel
theorem dX3_alongChain_130 : decode cX3_alongChain 130 = .ok (.iload_n 1, 1) := by decide +kernel
theorem dX3_alongChain_131 : decode cX3_alongChain 131 = .ok (.iaload, 1) := by decide +kernel
theorem dX3_alongChain_132 : decode cX3_alongChain 132 = .ok (.ifCond .ne 22, 3) := by decide +kernel
theorem dX3_alongChain_135 : decode cX3_alongChain 135 = .ok (.aload_n 0, 1) := by decide +kernel
theorem dX3_alongChain_136 : decode cX3_alongChain 136 = .ok (.getfield 43, 3) := by decide +kernel
theorem dX3_alongChain_139 : decode cX3_alongChain 139 = .ok (.iload_n 1, 1) := by decide +kernel
theorem dX3_alongChain_140 : decode cX3_alongChain 140 = .ok (.iload 4, 2) := by decide +kernel
theorem dX3_alongChain_142 : decode cX3_alongChain 142 = .ok (.bipush (-2), 2) := by decide +kernel
theorem dX3_alongChain_144 : decode cX3_alongChain 144 = .ok (.if_icmp .ne 7, 3) := by decide +kernel
theorem dX3_alongChain_147 : decode cX3_alongChain 147 = .ok (.iconst (-1), 1) := by decide +kernel
theorem dX3_alongChain_148 : decode cX3_alongChain 148 = .ok (.goto 5, 3) := by decide +kernel
theorem dX3_alongChain_151 : decode cX3_alongChain 151 = .ok (.iload 4, 2) := by decide +kernel
theorem dX3_alongChain_153 : decode cX3_alongChain 153 = .ok (.iastore, 1) := by decide +kernel
theorem dX3_alongChain_154 : decode cX3_alongChain 154 = .ok (.iload 4, 2) := by decide +kernel
theorem dX3_alongChain_156 : decode cX3_alongChain 156 = .ok (.bipush (-2), 2) := by decide +kernel
theorem dX3_alongChain_158 : decode cX3_alongChain 158 = .ok (.if_icmp .ne 20, 3) := by decide +kernel
theorem dX3_alongChain_161 : decode cX3_alongChain 161 = .ok (.aload_n 0, 1) := by decide +kernel
theorem dX3_alongChain_162 : decode cX3_alongChain 162 = .ok (.iload_n 3, 1) := by decide +kernel
theorem dX3_alongChain_163 : decode cX3_alongChain 163 = .ok (.aload_n 0, 1) := by decide +kernel
theorem dX3_alongChain_164 : decode cX3_alongChain 164 = .ok (.getfield 40, 3) := by decide +kernel
theorem dX3_alongChain_167 : decode cX3_alongChain 167 = .ok (.iload_n 1, 1) := by decide +kernel
theorem dX3_alongChain_168 : decode cX3_alongChain 168 = .ok (.iaload, 1) := by decide +kernel
theorem dX3_alongChain_169 : decode cX3_alongChain 169 = .ok (.aload_n 0, 1) := by decide +kernel
theorem dX3_alongChain_170 : decode cX3_alongChain 170 = .ok (.getfield 43, 3) := by decide +kernel
theorem dX3_alongChain_173 : decode cX3_alongChain 173 = .ok (.iload_n 1, 1) := by decide +kernel
theorem dX3_alongChain_174 : decode cX3_alongChain 174 = .ok (.iaload, 1) := by decide +kernel
theorem dX3_alongChain_175 : decode cX3_alongChain 175 = .ok (.invokevirtual 78, 3) := by decide +kernel
theorem dX3_alongChain_178 : decode cX3_alongChain 178 = .ok (.aload_n 0, 1) := by decide +kernel
theorem dX3_alongChain_179 : decode cX3_alongChain 179 = .ok (.getfield 46, 3) := by decide +kernel
theorem dX3_alongChain_182 : decode cX3_alongChain 182 = .ok (.iload_n 1, 1) := by decide +kernel
theorem dX3_alongChain_183 : decode cX3_alongChain 183 = .ok (.aload_n 0, 1) := by decide +kernel
theorem dX3_alongChain_184 : decode cX3_alongChain 184 = .ok (.getfield 46, 3) := by decide +kernel
theorem dX3_alongChain_187 : decode cX3_alongChain 187 = .ok (.iload_n 1, 1) := by decide +kernel
theorem dX3_alongChain_188 : decode cX3_alongChain 188 = .ok (.iaload, 1) := by decide +kernel
theorem dX3_alongChain_189 : decode cX3_alongChain 189 = .ok (.iconst 1, 1) := by decide +kernel
theorem dX3_alongChain_190 : decode cX3_alongChain 190 = .ok (.iadd, 1) := by decide +kernel
theorem dX3_alongChain_191 : decode cX3_alongChain 191 = .ok (.iastore, 1) := by decide +kernel
theorem dX3_alongChain_192 : decode cX3_alongChain 192 = .ok (.aload_n 0, 1) := by decide +kernel
theorem dX3_alongChain_193 : decode cX3_alongChain 193 = .ok (.getfield 46, 3) := by decide +kernel
theorem dX3_alongChain_196 : decode cX3_alongChain 196 = .ok (.iload_n 1, 1) := by decide +kernel
theorem dX3_alongChain_197 : decode cX3_alongChain 197 = .ok (.iaload, 1) := by decide +kernel
theorem dX3_alongChain_198 : decode cX3_alongChain 198 = .ok (.iload_n 2, 1) := by decide +kernel
theorem dX3_alongChain_199 : decode cX3_alongChain 199 = .ok (.if_icmp .ge 5, 3) := by decide +kernel
theorem dX3_alongChain_202 : decode cX3_alongChain 202 = .ok (.iconst 0, 1) := by decide +kernel
theorem dX3_alongChain_203 : decode cX3_alongChain 203 = .ok (.ireturn, 1) := by decide +kernel
theorem dX3_alongChain_204 : decode cX3_alongChain 204 = .ok (.aload_n 0, 1) := by decide +kernel
theorem dX3_alongChain_205 : decode cX3_alongChain 205 = .ok (.iload_n 1, 1) := by decide +kernel
theorem dX3_alongChain_206 : decode cX3_alongChain 206 = .ok (.iconst 1, 1) := by decide +kernel
theorem dX3_alongChain_207 : decode cX3_alongChain 207 = .ok (.aload_n 0, 1) := by decide +kernel
theorem dX3_alongChain_208 : decode cX3_alongChain 208 = .ok (.getfield 25, 3) := by decide +kernel
theorem dX3_alongChain_211 : decode cX3_alongChain 211 = .ok (.iload_n 1, 1) := by decide +kernel
theorem dX3_alongChain_212 : decode cX3_alongChain 212 = .ok (.iaload, 1) := by decide +kernel
theorem dX3_alongChain_213 : decode cX3_alongChain 213 = .ok (.iconst 1, 1) := by decide +kernel
theorem dX3_alongChain_214 : decode cX3_alongChain 214 = .ok (.if_icmp .ne 12, 3) := by decide +kernel
theorem dX3_alongChain_217 : decode cX3_alongChain 217 = .ok (.aload_n 0, 1) := by decide +kernel
theorem dX3_alongChain_218 : decode cX3_alongChain 218 = .ok (.getfield 40, 3) := by decide +kernel
theorem dX3_alongChain_221 : decode cX3_alongChain 221 = .ok (.iload_n 1, 1) := by decide +kernel
theorem dX3_alongChain_222 : decode cX3_alongChain 222 = .ok (.iaload, 1) := by decide +kernel
theorem dX3_alongChain_223 : decode cX3_alongChain 223 = .ok (.goto 9, 3) := by decide +kernel
theorem dX3_alongChain_226 : decode cX3_alongChain 226 = .ok (.aload_n 0, 1) := by decide +kernel
theorem dX3_alongChain_227 : decode cX3_alongChain 227 = .ok (.getfield 43, 3) := by decide +kernel
theorem dX3_alongChain_230 : decode cX3_alongChain 230 = .ok (.iload_n 1, 1) := by decide +kernel
theorem dX3_alongChain_231 : decode cX3_alongChain 231 = .ok (.iaload, 1) := by decide +kernel
theorem dX3_alongChain_232 : decode cX3_alongChain 232 = .ok (.invokevirtual 72, 3) := by decide +kernel
theorem dX3_alongChain_235 : decode cX3_alongChain 235 = .ok (.ireturn, 1) := by decide +kernel
set_option maxRecDepth 20000 in
theorem ggX3_atTail_X3_end : GoodIn wsX3_atTail wsX3_end := goodIn_r _ [13, 1, 14, 15, 30, 31, 32, 33, 34, 35, 36, 37, 38, 39, 40, 41, 42, 43, 44, 45, 46, 47, 48] (by decide +kernel) (by decide +kernel)
set_option maxRecDepth 20000 in
theorem gX3_atTail_X3_end : GoodIn wsX3_atTail (wsV RX3 72 RX3 yX3_end wsX3_end) := goodIn_app (goodIn_of _ (by decide +kernel)) ggX3_atTail_X3_end
set_option maxRecDepth 20000 in
theorem ggX3_atTail_X3_length : GoodIn wsX3_atTail wsX3_length := goodIn_r _ [18] (by decide +kernel) (by decide +kernel)
set_option maxRecDepth 20000 in
theorem gX3_atTail_X3_length : GoodIn wsX3_atTail (va_wsS RX3 64 yX3_length wsX3_length) := goodIn_app (goodIn_of _ (by decide +kernel)) ggX3_atTail_X3_length
set_option maxRecDepth 20000 in
theorem ggX3_atTail_X3_nth : GoodIn wsX3_atTail wsX3_nth := goodIn_r _ [21] (by decide +kernel) (by decide +kernel)
set_option maxRecDepth 20000 in
theorem gX3_atTail_X3_nth : GoodIn wsX3_atTail (va_wsS RX3 68 yX3_nth wsX3_nth) := goodIn_app (goodIn_of _ (by decide +kernel)) ggX3_atTail_X3_nth
set_option maxRecDepth 20000 in
theorem ggX3_atTail_X3_look : GoodIn wsX3_atTail wsX3_look := goodIn_r _ [25, 26, 27, 28, 29, 30, 31, 32, 33, 34, 35, 36, 37, 38, 39, 40, 41, 42, 43, 44, 45, 46, 47, 48] (by decide +kernel) (by decide +kernel)
set_option maxRecDepth 20000 in
theorem gX3_atTail_X3_look : GoodIn wsX3_atTail (wsV RX3 75 RX3 yX3_look wsX3_look) := goodIn_app (goodIn_of _ (by decide +kernel)) ggX3_atTail_X3_look
theorem dX3_atTail_0 : decode cX3_atTail 0 = .ok (.aload_n 0, 1) := by decide +kernel
theorem dX3_atTail_1 : decode cX3_atTail 1 = .ok (.getfield 25, 3) := by decide +kernel
theorem dX3_atTail_4 : decode cX3_atTail 4 = .ok (.iload_n 1, 1) := by decide +kernel
theorem dX3_atTail_5 : decode cX3_atTail 5 = .ok (.iaload, 1) := by decide +kernel
theorem dX3_atTail_6 : decode cX3_atTail 6 = .ok (.iconst 4, 1) := by decide +kernel
theorem dX3_atTail_7 : decode cX3_atTail 7 = .ok (.if_icmp .ne 31, 3) := by decide +kernel
theorem dX3_atTail_10 : decode cX3_atTail 10 = .ok (.aload_n 0, 1) := by decide +kernel
theorem dX3_atTail_11 : decode cX3_atTail 11 = .ok (.getfield 40, 3) := by decide +kernel
theorem dX3_atTail_14 : decode cX3_atTail 14 = .ok (.iload_n 1, 1) := by decide +kernel
theorem dX3_atTail_15 : decode cX3_atTail 15 = .ok (.iaload, 1) := by decide +kernel
theorem dX3_atTail_16 : decode cX3_atTail 16 = .ok (.aload_n 0, 1) := by decide +kernel
theorem dX3_atTail_17 : decode cX3_atTail 17 = .ok (.getfield 49, 3) := by decide +kernel
theorem dX3_atTail_20 : decode cX3_atTail 20 = .ok (.iload_n 1, 1) := by decide +kernel
theorem dX3_atTail_21 : decode cX3_atTail 21 = .ok (.iaload, 1) := by decide +kernel
theorem dX3_atTail_22 : decode cX3_atTail 22 = .ok (.if_icmp .ne 16, 3) := by decide +kernel
theorem dX3_atTail_25 : decode cX3_atTail 25 = .ok (.aload_n 0, 1) := by decide +kernel
theorem dX3_atTail_26 : decode cX3_atTail 26 = .ok (.iload_n 1, 1) := by decide +kernel
theorem dX3_atTail_27 : decode cX3_atTail 27 = .ok (.iconst 1, 1) := by decide +kernel
theorem dX3_atTail_28 : decode cX3_atTail 28 = .ok (.aload_n 0, 1) := by decide +kernel
theorem dX3_atTail_29 : decode cX3_atTail 29 = .ok (.getfield 43, 3) := by decide +kernel
theorem dX3_atTail_32 : decode cX3_atTail 32 = .ok (.iload_n 1, 1) := by decide +kernel
theorem dX3_atTail_33 : decode cX3_atTail 33 = .ok (.iaload, 1) := by decide +kernel
theorem dX3_atTail_34 : decode cX3_atTail 34 = .ok (.invokevirtual 72, 3) := by decide +kernel
theorem dX3_atTail_37 : decode cX3_atTail 37 = .ok (.ireturn, 1) := by decide +kernel
theorem dX3_atTail_38 : decode cX3_atTail 38 = .ok (.aload_n 0, 1) := by decide +kernel
theorem dX3_atTail_39 : decode cX3_atTail 39 = .ok (.getfield 31, 3) := by decide +kernel
theorem dX3_atTail_42 : decode cX3_atTail 42 = .ok (.iload_n 1, 1) := by decide +kernel
theorem dX3_atTail_43 : decode cX3_atTail 43 = .ok (.iaload, 1) := by decide +kernel
theorem dX3_atTail_44 : decode cX3_atTail 44 = .ok (.aload_n 0, 1) := by decide +kernel
theorem dX3_atTail_45 : decode cX3_atTail 45 = .ok (.getfield 40, 3) := by decide +kernel
theorem dX3_atTail_48 : decode cX3_atTail 48 = .ok (.iload_n 1, 1) := by decide +kernel
theorem dX3_atTail_49 : decode cX3_atTail 49 = .ok (.iaload, 1) := by decide +kernel
theorem dX3_atTail_50 : decode cX3_atTail 50 = .ok (.iconst 2, 1) := by decide +kernel
theorem dX3_atTail_51 : decode cX3_atTail 51 = .ok (.irem, 1) := by decide +kernel
theorem dX3_atTail_52 : decode cX3_atTail 52 = .ok (.invokestatic 64, 3) := by decide +kernel
theorem dX3_atTail_55 : decode cX3_atTail 55 = .ok (.istore_n 2, 1) := by decide +kernel
theorem dX3_atTail_56 : decode cX3_atTail 56 = .ok (.aload_n 0, 1) := by decide +kernel
theorem dX3_atTail_57 : decode cX3_atTail 57 = .ok (.getfield 31, 3) := by decide +kernel
theorem dX3_atTail_60 : decode cX3_atTail 60 = .ok (.iload_n 1, 1) := by decide +kernel
theorem dX3_atTail_61 : decode cX3_atTail 61 = .ok (.iaload, 1) := by decide +kernel
theorem dX3_atTail_62 : decode cX3_atTail 62 = .ok (.aload_n 0, 1) := by decide +kernel
theorem dX3_atTail_63 : decode cX3_atTail 63 = .ok (.getfield 40, 3) := by decide +kernel
theorem dX3_atTail_66 : decode cX3_atTail 66 = .ok (.iload_n 1, 1) := by decide +kernel
theorem dX3_atTail_67 : decode cX3_atTail 67 = .ok (.iaload, 1) := by decide +kernel
theorem dX3_atTail_68 : decode cX3_atTail 68 = .ok (.iconst 2, 1) := by decide +kernel
theorem dX3_atTail_69 : decode cX3_atTail 69 = .ok (.irem, 1) := by decide +kernel
theorem dX3_atTail_70 : decode cX3_atTail 70 = .ok (.iload_n 2, 1) := by decide +kernel
theorem dX3_atTail_71 : decode cX3_atTail 71 = .ok (.iconst 1, 1) := by decide +kernel
theorem dX3_atTail_72 : decode cX3_atTail 72 = .ok (.isub, 1) := by decide +kernel
theorem dX3_atTail_73 : decode cX3_atTail 73 = .ok (.invokestatic 68, 3) := by decide +kernel
theorem dX3_atTail_76 : decode cX3_atTail 76 = .ok (.istore_n 3, 1) := by decide +kernel
theorem dX3_atTail_77 : decode cX3_atTail 77 = .ok (.aload_n 0, 1) := by decide +kernel
theorem dX3_atTail_78 : decode cX3_atTail 78 = .ok (.getfield 22, 3) := by decide +kernel
theorem dX3_atTail_81 : decode cX3_atTail 81 = .ok (.iload_n 3, 1) := by decide +kernel
theorem dX3_atTail_82 : decode cX3_atTail 82 = .ok (.iaload, 1) := by decide +kernel
theorem dX3_atTail_83 : decode cX3_atTail 83 = .ok (.iconst 1, 1) := by decide +kernel
theorem dX3_atTail_84 : decode cX3_atTail 84 = .ok (.if_icmp .ne 6, 3) := by decide +kernel
theorem dX3_atTail_87 : decode cX3_atTail 87 = .ok (.bipush (-3), 2) := by decide +kernel
theorem dX3_atTail_89 : decode cX3_atTail 89 = .ok (.ireturn, 1) := by decide +kernel
theorem dX3_atTail_90 : decode cX3_atTail 90 = .ok (.aload_n 0, 1) := by decide +kernel
theorem dX3_atTail_91 : decode cX3_atTail 91 = .ok (.getfield 19, 3) := by decide +kernel
theorem dX3_atTail_94 : decode cX3_atTail 94 = .ok (.iload_n 3, 1) := by decide +kernel
theorem dX3_atTail_95 : decode cX3_atTail 95 = .ok (.iaload, 1) := by decide +kernel
theorem dX3_atTail_96 : decode cX3_atTail 96 = .ok (.aload_n 0, 1) := by decide +kernel
theorem dX3_atTail_97 : decode cX3_atTail 97 = .ok (.getfield 28, 3) := by decide +kernel
theorem dX3_atTail_100 : decode cX3_atTail 100 = .ok (.iload_n 1, 1) := by decide +kernel
theorem dX3_atTail_101 : decode cX3_atTail 101 = .ok (.iaload, 1) := by decide +kernel
theorem dX3_atTail_102 : decode cX3_atTail 102 = .ok (.if_icmp .le 11, 3) := by decide +kernel
theorem dX3_atTail_105 : decode cX3_atTail 105 = .ok (.aload_n 0, 1) := by decide +kernel
theorem dX3_atTail_106 : decode cX3_atTail 106 = .ok (.iload_n 1, 1) := by decide +kernel
theorem dX3_atTail_107 : decode cX3_atTail 107 = .ok (.iconst 2, 1) := by decide +kernel
theorem dX3_atTail_108 : decode cX3_atTail 108 = .ok (.iconst 0, 1) := by decide +kernel
theorem dX3_atTail_109 : decode cX3_atTail 109 = .ok (.invokevirtual 72, 3) := by decide +kernel
theorem dX3_atTail_112 : decode cX3_atTail 112 = .ok (.ireturn, 1) := by decide +kernel
theorem dX3_atTail_113 : decode cX3_atTail 113 = .ok (.aload_n 0, 1) := by decide +kernel
theorem dX3_atTail_114 : decode cX3_atTail 114 = .ok (.iload_n 3, 1) := by decide +kernel
theorem dX3_atTail_115 : decode cX3_atTail 115 = .ok (.aload_n 0, 1) := by decide +kernel
theorem dX3_atTail_116 : decode cX3_atTail 116 = .ok (.getfield 40, 3) := by decide +kernel
theorem dX3_atTail_119 : decode cX3_atTail 119 = .ok (.iload_n 1, 1) := by decide +kernel
theorem dX3_atTail_120 : decode cX3_atTail 120 = .ok (.iaload, 1) := by decide +kernel
theorem dX3_atTail_121 : decode cX3_atTail 121 = .ok (.invokevirtual 75, 3) := by decide +kernel
theorem dX3_atTail_124 : decode cX3_atTail 124 = .ok (.istore 4, 2) := by decide +kernel
theorem dX3_atTail_126 : decode cX3_atTail 126 = .ok (.aload_n 0, 1) := by decide +kernel
theorem dX3_atTail_127 : decode cX3_atTail 127 = .ok (.getfield 25, 3) := by decide +kernel
theorem dX3_atTail_130 : decode cX3_atTail 130 = .ok (.iload_n 1, 1) := by decide +kernel
theorem dX3_atTail_131 : decode cX3_atTail 131 = .ok (.iaload, 1) := by decide +kernel
theorem dX3_atTail_132 : decode cX3_atTail 132 = .ok (.iconst 3, 1) := by decide +kernel
theorem dX3_atTail_133 : decode cX3_atTail 133 = .ok (.if_icmp .ne 30, 3) := by decide +kernel
theorem dX3_atTail_136 : decode cX3_atTail 136 = .ok (.iload 4, 2) := by decide +kernel
theorem dX3_atTail_138 : decode cX3_atTail 138 = .ok (.bipush (-2), 2) := by decide +kernel
theorem dX3_atTail_140 : decode cX3_atTail 140 = .ok (.if_icmp .ne 14, 3) := by decide +kernel
theorem dX3_atTail_143 : decode cX3_atTail 143 = .ok (.aload_n 0, 1) := by decide +kernel
theorem dX3_atTail_144 : decode cX3_atTail 144 = .ok (.iload_n 1, 1) := by decide +kernel
theorem dX3_atTail_145 : decode cX3_atTail 145 = .ok (.iconst 3, 1) := by decide +kernel
theorem dX3_atTail_146 : decode cX3_atTail 146 = .ok (.bipush (-2), 2) := by decide +kernel
theorem dX3_atTail_148 : decode cX3_atTail 148 = .ok (.invokevirtual 72, 3) := by decide +kernel
theorem dX3_atTail_151 : decode cX3_atTail 151 = .ok (.goto 11, 3) := by decide +kernel
theorem dX3_atTail_154 : decode cX3_atTail 154 = .ok (.aload_n 0, 1) := by decide +kernel
theorem dX3_atTail_155 : decode cX3_atTail 155 = .ok (.iload_n 1, 1) := by decide +kernel
theorem dX3_atTail_156 : decode cX3_atTail 156 = .ok (.iconst 1, 1) := by decide +kernel
theorem dX3_atTail_157 : decode cX3_atTail 157 = .ok (.iload 4, 2) := by decide +kernel
theorem dX3_atTail_159 : decode cX3_atTail 159 = .ok (.invokevirtual 72, 3) := by decide +kernel
theorem dX3_atTail_162 : decode cX3_atTail 162 = .ok (.ireturn, 1) := by decide +kernel
theorem dX3_atTail_163 : decode cX3_atTail 163 = .ok (.iload 4, 2) := by decide +kernel
theorem dX3_atTail_165 : decode cX3_atTail 165 = .ok (.bipush (-2), 2) := by decide +kernel
theorem dX3_atTail_167 : decode cX3_atTail 167 = .ok (.if_icmp .ne 16, 3) := by decide +kernel
theorem dX3_atTail_170 : decode cX3_atTail 170 = .ok (.aload_n 0, 1) := by decide +kernel
theorem dX3_atTail_171 : decode cX3_atTail 171 = .ok (.iload_n 1, 1) := by decide +kernel
theorem dX3_atTail_172 : decode cX3_atTail 172 = .ok (.iconst 3, 1) := by decide +kernel
theorem dX3_atTail_173 : decode cX3_atTail 173 = .ok (.aload_n 0, 1) := by decide +kernel
theorem dX3_atTail_174 : decode cX3_atTail 174 = .ok (.getfield 40, 3) := by decide +kernel
theorem dX3_atTail_177 : decode cX3_atTail 177 = .ok (.iload_n 1, 1) := by decide +kernel
theorem dX3_atTail_178 : decode cX3_atTail 178 = .ok (.iaload, 1) := by decide +kernel
theorem dX3_atTail_179 : decode cX3_atTail 179 = .ok (.invokevirtual 72, 3) := by decide +kernel
theorem dX3_atTail_182 : decode cX3_atTail 182 = .ok (.ireturn, 1) := by decide +kernel
theorem dX3_atTail_183 : decode cX3_atTail 183 = .ok (.iload 4, 2) := by decide +kernel
theorem dX3_atTail_185 : decode cX3_atTail 185 = .ok (.ifCond .lt 21, 3) := by decide +kernel
theorem dX3_atTail_188 : decode cX3_atTail 188 = .ok (.aload_n 0, 1) := by decide +kernel
theorem dX3_atTail_189 : decode cX3_atTail 189 = .ok (.getfield 43, 3) := by decide +kernel
theorem dX3_atTail_192 : decode cX3_atTail 192 = .ok (.iload_n 1, 1) := by decide +kernel
theorem dX3_atTail_193 : decode cX3_atTail 193 = .ok (.aload_n 0, 1) := by decide +kernel
theorem dX3_atTail_194 : decode cX3_atTail 194 = .ok (.getfield 43, 3) := by decide +kernel
theorem dX3_atTail_197 : decode cX3_atTail 197 = .ok (.iload_n 1, 1) := by decide +kernel
theorem dX3_atTail_198 : decode cX3_atTail 198 = .ok (.iaload, 1) := by decide +kernel
theorem dX3_atTail_199 : decode cX3_atTail 199 = .ok (.bipush 31, 2) := by decide +kernel
theorem dX3_atTail_201 : decode cX3_atTail 201 = .ok (.imul, 1) := by decide +kernel
theorem dX3_atTail_202 : decode cX3_atTail 202 = .ok (.iload 4, 2) := by decide +kernel
theorem dX3_atTail_204 : decode cX3_atTail 204 = .ok (.iadd, 1) := by decide +kernel
theorem dX3_atTail_205 : decode cX3_atTail 205 = .ok (.iastore, 1) := by decide +kernel
theorem dX3_atTail_206 : decode cX3_atTail 206 = .ok (.aload_n 0, 1) := by decide +kernel
theorem dX3_atTail_207 : decode cX3_atTail 207 = .ok (.getfield 40, 3) := by decide +kernel
theorem dX3_atTail_210 : decode cX3_atTail 210 = .ok (.iload_n 1, 1) := by decide +kernel
theorem dX3_atTail_211 : decode cX3_atTail 211 = .ok (.aload_n 0, 1) := by decide +kernel
theorem dX3_atTail_212 : decode cX3_atTail 212 = .ok (.getfield 40, 3) := by decide +kernel
theorem dX3_atTail_215 : decode cX3_atTail 215 = .ok (.iload_n 1, 1) := by decide +kernel
theorem dX3_atTail_216 : decode cX3_atTail 216 = .ok (.iaload, 1) := by decide +kernel
theorem dX3_atTail_217 : decode cX3_atTail 217 = .ok (.iconst 1, 1) := by decide +kernel
theorem dX3_atTail_218 : decode cX3_atTail 218 = .ok (.iadd, 1) := by decide +kernel
theorem dX3_atTail_219 : decode cX3_atTail 219 = .ok (.iastore, 1) := by decide +kernel
theorem dX3_atTail_220 : decode cX3_atTail 220 = .ok (.iconst 0, 1) := by decide +kernel
theorem dX3_atTail_221 : decode cX3_atTail 221 = .ok (.ireturn, 1) := by decide +kernel
set_option maxRecDepth 20000 in
theorem ggX3_seal_X3_nth : GoodIn wsX3_seal wsX3_nth := goodIn_r _ [18] (by decide +kernel) (by decide +kernel)
set_option maxRecDepth 20000 in
theorem gX3_seal_X3_nth : GoodIn wsX3_seal (va_wsS RX3 68 yX3_nth wsX3_nth) := goodIn_app (goodIn_of _ (by decide +kernel)) ggX3_seal_X3_nth
set_option maxRecDepth 20000 in
theorem ggX3_seal_X3_end : GoodIn wsX3_seal wsX3_end := goodIn_r _ [22, 23, 24, 25, 26, 27, 28, 29, 30, 31, 32, 33, 34, 35, 36, 37, 38, 39, 40, 41, 42, 43, 44] (by decide +kernel) (by decide +kernel)
set_option maxRecDepth 20000 in
theorem gX3_seal_X3_end : GoodIn wsX3_seal (wsV RX3 72 RX3 yX3_end wsX3_end) := goodIn_app (goodIn_of _ (by decide +kernel)) ggX3_seal_X3_end
theorem dX3_seal_0 : decode cX3_seal 0 = .ok (.aload_n 0, 1) := by decide +kernel
theorem dX3_seal_1 : decode cX3_seal 1 = .ok (.getfield 49, 3) := by decide +kernel
theorem dX3_seal_4 : decode cX3_seal 4 = .ok (.iload_n 1, 1) := by decide +kernel
theorem dX3_seal_5 : decode cX3_seal 5 = .ok (.iaload, 1) := by decide +kernel
theorem dX3_seal_6 : decode cX3_seal 6 = .ok (.iconst 2, 1) := by decide +kernel
theorem dX3_seal_7 : decode cX3_seal 7 = .ok (.aload_n 0, 1) := by decide +kernel
theorem dX3_seal_8 : decode cX3_seal 8 = .ok (.getfield 46, 3) := by decide +kernel
theorem dX3_seal_11 : decode cX3_seal 11 = .ok (.iload_n 1, 1) := by decide +kernel
theorem dX3_seal_12 : decode cX3_seal 12 = .ok (.iaload, 1) := by decide +kernel
theorem dX3_seal_13 : decode cX3_seal 13 = .ok (.invokestatic 68, 3) := by decide +kernel
theorem dX3_seal_16 : decode cX3_seal 16 = .ok (.istore_n 2, 1) := by decide +kernel
theorem dX3_seal_17 : decode cX3_seal 17 = .ok (.iload_n 2, 1) := by decide +kernel
theorem dX3_seal_18 : decode cX3_seal 18 = .ok (.ifCond .lt 128, 3) := by decide +kernel
theorem dX3_seal_21 : decode cX3_seal 21 = .ok (.aload_n 0, 1) := by decide +kernel
theorem dX3_seal_22 : decode cX3_seal 22 = .ok (.getfield 22, 3) := by decide +kernel
theorem dX3_seal_25 : decode cX3_seal 25 = .ok (.iload_n 2, 1) := by decide +kernel
theorem dX3_seal_26 : decode cX3_seal 26 = .ok (.iaload, 1) := by decide +kernel
theorem dX3_seal_27 : decode cX3_seal 27 = .ok (.iconst 1, 1) := by decide +kernel
theorem dX3_seal_28 : decode cX3_seal 28 = .ok (.if_icmp .ne 6, 3) := by decide +kernel
theorem dX3_seal_31 : decode cX3_seal 31 = .ok (.bipush (-3), 2) := by decide +kernel
theorem dX3_seal_33 : decode cX3_seal 33 = .ok (.ireturn, 1) := by decide +kernel
theorem dX3_seal_34 : decode cX3_seal 34 = .ok (.aload_n 0, 1) := by decide +kernel
theorem dX3_seal_35 : decode cX3_seal 35 = .ok (.getfield 19, 3) := by decide +kernel
theorem dX3_seal_38 : decode cX3_seal 38 = .ok (.iload_n 2, 1) := by decide +kernel
theorem dX3_seal_39 : decode cX3_seal 39 = .ok (.iaload, 1) := by decide +kernel
theorem dX3_seal_40 : decode cX3_seal 40 = .ok (.aload_n 0, 1) := by decide +kernel
theorem dX3_seal_41 : decode cX3_seal 41 = .ok (.getfield 28, 3) := by decide +kernel
theorem dX3_seal_44 : decode cX3_seal 44 = .ok (.iload_n 1, 1) := by decide +kernel
theorem dX3_seal_45 : decode cX3_seal 45 = .ok (.iaload, 1) := by decide +kernel
theorem dX3_seal_46 : decode cX3_seal 46 = .ok (.iconst 1, 1) := by decide +kernel
theorem dX3_seal_47 : decode cX3_seal 47 = .ok (.iadd, 1) := by decide +kernel
theorem dX3_seal_48 : decode cX3_seal 48 = .ok (.if_icmp .le 11, 3) := by decide +kernel
theorem dX3_seal_51 : decode cX3_seal 51 = .ok (.aload_n 0, 1) := by decide +kernel
theorem dX3_seal_52 : decode cX3_seal 52 = .ok (.iload_n 1, 1) := by decide +kernel
theorem dX3_seal_53 : decode cX3_seal 53 = .ok (.iconst 2, 1) := by decide +kernel
theorem dX3_seal_54 : decode cX3_seal 54 = .ok (.iconst 0, 1) := by decide +kernel
theorem dX3_seal_55 : decode cX3_seal 55 = .ok (.invokevirtual 72, 3) := by decide +kernel
theorem dX3_seal_58 : decode cX3_seal 58 = .ok (.ireturn, 1) := by decide +kernel
theorem dX3_seal_59 : decode cX3_seal 59 = .ok (.aload_n 0, 1) := by decide +kernel
theorem dX3_seal_60 : decode cX3_seal 60 = .ok (.getfield 19, 3) := by decide +kernel
theorem dX3_seal_63 : decode cX3_seal 63 = .ok (.iload_n 2, 1) := by decide +kernel
theorem dX3_seal_64 : decode cX3_seal 64 = .ok (.aload_n 0, 1) := by decide +kernel
theorem dX3_seal_65 : decode cX3_seal 65 = .ok (.getfield 28, 3) := by decide +kernel
theorem dX3_seal_68 : decode cX3_seal 68 = .ok (.iload_n 1, 1) := by decide +kernel
theorem dX3_seal_69 : decode cX3_seal 69 = .ok (.iaload, 1) := by decide +kernel
theorem dX3_seal_70 : decode cX3_seal 70 = .ok (.iconst 1, 1) := by decide +kernel
theorem dX3_seal_71 : decode cX3_seal 71 = .ok (.iadd, 1) := by decide +kernel
theorem dX3_seal_72 : decode cX3_seal 72 = .ok (.iastore, 1) := by decide +kernel
theorem dX3_seal_73 : decode cX3_seal 73 = .ok (.iconst 0, 1) := by decide +kernel
theorem dX3_seal_74 : decode cX3_seal 74 = .ok (.istore_n 3, 1) := by decide +kernel
theorem dX3_seal_75 : decode cX3_seal 75 = .ok (.iload_n 3, 1) := by decide +kernel
theorem dX3_seal_76 : decode cX3_seal 76 = .ok (.aload_n 0, 1) := by decide +kernel
theorem dX3_seal_77 : decode cX3_seal 77 = .ok (.getfield 56, 3) := by decide +kernel
theorem dX3_seal_80 : decode cX3_seal 80 = .ok (.if_icmp .ge 50, 3) := by decide +kernel
theorem dX3_seal_83 : decode cX3_seal 83 = .ok (.aload_n 0, 1) := by decide +kernel
theorem dX3_seal_84 : decode cX3_seal 84 = .ok (.getfield 7, 3) := by decide +kernel
theorem dX3_seal_87 : decode cX3_seal 87 = .ok (.iload_n 3, 1) := by decide +kernel
theorem dX3_seal_88 : decode cX3_seal 88 = .ok (.iaload, 1) := by decide +kernel
theorem dX3_seal_89 : decode cX3_seal 89 = .ok (.iload_n 2, 1) := by decide +kernel
theorem dX3_seal_90 : decode cX3_seal 90 = .ok (.if_icmp .ne 34, 3) := by decide +kernel
theorem dX3_seal_93 : decode cX3_seal 93 = .ok (.aload_n 0, 1) := by decide +kernel
theorem dX3_seal_94 : decode cX3_seal 94 = .ok (.getfield 13, 3) := by decide +kernel
theorem dX3_seal_97 : decode cX3_seal 97 = .ok (.iload_n 3, 1) := by decide +kernel
theorem dX3_seal_98 : decode cX3_seal 98 = .ok (.iaload, 1) := by decide +kernel
theorem dX3_seal_99 : decode cX3_seal 99 = .ok (.iconst 1, 1) := by decide +kernel
theorem dX3_seal_100 : decode cX3_seal 100 = .ok (.iadd, 1) := by decide +kernel
theorem dX3_seal_101 : decode cX3_seal 101 = .ok (.aload_n 0, 1) := by decide +kernel
theorem dX3_seal_102 : decode cX3_seal 102 = .ok (.getfield 43, 3) := by decide +kernel
theorem dX3_seal_105 : decode cX3_seal 105 = .ok (.iload_n 1, 1) := by decide +kernel
theorem dX3_seal_106 : decode cX3_seal 106 = .ok (.iaload, 1) := by decide +kernel
theorem dX3_seal_107 : decode cX3_seal 107 = .ok (.if_icmp .le 17, 3) := by decide +kernel
theorem dX3_seal_110 : decode cX3_seal 110 = .ok (.aload_n 0, 1) := by decide +kernel
theorem dX3_seal_111 : decode cX3_seal 111 = .ok (.getfield 43, 3) := by decide +kernel
theorem dX3_seal_114 : decode cX3_seal 114 = .ok (.iload_n 1, 1) := by decide +kernel
theorem dX3_seal_115 : decode cX3_seal 115 = .ok (.aload_n 0, 1) := by decide +kernel
theorem dX3_seal_116 : decode cX3_seal 116 = .ok (.getfield 13, 3) := by decide +kernel
theorem dX3_seal_119 : decode cX3_seal 119 = .ok (.iload_n 3, 1) := by decide +kernel
theorem dX3_seal_120 : decode cX3_seal 120 = .ok (.iaload, 1) := by decide +kernel
theorem dX3_seal_121 : decode cX3_seal 121 = .ok (.iconst 1, 1) := by decide +kernel
theorem dX3_seal_122 : decode cX3_seal 122 = .ok (.iadd, 1) := by decide +kernel
theorem dX3_seal_123 : decode cX3_seal 123 = .ok (.iastore, 1) := by decide +kernel
theorem dX3_seal_124 : decode cX3_seal 124 = .ok (.iinc 3 1, 3) := by decide +kernel
theorem dX3_seal_127 : decode cX3_seal 127 = .ok (.goto (-52), 3) := by decide +kernel
theorem dX3_seal_130 : decode cX3_seal 130 = .ok (.aload_n 0, 1) := by decide +kernel
theorem dX3_seal_131 : decode cX3_seal 131 = .ok (.getfield 46, 3) := by decide +kernel
theorem dX3_seal_134 : decode cX3_seal 134 = .ok (.iload_n 1, 1) := by decide +kernel
theorem dX3_seal_135 : decode cX3_seal 135 = .ok (.aload_n 0, 1) := by decide +kernel
theorem dX3_seal_136 : decode cX3_seal 136 = .ok (.getfield 46, 3) := by decide +kernel
theorem dX3_seal_139 : decode cX3_seal 139 = .ok (.iload_n 1, 1) := by decide +kernel
theorem dX3_seal_140 : decode cX3_seal 140 = .ok (.iaload, 1) := by decide +kernel
theorem dX3_seal_141 : decode cX3_seal 141 = .ok (.iconst 1, 1) := by decide +kernel
theorem dX3_seal_142 : decode cX3_seal 142 = .ok (.iadd, 1) := by decide +kernel
theorem dX3_seal_143 : decode cX3_seal 143 = .ok (.iastore, 1) := by decide +kernel
theorem dX3_seal_144 : decode cX3_seal 144 = .ok (.iconst 0, 1) := by decide +kernel
theorem dX3_seal_145 : decode cX3_seal 145 = .ok (.ireturn, 1) := by decide +kernel
theorem dX3_seal_146 : decode cX3_seal 146 = .ok (.aload_n 0, 1) := by decide +kernel
theorem dX3_seal_147 : decode cX3_seal 147 = .ok (.getfield 82, 3) := by decide +kernel
theorem dX3_seal_150 : decode cX3_seal 150 = .ok (.aload_n 0, 1) := by decide +kernel
theorem dX3_seal_151 : decode cX3_seal 151 = .ok (.getfield 28, 3) := by decide +kernel
theorem dX3_seal_154 : decode cX3_seal 154 = .ok (.iload_n 1, 1) := by decide +kernel
theorem dX3_seal_155 : decode cX3_seal 155 = .ok (.iaload, 1) := by decide +kernel
theorem dX3_seal_156 : decode cX3_seal 156 = .ok (.if_icmp .eq 14, 3) := by decide +kernel
theorem dX3_seal_159 : decode cX3_seal 159 = .ok (.aload_n 0, 1) := by decide +kernel
theorem dX3_seal_160 : decode cX3_seal 160 = .ok (.iload_n 1, 1) := by decide +kernel
theorem dX3_seal_161 : decode cX3_seal 161 = .ok (.iconst 5, 1) := by decide +kernel
theorem dX3_seal_162 : decode cX3_seal 162 = .ok (.aload_n 0, 1) := by decide +kernel
theorem dX3_seal_163 : decode cX3_seal 163 = .ok (.getfield 82, 3) := by decide +kernel
theorem dX3_seal_166 : decode cX3_seal 166 = .ok (.invokevirtual 72, 3) := by decide +kernel
theorem dX3_seal_169 : decode cX3_seal 169 = .ok (.ireturn, 1) := by decide +kernel
theorem dX3_seal_170 : decode cX3_seal 170 = .ok (.aload_n 0, 1) := by decide +kernel
theorem dX3_seal_171 : decode cX3_seal 171 = .ok (.aload_n 0, 1) := by decide +kernel
theorem dX3_seal_172 : decode cX3_seal 172 = .ok (.getfield 28, 3) := by decide +kernel
theorem dX3_seal_175 : decode cX3_seal 175 = .ok (.iload_n 1, 1) := by decide +kernel
theorem dX3_seal_176 : decode cX3_seal 176 = .ok (.iaload, 1) := by decide +kernel
theorem dX3_seal_177 : decode cX3_seal 177 = .ok (.iconst 1, 1) := by decide +kernel
theorem dX3_seal_178 : decode cX3_seal 178 = .ok (.iadd, 1) := by decide +kernel
theorem dX3_seal_179 : decode cX3_seal 179 = .ok (.putfield 82, 3) := by decide +kernel
theorem dX3_seal_182 : decode cX3_seal 182 = .ok (.aload_n 0, 1) := by decide +kernel
theorem dX3_seal_183 : decode cX3_seal 183 = .ok (.aload_n 0, 1) := by decide +kernel
theorem dX3_seal_184 : decode cX3_seal 184 = .ok (.getfield 49, 3) := by decide +kernel
theorem dX3_seal_187 : decode cX3_seal 187 = .ok (.iload_n 1, 1) := by decide +kernel
theorem dX3_seal_188 : decode cX3_seal 188 = .ok (.iaload, 1) := by decide +kernel
theorem dX3_seal_189 : decode cX3_seal 189 = .ok (.putfield 52, 3) := by decide +kernel
theorem dX3_seal_192 : decode cX3_seal 192 = .ok (.aload_n 0, 1) := by decide +kernel
theorem dX3_seal_193 : decode cX3_seal 193 = .ok (.aload_n 0, 1) := by decide +kernel
theorem dX3_seal_194 : decode cX3_seal 194 = .ok (.getfield 82, 3) := by decide +kernel
theorem dX3_seal_197 : decode cX3_seal 197 = .ok (.putfield 85, 3) := by decide +kernel
theorem dX3_seal_200 : decode cX3_seal 200 = .ok (.aload_n 0, 1) := by decide +kernel
theorem dX3_seal_201 : decode cX3_seal 201 = .ok (.aload_n 0, 1) := by decide +kernel
theorem dX3_seal_202 : decode cX3_seal 202 = .ok (.getfield 43, 3) := by decide +kernel
theorem dX3_seal_205 : decode cX3_seal 205 = .ok (.iload_n 1, 1) := by decide +kernel
theorem dX3_seal_206 : decode cX3_seal 206 = .ok (.iaload, 1) := by decide +kernel
theorem dX3_seal_207 : decode cX3_seal 207 = .ok (.putfield 88, 3) := by decide +kernel
theorem dX3_seal_210 : decode cX3_seal 210 = .ok (.aload_n 0, 1) := by decide +kernel
theorem dX3_seal_211 : decode cX3_seal 211 = .ok (.getfield 28, 3) := by decide +kernel
theorem dX3_seal_214 : decode cX3_seal 214 = .ok (.iload_n 1, 1) := by decide +kernel
theorem dX3_seal_215 : decode cX3_seal 215 = .ok (.aload_n 0, 1) := by decide +kernel
theorem dX3_seal_216 : decode cX3_seal 216 = .ok (.getfield 82, 3) := by decide +kernel
theorem dX3_seal_219 : decode cX3_seal 219 = .ok (.iastore, 1) := by decide +kernel
theorem dX3_seal_220 : decode cX3_seal 220 = .ok (.aload_n 0, 1) := by decide +kernel
theorem dX3_seal_221 : decode cX3_seal 221 = .ok (.getfield 31, 3) := by decide +kernel
theorem dX3_seal_224 : decode cX3_seal 224 = .ok (.iload_n 1, 1) := by decide +kernel
theorem dX3_seal_225 : decode cX3_seal 225 = .ok (.aload_n 0, 1) := by decide +kernel
theorem dX3_seal_226 : decode cX3_seal 226 = .ok (.getfield 52, 3) := by decide +kernel
theorem dX3_seal_229 : decode cX3_seal 229 = .ok (.iastore, 1) := by decide +kernel
theorem dX3_seal_230 : decode cX3_seal 230 = .ok (.aload_n 0, 1) := by decide +kernel
theorem dX3_seal_231 : decode cX3_seal 231 = .ok (.iload_n 1, 1) := by decide +kernel
theorem dX3_seal_232 : decode cX3_seal 232 = .ok (.iconst 1, 1) := by decide +kernel
theorem dX3_seal_233 : decode cX3_seal 233 = .ok (.aload_n 0, 1) := by decide +kernel
theorem dX3_seal_234 : decode cX3_seal 234 = .ok (.getfield 82, 3) := by decide +kernel
theorem dX3_seal_237 : decode cX3_seal 237 = .ok (.invokevirtual 72, 3) := by decide +kernel
theorem dX3_seal_240 : decode cX3_seal 240 = .ok (.ireturn, 1) := by decide +kernel
set_option maxRecDepth 20000 in
theorem ggX3_step_X3_seal : GoodIn wsX3_step wsX3_seal := goodIn_r _ [11, 12, 6, 13, 14, 3, 15, 16, 17, 18, 19, 20, 4, 5, 21, 22, 23, 10, 24, 25, 26, 27, 28, 1, 29, 30, 51, 52, 53, 54, 55, 56, 57, 58, 59, 60, 61, 62, 63, 64, 65, 66, 67, 68, 69] (by decide +kernel) (by decide +kernel)
set_option maxRecDepth 20000 in
theorem gX3_step_X3_seal : GoodIn wsX3_step (wsV RX3 91 RX3 yX3_seal wsX3_seal) := goodIn_app (goodIn_of _ (by decide +kernel)) ggX3_step_X3_seal
set_option maxRecDepth 20000 in
theorem ggX3_step_X3_atTail : GoodIn wsX3_step wsX3_atTail := goodIn_r _ [34, 1, 2, 12, 18, 21, 13, 14, 3, 25, 26, 27, 10, 28, 29, 30, 35, 36, 37, 22, 23, 24, 38, 39, 40, 41, 15, 16, 17, 42, 51, 52, 53, 54, 55, 56, 57, 58, 59, 60, 61, 62, 63, 64, 65, 66, 67, 68, 69] (by decide +kernel) (by decide +kernel)
set_option maxRecDepth 20000 in
theorem gX3_step_X3_atTail : GoodIn wsX3_step (wsV RX3 95 RX3 yX3_atTail wsX3_atTail) := goodIn_app (goodIn_of _ (by decide +kernel)) ggX3_step_X3_atTail
set_option maxRecDepth 20000 in
theorem ggX3_step_X3_alongChain : GoodIn wsX3_step wsX3_alongChain := goodIn_r _ [46, 21, 2, 6, 13, 14, 3, 1, 18, 35, 36, 10, 37, 22, 23, 24, 25, 26, 27, 28, 29, 30, 38, 39, 40, 41, 15, 16, 17, 42, 47, 48, 49, 50, 51, 52, 53, 54, 55, 56, 57, 58, 59, 60, 61, 62, 63, 64, 65, 66, 67, 68, 69] (by decide +kernel) (by decide +kernel)
set_option maxRecDepth 20000 in
theorem gX3_step_X3_alongChain : GoodIn wsX3_step (wsV RX3 98 RX3 yX3_alongChain wsX3_alongChain) := goodIn_app (goodIn_of _ (by decide +kernel)) ggX3_step_X3_alongChain
set_option maxRecDepth 20000 in
theorem ggX3_step_X3_end : GoodIn wsX3_step wsX3_end := goodIn_r _ [28, 1, 29, 30, 51, 52, 53, 54, 55, 56, 57, 58, 59, 60, 61, 62, 63, 64, 65, 66, 67, 68, 69] (by decide +kernel) (by decide +kernel)
set_option maxRecDepth 20000 in
theorem gX3_step_X3_end : GoodIn wsX3_step (wsV RX3 72 RX3 yX3_end wsX3_end) := goodIn_app (goodIn_of _ (by decide +kernel)) ggX3_step_X3_end
theorem dX3_step_0 : decode cX3_step 0 = .ok (.iload_n 1, 1) := by decide +kernel
theorem dX3_step_1 : decode cX3_step 1 = .ok (.ifCond .lt 8, 3) := by decide +kernel
theorem dX3_step_4 : decode cX3_step 4 = .ok (.iload_n 1, 1) := by decide +kernel
theorem dX3_step_5 : decode cX3_step 5 = .ok (.iconst 2, 1) := by decide +kernel
theorem dX3_step_6 : decode cX3_step 6 = .ok (.if_icmp .le 5, 3) := by decide +kernel
theorem dX3_step_9 : decode cX3_step 9 = .ok (.iconst (-1), 1) := by decide +kernel
theorem dX3_step_10 : decode cX3_step 10 = .ok (.ireturn, 1) := by decide +kernel
theorem dX3_step_11 : decode cX3_step 11 = .ok (.aload_n 0, 1) := by decide +kernel
theorem dX3_step_12 : decode cX3_step 12 = .ok (.getfield 25, 3) := by decide +kernel
theorem dX3_step_15 : decode cX3_step 15 = .ok (.iload_n 1, 1) := by decide +kernel
theorem dX3_step_16 : decode cX3_step 16 = .ok (.iaload, 1) := by decide +kernel
theorem dX3_step_17 : decode cX3_step 17 = .ok (.ifCond .ne 6, 3) := by decide +kernel
theorem dX3_step_20 : decode cX3_step 20 = .ok (.bipush (-2), 2) := by decide +kernel
theorem dX3_step_22 : decode cX3_step 22 = .ok (.ireturn, 1) := by decide +kernel
theorem dX3_step_23 : decode cX3_step 23 = .ok (.aload_n 0, 1) := by decide +kernel
theorem dX3_step_24 : decode cX3_step 24 = .ok (.getfield 25, 3) := by decide +kernel
theorem dX3_step_27 : decode cX3_step 27 = .ok (.iload_n 1, 1) := by decide +kernel
theorem dX3_step_28 : decode cX3_step 28 = .ok (.iaload, 1) := by decide +kernel
theorem dX3_step_29 : decode cX3_step 29 = .ok (.iconst 5, 1) := by decide +kernel
theorem dX3_step_30 : decode cX3_step 30 = .ok (.if_icmp .ne 9, 3) := by decide +kernel
theorem dX3_step_33 : decode cX3_step 33 = .ok (.aload_n 0, 1) := by decide +kernel
theorem dX3_step_34 : decode cX3_step 34 = .ok (.iload_n 1, 1) := by decide +kernel
theorem dX3_step_35 : decode cX3_step 35 = .ok (.invokevirtual 91, 3) := by decide +kernel
theorem dX3_step_38 : decode cX3_step 38 = .ok (.ireturn, 1) := by decide +kernel
theorem dX3_step_39 : decode cX3_step 39 = .ok (.aload_n 0, 1) := by decide +kernel
theorem dX3_step_40 : decode cX3_step 40 = .ok (.getfield 25, 3) := by decide +kernel
theorem dX3_step_43 : decode cX3_step 43 = .ok (.iload_n 1, 1) := by decide +kernel
theorem dX3_step_44 : decode cX3_step 44 = .ok (.iaload, 1) := by decide +kernel
theorem dX3_step_45 : decode cX3_step 45 = .ok (.iconst 3, 1) := by decide +kernel
theorem dX3_step_46 : decode cX3_step 46 = .ok (.if_icmp .eq 13, 3) := by decide +kernel
theorem dX3_step_49 : decode cX3_step 49 = .ok (.aload_n 0, 1) := by decide +kernel
theorem dX3_step_50 : decode cX3_step 50 = .ok (.getfield 25, 3) := by decide +kernel
theorem dX3_step_53 : decode cX3_step 53 = .ok (.iload_n 1, 1) := by decide +kernel
theorem dX3_step_54 : decode cX3_step 54 = .ok (.iaload, 1) := by decide +kernel
theorem dX3_step_55 : decode cX3_step 55 = .ok (.iconst 4, 1) := by decide +kernel
theorem dX3_step_56 : decode cX3_step 56 = .ok (.if_icmp .ne 9, 3) := by decide +kernel
theorem dX3_step_59 : decode cX3_step 59 = .ok (.aload_n 0, 1) := by decide +kernel
theorem dX3_step_60 : decode cX3_step 60 = .ok (.iload_n 1, 1) := by decide +kernel
theorem dX3_step_61 : decode cX3_step 61 = .ok (.invokevirtual 95, 3) := by decide +kernel
theorem dX3_step_64 : decode cX3_step 64 = .ok (.ireturn, 1) := by decide +kernel
theorem dX3_step_65 : decode cX3_step 65 = .ok (.aload_n 0, 1) := by decide +kernel
theorem dX3_step_66 : decode cX3_step 66 = .ok (.getfield 25, 3) := by decide +kernel
theorem dX3_step_69 : decode cX3_step 69 = .ok (.iload_n 1, 1) := by decide +kernel
theorem dX3_step_70 : decode cX3_step 70 = .ok (.iaload, 1) := by decide +kernel
theorem dX3_step_71 : decode cX3_step 71 = .ok (.iconst 2, 1) := by decide +kernel
theorem dX3_step_72 : decode cX3_step 72 = .ok (.if_icmp .eq 12, 3) := by decide +kernel
theorem dX3_step_75 : decode cX3_step 75 = .ok (.aload_n 0, 1) := by decide +kernel
theorem dX3_step_76 : decode cX3_step 76 = .ok (.getfield 40, 3) := by decide +kernel
theorem dX3_step_79 : decode cX3_step 79 = .ok (.iload_n 1, 1) := by decide +kernel
theorem dX3_step_80 : decode cX3_step 80 = .ok (.iaload, 1) := by decide +kernel
theorem dX3_step_81 : decode cX3_step 81 = .ok (.ifCond .lt 9, 3) := by decide +kernel
theorem dX3_step_84 : decode cX3_step 84 = .ok (.aload_n 0, 1) := by decide +kernel
theorem dX3_step_85 : decode cX3_step 85 = .ok (.iload_n 1, 1) := by decide +kernel
theorem dX3_step_86 : decode cX3_step 86 = .ok (.invokevirtual 98, 3) := by decide +kernel
theorem dX3_step_89 : decode cX3_step 89 = .ok (.ireturn, 1) := by decide +kernel
theorem dX3_step_90 : decode cX3_step 90 = .ok (.aload_n 0, 1) := by decide +kernel
theorem dX3_step_91 : decode cX3_step 91 = .ok (.getfield 28, 3) := by decide +kernel
theorem dX3_step_94 : decode cX3_step 94 = .ok (.iload_n 1, 1) := by decide +kernel
theorem dX3_step_95 : decode cX3_step 95 = .ok (.iaload, 1) := by decide +kernel
theorem dX3_step_96 : decode cX3_step 96 = .ok (.aload_n 0, 1) := by decide +kernel
theorem dX3_step_97 : decode cX3_step 97 = .ok (.getfield 85, 3) := by decide +kernel
theorem dX3_step_100 : decode cX3_step 100 = .ok (.if_icmp .eq 11, 3) := by decide +kernel
theorem dX3_step_103 : decode cX3_step 103 = .ok (.aload_n 0, 1) := by decide +kernel
theorem dX3_step_104 : decode cX3_step 104 = .ok (.iload_n 1, 1) := by decide +kernel
theorem dX3_step_105 : decode cX3_step 105 = .ok (.iconst 2, 1) := by decide +kernel
theorem dX3_step_106 : decode cX3_step 106 = .ok (.iconst 0, 1) := by decide +kernel
theorem dX3_step_107 : decode cX3_step 107 = .ok (.invokevirtual 72, 3) := by decide +kernel
theorem dX3_step_110 : decode cX3_step 110 = .ok (.ireturn, 1) := by decide +kernel
theorem dX3_step_111 : decode cX3_step 111 = .ok (.aload_n 0, 1) := by decide +kernel
theorem dX3_step_112 : decode cX3_step 112 = .ok (.getfield 88, 3) := by decide +kernel
theorem dX3_step_115 : decode cX3_step 115 = .ok (.bipush 32, 2) := by decide +kernel
theorem dX3_step_117 : decode cX3_step 117 = .ok (.if_icmp .ne 11, 3) := by decide +kernel
theorem dX3_step_120 : decode cX3_step 120 = .ok (.aload_n 0, 1) := by decide +kernel
theorem dX3_step_121 : decode cX3_step 121 = .ok (.iload_n 1, 1) := by decide +kernel
theorem dX3_step_122 : decode cX3_step 122 = .ok (.iconst 4, 1) := by decide +kernel
theorem dX3_step_123 : decode cX3_step 123 = .ok (.iconst 0, 1) := by decide +kernel
theorem dX3_step_124 : decode cX3_step 124 = .ok (.invokevirtual 72, 3) := by decide +kernel
theorem dX3_step_127 : decode cX3_step 127 = .ok (.ireturn, 1) := by decide +kernel
theorem dX3_step_128 : decode cX3_step 128 = .ok (.aload_n 0, 1) := by decide +kernel
theorem dX3_step_129 : decode cX3_step 129 = .ok (.getfield 40, 3) := by decide +kernel
theorem dX3_step_132 : decode cX3_step 132 = .ok (.iload_n 1, 1) := by decide +kernel
theorem dX3_step_133 : decode cX3_step 133 = .ok (.aload_n 0, 1) := by decide +kernel
theorem dX3_step_134 : decode cX3_step 134 = .ok (.getfield 88, 3) := by decide +kernel
theorem dX3_step_137 : decode cX3_step 137 = .ok (.iastore, 1) := by decide +kernel
theorem dX3_step_138 : decode cX3_step 138 = .ok (.aload_n 0, 1) := by decide +kernel
theorem dX3_step_139 : decode cX3_step 139 = .ok (.aload_n 0, 1) := by decide +kernel
theorem dX3_step_140 : decode cX3_step 140 = .ok (.getfield 88, 3) := by decide +kernel
theorem dX3_step_143 : decode cX3_step 143 = .ok (.iconst 1, 1) := by decide +kernel
theorem dX3_step_144 : decode cX3_step 144 = .ok (.iadd, 1) := by decide +kernel
theorem dX3_step_145 : decode cX3_step 145 = .ok (.putfield 88, 3) := by decide +kernel
theorem dX3_step_148 : decode cX3_step 148 = .ok (.aload_n 0, 1) := by decide +kernel
theorem dX3_step_149 : decode cX3_step 149 = .ok (.getfield 46, 3) := by decide +kernel
theorem dX3_step_152 : decode cX3_step 152 = .ok (.iload_n 1, 1) := by decide +kernel
theorem dX3_step_153 : decode cX3_step 153 = .ok (.iconst 0, 1) := by decide +kernel
theorem dX3_step_154 : decode cX3_step 154 = .ok (.iastore, 1) := by decide +kernel
theorem dX3_step_155 : decode cX3_step 155 = .ok (.iconst 0, 1) := by decide +kernel
theorem dX3_step_156 : decode cX3_step 156 = .ok (.ireturn, 1) := by decide +kernel
theorem dX3_refresh_0 : decode cX3_refresh 0 = .ok (.iload_n 1, 1) := by decide +kernel
theorem dX3_refresh_1 : decode cX3_refresh 1 = .ok (.ifCond .lt 8, 3) := by decide +kernel
theorem dX3_refresh_4 : decode cX3_refresh 4 = .ok (.iload_n 1, 1) := by decide +kernel
theorem dX3_refresh_5 : decode cX3_refresh 5 = .ok (.iconst 2, 1) := by decide +kernel
theorem dX3_refresh_6 : decode cX3_refresh 6 = .ok (.if_icmp .le 5, 3) := by decide +kernel
theorem dX3_refresh_9 : decode cX3_refresh 9 = .ok (.iconst (-1), 1) := by decide +kernel
theorem dX3_refresh_10 : decode cX3_refresh 10 = .ok (.ireturn, 1) := by decide +kernel
theorem dX3_refresh_11 : decode cX3_refresh 11 = .ok (.aload_n 0, 1) := by decide +kernel
theorem dX3_refresh_12 : decode cX3_refresh 12 = .ok (.getfield 25, 3) := by decide +kernel
theorem dX3_refresh_15 : decode cX3_refresh 15 = .ok (.iload_n 1, 1) := by decide +kernel
theorem dX3_refresh_16 : decode cX3_refresh 16 = .ok (.iaload, 1) := by decide +kernel
theorem dX3_refresh_17 : decode cX3_refresh 17 = .ok (.ifCond .eq 6, 3) := by decide +kernel
theorem dX3_refresh_20 : decode cX3_refresh 20 = .ok (.bipush (-2), 2) := by decide +kernel
theorem dX3_refresh_22 : decode cX3_refresh 22 = .ok (.ireturn, 1) := by decide +kernel
theorem dX3_refresh_23 : decode cX3_refresh 23 = .ok (.aload_n 0, 1) := by decide +kernel
theorem dX3_refresh_24 : decode cX3_refresh 24 = .ok (.getfield 28, 3) := by decide +kernel
theorem dX3_refresh_27 : decode cX3_refresh 27 = .ok (.iload_n 1, 1) := by decide +kernel
theorem dX3_refresh_28 : decode cX3_refresh 28 = .ok (.aload_n 0, 1) := by decide +kernel
theorem dX3_refresh_29 : decode cX3_refresh 29 = .ok (.getfield 82, 3) := by decide +kernel
theorem dX3_refresh_32 : decode cX3_refresh 32 = .ok (.iastore, 1) := by decide +kernel
theorem dX3_refresh_33 : decode cX3_refresh 33 = .ok (.aload_n 0, 1) := by decide +kernel
theorem dX3_refresh_34 : decode cX3_refresh 34 = .ok (.getfield 31, 3) := by decide +kernel
theorem dX3_refresh_37 : decode cX3_refresh 37 = .ok (.iload_n 1, 1) := by decide +kernel
theorem dX3_refresh_38 : decode cX3_refresh 38 = .ok (.aload_n 0, 1) := by decide +kernel
theorem dX3_refresh_39 : decode cX3_refresh 39 = .ok (.getfield 52, 3) := by decide +kernel
theorem dX3_refresh_42 : decode cX3_refresh 42 = .ok (.iastore, 1) := by decide +kernel
theorem dX3_refresh_43 : decode cX3_refresh 43 = .ok (.aload_n 0, 1) := by decide +kernel
theorem dX3_refresh_44 : decode cX3_refresh 44 = .ok (.getfield 82, 3) := by decide +kernel
theorem dX3_refresh_47 : decode cX3_refresh 47 = .ok (.ireturn, 1) := by decide +kernel
theorem dX3_setUp_0 : decode cX3_setUp 0 = .ok (.iload_n 1, 1) := by decide +kernel
theorem dX3_setUp_1 : decode cX3_setUp 1 = .ok (.ifCond .lt 8, 3) := by decide +kernel
theorem dX3_setUp_4 : decode cX3_setUp 4 = .ok (.iload_n 1, 1) := by decide +kernel
theorem dX3_setUp_5 : decode cX3_setUp 5 = .ok (.iconst 5, 1) := by decide +kernel
theorem dX3_setUp_6 : decode cX3_setUp 6 = .ok (.if_icmp .le 5, 3) := by decide +kernel
theorem dX3_setUp_9 : decode cX3_setUp 9 = .ok (.iconst 0, 1) := by decide +kernel
theorem dX3_setUp_10 : decode cX3_setUp 10 = .ok (.ireturn, 1) := by decide +kernel
theorem dX3_setUp_11 : decode cX3_setUp 11 = .ok (.aload_n 0, 1) := by decide +kernel
theorem dX3_setUp_12 : decode cX3_setUp 12 = .ok (.getfield 22, 3) := by decide +kernel
theorem dX3_setUp_15 : decode cX3_setUp 15 = .ok (.iload_n 1, 1) := by decide +kernel
theorem dX3_setUp_16 : decode cX3_setUp 16 = .ok (.iload_n 2, 1) := by decide +kernel
theorem dX3_setUp_17 : decode cX3_setUp 17 = .ok (.ifCond .eq 7, 3) := by decide +kernel
theorem dX3_setUp_20 : decode cX3_setUp 20 = .ok (.iconst 0, 1) := by decide +kernel
theorem dX3_setUp_21 : decode cX3_setUp 21 = .ok (.goto 4, 3) := by decide +kernel
theorem dX3_setUp_24 : decode cX3_setUp 24 = .ok (.iconst 1, 1) := by decide +kernel
theorem dX3_setUp_25 : decode cX3_setUp 25 = .ok (.iastore, 1) := by decide +kernel
theorem dX3_setUp_26 : decode cX3_setUp 26 = .ok (.iconst 1, 1) := by decide +kernel
theorem dX3_setUp_27 : decode cX3_setUp 27 = .ok (.ireturn, 1) := by decide +kernel
theorem dX3_loseSequencer_0 : decode cX3_loseSequencer 0 = .ok (.aload_n 0, 1) := by decide +kernel
theorem dX3_loseSequencer_1 : decode cX3_loseSequencer 1 = .ok (.iconst 0, 1) := by decide +kernel
theorem dX3_loseSequencer_2 : decode cX3_loseSequencer 2 = .ok (.putfield 88, 3) := by decide +kernel
theorem dX3_loseSequencer_5 : decode cX3_loseSequencer 5 = .ok (.return_, 1) := by decide +kernel
theorem dX3_busy_0 : decode cX3_busy 0 = .ok (.iload_n 1, 1) := by decide +kernel
theorem dX3_busy_1 : decode cX3_busy 1 = .ok (.ifCond .lt 8, 3) := by decide +kernel
theorem dX3_busy_4 : decode cX3_busy 4 = .ok (.iload_n 1, 1) := by decide +kernel
theorem dX3_busy_5 : decode cX3_busy 5 = .ok (.iconst 2, 1) := by decide +kernel
theorem dX3_busy_6 : decode cX3_busy 6 = .ok (.if_icmp .le 8, 3) := by decide +kernel
theorem dX3_busy_9 : decode cX3_busy 9 = .ok (.bipush (-9), 2) := by decide +kernel
theorem dX3_busy_11 : decode cX3_busy 11 = .ok (.goto 9, 3) := by decide +kernel
theorem dX3_busy_14 : decode cX3_busy 14 = .ok (.aload_n 0, 1) := by decide +kernel
theorem dX3_busy_15 : decode cX3_busy 15 = .ok (.getfield 25, 3) := by decide +kernel
theorem dX3_busy_18 : decode cX3_busy 18 = .ok (.iload_n 1, 1) := by decide +kernel
theorem dX3_busy_19 : decode cX3_busy 19 = .ok (.iaload, 1) := by decide +kernel
theorem dX3_busy_20 : decode cX3_busy 20 = .ok (.ireturn, 1) := by decide +kernel
theorem dX3_outcome_0 : decode cX3_outcome 0 = .ok (.iload_n 1, 1) := by decide +kernel
theorem dX3_outcome_1 : decode cX3_outcome 1 = .ok (.ifCond .lt 8, 3) := by decide +kernel
theorem dX3_outcome_4 : decode cX3_outcome 4 = .ok (.iload_n 1, 1) := by decide +kernel
theorem dX3_outcome_5 : decode cX3_outcome 5 = .ok (.iconst 2, 1) := by decide +kernel
theorem dX3_outcome_6 : decode cX3_outcome 6 = .ok (.if_icmp .le 8, 3) := by decide +kernel
theorem dX3_outcome_9 : decode cX3_outcome 9 = .ok (.bipush (-9), 2) := by decide +kernel
theorem dX3_outcome_11 : decode cX3_outcome 11 = .ok (.goto 9, 3) := by decide +kernel
theorem dX3_outcome_14 : decode cX3_outcome 14 = .ok (.aload_n 0, 1) := by decide +kernel
theorem dX3_outcome_15 : decode cX3_outcome 15 = .ok (.getfield 34, 3) := by decide +kernel
theorem dX3_outcome_18 : decode cX3_outcome 18 = .ok (.iload_n 1, 1) := by decide +kernel
theorem dX3_outcome_19 : decode cX3_outcome 19 = .ok (.iaload, 1) := by decide +kernel
theorem dX3_outcome_20 : decode cX3_outcome 20 = .ok (.ireturn, 1) := by decide +kernel
theorem dX3_number_0 : decode cX3_number 0 = .ok (.iload_n 1, 1) := by decide +kernel
theorem dX3_number_1 : decode cX3_number 1 = .ok (.ifCond .lt 8, 3) := by decide +kernel
theorem dX3_number_4 : decode cX3_number 4 = .ok (.iload_n 1, 1) := by decide +kernel
theorem dX3_number_5 : decode cX3_number 5 = .ok (.iconst 2, 1) := by decide +kernel
theorem dX3_number_6 : decode cX3_number 6 = .ok (.if_icmp .le 8, 3) := by decide +kernel
theorem dX3_number_9 : decode cX3_number 9 = .ok (.bipush (-9), 2) := by decide +kernel
theorem dX3_number_11 : decode cX3_number 11 = .ok (.goto 9, 3) := by decide +kernel
theorem dX3_number_14 : decode cX3_number 14 = .ok (.aload_n 0, 1) := by decide +kernel
theorem dX3_number_15 : decode cX3_number 15 = .ok (.getfield 37, 3) := by decide +kernel
theorem dX3_number_18 : decode cX3_number 18 = .ok (.iload_n 1, 1) := by decide +kernel
theorem dX3_number_19 : decode cX3_number 19 = .ok (.iaload, 1) := by decide +kernel
theorem dX3_number_20 : decode cX3_number 20 = .ok (.ireturn, 1) := by decide +kernel
theorem dX3_epochOf_0 : decode cX3_epochOf 0 = .ok (.iload_n 1, 1) := by decide +kernel
theorem dX3_epochOf_1 : decode cX3_epochOf 1 = .ok (.ifCond .lt 8, 3) := by decide +kernel
theorem dX3_epochOf_4 : decode cX3_epochOf 4 = .ok (.iload_n 1, 1) := by decide +kernel
theorem dX3_epochOf_5 : decode cX3_epochOf 5 = .ok (.iconst 2, 1) := by decide +kernel
theorem dX3_epochOf_6 : decode cX3_epochOf 6 = .ok (.if_icmp .le 8, 3) := by decide +kernel
theorem dX3_epochOf_9 : decode cX3_epochOf 9 = .ok (.bipush (-9), 2) := by decide +kernel
theorem dX3_epochOf_11 : decode cX3_epochOf 11 = .ok (.goto 9, 3) := by decide +kernel
theorem dX3_epochOf_14 : decode cX3_epochOf 14 = .ok (.aload_n 0, 1) := by decide +kernel
theorem dX3_epochOf_15 : decode cX3_epochOf 15 = .ok (.getfield 28, 3) := by decide +kernel
theorem dX3_epochOf_18 : decode cX3_epochOf 18 = .ok (.iload_n 1, 1) := by decide +kernel
theorem dX3_epochOf_19 : decode cX3_epochOf 19 = .ok (.iaload, 1) := by decide +kernel
theorem dX3_epochOf_20 : decode cX3_epochOf 20 = .ok (.ireturn, 1) := by decide +kernel
theorem dX3_membersOf_0 : decode cX3_membersOf 0 = .ok (.iload_n 1, 1) := by decide +kernel
theorem dX3_membersOf_1 : decode cX3_membersOf 1 = .ok (.ifCond .lt 8, 3) := by decide +kernel
theorem dX3_membersOf_4 : decode cX3_membersOf 4 = .ok (.iload_n 1, 1) := by decide +kernel
theorem dX3_membersOf_5 : decode cX3_membersOf 5 = .ok (.iconst 2, 1) := by decide +kernel
theorem dX3_membersOf_6 : decode cX3_membersOf 6 = .ok (.if_icmp .le 8, 3) := by decide +kernel
theorem dX3_membersOf_9 : decode cX3_membersOf 9 = .ok (.bipush (-9), 2) := by decide +kernel
theorem dX3_membersOf_11 : decode cX3_membersOf 11 = .ok (.goto 9, 3) := by decide +kernel
theorem dX3_membersOf_14 : decode cX3_membersOf 14 = .ok (.aload_n 0, 1) := by decide +kernel
theorem dX3_membersOf_15 : decode cX3_membersOf 15 = .ok (.getfield 31, 3) := by decide +kernel
theorem dX3_membersOf_18 : decode cX3_membersOf 18 = .ok (.iload_n 1, 1) := by decide +kernel
theorem dX3_membersOf_19 : decode cX3_membersOf 19 = .ok (.iaload, 1) := by decide +kernel
theorem dX3_membersOf_20 : decode cX3_membersOf 20 = .ok (.ireturn, 1) := by decide +kernel
theorem dX3_tail_0 : decode cX3_tail 0 = .ok (.aload_n 0, 1) := by decide +kernel
theorem dX3_tail_1 : decode cX3_tail 1 = .ok (.getfield 88, 3) := by decide +kernel
theorem dX3_tail_4 : decode cX3_tail 4 = .ok (.ireturn, 1) := by decide +kernel
theorem dX3_unitEpoch_0 : decode cX3_unitEpoch 0 = .ok (.iload_n 1, 1) := by decide +kernel
theorem dX3_unitEpoch_1 : decode cX3_unitEpoch 1 = .ok (.ifCond .lt 8, 3) := by decide +kernel
theorem dX3_unitEpoch_4 : decode cX3_unitEpoch 4 = .ok (.iload_n 1, 1) := by decide +kernel
theorem dX3_unitEpoch_5 : decode cX3_unitEpoch 5 = .ok (.iconst 5, 1) := by decide +kernel
theorem dX3_unitEpoch_6 : decode cX3_unitEpoch 6 = .ok (.if_icmp .le 8, 3) := by decide +kernel
theorem dX3_unitEpoch_9 : decode cX3_unitEpoch 9 = .ok (.bipush (-9), 2) := by decide +kernel
theorem dX3_unitEpoch_11 : decode cX3_unitEpoch 11 = .ok (.goto 9, 3) := by decide +kernel
theorem dX3_unitEpoch_14 : decode cX3_unitEpoch 14 = .ok (.aload_n 0, 1) := by decide +kernel
theorem dX3_unitEpoch_15 : decode cX3_unitEpoch 15 = .ok (.getfield 19, 3) := by decide +kernel
theorem dX3_unitEpoch_18 : decode cX3_unitEpoch 18 = .ok (.iload_n 1, 1) := by decide +kernel
theorem dX3_unitEpoch_19 : decode cX3_unitEpoch 19 = .ok (.iaload, 1) := by decide +kernel
theorem dX3_unitEpoch_20 : decode cX3_unitEpoch 20 = .ok (.ireturn, 1) := by decide +kernel
set_option maxRecDepth 20000 in
theorem ggX3_cell_X3_look : GoodIn wsX3_cell wsX3_look := goodIn_r _ [5, 6, 7, 8, 9, 10, 11, 12, 13, 14, 15, 16, 17, 18, 19, 20, 21, 22, 23, 24, 25, 26, 27, 28] (by decide +kernel) (by decide +kernel)
set_option maxRecDepth 20000 in
theorem gX3_cell_X3_look : GoodIn wsX3_cell (wsV RX3 75 RX3 yX3_look wsX3_look) := goodIn_app (goodIn_of _ (by decide +kernel)) ggX3_cell_X3_look
theorem dX3_cell_0 : decode cX3_cell 0 = .ok (.iload_n 1, 1) := by decide +kernel
theorem dX3_cell_1 : decode cX3_cell 1 = .ok (.ifCond .lt 18, 3) := by decide +kernel
theorem dX3_cell_4 : decode cX3_cell 4 = .ok (.iload_n 1, 1) := by decide +kernel
theorem dX3_cell_5 : decode cX3_cell 5 = .ok (.iconst 5, 1) := by decide +kernel
theorem dX3_cell_6 : decode cX3_cell 6 = .ok (.if_icmp .gt 13, 3) := by decide +kernel
theorem dX3_cell_9 : decode cX3_cell 9 = .ok (.iload_n 2, 1) := by decide +kernel
theorem dX3_cell_10 : decode cX3_cell 10 = .ok (.ifCond .lt 9, 3) := by decide +kernel
theorem dX3_cell_13 : decode cX3_cell 13 = .ok (.iload_n 2, 1) := by decide +kernel
theorem dX3_cell_14 : decode cX3_cell 14 = .ok (.bipush 31, 2) := by decide +kernel
theorem dX3_cell_16 : decode cX3_cell 16 = .ok (.if_icmp .le 8, 3) := by decide +kernel
theorem dX3_cell_19 : decode cX3_cell 19 = .ok (.bipush (-9), 2) := by decide +kernel
theorem dX3_cell_21 : decode cX3_cell 21 = .ok (.goto 9, 3) := by decide +kernel
theorem dX3_cell_24 : decode cX3_cell 24 = .ok (.aload_n 0, 1) := by decide +kernel
theorem dX3_cell_25 : decode cX3_cell 25 = .ok (.iload_n 1, 1) := by decide +kernel
theorem dX3_cell_26 : decode cX3_cell 26 = .ok (.iload_n 2, 1) := by decide +kernel
theorem dX3_cell_27 : decode cX3_cell 27 = .ok (.invokevirtual 75, 3) := by decide +kernel
theorem dX3_cell_30 : decode cX3_cell 30 = .ok (.ireturn, 1) := by decide +kernel
theorem dJ9_max_7cf53_0 : decode cJ9_max_7cf53 0 = .ok (.iload_n 0, 1) := by decide +kernel
theorem dJ9_max_7cf53_1 : decode cJ9_max_7cf53 1 = .ok (.iload_n 1, 1) := by decide +kernel
theorem dJ9_max_7cf53_2 : decode cJ9_max_7cf53 2 = .ok (.if_icmp .lt 7, 3) := by decide +kernel
theorem dJ9_max_7cf53_5 : decode cJ9_max_7cf53 5 = .ok (.iload_n 0, 1) := by decide +kernel
theorem dJ9_max_7cf53_6 : decode cJ9_max_7cf53 6 = .ok (.goto 4, 3) := by decide +kernel
theorem dJ9_max_7cf53_9 : decode cJ9_max_7cf53 9 = .ok (.iload_n 1, 1) := by decide +kernel
theorem dJ9_max_7cf53_10 : decode cJ9_max_7cf53 10 = .ok (.ireturn, 1) := by decide +kernel
set_option maxRecDepth 20000 in
theorem ggL_law_X2_init : GoodIn wsL_law wsX2_init := goodIn_r _ [8, 9, 10, 11, 12, 13, 14, 15, 16, 17, 18, 19, 20, 21, 22, 23, 24, 25, 26, 27, 28, 29, 30, 31, 32, 33, 34, 35, 36, 37, 38, 39, 40, 41, 42, 43, 44, 45, 331, 332, 333, 334, 335, 336, 356, 357, 358, 359, 360, 361, 362, 363, 364, 365, 366, 367, 368, 369, 370] (by decide +kernel) (by decide +kernel)
set_option maxRecDepth 20000 in
theorem gL_law_X2_init : GoodIn wsL_law (wsX2_init) := ggL_law_X2_init
set_option maxRecDepth 20000 in
theorem ggL_law_X3_init : GoodIn wsL_law wsX3_init := goodIn_r _ [48, 49, 10, 11, 29, 50, 51, 52, 53, 54, 55, 56, 57, 58, 59, 60, 61, 62, 63, 64, 337, 338, 339, 340, 341, 342, 343, 344, 345, 346, 347, 348, 349, 350, 351, 352, 353, 354, 355] (by decide +kernel) (by decide +kernel)
set_option maxRecDepth 20000 in
theorem gL_law_X3_init : GoodIn wsL_law (wsX3_init) := ggL_law_X3_init
set_option maxRecDepth 20000 in
theorem ggL_law_X2_append : GoodIn wsL_law wsX2_append := goodIn_r _ [68, 69, 70, 71, 72, 2, 73, 15, 74, 23, 75, 76, 36, 39, 37, 38, 359, 360, 361, 362, 363, 364, 365, 366, 367, 368, 369, 370, 331, 332, 333, 334, 335, 336] (by decide +kernel) (by decide +kernel)
set_option maxRecDepth 20000 in
theorem gL_law_X2_append : GoodIn wsL_law (wsV RL 13 RX2 yX2_append wsX2_append) := goodIn_app (goodIn_of _ (by decide +kernel)) ggL_law_X2_append
set_option maxRecDepth 20000 in
theorem ggL_law_X3_append : GoodIn wsL_law wsX3_append := goodIn_r _ [80, 81, 61, 60, 82, 83, 84, 5, 85, 55, 58, 59, 62, 337, 338, 339, 340, 341, 342, 343, 344, 345, 346, 347, 348, 349, 350, 351, 352, 353, 354, 355] (by decide +kernel) (by decide +kernel)
set_option maxRecDepth 20000 in
theorem gL_law_X3_append : GoodIn wsL_law (wsV RL 17 RX3 yX3_append wsX3_append) := goodIn_app (goodIn_of _ (by decide +kernel)) ggL_law_X3_append
set_option maxRecDepth 20000 in
theorem ggL_law_X2_fill : GoodIn wsL_law wsX2_fill := goodIn_r _ [89, 70, 71, 72, 2, 73, 15, 90, 91, 92, 93, 23, 94, 95, 35, 74, 75, 76, 36, 39, 37, 38, 359, 360, 361, 362, 363, 364, 365, 366, 367, 368, 369, 370, 331, 332, 333, 334, 335, 336] (by decide +kernel) (by decide +kernel)
set_option maxRecDepth 20000 in
theorem gL_law_X2_fill : GoodIn wsL_law (wsV RL 18 RX2 yX2_fill wsX2_fill) := goodIn_app (goodIn_of _ (by decide +kernel)) ggL_law_X2_fill
set_option maxRecDepth 20000 in
theorem ggL_law_X3_fill : GoodIn wsL_law wsX3_fill := goodIn_r _ [99, 60, 82, 83, 84, 5, 85, 55, 58, 59, 62, 61, 337, 338, 339, 340, 341, 342, 343, 344, 345, 346, 347, 348, 349, 350, 351, 352, 353, 354, 355] (by decide +kernel) (by decide +kernel)
set_option maxRecDepth 20000 in
theorem gL_law_X3_fill : GoodIn wsL_law (wsV RL 21 RX3 yX3_fill wsX3_fill) := goodIn_app (goodIn_of _ (by decide +kernel)) ggL_law_X3_fill
set_option maxRecDepth 20000 in
theorem ggL_law_X2_read : GoodIn wsL_law wsX2_read := goodIn_r _ [103, 70, 71, 72, 2, 73, 15, 90, 91, 92, 93, 23, 94, 95, 35, 104, 105, 106, 74, 75, 76, 36, 39, 37, 38, 359, 360, 361, 362, 363, 364, 365, 366, 367, 368, 369, 370, 331, 332, 333, 334, 335, 336] (by decide +kernel) (by decide +kernel)
set_option maxRecDepth 20000 in
theorem gL_law_X2_read : GoodIn wsL_law (wsV RL 22 RX2 yX2_read wsX2_read) := goodIn_app (goodIn_of _ (by decide +kernel)) ggL_law_X2_read
set_option maxRecDepth 20000 in
theorem ggL_law_X3_read : GoodIn wsL_law wsX3_read := goodIn_r _ [110, 60, 82, 83, 84, 5, 85, 55, 58, 59, 62, 61, 337, 338, 339, 340, 341, 342, 343, 344, 345, 346, 347, 348, 349, 350, 351, 352, 353, 354, 355] (by decide +kernel) (by decide +kernel)
set_option maxRecDepth 20000 in
theorem gL_law_X3_read : GoodIn wsL_law (wsV RL 25 RX3 yX3_read wsX3_read) := goodIn_app (goodIn_of _ (by decide +kernel)) ggL_law_X3_read
set_option maxRecDepth 20000 in
theorem ggL_law_X2_replay : GoodIn wsL_law wsX2_replay := goodIn_r _ [114, 70, 71, 72, 2, 73, 15, 115, 23, 116, 117, 40, 42, 118, 93, 94, 95, 35, 105, 106, 74, 75, 76, 36, 39, 37, 38, 359, 360, 361, 362, 363, 364, 365, 366, 367, 368, 369, 370, 331, 332, 333, 334, 335, 336] (by decide +kernel) (by decide +kernel)
set_option maxRecDepth 20000 in
theorem gL_law_X2_replay : GoodIn wsL_law (wsV RL 26 RX2 yX2_replay wsX2_replay) := goodIn_app (goodIn_of _ (by decide +kernel)) ggL_law_X2_replay
set_option maxRecDepth 20000 in
theorem ggL_law_X3_replay : GoodIn wsL_law wsX3_replay := goodIn_r _ [122, 63, 82, 83, 84, 5, 85, 55, 58, 59, 62, 61, 60, 337, 338, 339, 340, 341, 342, 343, 344, 345, 346, 347, 348, 349, 350, 351, 352, 353, 354, 355] (by decide +kernel) (by decide +kernel)
set_option maxRecDepth 20000 in
theorem gL_law_X3_replay : GoodIn wsL_law (wsV RL 29 RX3 yX3_replay wsX3_replay) := goodIn_app (goodIn_of _ (by decide +kernel)) ggL_law_X3_replay
set_option maxRecDepth 20000 in
theorem ggL_law_X2_reform : GoodIn wsL_law wsX2_reform := goodIn_r _ [126, 70, 71, 72, 2, 73, 15, 74, 23, 75, 76, 36, 39, 37, 38, 359, 360, 361, 362, 363, 364, 365, 366, 367, 368, 369, 370, 331, 332, 333, 334, 335, 336] (by decide +kernel) (by decide +kernel)
set_option maxRecDepth 20000 in
theorem gL_law_X2_reform : GoodIn wsL_law (wsV RL 30 RX2 yX2_reform wsX2_reform) := goodIn_app (goodIn_of _ (by decide +kernel)) ggL_law_X2_reform
set_option maxRecDepth 20000 in
theorem ggL_law_X3_reform : GoodIn wsL_law wsX3_reform := goodIn_r _ [130, 55, 57, 63, 131, 132, 5, 133, 82, 83, 84, 85, 58, 59, 62, 61, 60, 337, 338, 339, 340, 341, 342, 343, 344, 345, 346, 347, 348, 349, 350, 351, 352, 353, 354, 355] (by decide +kernel) (by decide +kernel)
set_option maxRecDepth 20000 in
theorem gL_law_X3_reform : GoodIn wsL_law (wsV RL 33 RX3 yX3_reform wsX3_reform) := goodIn_app (goodIn_of _ (by decide +kernel)) ggL_law_X3_reform
set_option maxRecDepth 20000 in
theorem ggL_law_X2_step : GoodIn wsL_law wsX2_step := goodIn_r _ [137, 70, 71, 72, 2, 73, 15, 138, 139, 140, 141, 142, 143, 144, 13, 145, 146, 147, 148, 149, 150, 151, 152, 18, 19, 153, 23, 154, 155, 36, 37, 38, 93, 94, 95, 35, 156, 157, 158, 159, 16, 17, 160, 161, 162, 163, 164, 165, 166, 34, 167, 168, 169, 170, 171, 172, 173, 21, 174, 175, 30, 91, 92, 176, 177, 178, 39, 40, 118, 179, 180, 181, 182, 183, 184, 185, 186, 187, 188, 189, 190, 191, 192, 193, 194, 195, 196, 115, 116, 117, 42, 105, 106, 197, 198, 199, 200, 201, 202, 203, 204, 205, 206, 207, 359, 360, 361, 362, 363, 364, 365, 366, 367, 368, 369, 370, 356, 357, 358, 331, 332, 333, 334, 335, 336] (by decide +kernel) (by decide +kernel)
set_option maxRecDepth 20000 in
theorem gL_law_X2_step : GoodIn wsL_law (wsV RL 34 RX2 yX2_step wsX2_step) := goodIn_app (goodIn_of _ (by decide +kernel)) ggL_law_X2_step
set_option maxRecDepth 20000 in
theorem ggL_law_X3_step : GoodIn wsL_law wsX3_step := goodIn_r _ [211, 55, 60, 56, 212, 213, 62, 214, 215, 216, 5, 217, 63, 54, 53, 218, 50, 51, 61, 219, 64, 57, 220, 221, 222, 223, 224, 225, 226, 58, 59, 227, 228, 229, 230, 131, 132, 133, 231, 232, 233, 234, 52, 235, 236, 237, 238, 239, 240, 241, 242, 337, 338, 339, 340, 341, 342, 343, 344, 345, 346, 347, 348, 349, 350, 351, 352, 353, 354, 355] (by decide +kernel) (by decide +kernel)
set_option maxRecDepth 20000 in
theorem gL_law_X3_step : GoodIn wsL_law (wsV RL 38 RX3 yX3_step wsX3_step) := goodIn_app (goodIn_of _ (by decide +kernel)) ggL_law_X3_step
set_option maxRecDepth 20000 in
theorem ggL_law_X2_refresh : GoodIn wsL_law wsX2_refresh := goodIn_r _ [246, 70, 71, 72, 2, 73, 15, 160, 161, 162, 163, 16, 17, 359, 360, 361, 362, 363, 364, 365, 366, 367, 368, 369, 370, 331, 332, 333, 334, 335, 336] (by decide +kernel) (by decide +kernel)
set_option maxRecDepth 20000 in
theorem gL_law_X2_refresh : GoodIn wsL_law (wsV RL 39 RX2 yX2_refresh wsX2_refresh) := goodIn_app (goodIn_of _ (by decide +kernel)) ggL_law_X2_refresh
set_option maxRecDepth 20000 in
theorem ggL_law_X3_refresh : GoodIn wsL_law wsX3_refresh := goodIn_r _ [250, 55, 56, 219, 57, 64, 337, 338, 339, 340, 341, 342, 343, 344, 345, 346, 347, 348, 349, 350, 351, 352, 353, 354, 355] (by decide +kernel) (by decide +kernel)
set_option maxRecDepth 20000 in
theorem gL_law_X3_refresh : GoodIn wsL_law (wsV RL 42 RX3 yX3_refresh wsX3_refresh) := goodIn_app (goodIn_of _ (by decide +kernel)) ggL_law_X3_refresh
set_option maxRecDepth 20000 in
theorem ggL_law_X2_setUp : GoodIn wsL_law wsX2_setUp := goodIn_r _ [254, 141, 142, 143, 2, 144, 13, 356, 357, 358, 331, 332, 333, 334, 335, 336] (by decide +kernel) (by decide +kernel)
set_option maxRecDepth 20000 in
theorem gL_law_X2_setUp : GoodIn wsL_law (wsV RL 43 RX2 yX2_setUp wsX2_setUp) := goodIn_app (goodIn_of _ (by decide +kernel)) ggL_law_X2_setUp
set_option maxRecDepth 20000 in
theorem ggL_law_X3_setUp : GoodIn wsL_law wsX3_setUp := goodIn_r _ [258, 54, 337, 338, 339, 340, 341, 342, 343, 344, 345, 346, 347, 348, 349, 350, 351, 352, 353, 354, 355] (by decide +kernel) (by decide +kernel)
set_option maxRecDepth 20000 in
theorem gL_law_X3_setUp : GoodIn wsL_law (wsV RL 47 RX3 yX3_setUp wsX3_setUp) := goodIn_app (goodIn_of _ (by decide +kernel)) ggL_law_X3_setUp
set_option maxRecDepth 20000 in
theorem ggL_law_X2_loseSequencer : GoodIn wsL_law wsX2_loseSequencer := goodIn_r _ [262, 19, 331, 332, 333, 334, 335, 336] (by decide +kernel) (by decide +kernel)
set_option maxRecDepth 20000 in
theorem gL_law_X2_loseSequencer : GoodIn wsL_law (wsV RL 48 RX2 yX2_loseSequencer wsX2_loseSequencer) := goodIn_app (goodIn_of _ (by decide +kernel)) ggL_law_X2_loseSequencer
set_option maxRecDepth 20000 in
theorem ggL_law_X3_loseSequencer : GoodIn wsL_law wsX3_loseSequencer := goodIn_r _ [266, 213, 337, 338, 339, 340, 341, 342, 343, 344, 345, 346, 347, 348, 349, 350, 351, 352, 353, 354, 355] (by decide +kernel) (by decide +kernel)
set_option maxRecDepth 20000 in
theorem gL_law_X3_loseSequencer : GoodIn wsL_law (wsV RL 51 RX3 yX3_loseSequencer wsX3_loseSequencer) := goodIn_app (goodIn_of _ (by decide +kernel)) ggL_law_X3_loseSequencer
set_option maxRecDepth 20000 in
theorem ggL_law_X2_busy : GoodIn wsL_law wsX2_busy := goodIn_r _ [270, 70, 71, 72, 2, 73, 15, 359, 360, 361, 362, 363, 364, 365, 366, 367, 368, 369, 370, 331, 332, 333, 334, 335, 336] (by decide +kernel) (by decide +kernel)
set_option maxRecDepth 20000 in
theorem gL_law_X2_busy : GoodIn wsL_law (wsV RL 52 RX2 yX2_busy wsX2_busy) := goodIn_app (goodIn_of _ (by decide +kernel)) ggL_law_X2_busy
set_option maxRecDepth 20000 in
theorem ggL_law_X3_busy : GoodIn wsL_law wsX3_busy := goodIn_r _ [274, 55, 337, 338, 339, 340, 341, 342, 343, 344, 345, 346, 347, 348, 349, 350, 351, 352, 353, 354, 355] (by decide +kernel) (by decide +kernel)
set_option maxRecDepth 20000 in
theorem gL_law_X3_busy : GoodIn wsL_law (wsV RL 55 RX3 yX3_busy wsX3_busy) := goodIn_app (goodIn_of _ (by decide +kernel)) ggL_law_X3_busy
set_option maxRecDepth 20000 in
theorem ggL_law_X2_outcome : GoodIn wsL_law wsX2_outcome := goodIn_r _ [278, 70, 71, 72, 2, 73, 15, 359, 360, 361, 362, 363, 364, 365, 366, 367, 368, 369, 370, 331, 332, 333, 334, 335, 336] (by decide +kernel) (by decide +kernel)
set_option maxRecDepth 20000 in
theorem gL_law_X2_outcome : GoodIn wsL_law (wsV RL 56 RX2 yX2_outcome wsX2_outcome) := goodIn_app (goodIn_of _ (by decide +kernel)) ggL_law_X2_outcome
set_option maxRecDepth 20000 in
theorem ggL_law_X3_outcome : GoodIn wsL_law wsX3_outcome := goodIn_r _ [282, 58, 337, 338, 339, 340, 341, 342, 343, 344, 345, 346, 347, 348, 349, 350, 351, 352, 353, 354, 355] (by decide +kernel) (by decide +kernel)
set_option maxRecDepth 20000 in
theorem gL_law_X3_outcome : GoodIn wsL_law (wsV RL 59 RX3 yX3_outcome wsX3_outcome) := goodIn_app (goodIn_of _ (by decide +kernel)) ggL_law_X3_outcome
set_option maxRecDepth 20000 in
theorem ggL_law_X2_number : GoodIn wsL_law wsX2_number := goodIn_r _ [286, 70, 71, 72, 2, 73, 15, 359, 360, 361, 362, 363, 364, 365, 366, 367, 368, 369, 370, 331, 332, 333, 334, 335, 336] (by decide +kernel) (by decide +kernel)
set_option maxRecDepth 20000 in
theorem gL_law_X2_number : GoodIn wsL_law (wsV RL 60 RX2 yX2_number wsX2_number) := goodIn_app (goodIn_of _ (by decide +kernel)) ggL_law_X2_number
set_option maxRecDepth 20000 in
theorem ggL_law_X3_number : GoodIn wsL_law wsX3_number := goodIn_r _ [290, 59, 337, 338, 339, 340, 341, 342, 343, 344, 345, 346, 347, 348, 349, 350, 351, 352, 353, 354, 355] (by decide +kernel) (by decide +kernel)
set_option maxRecDepth 20000 in
theorem gL_law_X3_number : GoodIn wsL_law (wsV RL 63 RX3 yX3_number wsX3_number) := goodIn_app (goodIn_of _ (by decide +kernel)) ggL_law_X3_number
set_option maxRecDepth 20000 in
theorem ggL_law_X2_epochOf : GoodIn wsL_law wsX2_epochOf := goodIn_r _ [294, 70, 71, 72, 2, 73, 15, 359, 360, 361, 362, 363, 364, 365, 366, 367, 368, 369, 370, 331, 332, 333, 334, 335, 336] (by decide +kernel) (by decide +kernel)
set_option maxRecDepth 20000 in
theorem gL_law_X2_epochOf : GoodIn wsL_law (wsV RL 64 RX2 yX2_epochOf wsX2_epochOf) := goodIn_app (goodIn_of _ (by decide +kernel)) ggL_law_X2_epochOf
set_option maxRecDepth 20000 in
theorem ggL_law_X3_epochOf : GoodIn wsL_law wsX3_epochOf := goodIn_r _ [298, 56, 337, 338, 339, 340, 341, 342, 343, 344, 345, 346, 347, 348, 349, 350, 351, 352, 353, 354, 355] (by decide +kernel) (by decide +kernel)
set_option maxRecDepth 20000 in
theorem gL_law_X3_epochOf : GoodIn wsL_law (wsV RL 67 RX3 yX3_epochOf wsX3_epochOf) := goodIn_app (goodIn_of _ (by decide +kernel)) ggL_law_X3_epochOf
set_option maxRecDepth 20000 in
theorem ggL_law_X2_membersOf : GoodIn wsL_law wsX2_membersOf := goodIn_r _ [302, 70, 71, 72, 2, 73, 15, 359, 360, 361, 362, 363, 364, 365, 366, 367, 368, 369, 370, 331, 332, 333, 334, 335, 336] (by decide +kernel) (by decide +kernel)
set_option maxRecDepth 20000 in
theorem gL_law_X2_membersOf : GoodIn wsL_law (wsV RL 68 RX2 yX2_membersOf wsX2_membersOf) := goodIn_app (goodIn_of _ (by decide +kernel)) ggL_law_X2_membersOf
set_option maxRecDepth 20000 in
theorem ggL_law_X3_membersOf : GoodIn wsL_law wsX3_membersOf := goodIn_r _ [306, 57, 337, 338, 339, 340, 341, 342, 343, 344, 345, 346, 347, 348, 349, 350, 351, 352, 353, 354, 355] (by decide +kernel) (by decide +kernel)
set_option maxRecDepth 20000 in
theorem gL_law_X3_membersOf : GoodIn wsL_law (wsV RL 71 RX3 yX3_membersOf wsX3_membersOf) := goodIn_app (goodIn_of _ (by decide +kernel)) ggL_law_X3_membersOf
set_option maxRecDepth 20000 in
theorem ggL_law_X2_tail : GoodIn wsL_law wsX2_tail := goodIn_r _ [310, 19, 331, 332, 333, 334, 335, 336] (by decide +kernel) (by decide +kernel)
set_option maxRecDepth 20000 in
theorem gL_law_X2_tail : GoodIn wsL_law (wsV RL 72 RX2 yX2_tail wsX2_tail) := goodIn_app (goodIn_of _ (by decide +kernel)) ggL_law_X2_tail
set_option maxRecDepth 20000 in
theorem ggL_law_X3_tail : GoodIn wsL_law wsX3_tail := goodIn_r _ [314, 213, 337, 338, 339, 340, 341, 342, 343, 344, 345, 346, 347, 348, 349, 350, 351, 352, 353, 354, 355] (by decide +kernel) (by decide +kernel)
set_option maxRecDepth 20000 in
theorem gL_law_X3_tail : GoodIn wsL_law (wsV RL 76 RX3 yX3_tail wsX3_tail) := goodIn_app (goodIn_of _ (by decide +kernel)) ggL_law_X3_tail
set_option maxRecDepth 20000 in
theorem ggL_law_X2_unitEpoch : GoodIn wsL_law wsX2_unitEpoch := goodIn_r _ [318, 141, 142, 143, 2, 144, 13, 356, 357, 358, 331, 332, 333, 334, 335, 336] (by decide +kernel) (by decide +kernel)
set_option maxRecDepth 20000 in
theorem gL_law_X2_unitEpoch : GoodIn wsL_law (wsV RL 77 RX2 yX2_unitEpoch wsX2_unitEpoch) := goodIn_app (goodIn_of _ (by decide +kernel)) ggL_law_X2_unitEpoch
set_option maxRecDepth 20000 in
theorem ggL_law_X3_unitEpoch : GoodIn wsL_law wsX3_unitEpoch := goodIn_r _ [322, 53, 337, 338, 339, 340, 341, 342, 343, 344, 345, 346, 347, 348, 349, 350, 351, 352, 353, 354, 355] (by decide +kernel) (by decide +kernel)
set_option maxRecDepth 20000 in
theorem gL_law_X3_unitEpoch : GoodIn wsL_law (wsV RL 80 RX3 yX3_unitEpoch wsX3_unitEpoch) := goodIn_app (goodIn_of _ (by decide +kernel)) ggL_law_X3_unitEpoch
set_option maxRecDepth 20000 in
theorem ggL_law_X2_cell : GoodIn wsL_law wsX2_cell := goodIn_r _ [326, 141, 142, 143, 2, 144, 13, 173, 21, 174, 175, 30, 91, 92, 331, 332, 333, 334, 335, 336, 356, 357, 358] (by decide +kernel) (by decide +kernel)
set_option maxRecDepth 20000 in
theorem gL_law_X2_cell : GoodIn wsL_law (wsV RL 81 RX2 yX2_cell wsX2_cell) := goodIn_app (goodIn_of _ (by decide +kernel)) ggL_law_X2_cell
set_option maxRecDepth 20000 in
theorem ggL_law_X3_cell : GoodIn wsL_law wsX3_cell := goodIn_r _ [330, 231, 232, 233, 5, 234, 218, 50, 51, 52, 337, 338, 339, 340, 341, 342, 343, 344, 345, 346, 347, 348, 349, 350, 351, 352, 353, 354, 355] (by decide +kernel) (by decide +kernel)
set_option maxRecDepth 20000 in
theorem gL_law_X3_cell : GoodIn wsL_law (wsV RL 84 RX3 yX3_cell wsX3_cell) := goodIn_app (goodIn_of _ (by decide +kernel)) ggL_law_X3_cell
