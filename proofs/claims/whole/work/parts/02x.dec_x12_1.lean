theorem dX12_balesOn_2 : decode cX12_balesOn 2 = .ok (.iconst 0, 1) := by decide +kernel
theorem dX12_balesOn_3 : decode cX12_balesOn 3 = .ok (.istore_n 3, 1) := by decide +kernel
theorem dX12_balesOn_4 : decode cX12_balesOn 4 = .ok (.iload_n 3, 1) := by decide +kernel
theorem dX12_balesOn_5 : decode cX12_balesOn 5 = .ok (.iconst 4, 1) := by decide +kernel
theorem dX12_balesOn_6 : decode cX12_balesOn 6 = .ok (.if_icmp .ge 20, 3) := by decide +kernel
theorem dX12_balesOn_9 : decode cX12_balesOn 9 = .ok (.iload_n 2, 1) := by decide +kernel
theorem dX12_balesOn_10 : decode cX12_balesOn 10 = .ok (.aload_n 0, 1) := by decide +kernel
theorem dX12_balesOn_11 : decode cX12_balesOn 11 = .ok (.getfield 82, 3) := by decide +kernel
theorem dX12_balesOn_14 : decode cX12_balesOn 14 = .ok (.iload_n 1, 1) := by decide +kernel
theorem dX12_balesOn_15 : decode cX12_balesOn 15 = .ok (.aaload, 1) := by decide +kernel
theorem dX12_balesOn_16 : decode cX12_balesOn 16 = .ok (.iload_n 3, 1) := by decide +kernel
theorem dX12_balesOn_17 : decode cX12_balesOn 17 = .ok (.iaload, 1) := by decide +kernel
theorem dX12_balesOn_18 : decode cX12_balesOn 18 = .ok (.iadd, 1) := by decide +kernel
theorem dX12_balesOn_19 : decode cX12_balesOn 19 = .ok (.istore_n 2, 1) := by decide +kernel
theorem dX12_balesOn_20 : decode cX12_balesOn 20 = .ok (.iinc 3 1, 3) := by decide +kernel
theorem dX12_balesOn_23 : decode cX12_balesOn 23 = .ok (.goto (-19), 3) := by decide +kernel
theorem dX12_balesOn_26 : decode cX12_balesOn 26 = .ok (.iload_n 2, 1) := by decide +kernel
theorem dX12_balesOn_27 : decode cX12_balesOn 27 = .ok (.ireturn, 1) := by decide +kernel
theorem dX12_ownOn_0 : decode cX12_ownOn 0 = .ok (.iconst 0, 1) := by decide +kernel
theorem dX12_ownOn_1 : decode cX12_ownOn 1 = .ok (.istore_n 2, 1) := by decide +kernel
theorem dX12_ownOn_2 : decode cX12_ownOn 2 = .ok (.iconst 0, 1) := by decide +kernel
theorem dX12_ownOn_3 : decode cX12_ownOn 3 = .ok (.istore_n 3, 1) := by decide +kernel
theorem dX12_ownOn_4 : decode cX12_ownOn 4 = .ok (.iload_n 3, 1) := by decide +kernel
theorem dX12_ownOn_5 : decode cX12_ownOn 5 = .ok (.aload_n 0, 1) := by decide +kernel
theorem dX12_ownOn_6 : decode cX12_ownOn 6 = .ok (.getfield 217, 3) := by decide +kernel
theorem dX12_ownOn_9 : decode cX12_ownOn 9 = .ok (.if_icmp .ge 20, 3) := by decide +kernel
theorem dX12_ownOn_12 : decode cX12_ownOn 12 = .ok (.iload_n 2, 1) := by decide +kernel
theorem dX12_ownOn_13 : decode cX12_ownOn 13 = .ok (.aload_n 0, 1) := by decide +kernel
theorem dX12_ownOn_14 : decode cX12_ownOn 14 = .ok (.getfield 88, 3) := by decide +kernel
theorem dX12_ownOn_17 : decode cX12_ownOn 17 = .ok (.iload_n 1, 1) := by decide +kernel
theorem dX12_ownOn_18 : decode cX12_ownOn 18 = .ok (.aaload, 1) := by decide +kernel
theorem dX12_ownOn_19 : decode cX12_ownOn 19 = .ok (.iload_n 3, 1) := by decide +kernel
theorem dX12_ownOn_20 : decode cX12_ownOn 20 = .ok (.iaload, 1) := by decide +kernel
theorem dX12_ownOn_21 : decode cX12_ownOn 21 = .ok (.iadd, 1) := by decide +kernel
theorem dX12_ownOn_22 : decode cX12_ownOn 22 = .ok (.istore_n 2, 1) := by decide +kernel
theorem dX12_ownOn_23 : decode cX12_ownOn 23 = .ok (.iinc 3 1, 3) := by decide +kernel
theorem dX12_ownOn_26 : decode cX12_ownOn 26 = .ok (.goto (-22), 3) := by decide +kernel
theorem dX12_ownOn_29 : decode cX12_ownOn 29 = .ok (.iload_n 2, 1) := by decide +kernel
theorem dX12_ownOn_30 : decode cX12_ownOn 30 = .ok (.ireturn, 1) := by decide +kernel
theorem dX12_free_0 : decode cX12_free 0 = .ok (.aload_n 0, 1) := by decide +kernel
theorem dX12_free_1 : decode cX12_free 1 = .ok (.getfield 69, 3) := by decide +kernel
theorem dX12_free_4 : decode cX12_free 4 = .ok (.iload_n 1, 1) := by decide +kernel
theorem dX12_free_5 : decode cX12_free 5 = .ok (.iaload, 1) := by decide +kernel
theorem dX12_free_6 : decode cX12_free 6 = .ok (.aload_n 0, 1) := by decide +kernel
theorem dX12_free_7 : decode cX12_free 7 = .ok (.iload_n 1, 1) := by decide +kernel
theorem dX12_free_8 : decode cX12_free 8 = .ok (.invokevirtual 370, 3) := by decide +kernel
theorem dX12_free_11 : decode cX12_free 11 = .ok (.isub, 1) := by decide +kernel
theorem dX12_free_12 : decode cX12_free 12 = .ok (.aload_n 0, 1) := by decide +kernel
theorem dX12_free_13 : decode cX12_free 13 = .ok (.iload_n 1, 1) := by decide +kernel
theorem dX12_free_14 : decode cX12_free 14 = .ok (.invokevirtual 373, 3) := by decide +kernel
theorem dX12_free_17 : decode cX12_free 17 = .ok (.isub, 1) := by decide +kernel
theorem dX12_free_18 : decode cX12_free 18 = .ok (.ireturn, 1) := by decide +kernel
theorem dX12_stow_0 : decode cX12_stow 0 = .ok (.aload_n 0, 1) := by decide +kernel
theorem dX12_stow_1 : decode cX12_stow 1 = .ok (.iload_n 1, 1) := by decide +kernel
theorem dX12_stow_2 : decode cX12_stow 2 = .ok (.invokevirtual 221, 3) := by decide +kernel
theorem dX12_stow_5 : decode cX12_stow 5 = .ok (.ifCond .eq 11, 3) := by decide +kernel
theorem dX12_stow_8 : decode cX12_stow 8 = .ok (.aload_n 0, 1) := by decide +kernel
theorem dX12_stow_9 : decode cX12_stow 9 = .ok (.iload_n 2, 1) := by decide +kernel
theorem dX12_stow_10 : decode cX12_stow 10 = .ok (.invokevirtual 330, 3) := by decide +kernel
theorem dX12_stow_13 : decode cX12_stow 13 = .ok (.ifCond .ne 5, 3) := by decide +kernel
theorem dX12_stow_16 : decode cX12_stow 16 = .ok (.iconst (-1), 1) := by decide +kernel
theorem dX12_stow_17 : decode cX12_stow 17 = .ok (.ireturn, 1) := by decide +kernel
theorem dX12_stow_18 : decode cX12_stow 18 = .ok (.iload_n 3, 1) := by decide +kernel
theorem dX12_stow_19 : decode cX12_stow 19 = .ok (.iconst 0, 1) := by decide +kernel
theorem dX12_stow_20 : decode cX12_stow 20 = .ok (.bipush 20, 2) := by decide +kernel
theorem dX12_stow_22 : decode cX12_stow 22 = .ok (.invokestatic 196, 3) := by decide +kernel
theorem dX12_stow_25 : decode cX12_stow 25 = .ok (.ifCond .ne 6, 3) := by decide +kernel
theorem dX12_stow_28 : decode cX12_stow 28 = .ok (.bipush (-2), 2) := by decide +kernel
theorem dX12_stow_30 : decode cX12_stow 30 = .ok (.ireturn, 1) := by decide +kernel
theorem dX12_stow_31 : decode cX12_stow 31 = .ok (.aload_n 0, 1) := by decide +kernel
theorem dX12_stow_32 : decode cX12_stow 32 = .ok (.getfield 72, 3) := by decide +kernel
theorem dX12_stow_35 : decode cX12_stow 35 = .ok (.iload_n 2, 1) := by decide +kernel
theorem dX12_stow_36 : decode cX12_stow 36 = .ok (.iaload, 1) := by decide +kernel
theorem dX12_stow_37 : decode cX12_stow 37 = .ok (.aload_n 0, 1) := by decide +kernel
theorem dX12_stow_38 : decode cX12_stow 38 = .ok (.getfield 27, 3) := by decide +kernel
theorem dX12_stow_41 : decode cX12_stow 41 = .ok (.iload_n 1, 1) := by decide +kernel
theorem dX12_stow_42 : decode cX12_stow 42 = .ok (.iaload, 1) := by decide +kernel
theorem dX12_stow_43 : decode cX12_stow 43 = .ok (.if_icmp .eq 6, 3) := by decide +kernel
theorem dX12_stow_46 : decode cX12_stow 46 = .ok (.bipush (-3), 2) := by decide +kernel
theorem dX12_stow_48 : decode cX12_stow 48 = .ok (.ireturn, 1) := by decide +kernel
theorem dX12_stow_49 : decode cX12_stow 49 = .ok (.iload_n 3, 1) := by decide +kernel
theorem dX12_stow_50 : decode cX12_stow 50 = .ok (.aload_n 0, 1) := by decide +kernel
theorem dX12_stow_51 : decode cX12_stow 51 = .ok (.iload_n 2, 1) := by decide +kernel
theorem dX12_stow_52 : decode cX12_stow 52 = .ok (.invokevirtual 376, 3) := by decide +kernel
theorem dX12_stow_55 : decode cX12_stow 55 = .ok (.if_icmp .le 6, 3) := by decide +kernel
theorem dX12_stow_58 : decode cX12_stow 58 = .ok (.bipush (-4), 2) := by decide +kernel
theorem dX12_stow_60 : decode cX12_stow 60 = .ok (.ireturn, 1) := by decide +kernel
theorem dX12_stow_61 : decode cX12_stow 61 = .ok (.aload_n 0, 1) := by decide +kernel
theorem dX12_stow_62 : decode cX12_stow 62 = .ok (.getfield 88, 3) := by decide +kernel
theorem dX12_stow_65 : decode cX12_stow 65 = .ok (.iload_n 2, 1) := by decide +kernel
theorem dX12_stow_66 : decode cX12_stow 66 = .ok (.aaload, 1) := by decide +kernel
theorem dX12_stow_67 : decode cX12_stow 67 = .ok (.iload_n 1, 1) := by decide +kernel
theorem dX12_stow_68 : decode cX12_stow 68 = .ok (.dup2, 1) := by decide +kernel
theorem dX12_stow_69 : decode cX12_stow 69 = .ok (.iaload, 1) := by decide +kernel
theorem dX12_stow_70 : decode cX12_stow 70 = .ok (.iload_n 3, 1) := by decide +kernel
theorem dX12_stow_71 : decode cX12_stow 71 = .ok (.iadd, 1) := by decide +kernel
theorem dX12_stow_72 : decode cX12_stow 72 = .ok (.iastore, 1) := by decide +kernel
theorem dX12_stow_73 : decode cX12_stow 73 = .ok (.aload_n 0, 1) := by decide +kernel
theorem dX12_stow_74 : decode cX12_stow 74 = .ok (.getfield 88, 3) := by decide +kernel
theorem dX12_stow_77 : decode cX12_stow 77 = .ok (.iload_n 2, 1) := by decide +kernel
theorem dX12_stow_78 : decode cX12_stow 78 = .ok (.aaload, 1) := by decide +kernel
theorem dX12_stow_79 : decode cX12_stow 79 = .ok (.iload_n 1, 1) := by decide +kernel
theorem dX12_stow_80 : decode cX12_stow 80 = .ok (.iaload, 1) := by decide +kernel
theorem dX12_stow_81 : decode cX12_stow 81 = .ok (.ireturn, 1) := by decide +kernel
theorem dX12_leave_0 : decode cX12_leave 0 = .ok (.aload_n 0, 1) := by decide +kernel
theorem dX12_leave_1 : decode cX12_leave 1 = .ok (.dup, 1) := by decide +kernel
theorem dX12_leave_2 : decode cX12_leave 2 = .ok (.getfield 379, 3) := by decide +kernel
theorem dX12_leave_5 : decode cX12_leave 5 = .ok (.dup_x1, 1) := by decide +kernel
theorem dX12_leave_6 : decode cX12_leave 6 = .ok (.iconst 1, 1) := by decide +kernel
theorem dX12_leave_7 : decode cX12_leave 7 = .ok (.iadd, 1) := by decide +kernel
theorem dX12_leave_8 : decode cX12_leave 8 = .ok (.putfield 379, 3) := by decide +kernel
theorem dX12_leave_11 : decode cX12_leave 11 = .ok (.istore_n 3, 1) := by decide +kernel
theorem dX12_leave_12 : decode cX12_leave 12 = .ok (.aload_n 0, 1) := by decide +kernel
theorem dX12_leave_13 : decode cX12_leave 13 = .ok (.getfield 72, 3) := by decide +kernel
theorem dX12_leave_16 : decode cX12_leave 16 = .ok (.iload_n 1, 1) := by decide +kernel
theorem dX12_leave_17 : decode cX12_leave 17 = .ok (.iaload, 1) := by decide +kernel
theorem dX12_leave_18 : decode cX12_leave 18 = .ok (.istore 4, 2) := by decide +kernel
theorem dX12_leave_20 : decode cX12_leave 20 = .ok (.aload_n 0, 1) := by decide +kernel
theorem dX12_leave_21 : decode cX12_leave 21 = .ok (.getfield 94, 3) := by decide +kernel
theorem dX12_leave_24 : decode cX12_leave 24 = .ok (.iload_n 3, 1) := by decide +kernel
theorem dX12_leave_25 : decode cX12_leave 25 = .ok (.iload_n 1, 1) := by decide +kernel
theorem dX12_leave_26 : decode cX12_leave 26 = .ok (.iastore, 1) := by decide +kernel
theorem dX12_leave_27 : decode cX12_leave 27 = .ok (.aload_n 0, 1) := by decide +kernel
theorem dX12_leave_28 : decode cX12_leave 28 = .ok (.getfield 97, 3) := by decide +kernel
theorem dX12_leave_31 : decode cX12_leave 31 = .ok (.iload_n 3, 1) := by decide +kernel
theorem dX12_leave_32 : decode cX12_leave 32 = .ok (.iload 4, 2) := by decide +kernel
theorem dX12_leave_34 : decode cX12_leave 34 = .ok (.iastore, 1) := by decide +kernel
theorem dX12_leave_35 : decode cX12_leave 35 = .ok (.aload_n 0, 1) := by decide +kernel
theorem dX12_leave_36 : decode cX12_leave 36 = .ok (.getfield 100, 3) := by decide +kernel
theorem dX12_leave_39 : decode cX12_leave 39 = .ok (.iload_n 3, 1) := by decide +kernel
theorem dX12_leave_40 : decode cX12_leave 40 = .ok (.iload_n 2, 1) := by decide +kernel
theorem dX12_leave_41 : decode cX12_leave 41 = .ok (.iastore, 1) := by decide +kernel
theorem dX12_leave_42 : decode cX12_leave 42 = .ok (.aload_n 0, 1) := by decide +kernel
theorem dX12_leave_43 : decode cX12_leave 43 = .ok (.getfield 103, 3) := by decide +kernel
theorem dX12_leave_46 : decode cX12_leave 46 = .ok (.iload_n 3, 1) := by decide +kernel
theorem dX12_leave_47 : decode cX12_leave 47 = .ok (.aload_n 0, 1) := by decide +kernel
theorem dX12_leave_48 : decode cX12_leave 48 = .ok (.getfield 227, 3) := by decide +kernel
theorem dX12_leave_51 : decode cX12_leave 51 = .ok (.iastore, 1) := by decide +kernel
theorem dX12_leave_52 : decode cX12_leave 52 = .ok (.aload_n 0, 1) := by decide +kernel
theorem dX12_leave_53 : decode cX12_leave 53 = .ok (.getfield 106, 3) := by decide +kernel
theorem dX12_leave_56 : decode cX12_leave 56 = .ok (.iload_n 3, 1) := by decide +kernel
theorem dX12_leave_57 : decode cX12_leave 57 = .ok (.aload_n 0, 1) := by decide +kernel
theorem dX12_leave_58 : decode cX12_leave 58 = .ok (.getfield 227, 3) := by decide +kernel
theorem dX12_leave_61 : decode cX12_leave 61 = .ok (.iload 4, 2) := by decide +kernel
theorem dX12_leave_63 : decode cX12_leave 63 = .ok (.ifCond .ne 14, 3) := by decide +kernel
theorem dX12_leave_66 : decode cX12_leave 66 = .ok (.aload_n 0, 1) := by decide +kernel
theorem dX12_leave_67 : decode cX12_leave 67 = .ok (.getfield 18, 3) := by decide +kernel
theorem dX12_leave_70 : decode cX12_leave 70 = .ok (.iload_n 2, 1) := by decide +kernel
theorem dX12_leave_71 : decode cX12_leave 71 = .ok (.aaload, 1) := by decide +kernel
theorem dX12_leave_72 : decode cX12_leave 72 = .ok (.iconst 0, 1) := by decide +kernel
theorem dX12_leave_73 : decode cX12_leave 73 = .ok (.iaload, 1) := by decide +kernel
theorem dX12_leave_74 : decode cX12_leave 74 = .ok (.goto 12, 3) := by decide +kernel
theorem dX12_leave_77 : decode cX12_leave 77 = .ok (.aload_n 0, 1) := by decide +kernel
theorem dX12_leave_78 : decode cX12_leave 78 = .ok (.getfield 18, 3) := by decide +kernel
theorem dX12_leave_81 : decode cX12_leave 81 = .ok (.iload 4, 2) := by decide +kernel
theorem dX12_leave_83 : decode cX12_leave 83 = .ok (.aaload, 1) := by decide +kernel
theorem dX12_leave_84 : decode cX12_leave 84 = .ok (.iconst 1, 1) := by decide +kernel
theorem dX12_leave_85 : decode cX12_leave 85 = .ok (.iaload, 1) := by decide +kernel
theorem dX12_leave_86 : decode cX12_leave 86 = .ok (.iadd, 1) := by decide +kernel
theorem dX12_leave_87 : decode cX12_leave 87 = .ok (.aload_n 0, 1) := by decide +kernel
theorem dX12_leave_88 : decode cX12_leave 88 = .ok (.getfield 227, 3) := by decide +kernel
theorem dX12_leave_91 : decode cX12_leave 91 = .ok (.sipush 360, 3) := by decide +kernel
theorem dX12_leave_94 : decode cX12_leave 94 = .ok (.irem, 1) := by decide +kernel
theorem dX12_leave_95 : decode cX12_leave 95 = .ok (.sipush 240, 3) := by decide +kernel
theorem dX12_leave_98 : decode cX12_leave 98 = .ok (.if_icmp .lt 8, 3) := by decide +kernel
theorem dX12_leave_101 : decode cX12_leave 101 = .ok (.bipush 60, 2) := by decide +kernel
theorem dX12_leave_103 : decode cX12_leave 103 = .ok (.goto 4, 3) := by decide +kernel
theorem dX12_leave_106 : decode cX12_leave 106 = .ok (.iconst 0, 1) := by decide +kernel
theorem dX12_leave_107 : decode cX12_leave 107 = .ok (.iadd, 1) := by decide +kernel
theorem dX12_leave_108 : decode cX12_leave 108 = .ok (.iastore, 1) := by decide +kernel
theorem dX12_leave_109 : decode cX12_leave 109 = .ok (.aload_n 0, 1) := by decide +kernel
theorem dX12_leave_110 : decode cX12_leave 110 = .ok (.getfield 121, 3) := by decide +kernel
theorem dX12_leave_113 : decode cX12_leave 113 = .ok (.iload_n 3, 1) := by decide +kernel
theorem dX12_leave_114 : decode cX12_leave 114 = .ok (.iconst (-1), 1) := by decide +kernel
theorem dX12_leave_115 : decode cX12_leave 115 = .ok (.iastore, 1) := by decide +kernel
theorem dX12_leave_116 : decode cX12_leave 116 = .ok (.iconst 0, 1) := by decide +kernel
theorem dX12_leave_117 : decode cX12_leave 117 = .ok (.istore 5, 2) := by decide +kernel
theorem dX12_leave_119 : decode cX12_leave 119 = .ok (.iconst 0, 1) := by decide +kernel
theorem dX12_leave_120 : decode cX12_leave 120 = .ok (.istore 6, 2) := by decide +kernel
theorem dX12_leave_122 : decode cX12_leave 122 = .ok (.iload 6, 2) := by decide +kernel
theorem dX12_leave_124 : decode cX12_leave 124 = .ok (.aload_n 0, 1) := by decide +kernel
theorem dX12_leave_125 : decode cX12_leave 125 = .ok (.getfield 217, 3) := by decide +kernel
theorem dX12_leave_128 : decode cX12_leave 128 = .ok (.if_icmp .ge 39, 3) := by decide +kernel
theorem dX12_leave_131 : decode cX12_leave 131 = .ok (.iload 5, 2) := by decide +kernel
theorem dX12_leave_133 : decode cX12_leave 133 = .ok (.aload_n 0, 1) := by decide +kernel
theorem dX12_leave_134 : decode cX12_leave 134 = .ok (.getfield 27, 3) := by decide +kernel
theorem dX12_leave_137 : decode cX12_leave 137 = .ok (.iload 6, 2) := by decide +kernel
theorem dX12_leave_139 : decode cX12_leave 139 = .ok (.iaload, 1) := by decide +kernel
theorem dX12_leave_140 : decode cX12_leave 140 = .ok (.iload 4, 2) := by decide +kernel
theorem dX12_leave_142 : decode cX12_leave 142 = .ok (.if_icmp .ne 15, 3) := by decide +kernel
theorem dX12_leave_145 : decode cX12_leave 145 = .ok (.aload_n 0, 1) := by decide +kernel
theorem dX12_leave_146 : decode cX12_leave 146 = .ok (.getfield 30, 3) := by decide +kernel
theorem dX12_leave_149 : decode cX12_leave 149 = .ok (.iload 6, 2) := by decide +kernel
theorem dX12_leave_151 : decode cX12_leave 151 = .ok (.iaload, 1) := by decide +kernel
theorem dX12_leave_152 : decode cX12_leave 152 = .ok (.iconst 2, 1) := by decide +kernel
theorem dX12_leave_153 : decode cX12_leave 153 = .ok (.idiv, 1) := by decide +kernel
theorem dX12_leave_154 : decode cX12_leave 154 = .ok (.goto 4, 3) := by decide +kernel
theorem dX12_leave_157 : decode cX12_leave 157 = .ok (.iconst 0, 1) := by decide +kernel
theorem dX12_leave_158 : decode cX12_leave 158 = .ok (.iadd, 1) := by decide +kernel
theorem dX12_leave_159 : decode cX12_leave 159 = .ok (.istore 5, 2) := by decide +kernel
theorem dX12_leave_161 : decode cX12_leave 161 = .ok (.iinc 6 1, 3) := by decide +kernel
theorem dX12_leave_164 : decode cX12_leave 164 = .ok (.goto (-42), 3) := by decide +kernel
theorem dX12_leave_167 : decode cX12_leave 167 = .ok (.aload_n 0, 1) := by decide +kernel
theorem dX12_leave_168 : decode cX12_leave 168 = .ok (.iload_n 1, 1) := by decide +kernel
theorem dX12_leave_169 : decode cX12_leave 169 = .ok (.invokevirtual 373, 3) := by decide +kernel
theorem dX12_leave_172 : decode cX12_leave 172 = .ok (.iload 5, 2) := by decide +kernel
theorem dX12_leave_174 : decode cX12_leave 174 = .ok (.isub, 1) := by decide +kernel
theorem dX12_leave_175 : decode cX12_leave 175 = .ok (.istore 6, 2) := by decide +kernel
theorem dX12_leave_177 : decode cX12_leave 177 = .ok (.aload_n 0, 1) := by decide +kernel
theorem dX12_leave_178 : decode cX12_leave 178 = .ok (.getfield 124, 3) := by decide +kernel
theorem dX12_leave_181 : decode cX12_leave 181 = .ok (.iload_n 3, 1) := by decide +kernel
theorem dX12_leave_182 : decode cX12_leave 182 = .ok (.iload 4, 2) := by decide +kernel
theorem dX12_leave_184 : decode cX12_leave 184 = .ok (.ifCond .eq 13, 3) := by decide +kernel
theorem dX12_leave_187 : decode cX12_leave 187 = .ok (.iload 6, 2) := by decide +kernel
theorem dX12_leave_189 : decode cX12_leave 189 = .ok (.ifCond .le 8, 3) := by decide +kernel
theorem dX12_leave_192 : decode cX12_leave 192 = .ok (.iload 6, 2) := by decide +kernel
theorem dX12_leave_194 : decode cX12_leave 194 = .ok (.goto 4, 3) := by decide +kernel
theorem dX12_leave_197 : decode cX12_leave 197 = .ok (.iconst 0, 1) := by decide +kernel
theorem dX12_leave_198 : decode cX12_leave 198 = .ok (.iastore, 1) := by decide +kernel
theorem dX12_leave_199 : decode cX12_leave 199 = .ok (.aload_n 0, 1) := by decide +kernel
theorem dX12_leave_200 : decode cX12_leave 200 = .ok (.getfield 82, 3) := by decide +kernel
theorem dX12_leave_203 : decode cX12_leave 203 = .ok (.iload_n 1, 1) := by decide +kernel
theorem dX12_leave_204 : decode cX12_leave 204 = .ok (.aaload, 1) := by decide +kernel
theorem dX12_leave_205 : decode cX12_leave 205 = .ok (.iconst 0, 1) := by decide +kernel
theorem dX12_leave_206 : decode cX12_leave 206 = .ok (.aload_n 0, 1) := by decide +kernel
theorem dX12_leave_207 : decode cX12_leave 207 = .ok (.getfield 115, 3) := by decide +kernel
theorem dX12_leave_210 : decode cX12_leave 210 = .ok (.iload_n 3, 1) := by decide +kernel
theorem dX12_leave_211 : decode cX12_leave 211 = .ok (.aaload, 1) := by decide +kernel
theorem dX12_leave_212 : decode cX12_leave 212 = .ok (.iconst 0, 1) := by decide +kernel
theorem dX12_leave_213 : decode cX12_leave 213 = .ok (.iconst 4, 1) := by decide +kernel
theorem dX12_leave_214 : decode cX12_leave 214 = .ok (.invokestatic 303, 3) := by decide +kernel
theorem dX12_leave_217 : decode cX12_leave 217 = .ok (.aload_n 0, 1) := by decide +kernel
theorem dX12_leave_218 : decode cX12_leave 218 = .ok (.getfield 72, 3) := by decide +kernel
theorem dX12_leave_221 : decode cX12_leave 221 = .ok (.iload_n 1, 1) := by decide +kernel
theorem dX12_leave_222 : decode cX12_leave 222 = .ok (.iconst (-1), 1) := by decide +kernel
theorem dX12_leave_223 : decode cX12_leave 223 = .ok (.iastore, 1) := by decide +kernel
theorem dX12_leave_224 : decode cX12_leave 224 = .ok (.aload_n 0, 1) := by decide +kernel
theorem dX12_leave_225 : decode cX12_leave 225 = .ok (.getfield 91, 3) := by decide +kernel
theorem dX12_leave_228 : decode cX12_leave 228 = .ok (.iload_n 1, 1) := by decide +kernel
theorem dX12_leave_229 : decode cX12_leave 229 = .ok (.iload_n 3, 1) := by decide +kernel
theorem dX12_leave_230 : decode cX12_leave 230 = .ok (.iastore, 1) := by decide +kernel
theorem dX12_leave_231 : decode cX12_leave 231 = .ok (.iload_n 3, 1) := by decide +kernel
theorem dX12_leave_232 : decode cX12_leave 232 = .ok (.ireturn, 1) := by decide +kernel
theorem dX12_sail_0 : decode cX12_sail 0 = .ok (.aload_n 0, 1) := by decide +kernel
theorem dX12_sail_1 : decode cX12_sail 1 = .ok (.iload_n 1, 1) := by decide +kernel
theorem dX12_sail_2 : decode cX12_sail 2 = .ok (.invokevirtual 330, 3) := by decide +kernel
theorem dX12_sail_5 : decode cX12_sail 5 = .ok (.ifCond .eq 10, 3) := by decide +kernel
theorem dX12_sail_8 : decode cX12_sail 8 = .ok (.iload_n 2, 1) := by decide +kernel
theorem dX12_sail_9 : decode cX12_sail 9 = .ok (.invokestatic 200, 3) := by decide +kernel
theorem dX12_sail_12 : decode cX12_sail 12 = .ok (.ifCond .ne 5, 3) := by decide +kernel
theorem dX12_sail_15 : decode cX12_sail 15 = .ok (.iconst (-1), 1) := by decide +kernel
theorem dX12_sail_16 : decode cX12_sail 16 = .ok (.ireturn, 1) := by decide +kernel
theorem dX12_sail_17 : decode cX12_sail 17 = .ok (.aload_n 0, 1) := by decide +kernel
theorem dX12_sail_18 : decode cX12_sail 18 = .ok (.getfield 72, 3) := by decide +kernel
theorem dX12_sail_21 : decode cX12_sail 21 = .ok (.iload_n 1, 1) := by decide +kernel
theorem dX12_sail_22 : decode cX12_sail 22 = .ok (.iaload, 1) := by decide +kernel
theorem dX12_sail_23 : decode cX12_sail 23 = .ok (.ifCond .ne 12, 3) := by decide +kernel
theorem dX12_sail_26 : decode cX12_sail 26 = .ok (.aload_n 0, 1) := by decide +kernel
theorem dX12_sail_27 : decode cX12_sail 27 = .ok (.getfield 75, 3) := by decide +kernel
theorem dX12_sail_30 : decode cX12_sail 30 = .ok (.iload_n 1, 1) := by decide +kernel
theorem dX12_sail_31 : decode cX12_sail 31 = .ok (.baload, 1) := by decide +kernel
theorem dX12_sail_32 : decode cX12_sail 32 = .ok (.ifCond .ne 6, 3) := by decide +kernel
theorem dX12_sail_35 : decode cX12_sail 35 = .ok (.bipush (-3), 2) := by decide +kernel
theorem dX12_sail_37 : decode cX12_sail 37 = .ok (.ireturn, 1) := by decide +kernel
theorem dX12_sail_38 : decode cX12_sail 38 = .ok (.aload_n 0, 1) := by decide +kernel
theorem dX12_sail_39 : decode cX12_sail 39 = .ok (.getfield 379, 3) := by decide +kernel
theorem dX12_sail_42 : decode cX12_sail 42 = .ok (.bipush 99, 2) := by decide +kernel
theorem dX12_sail_44 : decode cX12_sail 44 = .ok (.if_icmp .ne 8, 3) := by decide +kernel
theorem dX12_sail_47 : decode cX12_sail 47 = .ok (.bipush (-4), 2) := by decide +kernel
theorem dX12_sail_49 : decode cX12_sail 49 = .ok (.goto 9, 3) := by decide +kernel
theorem dX12_sail_52 : decode cX12_sail 52 = .ok (.aload_n 0, 1) := by decide +kernel
theorem dX12_sail_53 : decode cX12_sail 53 = .ok (.iload_n 1, 1) := by decide +kernel
theorem dX12_sail_54 : decode cX12_sail 54 = .ok (.iload_n 2, 1) := by decide +kernel
theorem dX12_sail_55 : decode cX12_sail 55 = .ok (.invokevirtual 382, 3) := by decide +kernel
theorem dX12_sail_58 : decode cX12_sail 58 = .ok (.ireturn, 1) := by decide +kernel
theorem dX12_isVoyage_0 : decode cX12_isVoyage 0 = .ok (.iload_n 1, 1) := by decide +kernel
theorem dX12_isVoyage_1 : decode cX12_isVoyage 1 = .ok (.iconst 0, 1) := by decide +kernel
theorem dX12_isVoyage_2 : decode cX12_isVoyage 2 = .ok (.aload_n 0, 1) := by decide +kernel
theorem dX12_isVoyage_3 : decode cX12_isVoyage 3 = .ok (.getfield 379, 3) := by decide +kernel
theorem dX12_isVoyage_6 : decode cX12_isVoyage 6 = .ok (.iconst 1, 1) := by decide +kernel
theorem dX12_isVoyage_7 : decode cX12_isVoyage 7 = .ok (.isub, 1) := by decide +kernel
theorem dX12_isVoyage_8 : decode cX12_isVoyage 8 = .ok (.invokestatic 196, 3) := by decide +kernel
theorem dX12_isVoyage_11 : decode cX12_isVoyage 11 = .ok (.ireturn, 1) := by decide +kernel
theorem dX12_lose_0 : decode cX12_lose 0 = .ok (.aload_n 0, 1) := by decide +kernel
theorem dX12_lose_1 : decode cX12_lose 1 = .ok (.iload_n 1, 1) := by decide +kernel
theorem dX12_lose_2 : decode cX12_lose 2 = .ok (.invokevirtual 385, 3) := by decide +kernel
theorem dX12_lose_5 : decode cX12_lose 5 = .ok (.ifCond .ne 5, 3) := by decide +kernel
theorem dX12_lose_8 : decode cX12_lose 8 = .ok (.iconst (-1), 1) := by decide +kernel
theorem dX12_lose_9 : decode cX12_lose 9 = .ok (.ireturn, 1) := by decide +kernel
theorem dX12_lose_10 : decode cX12_lose 10 = .ok (.aload_n 0, 1) := by decide +kernel
theorem dX12_lose_11 : decode cX12_lose 11 = .ok (.getfield 112, 3) := by decide +kernel
theorem dX12_lose_14 : decode cX12_lose 14 = .ok (.iload_n 1, 1) := by decide +kernel
theorem dX12_lose_15 : decode cX12_lose 15 = .ok (.iaload, 1) := by decide +kernel
theorem dX12_lose_16 : decode cX12_lose 16 = .ok (.ifCond .ne 12, 3) := by decide +kernel
theorem dX12_lose_19 : decode cX12_lose 19 = .ok (.aload_n 0, 1) := by decide +kernel
theorem dX12_lose_20 : decode cX12_lose 20 = .ok (.getfield 109, 3) := by decide +kernel
theorem dX12_lose_23 : decode cX12_lose 23 = .ok (.iload_n 1, 1) := by decide +kernel
theorem dX12_lose_24 : decode cX12_lose 24 = .ok (.baload, 1) := by decide +kernel
theorem dX12_lose_25 : decode cX12_lose 25 = .ok (.ifCond .eq 6, 3) := by decide +kernel
theorem dX12_lose_28 : decode cX12_lose 28 = .ok (.bipush (-3), 2) := by decide +kernel
theorem dX12_lose_30 : decode cX12_lose 30 = .ok (.ireturn, 1) := by decide +kernel
theorem dX12_lose_31 : decode cX12_lose 31 = .ok (.aload_n 0, 1) := by decide +kernel
theorem dX12_lose_32 : decode cX12_lose 32 = .ok (.getfield 109, 3) := by decide +kernel
theorem dX12_lose_35 : decode cX12_lose 35 = .ok (.iload_n 1, 1) := by decide +kernel
theorem dX12_lose_36 : decode cX12_lose 36 = .ok (.iconst 1, 1) := by decide +kernel
theorem dX12_lose_37 : decode cX12_lose 37 = .ok (.bastore, 1) := by decide +kernel
theorem dX12_lose_38 : decode cX12_lose 38 = .ok (.iconst 1, 1) := by decide +kernel
theorem dX12_lose_39 : decode cX12_lose 39 = .ok (.ireturn, 1) := by decide +kernel
theorem dX12_shipOf_0 : decode cX12_shipOf 0 = .ok (.aload_n 0, 1) := by decide +kernel
theorem dX12_shipOf_1 : decode cX12_shipOf 1 = .ok (.iload_n 1, 1) := by decide +kernel
theorem dX12_shipOf_2 : decode cX12_shipOf 2 = .ok (.invokevirtual 330, 3) := by decide +kernel
theorem dX12_shipOf_5 : decode cX12_shipOf 5 = .ok (.ifCond .ne 6, 3) := by decide +kernel
theorem dX12_shipOf_8 : decode cX12_shipOf 8 = .ok (.bipush (-5), 2) := by decide +kernel
theorem dX12_shipOf_10 : decode cX12_shipOf 10 = .ok (.ireturn, 1) := by decide +kernel
theorem dX12_shipOf_11 : decode cX12_shipOf 11 = .ok (.iload_n 2, 1) := by decide +kernel
theorem dX12_shipOf_12 : decode cX12_shipOf 12 = .ok (.tableswitch 173 0 10 #[60, 67, 93, 99, 114, 121, 121, 121, 121, 132, 166], 60) := by decide +kernel
theorem dX12_shipOf_72 : decode cX12_shipOf 72 = .ok (.aload_n 0, 1) := by decide +kernel
theorem dX12_shipOf_73 : decode cX12_shipOf 73 = .ok (.getfield 72, 3) := by decide +kernel
theorem dX12_shipOf_76 : decode cX12_shipOf 76 = .ok (.iload_n 1, 1) := by decide +kernel
theorem dX12_shipOf_77 : decode cX12_shipOf 77 = .ok (.iaload, 1) := by decide +kernel
theorem dX12_shipOf_78 : decode cX12_shipOf 78 = .ok (.ireturn, 1) := by decide +kernel
theorem dX12_shipOf_79 : decode cX12_shipOf 79 = .ok (.aload_n 0, 1) := by decide +kernel
theorem dX12_shipOf_80 : decode cX12_shipOf 80 = .ok (.getfield 72, 3) := by decide +kernel
theorem dX12_shipOf_83 : decode cX12_shipOf 83 = .ok (.iload_n 1, 1) := by decide +kernel
theorem dX12_shipOf_84 : decode cX12_shipOf 84 = .ok (.iaload, 1) := by decide +kernel
theorem dX12_shipOf_85 : decode cX12_shipOf 85 = .ok (.iconst (-1), 1) := by decide +kernel
theorem dX12_shipOf_86 : decode cX12_shipOf 86 = .ok (.if_icmp .ne 17, 3) := by decide +kernel
theorem dX12_shipOf_89 : decode cX12_shipOf 89 = .ok (.aload_n 0, 1) := by decide +kernel
theorem dX12_shipOf_90 : decode cX12_shipOf 90 = .ok (.getfield 106, 3) := by decide +kernel
theorem dX12_shipOf_93 : decode cX12_shipOf 93 = .ok (.aload_n 0, 1) := by decide +kernel
theorem dX12_shipOf_94 : decode cX12_shipOf 94 = .ok (.getfield 91, 3) := by decide +kernel
theorem dX12_shipOf_97 : decode cX12_shipOf 97 = .ok (.iload_n 1, 1) := by decide +kernel
theorem dX12_shipOf_98 : decode cX12_shipOf 98 = .ok (.iaload, 1) := by decide +kernel
theorem dX12_shipOf_99 : decode cX12_shipOf 99 = .ok (.iaload, 1) := by decide +kernel
theorem dX12_shipOf_100 : decode cX12_shipOf 100 = .ok (.goto 4, 3) := by decide +kernel
theorem dX12_shipOf_103 : decode cX12_shipOf 103 = .ok (.iconst (-1), 1) := by decide +kernel
theorem dX12_shipOf_104 : decode cX12_shipOf 104 = .ok (.ireturn, 1) := by decide +kernel
theorem dX12_shipOf_105 : decode cX12_shipOf 105 = .ok (.aload_n 0, 1) := by decide +kernel
theorem dX12_shipOf_106 : decode cX12_shipOf 106 = .ok (.iload_n 1, 1) := by decide +kernel
theorem dX12_shipOf_107 : decode cX12_shipOf 107 = .ok (.invokevirtual 376, 3) := by decide +kernel
theorem dX12_shipOf_110 : decode cX12_shipOf 110 = .ok (.ireturn, 1) := by decide +kernel
theorem dX12_shipOf_111 : decode cX12_shipOf 111 = .ok (.aload_n 0, 1) := by decide +kernel
theorem dX12_shipOf_112 : decode cX12_shipOf 112 = .ok (.getfield 75, 3) := by decide +kernel
theorem dX12_shipOf_115 : decode cX12_shipOf 115 = .ok (.iload_n 1, 1) := by decide +kernel
theorem dX12_shipOf_116 : decode cX12_shipOf 116 = .ok (.baload, 1) := by decide +kernel
theorem dX12_shipOf_117 : decode cX12_shipOf 117 = .ok (.ifCond .eq 7, 3) := by decide +kernel
theorem dX12_shipOf_120 : decode cX12_shipOf 120 = .ok (.iconst 1, 1) := by decide +kernel
theorem dX12_shipOf_121 : decode cX12_shipOf 121 = .ok (.goto 4, 3) := by decide +kernel
theorem dX12_shipOf_124 : decode cX12_shipOf 124 = .ok (.iconst 0, 1) := by decide +kernel
theorem dX12_shipOf_125 : decode cX12_shipOf 125 = .ok (.ireturn, 1) := by decide +kernel
theorem dX12_shipOf_126 : decode cX12_shipOf 126 = .ok (.aload_n 0, 1) := by decide +kernel
theorem dX12_shipOf_127 : decode cX12_shipOf 127 = .ok (.getfield 85, 3) := by decide +kernel
theorem dX12_shipOf_130 : decode cX12_shipOf 130 = .ok (.iload_n 1, 1) := by decide +kernel
theorem dX12_shipOf_131 : decode cX12_shipOf 131 = .ok (.iaload, 1) := by decide +kernel
theorem dX12_shipOf_132 : decode cX12_shipOf 132 = .ok (.ireturn, 1) := by decide +kernel
theorem dX12_shipOf_133 : decode cX12_shipOf 133 = .ok (.aload_n 0, 1) := by decide +kernel
theorem dX12_shipOf_134 : decode cX12_shipOf 134 = .ok (.getfield 82, 3) := by decide +kernel
theorem dX12_shipOf_137 : decode cX12_shipOf 137 = .ok (.iload_n 1, 1) := by decide +kernel
theorem dX12_shipOf_138 : decode cX12_shipOf 138 = .ok (.aaload, 1) := by decide +kernel
theorem dX12_shipOf_139 : decode cX12_shipOf 139 = .ok (.iload_n 2, 1) := by decide +kernel
theorem dX12_shipOf_140 : decode cX12_shipOf 140 = .ok (.iconst 5, 1) := by decide +kernel
theorem dX12_shipOf_141 : decode cX12_shipOf 141 = .ok (.isub, 1) := by decide +kernel
theorem dX12_shipOf_142 : decode cX12_shipOf 142 = .ok (.iaload, 1) := by decide +kernel
theorem dX12_shipOf_143 : decode cX12_shipOf 143 = .ok (.ireturn, 1) := by decide +kernel
theorem dX12_shipOf_144 : decode cX12_shipOf 144 = .ok (.iconst 0, 1) := by decide +kernel
theorem dX12_shipOf_145 : decode cX12_shipOf 145 = .ok (.istore_n 3, 1) := by decide +kernel
theorem dX12_shipOf_146 : decode cX12_shipOf 146 = .ok (.iconst 0, 1) := by decide +kernel
theorem dX12_shipOf_147 : decode cX12_shipOf 147 = .ok (.istore 4, 2) := by decide +kernel
theorem dX12_shipOf_149 : decode cX12_shipOf 149 = .ok (.iload 4, 2) := by decide +kernel
theorem dX12_shipOf_151 : decode cX12_shipOf 151 = .ok (.aload_n 0, 1) := by decide +kernel
theorem dX12_shipOf_152 : decode cX12_shipOf 152 = .ok (.getfield 224, 3) := by decide +kernel
theorem dX12_shipOf_155 : decode cX12_shipOf 155 = .ok (.if_icmp .ge 21, 3) := by decide +kernel
theorem dX12_shipOf_158 : decode cX12_shipOf 158 = .ok (.iload_n 3, 1) := by decide +kernel
theorem dX12_shipOf_159 : decode cX12_shipOf 159 = .ok (.aload_n 0, 1) := by decide +kernel
theorem dX12_shipOf_160 : decode cX12_shipOf 160 = .ok (.getfield 63, 3) := by decide +kernel
theorem dX12_shipOf_163 : decode cX12_shipOf 163 = .ok (.iload 4, 2) := by decide +kernel
theorem dX12_shipOf_165 : decode cX12_shipOf 165 = .ok (.aaload, 1) := by decide +kernel
theorem dX12_shipOf_166 : decode cX12_shipOf 166 = .ok (.iload_n 1, 1) := by decide +kernel
theorem dX12_shipOf_167 : decode cX12_shipOf 167 = .ok (.iaload, 1) := by decide +kernel
theorem dX12_shipOf_168 : decode cX12_shipOf 168 = .ok (.iadd, 1) := by decide +kernel
theorem dX12_shipOf_169 : decode cX12_shipOf 169 = .ok (.istore_n 3, 1) := by decide +kernel
theorem dX12_shipOf_170 : decode cX12_shipOf 170 = .ok (.iinc 4 1, 3) := by decide +kernel
theorem dX12_shipOf_173 : decode cX12_shipOf 173 = .ok (.goto (-24), 3) := by decide +kernel
theorem dX12_shipOf_176 : decode cX12_shipOf 176 = .ok (.iload_n 3, 1) := by decide +kernel
theorem dX12_shipOf_177 : decode cX12_shipOf 177 = .ok (.ireturn, 1) := by decide +kernel
theorem dX12_shipOf_178 : decode cX12_shipOf 178 = .ok (.aload_n 0, 1) := by decide +kernel
theorem dX12_shipOf_179 : decode cX12_shipOf 179 = .ok (.getfield 91, 3) := by decide +kernel
theorem dX12_shipOf_182 : decode cX12_shipOf 182 = .ok (.iload_n 1, 1) := by decide +kernel
theorem dX12_shipOf_183 : decode cX12_shipOf 183 = .ok (.iaload, 1) := by decide +kernel
theorem dX12_shipOf_184 : decode cX12_shipOf 184 = .ok (.ireturn, 1) := by decide +kernel
theorem dX12_shipOf_185 : decode cX12_shipOf 185 = .ok (.bipush (-5), 2) := by decide +kernel
theorem dX12_shipOf_187 : decode cX12_shipOf 187 = .ok (.ireturn, 1) := by decide +kernel
theorem dX12_joins_0 : decode cX12_joins 0 = .ok (.aload_n 0, 1) := by decide +kernel
theorem dX12_joins_1 : decode cX12_joins 1 = .ok (.getfield 97, 3) := by decide +kernel
theorem dX12_joins_4 : decode cX12_joins 4 = .ok (.iload_n 1, 1) := by decide +kernel
theorem dX12_joins_5 : decode cX12_joins 5 = .ok (.iaload, 1) := by decide +kernel
theorem dX12_joins_6 : decode cX12_joins 6 = .ok (.ifCond .ne 5, 3) := by decide +kernel
theorem dX12_joins_9 : decode cX12_joins 9 = .ok (.iconst (-1), 1) := by decide +kernel
theorem dX12_joins_10 : decode cX12_joins 10 = .ok (.ireturn, 1) := by decide +kernel
theorem dX12_joins_11 : decode cX12_joins 11 = .ok (.aload_n 0, 1) := by decide +kernel
theorem dX12_joins_12 : decode cX12_joins 12 = .ok (.getfield 112, 3) := by decide +kernel
theorem dX12_joins_15 : decode cX12_joins 15 = .ok (.iload_n 1, 1) := by decide +kernel
theorem dX12_joins_16 : decode cX12_joins 16 = .ok (.iaload, 1) := by decide +kernel
theorem dX12_joins_17 : decode cX12_joins 17 = .ok (.ifCond .ne 5, 3) := by decide +kernel
theorem dX12_joins_20 : decode cX12_joins 20 = .ok (.iconst 1, 1) := by decide +kernel
theorem dX12_joins_21 : decode cX12_joins 21 = .ok (.ireturn, 1) := by decide +kernel
theorem dX12_joins_22 : decode cX12_joins 22 = .ok (.aload_n 0, 1) := by decide +kernel
theorem dX12_joins_23 : decode cX12_joins 23 = .ok (.getfield 112, 3) := by decide +kernel
theorem dX12_joins_26 : decode cX12_joins 26 = .ok (.iload_n 1, 1) := by decide +kernel
theorem dX12_joins_27 : decode cX12_joins 27 = .ok (.iaload, 1) := by decide +kernel
theorem dX12_joins_28 : decode cX12_joins 28 = .ok (.iconst 2, 1) := by decide +kernel
theorem dX12_joins_29 : decode cX12_joins 29 = .ok (.if_icmp .ne 5, 3) := by decide +kernel
theorem dX12_joins_32 : decode cX12_joins 32 = .ok (.iconst 2, 1) := by decide +kernel
theorem dX12_joins_33 : decode cX12_joins 33 = .ok (.ireturn, 1) := by decide +kernel
theorem dX12_joins_34 : decode cX12_joins 34 = .ok (.iconst 0, 1) := by decide +kernel
theorem dX12_joins_35 : decode cX12_joins 35 = .ok (.istore_n 2, 1) := by decide +kernel
theorem dX12_joins_36 : decode cX12_joins 36 = .ok (.iload_n 2, 1) := by decide +kernel
theorem dX12_joins_37 : decode cX12_joins 37 = .ok (.iconst 4, 1) := by decide +kernel
theorem dX12_joins_38 : decode cX12_joins 38 = .ok (.if_icmp .ge 30, 3) := by decide +kernel
theorem dX12_joins_41 : decode cX12_joins 41 = .ok (.aload_n 0, 1) := by decide +kernel
theorem dX12_joins_42 : decode cX12_joins 42 = .ok (.getfield 118, 3) := by decide +kernel
theorem dX12_joins_45 : decode cX12_joins 45 = .ok (.iload_n 1, 1) := by decide +kernel
theorem dX12_joins_46 : decode cX12_joins 46 = .ok (.aaload, 1) := by decide +kernel
theorem dX12_joins_47 : decode cX12_joins 47 = .ok (.iload_n 2, 1) := by decide +kernel
theorem dX12_joins_48 : decode cX12_joins 48 = .ok (.iaload, 1) := by decide +kernel
theorem dX12_joins_49 : decode cX12_joins 49 = .ok (.aload_n 0, 1) := by decide +kernel
theorem dX12_joins_50 : decode cX12_joins 50 = .ok (.getfield 115, 3) := by decide +kernel
theorem dX12_joins_53 : decode cX12_joins 53 = .ok (.iload_n 1, 1) := by decide +kernel
theorem dX12_joins_54 : decode cX12_joins 54 = .ok (.aaload, 1) := by decide +kernel
theorem dX12_joins_55 : decode cX12_joins 55 = .ok (.iload_n 2, 1) := by decide +kernel
theorem dX12_joins_56 : decode cX12_joins 56 = .ok (.iaload, 1) := by decide +kernel
theorem dX12_joins_57 : decode cX12_joins 57 = .ok (.if_icmp .eq 5, 3) := by decide +kernel
theorem dX12_joins_60 : decode cX12_joins 60 = .ok (.iconst 3, 1) := by decide +kernel
theorem dX12_joins_61 : decode cX12_joins 61 = .ok (.ireturn, 1) := by decide +kernel
theorem dX12_joins_62 : decode cX12_joins 62 = .ok (.iinc 2 1, 3) := by decide +kernel
theorem dX12_joins_65 : decode cX12_joins 65 = .ok (.goto (-29), 3) := by decide +kernel
theorem dX12_joins_68 : decode cX12_joins 68 = .ok (.iconst 0, 1) := by decide +kernel
theorem dX12_joins_69 : decode cX12_joins 69 = .ok (.ireturn, 1) := by decide +kernel
theorem dX12_voyage_0 : decode cX12_voyage 0 = .ok (.aload_n 0, 1) := by decide +kernel
theorem dX12_voyage_1 : decode cX12_voyage 1 = .ok (.iload_n 1, 1) := by decide +kernel
theorem dX12_voyage_2 : decode cX12_voyage 2 = .ok (.invokevirtual 385, 3) := by decide +kernel
theorem dX12_voyage_5 : decode cX12_voyage 5 = .ok (.ifCond .ne 6, 3) := by decide +kernel
theorem dX12_voyage_8 : decode cX12_voyage 8 = .ok (.bipush (-5), 2) := by decide +kernel
theorem dX12_voyage_10 : decode cX12_voyage 10 = .ok (.ireturn, 1) := by decide +kernel
theorem dX12_voyage_11 : decode cX12_voyage 11 = .ok (.iload_n 2, 1) := by decide +kernel
theorem dX12_voyage_12 : decode cX12_voyage 12 = .ok (.tableswitch 150 0 12 #[68, 75, 82, 89, 96, 103, 118, 118, 118, 118, 130, 137, 143], 68) := by decide +kernel
theorem dX12_voyage_80 : decode cX12_voyage 80 = .ok (.aload_n 0, 1) := by decide +kernel
theorem dX12_voyage_81 : decode cX12_voyage 81 = .ok (.getfield 94, 3) := by decide +kernel
theorem dX12_voyage_84 : decode cX12_voyage 84 = .ok (.iload_n 1, 1) := by decide +kernel
theorem dX12_voyage_85 : decode cX12_voyage 85 = .ok (.iaload, 1) := by decide +kernel
theorem dX12_voyage_86 : decode cX12_voyage 86 = .ok (.ireturn, 1) := by decide +kernel
theorem dX12_voyage_87 : decode cX12_voyage 87 = .ok (.aload_n 0, 1) := by decide +kernel
theorem dX12_voyage_88 : decode cX12_voyage 88 = .ok (.getfield 97, 3) := by decide +kernel
theorem dX12_voyage_91 : decode cX12_voyage 91 = .ok (.iload_n 1, 1) := by decide +kernel
theorem dX12_voyage_92 : decode cX12_voyage 92 = .ok (.iaload, 1) := by decide +kernel
theorem dX12_voyage_93 : decode cX12_voyage 93 = .ok (.ireturn, 1) := by decide +kernel
theorem dX12_voyage_94 : decode cX12_voyage 94 = .ok (.aload_n 0, 1) := by decide +kernel
theorem dX12_voyage_95 : decode cX12_voyage 95 = .ok (.getfield 100, 3) := by decide +kernel
theorem dX12_voyage_98 : decode cX12_voyage 98 = .ok (.iload_n 1, 1) := by decide +kernel
theorem dX12_voyage_99 : decode cX12_voyage 99 = .ok (.iaload, 1) := by decide +kernel
theorem dX12_voyage_100 : decode cX12_voyage 100 = .ok (.ireturn, 1) := by decide +kernel
theorem dX12_voyage_101 : decode cX12_voyage 101 = .ok (.aload_n 0, 1) := by decide +kernel
theorem dX12_voyage_102 : decode cX12_voyage 102 = .ok (.getfield 103, 3) := by decide +kernel
theorem dX12_voyage_105 : decode cX12_voyage 105 = .ok (.iload_n 1, 1) := by decide +kernel
theorem dX12_voyage_106 : decode cX12_voyage 106 = .ok (.iaload, 1) := by decide +kernel
theorem dX12_voyage_107 : decode cX12_voyage 107 = .ok (.ireturn, 1) := by decide +kernel
theorem dX12_voyage_108 : decode cX12_voyage 108 = .ok (.aload_n 0, 1) := by decide +kernel
theorem dX12_voyage_109 : decode cX12_voyage 109 = .ok (.getfield 106, 3) := by decide +kernel
theorem dX12_voyage_112 : decode cX12_voyage 112 = .ok (.iload_n 1, 1) := by decide +kernel
theorem dX12_voyage_113 : decode cX12_voyage 113 = .ok (.iaload, 1) := by decide +kernel
theorem dX12_voyage_114 : decode cX12_voyage 114 = .ok (.ireturn, 1) := by decide +kernel
theorem dX12_voyage_115 : decode cX12_voyage 115 = .ok (.aload_n 0, 1) := by decide +kernel
theorem dX12_voyage_116 : decode cX12_voyage 116 = .ok (.getfield 109, 3) := by decide +kernel
theorem dX12_voyage_119 : decode cX12_voyage 119 = .ok (.iload_n 1, 1) := by decide +kernel
theorem dX12_voyage_120 : decode cX12_voyage 120 = .ok (.baload, 1) := by decide +kernel
theorem dX12_voyage_121 : decode cX12_voyage 121 = .ok (.ifCond .eq 7, 3) := by decide +kernel
theorem dX12_voyage_124 : decode cX12_voyage 124 = .ok (.iconst 1, 1) := by decide +kernel
theorem dX12_voyage_125 : decode cX12_voyage 125 = .ok (.goto 4, 3) := by decide +kernel
theorem dX12_voyage_128 : decode cX12_voyage 128 = .ok (.iconst 0, 1) := by decide +kernel
theorem dX12_voyage_129 : decode cX12_voyage 129 = .ok (.ireturn, 1) := by decide +kernel
theorem dX12_voyage_130 : decode cX12_voyage 130 = .ok (.aload_n 0, 1) := by decide +kernel
theorem dX12_voyage_131 : decode cX12_voyage 131 = .ok (.getfield 115, 3) := by decide +kernel
theorem dX12_voyage_134 : decode cX12_voyage 134 = .ok (.iload_n 1, 1) := by decide +kernel
theorem dX12_voyage_135 : decode cX12_voyage 135 = .ok (.aaload, 1) := by decide +kernel
theorem dX12_voyage_136 : decode cX12_voyage 136 = .ok (.iload_n 2, 1) := by decide +kernel
theorem dX12_voyage_137 : decode cX12_voyage 137 = .ok (.bipush 6, 2) := by decide +kernel
theorem dX12_voyage_139 : decode cX12_voyage 139 = .ok (.isub, 1) := by decide +kernel
theorem dX12_voyage_140 : decode cX12_voyage 140 = .ok (.iaload, 1) := by decide +kernel
theorem dX12_voyage_141 : decode cX12_voyage 141 = .ok (.ireturn, 1) := by decide +kernel
theorem dX12_voyage_142 : decode cX12_voyage 142 = .ok (.aload_n 0, 1) := by decide +kernel
theorem dX12_voyage_143 : decode cX12_voyage 143 = .ok (.getfield 121, 3) := by decide +kernel
theorem dX12_voyage_146 : decode cX12_voyage 146 = .ok (.iload_n 1, 1) := by decide +kernel
theorem dX12_voyage_147 : decode cX12_voyage 147 = .ok (.iaload, 1) := by decide +kernel
theorem dX12_voyage_148 : decode cX12_voyage 148 = .ok (.ireturn, 1) := by decide +kernel
theorem dX12_voyage_149 : decode cX12_voyage 149 = .ok (.aload_n 0, 1) := by decide +kernel
theorem dX12_voyage_150 : decode cX12_voyage 150 = .ok (.iload_n 1, 1) := by decide +kernel
theorem dX12_voyage_151 : decode cX12_voyage 151 = .ok (.invokevirtual 388, 3) := by decide +kernel
theorem dX12_voyage_154 : decode cX12_voyage 154 = .ok (.ireturn, 1) := by decide +kernel
theorem dX12_voyage_155 : decode cX12_voyage 155 = .ok (.aload_n 0, 1) := by decide +kernel
theorem dX12_voyage_156 : decode cX12_voyage 156 = .ok (.getfield 124, 3) := by decide +kernel
theorem dX12_voyage_159 : decode cX12_voyage 159 = .ok (.iload_n 1, 1) := by decide +kernel
theorem dX12_voyage_160 : decode cX12_voyage 160 = .ok (.iaload, 1) := by decide +kernel
theorem dX12_voyage_161 : decode cX12_voyage 161 = .ok (.ireturn, 1) := by decide +kernel
theorem dX12_voyage_162 : decode cX12_voyage 162 = .ok (.bipush (-5), 2) := by decide +kernel
theorem dX12_voyage_164 : decode cX12_voyage 164 = .ok (.ireturn, 1) := by decide +kernel
theorem dX12_recount_0 : decode cX12_recount 0 = .ok (.aload_n 0, 1) := by decide +kernel
theorem dX12_recount_1 : decode cX12_recount 1 = .ok (.iload_n 1, 1) := by decide +kernel
theorem dX12_recount_2 : decode cX12_recount 2 = .ok (.invokevirtual 385, 3) := by decide +kernel
theorem dX12_recount_5 : decode cX12_recount 5 = .ok (.ifCond .eq 10, 3) := by decide +kernel
theorem dX12_recount_8 : decode cX12_recount 8 = .ok (.iload_n 2, 1) := by decide +kernel
theorem dX12_recount_9 : decode cX12_recount 9 = .ok (.invokestatic 204, 3) := by decide +kernel
theorem dX12_recount_12 : decode cX12_recount 12 = .ok (.ifCond .ne 5, 3) := by decide +kernel
theorem dX12_recount_15 : decode cX12_recount 15 = .ok (.iconst (-1), 1) := by decide +kernel
theorem dX12_recount_16 : decode cX12_recount 16 = .ok (.ireturn, 1) := by decide +kernel
theorem dX12_recount_17 : decode cX12_recount 17 = .ok (.aload_n 0, 1) := by decide +kernel
theorem dX12_recount_18 : decode cX12_recount 18 = .ok (.getfield 97, 3) := by decide +kernel
theorem dX12_recount_21 : decode cX12_recount 21 = .ok (.iload_n 1, 1) := by decide +kernel
theorem dX12_recount_22 : decode cX12_recount 22 = .ok (.iaload, 1) := by decide +kernel
theorem dX12_recount_23 : decode cX12_recount 23 = .ok (.ifCond .eq 13, 3) := by decide +kernel
theorem dX12_recount_26 : decode cX12_recount 26 = .ok (.aload_n 0, 1) := by decide +kernel
theorem dX12_recount_27 : decode cX12_recount 27 = .ok (.getfield 112, 3) := by decide +kernel
theorem dX12_recount_30 : decode cX12_recount 30 = .ok (.iload_n 1, 1) := by decide +kernel
theorem dX12_recount_31 : decode cX12_recount 31 = .ok (.iaload, 1) := by decide +kernel
theorem dX12_recount_32 : decode cX12_recount 32 = .ok (.iconst 1, 1) := by decide +kernel
theorem dX12_recount_33 : decode cX12_recount 33 = .ok (.if_icmp .eq 6, 3) := by decide +kernel
theorem dX12_recount_36 : decode cX12_recount 36 = .ok (.bipush (-3), 2) := by decide +kernel
theorem dX12_recount_38 : decode cX12_recount 38 = .ok (.ireturn, 1) := by decide +kernel
theorem dX12_recount_39 : decode cX12_recount 39 = .ok (.iload_n 3, 1) := by decide +kernel
theorem dX12_recount_40 : decode cX12_recount 40 = .ok (.iconst 0, 1) := by decide +kernel
theorem dX12_recount_41 : decode cX12_recount 41 = .ok (.bipush 99, 2) := by decide +kernel
theorem dX12_recount_43 : decode cX12_recount 43 = .ok (.invokestatic 196, 3) := by decide +kernel
theorem dX12_recount_46 : decode cX12_recount 46 = .ok (.ifCond .ne 6, 3) := by decide +kernel
theorem dX12_recount_49 : decode cX12_recount 49 = .ok (.bipush (-2), 2) := by decide +kernel
theorem dX12_recount_51 : decode cX12_recount 51 = .ok (.ireturn, 1) := by decide +kernel
theorem dX12_recount_52 : decode cX12_recount 52 = .ok (.aload_n 0, 1) := by decide +kernel
theorem dX12_recount_53 : decode cX12_recount 53 = .ok (.getfield 118, 3) := by decide +kernel
theorem dX12_recount_56 : decode cX12_recount 56 = .ok (.iload_n 1, 1) := by decide +kernel
theorem dX12_recount_57 : decode cX12_recount 57 = .ok (.aaload, 1) := by decide +kernel
theorem dX12_recount_58 : decode cX12_recount 58 = .ok (.iload_n 2, 1) := by decide +kernel
theorem dX12_recount_59 : decode cX12_recount 59 = .ok (.iaload, 1) := by decide +kernel
theorem dX12_recount_60 : decode cX12_recount 60 = .ok (.istore 4, 2) := by decide +kernel
theorem dX12_recount_62 : decode cX12_recount 62 = .ok (.aload_n 0, 1) := by decide +kernel
theorem dX12_recount_63 : decode cX12_recount 63 = .ok (.getfield 118, 3) := by decide +kernel
theorem dX12_recount_66 : decode cX12_recount 66 = .ok (.iload_n 1, 1) := by decide +kernel
theorem dX12_recount_67 : decode cX12_recount 67 = .ok (.aaload, 1) := by decide +kernel
theorem dX12_recount_68 : decode cX12_recount 68 = .ok (.iload_n 2, 1) := by decide +kernel
theorem dX12_recount_69 : decode cX12_recount 69 = .ok (.iload_n 3, 1) := by decide +kernel
theorem dX12_recount_70 : decode cX12_recount 70 = .ok (.iastore, 1) := by decide +kernel
theorem dX12_recount_71 : decode cX12_recount 71 = .ok (.iload 4, 2) := by decide +kernel
theorem dX12_recount_73 : decode cX12_recount 73 = .ok (.ireturn, 1) := by decide +kernel
theorem dX12_empty_0 : decode cX12_empty 0 = .ok (.iconst 0, 1) := by decide +kernel
theorem dX12_empty_1 : decode cX12_empty 1 = .ok (.istore_n 2, 1) := by decide +kernel
theorem dX12_empty_2 : decode cX12_empty 2 = .ok (.iload_n 2, 1) := by decide +kernel
theorem dX12_empty_3 : decode cX12_empty 3 = .ok (.iconst 4, 1) := by decide +kernel
theorem dX12_empty_4 : decode cX12_empty 4 = .ok (.if_icmp .ge 18, 3) := by decide +kernel
theorem dX12_empty_7 : decode cX12_empty 7 = .ok (.aload_n 0, 1) := by decide +kernel
theorem dX12_empty_8 : decode cX12_empty 8 = .ok (.getfield 82, 3) := by decide +kernel
theorem dX12_empty_11 : decode cX12_empty 11 = .ok (.iload_n 1, 1) := by decide +kernel
theorem dX12_empty_12 : decode cX12_empty 12 = .ok (.aaload, 1) := by decide +kernel
theorem dX12_empty_13 : decode cX12_empty 13 = .ok (.iload_n 2, 1) := by decide +kernel
theorem dX12_empty_14 : decode cX12_empty 14 = .ok (.iconst 0, 1) := by decide +kernel
theorem dX12_empty_15 : decode cX12_empty 15 = .ok (.iastore, 1) := by decide +kernel
theorem dX12_empty_16 : decode cX12_empty 16 = .ok (.iinc 2 1, 3) := by decide +kernel
theorem dX12_empty_19 : decode cX12_empty 19 = .ok (.goto (-17), 3) := by decide +kernel
theorem dX12_empty_22 : decode cX12_empty 22 = .ok (.iconst 0, 1) := by decide +kernel
theorem dX12_empty_23 : decode cX12_empty 23 = .ok (.istore_n 2, 1) := by decide +kernel
theorem dX12_empty_24 : decode cX12_empty 24 = .ok (.iload_n 2, 1) := by decide +kernel
theorem dX12_empty_25 : decode cX12_empty 25 = .ok (.bipush 20, 2) := by decide +kernel
theorem dX12_empty_27 : decode cX12_empty 27 = .ok (.if_icmp .ge 18, 3) := by decide +kernel
theorem dX12_empty_30 : decode cX12_empty 30 = .ok (.aload_n 0, 1) := by decide +kernel
theorem dX12_empty_31 : decode cX12_empty 31 = .ok (.getfield 88, 3) := by decide +kernel
theorem dX12_empty_34 : decode cX12_empty 34 = .ok (.iload_n 1, 1) := by decide +kernel
theorem dX12_empty_35 : decode cX12_empty 35 = .ok (.aaload, 1) := by decide +kernel
theorem dX12_empty_36 : decode cX12_empty 36 = .ok (.iload_n 2, 1) := by decide +kernel
theorem dX12_empty_37 : decode cX12_empty 37 = .ok (.iconst 0, 1) := by decide +kernel
theorem dX12_empty_38 : decode cX12_empty 38 = .ok (.iastore, 1) := by decide +kernel
theorem dX12_empty_39 : decode cX12_empty 39 = .ok (.iinc 2 1, 3) := by decide +kernel
theorem dX12_empty_42 : decode cX12_empty 42 = .ok (.goto (-18), 3) := by decide +kernel
theorem dX12_empty_45 : decode cX12_empty 45 = .ok (.aload_n 0, 1) := by decide +kernel
theorem dX12_empty_46 : decode cX12_empty 46 = .ok (.getfield 85, 3) := by decide +kernel
theorem dX12_empty_49 : decode cX12_empty 49 = .ok (.iload_n 1, 1) := by decide +kernel
theorem dX12_empty_50 : decode cX12_empty 50 = .ok (.iconst 0, 1) := by decide +kernel
theorem dX12_empty_51 : decode cX12_empty 51 = .ok (.iastore, 1) := by decide +kernel
theorem dX12_empty_52 : decode cX12_empty 52 = .ok (.return_, 1) := by decide +kernel
theorem dX12_gone_0 : decode cX12_gone 0 = .ok (.aload_n 0, 1) := by decide +kernel
theorem dX12_gone_1 : decode cX12_gone 1 = .ok (.iload_n 1, 1) := by decide +kernel
theorem dX12_gone_2 : decode cX12_gone 2 = .ok (.invokevirtual 391, 3) := by decide +kernel
theorem dX12_gone_5 : decode cX12_gone 5 = .ok (.iconst 0, 1) := by decide +kernel
theorem dX12_gone_6 : decode cX12_gone 6 = .ok (.istore_n 2, 1) := by decide +kernel
theorem dX12_gone_7 : decode cX12_gone 7 = .ok (.iload_n 2, 1) := by decide +kernel
theorem dX12_gone_8 : decode cX12_gone 8 = .ok (.aload_n 0, 1) := by decide +kernel
theorem dX12_gone_9 : decode cX12_gone 9 = .ok (.getfield 224, 3) := by decide +kernel
theorem dX12_gone_12 : decode cX12_gone 12 = .ok (.if_icmp .ge 18, 3) := by decide +kernel
theorem dX12_gone_15 : decode cX12_gone 15 = .ok (.aload_n 0, 1) := by decide +kernel
theorem dX12_gone_16 : decode cX12_gone 16 = .ok (.getfield 63, 3) := by decide +kernel
theorem dX12_gone_19 : decode cX12_gone 19 = .ok (.iload_n 2, 1) := by decide +kernel
theorem dX12_gone_20 : decode cX12_gone 20 = .ok (.aaload, 1) := by decide +kernel
theorem dX12_gone_21 : decode cX12_gone 21 = .ok (.iload_n 1, 1) := by decide +kernel
theorem dX12_gone_22 : decode cX12_gone 22 = .ok (.iconst 0, 1) := by decide +kernel
theorem dX12_gone_23 : decode cX12_gone 23 = .ok (.iastore, 1) := by decide +kernel
theorem dX12_gone_24 : decode cX12_gone 24 = .ok (.iinc 2 1, 3) := by decide +kernel
theorem dX12_gone_27 : decode cX12_gone 27 = .ok (.goto (-20), 3) := by decide +kernel
theorem dX12_gone_30 : decode cX12_gone 30 = .ok (.aload_n 0, 1) := by decide +kernel
theorem dX12_gone_31 : decode cX12_gone 31 = .ok (.getfield 72, 3) := by decide +kernel
theorem dX12_gone_34 : decode cX12_gone 34 = .ok (.iload_n 1, 1) := by decide +kernel
theorem dX12_gone_35 : decode cX12_gone 35 = .ok (.bipush (-2), 2) := by decide +kernel
theorem dX12_gone_37 : decode cX12_gone 37 = .ok (.iastore, 1) := by decide +kernel
theorem dX12_gone_38 : decode cX12_gone 38 = .ok (.aload_n 0, 1) := by decide +kernel
theorem dX12_gone_39 : decode cX12_gone 39 = .ok (.getfield 112, 3) := by decide +kernel
theorem dX12_gone_42 : decode cX12_gone 42 = .ok (.aload_n 0, 1) := by decide +kernel
theorem dX12_gone_43 : decode cX12_gone 43 = .ok (.getfield 91, 3) := by decide +kernel
theorem dX12_gone_46 : decode cX12_gone 46 = .ok (.iload_n 1, 1) := by decide +kernel
theorem dX12_gone_47 : decode cX12_gone 47 = .ok (.iaload, 1) := by decide +kernel
theorem dX12_gone_48 : decode cX12_gone 48 = .ok (.iconst 2, 1) := by decide +kernel
theorem dX12_gone_49 : decode cX12_gone 49 = .ok (.iastore, 1) := by decide +kernel
theorem dX12_gone_50 : decode cX12_gone 50 = .ok (.return_, 1) := by decide +kernel
theorem dX12_comes_0 : decode cX12_comes 0 = .ok (.aload_n 0, 1) := by decide +kernel
theorem dX12_comes_1 : decode cX12_comes 1 = .ok (.getfield 91, 3) := by decide +kernel
theorem dX12_comes_4 : decode cX12_comes 4 = .ok (.iload_n 1, 1) := by decide +kernel
theorem dX12_comes_5 : decode cX12_comes 5 = .ok (.iaload, 1) := by decide +kernel
theorem dX12_comes_6 : decode cX12_comes 6 = .ok (.istore_n 2, 1) := by decide +kernel
theorem dX12_comes_7 : decode cX12_comes 7 = .ok (.aload_n 0, 1) := by decide +kernel
theorem dX12_comes_8 : decode cX12_comes 8 = .ok (.getfield 100, 3) := by decide +kernel
theorem dX12_comes_11 : decode cX12_comes 11 = .ok (.iload_n 2, 1) := by decide +kernel
theorem dX12_comes_12 : decode cX12_comes 12 = .ok (.iaload, 1) := by decide +kernel
theorem dX12_comes_13 : decode cX12_comes 13 = .ok (.istore_n 3, 1) := by decide +kernel
theorem dX12_comes_14 : decode cX12_comes 14 = .ok (.aload_n 0, 1) := by decide +kernel
theorem dX12_comes_15 : decode cX12_comes 15 = .ok (.getfield 72, 3) := by decide +kernel
theorem dX12_comes_18 : decode cX12_comes 18 = .ok (.iload_n 1, 1) := by decide +kernel
theorem dX12_comes_19 : decode cX12_comes 19 = .ok (.iload_n 3, 1) := by decide +kernel
theorem dX12_comes_20 : decode cX12_comes 20 = .ok (.iastore, 1) := by decide +kernel
theorem dX12_comes_21 : decode cX12_comes 21 = .ok (.aload_n 0, 1) := by decide +kernel
theorem dX12_comes_22 : decode cX12_comes 22 = .ok (.getfield 112, 3) := by decide +kernel
theorem dX12_comes_25 : decode cX12_comes 25 = .ok (.iload_n 2, 1) := by decide +kernel
theorem dX12_comes_26 : decode cX12_comes 26 = .ok (.iconst 1, 1) := by decide +kernel
theorem dX12_comes_27 : decode cX12_comes 27 = .ok (.iastore, 1) := by decide +kernel
theorem dX12_comes_28 : decode cX12_comes 28 = .ok (.iconst 0, 1) := by decide +kernel
theorem dX12_comes_29 : decode cX12_comes 29 = .ok (.istore 4, 2) := by decide +kernel
theorem dX12_comes_31 : decode cX12_comes 31 = .ok (.iload 4, 2) := by decide +kernel
theorem dX12_comes_33 : decode cX12_comes 33 = .ok (.iconst 4, 1) := by decide +kernel
theorem dX12_comes_34 : decode cX12_comes 34 = .ok (.if_icmp .ge 48, 3) := by decide +kernel
theorem dX12_comes_37 : decode cX12_comes 37 = .ok (.aload_n 0, 1) := by decide +kernel
theorem dX12_comes_38 : decode cX12_comes 38 = .ok (.getfield 15, 3) := by decide +kernel
theorem dX12_comes_41 : decode cX12_comes 41 = .ok (.iload_n 3, 1) := by decide +kernel
theorem dX12_comes_42 : decode cX12_comes 42 = .ok (.aaload, 1) := by decide +kernel
theorem dX12_comes_43 : decode cX12_comes 43 = .ok (.iload 4, 2) := by decide +kernel
theorem dX12_comes_45 : decode cX12_comes 45 = .ok (.dup2, 1) := by decide +kernel
theorem dX12_comes_46 : decode cX12_comes 46 = .ok (.iaload, 1) := by decide +kernel
theorem dX12_comes_47 : decode cX12_comes 47 = .ok (.aload_n 0, 1) := by decide +kernel
theorem dX12_comes_48 : decode cX12_comes 48 = .ok (.getfield 82, 3) := by decide +kernel
theorem dX12_comes_51 : decode cX12_comes 51 = .ok (.iload_n 1, 1) := by decide +kernel
theorem dX12_comes_52 : decode cX12_comes 52 = .ok (.aaload, 1) := by decide +kernel
theorem dX12_comes_53 : decode cX12_comes 53 = .ok (.iload 4, 2) := by decide +kernel
theorem dX12_comes_55 : decode cX12_comes 55 = .ok (.iaload, 1) := by decide +kernel
theorem dX12_comes_56 : decode cX12_comes 56 = .ok (.iadd, 1) := by decide +kernel
theorem dX12_comes_57 : decode cX12_comes 57 = .ok (.iastore, 1) := by decide +kernel
theorem dX12_comes_58 : decode cX12_comes 58 = .ok (.aload_n 0, 1) := by decide +kernel
theorem dX12_comes_59 : decode cX12_comes 59 = .ok (.getfield 118, 3) := by decide +kernel
theorem dX12_comes_62 : decode cX12_comes 62 = .ok (.iload_n 2, 1) := by decide +kernel
theorem dX12_comes_63 : decode cX12_comes 63 = .ok (.aaload, 1) := by decide +kernel
theorem dX12_comes_64 : decode cX12_comes 64 = .ok (.iload 4, 2) := by decide +kernel
theorem dX12_comes_66 : decode cX12_comes 66 = .ok (.aload_n 0, 1) := by decide +kernel
theorem dX12_comes_67 : decode cX12_comes 67 = .ok (.getfield 82, 3) := by decide +kernel
theorem dX12_comes_70 : decode cX12_comes 70 = .ok (.iload_n 1, 1) := by decide +kernel
theorem dX12_comes_71 : decode cX12_comes 71 = .ok (.aaload, 1) := by decide +kernel
theorem dX12_comes_72 : decode cX12_comes 72 = .ok (.iload 4, 2) := by decide +kernel
theorem dX12_comes_74 : decode cX12_comes 74 = .ok (.iaload, 1) := by decide +kernel
theorem dX12_comes_75 : decode cX12_comes 75 = .ok (.iastore, 1) := by decide +kernel
theorem dX12_comes_76 : decode cX12_comes 76 = .ok (.iinc 4 1, 3) := by decide +kernel
theorem dX12_comes_79 : decode cX12_comes 79 = .ok (.goto (-48), 3) := by decide +kernel
theorem dX12_comes_82 : decode cX12_comes 82 = .ok (.aload_n 0, 1) := by decide +kernel
theorem dX12_comes_83 : decode cX12_comes 83 = .ok (.getfield 7, 3) := by decide +kernel
theorem dX12_comes_86 : decode cX12_comes 86 = .ok (.iload_n 3, 1) := by decide +kernel
theorem dX12_comes_87 : decode cX12_comes 87 = .ok (.dup2, 1) := by decide +kernel
theorem dX12_comes_88 : decode cX12_comes 88 = .ok (.iaload, 1) := by decide +kernel
theorem dX12_comes_89 : decode cX12_comes 89 = .ok (.aload_n 0, 1) := by decide +kernel
theorem dX12_comes_90 : decode cX12_comes 90 = .ok (.getfield 85, 3) := by decide +kernel
theorem dX12_comes_93 : decode cX12_comes 93 = .ok (.iload_n 1, 1) := by decide +kernel
theorem dX12_comes_94 : decode cX12_comes 94 = .ok (.iaload, 1) := by decide +kernel
theorem dX12_comes_95 : decode cX12_comes 95 = .ok (.iadd, 1) := by decide +kernel
theorem dX12_comes_96 : decode cX12_comes 96 = .ok (.iastore, 1) := by decide +kernel
theorem dX12_comes_97 : decode cX12_comes 97 = .ok (.aload_n 0, 1) := by decide +kernel
theorem dX12_comes_98 : decode cX12_comes 98 = .ok (.iload_n 1, 1) := by decide +kernel
theorem dX12_comes_99 : decode cX12_comes 99 = .ok (.invokevirtual 391, 3) := by decide +kernel
theorem dX12_comes_102 : decode cX12_comes 102 = .ok (.iconst 0, 1) := by decide +kernel
theorem dX12_comes_103 : decode cX12_comes 103 = .ok (.istore 4, 2) := by decide +kernel
theorem dX12_comes_105 : decode cX12_comes 105 = .ok (.iload 4, 2) := by decide +kernel
theorem dX12_comes_107 : decode cX12_comes 107 = .ok (.aload_n 0, 1) := by decide +kernel
theorem dX12_comes_108 : decode cX12_comes 108 = .ok (.getfield 224, 3) := by decide +kernel
theorem dX12_comes_111 : decode cX12_comes 111 = .ok (.if_icmp .ge 67, 3) := by decide +kernel
theorem dX12_comes_114 : decode cX12_comes 114 = .ok (.aload_n 0, 1) := by decide +kernel
theorem dX12_comes_115 : decode cX12_comes 115 = .ok (.getfield 63, 3) := by decide +kernel
theorem dX12_comes_118 : decode cX12_comes 118 = .ok (.iload 4, 2) := by decide +kernel
theorem dX12_comes_120 : decode cX12_comes 120 = .ok (.aaload, 1) := by decide +kernel
theorem dX12_comes_121 : decode cX12_comes 121 = .ok (.iload_n 1, 1) := by decide +kernel
theorem dX12_comes_122 : decode cX12_comes 122 = .ok (.iaload, 1) := by decide +kernel
theorem dX12_comes_123 : decode cX12_comes 123 = .ok (.ifCond .le 49, 3) := by decide +kernel
theorem dX12_comes_126 : decode cX12_comes 126 = .ok (.aload_n 0, 1) := by decide +kernel
theorem dX12_comes_127 : decode cX12_comes 127 = .ok (.getfield 42, 3) := by decide +kernel
theorem dX12_comes_130 : decode cX12_comes 130 = .ok (.iload 4, 2) := by decide +kernel
theorem dX12_comes_132 : decode cX12_comes 132 = .ok (.iaload, 1) := by decide +kernel
theorem dX12_comes_133 : decode cX12_comes 133 = .ok (.iload_n 3, 1) := by decide +kernel
theorem dX12_comes_134 : decode cX12_comes 134 = .ok (.if_icmp .ne 38, 3) := by decide +kernel
theorem dX12_comes_137 : decode cX12_comes 137 = .ok (.aload_n 0, 1) := by decide +kernel
theorem dX12_comes_138 : decode cX12_comes 138 = .ok (.getfield 63, 3) := by decide +kernel
theorem dX12_comes_141 : decode cX12_comes 141 = .ok (.iload 4, 2) := by decide +kernel
theorem dX12_comes_143 : decode cX12_comes 143 = .ok (.aaload, 1) := by decide +kernel
theorem dX12_comes_144 : decode cX12_comes 144 = .ok (.iload_n 1, 1) := by decide +kernel
theorem dX12_comes_145 : decode cX12_comes 145 = .ok (.iconst 0, 1) := by decide +kernel
theorem dX12_comes_146 : decode cX12_comes 146 = .ok (.iastore, 1) := by decide +kernel
theorem dX12_comes_147 : decode cX12_comes 147 = .ok (.aload_n 0, 1) := by decide +kernel
theorem dX12_comes_148 : decode cX12_comes 148 = .ok (.getfield 48, 3) := by decide +kernel
theorem dX12_comes_151 : decode cX12_comes 151 = .ok (.iload 4, 2) := by decide +kernel
theorem dX12_comes_153 : decode cX12_comes 153 = .ok (.aaload, 1) := by decide +kernel
theorem dX12_comes_154 : decode cX12_comes 154 = .ok (.iload_n 3, 1) := by decide +kernel
theorem dX12_comes_155 : decode cX12_comes 155 = .ok (.iaload, 1) := by decide +kernel
theorem dX12_comes_156 : decode cX12_comes 156 = .ok (.ifCond .ge 16, 3) := by decide +kernel
theorem dX12_comes_159 : decode cX12_comes 159 = .ok (.aload_n 0, 1) := by decide +kernel
theorem dX12_comes_160 : decode cX12_comes 160 = .ok (.getfield 48, 3) := by decide +kernel
theorem dX12_comes_163 : decode cX12_comes 163 = .ok (.iload 4, 2) := by decide +kernel
theorem dX12_comes_165 : decode cX12_comes 165 = .ok (.aaload, 1) := by decide +kernel
theorem dX12_comes_166 : decode cX12_comes 166 = .ok (.iload_n 3, 1) := by decide +kernel
theorem dX12_comes_167 : decode cX12_comes 167 = .ok (.aload_n 0, 1) := by decide +kernel
theorem dX12_comes_168 : decode cX12_comes 168 = .ok (.getfield 227, 3) := by decide +kernel
theorem dX12_comes_171 : decode cX12_comes 171 = .ok (.iastore, 1) := by decide +kernel
theorem dX12_comes_172 : decode cX12_comes 172 = .ok (.iinc 4 1, 3) := by decide +kernel
theorem dX12_comes_175 : decode cX12_comes 175 = .ok (.goto (-70), 3) := by decide +kernel
theorem dX12_comes_178 : decode cX12_comes 178 = .ok (.iload_n 3, 1) := by decide +kernel
theorem dX12_comes_179 : decode cX12_comes 179 = .ok (.ifCond .ne 10, 3) := by decide +kernel
theorem dX12_comes_182 : decode cX12_comes 182 = .ok (.aload_n 0, 1) := by decide +kernel
theorem dX12_comes_183 : decode cX12_comes 183 = .ok (.getfield 75, 3) := by decide +kernel
theorem dX12_comes_186 : decode cX12_comes 186 = .ok (.iload_n 1, 1) := by decide +kernel
theorem dX12_comes_187 : decode cX12_comes 187 = .ok (.iconst 0, 1) := by decide +kernel
theorem dX12_comes_188 : decode cX12_comes 188 = .ok (.bastore, 1) := by decide +kernel
theorem dX12_comes_189 : decode cX12_comes 189 = .ok (.return_, 1) := by decide +kernel
theorem dX12_interest_0 : decode cX12_interest 0 = .ok (.aload_n 0, 1) := by decide +kernel
theorem dX12_interest_1 : decode cX12_interest 1 = .ok (.getfield 227, 3) := by decide +kernel
theorem dX12_interest_4 : decode cX12_interest 4 = .ok (.aload_n 0, 1) := by decide +kernel
theorem dX12_interest_5 : decode cX12_interest 5 = .ok (.getfield 39, 3) := by decide +kernel
theorem dX12_interest_8 : decode cX12_interest 8 = .ok (.iload_n 1, 1) := by decide +kernel
theorem dX12_interest_9 : decode cX12_interest 9 = .ok (.iaload, 1) := by decide +kernel
theorem dX12_interest_10 : decode cX12_interest 10 = .ok (.isub, 1) := by decide +kernel
theorem dX12_interest_11 : decode cX12_interest 11 = .ok (.bipush 30, 2) := by decide +kernel
theorem dX12_interest_13 : decode cX12_interest 13 = .ok (.idiv, 1) := by decide +kernel
theorem dX12_interest_14 : decode cX12_interest 14 = .ok (.istore_n 2, 1) := by decide +kernel
theorem dX12_interest_15 : decode cX12_interest 15 = .ok (.aload_n 0, 1) := by decide +kernel
theorem dX12_interest_16 : decode cX12_interest 16 = .ok (.getfield 51, 3) := by decide +kernel
theorem dX12_interest_19 : decode cX12_interest 19 = .ok (.iload_n 1, 1) := by decide +kernel
theorem dX12_interest_20 : decode cX12_interest 20 = .ok (.aaload, 1) := by decide +kernel
theorem dX12_interest_21 : decode cX12_interest 21 = .ok (.iconst 0, 1) := by decide +kernel
theorem dX12_interest_22 : decode cX12_interest 22 = .ok (.iaload, 1) := by decide +kernel
theorem dX12_interest_23 : decode cX12_interest 23 = .ok (.i2l, 1) := by decide +kernel
theorem dX12_interest_24 : decode cX12_interest 24 = .ok (.iload_n 2, 1) := by decide +kernel
theorem dX12_interest_25 : decode cX12_interest 25 = .ok (.i2l, 1) := by decide +kernel
theorem dX12_interest_26 : decode cX12_interest 26 = .ok (.lmul, 1) := by decide +kernel
theorem dX12_interest_27 : decode cX12_interest 27 = .ok (.ldc2_w 395, 3) := by decide +kernel
theorem dX12_interest_30 : decode cX12_interest 30 = .ok (.ldiv, 1) := by decide +kernel
theorem dX12_interest_31 : decode cX12_interest 31 = .ok (.l2i, 1) := by decide +kernel
theorem dX12_interest_32 : decode cX12_interest 32 = .ok (.ireturn, 1) := by decide +kernel
theorem dX12_billsFallDue_0 : decode cX12_billsFallDue 0 = .ok (.iconst 0, 1) := by decide +kernel
theorem dX12_billsFallDue_1 : decode cX12_billsFallDue 1 = .ok (.istore_n 1, 1) := by decide +kernel
theorem dX12_billsFallDue_2 : decode cX12_billsFallDue 2 = .ok (.iload_n 1, 1) := by decide +kernel
theorem dX12_billsFallDue_3 : decode cX12_billsFallDue 3 = .ok (.aload_n 0, 1) := by decide +kernel
theorem dX12_billsFallDue_4 : decode cX12_billsFallDue 4 = .ok (.getfield 224, 3) := by decide +kernel
theorem dX12_billsFallDue_7 : decode cX12_billsFallDue 7 = .ok (.if_icmp .ge 116, 3) := by decide +kernel
theorem dX12_billsFallDue_10 : decode cX12_billsFallDue 10 = .ok (.aload_n 0, 1) := by decide +kernel
theorem dX12_billsFallDue_11 : decode cX12_billsFallDue 11 = .ok (.getfield 33, 3) := by decide +kernel
theorem dX12_billsFallDue_14 : decode cX12_billsFallDue 14 = .ok (.iload_n 1, 1) := by decide +kernel
theorem dX12_billsFallDue_15 : decode cX12_billsFallDue 15 = .ok (.iaload, 1) := by decide +kernel
theorem dX12_billsFallDue_16 : decode cX12_billsFallDue 16 = .ok (.iconst 5, 1) := by decide +kernel
theorem dX12_billsFallDue_17 : decode cX12_billsFallDue 17 = .ok (.if_icmp .ne 100, 3) := by decide +kernel
theorem dX12_billsFallDue_20 : decode cX12_billsFallDue 20 = .ok (.aload_n 0, 1) := by decide +kernel
theorem dX12_billsFallDue_21 : decode cX12_billsFallDue 21 = .ok (.getfield 51, 3) := by decide +kernel
theorem dX12_billsFallDue_24 : decode cX12_billsFallDue 24 = .ok (.iload_n 1, 1) := by decide +kernel
theorem dX12_billsFallDue_25 : decode cX12_billsFallDue 25 = .ok (.aaload, 1) := by decide +kernel
theorem dX12_billsFallDue_26 : decode cX12_billsFallDue 26 = .ok (.iconst 1, 1) := by decide +kernel
theorem dX12_billsFallDue_27 : decode cX12_billsFallDue 27 = .ok (.iaload, 1) := by decide +kernel
theorem dX12_billsFallDue_28 : decode cX12_billsFallDue 28 = .ok (.iconst 1, 1) := by decide +kernel
theorem dX12_billsFallDue_29 : decode cX12_billsFallDue 29 = .ok (.if_icmp .ne 88, 3) := by decide +kernel
theorem dX12_billsFallDue_32 : decode cX12_billsFallDue 32 = .ok (.aload_n 0, 1) := by decide +kernel
theorem dX12_billsFallDue_33 : decode cX12_billsFallDue 33 = .ok (.getfield 51, 3) := by decide +kernel
theorem dX12_billsFallDue_36 : decode cX12_billsFallDue 36 = .ok (.iload_n 1, 1) := by decide +kernel
theorem dX12_billsFallDue_37 : decode cX12_billsFallDue 37 = .ok (.aaload, 1) := by decide +kernel
theorem dX12_billsFallDue_38 : decode cX12_billsFallDue 38 = .ok (.iconst 2, 1) := by decide +kernel
theorem dX12_billsFallDue_39 : decode cX12_billsFallDue 39 = .ok (.iaload, 1) := by decide +kernel
theorem dX12_billsFallDue_40 : decode cX12_billsFallDue 40 = .ok (.iconst 1, 1) := by decide +kernel
theorem dX12_billsFallDue_41 : decode cX12_billsFallDue 41 = .ok (.isub, 1) := by decide +kernel
theorem dX12_billsFallDue_42 : decode cX12_billsFallDue 42 = .ok (.aload_n 0, 1) := by decide +kernel
theorem dX12_billsFallDue_43 : decode cX12_billsFallDue 43 = .ok (.getfield 227, 3) := by decide +kernel
theorem dX12_billsFallDue_46 : decode cX12_billsFallDue 46 = .ok (.if_icmp .eq 6, 3) := by decide +kernel
theorem dX12_billsFallDue_49 : decode cX12_billsFallDue 49 = .ok (.goto 68, 3) := by decide +kernel
theorem dX12_billsFallDue_52 : decode cX12_billsFallDue 52 = .ok (.aload_n 0, 1) := by decide +kernel
theorem dX12_billsFallDue_53 : decode cX12_billsFallDue 53 = .ok (.getfield 51, 3) := by decide +kernel
theorem dX12_billsFallDue_56 : decode cX12_billsFallDue 56 = .ok (.iload_n 1, 1) := by decide +kernel
theorem dX12_billsFallDue_57 : decode cX12_billsFallDue 57 = .ok (.aaload, 1) := by decide +kernel
theorem dX12_billsFallDue_58 : decode cX12_billsFallDue 58 = .ok (.iconst 0, 1) := by decide +kernel
theorem dX12_billsFallDue_59 : decode cX12_billsFallDue 59 = .ok (.iaload, 1) := by decide +kernel
theorem dX12_billsFallDue_60 : decode cX12_billsFallDue 60 = .ok (.aload_n 0, 1) := by decide +kernel
theorem dX12_billsFallDue_61 : decode cX12_billsFallDue 61 = .ok (.iload_n 1, 1) := by decide +kernel
theorem dX12_billsFallDue_62 : decode cX12_billsFallDue 62 = .ok (.invokevirtual 397, 3) := by decide +kernel
theorem dX12_billsFallDue_65 : decode cX12_billsFallDue 65 = .ok (.iadd, 1) := by decide +kernel
theorem dX12_billsFallDue_66 : decode cX12_billsFallDue 66 = .ok (.istore_n 2, 1) := by decide +kernel
theorem dX12_billsFallDue_67 : decode cX12_billsFallDue 67 = .ok (.aload_n 0, 1) := by decide +kernel
theorem dX12_billsFallDue_68 : decode cX12_billsFallDue 68 = .ok (.getfield 51, 3) := by decide +kernel
theorem dX12_billsFallDue_71 : decode cX12_billsFallDue 71 = .ok (.iload_n 1, 1) := by decide +kernel
theorem dX12_billsFallDue_72 : decode cX12_billsFallDue 72 = .ok (.aaload, 1) := by decide +kernel
theorem dX12_billsFallDue_73 : decode cX12_billsFallDue 73 = .ok (.iconst 3, 1) := by decide +kernel
theorem dX12_billsFallDue_74 : decode cX12_billsFallDue 74 = .ok (.iload_n 2, 1) := by decide +kernel
theorem dX12_billsFallDue_75 : decode cX12_billsFallDue 75 = .ok (.iastore, 1) := by decide +kernel
theorem dX12_billsFallDue_76 : decode cX12_billsFallDue 76 = .ok (.aload_n 0, 1) := by decide +kernel
theorem dX12_billsFallDue_77 : decode cX12_billsFallDue 77 = .ok (.getfield 7, 3) := by decide +kernel
theorem dX12_billsFallDue_80 : decode cX12_billsFallDue 80 = .ok (.iconst 0, 1) := by decide +kernel
theorem dX12_billsFallDue_81 : decode cX12_billsFallDue 81 = .ok (.iaload, 1) := by decide +kernel
theorem dX12_billsFallDue_82 : decode cX12_billsFallDue 82 = .ok (.iload_n 2, 1) := by decide +kernel
theorem dX12_billsFallDue_83 : decode cX12_billsFallDue 83 = .ok (.if_icmp .lt 25, 3) := by decide +kernel
theorem dX12_billsFallDue_86 : decode cX12_billsFallDue 86 = .ok (.aload_n 0, 1) := by decide +kernel
theorem dX12_billsFallDue_87 : decode cX12_billsFallDue 87 = .ok (.getfield 7, 3) := by decide +kernel
theorem dX12_billsFallDue_90 : decode cX12_billsFallDue 90 = .ok (.iconst 0, 1) := by decide +kernel
theorem dX12_billsFallDue_91 : decode cX12_billsFallDue 91 = .ok (.dup2, 1) := by decide +kernel
theorem dX12_billsFallDue_92 : decode cX12_billsFallDue 92 = .ok (.iaload, 1) := by decide +kernel
theorem dX12_billsFallDue_93 : decode cX12_billsFallDue 93 = .ok (.iload_n 2, 1) := by decide +kernel
theorem dX12_billsFallDue_94 : decode cX12_billsFallDue 94 = .ok (.isub, 1) := by decide +kernel
theorem dX12_billsFallDue_95 : decode cX12_billsFallDue 95 = .ok (.iastore, 1) := by decide +kernel
theorem dX12_billsFallDue_96 : decode cX12_billsFallDue 96 = .ok (.aload_n 0, 1) := by decide +kernel
theorem dX12_billsFallDue_97 : decode cX12_billsFallDue 97 = .ok (.getfield 51, 3) := by decide +kernel
theorem dX12_billsFallDue_100 : decode cX12_billsFallDue 100 = .ok (.iload_n 1, 1) := by decide +kernel
theorem dX12_billsFallDue_101 : decode cX12_billsFallDue 101 = .ok (.aaload, 1) := by decide +kernel
theorem dX12_billsFallDue_102 : decode cX12_billsFallDue 102 = .ok (.iconst 1, 1) := by decide +kernel
theorem dX12_billsFallDue_103 : decode cX12_billsFallDue 103 = .ok (.iconst 2, 1) := by decide +kernel
theorem dX12_billsFallDue_104 : decode cX12_billsFallDue 104 = .ok (.iastore, 1) := by decide +kernel
theorem dX12_billsFallDue_105 : decode cX12_billsFallDue 105 = .ok (.goto 12, 3) := by decide +kernel
theorem dX12_billsFallDue_108 : decode cX12_billsFallDue 108 = .ok (.aload_n 0, 1) := by decide +kernel
theorem dX12_billsFallDue_109 : decode cX12_billsFallDue 109 = .ok (.getfield 51, 3) := by decide +kernel
theorem dX12_billsFallDue_112 : decode cX12_billsFallDue 112 = .ok (.iload_n 1, 1) := by decide +kernel
theorem dX12_billsFallDue_113 : decode cX12_billsFallDue 113 = .ok (.aaload, 1) := by decide +kernel
theorem dX12_billsFallDue_114 : decode cX12_billsFallDue 114 = .ok (.iconst 1, 1) := by decide +kernel
theorem dX12_billsFallDue_115 : decode cX12_billsFallDue 115 = .ok (.iconst 3, 1) := by decide +kernel
theorem dX12_billsFallDue_116 : decode cX12_billsFallDue 116 = .ok (.iastore, 1) := by decide +kernel
theorem dX12_billsFallDue_117 : decode cX12_billsFallDue 117 = .ok (.iinc 1 1, 3) := by decide +kernel
theorem dX12_billsFallDue_120 : decode cX12_billsFallDue 120 = .ok (.goto (-118), 3) := by decide +kernel
theorem dX12_billsFallDue_123 : decode cX12_billsFallDue 123 = .ok (.return_, 1) := by decide +kernel
theorem dX12_leftOf_0 : decode cX12_leftOf 0 = .ok (.aload_n 0, 1) := by decide +kernel
theorem dX12_leftOf_1 : decode cX12_leftOf 1 = .ok (.getfield 136, 3) := by decide +kernel
theorem dX12_leftOf_4 : decode cX12_leftOf 4 = .ok (.iload_n 1, 1) := by decide +kernel
theorem dX12_leftOf_5 : decode cX12_leftOf 5 = .ok (.iaload, 1) := by decide +kernel
theorem dX12_leftOf_6 : decode cX12_leftOf 6 = .ok (.aload_n 0, 1) := by decide +kernel
theorem dX12_leftOf_7 : decode cX12_leftOf 7 = .ok (.getfield 142, 3) := by decide +kernel
theorem dX12_leftOf_10 : decode cX12_leftOf 10 = .ok (.iload_n 1, 1) := by decide +kernel
theorem dX12_leftOf_11 : decode cX12_leftOf 11 = .ok (.iaload, 1) := by decide +kernel
theorem dX12_leftOf_12 : decode cX12_leftOf 12 = .ok (.aload_n 0, 1) := by decide +kernel
theorem dX12_leftOf_13 : decode cX12_leftOf 13 = .ok (.getfield 136, 3) := by decide +kernel
theorem dX12_leftOf_16 : decode cX12_leftOf 16 = .ok (.iload_n 1, 1) := by decide +kernel
theorem dX12_leftOf_17 : decode cX12_leftOf 17 = .ok (.iaload, 1) := by decide +kernel
theorem dX12_leftOf_18 : decode cX12_leftOf 18 = .ok (.iconst 5, 1) := by decide +kernel
theorem dX12_leftOf_19 : decode cX12_leftOf 19 = .ok (.idiv, 1) := by decide +kernel
theorem dX12_leftOf_20 : decode cX12_leftOf 20 = .ok (.imul, 1) := by decide +kernel
theorem dX12_leftOf_21 : decode cX12_leftOf 21 = .ok (.isub, 1) := by decide +kernel
theorem dX12_leftOf_22 : decode cX12_leftOf 22 = .ok (.ireturn, 1) := by decide +kernel
theorem dX12_advancesCome_0 : decode cX12_advancesCome 0 = .ok (.iconst 0, 1) := by decide +kernel
theorem dX12_advancesCome_1 : decode cX12_advancesCome 1 = .ok (.istore_n 2, 1) := by decide +kernel
theorem dX12_advancesCome_2 : decode cX12_advancesCome 2 = .ok (.iload_n 2, 1) := by decide +kernel
theorem dX12_advancesCome_3 : decode cX12_advancesCome 3 = .ok (.aload_n 0, 1) := by decide +kernel
theorem dX12_advancesCome_4 : decode cX12_advancesCome 4 = .ok (.getfield 400, 3) := by decide +kernel
theorem dX12_advancesCome_7 : decode cX12_advancesCome 7 = .ok (.if_icmp .ge 130, 3) := by decide +kernel
theorem dX12_advancesCome_10 : decode cX12_advancesCome 10 = .ok (.aload_n 0, 1) := by decide +kernel
theorem dX12_advancesCome_11 : decode cX12_advancesCome 11 = .ok (.getfield 130, 3) := by decide +kernel
theorem dX12_advancesCome_14 : decode cX12_advancesCome 14 = .ok (.iload_n 2, 1) := by decide +kernel
theorem dX12_advancesCome_15 : decode cX12_advancesCome 15 = .ok (.iaload, 1) := by decide +kernel
theorem dX12_advancesCome_16 : decode cX12_advancesCome 16 = .ok (.iload_n 1, 1) := by decide +kernel
theorem dX12_advancesCome_17 : decode cX12_advancesCome 17 = .ok (.if_icmp .ne 114, 3) := by decide +kernel
theorem dX12_advancesCome_20 : decode cX12_advancesCome 20 = .ok (.aload_n 0, 1) := by decide +kernel
theorem dX12_advancesCome_21 : decode cX12_advancesCome 21 = .ok (.getfield 142, 3) := by decide +kernel
theorem dX12_advancesCome_24 : decode cX12_advancesCome 24 = .ok (.iload_n 2, 1) := by decide +kernel
theorem dX12_advancesCome_25 : decode cX12_advancesCome 25 = .ok (.iaload, 1) := by decide +kernel
theorem dX12_advancesCome_26 : decode cX12_advancesCome 26 = .ok (.iconst 5, 1) := by decide +kernel
theorem dX12_advancesCome_27 : decode cX12_advancesCome 27 = .ok (.if_icmp .eq 104, 3) := by decide +kernel
theorem dX12_advancesCome_30 : decode cX12_advancesCome 30 = .ok (.aload_n 0, 1) := by decide +kernel
theorem dX12_advancesCome_31 : decode cX12_advancesCome 31 = .ok (.getfield 227, 3) := by decide +kernel
theorem dX12_advancesCome_34 : decode cX12_advancesCome 34 = .ok (.aload_n 0, 1) := by decide +kernel
theorem dX12_advancesCome_35 : decode cX12_advancesCome 35 = .ok (.getfield 139, 3) := by decide +kernel
theorem dX12_advancesCome_38 : decode cX12_advancesCome 38 = .ok (.iload_n 2, 1) := by decide +kernel
theorem dX12_advancesCome_39 : decode cX12_advancesCome 39 = .ok (.iaload, 1) := by decide +kernel
theorem dX12_advancesCome_40 : decode cX12_advancesCome 40 = .ok (.if_icmp .eq 91, 3) := by decide +kernel
theorem dX12_advancesCome_43 : decode cX12_advancesCome 43 = .ok (.aload_n 0, 1) := by decide +kernel
theorem dX12_advancesCome_44 : decode cX12_advancesCome 44 = .ok (.getfield 227, 3) := by decide +kernel
theorem dX12_advancesCome_47 : decode cX12_advancesCome 47 = .ok (.aload_n 0, 1) := by decide +kernel
theorem dX12_advancesCome_48 : decode cX12_advancesCome 48 = .ok (.getfield 139, 3) := by decide +kernel
theorem dX12_advancesCome_51 : decode cX12_advancesCome 51 = .ok (.iload_n 2, 1) := by decide +kernel
theorem dX12_advancesCome_52 : decode cX12_advancesCome 52 = .ok (.iaload, 1) := by decide +kernel
theorem dX12_advancesCome_53 : decode cX12_advancesCome 53 = .ok (.isub, 1) := by decide +kernel
theorem dX12_advancesCome_54 : decode cX12_advancesCome 54 = .ok (.bipush 10, 2) := by decide +kernel
theorem dX12_advancesCome_56 : decode cX12_advancesCome 56 = .ok (.irem, 1) := by decide +kernel
theorem dX12_advancesCome_57 : decode cX12_advancesCome 57 = .ok (.ifCond .eq 6, 3) := by decide +kernel
theorem dX12_advancesCome_60 : decode cX12_advancesCome 60 = .ok (.goto 71, 3) := by decide +kernel
theorem dX12_advancesCome_63 : decode cX12_advancesCome 63 = .ok (.aload_n 0, 1) := by decide +kernel
theorem dX12_advancesCome_64 : decode cX12_advancesCome 64 = .ok (.getfield 142, 3) := by decide +kernel
theorem dX12_advancesCome_67 : decode cX12_advancesCome 67 = .ok (.iload_n 2, 1) := by decide +kernel
theorem dX12_advancesCome_68 : decode cX12_advancesCome 68 = .ok (.iaload, 1) := by decide +kernel
theorem dX12_advancesCome_69 : decode cX12_advancesCome 69 = .ok (.iconst 4, 1) := by decide +kernel
theorem dX12_advancesCome_70 : decode cX12_advancesCome 70 = .ok (.if_icmp .ne 11, 3) := by decide +kernel
theorem dX12_advancesCome_73 : decode cX12_advancesCome 73 = .ok (.aload_n 0, 1) := by decide +kernel
theorem dX12_advancesCome_74 : decode cX12_advancesCome 74 = .ok (.iload_n 2, 1) := by decide +kernel
theorem dX12_advancesCome_75 : decode cX12_advancesCome 75 = .ok (.invokevirtual 403, 3) := by decide +kernel
theorem dX12_advancesCome_78 : decode cX12_advancesCome 78 = .ok (.goto 11, 3) := by decide +kernel
theorem dX12_advancesCome_81 : decode cX12_advancesCome 81 = .ok (.aload_n 0, 1) := by decide +kernel
theorem dX12_advancesCome_82 : decode cX12_advancesCome 82 = .ok (.getfield 136, 3) := by decide +kernel
theorem dX12_advancesCome_85 : decode cX12_advancesCome 85 = .ok (.iload_n 2, 1) := by decide +kernel
theorem dX12_advancesCome_86 : decode cX12_advancesCome 86 = .ok (.iaload, 1) := by decide +kernel
theorem dX12_advancesCome_87 : decode cX12_advancesCome 87 = .ok (.iconst 5, 1) := by decide +kernel
theorem dX12_advancesCome_88 : decode cX12_advancesCome 88 = .ok (.idiv, 1) := by decide +kernel
theorem dX12_advancesCome_89 : decode cX12_advancesCome 89 = .ok (.istore_n 3, 1) := by decide +kernel
theorem dX12_advancesCome_90 : decode cX12_advancesCome 90 = .ok (.aload_n 0, 1) := by decide +kernel
theorem dX12_advancesCome_91 : decode cX12_advancesCome 91 = .ok (.getfield 142, 3) := by decide +kernel
theorem dX12_advancesCome_94 : decode cX12_advancesCome 94 = .ok (.iload_n 2, 1) := by decide +kernel
theorem dX12_advancesCome_95 : decode cX12_advancesCome 95 = .ok (.dup2, 1) := by decide +kernel
theorem dX12_advancesCome_96 : decode cX12_advancesCome 96 = .ok (.iaload, 1) := by decide +kernel
theorem dX12_advancesCome_97 : decode cX12_advancesCome 97 = .ok (.iconst 1, 1) := by decide +kernel
theorem dX12_advancesCome_98 : decode cX12_advancesCome 98 = .ok (.iadd, 1) := by decide +kernel
theorem dX12_advancesCome_99 : decode cX12_advancesCome 99 = .ok (.iastore, 1) := by decide +kernel
theorem dX12_advancesCome_100 : decode cX12_advancesCome 100 = .ok (.aload_n 0, 1) := by decide +kernel
theorem dX12_advancesCome_101 : decode cX12_advancesCome 101 = .ok (.getfield 15, 3) := by decide +kernel
theorem dX12_advancesCome_104 : decode cX12_advancesCome 104 = .ok (.iload_n 1, 1) := by decide +kernel
theorem dX12_advancesCome_105 : decode cX12_advancesCome 105 = .ok (.aaload, 1) := by decide +kernel
theorem dX12_advancesCome_106 : decode cX12_advancesCome 106 = .ok (.aload_n 0, 1) := by decide +kernel
theorem dX12_advancesCome_107 : decode cX12_advancesCome 107 = .ok (.getfield 133, 3) := by decide +kernel
theorem dX12_advancesCome_110 : decode cX12_advancesCome 110 = .ok (.iload_n 2, 1) := by decide +kernel
theorem dX12_advancesCome_111 : decode cX12_advancesCome 111 = .ok (.iaload, 1) := by decide +kernel
theorem dX12_advancesCome_112 : decode cX12_advancesCome 112 = .ok (.dup2, 1) := by decide +kernel
theorem dX12_advancesCome_113 : decode cX12_advancesCome 113 = .ok (.iaload, 1) := by decide +kernel
theorem dX12_advancesCome_114 : decode cX12_advancesCome 114 = .ok (.iload_n 3, 1) := by decide +kernel
theorem dX12_advancesCome_115 : decode cX12_advancesCome 115 = .ok (.iload_n 3, 1) := by decide +kernel
theorem dX12_advancesCome_116 : decode cX12_advancesCome 116 = .ok (.aload_n 0, 1) := by decide +kernel
theorem dX12_advancesCome_117 : decode cX12_advancesCome 117 = .ok (.getfield 18, 3) := by decide +kernel
theorem dX12_advancesCome_120 : decode cX12_advancesCome 120 = .ok (.iload_n 1, 1) := by decide +kernel
theorem dX12_advancesCome_121 : decode cX12_advancesCome 121 = .ok (.aaload, 1) := by decide +kernel
theorem dX12_advancesCome_122 : decode cX12_advancesCome 122 = .ok (.iconst 2, 1) := by decide +kernel
theorem dX12_advancesCome_123 : decode cX12_advancesCome 123 = .ok (.iaload, 1) := by decide +kernel
theorem dX12_advancesCome_124 : decode cX12_advancesCome 124 = .ok (.imul, 1) := by decide +kernel
theorem dX12_advancesCome_125 : decode cX12_advancesCome 125 = .ok (.bipush 100, 2) := by decide +kernel
theorem dX12_advancesCome_127 : decode cX12_advancesCome 127 = .ok (.idiv, 1) := by decide +kernel
theorem dX12_advancesCome_128 : decode cX12_advancesCome 128 = .ok (.isub, 1) := by decide +kernel
theorem dX12_advancesCome_129 : decode cX12_advancesCome 129 = .ok (.iadd, 1) := by decide +kernel
theorem dX12_advancesCome_130 : decode cX12_advancesCome 130 = .ok (.iastore, 1) := by decide +kernel
theorem dX12_advancesCome_131 : decode cX12_advancesCome 131 = .ok (.iinc 2 1, 3) := by decide +kernel
theorem dX12_advancesCome_134 : decode cX12_advancesCome 134 = .ok (.goto (-132), 3) := by decide +kernel
theorem dX12_advancesCome_137 : decode cX12_advancesCome 137 = .ok (.return_, 1) := by decide +kernel
theorem dX12_openOf_0 : decode cX12_openOf 0 = .ok (.iconst 0, 1) := by decide +kernel
theorem dX12_openOf_1 : decode cX12_openOf 1 = .ok (.istore_n 3, 1) := by decide +kernel
theorem dX12_openOf_2 : decode cX12_openOf 2 = .ok (.iconst 0, 1) := by decide +kernel
theorem dX12_openOf_3 : decode cX12_openOf 3 = .ok (.istore 4, 2) := by decide +kernel
theorem dX12_openOf_5 : decode cX12_openOf 5 = .ok (.iload 4, 2) := by decide +kernel
theorem dX12_openOf_7 : decode cX12_openOf 7 = .ok (.aload_n 0, 1) := by decide +kernel
theorem dX12_openOf_8 : decode cX12_openOf 8 = .ok (.getfield 400, 3) := by decide +kernel
theorem dX12_openOf_11 : decode cX12_openOf 11 = .ok (.if_icmp .ge 51, 3) := by decide +kernel
theorem dX12_openOf_14 : decode cX12_openOf 14 = .ok (.aload_n 0, 1) := by decide +kernel
theorem dX12_openOf_15 : decode cX12_openOf 15 = .ok (.getfield 130, 3) := by decide +kernel
theorem dX12_openOf_18 : decode cX12_openOf 18 = .ok (.iload 4, 2) := by decide +kernel
theorem dX12_openOf_20 : decode cX12_openOf 20 = .ok (.iaload, 1) := by decide +kernel
theorem dX12_openOf_21 : decode cX12_openOf 21 = .ok (.iload_n 1, 1) := by decide +kernel
theorem dX12_openOf_22 : decode cX12_openOf 22 = .ok (.if_icmp .ne 34, 3) := by decide +kernel
theorem dX12_openOf_25 : decode cX12_openOf 25 = .ok (.aload_n 0, 1) := by decide +kernel
theorem dX12_openOf_26 : decode cX12_openOf 26 = .ok (.getfield 133, 3) := by decide +kernel
theorem dX12_openOf_29 : decode cX12_openOf 29 = .ok (.iload 4, 2) := by decide +kernel
theorem dX12_openOf_31 : decode cX12_openOf 31 = .ok (.iaload, 1) := by decide +kernel
theorem dX12_openOf_32 : decode cX12_openOf 32 = .ok (.iload_n 2, 1) := by decide +kernel
theorem dX12_openOf_33 : decode cX12_openOf 33 = .ok (.if_icmp .ne 23, 3) := by decide +kernel
theorem dX12_openOf_36 : decode cX12_openOf 36 = .ok (.aload_n 0, 1) := by decide +kernel
theorem dX12_openOf_37 : decode cX12_openOf 37 = .ok (.getfield 142, 3) := by decide +kernel
theorem dX12_openOf_40 : decode cX12_openOf 40 = .ok (.iload 4, 2) := by decide +kernel
theorem dX12_openOf_42 : decode cX12_openOf 42 = .ok (.iaload, 1) := by decide +kernel
theorem dX12_openOf_43 : decode cX12_openOf 43 = .ok (.iconst 5, 1) := by decide +kernel
theorem dX12_openOf_44 : decode cX12_openOf 44 = .ok (.if_icmp .ge 12, 3) := by decide +kernel
theorem dX12_openOf_47 : decode cX12_openOf 47 = .ok (.iload_n 3, 1) := by decide +kernel
theorem dX12_openOf_48 : decode cX12_openOf 48 = .ok (.aload_n 0, 1) := by decide +kernel
theorem dX12_openOf_49 : decode cX12_openOf 49 = .ok (.iload 4, 2) := by decide +kernel
theorem dX12_openOf_51 : decode cX12_openOf 51 = .ok (.invokevirtual 403, 3) := by decide +kernel
theorem dX12_openOf_54 : decode cX12_openOf 54 = .ok (.iadd, 1) := by decide +kernel
theorem dX12_openOf_55 : decode cX12_openOf 55 = .ok (.istore_n 3, 1) := by decide +kernel
theorem dX12_openOf_56 : decode cX12_openOf 56 = .ok (.iinc 4 1, 3) := by decide +kernel
theorem dX12_openOf_59 : decode cX12_openOf 59 = .ok (.goto (-54), 3) := by decide +kernel
theorem dX12_openOf_62 : decode cX12_openOf 62 = .ok (.iload_n 3, 1) := by decide +kernel
theorem dX12_openOf_63 : decode cX12_openOf 63 = .ok (.ireturn, 1) := by decide +kernel
theorem dX12_anyOpen_0 : decode cX12_anyOpen 0 = .ok (.iconst 0, 1) := by decide +kernel
theorem dX12_anyOpen_1 : decode cX12_anyOpen 1 = .ok (.istore_n 3, 1) := by decide +kernel
theorem dX12_anyOpen_2 : decode cX12_anyOpen 2 = .ok (.iload_n 3, 1) := by decide +kernel
theorem dX12_anyOpen_3 : decode cX12_anyOpen 3 = .ok (.aload_n 0, 1) := by decide +kernel
theorem dX12_anyOpen_4 : decode cX12_anyOpen 4 = .ok (.getfield 400, 3) := by decide +kernel
theorem dX12_anyOpen_7 : decode cX12_anyOpen 7 = .ok (.if_icmp .ge 41, 3) := by decide +kernel
theorem dX12_anyOpen_10 : decode cX12_anyOpen 10 = .ok (.aload_n 0, 1) := by decide +kernel
theorem dX12_anyOpen_11 : decode cX12_anyOpen 11 = .ok (.getfield 130, 3) := by decide +kernel
theorem dX12_anyOpen_14 : decode cX12_anyOpen 14 = .ok (.iload_n 3, 1) := by decide +kernel
theorem dX12_anyOpen_15 : decode cX12_anyOpen 15 = .ok (.iaload, 1) := by decide +kernel
theorem dX12_anyOpen_16 : decode cX12_anyOpen 16 = .ok (.iload_n 1, 1) := by decide +kernel
theorem dX12_anyOpen_17 : decode cX12_anyOpen 17 = .ok (.if_icmp .ne 25, 3) := by decide +kernel
theorem dX12_anyOpen_20 : decode cX12_anyOpen 20 = .ok (.aload_n 0, 1) := by decide +kernel
theorem dX12_anyOpen_21 : decode cX12_anyOpen 21 = .ok (.getfield 133, 3) := by decide +kernel
theorem dX12_anyOpen_24 : decode cX12_anyOpen 24 = .ok (.iload_n 3, 1) := by decide +kernel
theorem dX12_anyOpen_25 : decode cX12_anyOpen 25 = .ok (.iaload, 1) := by decide +kernel
theorem dX12_anyOpen_26 : decode cX12_anyOpen 26 = .ok (.iload_n 2, 1) := by decide +kernel
theorem dX12_anyOpen_27 : decode cX12_anyOpen 27 = .ok (.if_icmp .ne 15, 3) := by decide +kernel
theorem dX12_anyOpen_30 : decode cX12_anyOpen 30 = .ok (.aload_n 0, 1) := by decide +kernel
theorem dX12_anyOpen_31 : decode cX12_anyOpen 31 = .ok (.getfield 142, 3) := by decide +kernel
theorem dX12_anyOpen_34 : decode cX12_anyOpen 34 = .ok (.iload_n 3, 1) := by decide +kernel
theorem dX12_anyOpen_35 : decode cX12_anyOpen 35 = .ok (.iaload, 1) := by decide +kernel
theorem dX12_anyOpen_36 : decode cX12_anyOpen 36 = .ok (.iconst 5, 1) := by decide +kernel
theorem dX12_anyOpen_37 : decode cX12_anyOpen 37 = .ok (.if_icmp .ge 5, 3) := by decide +kernel
theorem dX12_anyOpen_40 : decode cX12_anyOpen 40 = .ok (.iconst 1, 1) := by decide +kernel
theorem dX12_anyOpen_41 : decode cX12_anyOpen 41 = .ok (.ireturn, 1) := by decide +kernel
theorem dX12_anyOpen_42 : decode cX12_anyOpen 42 = .ok (.iinc 3 1, 3) := by decide +kernel
theorem dX12_anyOpen_45 : decode cX12_anyOpen 45 = .ok (.goto (-43), 3) := by decide +kernel
theorem dX12_anyOpen_48 : decode cX12_anyOpen 48 = .ok (.iconst 0, 1) := by decide +kernel
theorem dX12_anyOpen_49 : decode cX12_anyOpen 49 = .ok (.ireturn, 1) := by decide +kernel
theorem dX12_give_0 : decode cX12_give 0 = .ok (.iconst 0, 1) := by decide +kernel
theorem dX12_give_1 : decode cX12_give 1 = .ok (.istore 4, 2) := by decide +kernel
theorem dX12_give_3 : decode cX12_give 3 = .ok (.iconst 0, 1) := by decide +kernel
theorem dX12_give_4 : decode cX12_give 4 = .ok (.istore 5, 2) := by decide +kernel
theorem dX12_give_6 : decode cX12_give 6 = .ok (.iload 5, 2) := by decide +kernel
theorem dX12_give_8 : decode cX12_give 8 = .ok (.aload_n 0, 1) := by decide +kernel
theorem dX12_give_9 : decode cX12_give 9 = .ok (.getfield 400, 3) := by decide +kernel
theorem dX12_give_12 : decode cX12_give 12 = .ok (.if_icmp .ge 93, 3) := by decide +kernel
theorem dX12_give_15 : decode cX12_give 15 = .ok (.aload_n 0, 1) := by decide +kernel
theorem dX12_give_16 : decode cX12_give 16 = .ok (.getfield 142, 3) := by decide +kernel
theorem dX12_give_19 : decode cX12_give 19 = .ok (.iload 5, 2) := by decide +kernel
theorem dX12_give_21 : decode cX12_give 21 = .ok (.iaload, 1) := by decide +kernel
theorem dX12_give_22 : decode cX12_give 22 = .ok (.iconst 5, 1) := by decide +kernel
theorem dX12_give_23 : decode cX12_give 23 = .ok (.if_icmp .ge 76, 3) := by decide +kernel
theorem dX12_give_26 : decode cX12_give 26 = .ok (.aload_n 0, 1) := by decide +kernel
theorem dX12_give_27 : decode cX12_give 27 = .ok (.getfield 130, 3) := by decide +kernel
theorem dX12_give_30 : decode cX12_give 30 = .ok (.iload 4, 2) := by decide +kernel
theorem dX12_give_32 : decode cX12_give 32 = .ok (.aload_n 0, 1) := by decide +kernel
theorem dX12_give_33 : decode cX12_give 33 = .ok (.getfield 130, 3) := by decide +kernel
theorem dX12_give_36 : decode cX12_give 36 = .ok (.iload 5, 2) := by decide +kernel
theorem dX12_give_38 : decode cX12_give 38 = .ok (.iaload, 1) := by decide +kernel
theorem dX12_give_39 : decode cX12_give 39 = .ok (.iastore, 1) := by decide +kernel
theorem dX12_give_40 : decode cX12_give 40 = .ok (.aload_n 0, 1) := by decide +kernel
theorem dX12_give_41 : decode cX12_give 41 = .ok (.getfield 133, 3) := by decide +kernel
theorem dX12_give_44 : decode cX12_give 44 = .ok (.iload 4, 2) := by decide +kernel
theorem dX12_give_46 : decode cX12_give 46 = .ok (.aload_n 0, 1) := by decide +kernel
theorem dX12_give_47 : decode cX12_give 47 = .ok (.getfield 133, 3) := by decide +kernel
theorem dX12_give_50 : decode cX12_give 50 = .ok (.iload 5, 2) := by decide +kernel
theorem dX12_give_52 : decode cX12_give 52 = .ok (.iaload, 1) := by decide +kernel
theorem dX12_give_53 : decode cX12_give 53 = .ok (.iastore, 1) := by decide +kernel
theorem dX12_give_54 : decode cX12_give 54 = .ok (.aload_n 0, 1) := by decide +kernel
theorem dX12_give_55 : decode cX12_give 55 = .ok (.getfield 136, 3) := by decide +kernel
theorem dX12_give_58 : decode cX12_give 58 = .ok (.iload 4, 2) := by decide +kernel
theorem dX12_give_60 : decode cX12_give 60 = .ok (.aload_n 0, 1) := by decide +kernel
theorem dX12_give_61 : decode cX12_give 61 = .ok (.getfield 136, 3) := by decide +kernel
theorem dX12_give_64 : decode cX12_give 64 = .ok (.iload 5, 2) := by decide +kernel
theorem dX12_give_66 : decode cX12_give 66 = .ok (.iaload, 1) := by decide +kernel
theorem dX12_give_67 : decode cX12_give 67 = .ok (.iastore, 1) := by decide +kernel
theorem dX12_give_68 : decode cX12_give 68 = .ok (.aload_n 0, 1) := by decide +kernel
theorem dX12_give_69 : decode cX12_give 69 = .ok (.getfield 139, 3) := by decide +kernel
theorem dX12_give_72 : decode cX12_give 72 = .ok (.iload 4, 2) := by decide +kernel
theorem dX12_give_74 : decode cX12_give 74 = .ok (.aload_n 0, 1) := by decide +kernel
theorem dX12_give_75 : decode cX12_give 75 = .ok (.getfield 139, 3) := by decide +kernel
theorem dX12_give_78 : decode cX12_give 78 = .ok (.iload 5, 2) := by decide +kernel
theorem dX12_give_80 : decode cX12_give 80 = .ok (.iaload, 1) := by decide +kernel
theorem dX12_give_81 : decode cX12_give 81 = .ok (.iastore, 1) := by decide +kernel
theorem dX12_give_82 : decode cX12_give 82 = .ok (.aload_n 0, 1) := by decide +kernel
theorem dX12_give_83 : decode cX12_give 83 = .ok (.getfield 142, 3) := by decide +kernel
theorem dX12_give_86 : decode cX12_give 86 = .ok (.iload 4, 2) := by decide +kernel
theorem dX12_give_88 : decode cX12_give 88 = .ok (.aload_n 0, 1) := by decide +kernel
theorem dX12_give_89 : decode cX12_give 89 = .ok (.getfield 142, 3) := by decide +kernel
theorem dX12_give_92 : decode cX12_give 92 = .ok (.iload 5, 2) := by decide +kernel
theorem dX12_give_94 : decode cX12_give 94 = .ok (.iaload, 1) := by decide +kernel
theorem dX12_give_95 : decode cX12_give 95 = .ok (.iastore, 1) := by decide +kernel
theorem dX12_give_96 : decode cX12_give 96 = .ok (.iinc 4 1, 3) := by decide +kernel
theorem dX12_give_99 : decode cX12_give 99 = .ok (.iinc 5 1, 3) := by decide +kernel
theorem dX12_give_102 : decode cX12_give 102 = .ok (.goto (-96), 3) := by decide +kernel
theorem dX12_give_105 : decode cX12_give 105 = .ok (.aload_n 0, 1) := by decide +kernel
theorem dX12_give_106 : decode cX12_give 106 = .ok (.getfield 130, 3) := by decide +kernel
theorem dX12_give_109 : decode cX12_give 109 = .ok (.iload 4, 2) := by decide +kernel
theorem dX12_give_111 : decode cX12_give 111 = .ok (.iload_n 1, 1) := by decide +kernel
theorem dX12_give_112 : decode cX12_give 112 = .ok (.iastore, 1) := by decide +kernel
theorem dX12_give_113 : decode cX12_give 113 = .ok (.aload_n 0, 1) := by decide +kernel
theorem dX12_give_114 : decode cX12_give 114 = .ok (.getfield 133, 3) := by decide +kernel
theorem dX12_give_117 : decode cX12_give 117 = .ok (.iload 4, 2) := by decide +kernel
theorem dX12_give_119 : decode cX12_give 119 = .ok (.iload_n 2, 1) := by decide +kernel
theorem dX12_give_120 : decode cX12_give 120 = .ok (.iastore, 1) := by decide +kernel
theorem dX12_give_121 : decode cX12_give 121 = .ok (.aload_n 0, 1) := by decide +kernel
theorem dX12_give_122 : decode cX12_give 122 = .ok (.getfield 136, 3) := by decide +kernel
theorem dX12_give_125 : decode cX12_give 125 = .ok (.iload 4, 2) := by decide +kernel
theorem dX12_give_127 : decode cX12_give 127 = .ok (.iload_n 3, 1) := by decide +kernel
theorem dX12_give_128 : decode cX12_give 128 = .ok (.iastore, 1) := by decide +kernel
theorem dX12_give_129 : decode cX12_give 129 = .ok (.aload_n 0, 1) := by decide +kernel
theorem dX12_give_130 : decode cX12_give 130 = .ok (.getfield 139, 3) := by decide +kernel
theorem dX12_give_133 : decode cX12_give 133 = .ok (.iload 4, 2) := by decide +kernel
theorem dX12_give_135 : decode cX12_give 135 = .ok (.aload_n 0, 1) := by decide +kernel
theorem dX12_give_136 : decode cX12_give 136 = .ok (.getfield 227, 3) := by decide +kernel
theorem dX12_give_139 : decode cX12_give 139 = .ok (.iastore, 1) := by decide +kernel
theorem dX12_give_140 : decode cX12_give 140 = .ok (.aload_n 0, 1) := by decide +kernel
theorem dX12_give_141 : decode cX12_give 141 = .ok (.getfield 142, 3) := by decide +kernel
theorem dX12_give_144 : decode cX12_give 144 = .ok (.iload 4, 2) := by decide +kernel
theorem dX12_give_146 : decode cX12_give 146 = .ok (.iconst 0, 1) := by decide +kernel
theorem dX12_give_147 : decode cX12_give 147 = .ok (.iastore, 1) := by decide +kernel
theorem dX12_give_148 : decode cX12_give 148 = .ok (.aload_n 0, 1) := by decide +kernel
theorem dX12_give_149 : decode cX12_give 149 = .ok (.iload 4, 2) := by decide +kernel
theorem dX12_give_151 : decode cX12_give 151 = .ok (.iconst 1, 1) := by decide +kernel
theorem dX12_give_152 : decode cX12_give 152 = .ok (.iadd, 1) := by decide +kernel
theorem dX12_give_153 : decode cX12_give 153 = .ok (.putfield 400, 3) := by decide +kernel
theorem dX12_give_156 : decode cX12_give 156 = .ok (.return_, 1) := by decide +kernel
theorem dX12_open_0 : decode cX12_open 0 = .ok (.iload_n 1, 1) := by decide +kernel
theorem dX12_open_1 : decode cX12_open 1 = .ok (.invokestatic 200, 3) := by decide +kernel
theorem dX12_open_4 : decode cX12_open 4 = .ok (.ifCond .eq 19, 3) := by decide +kernel
theorem dX12_open_7 : decode cX12_open 7 = .ok (.iload_n 2, 1) := by decide +kernel
theorem dX12_open_8 : decode cX12_open 8 = .ok (.invokestatic 204, 3) := by decide +kernel
theorem dX12_open_11 : decode cX12_open 11 = .ok (.ifCond .eq 12, 3) := by decide +kernel
theorem dX12_open_14 : decode cX12_open 14 = .ok (.aload_n 0, 1) := by decide +kernel
theorem dX12_open_15 : decode cX12_open 15 = .ok (.iload_n 1, 1) := by decide +kernel
theorem dX12_open_16 : decode cX12_open 16 = .ok (.iload_n 2, 1) := by decide +kernel
theorem dX12_open_17 : decode cX12_open 17 = .ok (.invokevirtual 406, 3) := by decide +kernel
theorem dX12_open_20 : decode cX12_open 20 = .ok (.goto 4, 3) := by decide +kernel
theorem dX12_open_23 : decode cX12_open 23 = .ok (.iconst (-1), 1) := by decide +kernel
theorem dX12_open_24 : decode cX12_open 24 = .ok (.ireturn, 1) := by decide +kernel
theorem dX12_enter_0 : decode cX12_enter 0 = .ok (.aload_n 0, 1) := by decide +kernel
theorem dX12_enter_1 : decode cX12_enter 1 = .ok (.getfield 409, 3) := by decide +kernel
theorem dX12_enter_4 : decode cX12_enter 4 = .ok (.sipush 500, 3) := by decide +kernel
theorem dX12_enter_7 : decode cX12_enter 7 = .ok (.if_icmp .ge 63, 3) := by decide +kernel
theorem dX12_enter_10 : decode cX12_enter 10 = .ok (.aload_n 0, 1) := by decide +kernel
theorem dX12_enter_11 : decode cX12_enter 11 = .ok (.getfield 127, 3) := by decide +kernel
theorem dX12_enter_14 : decode cX12_enter 14 = .ok (.aload_n 0, 1) := by decide +kernel
theorem dX12_enter_15 : decode cX12_enter 15 = .ok (.getfield 409, 3) := by decide +kernel
theorem dX12_enter_18 : decode cX12_enter 18 = .ok (.aaload, 1) := by decide +kernel
theorem dX12_enter_19 : decode cX12_enter 19 = .ok (.astore 8, 2) := by decide +kernel
theorem dX12_enter_21 : decode cX12_enter 21 = .ok (.aload 8, 2) := by decide +kernel
theorem dX12_enter_23 : decode cX12_enter 23 = .ok (.iconst 0, 1) := by decide +kernel
theorem dX12_enter_24 : decode cX12_enter 24 = .ok (.aload_n 0, 1) := by decide +kernel
theorem dX12_enter_25 : decode cX12_enter 25 = .ok (.getfield 227, 3) := by decide +kernel
theorem dX12_enter_28 : decode cX12_enter 28 = .ok (.iastore, 1) := by decide +kernel
theorem dX12_enter_29 : decode cX12_enter 29 = .ok (.aload 8, 2) := by decide +kernel
theorem dX12_enter_31 : decode cX12_enter 31 = .ok (.iconst 1, 1) := by decide +kernel
theorem dX12_enter_32 : decode cX12_enter 32 = .ok (.iload_n 1, 1) := by decide +kernel
theorem dX12_enter_33 : decode cX12_enter 33 = .ok (.iastore, 1) := by decide +kernel
theorem dX12_enter_34 : decode cX12_enter 34 = .ok (.aload 8, 2) := by decide +kernel
theorem dX12_enter_36 : decode cX12_enter 36 = .ok (.iconst 2, 1) := by decide +kernel
theorem dX12_enter_37 : decode cX12_enter 37 = .ok (.iload_n 2, 1) := by decide +kernel
theorem dX12_enter_38 : decode cX12_enter 38 = .ok (.iastore, 1) := by decide +kernel
theorem dX12_enter_39 : decode cX12_enter 39 = .ok (.aload 8, 2) := by decide +kernel
theorem dX12_enter_41 : decode cX12_enter 41 = .ok (.iconst 3, 1) := by decide +kernel
theorem dX12_enter_42 : decode cX12_enter 42 = .ok (.iload_n 3, 1) := by decide +kernel
theorem dX12_enter_43 : decode cX12_enter 43 = .ok (.iastore, 1) := by decide +kernel
theorem dX12_enter_44 : decode cX12_enter 44 = .ok (.aload 8, 2) := by decide +kernel
theorem dX12_enter_46 : decode cX12_enter 46 = .ok (.iconst 4, 1) := by decide +kernel
theorem dX12_enter_47 : decode cX12_enter 47 = .ok (.iload 4, 2) := by decide +kernel
theorem dX12_enter_49 : decode cX12_enter 49 = .ok (.iastore, 1) := by decide +kernel
theorem dX12_enter_50 : decode cX12_enter 50 = .ok (.aload 8, 2) := by decide +kernel
theorem dX12_enter_52 : decode cX12_enter 52 = .ok (.iconst 5, 1) := by decide +kernel
theorem dX12_enter_53 : decode cX12_enter 53 = .ok (.iload 5, 2) := by decide +kernel
theorem dX12_enter_55 : decode cX12_enter 55 = .ok (.iastore, 1) := by decide +kernel
theorem dX12_enter_56 : decode cX12_enter 56 = .ok (.aload 8, 2) := by decide +kernel
theorem dX12_enter_58 : decode cX12_enter 58 = .ok (.bipush 6, 2) := by decide +kernel
theorem dX12_enter_60 : decode cX12_enter 60 = .ok (.iload 6, 2) := by decide +kernel
theorem dX12_enter_62 : decode cX12_enter 62 = .ok (.iastore, 1) := by decide +kernel
theorem dX12_enter_63 : decode cX12_enter 63 = .ok (.aload 8, 2) := by decide +kernel
theorem dX12_enter_65 : decode cX12_enter 65 = .ok (.bipush 7, 2) := by decide +kernel
theorem dX12_enter_67 : decode cX12_enter 67 = .ok (.iload 7, 2) := by decide +kernel
theorem dX12_enter_69 : decode cX12_enter 69 = .ok (.iastore, 1) := by decide +kernel
theorem dX12_enter_70 : decode cX12_enter 70 = .ok (.aload_n 0, 1) := by decide +kernel
theorem dX12_enter_71 : decode cX12_enter 71 = .ok (.dup, 1) := by decide +kernel
theorem dX12_enter_72 : decode cX12_enter 72 = .ok (.getfield 409, 3) := by decide +kernel
theorem dX12_enter_75 : decode cX12_enter 75 = .ok (.iconst 1, 1) := by decide +kernel
theorem dX12_enter_76 : decode cX12_enter 76 = .ok (.iadd, 1) := by decide +kernel
theorem dX12_enter_77 : decode cX12_enter 77 = .ok (.putfield 409, 3) := by decide +kernel
theorem dX12_enter_80 : decode cX12_enter 80 = .ok (.return_, 1) := by decide +kernel
theorem dX12_buy_0 : decode cX12_buy 0 = .ok (.iconst 0, 1) := by decide +kernel
theorem dX12_buy_1 : decode cX12_buy 1 = .ok (.istore 5, 2) := by decide +kernel
theorem dX12_buy_3 : decode cX12_buy 3 = .ok (.aload_n 0, 1) := by decide +kernel
theorem dX12_buy_4 : decode cX12_buy 4 = .ok (.iconst 0, 1) := by decide +kernel
theorem dX12_buy_5 : decode cX12_buy 5 = .ok (.putfield 412, 3) := by decide +kernel
theorem dX12_buy_8 : decode cX12_buy 8 = .ok (.iload 5, 2) := by decide +kernel
theorem dX12_buy_10 : decode cX12_buy 10 = .ok (.iload_n 3, 1) := by decide +kernel
theorem dX12_buy_11 : decode cX12_buy 11 = .ok (.if_icmp .ge 85, 3) := by decide +kernel
theorem dX12_buy_14 : decode cX12_buy 14 = .ok (.aload_n 0, 1) := by decide +kernel
theorem dX12_buy_15 : decode cX12_buy 15 = .ok (.iload_n 1, 1) := by decide +kernel
theorem dX12_buy_16 : decode cX12_buy 16 = .ok (.iload_n 2, 1) := by decide +kernel
theorem dX12_buy_17 : decode cX12_buy 17 = .ok (.invokevirtual 207, 3) := by decide +kernel
theorem dX12_buy_20 : decode cX12_buy 20 = .ok (.i2l, 1) := by decide +kernel
theorem dX12_buy_21 : decode cX12_buy 21 = .ok (.aload_n 0, 1) := by decide +kernel
theorem dX12_buy_22 : decode cX12_buy 22 = .ok (.getfield 7, 3) := by decide +kernel
theorem dX12_buy_25 : decode cX12_buy 25 = .ok (.iload_n 1, 1) := by decide +kernel
theorem dX12_buy_26 : decode cX12_buy 26 = .ok (.iaload, 1) := by decide +kernel
theorem dX12_buy_27 : decode cX12_buy 27 = .ok (.i2l, 1) := by decide +kernel
theorem dX12_buy_28 : decode cX12_buy 28 = .ok (.iload 4, 2) := by decide +kernel
theorem dX12_buy_30 : decode cX12_buy 30 = .ok (.i2l, 1) := by decide +kernel
theorem dX12_buy_31 : decode cX12_buy 31 = .ok (.lsub, 1) := by decide +kernel
theorem dX12_buy_32 : decode cX12_buy 32 = .ok (.lcmp, 1) := by decide +kernel
theorem dX12_buy_33 : decode cX12_buy 33 = .ok (.ifCond .gt 63, 3) := by decide +kernel
theorem dX12_buy_36 : decode cX12_buy 36 = .ok (.aload_n 0, 1) := by decide +kernel
theorem dX12_buy_37 : decode cX12_buy 37 = .ok (.iload_n 1, 1) := by decide +kernel
theorem dX12_buy_38 : decode cX12_buy 38 = .ok (.iload_n 2, 1) := by decide +kernel
theorem dX12_buy_39 : decode cX12_buy 39 = .ok (.invokevirtual 207, 3) := by decide +kernel
theorem dX12_buy_42 : decode cX12_buy 42 = .ok (.istore 6, 2) := by decide +kernel
theorem dX12_buy_44 : decode cX12_buy 44 = .ok (.aload_n 0, 1) := by decide +kernel
theorem dX12_buy_45 : decode cX12_buy 45 = .ok (.getfield 7, 3) := by decide +kernel
theorem dX12_buy_48 : decode cX12_buy 48 = .ok (.iload_n 1, 1) := by decide +kernel
theorem dX12_buy_49 : decode cX12_buy 49 = .ok (.dup2, 1) := by decide +kernel
theorem dX12_buy_50 : decode cX12_buy 50 = .ok (.iaload, 1) := by decide +kernel
theorem dX12_buy_51 : decode cX12_buy 51 = .ok (.iload 6, 2) := by decide +kernel
theorem dX12_buy_53 : decode cX12_buy 53 = .ok (.isub, 1) := by decide +kernel
theorem dX12_buy_54 : decode cX12_buy 54 = .ok (.iastore, 1) := by decide +kernel
theorem dX12_buy_55 : decode cX12_buy 55 = .ok (.aload_n 0, 1) := by decide +kernel
theorem dX12_buy_56 : decode cX12_buy 56 = .ok (.dup, 1) := by decide +kernel
theorem dX12_buy_57 : decode cX12_buy 57 = .ok (.getfield 412, 3) := by decide +kernel
theorem dX12_buy_60 : decode cX12_buy 60 = .ok (.iload 6, 2) := by decide +kernel
theorem dX12_buy_62 : decode cX12_buy 62 = .ok (.iadd, 1) := by decide +kernel
theorem dX12_buy_63 : decode cX12_buy 63 = .ok (.putfield 412, 3) := by decide +kernel
theorem dX12_buy_66 : decode cX12_buy 66 = .ok (.aload_n 0, 1) := by decide +kernel
theorem dX12_buy_67 : decode cX12_buy 67 = .ok (.getfield 15, 3) := by decide +kernel
theorem dX12_buy_70 : decode cX12_buy 70 = .ok (.iload_n 1, 1) := by decide +kernel
theorem dX12_buy_71 : decode cX12_buy 71 = .ok (.aaload, 1) := by decide +kernel
theorem dX12_buy_72 : decode cX12_buy 72 = .ok (.iload_n 2, 1) := by decide +kernel
theorem dX12_buy_73 : decode cX12_buy 73 = .ok (.dup2, 1) := by decide +kernel
theorem dX12_buy_74 : decode cX12_buy 74 = .ok (.iaload, 1) := by decide +kernel
theorem dX12_buy_75 : decode cX12_buy 75 = .ok (.iconst 1, 1) := by decide +kernel
theorem dX12_buy_76 : decode cX12_buy 76 = .ok (.iadd, 1) := by decide +kernel
theorem dX12_buy_77 : decode cX12_buy 77 = .ok (.iastore, 1) := by decide +kernel
theorem dX12_buy_78 : decode cX12_buy 78 = .ok (.aload_n 0, 1) := by decide +kernel
theorem dX12_buy_79 : decode cX12_buy 79 = .ok (.getfield 24, 3) := by decide +kernel
theorem dX12_buy_82 : decode cX12_buy 82 = .ok (.iload_n 1, 1) := by decide +kernel
theorem dX12_buy_83 : decode cX12_buy 83 = .ok (.aaload, 1) := by decide +kernel
theorem dX12_buy_84 : decode cX12_buy 84 = .ok (.iload_n 2, 1) := by decide +kernel
theorem dX12_buy_85 : decode cX12_buy 85 = .ok (.dup2, 1) := by decide +kernel
theorem dX12_buy_86 : decode cX12_buy 86 = .ok (.iaload, 1) := by decide +kernel
theorem dX12_buy_87 : decode cX12_buy 87 = .ok (.iconst 1, 1) := by decide +kernel
theorem dX12_buy_88 : decode cX12_buy 88 = .ok (.iadd, 1) := by decide +kernel
theorem dX12_buy_89 : decode cX12_buy 89 = .ok (.iastore, 1) := by decide +kernel
theorem dX12_buy_90 : decode cX12_buy 90 = .ok (.iinc 5 1, 3) := by decide +kernel
theorem dX12_buy_93 : decode cX12_buy 93 = .ok (.goto (-85), 3) := by decide +kernel
theorem dX12_buy_96 : decode cX12_buy 96 = .ok (.iload 5, 2) := by decide +kernel
theorem dX12_buy_98 : decode cX12_buy 98 = .ok (.ireturn, 1) := by decide +kernel
theorem dX12_doBuy_0 : decode cX12_doBuy 0 = .ok (.aload_n 0, 1) := by decide +kernel
theorem dX12_doBuy_1 : decode cX12_doBuy 1 = .ok (.iload_n 1, 1) := by decide +kernel
theorem dX12_doBuy_2 : decode cX12_doBuy 2 = .ok (.iload_n 2, 1) := by decide +kernel
theorem dX12_doBuy_3 : decode cX12_doBuy 3 = .ok (.iload_n 3, 1) := by decide +kernel
theorem dX12_doBuy_4 : decode cX12_doBuy 4 = .ok (.aload_n 0, 1) := by decide +kernel
theorem dX12_doBuy_5 : decode cX12_doBuy 5 = .ok (.getfield 415, 3) := by decide +kernel
theorem dX12_doBuy_8 : decode cX12_doBuy 8 = .ok (.invokevirtual 418, 3) := by decide +kernel
theorem dX12_doBuy_11 : decode cX12_doBuy 11 = .ok (.istore 6, 2) := by decide +kernel
theorem dX12_doBuy_13 : decode cX12_doBuy 13 = .ok (.iload 6, 2) := by decide +kernel
theorem dX12_doBuy_15 : decode cX12_doBuy 15 = .ok (.ifCond .le 20, 3) := by decide +kernel
theorem dX12_doBuy_18 : decode cX12_doBuy 18 = .ok (.aload_n 0, 1) := by decide +kernel
theorem dX12_doBuy_19 : decode cX12_doBuy 19 = .ok (.iload_n 1, 1) := by decide +kernel
theorem dX12_doBuy_20 : decode cX12_doBuy 20 = .ok (.iconst 0, 1) := by decide +kernel
theorem dX12_doBuy_21 : decode cX12_doBuy 21 = .ok (.iload_n 2, 1) := by decide +kernel
theorem dX12_doBuy_22 : decode cX12_doBuy 22 = .ok (.iload 6, 2) := by decide +kernel
theorem dX12_doBuy_24 : decode cX12_doBuy 24 = .ok (.aload_n 0, 1) := by decide +kernel
theorem dX12_doBuy_25 : decode cX12_doBuy 25 = .ok (.getfield 412, 3) := by decide +kernel
theorem dX12_doBuy_28 : decode cX12_doBuy 28 = .ok (.iload 4, 2) := by decide +kernel
theorem dX12_doBuy_30 : decode cX12_doBuy 30 = .ok (.iload 5, 2) := by decide +kernel
theorem dX12_doBuy_32 : decode cX12_doBuy 32 = .ok (.invokevirtual 422, 3) := by decide +kernel
theorem dX12_doBuy_35 : decode cX12_doBuy 35 = .ok (.return_, 1) := by decide +kernel
theorem dX12_doAdvance_0 : decode cX12_doAdvance 0 = .ok (.iload_n 3, 1) := by decide +kernel
theorem dX12_doAdvance_1 : decode cX12_doAdvance 1 = .ok (.i2l, 1) := by decide +kernel
theorem dX12_doAdvance_2 : decode cX12_doAdvance 2 = .ok (.aload_n 0, 1) := by decide +kernel
theorem dX12_doAdvance_3 : decode cX12_doAdvance 3 = .ok (.iload_n 1, 1) := by decide +kernel
theorem dX12_doAdvance_4 : decode cX12_doAdvance 4 = .ok (.iload_n 2, 1) := by decide +kernel
theorem dX12_doAdvance_5 : decode cX12_doAdvance 5 = .ok (.invokevirtual 207, 3) := by decide +kernel
theorem dX12_doAdvance_8 : decode cX12_doAdvance 8 = .ok (.i2l, 1) := by decide +kernel
theorem dX12_doAdvance_9 : decode cX12_doAdvance 9 = .ok (.lmul, 1) := by decide +kernel
theorem dX12_doAdvance_10 : decode cX12_doAdvance 10 = .ok (.ldc2_w 426, 3) := by decide +kernel
theorem dX12_doAdvance_13 : decode cX12_doAdvance 13 = .ok (.lmul, 1) := by decide +kernel
theorem dX12_doAdvance_14 : decode cX12_doAdvance 14 = .ok (.ldc2_w 428, 3) := by decide +kernel
theorem dX12_doAdvance_17 : decode cX12_doAdvance 17 = .ok (.ldiv, 1) := by decide +kernel
theorem dX12_doAdvance_18 : decode cX12_doAdvance 18 = .ok (.lstore 6, 2) := by decide +kernel
theorem dX12_doAdvance_20 : decode cX12_doAdvance 20 = .ok (.iload_n 3, 1) := by decide +kernel
theorem dX12_doAdvance_21 : decode cX12_doAdvance 21 = .ok (.ifCond .le 65, 3) := by decide +kernel
theorem dX12_doAdvance_24 : decode cX12_doAdvance 24 = .ok (.aload_n 0, 1) := by decide +kernel
theorem dX12_doAdvance_25 : decode cX12_doAdvance 25 = .ok (.iload_n 1, 1) := by decide +kernel
theorem dX12_doAdvance_26 : decode cX12_doAdvance 26 = .ok (.iload_n 2, 1) := by decide +kernel
theorem dX12_doAdvance_27 : decode cX12_doAdvance 27 = .ok (.invokevirtual 430, 3) := by decide +kernel
theorem dX12_doAdvance_30 : decode cX12_doAdvance 30 = .ok (.ifCond .ne 56, 3) := by decide +kernel
theorem dX12_doAdvance_33 : decode cX12_doAdvance 33 = .ok (.lload 6, 2) := by decide +kernel
theorem dX12_doAdvance_35 : decode cX12_doAdvance 35 = .ok (.aload_n 0, 1) := by decide +kernel
theorem dX12_doAdvance_36 : decode cX12_doAdvance 36 = .ok (.getfield 7, 3) := by decide +kernel
theorem dX12_doAdvance_39 : decode cX12_doAdvance 39 = .ok (.iload_n 1, 1) := by decide +kernel
theorem dX12_doAdvance_40 : decode cX12_doAdvance 40 = .ok (.iaload, 1) := by decide +kernel
theorem dX12_doAdvance_41 : decode cX12_doAdvance 41 = .ok (.i2l, 1) := by decide +kernel
theorem dX12_doAdvance_42 : decode cX12_doAdvance 42 = .ok (.aload_n 0, 1) := by decide +kernel
theorem dX12_doAdvance_43 : decode cX12_doAdvance 43 = .ok (.getfield 415, 3) := by decide +kernel
theorem dX12_doAdvance_46 : decode cX12_doAdvance 46 = .ok (.i2l, 1) := by decide +kernel
theorem dX12_doAdvance_47 : decode cX12_doAdvance 47 = .ok (.lsub, 1) := by decide +kernel
theorem dX12_doAdvance_48 : decode cX12_doAdvance 48 = .ok (.lcmp, 1) := by decide +kernel
theorem dX12_doAdvance_49 : decode cX12_doAdvance 49 = .ok (.ifCond .gt 37, 3) := by decide +kernel
theorem dX12_doAdvance_52 : decode cX12_doAdvance 52 = .ok (.aload_n 0, 1) := by decide +kernel
theorem dX12_doAdvance_53 : decode cX12_doAdvance 53 = .ok (.getfield 7, 3) := by decide +kernel
theorem dX12_doAdvance_56 : decode cX12_doAdvance 56 = .ok (.iload_n 1, 1) := by decide +kernel
theorem dX12_doAdvance_57 : decode cX12_doAdvance 57 = .ok (.dup2, 1) := by decide +kernel
theorem dX12_doAdvance_58 : decode cX12_doAdvance 58 = .ok (.iaload, 1) := by decide +kernel
theorem dX12_doAdvance_59 : decode cX12_doAdvance 59 = .ok (.lload 6, 2) := by decide +kernel
theorem dX12_doAdvance_61 : decode cX12_doAdvance 61 = .ok (.l2i, 1) := by decide +kernel
theorem dX12_doAdvance_62 : decode cX12_doAdvance 62 = .ok (.isub, 1) := by decide +kernel
theorem dX12_doAdvance_63 : decode cX12_doAdvance 63 = .ok (.iastore, 1) := by decide +kernel
theorem dX12_doAdvance_64 : decode cX12_doAdvance 64 = .ok (.aload_n 0, 1) := by decide +kernel
theorem dX12_doAdvance_65 : decode cX12_doAdvance 65 = .ok (.iload_n 1, 1) := by decide +kernel
theorem dX12_doAdvance_66 : decode cX12_doAdvance 66 = .ok (.iload_n 2, 1) := by decide +kernel
theorem dX12_doAdvance_67 : decode cX12_doAdvance 67 = .ok (.iload_n 3, 1) := by decide +kernel
theorem dX12_doAdvance_68 : decode cX12_doAdvance 68 = .ok (.invokevirtual 433, 3) := by decide +kernel
theorem dX12_doAdvance_71 : decode cX12_doAdvance 71 = .ok (.aload_n 0, 1) := by decide +kernel
theorem dX12_doAdvance_72 : decode cX12_doAdvance 72 = .ok (.iload_n 1, 1) := by decide +kernel
theorem dX12_doAdvance_73 : decode cX12_doAdvance 73 = .ok (.iconst 1, 1) := by decide +kernel
theorem dX12_doAdvance_74 : decode cX12_doAdvance 74 = .ok (.iload_n 2, 1) := by decide +kernel
theorem dX12_doAdvance_75 : decode cX12_doAdvance 75 = .ok (.iload_n 3, 1) := by decide +kernel
theorem dX12_doAdvance_76 : decode cX12_doAdvance 76 = .ok (.lload 6, 2) := by decide +kernel
theorem dX12_doAdvance_78 : decode cX12_doAdvance 78 = .ok (.l2i, 1) := by decide +kernel
theorem dX12_doAdvance_79 : decode cX12_doAdvance 79 = .ok (.iload 4, 2) := by decide +kernel
theorem dX12_doAdvance_81 : decode cX12_doAdvance 81 = .ok (.iload 5, 2) := by decide +kernel
theorem dX12_doAdvance_83 : decode cX12_doAdvance 83 = .ok (.invokevirtual 422, 3) := by decide +kernel
theorem dX12_doAdvance_86 : decode cX12_doAdvance 86 = .ok (.return_, 1) := by decide +kernel
theorem dX12_doLade_0 : decode cX12_doLade 0 = .ok (.iconst 0, 1) := by decide +kernel
theorem dX12_doLade_1 : decode cX12_doLade 1 = .ok (.istore 6, 2) := by decide +kernel
theorem dX12_doLade_3 : decode cX12_doLade 3 = .ok (.iload 6, 2) := by decide +kernel
theorem dX12_doLade_5 : decode cX12_doLade 5 = .ok (.aload_n 0, 1) := by decide +kernel
theorem dX12_doLade_6 : decode cX12_doLade 6 = .ok (.getfield 324, 3) := by decide +kernel
theorem dX12_doLade_9 : decode cX12_doLade 9 = .ok (.if_icmp .ge 103, 3) := by decide +kernel
theorem dX12_doLade_12 : decode cX12_doLade 12 = .ok (.aload_n 0, 1) := by decide +kernel
theorem dX12_doLade_13 : decode cX12_doLade 13 = .ok (.getfield 72, 3) := by decide +kernel
theorem dX12_doLade_16 : decode cX12_doLade 16 = .ok (.iload 6, 2) := by decide +kernel
theorem dX12_doLade_18 : decode cX12_doLade 18 = .ok (.iaload, 1) := by decide +kernel
theorem dX12_doLade_19 : decode cX12_doLade 19 = .ok (.iload_n 1, 1) := by decide +kernel
theorem dX12_doLade_20 : decode cX12_doLade 20 = .ok (.if_icmp .ne 86, 3) := by decide +kernel
theorem dX12_doLade_23 : decode cX12_doLade 23 = .ok (.aload_n 0, 1) := by decide +kernel
theorem dX12_doLade_24 : decode cX12_doLade 24 = .ok (.getfield 75, 3) := by decide +kernel
theorem dX12_doLade_27 : decode cX12_doLade 27 = .ok (.iload 6, 2) := by decide +kernel
theorem dX12_doLade_29 : decode cX12_doLade 29 = .ok (.baload, 1) := by decide +kernel
theorem dX12_doLade_30 : decode cX12_doLade 30 = .ok (.ifCond .ne 6, 3) := by decide +kernel
theorem dX12_doLade_33 : decode cX12_doLade 33 = .ok (.goto 73, 3) := by decide +kernel
theorem dX12_doLade_36 : decode cX12_doLade 36 = .ok (.iload_n 3, 1) := by decide +kernel
theorem dX12_doLade_37 : decode cX12_doLade 37 = .ok (.aload_n 0, 1) := by decide +kernel
theorem dX12_doLade_38 : decode cX12_doLade 38 = .ok (.getfield 15, 3) := by decide +kernel
theorem dX12_doLade_41 : decode cX12_doLade 41 = .ok (.iload_n 1, 1) := by decide +kernel
theorem dX12_doLade_42 : decode cX12_doLade 42 = .ok (.aaload, 1) := by decide +kernel
theorem dX12_doLade_43 : decode cX12_doLade 43 = .ok (.iload_n 2, 1) := by decide +kernel
theorem dX12_doLade_44 : decode cX12_doLade 44 = .ok (.iaload, 1) := by decide +kernel
theorem dX12_doLade_45 : decode cX12_doLade 45 = .ok (.aload_n 0, 1) := by decide +kernel
theorem dX12_doLade_46 : decode cX12_doLade 46 = .ok (.iload 6, 2) := by decide +kernel
theorem dX12_doLade_48 : decode cX12_doLade 48 = .ok (.invokevirtual 376, 3) := by decide +kernel
theorem dX12_doLade_51 : decode cX12_doLade 51 = .ok (.invokestatic 437, 3) := by decide +kernel
theorem dX12_doLade_54 : decode cX12_doLade 54 = .ok (.invokestatic 437, 3) := by decide +kernel
theorem dX12_doLade_57 : decode cX12_doLade 57 = .ok (.istore 7, 2) := by decide +kernel
theorem dX12_doLade_59 : decode cX12_doLade 59 = .ok (.iload 7, 2) := by decide +kernel
theorem dX12_doLade_61 : decode cX12_doLade 61 = .ok (.ifCond .le 44, 3) := by decide +kernel
theorem dX12_doLade_64 : decode cX12_doLade 64 = .ok (.aload_n 0, 1) := by decide +kernel
theorem dX12_doLade_65 : decode cX12_doLade 65 = .ok (.getfield 15, 3) := by decide +kernel
theorem dX12_doLade_68 : decode cX12_doLade 68 = .ok (.iload_n 1, 1) := by decide +kernel
theorem dX12_doLade_69 : decode cX12_doLade 69 = .ok (.aaload, 1) := by decide +kernel
theorem dX12_doLade_70 : decode cX12_doLade 70 = .ok (.iload_n 2, 1) := by decide +kernel
theorem dX12_doLade_71 : decode cX12_doLade 71 = .ok (.dup2, 1) := by decide +kernel
theorem dX12_doLade_72 : decode cX12_doLade 72 = .ok (.iaload, 1) := by decide +kernel
theorem dX12_doLade_73 : decode cX12_doLade 73 = .ok (.iload 7, 2) := by decide +kernel
theorem dX12_doLade_75 : decode cX12_doLade 75 = .ok (.isub, 1) := by decide +kernel
theorem dX12_doLade_76 : decode cX12_doLade 76 = .ok (.iastore, 1) := by decide +kernel
theorem dX12_doLade_77 : decode cX12_doLade 77 = .ok (.aload_n 0, 1) := by decide +kernel
theorem dX12_doLade_78 : decode cX12_doLade 78 = .ok (.getfield 82, 3) := by decide +kernel
theorem dX12_doLade_81 : decode cX12_doLade 81 = .ok (.iload 6, 2) := by decide +kernel
theorem dX12_doLade_83 : decode cX12_doLade 83 = .ok (.aaload, 1) := by decide +kernel
theorem dX12_doLade_84 : decode cX12_doLade 84 = .ok (.iload_n 2, 1) := by decide +kernel
theorem dX12_doLade_85 : decode cX12_doLade 85 = .ok (.dup2, 1) := by decide +kernel
theorem dX12_doLade_86 : decode cX12_doLade 86 = .ok (.iaload, 1) := by decide +kernel
theorem dX12_doLade_87 : decode cX12_doLade 87 = .ok (.iload 7, 2) := by decide +kernel
theorem dX12_doLade_89 : decode cX12_doLade 89 = .ok (.iadd, 1) := by decide +kernel
theorem dX12_doLade_90 : decode cX12_doLade 90 = .ok (.iastore, 1) := by decide +kernel
theorem dX12_doLade_91 : decode cX12_doLade 91 = .ok (.aload_n 0, 1) := by decide +kernel
theorem dX12_doLade_92 : decode cX12_doLade 92 = .ok (.iload_n 1, 1) := by decide +kernel
theorem dX12_doLade_93 : decode cX12_doLade 93 = .ok (.iconst 2, 1) := by decide +kernel
theorem dX12_doLade_94 : decode cX12_doLade 94 = .ok (.iload_n 2, 1) := by decide +kernel
theorem dX12_doLade_95 : decode cX12_doLade 95 = .ok (.iload 7, 2) := by decide +kernel
theorem dX12_doLade_97 : decode cX12_doLade 97 = .ok (.iconst 0, 1) := by decide +kernel
theorem dX12_doLade_98 : decode cX12_doLade 98 = .ok (.iload 4, 2) := by decide +kernel
theorem dX12_doLade_100 : decode cX12_doLade 100 = .ok (.iload 5, 2) := by decide +kernel
theorem dX12_doLade_102 : decode cX12_doLade 102 = .ok (.invokevirtual 422, 3) := by decide +kernel
theorem dX12_doLade_105 : decode cX12_doLade 105 = .ok (.return_, 1) := by decide +kernel
theorem dX12_doLade_106 : decode cX12_doLade 106 = .ok (.iinc 6 1, 3) := by decide +kernel
theorem dX12_doLade_109 : decode cX12_doLade 109 = .ok (.goto (-106), 3) := by decide +kernel
theorem dX12_doLade_112 : decode cX12_doLade 112 = .ok (.return_, 1) := by decide +kernel
theorem dX12_doSail_0 : decode cX12_doSail 0 = .ok (.iconst 0, 1) := by decide +kernel
theorem dX12_doSail_1 : decode cX12_doSail 1 = .ok (.istore 5, 2) := by decide +kernel
theorem dX12_doSail_3 : decode cX12_doSail 3 = .ok (.iload 5, 2) := by decide +kernel
theorem dX12_doSail_5 : decode cX12_doSail 5 = .ok (.aload_n 0, 1) := by decide +kernel
theorem dX12_doSail_6 : decode cX12_doSail 6 = .ok (.getfield 324, 3) := by decide +kernel
theorem dX12_doSail_9 : decode cX12_doSail 9 = .ok (.if_icmp .ge 128, 3) := by decide +kernel
theorem dX12_doSail_12 : decode cX12_doSail 12 = .ok (.aload_n 0, 1) := by decide +kernel
theorem dX12_doSail_13 : decode cX12_doSail 13 = .ok (.getfield 72, 3) := by decide +kernel
theorem dX12_doSail_16 : decode cX12_doSail 16 = .ok (.iload 5, 2) := by decide +kernel
theorem dX12_doSail_18 : decode cX12_doSail 18 = .ok (.iaload, 1) := by decide +kernel
theorem dX12_doSail_19 : decode cX12_doSail 19 = .ok (.iload_n 1, 1) := by decide +kernel
theorem dX12_doSail_20 : decode cX12_doSail 20 = .ok (.if_icmp .ne 111, 3) := by decide +kernel
theorem dX12_doSail_23 : decode cX12_doSail 23 = .ok (.aload_n 0, 1) := by decide +kernel
theorem dX12_doSail_24 : decode cX12_doSail 24 = .ok (.iload 5, 2) := by decide +kernel
theorem dX12_doSail_26 : decode cX12_doSail 26 = .ok (.invokevirtual 370, 3) := by decide +kernel
theorem dX12_doSail_29 : decode cX12_doSail 29 = .ok (.iload_n 2, 1) := by decide +kernel
theorem dX12_doSail_30 : decode cX12_doSail 30 = .ok (.iconst 1, 1) := by decide +kernel
theorem dX12_doSail_31 : decode cX12_doSail 31 = .ok (.invokestatic 442, 3) := by decide +kernel
theorem dX12_doSail_34 : decode cX12_doSail 34 = .ok (.if_icmp .ge 6, 3) := by decide +kernel
theorem dX12_doSail_37 : decode cX12_doSail 37 = .ok (.goto 94, 3) := by decide +kernel
theorem dX12_doSail_40 : decode cX12_doSail 40 = .ok (.aload_n 0, 1) := by decide +kernel
theorem dX12_doSail_41 : decode cX12_doSail 41 = .ok (.getfield 379, 3) := by decide +kernel
theorem dX12_doSail_44 : decode cX12_doSail 44 = .ok (.bipush 99, 2) := by decide +kernel
theorem dX12_doSail_46 : decode cX12_doSail 46 = .ok (.if_icmp .ne 4, 3) := by decide +kernel
theorem dX12_doSail_49 : decode cX12_doSail 49 = .ok (.return_, 1) := by decide +kernel
theorem dX12_doSail_50 : decode cX12_doSail 50 = .ok (.aload_n 0, 1) := by decide +kernel
theorem dX12_doSail_51 : decode cX12_doSail 51 = .ok (.iload 5, 2) := by decide +kernel
theorem dX12_doSail_53 : decode cX12_doSail 53 = .ok (.iconst 0, 1) := by decide +kernel
theorem dX12_doSail_54 : decode cX12_doSail 54 = .ok (.invokevirtual 382, 3) := by decide +kernel
theorem dX12_doSail_57 : decode cX12_doSail 57 = .ok (.istore 6, 2) := by decide +kernel
theorem dX12_doSail_59 : decode cX12_doSail 59 = .ok (.aload_n 0, 1) := by decide +kernel
theorem dX12_doSail_60 : decode cX12_doSail 60 = .ok (.getfield 224, 3) := by decide +kernel
theorem dX12_doSail_63 : decode cX12_doSail 63 = .ok (.sipush 150, 3) := by decide +kernel
theorem dX12_doSail_66 : decode cX12_doSail 66 = .ok (.if_icmp .ge 51, 3) := by decide +kernel
theorem dX12_doSail_69 : decode cX12_doSail 69 = .ok (.aload_n 0, 1) := by decide +kernel
theorem dX12_doSail_70 : decode cX12_doSail 70 = .ok (.iconst 4, 1) := by decide +kernel
theorem dX12_doSail_71 : decode cX12_doSail 71 = .ok (.iload_n 1, 1) := by decide +kernel
theorem dX12_doSail_72 : decode cX12_doSail 72 = .ok (.iconst 0, 1) := by decide +kernel
theorem dX12_doSail_73 : decode cX12_doSail 73 = .ok (.invokevirtual 320, 3) := by decide +kernel
theorem dX12_doSail_76 : decode cX12_doSail 76 = .ok (.istore 7, 2) := by decide +kernel
theorem dX12_doSail_78 : decode cX12_doSail 78 = .ok (.aload_n 0, 1) := by decide +kernel
theorem dX12_doSail_79 : decode cX12_doSail 79 = .ok (.getfield 51, 3) := by decide +kernel
theorem dX12_doSail_82 : decode cX12_doSail 82 = .ok (.iload 7, 2) := by decide +kernel
theorem dX12_doSail_84 : decode cX12_doSail 84 = .ok (.aaload, 1) := by decide +kernel
theorem dX12_doSail_85 : decode cX12_doSail 85 = .ok (.iconst 0, 1) := by decide +kernel
theorem dX12_doSail_86 : decode cX12_doSail 86 = .ok (.iload 6, 2) := by decide +kernel
theorem dX12_doSail_88 : decode cX12_doSail 88 = .ok (.iastore, 1) := by decide +kernel
theorem dX12_doSail_89 : decode cX12_doSail 89 = .ok (.aload_n 0, 1) := by decide +kernel
theorem dX12_doSail_90 : decode cX12_doSail 90 = .ok (.getfield 121, 3) := by decide +kernel
theorem dX12_doSail_93 : decode cX12_doSail 93 = .ok (.iload 6, 2) := by decide +kernel
theorem dX12_doSail_95 : decode cX12_doSail 95 = .ok (.iload 7, 2) := by decide +kernel
theorem dX12_doSail_97 : decode cX12_doSail 97 = .ok (.iastore, 1) := by decide +kernel
theorem dX12_doSail_98 : decode cX12_doSail 98 = .ok (.aload_n 0, 1) := by decide +kernel
theorem dX12_doSail_99 : decode cX12_doSail 99 = .ok (.getfield 45, 3) := by decide +kernel
theorem dX12_doSail_102 : decode cX12_doSail 102 = .ok (.iload 7, 2) := by decide +kernel
theorem dX12_doSail_104 : decode cX12_doSail 104 = .ok (.iconst 1, 1) := by decide +kernel
theorem dX12_doSail_105 : decode cX12_doSail 105 = .ok (.iastore, 1) := by decide +kernel
theorem dX12_doSail_106 : decode cX12_doSail 106 = .ok (.aload_n 0, 1) := by decide +kernel
theorem dX12_doSail_107 : decode cX12_doSail 107 = .ok (.getfield 63, 3) := by decide +kernel
theorem dX12_doSail_110 : decode cX12_doSail 110 = .ok (.iload 7, 2) := by decide +kernel
theorem dX12_doSail_112 : decode cX12_doSail 112 = .ok (.aaload, 1) := by decide +kernel
theorem dX12_doSail_113 : decode cX12_doSail 113 = .ok (.iload 5, 2) := by decide +kernel
theorem dX12_doSail_115 : decode cX12_doSail 115 = .ok (.iconst 1, 1) := by decide +kernel
theorem dX12_doSail_116 : decode cX12_doSail 116 = .ok (.iastore, 1) := by decide +kernel
theorem dX12_doSail_117 : decode cX12_doSail 117 = .ok (.aload_n 0, 1) := by decide +kernel
theorem dX12_doSail_118 : decode cX12_doSail 118 = .ok (.iload_n 1, 1) := by decide +kernel
theorem dX12_doSail_119 : decode cX12_doSail 119 = .ok (.iconst 3, 1) := by decide +kernel
theorem dX12_doSail_120 : decode cX12_doSail 120 = .ok (.iconst (-1), 1) := by decide +kernel
theorem dX12_doSail_121 : decode cX12_doSail 121 = .ok (.iload 6, 2) := by decide +kernel
theorem dX12_doSail_123 : decode cX12_doSail 123 = .ok (.iconst 0, 1) := by decide +kernel
theorem dX12_doSail_124 : decode cX12_doSail 124 = .ok (.iload_n 3, 1) := by decide +kernel
theorem dX12_doSail_125 : decode cX12_doSail 125 = .ok (.iload 4, 2) := by decide +kernel
theorem dX12_doSail_127 : decode cX12_doSail 127 = .ok (.invokevirtual 422, 3) := by decide +kernel
theorem dX12_doSail_130 : decode cX12_doSail 130 = .ok (.return_, 1) := by decide +kernel
theorem dX12_doSail_131 : decode cX12_doSail 131 = .ok (.iinc 5 1, 3) := by decide +kernel
theorem dX12_doSail_134 : decode cX12_doSail 134 = .ok (.goto (-131), 3) := by decide +kernel
theorem dX12_doSail_137 : decode cX12_doSail 137 = .ok (.return_, 1) := by decide +kernel
theorem dX12_doDraw_0 : decode cX12_doDraw 0 = .ok (.aload_n 0, 1) := by decide +kernel
theorem dX12_doDraw_1 : decode cX12_doDraw 1 = .ok (.getfield 7, 3) := by decide +kernel
theorem dX12_doDraw_4 : decode cX12_doDraw 4 = .ok (.iload_n 1, 1) := by decide +kernel
theorem dX12_doDraw_5 : decode cX12_doDraw 5 = .ok (.iaload, 1) := by decide +kernel
theorem dX12_doDraw_6 : decode cX12_doDraw 6 = .ok (.iload_n 2, 1) := by decide +kernel
theorem dX12_doDraw_7 : decode cX12_doDraw 7 = .ok (.if_icmp .ge 13, 3) := by decide +kernel
theorem dX12_doDraw_10 : decode cX12_doDraw 10 = .ok (.aload_n 0, 1) := by decide +kernel
theorem dX12_doDraw_11 : decode cX12_doDraw 11 = .ok (.getfield 224, 3) := by decide +kernel
theorem dX12_doDraw_14 : decode cX12_doDraw 14 = .ok (.sipush 150, 3) := by decide +kernel
theorem dX12_doDraw_17 : decode cX12_doDraw 17 = .ok (.if_icmp .ne 4, 3) := by decide +kernel
theorem dX12_doDraw_20 : decode cX12_doDraw 20 = .ok (.return_, 1) := by decide +kernel
theorem dX12_doDraw_21 : decode cX12_doDraw 21 = .ok (.iconst 0, 1) := by decide +kernel
theorem dX12_doDraw_22 : decode cX12_doDraw 22 = .ok (.istore 5, 2) := by decide +kernel
theorem dX12_doDraw_24 : decode cX12_doDraw 24 = .ok (.iload 5, 2) := by decide +kernel
theorem dX12_doDraw_26 : decode cX12_doDraw 26 = .ok (.aload_n 0, 1) := by decide +kernel
theorem dX12_doDraw_27 : decode cX12_doDraw 27 = .ok (.getfield 224, 3) := by decide +kernel
theorem dX12_doDraw_30 : decode cX12_doDraw 30 = .ok (.if_icmp .ge 45, 3) := by decide +kernel
theorem dX12_doDraw_33 : decode cX12_doDraw 33 = .ok (.aload_n 0, 1) := by decide +kernel
theorem dX12_doDraw_34 : decode cX12_doDraw 34 = .ok (.getfield 33, 3) := by decide +kernel
theorem dX12_doDraw_37 : decode cX12_doDraw 37 = .ok (.iload 5, 2) := by decide +kernel
theorem dX12_doDraw_39 : decode cX12_doDraw 39 = .ok (.iaload, 1) := by decide +kernel
theorem dX12_doDraw_40 : decode cX12_doDraw 40 = .ok (.iconst 5, 1) := by decide +kernel
theorem dX12_doDraw_41 : decode cX12_doDraw 41 = .ok (.if_icmp .ne 28, 3) := by decide +kernel
theorem dX12_doDraw_44 : decode cX12_doDraw 44 = .ok (.aload_n 0, 1) := by decide +kernel
theorem dX12_doDraw_45 : decode cX12_doDraw 45 = .ok (.getfield 36, 3) := by decide +kernel
theorem dX12_doDraw_48 : decode cX12_doDraw 48 = .ok (.iload 5, 2) := by decide +kernel
theorem dX12_doDraw_50 : decode cX12_doDraw 50 = .ok (.iaload, 1) := by decide +kernel
theorem dX12_doDraw_51 : decode cX12_doDraw 51 = .ok (.iload_n 1, 1) := by decide +kernel
theorem dX12_doDraw_52 : decode cX12_doDraw 52 = .ok (.if_icmp .ne 17, 3) := by decide +kernel
theorem dX12_doDraw_55 : decode cX12_doDraw 55 = .ok (.aload_n 0, 1) := by decide +kernel
theorem dX12_doDraw_56 : decode cX12_doDraw 56 = .ok (.getfield 51, 3) := by decide +kernel
theorem dX12_doDraw_59 : decode cX12_doDraw 59 = .ok (.iload 5, 2) := by decide +kernel
theorem dX12_doDraw_61 : decode cX12_doDraw 61 = .ok (.aaload, 1) := by decide +kernel
theorem dX12_doDraw_62 : decode cX12_doDraw 62 = .ok (.iconst 1, 1) := by decide +kernel
theorem dX12_doDraw_63 : decode cX12_doDraw 63 = .ok (.iaload, 1) := by decide +kernel
theorem dX12_doDraw_64 : decode cX12_doDraw 64 = .ok (.iconst 2, 1) := by decide +kernel
theorem dX12_doDraw_65 : decode cX12_doDraw 65 = .ok (.if_icmp .ge 4, 3) := by decide +kernel
theorem dX12_doDraw_68 : decode cX12_doDraw 68 = .ok (.return_, 1) := by decide +kernel
theorem dX12_doDraw_69 : decode cX12_doDraw 69 = .ok (.iinc 5 1, 3) := by decide +kernel
theorem dX12_doDraw_72 : decode cX12_doDraw 72 = .ok (.goto (-48), 3) := by decide +kernel
theorem dX12_doDraw_75 : decode cX12_doDraw 75 = .ok (.aload_n 0, 1) := by decide +kernel
theorem dX12_doDraw_76 : decode cX12_doDraw 76 = .ok (.iconst 5, 1) := by decide +kernel
theorem dX12_doDraw_77 : decode cX12_doDraw 77 = .ok (.iload_n 1, 1) := by decide +kernel
theorem dX12_doDraw_78 : decode cX12_doDraw 78 = .ok (.iconst 0, 1) := by decide +kernel
theorem dX12_doDraw_79 : decode cX12_doDraw 79 = .ok (.invokevirtual 320, 3) := by decide +kernel
theorem dX12_doDraw_82 : decode cX12_doDraw 82 = .ok (.istore 5, 2) := by decide +kernel
theorem dX12_doDraw_84 : decode cX12_doDraw 84 = .ok (.aload_n 0, 1) := by decide +kernel
theorem dX12_doDraw_85 : decode cX12_doDraw 85 = .ok (.getfield 51, 3) := by decide +kernel
theorem dX12_doDraw_88 : decode cX12_doDraw 88 = .ok (.iload 5, 2) := by decide +kernel
theorem dX12_doDraw_90 : decode cX12_doDraw 90 = .ok (.aaload, 1) := by decide +kernel
theorem dX12_doDraw_91 : decode cX12_doDraw 91 = .ok (.iconst 0, 1) := by decide +kernel
theorem dX12_doDraw_92 : decode cX12_doDraw 92 = .ok (.iload_n 2, 1) := by decide +kernel
theorem dX12_doDraw_93 : decode cX12_doDraw 93 = .ok (.iastore, 1) := by decide +kernel
theorem dX12_doDraw_94 : decode cX12_doDraw 94 = .ok (.aload_n 0, 1) := by decide +kernel
theorem dX12_doDraw_95 : decode cX12_doDraw 95 = .ok (.getfield 7, 3) := by decide +kernel
theorem dX12_doDraw_98 : decode cX12_doDraw 98 = .ok (.iload_n 1, 1) := by decide +kernel
theorem dX12_doDraw_99 : decode cX12_doDraw 99 = .ok (.dup2, 1) := by decide +kernel
theorem dX12_doDraw_100 : decode cX12_doDraw 100 = .ok (.iaload, 1) := by decide +kernel
theorem dX12_doDraw_101 : decode cX12_doDraw 101 = .ok (.iload_n 2, 1) := by decide +kernel
theorem dX12_doDraw_102 : decode cX12_doDraw 102 = .ok (.iadd, 1) := by decide +kernel
theorem dX12_doDraw_103 : decode cX12_doDraw 103 = .ok (.iastore, 1) := by decide +kernel
theorem dX12_doDraw_104 : decode cX12_doDraw 104 = .ok (.aload_n 0, 1) := by decide +kernel
theorem dX12_doDraw_105 : decode cX12_doDraw 105 = .ok (.iload_n 1, 1) := by decide +kernel
theorem dX12_doDraw_106 : decode cX12_doDraw 106 = .ok (.iconst 4, 1) := by decide +kernel
theorem dX12_doDraw_107 : decode cX12_doDraw 107 = .ok (.iconst (-1), 1) := by decide +kernel
theorem dX12_doDraw_108 : decode cX12_doDraw 108 = .ok (.iload 5, 2) := by decide +kernel
theorem dX12_doDraw_110 : decode cX12_doDraw 110 = .ok (.iload_n 2, 1) := by decide +kernel
theorem dX12_doDraw_111 : decode cX12_doDraw 111 = .ok (.iload_n 3, 1) := by decide +kernel
theorem dX12_doDraw_112 : decode cX12_doDraw 112 = .ok (.iload 4, 2) := by decide +kernel
theorem dX12_doDraw_114 : decode cX12_doDraw 114 = .ok (.invokevirtual 422, 3) := by decide +kernel
theorem dX12_doDraw_117 : decode cX12_doDraw 117 = .ok (.return_, 1) := by decide +kernel
theorem dX12_factoryDay_0 : decode cX12_factoryDay 0 = .ok (.aload_n 0, 1) := by decide +kernel
theorem dX12_factoryDay_1 : decode cX12_factoryDay 1 = .ok (.iload_n 1, 1) := by decide +kernel
theorem dX12_factoryDay_2 : decode cX12_factoryDay 2 = .ok (.invokevirtual 445, 3) := by decide +kernel
theorem dX12_factoryDay_5 : decode cX12_factoryDay 5 = .ok (.iconst 0, 1) := by decide +kernel
theorem dX12_factoryDay_6 : decode cX12_factoryDay 6 = .ok (.istore_n 2, 1) := by decide +kernel
theorem dX12_factoryDay_7 : decode cX12_factoryDay 7 = .ok (.iload_n 2, 1) := by decide +kernel
theorem dX12_factoryDay_8 : decode cX12_factoryDay 8 = .ok (.iconst 4, 1) := by decide +kernel
theorem dX12_factoryDay_9 : decode cX12_factoryDay 9 = .ok (.if_icmp .ge 31, 3) := by decide +kernel
theorem dX12_factoryDay_12 : decode cX12_factoryDay 12 = .ok (.aload_n 0, 1) := by decide +kernel
theorem dX12_factoryDay_13 : decode cX12_factoryDay 13 = .ok (.getfield 24, 3) := by decide +kernel
theorem dX12_factoryDay_16 : decode cX12_factoryDay 16 = .ok (.iload_n 1, 1) := by decide +kernel
theorem dX12_factoryDay_17 : decode cX12_factoryDay 17 = .ok (.aaload, 1) := by decide +kernel
theorem dX12_factoryDay_18 : decode cX12_factoryDay 18 = .ok (.iload_n 2, 1) := by decide +kernel
theorem dX12_factoryDay_19 : decode cX12_factoryDay 19 = .ok (.iconst 0, 1) := by decide +kernel
theorem dX12_factoryDay_20 : decode cX12_factoryDay 20 = .ok (.aload_n 0, 1) := by decide +kernel
theorem dX12_factoryDay_21 : decode cX12_factoryDay 21 = .ok (.getfield 24, 3) := by decide +kernel
theorem dX12_factoryDay_24 : decode cX12_factoryDay 24 = .ok (.iload_n 1, 1) := by decide +kernel
theorem dX12_factoryDay_25 : decode cX12_factoryDay 25 = .ok (.aaload, 1) := by decide +kernel
theorem dX12_factoryDay_26 : decode cX12_factoryDay 26 = .ok (.iload_n 2, 1) := by decide +kernel
theorem dX12_factoryDay_27 : decode cX12_factoryDay 27 = .ok (.iaload, 1) := by decide +kernel
theorem dX12_factoryDay_28 : decode cX12_factoryDay 28 = .ok (.iconst 5, 1) := by decide +kernel
theorem dX12_factoryDay_29 : decode cX12_factoryDay 29 = .ok (.isub, 1) := by decide +kernel
theorem dX12_factoryDay_30 : decode cX12_factoryDay 30 = .ok (.invokestatic 442, 3) := by decide +kernel
theorem dX12_factoryDay_33 : decode cX12_factoryDay 33 = .ok (.iastore, 1) := by decide +kernel
theorem dX12_factoryDay_34 : decode cX12_factoryDay 34 = .ok (.iinc 2 1, 3) := by decide +kernel
theorem dX12_factoryDay_37 : decode cX12_factoryDay 37 = .ok (.goto (-30), 3) := by decide +kernel
theorem dX12_factoryDay_40 : decode cX12_factoryDay 40 = .ok (.aload_n 0, 1) := by decide +kernel
theorem dX12_factoryDay_41 : decode cX12_factoryDay 41 = .ok (.iload_n 1, 1) := by decide +kernel
theorem dX12_factoryDay_42 : decode cX12_factoryDay 42 = .ok (.invokevirtual 352, 3) := by decide +kernel
theorem dX12_factoryDay_45 : decode cX12_factoryDay 45 = .ok (.istore_n 2, 1) := by decide +kernel
theorem dX12_factoryDay_46 : decode cX12_factoryDay 46 = .ok (.aload_n 0, 1) := by decide +kernel
theorem dX12_factoryDay_47 : decode cX12_factoryDay 47 = .ok (.iconst 0, 1) := by decide +kernel
theorem dX12_factoryDay_48 : decode cX12_factoryDay 48 = .ok (.putfield 415, 3) := by decide +kernel
theorem dX12_factoryDay_51 : decode cX12_factoryDay 51 = .ok (.iconst 0, 1) := by decide +kernel
theorem dX12_factoryDay_52 : decode cX12_factoryDay 52 = .ok (.istore_n 3, 1) := by decide +kernel
theorem dX12_factoryDay_53 : decode cX12_factoryDay 53 = .ok (.iload_n 3, 1) := by decide +kernel
theorem dX12_factoryDay_54 : decode cX12_factoryDay 54 = .ok (.iload_n 2, 1) := by decide +kernel
theorem dX12_factoryDay_55 : decode cX12_factoryDay 55 = .ok (.if_icmp .ge 205, 3) := by decide +kernel
theorem dX12_factoryDay_58 : decode cX12_factoryDay 58 = .ok (.aload_n 0, 1) := by decide +kernel
theorem dX12_factoryDay_59 : decode cX12_factoryDay 59 = .ok (.getfield 187, 3) := by decide +kernel
theorem dX12_factoryDay_62 : decode cX12_factoryDay 62 = .ok (.iload_n 3, 1) := by decide +kernel
theorem dX12_factoryDay_63 : decode cX12_factoryDay 63 = .ok (.iaload, 1) := by decide +kernel
theorem dX12_factoryDay_64 : decode cX12_factoryDay 64 = .ok (.bipush 10, 2) := by decide +kernel
theorem dX12_factoryDay_66 : decode cX12_factoryDay 66 = .ok (.idiv, 1) := by decide +kernel
theorem dX12_factoryDay_67 : decode cX12_factoryDay 67 = .ok (.istore 4, 2) := by decide +kernel
theorem dX12_factoryDay_69 : decode cX12_factoryDay 69 = .ok (.aload_n 0, 1) := by decide +kernel
theorem dX12_factoryDay_70 : decode cX12_factoryDay 70 = .ok (.getfield 187, 3) := by decide +kernel
theorem dX12_factoryDay_73 : decode cX12_factoryDay 73 = .ok (.iload_n 3, 1) := by decide +kernel
theorem dX12_factoryDay_74 : decode cX12_factoryDay 74 = .ok (.iaload, 1) := by decide +kernel
theorem dX12_factoryDay_75 : decode cX12_factoryDay 75 = .ok (.bipush 10, 2) := by decide +kernel
theorem dX12_factoryDay_77 : decode cX12_factoryDay 77 = .ok (.irem, 1) := by decide +kernel
theorem dX12_factoryDay_78 : decode cX12_factoryDay 78 = .ok (.istore 5, 2) := by decide +kernel
theorem dX12_factoryDay_80 : decode cX12_factoryDay 80 = .ok (.aload_n 0, 1) := by decide +kernel
theorem dX12_factoryDay_81 : decode cX12_factoryDay 81 = .ok (.iload_n 1, 1) := by decide +kernel
theorem dX12_factoryDay_82 : decode cX12_factoryDay 82 = .ok (.iload 4, 2) := by decide +kernel
theorem dX12_factoryDay_84 : decode cX12_factoryDay 84 = .ok (.iload 5, 2) := by decide +kernel
theorem dX12_factoryDay_86 : decode cX12_factoryDay 86 = .ok (.invokevirtual 365, 3) := by decide +kernel
theorem dX12_factoryDay_89 : decode cX12_factoryDay 89 = .ok (.ifCond .ne 6, 3) := by decide +kernel
theorem dX12_factoryDay_92 : decode cX12_factoryDay 92 = .ok (.goto 162, 3) := by decide +kernel
theorem dX12_factoryDay_95 : decode cX12_factoryDay 95 = .ok (.aload_n 0, 1) := by decide +kernel
theorem dX12_factoryDay_96 : decode cX12_factoryDay 96 = .ok (.getfield 57, 3) := by decide +kernel
theorem dX12_factoryDay_99 : decode cX12_factoryDay 99 = .ok (.iload 4, 2) := by decide +kernel
theorem dX12_factoryDay_101 : decode cX12_factoryDay 101 = .ok (.aaload, 1) := by decide +kernel
theorem dX12_factoryDay_102 : decode cX12_factoryDay 102 = .ok (.iconst 4, 1) := by decide +kernel
theorem dX12_factoryDay_103 : decode cX12_factoryDay 103 = .ok (.iload 5, 2) := by decide +kernel
theorem dX12_factoryDay_105 : decode cX12_factoryDay 105 = .ok (.imul, 1) := by decide +kernel
theorem dX12_factoryDay_106 : decode cX12_factoryDay 106 = .ok (.iconst 1, 1) := by decide +kernel
theorem dX12_factoryDay_107 : decode cX12_factoryDay 107 = .ok (.iadd, 1) := by decide +kernel
theorem dX12_factoryDay_108 : decode cX12_factoryDay 108 = .ok (.iaload, 1) := by decide +kernel
theorem dX12_factoryDay_109 : decode cX12_factoryDay 109 = .ok (.istore 6, 2) := by decide +kernel
theorem dX12_factoryDay_111 : decode cX12_factoryDay 111 = .ok (.aload_n 0, 1) := by decide +kernel
theorem dX12_factoryDay_112 : decode cX12_factoryDay 112 = .ok (.getfield 57, 3) := by decide +kernel
theorem dX12_factoryDay_115 : decode cX12_factoryDay 115 = .ok (.iload 4, 2) := by decide +kernel
theorem dX12_factoryDay_117 : decode cX12_factoryDay 117 = .ok (.aaload, 1) := by decide +kernel
theorem dX12_factoryDay_118 : decode cX12_factoryDay 118 = .ok (.iconst 4, 1) := by decide +kernel
theorem dX12_factoryDay_119 : decode cX12_factoryDay 119 = .ok (.iload 5, 2) := by decide +kernel
theorem dX12_factoryDay_121 : decode cX12_factoryDay 121 = .ok (.imul, 1) := by decide +kernel
theorem dX12_factoryDay_122 : decode cX12_factoryDay 122 = .ok (.iconst 2, 1) := by decide +kernel
theorem dX12_factoryDay_123 : decode cX12_factoryDay 123 = .ok (.iadd, 1) := by decide +kernel
theorem dX12_factoryDay_124 : decode cX12_factoryDay 124 = .ok (.iaload, 1) := by decide +kernel
theorem dX12_factoryDay_125 : decode cX12_factoryDay 125 = .ok (.istore 7, 2) := by decide +kernel
theorem dX12_factoryDay_127 : decode cX12_factoryDay 127 = .ok (.aload_n 0, 1) := by decide +kernel
theorem dX12_factoryDay_128 : decode cX12_factoryDay 128 = .ok (.getfield 57, 3) := by decide +kernel
theorem dX12_factoryDay_131 : decode cX12_factoryDay 131 = .ok (.iload 4, 2) := by decide +kernel
theorem dX12_factoryDay_133 : decode cX12_factoryDay 133 = .ok (.aaload, 1) := by decide +kernel
theorem dX12_factoryDay_134 : decode cX12_factoryDay 134 = .ok (.iconst 4, 1) := by decide +kernel
theorem dX12_factoryDay_135 : decode cX12_factoryDay 135 = .ok (.iload 5, 2) := by decide +kernel
theorem dX12_factoryDay_137 : decode cX12_factoryDay 137 = .ok (.imul, 1) := by decide +kernel
theorem dX12_factoryDay_138 : decode cX12_factoryDay 138 = .ok (.iaload, 1) := by decide +kernel
theorem dX12_factoryDay_139 : decode cX12_factoryDay 139 = .ok (.tableswitch 109 0 4 #[33, 49, 65, 81, 95], 33) := by decide +kernel
theorem dX12_factoryDay_172 : decode cX12_factoryDay 172 = .ok (.aload_n 0, 1) := by decide +kernel
theorem dX12_factoryDay_173 : decode cX12_factoryDay 173 = .ok (.iload_n 1, 1) := by decide +kernel
theorem dX12_factoryDay_174 : decode cX12_factoryDay 174 = .ok (.iload 6, 2) := by decide +kernel
theorem dX12_factoryDay_176 : decode cX12_factoryDay 176 = .ok (.iload 7, 2) := by decide +kernel
theorem dX12_factoryDay_178 : decode cX12_factoryDay 178 = .ok (.iload 4, 2) := by decide +kernel
theorem dX12_factoryDay_180 : decode cX12_factoryDay 180 = .ok (.iload 5, 2) := by decide +kernel
theorem dX12_factoryDay_182 : decode cX12_factoryDay 182 = .ok (.invokevirtual 448, 3) := by decide +kernel
theorem dX12_factoryDay_185 : decode cX12_factoryDay 185 = .ok (.goto 69, 3) := by decide +kernel
theorem dX12_factoryDay_188 : decode cX12_factoryDay 188 = .ok (.aload_n 0, 1) := by decide +kernel
theorem dX12_factoryDay_189 : decode cX12_factoryDay 189 = .ok (.iload_n 1, 1) := by decide +kernel
theorem dX12_factoryDay_190 : decode cX12_factoryDay 190 = .ok (.iload 6, 2) := by decide +kernel
theorem dX12_factoryDay_192 : decode cX12_factoryDay 192 = .ok (.iload 7, 2) := by decide +kernel
theorem dX12_factoryDay_194 : decode cX12_factoryDay 194 = .ok (.iload 4, 2) := by decide +kernel
theorem dX12_factoryDay_196 : decode cX12_factoryDay 196 = .ok (.iload 5, 2) := by decide +kernel
theorem dX12_factoryDay_198 : decode cX12_factoryDay 198 = .ok (.invokevirtual 452, 3) := by decide +kernel
theorem dX12_factoryDay_201 : decode cX12_factoryDay 201 = .ok (.goto 53, 3) := by decide +kernel
theorem dX12_factoryDay_204 : decode cX12_factoryDay 204 = .ok (.aload_n 0, 1) := by decide +kernel
theorem dX12_factoryDay_205 : decode cX12_factoryDay 205 = .ok (.iload_n 1, 1) := by decide +kernel
theorem dX12_factoryDay_206 : decode cX12_factoryDay 206 = .ok (.iload 6, 2) := by decide +kernel
theorem dX12_factoryDay_208 : decode cX12_factoryDay 208 = .ok (.iload 7, 2) := by decide +kernel
theorem dX12_factoryDay_210 : decode cX12_factoryDay 210 = .ok (.iload 4, 2) := by decide +kernel
theorem dX12_factoryDay_212 : decode cX12_factoryDay 212 = .ok (.iload 5, 2) := by decide +kernel
theorem dX12_factoryDay_214 : decode cX12_factoryDay 214 = .ok (.invokevirtual 455, 3) := by decide +kernel
theorem dX12_factoryDay_217 : decode cX12_factoryDay 217 = .ok (.goto 37, 3) := by decide +kernel
theorem dX12_factoryDay_220 : decode cX12_factoryDay 220 = .ok (.aload_n 0, 1) := by decide +kernel
theorem dX12_factoryDay_221 : decode cX12_factoryDay 221 = .ok (.iload_n 1, 1) := by decide +kernel
theorem dX12_factoryDay_222 : decode cX12_factoryDay 222 = .ok (.iload 7, 2) := by decide +kernel
theorem dX12_factoryDay_224 : decode cX12_factoryDay 224 = .ok (.iload 4, 2) := by decide +kernel
theorem dX12_factoryDay_226 : decode cX12_factoryDay 226 = .ok (.iload 5, 2) := by decide +kernel
theorem dX12_factoryDay_228 : decode cX12_factoryDay 228 = .ok (.invokevirtual 458, 3) := by decide +kernel
theorem dX12_factoryDay_231 : decode cX12_factoryDay 231 = .ok (.goto 23, 3) := by decide +kernel
theorem dX12_factoryDay_234 : decode cX12_factoryDay 234 = .ok (.aload_n 0, 1) := by decide +kernel
theorem dX12_factoryDay_235 : decode cX12_factoryDay 235 = .ok (.iload_n 1, 1) := by decide +kernel
theorem dX12_factoryDay_236 : decode cX12_factoryDay 236 = .ok (.iload 7, 2) := by decide +kernel
theorem dX12_factoryDay_238 : decode cX12_factoryDay 238 = .ok (.iload 4, 2) := by decide +kernel
theorem dX12_factoryDay_240 : decode cX12_factoryDay 240 = .ok (.iload 5, 2) := by decide +kernel
theorem dX12_factoryDay_242 : decode cX12_factoryDay 242 = .ok (.invokevirtual 462, 3) := by decide +kernel
theorem dX12_factoryDay_245 : decode cX12_factoryDay 245 = .ok (.goto 9, 3) := by decide +kernel
theorem dX12_factoryDay_248 : decode cX12_factoryDay 248 = .ok (.aload_n 0, 1) := by decide +kernel
theorem dX12_factoryDay_249 : decode cX12_factoryDay 249 = .ok (.iload 7, 2) := by decide +kernel
theorem dX12_factoryDay_251 : decode cX12_factoryDay 251 = .ok (.putfield 415, 3) := by decide +kernel
theorem dX12_factoryDay_254 : decode cX12_factoryDay 254 = .ok (.iinc 3 1, 3) := by decide +kernel
theorem dX12_factoryDay_257 : decode cX12_factoryDay 257 = .ok (.goto (-204), 3) := by decide +kernel
theorem dX12_factoryDay_260 : decode cX12_factoryDay 260 = .ok (.return_, 1) := by decide +kernel
theorem dX12_dayComes_0 : decode cX12_dayComes 0 = .ok (.aload_n 0, 1) := by decide +kernel
theorem dX12_dayComes_1 : decode cX12_dayComes 1 = .ok (.dup, 1) := by decide +kernel
theorem dX12_dayComes_2 : decode cX12_dayComes 2 = .ok (.getfield 227, 3) := by decide +kernel
theorem dX12_dayComes_5 : decode cX12_dayComes 5 = .ok (.iconst 1, 1) := by decide +kernel
theorem dX12_dayComes_6 : decode cX12_dayComes 6 = .ok (.iadd, 1) := by decide +kernel
theorem dX12_dayComes_7 : decode cX12_dayComes 7 = .ok (.putfield 227, 3) := by decide +kernel
theorem dX12_dayComes_10 : decode cX12_dayComes 10 = .ok (.iconst 0, 1) := by decide +kernel
theorem dX12_dayComes_11 : decode cX12_dayComes 11 = .ok (.istore_n 1, 1) := by decide +kernel
theorem dX12_dayComes_12 : decode cX12_dayComes 12 = .ok (.iload_n 1, 1) := by decide +kernel
theorem dX12_dayComes_13 : decode cX12_dayComes 13 = .ok (.aload_n 0, 1) := by decide +kernel
theorem dX12_dayComes_14 : decode cX12_dayComes 14 = .ok (.getfield 324, 3) := by decide +kernel
theorem dX12_dayComes_17 : decode cX12_dayComes 17 = .ok (.if_icmp .ge 64, 3) := by decide +kernel
theorem dX12_dayComes_20 : decode cX12_dayComes 20 = .ok (.aload_n 0, 1) := by decide +kernel
theorem dX12_dayComes_21 : decode cX12_dayComes 21 = .ok (.getfield 72, 3) := by decide +kernel
theorem dX12_dayComes_24 : decode cX12_dayComes 24 = .ok (.iload_n 1, 1) := by decide +kernel
theorem dX12_dayComes_25 : decode cX12_dayComes 25 = .ok (.iaload, 1) := by decide +kernel
theorem dX12_dayComes_26 : decode cX12_dayComes 26 = .ok (.iconst (-1), 1) := by decide +kernel
theorem dX12_dayComes_27 : decode cX12_dayComes 27 = .ok (.if_icmp .ne 48, 3) := by decide +kernel
theorem dX12_dayComes_30 : decode cX12_dayComes 30 = .ok (.aload_n 0, 1) := by decide +kernel
theorem dX12_dayComes_31 : decode cX12_dayComes 31 = .ok (.getfield 106, 3) := by decide +kernel
theorem dX12_dayComes_34 : decode cX12_dayComes 34 = .ok (.aload_n 0, 1) := by decide +kernel
theorem dX12_dayComes_35 : decode cX12_dayComes 35 = .ok (.getfield 91, 3) := by decide +kernel
theorem dX12_dayComes_38 : decode cX12_dayComes 38 = .ok (.iload_n 1, 1) := by decide +kernel
theorem dX12_dayComes_39 : decode cX12_dayComes 39 = .ok (.iaload, 1) := by decide +kernel
theorem dX12_dayComes_40 : decode cX12_dayComes 40 = .ok (.iaload, 1) := by decide +kernel
theorem dX12_dayComes_41 : decode cX12_dayComes 41 = .ok (.aload_n 0, 1) := by decide +kernel
theorem dX12_dayComes_42 : decode cX12_dayComes 42 = .ok (.getfield 227, 3) := by decide +kernel
theorem dX12_dayComes_45 : decode cX12_dayComes 45 = .ok (.if_icmp .ne 30, 3) := by decide +kernel
theorem dX12_dayComes_48 : decode cX12_dayComes 48 = .ok (.aload_n 0, 1) := by decide +kernel
theorem dX12_dayComes_49 : decode cX12_dayComes 49 = .ok (.getfield 109, 3) := by decide +kernel
theorem dX12_dayComes_52 : decode cX12_dayComes 52 = .ok (.aload_n 0, 1) := by decide +kernel
theorem dX12_dayComes_53 : decode cX12_dayComes 53 = .ok (.getfield 91, 3) := by decide +kernel
theorem dX12_dayComes_56 : decode cX12_dayComes 56 = .ok (.iload_n 1, 1) := by decide +kernel
theorem dX12_dayComes_57 : decode cX12_dayComes 57 = .ok (.iaload, 1) := by decide +kernel
theorem dX12_dayComes_58 : decode cX12_dayComes 58 = .ok (.baload, 1) := by decide +kernel
theorem dX12_dayComes_59 : decode cX12_dayComes 59 = .ok (.ifCond .eq 11, 3) := by decide +kernel
theorem dX12_dayComes_62 : decode cX12_dayComes 62 = .ok (.aload_n 0, 1) := by decide +kernel
theorem dX12_dayComes_63 : decode cX12_dayComes 63 = .ok (.iload_n 1, 1) := by decide +kernel
theorem dX12_dayComes_64 : decode cX12_dayComes 64 = .ok (.invokevirtual 465, 3) := by decide +kernel
theorem dX12_dayComes_67 : decode cX12_dayComes 67 = .ok (.goto 8, 3) := by decide +kernel
theorem dX12_dayComes_70 : decode cX12_dayComes 70 = .ok (.aload_n 0, 1) := by decide +kernel
theorem dX12_dayComes_71 : decode cX12_dayComes 71 = .ok (.iload_n 1, 1) := by decide +kernel
theorem dX12_dayComes_72 : decode cX12_dayComes 72 = .ok (.invokevirtual 468, 3) := by decide +kernel
theorem dX12_dayComes_75 : decode cX12_dayComes 75 = .ok (.iinc 1 1, 3) := by decide +kernel
theorem dX12_dayComes_78 : decode cX12_dayComes 78 = .ok (.goto (-66), 3) := by decide +kernel
theorem dX12_dayComes_81 : decode cX12_dayComes 81 = .ok (.aload_n 0, 1) := by decide +kernel
theorem dX12_dayComes_82 : decode cX12_dayComes 82 = .ok (.invokevirtual 471, 3) := by decide +kernel
theorem dX12_dayComes_85 : decode cX12_dayComes 85 = .ok (.iconst 1, 1) := by decide +kernel
theorem dX12_dayComes_86 : decode cX12_dayComes 86 = .ok (.istore_n 1, 1) := by decide +kernel
theorem dX12_dayComes_87 : decode cX12_dayComes 87 = .ok (.iload_n 1, 1) := by decide +kernel
theorem dX12_dayComes_88 : decode cX12_dayComes 88 = .ok (.iconst 4, 1) := by decide +kernel
theorem dX12_dayComes_89 : decode cX12_dayComes 89 = .ok (.if_icmp .gt 14, 3) := by decide +kernel
theorem dX12_dayComes_92 : decode cX12_dayComes 92 = .ok (.aload_n 0, 1) := by decide +kernel
theorem dX12_dayComes_93 : decode cX12_dayComes 93 = .ok (.iload_n 1, 1) := by decide +kernel
theorem dX12_dayComes_94 : decode cX12_dayComes 94 = .ok (.invokevirtual 474, 3) := by decide +kernel
theorem dX12_dayComes_97 : decode cX12_dayComes 97 = .ok (.iinc 1 1, 3) := by decide +kernel
theorem dX12_dayComes_100 : decode cX12_dayComes 100 = .ok (.goto (-13), 3) := by decide +kernel
theorem dX12_dayComes_103 : decode cX12_dayComes 103 = .ok (.return_, 1) := by decide +kernel
theorem dX12_days_0 : decode cX12_days 0 = .ok (.iload_n 1, 1) := by decide +kernel
theorem dX12_days_1 : decode cX12_days 1 = .ok (.iconst 1, 1) := by decide +kernel
theorem dX12_days_2 : decode cX12_days 2 = .ok (.sipush 200, 3) := by decide +kernel
theorem dX12_days_5 : decode cX12_days 5 = .ok (.invokestatic 196, 3) := by decide +kernel
theorem dX12_days_8 : decode cX12_days 8 = .ok (.ifCond .eq 15, 3) := by decide +kernel
theorem dX12_days_11 : decode cX12_days 11 = .ok (.aload_n 0, 1) := by decide +kernel
theorem dX12_days_12 : decode cX12_days 12 = .ok (.getfield 227, 3) := by decide +kernel
theorem dX12_days_15 : decode cX12_days 15 = .ok (.iload_n 1, 1) := by decide +kernel
theorem dX12_days_16 : decode cX12_days 16 = .ok (.iadd, 1) := by decide +kernel
theorem dX12_days_17 : decode cX12_days 17 = .ok (.sipush 2999, 3) := by decide +kernel
theorem dX12_days_20 : decode cX12_days 20 = .ok (.if_icmp .le 6, 3) := by decide +kernel
theorem dX12_days_23 : decode cX12_days 23 = .ok (.bipush (-2), 2) := by decide +kernel
theorem dX12_days_25 : decode cX12_days 25 = .ok (.ireturn, 1) := by decide +kernel
theorem dX12_days_26 : decode cX12_days 26 = .ok (.iconst 0, 1) := by decide +kernel
theorem dX12_days_27 : decode cX12_days 27 = .ok (.istore_n 2, 1) := by decide +kernel
theorem dX12_days_28 : decode cX12_days 28 = .ok (.iload_n 2, 1) := by decide +kernel
theorem dX12_days_29 : decode cX12_days 29 = .ok (.iload_n 1, 1) := by decide +kernel
theorem dX12_days_30 : decode cX12_days 30 = .ok (.if_icmp .ge 13, 3) := by decide +kernel
theorem dX12_days_33 : decode cX12_days 33 = .ok (.aload_n 0, 1) := by decide +kernel
theorem dX12_days_34 : decode cX12_days 34 = .ok (.invokevirtual 477, 3) := by decide +kernel
theorem dX12_days_37 : decode cX12_days 37 = .ok (.iinc 2 1, 3) := by decide +kernel
theorem dX12_days_40 : decode cX12_days 40 = .ok (.goto (-12), 3) := by decide +kernel
theorem dX12_days_43 : decode cX12_days 43 = .ok (.aload_n 0, 1) := by decide +kernel
theorem dX12_days_44 : decode cX12_days 44 = .ok (.getfield 227, 3) := by decide +kernel
theorem dX12_days_47 : decode cX12_days 47 = .ok (.ireturn, 1) := by decide +kernel
theorem dX12_entry_0 : decode cX12_entry 0 = .ok (.iload_n 1, 1) := by decide +kernel
theorem dX12_entry_1 : decode cX12_entry 1 = .ok (.iconst 0, 1) := by decide +kernel
theorem dX12_entry_2 : decode cX12_entry 2 = .ok (.aload_n 0, 1) := by decide +kernel
theorem dX12_entry_3 : decode cX12_entry 3 = .ok (.getfield 409, 3) := by decide +kernel
theorem dX12_entry_6 : decode cX12_entry 6 = .ok (.sipush 500, 3) := by decide +kernel
theorem dX12_entry_9 : decode cX12_entry 9 = .ok (.invokestatic 437, 3) := by decide +kernel
theorem dX12_entry_12 : decode cX12_entry 12 = .ok (.iconst 1, 1) := by decide +kernel
theorem dX12_entry_13 : decode cX12_entry 13 = .ok (.isub, 1) := by decide +kernel
theorem dX12_entry_14 : decode cX12_entry 14 = .ok (.invokestatic 196, 3) := by decide +kernel
theorem dX12_entry_17 : decode cX12_entry 17 = .ok (.ifCond .eq 24, 3) := by decide +kernel
theorem dX12_entry_20 : decode cX12_entry 20 = .ok (.iload_n 2, 1) := by decide +kernel
theorem dX12_entry_21 : decode cX12_entry 21 = .ok (.iconst 0, 1) := by decide +kernel
theorem dX12_entry_22 : decode cX12_entry 22 = .ok (.bipush 7, 2) := by decide +kernel
theorem dX12_entry_24 : decode cX12_entry 24 = .ok (.invokestatic 196, 3) := by decide +kernel
theorem dX12_entry_27 : decode cX12_entry 27 = .ok (.ifCond .eq 14, 3) := by decide +kernel
theorem dX12_entry_30 : decode cX12_entry 30 = .ok (.aload_n 0, 1) := by decide +kernel
theorem dX12_entry_31 : decode cX12_entry 31 = .ok (.getfield 127, 3) := by decide +kernel
theorem dX12_entry_34 : decode cX12_entry 34 = .ok (.iload_n 1, 1) := by decide +kernel
theorem dX12_entry_35 : decode cX12_entry 35 = .ok (.aaload, 1) := by decide +kernel
theorem dX12_entry_36 : decode cX12_entry 36 = .ok (.iload_n 2, 1) := by decide +kernel
theorem dX12_entry_37 : decode cX12_entry 37 = .ok (.iaload, 1) := by decide +kernel
theorem dX12_entry_38 : decode cX12_entry 38 = .ok (.goto 5, 3) := by decide +kernel
theorem dX12_entry_41 : decode cX12_entry 41 = .ok (.bipush (-5), 2) := by decide +kernel
theorem dX12_entry_43 : decode cX12_entry 43 = .ok (.ireturn, 1) := by decide +kernel
theorem dX12_isBill_0 : decode cX12_isBill 0 = .ok (.aload_n 0, 1) := by decide +kernel
theorem dX12_isBill_1 : decode cX12_isBill 1 = .ok (.iload_n 1, 1) := by decide +kernel
theorem dX12_isBill_2 : decode cX12_isBill 2 = .ok (.invokevirtual 327, 3) := by decide +kernel
theorem dX12_isBill_5 : decode cX12_isBill 5 = .ok (.ifCond .eq 17, 3) := by decide +kernel
theorem dX12_isBill_8 : decode cX12_isBill 8 = .ok (.aload_n 0, 1) := by decide +kernel
theorem dX12_isBill_9 : decode cX12_isBill 9 = .ok (.getfield 33, 3) := by decide +kernel
theorem dX12_isBill_12 : decode cX12_isBill 12 = .ok (.iload_n 1, 1) := by decide +kernel
theorem dX12_isBill_13 : decode cX12_isBill 13 = .ok (.iaload, 1) := by decide +kernel
theorem dX12_isBill_14 : decode cX12_isBill 14 = .ok (.iconst 5, 1) := by decide +kernel
theorem dX12_isBill_15 : decode cX12_isBill 15 = .ok (.if_icmp .ne 7, 3) := by decide +kernel
theorem dX12_isBill_18 : decode cX12_isBill 18 = .ok (.iconst 1, 1) := by decide +kernel
theorem dX12_isBill_19 : decode cX12_isBill 19 = .ok (.goto 4, 3) := by decide +kernel
theorem dX12_isBill_22 : decode cX12_isBill 22 = .ok (.iconst 0, 1) := by decide +kernel
theorem dX12_isBill_23 : decode cX12_isBill 23 = .ok (.ireturn, 1) := by decide +kernel
theorem dX12_accept_0 : decode cX12_accept 0 = .ok (.aload_n 0, 1) := by decide +kernel
theorem dX12_accept_1 : decode cX12_accept 1 = .ok (.iload_n 1, 1) := by decide +kernel
theorem dX12_accept_2 : decode cX12_accept 2 = .ok (.invokevirtual 480, 3) := by decide +kernel
theorem dX12_accept_5 : decode cX12_accept 5 = .ok (.ifCond .ne 5, 3) := by decide +kernel
theorem dX12_accept_8 : decode cX12_accept 8 = .ok (.iconst (-1), 1) := by decide +kernel
theorem dX12_accept_9 : decode cX12_accept 9 = .ok (.ireturn, 1) := by decide +kernel
theorem dX12_accept_10 : decode cX12_accept 10 = .ok (.aload_n 0, 1) := by decide +kernel
theorem dX12_accept_11 : decode cX12_accept 11 = .ok (.getfield 48, 3) := by decide +kernel
theorem dX12_accept_14 : decode cX12_accept 14 = .ok (.iload_n 1, 1) := by decide +kernel
theorem dX12_accept_15 : decode cX12_accept 15 = .ok (.aaload, 1) := by decide +kernel
theorem dX12_accept_16 : decode cX12_accept 16 = .ok (.iconst 0, 1) := by decide +kernel
theorem dX12_accept_17 : decode cX12_accept 17 = .ok (.iaload, 1) := by decide +kernel
theorem dX12_accept_18 : decode cX12_accept 18 = .ok (.ifCond .lt 14, 3) := by decide +kernel
theorem dX12_accept_21 : decode cX12_accept 21 = .ok (.aload_n 0, 1) := by decide +kernel
theorem dX12_accept_22 : decode cX12_accept 22 = .ok (.getfield 51, 3) := by decide +kernel
theorem dX12_accept_25 : decode cX12_accept 25 = .ok (.iload_n 1, 1) := by decide +kernel
theorem dX12_accept_26 : decode cX12_accept 26 = .ok (.aaload, 1) := by decide +kernel
theorem dX12_accept_27 : decode cX12_accept 27 = .ok (.iconst 1, 1) := by decide +kernel
theorem dX12_accept_28 : decode cX12_accept 28 = .ok (.iaload, 1) := by decide +kernel
theorem dX12_accept_29 : decode cX12_accept 29 = .ok (.ifCond .eq 6, 3) := by decide +kernel
theorem dX12_accept_32 : decode cX12_accept 32 = .ok (.bipush (-3), 2) := by decide +kernel
theorem dX12_accept_34 : decode cX12_accept 34 = .ok (.ireturn, 1) := by decide +kernel
theorem dX12_accept_35 : decode cX12_accept 35 = .ok (.aload_n 0, 1) := by decide +kernel
theorem dX12_accept_36 : decode cX12_accept 36 = .ok (.getfield 51, 3) := by decide +kernel
theorem dX12_accept_39 : decode cX12_accept 39 = .ok (.iload_n 1, 1) := by decide +kernel
theorem dX12_accept_40 : decode cX12_accept 40 = .ok (.aaload, 1) := by decide +kernel
theorem dX12_accept_41 : decode cX12_accept 41 = .ok (.iconst 1, 1) := by decide +kernel
theorem dX12_accept_42 : decode cX12_accept 42 = .ok (.iconst 1, 1) := by decide +kernel
theorem dX12_accept_43 : decode cX12_accept 43 = .ok (.iastore, 1) := by decide +kernel
theorem dX12_accept_44 : decode cX12_accept 44 = .ok (.aload_n 0, 1) := by decide +kernel
theorem dX12_accept_45 : decode cX12_accept 45 = .ok (.getfield 51, 3) := by decide +kernel
theorem dX12_accept_48 : decode cX12_accept 48 = .ok (.iload_n 1, 1) := by decide +kernel
theorem dX12_accept_49 : decode cX12_accept 49 = .ok (.aaload, 1) := by decide +kernel
theorem dX12_accept_50 : decode cX12_accept 50 = .ok (.iconst 2, 1) := by decide +kernel
theorem dX12_accept_51 : decode cX12_accept 51 = .ok (.aload_n 0, 1) := by decide +kernel
theorem dX12_accept_52 : decode cX12_accept 52 = .ok (.getfield 227, 3) := by decide +kernel
theorem dX12_accept_55 : decode cX12_accept 55 = .ok (.bipush 60, 2) := by decide +kernel
theorem dX12_accept_57 : decode cX12_accept 57 = .ok (.iadd, 1) := by decide +kernel
theorem dX12_accept_58 : decode cX12_accept 58 = .ok (.iconst 1, 1) := by decide +kernel
theorem dX12_accept_59 : decode cX12_accept 59 = .ok (.iadd, 1) := by decide +kernel
theorem dX12_accept_60 : decode cX12_accept 60 = .ok (.iastore, 1) := by decide +kernel
theorem dX12_accept_61 : decode cX12_accept 61 = .ok (.aload_n 0, 1) := by decide +kernel
theorem dX12_accept_62 : decode cX12_accept 62 = .ok (.getfield 227, 3) := by decide +kernel
theorem dX12_accept_65 : decode cX12_accept 65 = .ok (.bipush 60, 2) := by decide +kernel
theorem dX12_accept_67 : decode cX12_accept 67 = .ok (.iadd, 1) := by decide +kernel
theorem dX12_accept_68 : decode cX12_accept 68 = .ok (.ireturn, 1) := by decide +kernel
theorem dX12_bill_0 : decode cX12_bill 0 = .ok (.aload_n 0, 1) := by decide +kernel
theorem dX12_bill_1 : decode cX12_bill 1 = .ok (.iload_n 1, 1) := by decide +kernel
theorem dX12_bill_2 : decode cX12_bill 2 = .ok (.invokevirtual 480, 3) := by decide +kernel
theorem dX12_bill_5 : decode cX12_bill 5 = .ok (.ifCond .ne 6, 3) := by decide +kernel
theorem dX12_bill_8 : decode cX12_bill 8 = .ok (.bipush (-5), 2) := by decide +kernel
theorem dX12_bill_10 : decode cX12_bill 10 = .ok (.ireturn, 1) := by decide +kernel
theorem dX12_bill_11 : decode cX12_bill 11 = .ok (.iload_n 2, 1) := by decide +kernel
theorem dX12_bill_12 : decode cX12_bill 12 = .ok (.tableswitch 57 0 2 #[28, 37, 48], 28) := by decide +kernel
theorem dX12_bill_40 : decode cX12_bill 40 = .ok (.aload_n 0, 1) := by decide +kernel
theorem dX12_bill_41 : decode cX12_bill 41 = .ok (.getfield 51, 3) := by decide +kernel
theorem dX12_bill_44 : decode cX12_bill 44 = .ok (.iload_n 1, 1) := by decide +kernel
theorem dX12_bill_45 : decode cX12_bill 45 = .ok (.aaload, 1) := by decide +kernel
theorem dX12_bill_46 : decode cX12_bill 46 = .ok (.iconst 1, 1) := by decide +kernel
theorem dX12_bill_47 : decode cX12_bill 47 = .ok (.iaload, 1) := by decide +kernel
theorem dX12_bill_48 : decode cX12_bill 48 = .ok (.ireturn, 1) := by decide +kernel
theorem dX12_bill_49 : decode cX12_bill 49 = .ok (.aload_n 0, 1) := by decide +kernel
theorem dX12_bill_50 : decode cX12_bill 50 = .ok (.getfield 51, 3) := by decide +kernel
theorem dX12_bill_53 : decode cX12_bill 53 = .ok (.iload_n 1, 1) := by decide +kernel
theorem dX12_bill_54 : decode cX12_bill 54 = .ok (.aaload, 1) := by decide +kernel
theorem dX12_bill_55 : decode cX12_bill 55 = .ok (.iconst 2, 1) := by decide +kernel
theorem dX12_bill_56 : decode cX12_bill 56 = .ok (.iaload, 1) := by decide +kernel
theorem dX12_bill_57 : decode cX12_bill 57 = .ok (.iconst 1, 1) := by decide +kernel
theorem dX12_bill_58 : decode cX12_bill 58 = .ok (.isub, 1) := by decide +kernel
theorem dX12_bill_59 : decode cX12_bill 59 = .ok (.ireturn, 1) := by decide +kernel
theorem dX12_bill_60 : decode cX12_bill 60 = .ok (.aload_n 0, 1) := by decide +kernel
theorem dX12_bill_61 : decode cX12_bill 61 = .ok (.getfield 51, 3) := by decide +kernel
theorem dX12_bill_64 : decode cX12_bill 64 = .ok (.iload_n 1, 1) := by decide +kernel
theorem dX12_bill_65 : decode cX12_bill 65 = .ok (.aaload, 1) := by decide +kernel
theorem dX12_bill_66 : decode cX12_bill 66 = .ok (.iconst 3, 1) := by decide +kernel
theorem dX12_bill_67 : decode cX12_bill 67 = .ok (.iaload, 1) := by decide +kernel
theorem dX12_bill_68 : decode cX12_bill 68 = .ok (.ireturn, 1) := by decide +kernel
theorem dX12_bill_69 : decode cX12_bill 69 = .ok (.bipush (-5), 2) := by decide +kernel
theorem dX12_bill_71 : decode cX12_bill 71 = .ok (.ireturn, 1) := by decide +kernel
theorem dX12_refuse_0 : decode cX12_refuse 0 = .ok (.aload_n 0, 1) := by decide +kernel
theorem dX12_refuse_1 : decode cX12_refuse 1 = .ok (.iload_n 1, 1) := by decide +kernel
theorem dX12_refuse_2 : decode cX12_refuse 2 = .ok (.invokevirtual 480, 3) := by decide +kernel
theorem dX12_refuse_5 : decode cX12_refuse 5 = .ok (.ifCond .ne 5, 3) := by decide +kernel
theorem dX12_refuse_8 : decode cX12_refuse 8 = .ok (.iconst (-1), 1) := by decide +kernel
theorem dX12_refuse_9 : decode cX12_refuse 9 = .ok (.ireturn, 1) := by decide +kernel
theorem dX12_refuse_10 : decode cX12_refuse 10 = .ok (.aload_n 0, 1) := by decide +kernel
theorem dX12_refuse_11 : decode cX12_refuse 11 = .ok (.getfield 48, 3) := by decide +kernel
theorem dX12_refuse_14 : decode cX12_refuse 14 = .ok (.iload_n 1, 1) := by decide +kernel
theorem dX12_refuse_15 : decode cX12_refuse 15 = .ok (.aaload, 1) := by decide +kernel
theorem dX12_refuse_16 : decode cX12_refuse 16 = .ok (.iconst 0, 1) := by decide +kernel
theorem dX12_refuse_17 : decode cX12_refuse 17 = .ok (.iaload, 1) := by decide +kernel
theorem dX12_refuse_18 : decode cX12_refuse 18 = .ok (.ifCond .lt 15, 3) := by decide +kernel
theorem dX12_refuse_21 : decode cX12_refuse 21 = .ok (.aload_n 0, 1) := by decide +kernel
theorem dX12_refuse_22 : decode cX12_refuse 22 = .ok (.getfield 51, 3) := by decide +kernel
theorem dX12_refuse_25 : decode cX12_refuse 25 = .ok (.iload_n 1, 1) := by decide +kernel
theorem dX12_refuse_26 : decode cX12_refuse 26 = .ok (.aaload, 1) := by decide +kernel
theorem dX12_refuse_27 : decode cX12_refuse 27 = .ok (.iconst 1, 1) := by decide +kernel
theorem dX12_refuse_28 : decode cX12_refuse 28 = .ok (.iaload, 1) := by decide +kernel
theorem dX12_refuse_29 : decode cX12_refuse 29 = .ok (.iconst 1, 1) := by decide +kernel
theorem dX12_refuse_30 : decode cX12_refuse 30 = .ok (.if_icmp .le 6, 3) := by decide +kernel
theorem dX12_refuse_33 : decode cX12_refuse 33 = .ok (.bipush (-3), 2) := by decide +kernel
theorem dX12_refuse_35 : decode cX12_refuse 35 = .ok (.ireturn, 1) := by decide +kernel
theorem dX12_refuse_36 : decode cX12_refuse 36 = .ok (.aload_n 0, 1) := by decide +kernel
theorem dX12_refuse_37 : decode cX12_refuse 37 = .ok (.getfield 51, 3) := by decide +kernel
theorem dX12_refuse_40 : decode cX12_refuse 40 = .ok (.iload_n 1, 1) := by decide +kernel
theorem dX12_refuse_41 : decode cX12_refuse 41 = .ok (.aaload, 1) := by decide +kernel
theorem dX12_refuse_42 : decode cX12_refuse 42 = .ok (.iconst 1, 1) := by decide +kernel
theorem dX12_refuse_43 : decode cX12_refuse 43 = .ok (.iconst 3, 1) := by decide +kernel
theorem dX12_refuse_44 : decode cX12_refuse 44 = .ok (.iastore, 1) := by decide +kernel
theorem dX12_refuse_45 : decode cX12_refuse 45 = .ok (.aload_n 0, 1) := by decide +kernel
theorem dX12_refuse_46 : decode cX12_refuse 46 = .ok (.getfield 51, 3) := by decide +kernel
theorem dX12_refuse_49 : decode cX12_refuse 49 = .ok (.iload_n 1, 1) := by decide +kernel
theorem dX12_refuse_50 : decode cX12_refuse 50 = .ok (.aaload, 1) := by decide +kernel
theorem dX12_refuse_51 : decode cX12_refuse 51 = .ok (.iconst 3, 1) := by decide +kernel
theorem dX12_refuse_52 : decode cX12_refuse 52 = .ok (.aload_n 0, 1) := by decide +kernel
theorem dX12_refuse_53 : decode cX12_refuse 53 = .ok (.getfield 51, 3) := by decide +kernel
theorem dX12_refuse_56 : decode cX12_refuse 56 = .ok (.iload_n 1, 1) := by decide +kernel
theorem dX12_refuse_57 : decode cX12_refuse 57 = .ok (.aaload, 1) := by decide +kernel
theorem dX12_refuse_58 : decode cX12_refuse 58 = .ok (.iconst 0, 1) := by decide +kernel
theorem dX12_refuse_59 : decode cX12_refuse 59 = .ok (.iaload, 1) := by decide +kernel
theorem dX12_refuse_60 : decode cX12_refuse 60 = .ok (.aload_n 0, 1) := by decide +kernel
theorem dX12_refuse_61 : decode cX12_refuse 61 = .ok (.iload_n 1, 1) := by decide +kernel
theorem dX12_refuse_62 : decode cX12_refuse 62 = .ok (.invokevirtual 397, 3) := by decide +kernel
theorem dX12_refuse_65 : decode cX12_refuse 65 = .ok (.iadd, 1) := by decide +kernel
theorem dX12_refuse_66 : decode cX12_refuse 66 = .ok (.iastore, 1) := by decide +kernel
theorem dX12_refuse_67 : decode cX12_refuse 67 = .ok (.aload_n 0, 1) := by decide +kernel
theorem dX12_refuse_68 : decode cX12_refuse 68 = .ok (.getfield 51, 3) := by decide +kernel
theorem dX12_refuse_71 : decode cX12_refuse 71 = .ok (.iload_n 1, 1) := by decide +kernel
theorem dX12_refuse_72 : decode cX12_refuse 72 = .ok (.aaload, 1) := by decide +kernel
theorem dX12_refuse_73 : decode cX12_refuse 73 = .ok (.iconst 3, 1) := by decide +kernel
theorem dX12_refuse_74 : decode cX12_refuse 74 = .ok (.iaload, 1) := by decide +kernel
theorem dX12_refuse_75 : decode cX12_refuse 75 = .ok (.ireturn, 1) := by decide +kernel
theorem dX12_sitting_0 : decode cX12_sitting 0 = .ok (.iconst 0, 1) := by decide +kernel
theorem dX12_sitting_1 : decode cX12_sitting 1 = .ok (.istore_n 2, 1) := by decide +kernel
theorem dX12_sitting_2 : decode cX12_sitting 2 = .ok (.iconst 0, 1) := by decide +kernel
theorem dX12_sitting_3 : decode cX12_sitting 3 = .ok (.istore_n 3, 1) := by decide +kernel
theorem dX12_sitting_4 : decode cX12_sitting 4 = .ok (.iload_n 3, 1) := by decide +kernel
theorem dX12_sitting_5 : decode cX12_sitting 5 = .ok (.aload_n 0, 1) := by decide +kernel
theorem dX12_sitting_6 : decode cX12_sitting 6 = .ok (.getfield 217, 3) := by decide +kernel
theorem dX12_sitting_9 : decode cX12_sitting 9 = .ok (.if_icmp .ge 29, 3) := by decide +kernel
theorem dX12_sitting_12 : decode cX12_sitting 12 = .ok (.iload_n 2, 1) := by decide +kernel
theorem dX12_sitting_13 : decode cX12_sitting 13 = .ok (.aload_n 0, 1) := by decide +kernel
theorem dX12_sitting_14 : decode cX12_sitting 14 = .ok (.getfield 27, 3) := by decide +kernel
theorem dX12_sitting_17 : decode cX12_sitting 17 = .ok (.iload_n 3, 1) := by decide +kernel
theorem dX12_sitting_18 : decode cX12_sitting 18 = .ok (.iaload, 1) := by decide +kernel
theorem dX12_sitting_19 : decode cX12_sitting 19 = .ok (.iload_n 1, 1) := by decide +kernel
theorem dX12_sitting_20 : decode cX12_sitting 20 = .ok (.if_icmp .ne 9, 3) := by decide +kernel
theorem dX12_sitting_23 : decode cX12_sitting 23 = .ok (.iconst 1, 1) := by decide +kernel
theorem dX12_sitting_24 : decode cX12_sitting 24 = .ok (.iload_n 3, 1) := by decide +kernel
theorem dX12_sitting_25 : decode cX12_sitting 25 = .ok (.ishl, 1) := by decide +kernel
theorem dX12_sitting_26 : decode cX12_sitting 26 = .ok (.goto 4, 3) := by decide +kernel
theorem dX12_sitting_29 : decode cX12_sitting 29 = .ok (.iconst 0, 1) := by decide +kernel
theorem dX12_sitting_30 : decode cX12_sitting 30 = .ok (.ior, 1) := by decide +kernel
theorem dX12_sitting_31 : decode cX12_sitting 31 = .ok (.istore_n 2, 1) := by decide +kernel
theorem dX12_sitting_32 : decode cX12_sitting 32 = .ok (.iinc 3 1, 3) := by decide +kernel
theorem dX12_sitting_35 : decode cX12_sitting 35 = .ok (.goto (-31), 3) := by decide +kernel
theorem dX12_sitting_38 : decode cX12_sitting 38 = .ok (.iload_n 2, 1) := by decide +kernel
theorem dX12_sitting_39 : decode cX12_sitting 39 = .ok (.ireturn, 1) := by decide +kernel
theorem dX12_ranks_0 : decode cX12_ranks 0 = .ok (.iconst 0, 1) := by decide +kernel
theorem dX12_ranks_1 : decode cX12_ranks 1 = .ok (.istore_n 2, 1) := by decide +kernel
theorem dX12_ranks_2 : decode cX12_ranks 2 = .ok (.iconst 0, 1) := by decide +kernel
theorem dX12_ranks_3 : decode cX12_ranks 3 = .ok (.istore_n 3, 1) := by decide +kernel
theorem dX12_ranks_4 : decode cX12_ranks 4 = .ok (.iload_n 3, 1) := by decide +kernel
theorem dX12_ranks_5 : decode cX12_ranks 5 = .ok (.aload_n 0, 1) := by decide +kernel
theorem dX12_ranks_6 : decode cX12_ranks 6 = .ok (.getfield 217, 3) := by decide +kernel
theorem dX12_ranks_9 : decode cX12_ranks 9 = .ok (.if_icmp .ge 33, 3) := by decide +kernel
theorem dX12_ranks_12 : decode cX12_ranks 12 = .ok (.iload_n 2, 1) := by decide +kernel
theorem dX12_ranks_13 : decode cX12_ranks 13 = .ok (.iload_n 1, 1) := by decide +kernel
theorem dX12_ranks_14 : decode cX12_ranks 14 = .ok (.iload_n 3, 1) := by decide +kernel
theorem dX12_ranks_15 : decode cX12_ranks 15 = .ok (.ishr, 1) := by decide +kernel
theorem dX12_ranks_16 : decode cX12_ranks 16 = .ok (.iconst 1, 1) := by decide +kernel
theorem dX12_ranks_17 : decode cX12_ranks 17 = .ok (.iand, 1) := by decide +kernel
theorem dX12_ranks_18 : decode cX12_ranks 18 = .ok (.iconst 1, 1) := by decide +kernel
theorem dX12_ranks_19 : decode cX12_ranks 19 = .ok (.if_icmp .ne 14, 3) := by decide +kernel
theorem dX12_ranks_22 : decode cX12_ranks 22 = .ok (.aload_n 0, 1) := by decide +kernel
theorem dX12_ranks_23 : decode cX12_ranks 23 = .ok (.getfield 30, 3) := by decide +kernel
theorem dX12_ranks_26 : decode cX12_ranks 26 = .ok (.iload_n 3, 1) := by decide +kernel
theorem dX12_ranks_27 : decode cX12_ranks 27 = .ok (.iaload, 1) := by decide +kernel
theorem dX12_ranks_28 : decode cX12_ranks 28 = .ok (.iconst 1, 1) := by decide +kernel
theorem dX12_ranks_29 : decode cX12_ranks 29 = .ok (.iadd, 1) := by decide +kernel
theorem dX12_ranks_30 : decode cX12_ranks 30 = .ok (.goto 4, 3) := by decide +kernel
theorem dX12_ranks_33 : decode cX12_ranks 33 = .ok (.iconst 0, 1) := by decide +kernel
theorem dX12_ranks_34 : decode cX12_ranks 34 = .ok (.iadd, 1) := by decide +kernel
theorem dX12_ranks_35 : decode cX12_ranks 35 = .ok (.istore_n 2, 1) := by decide +kernel
theorem dX12_ranks_36 : decode cX12_ranks 36 = .ok (.iinc 3 1, 3) := by decide +kernel
theorem dX12_ranks_39 : decode cX12_ranks 39 = .ok (.goto (-35), 3) := by decide +kernel
theorem dX12_ranks_42 : decode cX12_ranks 42 = .ok (.iload_n 2, 1) := by decide +kernel
theorem dX12_ranks_43 : decode cX12_ranks 43 = .ok (.ireturn, 1) := by decide +kernel
theorem dX12_greatestRank_0 : decode cX12_greatestRank 0 = .ok (.iconst (-1), 1) := by decide +kernel
theorem dX12_greatestRank_1 : decode cX12_greatestRank 1 = .ok (.istore_n 2, 1) := by decide +kernel
theorem dX12_greatestRank_2 : decode cX12_greatestRank 2 = .ok (.iconst 0, 1) := by decide +kernel
theorem dX12_greatestRank_3 : decode cX12_greatestRank 3 = .ok (.istore_n 3, 1) := by decide +kernel
theorem dX12_greatestRank_4 : decode cX12_greatestRank 4 = .ok (.iload_n 3, 1) := by decide +kernel
theorem dX12_greatestRank_5 : decode cX12_greatestRank 5 = .ok (.aload_n 0, 1) := by decide +kernel
theorem dX12_greatestRank_6 : decode cX12_greatestRank 6 = .ok (.getfield 217, 3) := by decide +kernel
theorem dX12_greatestRank_9 : decode cX12_greatestRank 9 = .ok (.if_icmp .ge 33, 3) := by decide +kernel
theorem dX12_greatestRank_12 : decode cX12_greatestRank 12 = .ok (.iload_n 1, 1) := by decide +kernel
theorem dX12_greatestRank_13 : decode cX12_greatestRank 13 = .ok (.iload_n 3, 1) := by decide +kernel
theorem dX12_greatestRank_14 : decode cX12_greatestRank 14 = .ok (.ishr, 1) := by decide +kernel
theorem dX12_greatestRank_15 : decode cX12_greatestRank 15 = .ok (.iconst 1, 1) := by decide +kernel
theorem dX12_greatestRank_16 : decode cX12_greatestRank 16 = .ok (.iand, 1) := by decide +kernel
theorem dX12_greatestRank_17 : decode cX12_greatestRank 17 = .ok (.iconst 1, 1) := by decide +kernel
theorem dX12_greatestRank_18 : decode cX12_greatestRank 18 = .ok (.if_icmp .ne 16, 3) := by decide +kernel
theorem dX12_greatestRank_21 : decode cX12_greatestRank 21 = .ok (.iload_n 2, 1) := by decide +kernel
theorem dX12_greatestRank_22 : decode cX12_greatestRank 22 = .ok (.aload_n 0, 1) := by decide +kernel
theorem dX12_greatestRank_23 : decode cX12_greatestRank 23 = .ok (.getfield 30, 3) := by decide +kernel
theorem dX12_greatestRank_26 : decode cX12_greatestRank 26 = .ok (.iload_n 3, 1) := by decide +kernel
theorem dX12_greatestRank_27 : decode cX12_greatestRank 27 = .ok (.iaload, 1) := by decide +kernel
theorem dX12_greatestRank_28 : decode cX12_greatestRank 28 = .ok (.invokestatic 442, 3) := by decide +kernel
theorem dX12_greatestRank_31 : decode cX12_greatestRank 31 = .ok (.goto 4, 3) := by decide +kernel
theorem dX12_greatestRank_34 : decode cX12_greatestRank 34 = .ok (.iload_n 2, 1) := by decide +kernel
theorem dX12_greatestRank_35 : decode cX12_greatestRank 35 = .ok (.istore_n 2, 1) := by decide +kernel
theorem dX12_greatestRank_36 : decode cX12_greatestRank 36 = .ok (.iinc 3 1, 3) := by decide +kernel
theorem dX12_greatestRank_39 : decode cX12_greatestRank 39 = .ok (.goto (-35), 3) := by decide +kernel
theorem dX12_greatestRank_42 : decode cX12_greatestRank 42 = .ok (.iload_n 2, 1) := by decide +kernel
theorem dX12_greatestRank_43 : decode cX12_greatestRank 43 = .ok (.ireturn, 1) := by decide +kernel
theorem dX12_carries_0 : decode cX12_carries 0 = .ok (.iload_n 2, 1) := by decide +kernel
theorem dX12_carries_1 : decode cX12_carries 1 = .ok (.iload_n 3, 1) := by decide +kernel
theorem dX12_carries_2 : decode cX12_carries 2 = .ok (.iand, 1) := by decide +kernel
theorem dX12_carries_3 : decode cX12_carries 3 = .ok (.ifCond .ne 22, 3) := by decide +kernel
theorem dX12_carries_6 : decode cX12_carries 6 = .ok (.iconst 2, 1) := by decide +kernel
theorem dX12_carries_7 : decode cX12_carries 7 = .ok (.iload_n 2, 1) := by decide +kernel
theorem dX12_carries_8 : decode cX12_carries 8 = .ok (.iload_n 3, 1) := by decide +kernel
theorem dX12_carries_9 : decode cX12_carries 9 = .ok (.ior, 1) := by decide +kernel
theorem dX12_carries_10 : decode cX12_carries 10 = .ok (.invokestatic 483, 3) := by decide +kernel
theorem dX12_carries_13 : decode cX12_carries 13 = .ok (.imul, 1) := by decide +kernel
theorem dX12_carries_14 : decode cX12_carries 14 = .ok (.aload_n 0, 1) := by decide +kernel
theorem dX12_carries_15 : decode cX12_carries 15 = .ok (.iload_n 1, 1) := by decide +kernel
theorem dX12_carries_16 : decode cX12_carries 16 = .ok (.invokevirtual 488, 3) := by decide +kernel
theorem dX12_carries_19 : decode cX12_carries 19 = .ok (.invokestatic 483, 3) := by decide +kernel
theorem dX12_carries_22 : decode cX12_carries 22 = .ok (.if_icmp .ge 5, 3) := by decide +kernel
theorem dX12_carries_25 : decode cX12_carries 25 = .ok (.iconst 0, 1) := by decide +kernel
theorem dX12_carries_26 : decode cX12_carries 26 = .ok (.ireturn, 1) := by decide +kernel
theorem dX12_carries_27 : decode cX12_carries 27 = .ok (.aload_n 0, 1) := by decide +kernel
theorem dX12_carries_28 : decode cX12_carries 28 = .ok (.iload_n 2, 1) := by decide +kernel
theorem dX12_carries_29 : decode cX12_carries 29 = .ok (.invokevirtual 491, 3) := by decide +kernel
theorem dX12_carries_32 : decode cX12_carries 32 = .ok (.aload_n 0, 1) := by decide +kernel
theorem dX12_carries_33 : decode cX12_carries 33 = .ok (.iload_n 3, 1) := by decide +kernel
theorem dX12_carries_34 : decode cX12_carries 34 = .ok (.invokevirtual 491, 3) := by decide +kernel
theorem dX12_carries_37 : decode cX12_carries 37 = .ok (.if_icmp .eq 22, 3) := by decide +kernel
theorem dX12_carries_40 : decode cX12_carries 40 = .ok (.aload_n 0, 1) := by decide +kernel
theorem dX12_carries_41 : decode cX12_carries 41 = .ok (.iload_n 2, 1) := by decide +kernel
theorem dX12_carries_42 : decode cX12_carries 42 = .ok (.invokevirtual 491, 3) := by decide +kernel
theorem dX12_carries_45 : decode cX12_carries 45 = .ok (.aload_n 0, 1) := by decide +kernel
theorem dX12_carries_46 : decode cX12_carries 46 = .ok (.iload_n 3, 1) := by decide +kernel
theorem dX12_carries_47 : decode cX12_carries 47 = .ok (.invokevirtual 491, 3) := by decide +kernel
theorem dX12_carries_50 : decode cX12_carries 50 = .ok (.if_icmp .le 7, 3) := by decide +kernel
theorem dX12_carries_53 : decode cX12_carries 53 = .ok (.iconst 1, 1) := by decide +kernel
theorem dX12_carries_54 : decode cX12_carries 54 = .ok (.goto 4, 3) := by decide +kernel
theorem dX12_carries_57 : decode cX12_carries 57 = .ok (.iconst 0, 1) := by decide +kernel
theorem dX12_carries_58 : decode cX12_carries 58 = .ok (.ireturn, 1) := by decide +kernel
theorem dX12_carries_59 : decode cX12_carries 59 = .ok (.iload_n 2, 1) := by decide +kernel
theorem dX12_carries_60 : decode cX12_carries 60 = .ok (.ifCond .eq 22, 3) := by decide +kernel
theorem dX12_carries_63 : decode cX12_carries 63 = .ok (.aload_n 0, 1) := by decide +kernel
theorem dX12_carries_64 : decode cX12_carries 64 = .ok (.iload_n 2, 1) := by decide +kernel
theorem dX12_carries_65 : decode cX12_carries 65 = .ok (.invokevirtual 494, 3) := by decide +kernel
theorem dX12_carries_68 : decode cX12_carries 68 = .ok (.aload_n 0, 1) := by decide +kernel
theorem dX12_carries_69 : decode cX12_carries 69 = .ok (.iload_n 2, 1) := by decide +kernel
theorem dX12_carries_70 : decode cX12_carries 70 = .ok (.iload_n 3, 1) := by decide +kernel
theorem dX12_carries_71 : decode cX12_carries 71 = .ok (.ior, 1) := by decide +kernel
theorem dX12_carries_72 : decode cX12_carries 72 = .ok (.invokevirtual 494, 3) := by decide +kernel
theorem dX12_carries_75 : decode cX12_carries 75 = .ok (.if_icmp .ne 7, 3) := by decide +kernel
theorem dX12_carries_78 : decode cX12_carries 78 = .ok (.iconst 1, 1) := by decide +kernel
theorem dX12_carries_79 : decode cX12_carries 79 = .ok (.goto 4, 3) := by decide +kernel
theorem dX12_carries_82 : decode cX12_carries 82 = .ok (.iconst 0, 1) := by decide +kernel
theorem dX12_carries_83 : decode cX12_carries 83 = .ok (.ireturn, 1) := by decide +kernel
theorem dX12_council_0 : decode cX12_council 0 = .ok (.iload_n 1, 1) := by decide +kernel
theorem dX12_council_1 : decode cX12_council 1 = .ok (.invokestatic 200, 3) := by decide +kernel
theorem dX12_council_4 : decode cX12_council 4 = .ok (.ifCond .eq 10, 3) := by decide +kernel
theorem dX12_council_7 : decode cX12_council 7 = .ok (.iload_n 2, 1) := by decide +kernel
theorem dX12_council_8 : decode cX12_council 8 = .ok (.invokestatic 204, 3) := by decide +kernel
theorem dX12_council_11 : decode cX12_council 11 = .ok (.ifCond .ne 5, 3) := by decide +kernel
theorem dX12_council_14 : decode cX12_council 14 = .ok (.iconst (-1), 1) := by decide +kernel
theorem dX12_council_15 : decode cX12_council 15 = .ok (.ireturn, 1) := by decide +kernel
theorem dX12_council_16 : decode cX12_council 16 = .ok (.iload_n 3, 1) := by decide +kernel
theorem dX12_council_17 : decode cX12_council 17 = .ok (.iconst 1, 1) := by decide +kernel
theorem dX12_council_18 : decode cX12_council 18 = .ok (.bipush 99, 2) := by decide +kernel
theorem dX12_council_20 : decode cX12_council 20 = .ok (.invokestatic 196, 3) := by decide +kernel
theorem dX12_council_23 : decode cX12_council 23 = .ok (.ifCond .eq 19, 3) := by decide +kernel
theorem dX12_council_26 : decode cX12_council 26 = .ok (.iload 4, 2) := by decide +kernel
theorem dX12_council_28 : decode cX12_council 28 = .ok (.iload 5, 2) := by decide +kernel
theorem dX12_council_30 : decode cX12_council 30 = .ok (.ior, 1) := by decide +kernel
theorem dX12_council_31 : decode cX12_council 31 = .ok (.aload_n 0, 1) := by decide +kernel
theorem dX12_council_32 : decode cX12_council 32 = .ok (.iload_n 1, 1) := by decide +kernel
theorem dX12_council_33 : decode cX12_council 33 = .ok (.invokevirtual 488, 3) := by decide +kernel
theorem dX12_council_36 : decode cX12_council 36 = .ok (.iconst (-1), 1) := by decide +kernel
theorem dX12_council_37 : decode cX12_council 37 = .ok (.ixor, 1) := by decide +kernel
theorem dX12_council_38 : decode cX12_council 38 = .ok (.iand, 1) := by decide +kernel
theorem dX12_council_39 : decode cX12_council 39 = .ok (.ifCond .eq 6, 3) := by decide +kernel
theorem dX12_council_42 : decode cX12_council 42 = .ok (.bipush (-2), 2) := by decide +kernel
theorem dX12_council_44 : decode cX12_council 44 = .ok (.ireturn, 1) := by decide +kernel
theorem dX12_council_45 : decode cX12_council 45 = .ok (.aload_n 0, 1) := by decide +kernel
theorem dX12_council_46 : decode cX12_council 46 = .ok (.iload_n 1, 1) := by decide +kernel
theorem dX12_council_47 : decode cX12_council 47 = .ok (.iload 4, 2) := by decide +kernel
theorem dX12_council_49 : decode cX12_council 49 = .ok (.iload 5, 2) := by decide +kernel
theorem dX12_council_51 : decode cX12_council 51 = .ok (.invokevirtual 497, 3) := by decide +kernel
theorem dX12_council_54 : decode cX12_council 54 = .ok (.ifCond .ne 6, 3) := by decide +kernel
theorem dX12_council_57 : decode cX12_council 57 = .ok (.bipush (-3), 2) := by decide +kernel
theorem dX12_council_59 : decode cX12_council 59 = .ok (.ireturn, 1) := by decide +kernel
theorem dX12_council_60 : decode cX12_council 60 = .ok (.aload_n 0, 1) := by decide +kernel
theorem dX12_council_61 : decode cX12_council 61 = .ok (.getfield 224, 3) := by decide +kernel
theorem dX12_council_64 : decode cX12_council 64 = .ok (.iconst 1, 1) := by decide +kernel
theorem dX12_council_65 : decode cX12_council 65 = .ok (.iadd, 1) := by decide +kernel
theorem dX12_council_66 : decode cX12_council 66 = .ok (.iload 5, 2) := by decide +kernel
theorem dX12_council_68 : decode cX12_council 68 = .ok (.invokestatic 483, 3) := by decide +kernel
theorem dX12_council_71 : decode cX12_council 71 = .ok (.iadd, 1) := by decide +kernel
theorem dX12_council_72 : decode cX12_council 72 = .ok (.sipush 150, 3) := by decide +kernel
theorem dX12_council_75 : decode cX12_council 75 = .ok (.if_icmp .le 6, 3) := by decide +kernel
theorem dX12_council_78 : decode cX12_council 78 = .ok (.bipush (-4), 2) := by decide +kernel
theorem dX12_council_80 : decode cX12_council 80 = .ok (.ireturn, 1) := by decide +kernel
theorem dX12_council_81 : decode cX12_council 81 = .ok (.aload_n 0, 1) := by decide +kernel
theorem dX12_council_82 : decode cX12_council 82 = .ok (.iload_n 1, 1) := by decide +kernel
theorem dX12_council_83 : decode cX12_council 83 = .ok (.iload_n 2, 1) := by decide +kernel
theorem dX12_council_84 : decode cX12_council 84 = .ok (.iload_n 3, 1) := by decide +kernel
theorem dX12_council_85 : decode cX12_council 85 = .ok (.iconst 0, 1) := by decide +kernel
theorem dX12_council_86 : decode cX12_council 86 = .ok (.invokevirtual 418, 3) := by decide +kernel
theorem dX12_council_89 : decode cX12_council 89 = .ok (.istore 6, 2) := by decide +kernel
theorem dX12_council_91 : decode cX12_council 91 = .ok (.aload_n 0, 1) := by decide +kernel
theorem dX12_council_92 : decode cX12_council 92 = .ok (.getfield 412, 3) := by decide +kernel
theorem dX12_council_95 : decode cX12_council 95 = .ok (.istore 7, 2) := by decide +kernel
theorem dX12_council_97 : decode cX12_council 97 = .ok (.aload_n 0, 1) := by decide +kernel
theorem dX12_council_98 : decode cX12_council 98 = .ok (.iconst 3, 1) := by decide +kernel
theorem dX12_council_99 : decode cX12_council 99 = .ok (.iload_n 1, 1) := by decide +kernel
theorem dX12_council_100 : decode cX12_council 100 = .ok (.iconst 0, 1) := by decide +kernel
theorem dX12_council_101 : decode cX12_council 101 = .ok (.invokevirtual 320, 3) := by decide +kernel
theorem dX12_council_104 : decode cX12_council 104 = .ok (.istore 8, 2) := by decide +kernel
theorem dX12_council_106 : decode cX12_council 106 = .ok (.iconst 0, 1) := by decide +kernel
theorem dX12_council_107 : decode cX12_council 107 = .ok (.istore 9, 2) := by decide +kernel
theorem dX12_council_109 : decode cX12_council 109 = .ok (.iload 9, 2) := by decide +kernel
theorem dX12_council_111 : decode cX12_council 111 = .ok (.aload_n 0, 1) := by decide +kernel
theorem dX12_council_112 : decode cX12_council 112 = .ok (.getfield 217, 3) := by decide +kernel
theorem dX12_council_115 : decode cX12_council 115 = .ok (.if_icmp .ge 29, 3) := by decide +kernel
theorem dX12_council_118 : decode cX12_council 118 = .ok (.iload 5, 2) := by decide +kernel
theorem dX12_council_120 : decode cX12_council 120 = .ok (.iload 9, 2) := by decide +kernel
theorem dX12_council_122 : decode cX12_council 122 = .ok (.ishr, 1) := by decide +kernel
theorem dX12_council_123 : decode cX12_council 123 = .ok (.iconst 1, 1) := by decide +kernel
theorem dX12_council_124 : decode cX12_council 124 = .ok (.iand, 1) := by decide +kernel
theorem dX12_council_125 : decode cX12_council 125 = .ok (.iconst 1, 1) := by decide +kernel
theorem dX12_council_126 : decode cX12_council 126 = .ok (.if_icmp .ne 12, 3) := by decide +kernel
theorem dX12_council_129 : decode cX12_council 129 = .ok (.aload_n 0, 1) := by decide +kernel
theorem dX12_council_130 : decode cX12_council 130 = .ok (.bipush 6, 2) := by decide +kernel
theorem dX12_council_132 : decode cX12_council 132 = .ok (.iload_n 1, 1) := by decide +kernel
theorem dX12_council_133 : decode cX12_council 133 = .ok (.iconst 0, 1) := by decide +kernel
theorem dX12_council_134 : decode cX12_council 134 = .ok (.invokevirtual 320, 3) := by decide +kernel
theorem dX12_council_137 : decode cX12_council 137 = .ok (.pop, 1) := by decide +kernel
theorem dX12_council_138 : decode cX12_council 138 = .ok (.iinc 9 1, 3) := by decide +kernel
theorem dX12_council_141 : decode cX12_council 141 = .ok (.goto (-32), 3) := by decide +kernel
theorem dX12_council_144 : decode cX12_council 144 = .ok (.iload 6, 2) := by decide +kernel
theorem dX12_council_146 : decode cX12_council 146 = .ok (.ifCond .le 17, 3) := by decide +kernel
theorem dX12_council_149 : decode cX12_council 149 = .ok (.aload_n 0, 1) := by decide +kernel
theorem dX12_council_150 : decode cX12_council 150 = .ok (.iload_n 1, 1) := by decide +kernel
theorem dX12_council_151 : decode cX12_council 151 = .ok (.iconst 5, 1) := by decide +kernel
theorem dX12_council_152 : decode cX12_council 152 = .ok (.iload_n 2, 1) := by decide +kernel
theorem dX12_council_153 : decode cX12_council 153 = .ok (.iload 6, 2) := by decide +kernel
theorem dX12_council_155 : decode cX12_council 155 = .ok (.iload 7, 2) := by decide +kernel
theorem dX12_council_157 : decode cX12_council 157 = .ok (.iload 8, 2) := by decide +kernel
theorem dX12_council_159 : decode cX12_council 159 = .ok (.iconst (-1), 1) := by decide +kernel
theorem dX12_council_160 : decode cX12_council 160 = .ok (.invokevirtual 422, 3) := by decide +kernel
theorem dX12_council_163 : decode cX12_council 163 = .ok (.iload 7, 2) := by decide +kernel
theorem dX12_council_165 : decode cX12_council 165 = .ok (.ireturn, 1) := by decide +kernel
theorem dX12_isBuyer_0 : decode cX12_isBuyer 0 = .ok (.iload_n 0, 1) := by decide +kernel
theorem dX12_isBuyer_1 : decode cX12_isBuyer 1 = .ok (.iconst 0, 1) := by decide +kernel
theorem dX12_isBuyer_2 : decode cX12_isBuyer 2 = .ok (.iconst 5, 1) := by decide +kernel
theorem dX12_isBuyer_3 : decode cX12_isBuyer 3 = .ok (.invokestatic 196, 3) := by decide +kernel
theorem dX12_isBuyer_6 : decode cX12_isBuyer 6 = .ok (.ireturn, 1) := by decide +kernel
theorem dX12_wants_0 : decode cX12_wants 0 = .ok (.iload_n 1, 1) := by decide +kernel
theorem dX12_wants_1 : decode cX12_wants 1 = .ok (.invokestatic 500, 3) := by decide +kernel
theorem dX12_wants_4 : decode cX12_wants 4 = .ok (.ifCond .eq 10, 3) := by decide +kernel
theorem dX12_wants_7 : decode cX12_wants 7 = .ok (.iload_n 2, 1) := by decide +kernel
theorem dX12_wants_8 : decode cX12_wants 8 = .ok (.invokestatic 204, 3) := by decide +kernel
theorem dX12_wants_11 : decode cX12_wants 11 = .ok (.ifCond .ne 5, 3) := by decide +kernel
theorem dX12_wants_14 : decode cX12_wants 14 = .ok (.iconst (-1), 1) := by decide +kernel
theorem dX12_wants_15 : decode cX12_wants 15 = .ok (.ireturn, 1) := by decide +kernel
theorem dX12_wants_16 : decode cX12_wants 16 = .ok (.iload_n 3, 1) := by decide +kernel
theorem dX12_wants_17 : decode cX12_wants 17 = .ok (.iconst 0, 1) := by decide +kernel
theorem dX12_wants_18 : decode cX12_wants 18 = .ok (.bipush 99, 2) := by decide +kernel
theorem dX12_wants_20 : decode cX12_wants 20 = .ok (.invokestatic 196, 3) := by decide +kernel
theorem dX12_wants_23 : decode cX12_wants 23 = .ok (.ifCond .eq 15, 3) := by decide +kernel
theorem dX12_wants_26 : decode cX12_wants 26 = .ok (.iload 4, 2) := by decide +kernel
theorem dX12_wants_28 : decode cX12_wants 28 = .ok (.iconst 0, 1) := by decide +kernel
theorem dX12_wants_29 : decode cX12_wants 29 = .ok (.sipush 999, 3) := by decide +kernel
theorem dX12_wants_32 : decode cX12_wants 32 = .ok (.invokestatic 196, 3) := by decide +kernel
theorem dX12_wants_35 : decode cX12_wants 35 = .ok (.ifCond .ne 6, 3) := by decide +kernel
theorem dX12_wants_38 : decode cX12_wants 38 = .ok (.bipush (-2), 2) := by decide +kernel
theorem dX12_wants_40 : decode cX12_wants 40 = .ok (.ireturn, 1) := by decide +kernel
theorem dX12_wants_41 : decode cX12_wants 41 = .ok (.aload_n 0, 1) := by decide +kernel
theorem dX12_wants_42 : decode cX12_wants 42 = .ok (.getfield 145, 3) := by decide +kernel
theorem dX12_wants_45 : decode cX12_wants 45 = .ok (.iload_n 1, 1) := by decide +kernel
theorem dX12_wants_46 : decode cX12_wants 46 = .ok (.aaload, 1) := by decide +kernel
theorem dX12_wants_47 : decode cX12_wants 47 = .ok (.iload_n 2, 1) := by decide +kernel
theorem dX12_wants_48 : decode cX12_wants 48 = .ok (.iaload, 1) := by decide +kernel
theorem dX12_wants_49 : decode cX12_wants 49 = .ok (.istore 5, 2) := by decide +kernel
theorem dX12_wants_51 : decode cX12_wants 51 = .ok (.aload_n 0, 1) := by decide +kernel
theorem dX12_wants_52 : decode cX12_wants 52 = .ok (.getfield 145, 3) := by decide +kernel
theorem dX12_wants_55 : decode cX12_wants 55 = .ok (.iload_n 1, 1) := by decide +kernel
theorem dX12_wants_56 : decode cX12_wants 56 = .ok (.aaload, 1) := by decide +kernel
theorem dX12_wants_57 : decode cX12_wants 57 = .ok (.iload_n 2, 1) := by decide +kernel
theorem dX12_wants_58 : decode cX12_wants 58 = .ok (.iload_n 3, 1) := by decide +kernel
theorem dX12_wants_59 : decode cX12_wants 59 = .ok (.iastore, 1) := by decide +kernel
theorem dX12_wants_60 : decode cX12_wants 60 = .ok (.aload_n 0, 1) := by decide +kernel
theorem dX12_wants_61 : decode cX12_wants 61 = .ok (.getfield 148, 3) := by decide +kernel
theorem dX12_wants_64 : decode cX12_wants 64 = .ok (.iload_n 1, 1) := by decide +kernel
theorem dX12_wants_65 : decode cX12_wants 65 = .ok (.aaload, 1) := by decide +kernel
theorem dX12_wants_66 : decode cX12_wants 66 = .ok (.iload_n 2, 1) := by decide +kernel
theorem dX12_wants_67 : decode cX12_wants 67 = .ok (.iload 4, 2) := by decide +kernel
theorem dX12_wants_69 : decode cX12_wants 69 = .ok (.iastore, 1) := by decide +kernel
theorem dX12_wants_70 : decode cX12_wants 70 = .ok (.iload 5, 2) := by decide +kernel
theorem dX12_wants_72 : decode cX12_wants 72 = .ok (.ireturn, 1) := by decide +kernel
theorem dX12_greatest_0 : decode cX12_greatest 0 = .ok (.iconst (-1), 1) := by decide +kernel
theorem dX12_greatest_1 : decode cX12_greatest 1 = .ok (.istore_n 3, 1) := by decide +kernel
theorem dX12_greatest_2 : decode cX12_greatest 2 = .ok (.iconst 0, 1) := by decide +kernel
theorem dX12_greatest_3 : decode cX12_greatest 3 = .ok (.istore 4, 2) := by decide +kernel
theorem dX12_greatest_5 : decode cX12_greatest 5 = .ok (.iload 4, 2) := by decide +kernel
theorem dX12_greatest_7 : decode cX12_greatest 7 = .ok (.bipush 6, 2) := by decide +kernel
theorem dX12_greatest_9 : decode cX12_greatest 9 = .ok (.if_icmp .ge 54, 3) := by decide +kernel
theorem dX12_greatest_12 : decode cX12_greatest 12 = .ok (.iload 4, 2) := by decide +kernel
theorem dX12_greatest_14 : decode cX12_greatest 14 = .ok (.iload_n 2, 1) := by decide +kernel
theorem dX12_greatest_15 : decode cX12_greatest 15 = .ok (.if_icmp .eq 42, 3) := by decide +kernel
theorem dX12_greatest_18 : decode cX12_greatest 18 = .ok (.aload_n 0, 1) := by decide +kernel
theorem dX12_greatest_19 : decode cX12_greatest 19 = .ok (.getfield 145, 3) := by decide +kernel
theorem dX12_greatest_22 : decode cX12_greatest 22 = .ok (.iload 4, 2) := by decide +kernel
theorem dX12_greatest_24 : decode cX12_greatest 24 = .ok (.aaload, 1) := by decide +kernel
theorem dX12_greatest_25 : decode cX12_greatest 25 = .ok (.iload_n 1, 1) := by decide +kernel
