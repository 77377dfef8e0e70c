theorem dX12_greatest_26 : decode cX12_greatest 26 = .ok (.iaload, 1) := by decide +kernel
theorem dX12_greatest_27 : decode cX12_greatest 27 = .ok (.ifCond .le 30, 3) := by decide +kernel
theorem dX12_greatest_30 : decode cX12_greatest 30 = .ok (.iload_n 3, 1) := by decide +kernel
theorem dX12_greatest_31 : decode cX12_greatest 31 = .ok (.ifCond .lt 23, 3) := by decide +kernel
theorem dX12_greatest_34 : decode cX12_greatest 34 = .ok (.aload_n 0, 1) := by decide +kernel
theorem dX12_greatest_35 : decode cX12_greatest 35 = .ok (.getfield 148, 3) := by decide +kernel
theorem dX12_greatest_38 : decode cX12_greatest 38 = .ok (.iload 4, 2) := by decide +kernel
theorem dX12_greatest_40 : decode cX12_greatest 40 = .ok (.aaload, 1) := by decide +kernel
theorem dX12_greatest_41 : decode cX12_greatest 41 = .ok (.iload_n 1, 1) := by decide +kernel
theorem dX12_greatest_42 : decode cX12_greatest 42 = .ok (.iaload, 1) := by decide +kernel
theorem dX12_greatest_43 : decode cX12_greatest 43 = .ok (.aload_n 0, 1) := by decide +kernel
theorem dX12_greatest_44 : decode cX12_greatest 44 = .ok (.getfield 148, 3) := by decide +kernel
theorem dX12_greatest_47 : decode cX12_greatest 47 = .ok (.iload_n 3, 1) := by decide +kernel
theorem dX12_greatest_48 : decode cX12_greatest 48 = .ok (.aaload, 1) := by decide +kernel
theorem dX12_greatest_49 : decode cX12_greatest 49 = .ok (.iload_n 1, 1) := by decide +kernel
theorem dX12_greatest_50 : decode cX12_greatest 50 = .ok (.iaload, 1) := by decide +kernel
theorem dX12_greatest_51 : decode cX12_greatest 51 = .ok (.if_icmp .le 6, 3) := by decide +kernel
theorem dX12_greatest_54 : decode cX12_greatest 54 = .ok (.iload 4, 2) := by decide +kernel
theorem dX12_greatest_56 : decode cX12_greatest 56 = .ok (.istore_n 3, 1) := by decide +kernel
theorem dX12_greatest_57 : decode cX12_greatest 57 = .ok (.iinc 4 1, 3) := by decide +kernel
theorem dX12_greatest_60 : decode cX12_greatest 60 = .ok (.goto (-55), 3) := by decide +kernel
theorem dX12_greatest_63 : decode cX12_greatest 63 = .ok (.iload_n 3, 1) := by decide +kernel
theorem dX12_greatest_64 : decode cX12_greatest 64 = .ok (.ireturn, 1) := by decide +kernel
theorem dX12_sale_0 : decode cX12_sale 0 = .ok (.iload_n 1, 1) := by decide +kernel
theorem dX12_sale_1 : decode cX12_sale 1 = .ok (.invokestatic 204, 3) := by decide +kernel
theorem dX12_sale_4 : decode cX12_sale 4 = .ok (.ifCond .ne 5, 3) := by decide +kernel
theorem dX12_sale_7 : decode cX12_sale 7 = .ok (.iconst (-1), 1) := by decide +kernel
theorem dX12_sale_8 : decode cX12_sale 8 = .ok (.ireturn, 1) := by decide +kernel
theorem dX12_sale_9 : decode cX12_sale 9 = .ok (.iload_n 2, 1) := by decide +kernel
theorem dX12_sale_10 : decode cX12_sale 10 = .ok (.iconst 1, 1) := by decide +kernel
theorem dX12_sale_11 : decode cX12_sale 11 = .ok (.bipush 99, 2) := by decide +kernel
theorem dX12_sale_13 : decode cX12_sale 13 = .ok (.invokestatic 196, 3) := by decide +kernel
theorem dX12_sale_16 : decode cX12_sale 16 = .ok (.ifCond .ne 6, 3) := by decide +kernel
theorem dX12_sale_19 : decode cX12_sale 19 = .ok (.bipush (-2), 2) := by decide +kernel
theorem dX12_sale_21 : decode cX12_sale 21 = .ok (.ireturn, 1) := by decide +kernel
theorem dX12_sale_22 : decode cX12_sale 22 = .ok (.aload_n 0, 1) := by decide +kernel
theorem dX12_sale_23 : decode cX12_sale 23 = .ok (.getfield 15, 3) := by decide +kernel
theorem dX12_sale_26 : decode cX12_sale 26 = .ok (.iconst 0, 1) := by decide +kernel
theorem dX12_sale_27 : decode cX12_sale 27 = .ok (.aaload, 1) := by decide +kernel
theorem dX12_sale_28 : decode cX12_sale 28 = .ok (.iload_n 1, 1) := by decide +kernel
theorem dX12_sale_29 : decode cX12_sale 29 = .ok (.iaload, 1) := by decide +kernel
theorem dX12_sale_30 : decode cX12_sale 30 = .ok (.iload_n 2, 1) := by decide +kernel
theorem dX12_sale_31 : decode cX12_sale 31 = .ok (.if_icmp .ge 6, 3) := by decide +kernel
theorem dX12_sale_34 : decode cX12_sale 34 = .ok (.bipush (-3), 2) := by decide +kernel
theorem dX12_sale_36 : decode cX12_sale 36 = .ok (.ireturn, 1) := by decide +kernel
theorem dX12_sale_37 : decode cX12_sale 37 = .ok (.iconst 0, 1) := by decide +kernel
theorem dX12_sale_38 : decode cX12_sale 38 = .ok (.istore_n 3, 1) := by decide +kernel
theorem dX12_sale_39 : decode cX12_sale 39 = .ok (.iconst 0, 1) := by decide +kernel
theorem dX12_sale_40 : decode cX12_sale 40 = .ok (.istore 4, 2) := by decide +kernel
theorem dX12_sale_42 : decode cX12_sale 42 = .ok (.iload 4, 2) := by decide +kernel
theorem dX12_sale_44 : decode cX12_sale 44 = .ok (.iload_n 2, 1) := by decide +kernel
theorem dX12_sale_45 : decode cX12_sale 45 = .ok (.if_icmp .ge 107, 3) := by decide +kernel
theorem dX12_sale_48 : decode cX12_sale 48 = .ok (.aload_n 0, 1) := by decide +kernel
theorem dX12_sale_49 : decode cX12_sale 49 = .ok (.iload_n 1, 1) := by decide +kernel
theorem dX12_sale_50 : decode cX12_sale 50 = .ok (.iconst (-1), 1) := by decide +kernel
theorem dX12_sale_51 : decode cX12_sale 51 = .ok (.invokevirtual 503, 3) := by decide +kernel
theorem dX12_sale_54 : decode cX12_sale 54 = .ok (.istore 5, 2) := by decide +kernel
theorem dX12_sale_56 : decode cX12_sale 56 = .ok (.iload 5, 2) := by decide +kernel
theorem dX12_sale_58 : decode cX12_sale 58 = .ok (.ifCond .ge 6, 3) := by decide +kernel
theorem dX12_sale_61 : decode cX12_sale 61 = .ok (.goto 91, 3) := by decide +kernel
theorem dX12_sale_64 : decode cX12_sale 64 = .ok (.aload_n 0, 1) := by decide +kernel
theorem dX12_sale_65 : decode cX12_sale 65 = .ok (.iload_n 1, 1) := by decide +kernel
theorem dX12_sale_66 : decode cX12_sale 66 = .ok (.iload 5, 2) := by decide +kernel
theorem dX12_sale_68 : decode cX12_sale 68 = .ok (.invokevirtual 503, 3) := by decide +kernel
theorem dX12_sale_71 : decode cX12_sale 71 = .ok (.istore 6, 2) := by decide +kernel
theorem dX12_sale_73 : decode cX12_sale 73 = .ok (.iload 6, 2) := by decide +kernel
theorem dX12_sale_75 : decode cX12_sale 75 = .ok (.ifCond .ge 7, 3) := by decide +kernel
theorem dX12_sale_78 : decode cX12_sale 78 = .ok (.iconst 0, 1) := by decide +kernel
theorem dX12_sale_79 : decode cX12_sale 79 = .ok (.goto 12, 3) := by decide +kernel
theorem dX12_sale_82 : decode cX12_sale 82 = .ok (.aload_n 0, 1) := by decide +kernel
theorem dX12_sale_83 : decode cX12_sale 83 = .ok (.getfield 148, 3) := by decide +kernel
theorem dX12_sale_86 : decode cX12_sale 86 = .ok (.iload 6, 2) := by decide +kernel
theorem dX12_sale_88 : decode cX12_sale 88 = .ok (.aaload, 1) := by decide +kernel
theorem dX12_sale_89 : decode cX12_sale 89 = .ok (.iload_n 1, 1) := by decide +kernel
theorem dX12_sale_90 : decode cX12_sale 90 = .ok (.iaload, 1) := by decide +kernel
theorem dX12_sale_91 : decode cX12_sale 91 = .ok (.istore 7, 2) := by decide +kernel
theorem dX12_sale_93 : decode cX12_sale 93 = .ok (.aload_n 0, 1) := by decide +kernel
theorem dX12_sale_94 : decode cX12_sale 94 = .ok (.getfield 145, 3) := by decide +kernel
theorem dX12_sale_97 : decode cX12_sale 97 = .ok (.iload 5, 2) := by decide +kernel
theorem dX12_sale_99 : decode cX12_sale 99 = .ok (.aaload, 1) := by decide +kernel
theorem dX12_sale_100 : decode cX12_sale 100 = .ok (.iload_n 1, 1) := by decide +kernel
theorem dX12_sale_101 : decode cX12_sale 101 = .ok (.dup2, 1) := by decide +kernel
theorem dX12_sale_102 : decode cX12_sale 102 = .ok (.iaload, 1) := by decide +kernel
theorem dX12_sale_103 : decode cX12_sale 103 = .ok (.iconst 1, 1) := by decide +kernel
theorem dX12_sale_104 : decode cX12_sale 104 = .ok (.isub, 1) := by decide +kernel
theorem dX12_sale_105 : decode cX12_sale 105 = .ok (.iastore, 1) := by decide +kernel
theorem dX12_sale_106 : decode cX12_sale 106 = .ok (.aload_n 0, 1) := by decide +kernel
theorem dX12_sale_107 : decode cX12_sale 107 = .ok (.getfield 15, 3) := by decide +kernel
theorem dX12_sale_110 : decode cX12_sale 110 = .ok (.iconst 0, 1) := by decide +kernel
theorem dX12_sale_111 : decode cX12_sale 111 = .ok (.aaload, 1) := by decide +kernel
theorem dX12_sale_112 : decode cX12_sale 112 = .ok (.iload_n 1, 1) := by decide +kernel
theorem dX12_sale_113 : decode cX12_sale 113 = .ok (.dup2, 1) := by decide +kernel
theorem dX12_sale_114 : decode cX12_sale 114 = .ok (.iaload, 1) := by decide +kernel
theorem dX12_sale_115 : decode cX12_sale 115 = .ok (.iconst 1, 1) := by decide +kernel
theorem dX12_sale_116 : decode cX12_sale 116 = .ok (.isub, 1) := by decide +kernel
theorem dX12_sale_117 : decode cX12_sale 117 = .ok (.iastore, 1) := by decide +kernel
theorem dX12_sale_118 : decode cX12_sale 118 = .ok (.aload_n 0, 1) := by decide +kernel
theorem dX12_sale_119 : decode cX12_sale 119 = .ok (.getfield 151, 3) := by decide +kernel
theorem dX12_sale_122 : decode cX12_sale 122 = .ok (.iload 5, 2) := by decide +kernel
theorem dX12_sale_124 : decode cX12_sale 124 = .ok (.dup2, 1) := by decide +kernel
theorem dX12_sale_125 : decode cX12_sale 125 = .ok (.iaload, 1) := by decide +kernel
theorem dX12_sale_126 : decode cX12_sale 126 = .ok (.iconst 1, 1) := by decide +kernel
theorem dX12_sale_127 : decode cX12_sale 127 = .ok (.iadd, 1) := by decide +kernel
theorem dX12_sale_128 : decode cX12_sale 128 = .ok (.iastore, 1) := by decide +kernel
theorem dX12_sale_129 : decode cX12_sale 129 = .ok (.aload_n 0, 1) := by decide +kernel
theorem dX12_sale_130 : decode cX12_sale 130 = .ok (.getfield 154, 3) := by decide +kernel
theorem dX12_sale_133 : decode cX12_sale 133 = .ok (.iload 5, 2) := by decide +kernel
theorem dX12_sale_135 : decode cX12_sale 135 = .ok (.dup2, 1) := by decide +kernel
theorem dX12_sale_136 : decode cX12_sale 136 = .ok (.iaload, 1) := by decide +kernel
theorem dX12_sale_137 : decode cX12_sale 137 = .ok (.iload 7, 2) := by decide +kernel
theorem dX12_sale_139 : decode cX12_sale 139 = .ok (.iadd, 1) := by decide +kernel
theorem dX12_sale_140 : decode cX12_sale 140 = .ok (.iastore, 1) := by decide +kernel
theorem dX12_sale_141 : decode cX12_sale 141 = .ok (.iload_n 3, 1) := by decide +kernel
theorem dX12_sale_142 : decode cX12_sale 142 = .ok (.iload 7, 2) := by decide +kernel
theorem dX12_sale_144 : decode cX12_sale 144 = .ok (.iadd, 1) := by decide +kernel
theorem dX12_sale_145 : decode cX12_sale 145 = .ok (.istore_n 3, 1) := by decide +kernel
theorem dX12_sale_146 : decode cX12_sale 146 = .ok (.iinc 4 1, 3) := by decide +kernel
theorem dX12_sale_149 : decode cX12_sale 149 = .ok (.goto (-107), 3) := by decide +kernel
theorem dX12_sale_152 : decode cX12_sale 152 = .ok (.aload_n 0, 1) := by decide +kernel
theorem dX12_sale_153 : decode cX12_sale 153 = .ok (.dup, 1) := by decide +kernel
theorem dX12_sale_154 : decode cX12_sale 154 = .ok (.getfield 506, 3) := by decide +kernel
theorem dX12_sale_157 : decode cX12_sale 157 = .ok (.iload_n 3, 1) := by decide +kernel
theorem dX12_sale_158 : decode cX12_sale 158 = .ok (.iadd, 1) := by decide +kernel
theorem dX12_sale_159 : decode cX12_sale 159 = .ok (.putfield 506, 3) := by decide +kernel
theorem dX12_sale_162 : decode cX12_sale 162 = .ok (.aload_n 0, 1) := by decide +kernel
theorem dX12_sale_163 : decode cX12_sale 163 = .ok (.getfield 7, 3) := by decide +kernel
theorem dX12_sale_166 : decode cX12_sale 166 = .ok (.iconst 0, 1) := by decide +kernel
theorem dX12_sale_167 : decode cX12_sale 167 = .ok (.dup2, 1) := by decide +kernel
theorem dX12_sale_168 : decode cX12_sale 168 = .ok (.iaload, 1) := by decide +kernel
theorem dX12_sale_169 : decode cX12_sale 169 = .ok (.iload_n 3, 1) := by decide +kernel
theorem dX12_sale_170 : decode cX12_sale 170 = .ok (.iadd, 1) := by decide +kernel
theorem dX12_sale_171 : decode cX12_sale 171 = .ok (.iastore, 1) := by decide +kernel
theorem dX12_sale_172 : decode cX12_sale 172 = .ok (.iload_n 3, 1) := by decide +kernel
theorem dX12_sale_173 : decode cX12_sale 173 = .ok (.ireturn, 1) := by decide +kernel
theorem dX12_bought_0 : decode cX12_bought 0 = .ok (.iload_n 1, 1) := by decide +kernel
theorem dX12_bought_1 : decode cX12_bought 1 = .ok (.invokestatic 500, 3) := by decide +kernel
theorem dX12_bought_4 : decode cX12_bought 4 = .ok (.ifCond .eq 34, 3) := by decide +kernel
theorem dX12_bought_7 : decode cX12_bought 7 = .ok (.iload_n 2, 1) := by decide +kernel
theorem dX12_bought_8 : decode cX12_bought 8 = .ok (.iconst 0, 1) := by decide +kernel
theorem dX12_bought_9 : decode cX12_bought 9 = .ok (.iconst 1, 1) := by decide +kernel
theorem dX12_bought_10 : decode cX12_bought 10 = .ok (.invokestatic 196, 3) := by decide +kernel
theorem dX12_bought_13 : decode cX12_bought 13 = .ok (.ifCond .eq 25, 3) := by decide +kernel
theorem dX12_bought_16 : decode cX12_bought 16 = .ok (.iload_n 2, 1) := by decide +kernel
theorem dX12_bought_17 : decode cX12_bought 17 = .ok (.ifCond .ne 12, 3) := by decide +kernel
theorem dX12_bought_20 : decode cX12_bought 20 = .ok (.aload_n 0, 1) := by decide +kernel
theorem dX12_bought_21 : decode cX12_bought 21 = .ok (.getfield 151, 3) := by decide +kernel
theorem dX12_bought_24 : decode cX12_bought 24 = .ok (.iload_n 1, 1) := by decide +kernel
theorem dX12_bought_25 : decode cX12_bought 25 = .ok (.iaload, 1) := by decide +kernel
theorem dX12_bought_26 : decode cX12_bought 26 = .ok (.goto 13, 3) := by decide +kernel
theorem dX12_bought_29 : decode cX12_bought 29 = .ok (.aload_n 0, 1) := by decide +kernel
theorem dX12_bought_30 : decode cX12_bought 30 = .ok (.getfield 154, 3) := by decide +kernel
theorem dX12_bought_33 : decode cX12_bought 33 = .ok (.iload_n 1, 1) := by decide +kernel
theorem dX12_bought_34 : decode cX12_bought 34 = .ok (.iaload, 1) := by decide +kernel
theorem dX12_bought_35 : decode cX12_bought 35 = .ok (.goto 4, 3) := by decide +kernel
theorem dX12_bought_38 : decode cX12_bought 38 = .ok (.iconst (-1), 1) := by decide +kernel
theorem dX12_bought_39 : decode cX12_bought 39 = .ok (.ireturn, 1) := by decide +kernel
theorem dX12_shares_0 : decode cX12_shares 0 = .ok (.iload_n 1, 1) := by decide +kernel
theorem dX12_shares_1 : decode cX12_shares 1 = .ok (.iconst 0, 1) := by decide +kernel
theorem dX12_shares_2 : decode cX12_shares 2 = .ok (.bipush 7, 2) := by decide +kernel
theorem dX12_shares_4 : decode cX12_shares 4 = .ok (.invokestatic 196, 3) := by decide +kernel
theorem dX12_shares_7 : decode cX12_shares 7 = .ok (.ifCond .eq 13, 3) := by decide +kernel
theorem dX12_shares_10 : decode cX12_shares 10 = .ok (.iload_n 2, 1) := by decide +kernel
theorem dX12_shares_11 : decode cX12_shares 11 = .ok (.iconst 0, 1) := by decide +kernel
theorem dX12_shares_12 : decode cX12_shares 12 = .ok (.bipush 7, 2) := by decide +kernel
theorem dX12_shares_14 : decode cX12_shares 14 = .ok (.invokestatic 196, 3) := by decide +kernel
theorem dX12_shares_17 : decode cX12_shares 17 = .ok (.ifCond .ne 5, 3) := by decide +kernel
theorem dX12_shares_20 : decode cX12_shares 20 = .ok (.iconst (-1), 1) := by decide +kernel
theorem dX12_shares_21 : decode cX12_shares 21 = .ok (.ireturn, 1) := by decide +kernel
theorem dX12_shares_22 : decode cX12_shares 22 = .ok (.iload_n 1, 1) := by decide +kernel
theorem dX12_shares_23 : decode cX12_shares 23 = .ok (.iload_n 2, 1) := by decide +kernel
theorem dX12_shares_24 : decode cX12_shares 24 = .ok (.if_icmp .eq 17, 3) := by decide +kernel
theorem dX12_shares_27 : decode cX12_shares 27 = .ok (.iload_n 3, 1) := by decide +kernel
theorem dX12_shares_28 : decode cX12_shares 28 = .ok (.iconst 1, 1) := by decide +kernel
theorem dX12_shares_29 : decode cX12_shares 29 = .ok (.aload_n 0, 1) := by decide +kernel
theorem dX12_shares_30 : decode cX12_shares 30 = .ok (.getfield 157, 3) := by decide +kernel
theorem dX12_shares_33 : decode cX12_shares 33 = .ok (.iload_n 1, 1) := by decide +kernel
theorem dX12_shares_34 : decode cX12_shares 34 = .ok (.iaload, 1) := by decide +kernel
theorem dX12_shares_35 : decode cX12_shares 35 = .ok (.invokestatic 196, 3) := by decide +kernel
theorem dX12_shares_38 : decode cX12_shares 38 = .ok (.ifCond .ne 6, 3) := by decide +kernel
theorem dX12_shares_41 : decode cX12_shares 41 = .ok (.bipush (-2), 2) := by decide +kernel
theorem dX12_shares_43 : decode cX12_shares 43 = .ok (.ireturn, 1) := by decide +kernel
theorem dX12_shares_44 : decode cX12_shares 44 = .ok (.aload_n 0, 1) := by decide +kernel
theorem dX12_shares_45 : decode cX12_shares 45 = .ok (.getfield 157, 3) := by decide +kernel
theorem dX12_shares_48 : decode cX12_shares 48 = .ok (.iload_n 1, 1) := by decide +kernel
theorem dX12_shares_49 : decode cX12_shares 49 = .ok (.dup2, 1) := by decide +kernel
theorem dX12_shares_50 : decode cX12_shares 50 = .ok (.iaload, 1) := by decide +kernel
theorem dX12_shares_51 : decode cX12_shares 51 = .ok (.iload_n 3, 1) := by decide +kernel
theorem dX12_shares_52 : decode cX12_shares 52 = .ok (.isub, 1) := by decide +kernel
theorem dX12_shares_53 : decode cX12_shares 53 = .ok (.iastore, 1) := by decide +kernel
theorem dX12_shares_54 : decode cX12_shares 54 = .ok (.aload_n 0, 1) := by decide +kernel
theorem dX12_shares_55 : decode cX12_shares 55 = .ok (.getfield 157, 3) := by decide +kernel
theorem dX12_shares_58 : decode cX12_shares 58 = .ok (.iload_n 2, 1) := by decide +kernel
theorem dX12_shares_59 : decode cX12_shares 59 = .ok (.dup2, 1) := by decide +kernel
theorem dX12_shares_60 : decode cX12_shares 60 = .ok (.iaload, 1) := by decide +kernel
theorem dX12_shares_61 : decode cX12_shares 61 = .ok (.iload_n 3, 1) := by decide +kernel
theorem dX12_shares_62 : decode cX12_shares 62 = .ok (.iadd, 1) := by decide +kernel
theorem dX12_shares_63 : decode cX12_shares 63 = .ok (.iastore, 1) := by decide +kernel
theorem dX12_shares_64 : decode cX12_shares 64 = .ok (.aload_n 0, 1) := by decide +kernel
theorem dX12_shares_65 : decode cX12_shares 65 = .ok (.getfield 157, 3) := by decide +kernel
theorem dX12_shares_68 : decode cX12_shares 68 = .ok (.iload_n 2, 1) := by decide +kernel
theorem dX12_shares_69 : decode cX12_shares 69 = .ok (.iaload, 1) := by decide +kernel
theorem dX12_shares_70 : decode cX12_shares 70 = .ok (.ireturn, 1) := by decide +kernel
theorem dX12_invoiced_0 : decode cX12_invoiced 0 = .ok (.iconst 0, 1) := by decide +kernel
theorem dX12_invoiced_1 : decode cX12_invoiced 1 = .ok (.istore_n 3, 1) := by decide +kernel
theorem dX12_invoiced_2 : decode cX12_invoiced 2 = .ok (.iload_n 3, 1) := by decide +kernel
theorem dX12_invoiced_3 : decode cX12_invoiced 3 = .ok (.aload_n 0, 1) := by decide +kernel
theorem dX12_invoiced_4 : decode cX12_invoiced 4 = .ok (.getfield 224, 3) := by decide +kernel
theorem dX12_invoiced_7 : decode cX12_invoiced 7 = .ok (.if_icmp .ge 52, 3) := by decide +kernel
theorem dX12_invoiced_10 : decode cX12_invoiced 10 = .ok (.aload_n 0, 1) := by decide +kernel
theorem dX12_invoiced_11 : decode cX12_invoiced 11 = .ok (.getfield 33, 3) := by decide +kernel
theorem dX12_invoiced_14 : decode cX12_invoiced 14 = .ok (.iload_n 3, 1) := by decide +kernel
theorem dX12_invoiced_15 : decode cX12_invoiced 15 = .ok (.iaload, 1) := by decide +kernel
theorem dX12_invoiced_16 : decode cX12_invoiced 16 = .ok (.iconst 4, 1) := by decide +kernel
theorem dX12_invoiced_17 : decode cX12_invoiced 17 = .ok (.if_icmp .ne 36, 3) := by decide +kernel
theorem dX12_invoiced_20 : decode cX12_invoiced 20 = .ok (.aload_n 0, 1) := by decide +kernel
theorem dX12_invoiced_21 : decode cX12_invoiced 21 = .ok (.getfield 36, 3) := by decide +kernel
theorem dX12_invoiced_24 : decode cX12_invoiced 24 = .ok (.iload_n 3, 1) := by decide +kernel
theorem dX12_invoiced_25 : decode cX12_invoiced 25 = .ok (.iaload, 1) := by decide +kernel
theorem dX12_invoiced_26 : decode cX12_invoiced 26 = .ok (.iload_n 1, 1) := by decide +kernel
theorem dX12_invoiced_27 : decode cX12_invoiced 27 = .ok (.if_icmp .ne 26, 3) := by decide +kernel
theorem dX12_invoiced_30 : decode cX12_invoiced 30 = .ok (.aload_n 0, 1) := by decide +kernel
theorem dX12_invoiced_31 : decode cX12_invoiced 31 = .ok (.getfield 39, 3) := by decide +kernel
theorem dX12_invoiced_34 : decode cX12_invoiced 34 = .ok (.iload_n 3, 1) := by decide +kernel
theorem dX12_invoiced_35 : decode cX12_invoiced 35 = .ok (.iaload, 1) := by decide +kernel
theorem dX12_invoiced_36 : decode cX12_invoiced 36 = .ok (.iload_n 2, 1) := by decide +kernel
theorem dX12_invoiced_37 : decode cX12_invoiced 37 = .ok (.if_icmp .lt 16, 3) := by decide +kernel
theorem dX12_invoiced_40 : decode cX12_invoiced 40 = .ok (.aload_n 0, 1) := by decide +kernel
theorem dX12_invoiced_41 : decode cX12_invoiced 41 = .ok (.getfield 48, 3) := by decide +kernel
theorem dX12_invoiced_44 : decode cX12_invoiced 44 = .ok (.iload_n 3, 1) := by decide +kernel
theorem dX12_invoiced_45 : decode cX12_invoiced 45 = .ok (.aaload, 1) := by decide +kernel
theorem dX12_invoiced_46 : decode cX12_invoiced 46 = .ok (.iconst 0, 1) := by decide +kernel
theorem dX12_invoiced_47 : decode cX12_invoiced 47 = .ok (.iaload, 1) := by decide +kernel
theorem dX12_invoiced_48 : decode cX12_invoiced 48 = .ok (.ifCond .lt 5, 3) := by decide +kernel
theorem dX12_invoiced_51 : decode cX12_invoiced 51 = .ok (.iconst 1, 1) := by decide +kernel
theorem dX12_invoiced_52 : decode cX12_invoiced 52 = .ok (.ireturn, 1) := by decide +kernel
theorem dX12_invoiced_53 : decode cX12_invoiced 53 = .ok (.iinc 3 1, 3) := by decide +kernel
theorem dX12_invoiced_56 : decode cX12_invoiced 56 = .ok (.goto (-54), 3) := by decide +kernel
theorem dX12_invoiced_59 : decode cX12_invoiced 59 = .ok (.iconst 0, 1) := by decide +kernel
theorem dX12_invoiced_60 : decode cX12_invoiced 60 = .ok (.ireturn, 1) := by decide +kernel
theorem dX12_gain_0 : decode cX12_gain 0 = .ok (.aload_n 0, 1) := by decide +kernel
theorem dX12_gain_1 : decode cX12_gain 1 = .ok (.getfield 506, 3) := by decide +kernel
theorem dX12_gain_4 : decode cX12_gain 4 = .ok (.aload_n 0, 1) := by decide +kernel
theorem dX12_gain_5 : decode cX12_gain 5 = .ok (.getfield 509, 3) := by decide +kernel
theorem dX12_gain_8 : decode cX12_gain 8 = .ok (.isub, 1) := by decide +kernel
theorem dX12_gain_9 : decode cX12_gain 9 = .ok (.istore_n 1, 1) := by decide +kernel
theorem dX12_gain_10 : decode cX12_gain 10 = .ok (.iconst 0, 1) := by decide +kernel
theorem dX12_gain_11 : decode cX12_gain 11 = .ok (.istore_n 2, 1) := by decide +kernel
theorem dX12_gain_12 : decode cX12_gain 12 = .ok (.iload_n 2, 1) := by decide +kernel
theorem dX12_gain_13 : decode cX12_gain 13 = .ok (.aload_n 0, 1) := by decide +kernel
theorem dX12_gain_14 : decode cX12_gain 14 = .ok (.getfield 409, 3) := by decide +kernel
theorem dX12_gain_17 : decode cX12_gain 17 = .ok (.sipush 500, 3) := by decide +kernel
theorem dX12_gain_20 : decode cX12_gain 20 = .ok (.invokestatic 437, 3) := by decide +kernel
theorem dX12_gain_23 : decode cX12_gain 23 = .ok (.if_icmp .ge 71, 3) := by decide +kernel
theorem dX12_gain_26 : decode cX12_gain 26 = .ok (.aload_n 0, 1) := by decide +kernel
theorem dX12_gain_27 : decode cX12_gain 27 = .ok (.getfield 127, 3) := by decide +kernel
theorem dX12_gain_30 : decode cX12_gain 30 = .ok (.iload_n 2, 1) := by decide +kernel
theorem dX12_gain_31 : decode cX12_gain 31 = .ok (.aaload, 1) := by decide +kernel
theorem dX12_gain_32 : decode cX12_gain 32 = .ok (.astore_n 3, 1) := by decide +kernel
theorem dX12_gain_33 : decode cX12_gain 33 = .ok (.aload_n 3, 1) := by decide +kernel
theorem dX12_gain_34 : decode cX12_gain 34 = .ok (.iconst 2, 1) := by decide +kernel
theorem dX12_gain_35 : decode cX12_gain 35 = .ok (.iaload, 1) := by decide +kernel
theorem dX12_gain_36 : decode cX12_gain 36 = .ok (.ifCond .eq 17, 3) := by decide +kernel
theorem dX12_gain_39 : decode cX12_gain 39 = .ok (.aload_n 3, 1) := by decide +kernel
theorem dX12_gain_40 : decode cX12_gain 40 = .ok (.iconst 2, 1) := by decide +kernel
theorem dX12_gain_41 : decode cX12_gain 41 = .ok (.iaload, 1) := by decide +kernel
theorem dX12_gain_42 : decode cX12_gain 42 = .ok (.iconst 1, 1) := by decide +kernel
theorem dX12_gain_43 : decode cX12_gain 43 = .ok (.if_icmp .eq 10, 3) := by decide +kernel
theorem dX12_gain_46 : decode cX12_gain 46 = .ok (.aload_n 3, 1) := by decide +kernel
theorem dX12_gain_47 : decode cX12_gain 47 = .ok (.iconst 2, 1) := by decide +kernel
theorem dX12_gain_48 : decode cX12_gain 48 = .ok (.iaload, 1) := by decide +kernel
theorem dX12_gain_49 : decode cX12_gain 49 = .ok (.iconst 5, 1) := by decide +kernel
theorem dX12_gain_50 : decode cX12_gain 50 = .ok (.if_icmp .ne 7, 3) := by decide +kernel
theorem dX12_gain_53 : decode cX12_gain 53 = .ok (.iconst 1, 1) := by decide +kernel
theorem dX12_gain_54 : decode cX12_gain 54 = .ok (.goto 4, 3) := by decide +kernel
theorem dX12_gain_57 : decode cX12_gain 57 = .ok (.iconst 0, 1) := by decide +kernel
theorem dX12_gain_58 : decode cX12_gain 58 = .ok (.istore 4, 2) := by decide +kernel
theorem dX12_gain_60 : decode cX12_gain 60 = .ok (.iload_n 1, 1) := by decide +kernel
theorem dX12_gain_61 : decode cX12_gain 61 = .ok (.iload 4, 2) := by decide +kernel
theorem dX12_gain_63 : decode cX12_gain 63 = .ok (.ifCond .eq 22, 3) := by decide +kernel
theorem dX12_gain_66 : decode cX12_gain 66 = .ok (.aload_n 0, 1) := by decide +kernel
theorem dX12_gain_67 : decode cX12_gain 67 = .ok (.aload_n 3, 1) := by decide +kernel
theorem dX12_gain_68 : decode cX12_gain 68 = .ok (.iconst 1, 1) := by decide +kernel
theorem dX12_gain_69 : decode cX12_gain 69 = .ok (.iaload, 1) := by decide +kernel
theorem dX12_gain_70 : decode cX12_gain 70 = .ok (.aload_n 3, 1) := by decide +kernel
theorem dX12_gain_71 : decode cX12_gain 71 = .ok (.iconst 0, 1) := by decide +kernel
theorem dX12_gain_72 : decode cX12_gain 72 = .ok (.iaload, 1) := by decide +kernel
theorem dX12_gain_73 : decode cX12_gain 73 = .ok (.invokevirtual 512, 3) := by decide +kernel
theorem dX12_gain_76 : decode cX12_gain 76 = .ok (.ifCond .eq 9, 3) := by decide +kernel
theorem dX12_gain_79 : decode cX12_gain 79 = .ok (.aload_n 3, 1) := by decide +kernel
theorem dX12_gain_80 : decode cX12_gain 80 = .ok (.iconst 5, 1) := by decide +kernel
theorem dX12_gain_81 : decode cX12_gain 81 = .ok (.iaload, 1) := by decide +kernel
theorem dX12_gain_82 : decode cX12_gain 82 = .ok (.goto 4, 3) := by decide +kernel
theorem dX12_gain_85 : decode cX12_gain 85 = .ok (.iconst 0, 1) := by decide +kernel
theorem dX12_gain_86 : decode cX12_gain 86 = .ok (.isub, 1) := by decide +kernel
theorem dX12_gain_87 : decode cX12_gain 87 = .ok (.istore_n 1, 1) := by decide +kernel
theorem dX12_gain_88 : decode cX12_gain 88 = .ok (.iinc 2 1, 3) := by decide +kernel
theorem dX12_gain_91 : decode cX12_gain 91 = .ok (.goto (-79), 3) := by decide +kernel
theorem dX12_gain_94 : decode cX12_gain 94 = .ok (.iload_n 1, 1) := by decide +kernel
theorem dX12_gain_95 : decode cX12_gain 95 = .ok (.ireturn, 1) := by decide +kernel
theorem dX12_divide_0 : decode cX12_divide 0 = .ok (.iload_n 1, 1) := by decide +kernel
theorem dX12_divide_1 : decode cX12_divide 1 = .ok (.ifCond .lt 21, 3) := by decide +kernel
theorem dX12_divide_4 : decode cX12_divide 4 = .ok (.iload_n 1, 1) := by decide +kernel
theorem dX12_divide_5 : decode cX12_divide 5 = .ok (.aload_n 0, 1) := by decide +kernel
theorem dX12_divide_6 : decode cX12_divide 6 = .ok (.invokevirtual 515, 3) := by decide +kernel
theorem dX12_divide_9 : decode cX12_divide 9 = .ok (.if_icmp .gt 13, 3) := by decide +kernel
theorem dX12_divide_12 : decode cX12_divide 12 = .ok (.iload_n 1, 1) := by decide +kernel
theorem dX12_divide_13 : decode cX12_divide 13 = .ok (.aload_n 0, 1) := by decide +kernel
theorem dX12_divide_14 : decode cX12_divide 14 = .ok (.getfield 7, 3) := by decide +kernel
theorem dX12_divide_17 : decode cX12_divide 17 = .ok (.iconst 0, 1) := by decide +kernel
theorem dX12_divide_18 : decode cX12_divide 18 = .ok (.iaload, 1) := by decide +kernel
theorem dX12_divide_19 : decode cX12_divide 19 = .ok (.if_icmp .le 6, 3) := by decide +kernel
theorem dX12_divide_22 : decode cX12_divide 22 = .ok (.bipush (-2), 2) := by decide +kernel
theorem dX12_divide_24 : decode cX12_divide 24 = .ok (.ireturn, 1) := by decide +kernel
theorem dX12_divide_25 : decode cX12_divide 25 = .ok (.iconst 0, 1) := by decide +kernel
theorem dX12_divide_26 : decode cX12_divide 26 = .ok (.istore_n 2, 1) := by decide +kernel
theorem dX12_divide_27 : decode cX12_divide 27 = .ok (.iconst 0, 1) := by decide +kernel
theorem dX12_divide_28 : decode cX12_divide 28 = .ok (.istore_n 3, 1) := by decide +kernel
theorem dX12_divide_29 : decode cX12_divide 29 = .ok (.iload_n 3, 1) := by decide +kernel
theorem dX12_divide_30 : decode cX12_divide 30 = .ok (.bipush 8, 2) := by decide +kernel
theorem dX12_divide_32 : decode cX12_divide 32 = .ok (.if_icmp .ge 42, 3) := by decide +kernel
theorem dX12_divide_35 : decode cX12_divide 35 = .ok (.iload_n 1, 1) := by decide +kernel
theorem dX12_divide_36 : decode cX12_divide 36 = .ok (.i2l, 1) := by decide +kernel
theorem dX12_divide_37 : decode cX12_divide 37 = .ok (.aload_n 0, 1) := by decide +kernel
theorem dX12_divide_38 : decode cX12_divide 38 = .ok (.getfield 157, 3) := by decide +kernel
theorem dX12_divide_41 : decode cX12_divide 41 = .ok (.iload_n 3, 1) := by decide +kernel
theorem dX12_divide_42 : decode cX12_divide 42 = .ok (.iaload, 1) := by decide +kernel
theorem dX12_divide_43 : decode cX12_divide 43 = .ok (.i2l, 1) := by decide +kernel
theorem dX12_divide_44 : decode cX12_divide 44 = .ok (.lmul, 1) := by decide +kernel
theorem dX12_divide_45 : decode cX12_divide 45 = .ok (.ldc2_w 518, 3) := by decide +kernel
theorem dX12_divide_48 : decode cX12_divide 48 = .ok (.ldiv, 1) := by decide +kernel
theorem dX12_divide_49 : decode cX12_divide 49 = .ok (.l2i, 1) := by decide +kernel
theorem dX12_divide_50 : decode cX12_divide 50 = .ok (.istore 4, 2) := by decide +kernel
theorem dX12_divide_52 : decode cX12_divide 52 = .ok (.aload_n 0, 1) := by decide +kernel
theorem dX12_divide_53 : decode cX12_divide 53 = .ok (.getfield 160, 3) := by decide +kernel
theorem dX12_divide_56 : decode cX12_divide 56 = .ok (.iload_n 3, 1) := by decide +kernel
theorem dX12_divide_57 : decode cX12_divide 57 = .ok (.dup2, 1) := by decide +kernel
theorem dX12_divide_58 : decode cX12_divide 58 = .ok (.iaload, 1) := by decide +kernel
theorem dX12_divide_59 : decode cX12_divide 59 = .ok (.iload 4, 2) := by decide +kernel
theorem dX12_divide_61 : decode cX12_divide 61 = .ok (.iadd, 1) := by decide +kernel
theorem dX12_divide_62 : decode cX12_divide 62 = .ok (.iastore, 1) := by decide +kernel
theorem dX12_divide_63 : decode cX12_divide 63 = .ok (.iload_n 2, 1) := by decide +kernel
theorem dX12_divide_64 : decode cX12_divide 64 = .ok (.iload 4, 2) := by decide +kernel
theorem dX12_divide_66 : decode cX12_divide 66 = .ok (.iadd, 1) := by decide +kernel
theorem dX12_divide_67 : decode cX12_divide 67 = .ok (.istore_n 2, 1) := by decide +kernel
theorem dX12_divide_68 : decode cX12_divide 68 = .ok (.iinc 3 1, 3) := by decide +kernel
theorem dX12_divide_71 : decode cX12_divide 71 = .ok (.goto (-42), 3) := by decide +kernel
theorem dX12_divide_74 : decode cX12_divide 74 = .ok (.aload_n 0, 1) := by decide +kernel
theorem dX12_divide_75 : decode cX12_divide 75 = .ok (.getfield 7, 3) := by decide +kernel
theorem dX12_divide_78 : decode cX12_divide 78 = .ok (.iconst 0, 1) := by decide +kernel
theorem dX12_divide_79 : decode cX12_divide 79 = .ok (.dup2, 1) := by decide +kernel
theorem dX12_divide_80 : decode cX12_divide 80 = .ok (.iaload, 1) := by decide +kernel
theorem dX12_divide_81 : decode cX12_divide 81 = .ok (.iload_n 2, 1) := by decide +kernel
theorem dX12_divide_82 : decode cX12_divide 82 = .ok (.isub, 1) := by decide +kernel
theorem dX12_divide_83 : decode cX12_divide 83 = .ok (.iastore, 1) := by decide +kernel
theorem dX12_divide_84 : decode cX12_divide 84 = .ok (.aload_n 0, 1) := by decide +kernel
theorem dX12_divide_85 : decode cX12_divide 85 = .ok (.dup, 1) := by decide +kernel
theorem dX12_divide_86 : decode cX12_divide 86 = .ok (.getfield 509, 3) := by decide +kernel
theorem dX12_divide_89 : decode cX12_divide 89 = .ok (.iload_n 2, 1) := by decide +kernel
theorem dX12_divide_90 : decode cX12_divide 90 = .ok (.iadd, 1) := by decide +kernel
theorem dX12_divide_91 : decode cX12_divide 91 = .ok (.putfield 509, 3) := by decide +kernel
theorem dX12_divide_94 : decode cX12_divide 94 = .ok (.iload_n 2, 1) := by decide +kernel
theorem dX12_divide_95 : decode cX12_divide 95 = .ok (.ireturn, 1) := by decide +kernel
theorem dX12_holder_0 : decode cX12_holder 0 = .ok (.iload_n 1, 1) := by decide +kernel
theorem dX12_holder_1 : decode cX12_holder 1 = .ok (.iconst 0, 1) := by decide +kernel
theorem dX12_holder_2 : decode cX12_holder 2 = .ok (.bipush 7, 2) := by decide +kernel
theorem dX12_holder_4 : decode cX12_holder 4 = .ok (.invokestatic 196, 3) := by decide +kernel
theorem dX12_holder_7 : decode cX12_holder 7 = .ok (.ifCond .eq 34, 3) := by decide +kernel
theorem dX12_holder_10 : decode cX12_holder 10 = .ok (.iload_n 2, 1) := by decide +kernel
theorem dX12_holder_11 : decode cX12_holder 11 = .ok (.iconst 0, 1) := by decide +kernel
theorem dX12_holder_12 : decode cX12_holder 12 = .ok (.iconst 1, 1) := by decide +kernel
theorem dX12_holder_13 : decode cX12_holder 13 = .ok (.invokestatic 196, 3) := by decide +kernel
theorem dX12_holder_16 : decode cX12_holder 16 = .ok (.ifCond .eq 25, 3) := by decide +kernel
theorem dX12_holder_19 : decode cX12_holder 19 = .ok (.iload_n 2, 1) := by decide +kernel
theorem dX12_holder_20 : decode cX12_holder 20 = .ok (.ifCond .ne 12, 3) := by decide +kernel
theorem dX12_holder_23 : decode cX12_holder 23 = .ok (.aload_n 0, 1) := by decide +kernel
theorem dX12_holder_24 : decode cX12_holder 24 = .ok (.getfield 157, 3) := by decide +kernel
theorem dX12_holder_27 : decode cX12_holder 27 = .ok (.iload_n 1, 1) := by decide +kernel
theorem dX12_holder_28 : decode cX12_holder 28 = .ok (.iaload, 1) := by decide +kernel
theorem dX12_holder_29 : decode cX12_holder 29 = .ok (.goto 13, 3) := by decide +kernel
theorem dX12_holder_32 : decode cX12_holder 32 = .ok (.aload_n 0, 1) := by decide +kernel
theorem dX12_holder_33 : decode cX12_holder 33 = .ok (.getfield 160, 3) := by decide +kernel
theorem dX12_holder_36 : decode cX12_holder 36 = .ok (.iload_n 1, 1) := by decide +kernel
theorem dX12_holder_37 : decode cX12_holder 37 = .ok (.iaload, 1) := by decide +kernel
theorem dX12_holder_38 : decode cX12_holder 38 = .ok (.goto 4, 3) := by decide +kernel
theorem dX12_holder_41 : decode cX12_holder 41 = .ok (.iconst (-1), 1) := by decide +kernel
theorem dX12_holder_42 : decode cX12_holder 42 = .ok (.ireturn, 1) := by decide +kernel
theorem dX12_heard_0 : decode cX12_heard 0 = .ok (.iload_n 1, 1) := by decide +kernel
theorem dX12_heard_1 : decode cX12_heard 1 = .ok (.invokestatic 200, 3) := by decide +kernel
theorem dX12_heard_4 : decode cX12_heard 4 = .ok (.ifCond .eq 14, 3) := by decide +kernel
theorem dX12_heard_7 : decode cX12_heard 7 = .ok (.iload_n 2, 1) := by decide +kernel
theorem dX12_heard_8 : decode cX12_heard 8 = .ok (.invokestatic 204, 3) := by decide +kernel
theorem dX12_heard_11 : decode cX12_heard 11 = .ok (.ifCond .eq 7, 3) := by decide +kernel
theorem dX12_heard_14 : decode cX12_heard 14 = .ok (.iload_n 3, 1) := by decide +kernel
theorem dX12_heard_15 : decode cX12_heard 15 = .ok (.ifCond .ge 6, 3) := by decide +kernel
theorem dX12_heard_18 : decode cX12_heard 18 = .ok (.bipush (-5), 2) := by decide +kernel
theorem dX12_heard_20 : decode cX12_heard 20 = .ok (.ireturn, 1) := by decide +kernel
theorem dX12_heard_21 : decode cX12_heard 21 = .ok (.iconst (-1), 1) := by decide +kernel
theorem dX12_heard_22 : decode cX12_heard 22 = .ok (.istore 4, 2) := by decide +kernel
theorem dX12_heard_24 : decode cX12_heard 24 = .ok (.iconst 0, 1) := by decide +kernel
theorem dX12_heard_25 : decode cX12_heard 25 = .ok (.istore 5, 2) := by decide +kernel
theorem dX12_heard_27 : decode cX12_heard 27 = .ok (.iload 5, 2) := by decide +kernel
theorem dX12_heard_29 : decode cX12_heard 29 = .ok (.aload_n 0, 1) := by decide +kernel
theorem dX12_heard_30 : decode cX12_heard 30 = .ok (.getfield 224, 3) := by decide +kernel
theorem dX12_heard_33 : decode cX12_heard 33 = .ok (.if_icmp .ge 96, 3) := by decide +kernel
theorem dX12_heard_36 : decode cX12_heard 36 = .ok (.aload_n 0, 1) := by decide +kernel
theorem dX12_heard_37 : decode cX12_heard 37 = .ok (.getfield 33, 3) := by decide +kernel
theorem dX12_heard_40 : decode cX12_heard 40 = .ok (.iload 5, 2) := by decide +kernel
theorem dX12_heard_42 : decode cX12_heard 42 = .ok (.iaload, 1) := by decide +kernel
theorem dX12_heard_43 : decode cX12_heard 43 = .ok (.iconst 1, 1) := by decide +kernel
theorem dX12_heard_44 : decode cX12_heard 44 = .ok (.if_icmp .ne 28, 3) := by decide +kernel
theorem dX12_heard_47 : decode cX12_heard 47 = .ok (.aload_n 0, 1) := by decide +kernel
theorem dX12_heard_48 : decode cX12_heard 48 = .ok (.getfield 36, 3) := by decide +kernel
theorem dX12_heard_51 : decode cX12_heard 51 = .ok (.iload 5, 2) := by decide +kernel
theorem dX12_heard_53 : decode cX12_heard 53 = .ok (.iaload, 1) := by decide +kernel
theorem dX12_heard_54 : decode cX12_heard 54 = .ok (.iload_n 1, 1) := by decide +kernel
theorem dX12_heard_55 : decode cX12_heard 55 = .ok (.if_icmp .ne 17, 3) := by decide +kernel
theorem dX12_heard_58 : decode cX12_heard 58 = .ok (.aload_n 0, 1) := by decide +kernel
theorem dX12_heard_59 : decode cX12_heard 59 = .ok (.getfield 42, 3) := by decide +kernel
theorem dX12_heard_62 : decode cX12_heard 62 = .ok (.iload 5, 2) := by decide +kernel
theorem dX12_heard_64 : decode cX12_heard 64 = .ok (.iaload, 1) := by decide +kernel
theorem dX12_heard_65 : decode cX12_heard 65 = .ok (.ifCond .ne 7, 3) := by decide +kernel
theorem dX12_heard_68 : decode cX12_heard 68 = .ok (.iconst 1, 1) := by decide +kernel
theorem dX12_heard_69 : decode cX12_heard 69 = .ok (.goto 4, 3) := by decide +kernel
theorem dX12_heard_72 : decode cX12_heard 72 = .ok (.iconst 0, 1) := by decide +kernel
theorem dX12_heard_73 : decode cX12_heard 73 = .ok (.istore 6, 2) := by decide +kernel
theorem dX12_heard_75 : decode cX12_heard 75 = .ok (.iload 6, 2) := by decide +kernel
theorem dX12_heard_77 : decode cX12_heard 77 = .ok (.ifCond .eq 46, 3) := by decide +kernel
theorem dX12_heard_80 : decode cX12_heard 80 = .ok (.aload_n 0, 1) := by decide +kernel
theorem dX12_heard_81 : decode cX12_heard 81 = .ok (.getfield 48, 3) := by decide +kernel
theorem dX12_heard_84 : decode cX12_heard 84 = .ok (.iload 5, 2) := by decide +kernel
theorem dX12_heard_86 : decode cX12_heard 86 = .ok (.aaload, 1) := by decide +kernel
theorem dX12_heard_87 : decode cX12_heard 87 = .ok (.iconst 0, 1) := by decide +kernel
theorem dX12_heard_88 : decode cX12_heard 88 = .ok (.iaload, 1) := by decide +kernel
theorem dX12_heard_89 : decode cX12_heard 89 = .ok (.iconst 0, 1) := by decide +kernel
theorem dX12_heard_90 : decode cX12_heard 90 = .ok (.iload_n 3, 1) := by decide +kernel
theorem dX12_heard_91 : decode cX12_heard 91 = .ok (.invokestatic 196, 3) := by decide +kernel
theorem dX12_heard_94 : decode cX12_heard 94 = .ok (.ifCond .eq 29, 3) := by decide +kernel
theorem dX12_heard_97 : decode cX12_heard 97 = .ok (.iload 4, 2) := by decide +kernel
theorem dX12_heard_99 : decode cX12_heard 99 = .ok (.ifCond .lt 20, 3) := by decide +kernel
theorem dX12_heard_102 : decode cX12_heard 102 = .ok (.aload_n 0, 1) := by decide +kernel
theorem dX12_heard_103 : decode cX12_heard 103 = .ok (.getfield 39, 3) := by decide +kernel
theorem dX12_heard_106 : decode cX12_heard 106 = .ok (.iload 5, 2) := by decide +kernel
theorem dX12_heard_108 : decode cX12_heard 108 = .ok (.iaload, 1) := by decide +kernel
theorem dX12_heard_109 : decode cX12_heard 109 = .ok (.aload_n 0, 1) := by decide +kernel
theorem dX12_heard_110 : decode cX12_heard 110 = .ok (.getfield 39, 3) := by decide +kernel
theorem dX12_heard_113 : decode cX12_heard 113 = .ok (.iload 4, 2) := by decide +kernel
theorem dX12_heard_115 : decode cX12_heard 115 = .ok (.iaload, 1) := by decide +kernel
theorem dX12_heard_116 : decode cX12_heard 116 = .ok (.if_icmp .lt 7, 3) := by decide +kernel
theorem dX12_heard_119 : decode cX12_heard 119 = .ok (.iload 5, 2) := by decide +kernel
theorem dX12_heard_121 : decode cX12_heard 121 = .ok (.istore 4, 2) := by decide +kernel
theorem dX12_heard_123 : decode cX12_heard 123 = .ok (.iinc 5 1, 3) := by decide +kernel
theorem dX12_heard_126 : decode cX12_heard 126 = .ok (.goto (-99), 3) := by decide +kernel
theorem dX12_heard_129 : decode cX12_heard 129 = .ok (.iload 4, 2) := by decide +kernel
theorem dX12_heard_131 : decode cX12_heard 131 = .ok (.ifCond .ge 7, 3) := by decide +kernel
theorem dX12_heard_134 : decode cX12_heard 134 = .ok (.iconst (-1), 1) := by decide +kernel
theorem dX12_heard_135 : decode cX12_heard 135 = .ok (.goto 12, 3) := by decide +kernel
theorem dX12_heard_138 : decode cX12_heard 138 = .ok (.aload_n 0, 1) := by decide +kernel
theorem dX12_heard_139 : decode cX12_heard 139 = .ok (.getfield 51, 3) := by decide +kernel
theorem dX12_heard_142 : decode cX12_heard 142 = .ok (.iload 4, 2) := by decide +kernel
theorem dX12_heard_144 : decode cX12_heard 144 = .ok (.aaload, 1) := by decide +kernel
theorem dX12_heard_145 : decode cX12_heard 145 = .ok (.iload_n 2, 1) := by decide +kernel
theorem dX12_heard_146 : decode cX12_heard 146 = .ok (.iaload, 1) := by decide +kernel
theorem dX12_heard_147 : decode cX12_heard 147 = .ok (.ireturn, 1) := by decide +kernel
theorem dX12_year_0 : decode cX12_year 0 = .ok (.iload_n 1, 1) := by decide +kernel
theorem dX12_year_1 : decode cX12_year 1 = .ok (.iconst 0, 1) := by decide +kernel
theorem dX12_year_2 : decode cX12_year 2 = .ok (.iconst 3, 1) := by decide +kernel
theorem dX12_year_3 : decode cX12_year 3 = .ok (.invokestatic 196, 3) := by decide +kernel
theorem dX12_year_6 : decode cX12_year 6 = .ok (.ifCond .eq 10, 3) := by decide +kernel
theorem dX12_year_9 : decode cX12_year 9 = .ok (.iload_n 2, 1) := by decide +kernel
theorem dX12_year_10 : decode cX12_year 10 = .ok (.invokestatic 204, 3) := by decide +kernel
theorem dX12_year_13 : decode cX12_year 13 = .ok (.ifCond .ne 5, 3) := by decide +kernel
theorem dX12_year_16 : decode cX12_year 16 = .ok (.iconst (-1), 1) := by decide +kernel
theorem dX12_year_17 : decode cX12_year 17 = .ok (.ireturn, 1) := by decide +kernel
theorem dX12_year_18 : decode cX12_year 18 = .ok (.iload_n 3, 1) := by decide +kernel
theorem dX12_year_19 : decode cX12_year 19 = .ok (.iconst 0, 1) := by decide +kernel
theorem dX12_year_20 : decode cX12_year 20 = .ok (.sipush 999, 3) := by decide +kernel
theorem dX12_year_23 : decode cX12_year 23 = .ok (.invokestatic 196, 3) := by decide +kernel
theorem dX12_year_26 : decode cX12_year 26 = .ok (.ifCond .ne 6, 3) := by decide +kernel
theorem dX12_year_29 : decode cX12_year 29 = .ok (.bipush (-2), 2) := by decide +kernel
theorem dX12_year_31 : decode cX12_year 31 = .ok (.ireturn, 1) := by decide +kernel
theorem dX12_year_32 : decode cX12_year 32 = .ok (.aload_n 0, 1) := by decide +kernel
theorem dX12_year_33 : decode cX12_year 33 = .ok (.getfield 163, 3) := by decide +kernel
theorem dX12_year_36 : decode cX12_year 36 = .ok (.iload_n 1, 1) := by decide +kernel
theorem dX12_year_37 : decode cX12_year 37 = .ok (.aaload, 1) := by decide +kernel
theorem dX12_year_38 : decode cX12_year 38 = .ok (.iload_n 2, 1) := by decide +kernel
theorem dX12_year_39 : decode cX12_year 39 = .ok (.iaload, 1) := by decide +kernel
theorem dX12_year_40 : decode cX12_year 40 = .ok (.istore 4, 2) := by decide +kernel
theorem dX12_year_42 : decode cX12_year 42 = .ok (.aload_n 0, 1) := by decide +kernel
theorem dX12_year_43 : decode cX12_year 43 = .ok (.getfield 163, 3) := by decide +kernel
theorem dX12_year_46 : decode cX12_year 46 = .ok (.iload_n 1, 1) := by decide +kernel
theorem dX12_year_47 : decode cX12_year 47 = .ok (.aaload, 1) := by decide +kernel
theorem dX12_year_48 : decode cX12_year 48 = .ok (.iload_n 2, 1) := by decide +kernel
theorem dX12_year_49 : decode cX12_year 49 = .ok (.iload_n 3, 1) := by decide +kernel
theorem dX12_year_50 : decode cX12_year 50 = .ok (.iastore, 1) := by decide +kernel
theorem dX12_year_51 : decode cX12_year 51 = .ok (.iload 4, 2) := by decide +kernel
theorem dX12_year_53 : decode cX12_year 53 = .ok (.ireturn, 1) := by decide +kernel
theorem dX12_judge_0 : decode cX12_judge 0 = .ok (.iconst 0, 1) := by decide +kernel
theorem dX12_judge_1 : decode cX12_judge 1 = .ok (.istore 4, 2) := by decide +kernel
theorem dX12_judge_3 : decode cX12_judge 3 = .ok (.iconst 0, 1) := by decide +kernel
theorem dX12_judge_4 : decode cX12_judge 4 = .ok (.istore 5, 2) := by decide +kernel
theorem dX12_judge_6 : decode cX12_judge 6 = .ok (.iconst 0, 1) := by decide +kernel
theorem dX12_judge_7 : decode cX12_judge 7 = .ok (.istore 6, 2) := by decide +kernel
theorem dX12_judge_9 : decode cX12_judge 9 = .ok (.iload 6, 2) := by decide +kernel
theorem dX12_judge_11 : decode cX12_judge 11 = .ok (.iconst 4, 1) := by decide +kernel
theorem dX12_judge_12 : decode cX12_judge 12 = .ok (.if_icmp .ge 49, 3) := by decide +kernel
theorem dX12_judge_15 : decode cX12_judge 15 = .ok (.iload 4, 2) := by decide +kernel
theorem dX12_judge_17 : decode cX12_judge 17 = .ok (.bipush 10, 2) := by decide +kernel
theorem dX12_judge_19 : decode cX12_judge 19 = .ok (.aload_n 0, 1) := by decide +kernel
theorem dX12_judge_20 : decode cX12_judge 20 = .ok (.getfield 190, 3) := by decide +kernel
theorem dX12_judge_23 : decode cX12_judge 23 = .ok (.iload 6, 2) := by decide +kernel
theorem dX12_judge_25 : decode cX12_judge 25 = .ok (.iaload, 1) := by decide +kernel
theorem dX12_judge_26 : decode cX12_judge 26 = .ok (.imul, 1) := by decide +kernel
theorem dX12_judge_27 : decode cX12_judge 27 = .ok (.iadd, 1) := by decide +kernel
theorem dX12_judge_28 : decode cX12_judge 28 = .ok (.istore 4, 2) := by decide +kernel
theorem dX12_judge_30 : decode cX12_judge 30 = .ok (.iload 5, 2) := by decide +kernel
theorem dX12_judge_32 : decode cX12_judge 32 = .ok (.bipush 10, 2) := by decide +kernel
theorem dX12_judge_34 : decode cX12_judge 34 = .ok (.aload_n 0, 1) := by decide +kernel
theorem dX12_judge_35 : decode cX12_judge 35 = .ok (.getfield 190, 3) := by decide +kernel
theorem dX12_judge_38 : decode cX12_judge 38 = .ok (.iload 6, 2) := by decide +kernel
theorem dX12_judge_40 : decode cX12_judge 40 = .ok (.iaload, 1) := by decide +kernel
theorem dX12_judge_41 : decode cX12_judge 41 = .ok (.imul, 1) := by decide +kernel
theorem dX12_judge_42 : decode cX12_judge 42 = .ok (.aload_n 0, 1) := by decide +kernel
theorem dX12_judge_43 : decode cX12_judge 43 = .ok (.getfield 21, 3) := by decide +kernel
theorem dX12_judge_46 : decode cX12_judge 46 = .ok (.iload_n 1, 1) := by decide +kernel
theorem dX12_judge_47 : decode cX12_judge 47 = .ok (.aaload, 1) := by decide +kernel
theorem dX12_judge_48 : decode cX12_judge 48 = .ok (.iload 6, 2) := by decide +kernel
theorem dX12_judge_50 : decode cX12_judge 50 = .ok (.iaload, 1) := by decide +kernel
theorem dX12_judge_51 : decode cX12_judge 51 = .ok (.imul, 1) := by decide +kernel
theorem dX12_judge_52 : decode cX12_judge 52 = .ok (.iadd, 1) := by decide +kernel
theorem dX12_judge_53 : decode cX12_judge 53 = .ok (.istore 5, 2) := by decide +kernel
theorem dX12_judge_55 : decode cX12_judge 55 = .ok (.iinc 6 1, 3) := by decide +kernel
theorem dX12_judge_58 : decode cX12_judge 58 = .ok (.goto (-49), 3) := by decide +kernel
theorem dX12_judge_61 : decode cX12_judge 61 = .ok (.iload 4, 2) := by decide +kernel
theorem dX12_judge_63 : decode cX12_judge 63 = .ok (.iload_n 2, 1) := by decide +kernel
theorem dX12_judge_64 : decode cX12_judge 64 = .ok (.if_icmp .gt 9, 3) := by decide +kernel
theorem dX12_judge_67 : decode cX12_judge 67 = .ok (.iload 5, 2) := by decide +kernel
theorem dX12_judge_69 : decode cX12_judge 69 = .ok (.iload_n 3, 1) := by decide +kernel
theorem dX12_judge_70 : decode cX12_judge 70 = .ok (.if_icmp .le 4, 3) := by decide +kernel
theorem dX12_judge_73 : decode cX12_judge 73 = .ok (.return_, 1) := by decide +kernel
theorem dX12_judge_74 : decode cX12_judge 74 = .ok (.ldc_w 520, 3) := by decide +kernel
theorem dX12_judge_77 : decode cX12_judge 77 = .ok (.istore 6, 2) := by decide +kernel
theorem dX12_judge_79 : decode cX12_judge 79 = .ok (.iconst 0, 1) := by decide +kernel
theorem dX12_judge_80 : decode cX12_judge 80 = .ok (.istore 7, 2) := by decide +kernel
theorem dX12_judge_82 : decode cX12_judge 82 = .ok (.iload 7, 2) := by decide +kernel
theorem dX12_judge_84 : decode cX12_judge 84 = .ok (.iconst 4, 1) := by decide +kernel
theorem dX12_judge_85 : decode cX12_judge 85 = .ok (.if_icmp .ge 64, 3) := by decide +kernel
theorem dX12_judge_88 : decode cX12_judge 88 = .ok (.iload 5, 2) := by decide +kernel
theorem dX12_judge_90 : decode cX12_judge 90 = .ok (.ineg, 1) := by decide +kernel
theorem dX12_judge_91 : decode cX12_judge 91 = .ok (.istore 8, 2) := by decide +kernel
theorem dX12_judge_93 : decode cX12_judge 93 = .ok (.iconst 0, 1) := by decide +kernel
theorem dX12_judge_94 : decode cX12_judge 94 = .ok (.istore 9, 2) := by decide +kernel
theorem dX12_judge_96 : decode cX12_judge 96 = .ok (.iload 9, 2) := by decide +kernel
theorem dX12_judge_98 : decode cX12_judge 98 = .ok (.iconst 4, 1) := by decide +kernel
theorem dX12_judge_99 : decode cX12_judge 99 = .ok (.if_icmp .ge 35, 3) := by decide +kernel
theorem dX12_judge_102 : decode cX12_judge 102 = .ok (.iload 8, 2) := by decide +kernel
theorem dX12_judge_104 : decode cX12_judge 104 = .ok (.bipush 10, 2) := by decide +kernel
theorem dX12_judge_106 : decode cX12_judge 106 = .ok (.aload_n 0, 1) := by decide +kernel
theorem dX12_judge_107 : decode cX12_judge 107 = .ok (.getfield 190, 3) := by decide +kernel
theorem dX12_judge_110 : decode cX12_judge 110 = .ok (.iload 9, 2) := by decide +kernel
theorem dX12_judge_112 : decode cX12_judge 112 = .ok (.iaload, 1) := by decide +kernel
theorem dX12_judge_113 : decode cX12_judge 113 = .ok (.imul, 1) := by decide +kernel
theorem dX12_judge_114 : decode cX12_judge 114 = .ok (.aload_n 0, 1) := by decide +kernel
theorem dX12_judge_115 : decode cX12_judge 115 = .ok (.getfield 163, 3) := by decide +kernel
theorem dX12_judge_118 : decode cX12_judge 118 = .ok (.iload 7, 2) := by decide +kernel
theorem dX12_judge_120 : decode cX12_judge 120 = .ok (.aaload, 1) := by decide +kernel
theorem dX12_judge_121 : decode cX12_judge 121 = .ok (.iload 9, 2) := by decide +kernel
theorem dX12_judge_123 : decode cX12_judge 123 = .ok (.iaload, 1) := by decide +kernel
theorem dX12_judge_124 : decode cX12_judge 124 = .ok (.imul, 1) := by decide +kernel
theorem dX12_judge_125 : decode cX12_judge 125 = .ok (.iadd, 1) := by decide +kernel
theorem dX12_judge_126 : decode cX12_judge 126 = .ok (.istore 8, 2) := by decide +kernel
theorem dX12_judge_128 : decode cX12_judge 128 = .ok (.iinc 9 1, 3) := by decide +kernel
theorem dX12_judge_131 : decode cX12_judge 131 = .ok (.goto (-35), 3) := by decide +kernel
theorem dX12_judge_134 : decode cX12_judge 134 = .ok (.iload 6, 2) := by decide +kernel
theorem dX12_judge_136 : decode cX12_judge 136 = .ok (.iload 8, 2) := by decide +kernel
theorem dX12_judge_138 : decode cX12_judge 138 = .ok (.invokestatic 437, 3) := by decide +kernel
theorem dX12_judge_141 : decode cX12_judge 141 = .ok (.istore 6, 2) := by decide +kernel
theorem dX12_judge_143 : decode cX12_judge 143 = .ok (.iinc 7 1, 3) := by decide +kernel
theorem dX12_judge_146 : decode cX12_judge 146 = .ok (.goto (-64), 3) := by decide +kernel
theorem dX12_judge_149 : decode cX12_judge 149 = .ok (.iload 6, 2) := by decide +kernel
theorem dX12_judge_151 : decode cX12_judge 151 = .ok (.aload_n 0, 1) := by decide +kernel
theorem dX12_judge_152 : decode cX12_judge 152 = .ok (.getfield 193, 3) := by decide +kernel
theorem dX12_judge_155 : decode cX12_judge 155 = .ok (.iconst 0, 1) := by decide +kernel
theorem dX12_judge_156 : decode cX12_judge 156 = .ok (.iaload, 1) := by decide +kernel
theorem dX12_judge_157 : decode cX12_judge 157 = .ok (.if_icmp .le 25, 3) := by decide +kernel
theorem dX12_judge_160 : decode cX12_judge 160 = .ok (.aload_n 0, 1) := by decide +kernel
theorem dX12_judge_161 : decode cX12_judge 161 = .ok (.getfield 193, 3) := by decide +kernel
theorem dX12_judge_164 : decode cX12_judge 164 = .ok (.iconst 0, 1) := by decide +kernel
theorem dX12_judge_165 : decode cX12_judge 165 = .ok (.iload 6, 2) := by decide +kernel
theorem dX12_judge_167 : decode cX12_judge 167 = .ok (.iastore, 1) := by decide +kernel
theorem dX12_judge_168 : decode cX12_judge 168 = .ok (.aload_n 0, 1) := by decide +kernel
theorem dX12_judge_169 : decode cX12_judge 169 = .ok (.getfield 190, 3) := by decide +kernel
theorem dX12_judge_172 : decode cX12_judge 172 = .ok (.iconst 0, 1) := by decide +kernel
theorem dX12_judge_173 : decode cX12_judge 173 = .ok (.aload_n 0, 1) := by decide +kernel
theorem dX12_judge_174 : decode cX12_judge 174 = .ok (.getfield 193, 3) := by decide +kernel
theorem dX12_judge_177 : decode cX12_judge 177 = .ok (.iconst 1, 1) := by decide +kernel
theorem dX12_judge_178 : decode cX12_judge 178 = .ok (.iconst 4, 1) := by decide +kernel
theorem dX12_judge_179 : decode cX12_judge 179 = .ok (.invokestatic 303, 3) := by decide +kernel
theorem dX12_judge_182 : decode cX12_judge 182 = .ok (.return_, 1) := by decide +kernel
theorem dX12_plan_0 : decode cX12_plan 0 = .ok (.iload_n 1, 1) := by decide +kernel
theorem dX12_plan_1 : decode cX12_plan 1 = .ok (.invokestatic 200, 3) := by decide +kernel
theorem dX12_plan_4 : decode cX12_plan 4 = .ok (.ifCond .eq 34, 3) := by decide +kernel
theorem dX12_plan_7 : decode cX12_plan 7 = .ok (.iload_n 2, 1) := by decide +kernel
theorem dX12_plan_8 : decode cX12_plan 8 = .ok (.iconst 0, 1) := by decide +kernel
theorem dX12_plan_9 : decode cX12_plan 9 = .ok (.sipush 200, 3) := by decide +kernel
theorem dX12_plan_12 : decode cX12_plan 12 = .ok (.invokestatic 196, 3) := by decide +kernel
theorem dX12_plan_15 : decode cX12_plan 15 = .ok (.ifCond .eq 23, 3) := by decide +kernel
theorem dX12_plan_18 : decode cX12_plan 18 = .ok (.iload_n 3, 1) := by decide +kernel
theorem dX12_plan_19 : decode cX12_plan 19 = .ok (.iconst 0, 1) := by decide +kernel
theorem dX12_plan_20 : decode cX12_plan 20 = .ok (.ldc 215, 2) := by decide +kernel
theorem dX12_plan_22 : decode cX12_plan 22 = .ok (.invokestatic 196, 3) := by decide +kernel
theorem dX12_plan_25 : decode cX12_plan 25 = .ok (.ifCond .eq 13, 3) := by decide +kernel
theorem dX12_plan_28 : decode cX12_plan 28 = .ok (.iload 4, 2) := by decide +kernel
theorem dX12_plan_30 : decode cX12_plan 30 = .ok (.iconst 0, 1) := by decide +kernel
theorem dX12_plan_31 : decode cX12_plan 31 = .ok (.iconst 4, 1) := by decide +kernel
theorem dX12_plan_32 : decode cX12_plan 32 = .ok (.invokestatic 196, 3) := by decide +kernel
theorem dX12_plan_35 : decode cX12_plan 35 = .ok (.ifCond .ne 7, 3) := by decide +kernel
theorem dX12_plan_38 : decode cX12_plan 38 = .ok (.ldc_w 521, 3) := by decide +kernel
theorem dX12_plan_41 : decode cX12_plan 41 = .ok (.ireturn, 1) := by decide +kernel
theorem dX12_plan_42 : decode cX12_plan 42 = .ok (.aload_n 0, 1) := by decide +kernel
theorem dX12_plan_43 : decode cX12_plan 43 = .ok (.getfield 193, 3) := by decide +kernel
theorem dX12_plan_46 : decode cX12_plan 46 = .ok (.iconst 0, 1) := by decide +kernel
theorem dX12_plan_47 : decode cX12_plan 47 = .ok (.ldc_w 522, 3) := by decide +kernel
theorem dX12_plan_50 : decode cX12_plan 50 = .ok (.iastore, 1) := by decide +kernel
theorem dX12_plan_51 : decode cX12_plan 51 = .ok (.iconst 0, 1) := by decide +kernel
theorem dX12_plan_52 : decode cX12_plan 52 = .ok (.istore 5, 2) := by decide +kernel
theorem dX12_plan_54 : decode cX12_plan 54 = .ok (.iload 5, 2) := by decide +kernel
theorem dX12_plan_56 : decode cX12_plan 56 = .ok (.sipush 1296, 3) := by decide +kernel
theorem dX12_plan_59 : decode cX12_plan 59 = .ok (.if_icmp .ge 67, 3) := by decide +kernel
theorem dX12_plan_62 : decode cX12_plan 62 = .ok (.aload_n 0, 1) := by decide +kernel
theorem dX12_plan_63 : decode cX12_plan 63 = .ok (.getfield 190, 3) := by decide +kernel
theorem dX12_plan_66 : decode cX12_plan 66 = .ok (.iconst 0, 1) := by decide +kernel
theorem dX12_plan_67 : decode cX12_plan 67 = .ok (.iload 5, 2) := by decide +kernel
theorem dX12_plan_69 : decode cX12_plan 69 = .ok (.sipush 216, 3) := by decide +kernel
theorem dX12_plan_72 : decode cX12_plan 72 = .ok (.idiv, 1) := by decide +kernel
theorem dX12_plan_73 : decode cX12_plan 73 = .ok (.iastore, 1) := by decide +kernel
theorem dX12_plan_74 : decode cX12_plan 74 = .ok (.aload_n 0, 1) := by decide +kernel
theorem dX12_plan_75 : decode cX12_plan 75 = .ok (.getfield 190, 3) := by decide +kernel
theorem dX12_plan_78 : decode cX12_plan 78 = .ok (.iconst 1, 1) := by decide +kernel
theorem dX12_plan_79 : decode cX12_plan 79 = .ok (.iload 5, 2) := by decide +kernel
theorem dX12_plan_81 : decode cX12_plan 81 = .ok (.bipush 36, 2) := by decide +kernel
theorem dX12_plan_83 : decode cX12_plan 83 = .ok (.idiv, 1) := by decide +kernel
theorem dX12_plan_84 : decode cX12_plan 84 = .ok (.bipush 6, 2) := by decide +kernel
theorem dX12_plan_86 : decode cX12_plan 86 = .ok (.irem, 1) := by decide +kernel
theorem dX12_plan_87 : decode cX12_plan 87 = .ok (.iastore, 1) := by decide +kernel
theorem dX12_plan_88 : decode cX12_plan 88 = .ok (.aload_n 0, 1) := by decide +kernel
theorem dX12_plan_89 : decode cX12_plan 89 = .ok (.getfield 190, 3) := by decide +kernel
theorem dX12_plan_92 : decode cX12_plan 92 = .ok (.iconst 2, 1) := by decide +kernel
theorem dX12_plan_93 : decode cX12_plan 93 = .ok (.iload 5, 2) := by decide +kernel
theorem dX12_plan_95 : decode cX12_plan 95 = .ok (.bipush 6, 2) := by decide +kernel
theorem dX12_plan_97 : decode cX12_plan 97 = .ok (.idiv, 1) := by decide +kernel
theorem dX12_plan_98 : decode cX12_plan 98 = .ok (.bipush 6, 2) := by decide +kernel
theorem dX12_plan_100 : decode cX12_plan 100 = .ok (.irem, 1) := by decide +kernel
theorem dX12_plan_101 : decode cX12_plan 101 = .ok (.iastore, 1) := by decide +kernel
theorem dX12_plan_102 : decode cX12_plan 102 = .ok (.aload_n 0, 1) := by decide +kernel
theorem dX12_plan_103 : decode cX12_plan 103 = .ok (.getfield 190, 3) := by decide +kernel
theorem dX12_plan_106 : decode cX12_plan 106 = .ok (.iconst 3, 1) := by decide +kernel
theorem dX12_plan_107 : decode cX12_plan 107 = .ok (.iload 5, 2) := by decide +kernel
theorem dX12_plan_109 : decode cX12_plan 109 = .ok (.bipush 6, 2) := by decide +kernel
theorem dX12_plan_111 : decode cX12_plan 111 = .ok (.irem, 1) := by decide +kernel
theorem dX12_plan_112 : decode cX12_plan 112 = .ok (.iastore, 1) := by decide +kernel
theorem dX12_plan_113 : decode cX12_plan 113 = .ok (.aload_n 0, 1) := by decide +kernel
theorem dX12_plan_114 : decode cX12_plan 114 = .ok (.iload_n 1, 1) := by decide +kernel
theorem dX12_plan_115 : decode cX12_plan 115 = .ok (.iload_n 2, 1) := by decide +kernel
theorem dX12_plan_116 : decode cX12_plan 116 = .ok (.iload_n 3, 1) := by decide +kernel
theorem dX12_plan_117 : decode cX12_plan 117 = .ok (.invokevirtual 523, 3) := by decide +kernel
theorem dX12_plan_120 : decode cX12_plan 120 = .ok (.iinc 5 1, 3) := by decide +kernel
theorem dX12_plan_123 : decode cX12_plan 123 = .ok (.goto (-69), 3) := by decide +kernel
theorem dX12_plan_126 : decode cX12_plan 126 = .ok (.aload_n 0, 1) := by decide +kernel
theorem dX12_plan_127 : decode cX12_plan 127 = .ok (.getfield 193, 3) := by decide +kernel
theorem dX12_plan_130 : decode cX12_plan 130 = .ok (.iload 4, 2) := by decide +kernel
theorem dX12_plan_132 : decode cX12_plan 132 = .ok (.iaload, 1) := by decide +kernel
theorem dX12_plan_133 : decode cX12_plan 133 = .ok (.ireturn, 1) := by decide +kernel
theorem dX12_above_0 : decode cX12_above 0 = .ok (.iload_n 0, 1) := by decide +kernel
theorem dX12_above_1 : decode cX12_above 1 = .ok (.iconst 1, 1) := by decide +kernel
theorem dX12_above_2 : decode cX12_above 2 = .ok (.if_icmp .ne 7, 3) := by decide +kernel
theorem dX12_above_5 : decode cX12_above 5 = .ok (.iconst 0, 1) := by decide +kernel
theorem dX12_above_6 : decode cX12_above 6 = .ok (.goto 31, 3) := by decide +kernel
theorem dX12_above_9 : decode cX12_above 9 = .ok (.iload_n 0, 1) := by decide +kernel
theorem dX12_above_10 : decode cX12_above 10 = .ok (.iconst 5, 1) := by decide +kernel
theorem dX12_above_11 : decode cX12_above 11 = .ok (.if_icmp .ne 7, 3) := by decide +kernel
theorem dX12_above_14 : decode cX12_above 14 = .ok (.iconst 4, 1) := by decide +kernel
theorem dX12_above_15 : decode cX12_above 15 = .ok (.goto 22, 3) := by decide +kernel
theorem dX12_above_18 : decode cX12_above 18 = .ok (.iload_n 0, 1) := by decide +kernel
theorem dX12_above_19 : decode cX12_above 19 = .ok (.bipush 6, 2) := by decide +kernel
theorem dX12_above_21 : decode cX12_above 21 = .ok (.if_icmp .ne 7, 3) := by decide +kernel
theorem dX12_above_24 : decode cX12_above 24 = .ok (.iconst 3, 1) := by decide +kernel
theorem dX12_above_25 : decode cX12_above 25 = .ok (.goto 12, 3) := by decide +kernel
theorem dX12_above_28 : decode cX12_above 28 = .ok (.iload_n 0, 1) := by decide +kernel
theorem dX12_above_29 : decode cX12_above 29 = .ok (.ifCond .ne 7, 3) := by decide +kernel
theorem dX12_above_32 : decode cX12_above 32 = .ok (.iconst (-1), 1) := by decide +kernel
theorem dX12_above_33 : decode cX12_above 33 = .ok (.goto 4, 3) := by decide +kernel
theorem dX12_above_36 : decode cX12_above 36 = .ok (.iconst 1, 1) := by decide +kernel
theorem dX12_above_37 : decode cX12_above 37 = .ok (.ireturn, 1) := by decide +kernel
theorem dX12_bodyOf_0 : decode cX12_bodyOf 0 = .ok (.bipush 10, 2) := by decide +kernel
theorem dX12_bodyOf_2 : decode cX12_bodyOf 2 = .ok (.iload_n 0, 1) := by decide +kernel
theorem dX12_bodyOf_3 : decode cX12_bodyOf 3 = .ok (.imul, 1) := by decide +kernel
theorem dX12_bodyOf_4 : decode cX12_bodyOf 4 = .ok (.iload_n 1, 1) := by decide +kernel
theorem dX12_bodyOf_5 : decode cX12_bodyOf 5 = .ok (.iadd, 1) := by decide +kernel
theorem dX12_bodyOf_6 : decode cX12_bodyOf 6 = .ok (.lookupswitch 120 #[(0, 90), (1, 93), (2, 96), (11, 99), (20, 102), (32, 105), (42, 108), (51, 111), (52, 114), (60, 117)], 90) := by decide +kernel
theorem dX12_bodyOf_96 : decode cX12_bodyOf 96 = .ok (.bipush 10, 2) := by decide +kernel
theorem dX12_bodyOf_98 : decode cX12_bodyOf 98 = .ok (.ireturn, 1) := by decide +kernel
theorem dX12_bodyOf_99 : decode cX12_bodyOf 99 = .ok (.bipush 11, 2) := by decide +kernel
theorem dX12_bodyOf_101 : decode cX12_bodyOf 101 = .ok (.ireturn, 1) := by decide +kernel
theorem dX12_bodyOf_102 : decode cX12_bodyOf 102 = .ok (.bipush 12, 2) := by decide +kernel
theorem dX12_bodyOf_104 : decode cX12_bodyOf 104 = .ok (.ireturn, 1) := by decide +kernel
theorem dX12_bodyOf_105 : decode cX12_bodyOf 105 = .ok (.bipush 20, 2) := by decide +kernel
theorem dX12_bodyOf_107 : decode cX12_bodyOf 107 = .ok (.ireturn, 1) := by decide +kernel
theorem dX12_bodyOf_108 : decode cX12_bodyOf 108 = .ok (.bipush 30, 2) := by decide +kernel
theorem dX12_bodyOf_110 : decode cX12_bodyOf 110 = .ok (.ireturn, 1) := by decide +kernel
theorem dX12_bodyOf_111 : decode cX12_bodyOf 111 = .ok (.bipush 40, 2) := by decide +kernel
theorem dX12_bodyOf_113 : decode cX12_bodyOf 113 = .ok (.ireturn, 1) := by decide +kernel
theorem dX12_bodyOf_114 : decode cX12_bodyOf 114 = .ok (.bipush 50, 2) := by decide +kernel
theorem dX12_bodyOf_116 : decode cX12_bodyOf 116 = .ok (.ireturn, 1) := by decide +kernel
theorem dX12_bodyOf_117 : decode cX12_bodyOf 117 = .ok (.bipush 60, 2) := by decide +kernel
theorem dX12_bodyOf_119 : decode cX12_bodyOf 119 = .ok (.ireturn, 1) := by decide +kernel
theorem dX12_bodyOf_120 : decode cX12_bodyOf 120 = .ok (.bipush 61, 2) := by decide +kernel
theorem dX12_bodyOf_122 : decode cX12_bodyOf 122 = .ok (.ireturn, 1) := by decide +kernel
theorem dX12_bodyOf_123 : decode cX12_bodyOf 123 = .ok (.bipush 70, 2) := by decide +kernel
theorem dX12_bodyOf_125 : decode cX12_bodyOf 125 = .ok (.ireturn, 1) := by decide +kernel
theorem dX12_bodyOf_126 : decode cX12_bodyOf 126 = .ok (.iconst 0, 1) := by decide +kernel
theorem dX12_bodyOf_127 : decode cX12_bodyOf 127 = .ok (.ireturn, 1) := by decide +kernel
theorem dX12_run_0 : decode cX12_run 0 = .ok (.iload_n 2, 1) := by decide +kernel
theorem dX12_run_1 : decode cX12_run 1 = .ok (.istore 5, 2) := by decide +kernel
theorem dX12_run_3 : decode cX12_run 3 = .ok (.iload 5, 2) := by decide +kernel
theorem dX12_run_5 : decode cX12_run 5 = .ok (.iload_n 3, 1) := by decide +kernel
theorem dX12_run_6 : decode cX12_run 6 = .ok (.invokestatic 526, 3) := by decide +kernel
theorem dX12_run_9 : decode cX12_run 9 = .ok (.ifCond .ne 13, 3) := by decide +kernel
theorem dX12_run_12 : decode cX12_run 12 = .ok (.iload 5, 2) := by decide +kernel
theorem dX12_run_14 : decode cX12_run 14 = .ok (.invokestatic 529, 3) := by decide +kernel
theorem dX12_run_17 : decode cX12_run 17 = .ok (.istore 5, 2) := by decide +kernel
theorem dX12_run_19 : decode cX12_run 19 = .ok (.goto (-16), 3) := by decide +kernel
theorem dX12_run_22 : decode cX12_run 22 = .ok (.iload 5, 2) := by decide +kernel
theorem dX12_run_24 : decode cX12_run 24 = .ok (.iload_n 3, 1) := by decide +kernel
theorem dX12_run_25 : decode cX12_run 25 = .ok (.invokestatic 526, 3) := by decide +kernel
theorem dX12_run_28 : decode cX12_run 28 = .ok (.istore 6, 2) := by decide +kernel
theorem dX12_run_30 : decode cX12_run 30 = .ok (.aload_n 0, 1) := by decide +kernel
theorem dX12_run_31 : decode cX12_run 31 = .ok (.getfield 532, 3) := by decide +kernel
theorem dX12_run_34 : decode cX12_run 34 = .ok (.bipush 20, 2) := by decide +kernel
theorem dX12_run_36 : decode cX12_run 36 = .ok (.if_icmp .ge 14, 3) := by decide +kernel
theorem dX12_run_39 : decode cX12_run 39 = .ok (.aload_n 0, 1) := by decide +kernel
theorem dX12_run_40 : decode cX12_run 40 = .ok (.getfield 178, 3) := by decide +kernel
theorem dX12_run_43 : decode cX12_run 43 = .ok (.aload_n 0, 1) := by decide +kernel
theorem dX12_run_44 : decode cX12_run 44 = .ok (.getfield 532, 3) := by decide +kernel
theorem dX12_run_47 : decode cX12_run 47 = .ok (.iload 6, 2) := by decide +kernel
theorem dX12_run_49 : decode cX12_run 49 = .ok (.iastore, 1) := by decide +kernel
theorem dX12_run_50 : decode cX12_run 50 = .ok (.aload_n 0, 1) := by decide +kernel
theorem dX12_run_51 : decode cX12_run 51 = .ok (.dup, 1) := by decide +kernel
theorem dX12_run_52 : decode cX12_run 52 = .ok (.getfield 532, 3) := by decide +kernel
theorem dX12_run_55 : decode cX12_run 55 = .ok (.iconst 1, 1) := by decide +kernel
theorem dX12_run_56 : decode cX12_run 56 = .ok (.iadd, 1) := by decide +kernel
theorem dX12_run_57 : decode cX12_run 57 = .ok (.putfield 532, 3) := by decide +kernel
theorem dX12_run_60 : decode cX12_run 60 = .ok (.aload_n 0, 1) := by decide +kernel
theorem dX12_run_61 : decode cX12_run 61 = .ok (.getfield 39, 3) := by decide +kernel
theorem dX12_run_64 : decode cX12_run 64 = .ok (.iload_n 1, 1) := by decide +kernel
theorem dX12_run_65 : decode cX12_run 65 = .ok (.iaload, 1) := by decide +kernel
theorem dX12_run_66 : decode cX12_run 66 = .ok (.istore 7, 2) := by decide +kernel
theorem dX12_run_68 : decode cX12_run 68 = .ok (.iload 6, 2) := by decide +kernel
theorem dX12_run_70 : decode cX12_run 70 = .ok (.lookupswitch 238 #[(10, 82), (11, 87), (12, 104), (20, 141), (30, 157), (40, 173), (50, 189), (60, 205), (61, 222)], 82) := by decide +kernel
theorem dX12_run_152 : decode cX12_run 152 = .ok (.iload 4, 2) := by decide +kernel
theorem dX12_run_154 : decode cX12_run 154 = .ok (.iload_n 1, 1) := by decide +kernel
theorem dX12_run_155 : decode cX12_run 155 = .ok (.iadd, 1) := by decide +kernel
theorem dX12_run_156 : decode cX12_run 156 = .ok (.ireturn, 1) := by decide +kernel
theorem dX12_run_157 : decode cX12_run 157 = .ok (.aload_n 0, 1) := by decide +kernel
theorem dX12_run_158 : decode cX12_run 158 = .ok (.iload_n 1, 1) := by decide +kernel
theorem dX12_run_159 : decode cX12_run 159 = .ok (.aload_n 0, 1) := by decide +kernel
theorem dX12_run_160 : decode cX12_run 160 = .ok (.getfield 33, 3) := by decide +kernel
theorem dX12_run_163 : decode cX12_run 163 = .ok (.iload_n 1, 1) := by decide +kernel
theorem dX12_run_164 : decode cX12_run 164 = .ok (.iaload, 1) := by decide +kernel
theorem dX12_run_165 : decode cX12_run 165 = .ok (.iconst 0, 1) := by decide +kernel
theorem dX12_run_166 : decode cX12_run 166 = .ok (.iload 4, 2) := by decide +kernel
theorem dX12_run_168 : decode cX12_run 168 = .ok (.invokevirtual 535, 3) := by decide +kernel
theorem dX12_run_171 : decode cX12_run 171 = .ok (.iconst 2, 1) := by decide +kernel
theorem dX12_run_172 : decode cX12_run 172 = .ok (.imul, 1) := by decide +kernel
theorem dX12_run_173 : decode cX12_run 173 = .ok (.ireturn, 1) := by decide +kernel
theorem dX12_run_174 : decode cX12_run 174 = .ok (.aload_n 0, 1) := by decide +kernel
theorem dX12_run_175 : decode cX12_run 175 = .ok (.iload_n 1, 1) := by decide +kernel
theorem dX12_run_176 : decode cX12_run 176 = .ok (.aload_n 0, 1) := by decide +kernel
theorem dX12_run_177 : decode cX12_run 177 = .ok (.getfield 33, 3) := by decide +kernel
theorem dX12_run_180 : decode cX12_run 180 = .ok (.iload_n 1, 1) := by decide +kernel
theorem dX12_run_181 : decode cX12_run 181 = .ok (.iaload, 1) := by decide +kernel
theorem dX12_run_182 : decode cX12_run 182 = .ok (.iconst 1, 1) := by decide +kernel
theorem dX12_run_183 : decode cX12_run 183 = .ok (.iload 4, 2) := by decide +kernel
theorem dX12_run_185 : decode cX12_run 185 = .ok (.invokevirtual 535, 3) := by decide +kernel
theorem dX12_run_188 : decode cX12_run 188 = .ok (.istore 8, 2) := by decide +kernel
theorem dX12_run_190 : decode cX12_run 190 = .ok (.iload 8, 2) := by decide +kernel
theorem dX12_run_192 : decode cX12_run 192 = .ok (.aload_n 0, 1) := by decide +kernel
theorem dX12_run_193 : decode cX12_run 193 = .ok (.iload_n 1, 1) := by decide +kernel
theorem dX12_run_194 : decode cX12_run 194 = .ok (.aload_n 0, 1) := by decide +kernel
theorem dX12_run_195 : decode cX12_run 195 = .ok (.getfield 33, 3) := by decide +kernel
theorem dX12_run_198 : decode cX12_run 198 = .ok (.iload_n 1, 1) := by decide +kernel
theorem dX12_run_199 : decode cX12_run 199 = .ok (.iaload, 1) := by decide +kernel
theorem dX12_run_200 : decode cX12_run 200 = .ok (.iconst 0, 1) := by decide +kernel
theorem dX12_run_201 : decode cX12_run 201 = .ok (.iload 4, 2) := by decide +kernel
theorem dX12_run_203 : decode cX12_run 203 = .ok (.iload 7, 2) := by decide +kernel
theorem dX12_run_205 : decode cX12_run 205 = .ok (.iadd, 1) := by decide +kernel
theorem dX12_run_206 : decode cX12_run 206 = .ok (.invokevirtual 535, 3) := by decide +kernel
theorem dX12_run_209 : decode cX12_run 209 = .ok (.ixor, 1) := by decide +kernel
theorem dX12_run_210 : decode cX12_run 210 = .ok (.ireturn, 1) := by decide +kernel
theorem dX12_run_211 : decode cX12_run 211 = .ok (.aload_n 0, 1) := by decide +kernel
theorem dX12_run_212 : decode cX12_run 212 = .ok (.iload_n 1, 1) := by decide +kernel
theorem dX12_run_213 : decode cX12_run 213 = .ok (.iload 5, 2) := by decide +kernel
theorem dX12_run_215 : decode cX12_run 215 = .ok (.invokestatic 529, 3) := by decide +kernel
theorem dX12_run_218 : decode cX12_run 218 = .ok (.iconst 1, 1) := by decide +kernel
theorem dX12_run_219 : decode cX12_run 219 = .ok (.iload 4, 2) := by decide +kernel
theorem dX12_run_221 : decode cX12_run 221 = .ok (.invokevirtual 535, 3) := by decide +kernel
theorem dX12_run_224 : decode cX12_run 224 = .ok (.iload_n 1, 1) := by decide +kernel
theorem dX12_run_225 : decode cX12_run 225 = .ok (.isub, 1) := by decide +kernel
theorem dX12_run_226 : decode cX12_run 226 = .ok (.ireturn, 1) := by decide +kernel
theorem dX12_run_227 : decode cX12_run 227 = .ok (.aload_n 0, 1) := by decide +kernel
theorem dX12_run_228 : decode cX12_run 228 = .ok (.iload_n 1, 1) := by decide +kernel
theorem dX12_run_229 : decode cX12_run 229 = .ok (.iload 5, 2) := by decide +kernel
theorem dX12_run_231 : decode cX12_run 231 = .ok (.invokestatic 529, 3) := by decide +kernel
theorem dX12_run_234 : decode cX12_run 234 = .ok (.iconst 0, 1) := by decide +kernel
theorem dX12_run_235 : decode cX12_run 235 = .ok (.iload 4, 2) := by decide +kernel
theorem dX12_run_237 : decode cX12_run 237 = .ok (.invokevirtual 535, 3) := by decide +kernel
theorem dX12_run_240 : decode cX12_run 240 = .ok (.iconst 3, 1) := by decide +kernel
theorem dX12_run_241 : decode cX12_run 241 = .ok (.imul, 1) := by decide +kernel
theorem dX12_run_242 : decode cX12_run 242 = .ok (.ireturn, 1) := by decide +kernel
theorem dX12_run_243 : decode cX12_run 243 = .ok (.aload_n 0, 1) := by decide +kernel
theorem dX12_run_244 : decode cX12_run 244 = .ok (.iload_n 1, 1) := by decide +kernel
theorem dX12_run_245 : decode cX12_run 245 = .ok (.iload 5, 2) := by decide +kernel
theorem dX12_run_247 : decode cX12_run 247 = .ok (.invokestatic 529, 3) := by decide +kernel
theorem dX12_run_250 : decode cX12_run 250 = .ok (.iconst 2, 1) := by decide +kernel
theorem dX12_run_251 : decode cX12_run 251 = .ok (.iload 4, 2) := by decide +kernel
theorem dX12_run_253 : decode cX12_run 253 = .ok (.iconst 1, 1) := by decide +kernel
theorem dX12_run_254 : decode cX12_run 254 = .ok (.isub, 1) := by decide +kernel
theorem dX12_run_255 : decode cX12_run 255 = .ok (.invokevirtual 535, 3) := by decide +kernel
theorem dX12_run_258 : decode cX12_run 258 = .ok (.ireturn, 1) := by decide +kernel
theorem dX12_run_259 : decode cX12_run 259 = .ok (.aload_n 0, 1) := by decide +kernel
theorem dX12_run_260 : decode cX12_run 260 = .ok (.iload_n 1, 1) := by decide +kernel
theorem dX12_run_261 : decode cX12_run 261 = .ok (.iload 5, 2) := by decide +kernel
theorem dX12_run_263 : decode cX12_run 263 = .ok (.invokestatic 529, 3) := by decide +kernel
theorem dX12_run_266 : decode cX12_run 266 = .ok (.iconst 2, 1) := by decide +kernel
theorem dX12_run_267 : decode cX12_run 267 = .ok (.iload 4, 2) := by decide +kernel
theorem dX12_run_269 : decode cX12_run 269 = .ok (.invokevirtual 535, 3) := by decide +kernel
theorem dX12_run_272 : decode cX12_run 272 = .ok (.iload_n 1, 1) := by decide +kernel
theorem dX12_run_273 : decode cX12_run 273 = .ok (.iadd, 1) := by decide +kernel
theorem dX12_run_274 : decode cX12_run 274 = .ok (.ireturn, 1) := by decide +kernel
theorem dX12_run_275 : decode cX12_run 275 = .ok (.aload_n 0, 1) := by decide +kernel
theorem dX12_run_276 : decode cX12_run 276 = .ok (.iload_n 1, 1) := by decide +kernel
theorem dX12_run_277 : decode cX12_run 277 = .ok (.iload 5, 2) := by decide +kernel
theorem dX12_run_279 : decode cX12_run 279 = .ok (.invokestatic 529, 3) := by decide +kernel
theorem dX12_run_282 : decode cX12_run 282 = .ok (.iconst 1, 1) := by decide +kernel
theorem dX12_run_283 : decode cX12_run 283 = .ok (.iload 4, 2) := by decide +kernel
theorem dX12_run_285 : decode cX12_run 285 = .ok (.invokevirtual 535, 3) := by decide +kernel
theorem dX12_run_288 : decode cX12_run 288 = .ok (.bipush 9, 2) := by decide +kernel
theorem dX12_run_290 : decode cX12_run 290 = .ok (.ixor, 1) := by decide +kernel
theorem dX12_run_291 : decode cX12_run 291 = .ok (.ireturn, 1) := by decide +kernel
theorem dX12_run_292 : decode cX12_run 292 = .ok (.aload_n 0, 1) := by decide +kernel
theorem dX12_run_293 : decode cX12_run 293 = .ok (.iload_n 1, 1) := by decide +kernel
theorem dX12_run_294 : decode cX12_run 294 = .ok (.iload 5, 2) := by decide +kernel
theorem dX12_run_296 : decode cX12_run 296 = .ok (.invokestatic 529, 3) := by decide +kernel
theorem dX12_run_299 : decode cX12_run 299 = .ok (.iconst 2, 1) := by decide +kernel
theorem dX12_run_300 : decode cX12_run 300 = .ok (.iload 4, 2) := by decide +kernel
theorem dX12_run_302 : decode cX12_run 302 = .ok (.invokevirtual 535, 3) := by decide +kernel
theorem dX12_run_305 : decode cX12_run 305 = .ok (.iconst 2, 1) := by decide +kernel
theorem dX12_run_306 : decode cX12_run 306 = .ok (.imul, 1) := by decide +kernel
theorem dX12_run_307 : decode cX12_run 307 = .ok (.ireturn, 1) := by decide +kernel
theorem dX12_run_308 : decode cX12_run 308 = .ok (.aload_n 0, 1) := by decide +kernel
theorem dX12_run_309 : decode cX12_run 309 = .ok (.iload_n 1, 1) := by decide +kernel
theorem dX12_run_310 : decode cX12_run 310 = .ok (.iload 5, 2) := by decide +kernel
theorem dX12_run_312 : decode cX12_run 312 = .ok (.invokestatic 529, 3) := by decide +kernel
theorem dX12_run_315 : decode cX12_run 315 = .ok (.iconst 0, 1) := by decide +kernel
theorem dX12_run_316 : decode cX12_run 316 = .ok (.iload 4, 2) := by decide +kernel
theorem dX12_run_318 : decode cX12_run 318 = .ok (.invokevirtual 535, 3) := by decide +kernel
theorem dX12_run_321 : decode cX12_run 321 = .ok (.iload 7, 2) := by decide +kernel
theorem dX12_run_323 : decode cX12_run 323 = .ok (.isub, 1) := by decide +kernel
theorem dX12_run_324 : decode cX12_run 324 = .ok (.ireturn, 1) := by decide +kernel
theorem dX12_act_0 : decode cX12_act 0 = .ok (.aload_n 0, 1) := by decide +kernel
theorem dX12_act_1 : decode cX12_act 1 = .ok (.iconst 0, 1) := by decide +kernel
theorem dX12_act_2 : decode cX12_act 2 = .ok (.putfield 532, 3) := by decide +kernel
theorem dX12_act_5 : decode cX12_act 5 = .ok (.aload_n 0, 1) := by decide +kernel
theorem dX12_act_6 : decode cX12_act 6 = .ok (.iload_n 1, 1) := by decide +kernel
theorem dX12_act_7 : decode cX12_act 7 = .ok (.invokevirtual 327, 3) := by decide +kernel
theorem dX12_act_10 : decode cX12_act 10 = .ok (.ifCond .eq 28, 3) := by decide +kernel
theorem dX12_act_13 : decode cX12_act 13 = .ok (.iload_n 2, 1) := by decide +kernel
theorem dX12_act_14 : decode cX12_act 14 = .ok (.iconst 0, 1) := by decide +kernel
theorem dX12_act_15 : decode cX12_act 15 = .ok (.iconst 2, 1) := by decide +kernel
theorem dX12_act_16 : decode cX12_act 16 = .ok (.invokestatic 196, 3) := by decide +kernel
theorem dX12_act_19 : decode cX12_act 19 = .ok (.ifCond .eq 19, 3) := by decide +kernel
theorem dX12_act_22 : decode cX12_act 22 = .ok (.aload_n 0, 1) := by decide +kernel
theorem dX12_act_23 : decode cX12_act 23 = .ok (.iload_n 1, 1) := by decide +kernel
theorem dX12_act_24 : decode cX12_act 24 = .ok (.aload_n 0, 1) := by decide +kernel
theorem dX12_act_25 : decode cX12_act 25 = .ok (.getfield 33, 3) := by decide +kernel
theorem dX12_act_28 : decode cX12_act 28 = .ok (.iload_n 1, 1) := by decide +kernel
theorem dX12_act_29 : decode cX12_act 29 = .ok (.iaload, 1) := by decide +kernel
theorem dX12_act_30 : decode cX12_act 30 = .ok (.iload_n 2, 1) := by decide +kernel
theorem dX12_act_31 : decode cX12_act 31 = .ok (.iload_n 3, 1) := by decide +kernel
theorem dX12_act_32 : decode cX12_act 32 = .ok (.invokevirtual 535, 3) := by decide +kernel
theorem dX12_act_35 : decode cX12_act 35 = .ok (.goto 4, 3) := by decide +kernel
theorem dX12_act_38 : decode cX12_act 38 = .ok (.iconst 0, 1) := by decide +kernel
theorem dX12_act_39 : decode cX12_act 39 = .ok (.ireturn, 1) := by decide +kernel
theorem dX12_trace_0 : decode cX12_trace 0 = .ok (.iload_n 1, 1) := by decide +kernel
theorem dX12_trace_1 : decode cX12_trace 1 = .ok (.iconst 0, 1) := by decide +kernel
theorem dX12_trace_2 : decode cX12_trace 2 = .ok (.aload_n 0, 1) := by decide +kernel
theorem dX12_trace_3 : decode cX12_trace 3 = .ok (.getfield 532, 3) := by decide +kernel
theorem dX12_trace_6 : decode cX12_trace 6 = .ok (.bipush 20, 2) := by decide +kernel
theorem dX12_trace_8 : decode cX12_trace 8 = .ok (.invokestatic 437, 3) := by decide +kernel
theorem dX12_trace_11 : decode cX12_trace 11 = .ok (.iconst 1, 1) := by decide +kernel
theorem dX12_trace_12 : decode cX12_trace 12 = .ok (.isub, 1) := by decide +kernel
theorem dX12_trace_13 : decode cX12_trace 13 = .ok (.invokestatic 196, 3) := by decide +kernel
theorem dX12_trace_16 : decode cX12_trace 16 = .ok (.ifCond .eq 12, 3) := by decide +kernel
theorem dX12_trace_19 : decode cX12_trace 19 = .ok (.aload_n 0, 1) := by decide +kernel
theorem dX12_trace_20 : decode cX12_trace 20 = .ok (.getfield 178, 3) := by decide +kernel
theorem dX12_trace_23 : decode cX12_trace 23 = .ok (.iload_n 1, 1) := by decide +kernel
theorem dX12_trace_24 : decode cX12_trace 24 = .ok (.iaload, 1) := by decide +kernel
theorem dX12_trace_25 : decode cX12_trace 25 = .ok (.goto 4, 3) := by decide +kernel
theorem dX12_trace_28 : decode cX12_trace 28 = .ok (.iconst (-1), 1) := by decide +kernel
theorem dX12_trace_29 : decode cX12_trace 29 = .ok (.ireturn, 1) := by decide +kernel
theorem dX12_taken_0 : decode cX12_taken 0 = .ok (.iload_n 2, 1) := by decide +kernel
theorem dX12_taken_1 : decode cX12_taken 1 = .ok (.iconst 0, 1) := by decide +kernel
theorem dX12_taken_2 : decode cX12_taken 2 = .ok (.bipush 6, 2) := by decide +kernel
theorem dX12_taken_4 : decode cX12_taken 4 = .ok (.invokestatic 196, 3) := by decide +kernel
theorem dX12_taken_7 : decode cX12_taken 7 = .ok (.ifCond .ne 6, 3) := by decide +kernel
theorem dX12_taken_10 : decode cX12_taken 10 = .ok (.bipush (-2), 2) := by decide +kernel
theorem dX12_taken_12 : decode cX12_taken 12 = .ok (.ireturn, 1) := by decide +kernel
theorem dX12_taken_13 : decode cX12_taken 13 = .ok (.aload_n 0, 1) := by decide +kernel
theorem dX12_taken_14 : decode cX12_taken 14 = .ok (.iload_n 1, 1) := by decide +kernel
theorem dX12_taken_15 : decode cX12_taken 15 = .ok (.invokevirtual 327, 3) := by decide +kernel
theorem dX12_taken_18 : decode cX12_taken 18 = .ok (.ifCond .ne 6, 3) := by decide +kernel
theorem dX12_taken_21 : decode cX12_taken 21 = .ok (.bipush (-11), 2) := by decide +kernel
theorem dX12_taken_23 : decode cX12_taken 23 = .ok (.ireturn, 1) := by decide +kernel
theorem dX12_taken_24 : decode cX12_taken 24 = .ok (.aload_n 0, 1) := by decide +kernel
theorem dX12_taken_25 : decode cX12_taken 25 = .ok (.getfield 33, 3) := by decide +kernel
theorem dX12_taken_28 : decode cX12_taken 28 = .ok (.iload_n 1, 1) := by decide +kernel
theorem dX12_taken_29 : decode cX12_taken 29 = .ok (.iaload, 1) := by decide +kernel
theorem dX12_taken_30 : decode cX12_taken 30 = .ok (.istore_n 3, 1) := by decide +kernel
theorem dX12_taken_31 : decode cX12_taken 31 = .ok (.iload_n 3, 1) := by decide +kernel
theorem dX12_taken_32 : decode cX12_taken 32 = .ok (.ifCond .lt 23, 3) := by decide +kernel
theorem dX12_taken_35 : decode cX12_taken 35 = .ok (.iload_n 3, 1) := by decide +kernel
theorem dX12_taken_36 : decode cX12_taken 36 = .ok (.iload_n 2, 1) := by decide +kernel
theorem dX12_taken_37 : decode cX12_taken 37 = .ok (.if_icmp .ne 10, 3) := by decide +kernel
theorem dX12_taken_40 : decode cX12_taken 40 = .ok (.aload_n 0, 1) := by decide +kernel
theorem dX12_taken_41 : decode cX12_taken 41 = .ok (.getfield 33, 3) := by decide +kernel
theorem dX12_taken_44 : decode cX12_taken 44 = .ok (.iload_n 1, 1) := by decide +kernel
theorem dX12_taken_45 : decode cX12_taken 45 = .ok (.iaload, 1) := by decide +kernel
theorem dX12_taken_46 : decode cX12_taken 46 = .ok (.ireturn, 1) := by decide +kernel
theorem dX12_taken_47 : decode cX12_taken 47 = .ok (.iload_n 3, 1) := by decide +kernel
theorem dX12_taken_48 : decode cX12_taken 48 = .ok (.invokestatic 529, 3) := by decide +kernel
theorem dX12_taken_51 : decode cX12_taken 51 = .ok (.istore_n 3, 1) := by decide +kernel
theorem dX12_taken_52 : decode cX12_taken 52 = .ok (.goto (-21), 3) := by decide +kernel
theorem dX12_taken_55 : decode cX12_taken 55 = .ok (.bipush (-13), 2) := by decide +kernel
theorem dX12_taken_57 : decode cX12_taken 57 = .ok (.ireturn, 1) := by decide +kernel
theorem dX12_count_0 : decode cX12_count 0 = .ok (.iload_n 1, 1) := by decide +kernel
theorem dX12_count_1 : decode cX12_count 1 = .ok (.tableswitch 147 0 10 #[59, 64, 69, 74, 79, 84, 89, 94, 132, 137, 142], 59) := by decide +kernel
theorem dX12_count_60 : decode cX12_count 60 = .ok (.aload_n 0, 1) := by decide +kernel
theorem dX12_count_61 : decode cX12_count 61 = .ok (.getfield 217, 3) := by decide +kernel
theorem dX12_count_64 : decode cX12_count 64 = .ok (.ireturn, 1) := by decide +kernel
theorem dX12_count_65 : decode cX12_count 65 = .ok (.aload_n 0, 1) := by decide +kernel
theorem dX12_count_66 : decode cX12_count 66 = .ok (.getfield 224, 3) := by decide +kernel
theorem dX12_count_69 : decode cX12_count 69 = .ok (.ireturn, 1) := by decide +kernel
theorem dX12_count_70 : decode cX12_count 70 = .ok (.aload_n 0, 1) := by decide +kernel
theorem dX12_count_71 : decode cX12_count 71 = .ok (.getfield 324, 3) := by decide +kernel
theorem dX12_count_74 : decode cX12_count 74 = .ok (.ireturn, 1) := by decide +kernel
theorem dX12_count_75 : decode cX12_count 75 = .ok (.aload_n 0, 1) := by decide +kernel
theorem dX12_count_76 : decode cX12_count 76 = .ok (.getfield 379, 3) := by decide +kernel
theorem dX12_count_79 : decode cX12_count 79 = .ok (.ireturn, 1) := by decide +kernel
theorem dX12_count_80 : decode cX12_count 80 = .ok (.aload_n 0, 1) := by decide +kernel
theorem dX12_count_81 : decode cX12_count 81 = .ok (.getfield 227, 3) := by decide +kernel
theorem dX12_count_84 : decode cX12_count 84 = .ok (.ireturn, 1) := by decide +kernel
theorem dX12_count_85 : decode cX12_count 85 = .ok (.aload_n 0, 1) := by decide +kernel
theorem dX12_count_86 : decode cX12_count 86 = .ok (.getfield 409, 3) := by decide +kernel
theorem dX12_count_89 : decode cX12_count 89 = .ok (.ireturn, 1) := by decide +kernel
theorem dX12_count_90 : decode cX12_count 90 = .ok (.aload_n 0, 1) := by decide +kernel
theorem dX12_count_91 : decode cX12_count 91 = .ok (.getfield 230, 3) := by decide +kernel
theorem dX12_count_94 : decode cX12_count 94 = .ok (.ireturn, 1) := by decide +kernel
theorem dX12_count_95 : decode cX12_count 95 = .ok (.iconst 0, 1) := by decide +kernel
theorem dX12_count_96 : decode cX12_count 96 = .ok (.istore_n 2, 1) := by decide +kernel
theorem dX12_count_97 : decode cX12_count 97 = .ok (.iconst 0, 1) := by decide +kernel
theorem dX12_count_98 : decode cX12_count 98 = .ok (.istore_n 3, 1) := by decide +kernel
theorem dX12_count_99 : decode cX12_count 99 = .ok (.iload_n 3, 1) := by decide +kernel
theorem dX12_count_100 : decode cX12_count 100 = .ok (.aload_n 0, 1) := by decide +kernel
theorem dX12_count_101 : decode cX12_count 101 = .ok (.getfield 324, 3) := by decide +kernel
theorem dX12_count_104 : decode cX12_count 104 = .ok (.if_icmp .ge 27, 3) := by decide +kernel
theorem dX12_count_107 : decode cX12_count 107 = .ok (.iload_n 2, 1) := by decide +kernel
theorem dX12_count_108 : decode cX12_count 108 = .ok (.aload_n 0, 1) := by decide +kernel
theorem dX12_count_109 : decode cX12_count 109 = .ok (.getfield 72, 3) := by decide +kernel
theorem dX12_count_112 : decode cX12_count 112 = .ok (.iload_n 3, 1) := by decide +kernel
theorem dX12_count_113 : decode cX12_count 113 = .ok (.iaload, 1) := by decide +kernel
theorem dX12_count_114 : decode cX12_count 114 = .ok (.iconst (-1), 1) := by decide +kernel
theorem dX12_count_115 : decode cX12_count 115 = .ok (.if_icmp .ne 7, 3) := by decide +kernel
theorem dX12_count_118 : decode cX12_count 118 = .ok (.iconst 1, 1) := by decide +kernel
theorem dX12_count_119 : decode cX12_count 119 = .ok (.goto 4, 3) := by decide +kernel
theorem dX12_count_122 : decode cX12_count 122 = .ok (.iconst 0, 1) := by decide +kernel
theorem dX12_count_123 : decode cX12_count 123 = .ok (.iadd, 1) := by decide +kernel
theorem dX12_count_124 : decode cX12_count 124 = .ok (.istore_n 2, 1) := by decide +kernel
theorem dX12_count_125 : decode cX12_count 125 = .ok (.iinc 3 1, 3) := by decide +kernel
theorem dX12_count_128 : decode cX12_count 128 = .ok (.goto (-29), 3) := by decide +kernel
theorem dX12_count_131 : decode cX12_count 131 = .ok (.iload_n 2, 1) := by decide +kernel
theorem dX12_count_132 : decode cX12_count 132 = .ok (.ireturn, 1) := by decide +kernel
theorem dX12_count_133 : decode cX12_count 133 = .ok (.aload_n 0, 1) := by decide +kernel
theorem dX12_count_134 : decode cX12_count 134 = .ok (.getfield 506, 3) := by decide +kernel
theorem dX12_count_137 : decode cX12_count 137 = .ok (.ireturn, 1) := by decide +kernel
theorem dX12_count_138 : decode cX12_count 138 = .ok (.aload_n 0, 1) := by decide +kernel
theorem dX12_count_139 : decode cX12_count 139 = .ok (.getfield 509, 3) := by decide +kernel
theorem dX12_count_142 : decode cX12_count 142 = .ok (.ireturn, 1) := by decide +kernel
theorem dX12_count_143 : decode cX12_count 143 = .ok (.aload_n 0, 1) := by decide +kernel
theorem dX12_count_144 : decode cX12_count 144 = .ok (.getfield 532, 3) := by decide +kernel
theorem dX12_count_147 : decode cX12_count 147 = .ok (.ireturn, 1) := by decide +kernel
theorem dX12_count_148 : decode cX12_count 148 = .ok (.bipush (-2), 2) := by decide +kernel
theorem dX12_count_150 : decode cX12_count 150 = .ok (.ireturn, 1) := by decide +kernel
theorem dX12_sheet_0 : decode cX12_sheet 0 = .ok (.iload_n 1, 1) := by decide +kernel
theorem dX12_sheet_1 : decode cX12_sheet 1 = .ok (.iconst 0, 1) := by decide +kernel
theorem dX12_sheet_2 : decode cX12_sheet 2 = .ok (.iconst 2, 1) := by decide +kernel
theorem dX12_sheet_3 : decode cX12_sheet 3 = .ok (.invokestatic 196, 3) := by decide +kernel
theorem dX12_sheet_6 : decode cX12_sheet 6 = .ok (.ifCond .eq 22, 3) := by decide +kernel
theorem dX12_sheet_9 : decode cX12_sheet 9 = .ok (.iload_n 2, 1) := by decide +kernel
theorem dX12_sheet_10 : decode cX12_sheet 10 = .ok (.iconst (-1), 1) := by decide +kernel
theorem dX12_sheet_11 : decode cX12_sheet 11 = .ok (.iconst 2, 1) := by decide +kernel
theorem dX12_sheet_12 : decode cX12_sheet 12 = .ok (.invokestatic 196, 3) := by decide +kernel
theorem dX12_sheet_15 : decode cX12_sheet 15 = .ok (.ifCond .eq 13, 3) := by decide +kernel
theorem dX12_sheet_18 : decode cX12_sheet 18 = .ok (.iload_n 2, 1) := by decide +kernel
theorem dX12_sheet_19 : decode cX12_sheet 19 = .ok (.ifCond .lt 12, 3) := by decide +kernel
theorem dX12_sheet_22 : decode cX12_sheet 22 = .ok (.iload_n 3, 1) := by decide +kernel
theorem dX12_sheet_23 : decode cX12_sheet 23 = .ok (.bipush 64, 2) := by decide +kernel
theorem dX12_sheet_25 : decode cX12_sheet 25 = .ok (.if_icmp .le 6, 3) := by decide +kernel
theorem dX12_sheet_28 : decode cX12_sheet 28 = .ok (.bipush (-2), 2) := by decide +kernel
theorem dX12_sheet_30 : decode cX12_sheet 30 = .ok (.ireturn, 1) := by decide +kernel
theorem dX12_sheet_31 : decode cX12_sheet 31 = .ok (.iload_n 2, 1) := by decide +kernel
theorem dX12_sheet_32 : decode cX12_sheet 32 = .ok (.ifCond .lt 10, 3) := by decide +kernel
theorem dX12_sheet_35 : decode cX12_sheet 35 = .ok (.iload_n 3, 1) := by decide +kernel
theorem dX12_sheet_36 : decode cX12_sheet 36 = .ok (.ifCond .ge 6, 3) := by decide +kernel
theorem dX12_sheet_39 : decode cX12_sheet 39 = .ok (.bipush (-14), 2) := by decide +kernel
theorem dX12_sheet_41 : decode cX12_sheet 41 = .ok (.ireturn, 1) := by decide +kernel
theorem dX12_sheet_42 : decode cX12_sheet 42 = .ok (.aload_n 0, 1) := by decide +kernel
theorem dX12_sheet_43 : decode cX12_sheet 43 = .ok (.getfield 169, 3) := by decide +kernel
theorem dX12_sheet_46 : decode cX12_sheet 46 = .ok (.iload_n 1, 1) := by decide +kernel
theorem dX12_sheet_47 : decode cX12_sheet 47 = .ok (.iload_n 2, 1) := by decide +kernel
theorem dX12_sheet_48 : decode cX12_sheet 48 = .ok (.iastore, 1) := by decide +kernel
theorem dX12_sheet_49 : decode cX12_sheet 49 = .ok (.aload_n 0, 1) := by decide +kernel
theorem dX12_sheet_50 : decode cX12_sheet 50 = .ok (.getfield 175, 3) := by decide +kernel
theorem dX12_sheet_53 : decode cX12_sheet 53 = .ok (.iload_n 1, 1) := by decide +kernel
theorem dX12_sheet_54 : decode cX12_sheet 54 = .ok (.iload_n 2, 1) := by decide +kernel
theorem dX12_sheet_55 : decode cX12_sheet 55 = .ok (.ifCond .ge 7, 3) := by decide +kernel
theorem dX12_sheet_58 : decode cX12_sheet 58 = .ok (.iconst 0, 1) := by decide +kernel
theorem dX12_sheet_59 : decode cX12_sheet 59 = .ok (.goto 4, 3) := by decide +kernel
theorem dX12_sheet_62 : decode cX12_sheet 62 = .ok (.iload_n 3, 1) := by decide +kernel
theorem dX12_sheet_63 : decode cX12_sheet 63 = .ok (.iastore, 1) := by decide +kernel
theorem dX12_sheet_64 : decode cX12_sheet 64 = .ok (.iconst 0, 1) := by decide +kernel
theorem dX12_sheet_65 : decode cX12_sheet 65 = .ok (.istore 4, 2) := by decide +kernel
theorem dX12_sheet_67 : decode cX12_sheet 67 = .ok (.iload 4, 2) := by decide +kernel
theorem dX12_sheet_69 : decode cX12_sheet 69 = .ok (.bipush 64, 2) := by decide +kernel
theorem dX12_sheet_71 : decode cX12_sheet 71 = .ok (.if_icmp .ge 19, 3) := by decide +kernel
theorem dX12_sheet_74 : decode cX12_sheet 74 = .ok (.aload_n 0, 1) := by decide +kernel
theorem dX12_sheet_75 : decode cX12_sheet 75 = .ok (.getfield 172, 3) := by decide +kernel
theorem dX12_sheet_78 : decode cX12_sheet 78 = .ok (.iload_n 1, 1) := by decide +kernel
theorem dX12_sheet_79 : decode cX12_sheet 79 = .ok (.aaload, 1) := by decide +kernel
theorem dX12_sheet_80 : decode cX12_sheet 80 = .ok (.iload 4, 2) := by decide +kernel
theorem dX12_sheet_82 : decode cX12_sheet 82 = .ok (.iconst 0, 1) := by decide +kernel
theorem dX12_sheet_83 : decode cX12_sheet 83 = .ok (.iastore, 1) := by decide +kernel
theorem dX12_sheet_84 : decode cX12_sheet 84 = .ok (.iinc 4 1, 3) := by decide +kernel
theorem dX12_sheet_87 : decode cX12_sheet 87 = .ok (.goto (-20), 3) := by decide +kernel
theorem dX12_sheet_90 : decode cX12_sheet 90 = .ok (.iconst 1, 1) := by decide +kernel
theorem dX12_sheet_91 : decode cX12_sheet 91 = .ok (.ireturn, 1) := by decide +kernel
theorem dX12_cut_0 : decode cX12_cut 0 = .ok (.iload_n 0, 1) := by decide +kernel
theorem dX12_cut_1 : decode cX12_cut 1 = .ok (.ifCond .ne 8, 3) := by decide +kernel
theorem dX12_cut_4 : decode cX12_cut 4 = .ok (.iload_n 1, 1) := by decide +kernel
theorem dX12_cut_5 : decode cX12_cut 5 = .ok (.i2b, 1) := by decide +kernel
theorem dX12_cut_6 : decode cX12_cut 6 = .ok (.goto 14, 3) := by decide +kernel
theorem dX12_cut_9 : decode cX12_cut 9 = .ok (.iload_n 0, 1) := by decide +kernel
theorem dX12_cut_10 : decode cX12_cut 10 = .ok (.iconst 1, 1) := by decide +kernel
theorem dX12_cut_11 : decode cX12_cut 11 = .ok (.if_icmp .ne 8, 3) := by decide +kernel
theorem dX12_cut_14 : decode cX12_cut 14 = .ok (.iload_n 1, 1) := by decide +kernel
theorem dX12_cut_15 : decode cX12_cut 15 = .ok (.i2s, 1) := by decide +kernel
theorem dX12_cut_16 : decode cX12_cut 16 = .ok (.goto 4, 3) := by decide +kernel
theorem dX12_cut_19 : decode cX12_cut 19 = .ok (.iload_n 1, 1) := by decide +kernel
theorem dX12_cut_20 : decode cX12_cut 20 = .ok (.ireturn, 1) := by decide +kernel
theorem dX12_cell_0 : decode cX12_cell 0 = .ok (.iload_n 1, 1) := by decide +kernel
theorem dX12_cell_1 : decode cX12_cell 1 = .ok (.iconst 0, 1) := by decide +kernel
theorem dX12_cell_2 : decode cX12_cell 2 = .ok (.iconst 2, 1) := by decide +kernel
theorem dX12_cell_3 : decode cX12_cell 3 = .ok (.invokestatic 196, 3) := by decide +kernel
theorem dX12_cell_6 : decode cX12_cell 6 = .ok (.ifCond .ne 6, 3) := by decide +kernel
theorem dX12_cell_9 : decode cX12_cell 9 = .ok (.bipush (-2), 2) := by decide +kernel
theorem dX12_cell_11 : decode cX12_cell 11 = .ok (.ireturn, 1) := by decide +kernel
theorem dX12_cell_12 : decode cX12_cell 12 = .ok (.aload_n 0, 1) := by decide +kernel
theorem dX12_cell_13 : decode cX12_cell 13 = .ok (.getfield 169, 3) := by decide +kernel
theorem dX12_cell_16 : decode cX12_cell 16 = .ok (.iload_n 1, 1) := by decide +kernel
theorem dX12_cell_17 : decode cX12_cell 17 = .ok (.iaload, 1) := by decide +kernel
theorem dX12_cell_18 : decode cX12_cell 18 = .ok (.ifCond .ge 6, 3) := by decide +kernel
theorem dX12_cell_21 : decode cX12_cell 21 = .ok (.bipush (-11), 2) := by decide +kernel
theorem dX12_cell_23 : decode cX12_cell 23 = .ok (.ireturn, 1) := by decide +kernel
theorem dX12_cell_24 : decode cX12_cell 24 = .ok (.iload_n 2, 1) := by decide +kernel
theorem dX12_cell_25 : decode cX12_cell 25 = .ok (.iconst 0, 1) := by decide +kernel
theorem dX12_cell_26 : decode cX12_cell 26 = .ok (.aload_n 0, 1) := by decide +kernel
theorem dX12_cell_27 : decode cX12_cell 27 = .ok (.getfield 175, 3) := by decide +kernel
theorem dX12_cell_30 : decode cX12_cell 30 = .ok (.iload_n 1, 1) := by decide +kernel
theorem dX12_cell_31 : decode cX12_cell 31 = .ok (.iaload, 1) := by decide +kernel
theorem dX12_cell_32 : decode cX12_cell 32 = .ok (.iconst 1, 1) := by decide +kernel
theorem dX12_cell_33 : decode cX12_cell 33 = .ok (.isub, 1) := by decide +kernel
theorem dX12_cell_34 : decode cX12_cell 34 = .ok (.invokestatic 196, 3) := by decide +kernel
theorem dX12_cell_37 : decode cX12_cell 37 = .ok (.ifCond .ne 6, 3) := by decide +kernel
theorem dX12_cell_40 : decode cX12_cell 40 = .ok (.bipush (-12), 2) := by decide +kernel
theorem dX12_cell_42 : decode cX12_cell 42 = .ok (.ireturn, 1) := by decide +kernel
theorem dX12_cell_43 : decode cX12_cell 43 = .ok (.aload_n 0, 1) := by decide +kernel
theorem dX12_cell_44 : decode cX12_cell 44 = .ok (.getfield 172, 3) := by decide +kernel
theorem dX12_cell_47 : decode cX12_cell 47 = .ok (.iload_n 1, 1) := by decide +kernel
theorem dX12_cell_48 : decode cX12_cell 48 = .ok (.aaload, 1) := by decide +kernel
theorem dX12_cell_49 : decode cX12_cell 49 = .ok (.iload_n 2, 1) := by decide +kernel
theorem dX12_cell_50 : decode cX12_cell 50 = .ok (.aload_n 0, 1) := by decide +kernel
theorem dX12_cell_51 : decode cX12_cell 51 = .ok (.getfield 169, 3) := by decide +kernel
theorem dX12_cell_54 : decode cX12_cell 54 = .ok (.iload_n 1, 1) := by decide +kernel
theorem dX12_cell_55 : decode cX12_cell 55 = .ok (.iaload, 1) := by decide +kernel
theorem dX12_cell_56 : decode cX12_cell 56 = .ok (.iload_n 3, 1) := by decide +kernel
theorem dX12_cell_57 : decode cX12_cell 57 = .ok (.invokestatic 538, 3) := by decide +kernel
theorem dX12_cell_60 : decode cX12_cell 60 = .ok (.iastore, 1) := by decide +kernel
theorem dX12_cell_61 : decode cX12_cell 61 = .ok (.iconst 1, 1) := by decide +kernel
theorem dX12_cell_62 : decode cX12_cell 62 = .ok (.ireturn, 1) := by decide +kernel
theorem dX12_carry_0 : decode cX12_carry 0 = .ok (.iload_n 1, 1) := by decide +kernel
theorem dX12_carry_1 : decode cX12_carry 1 = .ok (.iconst 0, 1) := by decide +kernel
theorem dX12_carry_2 : decode cX12_carry 2 = .ok (.iconst 2, 1) := by decide +kernel
theorem dX12_carry_3 : decode cX12_carry 3 = .ok (.invokestatic 196, 3) := by decide +kernel
theorem dX12_carry_6 : decode cX12_carry 6 = .ok (.ifCond .eq 12, 3) := by decide +kernel
theorem dX12_carry_9 : decode cX12_carry 9 = .ok (.iload_n 3, 1) := by decide +kernel
theorem dX12_carry_10 : decode cX12_carry 10 = .ok (.iconst 0, 1) := by decide +kernel
theorem dX12_carry_11 : decode cX12_carry 11 = .ok (.iconst 2, 1) := by decide +kernel
theorem dX12_carry_12 : decode cX12_carry 12 = .ok (.invokestatic 196, 3) := by decide +kernel
theorem dX12_carry_15 : decode cX12_carry 15 = .ok (.ifCond .ne 6, 3) := by decide +kernel
theorem dX12_carry_18 : decode cX12_carry 18 = .ok (.bipush (-2), 2) := by decide +kernel
theorem dX12_carry_20 : decode cX12_carry 20 = .ok (.ireturn, 1) := by decide +kernel
theorem dX12_carry_21 : decode cX12_carry 21 = .ok (.aload_n 0, 1) := by decide +kernel
theorem dX12_carry_22 : decode cX12_carry 22 = .ok (.getfield 169, 3) := by decide +kernel
theorem dX12_carry_25 : decode cX12_carry 25 = .ok (.iload_n 1, 1) := by decide +kernel
theorem dX12_carry_26 : decode cX12_carry 26 = .ok (.iaload, 1) := by decide +kernel
theorem dX12_carry_27 : decode cX12_carry 27 = .ok (.ifCond .lt 12, 3) := by decide +kernel
theorem dX12_carry_30 : decode cX12_carry 30 = .ok (.aload_n 0, 1) := by decide +kernel
theorem dX12_carry_31 : decode cX12_carry 31 = .ok (.getfield 169, 3) := by decide +kernel
theorem dX12_carry_34 : decode cX12_carry 34 = .ok (.iload_n 3, 1) := by decide +kernel
theorem dX12_carry_35 : decode cX12_carry 35 = .ok (.iaload, 1) := by decide +kernel
theorem dX12_carry_36 : decode cX12_carry 36 = .ok (.ifCond .ge 6, 3) := by decide +kernel
theorem dX12_carry_39 : decode cX12_carry 39 = .ok (.bipush (-11), 2) := by decide +kernel
theorem dX12_carry_41 : decode cX12_carry 41 = .ok (.ireturn, 1) := by decide +kernel
theorem dX12_carry_42 : decode cX12_carry 42 = .ok (.aload_n 0, 1) := by decide +kernel
theorem dX12_carry_43 : decode cX12_carry 43 = .ok (.getfield 169, 3) := by decide +kernel
theorem dX12_carry_46 : decode cX12_carry 46 = .ok (.iload_n 1, 1) := by decide +kernel
theorem dX12_carry_47 : decode cX12_carry 47 = .ok (.iaload, 1) := by decide +kernel
theorem dX12_carry_48 : decode cX12_carry 48 = .ok (.aload_n 0, 1) := by decide +kernel
theorem dX12_carry_49 : decode cX12_carry 49 = .ok (.getfield 169, 3) := by decide +kernel
theorem dX12_carry_52 : decode cX12_carry 52 = .ok (.iload_n 3, 1) := by decide +kernel
theorem dX12_carry_53 : decode cX12_carry 53 = .ok (.iaload, 1) := by decide +kernel
theorem dX12_carry_54 : decode cX12_carry 54 = .ok (.if_icmp .eq 6, 3) := by decide +kernel
theorem dX12_carry_57 : decode cX12_carry 57 = .ok (.bipush (-13), 2) := by decide +kernel
theorem dX12_carry_59 : decode cX12_carry 59 = .ok (.ireturn, 1) := by decide +kernel
theorem dX12_carry_60 : decode cX12_carry 60 = .ok (.iload 5, 2) := by decide +kernel
theorem dX12_carry_62 : decode cX12_carry 62 = .ok (.ifCond .lt 47, 3) := by decide +kernel
theorem dX12_carry_65 : decode cX12_carry 65 = .ok (.iload_n 2, 1) := by decide +kernel
theorem dX12_carry_66 : decode cX12_carry 66 = .ok (.ifCond .lt 43, 3) := by decide +kernel
theorem dX12_carry_69 : decode cX12_carry 69 = .ok (.iload 4, 2) := by decide +kernel
theorem dX12_carry_71 : decode cX12_carry 71 = .ok (.ifCond .lt 38, 3) := by decide +kernel
theorem dX12_carry_74 : decode cX12_carry 74 = .ok (.iload_n 2, 1) := by decide +kernel
theorem dX12_carry_75 : decode cX12_carry 75 = .ok (.i2l, 1) := by decide +kernel
theorem dX12_carry_76 : decode cX12_carry 76 = .ok (.iload 5, 2) := by decide +kernel
theorem dX12_carry_78 : decode cX12_carry 78 = .ok (.i2l, 1) := by decide +kernel
theorem dX12_carry_79 : decode cX12_carry 79 = .ok (.ladd, 1) := by decide +kernel
theorem dX12_carry_80 : decode cX12_carry 80 = .ok (.aload_n 0, 1) := by decide +kernel
theorem dX12_carry_81 : decode cX12_carry 81 = .ok (.getfield 175, 3) := by decide +kernel
theorem dX12_carry_84 : decode cX12_carry 84 = .ok (.iload_n 1, 1) := by decide +kernel
theorem dX12_carry_85 : decode cX12_carry 85 = .ok (.iaload, 1) := by decide +kernel
theorem dX12_carry_86 : decode cX12_carry 86 = .ok (.i2l, 1) := by decide +kernel
theorem dX12_carry_87 : decode cX12_carry 87 = .ok (.lcmp, 1) := by decide +kernel
theorem dX12_carry_88 : decode cX12_carry 88 = .ok (.ifCond .gt 21, 3) := by decide +kernel
theorem dX12_carry_91 : decode cX12_carry 91 = .ok (.iload 4, 2) := by decide +kernel
theorem dX12_carry_93 : decode cX12_carry 93 = .ok (.i2l, 1) := by decide +kernel
theorem dX12_carry_94 : decode cX12_carry 94 = .ok (.iload 5, 2) := by decide +kernel
theorem dX12_carry_96 : decode cX12_carry 96 = .ok (.i2l, 1) := by decide +kernel
theorem dX12_carry_97 : decode cX12_carry 97 = .ok (.ladd, 1) := by decide +kernel
theorem dX12_carry_98 : decode cX12_carry 98 = .ok (.aload_n 0, 1) := by decide +kernel
theorem dX12_carry_99 : decode cX12_carry 99 = .ok (.getfield 175, 3) := by decide +kernel
theorem dX12_carry_102 : decode cX12_carry 102 = .ok (.iload_n 3, 1) := by decide +kernel
theorem dX12_carry_103 : decode cX12_carry 103 = .ok (.iaload, 1) := by decide +kernel
theorem dX12_carry_104 : decode cX12_carry 104 = .ok (.i2l, 1) := by decide +kernel
theorem dX12_carry_105 : decode cX12_carry 105 = .ok (.lcmp, 1) := by decide +kernel
theorem dX12_carry_106 : decode cX12_carry 106 = .ok (.ifCond .le 6, 3) := by decide +kernel
theorem dX12_carry_109 : decode cX12_carry 109 = .ok (.bipush (-12), 2) := by decide +kernel
theorem dX12_carry_111 : decode cX12_carry 111 = .ok (.ireturn, 1) := by decide +kernel
theorem dX12_carry_112 : decode cX12_carry 112 = .ok (.aload_n 0, 1) := by decide +kernel
theorem dX12_carry_113 : decode cX12_carry 113 = .ok (.getfield 172, 3) := by decide +kernel
theorem dX12_carry_116 : decode cX12_carry 116 = .ok (.iload_n 1, 1) := by decide +kernel
theorem dX12_carry_117 : decode cX12_carry 117 = .ok (.aaload, 1) := by decide +kernel
theorem dX12_carry_118 : decode cX12_carry 118 = .ok (.iload_n 2, 1) := by decide +kernel
theorem dX12_carry_119 : decode cX12_carry 119 = .ok (.aload_n 0, 1) := by decide +kernel
theorem dX12_carry_120 : decode cX12_carry 120 = .ok (.getfield 172, 3) := by decide +kernel
theorem dX12_carry_123 : decode cX12_carry 123 = .ok (.iload_n 3, 1) := by decide +kernel
theorem dX12_carry_124 : decode cX12_carry 124 = .ok (.aaload, 1) := by decide +kernel
theorem dX12_carry_125 : decode cX12_carry 125 = .ok (.iload 4, 2) := by decide +kernel
theorem dX12_carry_127 : decode cX12_carry 127 = .ok (.iload 5, 2) := by decide +kernel
theorem dX12_carry_129 : decode cX12_carry 129 = .ok (.invokestatic 303, 3) := by decide +kernel
theorem dX12_carry_132 : decode cX12_carry 132 = .ok (.iload 5, 2) := by decide +kernel
theorem dX12_carry_134 : decode cX12_carry 134 = .ok (.ireturn, 1) := by decide +kernel
