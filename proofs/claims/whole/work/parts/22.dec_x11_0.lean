theorem dX11_init_0 : decode cX11_init 0 = .ok (.aload_n 0, 1) := by decide +kernel
theorem dX11_init_1 : decode cX11_init 1 = .ok (.invokespecial 1, 3) := by decide +kernel
theorem dX11_init_4 : decode cX11_init 4 = .ok (.aload_n 0, 1) := by decide +kernel
theorem dX11_init_5 : decode cX11_init 5 = .ok (.iconst 5, 1) := by decide +kernel
theorem dX11_init_6 : decode cX11_init 6 = .ok (.anewarray 9, 3) := by decide +kernel
theorem dX11_init_9 : decode cX11_init 9 = .ok (.putfield 11, 3) := by decide +kernel
theorem dX11_init_12 : decode cX11_init 12 = .ok (.aload_n 0, 1) := by decide +kernel
theorem dX11_init_13 : decode cX11_init 13 = .ok (.bipush 20, 2) := by decide +kernel
theorem dX11_init_15 : decode cX11_init 15 = .ok (.newarray .int, 2) := by decide +kernel
theorem dX11_init_17 : decode cX11_init 17 = .ok (.putfield 15, 3) := by decide +kernel
theorem dX11_init_20 : decode cX11_init 20 = .ok (.aload_n 0, 1) := by decide +kernel
theorem dX11_init_21 : decode cX11_init 21 = .ok (.bipush 20, 2) := by decide +kernel
theorem dX11_init_23 : decode cX11_init 23 = .ok (.newarray .int, 2) := by decide +kernel
theorem dX11_init_25 : decode cX11_init 25 = .ok (.putfield 19, 3) := by decide +kernel
theorem dX11_init_28 : decode cX11_init 28 = .ok (.aload_n 0, 1) := by decide +kernel
theorem dX11_init_29 : decode cX11_init 29 = .ok (.new 22, 3) := by decide +kernel
theorem dX11_init_32 : decode cX11_init 32 = .ok (.dup, 1) := by decide +kernel
theorem dX11_init_33 : decode cX11_init 33 = .ok (.invokespecial 24, 3) := by decide +kernel
theorem dX11_init_36 : decode cX11_init 36 = .ok (.putfield 25, 3) := by decide +kernel
theorem dX11_init_39 : decode cX11_init 39 = .ok (.aload_n 0, 1) := by decide +kernel
theorem dX11_init_40 : decode cX11_init 40 = .ok (.new 22, 3) := by decide +kernel
theorem dX11_init_43 : decode cX11_init 43 = .ok (.dup, 1) := by decide +kernel
theorem dX11_init_44 : decode cX11_init 44 = .ok (.invokespecial 24, 3) := by decide +kernel
theorem dX11_init_47 : decode cX11_init 47 = .ok (.putfield 29, 3) := by decide +kernel
theorem dX11_init_50 : decode cX11_init 50 = .ok (.aload_n 0, 1) := by decide +kernel
theorem dX11_init_51 : decode cX11_init 51 = .ok (.new 22, 3) := by decide +kernel
theorem dX11_init_54 : decode cX11_init 54 = .ok (.dup, 1) := by decide +kernel
theorem dX11_init_55 : decode cX11_init 55 = .ok (.invokespecial 24, 3) := by decide +kernel
theorem dX11_init_58 : decode cX11_init 58 = .ok (.putfield 32, 3) := by decide +kernel
theorem dX11_init_61 : decode cX11_init 61 = .ok (.aload_n 0, 1) := by decide +kernel
theorem dX11_init_62 : decode cX11_init 62 = .ok (.iconst 4, 1) := by decide +kernel
theorem dX11_init_63 : decode cX11_init 63 = .ok (.newarray .int, 2) := by decide +kernel
theorem dX11_init_65 : decode cX11_init 65 = .ok (.putfield 35, 3) := by decide +kernel
theorem dX11_init_68 : decode cX11_init 68 = .ok (.aload_n 0, 1) := by decide +kernel
theorem dX11_init_69 : decode cX11_init 69 = .ok (.new 22, 3) := by decide +kernel
theorem dX11_init_72 : decode cX11_init 72 = .ok (.dup, 1) := by decide +kernel
theorem dX11_init_73 : decode cX11_init 73 = .ok (.invokespecial 24, 3) := by decide +kernel
theorem dX11_init_76 : decode cX11_init 76 = .ok (.putfield 38, 3) := by decide +kernel
theorem dX11_init_79 : decode cX11_init 79 = .ok (.aload_n 0, 1) := by decide +kernel
theorem dX11_init_80 : decode cX11_init 80 = .ok (.sipush 4000, 3) := by decide +kernel
theorem dX11_init_83 : decode cX11_init 83 = .ok (.newarray .int, 2) := by decide +kernel
theorem dX11_init_85 : decode cX11_init 85 = .ok (.putfield 41, 3) := by decide +kernel
theorem dX11_init_88 : decode cX11_init 88 = .ok (.aload_n 0, 1) := by decide +kernel
theorem dX11_init_89 : decode cX11_init 89 = .ok (.new 44, 3) := by decide +kernel
theorem dX11_init_92 : decode cX11_init 92 = .ok (.dup, 1) := by decide +kernel
theorem dX11_init_93 : decode cX11_init 93 = .ok (.invokespecial 46, 3) := by decide +kernel
theorem dX11_init_96 : decode cX11_init 96 = .ok (.putfield 47, 3) := by decide +kernel
theorem dX11_init_99 : decode cX11_init 99 = .ok (.aload_n 0, 1) := by decide +kernel
theorem dX11_init_100 : decode cX11_init 100 = .ok (.new 51, 3) := by decide +kernel
theorem dX11_init_103 : decode cX11_init 103 = .ok (.dup, 1) := by decide +kernel
theorem dX11_init_104 : decode cX11_init 104 = .ok (.invokespecial 53, 3) := by decide +kernel
theorem dX11_init_107 : decode cX11_init 107 = .ok (.putfield 54, 3) := by decide +kernel
theorem dX11_init_110 : decode cX11_init 110 = .ok (.aload_n 0, 1) := by decide +kernel
theorem dX11_init_111 : decode cX11_init 111 = .ok (.bipush 8, 2) := by decide +kernel
theorem dX11_init_113 : decode cX11_init 113 = .ok (.newarray .int, 2) := by decide +kernel
theorem dX11_init_115 : decode cX11_init 115 = .ok (.putfield 58, 3) := by decide +kernel
theorem dX11_init_118 : decode cX11_init 118 = .ok (.aload_n 0, 1) := by decide +kernel
theorem dX11_init_119 : decode cX11_init 119 = .ok (.bipush 8, 2) := by decide +kernel
theorem dX11_init_121 : decode cX11_init 121 = .ok (.newarray .int, 2) := by decide +kernel
theorem dX11_init_123 : decode cX11_init 123 = .ok (.putfield 61, 3) := by decide +kernel
theorem dX11_init_126 : decode cX11_init 126 = .ok (.aload_n 0, 1) := by decide +kernel
theorem dX11_init_127 : decode cX11_init 127 = .ok (.iconst 4, 1) := by decide +kernel
theorem dX11_init_128 : decode cX11_init 128 = .ok (.iconst 4, 1) := by decide +kernel
theorem dX11_init_129 : decode cX11_init 129 = .ok (.multianewarray 64 2, 4) := by decide +kernel
theorem dX11_init_133 : decode cX11_init 133 = .ok (.putfield 66, 3) := by decide +kernel
theorem dX11_init_136 : decode cX11_init 136 = .ok (.aload_n 0, 1) := by decide +kernel
theorem dX11_init_137 : decode cX11_init 137 = .ok (.new 69, 3) := by decide +kernel
theorem dX11_init_140 : decode cX11_init 140 = .ok (.dup, 1) := by decide +kernel
theorem dX11_init_141 : decode cX11_init 141 = .ok (.invokespecial 71, 3) := by decide +kernel
theorem dX11_init_144 : decode cX11_init 144 = .ok (.putfield 72, 3) := by decide +kernel
theorem dX11_init_147 : decode cX11_init 147 = .ok (.aload_n 0, 1) := by decide +kernel
theorem dX11_init_148 : decode cX11_init 148 = .ok (.iconst 3, 1) := by decide +kernel
theorem dX11_init_149 : decode cX11_init 149 = .ok (.anewarray 76, 3) := by decide +kernel
theorem dX11_init_152 : decode cX11_init 152 = .ok (.putfield 78, 3) := by decide +kernel
theorem dX11_init_155 : decode cX11_init 155 = .ok (.iconst 0, 1) := by decide +kernel
theorem dX11_init_156 : decode cX11_init 156 = .ok (.istore_n 1, 1) := by decide +kernel
theorem dX11_init_157 : decode cX11_init 157 = .ok (.iload_n 1, 1) := by decide +kernel
theorem dX11_init_158 : decode cX11_init 158 = .ok (.iconst 5, 1) := by decide +kernel
theorem dX11_init_159 : decode cX11_init 159 = .ok (.if_icmp .ge 23, 3) := by decide +kernel
theorem dX11_init_162 : decode cX11_init 162 = .ok (.aload_n 0, 1) := by decide +kernel
theorem dX11_init_163 : decode cX11_init 163 = .ok (.getfield 11, 3) := by decide +kernel
theorem dX11_init_166 : decode cX11_init 166 = .ok (.iload_n 1, 1) := by decide +kernel
theorem dX11_init_167 : decode cX11_init 167 = .ok (.new 9, 3) := by decide +kernel
theorem dX11_init_170 : decode cX11_init 170 = .ok (.dup, 1) := by decide +kernel
theorem dX11_init_171 : decode cX11_init 171 = .ok (.iload_n 1, 1) := by decide +kernel
theorem dX11_init_172 : decode cX11_init 172 = .ok (.invokespecial 82, 3) := by decide +kernel
theorem dX11_init_175 : decode cX11_init 175 = .ok (.aastore, 1) := by decide +kernel
theorem dX11_init_176 : decode cX11_init 176 = .ok (.iinc 1 1, 3) := by decide +kernel
theorem dX11_init_179 : decode cX11_init 179 = .ok (.goto (-22), 3) := by decide +kernel
theorem dX11_init_182 : decode cX11_init 182 = .ok (.iconst 0, 1) := by decide +kernel
theorem dX11_init_183 : decode cX11_init 183 = .ok (.istore_n 1, 1) := by decide +kernel
theorem dX11_init_184 : decode cX11_init 184 = .ok (.iload_n 1, 1) := by decide +kernel
theorem dX11_init_185 : decode cX11_init 185 = .ok (.iconst 3, 1) := by decide +kernel
theorem dX11_init_186 : decode cX11_init 186 = .ok (.if_icmp .ge 22, 3) := by decide +kernel
theorem dX11_init_189 : decode cX11_init 189 = .ok (.aload_n 0, 1) := by decide +kernel
theorem dX11_init_190 : decode cX11_init 190 = .ok (.getfield 78, 3) := by decide +kernel
theorem dX11_init_193 : decode cX11_init 193 = .ok (.iload_n 1, 1) := by decide +kernel
theorem dX11_init_194 : decode cX11_init 194 = .ok (.new 76, 3) := by decide +kernel
theorem dX11_init_197 : decode cX11_init 197 = .ok (.dup, 1) := by decide +kernel
theorem dX11_init_198 : decode cX11_init 198 = .ok (.invokespecial 85, 3) := by decide +kernel
theorem dX11_init_201 : decode cX11_init 201 = .ok (.aastore, 1) := by decide +kernel
theorem dX11_init_202 : decode cX11_init 202 = .ok (.iinc 1 1, 3) := by decide +kernel
theorem dX11_init_205 : decode cX11_init 205 = .ok (.goto (-21), 3) := by decide +kernel
theorem dX11_init_208 : decode cX11_init 208 = .ok (.aload_n 0, 1) := by decide +kernel
theorem dX11_init_209 : decode cX11_init 209 = .ok (.getfield 58, 3) := by decide +kernel
theorem dX11_init_212 : decode cX11_init 212 = .ok (.bipush 100, 2) := by decide +kernel
theorem dX11_init_214 : decode cX11_init 214 = .ok (.invokestatic 86, 3) := by decide +kernel
theorem dX11_init_217 : decode cX11_init 217 = .ok (.return_, 1) := by decide +kernel
theorem dX11_factory_0 : decode cX11_factory 0 = .ok (.iload_n 1, 1) := by decide +kernel
theorem dX11_factory_1 : decode cX11_factory 1 = .ok (.invokestatic 92, 3) := by decide +kernel
theorem dX11_factory_4 : decode cX11_factory 4 = .ok (.ifCond .eq 12, 3) := by decide +kernel
theorem dX11_factory_7 : decode cX11_factory 7 = .ok (.iload_n 2, 1) := by decide +kernel
theorem dX11_factory_8 : decode cX11_factory 8 = .ok (.iconst 0, 1) := by decide +kernel
theorem dX11_factory_9 : decode cX11_factory 9 = .ok (.iconst 2, 1) := by decide +kernel
theorem dX11_factory_10 : decode cX11_factory 10 = .ok (.invokestatic 96, 3) := by decide +kernel
theorem dX11_factory_13 : decode cX11_factory 13 = .ok (.ifCond .ne 5, 3) := by decide +kernel
theorem dX11_factory_16 : decode cX11_factory 16 = .ok (.iconst (-1), 1) := by decide +kernel
theorem dX11_factory_17 : decode cX11_factory 17 = .ok (.ireturn, 1) := by decide +kernel
theorem dX11_factory_18 : decode cX11_factory 18 = .ok (.aload_n 0, 1) := by decide +kernel
theorem dX11_factory_19 : decode cX11_factory 19 = .ok (.getfield 11, 3) := by decide +kernel
theorem dX11_factory_22 : decode cX11_factory 22 = .ok (.iload_n 1, 1) := by decide +kernel
theorem dX11_factory_23 : decode cX11_factory 23 = .ok (.aaload, 1) := by decide +kernel
theorem dX11_factory_24 : decode cX11_factory 24 = .ok (.astore 4, 2) := by decide +kernel
theorem dX11_factory_26 : decode cX11_factory 26 = .ok (.iload_n 2, 1) := by decide +kernel
theorem dX11_factory_27 : decode cX11_factory 27 = .ok (.iconst 2, 1) := by decide +kernel
theorem dX11_factory_28 : decode cX11_factory 28 = .ok (.if_icmp .ne 32, 3) := by decide +kernel
theorem dX11_factory_31 : decode cX11_factory 31 = .ok (.iload_n 3, 1) := by decide +kernel
theorem dX11_factory_32 : decode cX11_factory 32 = .ok (.iconst 0, 1) := by decide +kernel
theorem dX11_factory_33 : decode cX11_factory 33 = .ok (.bipush 50, 2) := by decide +kernel
theorem dX11_factory_35 : decode cX11_factory 35 = .ok (.invokestatic 96, 3) := by decide +kernel
theorem dX11_factory_38 : decode cX11_factory 38 = .ok (.ifCond .ne 6, 3) := by decide +kernel
theorem dX11_factory_41 : decode cX11_factory 41 = .ok (.bipush (-2), 2) := by decide +kernel
theorem dX11_factory_43 : decode cX11_factory 43 = .ok (.ireturn, 1) := by decide +kernel
theorem dX11_factory_44 : decode cX11_factory 44 = .ok (.aload 4, 2) := by decide +kernel
theorem dX11_factory_46 : decode cX11_factory 46 = .ok (.getfield 100, 3) := by decide +kernel
theorem dX11_factory_49 : decode cX11_factory 49 = .ok (.istore 5, 2) := by decide +kernel
theorem dX11_factory_51 : decode cX11_factory 51 = .ok (.aload 4, 2) := by decide +kernel
theorem dX11_factory_53 : decode cX11_factory 53 = .ok (.iload_n 3, 1) := by decide +kernel
theorem dX11_factory_54 : decode cX11_factory 54 = .ok (.putfield 100, 3) := by decide +kernel
theorem dX11_factory_57 : decode cX11_factory 57 = .ok (.iload 5, 2) := by decide +kernel
theorem dX11_factory_59 : decode cX11_factory 59 = .ok (.ireturn, 1) := by decide +kernel
theorem dX11_factory_60 : decode cX11_factory 60 = .ok (.iload_n 3, 1) := by decide +kernel
theorem dX11_factory_61 : decode cX11_factory 61 = .ok (.bipush 20, 2) := by decide +kernel
theorem dX11_factory_63 : decode cX11_factory 63 = .ok (.sipush 240, 3) := by decide +kernel
theorem dX11_factory_66 : decode cX11_factory 66 = .ok (.invokestatic 96, 3) := by decide +kernel
theorem dX11_factory_69 : decode cX11_factory 69 = .ok (.ifCond .ne 6, 3) := by decide +kernel
theorem dX11_factory_72 : decode cX11_factory 72 = .ok (.bipush (-2), 2) := by decide +kernel
theorem dX11_factory_74 : decode cX11_factory 74 = .ok (.ireturn, 1) := by decide +kernel
theorem dX11_factory_75 : decode cX11_factory 75 = .ok (.iload_n 2, 1) := by decide +kernel
theorem dX11_factory_76 : decode cX11_factory 76 = .ok (.ifCond .ne 19, 3) := by decide +kernel
theorem dX11_factory_79 : decode cX11_factory 79 = .ok (.aload 4, 2) := by decide +kernel
theorem dX11_factory_81 : decode cX11_factory 81 = .ok (.getfield 104, 3) := by decide +kernel
theorem dX11_factory_84 : decode cX11_factory 84 = .ok (.istore 5, 2) := by decide +kernel
theorem dX11_factory_86 : decode cX11_factory 86 = .ok (.aload 4, 2) := by decide +kernel
theorem dX11_factory_88 : decode cX11_factory 88 = .ok (.iload_n 3, 1) := by decide +kernel
theorem dX11_factory_89 : decode cX11_factory 89 = .ok (.putfield 104, 3) := by decide +kernel
theorem dX11_factory_92 : decode cX11_factory 92 = .ok (.goto 16, 3) := by decide +kernel
theorem dX11_factory_95 : decode cX11_factory 95 = .ok (.aload 4, 2) := by decide +kernel
theorem dX11_factory_97 : decode cX11_factory 97 = .ok (.getfield 107, 3) := by decide +kernel
theorem dX11_factory_100 : decode cX11_factory 100 = .ok (.istore 5, 2) := by decide +kernel
theorem dX11_factory_102 : decode cX11_factory 102 = .ok (.aload 4, 2) := by decide +kernel
theorem dX11_factory_104 : decode cX11_factory 104 = .ok (.iload_n 3, 1) := by decide +kernel
theorem dX11_factory_105 : decode cX11_factory 105 = .ok (.putfield 107, 3) := by decide +kernel
theorem dX11_factory_108 : decode cX11_factory 108 = .ok (.iload 5, 2) := by decide +kernel
theorem dX11_factory_110 : decode cX11_factory 110 = .ok (.ireturn, 1) := by decide +kernel
theorem dX11_base_0 : decode cX11_base 0 = .ok (.iload_n 1, 1) := by decide +kernel
theorem dX11_base_1 : decode cX11_base 1 = .ok (.invokestatic 92, 3) := by decide +kernel
theorem dX11_base_4 : decode cX11_base 4 = .ok (.ifCond .eq 10, 3) := by decide +kernel
theorem dX11_base_7 : decode cX11_base 7 = .ok (.iload_n 2, 1) := by decide +kernel
theorem dX11_base_8 : decode cX11_base 8 = .ok (.invokestatic 110, 3) := by decide +kernel
theorem dX11_base_11 : decode cX11_base 11 = .ok (.ifCond .ne 5, 3) := by decide +kernel
theorem dX11_base_14 : decode cX11_base 14 = .ok (.iconst (-1), 1) := by decide +kernel
theorem dX11_base_15 : decode cX11_base 15 = .ok (.ireturn, 1) := by decide +kernel
theorem dX11_base_16 : decode cX11_base 16 = .ok (.iload_n 3, 1) := by decide +kernel
theorem dX11_base_17 : decode cX11_base 17 = .ok (.iconst 1, 1) := by decide +kernel
theorem dX11_base_18 : decode cX11_base 18 = .ok (.sipush 999, 3) := by decide +kernel
theorem dX11_base_21 : decode cX11_base 21 = .ok (.invokestatic 96, 3) := by decide +kernel
theorem dX11_base_24 : decode cX11_base 24 = .ok (.ifCond .ne 6, 3) := by decide +kernel
theorem dX11_base_27 : decode cX11_base 27 = .ok (.bipush (-2), 2) := by decide +kernel
theorem dX11_base_29 : decode cX11_base 29 = .ok (.ireturn, 1) := by decide +kernel
theorem dX11_base_30 : decode cX11_base 30 = .ok (.aload_n 0, 1) := by decide +kernel
theorem dX11_base_31 : decode cX11_base 31 = .ok (.getfield 11, 3) := by decide +kernel
theorem dX11_base_34 : decode cX11_base 34 = .ok (.iload_n 1, 1) := by decide +kernel
theorem dX11_base_35 : decode cX11_base 35 = .ok (.aaload, 1) := by decide +kernel
theorem dX11_base_36 : decode cX11_base 36 = .ok (.getfield 113, 3) := by decide +kernel
theorem dX11_base_39 : decode cX11_base 39 = .ok (.iload_n 2, 1) := by decide +kernel
theorem dX11_base_40 : decode cX11_base 40 = .ok (.iaload, 1) := by decide +kernel
theorem dX11_base_41 : decode cX11_base 41 = .ok (.istore 4, 2) := by decide +kernel
theorem dX11_base_43 : decode cX11_base 43 = .ok (.aload_n 0, 1) := by decide +kernel
theorem dX11_base_44 : decode cX11_base 44 = .ok (.getfield 11, 3) := by decide +kernel
theorem dX11_base_47 : decode cX11_base 47 = .ok (.iload_n 1, 1) := by decide +kernel
theorem dX11_base_48 : decode cX11_base 48 = .ok (.aaload, 1) := by decide +kernel
theorem dX11_base_49 : decode cX11_base 49 = .ok (.getfield 113, 3) := by decide +kernel
theorem dX11_base_52 : decode cX11_base 52 = .ok (.iload_n 2, 1) := by decide +kernel
theorem dX11_base_53 : decode cX11_base 53 = .ok (.iload_n 3, 1) := by decide +kernel
theorem dX11_base_54 : decode cX11_base 54 = .ok (.iastore, 1) := by decide +kernel
theorem dX11_base_55 : decode cX11_base 55 = .ok (.iload 4, 2) := by decide +kernel
theorem dX11_base_57 : decode cX11_base 57 = .ok (.ireturn, 1) := by decide +kernel
theorem dX11_price_0 : decode cX11_price 0 = .ok (.iload_n 1, 1) := by decide +kernel
theorem dX11_price_1 : decode cX11_price 1 = .ok (.invokestatic 92, 3) := by decide +kernel
theorem dX11_price_4 : decode cX11_price 4 = .ok (.ifCond .eq 23, 3) := by decide +kernel
theorem dX11_price_7 : decode cX11_price 7 = .ok (.iload_n 2, 1) := by decide +kernel
theorem dX11_price_8 : decode cX11_price 8 = .ok (.invokestatic 110, 3) := by decide +kernel
theorem dX11_price_11 : decode cX11_price 11 = .ok (.ifCond .eq 16, 3) := by decide +kernel
theorem dX11_price_14 : decode cX11_price 14 = .ok (.aload_n 0, 1) := by decide +kernel
theorem dX11_price_15 : decode cX11_price 15 = .ok (.getfield 11, 3) := by decide +kernel
theorem dX11_price_18 : decode cX11_price 18 = .ok (.iload_n 1, 1) := by decide +kernel
theorem dX11_price_19 : decode cX11_price 19 = .ok (.aaload, 1) := by decide +kernel
theorem dX11_price_20 : decode cX11_price 20 = .ok (.iload_n 2, 1) := by decide +kernel
theorem dX11_price_21 : decode cX11_price 21 = .ok (.invokevirtual 116, 3) := by decide +kernel
theorem dX11_price_24 : decode cX11_price 24 = .ok (.goto 4, 3) := by decide +kernel
theorem dX11_price_27 : decode cX11_price 27 = .ok (.iconst (-1), 1) := by decide +kernel
theorem dX11_price_28 : decode cX11_price 28 = .ok (.ireturn, 1) := by decide +kernel
theorem dX11_bullion_0 : decode cX11_bullion 0 = .ok (.iload_n 1, 1) := by decide +kernel
theorem dX11_bullion_1 : decode cX11_bullion 1 = .ok (.invokestatic 120, 3) := by decide +kernel
theorem dX11_bullion_4 : decode cX11_bullion 4 = .ok (.ifCond .ne 5, 3) := by decide +kernel
theorem dX11_bullion_7 : decode cX11_bullion 7 = .ok (.iconst (-1), 1) := by decide +kernel
theorem dX11_bullion_8 : decode cX11_bullion 8 = .ok (.ireturn, 1) := by decide +kernel
theorem dX11_bullion_9 : decode cX11_bullion 9 = .ok (.iload_n 2, 1) := by decide +kernel
theorem dX11_bullion_10 : decode cX11_bullion 10 = .ok (.ldc 123, 2) := by decide +kernel
theorem dX11_bullion_12 : decode cX11_bullion 12 = .ok (.ldc 124, 2) := by decide +kernel
theorem dX11_bullion_14 : decode cX11_bullion 14 = .ok (.invokestatic 96, 3) := by decide +kernel
theorem dX11_bullion_17 : decode cX11_bullion 17 = .ok (.ifCond .eq 23, 3) := by decide +kernel
theorem dX11_bullion_20 : decode cX11_bullion 20 = .ok (.aload_n 0, 1) := by decide +kernel
theorem dX11_bullion_21 : decode cX11_bullion 21 = .ok (.getfield 11, 3) := by decide +kernel
theorem dX11_bullion_24 : decode cX11_bullion 24 = .ok (.iload_n 1, 1) := by decide +kernel
theorem dX11_bullion_25 : decode cX11_bullion 25 = .ok (.aaload, 1) := by decide +kernel
theorem dX11_bullion_26 : decode cX11_bullion 26 = .ok (.getfield 125, 3) := by decide +kernel
theorem dX11_bullion_29 : decode cX11_bullion 29 = .ok (.iload_n 2, 1) := by decide +kernel
theorem dX11_bullion_30 : decode cX11_bullion 30 = .ok (.iadd, 1) := by decide +kernel
theorem dX11_bullion_31 : decode cX11_bullion 31 = .ok (.iconst 0, 1) := by decide +kernel
theorem dX11_bullion_32 : decode cX11_bullion 32 = .ok (.ldc 128, 2) := by decide +kernel
theorem dX11_bullion_34 : decode cX11_bullion 34 = .ok (.invokestatic 96, 3) := by decide +kernel
theorem dX11_bullion_37 : decode cX11_bullion 37 = .ok (.ifCond .ne 6, 3) := by decide +kernel
theorem dX11_bullion_40 : decode cX11_bullion 40 = .ok (.bipush (-2), 2) := by decide +kernel
theorem dX11_bullion_42 : decode cX11_bullion 42 = .ok (.ireturn, 1) := by decide +kernel
theorem dX11_bullion_43 : decode cX11_bullion 43 = .ok (.aload_n 0, 1) := by decide +kernel
theorem dX11_bullion_44 : decode cX11_bullion 44 = .ok (.getfield 11, 3) := by decide +kernel
theorem dX11_bullion_47 : decode cX11_bullion 47 = .ok (.iload_n 1, 1) := by decide +kernel
theorem dX11_bullion_48 : decode cX11_bullion 48 = .ok (.aaload, 1) := by decide +kernel
theorem dX11_bullion_49 : decode cX11_bullion 49 = .ok (.dup, 1) := by decide +kernel
theorem dX11_bullion_50 : decode cX11_bullion 50 = .ok (.getfield 125, 3) := by decide +kernel
theorem dX11_bullion_53 : decode cX11_bullion 53 = .ok (.iload_n 2, 1) := by decide +kernel
theorem dX11_bullion_54 : decode cX11_bullion 54 = .ok (.iadd, 1) := by decide +kernel
theorem dX11_bullion_55 : decode cX11_bullion 55 = .ok (.putfield 125, 3) := by decide +kernel
theorem dX11_bullion_58 : decode cX11_bullion 58 = .ok (.aload_n 0, 1) := by decide +kernel
theorem dX11_bullion_59 : decode cX11_bullion 59 = .ok (.getfield 11, 3) := by decide +kernel
theorem dX11_bullion_62 : decode cX11_bullion 62 = .ok (.iload_n 1, 1) := by decide +kernel
theorem dX11_bullion_63 : decode cX11_bullion 63 = .ok (.aaload, 1) := by decide +kernel
theorem dX11_bullion_64 : decode cX11_bullion 64 = .ok (.getfield 125, 3) := by decide +kernel
theorem dX11_bullion_67 : decode cX11_bullion 67 = .ok (.ireturn, 1) := by decide +kernel
theorem dX11_stock_0 : decode cX11_stock 0 = .ok (.iload_n 1, 1) := by decide +kernel
theorem dX11_stock_1 : decode cX11_stock 1 = .ok (.invokestatic 120, 3) := by decide +kernel
theorem dX11_stock_4 : decode cX11_stock 4 = .ok (.ifCond .eq 24, 3) := by decide +kernel
theorem dX11_stock_7 : decode cX11_stock 7 = .ok (.iload_n 2, 1) := by decide +kernel
theorem dX11_stock_8 : decode cX11_stock 8 = .ok (.invokestatic 110, 3) := by decide +kernel
theorem dX11_stock_11 : decode cX11_stock 11 = .ok (.ifCond .eq 17, 3) := by decide +kernel
theorem dX11_stock_14 : decode cX11_stock 14 = .ok (.aload_n 0, 1) := by decide +kernel
theorem dX11_stock_15 : decode cX11_stock 15 = .ok (.getfield 11, 3) := by decide +kernel
theorem dX11_stock_18 : decode cX11_stock 18 = .ok (.iload_n 1, 1) := by decide +kernel
theorem dX11_stock_19 : decode cX11_stock 19 = .ok (.aaload, 1) := by decide +kernel
theorem dX11_stock_20 : decode cX11_stock 20 = .ok (.getfield 129, 3) := by decide +kernel
theorem dX11_stock_23 : decode cX11_stock 23 = .ok (.iload_n 2, 1) := by decide +kernel
theorem dX11_stock_24 : decode cX11_stock 24 = .ok (.iaload, 1) := by decide +kernel
theorem dX11_stock_25 : decode cX11_stock 25 = .ok (.goto 4, 3) := by decide +kernel
theorem dX11_stock_28 : decode cX11_stock 28 = .ok (.iconst (-1), 1) := by decide +kernel
theorem dX11_stock_29 : decode cX11_stock 29 = .ok (.ireturn, 1) := by decide +kernel
theorem dX11_person_0 : decode cX11_person 0 = .ok (.iload_n 1, 1) := by decide +kernel
theorem dX11_person_1 : decode cX11_person 1 = .ok (.invokestatic 120, 3) := by decide +kernel
theorem dX11_person_4 : decode cX11_person 4 = .ok (.ifCond .ne 5, 3) := by decide +kernel
theorem dX11_person_7 : decode cX11_person 7 = .ok (.iconst (-1), 1) := by decide +kernel
theorem dX11_person_8 : decode cX11_person 8 = .ok (.ireturn, 1) := by decide +kernel
theorem dX11_person_9 : decode cX11_person 9 = .ok (.iload_n 2, 1) := by decide +kernel
theorem dX11_person_10 : decode cX11_person 10 = .ok (.iconst 0, 1) := by decide +kernel
theorem dX11_person_11 : decode cX11_person 11 = .ok (.bipush 9, 2) := by decide +kernel
theorem dX11_person_13 : decode cX11_person 13 = .ok (.invokestatic 96, 3) := by decide +kernel
theorem dX11_person_16 : decode cX11_person 16 = .ok (.ifCond .ne 6, 3) := by decide +kernel
theorem dX11_person_19 : decode cX11_person 19 = .ok (.bipush (-2), 2) := by decide +kernel
theorem dX11_person_21 : decode cX11_person 21 = .ok (.ireturn, 1) := by decide +kernel
theorem dX11_person_22 : decode cX11_person 22 = .ok (.aload_n 0, 1) := by decide +kernel
theorem dX11_person_23 : decode cX11_person 23 = .ok (.getfield 132, 3) := by decide +kernel
theorem dX11_person_26 : decode cX11_person 26 = .ok (.bipush 20, 2) := by decide +kernel
theorem dX11_person_28 : decode cX11_person 28 = .ok (.if_icmp .lt 6, 3) := by decide +kernel
theorem dX11_person_31 : decode cX11_person 31 = .ok (.bipush (-4), 2) := by decide +kernel
theorem dX11_person_33 : decode cX11_person 33 = .ok (.ireturn, 1) := by decide +kernel
theorem dX11_person_34 : decode cX11_person 34 = .ok (.aload_n 0, 1) := by decide +kernel
theorem dX11_person_35 : decode cX11_person 35 = .ok (.getfield 15, 3) := by decide +kernel
theorem dX11_person_38 : decode cX11_person 38 = .ok (.aload_n 0, 1) := by decide +kernel
theorem dX11_person_39 : decode cX11_person 39 = .ok (.getfield 132, 3) := by decide +kernel
theorem dX11_person_42 : decode cX11_person 42 = .ok (.iload_n 1, 1) := by decide +kernel
theorem dX11_person_43 : decode cX11_person 43 = .ok (.iastore, 1) := by decide +kernel
theorem dX11_person_44 : decode cX11_person 44 = .ok (.aload_n 0, 1) := by decide +kernel
theorem dX11_person_45 : decode cX11_person 45 = .ok (.getfield 19, 3) := by decide +kernel
theorem dX11_person_48 : decode cX11_person 48 = .ok (.aload_n 0, 1) := by decide +kernel
theorem dX11_person_49 : decode cX11_person 49 = .ok (.getfield 132, 3) := by decide +kernel
theorem dX11_person_52 : decode cX11_person 52 = .ok (.iload_n 2, 1) := by decide +kernel
theorem dX11_person_53 : decode cX11_person 53 = .ok (.iastore, 1) := by decide +kernel
theorem dX11_person_54 : decode cX11_person 54 = .ok (.aload_n 0, 1) := by decide +kernel
theorem dX11_person_55 : decode cX11_person 55 = .ok (.dup, 1) := by decide +kernel
theorem dX11_person_56 : decode cX11_person 56 = .ok (.getfield 132, 3) := by decide +kernel
theorem dX11_person_59 : decode cX11_person 59 = .ok (.iconst 1, 1) := by decide +kernel
theorem dX11_person_60 : decode cX11_person 60 = .ok (.iadd, 1) := by decide +kernel
theorem dX11_person_61 : decode cX11_person 61 = .ok (.putfield 132, 3) := by decide +kernel
theorem dX11_person_64 : decode cX11_person 64 = .ok (.aload_n 0, 1) := by decide +kernel
theorem dX11_person_65 : decode cX11_person 65 = .ok (.getfield 132, 3) := by decide +kernel
theorem dX11_person_68 : decode cX11_person 68 = .ok (.iconst 1, 1) := by decide +kernel
theorem dX11_person_69 : decode cX11_person 69 = .ok (.isub, 1) := by decide +kernel
theorem dX11_person_70 : decode cX11_person 70 = .ok (.ireturn, 1) := by decide +kernel
theorem dX11_goes_0 : decode cX11_goes 0 = .ok (.aload_n 0, 1) := by decide +kernel
theorem dX11_goes_1 : decode cX11_goes 1 = .ok (.iload_n 1, 1) := by decide +kernel
theorem dX11_goes_2 : decode cX11_goes 2 = .ok (.invokevirtual 135, 3) := by decide +kernel
theorem dX11_goes_5 : decode cX11_goes 5 = .ok (.ifCond .eq 10, 3) := by decide +kernel
theorem dX11_goes_8 : decode cX11_goes 8 = .ok (.iload_n 2, 1) := by decide +kernel
theorem dX11_goes_9 : decode cX11_goes 9 = .ok (.invokestatic 120, 3) := by decide +kernel
theorem dX11_goes_12 : decode cX11_goes 12 = .ok (.ifCond .ne 5, 3) := by decide +kernel
theorem dX11_goes_15 : decode cX11_goes 15 = .ok (.iconst (-1), 1) := by decide +kernel
theorem dX11_goes_16 : decode cX11_goes 16 = .ok (.ireturn, 1) := by decide +kernel
theorem dX11_goes_17 : decode cX11_goes 17 = .ok (.aload_n 0, 1) := by decide +kernel
theorem dX11_goes_18 : decode cX11_goes 18 = .ok (.getfield 15, 3) := by decide +kernel
theorem dX11_goes_21 : decode cX11_goes 21 = .ok (.iload_n 1, 1) := by decide +kernel
theorem dX11_goes_22 : decode cX11_goes 22 = .ok (.iaload, 1) := by decide +kernel
theorem dX11_goes_23 : decode cX11_goes 23 = .ok (.istore_n 3, 1) := by decide +kernel
theorem dX11_goes_24 : decode cX11_goes 24 = .ok (.aload_n 0, 1) := by decide +kernel
theorem dX11_goes_25 : decode cX11_goes 25 = .ok (.getfield 15, 3) := by decide +kernel
theorem dX11_goes_28 : decode cX11_goes 28 = .ok (.iload_n 1, 1) := by decide +kernel
theorem dX11_goes_29 : decode cX11_goes 29 = .ok (.iload_n 2, 1) := by decide +kernel
theorem dX11_goes_30 : decode cX11_goes 30 = .ok (.iastore, 1) := by decide +kernel
theorem dX11_goes_31 : decode cX11_goes 31 = .ok (.iload_n 3, 1) := by decide +kernel
theorem dX11_goes_32 : decode cX11_goes 32 = .ok (.ireturn, 1) := by decide +kernel
theorem dX11_feed_0 : decode cX11_feed 0 = .ok (.iload_n 2, 1) := by decide +kernel
theorem dX11_feed_1 : decode cX11_feed 1 = .ok (.iconst 0, 1) := by decide +kernel
theorem dX11_feed_2 : decode cX11_feed 2 = .ok (.iconst 4, 1) := by decide +kernel
theorem dX11_feed_3 : decode cX11_feed 3 = .ok (.invokestatic 96, 3) := by decide +kernel
theorem dX11_feed_6 : decode cX11_feed 6 = .ok (.ifCond .ne 6, 3) := by decide +kernel
theorem dX11_feed_9 : decode cX11_feed 9 = .ok (.bipush (-2), 2) := by decide +kernel
theorem dX11_feed_11 : decode cX11_feed 11 = .ok (.ireturn, 1) := by decide +kernel
theorem dX11_feed_12 : decode cX11_feed 12 = .ok (.aload_n 0, 1) := by decide +kernel
theorem dX11_feed_13 : decode cX11_feed 13 = .ok (.getfield 47, 3) := by decide +kernel
theorem dX11_feed_16 : decode cX11_feed 16 = .ok (.iload_n 2, 1) := by decide +kernel
theorem dX11_feed_17 : decode cX11_feed 17 = .ok (.invokevirtual 138, 3) := by decide +kernel
theorem dX11_feed_20 : decode cX11_feed 20 = .ok (.ifCond .ne 6, 3) := by decide +kernel
theorem dX11_feed_23 : decode cX11_feed 23 = .ok (.bipush (-4), 2) := by decide +kernel
theorem dX11_feed_25 : decode cX11_feed 25 = .ok (.ireturn, 1) := by decide +kernel
theorem dX11_feed_26 : decode cX11_feed 26 = .ok (.iload_n 2, 1) := by decide +kernel
theorem dX11_feed_27 : decode cX11_feed 27 = .ok (.iconst 1, 1) := by decide +kernel
theorem dX11_feed_28 : decode cX11_feed 28 = .ok (.isub, 1) := by decide +kernel
theorem dX11_feed_29 : decode cX11_feed 29 = .ok (.istore_n 3, 1) := by decide +kernel
theorem dX11_feed_30 : decode cX11_feed 30 = .ok (.iload_n 3, 1) := by decide +kernel
theorem dX11_feed_31 : decode cX11_feed 31 = .ok (.ifCond .lt 22, 3) := by decide +kernel
theorem dX11_feed_34 : decode cX11_feed 34 = .ok (.aload_n 0, 1) := by decide +kernel
theorem dX11_feed_35 : decode cX11_feed 35 = .ok (.getfield 47, 3) := by decide +kernel
theorem dX11_feed_38 : decode cX11_feed 38 = .ok (.iload_n 1, 1) := by decide +kernel
theorem dX11_feed_39 : decode cX11_feed 39 = .ok (.bipush 8, 2) := by decide +kernel
theorem dX11_feed_41 : decode cX11_feed 41 = .ok (.iload_n 3, 1) := by decide +kernel
theorem dX11_feed_42 : decode cX11_feed 42 = .ok (.imul, 1) := by decide +kernel
theorem dX11_feed_43 : decode cX11_feed 43 = .ok (.ishr, 1) := by decide +kernel
theorem dX11_feed_44 : decode cX11_feed 44 = .ok (.invokevirtual 141, 3) := by decide +kernel
theorem dX11_feed_47 : decode cX11_feed 47 = .ok (.iinc 3 (-1), 3) := by decide +kernel
theorem dX11_feed_50 : decode cX11_feed 50 = .ok (.goto (-20), 3) := by decide +kernel
theorem dX11_feed_53 : decode cX11_feed 53 = .ok (.aload_n 0, 1) := by decide +kernel
theorem dX11_feed_54 : decode cX11_feed 54 = .ok (.getfield 47, 3) := by decide +kernel
theorem dX11_feed_57 : decode cX11_feed 57 = .ok (.getfield 144, 3) := by decide +kernel
theorem dX11_feed_60 : decode cX11_feed 60 = .ok (.ireturn, 1) := by decide +kernel
theorem dX11_mail_0 : decode cX11_mail 0 = .ok (.iload_n 1, 1) := by decide +kernel
theorem dX11_mail_1 : decode cX11_mail 1 = .ok (.invokestatic 147, 3) := by decide +kernel
theorem dX11_mail_4 : decode cX11_mail 4 = .ok (.ifCond .eq 12, 3) := by decide +kernel
theorem dX11_mail_7 : decode cX11_mail 7 = .ok (.iload_n 2, 1) := by decide +kernel
theorem dX11_mail_8 : decode cX11_mail 8 = .ok (.iconst 0, 1) := by decide +kernel
theorem dX11_mail_9 : decode cX11_mail 9 = .ok (.iconst 2, 1) := by decide +kernel
theorem dX11_mail_10 : decode cX11_mail 10 = .ok (.invokestatic 96, 3) := by decide +kernel
theorem dX11_mail_13 : decode cX11_mail 13 = .ok (.ifCond .ne 5, 3) := by decide +kernel
theorem dX11_mail_16 : decode cX11_mail 16 = .ok (.iconst (-1), 1) := by decide +kernel
theorem dX11_mail_17 : decode cX11_mail 17 = .ok (.ireturn, 1) := by decide +kernel
theorem dX11_mail_18 : decode cX11_mail 18 = .ok (.iload 4, 2) := by decide +kernel
theorem dX11_mail_20 : decode cX11_mail 20 = .ok (.ifCond .ge 6, 3) := by decide +kernel
theorem dX11_mail_23 : decode cX11_mail 23 = .ok (.bipush (-2), 2) := by decide +kernel
theorem dX11_mail_25 : decode cX11_mail 25 = .ok (.ireturn, 1) := by decide +kernel
theorem dX11_mail_26 : decode cX11_mail 26 = .ok (.iload 4, 2) := by decide +kernel
theorem dX11_mail_28 : decode cX11_mail 28 = .ok (.ifCond .ne 11, 3) := by decide +kernel
theorem dX11_mail_31 : decode cX11_mail 31 = .ok (.aload_n 0, 1) := by decide +kernel
theorem dX11_mail_32 : decode cX11_mail 32 = .ok (.getfield 47, 3) := by decide +kernel
theorem dX11_mail_35 : decode cX11_mail 35 = .ok (.getfield 144, 3) := by decide +kernel
theorem dX11_mail_38 : decode cX11_mail 38 = .ok (.ireturn, 1) := by decide +kernel
theorem dX11_mail_39 : decode cX11_mail 39 = .ok (.aload_n 0, 1) := by decide +kernel
theorem dX11_mail_40 : decode cX11_mail 40 = .ok (.getfield 78, 3) := by decide +kernel
theorem dX11_mail_43 : decode cX11_mail 43 = .ok (.iload_n 1, 1) := by decide +kernel
theorem dX11_mail_44 : decode cX11_mail 44 = .ok (.aaload, 1) := by decide +kernel
theorem dX11_mail_45 : decode cX11_mail 45 = .ok (.astore 5, 2) := by decide +kernel
theorem dX11_mail_47 : decode cX11_mail 47 = .ok (.aload 5, 2) := by decide +kernel
theorem dX11_mail_49 : decode cX11_mail 49 = .ok (.invokevirtual 150, 3) := by decide +kernel
theorem dX11_mail_52 : decode cX11_mail 52 = .ok (.ifCond .eq 6, 3) := by decide +kernel
theorem dX11_mail_55 : decode cX11_mail 55 = .ok (.bipush (-11), 2) := by decide +kernel
theorem dX11_mail_57 : decode cX11_mail 57 = .ok (.ireturn, 1) := by decide +kernel
theorem dX11_mail_58 : decode cX11_mail 58 = .ok (.aload 5, 2) := by decide +kernel
theorem dX11_mail_60 : decode cX11_mail 60 = .ok (.getfield 154, 3) := by decide +kernel
theorem dX11_mail_63 : decode cX11_mail 63 = .ok (.iload_n 2, 1) := by decide +kernel
theorem dX11_mail_64 : decode cX11_mail 64 = .ok (.if_icmp .eq 6, 3) := by decide +kernel
theorem dX11_mail_67 : decode cX11_mail 67 = .ok (.bipush (-13), 2) := by decide +kernel
theorem dX11_mail_69 : decode cX11_mail 69 = .ok (.ireturn, 1) := by decide +kernel
theorem dX11_mail_70 : decode cX11_mail 70 = .ok (.aload 5, 2) := by decide +kernel
theorem dX11_mail_72 : decode cX11_mail 72 = .ok (.iload_n 3, 1) := by decide +kernel
theorem dX11_mail_73 : decode cX11_mail 73 = .ok (.iload 4, 2) := by decide +kernel
theorem dX11_mail_75 : decode cX11_mail 75 = .ok (.invokevirtual 157, 3) := by decide +kernel
theorem dX11_mail_78 : decode cX11_mail 78 = .ok (.ifCond .ne 6, 3) := by decide +kernel
theorem dX11_mail_81 : decode cX11_mail 81 = .ok (.bipush (-12), 2) := by decide +kernel
theorem dX11_mail_83 : decode cX11_mail 83 = .ok (.ireturn, 1) := by decide +kernel
theorem dX11_mail_84 : decode cX11_mail 84 = .ok (.aload_n 0, 1) := by decide +kernel
theorem dX11_mail_85 : decode cX11_mail 85 = .ok (.getfield 47, 3) := by decide +kernel
theorem dX11_mail_88 : decode cX11_mail 88 = .ok (.iload 4, 2) := by decide +kernel
theorem dX11_mail_90 : decode cX11_mail 90 = .ok (.invokevirtual 138, 3) := by decide +kernel
theorem dX11_mail_93 : decode cX11_mail 93 = .ok (.ifCond .ne 6, 3) := by decide +kernel
theorem dX11_mail_96 : decode cX11_mail 96 = .ok (.bipush (-4), 2) := by decide +kernel
theorem dX11_mail_98 : decode cX11_mail 98 = .ok (.ireturn, 1) := by decide +kernel
theorem dX11_mail_99 : decode cX11_mail 99 = .ok (.iload_n 3, 1) := by decide +kernel
theorem dX11_mail_100 : decode cX11_mail 100 = .ok (.istore 6, 2) := by decide +kernel
theorem dX11_mail_102 : decode cX11_mail 102 = .ok (.iload 6, 2) := by decide +kernel
theorem dX11_mail_104 : decode cX11_mail 104 = .ok (.iload_n 3, 1) := by decide +kernel
theorem dX11_mail_105 : decode cX11_mail 105 = .ok (.iload 4, 2) := by decide +kernel
theorem dX11_mail_107 : decode cX11_mail 107 = .ok (.iadd, 1) := by decide +kernel
theorem dX11_mail_108 : decode cX11_mail 108 = .ok (.if_icmp .ge 24, 3) := by decide +kernel
theorem dX11_mail_111 : decode cX11_mail 111 = .ok (.aload_n 0, 1) := by decide +kernel
theorem dX11_mail_112 : decode cX11_mail 112 = .ok (.getfield 47, 3) := by decide +kernel
theorem dX11_mail_115 : decode cX11_mail 115 = .ok (.aload 5, 2) := by decide +kernel
theorem dX11_mail_117 : decode cX11_mail 117 = .ok (.getfield 161, 3) := by decide +kernel
theorem dX11_mail_120 : decode cX11_mail 120 = .ok (.iload 6, 2) := by decide +kernel
theorem dX11_mail_122 : decode cX11_mail 122 = .ok (.iaload, 1) := by decide +kernel
theorem dX11_mail_123 : decode cX11_mail 123 = .ok (.invokevirtual 141, 3) := by decide +kernel
theorem dX11_mail_126 : decode cX11_mail 126 = .ok (.iinc 6 1, 3) := by decide +kernel
theorem dX11_mail_129 : decode cX11_mail 129 = .ok (.goto (-27), 3) := by decide +kernel
theorem dX11_mail_132 : decode cX11_mail 132 = .ok (.aload_n 0, 1) := by decide +kernel
theorem dX11_mail_133 : decode cX11_mail 133 = .ok (.getfield 47, 3) := by decide +kernel
theorem dX11_mail_136 : decode cX11_mail 136 = .ok (.getfield 144, 3) := by decide +kernel
theorem dX11_mail_139 : decode cX11_mail 139 = .ok (.ireturn, 1) := by decide +kernel
theorem dX11_order_0 : decode cX11_order 0 = .ok (.iload_n 1, 1) := by decide +kernel
theorem dX11_order_1 : decode cX11_order 1 = .ok (.invokestatic 92, 3) := by decide +kernel
theorem dX11_order_4 : decode cX11_order 4 = .ok (.ifCond .ne 5, 3) := by decide +kernel
theorem dX11_order_7 : decode cX11_order 7 = .ok (.iconst (-1), 1) := by decide +kernel
theorem dX11_order_8 : decode cX11_order 8 = .ok (.ireturn, 1) := by decide +kernel
theorem dX11_order_9 : decode cX11_order 9 = .ok (.aload_n 0, 1) := by decide +kernel
theorem dX11_order_10 : decode cX11_order 10 = .ok (.iconst 1, 1) := by decide +kernel
theorem dX11_order_11 : decode cX11_order 11 = .ok (.invokevirtual 164, 3) := by decide +kernel
theorem dX11_order_14 : decode cX11_order 14 = .ok (.ifCond .ne 6, 3) := by decide +kernel
theorem dX11_order_17 : decode cX11_order 17 = .ok (.bipush (-4), 2) := by decide +kernel
theorem dX11_order_19 : decode cX11_order 19 = .ok (.ireturn, 1) := by decide +kernel
theorem dX11_order_20 : decode cX11_order 20 = .ok (.new 167, 3) := by decide +kernel
theorem dX11_order_23 : decode cX11_order 23 = .ok (.dup, 1) := by decide +kernel
theorem dX11_order_24 : decode cX11_order 24 = .ok (.aload_n 0, 1) := by decide +kernel
theorem dX11_order_25 : decode cX11_order 25 = .ok (.getfield 25, 3) := by decide +kernel
theorem dX11_order_28 : decode cX11_order 28 = .ok (.invokevirtual 169, 3) := by decide +kernel
theorem dX11_order_31 : decode cX11_order 31 = .ok (.iconst 2, 1) := by decide +kernel
theorem dX11_order_32 : decode cX11_order 32 = .ok (.aload_n 0, 1) := by decide +kernel
theorem dX11_order_33 : decode cX11_order 33 = .ok (.getfield 11, 3) := by decide +kernel
theorem dX11_order_36 : decode cX11_order 36 = .ok (.iconst 0, 1) := by decide +kernel
theorem dX11_order_37 : decode cX11_order 37 = .ok (.aaload, 1) := by decide +kernel
theorem dX11_order_38 : decode cX11_order 38 = .ok (.iload_n 1, 1) := by decide +kernel
theorem dX11_order_39 : decode cX11_order 39 = .ok (.aload_n 0, 1) := by decide +kernel
theorem dX11_order_40 : decode cX11_order 40 = .ok (.getfield 173, 3) := by decide +kernel
theorem dX11_order_43 : decode cX11_order 43 = .ok (.invokespecial 176, 3) := by decide +kernel
theorem dX11_order_46 : decode cX11_order 46 = .ok (.astore_n 2, 1) := by decide +kernel
theorem dX11_order_47 : decode cX11_order 47 = .ok (.aload_n 0, 1) := by decide +kernel
theorem dX11_order_48 : decode cX11_order 48 = .ok (.getfield 47, 3) := by decide +kernel
theorem dX11_order_51 : decode cX11_order 51 = .ok (.aload_n 2, 1) := by decide +kernel
theorem dX11_order_52 : decode cX11_order 52 = .ok (.invokevirtual 179, 3) := by decide +kernel
theorem dX11_order_55 : decode cX11_order 55 = .ok (.istore_n 3, 1) := by decide +kernel
theorem dX11_order_56 : decode cX11_order 56 = .ok (.iload_n 3, 1) := by decide +kernel
theorem dX11_order_57 : decode cX11_order 57 = .ok (.ifCond .lt 8, 3) := by decide +kernel
theorem dX11_order_60 : decode cX11_order 60 = .ok (.bipush (-10), 2) := by decide +kernel
theorem dX11_order_62 : decode cX11_order 62 = .ok (.iload_n 3, 1) := by decide +kernel
theorem dX11_order_63 : decode cX11_order 63 = .ok (.isub, 1) := by decide +kernel
theorem dX11_order_64 : decode cX11_order 64 = .ok (.ireturn, 1) := by decide +kernel
theorem dX11_order_65 : decode cX11_order 65 = .ok (.aload_n 2, 1) := by decide +kernel
theorem dX11_order_66 : decode cX11_order 66 = .ok (.aload_n 2, 1) := by decide +kernel
theorem dX11_order_67 : decode cX11_order 67 = .ok (.getfield 183, 3) := by decide +kernel
theorem dX11_order_70 : decode cX11_order 70 = .ok (.invokevirtual 169, 3) := by decide +kernel
theorem dX11_order_73 : decode cX11_order 73 = .ok (.putfield 186, 3) := by decide +kernel
theorem dX11_order_76 : decode cX11_order 76 = .ok (.aload_n 0, 1) := by decide +kernel
theorem dX11_order_77 : decode cX11_order 77 = .ok (.getfield 25, 3) := by decide +kernel
theorem dX11_order_80 : decode cX11_order 80 = .ok (.aload_n 2, 1) := by decide +kernel
theorem dX11_order_81 : decode cX11_order 81 = .ok (.invokevirtual 189, 3) := by decide +kernel
theorem dX11_order_84 : decode cX11_order 84 = .ok (.pop, 1) := by decide +kernel
theorem dX11_order_85 : decode cX11_order 85 = .ok (.aload_n 2, 1) := by decide +kernel
theorem dX11_order_86 : decode cX11_order 86 = .ok (.getfield 193, 3) := by decide +kernel
theorem dX11_order_89 : decode cX11_order 89 = .ok (.ireturn, 1) := by decide +kernel
theorem dX11_letter_0 : decode cX11_letter 0 = .ok (.iload_n 1, 1) := by decide +kernel
theorem dX11_letter_1 : decode cX11_letter 1 = .ok (.invokestatic 120, 3) := by decide +kernel
theorem dX11_letter_4 : decode cX11_letter 4 = .ok (.ifCond .eq 10, 3) := by decide +kernel
theorem dX11_letter_7 : decode cX11_letter 7 = .ok (.iload_n 2, 1) := by decide +kernel
theorem dX11_letter_8 : decode cX11_letter 8 = .ok (.invokestatic 120, 3) := by decide +kernel
theorem dX11_letter_11 : decode cX11_letter 11 = .ok (.ifCond .ne 5, 3) := by decide +kernel
theorem dX11_letter_14 : decode cX11_letter 14 = .ok (.iconst (-1), 1) := by decide +kernel
theorem dX11_letter_15 : decode cX11_letter 15 = .ok (.ireturn, 1) := by decide +kernel
theorem dX11_letter_16 : decode cX11_letter 16 = .ok (.iload_n 1, 1) := by decide +kernel
theorem dX11_letter_17 : decode cX11_letter 17 = .ok (.iload_n 2, 1) := by decide +kernel
theorem dX11_letter_18 : decode cX11_letter 18 = .ok (.if_icmp .ne 6, 3) := by decide +kernel
theorem dX11_letter_21 : decode cX11_letter 21 = .ok (.bipush (-2), 2) := by decide +kernel
theorem dX11_letter_23 : decode cX11_letter 23 = .ok (.ireturn, 1) := by decide +kernel
theorem dX11_letter_24 : decode cX11_letter 24 = .ok (.aload_n 0, 1) := by decide +kernel
theorem dX11_letter_25 : decode cX11_letter 25 = .ok (.iconst 1, 1) := by decide +kernel
theorem dX11_letter_26 : decode cX11_letter 26 = .ok (.invokevirtual 164, 3) := by decide +kernel
theorem dX11_letter_29 : decode cX11_letter 29 = .ok (.ifCond .ne 6, 3) := by decide +kernel
theorem dX11_letter_32 : decode cX11_letter 32 = .ok (.bipush (-4), 2) := by decide +kernel
theorem dX11_letter_34 : decode cX11_letter 34 = .ok (.ireturn, 1) := by decide +kernel
theorem dX11_letter_35 : decode cX11_letter 35 = .ok (.aload_n 0, 1) := by decide +kernel
theorem dX11_letter_36 : decode cX11_letter 36 = .ok (.iconst 1, 1) := by decide +kernel
theorem dX11_letter_37 : decode cX11_letter 37 = .ok (.aload_n 0, 1) := by decide +kernel
theorem dX11_letter_38 : decode cX11_letter 38 = .ok (.getfield 11, 3) := by decide +kernel
theorem dX11_letter_41 : decode cX11_letter 41 = .ok (.iload_n 1, 1) := by decide +kernel
theorem dX11_letter_42 : decode cX11_letter 42 = .ok (.aaload, 1) := by decide +kernel
theorem dX11_letter_43 : decode cX11_letter 43 = .ok (.iload_n 2, 1) := by decide +kernel
theorem dX11_letter_44 : decode cX11_letter 44 = .ok (.invokevirtual 196, 3) := by decide +kernel
theorem dX11_letter_47 : decode cX11_letter 47 = .ok (.getfield 193, 3) := by decide +kernel
theorem dX11_letter_50 : decode cX11_letter 50 = .ok (.ireturn, 1) := by decide +kernel
theorem dX11_copy_0 : decode cX11_copy 0 = .ok (.aload_n 0, 1) := by decide +kernel
theorem dX11_copy_1 : decode cX11_copy 1 = .ok (.iload_n 1, 1) := by decide +kernel
theorem dX11_copy_2 : decode cX11_copy 2 = .ok (.invokevirtual 200, 3) := by decide +kernel
theorem dX11_copy_5 : decode cX11_copy 5 = .ok (.ifCond .eq 11, 3) := by decide +kernel
theorem dX11_copy_8 : decode cX11_copy 8 = .ok (.aload_n 0, 1) := by decide +kernel
theorem dX11_copy_9 : decode cX11_copy 9 = .ok (.iload_n 2, 1) := by decide +kernel
theorem dX11_copy_10 : decode cX11_copy 10 = .ok (.invokevirtual 203, 3) := by decide +kernel
theorem dX11_copy_13 : decode cX11_copy 13 = .ok (.ifCond .ne 5, 3) := by decide +kernel
theorem dX11_copy_16 : decode cX11_copy 16 = .ok (.iconst (-1), 1) := by decide +kernel
theorem dX11_copy_17 : decode cX11_copy 17 = .ok (.ireturn, 1) := by decide +kernel
theorem dX11_copy_18 : decode cX11_copy 18 = .ok (.aload_n 0, 1) := by decide +kernel
theorem dX11_copy_19 : decode cX11_copy 19 = .ok (.getfield 25, 3) := by decide +kernel
theorem dX11_copy_22 : decode cX11_copy 22 = .ok (.iload_n 1, 1) := by decide +kernel
theorem dX11_copy_23 : decode cX11_copy 23 = .ok (.invokevirtual 206, 3) := by decide +kernel
theorem dX11_copy_26 : decode cX11_copy 26 = .ok (.checkcast 167, 3) := by decide +kernel
theorem dX11_copy_29 : decode cX11_copy 29 = .ok (.astore_n 3, 1) := by decide +kernel
theorem dX11_copy_30 : decode cX11_copy 30 = .ok (.aload_n 0, 1) := by decide +kernel
theorem dX11_copy_31 : decode cX11_copy 31 = .ok (.getfield 32, 3) := by decide +kernel
theorem dX11_copy_34 : decode cX11_copy 34 = .ok (.iload_n 2, 1) := by decide +kernel
theorem dX11_copy_35 : decode cX11_copy 35 = .ok (.invokevirtual 206, 3) := by decide +kernel
theorem dX11_copy_38 : decode cX11_copy 38 = .ok (.checkcast 210, 3) := by decide +kernel
theorem dX11_copy_41 : decode cX11_copy 41 = .ok (.astore 4, 2) := by decide +kernel
theorem dX11_copy_43 : decode cX11_copy 43 = .ok (.aload 4, 2) := by decide +kernel
theorem dX11_copy_45 : decode cX11_copy 45 = .ok (.getfield 212, 3) := by decide +kernel
theorem dX11_copy_48 : decode cX11_copy 48 = .ok (.invokestatic 120, 3) := by decide +kernel
theorem dX11_copy_51 : decode cX11_copy 51 = .ok (.ifCond .eq 16, 3) := by decide +kernel
theorem dX11_copy_54 : decode cX11_copy 54 = .ok (.aload_n 3, 1) := by decide +kernel
theorem dX11_copy_55 : decode cX11_copy 55 = .ok (.getfield 215, 3) := by decide +kernel
theorem dX11_copy_58 : decode cX11_copy 58 = .ok (.aload 4, 2) := by decide +kernel
theorem dX11_copy_60 : decode cX11_copy 60 = .ok (.getfield 212, 3) := by decide +kernel
theorem dX11_copy_63 : decode cX11_copy 63 = .ok (.iaload, 1) := by decide +kernel
theorem dX11_copy_64 : decode cX11_copy 64 = .ok (.ifCond .ge 6, 3) := by decide +kernel
theorem dX11_copy_67 : decode cX11_copy 67 = .ok (.bipush (-3), 2) := by decide +kernel
theorem dX11_copy_69 : decode cX11_copy 69 = .ok (.ireturn, 1) := by decide +kernel
theorem dX11_copy_70 : decode cX11_copy 70 = .ok (.aload_n 3, 1) := by decide +kernel
theorem dX11_copy_71 : decode cX11_copy 71 = .ok (.getfield 218, 3) := by decide +kernel
theorem dX11_copy_74 : decode cX11_copy 74 = .ok (.iconst 3, 1) := by decide +kernel
theorem dX11_copy_75 : decode cX11_copy 75 = .ok (.if_icmp .lt 6, 3) := by decide +kernel
theorem dX11_copy_78 : decode cX11_copy 78 = .ok (.bipush (-4), 2) := by decide +kernel
theorem dX11_copy_80 : decode cX11_copy 80 = .ok (.ireturn, 1) := by decide +kernel
theorem dX11_copy_81 : decode cX11_copy 81 = .ok (.aload_n 3, 1) := by decide +kernel
theorem dX11_copy_82 : decode cX11_copy 82 = .ok (.aload 4, 2) := by decide +kernel
theorem dX11_copy_84 : decode cX11_copy 84 = .ok (.invokevirtual 221, 3) := by decide +kernel
theorem dX11_copy_87 : decode cX11_copy 87 = .ok (.aload_n 3, 1) := by decide +kernel
theorem dX11_copy_88 : decode cX11_copy 88 = .ok (.getfield 218, 3) := by decide +kernel
theorem dX11_copy_91 : decode cX11_copy 91 = .ok (.ireturn, 1) := by decide +kernel
theorem dX11_known_0 : decode cX11_known 0 = .ok (.aload_n 0, 1) := by decide +kernel
theorem dX11_known_1 : decode cX11_known 1 = .ok (.iload_n 1, 1) := by decide +kernel
theorem dX11_known_2 : decode cX11_known 2 = .ok (.invokevirtual 200, 3) := by decide +kernel
theorem dX11_known_5 : decode cX11_known 5 = .ok (.ifCond .eq 29, 3) := by decide +kernel
theorem dX11_known_8 : decode cX11_known 8 = .ok (.iload_n 2, 1) := by decide +kernel
theorem dX11_known_9 : decode cX11_known 9 = .ok (.invokestatic 120, 3) := by decide +kernel
theorem dX11_known_12 : decode cX11_known 12 = .ok (.ifCond .eq 22, 3) := by decide +kernel
theorem dX11_known_15 : decode cX11_known 15 = .ok (.aload_n 0, 1) := by decide +kernel
theorem dX11_known_16 : decode cX11_known 16 = .ok (.getfield 25, 3) := by decide +kernel
theorem dX11_known_19 : decode cX11_known 19 = .ok (.iload_n 1, 1) := by decide +kernel
theorem dX11_known_20 : decode cX11_known 20 = .ok (.invokevirtual 206, 3) := by decide +kernel
theorem dX11_known_23 : decode cX11_known 23 = .ok (.checkcast 167, 3) := by decide +kernel
theorem dX11_known_26 : decode cX11_known 26 = .ok (.getfield 215, 3) := by decide +kernel
theorem dX11_known_29 : decode cX11_known 29 = .ok (.iload_n 2, 1) := by decide +kernel
theorem dX11_known_30 : decode cX11_known 30 = .ok (.iaload, 1) := by decide +kernel
theorem dX11_known_31 : decode cX11_known 31 = .ok (.goto 5, 3) := by decide +kernel
theorem dX11_known_34 : decode cX11_known 34 = .ok (.bipush (-5), 2) := by decide +kernel
theorem dX11_known_36 : decode cX11_known 36 = .ok (.ireturn, 1) := by decide +kernel
theorem dX11_paper_0 : decode cX11_paper 0 = .ok (.aload_n 0, 1) := by decide +kernel
theorem dX11_paper_1 : decode cX11_paper 1 = .ok (.iload_n 1, 1) := by decide +kernel
theorem dX11_paper_2 : decode cX11_paper 2 = .ok (.invokevirtual 200, 3) := by decide +kernel
theorem dX11_paper_5 : decode cX11_paper 5 = .ok (.ifCond .ne 6, 3) := by decide +kernel
theorem dX11_paper_8 : decode cX11_paper 8 = .ok (.bipush (-5), 2) := by decide +kernel
theorem dX11_paper_10 : decode cX11_paper 10 = .ok (.ireturn, 1) := by decide +kernel
theorem dX11_paper_11 : decode cX11_paper 11 = .ok (.aload_n 0, 1) := by decide +kernel
theorem dX11_paper_12 : decode cX11_paper 12 = .ok (.getfield 25, 3) := by decide +kernel
theorem dX11_paper_15 : decode cX11_paper 15 = .ok (.iload_n 1, 1) := by decide +kernel
theorem dX11_paper_16 : decode cX11_paper 16 = .ok (.invokevirtual 206, 3) := by decide +kernel
theorem dX11_paper_19 : decode cX11_paper 19 = .ok (.checkcast 167, 3) := by decide +kernel
theorem dX11_paper_22 : decode cX11_paper 22 = .ok (.astore_n 3, 1) := by decide +kernel
theorem dX11_paper_23 : decode cX11_paper 23 = .ok (.iload_n 2, 1) := by decide +kernel
theorem dX11_paper_24 : decode cX11_paper 24 = .ok (.tableswitch 70 0 5 #[40, 45, 50, 55, 60, 65], 40) := by decide +kernel
theorem dX11_paper_64 : decode cX11_paper 64 = .ok (.aload_n 3, 1) := by decide +kernel
theorem dX11_paper_65 : decode cX11_paper 65 = .ok (.getfield 225, 3) := by decide +kernel
theorem dX11_paper_68 : decode cX11_paper 68 = .ok (.ireturn, 1) := by decide +kernel
theorem dX11_paper_69 : decode cX11_paper 69 = .ok (.aload_n 3, 1) := by decide +kernel
theorem dX11_paper_70 : decode cX11_paper 70 = .ok (.getfield 228, 3) := by decide +kernel
theorem dX11_paper_73 : decode cX11_paper 73 = .ok (.ireturn, 1) := by decide +kernel
theorem dX11_paper_74 : decode cX11_paper 74 = .ok (.aload_n 3, 1) := by decide +kernel
theorem dX11_paper_75 : decode cX11_paper 75 = .ok (.getfield 231, 3) := by decide +kernel
theorem dX11_paper_78 : decode cX11_paper 78 = .ok (.ireturn, 1) := by decide +kernel
theorem dX11_paper_79 : decode cX11_paper 79 = .ok (.aload_n 3, 1) := by decide +kernel
theorem dX11_paper_80 : decode cX11_paper 80 = .ok (.getfield 234, 3) := by decide +kernel
theorem dX11_paper_83 : decode cX11_paper 83 = .ok (.ireturn, 1) := by decide +kernel
theorem dX11_paper_84 : decode cX11_paper 84 = .ok (.aload_n 3, 1) := by decide +kernel
theorem dX11_paper_85 : decode cX11_paper 85 = .ok (.getfield 218, 3) := by decide +kernel
theorem dX11_paper_88 : decode cX11_paper 88 = .ok (.ireturn, 1) := by decide +kernel
theorem dX11_paper_89 : decode cX11_paper 89 = .ok (.aload_n 3, 1) := by decide +kernel
theorem dX11_paper_90 : decode cX11_paper 90 = .ok (.getfield 186, 3) := by decide +kernel
theorem dX11_paper_93 : decode cX11_paper 93 = .ok (.ireturn, 1) := by decide +kernel
theorem dX11_paper_94 : decode cX11_paper 94 = .ok (.bipush (-5), 2) := by decide +kernel
theorem dX11_paper_96 : decode cX11_paper 96 = .ok (.ireturn, 1) := by decide +kernel
theorem dX11_force_0 : decode cX11_force 0 = .ok (.iload_n 1, 1) := by decide +kernel
theorem dX11_force_1 : decode cX11_force 1 = .ok (.invokestatic 92, 3) := by decide +kernel
theorem dX11_force_4 : decode cX11_force 4 = .ok (.ifCond .eq 18, 3) := by decide +kernel
theorem dX11_force_7 : decode cX11_force 7 = .ok (.aload_n 0, 1) := by decide +kernel
theorem dX11_force_8 : decode cX11_force 8 = .ok (.getfield 11, 3) := by decide +kernel
theorem dX11_force_11 : decode cX11_force 11 = .ok (.iload_n 1, 1) := by decide +kernel
theorem dX11_force_12 : decode cX11_force 12 = .ok (.aaload, 1) := by decide +kernel
theorem dX11_force_13 : decode cX11_force 13 = .ok (.getfield 237, 3) := by decide +kernel
theorem dX11_force_16 : decode cX11_force 16 = .ok (.invokevirtual 169, 3) := by decide +kernel
theorem dX11_force_19 : decode cX11_force 19 = .ok (.goto 4, 3) := by decide +kernel
theorem dX11_force_22 : decode cX11_force 22 = .ok (.iconst (-1), 1) := by decide +kernel
theorem dX11_force_23 : decode cX11_force 23 = .ok (.ireturn, 1) := by decide +kernel
theorem dX11_forced_0 : decode cX11_forced 0 = .ok (.aload_n 0, 1) := by decide +kernel
theorem dX11_forced_1 : decode cX11_forced 1 = .ok (.iload_n 1, 1) := by decide +kernel
theorem dX11_forced_2 : decode cX11_forced 2 = .ok (.iload_n 2, 1) := by decide +kernel
theorem dX11_forced_3 : decode cX11_forced 3 = .ok (.invokevirtual 240, 3) := by decide +kernel
theorem dX11_forced_6 : decode cX11_forced 6 = .ok (.ifCond .ne 5, 3) := by decide +kernel
theorem dX11_forced_9 : decode cX11_forced 9 = .ok (.iconst (-1), 1) := by decide +kernel
theorem dX11_forced_10 : decode cX11_forced 10 = .ok (.ireturn, 1) := by decide +kernel
theorem dX11_forced_11 : decode cX11_forced 11 = .ok (.aload_n 0, 1) := by decide +kernel
theorem dX11_forced_12 : decode cX11_forced 12 = .ok (.getfield 11, 3) := by decide +kernel
theorem dX11_forced_15 : decode cX11_forced 15 = .ok (.iload_n 1, 1) := by decide +kernel
theorem dX11_forced_16 : decode cX11_forced 16 = .ok (.aaload, 1) := by decide +kernel
theorem dX11_forced_17 : decode cX11_forced 17 = .ok (.getfield 237, 3) := by decide +kernel
theorem dX11_forced_20 : decode cX11_forced 20 = .ok (.iload_n 2, 1) := by decide +kernel
theorem dX11_forced_21 : decode cX11_forced 21 = .ok (.invokevirtual 206, 3) := by decide +kernel
theorem dX11_forced_24 : decode cX11_forced 24 = .ok (.checkcast 243, 3) := by decide +kernel
theorem dX11_forced_27 : decode cX11_forced 27 = .ok (.astore_n 3, 1) := by decide +kernel
theorem dX11_forced_28 : decode cX11_forced 28 = .ok (.bipush 10, 2) := by decide +kernel
theorem dX11_forced_30 : decode cX11_forced 30 = .ok (.aload_n 3, 1) := by decide +kernel
theorem dX11_forced_31 : decode cX11_forced 31 = .ok (.getfield 245, 3) := by decide +kernel
theorem dX11_forced_34 : decode cX11_forced 34 = .ok (.imul, 1) := by decide +kernel
theorem dX11_forced_35 : decode cX11_forced 35 = .ok (.aload_n 3, 1) := by decide +kernel
theorem dX11_forced_36 : decode cX11_forced 36 = .ok (.getfield 248, 3) := by decide +kernel
theorem dX11_forced_39 : decode cX11_forced 39 = .ok (.iadd, 1) := by decide +kernel
theorem dX11_forced_40 : decode cX11_forced 40 = .ok (.ireturn, 1) := by decide +kernel
theorem dX11_holds_0 : decode cX11_holds 0 = .ok (.aload_n 0, 1) := by decide +kernel
theorem dX11_holds_1 : decode cX11_holds 1 = .ok (.iload_n 1, 1) := by decide +kernel
theorem dX11_holds_2 : decode cX11_holds 2 = .ok (.iload_n 2, 1) := by decide +kernel
theorem dX11_holds_3 : decode cX11_holds 3 = .ok (.invokevirtual 240, 3) := by decide +kernel
theorem dX11_holds_6 : decode cX11_holds 6 = .ok (.ifCond .ne 5, 3) := by decide +kernel
theorem dX11_holds_9 : decode cX11_holds 9 = .ok (.iconst (-1), 1) := by decide +kernel
theorem dX11_holds_10 : decode cX11_holds 10 = .ok (.ireturn, 1) := by decide +kernel
theorem dX11_holds_11 : decode cX11_holds 11 = .ok (.aload_n 0, 1) := by decide +kernel
theorem dX11_holds_12 : decode cX11_holds 12 = .ok (.aload_n 0, 1) := by decide +kernel
theorem dX11_holds_13 : decode cX11_holds 13 = .ok (.getfield 11, 3) := by decide +kernel
theorem dX11_holds_16 : decode cX11_holds 16 = .ok (.iload_n 1, 1) := by decide +kernel
theorem dX11_holds_17 : decode cX11_holds 17 = .ok (.aaload, 1) := by decide +kernel
theorem dX11_holds_18 : decode cX11_holds 18 = .ok (.getfield 237, 3) := by decide +kernel
theorem dX11_holds_21 : decode cX11_holds 21 = .ok (.iload_n 2, 1) := by decide +kernel
theorem dX11_holds_22 : decode cX11_holds 22 = .ok (.invokevirtual 206, 3) := by decide +kernel
theorem dX11_holds_25 : decode cX11_holds 25 = .ok (.checkcast 243, 3) := by decide +kernel
theorem dX11_holds_28 : decode cX11_holds 28 = .ok (.aload_n 0, 1) := by decide +kernel
theorem dX11_holds_29 : decode cX11_holds 29 = .ok (.getfield 11, 3) := by decide +kernel
theorem dX11_holds_32 : decode cX11_holds 32 = .ok (.iload_n 1, 1) := by decide +kernel
theorem dX11_holds_33 : decode cX11_holds 33 = .ok (.aaload, 1) := by decide +kernel
theorem dX11_holds_34 : decode cX11_holds 34 = .ok (.invokevirtual 251, 3) := by decide +kernel
theorem dX11_holds_37 : decode cX11_holds 37 = .ok (.ifCond .eq 7, 3) := by decide +kernel
theorem dX11_holds_40 : decode cX11_holds 40 = .ok (.iconst 1, 1) := by decide +kernel
theorem dX11_holds_41 : decode cX11_holds 41 = .ok (.goto 4, 3) := by decide +kernel
theorem dX11_holds_44 : decode cX11_holds 44 = .ok (.iconst 0, 1) := by decide +kernel
theorem dX11_holds_45 : decode cX11_holds 45 = .ok (.ireturn, 1) := by decide +kernel
theorem dX11_ship_0 : decode cX11_ship 0 = .ok (.iload_n 1, 1) := by decide +kernel
theorem dX11_ship_1 : decode cX11_ship 1 = .ok (.iconst 0, 1) := by decide +kernel
theorem dX11_ship_2 : decode cX11_ship 2 = .ok (.iconst 3, 1) := by decide +kernel
theorem dX11_ship_3 : decode cX11_ship 3 = .ok (.invokestatic 96, 3) := by decide +kernel
theorem dX11_ship_6 : decode cX11_ship 6 = .ok (.ifCond .ne 5, 3) := by decide +kernel
theorem dX11_ship_9 : decode cX11_ship 9 = .ok (.iconst (-1), 1) := by decide +kernel
theorem dX11_ship_10 : decode cX11_ship 10 = .ok (.ireturn, 1) := by decide +kernel
theorem dX11_ship_11 : decode cX11_ship 11 = .ok (.iload_n 2, 1) := by decide +kernel
theorem dX11_ship_12 : decode cX11_ship 12 = .ok (.iconst 1, 1) := by decide +kernel
theorem dX11_ship_13 : decode cX11_ship 13 = .ok (.bipush 60, 2) := by decide +kernel
theorem dX11_ship_15 : decode cX11_ship 15 = .ok (.invokestatic 96, 3) := by decide +kernel
theorem dX11_ship_18 : decode cX11_ship 18 = .ok (.ifCond .ne 6, 3) := by decide +kernel
theorem dX11_ship_21 : decode cX11_ship 21 = .ok (.bipush (-2), 2) := by decide +kernel
theorem dX11_ship_23 : decode cX11_ship 23 = .ok (.ireturn, 1) := by decide +kernel
theorem dX11_ship_24 : decode cX11_ship 24 = .ok (.aload_n 0, 1) := by decide +kernel
theorem dX11_ship_25 : decode cX11_ship 25 = .ok (.getfield 32, 3) := by decide +kernel
theorem dX11_ship_28 : decode cX11_ship 28 = .ok (.invokevirtual 169, 3) := by decide +kernel
theorem dX11_ship_31 : decode cX11_ship 31 = .ok (.bipush 8, 2) := by decide +kernel
theorem dX11_ship_33 : decode cX11_ship 33 = .ok (.if_icmp .lt 6, 3) := by decide +kernel
theorem dX11_ship_36 : decode cX11_ship 36 = .ok (.bipush (-4), 2) := by decide +kernel
theorem dX11_ship_38 : decode cX11_ship 38 = .ok (.ireturn, 1) := by decide +kernel
theorem dX11_ship_39 : decode cX11_ship 39 = .ok (.aload_n 0, 1) := by decide +kernel
theorem dX11_ship_40 : decode cX11_ship 40 = .ok (.getfield 32, 3) := by decide +kernel
theorem dX11_ship_43 : decode cX11_ship 43 = .ok (.new 210, 3) := by decide +kernel
theorem dX11_ship_46 : decode cX11_ship 46 = .ok (.dup, 1) := by decide +kernel
theorem dX11_ship_47 : decode cX11_ship 47 = .ok (.aload_n 0, 1) := by decide +kernel
theorem dX11_ship_48 : decode cX11_ship 48 = .ok (.getfield 32, 3) := by decide +kernel
theorem dX11_ship_51 : decode cX11_ship 51 = .ok (.invokevirtual 169, 3) := by decide +kernel
theorem dX11_ship_54 : decode cX11_ship 54 = .ok (.iload_n 1, 1) := by decide +kernel
theorem dX11_ship_55 : decode cX11_ship 55 = .ok (.iload_n 2, 1) := by decide +kernel
theorem dX11_ship_56 : decode cX11_ship 56 = .ok (.invokespecial 255, 3) := by decide +kernel
theorem dX11_ship_59 : decode cX11_ship 59 = .ok (.invokevirtual 189, 3) := by decide +kernel
theorem dX11_ship_62 : decode cX11_ship 62 = .ok (.pop, 1) := by decide +kernel
theorem dX11_ship_63 : decode cX11_ship 63 = .ok (.aload_n 0, 1) := by decide +kernel
theorem dX11_ship_64 : decode cX11_ship 64 = .ok (.getfield 32, 3) := by decide +kernel
theorem dX11_ship_67 : decode cX11_ship 67 = .ok (.invokevirtual 169, 3) := by decide +kernel
theorem dX11_ship_70 : decode cX11_ship 70 = .ok (.iconst 1, 1) := by decide +kernel
theorem dX11_ship_71 : decode cX11_ship 71 = .ok (.isub, 1) := by decide +kernel
theorem dX11_ship_72 : decode cX11_ship 72 = .ok (.ireturn, 1) := by decide +kernel
theorem dX11_take_0 : decode cX11_take 0 = .ok (.iconst (-1), 1) := by decide +kernel
theorem dX11_take_1 : decode cX11_take 1 = .ok (.istore_n 1, 1) := by decide +kernel
theorem dX11_take_2 : decode cX11_take 2 = .ok (.iconst 0, 1) := by decide +kernel
theorem dX11_take_3 : decode cX11_take 3 = .ok (.istore_n 2, 1) := by decide +kernel
theorem dX11_take_4 : decode cX11_take 4 = .ok (.iload_n 2, 1) := by decide +kernel
theorem dX11_take_5 : decode cX11_take 5 = .ok (.aload_n 0, 1) := by decide +kernel
theorem dX11_take_6 : decode cX11_take 6 = .ok (.getfield 32, 3) := by decide +kernel
theorem dX11_take_9 : decode cX11_take 9 = .ok (.invokevirtual 169, 3) := by decide +kernel
theorem dX11_take_12 : decode cX11_take 12 = .ok (.if_icmp .ge 79, 3) := by decide +kernel
theorem dX11_take_15 : decode cX11_take 15 = .ok (.aload_n 0, 1) := by decide +kernel
theorem dX11_take_16 : decode cX11_take 16 = .ok (.getfield 32, 3) := by decide +kernel
theorem dX11_take_19 : decode cX11_take 19 = .ok (.iload_n 2, 1) := by decide +kernel
theorem dX11_take_20 : decode cX11_take 20 = .ok (.invokevirtual 206, 3) := by decide +kernel
theorem dX11_take_23 : decode cX11_take 23 = .ok (.checkcast 210, 3) := by decide +kernel
theorem dX11_take_26 : decode cX11_take 26 = .ok (.astore_n 3, 1) := by decide +kernel
theorem dX11_take_27 : decode cX11_take 27 = .ok (.aload_n 3, 1) := by decide +kernel
theorem dX11_take_28 : decode cX11_take 28 = .ok (.getfield 212, 3) := by decide +kernel
theorem dX11_take_31 : decode cX11_take 31 = .ok (.ifCond .ne 14, 3) := by decide +kernel
theorem dX11_take_34 : decode cX11_take 34 = .ok (.aload_n 3, 1) := by decide +kernel
theorem dX11_take_35 : decode cX11_take 35 = .ok (.getfield 258, 3) := by decide +kernel
theorem dX11_take_38 : decode cX11_take 38 = .ok (.ifCond .ne 7, 3) := by decide +kernel
theorem dX11_take_41 : decode cX11_take 41 = .ok (.iconst 1, 1) := by decide +kernel
theorem dX11_take_42 : decode cX11_take 42 = .ok (.goto 4, 3) := by decide +kernel
theorem dX11_take_45 : decode cX11_take 45 = .ok (.iconst 0, 1) := by decide +kernel
theorem dX11_take_46 : decode cX11_take 46 = .ok (.istore 4, 2) := by decide +kernel
theorem dX11_take_48 : decode cX11_take 48 = .ok (.iload 4, 2) := by decide +kernel
theorem dX11_take_50 : decode cX11_take 50 = .ok (.ifCond .eq 35, 3) := by decide +kernel
theorem dX11_take_53 : decode cX11_take 53 = .ok (.iload_n 1, 1) := by decide +kernel
theorem dX11_take_54 : decode cX11_take 54 = .ok (.iconst (-1), 1) := by decide +kernel
theorem dX11_take_55 : decode cX11_take 55 = .ok (.if_icmp .eq 28, 3) := by decide +kernel
theorem dX11_take_58 : decode cX11_take 58 = .ok (.aload_n 0, 1) := by decide +kernel
theorem dX11_take_59 : decode cX11_take 59 = .ok (.aload_n 3, 1) := by decide +kernel
theorem dX11_take_60 : decode cX11_take 60 = .ok (.getfield 262, 3) := by decide +kernel
theorem dX11_take_63 : decode cX11_take 63 = .ok (.aload_n 0, 1) := by decide +kernel
theorem dX11_take_64 : decode cX11_take 64 = .ok (.getfield 32, 3) := by decide +kernel
theorem dX11_take_67 : decode cX11_take 67 = .ok (.iload_n 1, 1) := by decide +kernel
theorem dX11_take_68 : decode cX11_take 68 = .ok (.invokevirtual 206, 3) := by decide +kernel
theorem dX11_take_71 : decode cX11_take 71 = .ok (.checkcast 210, 3) := by decide +kernel
theorem dX11_take_74 : decode cX11_take 74 = .ok (.getfield 262, 3) := by decide +kernel
theorem dX11_take_77 : decode cX11_take 77 = .ok (.invokevirtual 265, 3) := by decide +kernel
theorem dX11_take_80 : decode cX11_take 80 = .ok (.ifCond .eq 5, 3) := by decide +kernel
theorem dX11_take_83 : decode cX11_take 83 = .ok (.iload_n 2, 1) := by decide +kernel
theorem dX11_take_84 : decode cX11_take 84 = .ok (.istore_n 1, 1) := by decide +kernel
theorem dX11_take_85 : decode cX11_take 85 = .ok (.iinc 2 1, 3) := by decide +kernel
theorem dX11_take_88 : decode cX11_take 88 = .ok (.goto (-84), 3) := by decide +kernel
theorem dX11_take_91 : decode cX11_take 91 = .ok (.iload_n 1, 1) := by decide +kernel
theorem dX11_take_92 : decode cX11_take 92 = .ok (.iconst (-1), 1) := by decide +kernel
theorem dX11_take_93 : decode cX11_take 93 = .ok (.if_icmp .eq 41, 3) := by decide +kernel
theorem dX11_take_96 : decode cX11_take 96 = .ok (.aload_n 0, 1) := by decide +kernel
theorem dX11_take_97 : decode cX11_take 97 = .ok (.getfield 32, 3) := by decide +kernel
theorem dX11_take_100 : decode cX11_take 100 = .ok (.iload_n 1, 1) := by decide +kernel
theorem dX11_take_101 : decode cX11_take 101 = .ok (.invokevirtual 206, 3) := by decide +kernel
theorem dX11_take_104 : decode cX11_take 104 = .ok (.checkcast 210, 3) := by decide +kernel
theorem dX11_take_107 : decode cX11_take 107 = .ok (.iconst 1, 1) := by decide +kernel
theorem dX11_take_108 : decode cX11_take 108 = .ok (.putfield 258, 3) := by decide +kernel
theorem dX11_take_111 : decode cX11_take 111 = .ok (.aload_n 0, 1) := by decide +kernel
theorem dX11_take_112 : decode cX11_take 112 = .ok (.getfield 35, 3) := by decide +kernel
theorem dX11_take_115 : decode cX11_take 115 = .ok (.aload_n 0, 1) := by decide +kernel
theorem dX11_take_116 : decode cX11_take 116 = .ok (.getfield 32, 3) := by decide +kernel
theorem dX11_take_119 : decode cX11_take 119 = .ok (.iload_n 1, 1) := by decide +kernel
theorem dX11_take_120 : decode cX11_take 120 = .ok (.invokevirtual 206, 3) := by decide +kernel
theorem dX11_take_123 : decode cX11_take 123 = .ok (.checkcast 210, 3) := by decide +kernel
theorem dX11_take_126 : decode cX11_take 126 = .ok (.getfield 262, 3) := by decide +kernel
theorem dX11_take_129 : decode cX11_take 129 = .ok (.dup2, 1) := by decide +kernel
theorem dX11_take_130 : decode cX11_take 130 = .ok (.iaload, 1) := by decide +kernel
theorem dX11_take_131 : decode cX11_take 131 = .ok (.iconst 1, 1) := by decide +kernel
theorem dX11_take_132 : decode cX11_take 132 = .ok (.iadd, 1) := by decide +kernel
theorem dX11_take_133 : decode cX11_take 133 = .ok (.iastore, 1) := by decide +kernel
theorem dX11_take_134 : decode cX11_take 134 = .ok (.iload_n 1, 1) := by decide +kernel
theorem dX11_take_135 : decode cX11_take 135 = .ok (.ireturn, 1) := by decide +kernel
theorem dX11_load_0 : decode cX11_load 0 = .ok (.aload_n 0, 1) := by decide +kernel
theorem dX11_load_1 : decode cX11_load 1 = .ok (.iload_n 1, 1) := by decide +kernel
theorem dX11_load_2 : decode cX11_load 2 = .ok (.invokevirtual 203, 3) := by decide +kernel
theorem dX11_load_5 : decode cX11_load 5 = .ok (.ifCond .ne 5, 3) := by decide +kernel
theorem dX11_load_8 : decode cX11_load 8 = .ok (.iconst (-1), 1) := by decide +kernel
theorem dX11_load_9 : decode cX11_load 9 = .ok (.ireturn, 1) := by decide +kernel
theorem dX11_load_10 : decode cX11_load 10 = .ok (.aload_n 0, 1) := by decide +kernel
theorem dX11_load_11 : decode cX11_load 11 = .ok (.getfield 32, 3) := by decide +kernel
theorem dX11_load_14 : decode cX11_load 14 = .ok (.iload_n 1, 1) := by decide +kernel
theorem dX11_load_15 : decode cX11_load 15 = .ok (.invokevirtual 206, 3) := by decide +kernel
theorem dX11_load_18 : decode cX11_load 18 = .ok (.checkcast 210, 3) := by decide +kernel
theorem dX11_load_21 : decode cX11_load 21 = .ok (.astore_n 3, 1) := by decide +kernel
theorem dX11_load_22 : decode cX11_load 22 = .ok (.aload_n 3, 1) := by decide +kernel
theorem dX11_load_23 : decode cX11_load 23 = .ok (.getfield 212, 3) := by decide +kernel
theorem dX11_load_26 : decode cX11_load 26 = .ok (.invokestatic 120, 3) := by decide +kernel
theorem dX11_load_29 : decode cX11_load 29 = .ok (.ifCond .ne 6, 3) := by decide +kernel
theorem dX11_load_32 : decode cX11_load 32 = .ok (.bipush (-3), 2) := by decide +kernel
theorem dX11_load_34 : decode cX11_load 34 = .ok (.ireturn, 1) := by decide +kernel
theorem dX11_load_35 : decode cX11_load 35 = .ok (.aload_n 0, 1) := by decide +kernel
theorem dX11_load_36 : decode cX11_load 36 = .ok (.getfield 11, 3) := by decide +kernel
theorem dX11_load_39 : decode cX11_load 39 = .ok (.aload_n 3, 1) := by decide +kernel
theorem dX11_load_40 : decode cX11_load 40 = .ok (.getfield 212, 3) := by decide +kernel
theorem dX11_load_43 : decode cX11_load 43 = .ok (.aaload, 1) := by decide +kernel
theorem dX11_load_44 : decode cX11_load 44 = .ok (.astore 4, 2) := by decide +kernel
theorem dX11_load_46 : decode cX11_load 46 = .ok (.aload_n 3, 1) := by decide +kernel
theorem dX11_load_47 : decode cX11_load 47 = .ok (.aload 4, 2) := by decide +kernel
theorem dX11_load_49 : decode cX11_load 49 = .ok (.iload_n 2, 1) := by decide +kernel
theorem dX11_load_50 : decode cX11_load 50 = .ok (.invokestatic 268, 3) := by decide +kernel
theorem dX11_load_53 : decode cX11_load 53 = .ok (.ifCond .ne 6, 3) := by decide +kernel
theorem dX11_load_56 : decode cX11_load 56 = .ok (.bipush (-2), 2) := by decide +kernel
theorem dX11_load_58 : decode cX11_load 58 = .ok (.ireturn, 1) := by decide +kernel
theorem dX11_load_59 : decode cX11_load 59 = .ok (.aload_n 3, 1) := by decide +kernel
theorem dX11_load_60 : decode cX11_load 60 = .ok (.dup, 1) := by decide +kernel
theorem dX11_load_61 : decode cX11_load 61 = .ok (.getfield 272, 3) := by decide +kernel
theorem dX11_load_64 : decode cX11_load 64 = .ok (.iload_n 2, 1) := by decide +kernel
theorem dX11_load_65 : decode cX11_load 65 = .ok (.iadd, 1) := by decide +kernel
theorem dX11_load_66 : decode cX11_load 66 = .ok (.putfield 272, 3) := by decide +kernel
theorem dX11_load_69 : decode cX11_load 69 = .ok (.aload 4, 2) := by decide +kernel
theorem dX11_load_71 : decode cX11_load 71 = .ok (.dup, 1) := by decide +kernel
theorem dX11_load_72 : decode cX11_load 72 = .ok (.getfield 125, 3) := by decide +kernel
theorem dX11_load_75 : decode cX11_load 75 = .ok (.iload_n 2, 1) := by decide +kernel
theorem dX11_load_76 : decode cX11_load 76 = .ok (.isub, 1) := by decide +kernel
theorem dX11_load_77 : decode cX11_load 77 = .ok (.putfield 125, 3) := by decide +kernel
theorem dX11_load_80 : decode cX11_load 80 = .ok (.aload_n 3, 1) := by decide +kernel
theorem dX11_load_81 : decode cX11_load 81 = .ok (.getfield 272, 3) := by decide +kernel
theorem dX11_load_84 : decode cX11_load 84 = .ok (.ireturn, 1) := by decide +kernel
theorem dX11_stow_0 : decode cX11_stow 0 = .ok (.aload_n 0, 1) := by decide +kernel
theorem dX11_stow_1 : decode cX11_stow 1 = .ok (.iload_n 1, 1) := by decide +kernel
theorem dX11_stow_2 : decode cX11_stow 2 = .ok (.invokevirtual 135, 3) := by decide +kernel
theorem dX11_stow_5 : decode cX11_stow 5 = .ok (.ifCond .eq 11, 3) := by decide +kernel
theorem dX11_stow_8 : decode cX11_stow 8 = .ok (.aload_n 0, 1) := by decide +kernel
theorem dX11_stow_9 : decode cX11_stow 9 = .ok (.iload_n 2, 1) := by decide +kernel
theorem dX11_stow_10 : decode cX11_stow 10 = .ok (.invokevirtual 203, 3) := by decide +kernel
theorem dX11_stow_13 : decode cX11_stow 13 = .ok (.ifCond .ne 5, 3) := by decide +kernel
theorem dX11_stow_16 : decode cX11_stow 16 = .ok (.iconst (-1), 1) := by decide +kernel
theorem dX11_stow_17 : decode cX11_stow 17 = .ok (.ireturn, 1) := by decide +kernel
theorem dX11_stow_18 : decode cX11_stow 18 = .ok (.iload_n 3, 1) := by decide +kernel
theorem dX11_stow_19 : decode cX11_stow 19 = .ok (.iconst 0, 1) := by decide +kernel
theorem dX11_stow_20 : decode cX11_stow 20 = .ok (.bipush 20, 2) := by decide +kernel
theorem dX11_stow_22 : decode cX11_stow 22 = .ok (.invokestatic 96, 3) := by decide +kernel
theorem dX11_stow_25 : decode cX11_stow 25 = .ok (.ifCond .ne 6, 3) := by decide +kernel
theorem dX11_stow_28 : decode cX11_stow 28 = .ok (.bipush (-2), 2) := by decide +kernel
theorem dX11_stow_30 : decode cX11_stow 30 = .ok (.ireturn, 1) := by decide +kernel
theorem dX11_stow_31 : decode cX11_stow 31 = .ok (.aload_n 0, 1) := by decide +kernel
theorem dX11_stow_32 : decode cX11_stow 32 = .ok (.getfield 32, 3) := by decide +kernel
theorem dX11_stow_35 : decode cX11_stow 35 = .ok (.iload_n 2, 1) := by decide +kernel
theorem dX11_stow_36 : decode cX11_stow 36 = .ok (.invokevirtual 206, 3) := by decide +kernel
theorem dX11_stow_39 : decode cX11_stow 39 = .ok (.checkcast 210, 3) := by decide +kernel
theorem dX11_stow_42 : decode cX11_stow 42 = .ok (.astore 4, 2) := by decide +kernel
theorem dX11_stow_44 : decode cX11_stow 44 = .ok (.aload 4, 2) := by decide +kernel
theorem dX11_stow_46 : decode cX11_stow 46 = .ok (.getfield 212, 3) := by decide +kernel
theorem dX11_stow_49 : decode cX11_stow 49 = .ok (.aload_n 0, 1) := by decide +kernel
theorem dX11_stow_50 : decode cX11_stow 50 = .ok (.getfield 15, 3) := by decide +kernel
theorem dX11_stow_53 : decode cX11_stow 53 = .ok (.iload_n 1, 1) := by decide +kernel
theorem dX11_stow_54 : decode cX11_stow 54 = .ok (.iaload, 1) := by decide +kernel
theorem dX11_stow_55 : decode cX11_stow 55 = .ok (.if_icmp .eq 6, 3) := by decide +kernel
theorem dX11_stow_58 : decode cX11_stow 58 = .ok (.bipush (-3), 2) := by decide +kernel
theorem dX11_stow_60 : decode cX11_stow 60 = .ok (.ireturn, 1) := by decide +kernel
theorem dX11_stow_61 : decode cX11_stow 61 = .ok (.iload_n 3, 1) := by decide +kernel
theorem dX11_stow_62 : decode cX11_stow 62 = .ok (.aload 4, 2) := by decide +kernel
theorem dX11_stow_64 : decode cX11_stow 64 = .ok (.invokevirtual 273, 3) := by decide +kernel
theorem dX11_stow_67 : decode cX11_stow 67 = .ok (.if_icmp .le 6, 3) := by decide +kernel
theorem dX11_stow_70 : decode cX11_stow 70 = .ok (.bipush (-4), 2) := by decide +kernel
theorem dX11_stow_72 : decode cX11_stow 72 = .ok (.ireturn, 1) := by decide +kernel
theorem dX11_stow_73 : decode cX11_stow 73 = .ok (.aload 4, 2) := by decide +kernel
theorem dX11_stow_75 : decode cX11_stow 75 = .ok (.getfield 276, 3) := by decide +kernel
theorem dX11_stow_78 : decode cX11_stow 78 = .ok (.iload_n 1, 1) := by decide +kernel
theorem dX11_stow_79 : decode cX11_stow 79 = .ok (.dup2, 1) := by decide +kernel
theorem dX11_stow_80 : decode cX11_stow 80 = .ok (.iaload, 1) := by decide +kernel
theorem dX11_stow_81 : decode cX11_stow 81 = .ok (.iload_n 3, 1) := by decide +kernel
theorem dX11_stow_82 : decode cX11_stow 82 = .ok (.iadd, 1) := by decide +kernel
theorem dX11_stow_83 : decode cX11_stow 83 = .ok (.iastore, 1) := by decide +kernel
theorem dX11_stow_84 : decode cX11_stow 84 = .ok (.aload 4, 2) := by decide +kernel
theorem dX11_stow_86 : decode cX11_stow 86 = .ok (.getfield 276, 3) := by decide +kernel
theorem dX11_stow_89 : decode cX11_stow 89 = .ok (.iload_n 1, 1) := by decide +kernel
theorem dX11_stow_90 : decode cX11_stow 90 = .ok (.iaload, 1) := by decide +kernel
theorem dX11_stow_91 : decode cX11_stow 91 = .ok (.ireturn, 1) := by decide +kernel
theorem dX11_sail_0 : decode cX11_sail 0 = .ok (.aload_n 0, 1) := by decide +kernel
theorem dX11_sail_1 : decode cX11_sail 1 = .ok (.iload_n 1, 1) := by decide +kernel
theorem dX11_sail_2 : decode cX11_sail 2 = .ok (.invokevirtual 203, 3) := by decide +kernel
theorem dX11_sail_5 : decode cX11_sail 5 = .ok (.ifCond .eq 10, 3) := by decide +kernel
theorem dX11_sail_8 : decode cX11_sail 8 = .ok (.iload_n 2, 1) := by decide +kernel
theorem dX11_sail_9 : decode cX11_sail 9 = .ok (.invokestatic 92, 3) := by decide +kernel
theorem dX11_sail_12 : decode cX11_sail 12 = .ok (.ifCond .ne 5, 3) := by decide +kernel
theorem dX11_sail_15 : decode cX11_sail 15 = .ok (.iconst (-1), 1) := by decide +kernel
theorem dX11_sail_16 : decode cX11_sail 16 = .ok (.ireturn, 1) := by decide +kernel
theorem dX11_sail_17 : decode cX11_sail 17 = .ok (.aload_n 0, 1) := by decide +kernel
theorem dX11_sail_18 : decode cX11_sail 18 = .ok (.getfield 32, 3) := by decide +kernel
theorem dX11_sail_21 : decode cX11_sail 21 = .ok (.iload_n 1, 1) := by decide +kernel
theorem dX11_sail_22 : decode cX11_sail 22 = .ok (.invokevirtual 206, 3) := by decide +kernel
theorem dX11_sail_25 : decode cX11_sail 25 = .ok (.checkcast 210, 3) := by decide +kernel
theorem dX11_sail_28 : decode cX11_sail 28 = .ok (.astore_n 3, 1) := by decide +kernel
theorem dX11_sail_29 : decode cX11_sail 29 = .ok (.aload_n 3, 1) := by decide +kernel
theorem dX11_sail_30 : decode cX11_sail 30 = .ok (.getfield 212, 3) := by decide +kernel
theorem dX11_sail_33 : decode cX11_sail 33 = .ok (.ifCond .ne 10, 3) := by decide +kernel
theorem dX11_sail_36 : decode cX11_sail 36 = .ok (.aload_n 3, 1) := by decide +kernel
theorem dX11_sail_37 : decode cX11_sail 37 = .ok (.getfield 258, 3) := by decide +kernel
theorem dX11_sail_40 : decode cX11_sail 40 = .ok (.ifCond .ne 6, 3) := by decide +kernel
theorem dX11_sail_43 : decode cX11_sail 43 = .ok (.bipush (-3), 2) := by decide +kernel
theorem dX11_sail_45 : decode cX11_sail 45 = .ok (.ireturn, 1) := by decide +kernel
theorem dX11_sail_46 : decode cX11_sail 46 = .ok (.aload_n 0, 1) := by decide +kernel
theorem dX11_sail_47 : decode cX11_sail 47 = .ok (.getfield 38, 3) := by decide +kernel
theorem dX11_sail_50 : decode cX11_sail 50 = .ok (.invokevirtual 169, 3) := by decide +kernel
theorem dX11_sail_53 : decode cX11_sail 53 = .ok (.bipush 99, 2) := by decide +kernel
theorem dX11_sail_55 : decode cX11_sail 55 = .ok (.if_icmp .lt 6, 3) := by decide +kernel
theorem dX11_sail_58 : decode cX11_sail 58 = .ok (.bipush (-4), 2) := by decide +kernel
theorem dX11_sail_60 : decode cX11_sail 60 = .ok (.ireturn, 1) := by decide +kernel
theorem dX11_sail_61 : decode cX11_sail 61 = .ok (.aload_n 0, 1) := by decide +kernel
theorem dX11_sail_62 : decode cX11_sail 62 = .ok (.aload_n 3, 1) := by decide +kernel
theorem dX11_sail_63 : decode cX11_sail 63 = .ok (.iload_n 2, 1) := by decide +kernel
theorem dX11_sail_64 : decode cX11_sail 64 = .ok (.aload_n 0, 1) := by decide +kernel
theorem dX11_sail_65 : decode cX11_sail 65 = .ok (.getfield 11, 3) := by decide +kernel
theorem dX11_sail_68 : decode cX11_sail 68 = .ok (.iload_n 2, 1) := by decide +kernel
theorem dX11_sail_69 : decode cX11_sail 69 = .ok (.aaload, 1) := by decide +kernel
theorem dX11_sail_70 : decode cX11_sail 70 = .ok (.getfield 104, 3) := by decide +kernel
theorem dX11_sail_73 : decode cX11_sail 73 = .ok (.iconst 0, 1) := by decide +kernel
theorem dX11_sail_74 : decode cX11_sail 74 = .ok (.invokevirtual 279, 3) := by decide +kernel
theorem dX11_sail_77 : decode cX11_sail 77 = .ok (.getfield 283, 3) := by decide +kernel
theorem dX11_sail_80 : decode cX11_sail 80 = .ok (.ireturn, 1) := by decide +kernel
theorem dX11_lose_0 : decode cX11_lose 0 = .ok (.aload_n 0, 1) := by decide +kernel
theorem dX11_lose_1 : decode cX11_lose 1 = .ok (.iload_n 1, 1) := by decide +kernel
theorem dX11_lose_2 : decode cX11_lose 2 = .ok (.invokevirtual 286, 3) := by decide +kernel
theorem dX11_lose_5 : decode cX11_lose 5 = .ok (.ifCond .ne 5, 3) := by decide +kernel
theorem dX11_lose_8 : decode cX11_lose 8 = .ok (.iconst (-1), 1) := by decide +kernel
theorem dX11_lose_9 : decode cX11_lose 9 = .ok (.ireturn, 1) := by decide +kernel
theorem dX11_lose_10 : decode cX11_lose 10 = .ok (.aload_n 0, 1) := by decide +kernel
theorem dX11_lose_11 : decode cX11_lose 11 = .ok (.getfield 38, 3) := by decide +kernel
theorem dX11_lose_14 : decode cX11_lose 14 = .ok (.iload_n 1, 1) := by decide +kernel
theorem dX11_lose_15 : decode cX11_lose 15 = .ok (.invokevirtual 206, 3) := by decide +kernel
theorem dX11_lose_18 : decode cX11_lose 18 = .ok (.checkcast 284, 3) := by decide +kernel
theorem dX11_lose_21 : decode cX11_lose 21 = .ok (.astore_n 2, 1) := by decide +kernel
theorem dX11_lose_22 : decode cX11_lose 22 = .ok (.aload_n 2, 1) := by decide +kernel
theorem dX11_lose_23 : decode cX11_lose 23 = .ok (.getfield 289, 3) := by decide +kernel
theorem dX11_lose_26 : decode cX11_lose 26 = .ok (.ifCond .ne 10, 3) := by decide +kernel
theorem dX11_lose_29 : decode cX11_lose 29 = .ok (.aload_n 2, 1) := by decide +kernel
theorem dX11_lose_30 : decode cX11_lose 30 = .ok (.getfield 292, 3) := by decide +kernel
theorem dX11_lose_33 : decode cX11_lose 33 = .ok (.ifCond .eq 6, 3) := by decide +kernel
theorem dX11_lose_36 : decode cX11_lose 36 = .ok (.bipush (-3), 2) := by decide +kernel
theorem dX11_lose_38 : decode cX11_lose 38 = .ok (.ireturn, 1) := by decide +kernel
theorem dX11_lose_39 : decode cX11_lose 39 = .ok (.aload_n 2, 1) := by decide +kernel
theorem dX11_lose_40 : decode cX11_lose 40 = .ok (.iconst 1, 1) := by decide +kernel
theorem dX11_lose_41 : decode cX11_lose 41 = .ok (.putfield 292, 3) := by decide +kernel
theorem dX11_lose_44 : decode cX11_lose 44 = .ok (.iconst 1, 1) := by decide +kernel
theorem dX11_lose_45 : decode cX11_lose 45 = .ok (.ireturn, 1) := by decide +kernel
theorem dX11_shipOf_0 : decode cX11_shipOf 0 = .ok (.aload_n 0, 1) := by decide +kernel
theorem dX11_shipOf_1 : decode cX11_shipOf 1 = .ok (.iload_n 1, 1) := by decide +kernel
theorem dX11_shipOf_2 : decode cX11_shipOf 2 = .ok (.invokevirtual 203, 3) := by decide +kernel
theorem dX11_shipOf_5 : decode cX11_shipOf 5 = .ok (.ifCond .ne 6, 3) := by decide +kernel
theorem dX11_shipOf_8 : decode cX11_shipOf 8 = .ok (.bipush (-5), 2) := by decide +kernel
theorem dX11_shipOf_10 : decode cX11_shipOf 10 = .ok (.ireturn, 1) := by decide +kernel
theorem dX11_shipOf_11 : decode cX11_shipOf 11 = .ok (.aload_n 0, 1) := by decide +kernel
theorem dX11_shipOf_12 : decode cX11_shipOf 12 = .ok (.getfield 32, 3) := by decide +kernel
theorem dX11_shipOf_15 : decode cX11_shipOf 15 = .ok (.iload_n 1, 1) := by decide +kernel
theorem dX11_shipOf_16 : decode cX11_shipOf 16 = .ok (.invokevirtual 206, 3) := by decide +kernel
theorem dX11_shipOf_19 : decode cX11_shipOf 19 = .ok (.checkcast 210, 3) := by decide +kernel
theorem dX11_shipOf_22 : decode cX11_shipOf 22 = .ok (.astore_n 3, 1) := by decide +kernel
theorem dX11_shipOf_23 : decode cX11_shipOf 23 = .ok (.iload_n 2, 1) := by decide +kernel
theorem dX11_shipOf_24 : decode cX11_shipOf 24 = .ok (.iconst 5, 1) := by decide +kernel
theorem dX11_shipOf_25 : decode cX11_shipOf 25 = .ok (.bipush 8, 2) := by decide +kernel
theorem dX11_shipOf_27 : decode cX11_shipOf 27 = .ok (.invokestatic 96, 3) := by decide +kernel
theorem dX11_shipOf_30 : decode cX11_shipOf 30 = .ok (.ifCond .eq 12, 3) := by decide +kernel
theorem dX11_shipOf_33 : decode cX11_shipOf 33 = .ok (.aload_n 3, 1) := by decide +kernel
theorem dX11_shipOf_34 : decode cX11_shipOf 34 = .ok (.getfield 295, 3) := by decide +kernel
theorem dX11_shipOf_37 : decode cX11_shipOf 37 = .ok (.iload_n 2, 1) := by decide +kernel
theorem dX11_shipOf_38 : decode cX11_shipOf 38 = .ok (.iconst 5, 1) := by decide +kernel
theorem dX11_shipOf_39 : decode cX11_shipOf 39 = .ok (.isub, 1) := by decide +kernel
theorem dX11_shipOf_40 : decode cX11_shipOf 40 = .ok (.iaload, 1) := by decide +kernel
theorem dX11_shipOf_41 : decode cX11_shipOf 41 = .ok (.ireturn, 1) := by decide +kernel
theorem dX11_shipOf_42 : decode cX11_shipOf 42 = .ok (.iload_n 2, 1) := by decide +kernel
theorem dX11_shipOf_43 : decode cX11_shipOf 43 = .ok (.tableswitch 115 0 10 #[57, 62, 79, 84, 97, 115, 115, 115, 115, 102, 110], 57) := by decide +kernel
theorem dX11_shipOf_100 : decode cX11_shipOf 100 = .ok (.aload_n 3, 1) := by decide +kernel
theorem dX11_shipOf_101 : decode cX11_shipOf 101 = .ok (.getfield 212, 3) := by decide +kernel
theorem dX11_shipOf_104 : decode cX11_shipOf 104 = .ok (.ireturn, 1) := by decide +kernel
theorem dX11_shipOf_105 : decode cX11_shipOf 105 = .ok (.aload_n 3, 1) := by decide +kernel
theorem dX11_shipOf_106 : decode cX11_shipOf 106 = .ok (.getfield 212, 3) := by decide +kernel
theorem dX11_shipOf_109 : decode cX11_shipOf 109 = .ok (.iconst (-1), 1) := by decide +kernel
theorem dX11_shipOf_110 : decode cX11_shipOf 110 = .ok (.if_icmp .ne 10, 3) := by decide +kernel
theorem dX11_shipOf_113 : decode cX11_shipOf 113 = .ok (.aload_n 3, 1) := by decide +kernel
theorem dX11_shipOf_114 : decode cX11_shipOf 114 = .ok (.getfield 298, 3) := by decide +kernel
theorem dX11_shipOf_117 : decode cX11_shipOf 117 = .ok (.goto 4, 3) := by decide +kernel
theorem dX11_shipOf_120 : decode cX11_shipOf 120 = .ok (.iconst (-1), 1) := by decide +kernel
theorem dX11_shipOf_121 : decode cX11_shipOf 121 = .ok (.ireturn, 1) := by decide +kernel
theorem dX11_shipOf_122 : decode cX11_shipOf 122 = .ok (.aload_n 3, 1) := by decide +kernel
theorem dX11_shipOf_123 : decode cX11_shipOf 123 = .ok (.invokevirtual 273, 3) := by decide +kernel
theorem dX11_shipOf_126 : decode cX11_shipOf 126 = .ok (.ireturn, 1) := by decide +kernel
theorem dX11_shipOf_127 : decode cX11_shipOf 127 = .ok (.aload_n 3, 1) := by decide +kernel
theorem dX11_shipOf_128 : decode cX11_shipOf 128 = .ok (.getfield 258, 3) := by decide +kernel
theorem dX11_shipOf_131 : decode cX11_shipOf 131 = .ok (.ifCond .eq 7, 3) := by decide +kernel
theorem dX11_shipOf_134 : decode cX11_shipOf 134 = .ok (.iconst 1, 1) := by decide +kernel
theorem dX11_shipOf_135 : decode cX11_shipOf 135 = .ok (.goto 4, 3) := by decide +kernel
theorem dX11_shipOf_138 : decode cX11_shipOf 138 = .ok (.iconst 0, 1) := by decide +kernel
theorem dX11_shipOf_139 : decode cX11_shipOf 139 = .ok (.ireturn, 1) := by decide +kernel
theorem dX11_shipOf_140 : decode cX11_shipOf 140 = .ok (.aload_n 3, 1) := by decide +kernel
theorem dX11_shipOf_141 : decode cX11_shipOf 141 = .ok (.getfield 272, 3) := by decide +kernel
theorem dX11_shipOf_144 : decode cX11_shipOf 144 = .ok (.ireturn, 1) := by decide +kernel
theorem dX11_shipOf_145 : decode cX11_shipOf 145 = .ok (.aload_n 3, 1) := by decide +kernel
theorem dX11_shipOf_146 : decode cX11_shipOf 146 = .ok (.getfield 301, 3) := by decide +kernel
theorem dX11_shipOf_149 : decode cX11_shipOf 149 = .ok (.invokestatic 303, 3) := by decide +kernel
theorem dX11_shipOf_152 : decode cX11_shipOf 152 = .ok (.ireturn, 1) := by decide +kernel
theorem dX11_shipOf_153 : decode cX11_shipOf 153 = .ok (.aload_n 3, 1) := by decide +kernel
theorem dX11_shipOf_154 : decode cX11_shipOf 154 = .ok (.getfield 307, 3) := by decide +kernel
theorem dX11_shipOf_157 : decode cX11_shipOf 157 = .ok (.ireturn, 1) := by decide +kernel
theorem dX11_shipOf_158 : decode cX11_shipOf 158 = .ok (.bipush (-5), 2) := by decide +kernel
theorem dX11_shipOf_160 : decode cX11_shipOf 160 = .ok (.ireturn, 1) := by decide +kernel
theorem dX11_voyage_0 : decode cX11_voyage 0 = .ok (.aload_n 0, 1) := by decide +kernel
theorem dX11_voyage_1 : decode cX11_voyage 1 = .ok (.iload_n 1, 1) := by decide +kernel
theorem dX11_voyage_2 : decode cX11_voyage 2 = .ok (.invokevirtual 286, 3) := by decide +kernel
theorem dX11_voyage_5 : decode cX11_voyage 5 = .ok (.ifCond .ne 6, 3) := by decide +kernel
theorem dX11_voyage_8 : decode cX11_voyage 8 = .ok (.bipush (-5), 2) := by decide +kernel
theorem dX11_voyage_10 : decode cX11_voyage 10 = .ok (.ireturn, 1) := by decide +kernel
theorem dX11_voyage_11 : decode cX11_voyage 11 = .ok (.aload_n 0, 1) := by decide +kernel
theorem dX11_voyage_12 : decode cX11_voyage 12 = .ok (.getfield 38, 3) := by decide +kernel
theorem dX11_voyage_15 : decode cX11_voyage 15 = .ok (.iload_n 1, 1) := by decide +kernel
theorem dX11_voyage_16 : decode cX11_voyage 16 = .ok (.invokevirtual 206, 3) := by decide +kernel
theorem dX11_voyage_19 : decode cX11_voyage 19 = .ok (.checkcast 284, 3) := by decide +kernel
theorem dX11_voyage_22 : decode cX11_voyage 22 = .ok (.astore_n 3, 1) := by decide +kernel
theorem dX11_voyage_23 : decode cX11_voyage 23 = .ok (.iload_n 2, 1) := by decide +kernel
theorem dX11_voyage_24 : decode cX11_voyage 24 = .ok (.bipush 6, 2) := by decide +kernel
theorem dX11_voyage_26 : decode cX11_voyage 26 = .ok (.bipush 9, 2) := by decide +kernel
theorem dX11_voyage_28 : decode cX11_voyage 28 = .ok (.invokestatic 96, 3) := by decide +kernel
theorem dX11_voyage_31 : decode cX11_voyage 31 = .ok (.ifCond .eq 13, 3) := by decide +kernel
theorem dX11_voyage_34 : decode cX11_voyage 34 = .ok (.aload_n 3, 1) := by decide +kernel
theorem dX11_voyage_35 : decode cX11_voyage 35 = .ok (.getfield 310, 3) := by decide +kernel
theorem dX11_voyage_38 : decode cX11_voyage 38 = .ok (.iload_n 2, 1) := by decide +kernel
theorem dX11_voyage_39 : decode cX11_voyage 39 = .ok (.bipush 6, 2) := by decide +kernel
theorem dX11_voyage_41 : decode cX11_voyage 41 = .ok (.isub, 1) := by decide +kernel
theorem dX11_voyage_42 : decode cX11_voyage 42 = .ok (.iaload, 1) := by decide +kernel
theorem dX11_voyage_43 : decode cX11_voyage 43 = .ok (.ireturn, 1) := by decide +kernel
theorem dX11_voyage_44 : decode cX11_voyage 44 = .ok (.iload_n 2, 1) := by decide +kernel
theorem dX11_voyage_45 : decode cX11_voyage 45 = .ok (.tableswitch 120 0 12 #[67, 72, 77, 82, 87, 92, 120, 120, 120, 120, 105, 110, 115], 67) := by decide +kernel
theorem dX11_voyage_112 : decode cX11_voyage 112 = .ok (.aload_n 3, 1) := by decide +kernel
theorem dX11_voyage_113 : decode cX11_voyage 113 = .ok (.getfield 311, 3) := by decide +kernel
theorem dX11_voyage_116 : decode cX11_voyage 116 = .ok (.ireturn, 1) := by decide +kernel
theorem dX11_voyage_117 : decode cX11_voyage 117 = .ok (.aload_n 3, 1) := by decide +kernel
theorem dX11_voyage_118 : decode cX11_voyage 118 = .ok (.getfield 314, 3) := by decide +kernel
theorem dX11_voyage_121 : decode cX11_voyage 121 = .ok (.ireturn, 1) := by decide +kernel
theorem dX11_voyage_122 : decode cX11_voyage 122 = .ok (.aload_n 3, 1) := by decide +kernel
theorem dX11_voyage_123 : decode cX11_voyage 123 = .ok (.getfield 315, 3) := by decide +kernel
theorem dX11_voyage_126 : decode cX11_voyage 126 = .ok (.ireturn, 1) := by decide +kernel
theorem dX11_voyage_127 : decode cX11_voyage 127 = .ok (.aload_n 3, 1) := by decide +kernel
theorem dX11_voyage_128 : decode cX11_voyage 128 = .ok (.getfield 316, 3) := by decide +kernel
theorem dX11_voyage_131 : decode cX11_voyage 131 = .ok (.ireturn, 1) := by decide +kernel
theorem dX11_voyage_132 : decode cX11_voyage 132 = .ok (.aload_n 3, 1) := by decide +kernel
theorem dX11_voyage_133 : decode cX11_voyage 133 = .ok (.getfield 319, 3) := by decide +kernel
theorem dX11_voyage_136 : decode cX11_voyage 136 = .ok (.ireturn, 1) := by decide +kernel
theorem dX11_voyage_137 : decode cX11_voyage 137 = .ok (.aload_n 3, 1) := by decide +kernel
theorem dX11_voyage_138 : decode cX11_voyage 138 = .ok (.getfield 292, 3) := by decide +kernel
theorem dX11_voyage_141 : decode cX11_voyage 141 = .ok (.ifCond .eq 7, 3) := by decide +kernel
theorem dX11_voyage_144 : decode cX11_voyage 144 = .ok (.iconst 1, 1) := by decide +kernel
theorem dX11_voyage_145 : decode cX11_voyage 145 = .ok (.goto 4, 3) := by decide +kernel
theorem dX11_voyage_148 : decode cX11_voyage 148 = .ok (.iconst 0, 1) := by decide +kernel
theorem dX11_voyage_149 : decode cX11_voyage 149 = .ok (.ireturn, 1) := by decide +kernel
theorem dX11_voyage_150 : decode cX11_voyage 150 = .ok (.aload_n 3, 1) := by decide +kernel
theorem dX11_voyage_151 : decode cX11_voyage 151 = .ok (.getfield 320, 3) := by decide +kernel
theorem dX11_voyage_154 : decode cX11_voyage 154 = .ok (.ireturn, 1) := by decide +kernel
theorem dX11_voyage_155 : decode cX11_voyage 155 = .ok (.aload_n 3, 1) := by decide +kernel
theorem dX11_voyage_156 : decode cX11_voyage 156 = .ok (.invokevirtual 323, 3) := by decide +kernel
theorem dX11_voyage_159 : decode cX11_voyage 159 = .ok (.ireturn, 1) := by decide +kernel
theorem dX11_voyage_160 : decode cX11_voyage 160 = .ok (.aload_n 3, 1) := by decide +kernel
theorem dX11_voyage_161 : decode cX11_voyage 161 = .ok (.getfield 326, 3) := by decide +kernel
theorem dX11_voyage_164 : decode cX11_voyage 164 = .ok (.ireturn, 1) := by decide +kernel
theorem dX11_voyage_165 : decode cX11_voyage 165 = .ok (.bipush (-5), 2) := by decide +kernel
theorem dX11_voyage_167 : decode cX11_voyage 167 = .ok (.ireturn, 1) := by decide +kernel
theorem dX11_recount_0 : decode cX11_recount 0 = .ok (.aload_n 0, 1) := by decide +kernel
theorem dX11_recount_1 : decode cX11_recount 1 = .ok (.iload_n 1, 1) := by decide +kernel
theorem dX11_recount_2 : decode cX11_recount 2 = .ok (.invokevirtual 286, 3) := by decide +kernel
theorem dX11_recount_5 : decode cX11_recount 5 = .ok (.ifCond .eq 10, 3) := by decide +kernel
theorem dX11_recount_8 : decode cX11_recount 8 = .ok (.iload_n 2, 1) := by decide +kernel
theorem dX11_recount_9 : decode cX11_recount 9 = .ok (.invokestatic 110, 3) := by decide +kernel
theorem dX11_recount_12 : decode cX11_recount 12 = .ok (.ifCond .ne 5, 3) := by decide +kernel
theorem dX11_recount_15 : decode cX11_recount 15 = .ok (.iconst (-1), 1) := by decide +kernel
theorem dX11_recount_16 : decode cX11_recount 16 = .ok (.ireturn, 1) := by decide +kernel
theorem dX11_recount_17 : decode cX11_recount 17 = .ok (.aload_n 0, 1) := by decide +kernel
theorem dX11_recount_18 : decode cX11_recount 18 = .ok (.getfield 38, 3) := by decide +kernel
theorem dX11_recount_21 : decode cX11_recount 21 = .ok (.iload_n 1, 1) := by decide +kernel
theorem dX11_recount_22 : decode cX11_recount 22 = .ok (.invokevirtual 206, 3) := by decide +kernel
theorem dX11_recount_25 : decode cX11_recount 25 = .ok (.checkcast 284, 3) := by decide +kernel
theorem dX11_recount_28 : decode cX11_recount 28 = .ok (.astore 4, 2) := by decide +kernel
theorem dX11_recount_30 : decode cX11_recount 30 = .ok (.aload 4, 2) := by decide +kernel
theorem dX11_recount_32 : decode cX11_recount 32 = .ok (.getfield 314, 3) := by decide +kernel
theorem dX11_recount_35 : decode cX11_recount 35 = .ok (.ifCond .eq 12, 3) := by decide +kernel
theorem dX11_recount_38 : decode cX11_recount 38 = .ok (.aload 4, 2) := by decide +kernel
theorem dX11_recount_40 : decode cX11_recount 40 = .ok (.getfield 289, 3) := by decide +kernel
theorem dX11_recount_43 : decode cX11_recount 43 = .ok (.iconst 1, 1) := by decide +kernel
theorem dX11_recount_44 : decode cX11_recount 44 = .ok (.if_icmp .eq 6, 3) := by decide +kernel
theorem dX11_recount_47 : decode cX11_recount 47 = .ok (.bipush (-3), 2) := by decide +kernel
theorem dX11_recount_49 : decode cX11_recount 49 = .ok (.ireturn, 1) := by decide +kernel
theorem dX11_recount_50 : decode cX11_recount 50 = .ok (.iload_n 3, 1) := by decide +kernel
theorem dX11_recount_51 : decode cX11_recount 51 = .ok (.iconst 0, 1) := by decide +kernel
theorem dX11_recount_52 : decode cX11_recount 52 = .ok (.bipush 99, 2) := by decide +kernel
theorem dX11_recount_54 : decode cX11_recount 54 = .ok (.invokestatic 96, 3) := by decide +kernel
theorem dX11_recount_57 : decode cX11_recount 57 = .ok (.ifCond .ne 6, 3) := by decide +kernel
theorem dX11_recount_60 : decode cX11_recount 60 = .ok (.bipush (-2), 2) := by decide +kernel
theorem dX11_recount_62 : decode cX11_recount 62 = .ok (.ireturn, 1) := by decide +kernel
theorem dX11_recount_63 : decode cX11_recount 63 = .ok (.aload 4, 2) := by decide +kernel
theorem dX11_recount_65 : decode cX11_recount 65 = .ok (.getfield 329, 3) := by decide +kernel
theorem dX11_recount_68 : decode cX11_recount 68 = .ok (.iload_n 2, 1) := by decide +kernel
theorem dX11_recount_69 : decode cX11_recount 69 = .ok (.iaload, 1) := by decide +kernel
theorem dX11_recount_70 : decode cX11_recount 70 = .ok (.istore 5, 2) := by decide +kernel
theorem dX11_recount_72 : decode cX11_recount 72 = .ok (.aload 4, 2) := by decide +kernel
theorem dX11_recount_74 : decode cX11_recount 74 = .ok (.getfield 329, 3) := by decide +kernel
theorem dX11_recount_77 : decode cX11_recount 77 = .ok (.iload_n 2, 1) := by decide +kernel
theorem dX11_recount_78 : decode cX11_recount 78 = .ok (.iload_n 3, 1) := by decide +kernel
theorem dX11_recount_79 : decode cX11_recount 79 = .ok (.iastore, 1) := by decide +kernel
theorem dX11_recount_80 : decode cX11_recount 80 = .ok (.iload 5, 2) := by decide +kernel
theorem dX11_recount_82 : decode cX11_recount 82 = .ok (.ireturn, 1) := by decide +kernel
theorem dX11_days_0 : decode cX11_days 0 = .ok (.iload_n 1, 1) := by decide +kernel
theorem dX11_days_1 : decode cX11_days 1 = .ok (.iconst 1, 1) := by decide +kernel
theorem dX11_days_2 : decode cX11_days 2 = .ok (.sipush 200, 3) := by decide +kernel
theorem dX11_days_5 : decode cX11_days 5 = .ok (.invokestatic 96, 3) := by decide +kernel
theorem dX11_days_8 : decode cX11_days 8 = .ok (.ifCond .eq 15, 3) := by decide +kernel
theorem dX11_days_11 : decode cX11_days 11 = .ok (.aload_n 0, 1) := by decide +kernel
theorem dX11_days_12 : decode cX11_days 12 = .ok (.getfield 173, 3) := by decide +kernel
theorem dX11_days_15 : decode cX11_days 15 = .ok (.iload_n 1, 1) := by decide +kernel
theorem dX11_days_16 : decode cX11_days 16 = .ok (.iadd, 1) := by decide +kernel
theorem dX11_days_17 : decode cX11_days 17 = .ok (.sipush 2999, 3) := by decide +kernel
theorem dX11_days_20 : decode cX11_days 20 = .ok (.if_icmp .le 6, 3) := by decide +kernel
theorem dX11_days_23 : decode cX11_days 23 = .ok (.bipush (-2), 2) := by decide +kernel
theorem dX11_days_25 : decode cX11_days 25 = .ok (.ireturn, 1) := by decide +kernel
theorem dX11_days_26 : decode cX11_days 26 = .ok (.iconst 0, 1) := by decide +kernel
theorem dX11_days_27 : decode cX11_days 27 = .ok (.istore_n 2, 1) := by decide +kernel
theorem dX11_days_28 : decode cX11_days 28 = .ok (.iload_n 2, 1) := by decide +kernel
theorem dX11_days_29 : decode cX11_days 29 = .ok (.iload_n 1, 1) := by decide +kernel
theorem dX11_days_30 : decode cX11_days 30 = .ok (.if_icmp .ge 13, 3) := by decide +kernel
theorem dX11_days_33 : decode cX11_days 33 = .ok (.aload_n 0, 1) := by decide +kernel
theorem dX11_days_34 : decode cX11_days 34 = .ok (.invokevirtual 332, 3) := by decide +kernel
theorem dX11_days_37 : decode cX11_days 37 = .ok (.iinc 2 1, 3) := by decide +kernel
theorem dX11_days_40 : decode cX11_days 40 = .ok (.goto (-12), 3) := by decide +kernel
theorem dX11_days_43 : decode cX11_days 43 = .ok (.aload_n 0, 1) := by decide +kernel
theorem dX11_days_44 : decode cX11_days 44 = .ok (.getfield 173, 3) := by decide +kernel
theorem dX11_days_47 : decode cX11_days 47 = .ok (.ireturn, 1) := by decide +kernel
theorem dX11_entry_0 : decode cX11_entry 0 = .ok (.iload_n 1, 1) := by decide +kernel
theorem dX11_entry_1 : decode cX11_entry 1 = .ok (.ifCond .lt 15, 3) := by decide +kernel
theorem dX11_entry_4 : decode cX11_entry 4 = .ok (.iload_n 1, 1) := by decide +kernel
theorem dX11_entry_5 : decode cX11_entry 5 = .ok (.aload_n 0, 1) := by decide +kernel
theorem dX11_entry_6 : decode cX11_entry 6 = .ok (.invokevirtual 335, 3) := by decide +kernel
theorem dX11_entry_9 : decode cX11_entry 9 = .ok (.if_icmp .ge 7, 3) := by decide +kernel
theorem dX11_entry_12 : decode cX11_entry 12 = .ok (.iconst 1, 1) := by decide +kernel
theorem dX11_entry_13 : decode cX11_entry 13 = .ok (.goto 4, 3) := by decide +kernel
theorem dX11_entry_16 : decode cX11_entry 16 = .ok (.iconst 0, 1) := by decide +kernel
theorem dX11_entry_17 : decode cX11_entry 17 = .ok (.istore_n 3, 1) := by decide +kernel
theorem dX11_entry_18 : decode cX11_entry 18 = .ok (.iload_n 3, 1) := by decide +kernel
theorem dX11_entry_19 : decode cX11_entry 19 = .ok (.ifCond .eq 27, 3) := by decide +kernel
theorem dX11_entry_22 : decode cX11_entry 22 = .ok (.iload_n 2, 1) := by decide +kernel
theorem dX11_entry_23 : decode cX11_entry 23 = .ok (.iconst 0, 1) := by decide +kernel
theorem dX11_entry_24 : decode cX11_entry 24 = .ok (.bipush 7, 2) := by decide +kernel
theorem dX11_entry_26 : decode cX11_entry 26 = .ok (.invokestatic 96, 3) := by decide +kernel
theorem dX11_entry_29 : decode cX11_entry 29 = .ok (.ifCond .eq 17, 3) := by decide +kernel
theorem dX11_entry_32 : decode cX11_entry 32 = .ok (.aload_n 0, 1) := by decide +kernel
theorem dX11_entry_33 : decode cX11_entry 33 = .ok (.getfield 41, 3) := by decide +kernel
theorem dX11_entry_36 : decode cX11_entry 36 = .ok (.iload_n 1, 1) := by decide +kernel
theorem dX11_entry_37 : decode cX11_entry 37 = .ok (.bipush 8, 2) := by decide +kernel
theorem dX11_entry_39 : decode cX11_entry 39 = .ok (.imul, 1) := by decide +kernel
theorem dX11_entry_40 : decode cX11_entry 40 = .ok (.iload_n 2, 1) := by decide +kernel
theorem dX11_entry_41 : decode cX11_entry 41 = .ok (.iadd, 1) := by decide +kernel
theorem dX11_entry_42 : decode cX11_entry 42 = .ok (.iaload, 1) := by decide +kernel
theorem dX11_entry_43 : decode cX11_entry 43 = .ok (.goto 5, 3) := by decide +kernel
theorem dX11_entry_46 : decode cX11_entry 46 = .ok (.bipush (-5), 2) := by decide +kernel
theorem dX11_entry_48 : decode cX11_entry 48 = .ok (.ireturn, 1) := by decide +kernel
theorem dX11_open_0 : decode cX11_open 0 = .ok (.iload_n 1, 1) := by decide +kernel
theorem dX11_open_1 : decode cX11_open 1 = .ok (.invokestatic 92, 3) := by decide +kernel
theorem dX11_open_4 : decode cX11_open 4 = .ok (.ifCond .eq 24, 3) := by decide +kernel
theorem dX11_open_7 : decode cX11_open 7 = .ok (.iload_n 2, 1) := by decide +kernel
theorem dX11_open_8 : decode cX11_open 8 = .ok (.invokestatic 110, 3) := by decide +kernel
theorem dX11_open_11 : decode cX11_open 11 = .ok (.ifCond .eq 17, 3) := by decide +kernel
theorem dX11_open_14 : decode cX11_open 14 = .ok (.aload_n 0, 1) := by decide +kernel
theorem dX11_open_15 : decode cX11_open 15 = .ok (.getfield 11, 3) := by decide +kernel
theorem dX11_open_18 : decode cX11_open 18 = .ok (.iload_n 1, 1) := by decide +kernel
theorem dX11_open_19 : decode cX11_open 19 = .ok (.aaload, 1) := by decide +kernel
theorem dX11_open_20 : decode cX11_open 20 = .ok (.getfield 338, 3) := by decide +kernel
theorem dX11_open_23 : decode cX11_open 23 = .ok (.iload_n 2, 1) := by decide +kernel
theorem dX11_open_24 : decode cX11_open 24 = .ok (.iaload, 1) := by decide +kernel
theorem dX11_open_25 : decode cX11_open 25 = .ok (.goto 4, 3) := by decide +kernel
theorem dX11_open_28 : decode cX11_open 28 = .ok (.iconst (-1), 1) := by decide +kernel
theorem dX11_open_29 : decode cX11_open 29 = .ok (.ireturn, 1) := by decide +kernel
theorem dX11_accept_0 : decode cX11_accept 0 = .ok (.aload_n 0, 1) := by decide +kernel
theorem dX11_accept_1 : decode cX11_accept 1 = .ok (.iload_n 1, 1) := by decide +kernel
theorem dX11_accept_2 : decode cX11_accept 2 = .ok (.invokevirtual 341, 3) := by decide +kernel
theorem dX11_accept_5 : decode cX11_accept 5 = .ok (.astore_n 2, 1) := by decide +kernel
theorem dX11_accept_6 : decode cX11_accept 6 = .ok (.aload_n 2, 1) := by decide +kernel
theorem dX11_accept_7 : decode cX11_accept 7 = .ok (.ifnonnull 5, 3) := by decide +kernel
theorem dX11_accept_10 : decode cX11_accept 10 = .ok (.iconst (-1), 1) := by decide +kernel
theorem dX11_accept_11 : decode cX11_accept 11 = .ok (.ireturn, 1) := by decide +kernel
theorem dX11_accept_12 : decode cX11_accept 12 = .ok (.aload_n 2, 1) := by decide +kernel
theorem dX11_accept_13 : decode cX11_accept 13 = .ok (.getfield 345, 3) := by decide +kernel
theorem dX11_accept_16 : decode cX11_accept 16 = .ok (.iconst 0, 1) := by decide +kernel
theorem dX11_accept_17 : decode cX11_accept 17 = .ok (.iaload, 1) := by decide +kernel
theorem dX11_accept_18 : decode cX11_accept 18 = .ok (.ifCond .lt 10, 3) := by decide +kernel
theorem dX11_accept_21 : decode cX11_accept 21 = .ok (.aload_n 2, 1) := by decide +kernel
theorem dX11_accept_22 : decode cX11_accept 22 = .ok (.getfield 348, 3) := by decide +kernel
theorem dX11_accept_25 : decode cX11_accept 25 = .ok (.ifCond .eq 6, 3) := by decide +kernel
theorem dX11_accept_28 : decode cX11_accept 28 = .ok (.bipush (-3), 2) := by decide +kernel
theorem dX11_accept_30 : decode cX11_accept 30 = .ok (.ireturn, 1) := by decide +kernel
theorem dX11_accept_31 : decode cX11_accept 31 = .ok (.aload_n 2, 1) := by decide +kernel
theorem dX11_accept_32 : decode cX11_accept 32 = .ok (.iconst 1, 1) := by decide +kernel
theorem dX11_accept_33 : decode cX11_accept 33 = .ok (.putfield 348, 3) := by decide +kernel
theorem dX11_accept_36 : decode cX11_accept 36 = .ok (.aload_n 2, 1) := by decide +kernel
theorem dX11_accept_37 : decode cX11_accept 37 = .ok (.aload_n 0, 1) := by decide +kernel
theorem dX11_accept_38 : decode cX11_accept 38 = .ok (.getfield 173, 3) := by decide +kernel
theorem dX11_accept_41 : decode cX11_accept 41 = .ok (.bipush 60, 2) := by decide +kernel
theorem dX11_accept_43 : decode cX11_accept 43 = .ok (.iadd, 1) := by decide +kernel
theorem dX11_accept_44 : decode cX11_accept 44 = .ok (.putfield 351, 3) := by decide +kernel
theorem dX11_accept_47 : decode cX11_accept 47 = .ok (.aload_n 2, 1) := by decide +kernel
theorem dX11_accept_48 : decode cX11_accept 48 = .ok (.getfield 351, 3) := by decide +kernel
theorem dX11_accept_51 : decode cX11_accept 51 = .ok (.ireturn, 1) := by decide +kernel
theorem dX11_bill_0 : decode cX11_bill 0 = .ok (.aload_n 0, 1) := by decide +kernel
theorem dX11_bill_1 : decode cX11_bill 1 = .ok (.iload_n 1, 1) := by decide +kernel
theorem dX11_bill_2 : decode cX11_bill 2 = .ok (.invokevirtual 341, 3) := by decide +kernel
theorem dX11_bill_5 : decode cX11_bill 5 = .ok (.astore_n 3, 1) := by decide +kernel
theorem dX11_bill_6 : decode cX11_bill 6 = .ok (.aload_n 3, 1) := by decide +kernel
theorem dX11_bill_7 : decode cX11_bill 7 = .ok (.ifnonnull 6, 3) := by decide +kernel
theorem dX11_bill_10 : decode cX11_bill 10 = .ok (.bipush (-5), 2) := by decide +kernel
theorem dX11_bill_12 : decode cX11_bill 12 = .ok (.ireturn, 1) := by decide +kernel
theorem dX11_bill_13 : decode cX11_bill 13 = .ok (.iload_n 2, 1) := by decide +kernel
theorem dX11_bill_14 : decode cX11_bill 14 = .ok (.tableswitch 41 0 2 #[26, 31, 36], 26) := by decide +kernel
theorem dX11_bill_40 : decode cX11_bill 40 = .ok (.aload_n 3, 1) := by decide +kernel
theorem dX11_bill_41 : decode cX11_bill 41 = .ok (.getfield 348, 3) := by decide +kernel
theorem dX11_bill_44 : decode cX11_bill 44 = .ok (.ireturn, 1) := by decide +kernel
theorem dX11_bill_45 : decode cX11_bill 45 = .ok (.aload_n 3, 1) := by decide +kernel
theorem dX11_bill_46 : decode cX11_bill 46 = .ok (.getfield 351, 3) := by decide +kernel
theorem dX11_bill_49 : decode cX11_bill 49 = .ok (.ireturn, 1) := by decide +kernel
theorem dX11_bill_50 : decode cX11_bill 50 = .ok (.aload_n 3, 1) := by decide +kernel
theorem dX11_bill_51 : decode cX11_bill 51 = .ok (.getfield 354, 3) := by decide +kernel
theorem dX11_bill_54 : decode cX11_bill 54 = .ok (.ireturn, 1) := by decide +kernel
theorem dX11_bill_55 : decode cX11_bill 55 = .ok (.bipush (-5), 2) := by decide +kernel
theorem dX11_bill_57 : decode cX11_bill 57 = .ok (.ireturn, 1) := by decide +kernel
theorem dX11_refuse_0 : decode cX11_refuse 0 = .ok (.aload_n 0, 1) := by decide +kernel
theorem dX11_refuse_1 : decode cX11_refuse 1 = .ok (.iload_n 1, 1) := by decide +kernel
theorem dX11_refuse_2 : decode cX11_refuse 2 = .ok (.invokevirtual 341, 3) := by decide +kernel
theorem dX11_refuse_5 : decode cX11_refuse 5 = .ok (.astore_n 2, 1) := by decide +kernel
theorem dX11_refuse_6 : decode cX11_refuse 6 = .ok (.aload_n 2, 1) := by decide +kernel
theorem dX11_refuse_7 : decode cX11_refuse 7 = .ok (.ifnonnull 5, 3) := by decide +kernel
theorem dX11_refuse_10 : decode cX11_refuse 10 = .ok (.iconst (-1), 1) := by decide +kernel
theorem dX11_refuse_11 : decode cX11_refuse 11 = .ok (.ireturn, 1) := by decide +kernel
theorem dX11_refuse_12 : decode cX11_refuse 12 = .ok (.aload_n 2, 1) := by decide +kernel
theorem dX11_refuse_13 : decode cX11_refuse 13 = .ok (.getfield 345, 3) := by decide +kernel
theorem dX11_refuse_16 : decode cX11_refuse 16 = .ok (.iconst 0, 1) := by decide +kernel
theorem dX11_refuse_17 : decode cX11_refuse 17 = .ok (.iaload, 1) := by decide +kernel
theorem dX11_refuse_18 : decode cX11_refuse 18 = .ok (.ifCond .lt 10, 3) := by decide +kernel
theorem dX11_refuse_21 : decode cX11_refuse 21 = .ok (.aload_n 2, 1) := by decide +kernel
theorem dX11_refuse_22 : decode cX11_refuse 22 = .ok (.invokevirtual 357, 3) := by decide +kernel
theorem dX11_refuse_25 : decode cX11_refuse 25 = .ok (.ifCond .ne 6, 3) := by decide +kernel
theorem dX11_refuse_28 : decode cX11_refuse 28 = .ok (.bipush (-3), 2) := by decide +kernel
theorem dX11_refuse_30 : decode cX11_refuse 30 = .ok (.ireturn, 1) := by decide +kernel
theorem dX11_refuse_31 : decode cX11_refuse 31 = .ok (.aload_n 2, 1) := by decide +kernel
theorem dX11_refuse_32 : decode cX11_refuse 32 = .ok (.iconst 3, 1) := by decide +kernel
theorem dX11_refuse_33 : decode cX11_refuse 33 = .ok (.aload_n 0, 1) := by decide +kernel
theorem dX11_refuse_34 : decode cX11_refuse 34 = .ok (.getfield 173, 3) := by decide +kernel
theorem dX11_refuse_37 : decode cX11_refuse 37 = .ok (.invokevirtual 360, 3) := by decide +kernel
theorem dX11_refuse_40 : decode cX11_refuse 40 = .ok (.aload_n 2, 1) := by decide +kernel
theorem dX11_refuse_41 : decode cX11_refuse 41 = .ok (.getfield 354, 3) := by decide +kernel
theorem dX11_refuse_44 : decode cX11_refuse 44 = .ok (.ireturn, 1) := by decide +kernel
theorem dX11_council_0 : decode cX11_council 0 = .ok (.iload_n 1, 1) := by decide +kernel
theorem dX11_council_1 : decode cX11_council 1 = .ok (.invokestatic 92, 3) := by decide +kernel
theorem dX11_council_4 : decode cX11_council 4 = .ok (.ifCond .eq 10, 3) := by decide +kernel
theorem dX11_council_7 : decode cX11_council 7 = .ok (.iload_n 2, 1) := by decide +kernel
theorem dX11_council_8 : decode cX11_council 8 = .ok (.invokestatic 110, 3) := by decide +kernel
theorem dX11_council_11 : decode cX11_council 11 = .ok (.ifCond .ne 5, 3) := by decide +kernel
theorem dX11_council_14 : decode cX11_council 14 = .ok (.iconst (-1), 1) := by decide +kernel
theorem dX11_council_15 : decode cX11_council 15 = .ok (.ireturn, 1) := by decide +kernel
theorem dX11_council_16 : decode cX11_council 16 = .ok (.aload_n 0, 1) := by decide +kernel
theorem dX11_council_17 : decode cX11_council 17 = .ok (.iload_n 1, 1) := by decide +kernel
theorem dX11_council_18 : decode cX11_council 18 = .ok (.invokevirtual 364, 3) := by decide +kernel
theorem dX11_council_21 : decode cX11_council 21 = .ok (.istore 6, 2) := by decide +kernel
theorem dX11_council_23 : decode cX11_council 23 = .ok (.iload_n 3, 1) := by decide +kernel
theorem dX11_council_24 : decode cX11_council 24 = .ok (.iconst 1, 1) := by decide +kernel
theorem dX11_council_25 : decode cX11_council 25 = .ok (.bipush 99, 2) := by decide +kernel
theorem dX11_council_27 : decode cX11_council 27 = .ok (.invokestatic 96, 3) := by decide +kernel
theorem dX11_council_30 : decode cX11_council 30 = .ok (.ifCond .eq 16, 3) := by decide +kernel
theorem dX11_council_33 : decode cX11_council 33 = .ok (.iload 4, 2) := by decide +kernel
theorem dX11_council_35 : decode cX11_council 35 = .ok (.iload 5, 2) := by decide +kernel
theorem dX11_council_37 : decode cX11_council 37 = .ok (.ior, 1) := by decide +kernel
theorem dX11_council_38 : decode cX11_council 38 = .ok (.iload 6, 2) := by decide +kernel
theorem dX11_council_40 : decode cX11_council 40 = .ok (.iconst (-1), 1) := by decide +kernel
theorem dX11_council_41 : decode cX11_council 41 = .ok (.ixor, 1) := by decide +kernel
theorem dX11_council_42 : decode cX11_council 42 = .ok (.iand, 1) := by decide +kernel
theorem dX11_council_43 : decode cX11_council 43 = .ok (.ifCond .eq 6, 3) := by decide +kernel
theorem dX11_council_46 : decode cX11_council 46 = .ok (.bipush (-2), 2) := by decide +kernel
theorem dX11_council_48 : decode cX11_council 48 = .ok (.ireturn, 1) := by decide +kernel
theorem dX11_council_49 : decode cX11_council 49 = .ok (.aload_n 0, 1) := by decide +kernel
theorem dX11_council_50 : decode cX11_council 50 = .ok (.iload 6, 2) := by decide +kernel
theorem dX11_council_52 : decode cX11_council 52 = .ok (.iload 4, 2) := by decide +kernel
theorem dX11_council_54 : decode cX11_council 54 = .ok (.iload 5, 2) := by decide +kernel
theorem dX11_council_56 : decode cX11_council 56 = .ok (.invokevirtual 367, 3) := by decide +kernel
theorem dX11_council_59 : decode cX11_council 59 = .ok (.ifCond .ne 6, 3) := by decide +kernel
theorem dX11_council_62 : decode cX11_council 62 = .ok (.bipush (-3), 2) := by decide +kernel
theorem dX11_council_64 : decode cX11_council 64 = .ok (.ireturn, 1) := by decide +kernel
theorem dX11_council_65 : decode cX11_council 65 = .ok (.iload 5, 2) := by decide +kernel
theorem dX11_council_67 : decode cX11_council 67 = .ok (.invokestatic 370, 3) := by decide +kernel
theorem dX11_council_70 : decode cX11_council 70 = .ok (.istore 7, 2) := by decide +kernel
theorem dX11_council_72 : decode cX11_council 72 = .ok (.aload_n 0, 1) := by decide +kernel
theorem dX11_council_73 : decode cX11_council 73 = .ok (.iconst 1, 1) := by decide +kernel
theorem dX11_council_74 : decode cX11_council 74 = .ok (.iload 7, 2) := by decide +kernel
theorem dX11_council_76 : decode cX11_council 76 = .ok (.iadd, 1) := by decide +kernel
theorem dX11_council_77 : decode cX11_council 77 = .ok (.invokevirtual 164, 3) := by decide +kernel
theorem dX11_council_80 : decode cX11_council 80 = .ok (.ifCond .ne 6, 3) := by decide +kernel
theorem dX11_council_83 : decode cX11_council 83 = .ok (.bipush (-4), 2) := by decide +kernel
theorem dX11_council_85 : decode cX11_council 85 = .ok (.ireturn, 1) := by decide +kernel
theorem dX11_council_86 : decode cX11_council 86 = .ok (.aload_n 0, 1) := by decide +kernel
theorem dX11_council_87 : decode cX11_council 87 = .ok (.getfield 11, 3) := by decide +kernel
theorem dX11_council_90 : decode cX11_council 90 = .ok (.iload_n 1, 1) := by decide +kernel
theorem dX11_council_91 : decode cX11_council 91 = .ok (.aaload, 1) := by decide +kernel
theorem dX11_council_92 : decode cX11_council 92 = .ok (.astore 8, 2) := by decide +kernel
theorem dX11_council_94 : decode cX11_council 94 = .ok (.aload_n 0, 1) := by decide +kernel
theorem dX11_council_95 : decode cX11_council 95 = .ok (.iconst 3, 1) := by decide +kernel
theorem dX11_council_96 : decode cX11_council 96 = .ok (.aload 8, 2) := by decide +kernel
theorem dX11_council_98 : decode cX11_council 98 = .ok (.iconst 0, 1) := by decide +kernel
theorem dX11_council_99 : decode cX11_council 99 = .ok (.invokevirtual 196, 3) := by decide +kernel
theorem dX11_council_102 : decode cX11_council 102 = .ok (.astore 9, 2) := by decide +kernel
theorem dX11_council_104 : decode cX11_council 104 = .ok (.iconst 0, 1) := by decide +kernel
theorem dX11_council_105 : decode cX11_council 105 = .ok (.istore 10, 2) := by decide +kernel
theorem dX11_council_107 : decode cX11_council 107 = .ok (.iload 10, 2) := by decide +kernel
theorem dX11_council_109 : decode cX11_council 109 = .ok (.iload 7, 2) := by decide +kernel
theorem dX11_council_111 : decode cX11_council 111 = .ok (.if_icmp .ge 19, 3) := by decide +kernel
theorem dX11_council_114 : decode cX11_council 114 = .ok (.aload_n 0, 1) := by decide +kernel
theorem dX11_council_115 : decode cX11_council 115 = .ok (.bipush 6, 2) := by decide +kernel
theorem dX11_council_117 : decode cX11_council 117 = .ok (.aload 8, 2) := by decide +kernel
theorem dX11_council_119 : decode cX11_council 119 = .ok (.iconst 0, 1) := by decide +kernel
theorem dX11_council_120 : decode cX11_council 120 = .ok (.invokevirtual 196, 3) := by decide +kernel
theorem dX11_council_123 : decode cX11_council 123 = .ok (.pop, 1) := by decide +kernel
theorem dX11_council_124 : decode cX11_council 124 = .ok (.iinc 10 1, 3) := by decide +kernel
theorem dX11_council_127 : decode cX11_council 127 = .ok (.goto (-20), 3) := by decide +kernel
theorem dX11_council_130 : decode cX11_council 130 = .ok (.aload 8, 2) := by decide +kernel
theorem dX11_council_132 : decode cX11_council 132 = .ok (.getfield 129, 3) := by decide +kernel
theorem dX11_council_135 : decode cX11_council 135 = .ok (.iload_n 2, 1) := by decide +kernel
theorem dX11_council_136 : decode cX11_council 136 = .ok (.iaload, 1) := by decide +kernel
theorem dX11_council_137 : decode cX11_council 137 = .ok (.istore 10, 2) := by decide +kernel
theorem dX11_council_139 : decode cX11_council 139 = .ok (.aload 8, 2) := by decide +kernel
theorem dX11_council_141 : decode cX11_council 141 = .ok (.iload_n 2, 1) := by decide +kernel
theorem dX11_council_142 : decode cX11_council 142 = .ok (.iload_n 3, 1) := by decide +kernel
theorem dX11_council_143 : decode cX11_council 143 = .ok (.iconst 0, 1) := by decide +kernel
theorem dX11_council_144 : decode cX11_council 144 = .ok (.invokevirtual 375, 3) := by decide +kernel
theorem dX11_council_147 : decode cX11_council 147 = .ok (.istore 11, 2) := by decide +kernel
theorem dX11_council_149 : decode cX11_council 149 = .ok (.aload 8, 2) := by decide +kernel
theorem dX11_council_151 : decode cX11_council 151 = .ok (.getfield 129, 3) := by decide +kernel
theorem dX11_council_154 : decode cX11_council 154 = .ok (.iload_n 2, 1) := by decide +kernel
theorem dX11_council_155 : decode cX11_council 155 = .ok (.iaload, 1) := by decide +kernel
theorem dX11_council_156 : decode cX11_council 156 = .ok (.iload 10, 2) := by decide +kernel
theorem dX11_council_158 : decode cX11_council 158 = .ok (.isub, 1) := by decide +kernel
theorem dX11_council_159 : decode cX11_council 159 = .ok (.istore 12, 2) := by decide +kernel
theorem dX11_council_161 : decode cX11_council 161 = .ok (.iload 12, 2) := by decide +kernel
theorem dX11_council_163 : decode cX11_council 163 = .ok (.ifCond .le 20, 3) := by decide +kernel
theorem dX11_council_166 : decode cX11_council 166 = .ok (.aload_n 0, 1) := by decide +kernel
theorem dX11_council_167 : decode cX11_council 167 = .ok (.iload_n 1, 1) := by decide +kernel
theorem dX11_council_168 : decode cX11_council 168 = .ok (.iconst 5, 1) := by decide +kernel
theorem dX11_council_169 : decode cX11_council 169 = .ok (.iload_n 2, 1) := by decide +kernel
theorem dX11_council_170 : decode cX11_council 170 = .ok (.iload 12, 2) := by decide +kernel
theorem dX11_council_172 : decode cX11_council 172 = .ok (.iload 11, 2) := by decide +kernel
theorem dX11_council_174 : decode cX11_council 174 = .ok (.aload 9, 2) := by decide +kernel
theorem dX11_council_176 : decode cX11_council 176 = .ok (.getfield 193, 3) := by decide +kernel
theorem dX11_council_179 : decode cX11_council 179 = .ok (.iconst (-1), 1) := by decide +kernel
theorem dX11_council_180 : decode cX11_council 180 = .ok (.invokevirtual 379, 3) := by decide +kernel
theorem dX11_council_183 : decode cX11_council 183 = .ok (.iload 11, 2) := by decide +kernel
theorem dX11_council_185 : decode cX11_council 185 = .ok (.ireturn, 1) := by decide +kernel
theorem dX11_wants_0 : decode cX11_wants 0 = .ok (.iload_n 1, 1) := by decide +kernel
theorem dX11_wants_1 : decode cX11_wants 1 = .ok (.iconst 0, 1) := by decide +kernel
theorem dX11_wants_2 : decode cX11_wants 2 = .ok (.iconst 5, 1) := by decide +kernel
theorem dX11_wants_3 : decode cX11_wants 3 = .ok (.invokestatic 96, 3) := by decide +kernel
theorem dX11_wants_6 : decode cX11_wants 6 = .ok (.ifCond .eq 10, 3) := by decide +kernel
theorem dX11_wants_9 : decode cX11_wants 9 = .ok (.iload_n 2, 1) := by decide +kernel
theorem dX11_wants_10 : decode cX11_wants 10 = .ok (.invokestatic 110, 3) := by decide +kernel
theorem dX11_wants_13 : decode cX11_wants 13 = .ok (.ifCond .ne 5, 3) := by decide +kernel
theorem dX11_wants_16 : decode cX11_wants 16 = .ok (.iconst (-1), 1) := by decide +kernel
theorem dX11_wants_17 : decode cX11_wants 17 = .ok (.ireturn, 1) := by decide +kernel
theorem dX11_wants_18 : decode cX11_wants 18 = .ok (.iload_n 3, 1) := by decide +kernel
theorem dX11_wants_19 : decode cX11_wants 19 = .ok (.iconst 0, 1) := by decide +kernel
theorem dX11_wants_20 : decode cX11_wants 20 = .ok (.bipush 99, 2) := by decide +kernel
theorem dX11_wants_22 : decode cX11_wants 22 = .ok (.invokestatic 96, 3) := by decide +kernel
theorem dX11_wants_25 : decode cX11_wants 25 = .ok (.ifCond .eq 15, 3) := by decide +kernel
theorem dX11_wants_28 : decode cX11_wants 28 = .ok (.iload 4, 2) := by decide +kernel
theorem dX11_wants_30 : decode cX11_wants 30 = .ok (.iconst 0, 1) := by decide +kernel
theorem dX11_wants_31 : decode cX11_wants 31 = .ok (.sipush 999, 3) := by decide +kernel
theorem dX11_wants_34 : decode cX11_wants 34 = .ok (.invokestatic 96, 3) := by decide +kernel
theorem dX11_wants_37 : decode cX11_wants 37 = .ok (.ifCond .ne 6, 3) := by decide +kernel
theorem dX11_wants_40 : decode cX11_wants 40 = .ok (.bipush (-2), 2) := by decide +kernel
theorem dX11_wants_42 : decode cX11_wants 42 = .ok (.ireturn, 1) := by decide +kernel
theorem dX11_wants_43 : decode cX11_wants 43 = .ok (.aload_n 0, 1) := by decide +kernel
theorem dX11_wants_44 : decode cX11_wants 44 = .ok (.getfield 54, 3) := by decide +kernel
theorem dX11_wants_47 : decode cX11_wants 47 = .ok (.getfield 383, 3) := by decide +kernel
theorem dX11_wants_50 : decode cX11_wants 50 = .ok (.iload_n 1, 1) := by decide +kernel
theorem dX11_wants_51 : decode cX11_wants 51 = .ok (.aaload, 1) := by decide +kernel
theorem dX11_wants_52 : decode cX11_wants 52 = .ok (.iload_n 2, 1) := by decide +kernel
theorem dX11_wants_53 : decode cX11_wants 53 = .ok (.iaload, 1) := by decide +kernel
theorem dX11_wants_54 : decode cX11_wants 54 = .ok (.istore 5, 2) := by decide +kernel
theorem dX11_wants_56 : decode cX11_wants 56 = .ok (.aload_n 0, 1) := by decide +kernel
theorem dX11_wants_57 : decode cX11_wants 57 = .ok (.getfield 54, 3) := by decide +kernel
theorem dX11_wants_60 : decode cX11_wants 60 = .ok (.getfield 383, 3) := by decide +kernel
theorem dX11_wants_63 : decode cX11_wants 63 = .ok (.iload_n 1, 1) := by decide +kernel
theorem dX11_wants_64 : decode cX11_wants 64 = .ok (.aaload, 1) := by decide +kernel
theorem dX11_wants_65 : decode cX11_wants 65 = .ok (.iload_n 2, 1) := by decide +kernel
theorem dX11_wants_66 : decode cX11_wants 66 = .ok (.iload_n 3, 1) := by decide +kernel
theorem dX11_wants_67 : decode cX11_wants 67 = .ok (.iastore, 1) := by decide +kernel
theorem dX11_wants_68 : decode cX11_wants 68 = .ok (.aload_n 0, 1) := by decide +kernel
theorem dX11_wants_69 : decode cX11_wants 69 = .ok (.getfield 54, 3) := by decide +kernel
theorem dX11_wants_72 : decode cX11_wants 72 = .ok (.getfield 386, 3) := by decide +kernel
theorem dX11_wants_75 : decode cX11_wants 75 = .ok (.iload_n 1, 1) := by decide +kernel
theorem dX11_wants_76 : decode cX11_wants 76 = .ok (.aaload, 1) := by decide +kernel
theorem dX11_wants_77 : decode cX11_wants 77 = .ok (.iload_n 2, 1) := by decide +kernel
theorem dX11_wants_78 : decode cX11_wants 78 = .ok (.iload 4, 2) := by decide +kernel
theorem dX11_wants_80 : decode cX11_wants 80 = .ok (.iastore, 1) := by decide +kernel
theorem dX11_wants_81 : decode cX11_wants 81 = .ok (.iload 5, 2) := by decide +kernel
theorem dX11_wants_83 : decode cX11_wants 83 = .ok (.ireturn, 1) := by decide +kernel
theorem dX11_sale_0 : decode cX11_sale 0 = .ok (.iload_n 1, 1) := by decide +kernel
theorem dX11_sale_1 : decode cX11_sale 1 = .ok (.invokestatic 110, 3) := by decide +kernel
theorem dX11_sale_4 : decode cX11_sale 4 = .ok (.ifCond .ne 5, 3) := by decide +kernel
theorem dX11_sale_7 : decode cX11_sale 7 = .ok (.iconst (-1), 1) := by decide +kernel
theorem dX11_sale_8 : decode cX11_sale 8 = .ok (.ireturn, 1) := by decide +kernel
theorem dX11_sale_9 : decode cX11_sale 9 = .ok (.iload_n 2, 1) := by decide +kernel
theorem dX11_sale_10 : decode cX11_sale 10 = .ok (.iconst 1, 1) := by decide +kernel
theorem dX11_sale_11 : decode cX11_sale 11 = .ok (.bipush 99, 2) := by decide +kernel
theorem dX11_sale_13 : decode cX11_sale 13 = .ok (.invokestatic 96, 3) := by decide +kernel
theorem dX11_sale_16 : decode cX11_sale 16 = .ok (.ifCond .ne 6, 3) := by decide +kernel
theorem dX11_sale_19 : decode cX11_sale 19 = .ok (.bipush (-2), 2) := by decide +kernel
theorem dX11_sale_21 : decode cX11_sale 21 = .ok (.ireturn, 1) := by decide +kernel
theorem dX11_sale_22 : decode cX11_sale 22 = .ok (.aload_n 0, 1) := by decide +kernel
theorem dX11_sale_23 : decode cX11_sale 23 = .ok (.getfield 11, 3) := by decide +kernel
theorem dX11_sale_26 : decode cX11_sale 26 = .ok (.iconst 0, 1) := by decide +kernel
theorem dX11_sale_27 : decode cX11_sale 27 = .ok (.aaload, 1) := by decide +kernel
theorem dX11_sale_28 : decode cX11_sale 28 = .ok (.astore_n 3, 1) := by decide +kernel
theorem dX11_sale_29 : decode cX11_sale 29 = .ok (.aload_n 3, 1) := by decide +kernel
theorem dX11_sale_30 : decode cX11_sale 30 = .ok (.getfield 129, 3) := by decide +kernel
theorem dX11_sale_33 : decode cX11_sale 33 = .ok (.iload_n 1, 1) := by decide +kernel
theorem dX11_sale_34 : decode cX11_sale 34 = .ok (.iaload, 1) := by decide +kernel
theorem dX11_sale_35 : decode cX11_sale 35 = .ok (.iload_n 2, 1) := by decide +kernel
theorem dX11_sale_36 : decode cX11_sale 36 = .ok (.if_icmp .ge 6, 3) := by decide +kernel
theorem dX11_sale_39 : decode cX11_sale 39 = .ok (.bipush (-3), 2) := by decide +kernel
theorem dX11_sale_41 : decode cX11_sale 41 = .ok (.ireturn, 1) := by decide +kernel
theorem dX11_sale_42 : decode cX11_sale 42 = .ok (.iconst 0, 1) := by decide +kernel
theorem dX11_sale_43 : decode cX11_sale 43 = .ok (.istore 4, 2) := by decide +kernel
theorem dX11_sale_45 : decode cX11_sale 45 = .ok (.iconst 0, 1) := by decide +kernel
theorem dX11_sale_46 : decode cX11_sale 46 = .ok (.istore 5, 2) := by decide +kernel
theorem dX11_sale_48 : decode cX11_sale 48 = .ok (.iload 5, 2) := by decide +kernel
theorem dX11_sale_50 : decode cX11_sale 50 = .ok (.iload_n 2, 1) := by decide +kernel
theorem dX11_sale_51 : decode cX11_sale 51 = .ok (.if_icmp .ge 53, 3) := by decide +kernel
theorem dX11_sale_54 : decode cX11_sale 54 = .ok (.aload_n 0, 1) := by decide +kernel
theorem dX11_sale_55 : decode cX11_sale 55 = .ok (.getfield 54, 3) := by decide +kernel
theorem dX11_sale_58 : decode cX11_sale 58 = .ok (.iload_n 1, 1) := by decide +kernel
theorem dX11_sale_59 : decode cX11_sale 59 = .ok (.iconst (-1), 1) := by decide +kernel
theorem dX11_sale_60 : decode cX11_sale 60 = .ok (.invokevirtual 389, 3) := by decide +kernel
theorem dX11_sale_63 : decode cX11_sale 63 = .ok (.istore 6, 2) := by decide +kernel
theorem dX11_sale_65 : decode cX11_sale 65 = .ok (.iload 6, 2) := by decide +kernel
theorem dX11_sale_67 : decode cX11_sale 67 = .ok (.ifCond .ge 6, 3) := by decide +kernel
theorem dX11_sale_70 : decode cX11_sale 70 = .ok (.goto 34, 3) := by decide +kernel
theorem dX11_sale_73 : decode cX11_sale 73 = .ok (.iload 4, 2) := by decide +kernel
theorem dX11_sale_75 : decode cX11_sale 75 = .ok (.aload_n 0, 1) := by decide +kernel
theorem dX11_sale_76 : decode cX11_sale 76 = .ok (.getfield 54, 3) := by decide +kernel
theorem dX11_sale_79 : decode cX11_sale 79 = .ok (.iload_n 1, 1) := by decide +kernel
theorem dX11_sale_80 : decode cX11_sale 80 = .ok (.iload 6, 2) := by decide +kernel
theorem dX11_sale_82 : decode cX11_sale 82 = .ok (.invokevirtual 393, 3) := by decide +kernel
theorem dX11_sale_85 : decode cX11_sale 85 = .ok (.iadd, 1) := by decide +kernel
theorem dX11_sale_86 : decode cX11_sale 86 = .ok (.istore 4, 2) := by decide +kernel
theorem dX11_sale_88 : decode cX11_sale 88 = .ok (.aload_n 3, 1) := by decide +kernel
theorem dX11_sale_89 : decode cX11_sale 89 = .ok (.getfield 129, 3) := by decide +kernel
theorem dX11_sale_92 : decode cX11_sale 92 = .ok (.iload_n 1, 1) := by decide +kernel
theorem dX11_sale_93 : decode cX11_sale 93 = .ok (.dup2, 1) := by decide +kernel
theorem dX11_sale_94 : decode cX11_sale 94 = .ok (.iaload, 1) := by decide +kernel
theorem dX11_sale_95 : decode cX11_sale 95 = .ok (.iconst 1, 1) := by decide +kernel
theorem dX11_sale_96 : decode cX11_sale 96 = .ok (.isub, 1) := by decide +kernel
theorem dX11_sale_97 : decode cX11_sale 97 = .ok (.iastore, 1) := by decide +kernel
theorem dX11_sale_98 : decode cX11_sale 98 = .ok (.iinc 5 1, 3) := by decide +kernel
theorem dX11_sale_101 : decode cX11_sale 101 = .ok (.goto (-53), 3) := by decide +kernel
theorem dX11_sale_104 : decode cX11_sale 104 = .ok (.aload_n 3, 1) := by decide +kernel
theorem dX11_sale_105 : decode cX11_sale 105 = .ok (.dup, 1) := by decide +kernel
theorem dX11_sale_106 : decode cX11_sale 106 = .ok (.getfield 125, 3) := by decide +kernel
theorem dX11_sale_109 : decode cX11_sale 109 = .ok (.iload 4, 2) := by decide +kernel
theorem dX11_sale_111 : decode cX11_sale 111 = .ok (.iadd, 1) := by decide +kernel
theorem dX11_sale_112 : decode cX11_sale 112 = .ok (.putfield 125, 3) := by decide +kernel
theorem dX11_sale_115 : decode cX11_sale 115 = .ok (.aload_n 0, 1) := by decide +kernel
theorem dX11_sale_116 : decode cX11_sale 116 = .ok (.getfield 54, 3) := by decide +kernel
theorem dX11_sale_119 : decode cX11_sale 119 = .ok (.dup, 1) := by decide +kernel
theorem dX11_sale_120 : decode cX11_sale 120 = .ok (.getfield 396, 3) := by decide +kernel
theorem dX11_sale_123 : decode cX11_sale 123 = .ok (.iload 4, 2) := by decide +kernel
theorem dX11_sale_125 : decode cX11_sale 125 = .ok (.iadd, 1) := by decide +kernel
theorem dX11_sale_126 : decode cX11_sale 126 = .ok (.putfield 396, 3) := by decide +kernel
theorem dX11_sale_129 : decode cX11_sale 129 = .ok (.iload 4, 2) := by decide +kernel
theorem dX11_sale_131 : decode cX11_sale 131 = .ok (.ireturn, 1) := by decide +kernel
theorem dX11_bought_0 : decode cX11_bought 0 = .ok (.iload_n 1, 1) := by decide +kernel
theorem dX11_bought_1 : decode cX11_bought 1 = .ok (.iconst 0, 1) := by decide +kernel
theorem dX11_bought_2 : decode cX11_bought 2 = .ok (.iconst 5, 1) := by decide +kernel
theorem dX11_bought_3 : decode cX11_bought 3 = .ok (.invokestatic 96, 3) := by decide +kernel
theorem dX11_bought_6 : decode cX11_bought 6 = .ok (.ifCond .eq 12, 3) := by decide +kernel
theorem dX11_bought_9 : decode cX11_bought 9 = .ok (.iload_n 2, 1) := by decide +kernel
theorem dX11_bought_10 : decode cX11_bought 10 = .ok (.iconst 0, 1) := by decide +kernel
theorem dX11_bought_11 : decode cX11_bought 11 = .ok (.iconst 1, 1) := by decide +kernel
theorem dX11_bought_12 : decode cX11_bought 12 = .ok (.invokestatic 96, 3) := by decide +kernel
theorem dX11_bought_15 : decode cX11_bought 15 = .ok (.ifCond .ne 5, 3) := by decide +kernel
theorem dX11_bought_18 : decode cX11_bought 18 = .ok (.iconst (-1), 1) := by decide +kernel
theorem dX11_bought_19 : decode cX11_bought 19 = .ok (.ireturn, 1) := by decide +kernel
theorem dX11_bought_20 : decode cX11_bought 20 = .ok (.iload_n 2, 1) := by decide +kernel
theorem dX11_bought_21 : decode cX11_bought 21 = .ok (.ifCond .ne 15, 3) := by decide +kernel
theorem dX11_bought_24 : decode cX11_bought 24 = .ok (.aload_n 0, 1) := by decide +kernel
theorem dX11_bought_25 : decode cX11_bought 25 = .ok (.getfield 54, 3) := by decide +kernel
theorem dX11_bought_28 : decode cX11_bought 28 = .ok (.getfield 399, 3) := by decide +kernel
theorem dX11_bought_31 : decode cX11_bought 31 = .ok (.iload_n 1, 1) := by decide +kernel
theorem dX11_bought_32 : decode cX11_bought 32 = .ok (.iaload, 1) := by decide +kernel
theorem dX11_bought_33 : decode cX11_bought 33 = .ok (.goto 12, 3) := by decide +kernel
theorem dX11_bought_36 : decode cX11_bought 36 = .ok (.aload_n 0, 1) := by decide +kernel
theorem dX11_bought_37 : decode cX11_bought 37 = .ok (.getfield 54, 3) := by decide +kernel
theorem dX11_bought_40 : decode cX11_bought 40 = .ok (.getfield 402, 3) := by decide +kernel
theorem dX11_bought_43 : decode cX11_bought 43 = .ok (.iload_n 1, 1) := by decide +kernel
theorem dX11_bought_44 : decode cX11_bought 44 = .ok (.iaload, 1) := by decide +kernel
theorem dX11_bought_45 : decode cX11_bought 45 = .ok (.ireturn, 1) := by decide +kernel
theorem dX11_shares_0 : decode cX11_shares 0 = .ok (.iload_n 1, 1) := by decide +kernel
theorem dX11_shares_1 : decode cX11_shares 1 = .ok (.invokestatic 405, 3) := by decide +kernel
theorem dX11_shares_4 : decode cX11_shares 4 = .ok (.ifCond .eq 10, 3) := by decide +kernel
theorem dX11_shares_7 : decode cX11_shares 7 = .ok (.iload_n 2, 1) := by decide +kernel
theorem dX11_shares_8 : decode cX11_shares 8 = .ok (.invokestatic 405, 3) := by decide +kernel
theorem dX11_shares_11 : decode cX11_shares 11 = .ok (.ifCond .ne 5, 3) := by decide +kernel
theorem dX11_shares_14 : decode cX11_shares 14 = .ok (.iconst (-1), 1) := by decide +kernel
theorem dX11_shares_15 : decode cX11_shares 15 = .ok (.ireturn, 1) := by decide +kernel
theorem dX11_shares_16 : decode cX11_shares 16 = .ok (.iload_n 3, 1) := by decide +kernel
theorem dX11_shares_17 : decode cX11_shares 17 = .ok (.iconst 1, 1) := by decide +kernel
theorem dX11_shares_18 : decode cX11_shares 18 = .ok (.aload_n 0, 1) := by decide +kernel
theorem dX11_shares_19 : decode cX11_shares 19 = .ok (.getfield 58, 3) := by decide +kernel
theorem dX11_shares_22 : decode cX11_shares 22 = .ok (.iload_n 1, 1) := by decide +kernel
theorem dX11_shares_23 : decode cX11_shares 23 = .ok (.iaload, 1) := by decide +kernel
theorem dX11_shares_24 : decode cX11_shares 24 = .ok (.invokestatic 96, 3) := by decide +kernel
theorem dX11_shares_27 : decode cX11_shares 27 = .ok (.ifCond .eq 8, 3) := by decide +kernel
theorem dX11_shares_30 : decode cX11_shares 30 = .ok (.iload_n 1, 1) := by decide +kernel
theorem dX11_shares_31 : decode cX11_shares 31 = .ok (.iload_n 2, 1) := by decide +kernel
theorem dX11_shares_32 : decode cX11_shares 32 = .ok (.if_icmp .ne 6, 3) := by decide +kernel
theorem dX11_shares_35 : decode cX11_shares 35 = .ok (.bipush (-2), 2) := by decide +kernel
theorem dX11_shares_37 : decode cX11_shares 37 = .ok (.ireturn, 1) := by decide +kernel
theorem dX11_shares_38 : decode cX11_shares 38 = .ok (.aload_n 0, 1) := by decide +kernel
theorem dX11_shares_39 : decode cX11_shares 39 = .ok (.getfield 58, 3) := by decide +kernel
theorem dX11_shares_42 : decode cX11_shares 42 = .ok (.iload_n 1, 1) := by decide +kernel
theorem dX11_shares_43 : decode cX11_shares 43 = .ok (.dup2, 1) := by decide +kernel
theorem dX11_shares_44 : decode cX11_shares 44 = .ok (.iaload, 1) := by decide +kernel
theorem dX11_shares_45 : decode cX11_shares 45 = .ok (.iload_n 3, 1) := by decide +kernel
theorem dX11_shares_46 : decode cX11_shares 46 = .ok (.isub, 1) := by decide +kernel
theorem dX11_shares_47 : decode cX11_shares 47 = .ok (.iastore, 1) := by decide +kernel
theorem dX11_shares_48 : decode cX11_shares 48 = .ok (.aload_n 0, 1) := by decide +kernel
theorem dX11_shares_49 : decode cX11_shares 49 = .ok (.getfield 58, 3) := by decide +kernel
theorem dX11_shares_52 : decode cX11_shares 52 = .ok (.iload_n 2, 1) := by decide +kernel
theorem dX11_shares_53 : decode cX11_shares 53 = .ok (.dup2, 1) := by decide +kernel
theorem dX11_shares_54 : decode cX11_shares 54 = .ok (.iaload, 1) := by decide +kernel
theorem dX11_shares_55 : decode cX11_shares 55 = .ok (.iload_n 3, 1) := by decide +kernel
theorem dX11_shares_56 : decode cX11_shares 56 = .ok (.iadd, 1) := by decide +kernel
theorem dX11_shares_57 : decode cX11_shares 57 = .ok (.iastore, 1) := by decide +kernel
theorem dX11_shares_58 : decode cX11_shares 58 = .ok (.aload_n 0, 1) := by decide +kernel
theorem dX11_shares_59 : decode cX11_shares 59 = .ok (.getfield 58, 3) := by decide +kernel
theorem dX11_shares_62 : decode cX11_shares 62 = .ok (.iload_n 2, 1) := by decide +kernel
theorem dX11_shares_63 : decode cX11_shares 63 = .ok (.iaload, 1) := by decide +kernel
theorem dX11_shares_64 : decode cX11_shares 64 = .ok (.ireturn, 1) := by decide +kernel
theorem dX11_gain_0 : decode cX11_gain 0 = .ok (.aload_n 0, 1) := by decide +kernel
theorem dX11_gain_1 : decode cX11_gain 1 = .ok (.getfield 54, 3) := by decide +kernel
theorem dX11_gain_4 : decode cX11_gain 4 = .ok (.getfield 396, 3) := by decide +kernel
theorem dX11_gain_7 : decode cX11_gain 7 = .ok (.aload_n 0, 1) := by decide +kernel
theorem dX11_gain_8 : decode cX11_gain 8 = .ok (.getfield 408, 3) := by decide +kernel
theorem dX11_gain_11 : decode cX11_gain 11 = .ok (.isub, 1) := by decide +kernel
theorem dX11_gain_12 : decode cX11_gain 12 = .ok (.istore_n 1, 1) := by decide +kernel
theorem dX11_gain_13 : decode cX11_gain 13 = .ok (.iconst 0, 1) := by decide +kernel
theorem dX11_gain_14 : decode cX11_gain 14 = .ok (.istore_n 2, 1) := by decide +kernel
theorem dX11_gain_15 : decode cX11_gain 15 = .ok (.iload_n 2, 1) := by decide +kernel
theorem dX11_gain_16 : decode cX11_gain 16 = .ok (.aload_n 0, 1) := by decide +kernel
theorem dX11_gain_17 : decode cX11_gain 17 = .ok (.invokevirtual 335, 3) := by decide +kernel
theorem dX11_gain_20 : decode cX11_gain 20 = .ok (.if_icmp .ge 85, 3) := by decide +kernel
theorem dX11_gain_23 : decode cX11_gain 23 = .ok (.iload_n 2, 1) := by decide +kernel
theorem dX11_gain_24 : decode cX11_gain 24 = .ok (.bipush 8, 2) := by decide +kernel
theorem dX11_gain_26 : decode cX11_gain 26 = .ok (.imul, 1) := by decide +kernel
theorem dX11_gain_27 : decode cX11_gain 27 = .ok (.istore_n 3, 1) := by decide +kernel
theorem dX11_gain_28 : decode cX11_gain 28 = .ok (.aload_n 0, 1) := by decide +kernel
theorem dX11_gain_29 : decode cX11_gain 29 = .ok (.getfield 41, 3) := by decide +kernel
theorem dX11_gain_32 : decode cX11_gain 32 = .ok (.iload_n 3, 1) := by decide +kernel
theorem dX11_gain_33 : decode cX11_gain 33 = .ok (.iconst 2, 1) := by decide +kernel
theorem dX11_gain_34 : decode cX11_gain 34 = .ok (.iadd, 1) := by decide +kernel
theorem dX11_gain_35 : decode cX11_gain 35 = .ok (.iaload, 1) := by decide +kernel
theorem dX11_gain_36 : decode cX11_gain 36 = .ok (.istore 4, 2) := by decide +kernel
theorem dX11_gain_38 : decode cX11_gain 38 = .ok (.iload 4, 2) := by decide +kernel
theorem dX11_gain_40 : decode cX11_gain 40 = .ok (.ifCond .eq 15, 3) := by decide +kernel
theorem dX11_gain_43 : decode cX11_gain 43 = .ok (.iload 4, 2) := by decide +kernel
theorem dX11_gain_45 : decode cX11_gain 45 = .ok (.iconst 1, 1) := by decide +kernel
theorem dX11_gain_46 : decode cX11_gain 46 = .ok (.if_icmp .eq 9, 3) := by decide +kernel
theorem dX11_gain_49 : decode cX11_gain 49 = .ok (.iload 4, 2) := by decide +kernel
theorem dX11_gain_51 : decode cX11_gain 51 = .ok (.iconst 5, 1) := by decide +kernel
theorem dX11_gain_52 : decode cX11_gain 52 = .ok (.if_icmp .ne 7, 3) := by decide +kernel
theorem dX11_gain_55 : decode cX11_gain 55 = .ok (.iconst 1, 1) := by decide +kernel
theorem dX11_gain_56 : decode cX11_gain 56 = .ok (.goto 4, 3) := by decide +kernel
theorem dX11_gain_59 : decode cX11_gain 59 = .ok (.iconst 0, 1) := by decide +kernel
theorem dX11_gain_60 : decode cX11_gain 60 = .ok (.istore 5, 2) := by decide +kernel
theorem dX11_gain_62 : decode cX11_gain 62 = .ok (.iload 5, 2) := by decide +kernel
theorem dX11_gain_64 : decode cX11_gain 64 = .ok (.ifCond .eq 35, 3) := by decide +kernel
theorem dX11_gain_67 : decode cX11_gain 67 = .ok (.aload_n 0, 1) := by decide +kernel
theorem dX11_gain_68 : decode cX11_gain 68 = .ok (.getfield 41, 3) := by decide +kernel
theorem dX11_gain_71 : decode cX11_gain 71 = .ok (.iload_n 3, 1) := by decide +kernel
theorem dX11_gain_72 : decode cX11_gain 72 = .ok (.iaload, 1) := by decide +kernel
theorem dX11_gain_73 : decode cX11_gain 73 = .ok (.aload_n 0, 1) := by decide +kernel
theorem dX11_gain_74 : decode cX11_gain 74 = .ok (.aload_n 0, 1) := by decide +kernel
theorem dX11_gain_75 : decode cX11_gain 75 = .ok (.getfield 41, 3) := by decide +kernel
theorem dX11_gain_78 : decode cX11_gain 78 = .ok (.iload_n 3, 1) := by decide +kernel
theorem dX11_gain_79 : decode cX11_gain 79 = .ok (.iconst 1, 1) := by decide +kernel
theorem dX11_gain_80 : decode cX11_gain 80 = .ok (.iadd, 1) := by decide +kernel
theorem dX11_gain_81 : decode cX11_gain 81 = .ok (.iaload, 1) := by decide +kernel
theorem dX11_gain_82 : decode cX11_gain 82 = .ok (.invokevirtual 411, 3) := by decide +kernel
theorem dX11_gain_85 : decode cX11_gain 85 = .ok (.if_icmp .gt 14, 3) := by decide +kernel
theorem dX11_gain_88 : decode cX11_gain 88 = .ok (.iload_n 1, 1) := by decide +kernel
theorem dX11_gain_89 : decode cX11_gain 89 = .ok (.aload_n 0, 1) := by decide +kernel
theorem dX11_gain_90 : decode cX11_gain 90 = .ok (.getfield 41, 3) := by decide +kernel
theorem dX11_gain_93 : decode cX11_gain 93 = .ok (.iload_n 3, 1) := by decide +kernel
theorem dX11_gain_94 : decode cX11_gain 94 = .ok (.iconst 5, 1) := by decide +kernel
theorem dX11_gain_95 : decode cX11_gain 95 = .ok (.iadd, 1) := by decide +kernel
theorem dX11_gain_96 : decode cX11_gain 96 = .ok (.iaload, 1) := by decide +kernel
theorem dX11_gain_97 : decode cX11_gain 97 = .ok (.isub, 1) := by decide +kernel
theorem dX11_gain_98 : decode cX11_gain 98 = .ok (.istore_n 1, 1) := by decide +kernel
theorem dX11_gain_99 : decode cX11_gain 99 = .ok (.iinc 2 1, 3) := by decide +kernel
theorem dX11_gain_102 : decode cX11_gain 102 = .ok (.goto (-87), 3) := by decide +kernel
theorem dX11_gain_105 : decode cX11_gain 105 = .ok (.iload_n 1, 1) := by decide +kernel
theorem dX11_gain_106 : decode cX11_gain 106 = .ok (.ireturn, 1) := by decide +kernel
theorem dX11_divide_0 : decode cX11_divide 0 = .ok (.iload_n 1, 1) := by decide +kernel
theorem dX11_divide_1 : decode cX11_divide 1 = .ok (.ifCond .lt 24, 3) := by decide +kernel
theorem dX11_divide_4 : decode cX11_divide 4 = .ok (.iload_n 1, 1) := by decide +kernel
theorem dX11_divide_5 : decode cX11_divide 5 = .ok (.aload_n 0, 1) := by decide +kernel
theorem dX11_divide_6 : decode cX11_divide 6 = .ok (.invokevirtual 414, 3) := by decide +kernel
theorem dX11_divide_9 : decode cX11_divide 9 = .ok (.if_icmp .gt 16, 3) := by decide +kernel
theorem dX11_divide_12 : decode cX11_divide 12 = .ok (.iload_n 1, 1) := by decide +kernel
theorem dX11_divide_13 : decode cX11_divide 13 = .ok (.aload_n 0, 1) := by decide +kernel
theorem dX11_divide_14 : decode cX11_divide 14 = .ok (.getfield 11, 3) := by decide +kernel
theorem dX11_divide_17 : decode cX11_divide 17 = .ok (.iconst 0, 1) := by decide +kernel
theorem dX11_divide_18 : decode cX11_divide 18 = .ok (.aaload, 1) := by decide +kernel
theorem dX11_divide_19 : decode cX11_divide 19 = .ok (.getfield 125, 3) := by decide +kernel
theorem dX11_divide_22 : decode cX11_divide 22 = .ok (.if_icmp .le 6, 3) := by decide +kernel
theorem dX11_divide_25 : decode cX11_divide 25 = .ok (.bipush (-2), 2) := by decide +kernel
theorem dX11_divide_27 : decode cX11_divide 27 = .ok (.ireturn, 1) := by decide +kernel
theorem dX11_divide_28 : decode cX11_divide 28 = .ok (.iconst 0, 1) := by decide +kernel
theorem dX11_divide_29 : decode cX11_divide 29 = .ok (.istore_n 2, 1) := by decide +kernel
theorem dX11_divide_30 : decode cX11_divide 30 = .ok (.iconst 0, 1) := by decide +kernel
theorem dX11_divide_31 : decode cX11_divide 31 = .ok (.istore_n 3, 1) := by decide +kernel
theorem dX11_divide_32 : decode cX11_divide 32 = .ok (.iload_n 3, 1) := by decide +kernel
theorem dX11_divide_33 : decode cX11_divide 33 = .ok (.bipush 8, 2) := by decide +kernel
theorem dX11_divide_35 : decode cX11_divide 35 = .ok (.if_icmp .ge 42, 3) := by decide +kernel
theorem dX11_divide_38 : decode cX11_divide 38 = .ok (.iload_n 1, 1) := by decide +kernel
theorem dX11_divide_39 : decode cX11_divide 39 = .ok (.i2l, 1) := by decide +kernel
theorem dX11_divide_40 : decode cX11_divide 40 = .ok (.aload_n 0, 1) := by decide +kernel
theorem dX11_divide_41 : decode cX11_divide 41 = .ok (.getfield 58, 3) := by decide +kernel
theorem dX11_divide_44 : decode cX11_divide 44 = .ok (.iload_n 3, 1) := by decide +kernel
theorem dX11_divide_45 : decode cX11_divide 45 = .ok (.iaload, 1) := by decide +kernel
theorem dX11_divide_46 : decode cX11_divide 46 = .ok (.i2l, 1) := by decide +kernel
theorem dX11_divide_47 : decode cX11_divide 47 = .ok (.lmul, 1) := by decide +kernel
theorem dX11_divide_48 : decode cX11_divide 48 = .ok (.ldc2_w 417, 3) := by decide +kernel
theorem dX11_divide_51 : decode cX11_divide 51 = .ok (.ldiv, 1) := by decide +kernel
theorem dX11_divide_52 : decode cX11_divide 52 = .ok (.l2i, 1) := by decide +kernel
theorem dX11_divide_53 : decode cX11_divide 53 = .ok (.istore 4, 2) := by decide +kernel
theorem dX11_divide_55 : decode cX11_divide 55 = .ok (.aload_n 0, 1) := by decide +kernel
theorem dX11_divide_56 : decode cX11_divide 56 = .ok (.getfield 61, 3) := by decide +kernel
theorem dX11_divide_59 : decode cX11_divide 59 = .ok (.iload_n 3, 1) := by decide +kernel
theorem dX11_divide_60 : decode cX11_divide 60 = .ok (.dup2, 1) := by decide +kernel
theorem dX11_divide_61 : decode cX11_divide 61 = .ok (.iaload, 1) := by decide +kernel
theorem dX11_divide_62 : decode cX11_divide 62 = .ok (.iload 4, 2) := by decide +kernel
theorem dX11_divide_64 : decode cX11_divide 64 = .ok (.iadd, 1) := by decide +kernel
theorem dX11_divide_65 : decode cX11_divide 65 = .ok (.iastore, 1) := by decide +kernel
theorem dX11_divide_66 : decode cX11_divide 66 = .ok (.iload_n 2, 1) := by decide +kernel
theorem dX11_divide_67 : decode cX11_divide 67 = .ok (.iload 4, 2) := by decide +kernel
theorem dX11_divide_69 : decode cX11_divide 69 = .ok (.iadd, 1) := by decide +kernel
theorem dX11_divide_70 : decode cX11_divide 70 = .ok (.istore_n 2, 1) := by decide +kernel
theorem dX11_divide_71 : decode cX11_divide 71 = .ok (.iinc 3 1, 3) := by decide +kernel
theorem dX11_divide_74 : decode cX11_divide 74 = .ok (.goto (-42), 3) := by decide +kernel
theorem dX11_divide_77 : decode cX11_divide 77 = .ok (.aload_n 0, 1) := by decide +kernel
theorem dX11_divide_78 : decode cX11_divide 78 = .ok (.getfield 11, 3) := by decide +kernel
theorem dX11_divide_81 : decode cX11_divide 81 = .ok (.iconst 0, 1) := by decide +kernel
theorem dX11_divide_82 : decode cX11_divide 82 = .ok (.aaload, 1) := by decide +kernel
theorem dX11_divide_83 : decode cX11_divide 83 = .ok (.dup, 1) := by decide +kernel
theorem dX11_divide_84 : decode cX11_divide 84 = .ok (.getfield 125, 3) := by decide +kernel
theorem dX11_divide_87 : decode cX11_divide 87 = .ok (.iload_n 2, 1) := by decide +kernel
theorem dX11_divide_88 : decode cX11_divide 88 = .ok (.isub, 1) := by decide +kernel
theorem dX11_divide_89 : decode cX11_divide 89 = .ok (.putfield 125, 3) := by decide +kernel
theorem dX11_divide_92 : decode cX11_divide 92 = .ok (.aload_n 0, 1) := by decide +kernel
theorem dX11_divide_93 : decode cX11_divide 93 = .ok (.dup, 1) := by decide +kernel
theorem dX11_divide_94 : decode cX11_divide 94 = .ok (.getfield 408, 3) := by decide +kernel
theorem dX11_divide_97 : decode cX11_divide 97 = .ok (.iload_n 2, 1) := by decide +kernel
theorem dX11_divide_98 : decode cX11_divide 98 = .ok (.iadd, 1) := by decide +kernel
theorem dX11_divide_99 : decode cX11_divide 99 = .ok (.putfield 408, 3) := by decide +kernel
theorem dX11_divide_102 : decode cX11_divide 102 = .ok (.iload_n 2, 1) := by decide +kernel
theorem dX11_divide_103 : decode cX11_divide 103 = .ok (.ireturn, 1) := by decide +kernel
theorem dX11_holder_0 : decode cX11_holder 0 = .ok (.iload_n 1, 1) := by decide +kernel
theorem dX11_holder_1 : decode cX11_holder 1 = .ok (.invokestatic 405, 3) := by decide +kernel
theorem dX11_holder_4 : decode cX11_holder 4 = .ok (.ifCond .eq 12, 3) := by decide +kernel
theorem dX11_holder_7 : decode cX11_holder 7 = .ok (.iload_n 2, 1) := by decide +kernel
theorem dX11_holder_8 : decode cX11_holder 8 = .ok (.iconst 0, 1) := by decide +kernel
theorem dX11_holder_9 : decode cX11_holder 9 = .ok (.iconst 1, 1) := by decide +kernel
theorem dX11_holder_10 : decode cX11_holder 10 = .ok (.invokestatic 96, 3) := by decide +kernel
theorem dX11_holder_13 : decode cX11_holder 13 = .ok (.ifCond .ne 5, 3) := by decide +kernel
theorem dX11_holder_16 : decode cX11_holder 16 = .ok (.iconst (-1), 1) := by decide +kernel
theorem dX11_holder_17 : decode cX11_holder 17 = .ok (.ireturn, 1) := by decide +kernel
theorem dX11_holder_18 : decode cX11_holder 18 = .ok (.iload_n 2, 1) := by decide +kernel
theorem dX11_holder_19 : decode cX11_holder 19 = .ok (.ifCond .ne 12, 3) := by decide +kernel
theorem dX11_holder_22 : decode cX11_holder 22 = .ok (.aload_n 0, 1) := by decide +kernel
theorem dX11_holder_23 : decode cX11_holder 23 = .ok (.getfield 58, 3) := by decide +kernel
theorem dX11_holder_26 : decode cX11_holder 26 = .ok (.iload_n 1, 1) := by decide +kernel
theorem dX11_holder_27 : decode cX11_holder 27 = .ok (.iaload, 1) := by decide +kernel
theorem dX11_holder_28 : decode cX11_holder 28 = .ok (.goto 9, 3) := by decide +kernel
theorem dX11_holder_31 : decode cX11_holder 31 = .ok (.aload_n 0, 1) := by decide +kernel
theorem dX11_holder_32 : decode cX11_holder 32 = .ok (.getfield 61, 3) := by decide +kernel
theorem dX11_holder_35 : decode cX11_holder 35 = .ok (.iload_n 1, 1) := by decide +kernel
theorem dX11_holder_36 : decode cX11_holder 36 = .ok (.iaload, 1) := by decide +kernel
theorem dX11_holder_37 : decode cX11_holder 37 = .ok (.ireturn, 1) := by decide +kernel
theorem dX11_heard_0 : decode cX11_heard 0 = .ok (.iload_n 1, 1) := by decide +kernel
theorem dX11_heard_1 : decode cX11_heard 1 = .ok (.invokestatic 92, 3) := by decide +kernel
theorem dX11_heard_4 : decode cX11_heard 4 = .ok (.ifCond .eq 14, 3) := by decide +kernel
theorem dX11_heard_7 : decode cX11_heard 7 = .ok (.iload_n 2, 1) := by decide +kernel
theorem dX11_heard_8 : decode cX11_heard 8 = .ok (.invokestatic 110, 3) := by decide +kernel
theorem dX11_heard_11 : decode cX11_heard 11 = .ok (.ifCond .eq 7, 3) := by decide +kernel
theorem dX11_heard_14 : decode cX11_heard 14 = .ok (.iload_n 3, 1) := by decide +kernel
theorem dX11_heard_15 : decode cX11_heard 15 = .ok (.ifCond .ge 6, 3) := by decide +kernel
theorem dX11_heard_18 : decode cX11_heard 18 = .ok (.bipush (-5), 2) := by decide +kernel
theorem dX11_heard_20 : decode cX11_heard 20 = .ok (.ireturn, 1) := by decide +kernel
theorem dX11_heard_21 : decode cX11_heard 21 = .ok (.aload_n 0, 1) := by decide +kernel
theorem dX11_heard_22 : decode cX11_heard 22 = .ok (.getfield 25, 3) := by decide +kernel
theorem dX11_heard_25 : decode cX11_heard 25 = .ok (.invokevirtual 169, 3) := by decide +kernel
theorem dX11_heard_28 : decode cX11_heard 28 = .ok (.iconst 1, 1) := by decide +kernel
theorem dX11_heard_29 : decode cX11_heard 29 = .ok (.isub, 1) := by decide +kernel
theorem dX11_heard_30 : decode cX11_heard 30 = .ok (.istore 4, 2) := by decide +kernel
theorem dX11_heard_32 : decode cX11_heard 32 = .ok (.iload 4, 2) := by decide +kernel
theorem dX11_heard_34 : decode cX11_heard 34 = .ok (.ifCond .lt 84, 3) := by decide +kernel
theorem dX11_heard_37 : decode cX11_heard 37 = .ok (.aload_n 0, 1) := by decide +kernel
theorem dX11_heard_38 : decode cX11_heard 38 = .ok (.getfield 25, 3) := by decide +kernel
theorem dX11_heard_41 : decode cX11_heard 41 = .ok (.iload 4, 2) := by decide +kernel
theorem dX11_heard_43 : decode cX11_heard 43 = .ok (.invokevirtual 206, 3) := by decide +kernel
theorem dX11_heard_46 : decode cX11_heard 46 = .ok (.checkcast 167, 3) := by decide +kernel
theorem dX11_heard_49 : decode cX11_heard 49 = .ok (.astore 5, 2) := by decide +kernel
theorem dX11_heard_51 : decode cX11_heard 51 = .ok (.aload 5, 2) := by decide +kernel
theorem dX11_heard_53 : decode cX11_heard 53 = .ok (.getfield 225, 3) := by decide +kernel
theorem dX11_heard_56 : decode cX11_heard 56 = .ok (.iconst 1, 1) := by decide +kernel
theorem dX11_heard_57 : decode cX11_heard 57 = .ok (.if_icmp .ne 24, 3) := by decide +kernel
theorem dX11_heard_60 : decode cX11_heard 60 = .ok (.aload 5, 2) := by decide +kernel
theorem dX11_heard_62 : decode cX11_heard 62 = .ok (.getfield 228, 3) := by decide +kernel
theorem dX11_heard_65 : decode cX11_heard 65 = .ok (.iload_n 1, 1) := by decide +kernel
theorem dX11_heard_66 : decode cX11_heard 66 = .ok (.if_icmp .ne 15, 3) := by decide +kernel
theorem dX11_heard_69 : decode cX11_heard 69 = .ok (.aload 5, 2) := by decide +kernel
theorem dX11_heard_71 : decode cX11_heard 71 = .ok (.getfield 234, 3) := by decide +kernel
theorem dX11_heard_74 : decode cX11_heard 74 = .ok (.ifCond .ne 7, 3) := by decide +kernel
theorem dX11_heard_77 : decode cX11_heard 77 = .ok (.iconst 1, 1) := by decide +kernel
theorem dX11_heard_78 : decode cX11_heard 78 = .ok (.goto 4, 3) := by decide +kernel
theorem dX11_heard_81 : decode cX11_heard 81 = .ok (.iconst 0, 1) := by decide +kernel
theorem dX11_heard_82 : decode cX11_heard 82 = .ok (.istore 6, 2) := by decide +kernel
theorem dX11_heard_84 : decode cX11_heard 84 = .ok (.iload 6, 2) := by decide +kernel
theorem dX11_heard_86 : decode cX11_heard 86 = .ok (.ifCond .eq 26, 3) := by decide +kernel
theorem dX11_heard_89 : decode cX11_heard 89 = .ok (.aload 5, 2) := by decide +kernel
theorem dX11_heard_91 : decode cX11_heard 91 = .ok (.getfield 215, 3) := by decide +kernel
theorem dX11_heard_94 : decode cX11_heard 94 = .ok (.iconst 0, 1) := by decide +kernel
theorem dX11_heard_95 : decode cX11_heard 95 = .ok (.iaload, 1) := by decide +kernel
theorem dX11_heard_96 : decode cX11_heard 96 = .ok (.iconst 0, 1) := by decide +kernel
theorem dX11_heard_97 : decode cX11_heard 97 = .ok (.iload_n 3, 1) := by decide +kernel
theorem dX11_heard_98 : decode cX11_heard 98 = .ok (.invokestatic 96, 3) := by decide +kernel
theorem dX11_heard_101 : decode cX11_heard 101 = .ok (.ifCond .eq 11, 3) := by decide +kernel
theorem dX11_heard_104 : decode cX11_heard 104 = .ok (.aload 5, 2) := by decide +kernel
theorem dX11_heard_106 : decode cX11_heard 106 = .ok (.getfield 419, 3) := by decide +kernel
theorem dX11_heard_109 : decode cX11_heard 109 = .ok (.iload_n 2, 1) := by decide +kernel
theorem dX11_heard_110 : decode cX11_heard 110 = .ok (.iaload, 1) := by decide +kernel
theorem dX11_heard_111 : decode cX11_heard 111 = .ok (.ireturn, 1) := by decide +kernel
theorem dX11_heard_112 : decode cX11_heard 112 = .ok (.iinc 4 (-1), 3) := by decide +kernel
theorem dX11_heard_115 : decode cX11_heard 115 = .ok (.goto (-83), 3) := by decide +kernel
theorem dX11_heard_118 : decode cX11_heard 118 = .ok (.iconst (-1), 1) := by decide +kernel
theorem dX11_heard_119 : decode cX11_heard 119 = .ok (.ireturn, 1) := by decide +kernel
theorem dX11_year_0 : decode cX11_year 0 = .ok (.iload_n 1, 1) := by decide +kernel
theorem dX11_year_1 : decode cX11_year 1 = .ok (.iconst 0, 1) := by decide +kernel
theorem dX11_year_2 : decode cX11_year 2 = .ok (.iconst 3, 1) := by decide +kernel
theorem dX11_year_3 : decode cX11_year 3 = .ok (.invokestatic 96, 3) := by decide +kernel
theorem dX11_year_6 : decode cX11_year 6 = .ok (.ifCond .eq 10, 3) := by decide +kernel
theorem dX11_year_9 : decode cX11_year 9 = .ok (.iload_n 2, 1) := by decide +kernel
theorem dX11_year_10 : decode cX11_year 10 = .ok (.invokestatic 110, 3) := by decide +kernel
theorem dX11_year_13 : decode cX11_year 13 = .ok (.ifCond .ne 5, 3) := by decide +kernel
theorem dX11_year_16 : decode cX11_year 16 = .ok (.iconst (-1), 1) := by decide +kernel
theorem dX11_year_17 : decode cX11_year 17 = .ok (.ireturn, 1) := by decide +kernel
theorem dX11_year_18 : decode cX11_year 18 = .ok (.iload_n 3, 1) := by decide +kernel
theorem dX11_year_19 : decode cX11_year 19 = .ok (.iconst 0, 1) := by decide +kernel
theorem dX11_year_20 : decode cX11_year 20 = .ok (.sipush 999, 3) := by decide +kernel
theorem dX11_year_23 : decode cX11_year 23 = .ok (.invokestatic 96, 3) := by decide +kernel
theorem dX11_year_26 : decode cX11_year 26 = .ok (.ifCond .ne 6, 3) := by decide +kernel
theorem dX11_year_29 : decode cX11_year 29 = .ok (.bipush (-2), 2) := by decide +kernel
theorem dX11_year_31 : decode cX11_year 31 = .ok (.ireturn, 1) := by decide +kernel
theorem dX11_year_32 : decode cX11_year 32 = .ok (.aload_n 0, 1) := by decide +kernel
theorem dX11_year_33 : decode cX11_year 33 = .ok (.getfield 66, 3) := by decide +kernel
theorem dX11_year_36 : decode cX11_year 36 = .ok (.iload_n 1, 1) := by decide +kernel
theorem dX11_year_37 : decode cX11_year 37 = .ok (.aaload, 1) := by decide +kernel
theorem dX11_year_38 : decode cX11_year 38 = .ok (.iload_n 2, 1) := by decide +kernel
theorem dX11_year_39 : decode cX11_year 39 = .ok (.iaload, 1) := by decide +kernel
theorem dX11_year_40 : decode cX11_year 40 = .ok (.istore 4, 2) := by decide +kernel
theorem dX11_year_42 : decode cX11_year 42 = .ok (.aload_n 0, 1) := by decide +kernel
theorem dX11_year_43 : decode cX11_year 43 = .ok (.getfield 66, 3) := by decide +kernel
theorem dX11_year_46 : decode cX11_year 46 = .ok (.iload_n 1, 1) := by decide +kernel
theorem dX11_year_47 : decode cX11_year 47 = .ok (.aaload, 1) := by decide +kernel
theorem dX11_year_48 : decode cX11_year 48 = .ok (.iload_n 2, 1) := by decide +kernel
theorem dX11_year_49 : decode cX11_year 49 = .ok (.iload_n 3, 1) := by decide +kernel
theorem dX11_year_50 : decode cX11_year 50 = .ok (.iastore, 1) := by decide +kernel
theorem dX11_year_51 : decode cX11_year 51 = .ok (.iload 4, 2) := by decide +kernel
theorem dX11_year_53 : decode cX11_year 53 = .ok (.ireturn, 1) := by decide +kernel
theorem dX11_plan_0 : decode cX11_plan 0 = .ok (.iload_n 1, 1) := by decide +kernel
theorem dX11_plan_1 : decode cX11_plan 1 = .ok (.invokestatic 92, 3) := by decide +kernel
theorem dX11_plan_4 : decode cX11_plan 4 = .ok (.ifCond .eq 28, 3) := by decide +kernel
theorem dX11_plan_7 : decode cX11_plan 7 = .ok (.iload_n 2, 1) := by decide +kernel
theorem dX11_plan_8 : decode cX11_plan 8 = .ok (.iconst 0, 1) := by decide +kernel
theorem dX11_plan_9 : decode cX11_plan 9 = .ok (.sipush 200, 3) := by decide +kernel
theorem dX11_plan_12 : decode cX11_plan 12 = .ok (.invokestatic 96, 3) := by decide +kernel
theorem dX11_plan_15 : decode cX11_plan 15 = .ok (.ifCond .eq 17, 3) := by decide +kernel
theorem dX11_plan_18 : decode cX11_plan 18 = .ok (.iload_n 3, 1) := by decide +kernel
theorem dX11_plan_19 : decode cX11_plan 19 = .ok (.iconst 0, 1) := by decide +kernel
theorem dX11_plan_20 : decode cX11_plan 20 = .ok (.ldc 124, 2) := by decide +kernel
theorem dX11_plan_22 : decode cX11_plan 22 = .ok (.invokestatic 96, 3) := by decide +kernel
theorem dX11_plan_25 : decode cX11_plan 25 = .ok (.ifCond .eq 7, 3) := by decide +kernel
theorem dX11_plan_28 : decode cX11_plan 28 = .ok (.iconst 1, 1) := by decide +kernel
theorem dX11_plan_29 : decode cX11_plan 29 = .ok (.goto 4, 3) := by decide +kernel
theorem dX11_plan_32 : decode cX11_plan 32 = .ok (.iconst 0, 1) := by decide +kernel
theorem dX11_plan_33 : decode cX11_plan 33 = .ok (.istore 5, 2) := by decide +kernel
theorem dX11_plan_35 : decode cX11_plan 35 = .ok (.iload 5, 2) := by decide +kernel
theorem dX11_plan_37 : decode cX11_plan 37 = .ok (.ifCond .eq 13, 3) := by decide +kernel
theorem dX11_plan_40 : decode cX11_plan 40 = .ok (.iload 4, 2) := by decide +kernel
theorem dX11_plan_42 : decode cX11_plan 42 = .ok (.iconst 0, 1) := by decide +kernel
theorem dX11_plan_43 : decode cX11_plan 43 = .ok (.iconst 4, 1) := by decide +kernel
theorem dX11_plan_44 : decode cX11_plan 44 = .ok (.invokestatic 96, 3) := by decide +kernel
theorem dX11_plan_47 : decode cX11_plan 47 = .ok (.ifCond .ne 7, 3) := by decide +kernel
theorem dX11_plan_50 : decode cX11_plan 50 = .ok (.ldc_w 422, 3) := by decide +kernel
theorem dX11_plan_53 : decode cX11_plan 53 = .ok (.ireturn, 1) := by decide +kernel
theorem dX11_plan_54 : decode cX11_plan 54 = .ok (.aload_n 0, 1) := by decide +kernel
theorem dX11_plan_55 : decode cX11_plan 55 = .ok (.getfield 11, 3) := by decide +kernel
theorem dX11_plan_58 : decode cX11_plan 58 = .ok (.iload_n 1, 1) := by decide +kernel
theorem dX11_plan_59 : decode cX11_plan 59 = .ok (.aaload, 1) := by decide +kernel
theorem dX11_plan_60 : decode cX11_plan 60 = .ok (.getfield 113, 3) := by decide +kernel
theorem dX11_plan_63 : decode cX11_plan 63 = .ok (.astore 6, 2) := by decide +kernel
theorem dX11_plan_65 : decode cX11_plan 65 = .ok (.iload_n 2, 1) := by decide +kernel
theorem dX11_plan_66 : decode cX11_plan 66 = .ok (.bipush 10, 2) := by decide +kernel
theorem dX11_plan_68 : decode cX11_plan 68 = .ok (.idiv, 1) := by decide +kernel
theorem dX11_plan_69 : decode cX11_plan 69 = .ok (.istore 7, 2) := by decide +kernel
theorem dX11_plan_71 : decode cX11_plan 71 = .ok (.iload_n 3, 1) := by decide +kernel
theorem dX11_plan_72 : decode cX11_plan 72 = .ok (.bipush 10, 2) := by decide +kernel
theorem dX11_plan_74 : decode cX11_plan 74 = .ok (.idiv, 1) := by decide +kernel
theorem dX11_plan_75 : decode cX11_plan 75 = .ok (.istore 8, 2) := by decide +kernel
theorem dX11_plan_77 : decode cX11_plan 77 = .ok (.iconst 5, 1) := by decide +kernel
theorem dX11_plan_78 : decode cX11_plan 78 = .ok (.newarray .int, 2) := by decide +kernel
theorem dX11_plan_80 : decode cX11_plan 80 = .ok (.astore 9, 2) := by decide +kernel
theorem dX11_plan_82 : decode cX11_plan 82 = .ok (.aload 9, 2) := by decide +kernel
theorem dX11_plan_84 : decode cX11_plan 84 = .ok (.iconst 0, 1) := by decide +kernel
theorem dX11_plan_85 : decode cX11_plan 85 = .ok (.ldc_w 422, 3) := by decide +kernel
theorem dX11_plan_88 : decode cX11_plan 88 = .ok (.iastore, 1) := by decide +kernel
theorem dX11_plan_89 : decode cX11_plan 89 = .ok (.iconst 0, 1) := by decide +kernel
theorem dX11_plan_90 : decode cX11_plan 90 = .ok (.istore 10, 2) := by decide +kernel
theorem dX11_plan_92 : decode cX11_plan 92 = .ok (.iload 10, 2) := by decide +kernel
theorem dX11_plan_94 : decode cX11_plan 94 = .ok (.iconst 5, 1) := by decide +kernel
theorem dX11_plan_95 : decode cX11_plan 95 = .ok (.if_icmp .gt 144, 3) := by decide +kernel
theorem dX11_plan_98 : decode cX11_plan 98 = .ok (.iconst 0, 1) := by decide +kernel
theorem dX11_plan_99 : decode cX11_plan 99 = .ok (.istore 11, 2) := by decide +kernel
theorem dX11_plan_101 : decode cX11_plan 101 = .ok (.iload 11, 2) := by decide +kernel
theorem dX11_plan_103 : decode cX11_plan 103 = .ok (.iconst 5, 1) := by decide +kernel
theorem dX11_plan_104 : decode cX11_plan 104 = .ok (.if_icmp .gt 129, 3) := by decide +kernel
theorem dX11_plan_107 : decode cX11_plan 107 = .ok (.iconst 0, 1) := by decide +kernel
theorem dX11_plan_108 : decode cX11_plan 108 = .ok (.istore 12, 2) := by decide +kernel
theorem dX11_plan_110 : decode cX11_plan 110 = .ok (.iload 12, 2) := by decide +kernel
theorem dX11_plan_112 : decode cX11_plan 112 = .ok (.iconst 5, 1) := by decide +kernel
theorem dX11_plan_113 : decode cX11_plan 113 = .ok (.if_icmp .gt 114, 3) := by decide +kernel
theorem dX11_plan_116 : decode cX11_plan 116 = .ok (.iconst 0, 1) := by decide +kernel
theorem dX11_plan_117 : decode cX11_plan 117 = .ok (.istore 13, 2) := by decide +kernel
theorem dX11_plan_119 : decode cX11_plan 119 = .ok (.iload 13, 2) := by decide +kernel
theorem dX11_plan_121 : decode cX11_plan 121 = .ok (.iconst 5, 1) := by decide +kernel
theorem dX11_plan_122 : decode cX11_plan 122 = .ok (.if_icmp .gt 99, 3) := by decide +kernel
theorem dX11_plan_125 : decode cX11_plan 125 = .ok (.iload 10, 2) := by decide +kernel
theorem dX11_plan_127 : decode cX11_plan 127 = .ok (.aload 6, 2) := by decide +kernel
theorem dX11_plan_129 : decode cX11_plan 129 = .ok (.iconst 0, 1) := by decide +kernel
theorem dX11_plan_130 : decode cX11_plan 130 = .ok (.iaload, 1) := by decide +kernel
theorem dX11_plan_131 : decode cX11_plan 131 = .ok (.imul, 1) := by decide +kernel
theorem dX11_plan_132 : decode cX11_plan 132 = .ok (.iload 11, 2) := by decide +kernel
theorem dX11_plan_134 : decode cX11_plan 134 = .ok (.aload 6, 2) := by decide +kernel
theorem dX11_plan_136 : decode cX11_plan 136 = .ok (.iconst 1, 1) := by decide +kernel
theorem dX11_plan_137 : decode cX11_plan 137 = .ok (.iaload, 1) := by decide +kernel
theorem dX11_plan_138 : decode cX11_plan 138 = .ok (.imul, 1) := by decide +kernel
theorem dX11_plan_139 : decode cX11_plan 139 = .ok (.iadd, 1) := by decide +kernel
theorem dX11_plan_140 : decode cX11_plan 140 = .ok (.iload 12, 2) := by decide +kernel
theorem dX11_plan_142 : decode cX11_plan 142 = .ok (.aload 6, 2) := by decide +kernel
theorem dX11_plan_144 : decode cX11_plan 144 = .ok (.iconst 2, 1) := by decide +kernel
theorem dX11_plan_145 : decode cX11_plan 145 = .ok (.iaload, 1) := by decide +kernel
theorem dX11_plan_146 : decode cX11_plan 146 = .ok (.imul, 1) := by decide +kernel
theorem dX11_plan_147 : decode cX11_plan 147 = .ok (.iadd, 1) := by decide +kernel
theorem dX11_plan_148 : decode cX11_plan 148 = .ok (.iload 13, 2) := by decide +kernel
theorem dX11_plan_150 : decode cX11_plan 150 = .ok (.aload 6, 2) := by decide +kernel
theorem dX11_plan_152 : decode cX11_plan 152 = .ok (.iconst 3, 1) := by decide +kernel
theorem dX11_plan_153 : decode cX11_plan 153 = .ok (.iaload, 1) := by decide +kernel
theorem dX11_plan_154 : decode cX11_plan 154 = .ok (.imul, 1) := by decide +kernel
theorem dX11_plan_155 : decode cX11_plan 155 = .ok (.iadd, 1) := by decide +kernel
theorem dX11_plan_156 : decode cX11_plan 156 = .ok (.istore 14, 2) := by decide +kernel
theorem dX11_plan_158 : decode cX11_plan 158 = .ok (.iload 10, 2) := by decide +kernel
theorem dX11_plan_160 : decode cX11_plan 160 = .ok (.iload 11, 2) := by decide +kernel
theorem dX11_plan_162 : decode cX11_plan 162 = .ok (.iadd, 1) := by decide +kernel
theorem dX11_plan_163 : decode cX11_plan 163 = .ok (.iload 12, 2) := by decide +kernel
theorem dX11_plan_165 : decode cX11_plan 165 = .ok (.iadd, 1) := by decide +kernel
theorem dX11_plan_166 : decode cX11_plan 166 = .ok (.iload 13, 2) := by decide +kernel
theorem dX11_plan_168 : decode cX11_plan 168 = .ok (.iadd, 1) := by decide +kernel
theorem dX11_plan_169 : decode cX11_plan 169 = .ok (.iload 7, 2) := by decide +kernel
theorem dX11_plan_171 : decode cX11_plan 171 = .ok (.if_icmp .gt 50, 3) := by decide +kernel
theorem dX11_plan_174 : decode cX11_plan 174 = .ok (.iload 14, 2) := by decide +kernel
theorem dX11_plan_176 : decode cX11_plan 176 = .ok (.iload 8, 2) := by decide +kernel
theorem dX11_plan_178 : decode cX11_plan 178 = .ok (.if_icmp .le 6, 3) := by decide +kernel
theorem dX11_plan_181 : decode cX11_plan 181 = .ok (.goto 40, 3) := by decide +kernel
theorem dX11_plan_184 : decode cX11_plan 184 = .ok (.aload 9, 2) := by decide +kernel
theorem dX11_plan_186 : decode cX11_plan 186 = .ok (.bipush 10, 2) := by decide +kernel
theorem dX11_plan_188 : decode cX11_plan 188 = .ok (.aload_n 0, 1) := by decide +kernel
theorem dX11_plan_189 : decode cX11_plan 189 = .ok (.iload 10, 2) := by decide +kernel
theorem dX11_plan_191 : decode cX11_plan 191 = .ok (.iload 11, 2) := by decide +kernel
theorem dX11_plan_193 : decode cX11_plan 193 = .ok (.iload 12, 2) := by decide +kernel
theorem dX11_plan_195 : decode cX11_plan 195 = .ok (.iload 13, 2) := by decide +kernel
theorem dX11_plan_197 : decode cX11_plan 197 = .ok (.invokevirtual 423, 3) := by decide +kernel
theorem dX11_plan_200 : decode cX11_plan 200 = .ok (.iload 14, 2) := by decide +kernel
theorem dX11_plan_202 : decode cX11_plan 202 = .ok (.isub, 1) := by decide +kernel
theorem dX11_plan_203 : decode cX11_plan 203 = .ok (.imul, 1) := by decide +kernel
theorem dX11_plan_204 : decode cX11_plan 204 = .ok (.iload 10, 2) := by decide +kernel
theorem dX11_plan_206 : decode cX11_plan 206 = .ok (.iload 11, 2) := by decide +kernel
theorem dX11_plan_208 : decode cX11_plan 208 = .ok (.iload 12, 2) := by decide +kernel
theorem dX11_plan_210 : decode cX11_plan 210 = .ok (.iload 13, 2) := by decide +kernel
theorem dX11_plan_212 : decode cX11_plan 212 = .ok (.invokestatic 427, 3) := by decide +kernel
theorem dX11_plan_215 : decode cX11_plan 215 = .ok (.iinc 13 1, 3) := by decide +kernel
theorem dX11_plan_218 : decode cX11_plan 218 = .ok (.goto (-99), 3) := by decide +kernel
theorem dX11_plan_221 : decode cX11_plan 221 = .ok (.iinc 12 1, 3) := by decide +kernel
theorem dX11_plan_224 : decode cX11_plan 224 = .ok (.goto (-114), 3) := by decide +kernel
theorem dX11_plan_227 : decode cX11_plan 227 = .ok (.iinc 11 1, 3) := by decide +kernel
theorem dX11_plan_230 : decode cX11_plan 230 = .ok (.goto (-129), 3) := by decide +kernel
theorem dX11_plan_233 : decode cX11_plan 233 = .ok (.iinc 10 1, 3) := by decide +kernel
theorem dX11_plan_236 : decode cX11_plan 236 = .ok (.goto (-144), 3) := by decide +kernel
theorem dX11_plan_239 : decode cX11_plan 239 = .ok (.aload 9, 2) := by decide +kernel
theorem dX11_plan_241 : decode cX11_plan 241 = .ok (.iload 4, 2) := by decide +kernel
theorem dX11_plan_243 : decode cX11_plan 243 = .ok (.iaload, 1) := by decide +kernel
theorem dX11_plan_244 : decode cX11_plan 244 = .ok (.ireturn, 1) := by decide +kernel
theorem dX11_act_0 : decode cX11_act 0 = .ok (.aload_n 0, 1) := by decide +kernel
theorem dX11_act_1 : decode cX11_act 1 = .ok (.getfield 72, 3) := by decide +kernel
theorem dX11_act_4 : decode cX11_act 4 = .ok (.invokevirtual 431, 3) := by decide +kernel
theorem dX11_act_7 : decode cX11_act 7 = .ok (.aload_n 0, 1) := by decide +kernel
theorem dX11_act_8 : decode cX11_act 8 = .ok (.iload_n 1, 1) := by decide +kernel
theorem dX11_act_9 : decode cX11_act 9 = .ok (.invokevirtual 200, 3) := by decide +kernel
theorem dX11_act_12 : decode cX11_act 12 = .ok (.ifCond .eq 12, 3) := by decide +kernel
theorem dX11_act_15 : decode cX11_act 15 = .ok (.iload_n 2, 1) := by decide +kernel
theorem dX11_act_16 : decode cX11_act 16 = .ok (.iconst 0, 1) := by decide +kernel
theorem dX11_act_17 : decode cX11_act 17 = .ok (.iconst 2, 1) := by decide +kernel
theorem dX11_act_18 : decode cX11_act 18 = .ok (.invokestatic 96, 3) := by decide +kernel
theorem dX11_act_21 : decode cX11_act 21 = .ok (.ifCond .ne 5, 3) := by decide +kernel
theorem dX11_act_24 : decode cX11_act 24 = .ok (.iconst 0, 1) := by decide +kernel
theorem dX11_act_25 : decode cX11_act 25 = .ok (.ireturn, 1) := by decide +kernel
theorem dX11_act_26 : decode cX11_act 26 = .ok (.aload_n 0, 1) := by decide +kernel
theorem dX11_act_27 : decode cX11_act 27 = .ok (.getfield 25, 3) := by decide +kernel
theorem dX11_act_30 : decode cX11_act 30 = .ok (.iload_n 1, 1) := by decide +kernel
theorem dX11_act_31 : decode cX11_act 31 = .ok (.invokevirtual 206, 3) := by decide +kernel
theorem dX11_act_34 : decode cX11_act 34 = .ok (.checkcast 167, 3) := by decide +kernel
theorem dX11_act_37 : decode cX11_act 37 = .ok (.astore 4, 2) := by decide +kernel
theorem dX11_act_39 : decode cX11_act 39 = .ok (.aload_n 0, 1) := by decide +kernel
theorem dX11_act_40 : decode cX11_act 40 = .ok (.getfield 72, 3) := by decide +kernel
theorem dX11_act_43 : decode cX11_act 43 = .ok (.aload 4, 2) := by decide +kernel
theorem dX11_act_45 : decode cX11_act 45 = .ok (.aload 4, 2) := by decide +kernel
theorem dX11_act_47 : decode cX11_act 47 = .ok (.getfield 225, 3) := by decide +kernel
theorem dX11_act_50 : decode cX11_act 50 = .ok (.iload_n 2, 1) := by decide +kernel
theorem dX11_act_51 : decode cX11_act 51 = .ok (.iload_n 3, 1) := by decide +kernel
theorem dX11_act_52 : decode cX11_act 52 = .ok (.iconst 0, 1) := by decide +kernel
theorem dX11_act_53 : decode cX11_act 53 = .ok (.invokevirtual 434, 3) := by decide +kernel
theorem dX11_act_56 : decode cX11_act 56 = .ok (.ireturn, 1) := by decide +kernel
theorem dX11_trace_0 : decode cX11_trace 0 = .ok (.iload_n 1, 1) := by decide +kernel
theorem dX11_trace_1 : decode cX11_trace 1 = .ok (.ifCond .lt 31, 3) := by decide +kernel
theorem dX11_trace_4 : decode cX11_trace 4 = .ok (.iload_n 1, 1) := by decide +kernel
theorem dX11_trace_5 : decode cX11_trace 5 = .ok (.aload_n 0, 1) := by decide +kernel
theorem dX11_trace_6 : decode cX11_trace 6 = .ok (.getfield 72, 3) := by decide +kernel
theorem dX11_trace_9 : decode cX11_trace 9 = .ok (.getfield 438, 3) := by decide +kernel
theorem dX11_trace_12 : decode cX11_trace 12 = .ok (.bipush 20, 2) := by decide +kernel
theorem dX11_trace_14 : decode cX11_trace 14 = .ok (.invokestatic 441, 3) := by decide +kernel
theorem dX11_trace_17 : decode cX11_trace 17 = .ok (.if_icmp .ge 15, 3) := by decide +kernel
theorem dX11_trace_20 : decode cX11_trace 20 = .ok (.aload_n 0, 1) := by decide +kernel
theorem dX11_trace_21 : decode cX11_trace 21 = .ok (.getfield 72, 3) := by decide +kernel
theorem dX11_trace_24 : decode cX11_trace 24 = .ok (.getfield 446, 3) := by decide +kernel
theorem dX11_trace_27 : decode cX11_trace 27 = .ok (.iload_n 1, 1) := by decide +kernel
theorem dX11_trace_28 : decode cX11_trace 28 = .ok (.iaload, 1) := by decide +kernel
theorem dX11_trace_29 : decode cX11_trace 29 = .ok (.goto 4, 3) := by decide +kernel
theorem dX11_trace_32 : decode cX11_trace 32 = .ok (.iconst (-1), 1) := by decide +kernel
theorem dX11_trace_33 : decode cX11_trace 33 = .ok (.ireturn, 1) := by decide +kernel
theorem dX11_taken_0 : decode cX11_taken 0 = .ok (.iload_n 2, 1) := by decide +kernel
theorem dX11_taken_1 : decode cX11_taken 1 = .ok (.iconst 0, 1) := by decide +kernel
theorem dX11_taken_2 : decode cX11_taken 2 = .ok (.bipush 6, 2) := by decide +kernel
theorem dX11_taken_4 : decode cX11_taken 4 = .ok (.invokestatic 96, 3) := by decide +kernel
theorem dX11_taken_7 : decode cX11_taken 7 = .ok (.ifCond .ne 6, 3) := by decide +kernel
theorem dX11_taken_10 : decode cX11_taken 10 = .ok (.bipush (-2), 2) := by decide +kernel
theorem dX11_taken_12 : decode cX11_taken 12 = .ok (.ireturn, 1) := by decide +kernel
theorem dX11_taken_13 : decode cX11_taken 13 = .ok (.aload_n 0, 1) := by decide +kernel
theorem dX11_taken_14 : decode cX11_taken 14 = .ok (.iload_n 1, 1) := by decide +kernel
theorem dX11_taken_15 : decode cX11_taken 15 = .ok (.invokevirtual 200, 3) := by decide +kernel
theorem dX11_taken_18 : decode cX11_taken 18 = .ok (.ifCond .ne 6, 3) := by decide +kernel
theorem dX11_taken_21 : decode cX11_taken 21 = .ok (.bipush (-11), 2) := by decide +kernel
theorem dX11_taken_23 : decode cX11_taken 23 = .ok (.ireturn, 1) := by decide +kernel
theorem dX11_taken_24 : decode cX11_taken 24 = .ok (.aload_n 0, 1) := by decide +kernel
theorem dX11_taken_25 : decode cX11_taken 25 = .ok (.getfield 25, 3) := by decide +kernel
theorem dX11_taken_28 : decode cX11_taken 28 = .ok (.iload_n 1, 1) := by decide +kernel
theorem dX11_taken_29 : decode cX11_taken 29 = .ok (.invokevirtual 206, 3) := by decide +kernel
theorem dX11_taken_32 : decode cX11_taken 32 = .ok (.checkcast 167, 3) := by decide +kernel
theorem dX11_taken_35 : decode cX11_taken 35 = .ok (.getfield 225, 3) := by decide +kernel
theorem dX11_taken_38 : decode cX11_taken 38 = .ok (.istore_n 3, 1) := by decide +kernel
theorem dX11_taken_39 : decode cX11_taken 39 = .ok (.iload_n 3, 1) := by decide +kernel
theorem dX11_taken_40 : decode cX11_taken 40 = .ok (.iload_n 2, 1) := by decide +kernel
theorem dX11_taken_41 : decode cX11_taken 41 = .ok (.invokestatic 449, 3) := by decide +kernel
theorem dX11_taken_44 : decode cX11_taken 44 = .ok (.ifCond .eq 7, 3) := by decide +kernel
theorem dX11_taken_47 : decode cX11_taken 47 = .ok (.iload_n 3, 1) := by decide +kernel
theorem dX11_taken_48 : decode cX11_taken 48 = .ok (.goto 5, 3) := by decide +kernel
theorem dX11_taken_51 : decode cX11_taken 51 = .ok (.bipush (-13), 2) := by decide +kernel
theorem dX11_taken_53 : decode cX11_taken 53 = .ok (.ireturn, 1) := by decide +kernel
theorem dX11_count_0 : decode cX11_count 0 = .ok (.iload_n 1, 1) := by decide +kernel
theorem dX11_count_1 : decode cX11_count 1 = .ok (.tableswitch 133 0 10 #[59, 64, 72, 80, 88, 93, 98, 106, 112, 120, 125], 59) := by decide +kernel
theorem dX11_count_60 : decode cX11_count 60 = .ok (.aload_n 0, 1) := by decide +kernel
theorem dX11_count_61 : decode cX11_count 61 = .ok (.getfield 132, 3) := by decide +kernel
theorem dX11_count_64 : decode cX11_count 64 = .ok (.ireturn, 1) := by decide +kernel
theorem dX11_count_65 : decode cX11_count 65 = .ok (.aload_n 0, 1) := by decide +kernel
theorem dX11_count_66 : decode cX11_count 66 = .ok (.getfield 25, 3) := by decide +kernel
theorem dX11_count_69 : decode cX11_count 69 = .ok (.invokevirtual 169, 3) := by decide +kernel
theorem dX11_count_72 : decode cX11_count 72 = .ok (.ireturn, 1) := by decide +kernel
theorem dX11_count_73 : decode cX11_count 73 = .ok (.aload_n 0, 1) := by decide +kernel
theorem dX11_count_74 : decode cX11_count 74 = .ok (.getfield 32, 3) := by decide +kernel
theorem dX11_count_77 : decode cX11_count 77 = .ok (.invokevirtual 169, 3) := by decide +kernel
theorem dX11_count_80 : decode cX11_count 80 = .ok (.ireturn, 1) := by decide +kernel
theorem dX11_count_81 : decode cX11_count 81 = .ok (.aload_n 0, 1) := by decide +kernel
theorem dX11_count_82 : decode cX11_count 82 = .ok (.getfield 38, 3) := by decide +kernel
theorem dX11_count_85 : decode cX11_count 85 = .ok (.invokevirtual 169, 3) := by decide +kernel
theorem dX11_count_88 : decode cX11_count 88 = .ok (.ireturn, 1) := by decide +kernel
theorem dX11_count_89 : decode cX11_count 89 = .ok (.aload_n 0, 1) := by decide +kernel
theorem dX11_count_90 : decode cX11_count 90 = .ok (.getfield 173, 3) := by decide +kernel
theorem dX11_count_93 : decode cX11_count 93 = .ok (.ireturn, 1) := by decide +kernel
theorem dX11_count_94 : decode cX11_count 94 = .ok (.aload_n 0, 1) := by decide +kernel
theorem dX11_count_95 : decode cX11_count 95 = .ok (.getfield 452, 3) := by decide +kernel
theorem dX11_count_98 : decode cX11_count 98 = .ok (.ireturn, 1) := by decide +kernel
theorem dX11_count_99 : decode cX11_count 99 = .ok (.aload_n 0, 1) := by decide +kernel
theorem dX11_count_100 : decode cX11_count 100 = .ok (.getfield 47, 3) := by decide +kernel
theorem dX11_count_103 : decode cX11_count 103 = .ok (.getfield 144, 3) := by decide +kernel
theorem dX11_count_106 : decode cX11_count 106 = .ok (.ireturn, 1) := by decide +kernel
theorem dX11_count_107 : decode cX11_count 107 = .ok (.aload_n 0, 1) := by decide +kernel
theorem dX11_count_108 : decode cX11_count 108 = .ok (.iconst (-1), 1) := by decide +kernel
theorem dX11_count_109 : decode cX11_count 109 = .ok (.invokevirtual 455, 3) := by decide +kernel
theorem dX11_count_112 : decode cX11_count 112 = .ok (.ireturn, 1) := by decide +kernel
theorem dX11_count_113 : decode cX11_count 113 = .ok (.aload_n 0, 1) := by decide +kernel
theorem dX11_count_114 : decode cX11_count 114 = .ok (.getfield 54, 3) := by decide +kernel
theorem dX11_count_117 : decode cX11_count 117 = .ok (.getfield 396, 3) := by decide +kernel
theorem dX11_count_120 : decode cX11_count 120 = .ok (.ireturn, 1) := by decide +kernel
theorem dX11_count_121 : decode cX11_count 121 = .ok (.aload_n 0, 1) := by decide +kernel
theorem dX11_count_122 : decode cX11_count 122 = .ok (.getfield 408, 3) := by decide +kernel
theorem dX11_count_125 : decode cX11_count 125 = .ok (.ireturn, 1) := by decide +kernel
theorem dX11_count_126 : decode cX11_count 126 = .ok (.aload_n 0, 1) := by decide +kernel
theorem dX11_count_127 : decode cX11_count 127 = .ok (.getfield 72, 3) := by decide +kernel
theorem dX11_count_130 : decode cX11_count 130 = .ok (.getfield 438, 3) := by decide +kernel
theorem dX11_count_133 : decode cX11_count 133 = .ok (.ireturn, 1) := by decide +kernel
theorem dX11_count_134 : decode cX11_count 134 = .ok (.bipush (-2), 2) := by decide +kernel
theorem dX11_count_136 : decode cX11_count 136 = .ok (.ireturn, 1) := by decide +kernel
theorem dX11_sheet_0 : decode cX11_sheet 0 = .ok (.iload_n 1, 1) := by decide +kernel
theorem dX11_sheet_1 : decode cX11_sheet 1 = .ok (.invokestatic 147, 3) := by decide +kernel
theorem dX11_sheet_4 : decode cX11_sheet 4 = .ok (.ifCond .eq 12, 3) := by decide +kernel
theorem dX11_sheet_7 : decode cX11_sheet 7 = .ok (.iload_n 2, 1) := by decide +kernel
theorem dX11_sheet_8 : decode cX11_sheet 8 = .ok (.iconst (-1), 1) := by decide +kernel
theorem dX11_sheet_9 : decode cX11_sheet 9 = .ok (.iconst 2, 1) := by decide +kernel
theorem dX11_sheet_10 : decode cX11_sheet 10 = .ok (.invokestatic 96, 3) := by decide +kernel
theorem dX11_sheet_13 : decode cX11_sheet 13 = .ok (.ifCond .ne 6, 3) := by decide +kernel
theorem dX11_sheet_16 : decode cX11_sheet 16 = .ok (.bipush (-2), 2) := by decide +kernel
theorem dX11_sheet_18 : decode cX11_sheet 18 = .ok (.ireturn, 1) := by decide +kernel
theorem dX11_sheet_19 : decode cX11_sheet 19 = .ok (.iload_n 2, 1) := by decide +kernel
theorem dX11_sheet_20 : decode cX11_sheet 20 = .ok (.ifCond .ge 16, 3) := by decide +kernel
theorem dX11_sheet_23 : decode cX11_sheet 23 = .ok (.aload_n 0, 1) := by decide +kernel
theorem dX11_sheet_24 : decode cX11_sheet 24 = .ok (.getfield 78, 3) := by decide +kernel
theorem dX11_sheet_27 : decode cX11_sheet 27 = .ok (.iload_n 1, 1) := by decide +kernel
theorem dX11_sheet_28 : decode cX11_sheet 28 = .ok (.aaload, 1) := by decide +kernel
theorem dX11_sheet_29 : decode cX11_sheet 29 = .ok (.iconst (-1), 1) := by decide +kernel
theorem dX11_sheet_30 : decode cX11_sheet 30 = .ok (.iconst 0, 1) := by decide +kernel
theorem dX11_sheet_31 : decode cX11_sheet 31 = .ok (.invokevirtual 458, 3) := by decide +kernel
theorem dX11_sheet_34 : decode cX11_sheet 34 = .ok (.iconst 1, 1) := by decide +kernel
theorem dX11_sheet_35 : decode cX11_sheet 35 = .ok (.ireturn, 1) := by decide +kernel
theorem dX11_sheet_36 : decode cX11_sheet 36 = .ok (.iload_n 3, 1) := by decide +kernel
theorem dX11_sheet_37 : decode cX11_sheet 37 = .ok (.bipush 64, 2) := by decide +kernel
theorem dX11_sheet_39 : decode cX11_sheet 39 = .ok (.if_icmp .le 6, 3) := by decide +kernel
theorem dX11_sheet_42 : decode cX11_sheet 42 = .ok (.bipush (-2), 2) := by decide +kernel
theorem dX11_sheet_44 : decode cX11_sheet 44 = .ok (.ireturn, 1) := by decide +kernel
theorem dX11_sheet_45 : decode cX11_sheet 45 = .ok (.iload_n 3, 1) := by decide +kernel
theorem dX11_sheet_46 : decode cX11_sheet 46 = .ok (.ifCond .ge 6, 3) := by decide +kernel
theorem dX11_sheet_49 : decode cX11_sheet 49 = .ok (.bipush (-14), 2) := by decide +kernel
theorem dX11_sheet_51 : decode cX11_sheet 51 = .ok (.ireturn, 1) := by decide +kernel
theorem dX11_sheet_52 : decode cX11_sheet 52 = .ok (.aload_n 0, 1) := by decide +kernel
theorem dX11_sheet_53 : decode cX11_sheet 53 = .ok (.getfield 78, 3) := by decide +kernel
theorem dX11_sheet_56 : decode cX11_sheet 56 = .ok (.iload_n 1, 1) := by decide +kernel
theorem dX11_sheet_57 : decode cX11_sheet 57 = .ok (.aaload, 1) := by decide +kernel
theorem dX11_sheet_58 : decode cX11_sheet 58 = .ok (.iload_n 2, 1) := by decide +kernel
theorem dX11_sheet_59 : decode cX11_sheet 59 = .ok (.iload_n 3, 1) := by decide +kernel
theorem dX11_sheet_60 : decode cX11_sheet 60 = .ok (.invokevirtual 458, 3) := by decide +kernel
theorem dX11_sheet_63 : decode cX11_sheet 63 = .ok (.iconst 1, 1) := by decide +kernel
theorem dX11_sheet_64 : decode cX11_sheet 64 = .ok (.ireturn, 1) := by decide +kernel
theorem dX11_cell_0 : decode cX11_cell 0 = .ok (.iload_n 1, 1) := by decide +kernel
theorem dX11_cell_1 : decode cX11_cell 1 = .ok (.invokestatic 147, 3) := by decide +kernel
theorem dX11_cell_4 : decode cX11_cell 4 = .ok (.ifCond .ne 6, 3) := by decide +kernel
theorem dX11_cell_7 : decode cX11_cell 7 = .ok (.bipush (-2), 2) := by decide +kernel
theorem dX11_cell_9 : decode cX11_cell 9 = .ok (.ireturn, 1) := by decide +kernel
theorem dX11_cell_10 : decode cX11_cell 10 = .ok (.aload_n 0, 1) := by decide +kernel
theorem dX11_cell_11 : decode cX11_cell 11 = .ok (.getfield 78, 3) := by decide +kernel
theorem dX11_cell_14 : decode cX11_cell 14 = .ok (.iload_n 1, 1) := by decide +kernel
theorem dX11_cell_15 : decode cX11_cell 15 = .ok (.aaload, 1) := by decide +kernel
theorem dX11_cell_16 : decode cX11_cell 16 = .ok (.astore 4, 2) := by decide +kernel
theorem dX11_cell_18 : decode cX11_cell 18 = .ok (.aload 4, 2) := by decide +kernel
theorem dX11_cell_20 : decode cX11_cell 20 = .ok (.invokevirtual 150, 3) := by decide +kernel
theorem dX11_cell_23 : decode cX11_cell 23 = .ok (.ifCond .eq 6, 3) := by decide +kernel
theorem dX11_cell_26 : decode cX11_cell 26 = .ok (.bipush (-11), 2) := by decide +kernel
theorem dX11_cell_28 : decode cX11_cell 28 = .ok (.ireturn, 1) := by decide +kernel
theorem dX11_cell_29 : decode cX11_cell 29 = .ok (.aload 4, 2) := by decide +kernel
theorem dX11_cell_31 : decode cX11_cell 31 = .ok (.iload_n 2, 1) := by decide +kernel
theorem dX11_cell_32 : decode cX11_cell 32 = .ok (.iconst 1, 1) := by decide +kernel
theorem dX11_cell_33 : decode cX11_cell 33 = .ok (.invokevirtual 157, 3) := by decide +kernel
theorem dX11_cell_36 : decode cX11_cell 36 = .ok (.ifCond .ne 6, 3) := by decide +kernel
theorem dX11_cell_39 : decode cX11_cell 39 = .ok (.bipush (-12), 2) := by decide +kernel
theorem dX11_cell_41 : decode cX11_cell 41 = .ok (.ireturn, 1) := by decide +kernel
theorem dX11_cell_42 : decode cX11_cell 42 = .ok (.aload 4, 2) := by decide +kernel
theorem dX11_cell_44 : decode cX11_cell 44 = .ok (.iload_n 2, 1) := by decide +kernel
theorem dX11_cell_45 : decode cX11_cell 45 = .ok (.iload_n 3, 1) := by decide +kernel
theorem dX11_cell_46 : decode cX11_cell 46 = .ok (.invokevirtual 461, 3) := by decide +kernel
theorem dX11_cell_49 : decode cX11_cell 49 = .ok (.iconst 1, 1) := by decide +kernel
theorem dX11_cell_50 : decode cX11_cell 50 = .ok (.ireturn, 1) := by decide +kernel
theorem dX11_carry_0 : decode cX11_carry 0 = .ok (.iload_n 1, 1) := by decide +kernel
theorem dX11_carry_1 : decode cX11_carry 1 = .ok (.invokestatic 147, 3) := by decide +kernel
theorem dX11_carry_4 : decode cX11_carry 4 = .ok (.ifCond .eq 10, 3) := by decide +kernel
theorem dX11_carry_7 : decode cX11_carry 7 = .ok (.iload_n 3, 1) := by decide +kernel
theorem dX11_carry_8 : decode cX11_carry 8 = .ok (.invokestatic 147, 3) := by decide +kernel
theorem dX11_carry_11 : decode cX11_carry 11 = .ok (.ifCond .ne 6, 3) := by decide +kernel
theorem dX11_carry_14 : decode cX11_carry 14 = .ok (.bipush (-2), 2) := by decide +kernel
theorem dX11_carry_16 : decode cX11_carry 16 = .ok (.ireturn, 1) := by decide +kernel
theorem dX11_carry_17 : decode cX11_carry 17 = .ok (.aload_n 0, 1) := by decide +kernel
theorem dX11_carry_18 : decode cX11_carry 18 = .ok (.getfield 78, 3) := by decide +kernel
theorem dX11_carry_21 : decode cX11_carry 21 = .ok (.iload_n 1, 1) := by decide +kernel
theorem dX11_carry_22 : decode cX11_carry 22 = .ok (.aaload, 1) := by decide +kernel
theorem dX11_carry_23 : decode cX11_carry 23 = .ok (.astore 6, 2) := by decide +kernel
theorem dX11_carry_25 : decode cX11_carry 25 = .ok (.aload_n 0, 1) := by decide +kernel
theorem dX11_carry_26 : decode cX11_carry 26 = .ok (.getfield 78, 3) := by decide +kernel
theorem dX11_carry_29 : decode cX11_carry 29 = .ok (.iload_n 3, 1) := by decide +kernel
theorem dX11_carry_30 : decode cX11_carry 30 = .ok (.aaload, 1) := by decide +kernel
theorem dX11_carry_31 : decode cX11_carry 31 = .ok (.astore 7, 2) := by decide +kernel
theorem dX11_carry_33 : decode cX11_carry 33 = .ok (.aload 6, 2) := by decide +kernel
theorem dX11_carry_35 : decode cX11_carry 35 = .ok (.invokevirtual 150, 3) := by decide +kernel
theorem dX11_carry_38 : decode cX11_carry 38 = .ok (.ifCond .ne 11, 3) := by decide +kernel
theorem dX11_carry_41 : decode cX11_carry 41 = .ok (.aload 7, 2) := by decide +kernel
theorem dX11_carry_43 : decode cX11_carry 43 = .ok (.invokevirtual 150, 3) := by decide +kernel
theorem dX11_carry_46 : decode cX11_carry 46 = .ok (.ifCond .eq 6, 3) := by decide +kernel
theorem dX11_carry_49 : decode cX11_carry 49 = .ok (.bipush (-11), 2) := by decide +kernel
theorem dX11_carry_51 : decode cX11_carry 51 = .ok (.ireturn, 1) := by decide +kernel
theorem dX11_carry_52 : decode cX11_carry 52 = .ok (.aload 6, 2) := by decide +kernel
theorem dX11_carry_54 : decode cX11_carry 54 = .ok (.getfield 154, 3) := by decide +kernel
theorem dX11_carry_57 : decode cX11_carry 57 = .ok (.aload 7, 2) := by decide +kernel
theorem dX11_carry_59 : decode cX11_carry 59 = .ok (.getfield 154, 3) := by decide +kernel
theorem dX11_carry_62 : decode cX11_carry 62 = .ok (.if_icmp .eq 6, 3) := by decide +kernel
theorem dX11_carry_65 : decode cX11_carry 65 = .ok (.bipush (-13), 2) := by decide +kernel
theorem dX11_carry_67 : decode cX11_carry 67 = .ok (.ireturn, 1) := by decide +kernel
theorem dX11_carry_68 : decode cX11_carry 68 = .ok (.iload 5, 2) := by decide +kernel
theorem dX11_carry_70 : decode cX11_carry 70 = .ok (.ifCond .lt 26, 3) := by decide +kernel
theorem dX11_carry_73 : decode cX11_carry 73 = .ok (.aload 6, 2) := by decide +kernel
theorem dX11_carry_75 : decode cX11_carry 75 = .ok (.iload_n 2, 1) := by decide +kernel
theorem dX11_carry_76 : decode cX11_carry 76 = .ok (.iload 5, 2) := by decide +kernel
theorem dX11_carry_78 : decode cX11_carry 78 = .ok (.invokevirtual 157, 3) := by decide +kernel
theorem dX11_carry_81 : decode cX11_carry 81 = .ok (.ifCond .eq 15, 3) := by decide +kernel
theorem dX11_carry_84 : decode cX11_carry 84 = .ok (.aload 7, 2) := by decide +kernel
theorem dX11_carry_86 : decode cX11_carry 86 = .ok (.iload 4, 2) := by decide +kernel
theorem dX11_carry_88 : decode cX11_carry 88 = .ok (.iload 5, 2) := by decide +kernel
theorem dX11_carry_90 : decode cX11_carry 90 = .ok (.invokevirtual 157, 3) := by decide +kernel
theorem dX11_carry_93 : decode cX11_carry 93 = .ok (.ifCond .ne 6, 3) := by decide +kernel
theorem dX11_carry_96 : decode cX11_carry 96 = .ok (.bipush (-12), 2) := by decide +kernel
theorem dX11_carry_98 : decode cX11_carry 98 = .ok (.ireturn, 1) := by decide +kernel
theorem dX11_carry_99 : decode cX11_carry 99 = .ok (.aload 6, 2) := by decide +kernel
theorem dX11_carry_101 : decode cX11_carry 101 = .ok (.getfield 161, 3) := by decide +kernel
theorem dX11_carry_104 : decode cX11_carry 104 = .ok (.iload_n 2, 1) := by decide +kernel
theorem dX11_carry_105 : decode cX11_carry 105 = .ok (.aload 7, 2) := by decide +kernel
theorem dX11_carry_107 : decode cX11_carry 107 = .ok (.getfield 161, 3) := by decide +kernel
theorem dX11_carry_110 : decode cX11_carry 110 = .ok (.iload 4, 2) := by decide +kernel
theorem dX11_carry_112 : decode cX11_carry 112 = .ok (.iload 5, 2) := by decide +kernel
theorem dX11_carry_114 : decode cX11_carry 114 = .ok (.invokestatic 464, 3) := by decide +kernel
theorem dX11_carry_117 : decode cX11_carry 117 = .ok (.iload 5, 2) := by decide +kernel
theorem dX11_carry_119 : decode cX11_carry 119 = .ok (.ireturn, 1) := by decide +kernel
theorem dX11_within_0 : decode cX11_within 0 = .ok (.iload_n 0, 1) := by decide +kernel
theorem dX11_within_1 : decode cX11_within 1 = .ok (.iload_n 1, 1) := by decide +kernel
theorem dX11_within_2 : decode cX11_within 2 = .ok (.if_icmp .lt 12, 3) := by decide +kernel
theorem dX11_within_5 : decode cX11_within 5 = .ok (.iload_n 0, 1) := by decide +kernel
theorem dX11_within_6 : decode cX11_within 6 = .ok (.iload_n 2, 1) := by decide +kernel
theorem dX11_within_7 : decode cX11_within 7 = .ok (.if_icmp .gt 7, 3) := by decide +kernel
theorem dX11_within_10 : decode cX11_within 10 = .ok (.iconst 1, 1) := by decide +kernel
theorem dX11_within_11 : decode cX11_within 11 = .ok (.goto 4, 3) := by decide +kernel
theorem dX11_within_14 : decode cX11_within 14 = .ok (.iconst 0, 1) := by decide +kernel
theorem dX11_within_15 : decode cX11_within 15 = .ok (.ireturn, 1) := by decide +kernel
theorem dX11_isPlace_0 : decode cX11_isPlace 0 = .ok (.iload_n 0, 1) := by decide +kernel
theorem dX11_isPlace_1 : decode cX11_isPlace 1 = .ok (.ifCond .lt 12, 3) := by decide +kernel
theorem dX11_isPlace_4 : decode cX11_isPlace 4 = .ok (.iload_n 0, 1) := by decide +kernel
theorem dX11_isPlace_5 : decode cX11_isPlace 5 = .ok (.iconst 5, 1) := by decide +kernel
theorem dX11_isPlace_6 : decode cX11_isPlace 6 = .ok (.if_icmp .ge 7, 3) := by decide +kernel
theorem dX11_isPlace_9 : decode cX11_isPlace 9 = .ok (.iconst 1, 1) := by decide +kernel
theorem dX11_isPlace_10 : decode cX11_isPlace 10 = .ok (.goto 4, 3) := by decide +kernel
theorem dX11_isPlace_13 : decode cX11_isPlace 13 = .ok (.iconst 0, 1) := by decide +kernel
theorem dX11_isPlace_14 : decode cX11_isPlace 14 = .ok (.ireturn, 1) := by decide +kernel
theorem dX11_isFactory_0 : decode cX11_isFactory 0 = .ok (.iload_n 0, 1) := by decide +kernel
theorem dX11_isFactory_1 : decode cX11_isFactory 1 = .ok (.ifCond .le 12, 3) := by decide +kernel
theorem dX11_isFactory_4 : decode cX11_isFactory 4 = .ok (.iload_n 0, 1) := by decide +kernel
theorem dX11_isFactory_5 : decode cX11_isFactory 5 = .ok (.iconst 5, 1) := by decide +kernel
theorem dX11_isFactory_6 : decode cX11_isFactory 6 = .ok (.if_icmp .ge 7, 3) := by decide +kernel
theorem dX11_isFactory_9 : decode cX11_isFactory 9 = .ok (.iconst 1, 1) := by decide +kernel
theorem dX11_isFactory_10 : decode cX11_isFactory 10 = .ok (.goto 4, 3) := by decide +kernel
theorem dX11_isFactory_13 : decode cX11_isFactory 13 = .ok (.iconst 0, 1) := by decide +kernel
theorem dX11_isFactory_14 : decode cX11_isFactory 14 = .ok (.ireturn, 1) := by decide +kernel
theorem dX11_isSort_0 : decode cX11_isSort 0 = .ok (.iload_n 0, 1) := by decide +kernel
theorem dX11_isSort_1 : decode cX11_isSort 1 = .ok (.ifCond .lt 12, 3) := by decide +kernel
theorem dX11_isSort_4 : decode cX11_isSort 4 = .ok (.iload_n 0, 1) := by decide +kernel
theorem dX11_isSort_5 : decode cX11_isSort 5 = .ok (.iconst 4, 1) := by decide +kernel
theorem dX11_isSort_6 : decode cX11_isSort 6 = .ok (.if_icmp .ge 7, 3) := by decide +kernel
theorem dX11_isSort_9 : decode cX11_isSort 9 = .ok (.iconst 1, 1) := by decide +kernel
theorem dX11_isSort_10 : decode cX11_isSort 10 = .ok (.goto 4, 3) := by decide +kernel
theorem dX11_isSort_13 : decode cX11_isSort 13 = .ok (.iconst 0, 1) := by decide +kernel
theorem dX11_isSort_14 : decode cX11_isSort 14 = .ok (.ireturn, 1) := by decide +kernel
theorem dX11_isSheet_0 : decode cX11_isSheet 0 = .ok (.iload_n 0, 1) := by decide +kernel
