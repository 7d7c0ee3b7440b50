theorem dX10_init_0 : decode cX10_init 0 = .ok (.aload_n 0, 1) := by decide +kernel
theorem dX10_init_1 : decode cX10_init 1 = .ok (.invokespecial 3, 3) := by decide +kernel
theorem dX10_init_4 : decode cX10_init 4 = .ok (.aload_n 0, 1) := by decide +kernel
theorem dX10_init_5 : decode cX10_init 5 = .ok (.sipush 1600, 3) := by decide +kernel
theorem dX10_init_8 : decode cX10_init 8 = .ok (.newarray .byte, 2) := by decide +kernel
theorem dX10_init_10 : decode cX10_init 10 = .ok (.putfield 9, 3) := by decide +kernel
theorem dX10_init_13 : decode cX10_init 13 = .ok (.aload_n 0, 1) := by decide +kernel
theorem dX10_init_14 : decode cX10_init 14 = .ok (.new 13, 3) := by decide +kernel
theorem dX10_init_17 : decode cX10_init 17 = .ok (.dup, 1) := by decide +kernel
theorem dX10_init_18 : decode cX10_init 18 = .ok (.invokespecial 15, 3) := by decide +kernel
theorem dX10_init_21 : decode cX10_init 21 = .ok (.putfield 16, 3) := by decide +kernel
theorem dX10_init_24 : decode cX10_init 24 = .ok (.aload_n 0, 1) := by decide +kernel
theorem dX10_init_25 : decode cX10_init 25 = .ok (.new 20, 3) := by decide +kernel
theorem dX10_init_28 : decode cX10_init 28 = .ok (.dup, 1) := by decide +kernel
theorem dX10_init_29 : decode cX10_init 29 = .ok (.invokespecial 22, 3) := by decide +kernel
theorem dX10_init_32 : decode cX10_init 32 = .ok (.putfield 23, 3) := by decide +kernel
theorem dX10_init_35 : decode cX10_init 35 = .ok (.aload_n 0, 1) := by decide +kernel
theorem dX10_init_36 : decode cX10_init 36 = .ok (.new 20, 3) := by decide +kernel
theorem dX10_init_39 : decode cX10_init 39 = .ok (.dup, 1) := by decide +kernel
theorem dX10_init_40 : decode cX10_init 40 = .ok (.invokespecial 22, 3) := by decide +kernel
theorem dX10_init_43 : decode cX10_init 43 = .ok (.putfield 27, 3) := by decide +kernel
theorem dX10_init_46 : decode cX10_init 46 = .ok (.aload_n 0, 1) := by decide +kernel
theorem dX10_init_47 : decode cX10_init 47 = .ok (.new 30, 3) := by decide +kernel
theorem dX10_init_50 : decode cX10_init 50 = .ok (.dup, 1) := by decide +kernel
theorem dX10_init_51 : decode cX10_init 51 = .ok (.aload_n 0, 1) := by decide +kernel
theorem dX10_init_52 : decode cX10_init 52 = .ok (.getfield 16, 3) := by decide +kernel
theorem dX10_init_55 : decode cX10_init 55 = .ok (.aload_n 0, 1) := by decide +kernel
theorem dX10_init_56 : decode cX10_init 56 = .ok (.getfield 27, 3) := by decide +kernel
theorem dX10_init_59 : decode cX10_init 59 = .ok (.invokespecial 32, 3) := by decide +kernel
theorem dX10_init_62 : decode cX10_init 62 = .ok (.putfield 35, 3) := by decide +kernel
theorem dX10_init_65 : decode cX10_init 65 = .ok (.aload_n 0, 1) := by decide +kernel
theorem dX10_init_66 : decode cX10_init 66 = .ok (.new 39, 3) := by decide +kernel
theorem dX10_init_69 : decode cX10_init 69 = .ok (.dup, 1) := by decide +kernel
theorem dX10_init_70 : decode cX10_init 70 = .ok (.invokespecial 41, 3) := by decide +kernel
theorem dX10_init_73 : decode cX10_init 73 = .ok (.putfield 42, 3) := by decide +kernel
theorem dX10_init_76 : decode cX10_init 76 = .ok (.aload_n 0, 1) := by decide +kernel
theorem dX10_init_77 : decode cX10_init 77 = .ok (.new 46, 3) := by decide +kernel
theorem dX10_init_80 : decode cX10_init 80 = .ok (.dup, 1) := by decide +kernel
theorem dX10_init_81 : decode cX10_init 81 = .ok (.aload_n 0, 1) := by decide +kernel
theorem dX10_init_82 : decode cX10_init 82 = .ok (.getfield 42, 3) := by decide +kernel
theorem dX10_init_85 : decode cX10_init 85 = .ok (.aload_n 0, 1) := by decide +kernel
theorem dX10_init_86 : decode cX10_init 86 = .ok (.getfield 23, 3) := by decide +kernel
theorem dX10_init_89 : decode cX10_init 89 = .ok (.invokespecial 48, 3) := by decide +kernel
theorem dX10_init_92 : decode cX10_init 92 = .ok (.putfield 51, 3) := by decide +kernel
theorem dX10_init_95 : decode cX10_init 95 = .ok (.aload_n 0, 1) := by decide +kernel
theorem dX10_init_96 : decode cX10_init 96 = .ok (.new 55, 3) := by decide +kernel
theorem dX10_init_99 : decode cX10_init 99 = .ok (.dup, 1) := by decide +kernel
theorem dX10_init_100 : decode cX10_init 100 = .ok (.aload_n 0, 1) := by decide +kernel
theorem dX10_init_101 : decode cX10_init 101 = .ok (.getfield 42, 3) := by decide +kernel
theorem dX10_init_104 : decode cX10_init 104 = .ok (.aload_n 0, 1) := by decide +kernel
theorem dX10_init_105 : decode cX10_init 105 = .ok (.getfield 51, 3) := by decide +kernel
theorem dX10_init_108 : decode cX10_init 108 = .ok (.invokespecial 57, 3) := by decide +kernel
theorem dX10_init_111 : decode cX10_init 111 = .ok (.putfield 60, 3) := by decide +kernel
theorem dX10_init_114 : decode cX10_init 114 = .ok (.aload_n 0, 1) := by decide +kernel
theorem dX10_init_115 : decode cX10_init 115 = .ok (.new 64, 3) := by decide +kernel
theorem dX10_init_118 : decode cX10_init 118 = .ok (.dup, 1) := by decide +kernel
theorem dX10_init_119 : decode cX10_init 119 = .ok (.aload_n 0, 1) := by decide +kernel
theorem dX10_init_120 : decode cX10_init 120 = .ok (.getfield 42, 3) := by decide +kernel
theorem dX10_init_123 : decode cX10_init 123 = .ok (.aload_n 0, 1) := by decide +kernel
theorem dX10_init_124 : decode cX10_init 124 = .ok (.getfield 51, 3) := by decide +kernel
theorem dX10_init_127 : decode cX10_init 127 = .ok (.invokespecial 66, 3) := by decide +kernel
theorem dX10_init_130 : decode cX10_init 130 = .ok (.putfield 67, 3) := by decide +kernel
theorem dX10_init_133 : decode cX10_init 133 = .ok (.aload_n 0, 1) := by decide +kernel
theorem dX10_init_134 : decode cX10_init 134 = .ok (.new 71, 3) := by decide +kernel
theorem dX10_init_137 : decode cX10_init 137 = .ok (.dup, 1) := by decide +kernel
theorem dX10_init_138 : decode cX10_init 138 = .ok (.invokespecial 73, 3) := by decide +kernel
theorem dX10_init_141 : decode cX10_init 141 = .ok (.putfield 74, 3) := by decide +kernel
theorem dX10_init_144 : decode cX10_init 144 = .ok (.aload_n 0, 1) := by decide +kernel
theorem dX10_init_145 : decode cX10_init 145 = .ok (.new 78, 3) := by decide +kernel
theorem dX10_init_148 : decode cX10_init 148 = .ok (.dup, 1) := by decide +kernel
theorem dX10_init_149 : decode cX10_init 149 = .ok (.invokespecial 80, 3) := by decide +kernel
theorem dX10_init_152 : decode cX10_init 152 = .ok (.putfield 81, 3) := by decide +kernel
theorem dX10_init_155 : decode cX10_init 155 = .ok (.aload_n 0, 1) := by decide +kernel
theorem dX10_init_156 : decode cX10_init 156 = .ok (.new 85, 3) := by decide +kernel
theorem dX10_init_159 : decode cX10_init 159 = .ok (.dup, 1) := by decide +kernel
theorem dX10_init_160 : decode cX10_init 160 = .ok (.invokespecial 87, 3) := by decide +kernel
theorem dX10_init_163 : decode cX10_init 163 = .ok (.putfield 88, 3) := by decide +kernel
theorem dX10_init_166 : decode cX10_init 166 = .ok (.aload_n 0, 1) := by decide +kernel
theorem dX10_init_167 : decode cX10_init 167 = .ok (.iconst 3, 1) := by decide +kernel
theorem dX10_init_168 : decode cX10_init 168 = .ok (.anewarray 39, 3) := by decide +kernel
theorem dX10_init_171 : decode cX10_init 171 = .ok (.putfield 92, 3) := by decide +kernel
theorem dX10_init_174 : decode cX10_init 174 = .ok (.iconst 0, 1) := by decide +kernel
theorem dX10_init_175 : decode cX10_init 175 = .ok (.istore_n 1, 1) := by decide +kernel
theorem dX10_init_176 : decode cX10_init 176 = .ok (.iload_n 1, 1) := by decide +kernel
theorem dX10_init_177 : decode cX10_init 177 = .ok (.iconst 3, 1) := by decide +kernel
theorem dX10_init_178 : decode cX10_init 178 = .ok (.if_icmp .ge 22, 3) := by decide +kernel
theorem dX10_init_181 : decode cX10_init 181 = .ok (.aload_n 0, 1) := by decide +kernel
theorem dX10_init_182 : decode cX10_init 182 = .ok (.getfield 92, 3) := by decide +kernel
theorem dX10_init_185 : decode cX10_init 185 = .ok (.iload_n 1, 1) := by decide +kernel
theorem dX10_init_186 : decode cX10_init 186 = .ok (.new 39, 3) := by decide +kernel
theorem dX10_init_189 : decode cX10_init 189 = .ok (.dup, 1) := by decide +kernel
theorem dX10_init_190 : decode cX10_init 190 = .ok (.invokespecial 41, 3) := by decide +kernel
theorem dX10_init_193 : decode cX10_init 193 = .ok (.aastore, 1) := by decide +kernel
theorem dX10_init_194 : decode cX10_init 194 = .ok (.iinc 1 1, 3) := by decide +kernel
theorem dX10_init_197 : decode cX10_init 197 = .ok (.goto (-21), 3) := by decide +kernel
theorem dX10_init_200 : decode cX10_init 200 = .ok (.aload_n 0, 1) := by decide +kernel
theorem dX10_init_201 : decode cX10_init 201 = .ok (.iconst 3, 1) := by decide +kernel
theorem dX10_init_202 : decode cX10_init 202 = .ok (.newarray .boolean, 2) := by decide +kernel
theorem dX10_init_204 : decode cX10_init 204 = .ok (.putfield 96, 3) := by decide +kernel
theorem dX10_init_207 : decode cX10_init 207 = .ok (.aload_n 0, 1) := by decide +kernel
theorem dX10_init_208 : decode cX10_init 208 = .ok (.sipush 4096, 3) := by decide +kernel
theorem dX10_init_211 : decode cX10_init 211 = .ok (.newarray .int, 2) := by decide +kernel
theorem dX10_init_213 : decode cX10_init 213 = .ok (.putfield 100, 3) := by decide +kernel
theorem dX10_init_216 : decode cX10_init 216 = .ok (.aload_n 0, 1) := by decide +kernel
theorem dX10_init_217 : decode cX10_init 217 = .ok (.iconst (-1), 1) := by decide +kernel
theorem dX10_init_218 : decode cX10_init 218 = .ok (.putfield 104, 3) := by decide +kernel
theorem dX10_init_221 : decode cX10_init 221 = .ok (.aload_n 0, 1) := by decide +kernel
theorem dX10_init_222 : decode cX10_init 222 = .ok (.invokevirtual 108, 3) := by decide +kernel
theorem dX10_init_225 : decode cX10_init 225 = .ok (.return_, 1) := by decide +kernel
theorem dX10_feed_0 : decode cX10_feed 0 = .ok (.aload_n 0, 1) := by decide +kernel
theorem dX10_feed_1 : decode cX10_feed 1 = .ok (.getfield 111, 3) := by decide +kernel
theorem dX10_feed_4 : decode cX10_feed 4 = .ok (.sipush 1580, 3) := by decide +kernel
theorem dX10_feed_7 : decode cX10_feed 7 = .ok (.if_icmp .le 5, 3) := by decide +kernel
theorem dX10_feed_10 : decode cX10_feed 10 = .ok (.iconst (-1), 1) := by decide +kernel
theorem dX10_feed_11 : decode cX10_feed 11 = .ok (.ireturn, 1) := by decide +kernel
theorem dX10_feed_12 : decode cX10_feed 12 = .ok (.aload_n 0, 1) := by decide +kernel
theorem dX10_feed_13 : decode cX10_feed 13 = .ok (.iload_n 1, 1) := by decide +kernel
theorem dX10_feed_14 : decode cX10_feed 14 = .ok (.invokevirtual 114, 3) := by decide +kernel
theorem dX10_feed_17 : decode cX10_feed 17 = .ok (.aload_n 0, 1) := by decide +kernel
theorem dX10_feed_18 : decode cX10_feed 18 = .ok (.iload_n 2, 1) := by decide +kernel
theorem dX10_feed_19 : decode cX10_feed 19 = .ok (.invokevirtual 114, 3) := by decide +kernel
theorem dX10_feed_22 : decode cX10_feed 22 = .ok (.aload_n 0, 1) := by decide +kernel
theorem dX10_feed_23 : decode cX10_feed 23 = .ok (.iload_n 3, 1) := by decide +kernel
theorem dX10_feed_24 : decode cX10_feed 24 = .ok (.invokevirtual 114, 3) := by decide +kernel
theorem dX10_feed_27 : decode cX10_feed 27 = .ok (.aload_n 0, 1) := by decide +kernel
theorem dX10_feed_28 : decode cX10_feed 28 = .ok (.iload 4, 2) := by decide +kernel
theorem dX10_feed_30 : decode cX10_feed 30 = .ok (.invokevirtual 114, 3) := by decide +kernel
theorem dX10_feed_33 : decode cX10_feed 33 = .ok (.aload_n 0, 1) := by decide +kernel
theorem dX10_feed_34 : decode cX10_feed 34 = .ok (.iload 5, 2) := by decide +kernel
theorem dX10_feed_36 : decode cX10_feed 36 = .ok (.invokevirtual 114, 3) := by decide +kernel
theorem dX10_feed_39 : decode cX10_feed 39 = .ok (.aload_n 0, 1) := by decide +kernel
theorem dX10_feed_40 : decode cX10_feed 40 = .ok (.getfield 111, 3) := by decide +kernel
theorem dX10_feed_43 : decode cX10_feed 43 = .ok (.ireturn, 1) := by decide +kernel
theorem dX10_putBytes_0 : decode cX10_putBytes 0 = .ok (.bipush 24, 2) := by decide +kernel
theorem dX10_putBytes_2 : decode cX10_putBytes 2 = .ok (.istore_n 2, 1) := by decide +kernel
theorem dX10_putBytes_3 : decode cX10_putBytes 3 = .ok (.iload_n 2, 1) := by decide +kernel
theorem dX10_putBytes_4 : decode cX10_putBytes 4 = .ok (.ifCond .lt 51, 3) := by decide +kernel
theorem dX10_putBytes_7 : decode cX10_putBytes 7 = .ok (.aload_n 0, 1) := by decide +kernel
theorem dX10_putBytes_8 : decode cX10_putBytes 8 = .ok (.getfield 111, 3) := by decide +kernel
theorem dX10_putBytes_11 : decode cX10_putBytes 11 = .ok (.ifCond .lt 38, 3) := by decide +kernel
theorem dX10_putBytes_14 : decode cX10_putBytes 14 = .ok (.aload_n 0, 1) := by decide +kernel
theorem dX10_putBytes_15 : decode cX10_putBytes 15 = .ok (.getfield 111, 3) := by decide +kernel
theorem dX10_putBytes_18 : decode cX10_putBytes 18 = .ok (.aload_n 0, 1) := by decide +kernel
theorem dX10_putBytes_19 : decode cX10_putBytes 19 = .ok (.getfield 9, 3) := by decide +kernel
theorem dX10_putBytes_22 : decode cX10_putBytes 22 = .ok (.arraylength, 1) := by decide +kernel
theorem dX10_putBytes_23 : decode cX10_putBytes 23 = .ok (.if_icmp .ge 26, 3) := by decide +kernel
theorem dX10_putBytes_26 : decode cX10_putBytes 26 = .ok (.aload_n 0, 1) := by decide +kernel
theorem dX10_putBytes_27 : decode cX10_putBytes 27 = .ok (.getfield 9, 3) := by decide +kernel
theorem dX10_putBytes_30 : decode cX10_putBytes 30 = .ok (.aload_n 0, 1) := by decide +kernel
theorem dX10_putBytes_31 : decode cX10_putBytes 31 = .ok (.getfield 111, 3) := by decide +kernel
theorem dX10_putBytes_34 : decode cX10_putBytes 34 = .ok (.iload_n 1, 1) := by decide +kernel
theorem dX10_putBytes_35 : decode cX10_putBytes 35 = .ok (.iload_n 2, 1) := by decide +kernel
theorem dX10_putBytes_36 : decode cX10_putBytes 36 = .ok (.iushr, 1) := by decide +kernel
theorem dX10_putBytes_37 : decode cX10_putBytes 37 = .ok (.i2b, 1) := by decide +kernel
theorem dX10_putBytes_38 : decode cX10_putBytes 38 = .ok (.bastore, 1) := by decide +kernel
theorem dX10_putBytes_39 : decode cX10_putBytes 39 = .ok (.aload_n 0, 1) := by decide +kernel
theorem dX10_putBytes_40 : decode cX10_putBytes 40 = .ok (.dup, 1) := by decide +kernel
theorem dX10_putBytes_41 : decode cX10_putBytes 41 = .ok (.getfield 111, 3) := by decide +kernel
theorem dX10_putBytes_44 : decode cX10_putBytes 44 = .ok (.iconst 1, 1) := by decide +kernel
theorem dX10_putBytes_45 : decode cX10_putBytes 45 = .ok (.iadd, 1) := by decide +kernel
theorem dX10_putBytes_46 : decode cX10_putBytes 46 = .ok (.putfield 111, 3) := by decide +kernel
theorem dX10_putBytes_49 : decode cX10_putBytes 49 = .ok (.iinc 2 (-8), 3) := by decide +kernel
theorem dX10_putBytes_52 : decode cX10_putBytes 52 = .ok (.goto (-49), 3) := by decide +kernel
theorem dX10_putBytes_55 : decode cX10_putBytes 55 = .ok (.return_, 1) := by decide +kernel
theorem dX10_end_0 : decode cX10_end 0 = .ok (.iload_n 1, 1) := by decide +kernel
theorem dX10_end_1 : decode cX10_end 1 = .ok (.ifCond .lt 11, 3) := by decide +kernel
theorem dX10_end_4 : decode cX10_end 4 = .ok (.iload_n 1, 1) := by decide +kernel
theorem dX10_end_5 : decode cX10_end 5 = .ok (.aload_n 0, 1) := by decide +kernel
theorem dX10_end_6 : decode cX10_end 6 = .ok (.getfield 111, 3) := by decide +kernel
theorem dX10_end_9 : decode cX10_end 9 = .ok (.if_icmp .le 5, 3) := by decide +kernel
theorem dX10_end_12 : decode cX10_end 12 = .ok (.iconst (-1), 1) := by decide +kernel
theorem dX10_end_13 : decode cX10_end 13 = .ok (.ireturn, 1) := by decide +kernel
theorem dX10_end_14 : decode cX10_end 14 = .ok (.aload_n 0, 1) := by decide +kernel
theorem dX10_end_15 : decode cX10_end 15 = .ok (.iload_n 1, 1) := by decide +kernel
theorem dX10_end_16 : decode cX10_end 16 = .ok (.putfield 111, 3) := by decide +kernel
theorem dX10_end_19 : decode cX10_end 19 = .ok (.iload_n 1, 1) := by decide +kernel
theorem dX10_end_20 : decode cX10_end 20 = .ok (.ireturn, 1) := by decide +kernel
theorem dX10_chancery_0 : decode cX10_chancery 0 = .ok (.aload_n 0, 1) := by decide +kernel
theorem dX10_chancery_1 : decode cX10_chancery 1 = .ok (.getfield 16, 3) := by decide +kernel
theorem dX10_chancery_4 : decode cX10_chancery 4 = .ok (.aload_n 0, 1) := by decide +kernel
theorem dX10_chancery_5 : decode cX10_chancery 5 = .ok (.getfield 9, 3) := by decide +kernel
theorem dX10_chancery_8 : decode cX10_chancery 8 = .ok (.aload_n 0, 1) := by decide +kernel
theorem dX10_chancery_9 : decode cX10_chancery 9 = .ok (.getfield 111, 3) := by decide +kernel
theorem dX10_chancery_12 : decode cX10_chancery 12 = .ok (.invokevirtual 118, 3) := by decide +kernel
theorem dX10_chancery_15 : decode cX10_chancery 15 = .ok (.aload_n 0, 1) := by decide +kernel
theorem dX10_chancery_16 : decode cX10_chancery 16 = .ok (.aload_n 0, 1) := by decide +kernel
theorem dX10_chancery_17 : decode cX10_chancery 17 = .ok (.getfield 35, 3) := by decide +kernel
theorem dX10_chancery_20 : decode cX10_chancery 20 = .ok (.aload_n 0, 1) := by decide +kernel
theorem dX10_chancery_21 : decode cX10_chancery 21 = .ok (.getfield 27, 3) := by decide +kernel
theorem dX10_chancery_24 : decode cX10_chancery 24 = .ok (.invokevirtual 122, 3) := by decide +kernel
theorem dX10_chancery_27 : decode cX10_chancery 27 = .ok (.putfield 126, 3) := by decide +kernel
theorem dX10_chancery_30 : decode cX10_chancery 30 = .ok (.aload_n 0, 1) := by decide +kernel
theorem dX10_chancery_31 : decode cX10_chancery 31 = .ok (.aload_n 0, 1) := by decide +kernel
theorem dX10_chancery_32 : decode cX10_chancery 32 = .ok (.getfield 35, 3) := by decide +kernel
theorem dX10_chancery_35 : decode cX10_chancery 35 = .ok (.getfield 129, 3) := by decide +kernel
theorem dX10_chancery_38 : decode cX10_chancery 38 = .ok (.putfield 104, 3) := by decide +kernel
theorem dX10_chancery_41 : decode cX10_chancery 41 = .ok (.aload_n 0, 1) := by decide +kernel
theorem dX10_chancery_42 : decode cX10_chancery 42 = .ok (.getfield 126, 3) := by decide +kernel
theorem dX10_chancery_45 : decode cX10_chancery 45 = .ok (.ifCond .eq 5, 3) := by decide +kernel
theorem dX10_chancery_48 : decode cX10_chancery 48 = .ok (.iconst (-1), 1) := by decide +kernel
theorem dX10_chancery_49 : decode cX10_chancery 49 = .ok (.ireturn, 1) := by decide +kernel
theorem dX10_chancery_50 : decode cX10_chancery 50 = .ok (.aload_n 0, 1) := by decide +kernel
theorem dX10_chancery_51 : decode cX10_chancery 51 = .ok (.getfield 23, 3) := by decide +kernel
theorem dX10_chancery_54 : decode cX10_chancery 54 = .ok (.astore_n 1, 1) := by decide +kernel
theorem dX10_chancery_55 : decode cX10_chancery 55 = .ok (.aload_n 0, 1) := by decide +kernel
theorem dX10_chancery_56 : decode cX10_chancery 56 = .ok (.aload_n 0, 1) := by decide +kernel
theorem dX10_chancery_57 : decode cX10_chancery 57 = .ok (.getfield 27, 3) := by decide +kernel
theorem dX10_chancery_60 : decode cX10_chancery 60 = .ok (.putfield 23, 3) := by decide +kernel
theorem dX10_chancery_63 : decode cX10_chancery 63 = .ok (.aload_n 0, 1) := by decide +kernel
theorem dX10_chancery_64 : decode cX10_chancery 64 = .ok (.aload_n 1, 1) := by decide +kernel
theorem dX10_chancery_65 : decode cX10_chancery 65 = .ok (.putfield 27, 3) := by decide +kernel
theorem dX10_chancery_68 : decode cX10_chancery 68 = .ok (.aload_n 0, 1) := by decide +kernel
theorem dX10_chancery_69 : decode cX10_chancery 69 = .ok (.invokevirtual 108, 3) := by decide +kernel
theorem dX10_chancery_72 : decode cX10_chancery 72 = .ok (.aload_n 0, 1) := by decide +kernel
theorem dX10_chancery_73 : decode cX10_chancery 73 = .ok (.getfield 23, 3) := by decide +kernel
theorem dX10_chancery_76 : decode cX10_chancery 76 = .ok (.getfield 132, 3) := by decide +kernel
theorem dX10_chancery_79 : decode cX10_chancery 79 = .ok (.ireturn, 1) := by decide +kernel
theorem dX10_beginAnew_0 : decode cX10_beginAnew 0 = .ok (.aload_n 0, 1) := by decide +kernel
theorem dX10_beginAnew_1 : decode cX10_beginAnew 1 = .ok (.iconst 0, 1) := by decide +kernel
theorem dX10_beginAnew_2 : decode cX10_beginAnew 2 = .ok (.putfield 111, 3) := by decide +kernel
theorem dX10_beginAnew_5 : decode cX10_beginAnew 5 = .ok (.aload_n 0, 1) := by decide +kernel
theorem dX10_beginAnew_6 : decode cX10_beginAnew 6 = .ok (.getfield 51, 3) := by decide +kernel
theorem dX10_beginAnew_9 : decode cX10_beginAnew 9 = .ok (.aload_n 0, 1) := by decide +kernel
theorem dX10_beginAnew_10 : decode cX10_beginAnew 10 = .ok (.getfield 23, 3) := by decide +kernel
theorem dX10_beginAnew_13 : decode cX10_beginAnew 13 = .ok (.invokevirtual 135, 3) := by decide +kernel
theorem dX10_beginAnew_16 : decode cX10_beginAnew 16 = .ok (.aload_n 0, 1) := by decide +kernel
theorem dX10_beginAnew_17 : decode cX10_beginAnew 17 = .ok (.getfield 42, 3) := by decide +kernel
theorem dX10_beginAnew_20 : decode cX10_beginAnew 20 = .ok (.aload_n 0, 1) := by decide +kernel
theorem dX10_beginAnew_21 : decode cX10_beginAnew 21 = .ok (.getfield 23, 3) := by decide +kernel
theorem dX10_beginAnew_24 : decode cX10_beginAnew 24 = .ok (.invokevirtual 139, 3) := by decide +kernel
theorem dX10_beginAnew_27 : decode cX10_beginAnew 27 = .ok (.aload_n 0, 1) := by decide +kernel
theorem dX10_beginAnew_28 : decode cX10_beginAnew 28 = .ok (.getfield 60, 3) := by decide +kernel
theorem dX10_beginAnew_31 : decode cX10_beginAnew 31 = .ok (.invokevirtual 142, 3) := by decide +kernel
theorem dX10_beginAnew_34 : decode cX10_beginAnew 34 = .ok (.aload_n 0, 1) := by decide +kernel
theorem dX10_beginAnew_35 : decode cX10_beginAnew 35 = .ok (.getfield 74, 3) := by decide +kernel
theorem dX10_beginAnew_38 : decode cX10_beginAnew 38 = .ok (.iconst 0, 1) := by decide +kernel
theorem dX10_beginAnew_39 : decode cX10_beginAnew 39 = .ok (.putfield 145, 3) := by decide +kernel
theorem dX10_beginAnew_42 : decode cX10_beginAnew 42 = .ok (.aload_n 0, 1) := by decide +kernel
theorem dX10_beginAnew_43 : decode cX10_beginAnew 43 = .ok (.getfield 88, 3) := by decide +kernel
theorem dX10_beginAnew_46 : decode cX10_beginAnew 46 = .ok (.iconst 0, 1) := by decide +kernel
theorem dX10_beginAnew_47 : decode cX10_beginAnew 47 = .ok (.putfield 148, 3) := by decide +kernel
theorem dX10_beginAnew_50 : decode cX10_beginAnew 50 = .ok (.iconst 0, 1) := by decide +kernel
theorem dX10_beginAnew_51 : decode cX10_beginAnew 51 = .ok (.istore_n 1, 1) := by decide +kernel
theorem dX10_beginAnew_52 : decode cX10_beginAnew 52 = .ok (.iload_n 1, 1) := by decide +kernel
theorem dX10_beginAnew_53 : decode cX10_beginAnew 53 = .ok (.aload_n 0, 1) := by decide +kernel
theorem dX10_beginAnew_54 : decode cX10_beginAnew 54 = .ok (.getfield 96, 3) := by decide +kernel
theorem dX10_beginAnew_57 : decode cX10_beginAnew 57 = .ok (.arraylength, 1) := by decide +kernel
theorem dX10_beginAnew_58 : decode cX10_beginAnew 58 = .ok (.if_icmp .ge 16, 3) := by decide +kernel
theorem dX10_beginAnew_61 : decode cX10_beginAnew 61 = .ok (.aload_n 0, 1) := by decide +kernel
theorem dX10_beginAnew_62 : decode cX10_beginAnew 62 = .ok (.getfield 96, 3) := by decide +kernel
theorem dX10_beginAnew_65 : decode cX10_beginAnew 65 = .ok (.iload_n 1, 1) := by decide +kernel
theorem dX10_beginAnew_66 : decode cX10_beginAnew 66 = .ok (.iconst 0, 1) := by decide +kernel
theorem dX10_beginAnew_67 : decode cX10_beginAnew 67 = .ok (.bastore, 1) := by decide +kernel
theorem dX10_beginAnew_68 : decode cX10_beginAnew 68 = .ok (.iinc 1 1, 3) := by decide +kernel
theorem dX10_beginAnew_71 : decode cX10_beginAnew 71 = .ok (.goto (-19), 3) := by decide +kernel
theorem dX10_beginAnew_74 : decode cX10_beginAnew 74 = .ok (.return_, 1) := by decide +kernel
theorem dX10_fault_0 : decode cX10_fault 0 = .ok (.iload_n 1, 1) := by decide +kernel
theorem dX10_fault_1 : decode cX10_fault 1 = .ok (.ifCond .ne 8, 3) := by decide +kernel
theorem dX10_fault_4 : decode cX10_fault 4 = .ok (.aload_n 0, 1) := by decide +kernel
theorem dX10_fault_5 : decode cX10_fault 5 = .ok (.getfield 126, 3) := by decide +kernel
theorem dX10_fault_8 : decode cX10_fault 8 = .ok (.ireturn, 1) := by decide +kernel
theorem dX10_fault_9 : decode cX10_fault 9 = .ok (.iload_n 1, 1) := by decide +kernel
theorem dX10_fault_10 : decode cX10_fault 10 = .ok (.iconst 1, 1) := by decide +kernel
theorem dX10_fault_11 : decode cX10_fault 11 = .ok (.if_icmp .ne 10, 3) := by decide +kernel
theorem dX10_fault_14 : decode cX10_fault 14 = .ok (.aload_n 0, 1) := by decide +kernel
theorem dX10_fault_15 : decode cX10_fault 15 = .ok (.getfield 104, 3) := by decide +kernel
theorem dX10_fault_18 : decode cX10_fault 18 = .ok (.goto 4, 3) := by decide +kernel
theorem dX10_fault_21 : decode cX10_fault 21 = .ok (.iconst (-1), 1) := by decide +kernel
theorem dX10_fault_22 : decode cX10_fault 22 = .ok (.ireturn, 1) := by decide +kernel
theorem dX10_seal_0 : decode cX10_seal 0 = .ok (.aload_n 0, 1) := by decide +kernel
theorem dX10_seal_1 : decode cX10_seal 1 = .ok (.iload_n 1, 1) := by decide +kernel
theorem dX10_seal_2 : decode cX10_seal 2 = .ok (.invokevirtual 149, 3) := by decide +kernel
theorem dX10_seal_5 : decode cX10_seal 5 = .ok (.ifCond .ne 5, 3) := by decide +kernel
theorem dX10_seal_8 : decode cX10_seal 8 = .ok (.iconst (-1), 1) := by decide +kernel
theorem dX10_seal_9 : decode cX10_seal 9 = .ok (.ireturn, 1) := by decide +kernel
theorem dX10_seal_10 : decode cX10_seal 10 = .ok (.iload_n 2, 1) := by decide +kernel
theorem dX10_seal_11 : decode cX10_seal 11 = .ok (.tableswitch 83 0 4 #[33, 43, 53, 63, 73], 33) := by decide +kernel
theorem dX10_seal_44 : decode cX10_seal 44 = .ok (.aload_n 0, 1) := by decide +kernel
theorem dX10_seal_45 : decode cX10_seal 45 = .ok (.getfield 42, 3) := by decide +kernel
theorem dX10_seal_48 : decode cX10_seal 48 = .ok (.getfield 153, 3) := by decide +kernel
theorem dX10_seal_51 : decode cX10_seal 51 = .ok (.iload_n 1, 1) := by decide +kernel
theorem dX10_seal_52 : decode cX10_seal 52 = .ok (.iaload, 1) := by decide +kernel
theorem dX10_seal_53 : decode cX10_seal 53 = .ok (.ireturn, 1) := by decide +kernel
theorem dX10_seal_54 : decode cX10_seal 54 = .ok (.aload_n 0, 1) := by decide +kernel
theorem dX10_seal_55 : decode cX10_seal 55 = .ok (.getfield 42, 3) := by decide +kernel
theorem dX10_seal_58 : decode cX10_seal 58 = .ok (.getfield 156, 3) := by decide +kernel
theorem dX10_seal_61 : decode cX10_seal 61 = .ok (.iload_n 1, 1) := by decide +kernel
theorem dX10_seal_62 : decode cX10_seal 62 = .ok (.iaload, 1) := by decide +kernel
theorem dX10_seal_63 : decode cX10_seal 63 = .ok (.ireturn, 1) := by decide +kernel
theorem dX10_seal_64 : decode cX10_seal 64 = .ok (.aload_n 0, 1) := by decide +kernel
theorem dX10_seal_65 : decode cX10_seal 65 = .ok (.getfield 42, 3) := by decide +kernel
theorem dX10_seal_68 : decode cX10_seal 68 = .ok (.getfield 159, 3) := by decide +kernel
theorem dX10_seal_71 : decode cX10_seal 71 = .ok (.iload_n 1, 1) := by decide +kernel
theorem dX10_seal_72 : decode cX10_seal 72 = .ok (.iaload, 1) := by decide +kernel
theorem dX10_seal_73 : decode cX10_seal 73 = .ok (.ireturn, 1) := by decide +kernel
theorem dX10_seal_74 : decode cX10_seal 74 = .ok (.aload_n 0, 1) := by decide +kernel
theorem dX10_seal_75 : decode cX10_seal 75 = .ok (.getfield 42, 3) := by decide +kernel
theorem dX10_seal_78 : decode cX10_seal 78 = .ok (.getfield 162, 3) := by decide +kernel
theorem dX10_seal_81 : decode cX10_seal 81 = .ok (.iload_n 1, 1) := by decide +kernel
theorem dX10_seal_82 : decode cX10_seal 82 = .ok (.iaload, 1) := by decide +kernel
theorem dX10_seal_83 : decode cX10_seal 83 = .ok (.ireturn, 1) := by decide +kernel
theorem dX10_seal_84 : decode cX10_seal 84 = .ok (.aload_n 0, 1) := by decide +kernel
theorem dX10_seal_85 : decode cX10_seal 85 = .ok (.getfield 42, 3) := by decide +kernel
theorem dX10_seal_88 : decode cX10_seal 88 = .ok (.getfield 165, 3) := by decide +kernel
theorem dX10_seal_91 : decode cX10_seal 91 = .ok (.iload_n 1, 1) := by decide +kernel
theorem dX10_seal_92 : decode cX10_seal 92 = .ok (.iaload, 1) := by decide +kernel
theorem dX10_seal_93 : decode cX10_seal 93 = .ok (.ireturn, 1) := by decide +kernel
theorem dX10_seal_94 : decode cX10_seal 94 = .ok (.iconst (-1), 1) := by decide +kernel
theorem dX10_seal_95 : decode cX10_seal 95 = .ok (.ireturn, 1) := by decide +kernel
theorem dX10_shown_0 : decode cX10_shown 0 = .ok (.iload_n 1, 1) := by decide +kernel
theorem dX10_shown_1 : decode cX10_shown 1 = .ok (.ifCond .lt 14, 3) := by decide +kernel
theorem dX10_shown_4 : decode cX10_shown 4 = .ok (.iload_n 1, 1) := by decide +kernel
theorem dX10_shown_5 : decode cX10_shown 5 = .ok (.aload_n 0, 1) := by decide +kernel
theorem dX10_shown_6 : decode cX10_shown 6 = .ok (.getfield 42, 3) := by decide +kernel
theorem dX10_shown_9 : decode cX10_shown 9 = .ok (.getfield 168, 3) := by decide +kernel
theorem dX10_shown_12 : decode cX10_shown 12 = .ok (.if_icmp .lt 5, 3) := by decide +kernel
theorem dX10_shown_15 : decode cX10_shown 15 = .ok (.iconst (-1), 1) := by decide +kernel
theorem dX10_shown_16 : decode cX10_shown 16 = .ok (.ireturn, 1) := by decide +kernel
theorem dX10_shown_17 : decode cX10_shown 17 = .ok (.iload_n 2, 1) := by decide +kernel
theorem dX10_shown_18 : decode cX10_shown 18 = .ok (.tableswitch 56 0 2 #[26, 36, 46], 26) := by decide +kernel
theorem dX10_shown_44 : decode cX10_shown 44 = .ok (.aload_n 0, 1) := by decide +kernel
theorem dX10_shown_45 : decode cX10_shown 45 = .ok (.getfield 42, 3) := by decide +kernel
theorem dX10_shown_48 : decode cX10_shown 48 = .ok (.getfield 171, 3) := by decide +kernel
theorem dX10_shown_51 : decode cX10_shown 51 = .ok (.iload_n 1, 1) := by decide +kernel
theorem dX10_shown_52 : decode cX10_shown 52 = .ok (.iaload, 1) := by decide +kernel
theorem dX10_shown_53 : decode cX10_shown 53 = .ok (.ireturn, 1) := by decide +kernel
theorem dX10_shown_54 : decode cX10_shown 54 = .ok (.aload_n 0, 1) := by decide +kernel
theorem dX10_shown_55 : decode cX10_shown 55 = .ok (.getfield 42, 3) := by decide +kernel
theorem dX10_shown_58 : decode cX10_shown 58 = .ok (.getfield 174, 3) := by decide +kernel
theorem dX10_shown_61 : decode cX10_shown 61 = .ok (.iload_n 1, 1) := by decide +kernel
theorem dX10_shown_62 : decode cX10_shown 62 = .ok (.iaload, 1) := by decide +kernel
theorem dX10_shown_63 : decode cX10_shown 63 = .ok (.ireturn, 1) := by decide +kernel
theorem dX10_shown_64 : decode cX10_shown 64 = .ok (.aload_n 0, 1) := by decide +kernel
theorem dX10_shown_65 : decode cX10_shown 65 = .ok (.getfield 42, 3) := by decide +kernel
theorem dX10_shown_68 : decode cX10_shown 68 = .ok (.getfield 177, 3) := by decide +kernel
theorem dX10_shown_71 : decode cX10_shown 71 = .ok (.iload_n 1, 1) := by decide +kernel
theorem dX10_shown_72 : decode cX10_shown 72 = .ok (.iaload, 1) := by decide +kernel
theorem dX10_shown_73 : decode cX10_shown 73 = .ok (.ireturn, 1) := by decide +kernel
theorem dX10_shown_74 : decode cX10_shown 74 = .ok (.iconst (-1), 1) := by decide +kernel
theorem dX10_shown_75 : decode cX10_shown 75 = .ok (.ireturn, 1) := by decide +kernel
theorem dX10_prints_0 : decode cX10_prints 0 = .ok (.aload_n 0, 1) := by decide +kernel
theorem dX10_prints_1 : decode cX10_prints 1 = .ok (.iload_n 1, 1) := by decide +kernel
theorem dX10_prints_2 : decode cX10_prints 2 = .ok (.invokevirtual 180, 3) := by decide +kernel
theorem dX10_prints_5 : decode cX10_prints 5 = .ok (.ifCond .eq 12, 3) := by decide +kernel
theorem dX10_prints_8 : decode cX10_prints 8 = .ok (.iload_n 2, 1) := by decide +kernel
theorem dX10_prints_9 : decode cX10_prints 9 = .ok (.ifCond .lt 8, 3) := by decide +kernel
theorem dX10_prints_12 : decode cX10_prints 12 = .ok (.iload_n 2, 1) := by decide +kernel
theorem dX10_prints_13 : decode cX10_prints 13 = .ok (.iconst 2, 1) := by decide +kernel
theorem dX10_prints_14 : decode cX10_prints 14 = .ok (.if_icmp .le 5, 3) := by decide +kernel
theorem dX10_prints_17 : decode cX10_prints 17 = .ok (.iconst (-1), 1) := by decide +kernel
theorem dX10_prints_18 : decode cX10_prints 18 = .ok (.ireturn, 1) := by decide +kernel
theorem dX10_prints_19 : decode cX10_prints 19 = .ok (.iconst 0, 1) := by decide +kernel
theorem dX10_prints_20 : decode cX10_prints 20 = .ok (.istore_n 3, 1) := by decide +kernel
theorem dX10_prints_21 : decode cX10_prints 21 = .ok (.iconst (-1), 1) := by decide +kernel
theorem dX10_prints_22 : decode cX10_prints 22 = .ok (.istore 4, 2) := by decide +kernel
theorem dX10_prints_24 : decode cX10_prints 24 = .ok (.iconst (-1), 1) := by decide +kernel
theorem dX10_prints_25 : decode cX10_prints 25 = .ok (.istore 5, 2) := by decide +kernel
theorem dX10_prints_27 : decode cX10_prints 27 = .ok (.iconst 0, 1) := by decide +kernel
theorem dX10_prints_28 : decode cX10_prints 28 = .ok (.istore 6, 2) := by decide +kernel
theorem dX10_prints_30 : decode cX10_prints 30 = .ok (.iload 6, 2) := by decide +kernel
theorem dX10_prints_32 : decode cX10_prints 32 = .ok (.aload_n 0, 1) := by decide +kernel
theorem dX10_prints_33 : decode cX10_prints 33 = .ok (.getfield 42, 3) := by decide +kernel
theorem dX10_prints_36 : decode cX10_prints 36 = .ok (.getfield 168, 3) := by decide +kernel
theorem dX10_prints_39 : decode cX10_prints 39 = .ok (.if_icmp .ge 59, 3) := by decide +kernel
theorem dX10_prints_42 : decode cX10_prints 42 = .ok (.aload_n 0, 1) := by decide +kernel
theorem dX10_prints_43 : decode cX10_prints 43 = .ok (.getfield 42, 3) := by decide +kernel
theorem dX10_prints_46 : decode cX10_prints 46 = .ok (.getfield 171, 3) := by decide +kernel
theorem dX10_prints_49 : decode cX10_prints 49 = .ok (.iload 6, 2) := by decide +kernel
theorem dX10_prints_51 : decode cX10_prints 51 = .ok (.iaload, 1) := by decide +kernel
theorem dX10_prints_52 : decode cX10_prints 52 = .ok (.iload_n 1, 1) := by decide +kernel
theorem dX10_prints_53 : decode cX10_prints 53 = .ok (.if_icmp .ne 39, 3) := by decide +kernel
theorem dX10_prints_56 : decode cX10_prints 56 = .ok (.iload_n 3, 1) := by decide +kernel
theorem dX10_prints_57 : decode cX10_prints 57 = .ok (.ifCond .ne 16, 3) := by decide +kernel
theorem dX10_prints_60 : decode cX10_prints 60 = .ok (.aload_n 0, 1) := by decide +kernel
theorem dX10_prints_61 : decode cX10_prints 61 = .ok (.getfield 42, 3) := by decide +kernel
theorem dX10_prints_64 : decode cX10_prints 64 = .ok (.getfield 177, 3) := by decide +kernel
theorem dX10_prints_67 : decode cX10_prints 67 = .ok (.iload 6, 2) := by decide +kernel
theorem dX10_prints_69 : decode cX10_prints 69 = .ok (.iaload, 1) := by decide +kernel
theorem dX10_prints_70 : decode cX10_prints 70 = .ok (.goto 5, 3) := by decide +kernel
theorem dX10_prints_73 : decode cX10_prints 73 = .ok (.iload 4, 2) := by decide +kernel
theorem dX10_prints_75 : decode cX10_prints 75 = .ok (.istore 4, 2) := by decide +kernel
theorem dX10_prints_77 : decode cX10_prints 77 = .ok (.aload_n 0, 1) := by decide +kernel
theorem dX10_prints_78 : decode cX10_prints 78 = .ok (.getfield 42, 3) := by decide +kernel
theorem dX10_prints_81 : decode cX10_prints 81 = .ok (.getfield 177, 3) := by decide +kernel
theorem dX10_prints_84 : decode cX10_prints 84 = .ok (.iload 6, 2) := by decide +kernel
theorem dX10_prints_86 : decode cX10_prints 86 = .ok (.iaload, 1) := by decide +kernel
theorem dX10_prints_87 : decode cX10_prints 87 = .ok (.istore 5, 2) := by decide +kernel
theorem dX10_prints_89 : decode cX10_prints 89 = .ok (.iinc 3 1, 3) := by decide +kernel
theorem dX10_prints_92 : decode cX10_prints 92 = .ok (.iinc 6 1, 3) := by decide +kernel
theorem dX10_prints_95 : decode cX10_prints 95 = .ok (.goto (-65), 3) := by decide +kernel
theorem dX10_prints_98 : decode cX10_prints 98 = .ok (.iload_n 2, 1) := by decide +kernel
theorem dX10_prints_99 : decode cX10_prints 99 = .ok (.ifCond .ne 5, 3) := by decide +kernel
theorem dX10_prints_102 : decode cX10_prints 102 = .ok (.iload_n 3, 1) := by decide +kernel
theorem dX10_prints_103 : decode cX10_prints 103 = .ok (.ireturn, 1) := by decide +kernel
theorem dX10_prints_104 : decode cX10_prints 104 = .ok (.iload_n 2, 1) := by decide +kernel
theorem dX10_prints_105 : decode cX10_prints 105 = .ok (.iconst 1, 1) := by decide +kernel
theorem dX10_prints_106 : decode cX10_prints 106 = .ok (.if_icmp .ne 8, 3) := by decide +kernel
theorem dX10_prints_109 : decode cX10_prints 109 = .ok (.iload 4, 2) := by decide +kernel
theorem dX10_prints_111 : decode cX10_prints 111 = .ok (.goto 5, 3) := by decide +kernel
theorem dX10_prints_114 : decode cX10_prints 114 = .ok (.iload 5, 2) := by decide +kernel
theorem dX10_prints_116 : decode cX10_prints 116 = .ok (.ireturn, 1) := by decide +kernel
theorem dX10_turned_0 : decode cX10_turned 0 = .ok (.aload_n 0, 1) := by decide +kernel
theorem dX10_turned_1 : decode cX10_turned 1 = .ok (.iload_n 1, 1) := by decide +kernel
theorem dX10_turned_2 : decode cX10_turned 2 = .ok (.invokevirtual 180, 3) := by decide +kernel
theorem dX10_turned_5 : decode cX10_turned 5 = .ok (.ifCond .eq 17, 3) := by decide +kernel
theorem dX10_turned_8 : decode cX10_turned 8 = .ok (.iload_n 1, 1) := by decide +kernel
theorem dX10_turned_9 : decode cX10_turned 9 = .ok (.aload_n 0, 1) := by decide +kernel
theorem dX10_turned_10 : decode cX10_turned 10 = .ok (.getfield 23, 3) := by decide +kernel
theorem dX10_turned_13 : decode cX10_turned 13 = .ok (.getfield 183, 3) := by decide +kernel
theorem dX10_turned_16 : decode cX10_turned 16 = .ok (.invokestatic 186, 3) := by decide +kernel
theorem dX10_turned_19 : decode cX10_turned 19 = .ok (.goto 4, 3) := by decide +kernel
theorem dX10_turned_22 : decode cX10_turned 22 = .ok (.iconst (-1), 1) := by decide +kernel
theorem dX10_turned_23 : decode cX10_turned 23 = .ok (.ireturn, 1) := by decide +kernel
theorem dX10_would_0 : decode cX10_would 0 = .ok (.aload_n 0, 1) := by decide +kernel
theorem dX10_would_1 : decode cX10_would 1 = .ok (.iload_n 1, 1) := by decide +kernel
theorem dX10_would_2 : decode cX10_would 2 = .ok (.invokevirtual 180, 3) := by decide +kernel
theorem dX10_would_5 : decode cX10_would 5 = .ok (.ifCond .eq 30, 3) := by decide +kernel
theorem dX10_would_8 : decode cX10_would 8 = .ok (.aload_n 0, 1) := by decide +kernel
theorem dX10_would_9 : decode cX10_would 9 = .ok (.iload_n 2, 1) := by decide +kernel
theorem dX10_would_10 : decode cX10_would 10 = .ok (.invokevirtual 190, 3) := by decide +kernel
theorem dX10_would_13 : decode cX10_would 13 = .ok (.ifCond .eq 22, 3) := by decide +kernel
theorem dX10_would_16 : decode cX10_would 16 = .ok (.iload_n 3, 1) := by decide +kernel
theorem dX10_would_17 : decode cX10_would 17 = .ok (.invokestatic 193, 3) := by decide +kernel
theorem dX10_would_20 : decode cX10_would 20 = .ok (.ifCond .eq 15, 3) := by decide +kernel
theorem dX10_would_23 : decode cX10_would 23 = .ok (.iload 4, 2) := by decide +kernel
theorem dX10_would_25 : decode cX10_would 25 = .ok (.ifCond .lt 10, 3) := by decide +kernel
theorem dX10_would_28 : decode cX10_would 28 = .ok (.iload 4, 2) := by decide +kernel
theorem dX10_would_30 : decode cX10_would 30 = .ok (.bipush 100, 2) := by decide +kernel
theorem dX10_would_32 : decode cX10_would 32 = .ok (.if_icmp .lt 5, 3) := by decide +kernel
theorem dX10_would_35 : decode cX10_would 35 = .ok (.iconst (-1), 1) := by decide +kernel
theorem dX10_would_36 : decode cX10_would 36 = .ok (.ireturn, 1) := by decide +kernel
theorem dX10_would_37 : decode cX10_would 37 = .ok (.aload_n 0, 1) := by decide +kernel
theorem dX10_would_38 : decode cX10_would 38 = .ok (.getfield 51, 3) := by decide +kernel
theorem dX10_would_41 : decode cX10_would 41 = .ok (.iload_n 1, 1) := by decide +kernel
theorem dX10_would_42 : decode cX10_would 42 = .ok (.iload_n 2, 1) := by decide +kernel
theorem dX10_would_43 : decode cX10_would 43 = .ok (.iload_n 3, 1) := by decide +kernel
theorem dX10_would_44 : decode cX10_would 44 = .ok (.iload 4, 2) := by decide +kernel
theorem dX10_would_46 : decode cX10_would 46 = .ok (.invokevirtual 196, 3) := by decide +kernel
theorem dX10_would_49 : decode cX10_would 49 = .ok (.ireturn, 1) := by decide +kernel
theorem dX10_cast_0 : decode cX10_cast 0 = .ok (.aload_n 0, 1) := by decide +kernel
theorem dX10_cast_1 : decode cX10_cast 1 = .ok (.iload_n 1, 1) := by decide +kernel
theorem dX10_cast_2 : decode cX10_cast 2 = .ok (.iload_n 2, 1) := by decide +kernel
theorem dX10_cast_3 : decode cX10_cast 3 = .ok (.iload_n 3, 1) := by decide +kernel
theorem dX10_cast_4 : decode cX10_cast 4 = .ok (.invokevirtual 200, 3) := by decide +kernel
theorem dX10_cast_7 : decode cX10_cast 7 = .ok (.ifCond .eq 28, 3) := by decide +kernel
theorem dX10_cast_10 : decode cX10_cast 10 = .ok (.aload_n 0, 1) := by decide +kernel
theorem dX10_cast_11 : decode cX10_cast 11 = .ok (.getfield 42, 3) := by decide +kernel
theorem dX10_cast_14 : decode cX10_cast 14 = .ok (.getfield 204, 3) := by decide +kernel
theorem dX10_cast_17 : decode cX10_cast 17 = .ok (.bipush 24, 2) := by decide +kernel
theorem dX10_cast_19 : decode cX10_cast 19 = .ok (.if_icmp .ge 16, 3) := by decide +kernel
theorem dX10_cast_22 : decode cX10_cast 22 = .ok (.aload_n 0, 1) := by decide +kernel
theorem dX10_cast_23 : decode cX10_cast 23 = .ok (.getfield 42, 3) := by decide +kernel
theorem dX10_cast_26 : decode cX10_cast 26 = .ok (.getfield 207, 3) := by decide +kernel
theorem dX10_cast_29 : decode cX10_cast 29 = .ok (.iconst 1, 1) := by decide +kernel
theorem dX10_cast_30 : decode cX10_cast 30 = .ok (.iload_n 3, 1) := by decide +kernel
theorem dX10_cast_31 : decode cX10_cast 31 = .ok (.iadd, 1) := by decide +kernel
theorem dX10_cast_32 : decode cX10_cast 32 = .ok (.if_icmp .ge 5, 3) := by decide +kernel
theorem dX10_cast_35 : decode cX10_cast 35 = .ok (.iconst (-1), 1) := by decide +kernel
theorem dX10_cast_36 : decode cX10_cast 36 = .ok (.ireturn, 1) := by decide +kernel
theorem dX10_cast_37 : decode cX10_cast 37 = .ok (.aload_n 0, 1) := by decide +kernel
theorem dX10_cast_38 : decode cX10_cast 38 = .ok (.getfield 60, 3) := by decide +kernel
theorem dX10_cast_41 : decode cX10_cast 41 = .ok (.iconst 0, 1) := by decide +kernel
theorem dX10_cast_42 : decode cX10_cast 42 = .ok (.iload_n 1, 1) := by decide +kernel
theorem dX10_cast_43 : decode cX10_cast 43 = .ok (.iload_n 2, 1) := by decide +kernel
theorem dX10_cast_44 : decode cX10_cast 44 = .ok (.iload_n 3, 1) := by decide +kernel
theorem dX10_cast_45 : decode cX10_cast 45 = .ok (.invokevirtual 210, 3) := by decide +kernel
theorem dX10_cast_48 : decode cX10_cast 48 = .ok (.aload_n 0, 1) := by decide +kernel
theorem dX10_cast_49 : decode cX10_cast 49 = .ok (.getfield 42, 3) := by decide +kernel
theorem dX10_cast_52 : decode cX10_cast 52 = .ok (.getfield 204, 3) := by decide +kernel
theorem dX10_cast_55 : decode cX10_cast 55 = .ok (.iconst 1, 1) := by decide +kernel
theorem dX10_cast_56 : decode cX10_cast 56 = .ok (.isub, 1) := by decide +kernel
theorem dX10_cast_57 : decode cX10_cast 57 = .ok (.ireturn, 1) := by decide +kernel
theorem dX10_print_0 : decode cX10_print 0 = .ok (.aload_n 0, 1) := by decide +kernel
theorem dX10_print_1 : decode cX10_print 1 = .ok (.iload_n 1, 1) := by decide +kernel
theorem dX10_print_2 : decode cX10_print 2 = .ok (.invokevirtual 149, 3) := by decide +kernel
theorem dX10_print_5 : decode cX10_print 5 = .ok (.ifCond .eq 26, 3) := by decide +kernel
theorem dX10_print_8 : decode cX10_print 8 = .ok (.aload_n 0, 1) := by decide +kernel
theorem dX10_print_9 : decode cX10_print 9 = .ok (.getfield 42, 3) := by decide +kernel
theorem dX10_print_12 : decode cX10_print 12 = .ok (.getfield 168, 3) := by decide +kernel
theorem dX10_print_15 : decode cX10_print 15 = .ok (.bipush 40, 2) := by decide +kernel
theorem dX10_print_17 : decode cX10_print 17 = .ok (.if_icmp .ge 14, 3) := by decide +kernel
theorem dX10_print_20 : decode cX10_print 20 = .ok (.aload_n 0, 1) := by decide +kernel
theorem dX10_print_21 : decode cX10_print 21 = .ok (.getfield 42, 3) := by decide +kernel
theorem dX10_print_24 : decode cX10_print 24 = .ok (.getfield 207, 3) := by decide +kernel
theorem dX10_print_27 : decode cX10_print 27 = .ok (.iconst 1, 1) := by decide +kernel
theorem dX10_print_28 : decode cX10_print 28 = .ok (.if_icmp .ge 5, 3) := by decide +kernel
theorem dX10_print_31 : decode cX10_print 31 = .ok (.iconst (-1), 1) := by decide +kernel
theorem dX10_print_32 : decode cX10_print 32 = .ok (.ireturn, 1) := by decide +kernel
theorem dX10_print_33 : decode cX10_print 33 = .ok (.aload_n 0, 1) := by decide +kernel
theorem dX10_print_34 : decode cX10_print 34 = .ok (.getfield 60, 3) := by decide +kernel
theorem dX10_print_37 : decode cX10_print 37 = .ok (.iconst 1, 1) := by decide +kernel
theorem dX10_print_38 : decode cX10_print 38 = .ok (.iload_n 1, 1) := by decide +kernel
theorem dX10_print_39 : decode cX10_print 39 = .ok (.iconst 0, 1) := by decide +kernel
theorem dX10_print_40 : decode cX10_print 40 = .ok (.iconst 0, 1) := by decide +kernel
theorem dX10_print_41 : decode cX10_print 41 = .ok (.invokevirtual 210, 3) := by decide +kernel
theorem dX10_print_44 : decode cX10_print 44 = .ok (.aload_n 0, 1) := by decide +kernel
theorem dX10_print_45 : decode cX10_print 45 = .ok (.getfield 42, 3) := by decide +kernel
theorem dX10_print_48 : decode cX10_print 48 = .ok (.getfield 168, 3) := by decide +kernel
theorem dX10_print_51 : decode cX10_print 51 = .ok (.iconst 1, 1) := by decide +kernel
theorem dX10_print_52 : decode cX10_print 52 = .ok (.isub, 1) := by decide +kernel
theorem dX10_print_53 : decode cX10_print 53 = .ok (.ireturn, 1) := by decide +kernel
theorem dX10_crack_0 : decode cX10_crack 0 = .ok (.aload_n 0, 1) := by decide +kernel
theorem dX10_crack_1 : decode cX10_crack 1 = .ok (.iload_n 1, 1) := by decide +kernel
theorem dX10_crack_2 : decode cX10_crack 2 = .ok (.iload_n 2, 1) := by decide +kernel
theorem dX10_crack_3 : decode cX10_crack 3 = .ok (.invokevirtual 214, 3) := by decide +kernel
theorem dX10_crack_6 : decode cX10_crack 6 = .ok (.ifCond .ne 5, 3) := by decide +kernel
theorem dX10_crack_9 : decode cX10_crack 9 = .ok (.iconst 0, 1) := by decide +kernel
theorem dX10_crack_10 : decode cX10_crack 10 = .ok (.ireturn, 1) := by decide +kernel
theorem dX10_crack_11 : decode cX10_crack 11 = .ok (.aload_n 0, 1) := by decide +kernel
theorem dX10_crack_12 : decode cX10_crack 12 = .ok (.getfield 60, 3) := by decide +kernel
theorem dX10_crack_15 : decode cX10_crack 15 = .ok (.iconst 2, 1) := by decide +kernel
theorem dX10_crack_16 : decode cX10_crack 16 = .ok (.iload_n 1, 1) := by decide +kernel
theorem dX10_crack_17 : decode cX10_crack 17 = .ok (.iload_n 2, 1) := by decide +kernel
theorem dX10_crack_18 : decode cX10_crack 18 = .ok (.iconst 0, 1) := by decide +kernel
theorem dX10_crack_19 : decode cX10_crack 19 = .ok (.invokevirtual 210, 3) := by decide +kernel
theorem dX10_crack_22 : decode cX10_crack 22 = .ok (.iconst 1, 1) := by decide +kernel
theorem dX10_crack_23 : decode cX10_crack 23 = .ok (.ireturn, 1) := by decide +kernel
theorem dX10_year_0 : decode cX10_year 0 = .ok (.aload_n 0, 1) := by decide +kernel
theorem dX10_year_1 : decode cX10_year 1 = .ok (.getfield 42, 3) := by decide +kernel
theorem dX10_year_4 : decode cX10_year 4 = .ok (.getfield 218, 3) := by decide +kernel
theorem dX10_year_7 : decode cX10_year 7 = .ok (.sipush 999, 3) := by decide +kernel
theorem dX10_year_10 : decode cX10_year 10 = .ok (.if_icmp .lt 5, 3) := by decide +kernel
theorem dX10_year_13 : decode cX10_year 13 = .ok (.iconst (-1), 1) := by decide +kernel
theorem dX10_year_14 : decode cX10_year 14 = .ok (.ireturn, 1) := by decide +kernel
theorem dX10_year_15 : decode cX10_year 15 = .ok (.aload_n 0, 1) := by decide +kernel
theorem dX10_year_16 : decode cX10_year 16 = .ok (.getfield 60, 3) := by decide +kernel
theorem dX10_year_19 : decode cX10_year 19 = .ok (.iconst 3, 1) := by decide +kernel
theorem dX10_year_20 : decode cX10_year 20 = .ok (.iconst 0, 1) := by decide +kernel
theorem dX10_year_21 : decode cX10_year 21 = .ok (.iconst 0, 1) := by decide +kernel
theorem dX10_year_22 : decode cX10_year 22 = .ok (.iconst 0, 1) := by decide +kernel
theorem dX10_year_23 : decode cX10_year 23 = .ok (.invokevirtual 210, 3) := by decide +kernel
theorem dX10_year_26 : decode cX10_year 26 = .ok (.aload_n 0, 1) := by decide +kernel
theorem dX10_year_27 : decode cX10_year 27 = .ok (.getfield 42, 3) := by decide +kernel
theorem dX10_year_30 : decode cX10_year 30 = .ok (.getfield 218, 3) := by decide +kernel
theorem dX10_year_33 : decode cX10_year 33 = .ok (.ireturn, 1) := by decide +kernel
theorem dX10_undo_0 : decode cX10_undo 0 = .ok (.aload_n 0, 1) := by decide +kernel
theorem dX10_undo_1 : decode cX10_undo 1 = .ok (.getfield 60, 3) := by decide +kernel
theorem dX10_undo_4 : decode cX10_undo 4 = .ok (.invokevirtual 221, 3) := by decide +kernel
theorem dX10_undo_7 : decode cX10_undo 7 = .ok (.ireturn, 1) := by decide +kernel
theorem dX10_redo_0 : decode cX10_redo 0 = .ok (.aload_n 0, 1) := by decide +kernel
theorem dX10_redo_1 : decode cX10_redo 1 = .ok (.getfield 60, 3) := by decide +kernel
theorem dX10_redo_4 : decode cX10_redo 4 = .ok (.invokevirtual 225, 3) := by decide +kernel
theorem dX10_redo_7 : decode cX10_redo 7 = .ok (.ireturn, 1) := by decide +kernel
theorem dX10_whose_0 : decode cX10_whose 0 = .ok (.aload_n 0, 1) := by decide +kernel
theorem dX10_whose_1 : decode cX10_whose 1 = .ok (.iload_n 1, 1) := by decide +kernel
theorem dX10_whose_2 : decode cX10_whose 2 = .ok (.invokevirtual 149, 3) := by decide +kernel
theorem dX10_whose_5 : decode cX10_whose 5 = .ok (.ifCond .eq 18, 3) := by decide +kernel
theorem dX10_whose_8 : decode cX10_whose 8 = .ok (.iload_n 2, 1) := by decide +kernel
theorem dX10_whose_9 : decode cX10_whose 9 = .ok (.invokestatic 193, 3) := by decide +kernel
theorem dX10_whose_12 : decode cX10_whose 12 = .ok (.ifCond .eq 11, 3) := by decide +kernel
theorem dX10_whose_15 : decode cX10_whose 15 = .ok (.aload_n 0, 1) := by decide +kernel
theorem dX10_whose_16 : decode cX10_whose 16 = .ok (.iload_n 3, 1) := by decide +kernel
theorem dX10_whose_17 : decode cX10_whose 17 = .ok (.invokevirtual 180, 3) := by decide +kernel
theorem dX10_whose_20 : decode cX10_whose 20 = .ok (.ifCond .ne 5, 3) := by decide +kernel
theorem dX10_whose_23 : decode cX10_whose 23 = .ok (.iconst (-1), 1) := by decide +kernel
theorem dX10_whose_24 : decode cX10_whose 24 = .ok (.ireturn, 1) := by decide +kernel
theorem dX10_whose_25 : decode cX10_whose 25 = .ok (.iconst 0, 1) := by decide +kernel
theorem dX10_whose_26 : decode cX10_whose 26 = .ok (.istore 4, 2) := by decide +kernel
theorem dX10_whose_28 : decode cX10_whose 28 = .ok (.iconst 0, 1) := by decide +kernel
theorem dX10_whose_29 : decode cX10_whose 29 = .ok (.istore 5, 2) := by decide +kernel
theorem dX10_whose_31 : decode cX10_whose 31 = .ok (.iload 5, 2) := by decide +kernel
theorem dX10_whose_33 : decode cX10_whose 33 = .ok (.aload_n 0, 1) := by decide +kernel
theorem dX10_whose_34 : decode cX10_whose 34 = .ok (.getfield 23, 3) := by decide +kernel
theorem dX10_whose_37 : decode cX10_whose 37 = .ok (.getfield 132, 3) := by decide +kernel
theorem dX10_whose_40 : decode cX10_whose 40 = .ok (.if_icmp .ge 42, 3) := by decide +kernel
theorem dX10_whose_43 : decode cX10_whose 43 = .ok (.aload_n 0, 1) := by decide +kernel
theorem dX10_whose_44 : decode cX10_whose 44 = .ok (.getfield 51, 3) := by decide +kernel
theorem dX10_whose_47 : decode cX10_whose 47 = .ok (.aload_n 0, 1) := by decide +kernel
theorem dX10_whose_48 : decode cX10_whose 48 = .ok (.getfield 42, 3) := by decide +kernel
theorem dX10_whose_51 : decode cX10_whose 51 = .ok (.getfield 153, 3) := by decide +kernel
theorem dX10_whose_54 : decode cX10_whose 54 = .ok (.iload_n 1, 1) := by decide +kernel
theorem dX10_whose_55 : decode cX10_whose 55 = .ok (.iaload, 1) := by decide +kernel
theorem dX10_whose_56 : decode cX10_whose 56 = .ok (.iload 5, 2) := by decide +kernel
theorem dX10_whose_58 : decode cX10_whose 58 = .ok (.iload_n 2, 1) := by decide +kernel
theorem dX10_whose_59 : decode cX10_whose 59 = .ok (.iconst 0, 1) := by decide +kernel
theorem dX10_whose_60 : decode cX10_whose 60 = .ok (.invokevirtual 196, 3) := by decide +kernel
theorem dX10_whose_63 : decode cX10_whose 63 = .ok (.iload_n 3, 1) := by decide +kernel
theorem dX10_whose_64 : decode cX10_whose 64 = .ok (.if_icmp .ne 12, 3) := by decide +kernel
theorem dX10_whose_67 : decode cX10_whose 67 = .ok (.iload 4, 2) := by decide +kernel
theorem dX10_whose_69 : decode cX10_whose 69 = .ok (.iconst 1, 1) := by decide +kernel
theorem dX10_whose_70 : decode cX10_whose 70 = .ok (.iload 5, 2) := by decide +kernel
theorem dX10_whose_72 : decode cX10_whose 72 = .ok (.ishl, 1) := by decide +kernel
theorem dX10_whose_73 : decode cX10_whose 73 = .ok (.ior, 1) := by decide +kernel
theorem dX10_whose_74 : decode cX10_whose 74 = .ok (.istore 4, 2) := by decide +kernel
theorem dX10_whose_76 : decode cX10_whose 76 = .ok (.iinc 5 1, 3) := by decide +kernel
theorem dX10_whose_79 : decode cX10_whose 79 = .ok (.goto (-48), 3) := by decide +kernel
theorem dX10_whose_82 : decode cX10_whose 82 = .ok (.iload 4, 2) := by decide +kernel
theorem dX10_whose_84 : decode cX10_whose 84 = .ok (.ireturn, 1) := by decide +kernel
theorem dX10_made_0 : decode cX10_made 0 = .ok (.aload_n 0, 1) := by decide +kernel
theorem dX10_made_1 : decode cX10_made 1 = .ok (.iload_n 1, 1) := by decide +kernel
theorem dX10_made_2 : decode cX10_made 2 = .ok (.invokevirtual 180, 3) := by decide +kernel
theorem dX10_made_5 : decode cX10_made 5 = .ok (.ifCond .eq 13, 3) := by decide +kernel
theorem dX10_made_8 : decode cX10_made 8 = .ok (.iload_n 2, 1) := by decide +kernel
theorem dX10_made_9 : decode cX10_made 9 = .ok (.ifCond .lt 9, 3) := by decide +kernel
theorem dX10_made_12 : decode cX10_made 12 = .ok (.iload_n 2, 1) := by decide +kernel
theorem dX10_made_13 : decode cX10_made 13 = .ok (.bipush 12, 2) := by decide +kernel
theorem dX10_made_15 : decode cX10_made 15 = .ok (.if_icmp .le 5, 3) := by decide +kernel
theorem dX10_made_18 : decode cX10_made 18 = .ok (.iconst (-1), 1) := by decide +kernel
theorem dX10_made_19 : decode cX10_made 19 = .ok (.ireturn, 1) := by decide +kernel
theorem dX10_made_20 : decode cX10_made 20 = .ok (.iconst 0, 1) := by decide +kernel
theorem dX10_made_21 : decode cX10_made 21 = .ok (.istore_n 3, 1) := by decide +kernel
theorem dX10_made_22 : decode cX10_made 22 = .ok (.iconst 0, 1) := by decide +kernel
theorem dX10_made_23 : decode cX10_made 23 = .ok (.istore 4, 2) := by decide +kernel
theorem dX10_made_25 : decode cX10_made 25 = .ok (.iload 4, 2) := by decide +kernel
theorem dX10_made_27 : decode cX10_made 27 = .ok (.aload_n 0, 1) := by decide +kernel
theorem dX10_made_28 : decode cX10_made 28 = .ok (.getfield 42, 3) := by decide +kernel
theorem dX10_made_31 : decode cX10_made 31 = .ok (.getfield 204, 3) := by decide +kernel
theorem dX10_made_34 : decode cX10_made 34 = .ok (.if_icmp .ge 46, 3) := by decide +kernel
theorem dX10_made_37 : decode cX10_made 37 = .ok (.aload_n 0, 1) := by decide +kernel
theorem dX10_made_38 : decode cX10_made 38 = .ok (.iload 4, 2) := by decide +kernel
theorem dX10_made_40 : decode cX10_made 40 = .ok (.invokevirtual 228, 3) := by decide +kernel
theorem dX10_made_43 : decode cX10_made 43 = .ok (.istore 5, 2) := by decide +kernel
theorem dX10_made_45 : decode cX10_made 45 = .ok (.iload_n 1, 1) := by decide +kernel
theorem dX10_made_46 : decode cX10_made 46 = .ok (.iload 5, 2) := by decide +kernel
theorem dX10_made_48 : decode cX10_made 48 = .ok (.iconst (-1), 1) := by decide +kernel
theorem dX10_made_49 : decode cX10_made 49 = .ok (.ixor, 1) := by decide +kernel
theorem dX10_made_50 : decode cX10_made 50 = .ok (.iand, 1) := by decide +kernel
theorem dX10_made_51 : decode cX10_made 51 = .ok (.ifCond .ne 23, 3) := by decide +kernel
theorem dX10_made_54 : decode cX10_made 54 = .ok (.iload 5, 2) := by decide +kernel
theorem dX10_made_56 : decode cX10_made 56 = .ok (.iload_n 1, 1) := by decide +kernel
theorem dX10_made_57 : decode cX10_made 57 = .ok (.iconst (-1), 1) := by decide +kernel
theorem dX10_made_58 : decode cX10_made 58 = .ok (.ixor, 1) := by decide +kernel
theorem dX10_made_59 : decode cX10_made 59 = .ok (.iand, 1) := by decide +kernel
theorem dX10_made_60 : decode cX10_made 60 = .ok (.invokestatic 232, 3) := by decide +kernel
theorem dX10_made_63 : decode cX10_made 63 = .ok (.iload_n 2, 1) := by decide +kernel
theorem dX10_made_64 : decode cX10_made 64 = .ok (.if_icmp .gt 10, 3) := by decide +kernel
theorem dX10_made_67 : decode cX10_made 67 = .ok (.iload_n 3, 1) := by decide +kernel
theorem dX10_made_68 : decode cX10_made 68 = .ok (.iconst 1, 1) := by decide +kernel
theorem dX10_made_69 : decode cX10_made 69 = .ok (.iload 4, 2) := by decide +kernel
theorem dX10_made_71 : decode cX10_made 71 = .ok (.ishl, 1) := by decide +kernel
theorem dX10_made_72 : decode cX10_made 72 = .ok (.ior, 1) := by decide +kernel
theorem dX10_made_73 : decode cX10_made 73 = .ok (.istore_n 3, 1) := by decide +kernel
theorem dX10_made_74 : decode cX10_made 74 = .ok (.iinc 4 1, 3) := by decide +kernel
theorem dX10_made_77 : decode cX10_made 77 = .ok (.goto (-52), 3) := by decide +kernel
theorem dX10_made_80 : decode cX10_made 80 = .ok (.iload_n 3, 1) := by decide +kernel
theorem dX10_made_81 : decode cX10_made 81 = .ok (.ireturn, 1) := by decide +kernel
theorem dX10_apart_0 : decode cX10_apart 0 = .ok (.aload_n 0, 1) := by decide +kernel
theorem dX10_apart_1 : decode cX10_apart 1 = .ok (.iload_n 1, 1) := by decide +kernel
theorem dX10_apart_2 : decode cX10_apart 2 = .ok (.invokevirtual 149, 3) := by decide +kernel
theorem dX10_apart_5 : decode cX10_apart 5 = .ok (.ifCond .eq 11, 3) := by decide +kernel
theorem dX10_apart_8 : decode cX10_apart 8 = .ok (.aload_n 0, 1) := by decide +kernel
theorem dX10_apart_9 : decode cX10_apart 9 = .ok (.iload_n 2, 1) := by decide +kernel
theorem dX10_apart_10 : decode cX10_apart 10 = .ok (.invokevirtual 149, 3) := by decide +kernel
theorem dX10_apart_13 : decode cX10_apart 13 = .ok (.ifCond .ne 5, 3) := by decide +kernel
theorem dX10_apart_16 : decode cX10_apart 16 = .ok (.iconst (-1), 1) := by decide +kernel
theorem dX10_apart_17 : decode cX10_apart 17 = .ok (.ireturn, 1) := by decide +kernel
theorem dX10_apart_18 : decode cX10_apart 18 = .ok (.iload_n 3, 1) := by decide +kernel
theorem dX10_apart_19 : decode cX10_apart 19 = .ok (.ifCond .eq 11, 3) := by decide +kernel
theorem dX10_apart_22 : decode cX10_apart 22 = .ok (.aload_n 0, 1) := by decide +kernel
theorem dX10_apart_23 : decode cX10_apart 23 = .ok (.iload_n 2, 1) := by decide +kernel
theorem dX10_apart_24 : decode cX10_apart 24 = .ok (.invokevirtual 228, 3) := by decide +kernel
theorem dX10_apart_27 : decode cX10_apart 27 = .ok (.goto 12, 3) := by decide +kernel
theorem dX10_apart_30 : decode cX10_apart 30 = .ok (.aload_n 0, 1) := by decide +kernel
theorem dX10_apart_31 : decode cX10_apart 31 = .ok (.getfield 42, 3) := by decide +kernel
theorem dX10_apart_34 : decode cX10_apart 34 = .ok (.getfield 153, 3) := by decide +kernel
theorem dX10_apart_37 : decode cX10_apart 37 = .ok (.iload_n 2, 1) := by decide +kernel
theorem dX10_apart_38 : decode cX10_apart 38 = .ok (.iaload, 1) := by decide +kernel
theorem dX10_apart_39 : decode cX10_apart 39 = .ok (.istore 4, 2) := by decide +kernel
theorem dX10_apart_41 : decode cX10_apart 41 = .ok (.aload_n 0, 1) := by decide +kernel
theorem dX10_apart_42 : decode cX10_apart 42 = .ok (.getfield 42, 3) := by decide +kernel
theorem dX10_apart_45 : decode cX10_apart 45 = .ok (.getfield 153, 3) := by decide +kernel
theorem dX10_apart_48 : decode cX10_apart 48 = .ok (.iload_n 1, 1) := by decide +kernel
theorem dX10_apart_49 : decode cX10_apart 49 = .ok (.iaload, 1) := by decide +kernel
theorem dX10_apart_50 : decode cX10_apart 50 = .ok (.iload 4, 2) := by decide +kernel
theorem dX10_apart_52 : decode cX10_apart 52 = .ok (.ixor, 1) := by decide +kernel
theorem dX10_apart_53 : decode cX10_apart 53 = .ok (.invokestatic 232, 3) := by decide +kernel
theorem dX10_apart_56 : decode cX10_apart 56 = .ok (.ireturn, 1) := by decide +kernel
theorem dX10_heats_0 : decode cX10_heats 0 = .ok (.aload_n 0, 1) := by decide +kernel
theorem dX10_heats_1 : decode cX10_heats 1 = .ok (.iload_n 1, 1) := by decide +kernel
theorem dX10_heats_2 : decode cX10_heats 2 = .ok (.invokevirtual 149, 3) := by decide +kernel
theorem dX10_heats_5 : decode cX10_heats 5 = .ok (.ifCond .eq 19, 3) := by decide +kernel
theorem dX10_heats_8 : decode cX10_heats 8 = .ok (.aload_n 0, 1) := by decide +kernel
theorem dX10_heats_9 : decode cX10_heats 9 = .ok (.iload_n 2, 1) := by decide +kernel
theorem dX10_heats_10 : decode cX10_heats 10 = .ok (.invokevirtual 190, 3) := by decide +kernel
theorem dX10_heats_13 : decode cX10_heats 13 = .ok (.ifCond .eq 11, 3) := by decide +kernel
theorem dX10_heats_16 : decode cX10_heats 16 = .ok (.aload_n 0, 1) := by decide +kernel
theorem dX10_heats_17 : decode cX10_heats 17 = .ok (.iload_n 3, 1) := by decide +kernel
theorem dX10_heats_18 : decode cX10_heats 18 = .ok (.invokevirtual 180, 3) := by decide +kernel
theorem dX10_heats_21 : decode cX10_heats 21 = .ok (.ifCond .ne 5, 3) := by decide +kernel
theorem dX10_heats_24 : decode cX10_heats 24 = .ok (.iconst (-1), 1) := by decide +kernel
theorem dX10_heats_25 : decode cX10_heats 25 = .ok (.ireturn, 1) := by decide +kernel
theorem dX10_heats_26 : decode cX10_heats 26 = .ok (.iconst 0, 1) := by decide +kernel
theorem dX10_heats_27 : decode cX10_heats 27 = .ok (.istore 4, 2) := by decide +kernel
theorem dX10_heats_29 : decode cX10_heats 29 = .ok (.iconst 0, 1) := by decide +kernel
theorem dX10_heats_30 : decode cX10_heats 30 = .ok (.istore 5, 2) := by decide +kernel
theorem dX10_heats_32 : decode cX10_heats 32 = .ok (.iload 5, 2) := by decide +kernel
theorem dX10_heats_34 : decode cX10_heats 34 = .ok (.bipush 10, 2) := by decide +kernel
theorem dX10_heats_36 : decode cX10_heats 36 = .ok (.if_icmp .ge 42, 3) := by decide +kernel
theorem dX10_heats_39 : decode cX10_heats 39 = .ok (.aload_n 0, 1) := by decide +kernel
theorem dX10_heats_40 : decode cX10_heats 40 = .ok (.getfield 51, 3) := by decide +kernel
theorem dX10_heats_43 : decode cX10_heats 43 = .ok (.aload_n 0, 1) := by decide +kernel
theorem dX10_heats_44 : decode cX10_heats 44 = .ok (.getfield 42, 3) := by decide +kernel
theorem dX10_heats_47 : decode cX10_heats 47 = .ok (.getfield 153, 3) := by decide +kernel
theorem dX10_heats_50 : decode cX10_heats 50 = .ok (.iload_n 1, 1) := by decide +kernel
theorem dX10_heats_51 : decode cX10_heats 51 = .ok (.iaload, 1) := by decide +kernel
theorem dX10_heats_52 : decode cX10_heats 52 = .ok (.iload_n 2, 1) := by decide +kernel
theorem dX10_heats_53 : decode cX10_heats 53 = .ok (.iload 5, 2) := by decide +kernel
theorem dX10_heats_55 : decode cX10_heats 55 = .ok (.iconst 0, 1) := by decide +kernel
theorem dX10_heats_56 : decode cX10_heats 56 = .ok (.invokevirtual 196, 3) := by decide +kernel
theorem dX10_heats_59 : decode cX10_heats 59 = .ok (.iload_n 3, 1) := by decide +kernel
theorem dX10_heats_60 : decode cX10_heats 60 = .ok (.if_icmp .ne 12, 3) := by decide +kernel
theorem dX10_heats_63 : decode cX10_heats 63 = .ok (.iload 4, 2) := by decide +kernel
theorem dX10_heats_65 : decode cX10_heats 65 = .ok (.iconst 1, 1) := by decide +kernel
theorem dX10_heats_66 : decode cX10_heats 66 = .ok (.iload 5, 2) := by decide +kernel
theorem dX10_heats_68 : decode cX10_heats 68 = .ok (.ishl, 1) := by decide +kernel
theorem dX10_heats_69 : decode cX10_heats 69 = .ok (.ior, 1) := by decide +kernel
theorem dX10_heats_70 : decode cX10_heats 70 = .ok (.istore 4, 2) := by decide +kernel
theorem dX10_heats_72 : decode cX10_heats 72 = .ok (.iinc 5 1, 3) := by decide +kernel
theorem dX10_heats_75 : decode cX10_heats 75 = .ok (.goto (-43), 3) := by decide +kernel
theorem dX10_heats_78 : decode cX10_heats 78 = .ok (.iload 4, 2) := by decide +kernel
theorem dX10_heats_80 : decode cX10_heats 80 = .ok (.ireturn, 1) := by decide +kernel
theorem dX10_luck_0 : decode cX10_luck 0 = .ok (.aload_n 0, 1) := by decide +kernel
theorem dX10_luck_1 : decode cX10_luck 1 = .ok (.iload_n 1, 1) := by decide +kernel
theorem dX10_luck_2 : decode cX10_luck 2 = .ok (.iload_n 2, 1) := by decide +kernel
theorem dX10_luck_3 : decode cX10_luck 3 = .ok (.iload_n 3, 1) := by decide +kernel
theorem dX10_luck_4 : decode cX10_luck 4 = .ok (.invokevirtual 200, 3) := by decide +kernel
theorem dX10_luck_7 : decode cX10_luck 7 = .ok (.ifCond .eq 12, 3) := by decide +kernel
theorem dX10_luck_10 : decode cX10_luck 10 = .ok (.aload_n 0, 1) := by decide +kernel
theorem dX10_luck_11 : decode cX10_luck 11 = .ok (.iload 4, 2) := by decide +kernel
theorem dX10_luck_13 : decode cX10_luck 13 = .ok (.invokevirtual 180, 3) := by decide +kernel
theorem dX10_luck_16 : decode cX10_luck 16 = .ok (.ifCond .ne 5, 3) := by decide +kernel
theorem dX10_luck_19 : decode cX10_luck 19 = .ok (.iconst (-1), 1) := by decide +kernel
theorem dX10_luck_20 : decode cX10_luck 20 = .ok (.ireturn, 1) := by decide +kernel
theorem dX10_luck_21 : decode cX10_luck 21 = .ok (.iconst 0, 1) := by decide +kernel
theorem dX10_luck_22 : decode cX10_luck 22 = .ok (.istore 5, 2) := by decide +kernel
theorem dX10_luck_24 : decode cX10_luck 24 = .ok (.iconst 0, 1) := by decide +kernel
theorem dX10_luck_25 : decode cX10_luck 25 = .ok (.istore 6, 2) := by decide +kernel
theorem dX10_luck_27 : decode cX10_luck 27 = .ok (.iload 6, 2) := by decide +kernel
theorem dX10_luck_29 : decode cX10_luck 29 = .ok (.bipush 100, 2) := by decide +kernel
theorem dX10_luck_31 : decode cX10_luck 31 = .ok (.if_icmp .ge 37, 3) := by decide +kernel
theorem dX10_luck_34 : decode cX10_luck 34 = .ok (.aload_n 0, 1) := by decide +kernel
theorem dX10_luck_35 : decode cX10_luck 35 = .ok (.getfield 51, 3) := by decide +kernel
theorem dX10_luck_38 : decode cX10_luck 38 = .ok (.aload_n 0, 1) := by decide +kernel
theorem dX10_luck_39 : decode cX10_luck 39 = .ok (.getfield 42, 3) := by decide +kernel
theorem dX10_luck_42 : decode cX10_luck 42 = .ok (.getfield 153, 3) := by decide +kernel
theorem dX10_luck_45 : decode cX10_luck 45 = .ok (.iload_n 1, 1) := by decide +kernel
theorem dX10_luck_46 : decode cX10_luck 46 = .ok (.iaload, 1) := by decide +kernel
theorem dX10_luck_47 : decode cX10_luck 47 = .ok (.iload_n 2, 1) := by decide +kernel
theorem dX10_luck_48 : decode cX10_luck 48 = .ok (.iload_n 3, 1) := by decide +kernel
theorem dX10_luck_49 : decode cX10_luck 49 = .ok (.iload 6, 2) := by decide +kernel
theorem dX10_luck_51 : decode cX10_luck 51 = .ok (.invokevirtual 196, 3) := by decide +kernel
theorem dX10_luck_54 : decode cX10_luck 54 = .ok (.iload 4, 2) := by decide +kernel
theorem dX10_luck_56 : decode cX10_luck 56 = .ok (.if_icmp .ne 6, 3) := by decide +kernel
theorem dX10_luck_59 : decode cX10_luck 59 = .ok (.iinc 5 1, 3) := by decide +kernel
theorem dX10_luck_62 : decode cX10_luck 62 = .ok (.iinc 6 1, 3) := by decide +kernel
theorem dX10_luck_65 : decode cX10_luck 65 = .ok (.goto (-38), 3) := by decide +kernel
theorem dX10_luck_68 : decode cX10_luck 68 = .ok (.iload 5, 2) := by decide +kernel
theorem dX10_luck_70 : decode cX10_luck 70 = .ok (.ireturn, 1) := by decide +kernel
theorem dX10_likely_0 : decode cX10_likely 0 = .ok (.aload_n 0, 1) := by decide +kernel
theorem dX10_likely_1 : decode cX10_likely 1 = .ok (.iload_n 1, 1) := by decide +kernel
theorem dX10_likely_2 : decode cX10_likely 2 = .ok (.iload_n 2, 1) := by decide +kernel
theorem dX10_likely_3 : decode cX10_likely 3 = .ok (.iload_n 3, 1) := by decide +kernel
theorem dX10_likely_4 : decode cX10_likely 4 = .ok (.invokevirtual 200, 3) := by decide +kernel
theorem dX10_likely_7 : decode cX10_likely 7 = .ok (.ifCond .eq 14, 3) := by decide +kernel
theorem dX10_likely_10 : decode cX10_likely 10 = .ok (.iload 4, 2) := by decide +kernel
theorem dX10_likely_12 : decode cX10_likely 12 = .ok (.ifCond .lt 9, 3) := by decide +kernel
theorem dX10_likely_15 : decode cX10_likely 15 = .ok (.iload 4, 2) := by decide +kernel
theorem dX10_likely_17 : decode cX10_likely 17 = .ok (.iconst 1, 1) := by decide +kernel
theorem dX10_likely_18 : decode cX10_likely 18 = .ok (.if_icmp .le 5, 3) := by decide +kernel
theorem dX10_likely_21 : decode cX10_likely 21 = .ok (.iconst (-1), 1) := by decide +kernel
theorem dX10_likely_22 : decode cX10_likely 22 = .ok (.ireturn, 1) := by decide +kernel
theorem dX10_likely_23 : decode cX10_likely 23 = .ok (.aload_n 0, 1) := by decide +kernel
theorem dX10_likely_24 : decode cX10_likely 24 = .ok (.invokevirtual 237, 3) := by decide +kernel
theorem dX10_likely_27 : decode cX10_likely 27 = .ok (.iconst 0, 1) := by decide +kernel
theorem dX10_likely_28 : decode cX10_likely 28 = .ok (.istore 5, 2) := by decide +kernel
theorem dX10_likely_30 : decode cX10_likely 30 = .ok (.iload 5, 2) := by decide +kernel
theorem dX10_likely_32 : decode cX10_likely 32 = .ok (.bipush 100, 2) := by decide +kernel
theorem dX10_likely_34 : decode cX10_likely 34 = .ok (.if_icmp .ge 51, 3) := by decide +kernel
theorem dX10_likely_37 : decode cX10_likely 37 = .ok (.aload_n 0, 1) := by decide +kernel
theorem dX10_likely_38 : decode cX10_likely 38 = .ok (.getfield 51, 3) := by decide +kernel
theorem dX10_likely_41 : decode cX10_likely 41 = .ok (.aload_n 0, 1) := by decide +kernel
theorem dX10_likely_42 : decode cX10_likely 42 = .ok (.getfield 42, 3) := by decide +kernel
theorem dX10_likely_45 : decode cX10_likely 45 = .ok (.getfield 153, 3) := by decide +kernel
theorem dX10_likely_48 : decode cX10_likely 48 = .ok (.iload_n 1, 1) := by decide +kernel
theorem dX10_likely_49 : decode cX10_likely 49 = .ok (.iaload, 1) := by decide +kernel
theorem dX10_likely_50 : decode cX10_likely 50 = .ok (.iload_n 2, 1) := by decide +kernel
theorem dX10_likely_51 : decode cX10_likely 51 = .ok (.iload_n 3, 1) := by decide +kernel
theorem dX10_likely_52 : decode cX10_likely 52 = .ok (.iload 5, 2) := by decide +kernel
theorem dX10_likely_54 : decode cX10_likely 54 = .ok (.invokevirtual 196, 3) := by decide +kernel
theorem dX10_likely_57 : decode cX10_likely 57 = .ok (.istore 6, 2) := by decide +kernel
theorem dX10_likely_59 : decode cX10_likely 59 = .ok (.aload_n 0, 1) := by decide +kernel
theorem dX10_likely_60 : decode cX10_likely 60 = .ok (.iload 6, 2) := by decide +kernel
theorem dX10_likely_62 : decode cX10_likely 62 = .ok (.invokevirtual 180, 3) := by decide +kernel
theorem dX10_likely_65 : decode cX10_likely 65 = .ok (.ifCond .eq 14, 3) := by decide +kernel
theorem dX10_likely_68 : decode cX10_likely 68 = .ok (.aload_n 0, 1) := by decide +kernel
theorem dX10_likely_69 : decode cX10_likely 69 = .ok (.getfield 100, 3) := by decide +kernel
theorem dX10_likely_72 : decode cX10_likely 72 = .ok (.iload 6, 2) := by decide +kernel
theorem dX10_likely_74 : decode cX10_likely 74 = .ok (.dup2, 1) := by decide +kernel
theorem dX10_likely_75 : decode cX10_likely 75 = .ok (.iaload, 1) := by decide +kernel
theorem dX10_likely_76 : decode cX10_likely 76 = .ok (.iconst 1, 1) := by decide +kernel
theorem dX10_likely_77 : decode cX10_likely 77 = .ok (.iadd, 1) := by decide +kernel
theorem dX10_likely_78 : decode cX10_likely 78 = .ok (.iastore, 1) := by decide +kernel
theorem dX10_likely_79 : decode cX10_likely 79 = .ok (.iinc 5 1, 3) := by decide +kernel
theorem dX10_likely_82 : decode cX10_likely 82 = .ok (.goto (-52), 3) := by decide +kernel
theorem dX10_likely_85 : decode cX10_likely 85 = .ok (.iconst 0, 1) := by decide +kernel
theorem dX10_likely_86 : decode cX10_likely 86 = .ok (.istore 5, 2) := by decide +kernel
theorem dX10_likely_88 : decode cX10_likely 88 = .ok (.iconst 1, 1) := by decide +kernel
theorem dX10_likely_89 : decode cX10_likely 89 = .ok (.istore 6, 2) := by decide +kernel
theorem dX10_likely_91 : decode cX10_likely 91 = .ok (.iload 6, 2) := by decide +kernel
theorem dX10_likely_93 : decode cX10_likely 93 = .ok (.aload_n 0, 1) := by decide +kernel
theorem dX10_likely_94 : decode cX10_likely 94 = .ok (.getfield 23, 3) := by decide +kernel
theorem dX10_likely_97 : decode cX10_likely 97 = .ok (.invokevirtual 240, 3) := by decide +kernel
theorem dX10_likely_100 : decode cX10_likely 100 = .ok (.if_icmp .ge 30, 3) := by decide +kernel
theorem dX10_likely_103 : decode cX10_likely 103 = .ok (.aload_n 0, 1) := by decide +kernel
theorem dX10_likely_104 : decode cX10_likely 104 = .ok (.getfield 100, 3) := by decide +kernel
theorem dX10_likely_107 : decode cX10_likely 107 = .ok (.iload 6, 2) := by decide +kernel
theorem dX10_likely_109 : decode cX10_likely 109 = .ok (.iaload, 1) := by decide +kernel
theorem dX10_likely_110 : decode cX10_likely 110 = .ok (.aload_n 0, 1) := by decide +kernel
theorem dX10_likely_111 : decode cX10_likely 111 = .ok (.getfield 100, 3) := by decide +kernel
theorem dX10_likely_114 : decode cX10_likely 114 = .ok (.iload 5, 2) := by decide +kernel
theorem dX10_likely_116 : decode cX10_likely 116 = .ok (.iaload, 1) := by decide +kernel
theorem dX10_likely_117 : decode cX10_likely 117 = .ok (.if_icmp .le 7, 3) := by decide +kernel
theorem dX10_likely_120 : decode cX10_likely 120 = .ok (.iload 6, 2) := by decide +kernel
theorem dX10_likely_122 : decode cX10_likely 122 = .ok (.istore 5, 2) := by decide +kernel
theorem dX10_likely_124 : decode cX10_likely 124 = .ok (.iinc 6 1, 3) := by decide +kernel
theorem dX10_likely_127 : decode cX10_likely 127 = .ok (.goto (-36), 3) := by decide +kernel
theorem dX10_likely_130 : decode cX10_likely 130 = .ok (.iload 4, 2) := by decide +kernel
theorem dX10_likely_132 : decode cX10_likely 132 = .ok (.ifCond .ne 8, 3) := by decide +kernel
theorem dX10_likely_135 : decode cX10_likely 135 = .ok (.iload 5, 2) := by decide +kernel
theorem dX10_likely_137 : decode cX10_likely 137 = .ok (.goto 10, 3) := by decide +kernel
theorem dX10_likely_140 : decode cX10_likely 140 = .ok (.aload_n 0, 1) := by decide +kernel
theorem dX10_likely_141 : decode cX10_likely 141 = .ok (.getfield 100, 3) := by decide +kernel
theorem dX10_likely_144 : decode cX10_likely 144 = .ok (.iload 5, 2) := by decide +kernel
theorem dX10_likely_146 : decode cX10_likely 146 = .ok (.iaload, 1) := by decide +kernel
theorem dX10_likely_147 : decode cX10_likely 147 = .ok (.ireturn, 1) := by decide +kernel
theorem dX10_fades_0 : decode cX10_fades 0 = .ok (.aload_n 0, 1) := by decide +kernel
theorem dX10_fades_1 : decode cX10_fades 1 = .ok (.iload_n 1, 1) := by decide +kernel
theorem dX10_fades_2 : decode cX10_fades 2 = .ok (.iload_n 2, 1) := by decide +kernel
theorem dX10_fades_3 : decode cX10_fades 3 = .ok (.iload_n 3, 1) := by decide +kernel
theorem dX10_fades_4 : decode cX10_fades 4 = .ok (.invokevirtual 200, 3) := by decide +kernel
theorem dX10_fades_7 : decode cX10_fades 7 = .ok (.ifCond .ne 5, 3) := by decide +kernel
theorem dX10_fades_10 : decode cX10_fades 10 = .ok (.iconst (-1), 1) := by decide +kernel
theorem dX10_fades_11 : decode cX10_fades 11 = .ok (.ireturn, 1) := by decide +kernel
theorem dX10_fades_12 : decode cX10_fades 12 = .ok (.aload_n 0, 1) := by decide +kernel
theorem dX10_fades_13 : decode cX10_fades 13 = .ok (.aload_n 0, 1) := by decide +kernel
theorem dX10_fades_14 : decode cX10_fades 14 = .ok (.getfield 42, 3) := by decide +kernel
theorem dX10_fades_17 : decode cX10_fades 17 = .ok (.getfield 153, 3) := by decide +kernel
theorem dX10_fades_20 : decode cX10_fades 20 = .ok (.iload_n 1, 1) := by decide +kernel
theorem dX10_fades_21 : decode cX10_fades 21 = .ok (.iaload, 1) := by decide +kernel
theorem dX10_fades_22 : decode cX10_fades 22 = .ok (.iload_n 2, 1) := by decide +kernel
theorem dX10_fades_23 : decode cX10_fades 23 = .ok (.iload_n 3, 1) := by decide +kernel
theorem dX10_fades_24 : decode cX10_fades 24 = .ok (.invokevirtual 244, 3) := by decide +kernel
theorem dX10_fades_27 : decode cX10_fades 27 = .ok (.pop, 1) := by decide +kernel
theorem dX10_fades_28 : decode cX10_fades 28 = .ok (.aload_n 0, 1) := by decide +kernel
theorem dX10_fades_29 : decode cX10_fades 29 = .ok (.getfield 100, 3) := by decide +kernel
theorem dX10_fades_32 : decode cX10_fades 32 = .ok (.iconst 0, 1) := by decide +kernel
theorem dX10_fades_33 : decode cX10_fades 33 = .ok (.iaload, 1) := by decide +kernel
theorem dX10_fades_34 : decode cX10_fades 34 = .ok (.iconst 1, 1) := by decide +kernel
theorem dX10_fades_35 : decode cX10_fades 35 = .ok (.isub, 1) := by decide +kernel
theorem dX10_fades_36 : decode cX10_fades 36 = .ok (.ireturn, 1) := by decide +kernel
theorem dX10_goRound_0 : decode cX10_goRound 0 = .ok (.aload_n 0, 1) := by decide +kernel
theorem dX10_goRound_1 : decode cX10_goRound 1 = .ok (.invokevirtual 237, 3) := by decide +kernel
theorem dX10_goRound_4 : decode cX10_goRound 4 = .ok (.iload_n 1, 1) := by decide +kernel
theorem dX10_goRound_5 : decode cX10_goRound 5 = .ok (.istore 4, 2) := by decide +kernel
theorem dX10_goRound_7 : decode cX10_goRound 7 = .ok (.iconst 1, 1) := by decide +kernel
theorem dX10_goRound_8 : decode cX10_goRound 8 = .ok (.istore 5, 2) := by decide +kernel
theorem dX10_goRound_10 : decode cX10_goRound 10 = .ok (.iload 5, 2) := by decide +kernel
theorem dX10_goRound_12 : decode cX10_goRound 12 = .ok (.aload_n 0, 1) := by decide +kernel
theorem dX10_goRound_13 : decode cX10_goRound 13 = .ok (.getfield 23, 3) := by decide +kernel
theorem dX10_goRound_16 : decode cX10_goRound 16 = .ok (.invokevirtual 240, 3) := by decide +kernel
theorem dX10_goRound_19 : decode cX10_goRound 19 = .ok (.if_icmp .gt 51, 3) := by decide +kernel
theorem dX10_goRound_22 : decode cX10_goRound 22 = .ok (.aload_n 0, 1) := by decide +kernel
theorem dX10_goRound_23 : decode cX10_goRound 23 = .ok (.iload 4, 2) := by decide +kernel
theorem dX10_goRound_25 : decode cX10_goRound 25 = .ok (.invokevirtual 180, 3) := by decide +kernel
theorem dX10_goRound_28 : decode cX10_goRound 28 = .ok (.ifCond .eq 42, 3) := by decide +kernel
theorem dX10_goRound_31 : decode cX10_goRound 31 = .ok (.aload_n 0, 1) := by decide +kernel
theorem dX10_goRound_32 : decode cX10_goRound 32 = .ok (.getfield 100, 3) := by decide +kernel
theorem dX10_goRound_35 : decode cX10_goRound 35 = .ok (.iload 4, 2) := by decide +kernel
theorem dX10_goRound_37 : decode cX10_goRound 37 = .ok (.iaload, 1) := by decide +kernel
theorem dX10_goRound_38 : decode cX10_goRound 38 = .ok (.ifCond .ne 32, 3) := by decide +kernel
theorem dX10_goRound_41 : decode cX10_goRound 41 = .ok (.aload_n 0, 1) := by decide +kernel
theorem dX10_goRound_42 : decode cX10_goRound 42 = .ok (.getfield 100, 3) := by decide +kernel
theorem dX10_goRound_45 : decode cX10_goRound 45 = .ok (.iload 4, 2) := by decide +kernel
theorem dX10_goRound_47 : decode cX10_goRound 47 = .ok (.iload 5, 2) := by decide +kernel
theorem dX10_goRound_49 : decode cX10_goRound 49 = .ok (.iastore, 1) := by decide +kernel
theorem dX10_goRound_50 : decode cX10_goRound 50 = .ok (.aload_n 0, 1) := by decide +kernel
theorem dX10_goRound_51 : decode cX10_goRound 51 = .ok (.getfield 51, 3) := by decide +kernel
theorem dX10_goRound_54 : decode cX10_goRound 54 = .ok (.iload 4, 2) := by decide +kernel
theorem dX10_goRound_56 : decode cX10_goRound 56 = .ok (.iload_n 2, 1) := by decide +kernel
theorem dX10_goRound_57 : decode cX10_goRound 57 = .ok (.iload_n 3, 1) := by decide +kernel
theorem dX10_goRound_58 : decode cX10_goRound 58 = .ok (.iconst 0, 1) := by decide +kernel
theorem dX10_goRound_59 : decode cX10_goRound 59 = .ok (.invokevirtual 196, 3) := by decide +kernel
theorem dX10_goRound_62 : decode cX10_goRound 62 = .ok (.istore 4, 2) := by decide +kernel
theorem dX10_goRound_64 : decode cX10_goRound 64 = .ok (.iinc 5 1, 3) := by decide +kernel
theorem dX10_goRound_67 : decode cX10_goRound 67 = .ok (.goto (-57), 3) := by decide +kernel
theorem dX10_goRound_70 : decode cX10_goRound 70 = .ok (.iload 4, 2) := by decide +kernel
theorem dX10_goRound_72 : decode cX10_goRound 72 = .ok (.ireturn, 1) := by decide +kernel
theorem dX10_clearByRow_0 : decode cX10_clearByRow 0 = .ok (.iconst 0, 1) := by decide +kernel
theorem dX10_clearByRow_1 : decode cX10_clearByRow 1 = .ok (.istore_n 1, 1) := by decide +kernel
theorem dX10_clearByRow_2 : decode cX10_clearByRow 2 = .ok (.iload_n 1, 1) := by decide +kernel
theorem dX10_clearByRow_3 : decode cX10_clearByRow 3 = .ok (.aload_n 0, 1) := by decide +kernel
theorem dX10_clearByRow_4 : decode cX10_clearByRow 4 = .ok (.getfield 23, 3) := by decide +kernel
theorem dX10_clearByRow_7 : decode cX10_clearByRow 7 = .ok (.invokevirtual 240, 3) := by decide +kernel
theorem dX10_clearByRow_10 : decode cX10_clearByRow 10 = .ok (.if_icmp .ge 16, 3) := by decide +kernel
theorem dX10_clearByRow_13 : decode cX10_clearByRow 13 = .ok (.aload_n 0, 1) := by decide +kernel
theorem dX10_clearByRow_14 : decode cX10_clearByRow 14 = .ok (.getfield 100, 3) := by decide +kernel
theorem dX10_clearByRow_17 : decode cX10_clearByRow 17 = .ok (.iload_n 1, 1) := by decide +kernel
theorem dX10_clearByRow_18 : decode cX10_clearByRow 18 = .ok (.iconst 0, 1) := by decide +kernel
theorem dX10_clearByRow_19 : decode cX10_clearByRow 19 = .ok (.iastore, 1) := by decide +kernel
theorem dX10_clearByRow_20 : decode cX10_clearByRow 20 = .ok (.iinc 1 1, 3) := by decide +kernel
theorem dX10_clearByRow_23 : decode cX10_clearByRow 23 = .ok (.goto (-21), 3) := by decide +kernel
theorem dX10_clearByRow_26 : decode cX10_clearByRow 26 = .ok (.return_, 1) := by decide +kernel
theorem dX10_kin_0 : decode cX10_kin 0 = .ok (.aload_n 0, 1) := by decide +kernel
theorem dX10_kin_1 : decode cX10_kin 1 = .ok (.iload_n 1, 1) := by decide +kernel
theorem dX10_kin_2 : decode cX10_kin 2 = .ok (.invokevirtual 149, 3) := by decide +kernel
theorem dX10_kin_5 : decode cX10_kin 5 = .ok (.ifCond .eq 20, 3) := by decide +kernel
theorem dX10_kin_8 : decode cX10_kin 8 = .ok (.aload_n 0, 1) := by decide +kernel
theorem dX10_kin_9 : decode cX10_kin 9 = .ok (.iload_n 2, 1) := by decide +kernel
theorem dX10_kin_10 : decode cX10_kin 10 = .ok (.invokevirtual 149, 3) := by decide +kernel
theorem dX10_kin_13 : decode cX10_kin 13 = .ok (.ifCond .eq 12, 3) := by decide +kernel
theorem dX10_kin_16 : decode cX10_kin 16 = .ok (.iload_n 3, 1) := by decide +kernel
theorem dX10_kin_17 : decode cX10_kin 17 = .ok (.ifCond .lt 8, 3) := by decide +kernel
theorem dX10_kin_20 : decode cX10_kin 20 = .ok (.iload_n 3, 1) := by decide +kernel
theorem dX10_kin_21 : decode cX10_kin 21 = .ok (.iconst 1, 1) := by decide +kernel
theorem dX10_kin_22 : decode cX10_kin 22 = .ok (.if_icmp .le 5, 3) := by decide +kernel
theorem dX10_kin_25 : decode cX10_kin 25 = .ok (.iconst (-1), 1) := by decide +kernel
theorem dX10_kin_26 : decode cX10_kin 26 = .ok (.ireturn, 1) := by decide +kernel
theorem dX10_kin_27 : decode cX10_kin 27 = .ok (.iload_n 1, 1) := by decide +kernel
theorem dX10_kin_28 : decode cX10_kin 28 = .ok (.istore 4, 2) := by decide +kernel
theorem dX10_kin_30 : decode cX10_kin 30 = .ok (.iload_n 2, 1) := by decide +kernel
theorem dX10_kin_31 : decode cX10_kin 31 = .ok (.istore 5, 2) := by decide +kernel
theorem dX10_kin_33 : decode cX10_kin 33 = .ok (.iconst 0, 1) := by decide +kernel
theorem dX10_kin_34 : decode cX10_kin 34 = .ok (.istore 6, 2) := by decide +kernel
theorem dX10_kin_36 : decode cX10_kin 36 = .ok (.iload 6, 2) := by decide +kernel
theorem dX10_kin_38 : decode cX10_kin 38 = .ok (.bipush 48, 2) := by decide +kernel
theorem dX10_kin_40 : decode cX10_kin 40 = .ok (.if_icmp .ge 68, 3) := by decide +kernel
theorem dX10_kin_43 : decode cX10_kin 43 = .ok (.iload 4, 2) := by decide +kernel
theorem dX10_kin_45 : decode cX10_kin 45 = .ok (.iload 5, 2) := by decide +kernel
theorem dX10_kin_47 : decode cX10_kin 47 = .ok (.if_icmp .eq 61, 3) := by decide +kernel
theorem dX10_kin_50 : decode cX10_kin 50 = .ok (.aload_n 0, 1) := by decide +kernel
theorem dX10_kin_51 : decode cX10_kin 51 = .ok (.iload 4, 2) := by decide +kernel
theorem dX10_kin_53 : decode cX10_kin 53 = .ok (.invokevirtual 149, 3) := by decide +kernel
theorem dX10_kin_56 : decode cX10_kin 56 = .ok (.ifCond .eq 52, 3) := by decide +kernel
theorem dX10_kin_59 : decode cX10_kin 59 = .ok (.aload_n 0, 1) := by decide +kernel
theorem dX10_kin_60 : decode cX10_kin 60 = .ok (.iload 5, 2) := by decide +kernel
theorem dX10_kin_62 : decode cX10_kin 62 = .ok (.invokevirtual 149, 3) := by decide +kernel
theorem dX10_kin_65 : decode cX10_kin 65 = .ok (.ifCond .eq 43, 3) := by decide +kernel
theorem dX10_kin_68 : decode cX10_kin 68 = .ok (.iload 4, 2) := by decide +kernel
theorem dX10_kin_70 : decode cX10_kin 70 = .ok (.iload 5, 2) := by decide +kernel
theorem dX10_kin_72 : decode cX10_kin 72 = .ok (.if_icmp .le 18, 3) := by decide +kernel
theorem dX10_kin_75 : decode cX10_kin 75 = .ok (.aload_n 0, 1) := by decide +kernel
theorem dX10_kin_76 : decode cX10_kin 76 = .ok (.getfield 42, 3) := by decide +kernel
theorem dX10_kin_79 : decode cX10_kin 79 = .ok (.getfield 156, 3) := by decide +kernel
theorem dX10_kin_82 : decode cX10_kin 82 = .ok (.iload 4, 2) := by decide +kernel
theorem dX10_kin_84 : decode cX10_kin 84 = .ok (.iaload, 1) := by decide +kernel
theorem dX10_kin_85 : decode cX10_kin 85 = .ok (.istore 4, 2) := by decide +kernel
theorem dX10_kin_87 : decode cX10_kin 87 = .ok (.goto 15, 3) := by decide +kernel
theorem dX10_kin_90 : decode cX10_kin 90 = .ok (.aload_n 0, 1) := by decide +kernel
theorem dX10_kin_91 : decode cX10_kin 91 = .ok (.getfield 42, 3) := by decide +kernel
theorem dX10_kin_94 : decode cX10_kin 94 = .ok (.getfield 156, 3) := by decide +kernel
theorem dX10_kin_97 : decode cX10_kin 97 = .ok (.iload 5, 2) := by decide +kernel
theorem dX10_kin_99 : decode cX10_kin 99 = .ok (.iaload, 1) := by decide +kernel
theorem dX10_kin_100 : decode cX10_kin 100 = .ok (.istore 5, 2) := by decide +kernel
theorem dX10_kin_102 : decode cX10_kin 102 = .ok (.iinc 6 1, 3) := by decide +kernel
theorem dX10_kin_105 : decode cX10_kin 105 = .ok (.goto (-69), 3) := by decide +kernel
theorem dX10_kin_108 : decode cX10_kin 108 = .ok (.iload_n 3, 1) := by decide +kernel
theorem dX10_kin_109 : decode cX10_kin 109 = .ok (.ifCond .eq 12, 3) := by decide +kernel
theorem dX10_kin_112 : decode cX10_kin 112 = .ok (.aload_n 0, 1) := by decide +kernel
theorem dX10_kin_113 : decode cX10_kin 113 = .ok (.iload 4, 2) := by decide +kernel
theorem dX10_kin_115 : decode cX10_kin 115 = .ok (.invokevirtual 149, 3) := by decide +kernel
theorem dX10_kin_118 : decode cX10_kin 118 = .ok (.ifCond .ne 6, 3) := by decide +kernel
theorem dX10_kin_121 : decode cX10_kin 121 = .ok (.iload 4, 2) := by decide +kernel
theorem dX10_kin_123 : decode cX10_kin 123 = .ok (.ireturn, 1) := by decide +kernel
theorem dX10_kin_124 : decode cX10_kin 124 = .ok (.aload_n 0, 1) := by decide +kernel
theorem dX10_kin_125 : decode cX10_kin 125 = .ok (.getfield 42, 3) := by decide +kernel
theorem dX10_kin_128 : decode cX10_kin 128 = .ok (.getfield 165, 3) := by decide +kernel
theorem dX10_kin_131 : decode cX10_kin 131 = .ok (.iload_n 1, 1) := by decide +kernel
theorem dX10_kin_132 : decode cX10_kin 132 = .ok (.iaload, 1) := by decide +kernel
theorem dX10_kin_133 : decode cX10_kin 133 = .ok (.aload_n 0, 1) := by decide +kernel
theorem dX10_kin_134 : decode cX10_kin 134 = .ok (.getfield 42, 3) := by decide +kernel
theorem dX10_kin_137 : decode cX10_kin 137 = .ok (.getfield 165, 3) := by decide +kernel
theorem dX10_kin_140 : decode cX10_kin 140 = .ok (.iload_n 2, 1) := by decide +kernel
theorem dX10_kin_141 : decode cX10_kin 141 = .ok (.iaload, 1) := by decide +kernel
theorem dX10_kin_142 : decode cX10_kin 142 = .ok (.iadd, 1) := by decide +kernel
theorem dX10_kin_143 : decode cX10_kin 143 = .ok (.iconst 2, 1) := by decide +kernel
theorem dX10_kin_144 : decode cX10_kin 144 = .ok (.aload_n 0, 1) := by decide +kernel
theorem dX10_kin_145 : decode cX10_kin 145 = .ok (.getfield 42, 3) := by decide +kernel
theorem dX10_kin_148 : decode cX10_kin 148 = .ok (.getfield 165, 3) := by decide +kernel
theorem dX10_kin_151 : decode cX10_kin 151 = .ok (.iload 4, 2) := by decide +kernel
theorem dX10_kin_153 : decode cX10_kin 153 = .ok (.iaload, 1) := by decide +kernel
theorem dX10_kin_154 : decode cX10_kin 154 = .ok (.imul, 1) := by decide +kernel
theorem dX10_kin_155 : decode cX10_kin 155 = .ok (.isub, 1) := by decide +kernel
theorem dX10_kin_156 : decode cX10_kin 156 = .ok (.ireturn, 1) := by decide +kernel
theorem dX10_thumb_0 : decode cX10_thumb 0 = .ok (.aload_n 0, 1) := by decide +kernel
theorem dX10_thumb_1 : decode cX10_thumb 1 = .ok (.iload_n 1, 1) := by decide +kernel
theorem dX10_thumb_2 : decode cX10_thumb 2 = .ok (.iload_n 2, 1) := by decide +kernel
theorem dX10_thumb_3 : decode cX10_thumb 3 = .ok (.invokevirtual 214, 3) := by decide +kernel
theorem dX10_thumb_6 : decode cX10_thumb 6 = .ok (.ifCond .ne 6, 3) := by decide +kernel
theorem dX10_thumb_9 : decode cX10_thumb 9 = .ok (.bipush (-2), 2) := by decide +kernel
theorem dX10_thumb_11 : decode cX10_thumb 11 = .ok (.ireturn, 1) := by decide +kernel
theorem dX10_thumb_12 : decode cX10_thumb 12 = .ok (.iload_n 1, 1) := by decide +kernel
theorem dX10_thumb_13 : decode cX10_thumb 13 = .ok (.istore_n 3, 1) := by decide +kernel
theorem dX10_thumb_14 : decode cX10_thumb 14 = .ok (.iload_n 2, 1) := by decide +kernel
theorem dX10_thumb_15 : decode cX10_thumb 15 = .ok (.istore 4, 2) := by decide +kernel
theorem dX10_thumb_17 : decode cX10_thumb 17 = .ok (.iconst 0, 1) := by decide +kernel
theorem dX10_thumb_18 : decode cX10_thumb 18 = .ok (.istore 5, 2) := by decide +kernel
theorem dX10_thumb_20 : decode cX10_thumb 20 = .ok (.iload 5, 2) := by decide +kernel
theorem dX10_thumb_22 : decode cX10_thumb 22 = .ok (.bipush 24, 2) := by decide +kernel
theorem dX10_thumb_24 : decode cX10_thumb 24 = .ok (.if_icmp .ge 62, 3) := by decide +kernel
theorem dX10_thumb_27 : decode cX10_thumb 27 = .ok (.iload_n 3, 1) := by decide +kernel
theorem dX10_thumb_28 : decode cX10_thumb 28 = .ok (.ifCond .le 58, 3) := by decide +kernel
theorem dX10_thumb_31 : decode cX10_thumb 31 = .ok (.aload_n 0, 1) := by decide +kernel
theorem dX10_thumb_32 : decode cX10_thumb 32 = .ok (.getfield 42, 3) := by decide +kernel
theorem dX10_thumb_35 : decode cX10_thumb 35 = .ok (.getfield 156, 3) := by decide +kernel
theorem dX10_thumb_38 : decode cX10_thumb 38 = .ok (.iload_n 3, 1) := by decide +kernel
theorem dX10_thumb_39 : decode cX10_thumb 39 = .ok (.iaload, 1) := by decide +kernel
theorem dX10_thumb_40 : decode cX10_thumb 40 = .ok (.istore 6, 2) := by decide +kernel
theorem dX10_thumb_42 : decode cX10_thumb 42 = .ok (.aload_n 0, 1) := by decide +kernel
theorem dX10_thumb_43 : decode cX10_thumb 43 = .ok (.getfield 23, 3) := by decide +kernel
theorem dX10_thumb_46 : decode cX10_thumb 46 = .ok (.getfield 183, 3) := by decide +kernel
theorem dX10_thumb_49 : decode cX10_thumb 49 = .ok (.iconst 1, 1) := by decide +kernel
theorem dX10_thumb_50 : decode cX10_thumb 50 = .ok (.isub, 1) := by decide +kernel
theorem dX10_thumb_51 : decode cX10_thumb 51 = .ok (.iload 4, 2) := by decide +kernel
theorem dX10_thumb_53 : decode cX10_thumb 53 = .ok (.isub, 1) := by decide +kernel
theorem dX10_thumb_54 : decode cX10_thumb 54 = .ok (.istore 4, 2) := by decide +kernel
theorem dX10_thumb_56 : decode cX10_thumb 56 = .ok (.aload_n 0, 1) := by decide +kernel
theorem dX10_thumb_57 : decode cX10_thumb 57 = .ok (.iload 6, 2) := by decide +kernel
theorem dX10_thumb_59 : decode cX10_thumb 59 = .ok (.iload 4, 2) := by decide +kernel
theorem dX10_thumb_61 : decode cX10_thumb 61 = .ok (.invokevirtual 214, 3) := by decide +kernel
theorem dX10_thumb_64 : decode cX10_thumb 64 = .ok (.ifCond .ne 13, 3) := by decide +kernel
theorem dX10_thumb_67 : decode cX10_thumb 67 = .ok (.aload_n 0, 1) := by decide +kernel
theorem dX10_thumb_68 : decode cX10_thumb 68 = .ok (.getfield 42, 3) := by decide +kernel
theorem dX10_thumb_71 : decode cX10_thumb 71 = .ok (.getfield 159, 3) := by decide +kernel
theorem dX10_thumb_74 : decode cX10_thumb 74 = .ok (.iload_n 3, 1) := by decide +kernel
theorem dX10_thumb_75 : decode cX10_thumb 75 = .ok (.iaload, 1) := by decide +kernel
theorem dX10_thumb_76 : decode cX10_thumb 76 = .ok (.ireturn, 1) := by decide +kernel
theorem dX10_thumb_77 : decode cX10_thumb 77 = .ok (.iload 6, 2) := by decide +kernel
theorem dX10_thumb_79 : decode cX10_thumb 79 = .ok (.istore_n 3, 1) := by decide +kernel
theorem dX10_thumb_80 : decode cX10_thumb 80 = .ok (.iinc 5 1, 3) := by decide +kernel
theorem dX10_thumb_83 : decode cX10_thumb 83 = .ok (.goto (-63), 3) := by decide +kernel
theorem dX10_thumb_86 : decode cX10_thumb 86 = .ok (.iconst (-1), 1) := by decide +kernel
theorem dX10_thumb_87 : decode cX10_thumb 87 = .ok (.ireturn, 1) := by decide +kernel
theorem dX10_share_0 : decode cX10_share 0 = .ok (.aload_n 0, 1) := by decide +kernel
theorem dX10_share_1 : decode cX10_share 1 = .ok (.iload_n 1, 1) := by decide +kernel
theorem dX10_share_2 : decode cX10_share 2 = .ok (.invokevirtual 180, 3) := by decide +kernel
theorem dX10_share_5 : decode cX10_share 5 = .ok (.ifCond .eq 22, 3) := by decide +kernel
theorem dX10_share_8 : decode cX10_share 8 = .ok (.iload_n 2, 1) := by decide +kernel
theorem dX10_share_9 : decode cX10_share 9 = .ok (.iconst 1, 1) := by decide +kernel
theorem dX10_share_10 : decode cX10_share 10 = .ok (.if_icmp .lt 17, 3) := by decide +kernel
theorem dX10_share_13 : decode cX10_share 13 = .ok (.iload_n 2, 1) := by decide +kernel
theorem dX10_share_14 : decode cX10_share 14 = .ok (.iconst 4, 1) := by decide +kernel
theorem dX10_share_15 : decode cX10_share 15 = .ok (.if_icmp .gt 12, 3) := by decide +kernel
theorem dX10_share_18 : decode cX10_share 18 = .ok (.iload_n 3, 1) := by decide +kernel
theorem dX10_share_19 : decode cX10_share 19 = .ok (.ifCond .lt 8, 3) := by decide +kernel
theorem dX10_share_22 : decode cX10_share 22 = .ok (.iload_n 3, 1) := by decide +kernel
theorem dX10_share_23 : decode cX10_share 23 = .ok (.iload_n 2, 1) := by decide +kernel
theorem dX10_share_24 : decode cX10_share 24 = .ok (.if_icmp .lt 5, 3) := by decide +kernel
theorem dX10_share_27 : decode cX10_share 27 = .ok (.iconst (-1), 1) := by decide +kernel
theorem dX10_share_28 : decode cX10_share 28 = .ok (.ireturn, 1) := by decide +kernel
theorem dX10_share_29 : decode cX10_share 29 = .ok (.iload_n 1, 1) := by decide +kernel
theorem dX10_share_30 : decode cX10_share 30 = .ok (.invokestatic 232, 3) := by decide +kernel
theorem dX10_share_33 : decode cX10_share 33 = .ok (.istore 4, 2) := by decide +kernel
theorem dX10_share_35 : decode cX10_share 35 = .ok (.iload 4, 2) := by decide +kernel
theorem dX10_share_37 : decode cX10_share 37 = .ok (.ifCond .ne 5, 3) := by decide +kernel
theorem dX10_share_40 : decode cX10_share 40 = .ok (.iconst 0, 1) := by decide +kernel
theorem dX10_share_41 : decode cX10_share 41 = .ok (.ireturn, 1) := by decide +kernel
theorem dX10_share_42 : decode cX10_share 42 = .ok (.bipush 100, 2) := by decide +kernel
theorem dX10_share_44 : decode cX10_share 44 = .ok (.aload_n 0, 1) := by decide +kernel
theorem dX10_share_45 : decode cX10_share 45 = .ok (.iload_n 1, 1) := by decide +kernel
theorem dX10_share_46 : decode cX10_share 46 = .ok (.iload_n 2, 1) := by decide +kernel
theorem dX10_share_47 : decode cX10_share 47 = .ok (.iload_n 3, 1) := by decide +kernel
theorem dX10_share_48 : decode cX10_share 48 = .ok (.invokevirtual 248, 3) := by decide +kernel
theorem dX10_share_51 : decode cX10_share 51 = .ok (.imul, 1) := by decide +kernel
theorem dX10_share_52 : decode cX10_share 52 = .ok (.istore 5, 2) := by decide +kernel
theorem dX10_share_54 : decode cX10_share 54 = .ok (.bipush 100, 2) := by decide +kernel
theorem dX10_share_56 : decode cX10_share 56 = .ok (.istore 6, 2) := by decide +kernel
theorem dX10_share_58 : decode cX10_share 58 = .ok (.iconst 0, 1) := by decide +kernel
theorem dX10_share_59 : decode cX10_share 59 = .ok (.istore 7, 2) := by decide +kernel
theorem dX10_share_61 : decode cX10_share 61 = .ok (.iconst 0, 1) := by decide +kernel
theorem dX10_share_62 : decode cX10_share 62 = .ok (.istore 8, 2) := by decide +kernel
theorem dX10_share_64 : decode cX10_share 64 = .ok (.iload 8, 2) := by decide +kernel
theorem dX10_share_66 : decode cX10_share 66 = .ok (.iload_n 2, 1) := by decide +kernel
theorem dX10_share_67 : decode cX10_share 67 = .ok (.if_icmp .ge 86, 3) := by decide +kernel
theorem dX10_share_70 : decode cX10_share 70 = .ok (.bipush 100, 2) := by decide +kernel
theorem dX10_share_72 : decode cX10_share 72 = .ok (.aload_n 0, 1) := by decide +kernel
theorem dX10_share_73 : decode cX10_share 73 = .ok (.iload_n 1, 1) := by decide +kernel
theorem dX10_share_74 : decode cX10_share 74 = .ok (.iload_n 2, 1) := by decide +kernel
theorem dX10_share_75 : decode cX10_share 75 = .ok (.iload 8, 2) := by decide +kernel
theorem dX10_share_77 : decode cX10_share 77 = .ok (.invokevirtual 248, 3) := by decide +kernel
theorem dX10_share_80 : decode cX10_share 80 = .ok (.imul, 1) := by decide +kernel
theorem dX10_share_81 : decode cX10_share 81 = .ok (.istore 9, 2) := by decide +kernel
theorem dX10_share_83 : decode cX10_share 83 = .ok (.iload 6, 2) := by decide +kernel
theorem dX10_share_85 : decode cX10_share 85 = .ok (.iload 9, 2) := by decide +kernel
theorem dX10_share_87 : decode cX10_share 87 = .ok (.iload 4, 2) := by decide +kernel
theorem dX10_share_89 : decode cX10_share 89 = .ok (.idiv, 1) := by decide +kernel
theorem dX10_share_90 : decode cX10_share 90 = .ok (.isub, 1) := by decide +kernel
theorem dX10_share_91 : decode cX10_share 91 = .ok (.istore 6, 2) := by decide +kernel
theorem dX10_share_93 : decode cX10_share 93 = .ok (.iload 9, 2) := by decide +kernel
theorem dX10_share_95 : decode cX10_share 95 = .ok (.iload 4, 2) := by decide +kernel
theorem dX10_share_97 : decode cX10_share 97 = .ok (.irem, 1) := by decide +kernel
theorem dX10_share_98 : decode cX10_share 98 = .ok (.iload 5, 2) := by decide +kernel
theorem dX10_share_100 : decode cX10_share 100 = .ok (.iload 4, 2) := by decide +kernel
theorem dX10_share_102 : decode cX10_share 102 = .ok (.irem, 1) := by decide +kernel
theorem dX10_share_103 : decode cX10_share 103 = .ok (.if_icmp .gt 22, 3) := by decide +kernel
theorem dX10_share_106 : decode cX10_share 106 = .ok (.iload 9, 2) := by decide +kernel
theorem dX10_share_108 : decode cX10_share 108 = .ok (.iload 4, 2) := by decide +kernel
theorem dX10_share_110 : decode cX10_share 110 = .ok (.irem, 1) := by decide +kernel
theorem dX10_share_111 : decode cX10_share 111 = .ok (.iload 5, 2) := by decide +kernel
theorem dX10_share_113 : decode cX10_share 113 = .ok (.iload 4, 2) := by decide +kernel
theorem dX10_share_115 : decode cX10_share 115 = .ok (.irem, 1) := by decide +kernel
theorem dX10_share_116 : decode cX10_share 116 = .ok (.if_icmp .ne 13, 3) := by decide +kernel
theorem dX10_share_119 : decode cX10_share 119 = .ok (.iload 8, 2) := by decide +kernel
theorem dX10_share_121 : decode cX10_share 121 = .ok (.iload_n 3, 1) := by decide +kernel
theorem dX10_share_122 : decode cX10_share 122 = .ok (.if_icmp .ge 7, 3) := by decide +kernel
theorem dX10_share_125 : decode cX10_share 125 = .ok (.iconst 1, 1) := by decide +kernel
theorem dX10_share_126 : decode cX10_share 126 = .ok (.goto 4, 3) := by decide +kernel
theorem dX10_share_129 : decode cX10_share 129 = .ok (.iconst 0, 1) := by decide +kernel
theorem dX10_share_130 : decode cX10_share 130 = .ok (.istore 10, 2) := by decide +kernel
theorem dX10_share_132 : decode cX10_share 132 = .ok (.iload 7, 2) := by decide +kernel
theorem dX10_share_134 : decode cX10_share 134 = .ok (.iload 10, 2) := by decide +kernel
theorem dX10_share_136 : decode cX10_share 136 = .ok (.ifCond .eq 7, 3) := by decide +kernel
theorem dX10_share_139 : decode cX10_share 139 = .ok (.iconst 1, 1) := by decide +kernel
theorem dX10_share_140 : decode cX10_share 140 = .ok (.goto 4, 3) := by decide +kernel
theorem dX10_share_143 : decode cX10_share 143 = .ok (.iconst 0, 1) := by decide +kernel
theorem dX10_share_144 : decode cX10_share 144 = .ok (.iadd, 1) := by decide +kernel
theorem dX10_share_145 : decode cX10_share 145 = .ok (.istore 7, 2) := by decide +kernel
theorem dX10_share_147 : decode cX10_share 147 = .ok (.iinc 8 1, 3) := by decide +kernel
theorem dX10_share_150 : decode cX10_share 150 = .ok (.goto (-86), 3) := by decide +kernel
theorem dX10_share_153 : decode cX10_share 153 = .ok (.iload 5, 2) := by decide +kernel
theorem dX10_share_155 : decode cX10_share 155 = .ok (.iload 4, 2) := by decide +kernel
theorem dX10_share_157 : decode cX10_share 157 = .ok (.idiv, 1) := by decide +kernel
theorem dX10_share_158 : decode cX10_share 158 = .ok (.iload 7, 2) := by decide +kernel
theorem dX10_share_160 : decode cX10_share 160 = .ok (.iload 6, 2) := by decide +kernel
theorem dX10_share_162 : decode cX10_share 162 = .ok (.if_icmp .ge 7, 3) := by decide +kernel
theorem dX10_share_165 : decode cX10_share 165 = .ok (.iconst 1, 1) := by decide +kernel
theorem dX10_share_166 : decode cX10_share 166 = .ok (.goto 4, 3) := by decide +kernel
theorem dX10_share_169 : decode cX10_share 169 = .ok (.iconst 0, 1) := by decide +kernel
theorem dX10_share_170 : decode cX10_share 170 = .ok (.iadd, 1) := by decide +kernel
theorem dX10_share_171 : decode cX10_share 171 = .ok (.ireturn, 1) := by decide +kernel
theorem dX10_marksIn_0 : decode cX10_marksIn 0 = .ok (.iconst 0, 1) := by decide +kernel
theorem dX10_marksIn_1 : decode cX10_marksIn 1 = .ok (.istore 4, 2) := by decide +kernel
theorem dX10_marksIn_3 : decode cX10_marksIn 3 = .ok (.iconst 0, 1) := by decide +kernel
theorem dX10_marksIn_4 : decode cX10_marksIn 4 = .ok (.istore 5, 2) := by decide +kernel
theorem dX10_marksIn_6 : decode cX10_marksIn 6 = .ok (.iload 5, 2) := by decide +kernel
theorem dX10_marksIn_8 : decode cX10_marksIn 8 = .ok (.aload_n 0, 1) := by decide +kernel
theorem dX10_marksIn_9 : decode cX10_marksIn 9 = .ok (.getfield 23, 3) := by decide +kernel
theorem dX10_marksIn_12 : decode cX10_marksIn 12 = .ok (.getfield 183, 3) := by decide +kernel
theorem dX10_marksIn_15 : decode cX10_marksIn 15 = .ok (.if_icmp .ge 37, 3) := by decide +kernel
theorem dX10_marksIn_18 : decode cX10_marksIn 18 = .ok (.iload_n 1, 1) := by decide +kernel
theorem dX10_marksIn_19 : decode cX10_marksIn 19 = .ok (.iload 5, 2) := by decide +kernel
theorem dX10_marksIn_21 : decode cX10_marksIn 21 = .ok (.ishr, 1) := by decide +kernel
theorem dX10_marksIn_22 : decode cX10_marksIn 22 = .ok (.iconst 1, 1) := by decide +kernel
theorem dX10_marksIn_23 : decode cX10_marksIn 23 = .ok (.iand, 1) := by decide +kernel
theorem dX10_marksIn_24 : decode cX10_marksIn 24 = .ok (.ifCond .eq 22, 3) := by decide +kernel
theorem dX10_marksIn_27 : decode cX10_marksIn 27 = .ok (.iload 5, 2) := by decide +kernel
theorem dX10_marksIn_29 : decode cX10_marksIn 29 = .ok (.iload_n 2, 1) := by decide +kernel
theorem dX10_marksIn_30 : decode cX10_marksIn 30 = .ok (.imul, 1) := by decide +kernel
theorem dX10_marksIn_31 : decode cX10_marksIn 31 = .ok (.aload_n 0, 1) := by decide +kernel
theorem dX10_marksIn_32 : decode cX10_marksIn 32 = .ok (.getfield 23, 3) := by decide +kernel
theorem dX10_marksIn_35 : decode cX10_marksIn 35 = .ok (.getfield 183, 3) := by decide +kernel
theorem dX10_marksIn_38 : decode cX10_marksIn 38 = .ok (.idiv, 1) := by decide +kernel
theorem dX10_marksIn_39 : decode cX10_marksIn 39 = .ok (.iload_n 3, 1) := by decide +kernel
theorem dX10_marksIn_40 : decode cX10_marksIn 40 = .ok (.if_icmp .ne 6, 3) := by decide +kernel
theorem dX10_marksIn_43 : decode cX10_marksIn 43 = .ok (.iinc 4 1, 3) := by decide +kernel
theorem dX10_marksIn_46 : decode cX10_marksIn 46 = .ok (.iinc 5 1, 3) := by decide +kernel
theorem dX10_marksIn_49 : decode cX10_marksIn 49 = .ok (.goto (-43), 3) := by decide +kernel
theorem dX10_marksIn_52 : decode cX10_marksIn 52 = .ok (.iload 4, 2) := by decide +kernel
theorem dX10_marksIn_54 : decode cX10_marksIn 54 = .ok (.ireturn, 1) := by decide +kernel
theorem dX10_forge_0 : decode cX10_forge 0 = .ok (.aload_n 0, 1) := by decide +kernel
theorem dX10_forge_1 : decode cX10_forge 1 = .ok (.iload_n 1, 1) := by decide +kernel
theorem dX10_forge_2 : decode cX10_forge 2 = .ok (.iload_n 2, 1) := by decide +kernel
theorem dX10_forge_3 : decode cX10_forge 3 = .ok (.iload_n 3, 1) := by decide +kernel
theorem dX10_forge_4 : decode cX10_forge 4 = .ok (.invokevirtual 200, 3) := by decide +kernel
theorem dX10_forge_7 : decode cX10_forge 7 = .ok (.ifCond .eq 23, 3) := by decide +kernel
theorem dX10_forge_10 : decode cX10_forge 10 = .ok (.aload_n 0, 1) := by decide +kernel
theorem dX10_forge_11 : decode cX10_forge 11 = .ok (.iload 4, 2) := by decide +kernel
theorem dX10_forge_13 : decode cX10_forge 13 = .ok (.invokevirtual 180, 3) := by decide +kernel
theorem dX10_forge_16 : decode cX10_forge 16 = .ok (.ifCond .eq 14, 3) := by decide +kernel
theorem dX10_forge_19 : decode cX10_forge 19 = .ok (.iload 5, 2) := by decide +kernel
theorem dX10_forge_21 : decode cX10_forge 21 = .ok (.ifCond .lt 9, 3) := by decide +kernel
theorem dX10_forge_24 : decode cX10_forge 24 = .ok (.iload 5, 2) := by decide +kernel
theorem dX10_forge_26 : decode cX10_forge 26 = .ok (.iconst 1, 1) := by decide +kernel
theorem dX10_forge_27 : decode cX10_forge 27 = .ok (.if_icmp .le 5, 3) := by decide +kernel
theorem dX10_forge_30 : decode cX10_forge 30 = .ok (.iconst (-1), 1) := by decide +kernel
theorem dX10_forge_31 : decode cX10_forge 31 = .ok (.ireturn, 1) := by decide +kernel
theorem dX10_forge_32 : decode cX10_forge 32 = .ok (.sipush 1000, 3) := by decide +kernel
theorem dX10_forge_35 : decode cX10_forge 35 = .ok (.istore 6, 2) := by decide +kernel
theorem dX10_forge_37 : decode cX10_forge 37 = .ok (.iconst (-1), 1) := by decide +kernel
theorem dX10_forge_38 : decode cX10_forge 38 = .ok (.istore 7, 2) := by decide +kernel
theorem dX10_forge_40 : decode cX10_forge 40 = .ok (.iconst 0, 1) := by decide +kernel
theorem dX10_forge_41 : decode cX10_forge 41 = .ok (.istore 8, 2) := by decide +kernel
theorem dX10_forge_43 : decode cX10_forge 43 = .ok (.iload 8, 2) := by decide +kernel
theorem dX10_forge_45 : decode cX10_forge 45 = .ok (.aload_n 0, 1) := by decide +kernel
theorem dX10_forge_46 : decode cX10_forge 46 = .ok (.getfield 23, 3) := by decide +kernel
theorem dX10_forge_49 : decode cX10_forge 49 = .ok (.invokevirtual 240, 3) := by decide +kernel
theorem dX10_forge_52 : decode cX10_forge 52 = .ok (.if_icmp .ge 58, 3) := by decide +kernel
theorem dX10_forge_55 : decode cX10_forge 55 = .ok (.iload 8, 2) := by decide +kernel
theorem dX10_forge_57 : decode cX10_forge 57 = .ok (.aload_n 0, 1) := by decide +kernel
theorem dX10_forge_58 : decode cX10_forge 58 = .ok (.getfield 42, 3) := by decide +kernel
theorem dX10_forge_61 : decode cX10_forge 61 = .ok (.getfield 153, 3) := by decide +kernel
theorem dX10_forge_64 : decode cX10_forge 64 = .ok (.iload_n 1, 1) := by decide +kernel
theorem dX10_forge_65 : decode cX10_forge 65 = .ok (.iaload, 1) := by decide +kernel
theorem dX10_forge_66 : decode cX10_forge 66 = .ok (.ixor, 1) := by decide +kernel
theorem dX10_forge_67 : decode cX10_forge 67 = .ok (.invokestatic 232, 3) := by decide +kernel
theorem dX10_forge_70 : decode cX10_forge 70 = .ok (.istore 9, 2) := by decide +kernel
theorem dX10_forge_72 : decode cX10_forge 72 = .ok (.iload 9, 2) := by decide +kernel
theorem dX10_forge_74 : decode cX10_forge 74 = .ok (.iload 6, 2) := by decide +kernel
theorem dX10_forge_76 : decode cX10_forge 76 = .ok (.if_icmp .ge 28, 3) := by decide +kernel
theorem dX10_forge_79 : decode cX10_forge 79 = .ok (.aload_n 0, 1) := by decide +kernel
theorem dX10_forge_80 : decode cX10_forge 80 = .ok (.getfield 51, 3) := by decide +kernel
theorem dX10_forge_83 : decode cX10_forge 83 = .ok (.iload 8, 2) := by decide +kernel
theorem dX10_forge_85 : decode cX10_forge 85 = .ok (.iload_n 2, 1) := by decide +kernel
theorem dX10_forge_86 : decode cX10_forge 86 = .ok (.iload_n 3, 1) := by decide +kernel
theorem dX10_forge_87 : decode cX10_forge 87 = .ok (.iconst 0, 1) := by decide +kernel
theorem dX10_forge_88 : decode cX10_forge 88 = .ok (.invokevirtual 196, 3) := by decide +kernel
theorem dX10_forge_91 : decode cX10_forge 91 = .ok (.iload 4, 2) := by decide +kernel
theorem dX10_forge_93 : decode cX10_forge 93 = .ok (.if_icmp .ne 11, 3) := by decide +kernel
theorem dX10_forge_96 : decode cX10_forge 96 = .ok (.iload 9, 2) := by decide +kernel
theorem dX10_forge_98 : decode cX10_forge 98 = .ok (.istore 6, 2) := by decide +kernel
theorem dX10_forge_100 : decode cX10_forge 100 = .ok (.iload 8, 2) := by decide +kernel
theorem dX10_forge_102 : decode cX10_forge 102 = .ok (.istore 7, 2) := by decide +kernel
theorem dX10_forge_104 : decode cX10_forge 104 = .ok (.iinc 8 1, 3) := by decide +kernel
theorem dX10_forge_107 : decode cX10_forge 107 = .ok (.goto (-64), 3) := by decide +kernel
theorem dX10_forge_110 : decode cX10_forge 110 = .ok (.iload 5, 2) := by decide +kernel
theorem dX10_forge_112 : decode cX10_forge 112 = .ok (.ifCond .ne 14, 3) := by decide +kernel
theorem dX10_forge_115 : decode cX10_forge 115 = .ok (.iload 7, 2) := by decide +kernel
theorem dX10_forge_117 : decode cX10_forge 117 = .ok (.iconst (-1), 1) := by decide +kernel
theorem dX10_forge_118 : decode cX10_forge 118 = .ok (.if_icmp .eq 8, 3) := by decide +kernel
theorem dX10_forge_121 : decode cX10_forge 121 = .ok (.iload 6, 2) := by decide +kernel
theorem dX10_forge_123 : decode cX10_forge 123 = .ok (.goto 5, 3) := by decide +kernel
theorem dX10_forge_126 : decode cX10_forge 126 = .ok (.iload 7, 2) := by decide +kernel
theorem dX10_forge_128 : decode cX10_forge 128 = .ok (.ireturn, 1) := by decide +kernel
theorem dX10_nearest_0 : decode cX10_nearest 0 = .ok (.aload_n 0, 1) := by decide +kernel
theorem dX10_nearest_1 : decode cX10_nearest 1 = .ok (.iload_n 1, 1) := by decide +kernel
theorem dX10_nearest_2 : decode cX10_nearest 2 = .ok (.invokevirtual 180, 3) := by decide +kernel
theorem dX10_nearest_5 : decode cX10_nearest 5 = .ok (.ifCond .eq 12, 3) := by decide +kernel
theorem dX10_nearest_8 : decode cX10_nearest 8 = .ok (.iload_n 2, 1) := by decide +kernel
theorem dX10_nearest_9 : decode cX10_nearest 9 = .ok (.ifCond .lt 8, 3) := by decide +kernel
theorem dX10_nearest_12 : decode cX10_nearest 12 = .ok (.iload_n 2, 1) := by decide +kernel
theorem dX10_nearest_13 : decode cX10_nearest 13 = .ok (.iconst 2, 1) := by decide +kernel
theorem dX10_nearest_14 : decode cX10_nearest 14 = .ok (.if_icmp .le 5, 3) := by decide +kernel
theorem dX10_nearest_17 : decode cX10_nearest 17 = .ok (.iconst (-1), 1) := by decide +kernel
theorem dX10_nearest_18 : decode cX10_nearest 18 = .ok (.ireturn, 1) := by decide +kernel
theorem dX10_nearest_19 : decode cX10_nearest 19 = .ok (.sipush 1000, 3) := by decide +kernel
theorem dX10_nearest_22 : decode cX10_nearest 22 = .ok (.istore_n 3, 1) := by decide +kernel
theorem dX10_nearest_23 : decode cX10_nearest 23 = .ok (.iconst (-1), 1) := by decide +kernel
theorem dX10_nearest_24 : decode cX10_nearest 24 = .ok (.istore 4, 2) := by decide +kernel
theorem dX10_nearest_26 : decode cX10_nearest 26 = .ok (.iconst 0, 1) := by decide +kernel
theorem dX10_nearest_27 : decode cX10_nearest 27 = .ok (.istore 5, 2) := by decide +kernel
theorem dX10_nearest_29 : decode cX10_nearest 29 = .ok (.iconst 0, 1) := by decide +kernel
theorem dX10_nearest_30 : decode cX10_nearest 30 = .ok (.istore 6, 2) := by decide +kernel
theorem dX10_nearest_32 : decode cX10_nearest 32 = .ok (.iload 6, 2) := by decide +kernel
theorem dX10_nearest_34 : decode cX10_nearest 34 = .ok (.iconst 2, 1) := by decide +kernel
theorem dX10_nearest_35 : decode cX10_nearest 35 = .ok (.if_icmp .ge 78, 3) := by decide +kernel
theorem dX10_nearest_38 : decode cX10_nearest 38 = .ok (.iconst 0, 1) := by decide +kernel
theorem dX10_nearest_39 : decode cX10_nearest 39 = .ok (.istore 7, 2) := by decide +kernel
theorem dX10_nearest_41 : decode cX10_nearest 41 = .ok (.iload 7, 2) := by decide +kernel
theorem dX10_nearest_43 : decode cX10_nearest 43 = .ok (.aload_n 0, 1) := by decide +kernel
theorem dX10_nearest_44 : decode cX10_nearest 44 = .ok (.getfield 42, 3) := by decide +kernel
theorem dX10_nearest_47 : decode cX10_nearest 47 = .ok (.getfield 204, 3) := by decide +kernel
theorem dX10_nearest_50 : decode cX10_nearest 50 = .ok (.if_icmp .ge 57, 3) := by decide +kernel
theorem dX10_nearest_53 : decode cX10_nearest 53 = .ok (.iload_n 1, 1) := by decide +kernel
theorem dX10_nearest_54 : decode cX10_nearest 54 = .ok (.iload 6, 2) := by decide +kernel
theorem dX10_nearest_56 : decode cX10_nearest 56 = .ok (.ifCond .ne 12, 3) := by decide +kernel
theorem dX10_nearest_59 : decode cX10_nearest 59 = .ok (.aload_n 0, 1) := by decide +kernel
theorem dX10_nearest_60 : decode cX10_nearest 60 = .ok (.iload 7, 2) := by decide +kernel
theorem dX10_nearest_62 : decode cX10_nearest 62 = .ok (.invokevirtual 228, 3) := by decide +kernel
theorem dX10_nearest_65 : decode cX10_nearest 65 = .ok (.goto 13, 3) := by decide +kernel
theorem dX10_nearest_68 : decode cX10_nearest 68 = .ok (.aload_n 0, 1) := by decide +kernel
theorem dX10_nearest_69 : decode cX10_nearest 69 = .ok (.getfield 42, 3) := by decide +kernel
theorem dX10_nearest_72 : decode cX10_nearest 72 = .ok (.getfield 153, 3) := by decide +kernel
theorem dX10_nearest_75 : decode cX10_nearest 75 = .ok (.iload 7, 2) := by decide +kernel
theorem dX10_nearest_77 : decode cX10_nearest 77 = .ok (.iaload, 1) := by decide +kernel
theorem dX10_nearest_78 : decode cX10_nearest 78 = .ok (.ixor, 1) := by decide +kernel
theorem dX10_nearest_79 : decode cX10_nearest 79 = .ok (.invokestatic 232, 3) := by decide +kernel
theorem dX10_nearest_82 : decode cX10_nearest 82 = .ok (.istore 8, 2) := by decide +kernel
theorem dX10_nearest_84 : decode cX10_nearest 84 = .ok (.iload 8, 2) := by decide +kernel
theorem dX10_nearest_86 : decode cX10_nearest 86 = .ok (.iload_n 3, 1) := by decide +kernel
theorem dX10_nearest_87 : decode cX10_nearest 87 = .ok (.if_icmp .ge 14, 3) := by decide +kernel
theorem dX10_nearest_90 : decode cX10_nearest 90 = .ok (.iload 8, 2) := by decide +kernel
theorem dX10_nearest_92 : decode cX10_nearest 92 = .ok (.istore_n 3, 1) := by decide +kernel
theorem dX10_nearest_93 : decode cX10_nearest 93 = .ok (.iload 7, 2) := by decide +kernel
theorem dX10_nearest_95 : decode cX10_nearest 95 = .ok (.istore 4, 2) := by decide +kernel
theorem dX10_nearest_97 : decode cX10_nearest 97 = .ok (.iload 6, 2) := by decide +kernel
theorem dX10_nearest_99 : decode cX10_nearest 99 = .ok (.istore 5, 2) := by decide +kernel
theorem dX10_nearest_101 : decode cX10_nearest 101 = .ok (.iinc 7 1, 3) := by decide +kernel
theorem dX10_nearest_104 : decode cX10_nearest 104 = .ok (.goto (-63), 3) := by decide +kernel
theorem dX10_nearest_107 : decode cX10_nearest 107 = .ok (.iinc 6 1, 3) := by decide +kernel
theorem dX10_nearest_110 : decode cX10_nearest 110 = .ok (.goto (-78), 3) := by decide +kernel
theorem dX10_nearest_113 : decode cX10_nearest 113 = .ok (.iload_n 2, 1) := by decide +kernel
theorem dX10_nearest_114 : decode cX10_nearest 114 = .ok (.ifCond .ne 5, 3) := by decide +kernel
theorem dX10_nearest_117 : decode cX10_nearest 117 = .ok (.iload_n 3, 1) := by decide +kernel
theorem dX10_nearest_118 : decode cX10_nearest 118 = .ok (.ireturn, 1) := by decide +kernel
theorem dX10_nearest_119 : decode cX10_nearest 119 = .ok (.iload_n 2, 1) := by decide +kernel
theorem dX10_nearest_120 : decode cX10_nearest 120 = .ok (.iconst 1, 1) := by decide +kernel
theorem dX10_nearest_121 : decode cX10_nearest 121 = .ok (.if_icmp .ne 8, 3) := by decide +kernel
theorem dX10_nearest_124 : decode cX10_nearest 124 = .ok (.iload 4, 2) := by decide +kernel
theorem dX10_nearest_126 : decode cX10_nearest 126 = .ok (.goto 5, 3) := by decide +kernel
theorem dX10_nearest_129 : decode cX10_nearest 129 = .ok (.iload 5, 2) := by decide +kernel
theorem dX10_nearest_131 : decode cX10_nearest 131 = .ok (.ireturn, 1) := by decide +kernel
theorem dX10_common_0 : decode cX10_common 0 = .ok (.iload_n 1, 1) := by decide +kernel
theorem dX10_common_1 : decode cX10_common 1 = .ok (.tableswitch 42 0 2 #[27, 32, 37], 27) := by decide +kernel
theorem dX10_common_28 : decode cX10_common 28 = .ok (.aload_n 0, 1) := by decide +kernel
theorem dX10_common_29 : decode cX10_common 29 = .ok (.invokevirtual 251, 3) := by decide +kernel
theorem dX10_common_32 : decode cX10_common 32 = .ok (.ireturn, 1) := by decide +kernel
theorem dX10_common_33 : decode cX10_common 33 = .ok (.aload_n 0, 1) := by decide +kernel
theorem dX10_common_34 : decode cX10_common 34 = .ok (.invokevirtual 254, 3) := by decide +kernel
theorem dX10_common_37 : decode cX10_common 37 = .ok (.ireturn, 1) := by decide +kernel
theorem dX10_common_38 : decode cX10_common 38 = .ok (.aload_n 0, 1) := by decide +kernel
theorem dX10_common_39 : decode cX10_common 39 = .ok (.invokevirtual 257, 3) := by decide +kernel
theorem dX10_common_42 : decode cX10_common 42 = .ok (.ireturn, 1) := by decide +kernel
theorem dX10_common_43 : decode cX10_common 43 = .ok (.iconst (-1), 1) := by decide +kernel
theorem dX10_common_44 : decode cX10_common 44 = .ok (.ireturn, 1) := by decide +kernel
theorem dX10_marksOfAllSeals_0 : decode cX10_marksOfAllSeals 0 = .ok (.aload_n 0, 1) := by decide +kernel
theorem dX10_marksOfAllSeals_1 : decode cX10_marksOfAllSeals 1 = .ok (.getfield 23, 3) := by decide +kernel
theorem dX10_marksOfAllSeals_4 : decode cX10_marksOfAllSeals 4 = .ok (.invokevirtual 240, 3) := by decide +kernel
theorem dX10_marksOfAllSeals_7 : decode cX10_marksOfAllSeals 7 = .ok (.iconst 1, 1) := by decide +kernel
theorem dX10_marksOfAllSeals_8 : decode cX10_marksOfAllSeals 8 = .ok (.isub, 1) := by decide +kernel
theorem dX10_marksOfAllSeals_9 : decode cX10_marksOfAllSeals 9 = .ok (.istore_n 1, 1) := by decide +kernel
theorem dX10_marksOfAllSeals_10 : decode cX10_marksOfAllSeals 10 = .ok (.iconst 0, 1) := by decide +kernel
theorem dX10_marksOfAllSeals_11 : decode cX10_marksOfAllSeals 11 = .ok (.istore_n 2, 1) := by decide +kernel
theorem dX10_marksOfAllSeals_12 : decode cX10_marksOfAllSeals 12 = .ok (.iload_n 2, 1) := by decide +kernel
theorem dX10_marksOfAllSeals_13 : decode cX10_marksOfAllSeals 13 = .ok (.aload_n 0, 1) := by decide +kernel
theorem dX10_marksOfAllSeals_14 : decode cX10_marksOfAllSeals 14 = .ok (.getfield 42, 3) := by decide +kernel
theorem dX10_marksOfAllSeals_17 : decode cX10_marksOfAllSeals 17 = .ok (.getfield 204, 3) := by decide +kernel
theorem dX10_marksOfAllSeals_20 : decode cX10_marksOfAllSeals 20 = .ok (.if_icmp .ge 21, 3) := by decide +kernel
theorem dX10_marksOfAllSeals_23 : decode cX10_marksOfAllSeals 23 = .ok (.iload_n 1, 1) := by decide +kernel
theorem dX10_marksOfAllSeals_24 : decode cX10_marksOfAllSeals 24 = .ok (.aload_n 0, 1) := by decide +kernel
theorem dX10_marksOfAllSeals_25 : decode cX10_marksOfAllSeals 25 = .ok (.getfield 42, 3) := by decide +kernel
theorem dX10_marksOfAllSeals_28 : decode cX10_marksOfAllSeals 28 = .ok (.getfield 153, 3) := by decide +kernel
theorem dX10_marksOfAllSeals_31 : decode cX10_marksOfAllSeals 31 = .ok (.iload_n 2, 1) := by decide +kernel
theorem dX10_marksOfAllSeals_32 : decode cX10_marksOfAllSeals 32 = .ok (.iaload, 1) := by decide +kernel
theorem dX10_marksOfAllSeals_33 : decode cX10_marksOfAllSeals 33 = .ok (.iand, 1) := by decide +kernel
theorem dX10_marksOfAllSeals_34 : decode cX10_marksOfAllSeals 34 = .ok (.istore_n 1, 1) := by decide +kernel
theorem dX10_marksOfAllSeals_35 : decode cX10_marksOfAllSeals 35 = .ok (.iinc 2 1, 3) := by decide +kernel
theorem dX10_marksOfAllSeals_38 : decode cX10_marksOfAllSeals 38 = .ok (.goto (-26), 3) := by decide +kernel
theorem dX10_marksOfAllSeals_41 : decode cX10_marksOfAllSeals 41 = .ok (.iload_n 1, 1) := by decide +kernel
theorem dX10_marksOfAllSeals_42 : decode cX10_marksOfAllSeals 42 = .ok (.ireturn, 1) := by decide +kernel
theorem dX10_marksOfSomeSeals_0 : decode cX10_marksOfSomeSeals 0 = .ok (.iconst 0, 1) := by decide +kernel
theorem dX10_marksOfSomeSeals_1 : decode cX10_marksOfSomeSeals 1 = .ok (.istore_n 1, 1) := by decide +kernel
theorem dX10_marksOfSomeSeals_2 : decode cX10_marksOfSomeSeals 2 = .ok (.iconst 0, 1) := by decide +kernel
theorem dX10_marksOfSomeSeals_3 : decode cX10_marksOfSomeSeals 3 = .ok (.istore_n 2, 1) := by decide +kernel
theorem dX10_marksOfSomeSeals_4 : decode cX10_marksOfSomeSeals 4 = .ok (.iload_n 2, 1) := by decide +kernel
theorem dX10_marksOfSomeSeals_5 : decode cX10_marksOfSomeSeals 5 = .ok (.aload_n 0, 1) := by decide +kernel
theorem dX10_marksOfSomeSeals_6 : decode cX10_marksOfSomeSeals 6 = .ok (.getfield 42, 3) := by decide +kernel
theorem dX10_marksOfSomeSeals_9 : decode cX10_marksOfSomeSeals 9 = .ok (.getfield 204, 3) := by decide +kernel
theorem dX10_marksOfSomeSeals_12 : decode cX10_marksOfSomeSeals 12 = .ok (.if_icmp .ge 21, 3) := by decide +kernel
theorem dX10_marksOfSomeSeals_15 : decode cX10_marksOfSomeSeals 15 = .ok (.iload_n 1, 1) := by decide +kernel
theorem dX10_marksOfSomeSeals_16 : decode cX10_marksOfSomeSeals 16 = .ok (.aload_n 0, 1) := by decide +kernel
theorem dX10_marksOfSomeSeals_17 : decode cX10_marksOfSomeSeals 17 = .ok (.getfield 42, 3) := by decide +kernel
theorem dX10_marksOfSomeSeals_20 : decode cX10_marksOfSomeSeals 20 = .ok (.getfield 153, 3) := by decide +kernel
theorem dX10_marksOfSomeSeals_23 : decode cX10_marksOfSomeSeals 23 = .ok (.iload_n 2, 1) := by decide +kernel
theorem dX10_marksOfSomeSeals_24 : decode cX10_marksOfSomeSeals 24 = .ok (.iaload, 1) := by decide +kernel
theorem dX10_marksOfSomeSeals_25 : decode cX10_marksOfSomeSeals 25 = .ok (.ior, 1) := by decide +kernel
theorem dX10_marksOfSomeSeals_26 : decode cX10_marksOfSomeSeals 26 = .ok (.istore_n 1, 1) := by decide +kernel
theorem dX10_marksOfSomeSeals_27 : decode cX10_marksOfSomeSeals 27 = .ok (.iinc 2 1, 3) := by decide +kernel
theorem dX10_marksOfSomeSeals_30 : decode cX10_marksOfSomeSeals 30 = .ok (.goto (-26), 3) := by decide +kernel
theorem dX10_marksOfSomeSeals_33 : decode cX10_marksOfSomeSeals 33 = .ok (.iload_n 1, 1) := by decide +kernel
theorem dX10_marksOfSomeSeals_34 : decode cX10_marksOfSomeSeals 34 = .ok (.ireturn, 1) := by decide +kernel
theorem dX10_marksOfAllPrints_0 : decode cX10_marksOfAllPrints 0 = .ok (.aload_n 0, 1) := by decide +kernel
theorem dX10_marksOfAllPrints_1 : decode cX10_marksOfAllPrints 1 = .ok (.getfield 23, 3) := by decide +kernel
theorem dX10_marksOfAllPrints_4 : decode cX10_marksOfAllPrints 4 = .ok (.invokevirtual 240, 3) := by decide +kernel
theorem dX10_marksOfAllPrints_7 : decode cX10_marksOfAllPrints 7 = .ok (.iconst 1, 1) := by decide +kernel
theorem dX10_marksOfAllPrints_8 : decode cX10_marksOfAllPrints 8 = .ok (.isub, 1) := by decide +kernel
theorem dX10_marksOfAllPrints_9 : decode cX10_marksOfAllPrints 9 = .ok (.istore_n 1, 1) := by decide +kernel
theorem dX10_marksOfAllPrints_10 : decode cX10_marksOfAllPrints 10 = .ok (.iconst 0, 1) := by decide +kernel
theorem dX10_marksOfAllPrints_11 : decode cX10_marksOfAllPrints 11 = .ok (.istore_n 2, 1) := by decide +kernel
theorem dX10_marksOfAllPrints_12 : decode cX10_marksOfAllPrints 12 = .ok (.iload_n 2, 1) := by decide +kernel
theorem dX10_marksOfAllPrints_13 : decode cX10_marksOfAllPrints 13 = .ok (.aload_n 0, 1) := by decide +kernel
theorem dX10_marksOfAllPrints_14 : decode cX10_marksOfAllPrints 14 = .ok (.getfield 42, 3) := by decide +kernel
theorem dX10_marksOfAllPrints_17 : decode cX10_marksOfAllPrints 17 = .ok (.getfield 168, 3) := by decide +kernel
theorem dX10_marksOfAllPrints_20 : decode cX10_marksOfAllPrints 20 = .ok (.if_icmp .ge 21, 3) := by decide +kernel
theorem dX10_marksOfAllPrints_23 : decode cX10_marksOfAllPrints 23 = .ok (.iload_n 1, 1) := by decide +kernel
theorem dX10_marksOfAllPrints_24 : decode cX10_marksOfAllPrints 24 = .ok (.aload_n 0, 1) := by decide +kernel
theorem dX10_marksOfAllPrints_25 : decode cX10_marksOfAllPrints 25 = .ok (.getfield 42, 3) := by decide +kernel
theorem dX10_marksOfAllPrints_28 : decode cX10_marksOfAllPrints 28 = .ok (.getfield 171, 3) := by decide +kernel
theorem dX10_marksOfAllPrints_31 : decode cX10_marksOfAllPrints 31 = .ok (.iload_n 2, 1) := by decide +kernel
theorem dX10_marksOfAllPrints_32 : decode cX10_marksOfAllPrints 32 = .ok (.iaload, 1) := by decide +kernel
theorem dX10_marksOfAllPrints_33 : decode cX10_marksOfAllPrints 33 = .ok (.iand, 1) := by decide +kernel
theorem dX10_marksOfAllPrints_34 : decode cX10_marksOfAllPrints 34 = .ok (.istore_n 1, 1) := by decide +kernel
theorem dX10_marksOfAllPrints_35 : decode cX10_marksOfAllPrints 35 = .ok (.iinc 2 1, 3) := by decide +kernel
theorem dX10_marksOfAllPrints_38 : decode cX10_marksOfAllPrints 38 = .ok (.goto (-26), 3) := by decide +kernel
theorem dX10_marksOfAllPrints_41 : decode cX10_marksOfAllPrints 41 = .ok (.iload_n 1, 1) := by decide +kernel
theorem dX10_marksOfAllPrints_42 : decode cX10_marksOfAllPrints 42 = .ok (.ireturn, 1) := by decide +kernel
theorem dX10_alike_0 : decode cX10_alike 0 = .ok (.aload_n 0, 1) := by decide +kernel
theorem dX10_alike_1 : decode cX10_alike 1 = .ok (.iload_n 1, 1) := by decide +kernel
theorem dX10_alike_2 : decode cX10_alike 2 = .ok (.invokevirtual 180, 3) := by decide +kernel
theorem dX10_alike_5 : decode cX10_alike 5 = .ok (.ifCond .ne 5, 3) := by decide +kernel
theorem dX10_alike_8 : decode cX10_alike 8 = .ok (.iconst (-1), 1) := by decide +kernel
theorem dX10_alike_9 : decode cX10_alike 9 = .ok (.ireturn, 1) := by decide +kernel
theorem dX10_alike_10 : decode cX10_alike 10 = .ok (.iload_n 2, 1) := by decide +kernel
theorem dX10_alike_11 : decode cX10_alike 11 = .ok (.ifCond .eq 17, 3) := by decide +kernel
theorem dX10_alike_14 : decode cX10_alike 14 = .ok (.iload_n 1, 1) := by decide +kernel
theorem dX10_alike_15 : decode cX10_alike 15 = .ok (.aload_n 0, 1) := by decide +kernel
theorem dX10_alike_16 : decode cX10_alike 16 = .ok (.getfield 23, 3) := by decide +kernel
theorem dX10_alike_19 : decode cX10_alike 19 = .ok (.getfield 183, 3) := by decide +kernel
theorem dX10_alike_22 : decode cX10_alike 22 = .ok (.invokestatic 186, 3) := by decide +kernel
theorem dX10_alike_25 : decode cX10_alike 25 = .ok (.goto 4, 3) := by decide +kernel
theorem dX10_alike_28 : decode cX10_alike 28 = .ok (.iload_n 1, 1) := by decide +kernel
theorem dX10_alike_29 : decode cX10_alike 29 = .ok (.istore_n 3, 1) := by decide +kernel
theorem dX10_alike_30 : decode cX10_alike 30 = .ok (.iconst 0, 1) := by decide +kernel
theorem dX10_alike_31 : decode cX10_alike 31 = .ok (.istore 4, 2) := by decide +kernel
theorem dX10_alike_33 : decode cX10_alike 33 = .ok (.iconst 0, 1) := by decide +kernel
theorem dX10_alike_34 : decode cX10_alike 34 = .ok (.istore 5, 2) := by decide +kernel
theorem dX10_alike_36 : decode cX10_alike 36 = .ok (.iload 5, 2) := by decide +kernel
theorem dX10_alike_38 : decode cX10_alike 38 = .ok (.aload_n 0, 1) := by decide +kernel
theorem dX10_alike_39 : decode cX10_alike 39 = .ok (.getfield 42, 3) := by decide +kernel
theorem dX10_alike_42 : decode cX10_alike 42 = .ok (.getfield 204, 3) := by decide +kernel
theorem dX10_alike_45 : decode cX10_alike 45 = .ok (.if_icmp .ge 32, 3) := by decide +kernel
theorem dX10_alike_48 : decode cX10_alike 48 = .ok (.aload_n 0, 1) := by decide +kernel
theorem dX10_alike_49 : decode cX10_alike 49 = .ok (.getfield 42, 3) := by decide +kernel
theorem dX10_alike_52 : decode cX10_alike 52 = .ok (.getfield 153, 3) := by decide +kernel
theorem dX10_alike_55 : decode cX10_alike 55 = .ok (.iload 5, 2) := by decide +kernel
theorem dX10_alike_57 : decode cX10_alike 57 = .ok (.iaload, 1) := by decide +kernel
theorem dX10_alike_58 : decode cX10_alike 58 = .ok (.iload_n 3, 1) := by decide +kernel
theorem dX10_alike_59 : decode cX10_alike 59 = .ok (.if_icmp .ne 12, 3) := by decide +kernel
theorem dX10_alike_62 : decode cX10_alike 62 = .ok (.iload 4, 2) := by decide +kernel
theorem dX10_alike_64 : decode cX10_alike 64 = .ok (.iconst 1, 1) := by decide +kernel
theorem dX10_alike_65 : decode cX10_alike 65 = .ok (.iload 5, 2) := by decide +kernel
theorem dX10_alike_67 : decode cX10_alike 67 = .ok (.ishl, 1) := by decide +kernel
theorem dX10_alike_68 : decode cX10_alike 68 = .ok (.ior, 1) := by decide +kernel
theorem dX10_alike_69 : decode cX10_alike 69 = .ok (.istore 4, 2) := by decide +kernel
theorem dX10_alike_71 : decode cX10_alike 71 = .ok (.iinc 5 1, 3) := by decide +kernel
theorem dX10_alike_74 : decode cX10_alike 74 = .ok (.goto (-38), 3) := by decide +kernel
theorem dX10_alike_77 : decode cX10_alike 77 = .ok (.iload 4, 2) := by decide +kernel
theorem dX10_alike_79 : decode cX10_alike 79 = .ok (.ireturn, 1) := by decide +kernel
theorem dX10_tell_0 : decode cX10_tell 0 = .ok (.aload_n 0, 1) := by decide +kernel
theorem dX10_tell_1 : decode cX10_tell 1 = .ok (.getfield 23, 3) := by decide +kernel
theorem dX10_tell_4 : decode cX10_tell 4 = .ok (.getfield 183, 3) := by decide +kernel
theorem dX10_tell_7 : decode cX10_tell 7 = .ok (.iconst 1, 1) := by decide +kernel
theorem dX10_tell_8 : decode cX10_tell 8 = .ok (.iadd, 1) := by decide +kernel
theorem dX10_tell_9 : decode cX10_tell 9 = .ok (.istore_n 1, 1) := by decide +kernel
theorem dX10_tell_10 : decode cX10_tell 10 = .ok (.iconst 0, 1) := by decide +kernel
theorem dX10_tell_11 : decode cX10_tell 11 = .ok (.istore_n 2, 1) := by decide +kernel
theorem dX10_tell_12 : decode cX10_tell 12 = .ok (.iconst 0, 1) := by decide +kernel
theorem dX10_tell_13 : decode cX10_tell 13 = .ok (.istore_n 3, 1) := by decide +kernel
theorem dX10_tell_14 : decode cX10_tell 14 = .ok (.iload_n 3, 1) := by decide +kernel
theorem dX10_tell_15 : decode cX10_tell 15 = .ok (.aload_n 0, 1) := by decide +kernel
theorem dX10_tell_16 : decode cX10_tell 16 = .ok (.getfield 23, 3) := by decide +kernel
theorem dX10_tell_19 : decode cX10_tell 19 = .ok (.invokevirtual 240, 3) := by decide +kernel
theorem dX10_tell_22 : decode cX10_tell 22 = .ok (.if_icmp .ge 32, 3) := by decide +kernel
theorem dX10_tell_25 : decode cX10_tell 25 = .ok (.iload_n 3, 1) := by decide +kernel
theorem dX10_tell_26 : decode cX10_tell 26 = .ok (.invokestatic 232, 3) := by decide +kernel
theorem dX10_tell_29 : decode cX10_tell 29 = .ok (.iload_n 1, 1) := by decide +kernel
theorem dX10_tell_30 : decode cX10_tell 30 = .ok (.if_icmp .ge 18, 3) := by decide +kernel
theorem dX10_tell_33 : decode cX10_tell 33 = .ok (.aload_n 0, 1) := by decide +kernel
theorem dX10_tell_34 : decode cX10_tell 34 = .ok (.iload_n 3, 1) := by decide +kernel
theorem dX10_tell_35 : decode cX10_tell 35 = .ok (.invokevirtual 260, 3) := by decide +kernel
theorem dX10_tell_38 : decode cX10_tell 38 = .ok (.ifCond .eq 10, 3) := by decide +kernel
theorem dX10_tell_41 : decode cX10_tell 41 = .ok (.iload_n 3, 1) := by decide +kernel
theorem dX10_tell_42 : decode cX10_tell 42 = .ok (.invokestatic 232, 3) := by decide +kernel
theorem dX10_tell_45 : decode cX10_tell 45 = .ok (.istore_n 1, 1) := by decide +kernel
theorem dX10_tell_46 : decode cX10_tell 46 = .ok (.iload_n 3, 1) := by decide +kernel
theorem dX10_tell_47 : decode cX10_tell 47 = .ok (.istore_n 2, 1) := by decide +kernel
theorem dX10_tell_48 : decode cX10_tell 48 = .ok (.iinc 3 1, 3) := by decide +kernel
theorem dX10_tell_51 : decode cX10_tell 51 = .ok (.goto (-37), 3) := by decide +kernel
theorem dX10_tell_54 : decode cX10_tell 54 = .ok (.aload_n 0, 1) := by decide +kernel
theorem dX10_tell_55 : decode cX10_tell 55 = .ok (.getfield 88, 3) := by decide +kernel
theorem dX10_tell_58 : decode cX10_tell 58 = .ok (.iconst 0, 1) := by decide +kernel
theorem dX10_tell_59 : decode cX10_tell 59 = .ok (.putfield 148, 3) := by decide +kernel
theorem dX10_tell_62 : decode cX10_tell 62 = .ok (.iconst 0, 1) := by decide +kernel
theorem dX10_tell_63 : decode cX10_tell 63 = .ok (.istore_n 3, 1) := by decide +kernel
theorem dX10_tell_64 : decode cX10_tell 64 = .ok (.iload_n 3, 1) := by decide +kernel
theorem dX10_tell_65 : decode cX10_tell 65 = .ok (.aload_n 0, 1) := by decide +kernel
theorem dX10_tell_66 : decode cX10_tell 66 = .ok (.getfield 23, 3) := by decide +kernel
theorem dX10_tell_69 : decode cX10_tell 69 = .ok (.getfield 183, 3) := by decide +kernel
theorem dX10_tell_72 : decode cX10_tell 72 = .ok (.if_icmp .ge 25, 3) := by decide +kernel
theorem dX10_tell_75 : decode cX10_tell 75 = .ok (.iload_n 2, 1) := by decide +kernel
theorem dX10_tell_76 : decode cX10_tell 76 = .ok (.iload_n 3, 1) := by decide +kernel
theorem dX10_tell_77 : decode cX10_tell 77 = .ok (.ishr, 1) := by decide +kernel
theorem dX10_tell_78 : decode cX10_tell 78 = .ok (.iconst 1, 1) := by decide +kernel
theorem dX10_tell_79 : decode cX10_tell 79 = .ok (.iand, 1) := by decide +kernel
theorem dX10_tell_80 : decode cX10_tell 80 = .ok (.ifCond .eq 11, 3) := by decide +kernel
theorem dX10_tell_83 : decode cX10_tell 83 = .ok (.aload_n 0, 1) := by decide +kernel
theorem dX10_tell_84 : decode cX10_tell 84 = .ok (.getfield 88, 3) := by decide +kernel
theorem dX10_tell_87 : decode cX10_tell 87 = .ok (.iload_n 3, 1) := by decide +kernel
theorem dX10_tell_88 : decode cX10_tell 88 = .ok (.invokevirtual 263, 3) := by decide +kernel
theorem dX10_tell_91 : decode cX10_tell 91 = .ok (.iinc 3 1, 3) := by decide +kernel
theorem dX10_tell_94 : decode cX10_tell 94 = .ok (.goto (-30), 3) := by decide +kernel
theorem dX10_tell_97 : decode cX10_tell 97 = .ok (.iload_n 1, 1) := by decide +kernel
theorem dX10_tell_98 : decode cX10_tell 98 = .ok (.ireturn, 1) := by decide +kernel
theorem dX10_tellsApart_0 : decode cX10_tellsApart 0 = .ok (.iconst 1, 1) := by decide +kernel
theorem dX10_tellsApart_1 : decode cX10_tellsApart 1 = .ok (.istore_n 2, 1) := by decide +kernel
theorem dX10_tellsApart_2 : decode cX10_tellsApart 2 = .ok (.iload_n 2, 1) := by decide +kernel
theorem dX10_tellsApart_3 : decode cX10_tellsApart 3 = .ok (.aload_n 0, 1) := by decide +kernel
theorem dX10_tellsApart_4 : decode cX10_tellsApart 4 = .ok (.getfield 42, 3) := by decide +kernel
theorem dX10_tellsApart_7 : decode cX10_tellsApart 7 = .ok (.getfield 204, 3) := by decide +kernel
theorem dX10_tellsApart_10 : decode cX10_tellsApart 10 = .ok (.if_icmp .ge 57, 3) := by decide +kernel
theorem dX10_tellsApart_13 : decode cX10_tellsApart 13 = .ok (.iconst 0, 1) := by decide +kernel
theorem dX10_tellsApart_14 : decode cX10_tellsApart 14 = .ok (.istore_n 3, 1) := by decide +kernel
theorem dX10_tellsApart_15 : decode cX10_tellsApart 15 = .ok (.iload_n 3, 1) := by decide +kernel
theorem dX10_tellsApart_16 : decode cX10_tellsApart 16 = .ok (.iload_n 2, 1) := by decide +kernel
theorem dX10_tellsApart_17 : decode cX10_tellsApart 17 = .ok (.if_icmp .ge 44, 3) := by decide +kernel
theorem dX10_tellsApart_20 : decode cX10_tellsApart 20 = .ok (.aload_n 0, 1) := by decide +kernel
theorem dX10_tellsApart_21 : decode cX10_tellsApart 21 = .ok (.getfield 42, 3) := by decide +kernel
theorem dX10_tellsApart_24 : decode cX10_tellsApart 24 = .ok (.getfield 153, 3) := by decide +kernel
theorem dX10_tellsApart_27 : decode cX10_tellsApart 27 = .ok (.iload_n 2, 1) := by decide +kernel
theorem dX10_tellsApart_28 : decode cX10_tellsApart 28 = .ok (.iaload, 1) := by decide +kernel
theorem dX10_tellsApart_29 : decode cX10_tellsApart 29 = .ok (.aload_n 0, 1) := by decide +kernel
theorem dX10_tellsApart_30 : decode cX10_tellsApart 30 = .ok (.getfield 42, 3) := by decide +kernel
theorem dX10_tellsApart_33 : decode cX10_tellsApart 33 = .ok (.getfield 153, 3) := by decide +kernel
theorem dX10_tellsApart_36 : decode cX10_tellsApart 36 = .ok (.iload_n 3, 1) := by decide +kernel
theorem dX10_tellsApart_37 : decode cX10_tellsApart 37 = .ok (.iaload, 1) := by decide +kernel
theorem dX10_tellsApart_38 : decode cX10_tellsApart 38 = .ok (.ixor, 1) := by decide +kernel
theorem dX10_tellsApart_39 : decode cX10_tellsApart 39 = .ok (.istore 4, 2) := by decide +kernel
theorem dX10_tellsApart_41 : decode cX10_tellsApart 41 = .ok (.iload 4, 2) := by decide +kernel
theorem dX10_tellsApart_43 : decode cX10_tellsApart 43 = .ok (.ifCond .eq 12, 3) := by decide +kernel
theorem dX10_tellsApart_46 : decode cX10_tellsApart 46 = .ok (.iload 4, 2) := by decide +kernel
theorem dX10_tellsApart_48 : decode cX10_tellsApart 48 = .ok (.iload_n 1, 1) := by decide +kernel
theorem dX10_tellsApart_49 : decode cX10_tellsApart 49 = .ok (.iand, 1) := by decide +kernel
theorem dX10_tellsApart_50 : decode cX10_tellsApart 50 = .ok (.ifCond .ne 5, 3) := by decide +kernel
theorem dX10_tellsApart_53 : decode cX10_tellsApart 53 = .ok (.iconst 0, 1) := by decide +kernel
theorem dX10_tellsApart_54 : decode cX10_tellsApart 54 = .ok (.ireturn, 1) := by decide +kernel
theorem dX10_tellsApart_55 : decode cX10_tellsApart 55 = .ok (.iinc 3 1, 3) := by decide +kernel
theorem dX10_tellsApart_58 : decode cX10_tellsApart 58 = .ok (.goto (-43), 3) := by decide +kernel
theorem dX10_tellsApart_61 : decode cX10_tellsApart 61 = .ok (.iinc 2 1, 3) := by decide +kernel
theorem dX10_tellsApart_64 : decode cX10_tellsApart 64 = .ok (.goto (-62), 3) := by decide +kernel
theorem dX10_tellsApart_67 : decode cX10_tellsApart 67 = .ok (.iconst 1, 1) := by decide +kernel
theorem dX10_tellsApart_68 : decode cX10_tellsApart 68 = .ok (.ireturn, 1) := by decide +kernel
theorem dX10_round_0 : decode cX10_round 0 = .ok (.aload_n 0, 1) := by decide +kernel
theorem dX10_round_1 : decode cX10_round 1 = .ok (.iload_n 1, 1) := by decide +kernel
theorem dX10_round_2 : decode cX10_round 2 = .ok (.iload_n 2, 1) := by decide +kernel
theorem dX10_round_3 : decode cX10_round 3 = .ok (.iload_n 3, 1) := by decide +kernel
theorem dX10_round_4 : decode cX10_round 4 = .ok (.invokevirtual 200, 3) := by decide +kernel
theorem dX10_round_7 : decode cX10_round 7 = .ok (.ifCond .eq 14, 3) := by decide +kernel
theorem dX10_round_10 : decode cX10_round 10 = .ok (.iload 4, 2) := by decide +kernel
theorem dX10_round_12 : decode cX10_round 12 = .ok (.ifCond .lt 9, 3) := by decide +kernel
theorem dX10_round_15 : decode cX10_round 15 = .ok (.iload 4, 2) := by decide +kernel
theorem dX10_round_17 : decode cX10_round 17 = .ok (.iconst 1, 1) := by decide +kernel
theorem dX10_round_18 : decode cX10_round 18 = .ok (.if_icmp .le 5, 3) := by decide +kernel
theorem dX10_round_21 : decode cX10_round 21 = .ok (.iconst (-1), 1) := by decide +kernel
theorem dX10_round_22 : decode cX10_round 22 = .ok (.ireturn, 1) := by decide +kernel
theorem dX10_round_23 : decode cX10_round 23 = .ok (.aload_n 0, 1) := by decide +kernel
theorem dX10_round_24 : decode cX10_round 24 = .ok (.aload_n 0, 1) := by decide +kernel
theorem dX10_round_25 : decode cX10_round 25 = .ok (.getfield 42, 3) := by decide +kernel
theorem dX10_round_28 : decode cX10_round 28 = .ok (.getfield 153, 3) := by decide +kernel
theorem dX10_round_31 : decode cX10_round 31 = .ok (.iload_n 1, 1) := by decide +kernel
theorem dX10_round_32 : decode cX10_round 32 = .ok (.iaload, 1) := by decide +kernel
theorem dX10_round_33 : decode cX10_round 33 = .ok (.iload_n 2, 1) := by decide +kernel
theorem dX10_round_34 : decode cX10_round 34 = .ok (.iload_n 3, 1) := by decide +kernel
theorem dX10_round_35 : decode cX10_round 35 = .ok (.invokevirtual 244, 3) := by decide +kernel
theorem dX10_round_38 : decode cX10_round 38 = .ok (.istore 5, 2) := by decide +kernel
theorem dX10_round_40 : decode cX10_round 40 = .ok (.iconst 0, 1) := by decide +kernel
theorem dX10_round_41 : decode cX10_round 41 = .ok (.istore 6, 2) := by decide +kernel
theorem dX10_round_43 : decode cX10_round 43 = .ok (.iconst 0, 1) := by decide +kernel
theorem dX10_round_44 : decode cX10_round 44 = .ok (.istore 7, 2) := by decide +kernel
theorem dX10_round_46 : decode cX10_round 46 = .ok (.iload 7, 2) := by decide +kernel
theorem dX10_round_48 : decode cX10_round 48 = .ok (.aload_n 0, 1) := by decide +kernel
theorem dX10_round_49 : decode cX10_round 49 = .ok (.getfield 23, 3) := by decide +kernel
theorem dX10_round_52 : decode cX10_round 52 = .ok (.invokevirtual 240, 3) := by decide +kernel
theorem dX10_round_55 : decode cX10_round 55 = .ok (.if_icmp .ge 23, 3) := by decide +kernel
theorem dX10_round_58 : decode cX10_round 58 = .ok (.iload 6, 2) := by decide +kernel
theorem dX10_round_60 : decode cX10_round 60 = .ok (.aload_n 0, 1) := by decide +kernel
theorem dX10_round_61 : decode cX10_round 61 = .ok (.getfield 100, 3) := by decide +kernel
theorem dX10_round_64 : decode cX10_round 64 = .ok (.iload 7, 2) := by decide +kernel
theorem dX10_round_66 : decode cX10_round 66 = .ok (.iaload, 1) := by decide +kernel
theorem dX10_round_67 : decode cX10_round 67 = .ok (.invokestatic 266, 3) := by decide +kernel
theorem dX10_round_70 : decode cX10_round 70 = .ok (.istore 6, 2) := by decide +kernel
theorem dX10_round_72 : decode cX10_round 72 = .ok (.iinc 7 1, 3) := by decide +kernel
theorem dX10_round_75 : decode cX10_round 75 = .ok (.goto (-29), 3) := by decide +kernel
theorem dX10_round_78 : decode cX10_round 78 = .ok (.iload 4, 2) := by decide +kernel
theorem dX10_round_80 : decode cX10_round 80 = .ok (.ifCond .eq 12, 3) := by decide +kernel
theorem dX10_round_83 : decode cX10_round 83 = .ok (.aload_n 0, 1) := by decide +kernel
theorem dX10_round_84 : decode cX10_round 84 = .ok (.iload 5, 2) := by decide +kernel
theorem dX10_round_86 : decode cX10_round 86 = .ok (.invokevirtual 180, 3) := by decide +kernel
theorem dX10_round_89 : decode cX10_round 89 = .ok (.ifCond .ne 8, 3) := by decide +kernel
theorem dX10_round_92 : decode cX10_round 92 = .ok (.iload 6, 2) := by decide +kernel
theorem dX10_round_94 : decode cX10_round 94 = .ok (.goto 15, 3) := by decide +kernel
theorem dX10_round_97 : decode cX10_round 97 = .ok (.iload 6, 2) := by decide +kernel
theorem dX10_round_99 : decode cX10_round 99 = .ok (.aload_n 0, 1) := by decide +kernel
theorem dX10_round_100 : decode cX10_round 100 = .ok (.getfield 100, 3) := by decide +kernel
theorem dX10_round_103 : decode cX10_round 103 = .ok (.iload 5, 2) := by decide +kernel
theorem dX10_round_105 : decode cX10_round 105 = .ok (.iaload, 1) := by decide +kernel
theorem dX10_round_106 : decode cX10_round 106 = .ok (.iconst 1, 1) := by decide +kernel
theorem dX10_round_107 : decode cX10_round 107 = .ok (.isub, 1) := by decide +kernel
theorem dX10_round_108 : decode cX10_round 108 = .ok (.isub, 1) := by decide +kernel
theorem dX10_round_109 : decode cX10_round 109 = .ok (.ireturn, 1) := by decide +kernel
theorem dX10_steady_0 : decode cX10_steady 0 = .ok (.aload_n 0, 1) := by decide +kernel
theorem dX10_steady_1 : decode cX10_steady 1 = .ok (.iload_n 1, 1) := by decide +kernel
theorem dX10_steady_2 : decode cX10_steady 2 = .ok (.invokevirtual 190, 3) := by decide +kernel
theorem dX10_steady_5 : decode cX10_steady 5 = .ok (.ifCond .eq 19, 3) := by decide +kernel
theorem dX10_steady_8 : decode cX10_steady 8 = .ok (.iload_n 2, 1) := by decide +kernel
theorem dX10_steady_9 : decode cX10_steady 9 = .ok (.invokestatic 193, 3) := by decide +kernel
theorem dX10_steady_12 : decode cX10_steady 12 = .ok (.ifCond .eq 12, 3) := by decide +kernel
theorem dX10_steady_15 : decode cX10_steady 15 = .ok (.iload_n 3, 1) := by decide +kernel
theorem dX10_steady_16 : decode cX10_steady 16 = .ok (.ifCond .lt 8, 3) := by decide +kernel
theorem dX10_steady_19 : decode cX10_steady 19 = .ok (.iload_n 3, 1) := by decide +kernel
theorem dX10_steady_20 : decode cX10_steady 20 = .ok (.iconst 1, 1) := by decide +kernel
theorem dX10_steady_21 : decode cX10_steady 21 = .ok (.if_icmp .le 5, 3) := by decide +kernel
theorem dX10_steady_24 : decode cX10_steady 24 = .ok (.iconst (-1), 1) := by decide +kernel
theorem dX10_steady_25 : decode cX10_steady 25 = .ok (.ireturn, 1) := by decide +kernel
theorem dX10_steady_26 : decode cX10_steady 26 = .ok (.iconst 0, 1) := by decide +kernel
theorem dX10_steady_27 : decode cX10_steady 27 = .ok (.istore 4, 2) := by decide +kernel
theorem dX10_steady_29 : decode cX10_steady 29 = .ok (.iload 4, 2) := by decide +kernel
theorem dX10_steady_31 : decode cX10_steady 31 = .ok (.aload_n 0, 1) := by decide +kernel
theorem dX10_steady_32 : decode cX10_steady 32 = .ok (.getfield 23, 3) := by decide +kernel
theorem dX10_steady_35 : decode cX10_steady 35 = .ok (.invokevirtual 240, 3) := by decide +kernel
theorem dX10_steady_38 : decode cX10_steady 38 = .ok (.if_icmp .ge 28, 3) := by decide +kernel
theorem dX10_steady_41 : decode cX10_steady 41 = .ok (.aload_n 0, 1) := by decide +kernel
theorem dX10_steady_42 : decode cX10_steady 42 = .ok (.getfield 100, 3) := by decide +kernel
theorem dX10_steady_45 : decode cX10_steady 45 = .ok (.iload 4, 2) := by decide +kernel
theorem dX10_steady_47 : decode cX10_steady 47 = .ok (.aload_n 0, 1) := by decide +kernel
theorem dX10_steady_48 : decode cX10_steady 48 = .ok (.getfield 51, 3) := by decide +kernel
theorem dX10_steady_51 : decode cX10_steady 51 = .ok (.iload 4, 2) := by decide +kernel
theorem dX10_steady_53 : decode cX10_steady 53 = .ok (.iload_n 1, 1) := by decide +kernel
theorem dX10_steady_54 : decode cX10_steady 54 = .ok (.iload_n 2, 1) := by decide +kernel
theorem dX10_steady_55 : decode cX10_steady 55 = .ok (.iconst 0, 1) := by decide +kernel
theorem dX10_steady_56 : decode cX10_steady 56 = .ok (.invokevirtual 196, 3) := by decide +kernel
theorem dX10_steady_59 : decode cX10_steady 59 = .ok (.iastore, 1) := by decide +kernel
theorem dX10_steady_60 : decode cX10_steady 60 = .ok (.iinc 4 1, 3) := by decide +kernel
theorem dX10_steady_63 : decode cX10_steady 63 = .ok (.goto (-34), 3) := by decide +kernel
theorem dX10_steady_66 : decode cX10_steady 66 = .ok (.iconst 0, 1) := by decide +kernel
theorem dX10_steady_67 : decode cX10_steady 67 = .ok (.istore 4, 2) := by decide +kernel
theorem dX10_steady_69 : decode cX10_steady 69 = .ok (.iconst (-1), 1) := by decide +kernel
theorem dX10_steady_70 : decode cX10_steady 70 = .ok (.istore 5, 2) := by decide +kernel
theorem dX10_steady_72 : decode cX10_steady 72 = .ok (.iconst (-1), 1) := by decide +kernel
theorem dX10_steady_73 : decode cX10_steady 73 = .ok (.istore 6, 2) := by decide +kernel
theorem dX10_steady_75 : decode cX10_steady 75 = .ok (.iconst 0, 1) := by decide +kernel
theorem dX10_steady_76 : decode cX10_steady 76 = .ok (.istore 7, 2) := by decide +kernel
theorem dX10_steady_78 : decode cX10_steady 78 = .ok (.iload 7, 2) := by decide +kernel
theorem dX10_steady_80 : decode cX10_steady 80 = .ok (.aload_n 0, 1) := by decide +kernel
theorem dX10_steady_81 : decode cX10_steady 81 = .ok (.getfield 23, 3) := by decide +kernel
theorem dX10_steady_84 : decode cX10_steady 84 = .ok (.invokevirtual 240, 3) := by decide +kernel
theorem dX10_steady_87 : decode cX10_steady 87 = .ok (.if_icmp .ge 64, 3) := by decide +kernel
theorem dX10_steady_90 : decode cX10_steady 90 = .ok (.aload_n 0, 1) := by decide +kernel
theorem dX10_steady_91 : decode cX10_steady 91 = .ok (.aload_n 0, 1) := by decide +kernel
theorem dX10_steady_92 : decode cX10_steady 92 = .ok (.getfield 100, 3) := by decide +kernel
theorem dX10_steady_95 : decode cX10_steady 95 = .ok (.iload 7, 2) := by decide +kernel
theorem dX10_steady_97 : decode cX10_steady 97 = .ok (.iaload, 1) := by decide +kernel
theorem dX10_steady_98 : decode cX10_steady 98 = .ok (.invokevirtual 180, 3) := by decide +kernel
theorem dX10_steady_101 : decode cX10_steady 101 = .ok (.ifCond .eq 44, 3) := by decide +kernel
theorem dX10_steady_104 : decode cX10_steady 104 = .ok (.aload_n 0, 1) := by decide +kernel
theorem dX10_steady_105 : decode cX10_steady 105 = .ok (.getfield 100, 3) := by decide +kernel
theorem dX10_steady_108 : decode cX10_steady 108 = .ok (.aload_n 0, 1) := by decide +kernel
theorem dX10_steady_109 : decode cX10_steady 109 = .ok (.getfield 100, 3) := by decide +kernel
theorem dX10_steady_112 : decode cX10_steady 112 = .ok (.iload 7, 2) := by decide +kernel
theorem dX10_steady_114 : decode cX10_steady 114 = .ok (.iaload, 1) := by decide +kernel
theorem dX10_steady_115 : decode cX10_steady 115 = .ok (.iaload, 1) := by decide +kernel
theorem dX10_steady_116 : decode cX10_steady 116 = .ok (.iload 7, 2) := by decide +kernel
theorem dX10_steady_118 : decode cX10_steady 118 = .ok (.if_icmp .ne 27, 3) := by decide +kernel
theorem dX10_steady_121 : decode cX10_steady 121 = .ok (.iinc 4 1, 3) := by decide +kernel
theorem dX10_steady_124 : decode cX10_steady 124 = .ok (.iload 7, 2) := by decide +kernel
theorem dX10_steady_126 : decode cX10_steady 126 = .ok (.invokestatic 232, 3) := by decide +kernel
theorem dX10_steady_129 : decode cX10_steady 129 = .ok (.iload 5, 2) := by decide +kernel
theorem dX10_steady_131 : decode cX10_steady 131 = .ok (.if_icmp .le 14, 3) := by decide +kernel
theorem dX10_steady_134 : decode cX10_steady 134 = .ok (.iload 7, 2) := by decide +kernel
theorem dX10_steady_136 : decode cX10_steady 136 = .ok (.invokestatic 232, 3) := by decide +kernel
theorem dX10_steady_139 : decode cX10_steady 139 = .ok (.istore 5, 2) := by decide +kernel
theorem dX10_steady_141 : decode cX10_steady 141 = .ok (.iload 7, 2) := by decide +kernel
theorem dX10_steady_143 : decode cX10_steady 143 = .ok (.istore 6, 2) := by decide +kernel
theorem dX10_steady_145 : decode cX10_steady 145 = .ok (.iinc 7 1, 3) := by decide +kernel
theorem dX10_steady_148 : decode cX10_steady 148 = .ok (.goto (-70), 3) := by decide +kernel
theorem dX10_steady_151 : decode cX10_steady 151 = .ok (.iload_n 3, 1) := by decide +kernel
theorem dX10_steady_152 : decode cX10_steady 152 = .ok (.ifCond .ne 8, 3) := by decide +kernel
theorem dX10_steady_155 : decode cX10_steady 155 = .ok (.iload 4, 2) := by decide +kernel
theorem dX10_steady_157 : decode cX10_steady 157 = .ok (.goto 5, 3) := by decide +kernel
theorem dX10_steady_160 : decode cX10_steady 160 = .ok (.iload 6, 2) := by decide +kernel
theorem dX10_steady_162 : decode cX10_steady 162 = .ok (.ireturn, 1) := by decide +kernel
theorem dX10_against_0 : decode cX10_against 0 = .ok (.aload_n 0, 1) := by decide +kernel
theorem dX10_against_1 : decode cX10_against 1 = .ok (.iload_n 1, 1) := by decide +kernel
theorem dX10_against_2 : decode cX10_against 2 = .ok (.invokevirtual 190, 3) := by decide +kernel
theorem dX10_against_5 : decode cX10_against 5 = .ok (.ifCond .eq 18, 3) := by decide +kernel
theorem dX10_against_8 : decode cX10_against 8 = .ok (.aload_n 0, 1) := by decide +kernel
theorem dX10_against_9 : decode cX10_against 9 = .ok (.iload_n 2, 1) := by decide +kernel
theorem dX10_against_10 : decode cX10_against 10 = .ok (.invokevirtual 190, 3) := by decide +kernel
theorem dX10_against_13 : decode cX10_against 13 = .ok (.ifCond .eq 10, 3) := by decide +kernel
theorem dX10_against_16 : decode cX10_against 16 = .ok (.iload_n 3, 1) := by decide +kernel
theorem dX10_against_17 : decode cX10_against 17 = .ok (.invokestatic 193, 3) := by decide +kernel
theorem dX10_against_20 : decode cX10_against 20 = .ok (.ifCond .ne 5, 3) := by decide +kernel
theorem dX10_against_23 : decode cX10_against 23 = .ok (.iconst (-1), 1) := by decide +kernel
theorem dX10_against_24 : decode cX10_against 24 = .ok (.ireturn, 1) := by decide +kernel
theorem dX10_against_25 : decode cX10_against 25 = .ok (.iconst 0, 1) := by decide +kernel
theorem dX10_against_26 : decode cX10_against 26 = .ok (.istore 4, 2) := by decide +kernel
theorem dX10_against_28 : decode cX10_against 28 = .ok (.iconst 0, 1) := by decide +kernel
theorem dX10_against_29 : decode cX10_against 29 = .ok (.istore 5, 2) := by decide +kernel
theorem dX10_against_31 : decode cX10_against 31 = .ok (.iload 5, 2) := by decide +kernel
theorem dX10_against_33 : decode cX10_against 33 = .ok (.aload_n 0, 1) := by decide +kernel
theorem dX10_against_34 : decode cX10_against 34 = .ok (.getfield 23, 3) := by decide +kernel
theorem dX10_against_37 : decode cX10_against 37 = .ok (.invokevirtual 240, 3) := by decide +kernel
theorem dX10_against_40 : decode cX10_against 40 = .ok (.if_icmp .ge 39, 3) := by decide +kernel
theorem dX10_against_43 : decode cX10_against 43 = .ok (.aload_n 0, 1) := by decide +kernel
theorem dX10_against_44 : decode cX10_against 44 = .ok (.getfield 51, 3) := by decide +kernel
theorem dX10_against_47 : decode cX10_against 47 = .ok (.iload 5, 2) := by decide +kernel
theorem dX10_against_49 : decode cX10_against 49 = .ok (.iload_n 1, 1) := by decide +kernel
theorem dX10_against_50 : decode cX10_against 50 = .ok (.iload_n 3, 1) := by decide +kernel
theorem dX10_against_51 : decode cX10_against 51 = .ok (.iconst 0, 1) := by decide +kernel
theorem dX10_against_52 : decode cX10_against 52 = .ok (.invokevirtual 196, 3) := by decide +kernel
theorem dX10_against_55 : decode cX10_against 55 = .ok (.aload_n 0, 1) := by decide +kernel
theorem dX10_against_56 : decode cX10_against 56 = .ok (.getfield 51, 3) := by decide +kernel
theorem dX10_against_59 : decode cX10_against 59 = .ok (.iload 5, 2) := by decide +kernel
theorem dX10_against_61 : decode cX10_against 61 = .ok (.iload_n 2, 1) := by decide +kernel
theorem dX10_against_62 : decode cX10_against 62 = .ok (.iload_n 3, 1) := by decide +kernel
theorem dX10_against_63 : decode cX10_against 63 = .ok (.iconst 0, 1) := by decide +kernel
theorem dX10_against_64 : decode cX10_against 64 = .ok (.invokevirtual 196, 3) := by decide +kernel
theorem dX10_against_67 : decode cX10_against 67 = .ok (.if_icmp .eq 6, 3) := by decide +kernel
theorem dX10_against_70 : decode cX10_against 70 = .ok (.iinc 4 1, 3) := by decide +kernel
theorem dX10_against_73 : decode cX10_against 73 = .ok (.iinc 5 1, 3) := by decide +kernel
theorem dX10_against_76 : decode cX10_against 76 = .ok (.goto (-45), 3) := by decide +kernel
theorem dX10_against_79 : decode cX10_against 79 = .ok (.iload 4, 2) := by decide +kernel
theorem dX10_against_81 : decode cX10_against 81 = .ok (.ireturn, 1) := by decide +kernel
theorem dX10_wax_0 : decode cX10_wax 0 = .ok (.aload_n 0, 1) := by decide +kernel
theorem dX10_wax_1 : decode cX10_wax 1 = .ok (.getfield 88, 3) := by decide +kernel
theorem dX10_wax_4 : decode cX10_wax 4 = .ok (.iconst 0, 1) := by decide +kernel
theorem dX10_wax_5 : decode cX10_wax 5 = .ok (.putfield 148, 3) := by decide +kernel
theorem dX10_wax_8 : decode cX10_wax 8 = .ok (.aload_n 0, 1) := by decide +kernel
theorem dX10_wax_9 : decode cX10_wax 9 = .ok (.iload_n 1, 1) := by decide +kernel
theorem dX10_wax_10 : decode cX10_wax 10 = .ok (.invokevirtual 180, 3) := by decide +kernel
theorem dX10_wax_13 : decode cX10_wax 13 = .ok (.ifCond .ne 5, 3) := by decide +kernel
theorem dX10_wax_16 : decode cX10_wax 16 = .ok (.iconst (-1), 1) := by decide +kernel
theorem dX10_wax_17 : decode cX10_wax 17 = .ok (.ireturn, 1) := by decide +kernel
theorem dX10_wax_18 : decode cX10_wax 18 = .ok (.aload_n 0, 1) := by decide +kernel
theorem dX10_wax_19 : decode cX10_wax 19 = .ok (.getfield 67, 3) := by decide +kernel
theorem dX10_wax_22 : decode cX10_wax 22 = .ok (.iload_n 1, 1) := by decide +kernel
theorem dX10_wax_23 : decode cX10_wax 23 = .ok (.aload_n 0, 1) := by decide +kernel
theorem dX10_wax_24 : decode cX10_wax 24 = .ok (.getfield 23, 3) := by decide +kernel
theorem dX10_wax_27 : decode cX10_wax 27 = .ok (.invokevirtual 240, 3) := by decide +kernel
theorem dX10_wax_30 : decode cX10_wax 30 = .ok (.invokevirtual 271, 3) := by decide +kernel
theorem dX10_wax_33 : decode cX10_wax 33 = .ok (.istore_n 2, 1) := by decide +kernel
theorem dX10_wax_34 : decode cX10_wax 34 = .ok (.aload_n 0, 1) := by decide +kernel
theorem dX10_wax_35 : decode cX10_wax 35 = .ok (.iload_n 2, 1) := by decide +kernel
theorem dX10_wax_36 : decode cX10_wax 36 = .ok (.invokevirtual 149, 3) := by decide +kernel
theorem dX10_wax_39 : decode cX10_wax 39 = .ok (.ifCond .ne 5, 3) := by decide +kernel
theorem dX10_wax_42 : decode cX10_wax 42 = .ok (.iconst (-1), 1) := by decide +kernel
theorem dX10_wax_43 : decode cX10_wax 43 = .ok (.ireturn, 1) := by decide +kernel
theorem dX10_wax_44 : decode cX10_wax 44 = .ok (.aload_n 0, 1) := by decide +kernel
theorem dX10_wax_45 : decode cX10_wax 45 = .ok (.getfield 88, 3) := by decide +kernel
theorem dX10_wax_48 : decode cX10_wax 48 = .ok (.iload_n 2, 1) := by decide +kernel
theorem dX10_wax_49 : decode cX10_wax 49 = .ok (.invokevirtual 263, 3) := by decide +kernel
theorem dX10_wax_52 : decode cX10_wax 52 = .ok (.aload_n 0, 1) := by decide +kernel
theorem dX10_wax_53 : decode cX10_wax 53 = .ok (.getfield 67, 3) := by decide +kernel
theorem dX10_wax_56 : decode cX10_wax 56 = .ok (.aload_n 0, 1) := by decide +kernel
theorem dX10_wax_57 : decode cX10_wax 57 = .ok (.getfield 42, 3) := by decide +kernel
theorem dX10_wax_60 : decode cX10_wax 60 = .ok (.getfield 153, 3) := by decide +kernel
theorem dX10_wax_63 : decode cX10_wax 63 = .ok (.iload_n 2, 1) := by decide +kernel
theorem dX10_wax_64 : decode cX10_wax 64 = .ok (.iaload, 1) := by decide +kernel
theorem dX10_wax_65 : decode cX10_wax 65 = .ok (.aload_n 0, 1) := by decide +kernel
theorem dX10_wax_66 : decode cX10_wax 66 = .ok (.getfield 88, 3) := by decide +kernel
theorem dX10_wax_69 : decode cX10_wax 69 = .ok (.invokevirtual 274, 3) := by decide +kernel
theorem dX10_wax_72 : decode cX10_wax 72 = .ok (.aload_n 0, 1) := by decide +kernel
theorem dX10_wax_73 : decode cX10_wax 73 = .ok (.getfield 67, 3) := by decide +kernel
theorem dX10_wax_76 : decode cX10_wax 76 = .ok (.getfield 278, 3) := by decide +kernel
theorem dX10_wax_79 : decode cX10_wax 79 = .ok (.ireturn, 1) := by decide +kernel
theorem dX10_sample_0 : decode cX10_sample 0 = .ok (.aload_n 0, 1) := by decide +kernel
theorem dX10_sample_1 : decode cX10_sample 1 = .ok (.iload_n 1, 1) := by decide +kernel
theorem dX10_sample_2 : decode cX10_sample 2 = .ok (.invokevirtual 180, 3) := by decide +kernel
theorem dX10_sample_5 : decode cX10_sample 5 = .ok (.ifCond .eq 25, 3) := by decide +kernel
theorem dX10_sample_8 : decode cX10_sample 8 = .ok (.aload_n 0, 1) := by decide +kernel
theorem dX10_sample_9 : decode cX10_sample 9 = .ok (.getfield 74, 3) := by decide +kernel
theorem dX10_sample_12 : decode cX10_sample 12 = .ok (.iconst 0, 1) := by decide +kernel
theorem dX10_sample_13 : decode cX10_sample 13 = .ok (.iload_n 1, 1) := by decide +kernel
theorem dX10_sample_14 : decode cX10_sample 14 = .ok (.iconst 0, 1) := by decide +kernel
theorem dX10_sample_15 : decode cX10_sample 15 = .ok (.iload_n 2, 1) := by decide +kernel
theorem dX10_sample_16 : decode cX10_sample 16 = .ok (.ifCond .eq 7, 3) := by decide +kernel
theorem dX10_sample_19 : decode cX10_sample 19 = .ok (.iconst 1, 1) := by decide +kernel
theorem dX10_sample_20 : decode cX10_sample 20 = .ok (.goto 4, 3) := by decide +kernel
theorem dX10_sample_23 : decode cX10_sample 23 = .ok (.iconst 0, 1) := by decide +kernel
theorem dX10_sample_24 : decode cX10_sample 24 = .ok (.invokevirtual 281, 3) := by decide +kernel
theorem dX10_sample_27 : decode cX10_sample 27 = .ok (.goto 4, 3) := by decide +kernel
theorem dX10_sample_30 : decode cX10_sample 30 = .ok (.iconst (-1), 1) := by decide +kernel
theorem dX10_sample_31 : decode cX10_sample 31 = .ok (.ireturn, 1) := by decide +kernel
theorem dX10_claim_0 : decode cX10_claim 0 = .ok (.aload_n 0, 1) := by decide +kernel
theorem dX10_claim_1 : decode cX10_claim 1 = .ok (.iload_n 1, 1) := by decide +kernel
theorem dX10_claim_2 : decode cX10_claim 2 = .ok (.invokevirtual 180, 3) := by decide +kernel
theorem dX10_claim_5 : decode cX10_claim 5 = .ok (.ifCond .eq 18, 3) := by decide +kernel
theorem dX10_claim_8 : decode cX10_claim 8 = .ok (.aload_n 0, 1) := by decide +kernel
theorem dX10_claim_9 : decode cX10_claim 9 = .ok (.iload_n 2, 1) := by decide +kernel
theorem dX10_claim_10 : decode cX10_claim 10 = .ok (.invokevirtual 149, 3) := by decide +kernel
theorem dX10_claim_13 : decode cX10_claim 13 = .ok (.ifCond .eq 10, 3) := by decide +kernel
theorem dX10_claim_16 : decode cX10_claim 16 = .ok (.iload_n 3, 1) := by decide +kernel
theorem dX10_claim_17 : decode cX10_claim 17 = .ok (.invokestatic 283, 3) := by decide +kernel
theorem dX10_claim_20 : decode cX10_claim 20 = .ok (.ifCond .ne 5, 3) := by decide +kernel
theorem dX10_claim_23 : decode cX10_claim 23 = .ok (.iconst (-1), 1) := by decide +kernel
theorem dX10_claim_24 : decode cX10_claim 24 = .ok (.ireturn, 1) := by decide +kernel
theorem dX10_claim_25 : decode cX10_claim 25 = .ok (.aload_n 0, 1) := by decide +kernel
theorem dX10_claim_26 : decode cX10_claim 26 = .ok (.getfield 74, 3) := by decide +kernel
theorem dX10_claim_29 : decode cX10_claim 29 = .ok (.iconst 1, 1) := by decide +kernel
theorem dX10_claim_30 : decode cX10_claim 30 = .ok (.iload_n 1, 1) := by decide +kernel
theorem dX10_claim_31 : decode cX10_claim 31 = .ok (.iload_n 2, 1) := by decide +kernel
theorem dX10_claim_32 : decode cX10_claim 32 = .ok (.iload_n 3, 1) := by decide +kernel
theorem dX10_claim_33 : decode cX10_claim 33 = .ok (.invokevirtual 281, 3) := by decide +kernel
theorem dX10_claim_36 : decode cX10_claim 36 = .ok (.ireturn, 1) := by decide +kernel
theorem dX10_saw_0 : decode cX10_saw 0 = .ok (.aload_n 0, 1) := by decide +kernel
theorem dX10_saw_1 : decode cX10_saw 1 = .ok (.iload_n 1, 1) := by decide +kernel
theorem dX10_saw_2 : decode cX10_saw 2 = .ok (.invokevirtual 286, 3) := by decide +kernel
theorem dX10_saw_5 : decode cX10_saw 5 = .ok (.ifCond .eq 32, 3) := by decide +kernel
theorem dX10_saw_8 : decode cX10_saw 8 = .ok (.iload_n 2, 1) := by decide +kernel
theorem dX10_saw_9 : decode cX10_saw 9 = .ok (.invokestatic 283, 3) := by decide +kernel
theorem dX10_saw_12 : decode cX10_saw 12 = .ok (.ifCond .eq 25, 3) := by decide +kernel
theorem dX10_saw_15 : decode cX10_saw 15 = .ok (.aload_n 0, 1) := by decide +kernel
theorem dX10_saw_16 : decode cX10_saw 16 = .ok (.getfield 74, 3) := by decide +kernel
theorem dX10_saw_19 : decode cX10_saw 19 = .ok (.iconst 2, 1) := by decide +kernel
theorem dX10_saw_20 : decode cX10_saw 20 = .ok (.iload_n 1, 1) := by decide +kernel
theorem dX10_saw_21 : decode cX10_saw 21 = .ok (.iload_n 2, 1) := by decide +kernel
theorem dX10_saw_22 : decode cX10_saw 22 = .ok (.iload_n 3, 1) := by decide +kernel
theorem dX10_saw_23 : decode cX10_saw 23 = .ok (.ifCond .eq 7, 3) := by decide +kernel
theorem dX10_saw_26 : decode cX10_saw 26 = .ok (.iconst 1, 1) := by decide +kernel
theorem dX10_saw_27 : decode cX10_saw 27 = .ok (.goto 4, 3) := by decide +kernel
theorem dX10_saw_30 : decode cX10_saw 30 = .ok (.iconst 0, 1) := by decide +kernel
theorem dX10_saw_31 : decode cX10_saw 31 = .ok (.invokevirtual 281, 3) := by decide +kernel
theorem dX10_saw_34 : decode cX10_saw 34 = .ok (.goto 4, 3) := by decide +kernel
theorem dX10_saw_37 : decode cX10_saw 37 = .ok (.iconst (-1), 1) := by decide +kernel
theorem dX10_saw_38 : decode cX10_saw 38 = .ok (.ireturn, 1) := by decide +kernel
theorem dX10_link_0 : decode cX10_link 0 = .ok (.iload_n 1, 1) := by decide +kernel
theorem dX10_link_1 : decode cX10_link 1 = .ok (.invokestatic 289, 3) := by decide +kernel
theorem dX10_link_4 : decode cX10_link 4 = .ok (.ifCond .eq 15, 3) := by decide +kernel
theorem dX10_link_7 : decode cX10_link 7 = .ok (.iload_n 2, 1) := by decide +kernel
theorem dX10_link_8 : decode cX10_link 8 = .ok (.invokestatic 289, 3) := by decide +kernel
theorem dX10_link_11 : decode cX10_link 11 = .ok (.ifCond .eq 8, 3) := by decide +kernel
theorem dX10_link_14 : decode cX10_link 14 = .ok (.iload_n 1, 1) := by decide +kernel
theorem dX10_link_15 : decode cX10_link 15 = .ok (.iload_n 2, 1) := by decide +kernel
theorem dX10_link_16 : decode cX10_link 16 = .ok (.if_icmp .ne 5, 3) := by decide +kernel
theorem dX10_link_19 : decode cX10_link 19 = .ok (.iconst (-1), 1) := by decide +kernel
theorem dX10_link_20 : decode cX10_link 20 = .ok (.ireturn, 1) := by decide +kernel
theorem dX10_link_21 : decode cX10_link 21 = .ok (.aload_n 0, 1) := by decide +kernel
theorem dX10_link_22 : decode cX10_link 22 = .ok (.getfield 74, 3) := by decide +kernel
theorem dX10_link_25 : decode cX10_link 25 = .ok (.iconst 3, 1) := by decide +kernel
theorem dX10_link_26 : decode cX10_link 26 = .ok (.iload_n 1, 1) := by decide +kernel
theorem dX10_link_27 : decode cX10_link 27 = .ok (.iload_n 2, 1) := by decide +kernel
theorem dX10_link_28 : decode cX10_link 28 = .ok (.iload_n 3, 1) := by decide +kernel
theorem dX10_link_29 : decode cX10_link 29 = .ok (.ifCond .eq 7, 3) := by decide +kernel
theorem dX10_link_32 : decode cX10_link 32 = .ok (.iconst 1, 1) := by decide +kernel
theorem dX10_link_33 : decode cX10_link 33 = .ok (.goto 4, 3) := by decide +kernel
theorem dX10_link_36 : decode cX10_link 36 = .ok (.iconst 0, 1) := by decide +kernel
theorem dX10_link_37 : decode cX10_link 37 = .ok (.invokevirtual 281, 3) := by decide +kernel
theorem dX10_link_40 : decode cX10_link 40 = .ok (.ireturn, 1) := by decide +kernel
theorem dX10_untell_0 : decode cX10_untell 0 = .ok (.iload_n 1, 1) := by decide +kernel
theorem dX10_untell_1 : decode cX10_untell 1 = .ok (.ifCond .lt 27, 3) := by decide +kernel
theorem dX10_untell_4 : decode cX10_untell 4 = .ok (.iload_n 1, 1) := by decide +kernel
theorem dX10_untell_5 : decode cX10_untell 5 = .ok (.aload_n 0, 1) := by decide +kernel
theorem dX10_untell_6 : decode cX10_untell 6 = .ok (.getfield 74, 3) := by decide +kernel
theorem dX10_untell_9 : decode cX10_untell 9 = .ok (.getfield 145, 3) := by decide +kernel
theorem dX10_untell_12 : decode cX10_untell 12 = .ok (.if_icmp .ge 16, 3) := by decide +kernel
theorem dX10_untell_15 : decode cX10_untell 15 = .ok (.aload_n 0, 1) := by decide +kernel
theorem dX10_untell_16 : decode cX10_untell 16 = .ok (.getfield 74, 3) := by decide +kernel
theorem dX10_untell_19 : decode cX10_untell 19 = .ok (.getfield 292, 3) := by decide +kernel
theorem dX10_untell_22 : decode cX10_untell 22 = .ok (.iload_n 1, 1) := by decide +kernel
theorem dX10_untell_23 : decode cX10_untell 23 = .ok (.iaload, 1) := by decide +kernel
theorem dX10_untell_24 : decode cX10_untell 24 = .ok (.iconst (-1), 1) := by decide +kernel
theorem dX10_untell_25 : decode cX10_untell 25 = .ok (.if_icmp .eq 5, 3) := by decide +kernel
theorem dX10_untell_28 : decode cX10_untell 28 = .ok (.iconst 0, 1) := by decide +kernel
theorem dX10_untell_29 : decode cX10_untell 29 = .ok (.ireturn, 1) := by decide +kernel
theorem dX10_untell_30 : decode cX10_untell 30 = .ok (.aload_n 0, 1) := by decide +kernel
theorem dX10_untell_31 : decode cX10_untell 31 = .ok (.getfield 74, 3) := by decide +kernel
theorem dX10_untell_34 : decode cX10_untell 34 = .ok (.getfield 292, 3) := by decide +kernel
theorem dX10_untell_37 : decode cX10_untell 37 = .ok (.iload_n 1, 1) := by decide +kernel
theorem dX10_untell_38 : decode cX10_untell 38 = .ok (.aload_n 0, 1) := by decide +kernel
theorem dX10_untell_39 : decode cX10_untell 39 = .ok (.getfield 74, 3) := by decide +kernel
theorem dX10_untell_42 : decode cX10_untell 42 = .ok (.getfield 295, 3) := by decide +kernel
theorem dX10_untell_45 : decode cX10_untell 45 = .ok (.iastore, 1) := by decide +kernel
theorem dX10_untell_46 : decode cX10_untell 46 = .ok (.iconst 1, 1) := by decide +kernel
theorem dX10_untell_47 : decode cX10_untell 47 = .ok (.ireturn, 1) := by decide +kernel
theorem dX10_later_0 : decode cX10_later 0 = .ok (.iload_n 1, 1) := by decide +kernel
theorem dX10_later_1 : decode cX10_later 1 = .ok (.ifCond .lt 25, 3) := by decide +kernel
theorem dX10_later_4 : decode cX10_later 4 = .ok (.iload_n 1, 1) := by decide +kernel
theorem dX10_later_5 : decode cX10_later 5 = .ok (.sipush 1000, 3) := by decide +kernel
theorem dX10_later_8 : decode cX10_later 8 = .ok (.if_icmp .gt 18, 3) := by decide +kernel
theorem dX10_later_11 : decode cX10_later 11 = .ok (.aload_n 0, 1) := by decide +kernel
theorem dX10_later_12 : decode cX10_later 12 = .ok (.getfield 74, 3) := by decide +kernel
theorem dX10_later_15 : decode cX10_later 15 = .ok (.getfield 295, 3) := by decide +kernel
theorem dX10_later_18 : decode cX10_later 18 = .ok (.iload_n 1, 1) := by decide +kernel
theorem dX10_later_19 : decode cX10_later 19 = .ok (.iadd, 1) := by decide +kernel
theorem dX10_later_20 : decode cX10_later 20 = .ok (.ldc_w 298, 3) := by decide +kernel
theorem dX10_later_23 : decode cX10_later 23 = .ok (.if_icmp .le 5, 3) := by decide +kernel
theorem dX10_later_26 : decode cX10_later 26 = .ok (.iconst (-1), 1) := by decide +kernel
theorem dX10_later_27 : decode cX10_later 27 = .ok (.ireturn, 1) := by decide +kernel
theorem dX10_later_28 : decode cX10_later 28 = .ok (.aload_n 0, 1) := by decide +kernel
theorem dX10_later_29 : decode cX10_later 29 = .ok (.getfield 74, 3) := by decide +kernel
theorem dX10_later_32 : decode cX10_later 32 = .ok (.dup, 1) := by decide +kernel
theorem dX10_later_33 : decode cX10_later 33 = .ok (.getfield 295, 3) := by decide +kernel
theorem dX10_later_36 : decode cX10_later 36 = .ok (.iload_n 1, 1) := by decide +kernel
theorem dX10_later_37 : decode cX10_later 37 = .ok (.iadd, 1) := by decide +kernel
theorem dX10_later_38 : decode cX10_later 38 = .ok (.putfield 295, 3) := by decide +kernel
theorem dX10_later_41 : decode cX10_later 41 = .ok (.aload_n 0, 1) := by decide +kernel
theorem dX10_later_42 : decode cX10_later 42 = .ok (.getfield 74, 3) := by decide +kernel
theorem dX10_later_45 : decode cX10_later 45 = .ok (.getfield 295, 3) := by decide +kernel
theorem dX10_later_48 : decode cX10_later 48 = .ok (.ireturn, 1) := by decide +kernel
theorem dX10_tree_0 : decode cX10_tree 0 = .ok (.aload_n 0, 1) := by decide +kernel
theorem dX10_tree_1 : decode cX10_tree 1 = .ok (.getfield 88, 3) := by decide +kernel
theorem dX10_tree_4 : decode cX10_tree 4 = .ok (.iconst 0, 1) := by decide +kernel
theorem dX10_tree_5 : decode cX10_tree 5 = .ok (.putfield 148, 3) := by decide +kernel
theorem dX10_tree_8 : decode cX10_tree 8 = .ok (.aload_n 0, 1) := by decide +kernel
theorem dX10_tree_9 : decode cX10_tree 9 = .ok (.getfield 81, 3) := by decide +kernel
theorem dX10_tree_12 : decode cX10_tree 12 = .ok (.aload_n 0, 1) := by decide +kernel
theorem dX10_tree_13 : decode cX10_tree 13 = .ok (.getfield 74, 3) := by decide +kernel
theorem dX10_tree_16 : decode cX10_tree 16 = .ok (.iload_n 3, 1) := by decide +kernel
theorem dX10_tree_17 : decode cX10_tree 17 = .ok (.aload_n 0, 1) := by decide +kernel
theorem dX10_tree_18 : decode cX10_tree 18 = .ok (.getfield 23, 3) := by decide +kernel
theorem dX10_tree_21 : decode cX10_tree 21 = .ok (.getfield 183, 3) := by decide +kernel
theorem dX10_tree_24 : decode cX10_tree 24 = .ok (.invokevirtual 299, 3) := by decide +kernel
theorem dX10_tree_27 : decode cX10_tree 27 = .ok (.iload_n 1, 1) := by decide +kernel
theorem dX10_tree_28 : decode cX10_tree 28 = .ok (.ifCond .lt 23, 3) := by decide +kernel
theorem dX10_tree_31 : decode cX10_tree 31 = .ok (.iload_n 1, 1) := by decide +kernel
theorem dX10_tree_32 : decode cX10_tree 32 = .ok (.aload_n 0, 1) := by decide +kernel
theorem dX10_tree_33 : decode cX10_tree 33 = .ok (.getfield 81, 3) := by decide +kernel
theorem dX10_tree_36 : decode cX10_tree 36 = .ok (.getfield 303, 3) := by decide +kernel
theorem dX10_tree_39 : decode cX10_tree 39 = .ok (.if_icmp .ge 12, 3) := by decide +kernel
theorem dX10_tree_42 : decode cX10_tree 42 = .ok (.iload_n 2, 1) := by decide +kernel
theorem dX10_tree_43 : decode cX10_tree 43 = .ok (.ifCond .lt 8, 3) := by decide +kernel
theorem dX10_tree_46 : decode cX10_tree 46 = .ok (.iload_n 2, 1) := by decide +kernel
theorem dX10_tree_47 : decode cX10_tree 47 = .ok (.iconst 1, 1) := by decide +kernel
theorem dX10_tree_48 : decode cX10_tree 48 = .ok (.if_icmp .le 5, 3) := by decide +kernel
theorem dX10_tree_51 : decode cX10_tree 51 = .ok (.iconst (-1), 1) := by decide +kernel
theorem dX10_tree_52 : decode cX10_tree 52 = .ok (.ireturn, 1) := by decide +kernel
theorem dX10_tree_53 : decode cX10_tree 53 = .ok (.aload_n 0, 1) := by decide +kernel
theorem dX10_tree_54 : decode cX10_tree 54 = .ok (.getfield 81, 3) := by decide +kernel
theorem dX10_tree_57 : decode cX10_tree 57 = .ok (.iload_n 1, 1) := by decide +kernel
theorem dX10_tree_58 : decode cX10_tree 58 = .ok (.invokevirtual 304, 3) := by decide +kernel
theorem dX10_tree_61 : decode cX10_tree 61 = .ok (.iconst 0, 1) := by decide +kernel
theorem dX10_tree_62 : decode cX10_tree 62 = .ok (.istore 4, 2) := by decide +kernel
theorem dX10_tree_64 : decode cX10_tree 64 = .ok (.iload 4, 2) := by decide +kernel
theorem dX10_tree_66 : decode cX10_tree 66 = .ok (.aload_n 0, 1) := by decide +kernel
theorem dX10_tree_67 : decode cX10_tree 67 = .ok (.getfield 81, 3) := by decide +kernel
theorem dX10_tree_70 : decode cX10_tree 70 = .ok (.getfield 303, 3) := by decide +kernel
theorem dX10_tree_73 : decode cX10_tree 73 = .ok (.if_icmp .ge 26, 3) := by decide +kernel
theorem dX10_tree_76 : decode cX10_tree 76 = .ok (.aload_n 0, 1) := by decide +kernel
theorem dX10_tree_77 : decode cX10_tree 77 = .ok (.getfield 88, 3) := by decide +kernel
theorem dX10_tree_80 : decode cX10_tree 80 = .ok (.aload_n 0, 1) := by decide +kernel
theorem dX10_tree_81 : decode cX10_tree 81 = .ok (.getfield 81, 3) := by decide +kernel
theorem dX10_tree_84 : decode cX10_tree 84 = .ok (.getfield 307, 3) := by decide +kernel
theorem dX10_tree_87 : decode cX10_tree 87 = .ok (.iload 4, 2) := by decide +kernel
theorem dX10_tree_89 : decode cX10_tree 89 = .ok (.iaload, 1) := by decide +kernel
theorem dX10_tree_90 : decode cX10_tree 90 = .ok (.invokevirtual 263, 3) := by decide +kernel
theorem dX10_tree_93 : decode cX10_tree 93 = .ok (.iinc 4 1, 3) := by decide +kernel
theorem dX10_tree_96 : decode cX10_tree 96 = .ok (.goto (-32), 3) := by decide +kernel
theorem dX10_tree_99 : decode cX10_tree 99 = .ok (.iload_n 2, 1) := by decide +kernel
theorem dX10_tree_100 : decode cX10_tree 100 = .ok (.ifCond .ne 13, 3) := by decide +kernel
theorem dX10_tree_103 : decode cX10_tree 103 = .ok (.aload_n 0, 1) := by decide +kernel
theorem dX10_tree_104 : decode cX10_tree 104 = .ok (.getfield 81, 3) := by decide +kernel
theorem dX10_tree_107 : decode cX10_tree 107 = .ok (.getfield 310, 3) := by decide +kernel
theorem dX10_tree_110 : decode cX10_tree 110 = .ok (.goto 10, 3) := by decide +kernel
theorem dX10_tree_113 : decode cX10_tree 113 = .ok (.aload_n 0, 1) := by decide +kernel
theorem dX10_tree_114 : decode cX10_tree 114 = .ok (.getfield 81, 3) := by decide +kernel
theorem dX10_tree_117 : decode cX10_tree 117 = .ok (.getfield 313, 3) := by decide +kernel
theorem dX10_tree_120 : decode cX10_tree 120 = .ok (.ireturn, 1) := by decide +kernel
theorem dX10_centre_0 : decode cX10_centre 0 = .ok (.aload_n 0, 1) := by decide +kernel
theorem dX10_centre_1 : decode cX10_centre 1 = .ok (.getfield 81, 3) := by decide +kernel
theorem dX10_centre_4 : decode cX10_centre 4 = .ok (.aload_n 0, 1) := by decide +kernel
theorem dX10_centre_5 : decode cX10_centre 5 = .ok (.getfield 74, 3) := by decide +kernel
theorem dX10_centre_8 : decode cX10_centre 8 = .ok (.iload_n 2, 1) := by decide +kernel
theorem dX10_centre_9 : decode cX10_centre 9 = .ok (.aload_n 0, 1) := by decide +kernel
theorem dX10_centre_10 : decode cX10_centre 10 = .ok (.getfield 23, 3) := by decide +kernel
theorem dX10_centre_13 : decode cX10_centre 13 = .ok (.getfield 183, 3) := by decide +kernel
theorem dX10_centre_16 : decode cX10_centre 16 = .ok (.invokevirtual 299, 3) := by decide +kernel
theorem dX10_centre_19 : decode cX10_centre 19 = .ok (.aload_n 0, 1) := by decide +kernel
theorem dX10_centre_20 : decode cX10_centre 20 = .ok (.getfield 81, 3) := by decide +kernel
theorem dX10_centre_23 : decode cX10_centre 23 = .ok (.getfield 303, 3) := by decide +kernel
theorem dX10_centre_26 : decode cX10_centre 26 = .ok (.ifCond .eq 12, 3) := by decide +kernel
theorem dX10_centre_29 : decode cX10_centre 29 = .ok (.iload_n 1, 1) := by decide +kernel
theorem dX10_centre_30 : decode cX10_centre 30 = .ok (.ifCond .lt 8, 3) := by decide +kernel
theorem dX10_centre_33 : decode cX10_centre 33 = .ok (.iload_n 1, 1) := by decide +kernel
theorem dX10_centre_34 : decode cX10_centre 34 = .ok (.iconst 1, 1) := by decide +kernel
theorem dX10_centre_35 : decode cX10_centre 35 = .ok (.if_icmp .le 5, 3) := by decide +kernel
theorem dX10_centre_38 : decode cX10_centre 38 = .ok (.iconst (-1), 1) := by decide +kernel
theorem dX10_centre_39 : decode cX10_centre 39 = .ok (.ireturn, 1) := by decide +kernel
theorem dX10_centre_40 : decode cX10_centre 40 = .ok (.iconst 0, 1) := by decide +kernel
theorem dX10_centre_41 : decode cX10_centre 41 = .ok (.istore_n 3, 1) := by decide +kernel
theorem dX10_centre_42 : decode cX10_centre 42 = .ok (.iconst 1, 1) := by decide +kernel
theorem dX10_centre_43 : decode cX10_centre 43 = .ok (.istore 4, 2) := by decide +kernel
theorem dX10_centre_45 : decode cX10_centre 45 = .ok (.iload 4, 2) := by decide +kernel
theorem dX10_centre_47 : decode cX10_centre 47 = .ok (.aload_n 0, 1) := by decide +kernel
theorem dX10_centre_48 : decode cX10_centre 48 = .ok (.getfield 81, 3) := by decide +kernel
theorem dX10_centre_51 : decode cX10_centre 51 = .ok (.getfield 303, 3) := by decide +kernel
theorem dX10_centre_54 : decode cX10_centre 54 = .ok (.if_icmp .ge 32, 3) := by decide +kernel
theorem dX10_centre_57 : decode cX10_centre 57 = .ok (.aload_n 0, 1) := by decide +kernel
theorem dX10_centre_58 : decode cX10_centre 58 = .ok (.getfield 81, 3) := by decide +kernel
theorem dX10_centre_61 : decode cX10_centre 61 = .ok (.iload 4, 2) := by decide +kernel
theorem dX10_centre_63 : decode cX10_centre 63 = .ok (.invokevirtual 316, 3) := by decide +kernel
theorem dX10_centre_66 : decode cX10_centre 66 = .ok (.aload_n 0, 1) := by decide +kernel
theorem dX10_centre_67 : decode cX10_centre 67 = .ok (.getfield 81, 3) := by decide +kernel
theorem dX10_centre_70 : decode cX10_centre 70 = .ok (.iload_n 3, 1) := by decide +kernel
theorem dX10_centre_71 : decode cX10_centre 71 = .ok (.invokevirtual 316, 3) := by decide +kernel
theorem dX10_centre_74 : decode cX10_centre 74 = .ok (.if_icmp .ge 6, 3) := by decide +kernel
theorem dX10_centre_77 : decode cX10_centre 77 = .ok (.iload 4, 2) := by decide +kernel
theorem dX10_centre_79 : decode cX10_centre 79 = .ok (.istore_n 3, 1) := by decide +kernel
theorem dX10_centre_80 : decode cX10_centre 80 = .ok (.iinc 4 1, 3) := by decide +kernel
theorem dX10_centre_83 : decode cX10_centre 83 = .ok (.goto (-38), 3) := by decide +kernel
theorem dX10_centre_86 : decode cX10_centre 86 = .ok (.iload_n 1, 1) := by decide +kernel
theorem dX10_centre_87 : decode cX10_centre 87 = .ok (.ifCond .ne 7, 3) := by decide +kernel
theorem dX10_centre_90 : decode cX10_centre 90 = .ok (.iload_n 3, 1) := by decide +kernel
theorem dX10_centre_91 : decode cX10_centre 91 = .ok (.goto 11, 3) := by decide +kernel
theorem dX10_centre_94 : decode cX10_centre 94 = .ok (.aload_n 0, 1) := by decide +kernel
theorem dX10_centre_95 : decode cX10_centre 95 = .ok (.getfield 81, 3) := by decide +kernel
theorem dX10_centre_98 : decode cX10_centre 98 = .ok (.iload_n 3, 1) := by decide +kernel
theorem dX10_centre_99 : decode cX10_centre 99 = .ok (.invokevirtual 316, 3) := by decide +kernel
theorem dX10_centre_102 : decode cX10_centre 102 = .ok (.ireturn, 1) := by decide +kernel
theorem dX10_clans_0 : decode cX10_clans 0 = .ok (.iload_n 1, 1) := by decide +kernel
theorem dX10_clans_1 : decode cX10_clans 1 = .ok (.ifCond .lt 18, 3) := by decide +kernel
theorem dX10_clans_4 : decode cX10_clans 4 = .ok (.iload_n 1, 1) := by decide +kernel
theorem dX10_clans_5 : decode cX10_clans 5 = .ok (.bipush 24, 2) := by decide +kernel
theorem dX10_clans_7 : decode cX10_clans 7 = .ok (.if_icmp .gt 12, 3) := by decide +kernel
theorem dX10_clans_10 : decode cX10_clans 10 = .ok (.iload_n 2, 1) := by decide +kernel
theorem dX10_clans_11 : decode cX10_clans 11 = .ok (.ifCond .lt 8, 3) := by decide +kernel
theorem dX10_clans_14 : decode cX10_clans 14 = .ok (.iload_n 2, 1) := by decide +kernel
theorem dX10_clans_15 : decode cX10_clans 15 = .ok (.iconst 1, 1) := by decide +kernel
theorem dX10_clans_16 : decode cX10_clans 16 = .ok (.if_icmp .le 5, 3) := by decide +kernel
theorem dX10_clans_19 : decode cX10_clans 19 = .ok (.iconst (-1), 1) := by decide +kernel
theorem dX10_clans_20 : decode cX10_clans 20 = .ok (.ireturn, 1) := by decide +kernel
theorem dX10_clans_21 : decode cX10_clans 21 = .ok (.aload_n 0, 1) := by decide +kernel
theorem dX10_clans_22 : decode cX10_clans 22 = .ok (.getfield 81, 3) := by decide +kernel
theorem dX10_clans_25 : decode cX10_clans 25 = .ok (.aload_n 0, 1) := by decide +kernel
theorem dX10_clans_26 : decode cX10_clans 26 = .ok (.getfield 74, 3) := by decide +kernel
theorem dX10_clans_29 : decode cX10_clans 29 = .ok (.iload_n 3, 1) := by decide +kernel
theorem dX10_clans_30 : decode cX10_clans 30 = .ok (.aload_n 0, 1) := by decide +kernel
theorem dX10_clans_31 : decode cX10_clans 31 = .ok (.getfield 23, 3) := by decide +kernel
theorem dX10_clans_34 : decode cX10_clans 34 = .ok (.getfield 183, 3) := by decide +kernel
theorem dX10_clans_37 : decode cX10_clans 37 = .ok (.invokevirtual 299, 3) := by decide +kernel
theorem dX10_clans_40 : decode cX10_clans 40 = .ok (.aload_n 0, 1) := by decide +kernel
theorem dX10_clans_41 : decode cX10_clans 41 = .ok (.getfield 81, 3) := by decide +kernel
theorem dX10_clans_44 : decode cX10_clans 44 = .ok (.iload_n 1, 1) := by decide +kernel
theorem dX10_clans_45 : decode cX10_clans 45 = .ok (.invokevirtual 319, 3) := by decide +kernel
theorem dX10_clans_48 : decode cX10_clans 48 = .ok (.iload_n 2, 1) := by decide +kernel
theorem dX10_clans_49 : decode cX10_clans 49 = .ok (.ifCond .ne 13, 3) := by decide +kernel
theorem dX10_clans_52 : decode cX10_clans 52 = .ok (.aload_n 0, 1) := by decide +kernel
theorem dX10_clans_53 : decode cX10_clans 53 = .ok (.getfield 81, 3) := by decide +kernel
theorem dX10_clans_56 : decode cX10_clans 56 = .ok (.invokevirtual 322, 3) := by decide +kernel
theorem dX10_clans_59 : decode cX10_clans 59 = .ok (.goto 10, 3) := by decide +kernel
theorem dX10_clans_62 : decode cX10_clans 62 = .ok (.aload_n 0, 1) := by decide +kernel
theorem dX10_clans_63 : decode cX10_clans 63 = .ok (.getfield 81, 3) := by decide +kernel
theorem dX10_clans_66 : decode cX10_clans 66 = .ok (.invokevirtual 325, 3) := by decide +kernel
theorem dX10_clans_69 : decode cX10_clans 69 = .ok (.ireturn, 1) := by decide +kernel
theorem dX10_origin_0 : decode cX10_origin 0 = .ok (.iload_n 1, 1) := by decide +kernel
theorem dX10_origin_1 : decode cX10_origin 1 = .ok (.ifCond .lt 8, 3) := by decide +kernel
theorem dX10_origin_4 : decode cX10_origin 4 = .ok (.iload_n 1, 1) := by decide +kernel
theorem dX10_origin_5 : decode cX10_origin 5 = .ok (.iconst 1, 1) := by decide +kernel
theorem dX10_origin_6 : decode cX10_origin 6 = .ok (.if_icmp .le 5, 3) := by decide +kernel
theorem dX10_origin_9 : decode cX10_origin 9 = .ok (.iconst (-1), 1) := by decide +kernel
theorem dX10_origin_10 : decode cX10_origin 10 = .ok (.ireturn, 1) := by decide +kernel
theorem dX10_origin_11 : decode cX10_origin 11 = .ok (.iconst 0, 1) := by decide +kernel
theorem dX10_origin_12 : decode cX10_origin 12 = .ok (.istore_n 3, 1) := by decide +kernel
theorem dX10_origin_13 : decode cX10_origin 13 = .ok (.iconst 0, 1) := by decide +kernel
theorem dX10_origin_14 : decode cX10_origin 14 = .ok (.istore 4, 2) := by decide +kernel
theorem dX10_origin_16 : decode cX10_origin 16 = .ok (.iconst 0, 1) := by decide +kernel
theorem dX10_origin_17 : decode cX10_origin 17 = .ok (.istore 5, 2) := by decide +kernel
theorem dX10_origin_19 : decode cX10_origin 19 = .ok (.iload 5, 2) := by decide +kernel
theorem dX10_origin_21 : decode cX10_origin 21 = .ok (.aload_n 0, 1) := by decide +kernel
theorem dX10_origin_22 : decode cX10_origin 22 = .ok (.getfield 23, 3) := by decide +kernel
theorem dX10_origin_25 : decode cX10_origin 25 = .ok (.getfield 183, 3) := by decide +kernel
theorem dX10_origin_28 : decode cX10_origin 28 = .ok (.if_icmp .ge 59, 3) := by decide +kernel
theorem dX10_origin_31 : decode cX10_origin 31 = .ok (.aload_n 0, 1) := by decide +kernel
theorem dX10_origin_32 : decode cX10_origin 32 = .ok (.iload 5, 2) := by decide +kernel
theorem dX10_origin_34 : decode cX10_origin 34 = .ok (.iconst 0, 1) := by decide +kernel
theorem dX10_origin_35 : decode cX10_origin 35 = .ok (.iload_n 2, 1) := by decide +kernel
theorem dX10_origin_36 : decode cX10_origin 36 = .ok (.invokevirtual 328, 3) := by decide +kernel
theorem dX10_origin_39 : decode cX10_origin 39 = .ok (.istore 6, 2) := by decide +kernel
theorem dX10_origin_41 : decode cX10_origin 41 = .ok (.aload_n 0, 1) := by decide +kernel
theorem dX10_origin_42 : decode cX10_origin 42 = .ok (.iload 5, 2) := by decide +kernel
theorem dX10_origin_44 : decode cX10_origin 44 = .ok (.iconst 1, 1) := by decide +kernel
theorem dX10_origin_45 : decode cX10_origin 45 = .ok (.iload_n 2, 1) := by decide +kernel
theorem dX10_origin_46 : decode cX10_origin 46 = .ok (.invokevirtual 328, 3) := by decide +kernel
theorem dX10_origin_49 : decode cX10_origin 49 = .ok (.istore 7, 2) := by decide +kernel
theorem dX10_origin_51 : decode cX10_origin 51 = .ok (.iload 6, 2) := by decide +kernel
theorem dX10_origin_53 : decode cX10_origin 53 = .ok (.iconst 2, 1) := by decide +kernel
theorem dX10_origin_54 : decode cX10_origin 54 = .ok (.iload 7, 2) := by decide +kernel
theorem dX10_origin_56 : decode cX10_origin 56 = .ok (.imul, 1) := by decide +kernel
theorem dX10_origin_57 : decode cX10_origin 57 = .ok (.if_icmp .ge 10, 3) := by decide +kernel
theorem dX10_origin_60 : decode cX10_origin 60 = .ok (.iload_n 3, 1) := by decide +kernel
theorem dX10_origin_61 : decode cX10_origin 61 = .ok (.iconst 1, 1) := by decide +kernel
theorem dX10_origin_62 : decode cX10_origin 62 = .ok (.iload 5, 2) := by decide +kernel
theorem dX10_origin_64 : decode cX10_origin 64 = .ok (.ishl, 1) := by decide +kernel
theorem dX10_origin_65 : decode cX10_origin 65 = .ok (.ior, 1) := by decide +kernel
theorem dX10_origin_66 : decode cX10_origin 66 = .ok (.istore_n 3, 1) := by decide +kernel
theorem dX10_origin_67 : decode cX10_origin 67 = .ok (.iload 4, 2) := by decide +kernel
theorem dX10_origin_69 : decode cX10_origin 69 = .ok (.iload 6, 2) := by decide +kernel
theorem dX10_origin_71 : decode cX10_origin 71 = .ok (.iconst 2, 1) := by decide +kernel
theorem dX10_origin_72 : decode cX10_origin 72 = .ok (.iload 7, 2) := by decide +kernel
theorem dX10_origin_74 : decode cX10_origin 74 = .ok (.imul, 1) := by decide +kernel
theorem dX10_origin_75 : decode cX10_origin 75 = .ok (.invokestatic 332, 3) := by decide +kernel
theorem dX10_origin_78 : decode cX10_origin 78 = .ok (.iadd, 1) := by decide +kernel
theorem dX10_origin_79 : decode cX10_origin 79 = .ok (.istore 4, 2) := by decide +kernel
theorem dX10_origin_81 : decode cX10_origin 81 = .ok (.iinc 5 1, 3) := by decide +kernel
theorem dX10_origin_84 : decode cX10_origin 84 = .ok (.goto (-65), 3) := by decide +kernel
theorem dX10_origin_87 : decode cX10_origin 87 = .ok (.iload_n 1, 1) := by decide +kernel
theorem dX10_origin_88 : decode cX10_origin 88 = .ok (.ifCond .ne 7, 3) := by decide +kernel
theorem dX10_origin_91 : decode cX10_origin 91 = .ok (.iload_n 3, 1) := by decide +kernel
theorem dX10_origin_92 : decode cX10_origin 92 = .ok (.goto 5, 3) := by decide +kernel
theorem dX10_origin_95 : decode cX10_origin 95 = .ok (.iload 4, 2) := by decide +kernel
theorem dX10_origin_97 : decode cX10_origin 97 = .ok (.ireturn, 1) := by decide +kernel
theorem dX10_samplesWith_0 : decode cX10_samplesWith 0 = .ok (.iconst 0, 1) := by decide +kernel
theorem dX10_samplesWith_1 : decode cX10_samplesWith 1 = .ok (.istore 4, 2) := by decide +kernel
theorem dX10_samplesWith_3 : decode cX10_samplesWith 3 = .ok (.iconst 0, 1) := by decide +kernel
theorem dX10_samplesWith_4 : decode cX10_samplesWith 4 = .ok (.istore 5, 2) := by decide +kernel
theorem dX10_samplesWith_6 : decode cX10_samplesWith 6 = .ok (.iload 5, 2) := by decide +kernel
theorem dX10_samplesWith_8 : decode cX10_samplesWith 8 = .ok (.aload_n 0, 1) := by decide +kernel
theorem dX10_samplesWith_9 : decode cX10_samplesWith 9 = .ok (.getfield 74, 3) := by decide +kernel
theorem dX10_samplesWith_12 : decode cX10_samplesWith 12 = .ok (.getfield 145, 3) := by decide +kernel
theorem dX10_samplesWith_15 : decode cX10_samplesWith 15 = .ok (.if_icmp .ge 94, 3) := by decide +kernel
theorem dX10_samplesWith_18 : decode cX10_samplesWith 18 = .ok (.aload_n 0, 1) := by decide +kernel
theorem dX10_samplesWith_19 : decode cX10_samplesWith 19 = .ok (.getfield 74, 3) := by decide +kernel
theorem dX10_samplesWith_22 : decode cX10_samplesWith 22 = .ok (.iload 5, 2) := by decide +kernel
theorem dX10_samplesWith_24 : decode cX10_samplesWith 24 = .ok (.iconst 0, 1) := by decide +kernel
theorem dX10_samplesWith_25 : decode cX10_samplesWith 25 = .ok (.iload_n 3, 1) := by decide +kernel
theorem dX10_samplesWith_26 : decode cX10_samplesWith 26 = .ok (.invokevirtual 335, 3) := by decide +kernel
theorem dX10_samplesWith_29 : decode cX10_samplesWith 29 = .ok (.ifCond .eq 74, 3) := by decide +kernel
theorem dX10_samplesWith_32 : decode cX10_samplesWith 32 = .ok (.aload_n 0, 1) := by decide +kernel
theorem dX10_samplesWith_33 : decode cX10_samplesWith 33 = .ok (.getfield 74, 3) := by decide +kernel
theorem dX10_samplesWith_36 : decode cX10_samplesWith 36 = .ok (.getfield 338, 3) := by decide +kernel
theorem dX10_samplesWith_39 : decode cX10_samplesWith 39 = .ok (.iload 5, 2) := by decide +kernel
theorem dX10_samplesWith_41 : decode cX10_samplesWith 41 = .ok (.iaload, 1) := by decide +kernel
theorem dX10_samplesWith_42 : decode cX10_samplesWith 42 = .ok (.ifCond .eq 17, 3) := by decide +kernel
theorem dX10_samplesWith_45 : decode cX10_samplesWith 45 = .ok (.aload_n 0, 1) := by decide +kernel
theorem dX10_samplesWith_46 : decode cX10_samplesWith 46 = .ok (.getfield 23, 3) := by decide +kernel
theorem dX10_samplesWith_49 : decode cX10_samplesWith 49 = .ok (.getfield 183, 3) := by decide +kernel
theorem dX10_samplesWith_52 : decode cX10_samplesWith 52 = .ok (.iconst 1, 1) := by decide +kernel
theorem dX10_samplesWith_53 : decode cX10_samplesWith 53 = .ok (.isub, 1) := by decide +kernel
theorem dX10_samplesWith_54 : decode cX10_samplesWith 54 = .ok (.iload_n 1, 1) := by decide +kernel
theorem dX10_samplesWith_55 : decode cX10_samplesWith 55 = .ok (.isub, 1) := by decide +kernel
theorem dX10_samplesWith_56 : decode cX10_samplesWith 56 = .ok (.goto 4, 3) := by decide +kernel
theorem dX10_samplesWith_59 : decode cX10_samplesWith 59 = .ok (.iload_n 1, 1) := by decide +kernel
theorem dX10_samplesWith_60 : decode cX10_samplesWith 60 = .ok (.istore 6, 2) := by decide +kernel
theorem dX10_samplesWith_62 : decode cX10_samplesWith 62 = .ok (.aload_n 0, 1) := by decide +kernel
theorem dX10_samplesWith_63 : decode cX10_samplesWith 63 = .ok (.getfield 74, 3) := by decide +kernel
theorem dX10_samplesWith_66 : decode cX10_samplesWith 66 = .ok (.getfield 341, 3) := by decide +kernel
theorem dX10_samplesWith_69 : decode cX10_samplesWith 69 = .ok (.iload 5, 2) := by decide +kernel
theorem dX10_samplesWith_71 : decode cX10_samplesWith 71 = .ok (.iaload, 1) := by decide +kernel
theorem dX10_samplesWith_72 : decode cX10_samplesWith 72 = .ok (.iload 6, 2) := by decide +kernel
theorem dX10_samplesWith_74 : decode cX10_samplesWith 74 = .ok (.ishr, 1) := by decide +kernel
theorem dX10_samplesWith_75 : decode cX10_samplesWith 75 = .ok (.iconst 1, 1) := by decide +kernel
theorem dX10_samplesWith_76 : decode cX10_samplesWith 76 = .ok (.iand, 1) := by decide +kernel
theorem dX10_samplesWith_77 : decode cX10_samplesWith 77 = .ok (.ifCond .eq 7, 3) := by decide +kernel
theorem dX10_samplesWith_80 : decode cX10_samplesWith 80 = .ok (.iconst 1, 1) := by decide +kernel
theorem dX10_samplesWith_81 : decode cX10_samplesWith 81 = .ok (.goto 4, 3) := by decide +kernel
theorem dX10_samplesWith_84 : decode cX10_samplesWith 84 = .ok (.iconst 0, 1) := by decide +kernel
theorem dX10_samplesWith_85 : decode cX10_samplesWith 85 = .ok (.istore 7, 2) := by decide +kernel
theorem dX10_samplesWith_87 : decode cX10_samplesWith 87 = .ok (.iload 4, 2) := by decide +kernel
theorem dX10_samplesWith_89 : decode cX10_samplesWith 89 = .ok (.iload 7, 2) := by decide +kernel
theorem dX10_samplesWith_91 : decode cX10_samplesWith 91 = .ok (.iload_n 2, 1) := by decide +kernel
theorem dX10_samplesWith_92 : decode cX10_samplesWith 92 = .ok (.if_icmp .ne 7, 3) := by decide +kernel
theorem dX10_samplesWith_95 : decode cX10_samplesWith 95 = .ok (.iconst 1, 1) := by decide +kernel
theorem dX10_samplesWith_96 : decode cX10_samplesWith 96 = .ok (.goto 4, 3) := by decide +kernel
theorem dX10_samplesWith_99 : decode cX10_samplesWith 99 = .ok (.iconst 0, 1) := by decide +kernel
theorem dX10_samplesWith_100 : decode cX10_samplesWith 100 = .ok (.iadd, 1) := by decide +kernel
theorem dX10_samplesWith_101 : decode cX10_samplesWith 101 = .ok (.istore 4, 2) := by decide +kernel
theorem dX10_samplesWith_103 : decode cX10_samplesWith 103 = .ok (.iinc 5 1, 3) := by decide +kernel
theorem dX10_samplesWith_106 : decode cX10_samplesWith 106 = .ok (.goto (-100), 3) := by decide +kernel
theorem dX10_samplesWith_109 : decode cX10_samplesWith 109 = .ok (.iload 4, 2) := by decide +kernel
theorem dX10_samplesWith_111 : decode cX10_samplesWith 111 = .ok (.ireturn, 1) := by decide +kernel
theorem dX10_falses_0 : decode cX10_falses 0 = .ok (.aload_n 0, 1) := by decide +kernel
theorem dX10_falses_1 : decode cX10_falses 1 = .ok (.getfield 88, 3) := by decide +kernel
theorem dX10_falses_4 : decode cX10_falses 4 = .ok (.iconst 0, 1) := by decide +kernel
theorem dX10_falses_5 : decode cX10_falses 5 = .ok (.putfield 148, 3) := by decide +kernel
theorem dX10_falses_8 : decode cX10_falses 8 = .ok (.iconst 0, 1) := by decide +kernel
theorem dX10_falses_9 : decode cX10_falses 9 = .ok (.istore_n 2, 1) := by decide +kernel
theorem dX10_falses_10 : decode cX10_falses 10 = .ok (.iconst 0, 1) := by decide +kernel
theorem dX10_falses_11 : decode cX10_falses 11 = .ok (.istore_n 3, 1) := by decide +kernel
theorem dX10_falses_12 : decode cX10_falses 12 = .ok (.iload_n 3, 1) := by decide +kernel
theorem dX10_falses_13 : decode cX10_falses 13 = .ok (.aload_n 0, 1) := by decide +kernel
theorem dX10_falses_14 : decode cX10_falses 14 = .ok (.getfield 74, 3) := by decide +kernel
theorem dX10_falses_17 : decode cX10_falses 17 = .ok (.getfield 145, 3) := by decide +kernel
theorem dX10_falses_20 : decode cX10_falses 20 = .ok (.if_icmp .ge 47, 3) := by decide +kernel
theorem dX10_falses_23 : decode cX10_falses 23 = .ok (.aload_n 0, 1) := by decide +kernel
theorem dX10_falses_24 : decode cX10_falses 24 = .ok (.getfield 74, 3) := by decide +kernel
theorem dX10_falses_27 : decode cX10_falses 27 = .ok (.iload_n 3, 1) := by decide +kernel
theorem dX10_falses_28 : decode cX10_falses 28 = .ok (.iconst 1, 1) := by decide +kernel
theorem dX10_falses_29 : decode cX10_falses 29 = .ok (.iload_n 1, 1) := by decide +kernel
theorem dX10_falses_30 : decode cX10_falses 30 = .ok (.invokevirtual 335, 3) := by decide +kernel
theorem dX10_falses_33 : decode cX10_falses 33 = .ok (.ifCond .eq 28, 3) := by decide +kernel
theorem dX10_falses_36 : decode cX10_falses 36 = .ok (.aload_n 0, 1) := by decide +kernel
theorem dX10_falses_37 : decode cX10_falses 37 = .ok (.iload_n 3, 1) := by decide +kernel
theorem dX10_falses_38 : decode cX10_falses 38 = .ok (.invokevirtual 344, 3) := by decide +kernel
theorem dX10_falses_41 : decode cX10_falses 41 = .ok (.ifCond .eq 20, 3) := by decide +kernel
theorem dX10_falses_44 : decode cX10_falses 44 = .ok (.iload_n 2, 1) := by decide +kernel
theorem dX10_falses_45 : decode cX10_falses 45 = .ok (.bipush 8, 2) := by decide +kernel
theorem dX10_falses_47 : decode cX10_falses 47 = .ok (.if_icmp .ge 11, 3) := by decide +kernel
theorem dX10_falses_50 : decode cX10_falses 50 = .ok (.aload_n 0, 1) := by decide +kernel
theorem dX10_falses_51 : decode cX10_falses 51 = .ok (.getfield 88, 3) := by decide +kernel
theorem dX10_falses_54 : decode cX10_falses 54 = .ok (.iload_n 3, 1) := by decide +kernel
theorem dX10_falses_55 : decode cX10_falses 55 = .ok (.invokevirtual 263, 3) := by decide +kernel
theorem dX10_falses_58 : decode cX10_falses 58 = .ok (.iinc 2 1, 3) := by decide +kernel
theorem dX10_falses_61 : decode cX10_falses 61 = .ok (.iinc 3 1, 3) := by decide +kernel
theorem dX10_falses_64 : decode cX10_falses 64 = .ok (.goto (-52), 3) := by decide +kernel
theorem dX10_falses_67 : decode cX10_falses 67 = .ok (.iload_n 2, 1) := by decide +kernel
theorem dX10_falses_68 : decode cX10_falses 68 = .ok (.ireturn, 1) := by decide +kernel
theorem dX10_isFalse_0 : decode cX10_isFalse 0 = .ok (.aload_n 0, 1) := by decide +kernel
theorem dX10_isFalse_1 : decode cX10_isFalse 1 = .ok (.getfield 74, 3) := by decide +kernel
theorem dX10_isFalse_4 : decode cX10_isFalse 4 = .ok (.getfield 347, 3) := by decide +kernel
theorem dX10_isFalse_7 : decode cX10_isFalse 7 = .ok (.iload_n 1, 1) := by decide +kernel
theorem dX10_isFalse_8 : decode cX10_isFalse 8 = .ok (.iaload, 1) := by decide +kernel
theorem dX10_isFalse_9 : decode cX10_isFalse 9 = .ok (.istore_n 2, 1) := by decide +kernel
theorem dX10_isFalse_10 : decode cX10_isFalse 10 = .ok (.aload_n 0, 1) := by decide +kernel
theorem dX10_isFalse_11 : decode cX10_isFalse 11 = .ok (.iload_n 2, 1) := by decide +kernel
theorem dX10_isFalse_12 : decode cX10_isFalse 12 = .ok (.invokevirtual 149, 3) := by decide +kernel
theorem dX10_isFalse_15 : decode cX10_isFalse 15 = .ok (.ifCond .eq 44, 3) := by decide +kernel
theorem dX10_isFalse_18 : decode cX10_isFalse 18 = .ok (.aload_n 0, 1) := by decide +kernel
theorem dX10_isFalse_19 : decode cX10_isFalse 19 = .ok (.getfield 74, 3) := by decide +kernel
theorem dX10_isFalse_22 : decode cX10_isFalse 22 = .ok (.getfield 341, 3) := by decide +kernel
theorem dX10_isFalse_25 : decode cX10_isFalse 25 = .ok (.iload_n 1, 1) := by decide +kernel
theorem dX10_isFalse_26 : decode cX10_isFalse 26 = .ok (.iaload, 1) := by decide +kernel
theorem dX10_isFalse_27 : decode cX10_isFalse 27 = .ok (.aload_n 0, 1) := by decide +kernel
theorem dX10_isFalse_28 : decode cX10_isFalse 28 = .ok (.iload_n 2, 1) := by decide +kernel
theorem dX10_isFalse_29 : decode cX10_isFalse 29 = .ok (.invokevirtual 228, 3) := by decide +kernel
theorem dX10_isFalse_32 : decode cX10_isFalse 32 = .ok (.iconst (-1), 1) := by decide +kernel
theorem dX10_isFalse_33 : decode cX10_isFalse 33 = .ok (.ixor, 1) := by decide +kernel
theorem dX10_isFalse_34 : decode cX10_isFalse 34 = .ok (.iand, 1) := by decide +kernel
theorem dX10_isFalse_35 : decode cX10_isFalse 35 = .ok (.ifCond .ne 24, 3) := by decide +kernel
theorem dX10_isFalse_38 : decode cX10_isFalse 38 = .ok (.aload_n 0, 1) := by decide +kernel
theorem dX10_isFalse_39 : decode cX10_isFalse 39 = .ok (.getfield 74, 3) := by decide +kernel
theorem dX10_isFalse_42 : decode cX10_isFalse 42 = .ok (.getfield 338, 3) := by decide +kernel
theorem dX10_isFalse_45 : decode cX10_isFalse 45 = .ok (.iload_n 1, 1) := by decide +kernel
theorem dX10_isFalse_46 : decode cX10_isFalse 46 = .ok (.iaload, 1) := by decide +kernel
theorem dX10_isFalse_47 : decode cX10_isFalse 47 = .ok (.aload_n 0, 1) := by decide +kernel
theorem dX10_isFalse_48 : decode cX10_isFalse 48 = .ok (.getfield 42, 3) := by decide +kernel
theorem dX10_isFalse_51 : decode cX10_isFalse 51 = .ok (.getfield 162, 3) := by decide +kernel
theorem dX10_isFalse_54 : decode cX10_isFalse 54 = .ok (.iload_n 2, 1) := by decide +kernel
theorem dX10_isFalse_55 : decode cX10_isFalse 55 = .ok (.iaload, 1) := by decide +kernel
theorem dX10_isFalse_56 : decode cX10_isFalse 56 = .ok (.if_icmp .ge 7, 3) := by decide +kernel
theorem dX10_isFalse_59 : decode cX10_isFalse 59 = .ok (.iconst 1, 1) := by decide +kernel
theorem dX10_isFalse_60 : decode cX10_isFalse 60 = .ok (.goto 4, 3) := by decide +kernel
theorem dX10_isFalse_63 : decode cX10_isFalse 63 = .ok (.iconst 0, 1) := by decide +kernel
theorem dX10_isFalse_64 : decode cX10_isFalse 64 = .ok (.ireturn, 1) := by decide +kernel
theorem dX10_span_0 : decode cX10_span 0 = .ok (.aload_n 0, 1) := by decide +kernel
theorem dX10_span_1 : decode cX10_span 1 = .ok (.iload_n 1, 1) := by decide +kernel
theorem dX10_span_2 : decode cX10_span 2 = .ok (.invokevirtual 286, 3) := by decide +kernel
theorem dX10_span_5 : decode cX10_span 5 = .ok (.ifCond .eq 12, 3) := by decide +kernel
theorem dX10_span_8 : decode cX10_span 8 = .ok (.iload_n 2, 1) := by decide +kernel
theorem dX10_span_9 : decode cX10_span 9 = .ok (.ifCond .lt 8, 3) := by decide +kernel
theorem dX10_span_12 : decode cX10_span 12 = .ok (.iload_n 2, 1) := by decide +kernel
theorem dX10_span_13 : decode cX10_span 13 = .ok (.iconst 2, 1) := by decide +kernel
theorem dX10_span_14 : decode cX10_span 14 = .ok (.if_icmp .le 5, 3) := by decide +kernel
theorem dX10_span_17 : decode cX10_span 17 = .ok (.iconst (-1), 1) := by decide +kernel
theorem dX10_span_18 : decode cX10_span 18 = .ok (.ireturn, 1) := by decide +kernel
theorem dX10_span_19 : decode cX10_span 19 = .ok (.iconst 0, 1) := by decide +kernel
theorem dX10_span_20 : decode cX10_span 20 = .ok (.istore 4, 2) := by decide +kernel
theorem dX10_span_22 : decode cX10_span 22 = .ok (.sipush 999, 3) := by decide +kernel
theorem dX10_span_25 : decode cX10_span 25 = .ok (.istore 5, 2) := by decide +kernel
theorem dX10_span_27 : decode cX10_span 27 = .ok (.iconst 0, 1) := by decide +kernel
theorem dX10_span_28 : decode cX10_span 28 = .ok (.istore 6, 2) := by decide +kernel
theorem dX10_span_30 : decode cX10_span 30 = .ok (.iload 6, 2) := by decide +kernel
theorem dX10_span_32 : decode cX10_span 32 = .ok (.aload_n 0, 1) := by decide +kernel
theorem dX10_span_33 : decode cX10_span 33 = .ok (.getfield 74, 3) := by decide +kernel
theorem dX10_span_36 : decode cX10_span 36 = .ok (.getfield 145, 3) := by decide +kernel
theorem dX10_span_39 : decode cX10_span 39 = .ok (.if_icmp .ge 89, 3) := by decide +kernel
theorem dX10_span_42 : decode cX10_span 42 = .ok (.aload_n 0, 1) := by decide +kernel
theorem dX10_span_43 : decode cX10_span 43 = .ok (.getfield 74, 3) := by decide +kernel
theorem dX10_span_46 : decode cX10_span 46 = .ok (.iload 6, 2) := by decide +kernel
theorem dX10_span_48 : decode cX10_span 48 = .ok (.iconst 2, 1) := by decide +kernel
theorem dX10_span_49 : decode cX10_span 49 = .ok (.iload_n 3, 1) := by decide +kernel
theorem dX10_span_50 : decode cX10_span 50 = .ok (.invokevirtual 335, 3) := by decide +kernel
theorem dX10_span_53 : decode cX10_span 53 = .ok (.ifCond .eq 69, 3) := by decide +kernel
theorem dX10_span_56 : decode cX10_span 56 = .ok (.aload_n 0, 1) := by decide +kernel
theorem dX10_span_57 : decode cX10_span 57 = .ok (.getfield 74, 3) := by decide +kernel
theorem dX10_span_60 : decode cX10_span 60 = .ok (.getfield 341, 3) := by decide +kernel
theorem dX10_span_63 : decode cX10_span 63 = .ok (.iload 6, 2) := by decide +kernel
theorem dX10_span_65 : decode cX10_span 65 = .ok (.iaload, 1) := by decide +kernel
theorem dX10_span_66 : decode cX10_span 66 = .ok (.iload_n 1, 1) := by decide +kernel
theorem dX10_span_67 : decode cX10_span 67 = .ok (.if_icmp .ne 55, 3) := by decide +kernel
theorem dX10_span_70 : decode cX10_span 70 = .ok (.aload_n 0, 1) := by decide +kernel
theorem dX10_span_71 : decode cX10_span 71 = .ok (.getfield 74, 3) := by decide +kernel
theorem dX10_span_74 : decode cX10_span 74 = .ok (.getfield 338, 3) := by decide +kernel
theorem dX10_span_77 : decode cX10_span 77 = .ok (.iload 6, 2) := by decide +kernel
theorem dX10_span_79 : decode cX10_span 79 = .ok (.iaload, 1) := by decide +kernel
theorem dX10_span_80 : decode cX10_span 80 = .ok (.ifCond .eq 25, 3) := by decide +kernel
theorem dX10_span_83 : decode cX10_span 83 = .ok (.iload 4, 2) := by decide +kernel
theorem dX10_span_85 : decode cX10_span 85 = .ok (.aload_n 0, 1) := by decide +kernel
theorem dX10_span_86 : decode cX10_span 86 = .ok (.getfield 74, 3) := by decide +kernel
theorem dX10_span_89 : decode cX10_span 89 = .ok (.getfield 347, 3) := by decide +kernel
theorem dX10_span_92 : decode cX10_span 92 = .ok (.iload 6, 2) := by decide +kernel
theorem dX10_span_94 : decode cX10_span 94 = .ok (.iaload, 1) := by decide +kernel
theorem dX10_span_95 : decode cX10_span 95 = .ok (.iconst 1, 1) := by decide +kernel
theorem dX10_span_96 : decode cX10_span 96 = .ok (.iadd, 1) := by decide +kernel
theorem dX10_span_97 : decode cX10_span 97 = .ok (.invokestatic 266, 3) := by decide +kernel
theorem dX10_span_100 : decode cX10_span 100 = .ok (.istore 4, 2) := by decide +kernel
theorem dX10_span_102 : decode cX10_span 102 = .ok (.goto 20, 3) := by decide +kernel
theorem dX10_span_105 : decode cX10_span 105 = .ok (.iload 5, 2) := by decide +kernel
theorem dX10_span_107 : decode cX10_span 107 = .ok (.aload_n 0, 1) := by decide +kernel
theorem dX10_span_108 : decode cX10_span 108 = .ok (.getfield 74, 3) := by decide +kernel
theorem dX10_span_111 : decode cX10_span 111 = .ok (.getfield 347, 3) := by decide +kernel
theorem dX10_span_114 : decode cX10_span 114 = .ok (.iload 6, 2) := by decide +kernel
theorem dX10_span_116 : decode cX10_span 116 = .ok (.iaload, 1) := by decide +kernel
theorem dX10_span_117 : decode cX10_span 117 = .ok (.invokestatic 332, 3) := by decide +kernel
theorem dX10_span_120 : decode cX10_span 120 = .ok (.istore 5, 2) := by decide +kernel
theorem dX10_span_122 : decode cX10_span 122 = .ok (.iinc 6 1, 3) := by decide +kernel
theorem dX10_span_125 : decode cX10_span 125 = .ok (.goto (-95), 3) := by decide +kernel
theorem dX10_span_128 : decode cX10_span 128 = .ok (.iload_n 2, 1) := by decide +kernel
theorem dX10_span_129 : decode cX10_span 129 = .ok (.iconst 2, 1) := by decide +kernel
theorem dX10_span_130 : decode cX10_span 130 = .ok (.if_icmp .ne 15, 3) := by decide +kernel
theorem dX10_span_133 : decode cX10_span 133 = .ok (.iconst 0, 1) := by decide +kernel
theorem dX10_span_134 : decode cX10_span 134 = .ok (.iload 5, 2) := by decide +kernel
theorem dX10_span_136 : decode cX10_span 136 = .ok (.iload 4, 2) := by decide +kernel
theorem dX10_span_138 : decode cX10_span 138 = .ok (.isub, 1) := by decide +kernel
theorem dX10_span_139 : decode cX10_span 139 = .ok (.iconst 1, 1) := by decide +kernel
theorem dX10_span_140 : decode cX10_span 140 = .ok (.iadd, 1) := by decide +kernel
theorem dX10_span_141 : decode cX10_span 141 = .ok (.invokestatic 266, 3) := by decide +kernel
theorem dX10_span_144 : decode cX10_span 144 = .ok (.ireturn, 1) := by decide +kernel
theorem dX10_span_145 : decode cX10_span 145 = .ok (.iload 4, 2) := by decide +kernel
theorem dX10_span_147 : decode cX10_span 147 = .ok (.iload 5, 2) := by decide +kernel
theorem dX10_span_149 : decode cX10_span 149 = .ok (.if_icmp .le 5, 3) := by decide +kernel
theorem dX10_span_152 : decode cX10_span 152 = .ok (.iconst (-1), 1) := by decide +kernel
theorem dX10_span_153 : decode cX10_span 153 = .ok (.ireturn, 1) := by decide +kernel
theorem dX10_span_154 : decode cX10_span 154 = .ok (.iload_n 2, 1) := by decide +kernel
theorem dX10_span_155 : decode cX10_span 155 = .ok (.ifCond .ne 8, 3) := by decide +kernel
theorem dX10_span_158 : decode cX10_span 158 = .ok (.iload 4, 2) := by decide +kernel
theorem dX10_span_160 : decode cX10_span 160 = .ok (.goto 5, 3) := by decide +kernel
theorem dX10_span_163 : decode cX10_span 163 = .ok (.iload 5, 2) := by decide +kernel
theorem dX10_span_165 : decode cX10_span 165 = .ok (.ireturn, 1) := by decide +kernel
theorem dX10_backward_0 : decode cX10_backward 0 = .ok (.iload_n 1, 1) := by decide +kernel
theorem dX10_backward_1 : decode cX10_backward 1 = .ok (.invokestatic 289, 3) := by decide +kernel
theorem dX10_backward_4 : decode cX10_backward 4 = .ok (.ifCond .eq 15, 3) := by decide +kernel
theorem dX10_backward_7 : decode cX10_backward 7 = .ok (.aload_n 0, 1) := by decide +kernel
theorem dX10_backward_8 : decode cX10_backward 8 = .ok (.getfield 74, 3) := by decide +kernel
theorem dX10_backward_11 : decode cX10_backward 11 = .ok (.iload_n 1, 1) := by decide +kernel
theorem dX10_backward_12 : decode cX10_backward 12 = .ok (.iload_n 2, 1) := by decide +kernel
theorem dX10_backward_13 : decode cX10_backward 13 = .ok (.invokevirtual 350, 3) := by decide +kernel
theorem dX10_backward_16 : decode cX10_backward 16 = .ok (.goto 4, 3) := by decide +kernel
theorem dX10_backward_19 : decode cX10_backward 19 = .ok (.iconst (-1), 1) := by decide +kernel
theorem dX10_backward_20 : decode cX10_backward 20 = .ok (.ireturn, 1) := by decide +kernel
theorem dX10_lies_0 : decode cX10_lies 0 = .ok (.iload_n 1, 1) := by decide +kernel
theorem dX10_lies_1 : decode cX10_lies 1 = .ok (.ifCond .lt 14, 3) := by decide +kernel
theorem dX10_lies_4 : decode cX10_lies 4 = .ok (.iload_n 1, 1) := by decide +kernel
theorem dX10_lies_5 : decode cX10_lies 5 = .ok (.aload_n 0, 1) := by decide +kernel
theorem dX10_lies_6 : decode cX10_lies 6 = .ok (.getfield 88, 3) := by decide +kernel
theorem dX10_lies_9 : decode cX10_lies 9 = .ok (.getfield 148, 3) := by decide +kernel
theorem dX10_lies_12 : decode cX10_lies 12 = .ok (.if_icmp .lt 8, 3) := by decide +kernel
theorem dX10_lies_15 : decode cX10_lies 15 = .ok (.bipush (-2), 2) := by decide +kernel
theorem dX10_lies_17 : decode cX10_lies 17 = .ok (.goto 12, 3) := by decide +kernel
theorem dX10_lies_20 : decode cX10_lies 20 = .ok (.aload_n 0, 1) := by decide +kernel
theorem dX10_lies_21 : decode cX10_lies 21 = .ok (.getfield 88, 3) := by decide +kernel
theorem dX10_lies_24 : decode cX10_lies 24 = .ok (.getfield 353, 3) := by decide +kernel
theorem dX10_lies_27 : decode cX10_lies 27 = .ok (.iload_n 1, 1) := by decide +kernel
theorem dX10_lies_28 : decode cX10_lies 28 = .ok (.iaload, 1) := by decide +kernel
theorem dX10_lies_29 : decode cX10_lies 29 = .ok (.ireturn, 1) := by decide +kernel
theorem dX10_image_0 : decode cX10_image 0 = .ok (.iload_n 1, 1) := by decide +kernel
theorem dX10_image_1 : decode cX10_image 1 = .ok (.ifCond .lt 8, 3) := by decide +kernel
theorem dX10_image_4 : decode cX10_image 4 = .ok (.iload_n 1, 1) := by decide +kernel
theorem dX10_image_5 : decode cX10_image 5 = .ok (.iconst 3, 1) := by decide +kernel
theorem dX10_image_6 : decode cX10_image 6 = .ok (.if_icmp .lt 5, 3) := by decide +kernel
theorem dX10_image_9 : decode cX10_image 9 = .ok (.iconst (-1), 1) := by decide +kernel
theorem dX10_image_10 : decode cX10_image 10 = .ok (.ireturn, 1) := by decide +kernel
theorem dX10_image_11 : decode cX10_image 11 = .ok (.aload_n 0, 1) := by decide +kernel
theorem dX10_image_12 : decode cX10_image 12 = .ok (.getfield 92, 3) := by decide +kernel
theorem dX10_image_15 : decode cX10_image 15 = .ok (.iload_n 1, 1) := by decide +kernel
theorem dX10_image_16 : decode cX10_image 16 = .ok (.aaload, 1) := by decide +kernel
theorem dX10_image_17 : decode cX10_image 17 = .ok (.aload_n 0, 1) := by decide +kernel
theorem dX10_image_18 : decode cX10_image 18 = .ok (.getfield 42, 3) := by decide +kernel
theorem dX10_image_21 : decode cX10_image 21 = .ok (.invokevirtual 356, 3) := by decide +kernel
theorem dX10_image_24 : decode cX10_image 24 = .ok (.aload_n 0, 1) := by decide +kernel
theorem dX10_image_25 : decode cX10_image 25 = .ok (.getfield 96, 3) := by decide +kernel
theorem dX10_image_28 : decode cX10_image 28 = .ok (.iload_n 1, 1) := by decide +kernel
theorem dX10_image_29 : decode cX10_image 29 = .ok (.iconst 1, 1) := by decide +kernel
theorem dX10_image_30 : decode cX10_image 30 = .ok (.bastore, 1) := by decide +kernel
theorem dX10_image_31 : decode cX10_image 31 = .ok (.aload_n 0, 1) := by decide +kernel
theorem dX10_image_32 : decode cX10_image 32 = .ok (.getfield 42, 3) := by decide +kernel
theorem dX10_image_35 : decode cX10_image 35 = .ok (.getfield 204, 3) := by decide +kernel
theorem dX10_image_38 : decode cX10_image 38 = .ok (.ireturn, 1) := by decide +kernel
theorem dX10_back_0 : decode cX10_back 0 = .ok (.iload_n 1, 1) := by decide +kernel
theorem dX10_back_1 : decode cX10_back 1 = .ok (.ifCond .lt 17, 3) := by decide +kernel
theorem dX10_back_4 : decode cX10_back 4 = .ok (.iload_n 1, 1) := by decide +kernel
theorem dX10_back_5 : decode cX10_back 5 = .ok (.iconst 3, 1) := by decide +kernel
theorem dX10_back_6 : decode cX10_back 6 = .ok (.if_icmp .ge 12, 3) := by decide +kernel
theorem dX10_back_9 : decode cX10_back 9 = .ok (.aload_n 0, 1) := by decide +kernel
theorem dX10_back_10 : decode cX10_back 10 = .ok (.getfield 96, 3) := by decide +kernel
theorem dX10_back_13 : decode cX10_back 13 = .ok (.iload_n 1, 1) := by decide +kernel
theorem dX10_back_14 : decode cX10_back 14 = .ok (.baload, 1) := by decide +kernel
theorem dX10_back_15 : decode cX10_back 15 = .ok (.ifCond .ne 5, 3) := by decide +kernel
theorem dX10_back_18 : decode cX10_back 18 = .ok (.iconst (-1), 1) := by decide +kernel
theorem dX10_back_19 : decode cX10_back 19 = .ok (.ireturn, 1) := by decide +kernel
theorem dX10_back_20 : decode cX10_back 20 = .ok (.aload_n 0, 1) := by decide +kernel
theorem dX10_back_21 : decode cX10_back 21 = .ok (.getfield 42, 3) := by decide +kernel
theorem dX10_back_24 : decode cX10_back 24 = .ok (.aload_n 0, 1) := by decide +kernel
theorem dX10_back_25 : decode cX10_back 25 = .ok (.getfield 92, 3) := by decide +kernel
theorem dX10_back_28 : decode cX10_back 28 = .ok (.iload_n 1, 1) := by decide +kernel
theorem dX10_back_29 : decode cX10_back 29 = .ok (.aaload, 1) := by decide +kernel
theorem dX10_back_30 : decode cX10_back 30 = .ok (.invokevirtual 356, 3) := by decide +kernel
theorem dX10_back_33 : decode cX10_back 33 = .ok (.aload_n 0, 1) := by decide +kernel
theorem dX10_back_34 : decode cX10_back 34 = .ok (.getfield 60, 3) := by decide +kernel
theorem dX10_back_37 : decode cX10_back 37 = .ok (.invokevirtual 142, 3) := by decide +kernel
theorem dX10_back_40 : decode cX10_back 40 = .ok (.aload_n 0, 1) := by decide +kernel
theorem dX10_back_41 : decode cX10_back 41 = .ok (.getfield 42, 3) := by decide +kernel
theorem dX10_back_44 : decode cX10_back 44 = .ok (.getfield 204, 3) := by decide +kernel
theorem dX10_back_47 : decode cX10_back 47 = .ok (.ireturn, 1) := by decide +kernel
theorem dX10_about_0 : decode cX10_about 0 = .ok (.iload_n 1, 1) := by decide +kernel
theorem dX10_about_1 : decode cX10_about 1 = .ok (.tableswitch 180 0 13 #[71, 79, 87, 95, 103, 111, 119, 127, 135, 143, 151, 159, 164, 172], 71) := by decide +kernel
theorem dX10_about_72 : decode cX10_about 72 = .ok (.aload_n 0, 1) := by decide +kernel
theorem dX10_about_73 : decode cX10_about 73 = .ok (.getfield 23, 3) := by decide +kernel
theorem dX10_about_76 : decode cX10_about 76 = .ok (.getfield 132, 3) := by decide +kernel
theorem dX10_about_79 : decode cX10_about 79 = .ok (.ireturn, 1) := by decide +kernel
theorem dX10_about_80 : decode cX10_about 80 = .ok (.aload_n 0, 1) := by decide +kernel
theorem dX10_about_81 : decode cX10_about 81 = .ok (.getfield 23, 3) := by decide +kernel
theorem dX10_about_84 : decode cX10_about 84 = .ok (.getfield 183, 3) := by decide +kernel
theorem dX10_about_87 : decode cX10_about 87 = .ok (.ireturn, 1) := by decide +kernel
theorem dX10_about_88 : decode cX10_about 88 = .ok (.aload_n 0, 1) := by decide +kernel
theorem dX10_about_89 : decode cX10_about 89 = .ok (.getfield 42, 3) := by decide +kernel
theorem dX10_about_92 : decode cX10_about 92 = .ok (.getfield 204, 3) := by decide +kernel
theorem dX10_about_95 : decode cX10_about 95 = .ok (.ireturn, 1) := by decide +kernel
theorem dX10_about_96 : decode cX10_about 96 = .ok (.aload_n 0, 1) := by decide +kernel
theorem dX10_about_97 : decode cX10_about 97 = .ok (.getfield 42, 3) := by decide +kernel
theorem dX10_about_100 : decode cX10_about 100 = .ok (.getfield 168, 3) := by decide +kernel
theorem dX10_about_103 : decode cX10_about 103 = .ok (.ireturn, 1) := by decide +kernel
theorem dX10_about_104 : decode cX10_about 104 = .ok (.aload_n 0, 1) := by decide +kernel
theorem dX10_about_105 : decode cX10_about 105 = .ok (.getfield 42, 3) := by decide +kernel
theorem dX10_about_108 : decode cX10_about 108 = .ok (.getfield 207, 3) := by decide +kernel
theorem dX10_about_111 : decode cX10_about 111 = .ok (.ireturn, 1) := by decide +kernel
theorem dX10_about_112 : decode cX10_about 112 = .ok (.aload_n 0, 1) := by decide +kernel
theorem dX10_about_113 : decode cX10_about 113 = .ok (.getfield 42, 3) := by decide +kernel
theorem dX10_about_116 : decode cX10_about 116 = .ok (.getfield 218, 3) := by decide +kernel
theorem dX10_about_119 : decode cX10_about 119 = .ok (.ireturn, 1) := by decide +kernel
theorem dX10_about_120 : decode cX10_about 120 = .ok (.aload_n 0, 1) := by decide +kernel
theorem dX10_about_121 : decode cX10_about 121 = .ok (.getfield 42, 3) := by decide +kernel
theorem dX10_about_124 : decode cX10_about 124 = .ok (.getfield 360, 3) := by decide +kernel
theorem dX10_about_127 : decode cX10_about 127 = .ok (.ireturn, 1) := by decide +kernel
theorem dX10_about_128 : decode cX10_about 128 = .ok (.aload_n 0, 1) := by decide +kernel
theorem dX10_about_129 : decode cX10_about 129 = .ok (.getfield 60, 3) := by decide +kernel
theorem dX10_about_132 : decode cX10_about 132 = .ok (.getfield 363, 3) := by decide +kernel
theorem dX10_about_135 : decode cX10_about 135 = .ok (.ireturn, 1) := by decide +kernel
theorem dX10_about_136 : decode cX10_about 136 = .ok (.aload_n 0, 1) := by decide +kernel
theorem dX10_about_137 : decode cX10_about 137 = .ok (.getfield 60, 3) := by decide +kernel
theorem dX10_about_140 : decode cX10_about 140 = .ok (.getfield 366, 3) := by decide +kernel
theorem dX10_about_143 : decode cX10_about 143 = .ok (.ireturn, 1) := by decide +kernel
theorem dX10_about_144 : decode cX10_about 144 = .ok (.aload_n 0, 1) := by decide +kernel
theorem dX10_about_145 : decode cX10_about 145 = .ok (.getfield 74, 3) := by decide +kernel
theorem dX10_about_148 : decode cX10_about 148 = .ok (.getfield 145, 3) := by decide +kernel
theorem dX10_about_151 : decode cX10_about 151 = .ok (.ireturn, 1) := by decide +kernel
theorem dX10_about_152 : decode cX10_about 152 = .ok (.aload_n 0, 1) := by decide +kernel
theorem dX10_about_153 : decode cX10_about 153 = .ok (.getfield 74, 3) := by decide +kernel
theorem dX10_about_156 : decode cX10_about 156 = .ok (.getfield 295, 3) := by decide +kernel
theorem dX10_about_159 : decode cX10_about 159 = .ok (.ireturn, 1) := by decide +kernel
theorem dX10_about_160 : decode cX10_about 160 = .ok (.aload_n 0, 1) := by decide +kernel
theorem dX10_about_161 : decode cX10_about 161 = .ok (.getfield 111, 3) := by decide +kernel
theorem dX10_about_164 : decode cX10_about 164 = .ok (.ireturn, 1) := by decide +kernel
theorem dX10_about_165 : decode cX10_about 165 = .ok (.aload_n 0, 1) := by decide +kernel
theorem dX10_about_166 : decode cX10_about 166 = .ok (.getfield 23, 3) := by decide +kernel
theorem dX10_about_169 : decode cX10_about 169 = .ok (.getfield 369, 3) := by decide +kernel
theorem dX10_about_172 : decode cX10_about 172 = .ok (.ireturn, 1) := by decide +kernel
theorem dX10_about_173 : decode cX10_about 173 = .ok (.aload_n 0, 1) := by decide +kernel
theorem dX10_about_174 : decode cX10_about 174 = .ok (.getfield 88, 3) := by decide +kernel
theorem dX10_about_177 : decode cX10_about 177 = .ok (.getfield 148, 3) := by decide +kernel
theorem dX10_about_180 : decode cX10_about 180 = .ok (.ireturn, 1) := by decide +kernel
theorem dX10_about_181 : decode cX10_about 181 = .ok (.iconst (-1), 1) := by decide +kernel
theorem dX10_about_182 : decode cX10_about 182 = .ok (.ireturn, 1) := by decide +kernel
theorem dX10_isRow_0 : decode cX10_isRow 0 = .ok (.iload_n 1, 1) := by decide +kernel
theorem dX10_isRow_1 : decode cX10_isRow 1 = .ok (.ifCond .lt 18, 3) := by decide +kernel
theorem dX10_isRow_4 : decode cX10_isRow 4 = .ok (.iload_n 1, 1) := by decide +kernel
theorem dX10_isRow_5 : decode cX10_isRow 5 = .ok (.aload_n 0, 1) := by decide +kernel
theorem dX10_isRow_6 : decode cX10_isRow 6 = .ok (.getfield 23, 3) := by decide +kernel
theorem dX10_isRow_9 : decode cX10_isRow 9 = .ok (.invokevirtual 240, 3) := by decide +kernel
theorem dX10_isRow_12 : decode cX10_isRow 12 = .ok (.if_icmp .ge 7, 3) := by decide +kernel
theorem dX10_isRow_15 : decode cX10_isRow 15 = .ok (.iconst 1, 1) := by decide +kernel
theorem dX10_isRow_16 : decode cX10_isRow 16 = .ok (.goto 4, 3) := by decide +kernel
theorem dX10_isRow_19 : decode cX10_isRow 19 = .ok (.iconst 0, 1) := by decide +kernel
theorem dX10_isRow_20 : decode cX10_isRow 20 = .ok (.ireturn, 1) := by decide +kernel
theorem dX10_isMark_0 : decode cX10_isMark 0 = .ok (.iload_n 1, 1) := by decide +kernel
theorem dX10_isMark_1 : decode cX10_isMark 1 = .ok (.ifCond .lt 18, 3) := by decide +kernel
theorem dX10_isMark_4 : decode cX10_isMark 4 = .ok (.iload_n 1, 1) := by decide +kernel
theorem dX10_isMark_5 : decode cX10_isMark 5 = .ok (.aload_n 0, 1) := by decide +kernel
theorem dX10_isMark_6 : decode cX10_isMark 6 = .ok (.getfield 23, 3) := by decide +kernel
theorem dX10_isMark_9 : decode cX10_isMark 9 = .ok (.getfield 183, 3) := by decide +kernel
theorem dX10_isMark_12 : decode cX10_isMark 12 = .ok (.if_icmp .ge 7, 3) := by decide +kernel
theorem dX10_isMark_15 : decode cX10_isMark 15 = .ok (.iconst 1, 1) := by decide +kernel
theorem dX10_isMark_16 : decode cX10_isMark 16 = .ok (.goto 4, 3) := by decide +kernel
theorem dX10_isMark_19 : decode cX10_isMark 19 = .ok (.iconst 0, 1) := by decide +kernel
theorem dX10_isMark_20 : decode cX10_isMark 20 = .ok (.ireturn, 1) := by decide +kernel
theorem dX10_isHand_0 : decode cX10_isHand 0 = .ok (.iload_n 1, 1) := by decide +kernel
theorem dX10_isHand_1 : decode cX10_isHand 1 = .ok (.ifCond .lt 18, 3) := by decide +kernel
theorem dX10_isHand_4 : decode cX10_isHand 4 = .ok (.iload_n 1, 1) := by decide +kernel
theorem dX10_isHand_5 : decode cX10_isHand 5 = .ok (.aload_n 0, 1) := by decide +kernel
theorem dX10_isHand_6 : decode cX10_isHand 6 = .ok (.getfield 23, 3) := by decide +kernel
theorem dX10_isHand_9 : decode cX10_isHand 9 = .ok (.getfield 132, 3) := by decide +kernel
theorem dX10_isHand_12 : decode cX10_isHand 12 = .ok (.if_icmp .ge 7, 3) := by decide +kernel
theorem dX10_isHand_15 : decode cX10_isHand 15 = .ok (.iconst 1, 1) := by decide +kernel
theorem dX10_isHand_16 : decode cX10_isHand 16 = .ok (.goto 4, 3) := by decide +kernel
theorem dX10_isHand_19 : decode cX10_isHand 19 = .ok (.iconst 0, 1) := by decide +kernel
theorem dX10_isHand_20 : decode cX10_isHand 20 = .ok (.ireturn, 1) := by decide +kernel
theorem dX10_isHeat_0 : decode cX10_isHeat 0 = .ok (.iload_n 0, 1) := by decide +kernel
theorem dX10_isHeat_1 : decode cX10_isHeat 1 = .ok (.ifCond .lt 13, 3) := by decide +kernel
theorem dX10_isHeat_4 : decode cX10_isHeat 4 = .ok (.iload_n 0, 1) := by decide +kernel
theorem dX10_isHeat_5 : decode cX10_isHeat 5 = .ok (.bipush 10, 2) := by decide +kernel
theorem dX10_isHeat_7 : decode cX10_isHeat 7 = .ok (.if_icmp .ge 7, 3) := by decide +kernel
theorem dX10_isHeat_10 : decode cX10_isHeat 10 = .ok (.iconst 1, 1) := by decide +kernel
theorem dX10_isHeat_11 : decode cX10_isHeat 11 = .ok (.goto 4, 3) := by decide +kernel
theorem dX10_isHeat_14 : decode cX10_isHeat 14 = .ok (.iconst 0, 1) := by decide +kernel
theorem dX10_isHeat_15 : decode cX10_isHeat 15 = .ok (.ireturn, 1) := by decide +kernel
theorem dX10_isYear_0 : decode cX10_isYear 0 = .ok (.iload_n 0, 1) := by decide +kernel
theorem dX10_isYear_1 : decode cX10_isYear 1 = .ok (.ifCond .lt 14, 3) := by decide +kernel
theorem dX10_isYear_4 : decode cX10_isYear 4 = .ok (.iload_n 0, 1) := by decide +kernel
theorem dX10_isYear_5 : decode cX10_isYear 5 = .ok (.sipush 999, 3) := by decide +kernel
theorem dX10_isYear_8 : decode cX10_isYear 8 = .ok (.if_icmp .gt 7, 3) := by decide +kernel
theorem dX10_isYear_11 : decode cX10_isYear 11 = .ok (.iconst 1, 1) := by decide +kernel
theorem dX10_isYear_12 : decode cX10_isYear 12 = .ok (.goto 4, 3) := by decide +kernel
theorem dX10_isYear_15 : decode cX10_isYear 15 = .ok (.iconst 0, 1) := by decide +kernel
theorem dX10_isYear_16 : decode cX10_isYear 16 = .ok (.ireturn, 1) := by decide +kernel
theorem dX10_isPaper_0 : decode cX10_isPaper 0 = .ok (.iload_n 0, 1) := by decide +kernel
theorem dX10_isPaper_1 : decode cX10_isPaper 1 = .ok (.ifCond .lt 13, 3) := by decide +kernel
theorem dX10_isPaper_4 : decode cX10_isPaper 4 = .ok (.iload_n 0, 1) := by decide +kernel
theorem dX10_isPaper_5 : decode cX10_isPaper 5 = .ok (.bipush 8, 2) := by decide +kernel
theorem dX10_isPaper_7 : decode cX10_isPaper 7 = .ok (.if_icmp .ge 7, 3) := by decide +kernel
theorem dX10_isPaper_10 : decode cX10_isPaper 10 = .ok (.iconst 1, 1) := by decide +kernel
theorem dX10_isPaper_11 : decode cX10_isPaper 11 = .ok (.goto 4, 3) := by decide +kernel
theorem dX10_isPaper_14 : decode cX10_isPaper 14 = .ok (.iconst 0, 1) := by decide +kernel
theorem dX10_isPaper_15 : decode cX10_isPaper 15 = .ok (.ireturn, 1) := by decide +kernel
theorem dX10_isSeal_0 : decode cX10_isSeal 0 = .ok (.iload_n 1, 1) := by decide +kernel
theorem dX10_isSeal_1 : decode cX10_isSeal 1 = .ok (.ifCond .lt 18, 3) := by decide +kernel
theorem dX10_isSeal_4 : decode cX10_isSeal 4 = .ok (.iload_n 1, 1) := by decide +kernel
theorem dX10_isSeal_5 : decode cX10_isSeal 5 = .ok (.aload_n 0, 1) := by decide +kernel
theorem dX10_isSeal_6 : decode cX10_isSeal 6 = .ok (.getfield 42, 3) := by decide +kernel
theorem dX10_isSeal_9 : decode cX10_isSeal 9 = .ok (.getfield 204, 3) := by decide +kernel
theorem dX10_isSeal_12 : decode cX10_isSeal 12 = .ok (.if_icmp .ge 7, 3) := by decide +kernel
theorem dX10_isSeal_15 : decode cX10_isSeal 15 = .ok (.iconst 1, 1) := by decide +kernel
theorem dX10_isSeal_16 : decode cX10_isSeal 16 = .ok (.goto 4, 3) := by decide +kernel
theorem dX10_isSeal_19 : decode cX10_isSeal 19 = .ok (.iconst 0, 1) := by decide +kernel
theorem dX10_isSeal_20 : decode cX10_isSeal 20 = .ok (.ireturn, 1) := by decide +kernel
theorem dX10_sealHas_0 : decode cX10_sealHas 0 = .ok (.aload_n 0, 1) := by decide +kernel
theorem dX10_sealHas_1 : decode cX10_sealHas 1 = .ok (.iload_n 1, 1) := by decide +kernel
theorem dX10_sealHas_2 : decode cX10_sealHas 2 = .ok (.invokevirtual 149, 3) := by decide +kernel
theorem dX10_sealHas_5 : decode cX10_sealHas 5 = .ok (.ifCond .eq 31, 3) := by decide +kernel
theorem dX10_sealHas_8 : decode cX10_sealHas 8 = .ok (.aload_n 0, 1) := by decide +kernel
theorem dX10_sealHas_9 : decode cX10_sealHas 9 = .ok (.iload_n 2, 1) := by decide +kernel
theorem dX10_sealHas_10 : decode cX10_sealHas 10 = .ok (.invokevirtual 286, 3) := by decide +kernel
theorem dX10_sealHas_13 : decode cX10_sealHas 13 = .ok (.ifCond .eq 23, 3) := by decide +kernel
theorem dX10_sealHas_16 : decode cX10_sealHas 16 = .ok (.aload_n 0, 1) := by decide +kernel
theorem dX10_sealHas_17 : decode cX10_sealHas 17 = .ok (.getfield 42, 3) := by decide +kernel
theorem dX10_sealHas_20 : decode cX10_sealHas 20 = .ok (.getfield 153, 3) := by decide +kernel
theorem dX10_sealHas_23 : decode cX10_sealHas 23 = .ok (.iload_n 1, 1) := by decide +kernel
theorem dX10_sealHas_24 : decode cX10_sealHas 24 = .ok (.iaload, 1) := by decide +kernel
theorem dX10_sealHas_25 : decode cX10_sealHas 25 = .ok (.iload_n 2, 1) := by decide +kernel
theorem dX10_sealHas_26 : decode cX10_sealHas 26 = .ok (.ishr, 1) := by decide +kernel
theorem dX10_sealHas_27 : decode cX10_sealHas 27 = .ok (.iconst 1, 1) := by decide +kernel
theorem dX10_sealHas_28 : decode cX10_sealHas 28 = .ok (.iand, 1) := by decide +kernel
theorem dX10_sealHas_29 : decode cX10_sealHas 29 = .ok (.ifCond .eq 7, 3) := by decide +kernel
theorem dX10_sealHas_32 : decode cX10_sealHas 32 = .ok (.iconst 1, 1) := by decide +kernel
theorem dX10_sealHas_33 : decode cX10_sealHas 33 = .ok (.goto 4, 3) := by decide +kernel
theorem dX10_sealHas_36 : decode cX10_sealHas 36 = .ok (.iconst 0, 1) := by decide +kernel
theorem dX10_sealHas_37 : decode cX10_sealHas 37 = .ok (.ireturn, 1) := by decide +kernel
theorem dX10_canCast_0 : decode cX10_canCast 0 = .ok (.aload_n 0, 1) := by decide +kernel
theorem dX10_canCast_1 : decode cX10_canCast 1 = .ok (.iload_n 1, 1) := by decide +kernel
theorem dX10_canCast_2 : decode cX10_canCast 2 = .ok (.invokevirtual 149, 3) := by decide +kernel
theorem dX10_canCast_5 : decode cX10_canCast 5 = .ok (.ifCond .eq 22, 3) := by decide +kernel
theorem dX10_canCast_8 : decode cX10_canCast 8 = .ok (.aload_n 0, 1) := by decide +kernel
theorem dX10_canCast_9 : decode cX10_canCast 9 = .ok (.iload_n 2, 1) := by decide +kernel
theorem dX10_canCast_10 : decode cX10_canCast 10 = .ok (.invokevirtual 190, 3) := by decide +kernel
theorem dX10_canCast_13 : decode cX10_canCast 13 = .ok (.ifCond .eq 14, 3) := by decide +kernel
theorem dX10_canCast_16 : decode cX10_canCast 16 = .ok (.iload_n 3, 1) := by decide +kernel
theorem dX10_canCast_17 : decode cX10_canCast 17 = .ok (.invokestatic 193, 3) := by decide +kernel
theorem dX10_canCast_20 : decode cX10_canCast 20 = .ok (.ifCond .eq 7, 3) := by decide +kernel
theorem dX10_canCast_23 : decode cX10_canCast 23 = .ok (.iconst 1, 1) := by decide +kernel
theorem dX10_canCast_24 : decode cX10_canCast 24 = .ok (.goto 4, 3) := by decide +kernel
theorem dX10_canCast_27 : decode cX10_canCast 27 = .ok (.iconst 0, 1) := by decide +kernel
theorem dX10_canCast_28 : decode cX10_canCast 28 = .ok (.ireturn, 1) := by decide +kernel
theorem dX10_printOf_0 : decode cX10_printOf 0 = .ok (.aload_n 0, 1) := by decide +kernel
theorem dX10_printOf_1 : decode cX10_printOf 1 = .ok (.iload_n 1, 1) := by decide +kernel
theorem dX10_printOf_2 : decode cX10_printOf 2 = .ok (.invokevirtual 149, 3) := by decide +kernel
theorem dX10_printOf_5 : decode cX10_printOf 5 = .ok (.ifCond .eq 25, 3) := by decide +kernel
theorem dX10_printOf_8 : decode cX10_printOf 8 = .ok (.aload_n 0, 1) := by decide +kernel
theorem dX10_printOf_9 : decode cX10_printOf 9 = .ok (.getfield 42, 3) := by decide +kernel
theorem dX10_printOf_12 : decode cX10_printOf 12 = .ok (.getfield 153, 3) := by decide +kernel
theorem dX10_printOf_15 : decode cX10_printOf 15 = .ok (.iload_n 1, 1) := by decide +kernel
theorem dX10_printOf_16 : decode cX10_printOf 16 = .ok (.iaload, 1) := by decide +kernel
theorem dX10_printOf_17 : decode cX10_printOf 17 = .ok (.aload_n 0, 1) := by decide +kernel
theorem dX10_printOf_18 : decode cX10_printOf 18 = .ok (.getfield 23, 3) := by decide +kernel
theorem dX10_printOf_21 : decode cX10_printOf 21 = .ok (.getfield 183, 3) := by decide +kernel
theorem dX10_printOf_24 : decode cX10_printOf 24 = .ok (.invokestatic 186, 3) := by decide +kernel
theorem dX10_printOf_27 : decode cX10_printOf 27 = .ok (.goto 4, 3) := by decide +kernel
theorem dX10_printOf_30 : decode cX10_printOf 30 = .ok (.iconst 0, 1) := by decide +kernel
theorem dX10_printOf_31 : decode cX10_printOf 31 = .ok (.ireturn, 1) := by decide +kernel
theorem dX10_turn_0 : decode cX10_turn 0 = .ok (.iload_n 0, 1) := by decide +kernel
theorem dX10_turn_1 : decode cX10_turn 1 = .ok (.sipush 21845, 3) := by decide +kernel
theorem dX10_turn_4 : decode cX10_turn 4 = .ok (.iand, 1) := by decide +kernel
theorem dX10_turn_5 : decode cX10_turn 5 = .ok (.iconst 1, 1) := by decide +kernel
theorem dX10_turn_6 : decode cX10_turn 6 = .ok (.ishl, 1) := by decide +kernel
theorem dX10_turn_7 : decode cX10_turn 7 = .ok (.iload_n 0, 1) := by decide +kernel
theorem dX10_turn_8 : decode cX10_turn 8 = .ok (.iconst 1, 1) := by decide +kernel
theorem dX10_turn_9 : decode cX10_turn 9 = .ok (.iushr, 1) := by decide +kernel
theorem dX10_turn_10 : decode cX10_turn 10 = .ok (.sipush 21845, 3) := by decide +kernel
theorem dX10_turn_13 : decode cX10_turn 13 = .ok (.iand, 1) := by decide +kernel
theorem dX10_turn_14 : decode cX10_turn 14 = .ok (.ior, 1) := by decide +kernel
theorem dX10_turn_15 : decode cX10_turn 15 = .ok (.istore_n 2, 1) := by decide +kernel
theorem dX10_turn_16 : decode cX10_turn 16 = .ok (.iload_n 2, 1) := by decide +kernel
theorem dX10_turn_17 : decode cX10_turn 17 = .ok (.sipush 13107, 3) := by decide +kernel
theorem dX10_turn_20 : decode cX10_turn 20 = .ok (.iand, 1) := by decide +kernel
theorem dX10_turn_21 : decode cX10_turn 21 = .ok (.iconst 2, 1) := by decide +kernel
theorem dX10_turn_22 : decode cX10_turn 22 = .ok (.ishl, 1) := by decide +kernel
theorem dX10_turn_23 : decode cX10_turn 23 = .ok (.iload_n 2, 1) := by decide +kernel
theorem dX10_turn_24 : decode cX10_turn 24 = .ok (.iconst 2, 1) := by decide +kernel
theorem dX10_turn_25 : decode cX10_turn 25 = .ok (.iushr, 1) := by decide +kernel
theorem dX10_turn_26 : decode cX10_turn 26 = .ok (.sipush 13107, 3) := by decide +kernel
theorem dX10_turn_29 : decode cX10_turn 29 = .ok (.iand, 1) := by decide +kernel
theorem dX10_turn_30 : decode cX10_turn 30 = .ok (.ior, 1) := by decide +kernel
theorem dX10_turn_31 : decode cX10_turn 31 = .ok (.istore_n 2, 1) := by decide +kernel
theorem dX10_turn_32 : decode cX10_turn 32 = .ok (.iload_n 2, 1) := by decide +kernel
theorem dX10_turn_33 : decode cX10_turn 33 = .ok (.sipush 3855, 3) := by decide +kernel
theorem dX10_turn_36 : decode cX10_turn 36 = .ok (.iand, 1) := by decide +kernel
theorem dX10_turn_37 : decode cX10_turn 37 = .ok (.iconst 4, 1) := by decide +kernel
theorem dX10_turn_38 : decode cX10_turn 38 = .ok (.ishl, 1) := by decide +kernel
theorem dX10_turn_39 : decode cX10_turn 39 = .ok (.iload_n 2, 1) := by decide +kernel
theorem dX10_turn_40 : decode cX10_turn 40 = .ok (.iconst 4, 1) := by decide +kernel
theorem dX10_turn_41 : decode cX10_turn 41 = .ok (.iushr, 1) := by decide +kernel
theorem dX10_turn_42 : decode cX10_turn 42 = .ok (.sipush 3855, 3) := by decide +kernel
theorem dX10_turn_45 : decode cX10_turn 45 = .ok (.iand, 1) := by decide +kernel
theorem dX10_turn_46 : decode cX10_turn 46 = .ok (.ior, 1) := by decide +kernel
theorem dX10_turn_47 : decode cX10_turn 47 = .ok (.istore_n 2, 1) := by decide +kernel
theorem dX10_turn_48 : decode cX10_turn 48 = .ok (.iload_n 2, 1) := by decide +kernel
theorem dX10_turn_49 : decode cX10_turn 49 = .ok (.sipush 255, 3) := by decide +kernel
theorem dX10_turn_52 : decode cX10_turn 52 = .ok (.iand, 1) := by decide +kernel
theorem dX10_turn_53 : decode cX10_turn 53 = .ok (.bipush 8, 2) := by decide +kernel
theorem dX10_turn_55 : decode cX10_turn 55 = .ok (.ishl, 1) := by decide +kernel
theorem dX10_turn_56 : decode cX10_turn 56 = .ok (.iload_n 2, 1) := by decide +kernel
theorem dX10_turn_57 : decode cX10_turn 57 = .ok (.bipush 8, 2) := by decide +kernel
theorem dX10_turn_59 : decode cX10_turn 59 = .ok (.iushr, 1) := by decide +kernel
theorem dX10_turn_60 : decode cX10_turn 60 = .ok (.sipush 255, 3) := by decide +kernel
theorem dX10_turn_63 : decode cX10_turn 63 = .ok (.iand, 1) := by decide +kernel
theorem dX10_turn_64 : decode cX10_turn 64 = .ok (.ior, 1) := by decide +kernel
theorem dX10_turn_65 : decode cX10_turn 65 = .ok (.istore_n 2, 1) := by decide +kernel
theorem dX10_turn_66 : decode cX10_turn 66 = .ok (.iload_n 2, 1) := by decide +kernel
theorem dX10_turn_67 : decode cX10_turn 67 = .ok (.bipush 16, 2) := by decide +kernel
theorem dX10_turn_69 : decode cX10_turn 69 = .ok (.iload_n 1, 1) := by decide +kernel
theorem dX10_turn_70 : decode cX10_turn 70 = .ok (.isub, 1) := by decide +kernel
theorem dX10_turn_71 : decode cX10_turn 71 = .ok (.iushr, 1) := by decide +kernel
theorem dX10_turn_72 : decode cX10_turn 72 = .ok (.ireturn, 1) := by decide +kernel
theorem dX10_changes_0 : decode cX10_changes 0 = .ok (.iload_n 0, 1) := by decide +kernel
theorem dX10_changes_1 : decode cX10_changes 1 = .ok (.iload_n 2, 1) := by decide +kernel
theorem dX10_changes_2 : decode cX10_changes 2 = .ok (.invokestatic 186, 3) := by decide +kernel
theorem dX10_changes_5 : decode cX10_changes 5 = .ok (.istore_n 3, 1) := by decide +kernel
theorem dX10_changes_6 : decode cX10_changes 6 = .ok (.iload_n 3, 1) := by decide +kernel
theorem dX10_changes_7 : decode cX10_changes 7 = .ok (.iload_n 1, 1) := by decide +kernel
theorem dX10_changes_8 : decode cX10_changes 8 = .ok (.iconst (-1), 1) := by decide +kernel
theorem dX10_changes_9 : decode cX10_changes 9 = .ok (.ixor, 1) := by decide +kernel
theorem dX10_changes_10 : decode cX10_changes 10 = .ok (.iand, 1) := by decide +kernel
theorem dX10_changes_11 : decode cX10_changes 11 = .ok (.invokestatic 232, 3) := by decide +kernel
theorem dX10_changes_14 : decode cX10_changes 14 = .ok (.iconst 2, 1) := by decide +kernel
theorem dX10_changes_15 : decode cX10_changes 15 = .ok (.iload_n 1, 1) := by decide +kernel
theorem dX10_changes_16 : decode cX10_changes 16 = .ok (.iload_n 3, 1) := by decide +kernel
theorem dX10_changes_17 : decode cX10_changes 17 = .ok (.iconst (-1), 1) := by decide +kernel
theorem dX10_changes_18 : decode cX10_changes 18 = .ok (.ixor, 1) := by decide +kernel
theorem dX10_changes_19 : decode cX10_changes 19 = .ok (.iand, 1) := by decide +kernel
theorem dX10_changes_20 : decode cX10_changes 20 = .ok (.invokestatic 232, 3) := by decide +kernel
theorem dX10_changes_23 : decode cX10_changes 23 = .ok (.imul, 1) := by decide +kernel
theorem dX10_changes_24 : decode cX10_changes 24 = .ok (.iadd, 1) := by decide +kernel
theorem dX10_changes_25 : decode cX10_changes 25 = .ok (.ireturn, 1) := by decide +kernel
