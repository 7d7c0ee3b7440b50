/-! ===== the world: a fixed set of cells, numbered by ids; w says what they hold ===== -/
/-- ints of objects, ints of arrays, longs of objects, longs of arrays, which Rules a field names -/
abbrev Wd : Type := (Nat → Nat → Int32) × (Nat → Nat → Int32) × (Nat → Nat → Int64) × (Nat → Nat → Int64) × (Nat → Bool)
/-- class numbers, array classes by kind, addresses by id -/
abbrev Gw : Type := va_G × (Nat → ClassId) × (Nat → Nat)
abbrev Ds : Type := (Nat × List (Nat × Nat)) ⊕ (Nat × Nat)
def rl (b : Bool) : Nat := bif b then 140 else 120
def wf (g : Gw) (w : Wd) (o f : Nat) (q : Nat × Nat) : Value := match q.1 with
  | 0 => .ref (g.2.2 q.2)
  | 1 => .int (w.1 o f)
  | 2 => .long (w.2.2.1 o f)
  | _ => .ref (g.2.2 (rl (w.2.2.2.2 q.2)))
def wA (g : Gw) (w : Wd) (id k n : Nat) : vp_A := (n, match k with
  | 3 => .inr (.inl (w.2.2.2.1 id))
  | 4 => .inr (.inr (.inr (.inr (fun i => some (g.2.2 (180 + 20 * i))))))
  | _ => .inl (w.2.1 id))
def wE (g : Gw) (w : Wd) (q : Nat × Ds) : va_E := match q.2 with
  | .inl d => .inr (d.1, d.2.mapIdx (fun f k => wf g w q.1 f k))
  | .inr d => .inl (g.2.1 d.1, wA g w q.1 d.1 d.2)
def tabX : List (Nat × Ds) := [(0, .inl (10, [(0, 1), (0, 20), (0, 30), (0, 160), (0, 40), (0, 50), (0, 60), (0, 70), (0, 90), (0, 110), (0, 11), (0, 12), (0, 13), (1, 0), (1, 0), (1, 0), (3, 0), (3, 1)])),
  (1, .inr (1, 1600)),
  (20, .inl (8, [(0, 21), (0, 22), (0, 23), (1, 0), (0, 25)])),
  (21, .inr (0, 1602)),
  (22, .inr (0, 1602)),
  (23, .inr (3, 1602)),
  (25, .inr (3, 17)),
  (120, .inl (7, [(1, 0), (1, 0), (1, 0), (1, 0), (1, 0), (1, 0), (0, 127), (0, 128), (0, 129), (1, 0), (0, 131), (1, 0), (0, 133)])),
  (127, .inr (3, 4)),
  (128, .inr (0, 4)),
  (129, .inr (0, 1600)),
  (131, .inr (0, 9)),
  (133, .inr (0, 32)),
  (140, .inl (7, [(1, 0), (1, 0), (1, 0), (1, 0), (1, 0), (1, 0), (0, 147), (0, 148), (0, 149), (1, 0), (0, 151), (1, 0), (0, 153)])),
  (147, .inr (3, 4)),
  (148, .inr (0, 4)),
  (149, .inr (0, 1600)),
  (151, .inr (0, 9)),
  (153, .inr (0, 32)),
  (30, .inl (6, [(0, 20), (3, 2), (1, 0), (1, 0), (1, 0), (1, 0), (2, 0), (1, 0), (1, 0)])),
  (160, .inl (2, [(1, 0), (0, 162), (0, 163), (0, 164), (0, 165), (0, 166), (1, 0), (0, 168), (0, 169), (0, 170), (1, 0), (1, 0), (1, 0), (1, 0)])),
  (162, .inr (0, 24)),
  (163, .inr (0, 24)),
  (164, .inr (0, 24)),
  (165, .inr (0, 24)),
  (166, .inr (0, 24)),
  (168, .inr (0, 40)),
  (169, .inr (0, 40)),
  (170, .inr (0, 40)),
  (40, .inl (1, [(0, 160), (3, 3), (0, 43), (0, 44), (0, 45), (0, 46)])),
  (43, .inr (0, 4160)),
  (44, .inr (0, 4160)),
  (45, .inr (0, 40)),
  (46, .inr (0, 8)),
  (50, .inl (0, [(0, 160), (0, 40), (0, 53), (0, 54), (0, 55), (0, 56), (0, 57), (1, 0), (1, 0)])),
  (53, .inr (0, 40)),
  (54, .inr (0, 40)),
  (55, .inr (0, 40)),
  (56, .inr (0, 40)),
  (57, .inr (0, 40)),
  (60, .inl (9, [(0, 160), (0, 40), (0, 63), (1, 0), (1, 0), (1, 0)])),
  (63, .inr (0, 12288)),
  (70, .inl (3, [(1, 0), (1, 0), (0, 73), (0, 74), (0, 75), (0, 76), (0, 77), (0, 78), (0, 79), (0, 80)])),
  (73, .inr (0, 40)),
  (74, .inr (0, 40)),
  (75, .inr (0, 40)),
  (76, .inr (0, 40)),
  (77, .inr (0, 40)),
  (78, .inr (0, 40)),
  (79, .inr (0, 8)),
  (80, .inr (0, 8)),
  (90, .inl (5, [(1, 0), (1, 0), (1, 0), (0, 94), (0, 95), (0, 96), (1, 0), (0, 98), (0, 99), (0, 100)])),
  (94, .inr (0, 7)),
  (95, .inr (0, 7)),
  (96, .inr (0, 49)),
  (98, .inr (0, 7)),
  (99, .inr (0, 8)),
  (100, .inr (0, 7)),
  (110, .inl (4, [(0, 111), (1, 0)])),
  (111, .inr (0, 16)),
  (11, .inr (4, 3)),
  (180, .inl (2, [(1, 0), (0, 182), (0, 183), (0, 184), (0, 185), (0, 186), (1, 0), (0, 188), (0, 189), (0, 190), (1, 0), (1, 0), (1, 0), (1, 0)])),
  (182, .inr (0, 24)),
  (183, .inr (0, 24)),
  (184, .inr (0, 24)),
  (185, .inr (0, 24)),
  (186, .inr (0, 24)),
  (188, .inr (0, 40)),
  (189, .inr (0, 40)),
  (190, .inr (0, 40)),
  (200, .inl (2, [(1, 0), (0, 202), (0, 203), (0, 204), (0, 205), (0, 206), (1, 0), (0, 208), (0, 209), (0, 210), (1, 0), (1, 0), (1, 0), (1, 0)])),
  (202, .inr (0, 24)),
  (203, .inr (0, 24)),
  (204, .inr (0, 24)),
  (205, .inr (0, 24)),
  (206, .inr (0, 24)),
  (208, .inr (0, 40)),
  (209, .inr (0, 40)),
  (210, .inr (0, 40)),
  (220, .inl (2, [(1, 0), (0, 222), (0, 223), (0, 224), (0, 225), (0, 226), (1, 0), (0, 228), (0, 229), (0, 230), (1, 0), (1, 0), (1, 0), (1, 0)])),
  (222, .inr (0, 24)),
  (223, .inr (0, 24)),
  (224, .inr (0, 24)),
  (225, .inr (0, 24)),
  (226, .inr (0, 24)),
  (228, .inr (0, 40)),
  (229, .inr (0, 40)),
  (230, .inr (0, 40)),
  (12, .inr (2, 3)),
  (13, .inr (0, 4096))]
def tabM : List (Nat × Ds) := [(300, .inl (11, [(0, 301), (0, 302), (1, 0), (1, 0), (1, 0), (1, 0), (1, 0), (1, 0), (1, 0), (1, 0), (2, 0), (0, 312), (0, 313), (0, 314), (0, 315), (0, 316), (0, 317), (0, 318), (0, 319), (0, 320), (0, 321), (0, 322), (0, 323), (0, 324), (0, 325), (0, 326), (0, 327), (0, 328), (0, 329), (1, 0), (1, 0), (1, 0), (1, 0), (1, 0), (1, 0), (1, 0), (1, 0), (1, 0), (1, 0), (1, 0), (0, 341), (0, 342), (1, 0), (1, 0), (0, 345), (0, 346), (0, 347), (0, 348), (1, 0), (0, 350), (0, 351), (0, 352), (0, 353), (0, 354), (0, 355), (0, 356), (0, 357), (0, 358), (1, 0), (1, 0), (0, 361), (0, 362), (0, 363), (1, 0), (0, 365), (0, 366), (0, 367), (0, 368), (0, 369)])),
  (301, .inr (1, 1620)),
  (302, .inr (1, 1600)),
  (312, .inr (0, 2)),
  (313, .inr (0, 2)),
  (314, .inr (0, 2)),
  (315, .inr (0, 2)),
  (316, .inr (0, 2)),
  (317, .inr (0, 2)),
  (318, .inr (0, 2)),
  (319, .inr (0, 16)),
  (320, .inr (0, 16)),
  (321, .inr (2, 2)),
  (322, .inr (2, 2)),
  (323, .inr (2, 2)),
  (324, .inr (3, 8)),
  (325, .inr (0, 1120)),
  (326, .inr (0, 1120)),
  (327, .inr (0, 90)),
  (328, .inr (0, 90)),
  (329, .inr (0, 60)),
  (341, .inr (0, 221)),
  (342, .inr (0, 9061)),
  (345, .inr (0, 100)),
  (346, .inr (0, 4)),
  (347, .inr (0, 4)),
  (348, .inr (0, 12)),
  (350, .inr (0, 4096)),
  (351, .inr (0, 20480)),
  (352, .inr (0, 65536)),
  (353, .inr (0, 40)),
  (354, .inr (0, 40)),
  (355, .inr (0, 40)),
  (356, .inr (0, 40)),
  (357, .inr (0, 40)),
  (358, .inr (0, 40)),
  (361, .inr (0, 7)),
  (362, .inr (0, 7)),
  (363, .inr (0, 49)),
  (365, .inr (0, 7)),
  (366, .inr (0, 8)),
  (367, .inr (0, 8)),
  (368, .inr (0, 663)),
  (369, .inr (2, 3))]
theorem tb_0 : tabX[0]? = some (0, .inl (10, [(0, 1), (0, 20), (0, 30), (0, 160), (0, 40), (0, 50), (0, 60), (0, 70), (0, 90), (0, 110), (0, 11), (0, 12), (0, 13), (1, 0), (1, 0), (1, 0), (3, 0), (3, 1)])) := by decide +kernel
theorem tb_1 : tabX[1]? = some (1, .inr (1, 1600)) := by decide +kernel
theorem tb_20 : tabX[2]? = some (20, .inl (8, [(0, 21), (0, 22), (0, 23), (1, 0), (0, 25)])) := by decide +kernel
theorem tb_21 : tabX[3]? = some (21, .inr (0, 1602)) := by decide +kernel
theorem tb_22 : tabX[4]? = some (22, .inr (0, 1602)) := by decide +kernel
theorem tb_23 : tabX[5]? = some (23, .inr (3, 1602)) := by decide +kernel
theorem tb_25 : tabX[6]? = some (25, .inr (3, 17)) := by decide +kernel
theorem tb_120 : tabX[7]? = some (120, .inl (7, [(1, 0), (1, 0), (1, 0), (1, 0), (1, 0), (1, 0), (0, 127), (0, 128), (0, 129), (1, 0), (0, 131), (1, 0), (0, 133)])) := by decide +kernel
theorem tb_127 : tabX[8]? = some (127, .inr (3, 4)) := by decide +kernel
theorem tb_128 : tabX[9]? = some (128, .inr (0, 4)) := by decide +kernel
theorem tb_129 : tabX[10]? = some (129, .inr (0, 1600)) := by decide +kernel
theorem tb_131 : tabX[11]? = some (131, .inr (0, 9)) := by decide +kernel
theorem tb_133 : tabX[12]? = some (133, .inr (0, 32)) := by decide +kernel
theorem tb_140 : tabX[13]? = some (140, .inl (7, [(1, 0), (1, 0), (1, 0), (1, 0), (1, 0), (1, 0), (0, 147), (0, 148), (0, 149), (1, 0), (0, 151), (1, 0), (0, 153)])) := by decide +kernel
theorem tb_147 : tabX[14]? = some (147, .inr (3, 4)) := by decide +kernel
theorem tb_148 : tabX[15]? = some (148, .inr (0, 4)) := by decide +kernel
theorem tb_149 : tabX[16]? = some (149, .inr (0, 1600)) := by decide +kernel
theorem tb_151 : tabX[17]? = some (151, .inr (0, 9)) := by decide +kernel
theorem tb_153 : tabX[18]? = some (153, .inr (0, 32)) := by decide +kernel
theorem tb_30 : tabX[19]? = some (30, .inl (6, [(0, 20), (3, 2), (1, 0), (1, 0), (1, 0), (1, 0), (2, 0), (1, 0), (1, 0)])) := by decide +kernel
theorem tb_160 : tabX[20]? = some (160, .inl (2, [(1, 0), (0, 162), (0, 163), (0, 164), (0, 165), (0, 166), (1, 0), (0, 168), (0, 169), (0, 170), (1, 0), (1, 0), (1, 0), (1, 0)])) := by decide +kernel
theorem tb_162 : tabX[21]? = some (162, .inr (0, 24)) := by decide +kernel
theorem tb_163 : tabX[22]? = some (163, .inr (0, 24)) := by decide +kernel
theorem tb_164 : tabX[23]? = some (164, .inr (0, 24)) := by decide +kernel
theorem tb_165 : tabX[24]? = some (165, .inr (0, 24)) := by decide +kernel
theorem tb_166 : tabX[25]? = some (166, .inr (0, 24)) := by decide +kernel
theorem tb_168 : tabX[26]? = some (168, .inr (0, 40)) := by decide +kernel
theorem tb_169 : tabX[27]? = some (169, .inr (0, 40)) := by decide +kernel
theorem tb_170 : tabX[28]? = some (170, .inr (0, 40)) := by decide +kernel
theorem tb_40 : tabX[29]? = some (40, .inl (1, [(0, 160), (3, 3), (0, 43), (0, 44), (0, 45), (0, 46)])) := by decide +kernel
theorem tb_43 : tabX[30]? = some (43, .inr (0, 4160)) := by decide +kernel
theorem tb_44 : tabX[31]? = some (44, .inr (0, 4160)) := by decide +kernel
theorem tb_45 : tabX[32]? = some (45, .inr (0, 40)) := by decide +kernel
theorem tb_46 : tabX[33]? = some (46, .inr (0, 8)) := by decide +kernel
theorem tb_50 : tabX[34]? = some (50, .inl (0, [(0, 160), (0, 40), (0, 53), (0, 54), (0, 55), (0, 56), (0, 57), (1, 0), (1, 0)])) := by decide +kernel
theorem tb_53 : tabX[35]? = some (53, .inr (0, 40)) := by decide +kernel
theorem tb_54 : tabX[36]? = some (54, .inr (0, 40)) := by decide +kernel
theorem tb_55 : tabX[37]? = some (55, .inr (0, 40)) := by decide +kernel
theorem tb_56 : tabX[38]? = some (56, .inr (0, 40)) := by decide +kernel
theorem tb_57 : tabX[39]? = some (57, .inr (0, 40)) := by decide +kernel
theorem tb_60 : tabX[40]? = some (60, .inl (9, [(0, 160), (0, 40), (0, 63), (1, 0), (1, 0), (1, 0)])) := by decide +kernel
theorem tb_63 : tabX[41]? = some (63, .inr (0, 12288)) := by decide +kernel
theorem tb_70 : tabX[42]? = some (70, .inl (3, [(1, 0), (1, 0), (0, 73), (0, 74), (0, 75), (0, 76), (0, 77), (0, 78), (0, 79), (0, 80)])) := by decide +kernel
theorem tb_73 : tabX[43]? = some (73, .inr (0, 40)) := by decide +kernel
theorem tb_74 : tabX[44]? = some (74, .inr (0, 40)) := by decide +kernel
theorem tb_75 : tabX[45]? = some (75, .inr (0, 40)) := by decide +kernel
theorem tb_76 : tabX[46]? = some (76, .inr (0, 40)) := by decide +kernel
theorem tb_77 : tabX[47]? = some (77, .inr (0, 40)) := by decide +kernel
theorem tb_78 : tabX[48]? = some (78, .inr (0, 40)) := by decide +kernel
theorem tb_79 : tabX[49]? = some (79, .inr (0, 8)) := by decide +kernel
theorem tb_80 : tabX[50]? = some (80, .inr (0, 8)) := by decide +kernel
theorem tb_90 : tabX[51]? = some (90, .inl (5, [(1, 0), (1, 0), (1, 0), (0, 94), (0, 95), (0, 96), (1, 0), (0, 98), (0, 99), (0, 100)])) := by decide +kernel
theorem tb_94 : tabX[52]? = some (94, .inr (0, 7)) := by decide +kernel
theorem tb_95 : tabX[53]? = some (95, .inr (0, 7)) := by decide +kernel
theorem tb_96 : tabX[54]? = some (96, .inr (0, 49)) := by decide +kernel
theorem tb_98 : tabX[55]? = some (98, .inr (0, 7)) := by decide +kernel
theorem tb_99 : tabX[56]? = some (99, .inr (0, 8)) := by decide +kernel
theorem tb_100 : tabX[57]? = some (100, .inr (0, 7)) := by decide +kernel
theorem tb_110 : tabX[58]? = some (110, .inl (4, [(0, 111), (1, 0)])) := by decide +kernel
theorem tb_111 : tabX[59]? = some (111, .inr (0, 16)) := by decide +kernel
theorem tb_11 : tabX[60]? = some (11, .inr (4, 3)) := by decide +kernel
theorem tb_180 : tabX[61]? = some (180, .inl (2, [(1, 0), (0, 182), (0, 183), (0, 184), (0, 185), (0, 186), (1, 0), (0, 188), (0, 189), (0, 190), (1, 0), (1, 0), (1, 0), (1, 0)])) := by decide +kernel
theorem tb_182 : tabX[62]? = some (182, .inr (0, 24)) := by decide +kernel
theorem tb_183 : tabX[63]? = some (183, .inr (0, 24)) := by decide +kernel
theorem tb_184 : tabX[64]? = some (184, .inr (0, 24)) := by decide +kernel
theorem tb_185 : tabX[65]? = some (185, .inr (0, 24)) := by decide +kernel
theorem tb_186 : tabX[66]? = some (186, .inr (0, 24)) := by decide +kernel
theorem tb_188 : tabX[67]? = some (188, .inr (0, 40)) := by decide +kernel
theorem tb_189 : tabX[68]? = some (189, .inr (0, 40)) := by decide +kernel
theorem tb_190 : tabX[69]? = some (190, .inr (0, 40)) := by decide +kernel
theorem tb_200 : tabX[70]? = some (200, .inl (2, [(1, 0), (0, 202), (0, 203), (0, 204), (0, 205), (0, 206), (1, 0), (0, 208), (0, 209), (0, 210), (1, 0), (1, 0), (1, 0), (1, 0)])) := by decide +kernel
theorem tb_202 : tabX[71]? = some (202, .inr (0, 24)) := by decide +kernel
theorem tb_203 : tabX[72]? = some (203, .inr (0, 24)) := by decide +kernel
theorem tb_204 : tabX[73]? = some (204, .inr (0, 24)) := by decide +kernel
theorem tb_205 : tabX[74]? = some (205, .inr (0, 24)) := by decide +kernel
theorem tb_206 : tabX[75]? = some (206, .inr (0, 24)) := by decide +kernel
theorem tb_208 : tabX[76]? = some (208, .inr (0, 40)) := by decide +kernel
theorem tb_209 : tabX[77]? = some (209, .inr (0, 40)) := by decide +kernel
theorem tb_210 : tabX[78]? = some (210, .inr (0, 40)) := by decide +kernel
theorem tb_220 : tabX[79]? = some (220, .inl (2, [(1, 0), (0, 222), (0, 223), (0, 224), (0, 225), (0, 226), (1, 0), (0, 228), (0, 229), (0, 230), (1, 0), (1, 0), (1, 0), (1, 0)])) := by decide +kernel
theorem tb_222 : tabX[80]? = some (222, .inr (0, 24)) := by decide +kernel
theorem tb_223 : tabX[81]? = some (223, .inr (0, 24)) := by decide +kernel
theorem tb_224 : tabX[82]? = some (224, .inr (0, 24)) := by decide +kernel
theorem tb_225 : tabX[83]? = some (225, .inr (0, 24)) := by decide +kernel
theorem tb_226 : tabX[84]? = some (226, .inr (0, 24)) := by decide +kernel
theorem tb_228 : tabX[85]? = some (228, .inr (0, 40)) := by decide +kernel
theorem tb_229 : tabX[86]? = some (229, .inr (0, 40)) := by decide +kernel
theorem tb_230 : tabX[87]? = some (230, .inr (0, 40)) := by decide +kernel
theorem tb_12 : tabX[88]? = some (12, .inr (2, 3)) := by decide +kernel
theorem tb_13 : tabX[89]? = some (13, .inr (0, 4096)) := by decide +kernel
theorem tb_300 : tabM[0]? = some (300, .inl (11, [(0, 301), (0, 302), (1, 0), (1, 0), (1, 0), (1, 0), (1, 0), (1, 0), (1, 0), (1, 0), (2, 0), (0, 312), (0, 313), (0, 314), (0, 315), (0, 316), (0, 317), (0, 318), (0, 319), (0, 320), (0, 321), (0, 322), (0, 323), (0, 324), (0, 325), (0, 326), (0, 327), (0, 328), (0, 329), (1, 0), (1, 0), (1, 0), (1, 0), (1, 0), (1, 0), (1, 0), (1, 0), (1, 0), (1, 0), (1, 0), (0, 341), (0, 342), (1, 0), (1, 0), (0, 345), (0, 346), (0, 347), (0, 348), (1, 0), (0, 350), (0, 351), (0, 352), (0, 353), (0, 354), (0, 355), (0, 356), (0, 357), (0, 358), (1, 0), (1, 0), (0, 361), (0, 362), (0, 363), (1, 0), (0, 365), (0, 366), (0, 367), (0, 368), (0, 369)])) := by decide +kernel
theorem tb_301 : tabM[1]? = some (301, .inr (1, 1620)) := by decide +kernel
theorem tb_302 : tabM[2]? = some (302, .inr (1, 1600)) := by decide +kernel
theorem tb_312 : tabM[3]? = some (312, .inr (0, 2)) := by decide +kernel
theorem tb_313 : tabM[4]? = some (313, .inr (0, 2)) := by decide +kernel
theorem tb_314 : tabM[5]? = some (314, .inr (0, 2)) := by decide +kernel
theorem tb_315 : tabM[6]? = some (315, .inr (0, 2)) := by decide +kernel
theorem tb_316 : tabM[7]? = some (316, .inr (0, 2)) := by decide +kernel
theorem tb_317 : tabM[8]? = some (317, .inr (0, 2)) := by decide +kernel
theorem tb_318 : tabM[9]? = some (318, .inr (0, 2)) := by decide +kernel
theorem tb_319 : tabM[10]? = some (319, .inr (0, 16)) := by decide +kernel
theorem tb_320 : tabM[11]? = some (320, .inr (0, 16)) := by decide +kernel
theorem tb_321 : tabM[12]? = some (321, .inr (2, 2)) := by decide +kernel
theorem tb_322 : tabM[13]? = some (322, .inr (2, 2)) := by decide +kernel
theorem tb_323 : tabM[14]? = some (323, .inr (2, 2)) := by decide +kernel
theorem tb_324 : tabM[15]? = some (324, .inr (3, 8)) := by decide +kernel
theorem tb_325 : tabM[16]? = some (325, .inr (0, 1120)) := by decide +kernel
theorem tb_326 : tabM[17]? = some (326, .inr (0, 1120)) := by decide +kernel
theorem tb_327 : tabM[18]? = some (327, .inr (0, 90)) := by decide +kernel
theorem tb_328 : tabM[19]? = some (328, .inr (0, 90)) := by decide +kernel
theorem tb_329 : tabM[20]? = some (329, .inr (0, 60)) := by decide +kernel
theorem tb_341 : tabM[21]? = some (341, .inr (0, 221)) := by decide +kernel
theorem tb_342 : tabM[22]? = some (342, .inr (0, 9061)) := by decide +kernel
theorem tb_345 : tabM[23]? = some (345, .inr (0, 100)) := by decide +kernel
theorem tb_346 : tabM[24]? = some (346, .inr (0, 4)) := by decide +kernel
theorem tb_347 : tabM[25]? = some (347, .inr (0, 4)) := by decide +kernel
theorem tb_348 : tabM[26]? = some (348, .inr (0, 12)) := by decide +kernel
theorem tb_350 : tabM[27]? = some (350, .inr (0, 4096)) := by decide +kernel
theorem tb_351 : tabM[28]? = some (351, .inr (0, 20480)) := by decide +kernel
theorem tb_352 : tabM[29]? = some (352, .inr (0, 65536)) := by decide +kernel
theorem tb_353 : tabM[30]? = some (353, .inr (0, 40)) := by decide +kernel
theorem tb_354 : tabM[31]? = some (354, .inr (0, 40)) := by decide +kernel
theorem tb_355 : tabM[32]? = some (355, .inr (0, 40)) := by decide +kernel
theorem tb_356 : tabM[33]? = some (356, .inr (0, 40)) := by decide +kernel
theorem tb_357 : tabM[34]? = some (357, .inr (0, 40)) := by decide +kernel
theorem tb_358 : tabM[35]? = some (358, .inr (0, 40)) := by decide +kernel
theorem tb_361 : tabM[36]? = some (361, .inr (0, 7)) := by decide +kernel
theorem tb_362 : tabM[37]? = some (362, .inr (0, 7)) := by decide +kernel
theorem tb_363 : tabM[38]? = some (363, .inr (0, 49)) := by decide +kernel
theorem tb_365 : tabM[39]? = some (365, .inr (0, 7)) := by decide +kernel
theorem tb_366 : tabM[40]? = some (366, .inr (0, 8)) := by decide +kernel
theorem tb_367 : tabM[41]? = some (367, .inr (0, 8)) := by decide +kernel
theorem tb_368 : tabM[42]? = some (368, .inr (0, 663)) := by decide +kernel
theorem tb_369 : tabM[43]? = some (369, .inr (2, 3)) := by decide +kernel
def wsW (t : List (Nat × Ds)) (g : Gw) (w : Wd) : va_W := t.map (fun q => (g.2.2 q.1, wE g w q))
def tyl (g : Gw) : List (ClassId × FieldType) := [(g.2.1 0, .int), (g.2.1 1, .byte), (g.2.1 2, .boolean), (g.2.1 3, .long), (g.2.1 4, .object "SealCasts$Court")]
def sI (w : Wd) (o f : Nat) (v : Int32) : Wd := (fun a b => if a = o ∧ b = f then v else w.1 a b, w.2)
def sA (w : Wd) (o i : Nat) (v : Int32) : Wd := (w.1, fun a b => if a = o ∧ b = i then v else w.2.1 a b, w.2.2)
def sJ (w : Wd) (o f : Nat) (v : Int64) : Wd := (w.1, w.2.1, fun a b => if a = o ∧ b = f then v else w.2.2.1 a b, w.2.2.2)
def sB (w : Wd) (o i : Nat) (v : Int64) : Wd := (w.1, w.2.1, w.2.2.1, fun a b => if a = o ∧ b = i then v else w.2.2.2.1 a b, w.2.2.2.2)
def sR (w : Wd) (k : Nat) (v : Bool) : Wd := (w.1, w.2.1, w.2.2.1, w.2.2.2.1, fun a => if a = k then v else w.2.2.2.2 a)
/-- a stretch of an array copied -/
def sC (w : Wd) (o : Nat) (h : Nat → Int32) : Wd := (w.1, fun a b => if a = o then h b else w.2.1 a b, w.2.2)
def Nd (t : List (Nat × Ds)) : Prop := (t.map (fun q => q.1)).Nodup
theorem tabX_nd : Nd tabX := by unfold Nd; decide +kernel
theorem tabM_nd : Nd tabM := by unfold Nd; decide +kernel
theorem tab_inj {t : List (Nat × Ds)} (hnd : Nd t) {i j : Nat} {p q : Nat × Ds} (h1 : t[i]? = some p) (h2 : t[j]? = some q) (h : p.1 = q.1) : i = j := by
  have e1 : (t.map (fun q => q.1))[i]? = some p.1 := by rw [List.getElem?_map, h1]; rfl
  have e2 : (t.map (fun q => q.1))[j]? = some q.1 := by rw [List.getElem?_map, h2]; rfl
  have hi : i < (t.map (fun q => q.1)).length := (List.getElem?_eq_some_iff.mp e1).1
  exact (List.getElem?_inj hi hnd).mp (by rw [e1, e2, h])
theorem wk_at {t : List (Nat × Ds)} {g : Gw} {w : Wd} {q0 : Nat} {q : Nat × Ds} (h : t[q0]? = some q) : (wsW t g w)[q0]? = some (g.2.2 q.1, wE g w q) := by
  unfold wsW
  rw [List.getElem?_map, h]
  rfl
theorem wk_set {t : List (Nat × Ds)} (hnd : Nd t) {g : Gw} {w w' : Wd} {q0 : Nat} {q : Nat × Ds} {e : va_E} (h : t[q0]? = some q) (he : e = wE g w' q) (ho : ∀ r : Nat × Ds, r.1 ≠ q.1 → wE g w' r = wE g w r) : (wsW t g w).set q0 (g.2.2 q.1, e) = wsW t g w' := by
  apply List.ext_getElem?
  intro k
  rw [List.getElem?_set]
  by_cases hk : q0 = k
  · subst hk
    have hl : q0 < (wsW t g w).length := (List.getElem?_eq_some_iff.mp (wk_at (g := g) (w := w) h)).1
    rw [if_pos rfl, if_pos hl, wk_at h, he]
  · rw [if_neg hk]
    unfold wsW
    rw [List.getElem?_map, List.getElem?_map]
    cases hr : t[k]? with
    | none => rfl
    | some r =>
      have hne : r.1 ≠ q.1 := fun z => hk (tab_inj hnd h hr z.symm)
      show some (g.2.2 r.1, wE g w r) = some (g.2.2 r.1, wE g w' r)
      rw [ho r hne]
theorem wk_mapIdx {l : List (Nat × Nat)} {f : Nat} {F G : Nat → Nat × Nat → Value} {v : Value} {k : Nat × Nat} (hk : l[f]? = some k) (hv : G f k = v) (ho : ∀ j q, j ≠ f → l[j]? = some q → G j q = F j q) : (l.mapIdx F).set f v = l.mapIdx G := by
  apply List.ext_getElem?
  intro j
  rw [List.getElem?_set, List.getElem?_mapIdx, List.getElem?_mapIdx]
  by_cases hj : f = j
  · subst hj
    have hl : f < (l.mapIdx F).length := by rw [List.length_mapIdx]; exact (List.getElem?_eq_some_iff.mp hk).1
    rw [if_pos rfl, if_pos hl, hk]
    show some v = some (G f k)
    rw [hv]
  · rw [if_neg hj]
    cases hq : l[j]? with
    | none => rfl
    | some q =>
      show some (F j q) = some (G j q)
      rw [ho j q (fun z => hj z.symm) hq]
theorem wf_sI {g : Gw} {w : Wd} {o f a b : Nat} {v : Int32} {q : Nat × Nat} (h : ¬ (a = o ∧ b = f)) : wf g (sI w o f v) a b q = wf g w a b q := by
  unfold wf sI
  simp only [if_neg h]
theorem wf_sJ {g : Gw} {w : Wd} {o f a b : Nat} {v : Int64} {q : Nat × Nat} (h : ¬ (a = o ∧ b = f)) : wf g (sJ w o f v) a b q = wf g w a b q := by
  unfold wf sJ
  simp only [if_neg h]
theorem wE_sI {g : Gw} {w : Wd} {o f : Nat} {v : Int32} (r : Nat × Ds) (h : r.1 ≠ o) : wE g (sI w o f v) r = wE g w r := by
  obtain ⟨i, d⟩ := r
  cases d with
  | inl d =>
    unfold wE
    simp only [wf_sI (show ¬ (i = o ∧ _ = f) from fun z => h z.1)]
  | inr d => rfl
theorem wE_sJ {g : Gw} {w : Wd} {o f : Nat} {v : Int64} (r : Nat × Ds) (h : r.1 ≠ o) : wE g (sJ w o f v) r = wE g w r := by
  obtain ⟨i, d⟩ := r
  cases d with
  | inl d =>
    unfold wE
    simp only [wf_sJ (show ¬ (i = o ∧ _ = f) from fun z => h z.1)]
  | inr d => rfl
theorem wA_2 {g : Gw} {w w' : Wd} {id k n : Nat} (h1 : w'.2.1 id = w.2.1 id) (h2 : w'.2.2.2.1 id = w.2.2.2.1 id) : wA g w' id k n = wA g w id k n := by
  unfold wA
  rw [h1, h2]
theorem wE_A {g : Gw} {w w' : Wd} (r : Nat × Ds) (h0 : w'.1 = w.1) (h3 : w'.2.2.1 = w.2.2.1) (h4 : w'.2.2.2.2 = w.2.2.2.2) (h1 : w'.2.1 r.1 = w.2.1 r.1) (h2 : w'.2.2.2.1 r.1 = w.2.2.2.1 r.1) : wE g w' r = wE g w r := by
  obtain ⟨i, d⟩ := r
  cases d with
  | inl d =>
    unfold wE wf
    simp only [h0, h3, h4]
  | inr d =>
    unfold wE
    simp only [wA_2 h1 h2]
theorem sA_ne {w : Wd} {o i a : Nat} {v : Int32} (h : a ≠ o) : (sA w o i v).2.1 a = w.2.1 a := by
  funext b
  unfold sA
  simp only [if_neg (show ¬ (a = o ∧ b = i) from fun z => h z.1)]
theorem sA_eq {w : Wd} {o i : Nat} {v : Int32} : (sA w o i v).2.1 o = upd (w.2.1 o) i v := by
  funext b
  unfold sA upd
  simp
theorem sC_ne {w : Wd} {o a : Nat} {h : Nat → Int32} (hn : a ≠ o) : (sC w o h).2.1 a = w.2.1 a := by
  funext b
  unfold sC
  simp only [if_neg hn]
theorem sC_eq {w : Wd} {o : Nat} {h : Nat → Int32} : (sC w o h).2.1 o = h := by
  funext b
  unfold sC
  simp
theorem sB_ne {w : Wd} {o i a : Nat} {v : Int64} (h : a ≠ o) : (sB w o i v).2.2.2.1 a = w.2.2.2.1 a := by
  funext b
  unfold sB
  simp only [if_neg (show ¬ (a = o ∧ b = i) from fun z => h z.1)]
theorem sB_eq {w : Wd} {o i : Nat} {v : Int64} : (sB w o i v).2.2.2.1 o = vp_updL (w.2.2.2.1 o) i v := by
  funext b
  unfold sB vp_updL
  simp
/-- the words of all methods, their membership by places -/
theorem mU {w : Cond} (i : Nat) (h : wsL_law[i]? = some w) : w ∈ wsL_law := List.mem_of_getElem? h
theorem gUm {ws : List Cond} (h : ∀ w ∈ ws, w ∈ wsL_law) : GoodIn wsL_law ws := fun w hw => gU w (h w hw)
theorem gV {own C : String} {idx : Nat} {y : MethodName} {cd : Cond} (h1 : Cond.methodLink own idx y ∈ wsL_law) (h2 : Cond.instanceMethod y ∈ wsL_law) (h3 : Cond.selects C y y ∈ wsL_law) (h4 : Cond.initialized C ∈ wsL_law) (h5 : cd ∈ wsL_law) : GoodIn wsL_law (wsV own idx C y (cd :: wsL_law)) := by
  refine gUm fun w hw => ?_
  unfold wsV at hw
  rcases List.mem_append.mp hw with h | h
  · simp only [List.mem_cons, List.not_mem_nil, or_false] at h
    rcases h with rfl | rfl | rfl | rfl
    · exact h1
    · exact h2
    · exact h3
    · exact h4
  · rcases List.mem_cons.mp h with rfl | h
    · exact h5
    · exact h
theorem gS {own : String} {idx : Nat} {y : MethodName} {cd : Cond} (h1 : Cond.methodLink own idx y ∈ wsL_law) (h2 : Cond.static y ∈ wsL_law) (h4 : Cond.initialized y.cls ∈ wsL_law) (h5 : cd ∈ wsL_law) : GoodIn wsL_law (va_wsS own idx y (cd :: wsL_law)) := by
  refine gUm fun w hw => ?_
  unfold va_wsS at hw
  rcases List.mem_append.mp hw with h | h
  · simp only [List.mem_cons, List.not_mem_nil, or_false] at h
    rcases h with rfl | rfl | rfl
    · exact h1
    · exact h2
    · exact h4
  · rcases List.mem_cons.mp h with rfl | h
    · exact h5
    · exact h
section WR
variable {p : Program} {l : Launch} {e : Env} {R : Room} {s : State} {m : MethodId} {args : Array Value} {below : List Frame} {meth : Method} {c : Code} {H H0 : Heap} {locs : List Loc} {cells slots : Nat} {Q : State → Prop} {cc : ByteArray} {pc : Nat} {ls : Array Slot} {rest : List Value} {A : Nat → Prop} {g : Gw} {w : Wd} {own : String} {nL : Nat} {t : List (Nat × Ds)}
def KW (g : Gw) (U : State) : Prop := va_K g.1 vwCl (tyl g) U ∧ va_Nw (.methodLinkNest RX1 42 yX10_isHeat RX10) U ∧ va_Nw (.methodLinkNest RX1 49 yX10_turn RX10) U ∧ va_Nw (.methodLinkNest RX2 80 yX10_turn RX10) U ∧ va_Nw (.methodLinkNest RX5 44 yX10_changes RX10) U
theorem KW.warm {g : Gw} {s U : State} (hW : s.WarmedH U.vm) (h : KW g s) : KW g U := ⟨va_K.moved hW.alike h.1, va_Nw.warmM hW h.2.1, va_Nw.warmM hW h.2.2.1, va_Nw.warmM hW h.2.2.2.1, va_Nw.warmM hW h.2.2.2.2⟩
theorem KW.same {g : Gw} {s U : State} (hW : s.vm = U.vm) (h : KW g s) : KW g U := ⟨va_K.moved (hW ▸ Vm.Alike.refl s.vm) h.1, va_Nw.same rfl hW h.2.1, va_Nw.same rfl hW h.2.2.1, va_Nw.same rfl hW h.2.2.2.1, va_Nw.same rfl hW h.2.2.2.2⟩
def Cx (p : Program) (s : State) (m : MethodId) (args : Array Value) (c : Code) (cc : ByteArray) (own : String) (nL : Nat) (g : Gw) : Prop :=
  p.tables.exec = Jvm.exec ∧ c.code = cc ∧ c.maxLocals = nL ∧ s.vm.findClass own = some m.cls ∧ (∀ w ∈ wsL_law, w.before args s = true) ∧ KW g s
def St (t : List (Nat × Ds)) (A : Nat → Prop) (H0 : Heap) (g : Gw) (w : Wd) (H : Heap) (locs : List Loc) : Prop := va_P g.1 vwCl (wsW t g w) H ∧ va_D A (wsW t g w) ∧ va_S A H0 H locs ∧ (∀ q, H0.size ≤ q → A q) ∧ Nd t
theorem q_get {o f ci N q0 index : Nat} {C : String} {T : u_T} {fl : List (Nat × Nat)} {k : Nat × Nat} (hC : Cx p s m args c cc own nL g) (hS : St t A H0 g w H locs) (ht : t[q0]? = some (o, .inl (ci, fl))) (hc : vwCl[ci]? = some (C, T, N)) (hin : ∀ w ∈ u_ws C T N, w ∈ wsL_law) (hf : f < N) (hk : fl[f]? = some k) (hl : Cond.fieldLink own index (T f).1 (T f).2.1 (T f).2.2.1 ∈ wsL_law) (hd : decode cc pc = .ok (.getfield index, 3))
    (kk : W p l e R s m args below meth c H locs cells slots Q (F0 m (pc + 3) ls (wf g w o f k :: rest))) : W p l e R s m args below meth c H locs cells slots Q (F0 m pc ls (.ref (g.2.2 o) :: rest)) := by
  obtain ⟨hx, hb, hml, hown, hts, hK, -⟩ := hC
  have he := wk_at (g := g) (w := w) ht
  refine va_get (D := g.1) (ci := ci) (v := wf g w o f k) hx hb hts hin hown hK hS.1 q0 he hc f hf (hts _ hl) (fun _ h9 => h9) ?_ hd kk
  rw [List.getElem?_mapIdx, hk]
  rfl
theorem q_putI {o f ci N q0 index : Nat} {C : String} {T : u_T} {ty0 : Nat → FieldType} {fl : List (Nat × Nat)} {k : Nat} {v : Int32} (hC : Cx p s m args c cc own nL g) (hS : St t A H0 g w H locs) (ht : t[q0]? = some (o, .inl (ci, fl))) (hc : vwCl[ci]? = some (C, T, N)) (hin : ∀ w ∈ u_ws C T N, w ∈ wsL_law) (hty : ∀ k, k < N → parseFieldDescriptor (T k).2.2.1 = some (ty0 k)) (hnm : ∀ a, a < N → ∀ b, b < N → a ≠ b → (T a).2.1 ≠ (T b).2.1) (hf : f < N) (hfin : (T f).2.2.2 = false) (hdesc : parseFieldDescriptor (T f).2.2.1 = some .int) (hk : fl[f]? = some (1, k)) (hl : Cond.fieldLink own index (T f).1 (T f).2.1 (T f).2.2.1 ∈ wsL_law) (hd : decode cc pc = .ok (.putfield index, 3))
    (kk : ∀ (w1 : Wd) (H1 : Heap) (locs1 : List Loc), w1 = sI w o f v → St t A H0 g w1 H1 locs1 → W p l e R s m args below meth c H1 locs1 cells slots Q (F0 m (pc + 3) ls rest)) : W p l e R s m args below meth c H locs cells slots Q (F0 m pc ls (.int v :: .ref (g.2.2 o) :: rest)) := by
  obtain ⟨hx, hb, hml, hown, hts, hK, -⟩ := hC
  have he := wk_at (g := g) (w := w) ht
  have hlt : f < fl.length := (List.getElem?_eq_some_iff.mp hk).1
  refine va_put (D := g.1) (ci := ci) (v := .int v) (ty := .int) hx hb hts hin ty0 hty hnm hown hK hS.1 hS.2.1 hS.2.2.1 q0 he hc f hf (hts _ hl) (fun _ h9 => h9) hfin hdesc rfl rfl (by rw [List.length_mapIdx]; exact hlt) hd (fun H1 locs1 hP hD hS1 => ?_)
  have e1 : (wsW t g w).set q0 (g.2.2 o, .inr (ci, (fl.mapIdx (fun f k => wf g w o f k)).set f (.int v))) = wsW t g (sI w o f v) := by
    refine wk_set hS.2.2.2.2 (q := (o, .inl (ci, fl))) ht ?_ (fun r h => wE_sI r h)
    show Sum.inr _ = Sum.inr _
    congr 2
    refine wk_mapIdx hk ?_ (fun j q hj _ => wf_sI (fun z => hj z.2))
    unfold wf sI
    simp
  have hP : va_P g.1 vwCl ((wsW t g w).set q0 (g.2.2 o, .inr (ci, (fl.mapIdx (fun f k => wf g w o f k)).set f (.int v)))) H1 := hP
  have hD : va_D A ((wsW t g w).set q0 (g.2.2 o, .inr (ci, (fl.mapIdx (fun f k => wf g w o f k)).set f (.int v)))) := hD
  rw [e1] at hP hD
  exact kk _ H1 locs1 rfl ⟨hP, hD, hS1, hS.2.2.2⟩
theorem q_putJ {o f ci N q0 index : Nat} {C : String} {T : u_T} {ty0 : Nat → FieldType} {fl : List (Nat × Nat)} {k : Nat} {v : Int64} (hC : Cx p s m args c cc own nL g) (hS : St t A H0 g w H locs) (ht : t[q0]? = some (o, .inl (ci, fl))) (hc : vwCl[ci]? = some (C, T, N)) (hin : ∀ w ∈ u_ws C T N, w ∈ wsL_law) (hty : ∀ k, k < N → parseFieldDescriptor (T k).2.2.1 = some (ty0 k)) (hnm : ∀ a, a < N → ∀ b, b < N → a ≠ b → (T a).2.1 ≠ (T b).2.1) (hf : f < N) (hfin : (T f).2.2.2 = false) (hdesc : parseFieldDescriptor (T f).2.2.1 = some .long) (hk : fl[f]? = some (2, k)) (hl : Cond.fieldLink own index (T f).1 (T f).2.1 (T f).2.2.1 ∈ wsL_law) (hd : decode cc pc = .ok (.putfield index, 3))
    (kk : ∀ (w1 : Wd) (H1 : Heap) (locs1 : List Loc), w1 = sJ w o f v → St t A H0 g w1 H1 locs1 → W p l e R s m args below meth c H1 locs1 cells slots Q (F0 m (pc + 3) ls rest)) : W p l e R s m args below meth c H locs cells slots Q (F0 m pc ls (.long v :: .ref (g.2.2 o) :: rest)) := by
  obtain ⟨hx, hb, hml, hown, hts, hK, -⟩ := hC
  have he := wk_at (g := g) (w := w) ht
  have hlt : f < fl.length := (List.getElem?_eq_some_iff.mp hk).1
  refine va_put (D := g.1) (ci := ci) (v := .long v) (ty := .long) hx hb hts hin ty0 hty hnm hown hK hS.1 hS.2.1 hS.2.2.1 q0 he hc f hf (hts _ hl) (fun _ h9 => h9) hfin hdesc rfl rfl (by rw [List.length_mapIdx]; exact hlt) hd (fun H1 locs1 hP hD hS1 => ?_)
  have e1 : (wsW t g w).set q0 (g.2.2 o, .inr (ci, (fl.mapIdx (fun f k => wf g w o f k)).set f (.long v))) = wsW t g (sJ w o f v) := by
    refine wk_set hS.2.2.2.2 (q := (o, .inl (ci, fl))) ht ?_ (fun r h => wE_sJ r h)
    show Sum.inr _ = Sum.inr _
    congr 2
    refine wk_mapIdx hk ?_ (fun j q hj _ => wf_sJ (fun z => hj z.2))
    unfold wf sJ
    simp
  have hP : va_P g.1 vwCl ((wsW t g w).set q0 (g.2.2 o, .inr (ci, (fl.mapIdx (fun f k => wf g w o f k)).set f (.long v)))) H1 := hP
  have hD : va_D A ((wsW t g w).set q0 (g.2.2 o, .inr (ci, (fl.mapIdx (fun f k => wf g w o f k)).set f (.long v)))) := hD
  rw [e1] at hP hD
  exact kk _ H1 locs1 rfl ⟨hP, hD, hS1, hS.2.2.2⟩
/-- an array's cell -/
theorem q_ar {o k n q0 : Nat} {f : Nat → Int32} (hS : St t A H0 g w H locs) (ht : t[q0]? = some (o, .inr (k, n))) (hk : wA g w o k n = (n, .inl f)) : (wsW t g w)[q0]? = some (g.2.2 o, .inl (g.2.1 k, n, .inl f)) := by
  rw [wk_at ht]
  show some (g.2.2 o, Sum.inl (g.2.1 k, wA g w o k n)) = _
  rw [hk]
theorem q_iald {o n q0 : Nat} {i : Int32} (hC : Cx p s m args c cc own nL g) (hS : St t A H0 g w H locs) (ht : t[q0]? = some (o, .inr (0, n))) (hin : vp_in i n) (hd : decode cc pc = .ok (.iaload, 1))
    (kk : W p l e R s m args below meth c H locs cells slots Q (F0 m (pc + 1) ls (.int (w.2.1 o i.toNatClampNeg) :: rest))) : W p l e R s m args below meth c H locs cells slots Q (F0 m pc ls (.int i :: .ref (g.2.2 o) :: rest)) := by
  obtain ⟨hx, hb, hml, hown, hts, hK, -⟩ := hC
  exact va_iald hx hb hK hS.1 q0 0 (q_ar hS ht rfl) rfl hin hd kk
theorem q_bald {o n q0 : Nat} {i : Int32} (hC : Cx p s m args c cc own nL g) (hS : St t A H0 g w H locs) (ht : t[q0]? = some (o, .inr (1, n))) (hin : vp_in i n) (hd : decode cc pc = .ok (.baload, 1))
    (kk : W p l e R s m args below meth c H locs cells slots Q (F0 m (pc + 1) ls (.int (w.2.1 o i.toNatClampNeg) :: rest))) : W p l e R s m args below meth c H locs cells slots Q (F0 m pc ls (.int i :: .ref (g.2.2 o) :: rest)) := by
  obtain ⟨hx, hb, hml, hown, hts, hK, -⟩ := hC
  exact va_bald hx hb hK hS.1 q0 1 (q_ar hS ht rfl) rfl hin hd kk
theorem q_zald {o n q0 : Nat} {i : Int32} (hC : Cx p s m args c cc own nL g) (hS : St t A H0 g w H locs) (ht : t[q0]? = some (o, .inr (2, n))) (hin : vp_in i n) (hd : decode cc pc = .ok (.baload, 1))
    (kk : W p l e R s m args below meth c H locs cells slots Q (F0 m (pc + 1) ls (.int (w.2.1 o i.toNatClampNeg) :: rest))) : W p l e R s m args below meth c H locs cells slots Q (F0 m pc ls (.int i :: .ref (g.2.2 o) :: rest)) := by
  obtain ⟨hx, hb, hml, hown, hts, hK, -⟩ := hC
  exact va_zald hx hb hK hS.1 q0 2 (q_ar hS ht rfl) rfl hin hd kk
theorem q_lald {o n q0 : Nat} {i : Int32} (hC : Cx p s m args c cc own nL g) (hS : St t A H0 g w H locs) (ht : t[q0]? = some (o, .inr (3, n))) (hin : vp_in i n) (hd : decode cc pc = .ok (.laload, 1))
    (kk : W p l e R s m args below meth c H locs cells slots Q (F0 m (pc + 1) ls (.long (w.2.2.2.1 o i.toNatClampNeg) :: rest))) : W p l e R s m args below meth c H locs cells slots Q (F0 m pc ls (.int i :: .ref (g.2.2 o) :: rest)) := by
  obtain ⟨hx, hb, hml, hown, hts, hK, -⟩ := hC
  exact va_lald hx hb hK hS.1 q0 3 (wk_at ht) rfl hin hd kk
theorem q_aald {o n q0 : Nat} {i : Int32} (hC : Cx p s m args c cc own nL g) (hS : St t A H0 g w H locs) (ht : t[q0]? = some (o, .inr (4, n))) (hin : vp_in i n) (hd : decode cc pc = .ok (.aaload, 1))
    (kk : W p l e R s m args below meth c H locs cells slots Q (F0 m (pc + 1) ls (.ref (g.2.2 (180 + 20 * i.toNatClampNeg)) :: rest))) : W p l e R s m args below meth c H locs cells slots Q (F0 m pc ls (.int i :: .ref (g.2.2 o) :: rest)) := by
  obtain ⟨hx, hb, hml, hown, hts, hK, -⟩ := hC
  exact va_aldq hx hb hK hS.1 q0 4 (wk_at ht) rfl hin hd kk
theorem q_alen {o k n q0 : Nat} {v : Int32} (hC : Cx p s m args c cc own nL g) (hS : St t A H0 g w H locs) (ht : t[q0]? = some (o, .inr (k, n))) (hk : k < 5) (hv : Int32.ofNat n = v) (hd : decode cc pc = .ok (.arraylength, 1))
    (kk : W p l e R s m args below meth c H locs cells slots Q (F0 m (pc + 1) ls (.int v :: rest))) : W p l e R s m args below meth c H locs cells slots Q (F0 m pc ls (.ref (g.2.2 o) :: rest)) := by
  obtain ⟨hx, hb, hml, hown, hts, hK, -⟩ := hC
  have hty : ∃ ty, (tyl g)[k]? = some (g.2.1 k, ty) := by
    rcases (show k = 0 ∨ k = 1 ∨ k = 2 ∨ k = 3 ∨ k = 4 by omega) with rfl | rfl | rfl | rfl | rfl <;> exact ⟨_, rfl⟩
  obtain ⟨ty, hty⟩ := hty
  exact va_alen hx hb hK hS.1 q0 k (wk_at ht) hty hv hd kk
theorem q_arS (hnd : Nd t) {o k n q0 : Nat} {w1 : Wd} {f : Nat → Int32} (ht : t[q0]? = some (o, .inr (k, n))) (hk : wA g w1 o k n = (n, .inl f)) (ho : ∀ r : Nat × Ds, r.1 ≠ o → wE g w1 r = wE g w r) : (wsW t g w).set q0 (g.2.2 o, .inl (g.2.1 k, n, .inl f)) = wsW t g w1 := by
  refine wk_set hnd (q := (o, .inr (k, n))) ht ?_ ho
  show Sum.inl _ = Sum.inl (g.2.1 k, wA g w1 o k n)
  rw [hk]
theorem q_iast {o n q0 : Nat} {i x : Int32} (hC : Cx p s m args c cc own nL g) (hS : St t A H0 g w H locs) (ht : t[q0]? = some (o, .inr (0, n))) (hin : vp_in i n) (hd : decode cc pc = .ok (.iastore, 1))
    (kk : ∀ (w1 : Wd) (H1 : Heap) (locs1 : List Loc), w1 = sA w o i.toNatClampNeg x → St t A H0 g w1 H1 locs1 → W p l e R s m args below meth c H1 locs1 cells slots Q (F0 m (pc + 1) ls rest)) : W p l e R s m args below meth c H locs cells slots Q (F0 m pc ls (.int x :: .int i :: .ref (g.2.2 o) :: rest)) := by
  obtain ⟨hx, hb, hml, hown, hts, hK, -⟩ := hC
  refine va_iast hx hb hK hS.1 hS.2.1 hS.2.2.1 q0 0 (q_ar hS ht rfl) rfl hin hd (fun H1 locs1 hP hD hS1 => ?_)
  rw [q_arS hS.2.2.2.2 (g := g) (w := w) (k := 0) (f := upd (w.2.1 o) i.toNatClampNeg x) (w1 := sA w o i.toNatClampNeg x) ht (by unfold wA; rw [sA_eq]; rfl) (fun r h => wE_A r rfl rfl rfl (sA_ne h) rfl)] at hP hD
  exact kk _ H1 locs1 rfl ⟨hP, hD, hS1, hS.2.2.2⟩
theorem q_bast {o n q0 : Nat} {i x : Int32} (hC : Cx p s m args c cc own nL g) (hS : St t A H0 g w H locs) (ht : t[q0]? = some (o, .inr (1, n))) (hin : vp_in i n) (hd : decode cc pc = .ok (.bastore, 1))
    (kk : ∀ (w1 : Wd) (H1 : Heap) (locs1 : List Loc), w1 = sA w o i.toNatClampNeg (vp_nar .byte x) → St t A H0 g w1 H1 locs1 → W p l e R s m args below meth c H1 locs1 cells slots Q (F0 m (pc + 1) ls rest)) : W p l e R s m args below meth c H locs cells slots Q (F0 m pc ls (.int x :: .int i :: .ref (g.2.2 o) :: rest)) := by
  obtain ⟨hx, hb, hml, hown, hts, hK, -⟩ := hC
  refine va_bast hx hb hK hS.1 hS.2.1 hS.2.2.1 q0 1 (q_ar hS ht rfl) rfl hin hd (fun H1 locs1 hP hD hS1 => ?_)
  rw [q_arS hS.2.2.2.2 (g := g) (w := w) (k := 1) (f := upd (w.2.1 o) i.toNatClampNeg (vp_nar .byte x)) (w1 := sA w o i.toNatClampNeg (vp_nar .byte x)) ht (by unfold wA; rw [sA_eq]; rfl) (fun r h => wE_A r rfl rfl rfl (sA_ne h) rfl)] at hP hD
  exact kk _ H1 locs1 rfl ⟨hP, hD, hS1, hS.2.2.2⟩
theorem q_zast {o n q0 : Nat} {i x : Int32} (hC : Cx p s m args c cc own nL g) (hS : St t A H0 g w H locs) (ht : t[q0]? = some (o, .inr (2, n))) (hin : vp_in i n) (hd : decode cc pc = .ok (.bastore, 1))
    (kk : ∀ (w1 : Wd) (H1 : Heap) (locs1 : List Loc), w1 = sA w o i.toNatClampNeg (vp_nar .boolean x) → St t A H0 g w1 H1 locs1 → W p l e R s m args below meth c H1 locs1 cells slots Q (F0 m (pc + 1) ls rest)) : W p l e R s m args below meth c H locs cells slots Q (F0 m pc ls (.int x :: .int i :: .ref (g.2.2 o) :: rest)) := by
  obtain ⟨hx, hb, hml, hown, hts, hK, -⟩ := hC
  refine va_zast hx hb hK hS.1 hS.2.1 hS.2.2.1 q0 2 (q_ar hS ht rfl) rfl hin hd (fun H1 locs1 hP hD hS1 => ?_)
  rw [q_arS hS.2.2.2.2 (g := g) (w := w) (k := 2) (f := upd (w.2.1 o) i.toNatClampNeg (vp_nar .boolean x)) (w1 := sA w o i.toNatClampNeg (vp_nar .boolean x)) ht (by unfold wA; rw [sA_eq]; rfl) (fun r h => wE_A r rfl rfl rfl (sA_ne h) rfl)] at hP hD
  exact kk _ H1 locs1 rfl ⟨hP, hD, hS1, hS.2.2.2⟩
theorem q_last {o n q0 : Nat} {i : Int32} {x : Int64} (hC : Cx p s m args c cc own nL g) (hS : St t A H0 g w H locs) (ht : t[q0]? = some (o, .inr (3, n))) (hin : vp_in i n) (hd : decode cc pc = .ok (.lastore, 1))
    (kk : ∀ (w1 : Wd) (H1 : Heap) (locs1 : List Loc), w1 = sB w o i.toNatClampNeg x → St t A H0 g w1 H1 locs1 → W p l e R s m args below meth c H1 locs1 cells slots Q (F0 m (pc + 1) ls rest)) : W p l e R s m args below meth c H locs cells slots Q (F0 m pc ls (.long x :: .int i :: .ref (g.2.2 o) :: rest)) := by
  obtain ⟨hx, hb, hml, hown, hts, hK, -⟩ := hC
  refine va_last (f := w.2.2.2.1 o) hx hb hK hS.1 hS.2.1 hS.2.2.1 q0 3 (wk_at ht) rfl hin hd (fun H1 locs1 hP hD hS1 => ?_)
  have e1 : (wsW t g w).set q0 (g.2.2 o, .inl (g.2.1 3, n, .inr (.inl (vp_updL (w.2.2.2.1 o) i.toNatClampNeg x)))) = wsW t g (sB w o i.toNatClampNeg x) := by
    refine wk_set hS.2.2.2.2 (q := (o, .inr (3, n))) ht ?_ (fun r h => wE_A r rfl rfl rfl rfl (sB_ne h))
    show Sum.inl _ = Sum.inl (g.2.1 3, n, Sum.inr (Sum.inl ((sB w o i.toNatClampNeg x).2.2.2.1 o)))
    rw [sB_eq]
  have hP : va_P g.1 vwCl ((wsW t g w).set q0 (g.2.2 o, .inl (g.2.1 3, n, .inr (.inl (vp_updL (w.2.2.2.1 o) i.toNatClampNeg x))))) H1 := hP
  have hD : va_D A ((wsW t g w).set q0 (g.2.2 o, .inl (g.2.1 3, n, .inr (.inl (vp_updL (w.2.2.2.1 o) i.toNatClampNeg x))))) := hD
  rw [e1] at hP hD
  exact kk _ H1 locs1 rfl ⟨hP, hD, hS1, hS.2.2.2⟩
theorem wf_sR {g : Gw} {w : Wd} {r a b : Nat} {v : Bool} {q : Nat × Nat} (h : q ≠ (3, r)) (hq : q.1 ≤ 3) : wf g (sR w r v) a b q = wf g w a b q := by
  obtain ⟨k, j⟩ := q
  rcases (show k = 0 ∨ k = 1 ∨ k = 2 ∨ k = 3 by simp at hq; omega) with rfl | rfl | rfl | rfl
  · rfl
  · rfl
  · rfl
  · have hj : ¬ j = r := fun z => h (by rw [z])
    show Value.ref (g.2.2 (rl ((sR w r v).2.2.2.2 j))) = Value.ref (g.2.2 (rl (w.2.2.2.2 j)))
    unfold sR
    simp only [if_neg hj]
/-- which row of the table holds the Rules that a field names: one row for each number -/
def okR (q : Nat × Ds) : Bool := match q.2 with
  | .inl d => d.2.all (fun k => decide (k.1 ≤ 3))
  | .inr _ => true
theorem tab_okR : tabX.all okR = true := by decide +kernel
theorem q_putR {o f r ci N q0 index : Nat} {C : String} {T : u_T} {ty0 : Nat → FieldType} {fl : List (Nat × Nat)} {b : Bool} (hC : Cx p s m args c cc own nL g) (hS : St t A H0 g w H locs) (ht : t[q0]? = some (o, .inl (ci, fl))) (hc : vwCl[ci]? = some (C, T, N)) (hin : ∀ w ∈ u_ws C T N, w ∈ wsL_law) (hty : ∀ k, k < N → parseFieldDescriptor (T k).2.2.1 = some (ty0 k)) (hnm : ∀ a, a < N → ∀ b, b < N → a ≠ b → (T a).2.1 ≠ (T b).2.1) (hf : f < N) (hfin : (T f).2.2.2 = false) (hdesc : parseFieldDescriptor (T f).2.2.1 = some (.object "SealCasts$Rules")) (hk : fl[f]? = some (3, r)) (hok : t.all okR = true) (hu : ∀ (j : Nat) (q : Nat × Ds) (i : Nat) (k : Nat × Nat) (d : Nat × List (Nat × Nat)), t[j]? = some q → q.2 = .inl d → d.2[i]? = some k → k = (3, r) → q.1 = o ∧ i = f) (hl : Cond.fieldLink own index (T f).1 (T f).2.1 (T f).2.2.1 ∈ wsL_law) (hd : decode cc pc = .ok (.putfield index, 3))
    (kk : ∀ (w1 : Wd) (H1 : Heap) (locs1 : List Loc), w1 = sR w r b → St t A H0 g w1 H1 locs1 → W p l e R s m args below meth c H1 locs1 cells slots Q (F0 m (pc + 3) ls rest)) : W p l e R s m args below meth c H locs cells slots Q (F0 m pc ls (.ref (g.2.2 (rl b)) :: .ref (g.2.2 o) :: rest)) := by
  obtain ⟨hx, hb, hml, hown, hts, hK, -⟩ := hC
  have he := wk_at (g := g) (w := w) ht
  have hlt : f < fl.length := (List.getElem?_eq_some_iff.mp hk).1
  refine va_put (D := g.1) (ci := ci) (v := .ref (g.2.2 (rl b))) (ty := .object "SealCasts$Rules") hx hb hts hin ty0 hty hnm hown hK hS.1 hS.2.1 hS.2.2.1 q0 he hc f hf (hts _ hl) (fun _ h9 => h9) hfin hdesc rfl rfl (by rw [List.length_mapIdx]; exact hlt) hd (fun H1 locs1 hP hD hS1 => ?_)
  have ok : ∀ (j : Nat) (q : Nat × Ds) (i : Nat) (k : Nat × Nat) (d : Nat × List (Nat × Nat)), t[j]? = some q → q.2 = .inl d → d.2[i]? = some k → k.1 ≤ 3 := by
    intro j q i k d h1 h2 h3
    have h4 := List.all_eq_true.mp hok q (List.mem_of_getElem? h1)
    unfold okR at h4
    rw [h2] at h4
    exact of_decide_eq_true (List.all_eq_true.mp h4 k (List.mem_of_getElem? h3))
  have e1 : (wsW t g w).set q0 (g.2.2 o, .inr (ci, (fl.mapIdx (fun f k => wf g w o f k)).set f (.ref (g.2.2 (rl b))))) = wsW t g (sR w r b) := by
    apply List.ext_getElem?
    intro j
    rw [List.getElem?_set]
    by_cases hj : q0 = j
    · subst hj
      have hlen : q0 < (wsW t g w).length := (List.getElem?_eq_some_iff.mp he).1
      rw [if_pos rfl, if_pos hlen, wk_at ht]
      have e3 : (fl.mapIdx (fun f k => wf g w o f k)).set f (.ref (g.2.2 (rl b))) = fl.mapIdx (fun f k => wf g (sR w r b) o f k) := by
        refine wk_mapIdx hk ?_ (fun i q hi hq => ?_)
        · show Value.ref (g.2.2 (rl ((sR w r b).2.2.2.2 r))) = _
          unfold sR
          simp
        · exact wf_sR (fun z => hi (hu q0 _ i q _ ht rfl hq z).2) (ok q0 _ i q _ ht rfl hq)
      rw [e3]
      rfl
    · rw [if_neg hj]
      unfold wsW
      rw [List.getElem?_map, List.getElem?_map]
      cases hr : t[j]? with
      | none => rfl
      | some q =>
        show some (g.2.2 q.1, wE g w q) = some (g.2.2 q.1, wE g (sR w r b) q)
        obtain ⟨i, d⟩ := q
        cases d with
        | inr d => rfl
        | inl d =>
          have hne : i ≠ o := fun z => hj (tab_inj hS.2.2.2.2 ht hr z.symm)
          have e4 : d.2.mapIdx (fun f k => wf g w i f k) = d.2.mapIdx (fun f k => wf g (sR w r b) i f k) := by
            apply List.ext_getElem?
            intro a
            rw [List.getElem?_mapIdx, List.getElem?_mapIdx]
            cases ha : d.2[a]? with
            | none => rfl
            | some k =>
              show some (wf g w i a k) = some (wf g (sR w r b) i a k)
              rw [wf_sR (fun z => hne (hu j _ a k _ hr rfl ha z).1) (ok j _ a k _ hr rfl ha)]
          show some (g.2.2 i, Sum.inr (d.1, d.2.mapIdx (fun f k => wf g w i f k))) = some (g.2.2 i, Sum.inr (d.1, d.2.mapIdx (fun f k => wf g (sR w r b) i f k)))
          rw [e4]
  have hP : va_P g.1 vwCl ((wsW t g w).set q0 (g.2.2 o, .inr (ci, (fl.mapIdx (fun f k => wf g w o f k)).set f (.ref (g.2.2 (rl b)))))) H1 := hP
  have hD : va_D A ((wsW t g w).set q0 (g.2.2 o, .inr (ci, (fl.mapIdx (fun f k => wf g w o f k)).set f (.ref (g.2.2 (rl b)))))) := hD
  rw [e1] at hP hD
  exact kk _ H1 locs1 rfl ⟨hP, hD, hS1, hS.2.2.2⟩
def uniOK (r o f : Nat) (q : Nat × Ds) : Bool := match q.2 with
  | .inl d => (List.range d.2.length).all (fun i => decide (d.2[i]? = some (3, r) → q.1 = o ∧ i = f))
  | .inr _ => true
theorem uni_of {r o f : Nat} (h : t.all (uniOK r o f) = true) : ∀ (j : Nat) (q : Nat × Ds) (i : Nat) (k : Nat × Nat) (d : Nat × List (Nat × Nat)), t[j]? = some q → q.2 = .inl d → d.2[i]? = some k → k = (3, r) → q.1 = o ∧ i = f := by
  intro j q i k d h1 h2 h3 h4
  have h5 := List.all_eq_true.mp h q (List.mem_of_getElem? h1)
  unfold uniOK at h5
  rw [h2] at h5
  have h6 := List.all_eq_true.mp h5 i (List.mem_range.mpr (List.getElem?_eq_some_iff.mp h3).1)
  exact of_decide_eq_true h6 (by rw [h3, h4])
theorem uniR0 : ∀ (j : Nat) (q : Nat × Ds) (i : Nat) (k : Nat × Nat) (d : Nat × List (Nat × Nat)), tabX[j]? = some q → q.2 = .inl d → d.2[i]? = some k → k = (3, 0) → q.1 = 0 ∧ i = 16 := uni_of (by decide +kernel)
theorem uniR1 : ∀ (j : Nat) (q : Nat × Ds) (i : Nat) (k : Nat × Nat) (d : Nat × List (Nat × Nat)), tabX[j]? = some q → q.2 = .inl d → d.2[i]? = some k → k = (3, 1) → q.1 = 0 ∧ i = 17 := uni_of (by decide +kernel)
theorem uniR2 : ∀ (j : Nat) (q : Nat × Ds) (i : Nat) (k : Nat × Nat) (d : Nat × List (Nat × Nat)), tabX[j]? = some q → q.2 = .inl d → d.2[i]? = some k → k = (3, 2) → q.1 = 30 ∧ i = 1 := uni_of (by decide +kernel)
theorem uniR3 : ∀ (j : Nat) (q : Nat × Ds) (i : Nat) (k : Nat × Nat) (d : Nat × List (Nat × Nat)), tabX[j]? = some q → q.2 = .inl d → d.2[i]? = some k → k = (3, 3) → q.1 = 40 ∧ i = 1 := uni_of (by decide +kernel)
theorem q_max {index : Nat} {x y : Int32} (hC : Cx p s m args c cc own nL g) (hls : ls.size = nL) (hl : Cond.methodLink own index Lib.Math.max.name ∈ wsL_law) (h1 : Cond.static Lib.Math.max.name ∈ wsL_law) (h2 : Cond.initialized "java/lang/Math" ∈ wsL_law) (h3 : Cond.code Lib.Math.max.name Lib.Math.max.code 2 (some .int) ∈ wsL_law) (hR : 1 ≤ R.frames ∧ (rest.map fun v => v.category).sum + 13 ≤ R.locals ∧ cells ≤ R.cells ∧ slots ≤ R.slots) (hd : decode cc pc = .ok (.invokestatic index, 3))
    (kk : W p l e R s m args below meth c H locs cells slots Q (F0 m (pc + 3) ls (.int (if x < y then y else x) :: rest))) : W p l e R s m args below meth c H locs cells slots Q (F0 m pc ls (.int y :: .int x :: rest)) := by
  obtain ⟨hx, hb, hml, hown, hts, hK, -⟩ := hC
  exact va_mmax hx hb (hml.trans hls.symm) hown (hts _ hl) (hts _ h1) (hts _ h2) (hts _ h3) hR.1 hR.2.1 hR.2.2.1 hR.2.2.2 hd kk
theorem q_min {index : Nat} {x y : Int32} (hC : Cx p s m args c cc own nL g) (hls : ls.size = nL) (hl : Cond.methodLink own index Lib.Math.min.name ∈ wsL_law) (h1 : Cond.static Lib.Math.min.name ∈ wsL_law) (h2 : Cond.initialized "java/lang/Math" ∈ wsL_law) (h3 : Cond.code Lib.Math.min.name Lib.Math.min.code 2 (some .int) ∈ wsL_law) (hR : 1 ≤ R.frames ∧ (rest.map fun v => v.category).sum + 13 ≤ R.locals ∧ cells ≤ R.cells ∧ slots ≤ R.slots) (hd : decode cc pc = .ok (.invokestatic index, 3))
    (kk : W p l e R s m args below meth c H locs cells slots Q (F0 m (pc + 3) ls (.int (if y < x then y else x) :: rest))) : W p l e R s m args below meth c H locs cells slots Q (F0 m pc ls (.int y :: .int x :: rest)) := by
  obtain ⟨hx, hb, hml, hown, hts, hK, -⟩ := hC
  exact va_mmin hx hb (hml.trans hls.symm) hown (hts _ hl) (hts _ h1) (hts _ h2) (hts _ h3) hR.1 hR.2.1 hR.2.2.1 hR.2.2.2 hd kk
theorem q_copy {index o0 o1 q0 q1 n0 n1 : Nat} {sp dp n : Int32} (hC : Cx p s m args c cc own nL g) (hS : St t A H0 g w H locs) (hls : ls.size = nL) (hl : Cond.methodLink own index arraycopyName ∈ wsL_law) (h1 : Cond.native arraycopyName ∈ wsL_law) (h2 : Cond.static arraycopyName ∈ wsL_law) (h3 : Cond.initialized "java/lang/System" ∈ wsL_law) (ht0 : t[q0]? = some (o0, .inr (0, n0))) (ht1 : t[q1]? = some (o1, .inr (0, n1))) (k1 : ¬ sp < 0) (k2 : ¬ dp < 0) (k3 : ¬ n < 0) (k4 : sp.toNatClampNeg + n.toNatClampNeg ≤ n0) (k5 : dp.toNatClampNeg + n.toNatClampNeg ≤ n1)
    (hR : 1 ≤ R.frames ∧ (rest.map fun v => v.category).sum + (nativeFrameWords "java/lang/System" "arraycopy" 5 + 11) ≤ R.locals) (hd : decode cc pc = .ok (.invokestatic index, 3))
    (kk : ∀ (w1 : Wd) (H1 : Heap) (locs1 : List Loc), w1 = sC w o1 (va_cpy (w.2.1 o0) (w.2.1 o1) sp.toNatClampNeg dp.toNatClampNeg n.toNatClampNeg) → St t A H0 g w1 H1 locs1 → W p l e R s m args below meth c H1 locs1 cells slots Q (F0 m (pc + 3) ls rest)) : W p l e R s m args below meth c H locs cells slots Q (F0 m pc ls (.int n :: .int dp :: .ref (g.2.2 o1) :: .int sp :: .ref (g.2.2 o0) :: rest)) := by
  obtain ⟨hx, hb, hml, hown, hts, hK, -⟩ := hC
  refine va_copyi hx hb (hml.trans hls.symm) hown (hts _ hl) (hts _ h1) (hts _ h2) (hts _ h3) hK hS.1 hS.2.1 hS.2.2.1 q0 q1 0 0 (q_ar hS ht0 rfl) (q_ar hS ht1 rfl) rfl rfl rfl k1 k2 k3 k4 k5 (fun _ _ => rfl) hR.1 hR.2 hd (fun H1 locs1 hP hD hS1 => ?_)
  rw [q_arS hS.2.2.2.2 (g := g) (w := w) (k := 0) (f := va_cpy (w.2.1 o0) (w.2.1 o1) sp.toNatClampNeg dp.toNatClampNeg n.toNatClampNeg) (w1 := sC w o1 (va_cpy (w.2.1 o0) (w.2.1 o1) sp.toNatClampNeg dp.toNatClampNeg n.toNatClampNeg)) ht1 (by unfold wA; rw [sC_eq]; rfl) (fun r h => wE_A r rfl rfl rfl (sC_ne h) rfl)] at hP hD
  exact kk _ H1 locs1 rfl ⟨hP, hD, hS1, hS.2.2.2⟩
end WR
