/-! THE LAW: its code -/
def tb_L_law : Tb := [(0, .new 15), (3, .dup), (4, .invokespecial 100), (7, .astore_n 1), (8, .iconst 4), (9, .newarray .int), (11, .astore_n 2), (12, .aload_n 0), (13, .iconst 0), (14, .invokestatic 101), (17, .istore_n 3), (18, .iconst 0), (19, .istore 4), (21, .iload 4), (23, .iconst 2), (24, .if_icmp .ge 78), (27, .aload_n 2), (28, .iload 4), (30, .iconst 2), (31, .iload_n 3), (32, .iconst 4), (33, .iload 4), (35, .imul), (36, .ishr), (37, .bipush 15), (39, .invokestatic 8), (42, .iadd), (43, .iastore), (44, .aload_n 1), (45, .iload 4), (47, .aload_n 2), (48, .iload 4), (50, .iaload), (51, .iload_n 3), (52, .bipush 9), (54, .iload 4), (56, .iadd), (57, .ishr), (58, .bipush 64), (60, .invokestatic 8), (63, .iload_n 3), (64, .bipush 13), (66, .iload 4), (68, .iadd), (69, .ishr), (70, .bipush 101), (72, .invokestatic 8), (75, .invokevirtual 105), (78, .bipush 8), (80, .if_icmp .ne 14), (83, .aload_n 1), (84, .iload 4), (86, .invokevirtual 66), (89, .ldc 65), (91, .if_icmp .eq 5), (94, .iconst 0), (95, .ireturn), (96, .iinc 4 1), (99, .goto (-78)), (102, .iload_n 3), (103, .bipush 20), (105, .ishr), (106, .iconst 5), (107, .invokestatic 8), (110, .istore 4), (112, .iconst 0), (113, .istore 5), (115, .iload 5), (117, .iload 4), (119, .if_icmp .ge 58), (122, .aload_n 0), (123, .iconst 1), (124, .iload 5), (126, .iadd), (127, .invokestatic 101), (130, .istore 6), (132, .aload_n 1), (133, .iload 6), (135, .bipush 64), (137, .invokestatic 8), (140, .iload 6), (142, .bipush 6), (144, .ishr), (145, .bipush 64), (147, .invokestatic 8), (150, .iload 6), (152, .bipush 12), (154, .ishr), (155, .sipush 140), (158, .invokestatic 8), (161, .invokevirtual 19), (164, .iload 5), (166, .if_icmp .eq 5), (169, .iconst 0), (170, .ireturn), (171, .iinc 5 1), (174, .goto (-59)), (177, .iconst 0), (178, .istore 5), (180, .iload 5), (182, .bipush 12), (184, .if_icmp .ge 666), (187, .aload_n 0), (188, .bipush 6), (190, .iload 5), (192, .iadd), (193, .invokestatic 101), (196, .istore 6), (198, .aload_n 1), (199, .invokevirtual 109), (202, .lstore 7), (204, .aload_n 1), (205, .invokevirtual 113), (208, .istore 9), (210, .aload_n 1), (211, .invokevirtual 116), (214, .istore 10), (216, .aload_n 1), (217, .iconst 0), (218, .invokevirtual 66), (221, .istore 11), (223, .aload_n 1), (224, .iconst 1), (225, .invokevirtual 66), (228, .istore 12), (230, .aload_n 1), (231, .aload_n 2), (232, .iload 6), (234, .invokestatic 119), (237, .istore 13), (239, .iload 13), (241, .ldc 123), (243, .if_icmp .gt 7), (246, .iconst 1), (247, .goto 4), (250, .iconst 0), (251, .istore 14), (253, .iload 14), (255, .ifCond .eq 13), (258, .aload_n 1), (259, .invokevirtual 109), (262, .lload 7), (264, .lcmp), (265, .ifCond .ne 40), (268, .aload_n 1), (269, .invokevirtual 113), (272, .iload 9), (274, .if_icmp .lt 31), (277, .aload_n 1), (278, .invokevirtual 116), (281, .iload 10), (283, .if_icmp .lt 22), (286, .aload_n 1), (287, .invokevirtual 116), (290, .iload 10), (292, .isub), (293, .iconst 2), (294, .aload_n 1), (295, .invokevirtual 113), (298, .iload 9), (300, .isub), (301, .imul), (302, .if_icmp .ge 5), (305, .iconst 0), (306, .ireturn), (307, .iload 6), (309, .bipush 15), (311, .iand), (312, .istore 15), (314, .iload 14), (316, .ifCond .ne 38), (319, .aload_n 2), (320, .iconst 2), (321, .iload 15), (323, .bipush 10), (325, .if_icmp .ne 16), (328, .iload 6), (330, .bipush 8), (332, .ishr), (333, .bipush 34), (335, .invokestatic 8), (338, .goto 15), (341, .iload 15), (343, .ifCond .ne 7), (346, .iconst 0), (347, .goto 6), (350, .aload_n 2), (351, .iconst 2), (352, .iaload), (353, .iastore), (354, .aload_n 1), (355, .aload_n 2), (356, .invokestatic 124), (359, .ifCond .ne 5), (362, .iconst 0), (363, .ireturn), (364, .iload 15), (366, .bipush 12), (368, .if_icmp .ne 126), (371, .iload 6), (373, .iconst 4), (374, .ishr), (375, .iconst 1), (376, .iand), (377, .istore 16), (379, .aload_n 1), (380, .invokevirtual 69), (383, .iload 13), (385, .ifCond .ne 7), (388, .iconst 1), (389, .goto 4), (392, .iconst 0), (393, .if_icmp .ne 48), (396, .aload_n 1), (397, .invokevirtual 128), (400, .ifCond .ne 41), (403, .aload_n 1), (404, .iconst 0), (405, .invokevirtual 97), (408, .iload 13), (410, .ifCond .ne 7), (413, .iconst 1), (414, .goto 4), (417, .iconst 5), (418, .if_icmp .ne 23), (421, .aload_n 1), (422, .iconst 0), (423, .invokevirtual 131), (426, .iload 13), (428, .ifCond .ne 8), (431, .iload 16), (433, .goto 5), (436, .iload 13), (438, .if_icmp .eq 5), (441, .iconst 0), (442, .ireturn), (443, .iload 13), (445, .ifCond .ne 31), (448, .aload_n 1), (449, .iconst 0), (450, .invokevirtual 66), (453, .aload_n 1), (454, .aload_n 2), (455, .iconst 0), (456, .invokestatic 134), (459, .if_icmp .ne 33), (462, .aload_n 1), (463, .iconst 1), (464, .invokevirtual 66), (467, .aload_n 1), (468, .aload_n 2), (469, .iconst 1), (470, .invokestatic 134), (473, .if_icmp .ne 19), (476, .iload 13), (478, .iconst 1), (479, .if_icmp .ne 15), (482, .aload_n 1), (483, .aload_n 2), (484, .iload 16), (486, .invokestatic 134), (489, .ifCond .lt 5), (492, .iconst 0), (493, .ireturn), (494, .iload 14), (496, .ifCond .ne 140), (499, .iload 15), (501, .bipush 12), (503, .if_icmp .le 133), (506, .aload_n 1), (507, .invokestatic 137), (510, .ifCond .ne 126), (513, .iconst 0), (514, .istore 16), (516, .iload 16), (518, .iconst 2), (519, .if_icmp .ge 117), (522, .iload 16), (524, .ifCond .ne 8), (527, .iload 11), (529, .goto 5), (532, .iload 12), (534, .istore 17), (536, .iload 17), (538, .ldc 65), (540, .if_icmp .eq 90), (543, .aload_n 2), (544, .iload 16), (546, .aload_n 1), (547, .iload 16), (549, .invokevirtual 66), (552, .invokestatic 141), (555, .aload_n 2), (556, .iload 16), (558, .iload 17), (560, .invokestatic 141), (563, .isub), (564, .aload_n 2), (565, .iload 16), (567, .iaload), (568, .iadd), (569, .aload_n 2), (570, .iload 16), (572, .iaload), (573, .irem), (574, .istore 18), (576, .iload 18), (578, .iconst 1), (579, .if_icmp .le 14), (582, .iload 18), (584, .aload_n 2), (585, .iload 16), (587, .iaload), (588, .iconst 1), (589, .isub), (590, .if_icmp .lt 38), (593, .iload 17), (595, .aload_n 2), (596, .iload 16), (598, .iaload), (599, .if_icmp .ge 7), (602, .iconst 1), (603, .goto 4), (606, .iconst 0), (607, .aload_n 1), (608, .iload 16), (610, .invokevirtual 66), (613, .aload_n 2), (614, .iload 16), (616, .iaload), (617, .if_icmp .ge 7), (620, .iconst 1), (621, .goto 4), (624, .iconst 0), (625, .if_icmp .eq 5), (628, .iconst 0), (629, .ireturn), (630, .iinc 16 1), (633, .goto (-117)), (636, .iload 14), (638, .ifCond .ne 58), (641, .iload 6), (643, .bipush 29), (645, .ishr), (646, .iconst 1), (647, .iand), (648, .ifCond .ne 48), (651, .aload_n 2), (652, .iconst 2), (653, .iaload), (654, .istore 16), (656, .aload_n 1), (657, .invokevirtual 145), (660, .ifCond .lt 13), (663, .aload_n 1), (664, .invokevirtual 109), (667, .lload 7), (669, .lcmp), (670, .ifCond .eq 5), (673, .iconst 0), (674, .ireturn), (675, .aload_n 2), (676, .iconst 2), (677, .iload 15), (679, .bipush 10), (681, .if_icmp .eq 8), (684, .iload 15), (686, .ifCond .ne 7), (689, .iconst 0), (690, .goto 5), (693, .iload 16), (695, .iastore), (696, .iload 5), (698, .iconst 4), (699, .irem), (700, .iconst 3), (701, .if_icmp .ne 143), (704, .aload_n 1), (705, .invokevirtual 109), (708, .lstore 16), (710, .aload_n 1), (711, .iconst 4), (712, .invokevirtual 148), (715, .istore 18), (717, .aload_n 1), (718, .invokevirtual 109), (721, .lload 16), (723, .lcmp), (724, .ifCond .ne 34), (727, .iload 18), (729, .ifCond .ne 7), (732, .iconst 1), (733, .goto 4), (736, .iconst 0), (737, .aload_n 1), (738, .invokevirtual 69), (741, .ifCond .ne 7), (744, .iconst 1), (745, .goto 4), (748, .iconst 0), (749, .if_icmp .ne 9), (752, .iload 18), (754, .iconst 4), (755, .if_icmp .le 5), (758, .iconst 0), (759, .ireturn), (760, .iload 18), (762, .ifCond .ge 7), (765, .iconst 4), (766, .goto 5), (769, .iload 18), (771, .istore 19), (773, .iconst 1), (774, .istore 20), (776, .iload 20), (778, .iload 19), (780, .if_icmp .gt 31), (783, .aload_n 1), (784, .iconst 1), (785, .invokevirtual 59), (788, .iload 20), (790, .iload 18), (792, .if_icmp .ne 7), (795, .iconst 0), (796, .goto 4), (799, .iconst 1), (800, .if_icmp .eq 5), (803, .iconst 0), (804, .ireturn), (805, .iinc 20 1), (808, .goto (-32)), (811, .iconst 0), (812, .istore 20), (814, .iload 20), (816, .iload 19), (818, .if_icmp .ge 14), (821, .aload_n 1), (822, .invokevirtual 145), (825, .pop), (826, .iinc 20 1), (829, .goto (-15)), (832, .aload_n 1), (833, .invokevirtual 109), (836, .lload 16), (838, .lcmp), (839, .ifCond .eq 5), (842, .iconst 0), (843, .ireturn), (844, .iinc 5 1), (847, .goto (-667)), (850, .aload_n 1), (851, .bipush 101), (853, .invokevirtual 148), (856, .ldc 151), (858, .if_icmp .ne 49), (861, .aload_n 1), (862, .iconst 0), (863, .invokevirtual 59), (866, .ldc 151), (868, .if_icmp .ne 39), (871, .aload_n 1), (872, .iconst 2), (873, .invokevirtual 56), (876, .ldc 123), (878, .if_icmp .ne 29), (881, .aload_n 1), (882, .iconst 0), (883, .iconst (-1)), (884, .invokevirtual 53), (887, .ldc 151), (889, .if_icmp .ne 18), (892, .aload_n 1), (893, .iconst 3), (894, .iconst 0), (895, .invokevirtual 79), (898, .ldc 123), (900, .if_icmp .ne 7), (903, .iconst 1), (904, .goto 4), (907, .iconst 0), (908, .ireturn)]
theorem tbOK_ch {cc : ByteArray} {tb : Tb} (h : ∀ k, 40 * k < tb.length → tbC cc ((tb.drop (40 * k)).take 41) = true) : tbOK cc tb := by
  intro i t ht hs
  have hi : i < tb.length := (List.getElem?_eq_some_iff.mp ht).1
  have g : ∀ j, j < 41 → ((tb.drop (40 * (i / 40))).take 41)[j]? = tb[40 * (i / 40) + j]? := fun j hj => by
    rw [List.getElem?_take, if_pos hj, List.getElem?_drop]
  have z := tbC_ok cc _ (h (i / 40) (by omega)) (i % 40) t (by rw [g _ (by omega), show 40 * (i / 40) + i % 40 = i by omega]; exact ht) hs
  refine ⟨z.1, fun t' ht' => z.2 t' ?_⟩
  rw [g _ (by omega), show 40 * (i / 40) + (i % 40 + 1) = i + 1 by omega]
  exact ht'
theorem tk_L_0 : tbC code ((tb_L_law.drop (40 * 0)).take 41) = true := by decide +kernel
theorem tk_L_1 : tbC code ((tb_L_law.drop (40 * 1)).take 41) = true := by decide +kernel
theorem tk_L_2 : tbC code ((tb_L_law.drop (40 * 2)).take 41) = true := by decide +kernel
theorem tk_L_3 : tbC code ((tb_L_law.drop (40 * 3)).take 41) = true := by decide +kernel
theorem tk_L_4 : tbC code ((tb_L_law.drop (40 * 4)).take 41) = true := by decide +kernel
theorem tk_L_5 : tbC code ((tb_L_law.drop (40 * 5)).take 41) = true := by decide +kernel
theorem tk_L_6 : tbC code ((tb_L_law.drop (40 * 6)).take 41) = true := by decide +kernel
theorem tk_L_7 : tbC code ((tb_L_law.drop (40 * 7)).take 41) = true := by decide +kernel
theorem tk_L_8 : tbC code ((tb_L_law.drop (40 * 8)).take 41) = true := by decide +kernel
theorem tk_L_9 : tbC code ((tb_L_law.drop (40 * 9)).take 41) = true := by decide +kernel
theorem tk_L_10 : tbC code ((tb_L_law.drop (40 * 10)).take 41) = true := by decide +kernel
theorem tk_L_11 : tbC code ((tb_L_law.drop (40 * 11)).take 41) = true := by decide +kernel
theorem tk_L_12 : tbC code ((tb_L_law.drop (40 * 12)).take 41) = true := by decide +kernel
theorem tk_L_law : tbOK code tb_L_law := tbOK_ch fun k hk => by
  have hk2 : k < 13 := by
    have e : tb_L_law.length = 481 := by decide +kernel
    omega
  match k, hk2 with
  | 0, _ => exact tk_L_0
  | 1, _ => exact tk_L_1
  | 2, _ => exact tk_L_2
  | 3, _ => exact tk_L_3
  | 4, _ => exact tk_L_4
  | 5, _ => exact tk_L_5
  | 6, _ => exact tk_L_6
  | 7, _ => exact tk_L_7
  | 8, _ => exact tk_L_8
  | 9, _ => exact tk_L_9
  | 10, _ => exact tk_L_10
  | 11, _ => exact tk_L_11
  | 12, _ => exact tk_L_12
  | k + 13, h => exact absurd h (by omega)
theorem pcL_13 : pcAt tb_L_law 13 = 21 := by decide +kernel
theorem pcL_55 : pcAt tb_L_law 55 = 94 := by decide +kernel
theorem pcL_57 : pcAt tb_L_law 57 = 96 := by decide +kernel
theorem pcL_59 : pcAt tb_L_law 59 = 102 := by decide +kernel
theorem pcL_67 : pcAt tb_L_law 67 = 115 := by decide +kernel
theorem pcL_95 : pcAt tb_L_law 95 = 171 := by decide +kernel
theorem pcL_97 : pcAt tb_L_law 97 = 177 := by decide +kernel
theorem pcL_99 : pcAt tb_L_law 99 = 180 := by decide +kernel
theorem pcL_135 : pcAt tb_L_law 135 = 250 := by decide +kernel
theorem pcL_136 : pcAt tb_L_law 136 = 251 := by decide +kernel
theorem pcL_144 : pcAt tb_L_law 144 = 268 := by decide +kernel
theorem pcL_163 : pcAt tb_L_law 163 = 305 := by decide +kernel
theorem pcL_165 : pcAt tb_L_law 165 = 307 := by decide +kernel
theorem pcL_182 : pcAt tb_L_law 182 = 341 := by decide +kernel
theorem pcL_186 : pcAt tb_L_law 186 = 350 := by decide +kernel
theorem pcL_189 : pcAt tb_L_law 189 = 353 := by decide +kernel
theorem pcL_190 : pcAt tb_L_law 190 = 354 := by decide +kernel
theorem pcL_196 : pcAt tb_L_law 196 = 364 := by decide +kernel
theorem pcL_211 : pcAt tb_L_law 211 = 392 := by decide +kernel
theorem pcL_212 : pcAt tb_L_law 212 = 393 := by decide +kernel
theorem pcL_223 : pcAt tb_L_law 223 = 417 := by decide +kernel
theorem pcL_224 : pcAt tb_L_law 224 = 418 := by decide +kernel
theorem pcL_232 : pcAt tb_L_law 232 = 436 := by decide +kernel
theorem pcL_233 : pcAt tb_L_law 233 = 438 := by decide +kernel
theorem pcL_234 : pcAt tb_L_law 234 = 441 := by decide +kernel
theorem pcL_236 : pcAt tb_L_law 236 = 443 := by decide +kernel
theorem pcL_254 : pcAt tb_L_law 254 = 476 := by decide +kernel
theorem pcL_262 : pcAt tb_L_law 262 = 492 := by decide +kernel
theorem pcL_264 : pcAt tb_L_law 264 = 494 := by decide +kernel
theorem pcL_274 : pcAt tb_L_law 274 = 516 := by decide +kernel
theorem pcL_281 : pcAt tb_L_law 281 = 532 := by decide +kernel
theorem pcL_282 : pcAt tb_L_law 282 = 534 := by decide +kernel
theorem pcL_316 : pcAt tb_L_law 316 = 593 := by decide +kernel
theorem pcL_323 : pcAt tb_L_law 323 = 606 := by decide +kernel
theorem pcL_324 : pcAt tb_L_law 324 = 607 := by decide +kernel
theorem pcL_333 : pcAt tb_L_law 333 = 624 := by decide +kernel
theorem pcL_334 : pcAt tb_L_law 334 = 625 := by decide +kernel
theorem pcL_335 : pcAt tb_L_law 335 = 628 := by decide +kernel
theorem pcL_337 : pcAt tb_L_law 337 = 630 := by decide +kernel
theorem pcL_339 : pcAt tb_L_law 339 = 636 := by decide +kernel
theorem pcL_359 : pcAt tb_L_law 359 = 673 := by decide +kernel
theorem pcL_361 : pcAt tb_L_law 361 = 675 := by decide +kernel
theorem pcL_368 : pcAt tb_L_law 368 = 689 := by decide +kernel
theorem pcL_370 : pcAt tb_L_law 370 = 693 := by decide +kernel
theorem pcL_371 : pcAt tb_L_law 371 = 695 := by decide +kernel
theorem pcL_372 : pcAt tb_L_law 372 = 696 := by decide +kernel
theorem pcL_393 : pcAt tb_L_law 393 = 736 := by decide +kernel
theorem pcL_394 : pcAt tb_L_law 394 = 737 := by decide +kernel
theorem pcL_399 : pcAt tb_L_law 399 = 748 := by decide +kernel
theorem pcL_400 : pcAt tb_L_law 400 = 749 := by decide +kernel
theorem pcL_404 : pcAt tb_L_law 404 = 758 := by decide +kernel
theorem pcL_406 : pcAt tb_L_law 406 = 760 := by decide +kernel
theorem pcL_410 : pcAt tb_L_law 410 = 769 := by decide +kernel
theorem pcL_411 : pcAt tb_L_law 411 = 771 := by decide +kernel
theorem pcL_414 : pcAt tb_L_law 414 = 776 := by decide +kernel
theorem pcL_425 : pcAt tb_L_law 425 = 799 := by decide +kernel
theorem pcL_426 : pcAt tb_L_law 426 = 800 := by decide +kernel
theorem pcL_429 : pcAt tb_L_law 429 = 805 := by decide +kernel
theorem pcL_431 : pcAt tb_L_law 431 = 811 := by decide +kernel
theorem pcL_433 : pcAt tb_L_law 433 = 814 := by decide +kernel
theorem pcL_441 : pcAt tb_L_law 441 = 832 := by decide +kernel
theorem pcL_448 : pcAt tb_L_law 448 = 844 := by decide +kernel
theorem pcL_450 : pcAt tb_L_law 450 = 850 := by decide +kernel
theorem pcL_479 : pcAt tb_L_law 479 = 907 := by decide +kernel
theorem pcL_480 : pcAt tb_L_law 480 = 908 := by decide +kernel
/-- what holds between two deeds: t of them are done -/
def TI (S : Nat → Nat) (g : Nat → Nat → Int32) (σ τ : Nat → Nat → Nat) (ρ : Nat → Nat) (c9 : Nat) (ev : Nat → Int32) (t : Nat) : Prop := SJ S g σ τ ρ c9 ∧ ev 0 = nI (S 0) ∧ ev 1 = nI (S 1) ∧ apK g (ev 2) ∧ ∃ a b : Nat, g 1 3 = nI a ∧ g 1 4 = nI b ∧ a ≤ 256 * t ∧ b ≤ 4096 * t
theorem and15_n (x : Int32) : ∃ k : Nat, k < 16 ∧ x &&& 15 = nI k := ⟨x.toBitVec.toNat % 16, by omega, pk_and x 4 (by decide)⟩
theorem and1_n (x : Int32) : ∃ k : Nat, k < 2 ∧ x &&& 1 = nI k := ⟨x.toBitVec.toNat % 2, by omega, pk_and x 1 (by decide)⟩
theorem lg_eq (x : Int64) : lg_cmp x x = 0 := by simp [lg_cmp]
theorem dg_fc {g s : Nat → Nat → Int32} {ρ : Nat → Nat} {c9 n bk E S0 S1 : Nat} (hn : g 1 12 = nI n) (hn8 : n ≤ 8) (hB : g 1 13 = nI bk) (hB3 : bk ≤ 3) (hEv : g 1 14 = nI E) (hE2 : E ≤ 20) (hS0 : g 1 15 = nI S0) (h0 : S0 ≤ 16) (hS1 : g 1 35 = nI S1) (h1 : S1 ≤ 16) : fc_digest_r n bk E S0 S1 g s ρ c9 = dgR g := by
  unfold fc_digest_r dgR
  rw [hn, hB, hEv, hS0, hS1, nI_clamp (by omega), nI_clamp (by omega), nI_clamp (by omega), nI_clamp (by omega), nI_clamp (by omega)]
theorem jd_digest {l : Launch} {D : va_G} {cA : FieldType → ClassId} {z0 : Nat} {SK : Nat → Nat} {SV : Nat → Int32} {S : Nat → Nat} {ad : Nat → Nat} (hE : aD (fun q => z0 ≤ q) ad 182) {g s : Nat → Nat → Int32} {σ τ : Nat → Nat → Nat} {ρ : Nat → Nat} {c9 : Nat} (I : SJ S g σ τ ρ c9) : bF l D cA z0 SK SV ad shF 182 yX8_digest cX8_digest 1 (some .long) 3 [.ref 0] (layF g s σ τ ρ c9) (some (.long (dgR g))) (layF g s σ τ ρ c9) := by
  obtain ⟨n, hg⟩ := I.2.1
  obtain ⟨B, hB, hB3⟩ := inv_bk hg
  obtain ⟨E, hEv, hE2⟩ := inv_ev hg
  obtain ⟨k1, k2, k3, k4, k5, k6⟩ := inv_sec hg
  have hs := inv_st hg
  rw [← dg_fc (s := s) (ρ := ρ) (c9 := c9) hs.1 hs.2.1 hB hB3 hEv hE2 k1 k4 k2 k6]
  exact fc_digest hE g s σ τ I.1 ρ c9 n B E (S 0) (S 1) hs.1 hs.2.1 hB hB3 hEv hE2 k1 k4 k2 k6
