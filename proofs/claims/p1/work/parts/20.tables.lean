/-! THE PROGRAM, by program (wip/whole/tools/tables.py) out of the Statement: 80 methods -/
/-- 0: ClauseKernelLaw.law([I)Z -/
def xt_c0_0 : List (Nat × Instr) := [(0, .new 7), (3, .dup), (4, .invokespecial 9), (7, .astore_n 1), (8, .new 10), (11, .dup), (12, .invokespecial 12), (15, .astore_n 2), (16, .iconst (0)), (17, .istore_n 3), (18, .iload_n 3), (19, .aload_n 0), (20, .arraylength), (21, .bipush (6)), (23, .isub), (24, .if_icmp .gt (308)), (27, .aload_n 0), (28, .iload_n 3), (29, .iaload), (30, .bipush (15)), (32, .iand), (33, .tableswitch (293) (0) (9) #[55, 116, 139, 162, 175, 198, 211, 234, 247, 270]), (88, .aload_n 1), (89, .aload_n 0), (90, .iload_n 3), (91, .iconst (1)), (92, .iadd), (93, .iaload), (94, .aload_n 0), (95, .iload_n 3), (96, .iconst (2)), (97, .iadd), (98, .iaload), (99, .aload_n 0), (100, .iload_n 3), (101, .iconst (3)), (102, .iadd), (103, .iaload), (104, .aload_n 0), (105, .iload_n 3)]
def xt_c0_1 : List (Nat × Instr) := [(106, .iconst (4)), (107, .iadd), (108, .iaload), (109, .aload_n 0), (110, .iload_n 3), (111, .iconst (5)), (112, .iadd), (113, .iaload), (114, .invokevirtual 13), (117, .aload_n 2), (118, .aload_n 0), (119, .iload_n 3), (120, .iconst (1)), (121, .iadd), (122, .iaload), (123, .aload_n 0), (124, .iload_n 3), (125, .iconst (2)), (126, .iadd), (127, .iaload), (128, .aload_n 0), (129, .iload_n 3), (130, .iconst (3)), (131, .iadd), (132, .iaload), (133, .aload_n 0), (134, .iload_n 3), (135, .iconst (4)), (136, .iadd), (137, .iaload), (138, .aload_n 0), (139, .iload_n 3), (140, .iconst (5)), (141, .iadd), (142, .iaload), (143, .invokevirtual 17), (146, .goto (180)), (149, .aload_n 1), (150, .aload_n 0), (151, .iload_n 3)]
def xt_c0_2 : List (Nat × Instr) := [(152, .iconst (1)), (153, .iadd), (154, .iaload), (155, .invokevirtual 18), (158, .aload_n 2), (159, .aload_n 0), (160, .iload_n 3), (161, .iconst (1)), (162, .iadd), (163, .iaload), (164, .invokevirtual 22), (167, .if_icmp .eq (159)), (170, .iconst (0)), (171, .ireturn), (172, .aload_n 1), (173, .aload_n 0), (174, .iload_n 3), (175, .iconst (1)), (176, .iadd), (177, .iaload), (178, .invokevirtual 23), (181, .aload_n 2), (182, .aload_n 0), (183, .iload_n 3), (184, .iconst (1)), (185, .iadd), (186, .iaload), (187, .invokevirtual 26), (190, .if_icmp .eq (136)), (193, .iconst (0)), (194, .ireturn), (195, .aload_n 1), (196, .invokevirtual 27), (199, .aload_n 2), (200, .invokevirtual 31), (203, .if_icmp .eq (123)), (206, .iconst (0)), (207, .ireturn), (208, .aload_n 1), (209, .aload_n 0)]
def xt_c0_3 : List (Nat × Instr) := [(210, .iload_n 3), (211, .iconst (1)), (212, .iadd), (213, .iaload), (214, .invokevirtual 32), (217, .aload_n 2), (218, .aload_n 0), (219, .iload_n 3), (220, .iconst (1)), (221, .iadd), (222, .iaload), (223, .invokevirtual 35), (226, .if_icmp .eq (100)), (229, .iconst (0)), (230, .ireturn), (231, .aload_n 1), (232, .invokevirtual 36), (235, .aload_n 2), (236, .invokevirtual 39), (239, .if_icmp .eq (87)), (242, .iconst (0)), (243, .ireturn), (244, .aload_n 1), (245, .aload_n 0), (246, .iload_n 3), (247, .iconst (1)), (248, .iadd), (249, .iaload), (250, .invokevirtual 40), (253, .aload_n 2), (254, .aload_n 0), (255, .iload_n 3), (256, .iconst (1)), (257, .iadd), (258, .iaload), (259, .invokevirtual 43), (262, .if_icmp .eq (64)), (265, .iconst (0)), (266, .ireturn), (267, .aload_n 1)]
def xt_c0_4 : List (Nat × Instr) := [(268, .invokevirtual 44), (271, .aload_n 2), (272, .invokevirtual 47), (275, .if_icmp .eq (51)), (278, .iconst (0)), (279, .ireturn), (280, .aload_n 1), (281, .aload_n 0), (282, .iload_n 3), (283, .iconst (1)), (284, .iadd), (285, .iaload), (286, .invokevirtual 48), (289, .aload_n 2), (290, .aload_n 0), (291, .iload_n 3), (292, .iconst (1)), (293, .iadd), (294, .iaload), (295, .invokevirtual 51), (298, .if_icmp .eq (28)), (301, .iconst (0)), (302, .ireturn), (303, .aload_n 1), (304, .aload_n 0), (305, .iload_n 3), (306, .iconst (1)), (307, .iadd), (308, .iaload), (309, .invokevirtual 52), (312, .aload_n 2), (313, .aload_n 0), (314, .iload_n 3), (315, .iconst (1)), (316, .iadd), (317, .iaload), (318, .invokevirtual 55), (321, .if_icmp .eq (5)), (324, .iconst (0)), (325, .ireturn)]
def xt_c0_5 : List (Nat × Instr) := [(326, .iinc 3 (6)), (329, .goto (-311)), (332, .iconst (1)), (333, .ireturn)]
def xt_c0 : List (Nat × Instr) := xt_c0_0 ++ (xt_c0_1 ++ (xt_c0_2 ++ (xt_c0_3 ++ (xt_c0_4 ++ (xt_c0_5)))))
/-- 1: ClauseKernel.<init>()V -/
def xt_c1_0 : List (Nat × Instr) := [(0, .aload_n 0), (1, .invokespecial 3), (4, .aload_n 0), (5, .new 9), (8, .dup), (9, .sipush (256)), (12, .invokespecial 11), (15, .putfield 14), (18, .aload_n 0), (19, .iconst (5)), (20, .newarray .int), (22, .putfield 18), (25, .aload_n 0), (26, .sipush (1000)), (29, .putfield 22), (32, .aload_n 0), (33, .new 26), (36, .dup), (37, .invokespecial 28), (40, .putfield 29), (43, .aload_n 0), (44, .new 33), (47, .dup), (48, .aload_n 0), (49, .getfield 29), (52, .invokespecial 35), (55, .putfield 38), (58, .aload_n 0), (59, .new 42), (62, .dup), (63, .aload_n 0), (64, .getfield 29), (67, .invokespecial 44), (70, .putfield 45), (73, .aload_n 0), (74, .new 49), (77, .dup), (78, .invokespecial 51), (81, .putfield 52), (84, .aload_n 0)]
def xt_c1_1 : List (Nat × Instr) := [(85, .new 56), (88, .dup), (89, .aload_n 0), (90, .getfield 29), (93, .aload_n 0), (94, .getfield 52), (97, .invokespecial 58), (100, .putfield 61), (103, .aload_n 0), (104, .new 65), (107, .dup), (108, .aload_n 0), (109, .getfield 29), (112, .aload_n 0), (113, .getfield 52), (116, .aload_n 0), (117, .getfield 61), (120, .invokespecial 67), (123, .putfield 70), (126, .aload_n 0), (127, .aload_n 0), (128, .getfield 29), (131, .invokevirtual 74), (134, .putfield 78), (137, .return_)]
def xt_c1 : List (Nat × Instr) := xt_c1_0 ++ (xt_c1_1)
/-- 2: ClauseKernel$Row.<init>(I)V -/
def xt_c2 : List (Nat × Instr) := [(0, .aload_n 0), (1, .invokespecial 1), (4, .aload_n 0), (5, .iload_n 1), (6, .iconst (1)), (7, .invokestatic 7), (10, .newarray .int), (12, .putfield 13), (15, .return_)]
/-- 3: ClauseKernel$Cells.<init>()V -/
def xt_c3 : List (Nat × Instr) := [(0, .aload_n 0), (1, .invokespecial 5), (4, .aload_n 0), (5, .bipush (64)), (7, .newarray .long), (9, .putfield 11), (12, .aload_n 0), (13, .bipush (64)), (15, .newarray .int), (17, .putfield 15), (20, .aload_n 0), (21, .bipush (64)), (23, .newarray .int), (25, .putfield 19), (28, .aload_n 0), (29, .sipush (512)), (32, .newarray .int), (34, .putfield 22), (37, .aload_n 0), (38, .getfield 22), (41, .iconst (-1)), (42, .invokestatic 25), (45, .aload_n 0), (46, .ldc 31), (48, .invokevirtual 33), (51, .aload_n 0), (52, .ldc 37), (54, .invokevirtual 33), (57, .aload_n 0), (58, .ldc 39), (60, .invokevirtual 33), (63, .return_)]
/-- 4: java/util/Arrays.fill([II)V -/
def xt_c4 : List (Nat × Instr) := [(0, .iconst (0)), (1, .istore_n 2), (2, .aload_n 0), (3, .arraylength), (4, .istore_n 3), (5, .iload_n 2), (6, .iload_n 3), (7, .if_icmp .ge (13)), (10, .aload_n 0), (11, .iload_n 2), (12, .iload_n 1), (13, .iastore), (14, .iinc 2 (1)), (17, .goto (-12)), (20, .return_)]
/-- 5: ClauseKernel$Cells.addNames(Ljava/lang/String;)V -/
def xt_c5 : List (Nat × Instr) := [(0, .lconst 0), (1, .lstore_n 2), (2, .iconst (0)), (3, .istore 4), (5, .iload 4), (7, .aload_n 1), (8, .invokevirtual 41), (11, .if_icmp .ge (42)), (14, .aload_n 1), (15, .iload 4), (17, .invokevirtual 47), (20, .bipush (32)), (22, .if_icmp .ne (14)), (25, .aload_n 0), (26, .lload_n 2), (27, .invokevirtual 51), (30, .pop), (31, .lconst 0), (32, .lstore_n 2), (33, .goto (14)), (36, .lload_n 2), (37, .aload_n 1), (38, .iload 4), (40, .invokevirtual 47), (43, .invokestatic 55), (46, .lstore_n 2), (47, .iinc 4 (1)), (50, .goto (-45)), (53, .return_)]
/-- 6: java/lang/String.length()I -/
def xt_c6 : List (Nat × Instr) := [(0, .aload_n 0), (1, .getfield 9), (4, .arraylength), (5, .aload_n 0), (6, .invokevirtual 335), (9, .ishr), (10, .ireturn)]
/-- 7: java/lang/String.coder()B -/
def xt_c7 : List (Nat × Instr) := [(0, .getstatic 38), (3, .ifCond .eq (10)), (6, .aload_n 0), (7, .getfield 15), (10, .goto (4)), (13, .iconst (1)), (14, .ireturn)]
/-- 8: java/lang/String.charAt(I)C -/
def xt_c8 : List (Nat × Instr) := [(0, .aload_n 0), (1, .invokevirtual 492), (4, .ifCond .eq (12)), (7, .aload_n 0), (8, .getfield 9), (11, .iload_n 1), (12, .invokestatic 495), (15, .ireturn), (16, .aload_n 0), (17, .getfield 9), (20, .iload_n 1), (21, .invokestatic 498), (24, .ireturn)]
/-- 9: java/lang/String.isLatin1()Z -/
def xt_c9 : List (Nat × Instr) := [(0, .getstatic 38), (3, .ifCond .eq (14)), (6, .aload_n 0), (7, .getfield 15), (10, .ifCond .ne (7)), (13, .iconst (1)), (14, .goto (4)), (17, .iconst (0)), (18, .ireturn)]
/-- 10: java/lang/StringLatin1.charAt([BI)C -/
def xt_c10 : List (Nat × Instr) := [(0, .iload_n 1), (1, .aload_n 0), (2, .arraylength), (3, .invokestatic 9), (6, .aload_n 0), (7, .iload_n 1), (8, .baload), (9, .sipush (255)), (12, .iand), (13, .i2c), (14, .ireturn)]
/-- 11: java/lang/String.checkIndex(II)V -/
def xt_c11 : List (Nat × Instr) := [(0, .iload_n 0), (1, .iload_n 1), (2, .getstatic 1053), (5, .invokestatic 1059), (8, .pop), (9, .return_)]
/-- 12: jdk/internal/util/Preconditions.checkIndex(IILjava/util/function/BiFunction;)I -/
def xt_c12 : List (Nat × Instr) := [(0, .iload_n 0), (1, .ifCond .lt (8)), (4, .iload_n 0), (5, .iload_n 1), (6, .if_icmp .lt (10)), (9, .aload_n 2), (10, .iload_n 0), (11, .iload_n 1), (12, .invokestatic 95), (15, .athrow), (16, .iload_n 0), (17, .ireturn)]
/-- 13: ClauseKernel$Cells.symbol(J)I -/
def xt_c13 : List (Nat × Instr) := [(0, .aload_n 0), (1, .lload_n 1), (2, .ldc2_w 73), (5, .lor), (6, .iconst (0)), (7, .invokevirtual 69), (10, .ireturn)]
/-- 14: ClauseKernel$Cells.numberOf(JI)I -/
def xt_c14_0 : List (Nat × Instr) := [(0, .lload_n 1), (1, .invokestatic 86), (4, .istore 4), (6, .aload_n 0), (7, .getfield 22), (10, .iload 4), (12, .iaload), (13, .istore 5), (15, .iconst (0)), (16, .istore 6), (18, .iload 6), (20, .aload_n 0), (21, .getfield 65), (24, .if_icmp .ge (47)), (27, .iload 5), (29, .ifCond .lt (42)), (32, .iload 5), (34, .aload_n 0), (35, .getfield 65), (38, .if_icmp .ge (33)), (41, .aload_n 0), (42, .getfield 11), (45, .iload 5), (47, .laload), (48, .lload_n 1), (49, .lcmp), (50, .ifCond .ne (6)), (53, .iload 5), (55, .ireturn), (56, .aload_n 0), (57, .getfield 19), (60, .iload 5), (62, .iaload), (63, .istore 5), (65, .iinc 6 (1)), (68, .goto (-50)), (71, .aload_n 0), (72, .getfield 65), (75, .ldc 89), (77, .if_icmp .lt (5))]
def xt_c14_1 : List (Nat × Instr) := [(80, .iconst (0)), (81, .ireturn), (82, .aload_n 0), (83, .getfield 65), (86, .aload_n 0), (87, .getfield 11), (90, .arraylength), (91, .if_icmp .lt (54)), (94, .aload_n 0), (95, .aload_n 0), (96, .getfield 11), (99, .aload_n 0), (100, .getfield 65), (103, .iconst (2)), (104, .imul), (105, .invokestatic 90), (108, .putfield 11), (111, .aload_n 0), (112, .aload_n 0), (113, .getfield 15), (116, .aload_n 0), (117, .getfield 65), (120, .iconst (2)), (121, .imul), (122, .invokestatic 94), (125, .putfield 15), (128, .aload_n 0), (129, .aload_n 0), (130, .getfield 19), (133, .aload_n 0), (134, .getfield 65), (137, .iconst (2)), (138, .imul), (139, .invokestatic 94), (142, .putfield 19), (145, .aload_n 0), (146, .getfield 11), (149, .aload_n 0), (150, .getfield 65), (153, .lload_n 1)]
def xt_c14_2 : List (Nat × Instr) := [(154, .lastore), (155, .aload_n 0), (156, .getfield 15), (159, .aload_n 0), (160, .getfield 65), (163, .iload_n 3), (164, .iastore), (165, .aload_n 0), (166, .getfield 19), (169, .aload_n 0), (170, .getfield 65), (173, .aload_n 0), (174, .getfield 22), (177, .iload 4), (179, .iaload), (180, .iastore), (181, .aload_n 0), (182, .getfield 22), (185, .iload 4), (187, .aload_n 0), (188, .getfield 65), (191, .iastore), (192, .aload_n 0), (193, .dup), (194, .getfield 65), (197, .iconst (1)), (198, .iadd), (199, .putfield 65), (202, .aload_n 0), (203, .getfield 65), (206, .iconst (1)), (207, .isub), (208, .ireturn)]
def xt_c14 : List (Nat × Instr) := xt_c14_0 ++ (xt_c14_1 ++ (xt_c14_2))
/-- 15: ClauseKernel$Cells.slot(J)I -/
def xt_c15 : List (Nat × Instr) := [(0, .lload_n 0), (1, .ldc2_w 97), (4, .lmul), (5, .bipush (55)), (7, .lushr), (8, .l2i), (9, .ireturn)]
/-- 16: ClauseKernel$Cells.longerCode(JI)J -/
def xt_c16 : List (Nat × Instr) := [(0, .lload_n 0), (1, .ldc 59), (3, .invokevirtual 41), (6, .iconst (1)), (7, .iadd), (8, .i2l), (9, .lmul), (10, .ldc 59), (12, .iload_n 2), (13, .i2c), (14, .invokevirtual 61), (17, .i2l), (18, .ladd), (19, .lconst 1), (20, .ladd), (21, .lreturn)]
/-- 17: java/lang/String.indexOf(I)I -/
def xt_c17 : List (Nat × Instr) := [(0, .aload_n 0), (1, .iload_n 1), (2, .iconst (0)), (3, .invokevirtual 633), (6, .ireturn)]
/-- 18: java/lang/String.indexOf(II)I -/
def xt_c18 : List (Nat × Instr) := [(0, .aload_n 0), (1, .invokevirtual 492), (4, .ifCond .eq (19)), (7, .aload_n 0), (8, .getfield 9), (11, .iload_n 1), (12, .iload_n 2), (13, .aload_n 0), (14, .invokevirtual 505), (17, .invokestatic 637), (20, .goto (16)), (23, .aload_n 0), (24, .getfield 9), (27, .iload_n 1), (28, .iload_n 2), (29, .aload_n 0), (30, .invokevirtual 505), (33, .invokestatic 640), (36, .ireturn)]
/-- 19: java/lang/StringLatin1.indexOf([BIII)I -/
def xt_c19 : List (Nat × Instr) := [(0, .iload_n 1), (1, .invokestatic 88), (4, .ifCond .ne (5)), (7, .iconst (-1)), (8, .ireturn), (9, .iload_n 2), (10, .iconst (0)), (11, .invokestatic 92), (14, .istore_n 2), (15, .iload_n 3), (16, .aload_n 0), (17, .arraylength), (18, .invokestatic 38), (21, .istore_n 3), (22, .iload_n 2), (23, .iload_n 3), (24, .if_icmp .lt (5)), (27, .iconst (-1)), (28, .ireturn), (29, .aload_n 0), (30, .iload_n 1), (31, .iload_n 2), (32, .iload_n 3), (33, .invokestatic 95), (36, .ireturn)]
/-- 20: java/lang/StringLatin1.canEncode(I)Z -/
def xt_c20 : List (Nat × Instr) := [(0, .iload_n 0), (1, .ifCond .lt (14)), (4, .iload_n 0), (5, .sipush (255)), (8, .if_icmp .gt (7)), (11, .iconst (1)), (12, .goto (4)), (15, .iconst (0)), (16, .ireturn)]
/-- 21: java/lang/StringLatin1.indexOfChar([BIII)I -/
def xt_c21 : List (Nat × Instr) := [(0, .iload_n 1), (1, .i2b), (2, .istore 4), (4, .iload_n 2), (5, .istore 5), (7, .iload 5), (9, .iload_n 3), (10, .if_icmp .ge (21)), (13, .aload_n 0), (14, .iload 5), (16, .baload), (17, .iload 4), (19, .if_icmp .ne (6)), (22, .iload 5), (24, .ireturn), (25, .iinc 5 (1)), (28, .goto (-21)), (31, .iconst (-1)), (32, .ireturn)]
/-- 22: ClauseKernel$Reader.<init>(LClauseKernel$Cells;)V -/
def xt_c22 : List (Nat × Instr) := [(0, .aload_n 0), (1, .invokespecial 3), (4, .aload_n 0), (5, .new 9), (8, .dup), (9, .bipush (41)), (11, .invokespecial 11), (14, .putfield 14), (17, .aload_n 0), (18, .new 9), (21, .dup), (22, .bipush (41)), (24, .invokespecial 11), (27, .putfield 20), (30, .aload_n 0), (31, .new 9), (34, .dup), (35, .bipush (64)), (37, .invokespecial 11), (40, .putfield 23), (43, .aload_n 0), (44, .iconst (-1)), (45, .putfield 26), (48, .aload_n 0), (49, .aload_n 1), (50, .putfield 30), (53, .return_)]
/-- 23: ClauseKernel$Teller.<init>(LClauseKernel$Cells;)V -/
def xt_c23 : List (Nat × Instr) := [(0, .aload_n 0), (1, .invokespecial 3), (4, .aload_n 0), (5, .new 9), (8, .dup), (9, .sipush (256)), (12, .invokespecial 11), (15, .putfield 14), (18, .aload_n 0), (19, .new 9), (22, .dup), (23, .bipush (64)), (25, .invokespecial 11), (28, .putfield 20), (31, .aload_n 0), (32, .aload_n 1), (33, .putfield 23), (36, .return_)]
/-- 24: ClauseKernel$Book.<init>()V -/
def xt_c24 : List (Nat × Instr) := [(0, .aload_n 0), (1, .invokespecial 3), (4, .aload_n 0), (5, .new 9), (8, .dup), (9, .invokespecial 11), (12, .putfield 12), (15, .aload_n 0), (16, .new 9), (19, .dup), (20, .invokespecial 11), (23, .putfield 18), (26, .aload_n 0), (27, .new 9), (30, .dup), (31, .invokespecial 11), (34, .putfield 21), (37, .return_)]
/-- 25: java/util/ArrayList.<init>()V -/
def xt_c25 : List (Nat × Instr) := [(0, .aload_n 0), (1, .invokespecial 1), (4, .aload_n 0), (5, .getstatic 39), (8, .putfield 9), (11, .return_)]
/-- 26: java/util/AbstractList.<init>()V -/
def xt_c26 : List (Nat × Instr) := [(0, .aload_n 0), (1, .invokespecial 1), (4, .aload_n 0), (5, .iconst (0)), (6, .putfield 7), (9, .return_)]
/-- 27: java/util/AbstractCollection.<init>()V -/
def xt_c27 : List (Nat × Instr) := [(0, .aload_n 0), (1, .invokespecial 1), (4, .return_)]
/-- 28: ClauseKernel$Terms.<init>(LClauseKernel$Cells;LClauseKernel$Book;)V -/
def xt_c28 : List (Nat × Instr) := [(0, .aload_n 0), (1, .invokespecial 3), (4, .aload_n 0), (5, .new 9), (8, .dup), (9, .sipush (241)), (12, .invokespecial 11), (15, .putfield 14), (18, .aload_n 0), (19, .new 9), (22, .dup), (23, .bipush (120)), (25, .invokespecial 11), (28, .putfield 20), (31, .aload_n 0), (32, .iconst (-1)), (33, .putfield 23), (36, .aload_n 0), (37, .iconst (-1)), (38, .putfield 27), (41, .aload_n 0), (42, .aload_n 1), (43, .putfield 30), (46, .aload_n 0), (47, .aload_n 2), (48, .putfield 34), (51, .return_)]
/-- 29: ClauseKernel$Prover.<init>(LClauseKernel$Cells;LClauseKernel$Book;LClauseKernel$Terms;)V -/
def xt_c29 : List (Nat × Instr) := [(0, .aload_n 0), (1, .invokespecial 3), (4, .aload_n 0), (5, .aload_n 1), (6, .putfield 9), (9, .aload_n 0), (10, .aload_n 2), (11, .putfield 15), (14, .aload_n 0), (15, .aload_n 3), (16, .putfield 19), (19, .aload_n 0), (20, .new 23), (23, .dup), (24, .aload_n 3), (25, .invokespecial 25), (28, .putfield 28), (31, .return_)]
/-- 30: ClauseKernel$Paths.<init>(LClauseKernel$Terms;)V -/
def xt_c30 : List (Nat × Instr) := [(0, .aload_n 0), (1, .invokespecial 3), (4, .aload_n 0), (5, .aload_n 1), (6, .putfield 9), (9, .return_)]
/-- 31: ClauseKernel$Cells.length()I -/
def xt_c31 : List (Nat × Instr) := [(0, .aload_n 0), (1, .getfield 65), (4, .ireturn)]
/-- 32: ClauseKernel.feed(IIIII)V -/
def xt_c32 : List (Nat × Instr) := [(0, .aload_n 0), (1, .getfield 18), (4, .iconst (0)), (5, .iload_n 1), (6, .iastore), (7, .aload_n 0), (8, .getfield 18), (11, .iconst (1)), (12, .iload_n 2), (13, .iastore), (14, .aload_n 0), (15, .getfield 18), (18, .iconst (2)), (19, .iload_n 3), (20, .iastore), (21, .aload_n 0), (22, .getfield 18), (25, .iconst (3)), (26, .iload 4), (28, .iastore), (29, .aload_n 0), (30, .getfield 18), (33, .iconst (4)), (34, .iload 5), (36, .iastore), (37, .return_)]
/-- 33: ClauseKernel.end(I)I -/
def xt_c33_0 : List (Nat × Instr) := [(0, .iload_n 1), (1, .ifCond .lt (24)), (4, .iload_n 1), (5, .bipush (20)), (7, .if_icmp .gt (18)), (10, .aload_n 0), (11, .getfield 14), (14, .invokevirtual 81), (17, .iload_n 1), (18, .iadd), (19, .sipush (3000)), (22, .if_icmp .le (5)), (25, .iconst (-1)), (26, .ireturn), (27, .iconst (0)), (28, .istore_n 2), (29, .iload_n 2), (30, .iload_n 1), (31, .if_icmp .ge (38)), (34, .aload_n 0), (35, .getfield 14), (38, .aload_n 0), (39, .getfield 18), (42, .iload_n 2), (43, .iconst (2)), (44, .ishr), (45, .iaload), (46, .bipush (24)), (48, .bipush (8)), (50, .iload_n 2), (51, .iconst (3)), (52, .iand), (53, .imul), (54, .isub), (55, .iushr), (56, .sipush (255)), (59, .iand), (60, .invokevirtual 82), (63, .iinc 2 (1)), (66, .goto (-37))]
def xt_c33_1 : List (Nat × Instr) := [(69, .aload_n 0), (70, .iconst (0)), (71, .iconst (0)), (72, .iconst (0)), (73, .iconst (0)), (74, .iconst (0)), (75, .invokevirtual 85), (78, .aload_n 0), (79, .getfield 14), (82, .invokevirtual 81), (85, .ireturn)]
def xt_c33 : List (Nat × Instr) := xt_c33_0 ++ (xt_c33_1)
/-- 34: ClauseKernel$Row.length()I -/
def xt_c34 : List (Nat × Instr) := [(0, .aload_n 0), (1, .getfield 19), (4, .ireturn)]
/-- 35: ClauseKernel$Row.add(I)V -/
def xt_c35 : List (Nat × Instr) := [(0, .aload_n 0), (1, .getfield 19), (4, .ldc 23), (6, .if_icmp .lt (4)), (9, .return_), (10, .aload_n 0), (11, .getfield 19), (14, .aload_n 0), (15, .getfield 13), (18, .arraylength), (19, .if_icmp .lt (21)), (22, .aload_n 0), (23, .aload_n 0), (24, .getfield 13), (27, .aload_n 0), (28, .getfield 13), (31, .arraylength), (32, .iconst (2)), (33, .imul), (34, .invokestatic 24), (37, .putfield 13), (40, .aload_n 0), (41, .getfield 13), (44, .aload_n 0), (45, .getfield 19), (48, .iload_n 1), (49, .iastore), (50, .aload_n 0), (51, .dup), (52, .getfield 19), (55, .iconst (1)), (56, .iadd), (57, .putfield 19), (60, .return_)]
/-- 36: ClauseKernel.fuel(I)I -/
def xt_c36 : List (Nat × Instr) := [(0, .iload_n 1), (1, .iconst (1)), (2, .if_icmp .lt (10)), (5, .iload_n 1), (6, .sipush (1000)), (9, .if_icmp .le (5)), (12, .iconst (-1)), (13, .ireturn), (14, .aload_n 0), (15, .getfield 22), (18, .istore_n 2), (19, .aload_n 0), (20, .iload_n 1), (21, .putfield 22), (24, .iload_n 2), (25, .ireturn)]
/-- 37: ClauseKernel.run()I -/
def xt_c37_0 : List (Nat × Instr) := [(0, .aload_n 0), (1, .getfield 45), (4, .invokevirtual 89), (7, .aload_n 0), (8, .iconst (-1)), (9, .putfield 92), (12, .aload_n 0), (13, .iconst (0)), (14, .putfield 95), (17, .aload_n 0), (18, .iconst (0)), (19, .putfield 98), (22, .aload_n 0), (23, .getfield 38), (26, .aload_n 0), (27, .getfield 14), (30, .invokevirtual 101), (33, .istore_n 1), (34, .aload_n 0), (35, .getfield 14), (38, .iconst (0)), (39, .invokevirtual 105), (42, .iconst (2)), (43, .istore_n 2), (44, .aload_n 0), (45, .iload_n 1), (46, .invokevirtual 108), (49, .lookupswitch (91) #[(-1, 51), (17, 56), (18, 65), (19, 74), (20, 83)]), (100, .iconst (1)), (101, .istore_n 2), (102, .goto (38)), (105, .aload_n 0), (106, .iload_n 1), (107, .invokevirtual 112), (110, .istore_n 2), (111, .goto (29)), (114, .aload_n 0), (115, .iload_n 1), (116, .invokevirtual 115), (119, .istore_n 2)]
def xt_c37_1 : List (Nat × Instr) := [(120, .goto (20)), (123, .aload_n 0), (124, .iload_n 1), (125, .invokevirtual 118), (128, .istore_n 2), (129, .goto (11)), (132, .aload_n 0), (133, .invokevirtual 121), (136, .istore_n 2), (137, .goto (3)), (140, .aload_n 0), (141, .getfield 92), (144, .iconst (-1)), (145, .if_icmp .eq (14)), (148, .aload_n 0), (149, .getfield 45), (152, .aload_n 0), (153, .getfield 92), (156, .invokevirtual 124), (159, .aload_n 0), (160, .getfield 29), (163, .aload_n 0), (164, .getfield 78), (167, .invokevirtual 127), (170, .iload_n 2), (171, .ireturn)]
def xt_c37 : List (Nat × Instr) := xt_c37_0 ++ (xt_c37_1)
/-- 38: ClauseKernel$Teller.clear()V -/
def xt_c38 : List (Nat × Instr) := [(0, .aload_n 0), (1, .getfield 14), (4, .iconst (0)), (5, .invokevirtual 27), (8, .return_)]
/-- 39: ClauseKernel$Row.cut(I)V -/
def xt_c39 : List (Nat × Instr) := [(0, .iload_n 1), (1, .ifCond .lt (16)), (4, .iload_n 1), (5, .aload_n 0), (6, .getfield 19), (9, .if_icmp .ge (8)), (12, .aload_n 0), (13, .iload_n 1), (14, .putfield 19), (17, .return_)]
/-- 40: ClauseKernel$Reader.read(LClauseKernel$Row;)I -/
def xt_c40_0 : List (Nat × Instr) := [(0, .aload_n 0), (1, .invokevirtual 34), (4, .aload_n 0), (5, .aload_n 1), (6, .invokevirtual 37), (9, .iconst (0)), (10, .istore_n 2), (11, .iload_n 2), (12, .aload_n 1), (13, .invokevirtual 41), (16, .if_icmp .ge (75)), (19, .aload_n 0), (20, .getfield 45), (23, .aload_n 1), (24, .invokevirtual 41), (27, .if_icmp .ge (64)), (30, .aload_n 0), (31, .getfield 48), (34, .ifCond .ne (57)), (37, .aload_n 0), (38, .getfield 45), (41, .istore_n 3), (42, .aload_n 0), (43, .aload_n 1), (44, .invokevirtual 51), (47, .istore 4), (49, .aload_n 0), (50, .aload_n 0), (51, .iload 4), (53, .invokevirtual 55), (56, .putfield 48), (59, .aload_n 0), (60, .getfield 48), (63, .ifCond .ne (17)), (66, .aload_n 0), (67, .iload 4), (69, .invokevirtual 59), (72, .aload_n 0), (73, .aload_n 1), (74, .invokevirtual 37)]
def xt_c40_1 : List (Nat × Instr) := [(77, .goto (8)), (80, .aload_n 0), (81, .iload_n 3), (82, .putfield 26), (85, .iinc 2 (1)), (88, .goto (-77)), (91, .aload_n 0), (92, .getfield 48), (95, .ifCond .ne (27)), (98, .aload_n 0), (99, .getfield 14), (102, .invokevirtual 62), (105, .iconst (1)), (106, .if_icmp .eq (16)), (109, .aload_n 0), (110, .iconst (3)), (111, .putfield 48), (114, .aload_n 0), (115, .aload_n 1), (116, .invokevirtual 41), (119, .putfield 26), (122, .aload_n 0), (123, .getfield 48), (126, .ifCond .ne (14)), (129, .aload_n 0), (130, .getfield 23), (133, .iconst (0)), (134, .invokevirtual 65), (137, .goto (4)), (140, .iconst (-1)), (141, .ireturn)]
def xt_c40 : List (Nat × Instr) := xt_c40_0 ++ (xt_c40_1)
/-- 41: ClauseKernel$Reader.begin()V -/
def xt_c41 : List (Nat × Instr) := [(0, .aload_n 0), (1, .getfield 14), (4, .iconst (0)), (5, .invokevirtual 67), (8, .aload_n 0), (9, .getfield 14), (12, .iconst (0)), (13, .invokevirtual 70), (16, .aload_n 0), (17, .getfield 20), (20, .iconst (0)), (21, .invokevirtual 67), (24, .aload_n 0), (25, .getfield 20), (28, .iconst (0)), (29, .invokevirtual 70), (32, .aload_n 0), (33, .getfield 23), (36, .iconst (0)), (37, .invokevirtual 67), (40, .aload_n 0), (41, .iconst (0)), (42, .putfield 45), (45, .aload_n 0), (46, .iconst (0)), (47, .putfield 73), (50, .aload_n 0), (51, .iconst (0)), (52, .putfield 48), (55, .aload_n 0), (56, .iconst (-1)), (57, .putfield 26), (60, .return_)]
/-- 42: ClauseKernel$Reader.skipBlanks(LClauseKernel$Row;)V -/
def xt_c42 : List (Nat × Instr) := [(0, .iconst (0)), (1, .istore_n 2), (2, .aload_n 0), (3, .getfield 45), (6, .aload_n 1), (7, .invokevirtual 41), (10, .if_icmp .ge (58)), (13, .aload_n 1), (14, .aload_n 0), (15, .getfield 45), (18, .invokevirtual 65), (21, .istore_n 3), (22, .iload_n 3), (23, .bipush (10)), (25, .if_icmp .ne (8)), (28, .iconst (0)), (29, .istore_n 2), (30, .goto (25)), (33, .iload_n 3), (34, .bipush (59)), (36, .if_icmp .ne (8)), (39, .iconst (1)), (40, .istore_n 2), (41, .goto (14)), (44, .iload_n 3), (45, .bipush (32)), (47, .if_icmp .eq (8)), (50, .iload_n 2), (51, .ifCond .ne (4)), (54, .return_), (55, .aload_n 0), (56, .dup), (57, .getfield 45), (60, .iconst (1)), (61, .iadd), (62, .putfield 45), (65, .goto (-63)), (68, .return_)]
/-- 43: ClauseKernel$Row.at(I)I -/
def xt_c43 : List (Nat × Instr) := [(0, .iload_n 1), (1, .ifCond .lt (20)), (4, .iload_n 1), (5, .aload_n 0), (6, .getfield 19), (9, .if_icmp .ge (12)), (12, .aload_n 0), (13, .getfield 13), (16, .iload_n 1), (17, .iaload), (18, .goto (4)), (21, .iconst (0)), (22, .ireturn)]
/-- 44: ClauseKernel$Row.last()I -/
def xt_c44 : List (Nat × Instr) := [(0, .aload_n 0), (1, .getfield 19), (4, .ifCond .le (17)), (7, .aload_n 0), (8, .getfield 13), (11, .aload_n 0), (12, .getfield 19), (15, .iconst (1)), (16, .isub), (17, .iaload), (18, .goto (4)), (21, .iconst (0)), (22, .ireturn)]
/-- 45: ClauseKernel.kindOf(I)I -/
def xt_c45 : List (Nat × Instr) := [(0, .iload_n 1), (1, .iconst (-1)), (2, .if_icmp .ne (5)), (5, .iconst (-1)), (6, .ireturn), (7, .aload_n 0), (8, .getfield 29), (11, .iload_n 1), (12, .invokevirtual 181), (15, .istore_n 2), (16, .aload_n 0), (17, .getfield 29), (20, .iload_n 1), (21, .invokevirtual 184), (24, .istore_n 3), (25, .iload_n 2), (26, .tableswitch (63) (17) (20) #[30, 30, 41, 52]), (56, .iload_n 3), (57, .iconst (4)), (58, .if_icmp .ne (7)), (61, .iload_n 2), (62, .goto (4)), (65, .iconst (0)), (66, .ireturn), (67, .iload_n 3), (68, .iconst (2)), (69, .if_icmp .ne (7)), (72, .iload_n 2), (73, .goto (4)), (76, .iconst (0)), (77, .ireturn), (78, .iload_n 3), (79, .iconst (1)), (80, .if_icmp .ne (7)), (83, .iload_n 2), (84, .goto (4)), (87, .iconst (0)), (88, .ireturn), (89, .iconst (0)), (90, .ireturn)]
/-- 46: ClauseKernel$Book.functions()I -/
def xt_c46 : List (Nat × Instr) := [(0, .aload_n 0), (1, .getfield 18), (4, .invokevirtual 24), (7, .ireturn)]
/-- 47: java/util/ArrayList.size()I -/
def xt_c47 : List (Nat × Instr) := [(0, .aload_n 0), (1, .getfield 48), (4, .ireturn)]
/-- 48: ClauseKernel$Book.theorems()I -/
def xt_c48 : List (Nat × Instr) := [(0, .aload_n 0), (1, .getfield 21), (4, .invokevirtual 24), (7, .ireturn)]
/-- 49: ClauseKernel$Cells.release(I)V -/
def xt_c49 : List (Nat × Instr) := [(0, .aload_n 0), (1, .getfield 65), (4, .iconst (1)), (5, .isub), (6, .istore_n 2), (7, .iload_n 2), (8, .iload_n 1), (9, .if_icmp .lt (40)), (12, .iload_n 2), (13, .bipush (37)), (15, .if_icmp .le (34)), (18, .aload_n 0), (19, .getfield 22), (22, .aload_n 0), (23, .getfield 11), (26, .iload_n 2), (27, .laload), (28, .invokestatic 86), (31, .aload_n 0), (32, .getfield 19), (35, .iload_n 2), (36, .iaload), (37, .iastore), (38, .aload_n 0), (39, .iload_n 2), (40, .putfield 65), (43, .iinc 2 (-1)), (46, .goto (-39)), (49, .return_)]
/-- 50: ClauseKernel.fault(I)I -/
def xt_c50 : List (Nat × Instr) := [(0, .iload_n 1), (1, .tableswitch (48) (0) (2) #[27, 35, 43]), (28, .aload_n 0), (29, .getfield 38), (32, .getfield 130), (35, .ireturn), (36, .aload_n 0), (37, .getfield 38), (40, .getfield 133), (43, .ireturn), (44, .aload_n 0), (45, .getfield 95), (48, .ireturn), (49, .iconst (-1)), (50, .ireturn)]
/-- 51: ClauseKernel.steps()I -/
def xt_c51 : List (Nat × Instr) := [(0, .aload_n 0), (1, .getfield 98), (4, .ireturn)]
/-- 52: ClauseKernel.count(I)I -/
def xt_c52 : List (Nat × Instr) := [(0, .iload_n 1), (1, .tableswitch (48) (0) (2) #[27, 35, 43]), (28, .aload_n 0), (29, .getfield 52), (32, .invokevirtual 136), (35, .ireturn), (36, .aload_n 0), (37, .getfield 52), (40, .invokevirtual 139), (43, .ireturn), (44, .aload_n 0), (45, .getfield 142), (48, .ireturn), (49, .iconst (-1)), (50, .ireturn)]
/-- 53: ClauseKernel.size()I -/
def xt_c53 : List (Nat × Instr) := [(0, .aload_n 0), (1, .getfield 45), (4, .invokevirtual 145), (7, .ireturn)]
/-- 54: ClauseKernel$Teller.length()I -/
def xt_c54 : List (Nat × Instr) := [(0, .aload_n 0), (1, .getfield 14), (4, .invokevirtual 30), (7, .ireturn)]
/-- 55: ClauseKernel.letter(I)I -/
def xt_c55 : List (Nat × Instr) := [(0, .iload_n 1), (1, .ifCond .lt (25)), (4, .iload_n 1), (5, .aload_n 0), (6, .getfield 45), (9, .invokevirtual 145), (12, .if_icmp .ge (14)), (15, .aload_n 0), (16, .getfield 45), (19, .iload_n 1), (20, .invokevirtual 146), (23, .goto (4)), (26, .iconst (-1)), (27, .ireturn)]
/-- 56: ClauseKernel$Teller.at(I)I -/
def xt_c56 : List (Nat × Instr) := [(0, .aload_n 0), (1, .getfield 14), (4, .iload_n 1), (5, .invokevirtual 34), (8, .ireturn)]
/-- 57: ClauseKernel.tell(I)I -/
def xt_c57_0 : List (Nat × Instr) := [(0, .aload_n 0), (1, .getfield 52), (4, .iload_n 1), (5, .invokevirtual 149), (8, .astore_n 2), (9, .aload_n 2), (10, .ifnonnull (5)), (13, .iconst (-1)), (14, .ireturn), (15, .aload_n 0), (16, .getfield 29), (19, .aload_n 0), (20, .getfield 61), (23, .aload_n 2), (24, .getfield 153), (27, .invokevirtual 159), (30, .iconst (0)), (31, .invokevirtual 163), (34, .istore_n 3), (35, .aload_n 2), (36, .invokevirtual 167), (39, .ifCond .eq (23)), (42, .aload_n 0), (43, .getfield 29), (46, .aload_n 0), (47, .getfield 61), (50, .aload_n 2), (51, .getfield 171), (54, .invokevirtual 174), (57, .iload_n 3), (58, .invokevirtual 163), (61, .istore_n 3), (62, .aload_n 0), (63, .getfield 29), (66, .aload_n 2), (67, .getfield 178), (70, .iload_n 3), (71, .invokevirtual 163), (74, .istore_n 3), (75, .aload_n 0)]
def xt_c57_1 : List (Nat × Instr) := [(76, .getfield 29), (79, .aload_n 2), (80, .invokevirtual 167), (83, .ifCond .eq (8)), (86, .bipush (17)), (88, .goto (5)), (91, .bipush (21)), (93, .iload_n 3), (94, .invokevirtual 163), (97, .istore_n 3), (98, .aload_n 0), (99, .getfield 45), (102, .invokevirtual 89), (105, .aload_n 0), (106, .getfield 45), (109, .iload_n 3), (110, .invokevirtual 124), (113, .aload_n 0), (114, .getfield 29), (117, .aload_n 0), (118, .getfield 78), (121, .invokevirtual 127), (124, .aload_n 0), (125, .getfield 45), (128, .invokevirtual 145), (131, .ireturn)]
def xt_c57 : List (Nat × Instr) := xt_c57_0 ++ (xt_c57_1)
/-- 58: ClauseKernel$Book.thing(I)LClauseKernel$Thing; -/
def xt_c58 : List (Nat × Instr) := [(0, .iload_n 1), (1, .ifCond .lt (28)), (4, .iload_n 1), (5, .aload_n 0), (6, .getfield 12), (9, .invokevirtual 24), (12, .if_icmp .ge (17)), (15, .aload_n 0), (16, .getfield 12), (19, .iload_n 1), (20, .invokevirtual 28), (23, .checkcast 32), (26, .goto (4)), (29, .aconst_null), (30, .areturn)]
/-- 59: ClauseKernelModel.<init>()V -/
def xt_c59_0 : List (Nat × Instr) := [(0, .aload_n 0), (1, .invokespecial 1), (4, .aload_n 0), (5, .ldc 7), (7, .newarray .int), (9, .putfield 8), (12, .aload_n 0), (13, .ldc 7), (15, .newarray .int), (17, .putfield 14), (20, .aload_n 0), (21, .ldc 7), (23, .newarray .int), (25, .putfield 17), (28, .aload_n 0), (29, .ldc 7), (31, .newarray .int), (33, .putfield 20), (36, .aload_n 0), (37, .ldc 7), (39, .newarray .int), (41, .putfield 23), (44, .aload_n 0), (45, .ldc 7), (47, .newarray .long), (49, .putfield 26), (52, .aload_n 0), (53, .sipush (8192)), (56, .newarray .int), (58, .putfield 30), (61, .aload_n 0), (62, .ldc 33), (64, .newarray .int), (66, .putfield 34), (69, .aload_n 0), (70, .sipush (5000)), (73, .newarray .int), (75, .putfield 37), (78, .aload_n 0), (79, .bipush (20))]
def xt_c59_1 : List (Nat × Instr) := [(81, .newarray .int), (83, .putfield 40), (86, .aload_n 0), (87, .sipush (3000)), (90, .newarray .int), (92, .putfield 43), (95, .aload_n 0), (96, .sipush (2000)), (99, .newarray .int), (101, .putfield 46), (104, .aload_n 0), (105, .bipush (12)), (107, .newarray .int), (109, .putfield 49), (112, .aload_n 0), (113, .sipush (4000)), (116, .newarray .int), (118, .putfield 52), (121, .aload_n 0), (122, .iconst (-1)), (123, .putfield 55), (126, .aload_n 0), (127, .bipush (40)), (129, .newarray .int), (131, .putfield 59), (134, .aload_n 0), (135, .bipush (40)), (137, .newarray .int), (139, .putfield 62), (142, .aload_n 0), (143, .bipush (40)), (145, .newarray .int), (147, .putfield 65), (150, .aload_n 0), (151, .bipush (40)), (153, .newarray .int), (155, .putfield 68), (158, .aload_n 0), (159, .sipush (1100)), (162, .newarray .int)]
def xt_c59_2 : List (Nat × Instr) := [(164, .putfield 71), (167, .aload_n 0), (168, .bipush (40)), (170, .newarray .int), (172, .putfield 74), (175, .aload_n 0), (176, .bipush (40)), (178, .newarray .int), (180, .putfield 77), (183, .aload_n 0), (184, .sipush (240)), (187, .newarray .int), (189, .putfield 80), (192, .aload_n 0), (193, .bipush (40)), (195, .newarray .int), (197, .putfield 83), (200, .aload_n 0), (201, .bipush (40)), (203, .newarray .boolean), (205, .putfield 86), (208, .aload_n 0), (209, .bipush (60)), (211, .newarray .int), (213, .putfield 90), (216, .aload_n 0), (217, .bipush (60)), (219, .newarray .int), (221, .putfield 93), (224, .aload_n 0), (225, .bipush (100)), (227, .newarray .boolean), (229, .putfield 96), (232, .aload_n 0), (233, .bipush (100)), (235, .newarray .int), (237, .putfield 99), (240, .aload_n 0), (241, .iconst (-1)), (242, .putfield 102)]
def xt_c59_3 : List (Nat × Instr) := [(245, .aload_n 0), (246, .sipush (1000)), (249, .putfield 105), (252, .aload_n 0), (253, .sipush (1200)), (256, .newarray .int), (258, .putfield 108), (261, .aload_n 0), (262, .sipush (1200)), (265, .newarray .int), (267, .putfield 111), (270, .aload_n 0), (271, .sipush (1200)), (274, .newarray .int), (276, .putfield 114), (279, .aload_n 0), (280, .sipush (2400)), (283, .newarray .int), (285, .putfield 117), (288, .aload_n 0), (289, .sipush (400)), (292, .newarray .int), (294, .putfield 120), (297, .aload_n 0), (298, .sipush (400)), (301, .newarray .int), (303, .putfield 123), (306, .aload_n 0), (307, .sipush (400)), (310, .newarray .int), (312, .putfield 126), (315, .aload_n 0), (316, .sipush (130)), (319, .newarray .int), (321, .putfield 129), (324, .aload_n 0), (325, .bipush (8)), (327, .newarray .int), (329, .putfield 132), (332, .aload_n 0)]
def xt_c59_4 : List (Nat × Instr) := [(333, .sipush (1200)), (336, .newarray .int), (338, .putfield 135), (341, .aload_n 0), (342, .sipush (128)), (345, .newarray .int), (347, .putfield 138), (350, .aload_n 0), (351, .sipush (8192)), (354, .newarray .int), (356, .putfield 141), (359, .aload_n 0), (360, .sipush (128)), (363, .newarray .int), (365, .putfield 144), (368, .aload_n 0), (369, .sipush (128)), (372, .newarray .int), (374, .putfield 147), (377, .aload_n 0), (378, .sipush (8192)), (381, .newarray .int), (383, .putfield 150), (386, .aload_n 0), (387, .sipush (128)), (390, .newarray .int), (392, .putfield 153), (395, .aload_n 0), (396, .sipush (130)), (399, .newarray .int), (401, .putfield 156), (404, .aload_n 0), (405, .bipush (6)), (407, .newarray .int), (409, .putfield 159), (412, .aload_n 0), (413, .bipush (40)), (415, .newarray .int), (417, .putfield 162), (420, .aload_n 0)]
def xt_c59_5 : List (Nat × Instr) := [(421, .bipush (40)), (423, .newarray .int), (425, .putfield 165), (428, .aload_n 0), (429, .bipush (40)), (431, .newarray .int), (433, .putfield 168), (436, .aload_n 0), (437, .sipush (10500)), (440, .newarray .int), (442, .putfield 171), (445, .aload_n 0), (446, .sipush (350)), (449, .newarray .int), (451, .putfield 174), (454, .iconst (0)), (455, .istore_n 1), (456, .iload_n 1), (457, .sipush (8192)), (460, .if_icmp .ge (16)), (463, .aload_n 0), (464, .getfield 30), (467, .iload_n 1), (468, .iconst (-1)), (469, .iastore), (470, .iinc 1 (1)), (473, .goto (-17)), (476, .aload_n 0), (477, .bipush (110)), (479, .bipush (105)), (481, .bipush (108)), (483, .iconst (0)), (484, .iconst (0)), (485, .iconst (0)), (486, .iconst (0)), (487, .iconst (0)), (488, .invokevirtual 177), (491, .aload_n 0), (492, .bipush (116)), (494, .iconst (0))]
def xt_c59_6 : List (Nat × Instr) := [(495, .iconst (0)), (496, .iconst (0)), (497, .iconst (0)), (498, .iconst (0)), (499, .iconst (0)), (500, .iconst (0)), (501, .invokevirtual 177), (504, .aload_n 0), (505, .bipush (113)), (507, .bipush (117)), (509, .bipush (111)), (511, .bipush (116)), (513, .bipush (101)), (515, .iconst (0)), (516, .iconst (0)), (517, .iconst (0)), (518, .invokevirtual 177), (521, .aload_n 0), (522, .bipush (105)), (524, .bipush (102)), (526, .iconst (0)), (527, .iconst (0)), (528, .iconst (0)), (529, .iconst (0)), (530, .iconst (0)), (531, .iconst (0)), (532, .invokevirtual 177), (535, .aload_n 0), (536, .bipush (101)), (538, .bipush (113)), (540, .bipush (117)), (542, .bipush (97)), (544, .bipush (108)), (546, .iconst (0)), (547, .iconst (0)), (548, .iconst (0)), (549, .invokevirtual 177), (552, .aload_n 0), (553, .bipush (99)), (555, .bipush (111))]
def xt_c59_7 : List (Nat × Instr) := [(557, .bipush (110)), (559, .bipush (115)), (561, .iconst (0)), (562, .iconst (0)), (563, .iconst (0)), (564, .iconst (0)), (565, .invokevirtual 177), (568, .aload_n 0), (569, .bipush (105)), (571, .bipush (109)), (573, .bipush (112)), (575, .bipush (108)), (577, .bipush (105)), (579, .bipush (101)), (581, .bipush (115)), (583, .iconst (0)), (584, .invokevirtual 177), (587, .aload_n 0), (588, .bipush (43)), (590, .iconst (0)), (591, .iconst (0)), (592, .iconst (0)), (593, .iconst (0)), (594, .iconst (0)), (595, .iconst (0)), (596, .iconst (0)), (597, .invokevirtual 177), (600, .aload_n 0), (601, .bipush (45)), (603, .iconst (0)), (604, .iconst (0)), (605, .iconst (0)), (606, .iconst (0)), (607, .iconst (0)), (608, .iconst (0)), (609, .iconst (0)), (610, .invokevirtual 177), (613, .aload_n 0), (614, .bipush (60)), (616, .iconst (0))]
def xt_c59_8 : List (Nat × Instr) := [(617, .iconst (0)), (618, .iconst (0)), (619, .iconst (0)), (620, .iconst (0)), (621, .iconst (0)), (622, .iconst (0)), (623, .invokevirtual 177), (626, .aload_n 0), (627, .bipush (99)), (629, .bipush (111)), (631, .bipush (110)), (633, .bipush (115)), (635, .bipush (112)), (637, .iconst (0)), (638, .iconst (0)), (639, .iconst (0)), (640, .invokevirtual 177), (643, .aload_n 0), (644, .bipush (99)), (646, .bipush (97)), (648, .bipush (114)), (650, .iconst (0)), (651, .iconst (0)), (652, .iconst (0)), (653, .iconst (0)), (654, .iconst (0)), (655, .invokevirtual 177), (658, .aload_n 0), (659, .bipush (99)), (661, .bipush (100)), (663, .bipush (114)), (665, .iconst (0)), (666, .iconst (0)), (667, .iconst (0)), (668, .iconst (0)), (669, .iconst (0)), (670, .invokevirtual 177), (673, .aload_n 0), (674, .bipush (110)), (676, .bipush (97))]
def xt_c59_9 : List (Nat × Instr) := [(678, .bipush (116)), (680, .bipush (112)), (682, .iconst (0)), (683, .iconst (0)), (684, .iconst (0)), (685, .iconst (0)), (686, .invokevirtual 177), (689, .aload_n 0), (690, .bipush (115)), (692, .bipush (121)), (694, .bipush (109)), (696, .bipush (98)), (698, .bipush (111)), (700, .bipush (108)), (702, .bipush (112)), (704, .iconst (0)), (705, .invokevirtual 177), (708, .aload_n 0), (709, .bipush (110)), (711, .bipush (111)), (713, .bipush (116)), (715, .iconst (0)), (716, .iconst (0)), (717, .iconst (0)), (718, .iconst (0)), (719, .iconst (0)), (720, .invokevirtual 177), (723, .aload_n 0), (724, .bipush (104)), (726, .bipush (101)), (728, .bipush (105)), (730, .bipush (103)), (732, .bipush (104)), (734, .bipush (116)), (736, .iconst (0)), (737, .iconst (0)), (738, .invokevirtual 177), (741, .aload_n 0), (742, .bipush (100)), (744, .bipush (101))]
def xt_c59_10 : List (Nat × Instr) := [(746, .bipush (102)), (748, .bipush (117)), (750, .bipush (110)), (752, .iconst (0)), (753, .iconst (0)), (754, .iconst (0)), (755, .invokevirtual 177), (758, .aload_n 0), (759, .bipush (116)), (761, .bipush (104)), (763, .bipush (101)), (765, .bipush (111)), (767, .bipush (114)), (769, .bipush (101)), (771, .bipush (109)), (773, .iconst (0)), (774, .invokevirtual 177), (777, .aload_n 0), (778, .bipush (99)), (780, .bipush (108)), (782, .bipush (97)), (784, .bipush (117)), (786, .bipush (115)), (788, .bipush (101)), (790, .iconst (0)), (791, .iconst (0)), (792, .invokevirtual 177), (795, .aload_n 0), (796, .bipush (115)), (798, .bipush (105)), (800, .bipush (109)), (802, .bipush (112)), (804, .bipush (108)), (806, .bipush (105)), (808, .bipush (102)), (810, .bipush (121)), (812, .invokevirtual 177), (815, .aload_n 0), (816, .bipush (112)), (818, .bipush (114))]
def xt_c59_11 : List (Nat × Instr) := [(820, .bipush (111)), (822, .bipush (118)), (824, .bipush (101)), (826, .iconst (0)), (827, .iconst (0)), (828, .iconst (0)), (829, .invokevirtual 177), (832, .aload_n 0), (833, .bipush (100)), (835, .bipush (101)), (837, .bipush (102)), (839, .bipush (116)), (841, .bipush (104)), (843, .bipush (109)), (845, .iconst (0)), (846, .iconst (0)), (847, .invokevirtual 177), (850, .aload_n 0), (851, .bipush (111)), (853, .bipush (110)), (855, .iconst (0)), (856, .iconst (0)), (857, .iconst (0)), (858, .iconst (0)), (859, .iconst (0)), (860, .iconst (0)), (861, .invokevirtual 177), (864, .aload_n 0), (865, .bipush (111)), (867, .bipush (102)), (869, .bipush (102)), (871, .iconst (0)), (872, .iconst (0)), (873, .iconst (0)), (874, .iconst (0)), (875, .iconst (0)), (876, .invokevirtual 177), (879, .aload_n 0), (880, .bipush (117)), (882, .bipush (110))]
def xt_c59_12 : List (Nat × Instr) := [(884, .bipush (100)), (886, .bipush (111)), (888, .iconst (0)), (889, .iconst (0)), (890, .iconst (0)), (891, .iconst (0)), (892, .invokevirtual 177), (895, .aload_n 0), (896, .bipush (99)), (898, .bipush (104)), (900, .bipush (101)), (902, .bipush (99)), (904, .bipush (107)), (906, .iconst (0)), (907, .iconst (0)), (908, .iconst (0)), (909, .invokevirtual 177), (912, .aload_n 0), (913, .bipush (105)), (915, .bipush (110)), (917, .bipush (100)), (919, .bipush (117)), (921, .bipush (99)), (923, .bipush (116)), (925, .iconst (0)), (926, .iconst (0)), (927, .invokevirtual 177), (930, .aload_n 0), (931, .bipush (117)), (933, .bipush (115)), (935, .bipush (101)), (937, .iconst (0)), (938, .iconst (0)), (939, .iconst (0)), (940, .iconst (0)), (941, .iconst (0)), (942, .invokevirtual 177), (945, .aload_n 0), (946, .bipush (116)), (948, .bipush (97))]
def xt_c59_13 : List (Nat × Instr) := [(950, .bipush (117)), (952, .bipush (116)), (954, .iconst (0)), (955, .iconst (0)), (956, .iconst (0)), (957, .iconst (0)), (958, .invokevirtual 177), (961, .aload_n 0), (962, .bipush (115)), (964, .bipush (97)), (966, .bipush (109)), (968, .bipush (101)), (970, .iconst (0)), (971, .iconst (0)), (972, .iconst (0)), (973, .iconst (0)), (974, .invokevirtual 177), (977, .aload_n 0), (978, .bipush (118)), (980, .bipush (97)), (982, .bipush (108)), (984, .bipush (117)), (986, .bipush (101)), (988, .iconst (0)), (989, .iconst (0)), (990, .iconst (0)), (991, .invokevirtual 177), (994, .aload_n 0), (995, .bipush (102)), (997, .bipush (105)), (999, .bipush (114)), (1001, .bipush (115)), (1003, .bipush (116)), (1005, .iconst (0)), (1006, .iconst (0)), (1007, .iconst (0)), (1008, .invokevirtual 177), (1011, .aload_n 0), (1012, .bipush (115)), (1014, .bipush (101))]
def xt_c59_14 : List (Nat × Instr) := [(1016, .bipush (99)), (1018, .bipush (111)), (1020, .bipush (110)), (1022, .bipush (100)), (1024, .iconst (0)), (1025, .iconst (0)), (1026, .invokevirtual 177), (1029, .aload_n 0), (1030, .bipush (112)), (1032, .bipush (97)), (1034, .bipush (105)), (1036, .bipush (114)), (1038, .iconst (0)), (1039, .iconst (0)), (1040, .iconst (0)), (1041, .iconst (0)), (1042, .invokevirtual 177), (1045, .aload_n 0), (1046, .bipush (121)), (1048, .bipush (101)), (1050, .bipush (115)), (1052, .iconst (0)), (1053, .iconst (0)), (1054, .iconst (0)), (1055, .iconst (0)), (1056, .iconst (0)), (1057, .invokevirtual 177), (1060, .aload_n 0), (1061, .bipush (110)), (1063, .bipush (111)), (1065, .iconst (0)), (1066, .iconst (0)), (1067, .iconst (0)), (1068, .iconst (0)), (1069, .iconst (0)), (1070, .iconst (0)), (1071, .invokevirtual 177), (1074, .aload_n 0), (1075, .bipush (100)), (1077, .bipush (101))]
def xt_c59_15 : List (Nat × Instr) := [(1079, .bipush (102)), (1081, .iconst (0)), (1082, .iconst (0)), (1083, .iconst (0)), (1084, .iconst (0)), (1085, .iconst (0)), (1086, .invokevirtual 177), (1089, .aload_n 0), (1090, .bipush (116)), (1092, .bipush (104)), (1094, .bipush (109)), (1096, .iconst (0)), (1097, .iconst (0)), (1098, .iconst (0)), (1099, .iconst (0)), (1100, .iconst (0)), (1101, .invokevirtual 177), (1104, .aload_n 0), (1105, .bipush (119)), (1107, .bipush (101)), (1109, .bipush (97)), (1111, .bipush (107)), (1113, .iconst (0)), (1114, .iconst (0)), (1115, .iconst (0)), (1116, .iconst (0)), (1117, .invokevirtual 177), (1120, .aload_n 0), (1121, .bipush (99)), (1123, .bipush (117)), (1125, .bipush (116)), (1127, .iconst (0)), (1128, .iconst (0)), (1129, .iconst (0)), (1130, .iconst (0)), (1131, .iconst (0)), (1132, .invokevirtual 177), (1135, .aload_n 0), (1136, .bipush (105)), (1138, .bipush (110))]
def xt_c59_16 : List (Nat × Instr) := [(1140, .bipush (115)), (1142, .bipush (116)), (1144, .iconst (0)), (1145, .iconst (0)), (1146, .iconst (0)), (1147, .iconst (0)), (1148, .invokevirtual 177), (1151, .aload_n 0), (1152, .bipush (115)), (1154, .bipush (119)), (1156, .bipush (97)), (1158, .bipush (112)), (1160, .iconst (0)), (1161, .iconst (0)), (1162, .iconst (0)), (1163, .iconst (0)), (1164, .invokevirtual 177), (1167, .aload_n 0), (1168, .bipush (112)), (1170, .bipush (117)), (1172, .bipush (116)), (1174, .iconst (0)), (1175, .iconst (0)), (1176, .iconst (0)), (1177, .iconst (0)), (1178, .iconst (0)), (1179, .invokevirtual 177), (1182, .return_)]
def xt_c59 : List (Nat × Instr) := xt_c59_0 ++ (xt_c59_1 ++ (xt_c59_2 ++ (xt_c59_3 ++ (xt_c59_4 ++ (xt_c59_5 ++ (xt_c59_6 ++ (xt_c59_7 ++ (xt_c59_8 ++ (xt_c59_9 ++ (xt_c59_10 ++ (xt_c59_11 ++ (xt_c59_12 ++ (xt_c59_13 ++ (xt_c59_14 ++ (xt_c59_15 ++ (xt_c59_16))))))))))))))))
/-- 60: ClauseKernelModel.said(IIIIIIII)V -/
def xt_c60 : List (Nat × Instr) := [(0, .aload_n 0), (1, .iconst (0)), (2, .putfield 181), (5, .aload_n 0), (6, .iload_n 1), (7, .invokevirtual 184), (10, .aload_n 0), (11, .iload_n 2), (12, .invokevirtual 184), (15, .aload_n 0), (16, .iload_n 3), (17, .invokevirtual 184), (20, .aload_n 0), (21, .iload 4), (23, .invokevirtual 184), (26, .aload_n 0), (27, .iload 5), (29, .invokevirtual 184), (32, .aload_n 0), (33, .iload 6), (35, .invokevirtual 184), (38, .aload_n 0), (39, .iload 7), (41, .invokevirtual 184), (44, .aload_n 0), (45, .iload 8), (47, .invokevirtual 184), (50, .aload_n 0), (51, .invokevirtual 188), (54, .istore 9), (56, .return_)]
/-- 61: ClauseKernelModel.spell(I)V -/
def xt_c61 : List (Nat × Instr) := [(0, .iload_n 1), (1, .ifCond .ne (4)), (4, .return_), (5, .aload_n 0), (6, .getfield 49), (9, .aload_n 0), (10, .getfield 181), (13, .iload_n 1), (14, .iastore), (15, .aload_n 0), (16, .dup), (17, .getfield 181), (20, .iconst (1)), (21, .iadd), (22, .putfield 181), (25, .return_)]
/-- 62: ClauseKernelModel.symbol()I -/
def xt_c62_0 : List (Nat × Instr) := [(0, .aload_n 0), (1, .iconst (0)), (2, .aload_n 0), (3, .getfield 181), (6, .iconst (1)), (7, .invokevirtual 197), (10, .istore_n 1), (11, .aload_n 0), (12, .getfield 30), (15, .iload_n 1), (16, .iaload), (17, .istore_n 2), (18, .iload_n 2), (19, .iconst (-1)), (20, .if_icmp .eq (39)), (23, .aload_n 0), (24, .getfield 8), (27, .iload_n 2), (28, .iaload), (29, .bipush (-2)), (31, .if_icmp .ne (18)), (34, .aload_n 0), (35, .aload_n 0), (36, .getfield 14), (39, .iload_n 2), (40, .iaload), (41, .invokevirtual 208), (44, .ifCond .eq (5)), (47, .iload_n 2), (48, .ireturn), (49, .aload_n 0), (50, .getfield 17), (53, .iload_n 2), (54, .iaload), (55, .istore_n 2), (56, .goto (-38)), (59, .aload_n 0), (60, .getfield 37), (63, .aload_n 0), (64, .getfield 212)]
def xt_c62_1 : List (Nat × Instr) := [(67, .aload_n 0), (68, .getfield 181), (71, .iastore), (72, .iconst (0)), (73, .istore_n 2), (74, .iload_n 2), (75, .aload_n 0), (76, .getfield 181), (79, .if_icmp .ge (29)), (82, .aload_n 0), (83, .getfield 34), (86, .bipush (12)), (88, .aload_n 0), (89, .getfield 212), (92, .imul), (93, .iload_n 2), (94, .iadd), (95, .aload_n 0), (96, .getfield 49), (99, .iload_n 2), (100, .iaload), (101, .iastore), (102, .iinc 2 (1)), (105, .goto (-31)), (108, .aload_n 0), (109, .dup), (110, .getfield 212), (113, .iconst (1)), (114, .iadd), (115, .putfield 212), (118, .aload_n 0), (119, .bipush (-2)), (121, .aload_n 0), (122, .getfield 212), (125, .iconst (1)), (126, .isub), (127, .iload_n 1), (128, .invokevirtual 204), (131, .ireturn)]
def xt_c62 : List (Nat × Instr) := xt_c62_0 ++ (xt_c62_1)
/-- 63: ClauseKernelModel.spelled(IIZ)I -/
def xt_c63 : List (Nat × Instr) := [(0, .iconst (5)), (1, .istore 4), (3, .iconst (0)), (4, .istore 5), (6, .iload 5), (8, .iload_n 2), (9, .if_icmp .ge (41)), (12, .sipush (131)), (15, .iload 4), (17, .imul), (18, .iload_n 3), (19, .ifCond .eq (13)), (22, .aload_n 0), (23, .getfield 49), (26, .iload 5), (28, .iaload), (29, .goto (12)), (32, .aload_n 0), (33, .getfield 34), (36, .iload_n 1), (37, .iload 5), (39, .iadd), (40, .iaload), (41, .iadd), (42, .istore 4), (44, .iinc 5 (1)), (47, .goto (-41)), (50, .iload 4), (52, .sipush (8191)), (55, .iand), (56, .ireturn)]
/-- 64: ClauseKernelModel.isWord(I)Z -/
def xt_c64 : List (Nat × Instr) := [(0, .aload_n 0), (1, .getfield 37), (4, .iload_n 1), (5, .iaload), (6, .aload_n 0), (7, .getfield 181), (10, .if_icmp .ne (7)), (13, .iconst (1)), (14, .goto (4)), (17, .iconst (0)), (18, .istore_n 2), (19, .iconst (0)), (20, .istore_n 3), (21, .iload_n 3), (22, .aload_n 0), (23, .getfield 181), (26, .if_icmp .ge (39)), (29, .iload_n 2), (30, .ifCond .eq (35)), (33, .aload_n 0), (34, .getfield 34), (37, .bipush (12)), (39, .iload_n 1), (40, .imul), (41, .iload_n 3), (42, .iadd), (43, .iaload), (44, .aload_n 0), (45, .getfield 49), (48, .iload_n 3), (49, .iaload), (50, .if_icmp .ne (7)), (53, .iconst (1)), (54, .goto (4)), (57, .iconst (0)), (58, .istore_n 2), (59, .iinc 3 (1)), (62, .goto (-41)), (65, .iload_n 2), (66, .ireturn)]
/-- 65: ClauseKernelModel.added(III)I -/
def xt_c65_0 : List (Nat × Instr) := [(0, .aload_n 0), (1, .getfield 8), (4, .aload_n 0), (5, .getfield 201), (8, .iload_n 1), (9, .iastore), (10, .aload_n 0), (11, .getfield 14), (14, .aload_n 0), (15, .getfield 201), (18, .iload_n 2), (19, .iastore), (20, .aload_n 0), (21, .getfield 17), (24, .aload_n 0), (25, .getfield 201), (28, .aload_n 0), (29, .getfield 30), (32, .iload_n 3), (33, .iaload), (34, .iastore), (35, .aload_n 0), (36, .getfield 20), (39, .aload_n 0), (40, .getfield 201), (43, .iconst (0)), (44, .iastore), (45, .aload_n 0), (46, .getfield 23), (49, .aload_n 0), (50, .getfield 201), (53, .iload_n 1), (54, .ifCond .ge (7)), (57, .iconst (0)), (58, .goto (35)), (61, .iconst (1)), (62, .aload_n 0), (63, .getfield 23), (66, .iload_n 1), (67, .iaload)]
def xt_c65_1 : List (Nat × Instr) := [(68, .aload_n 0), (69, .getfield 23), (72, .iload_n 2), (73, .iaload), (74, .if_icmp .le (12)), (77, .aload_n 0), (78, .getfield 23), (81, .iload_n 1), (82, .iaload), (83, .goto (9)), (86, .aload_n 0), (87, .getfield 23), (90, .iload_n 2), (91, .iaload), (92, .iadd), (93, .iastore), (94, .aload_n 0), (95, .getfield 30), (98, .iload_n 3), (99, .aload_n 0), (100, .getfield 201), (103, .iastore), (104, .aload_n 0), (105, .dup), (106, .getfield 201), (109, .iconst (1)), (110, .iadd), (111, .putfield 201), (114, .aload_n 0), (115, .getfield 201), (118, .iconst (1)), (119, .isub), (120, .ireturn)]
def xt_c65 : List (Nat × Instr) := xt_c65_0 ++ (xt_c65_1)
/-- 66: ClauseKernelModel.feed(IIIII)V -/
def xt_c66_0 : List (Nat × Instr) := [(0, .iconst (0)), (1, .istore 6), (3, .iload 6), (5, .iconst (4)), (6, .if_icmp .ge (127)), (9, .aload_n 0), (10, .getfield 40), (13, .iload 6), (15, .iload_n 1), (16, .bipush (24)), (18, .bipush (8)), (20, .iload 6), (22, .imul), (23, .isub), (24, .ishr), (25, .sipush (255)), (28, .iand), (29, .iastore), (30, .aload_n 0), (31, .getfield 40), (34, .iconst (4)), (35, .iload 6), (37, .iadd), (38, .iload_n 2), (39, .bipush (24)), (41, .bipush (8)), (43, .iload 6), (45, .imul), (46, .isub), (47, .ishr), (48, .sipush (255)), (51, .iand), (52, .iastore), (53, .aload_n 0), (54, .getfield 40), (57, .bipush (8)), (59, .iload 6), (61, .iadd), (62, .iload_n 3), (63, .bipush (24))]
def xt_c66_1 : List (Nat × Instr) := [(65, .bipush (8)), (67, .iload 6), (69, .imul), (70, .isub), (71, .ishr), (72, .sipush (255)), (75, .iand), (76, .iastore), (77, .aload_n 0), (78, .getfield 40), (81, .bipush (12)), (83, .iload 6), (85, .iadd), (86, .iload 4), (88, .bipush (24)), (90, .bipush (8)), (92, .iload 6), (94, .imul), (95, .isub), (96, .ishr), (97, .sipush (255)), (100, .iand), (101, .iastore), (102, .aload_n 0), (103, .getfield 40), (106, .bipush (16)), (108, .iload 6), (110, .iadd), (111, .iload 5), (113, .bipush (24)), (115, .bipush (8)), (117, .iload 6), (119, .imul), (120, .isub), (121, .ishr), (122, .sipush (255)), (125, .iand), (126, .iastore), (127, .iinc 6 (1)), (130, .goto (-127))]
def xt_c66_2 : List (Nat × Instr) := [(133, .return_)]
def xt_c66 : List (Nat × Instr) := xt_c66_0 ++ (xt_c66_1 ++ (xt_c66_2))
/-- 67: ClauseKernelModel.end(I)I -/
def xt_c67_0 : List (Nat × Instr) := [(0, .iload_n 1), (1, .ifCond .lt (21)), (4, .iload_n 1), (5, .bipush (20)), (7, .if_icmp .gt (15)), (10, .aload_n 0), (11, .getfield 240), (14, .iload_n 1), (15, .iadd), (16, .sipush (3000)), (19, .if_icmp .le (5)), (22, .iconst (-1)), (23, .ireturn), (24, .iconst (0)), (25, .istore_n 2), (26, .iload_n 2), (27, .iload_n 1), (28, .if_icmp .ge (26)), (31, .aload_n 0), (32, .getfield 43), (35, .aload_n 0), (36, .getfield 240), (39, .iload_n 2), (40, .iadd), (41, .aload_n 0), (42, .getfield 40), (45, .iload_n 2), (46, .iaload), (47, .iastore), (48, .iinc 2 (1)), (51, .goto (-25)), (54, .aload_n 0), (55, .dup), (56, .getfield 240), (59, .iload_n 1), (60, .iadd), (61, .putfield 240), (64, .iconst (0)), (65, .istore_n 2), (66, .iload_n 2)]
def xt_c67_1 : List (Nat × Instr) := [(67, .bipush (20)), (69, .if_icmp .ge (16)), (72, .aload_n 0), (73, .getfield 40), (76, .iload_n 2), (77, .iconst (0)), (78, .iastore), (79, .iinc 2 (1)), (82, .goto (-16)), (85, .aload_n 0), (86, .getfield 240), (89, .ireturn)]
def xt_c67 : List (Nat × Instr) := xt_c67_0 ++ (xt_c67_1)
/-- 68: ClauseKernelModel.fuel(I)I -/
def xt_c68 : List (Nat × Instr) := [(0, .iload_n 1), (1, .iconst (1)), (2, .if_icmp .lt (10)), (5, .iload_n 1), (6, .sipush (1000)), (9, .if_icmp .le (5)), (12, .iconst (-1)), (13, .ireturn), (14, .aload_n 0), (15, .getfield 105), (18, .istore_n 2), (19, .aload_n 0), (20, .iload_n 1), (21, .putfield 105), (24, .iload_n 2), (25, .ireturn)]
/-- 69: ClauseKernelModel.run()I -/
def xt_c69_0 : List (Nat × Instr) := [(0, .aload_n 0), (1, .iconst (0)), (2, .putfield 418), (5, .aload_n 0), (6, .iconst (0)), (7, .putfield 337), (10, .aload_n 0), (11, .iconst (0)), (12, .putfield 301), (15, .aload_n 0), (16, .aload_n 0), (17, .getfield 201), (20, .putfield 505), (23, .aload_n 0), (24, .invokevirtual 627), (27, .ifCond .ne (13)), (30, .aload_n 0), (31, .aload_n 0), (32, .getfield 505), (35, .invokevirtual 495), (38, .iconst (1)), (39, .ireturn), (40, .aload_n 0), (41, .getfield 502), (44, .istore_n 1), (45, .aload_n 0), (46, .aload_n 0), (47, .getfield 256), (50, .invokevirtual 630), (53, .istore_n 2), (54, .aload_n 0), (55, .iconst (-1)), (56, .putfield 102), (59, .aload_n 0), (60, .getfield 502), (63, .iload_n 1), (64, .if_icmp .gt (11)), (67, .aload_n 0), (68, .aload_n 0), (69, .getfield 505)]
def xt_c69_1 : List (Nat × Instr) := [(72, .invokevirtual 495), (75, .iload_n 2), (76, .ireturn)]
def xt_c69 : List (Nat × Instr) := xt_c69_0 ++ (xt_c69_1)
/-- 70: ClauseKernelModel.reads()Z -/
def xt_c70_0 : List (Nat × Instr) := [(0, .aload_n 0), (1, .iconst (0)), (2, .putfield 237), (5, .aload_n 0), (6, .iconst (0)), (7, .putfield 246), (10, .aload_n 0), (11, .iconst (0)), (12, .putfield 253), (15, .aload_n 0), (16, .iconst (0)), (17, .putfield 249), (20, .aload_n 0), (21, .iconst (0)), (22, .putfield 243), (25, .aload_n 0), (26, .iconst (-1)), (27, .putfield 55), (30, .iconst (0)), (31, .istore_n 1), (32, .aload_n 0), (33, .invokevirtual 295), (36, .aload_n 0), (37, .getfield 243), (40, .ifCond .ne (29)), (43, .aload_n 0), (44, .getfield 237), (47, .aload_n 0), (48, .getfield 240), (51, .if_icmp .ge (18)), (54, .iinc 1 (1)), (57, .aload_n 0), (58, .iload_n 1), (59, .invokevirtual 298), (62, .aload_n 0), (63, .invokevirtual 295), (66, .goto (-30)), (69, .aload_n 0), (70, .getfield 243), (73, .ifCond .ne (19))]
def xt_c70_1 : List (Nat × Instr) := [(76, .aload_n 0), (77, .getfield 249), (80, .ifCond .ne (12)), (83, .aload_n 0), (84, .iconst (3)), (85, .aload_n 0), (86, .getfield 240), (89, .invokevirtual 276), (92, .aload_n 0), (93, .iconst (0)), (94, .putfield 240), (97, .aload_n 0), (98, .getfield 243), (101, .ifCond .ne (7)), (104, .iconst (1)), (105, .goto (4)), (108, .iconst (0)), (109, .ireturn)]
def xt_c70 : List (Nat × Instr) := xt_c70_0 ++ (xt_c70_1)
/-- 71: ClauseKernelModel.skip()V -/
def xt_c71_0 : List (Nat × Instr) := [(0, .iconst (1)), (1, .istore_n 1), (2, .iload_n 1), (3, .ifCond .eq (112)), (6, .aload_n 0), (7, .getfield 237), (10, .aload_n 0), (11, .getfield 240), (14, .if_icmp .ge (101)), (17, .aload_n 0), (18, .getfield 43), (21, .aload_n 0), (22, .getfield 237), (25, .iaload), (26, .bipush (59)), (28, .if_icmp .ne (41)), (31, .aload_n 0), (32, .getfield 237), (35, .aload_n 0), (36, .getfield 240), (39, .if_icmp .ge (-37)), (42, .aload_n 0), (43, .getfield 43), (46, .aload_n 0), (47, .getfield 237), (50, .iaload), (51, .bipush (10)), (53, .if_icmp .eq (-51)), (56, .aload_n 0), (57, .dup), (58, .getfield 237), (61, .iconst (1)), (62, .iadd), (63, .putfield 237), (66, .goto (-35)), (69, .aload_n 0), (70, .getfield 43), (73, .aload_n 0), (74, .getfield 237), (77, .iaload)]
def xt_c71_1 : List (Nat × Instr) := [(78, .bipush (32)), (80, .if_icmp .eq (17)), (83, .aload_n 0), (84, .getfield 43), (87, .aload_n 0), (88, .getfield 237), (91, .iaload), (92, .bipush (10)), (94, .if_icmp .ne (16)), (97, .aload_n 0), (98, .dup), (99, .getfield 237), (102, .iconst (1)), (103, .iadd), (104, .putfield 237), (107, .goto (-105)), (110, .iconst (0)), (111, .istore_n 1), (112, .goto (-110)), (115, .return_)]
def xt_c71 : List (Nat × Instr) := xt_c71_0 ++ (xt_c71_1)
/-- 72: ClauseKernelModel.bad(II)V -/
def xt_c72 : List (Nat × Instr) := [(0, .aload_n 0), (1, .getfield 243), (4, .ifCond .eq (4)), (7, .return_), (8, .aload_n 0), (9, .iload_n 1), (10, .putfield 243), (13, .aload_n 0), (14, .iload_n 2), (15, .putfield 55), (18, .return_)]
/-- 73: ClauseKernelModel.forget(I)V -/
def xt_c73 : List (Nat × Instr) := [(0, .aload_n 0), (1, .getfield 201), (4, .iload_n 1), (5, .if_icmp .le (62)), (8, .aload_n 0), (9, .dup), (10, .getfield 201), (13, .iconst (1)), (14, .isub), (15, .putfield 201), (18, .aload_n 0), (19, .getfield 30), (22, .aload_n 0), (23, .aload_n 0), (24, .getfield 201), (27, .invokevirtual 215), (30, .aload_n 0), (31, .getfield 17), (34, .aload_n 0), (35, .getfield 201), (38, .iaload), (39, .iastore), (40, .aload_n 0), (41, .getfield 8), (44, .aload_n 0), (45, .getfield 201), (48, .iaload), (49, .bipush (-2)), (51, .if_icmp .ne (-51)), (54, .aload_n 0), (55, .dup), (56, .getfield 212), (59, .iconst (1)), (60, .isub), (61, .putfield 212), (64, .goto (-64)), (67, .return_)]
/-- 74: ClauseKernelModel.fault(I)I -/
def xt_c74 : List (Nat × Instr) := [(0, .iload_n 1), (1, .ifCond .ne (10)), (4, .aload_n 0), (5, .getfield 243), (8, .goto (28)), (11, .iload_n 1), (12, .iconst (1)), (13, .if_icmp .ne (10)), (16, .aload_n 0), (17, .getfield 55), (20, .goto (16)), (23, .iload_n 1), (24, .iconst (2)), (25, .if_icmp .ne (10)), (28, .aload_n 0), (29, .getfield 337), (32, .goto (4)), (35, .iconst (-1)), (36, .ireturn)]
/-- 75: ClauseKernelModel.steps()I -/
def xt_c75 : List (Nat × Instr) := [(0, .aload_n 0), (1, .getfield 418), (4, .ireturn)]
/-- 76: ClauseKernelModel.count(I)I -/
def xt_c76 : List (Nat × Instr) := [(0, .iload_n 1), (1, .ifCond .ne (10)), (4, .aload_n 0), (5, .getfield 331), (8, .goto (28)), (11, .iload_n 1), (12, .iconst (1)), (13, .if_icmp .ne (10)), (16, .aload_n 0), (17, .getfield 459), (20, .goto (16)), (23, .iload_n 1), (24, .iconst (2)), (25, .if_icmp .ne (10)), (28, .aload_n 0), (29, .getfield 612), (32, .goto (4)), (35, .iconst (-1)), (36, .ireturn)]
/-- 77: ClauseKernelModel.size()I -/
def xt_c77 : List (Nat × Instr) := [(0, .aload_n 0), (1, .getfield 301), (4, .ireturn)]
/-- 78: ClauseKernelModel.letter(I)I -/
def xt_c78 : List (Nat × Instr) := [(0, .iload_n 1), (1, .ifCond .lt (20)), (4, .iload_n 1), (5, .aload_n 0), (6, .getfield 301), (9, .if_icmp .ge (12)), (12, .aload_n 0), (13, .getfield 46), (16, .iload_n 1), (17, .iaload), (18, .goto (4)), (21, .iconst (-1)), (22, .ireturn)]
/-- 79: ClauseKernelModel.tell(I)I -/
def xt_c79_0 : List (Nat × Instr) := [(0, .iload_n 1), (1, .ifCond .lt (11)), (4, .iload_n 1), (5, .aload_n 0), (6, .getfield 502), (9, .if_icmp .lt (5)), (12, .iconst (-1)), (13, .ireturn), (14, .aload_n 0), (15, .getfield 201), (18, .istore_n 2), (19, .iconst (0)), (20, .istore_n 3), (21, .iconst (0)), (22, .istore 4), (24, .iload 4), (26, .iload_n 1), (27, .if_icmp .ge (33)), (30, .iload_n 3), (31, .aload_n 0), (32, .getfield 96), (35, .iload 4), (37, .baload), (38, .aload_n 0), (39, .getfield 96), (42, .iload_n 1), (43, .baload), (44, .if_icmp .ne (7)), (47, .iconst (1)), (48, .goto (4)), (51, .iconst (0)), (52, .iadd), (53, .istore_n 3), (54, .iinc 4 (1)), (57, .goto (-33)), (60, .aload_n 0), (61, .getfield 96), (64, .iload_n 1), (65, .baload), (66, .ifCond .eq (74))]
def xt_c79_1 : List (Nat × Instr) := [(69, .iconst (0)), (70, .istore 4), (72, .aload_n 0), (73, .getfield 77), (76, .iload_n 3), (77, .iaload), (78, .iconst (1)), (79, .isub), (80, .istore 5), (82, .iload 5), (84, .ifCond .lt (29)), (87, .aload_n 0), (88, .aload_n 0), (89, .getfield 80), (92, .bipush (6)), (94, .iload_n 3), (95, .imul), (96, .iload 5), (98, .iadd), (99, .iaload), (100, .iload 4), (102, .invokevirtual 219), (105, .istore 4), (107, .iinc 5 (-1)), (110, .goto (-28)), (113, .aload_n 0), (114, .aload_n 0), (115, .bipush (17)), (117, .aload_n 0), (118, .getfield 74), (121, .iload_n 3), (122, .iaload), (123, .iload 4), (125, .aload_n 0), (126, .getfield 83), (129, .iload_n 3), (130, .iaload), (131, .invokevirtual 633), (134, .invokevirtual 603), (137, .goto (25))]
def xt_c79_2 : List (Nat × Instr) := [(140, .aload_n 0), (141, .aload_n 0), (142, .bipush (18)), (144, .aload_n 0), (145, .getfield 90), (148, .iload_n 3), (149, .iaload), (150, .aload_n 0), (151, .getfield 93), (154, .iload_n 3), (155, .iaload), (156, .invokevirtual 228), (159, .invokevirtual 603), (162, .aload_n 0), (163, .iload_n 2), (164, .invokevirtual 495), (167, .aload_n 0), (168, .getfield 301), (171, .ireturn)]
def xt_c79 : List (Nat × Instr) := xt_c79_0 ++ (xt_c79_1 ++ (xt_c79_2))
def xt_code (k : Nat) : List (Nat × Instr) := match k with
  | 0 => xt_c0
  | 1 => xt_c1
  | 2 => xt_c2
  | 3 => xt_c3
  | 4 => xt_c4
  | 5 => xt_c5
  | 6 => xt_c6
  | 7 => xt_c7
  | 8 => xt_c8
  | 9 => xt_c9
  | 10 => xt_c10
  | 11 => xt_c11
  | 12 => xt_c12
  | 13 => xt_c13
  | 14 => xt_c14
  | 15 => xt_c15
  | 16 => xt_c16
  | 17 => xt_c17
  | 18 => xt_c18
  | 19 => xt_c19
  | 20 => xt_c20
  | 21 => xt_c21
  | 22 => xt_c22
  | 23 => xt_c23
  | 24 => xt_c24
  | 25 => xt_c25
  | 26 => xt_c26
  | 27 => xt_c27
  | 28 => xt_c28
  | 29 => xt_c29
  | 30 => xt_c30
  | 31 => xt_c31
  | 32 => xt_c32
  | 33 => xt_c33
  | 34 => xt_c34
  | 35 => xt_c35
  | 36 => xt_c36
  | 37 => xt_c37
  | 38 => xt_c38
  | 39 => xt_c39
  | 40 => xt_c40
  | 41 => xt_c41
  | 42 => xt_c42
  | 43 => xt_c43
  | 44 => xt_c44
  | 45 => xt_c45
  | 46 => xt_c46
  | 47 => xt_c47
  | 48 => xt_c48
  | 49 => xt_c49
  | 50 => xt_c50
  | 51 => xt_c51
  | 52 => xt_c52
  | 53 => xt_c53
  | 54 => xt_c54
  | 55 => xt_c55
  | 56 => xt_c56
  | 57 => xt_c57
  | 58 => xt_c58
  | 59 => xt_c59
  | 60 => xt_c60
  | 61 => xt_c61
  | 62 => xt_c62
  | 63 => xt_c63
  | 64 => xt_c64
  | 65 => xt_c65
  | 66 => xt_c66
  | 67 => xt_c67
  | 68 => xt_c68
  | 69 => xt_c69
  | 70 => xt_c70
  | 71 => xt_c71
  | 72 => xt_c72
  | 73 => xt_c73
  | 74 => xt_c74
  | 75 => xt_c75
  | 76 => xt_c76
  | 77 => xt_c77
  | 78 => xt_c78
  | 79 => xt_c79
  | _ => []
def xt_nm (k : Nat) : MethodName := match k with
  | 0 => ⟨"ClauseKernelLaw", "law", "([I)Z"⟩
  | 1 => ⟨"ClauseKernel", "<init>", "()V"⟩
  | 2 => ⟨"ClauseKernel$Row", "<init>", "(I)V"⟩
  | 3 => ⟨"ClauseKernel$Cells", "<init>", "()V"⟩
  | 4 => ⟨"java/util/Arrays", "fill", "([II)V"⟩
  | 5 => ⟨"ClauseKernel$Cells", "addNames", "(Ljava/lang/String;)V"⟩
  | 6 => ⟨"java/lang/String", "length", "()I"⟩
  | 7 => ⟨"java/lang/String", "coder", "()B"⟩
  | 8 => ⟨"java/lang/String", "charAt", "(I)C"⟩
  | 9 => ⟨"java/lang/String", "isLatin1", "()Z"⟩
  | 10 => ⟨"java/lang/StringLatin1", "charAt", "([BI)C"⟩
  | 11 => ⟨"java/lang/String", "checkIndex", "(II)V"⟩
  | 12 => ⟨"jdk/internal/util/Preconditions", "checkIndex", "(IILjava/util/function/BiFunction;)I"⟩
  | 13 => ⟨"ClauseKernel$Cells", "symbol", "(J)I"⟩
  | 14 => ⟨"ClauseKernel$Cells", "numberOf", "(JI)I"⟩
  | 15 => ⟨"ClauseKernel$Cells", "slot", "(J)I"⟩
  | 16 => ⟨"ClauseKernel$Cells", "longerCode", "(JI)J"⟩
  | 17 => ⟨"java/lang/String", "indexOf", "(I)I"⟩
  | 18 => ⟨"java/lang/String", "indexOf", "(II)I"⟩
  | 19 => ⟨"java/lang/StringLatin1", "indexOf", "([BIII)I"⟩
  | 20 => ⟨"java/lang/StringLatin1", "canEncode", "(I)Z"⟩
  | 21 => ⟨"java/lang/StringLatin1", "indexOfChar", "([BIII)I"⟩
  | 22 => ⟨"ClauseKernel$Reader", "<init>", "(LClauseKernel$Cells;)V"⟩
  | 23 => ⟨"ClauseKernel$Teller", "<init>", "(LClauseKernel$Cells;)V"⟩
  | 24 => ⟨"ClauseKernel$Book", "<init>", "()V"⟩
  | 25 => ⟨"java/util/ArrayList", "<init>", "()V"⟩
  | 26 => ⟨"java/util/AbstractList", "<init>", "()V"⟩
  | 27 => ⟨"java/util/AbstractCollection", "<init>", "()V"⟩
  | 28 => ⟨"ClauseKernel$Terms", "<init>", "(LClauseKernel$Cells;LClauseKernel$Book;)V"⟩
  | 29 => ⟨"ClauseKernel$Prover", "<init>", "(LClauseKernel$Cells;LClauseKernel$Book;LClauseKernel$Terms;)V"⟩
  | 30 => ⟨"ClauseKernel$Paths", "<init>", "(LClauseKernel$Terms;)V"⟩
  | 31 => ⟨"ClauseKernel$Cells", "length", "()I"⟩
  | 32 => ⟨"ClauseKernel", "feed", "(IIIII)V"⟩
  | 33 => ⟨"ClauseKernel", "end", "(I)I"⟩
  | 34 => ⟨"ClauseKernel$Row", "length", "()I"⟩
  | 35 => ⟨"ClauseKernel$Row", "add", "(I)V"⟩
  | 36 => ⟨"ClauseKernel", "fuel", "(I)I"⟩
  | 37 => ⟨"ClauseKernel", "run", "()I"⟩
  | 38 => ⟨"ClauseKernel$Teller", "clear", "()V"⟩
  | 39 => ⟨"ClauseKernel$Row", "cut", "(I)V"⟩
  | 40 => ⟨"ClauseKernel$Reader", "read", "(LClauseKernel$Row;)I"⟩
  | 41 => ⟨"ClauseKernel$Reader", "begin", "()V"⟩
  | 42 => ⟨"ClauseKernel$Reader", "skipBlanks", "(LClauseKernel$Row;)V"⟩
  | 43 => ⟨"ClauseKernel$Row", "at", "(I)I"⟩
  | 44 => ⟨"ClauseKernel$Row", "last", "()I"⟩
  | 45 => ⟨"ClauseKernel", "kindOf", "(I)I"⟩
  | 46 => ⟨"ClauseKernel$Book", "functions", "()I"⟩
  | 47 => ⟨"java/util/ArrayList", "size", "()I"⟩
  | 48 => ⟨"ClauseKernel$Book", "theorems", "()I"⟩
  | 49 => ⟨"ClauseKernel$Cells", "release", "(I)V"⟩
  | 50 => ⟨"ClauseKernel", "fault", "(I)I"⟩
  | 51 => ⟨"ClauseKernel", "steps", "()I"⟩
  | 52 => ⟨"ClauseKernel", "count", "(I)I"⟩
  | 53 => ⟨"ClauseKernel", "size", "()I"⟩
  | 54 => ⟨"ClauseKernel$Teller", "length", "()I"⟩
  | 55 => ⟨"ClauseKernel", "letter", "(I)I"⟩
  | 56 => ⟨"ClauseKernel$Teller", "at", "(I)I"⟩
  | 57 => ⟨"ClauseKernel", "tell", "(I)I"⟩
  | 58 => ⟨"ClauseKernel$Book", "thing", "(I)LClauseKernel$Thing;"⟩
  | 59 => ⟨"ClauseKernelModel", "<init>", "()V"⟩
  | 60 => ⟨"ClauseKernelModel", "said", "(IIIIIIII)V"⟩
  | 61 => ⟨"ClauseKernelModel", "spell", "(I)V"⟩
  | 62 => ⟨"ClauseKernelModel", "symbol", "()I"⟩
  | 63 => ⟨"ClauseKernelModel", "spelled", "(IIZ)I"⟩
  | 64 => ⟨"ClauseKernelModel", "isWord", "(I)Z"⟩
  | 65 => ⟨"ClauseKernelModel", "added", "(III)I"⟩
  | 66 => ⟨"ClauseKernelModel", "feed", "(IIIII)V"⟩
  | 67 => ⟨"ClauseKernelModel", "end", "(I)I"⟩
  | 68 => ⟨"ClauseKernelModel", "fuel", "(I)I"⟩
  | 69 => ⟨"ClauseKernelModel", "run", "()I"⟩
  | 70 => ⟨"ClauseKernelModel", "reads", "()Z"⟩
  | 71 => ⟨"ClauseKernelModel", "skip", "()V"⟩
  | 72 => ⟨"ClauseKernelModel", "bad", "(II)V"⟩
  | 73 => ⟨"ClauseKernelModel", "forget", "(I)V"⟩
  | 74 => ⟨"ClauseKernelModel", "fault", "(I)I"⟩
  | 75 => ⟨"ClauseKernelModel", "steps", "()I"⟩
  | 76 => ⟨"ClauseKernelModel", "count", "(I)I"⟩
  | 77 => ⟨"ClauseKernelModel", "size", "()I"⟩
  | 78 => ⟨"ClauseKernelModel", "letter", "(I)I"⟩
  | 79 => ⟨"ClauseKernelModel", "tell", "(I)I"⟩
  | _ => ⟨"", "", ""⟩
def xt_bt (k : Nat) : ByteArray := match k with
  | 0 => code
  | 1 => prog_1_method_1_code
  | 2 => prog_8_method_1_code
  | 3 => prog_3_method_1_code
  | 4 => prog_27_method_103_code
  | 5 => prog_3_method_2_code
  | 6 => prog_20_method_54_code
  | 7 => prog_20_method_152_code
  | 8 => prog_20_method_56_code
  | 9 => prog_20_method_154_code
  | 10 => prog_21_method_2_code
  | 11 => prog_20_method_155_code
  | 12 => prog_34_method_11_code
  | 13 => prog_3_method_6_code
  | 14 => prog_3_method_8_code
  | 15 => prog_3_method_9_code
  | 16 => prog_3_method_3_code
  | 17 => prog_20_method_79_code
  | 18 => prog_20_method_80_code
  | 19 => prog_21_method_22_code
  | 20 => prog_21_method_4_code
  | 21 => prog_21_method_23_code
  | 22 => prog_7_method_1_code
  | 23 => prog_9_method_1_code
  | 24 => prog_2_method_1_code
  | 25 => prog_26_method_2_code
  | 26 => prog_25_method_1_code
  | 27 => prog_24_method_1_code
  | 28 => prog_11_method_1_code
  | 29 => prog_6_method_1_code
  | 30 => prog_5_method_1_code
  | 31 => prog_3_method_4_code
  | 32 => prog_1_method_2_code
  | 33 => prog_1_method_3_code
  | 34 => prog_8_method_2_code
  | 35 => prog_8_method_5_code
  | 36 => prog_1_method_4_code
  | 37 => prog_1_method_5_code
  | 38 => prog_9_method_2_code
  | 39 => prog_8_method_8_code
  | 40 => prog_7_method_2_code
  | 41 => prog_7_method_3_code
  | 42 => prog_7_method_4_code
  | 43 => prog_8_method_3_code
  | 44 => prog_8_method_4_code
  | 45 => prog_1_method_12_code
  | 46 => prog_2_method_2_code
  | 47 => prog_26_method_8_code
  | 48 => prog_2_method_3_code
  | 49 => prog_3_method_10_code
  | 50 => prog_1_method_6_code
  | 51 => prog_1_method_7_code
  | 52 => prog_1_method_8_code
  | 53 => prog_1_method_9_code
  | 54 => prog_9_method_3_code
  | 55 => prog_1_method_10_code
  | 56 => prog_9_method_4_code
  | 57 => prog_1_method_11_code
  | 58 => prog_2_method_4_code
  | 59 => prog_14_method_1_code
  | 60 => prog_14_method_3_code
  | 61 => prog_14_method_4_code
  | 62 => prog_14_method_12_code
  | 63 => prog_14_method_7_code
  | 64 => prog_14_method_11_code
  | 65 => prog_14_method_8_code
  | 66 => prog_14_method_116_code
  | 67 => prog_14_method_117_code
  | 68 => prog_14_method_118_code
  | 69 => prog_14_method_119_code
  | 70 => prog_14_method_34_code
  | 71 => prog_14_method_25_code
  | 72 => prog_14_method_26_code
  | 73 => prog_14_method_13_code
  | 74 => prog_14_method_120_code
  | 75 => prog_14_method_121_code
  | 76 => prog_14_method_122_code
  | 77 => prog_14_method_123_code
  | 78 => prog_14_method_124_code
  | 79 => prog_14_method_125_code
  | _ => ⟨#[]⟩
def xt_own (k : Nat) : Nat := match k with
  | 0 => 0
  | 1 => 1
  | 2 => 2
  | 3 => 3
  | 4 => 4
  | 5 => 3
  | 6 => 5
  | 7 => 5
  | 8 => 5
  | 9 => 5
  | 10 => 6
  | 11 => 5
  | 12 => 7
  | 13 => 3
  | 14 => 3
  | 15 => 3
  | 16 => 3
  | 17 => 5
  | 18 => 5
  | 19 => 6
  | 20 => 6
  | 21 => 6
  | 22 => 8
  | 23 => 9
  | 24 => 10
  | 25 => 11
  | 26 => 12
  | 27 => 13
  | 28 => 14
  | 29 => 15
  | 30 => 16
  | 31 => 3
  | 32 => 1
  | 33 => 1
  | 34 => 2
  | 35 => 2
  | 36 => 1
  | 37 => 1
  | 38 => 9
  | 39 => 2
  | 40 => 8
  | 41 => 8
  | 42 => 8
  | 43 => 2
  | 44 => 2
  | 45 => 1
  | 46 => 10
  | 47 => 11
  | 48 => 10
  | 49 => 3
  | 50 => 1
  | 51 => 1
  | 52 => 1
  | 53 => 1
  | 54 => 9
  | 55 => 1
  | 56 => 9
  | 57 => 1
  | 58 => 10
  | 59 => 17
  | 60 => 17
  | 61 => 17
  | 62 => 17
  | 63 => 17
  | 64 => 17
  | 65 => 17
  | 66 => 17
  | 67 => 17
  | 68 => 17
  | 69 => 17
  | 70 => 17
  | 71 => 17
  | 72 => 17
  | 73 => 17
  | 74 => 17
  | 75 => 17
  | 76 => 17
  | 77 => 17
  | 78 => 17
  | 79 => 17
  | _ => 0
def xt_nl (k : Nat) : Nat := match k with
  | 0 => 4
  | 1 => 1
  | 2 => 2
  | 3 => 1
  | 4 => 4
  | 5 => 5
  | 6 => 1
  | 7 => 1
  | 8 => 2
  | 9 => 1
  | 10 => 2
  | 11 => 2
  | 12 => 3
  | 13 => 3
  | 14 => 7
  | 15 => 2
  | 16 => 3
  | 17 => 2
  | 18 => 3
  | 19 => 4
  | 20 => 1
  | 21 => 6
  | 22 => 2
  | 23 => 2
  | 24 => 1
  | 25 => 1
  | 26 => 1
  | 27 => 1
  | 28 => 3
  | 29 => 4
  | 30 => 2
  | 31 => 1
  | 32 => 6
  | 33 => 3
  | 34 => 1
  | 35 => 2
  | 36 => 3
  | 37 => 3
  | 38 => 1
  | 39 => 2
  | 40 => 5
  | 41 => 1
  | 42 => 4
  | 43 => 2
  | 44 => 1
  | 45 => 4
  | 46 => 1
  | 47 => 1
  | 48 => 1
  | 49 => 3
  | 50 => 2
  | 51 => 1
  | 52 => 2
  | 53 => 1
  | 54 => 1
  | 55 => 2
  | 56 => 2
  | 57 => 4
  | 58 => 2
  | 59 => 2
  | 60 => 10
  | 61 => 2
  | 62 => 3
  | 63 => 6
  | 64 => 4
  | 65 => 4
  | 66 => 7
  | 67 => 3
  | 68 => 3
  | 69 => 3
  | 70 => 2
  | 71 => 2
  | 72 => 3
  | 73 => 2
  | 74 => 2
  | 75 => 1
  | 76 => 2
  | 77 => 1
  | 78 => 2
  | 79 => 6
  | _ => 0
def xt_ini (k : Nat) : Bool := match k with
  | 0 => false
  | 1 => true
  | 2 => true
  | 3 => true
  | 4 => false
  | 5 => false
  | 6 => false
  | 7 => false
  | 8 => false
  | 9 => false
  | 10 => false
  | 11 => false
  | 12 => false
  | 13 => false
  | 14 => false
  | 15 => false
  | 16 => false
  | 17 => false
  | 18 => false
  | 19 => false
  | 20 => false
  | 21 => false
  | 22 => true
  | 23 => true
  | 24 => true
  | 25 => true
  | 26 => true
  | 27 => true
  | 28 => true
  | 29 => true
  | 30 => true
  | 31 => false
  | 32 => false
  | 33 => false
  | 34 => false
  | 35 => false
  | 36 => false
  | 37 => false
  | 38 => false
  | 39 => false
  | 40 => false
  | 41 => false
  | 42 => false
  | 43 => false
  | 44 => false
  | 45 => false
  | 46 => false
  | 47 => false
  | 48 => false
  | 49 => false
  | 50 => false
  | 51 => false
  | 52 => false
  | 53 => false
  | 54 => false
  | 55 => false
  | 56 => false
  | 57 => false
  | 58 => false
  | 59 => true
  | 60 => false
  | 61 => false
  | 62 => false
  | 63 => false
  | 64 => false
  | 65 => false
  | 66 => false
  | 67 => false
  | 68 => false
  | 69 => false
  | 70 => false
  | 71 => false
  | 72 => false
  | 73 => false
  | 74 => false
  | 75 => false
  | 76 => false
  | 77 => false
  | 78 => false
  | 79 => false
  | _ => false
def xt_ret (k : Nat) : Option FieldType := match k with
  | 0 => (some FieldType.boolean)
  | 1 => none
  | 2 => none
  | 3 => none
  | 4 => none
  | 5 => none
  | 6 => (some FieldType.int)
  | 7 => (some FieldType.byte)
  | 8 => (some FieldType.char)
  | 9 => (some FieldType.boolean)
  | 10 => (some FieldType.char)
  | 11 => none
  | 12 => (some FieldType.int)
  | 13 => (some FieldType.int)
  | 14 => (some FieldType.int)
  | 15 => (some FieldType.int)
  | 16 => (some FieldType.long)
  | 17 => (some FieldType.int)
  | 18 => (some FieldType.int)
  | 19 => (some FieldType.int)
  | 20 => (some FieldType.boolean)
  | 21 => (some FieldType.int)
  | 22 => none
  | 23 => none
  | 24 => none
  | 25 => none
  | 26 => none
  | 27 => none
  | 28 => none
  | 29 => none
  | 30 => none
  | 31 => (some FieldType.int)
  | 32 => none
  | 33 => (some FieldType.int)
  | 34 => (some FieldType.int)
  | 35 => none
  | 36 => (some FieldType.int)
  | 37 => (some FieldType.int)
  | 38 => none
  | 39 => none
  | 40 => (some FieldType.int)
  | 41 => none
  | 42 => none
  | 43 => (some FieldType.int)
  | 44 => (some FieldType.int)
  | 45 => (some FieldType.int)
  | 46 => (some FieldType.int)
  | 47 => (some FieldType.int)
  | 48 => (some FieldType.int)
  | 49 => none
  | 50 => (some FieldType.int)
  | 51 => (some FieldType.int)
  | 52 => (some FieldType.int)
  | 53 => (some FieldType.int)
  | 54 => (some FieldType.int)
  | 55 => (some FieldType.int)
  | 56 => (some FieldType.int)
  | 57 => (some FieldType.int)
  | 58 => (some (FieldType.object "ClauseKernel$Thing"))
  | 59 => none
  | 60 => none
  | 61 => none
  | 62 => (some FieldType.int)
  | 63 => (some FieldType.int)
  | 64 => (some FieldType.boolean)
  | 65 => (some FieldType.int)
  | 66 => none
  | 67 => (some FieldType.int)
  | 68 => (some FieldType.int)
  | 69 => (some FieldType.int)
  | 70 => (some FieldType.boolean)
  | 71 => none
  | 72 => none
  | 73 => none
  | 74 => (some FieldType.int)
  | 75 => (some FieldType.int)
  | 76 => (some FieldType.int)
  | 77 => (some FieldType.int)
  | 78 => (some FieldType.int)
  | 79 => (some FieldType.int)
  | _ => none
def xt_on (o : Nat) : String := match o with
  | 0 => "ClauseKernelLaw"
  | 1 => "ClauseKernel"
  | 2 => "ClauseKernel$Row"
  | 3 => "ClauseKernel$Cells"
  | 4 => "java/util/Arrays"
  | 5 => "java/lang/String"
  | 6 => "java/lang/StringLatin1"
  | 7 => "jdk/internal/util/Preconditions"
  | 8 => "ClauseKernel$Reader"
  | 9 => "ClauseKernel$Teller"
  | 10 => "ClauseKernel$Book"
  | 11 => "java/util/ArrayList"
  | 12 => "java/util/AbstractList"
  | 13 => "java/util/AbstractCollection"
  | 14 => "ClauseKernel$Terms"
  | 15 => "ClauseKernel$Prover"
  | 16 => "ClauseKernel$Paths"
  | 17 => "ClauseKernelModel"
  | _ => ""
/-- class 0: ClauseKernel$Row -/
def xt_T0 : u_T := fun k => match k with
  | 0 => ("ClauseKernel$Row", "kept", "[I", false)
  | _ => ("ClauseKernel$Row", "used", "I", false)
def xt_t0 : Nat → FieldType := fun k => match k with
  | 0 => (.array .int)
  | _ => .int
/-- class 1: ClauseKernel$Cells -/
def xt_T1 : u_T := fun k => match k with
  | 0 => ("ClauseKernel$Cells", "keys", "[J", false)
  | 1 => ("ClauseKernel$Cells", "heights", "[I", false)
  | 2 => ("ClauseKernel$Cells", "nexts", "[I", false)
  | 3 => ("ClauseKernel$Cells", "slots", "[I", true)
  | _ => ("ClauseKernel$Cells", "used", "I", false)
def xt_t1 : Nat → FieldType := fun k => match k with
  | 0 => (.array .long)
  | 1 => (.array .int)
  | 2 => (.array .int)
  | 3 => (.array .int)
  | _ => .int
/-- class 2: ClauseKernel$Reader -/
def xt_T2 : u_T := fun k => match k with
  | 0 => ("ClauseKernel$Reader", "cells", "LClauseKernel$Cells;", true)
  | 1 => ("ClauseKernel$Reader", "states", "LClauseKernel$Row;", true)
  | 2 => ("ClauseKernel$Reader", "starts", "LClauseKernel$Row;", true)
  | 3 => ("ClauseKernel$Reader", "items", "LClauseKernel$Row;", true)
  | 4 => ("ClauseKernel$Reader", "at", "I", false)
  | 5 => ("ClauseKernel$Reader", "words", "I", false)
  | 6 => ("ClauseKernel$Reader", "atom", "I", false)
  | 7 => ("ClauseKernel$Reader", "fault", "I", false)
  | _ => ("ClauseKernel$Reader", "place", "I", false)
def xt_t2 : Nat → FieldType := fun k => match k with
  | 0 => (.object "ClauseKernel$Cells")
  | 1 => (.object "ClauseKernel$Row")
  | 2 => (.object "ClauseKernel$Row")
  | 3 => (.object "ClauseKernel$Row")
  | 4 => .int
  | 5 => .int
  | 6 => .int
  | 7 => .int
  | _ => .int
/-- class 3: ClauseKernel$Teller -/
def xt_T3 : u_T := fun k => match k with
  | 0 => ("ClauseKernel$Teller", "cells", "LClauseKernel$Cells;", true)
  | 1 => ("ClauseKernel$Teller", "out", "LClauseKernel$Row;", true)
  | _ => ("ClauseKernel$Teller", "rests", "LClauseKernel$Row;", true)
def xt_t3 : Nat → FieldType := fun k => match k with
  | 0 => (.object "ClauseKernel$Cells")
  | 1 => (.object "ClauseKernel$Row")
  | _ => (.object "ClauseKernel$Row")
/-- class 4: java/util/ArrayList -/
def xt_T4 : u_T := fun k => match k with
  | 0 => ("java/util/ArrayList", "elementData", "[Ljava/lang/Object;", false)
  | 1 => ("java/util/ArrayList", "size", "I", false)
  | _ => ("java/util/AbstractList", "modCount", "I", false)
def xt_t4 : Nat → FieldType := fun k => match k with
  | 0 => (.array (.object "java/lang/Object"))
  | 1 => .int
  | _ => .int
/-- class 5: ClauseKernel$Book -/
def xt_T5 : u_T := fun k => match k with
  | 0 => ("ClauseKernel$Book", "things", "Ljava/util/ArrayList;", true)
  | 1 => ("ClauseKernel$Book", "functions", "Ljava/util/ArrayList;", true)
  | _ => ("ClauseKernel$Book", "theorems", "Ljava/util/ArrayList;", true)
def xt_t5 : Nat → FieldType := fun k => match k with
  | 0 => (.object "java/util/ArrayList")
  | 1 => (.object "java/util/ArrayList")
  | _ => (.object "java/util/ArrayList")
/-- class 6: ClauseKernel$Terms -/
def xt_T6 : u_T := fun k => match k with
  | 0 => ("ClauseKernel$Terms", "cells", "LClauseKernel$Cells;", true)
  | 1 => ("ClauseKernel$Terms", "book", "LClauseKernel$Book;", true)
  | 2 => ("ClauseKernel$Terms", "row", "LClauseKernel$Row;", true)
  | 3 => ("ClauseKernel$Terms", "todo", "LClauseKernel$Row;", true)
  | 4 => ("ClauseKernel$Terms", "ownName", "I", false)
  | _ => ("ClauseKernel$Terms", "ownCall", "I", false)
def xt_t6 : Nat → FieldType := fun k => match k with
  | 0 => (.object "ClauseKernel$Cells")
  | 1 => (.object "ClauseKernel$Book")
  | 2 => (.object "ClauseKernel$Row")
  | 3 => (.object "ClauseKernel$Row")
  | 4 => .int
  | _ => .int
/-- class 7: ClauseKernel$Paths -/
def xt_T7 : u_T := fun k => match k with
  | _ => ("ClauseKernel$Paths", "terms", "LClauseKernel$Terms;", true)
def xt_t7 : Nat → FieldType := fun k => match k with
  | _ => (.object "ClauseKernel$Terms")
/-- class 8: ClauseKernel$Prover -/
def xt_T8 : u_T := fun k => match k with
  | 0 => ("ClauseKernel$Prover", "cells", "LClauseKernel$Cells;", true)
  | 1 => ("ClauseKernel$Prover", "book", "LClauseKernel$Book;", true)
  | 2 => ("ClauseKernel$Prover", "terms", "LClauseKernel$Terms;", true)
  | 3 => ("ClauseKernel$Prover", "paths", "LClauseKernel$Paths;", true)
  | 4 => ("ClauseKernel$Prover", "fuel", "I", false)
  | 5 => ("ClauseKernel$Prover", "steps", "I", false)
  | 6 => ("ClauseKernel$Prover", "fault", "I", false)
  | _ => ("ClauseKernel$Prover", "wrong", "I", false)
def xt_t8 : Nat → FieldType := fun k => match k with
  | 0 => (.object "ClauseKernel$Cells")
  | 1 => (.object "ClauseKernel$Book")
  | 2 => (.object "ClauseKernel$Terms")
  | 3 => (.object "ClauseKernel$Paths")
  | 4 => .int
  | 5 => .int
  | 6 => .int
  | _ => .int
/-- class 9: ClauseKernel -/
def xt_T9 : u_T := fun k => match k with
  | 0 => ("ClauseKernel", "text", "LClauseKernel$Row;", true)
  | 1 => ("ClauseKernel", "waiting", "[I", true)
  | 2 => ("ClauseKernel", "cells", "LClauseKernel$Cells;", true)
  | 3 => ("ClauseKernel", "reader", "LClauseKernel$Reader;", true)
  | 4 => ("ClauseKernel", "teller", "LClauseKernel$Teller;", true)
  | 5 => ("ClauseKernel", "book", "LClauseKernel$Book;", true)
  | 6 => ("ClauseKernel", "terms", "LClauseKernel$Terms;", true)
  | 7 => ("ClauseKernel", "prover", "LClauseKernel$Prover;", true)
  | 8 => ("ClauseKernel", "fuelNow", "I", false)
  | 9 => ("ClauseKernel", "workFault", "I", false)
  | 10 => ("ClauseKernel", "stepsMade", "I", false)
  | 11 => ("ClauseKernel", "literals", "I", false)
  | 12 => ("ClauseKernel", "keptCells", "I", false)
  | _ => ("ClauseKernel", "told", "I", false)
def xt_t9 : Nat → FieldType := fun k => match k with
  | 0 => (.object "ClauseKernel$Row")
  | 1 => (.array .int)
  | 2 => (.object "ClauseKernel$Cells")
  | 3 => (.object "ClauseKernel$Reader")
  | 4 => (.object "ClauseKernel$Teller")
  | 5 => (.object "ClauseKernel$Book")
  | 6 => (.object "ClauseKernel$Terms")
  | 7 => (.object "ClauseKernel$Prover")
  | 8 => .int
  | 9 => .int
  | 10 => .int
  | 11 => .int
  | 12 => .int
  | _ => .int
/-- class 10: ClauseKernel$Term -/
def xt_T10 : u_T := fun k => match k with
  | _ => ("ClauseKernel$Term", "tokens", "[I", true)
def xt_t10 : Nat → FieldType := fun k => match k with
  | _ => (.array .int)
/-- class 11: ClauseKernel$Thing -/
def xt_T11 : u_T := fun k => match k with
  | 0 => ("ClauseKernel$Thing", "name", "I", true)
  | 1 => ("ClauseKernel$Thing", "call", "I", true)
  | 2 => ("ClauseKernel$Thing", "parameters", "[I", true)
  | 3 => ("ClauseKernel$Thing", "term", "LClauseKernel$Term;", true)
  | _ => ("ClauseKernel$Thing", "cellsBefore", "I", true)
def xt_t11 : Nat → FieldType := fun k => match k with
  | 0 => .int
  | 1 => .int
  | 2 => (.array .int)
  | 3 => (.object "ClauseKernel$Term")
  | _ => .int
/-- class 12: ClauseKernel$Clause -/
def xt_T12 : u_T := fun k => match k with
  | 0 => ("ClauseKernel$Clause", "literals", "[LClauseKernel$Term;", true)
  | 1 => ("ClauseKernel$Clause", "used", "I", false)
  | 2 => ("ClauseKernel$Clause", "sizes", "I", false)
  | _ => ("ClauseKernel$Clause", "tooBig", "Z", false)
def xt_t12 : Nat → FieldType := fun k => match k with
  | 0 => (.array (.object "ClauseKernel$Term"))
  | 1 => .int
  | 2 => .int
  | _ => .boolean
/-- class 13: ClauseKernelModel -/
def xt_T13 : u_T := fun k => match k with
  | 0 => ("ClauseKernelModel", "left", "[I", true)
  | 1 => ("ClauseKernelModel", "right", "[I", true)
  | 2 => ("ClauseKernelModel", "next", "[I", true)
  | 3 => ("ClauseKernelModel", "sizes", "[I", true)
  | 4 => ("ClauseKernelModel", "heights", "[I", true)
  | 5 => ("ClauseKernelModel", "number", "[J", true)
  | 6 => ("ClauseKernelModel", "heads", "[I", true)
  | 7 => ("ClauseKernelModel", "objects", "I", false)
  | 8 => ("ClauseKernelModel", "names", "[I", true)
  | 9 => ("ClauseKernelModel", "lengths", "[I", true)
  | 10 => ("ClauseKernelModel", "symbols", "I", false)
  | 11 => ("ClauseKernelModel", "waiting", "[I", true)
  | 12 => ("ClauseKernelModel", "text", "[I", true)
  | 13 => ("ClauseKernelModel", "textSize", "I", false)
  | 14 => ("ClauseKernelModel", "out", "[I", true)
  | 15 => ("ClauseKernelModel", "outSize", "I", false)
  | 16 => ("ClauseKernelModel", "word", "[I", true)
  | 17 => ("ClauseKernelModel", "wordSize", "I", false)
  | 18 => ("ClauseKernelModel", "tellWhat", "[I", true)
  | 19 => ("ClauseKernelModel", "telling", "I", false)
  | 20 => ("ClauseKernelModel", "at", "I", false)
  | 21 => ("ClauseKernelModel", "readFault", "I", false)
  | 22 => ("ClauseKernelModel", "readPlace", "I", false)
  | 23 => ("ClauseKernelModel", "openSort", "[I", true)
  | 24 => ("ClauseKernelModel", "openFrom", "[I", true)
  | 25 => ("ClauseKernelModel", "openState", "[I", true)
  | 26 => ("ClauseKernelModel", "openLast", "[I", true)
  | 27 => ("ClauseKernelModel", "open", "I", false)
  | 28 => ("ClauseKernelModel", "items", "[I", true)
  | 29 => ("ClauseKernelModel", "itemSize", "I", false)
  | 30 => ("ClauseKernelModel", "whole", "I", false)
  | 31 => ("ClauseKernelModel", "done", "Z", false)
  | 32 => ("ClauseKernelModel", "defs", "I", false)
  | 33 => ("ClauseKernelModel", "defName", "[I", true)
  | 34 => ("ClauseKernelModel", "defMany", "[I", true)
  | 35 => ("ClauseKernelModel", "defVariable", "[I", true)
  | 36 => ("ClauseKernelModel", "defBody", "[I", true)
  | 37 => ("ClauseKernelModel", "defSelf", "[Z", true)
  | 38 => ("ClauseKernelModel", "theorems", "I", false)
  | 39 => ("ClauseKernelModel", "theoremName", "[I", true)
  | 40 => ("ClauseKernelModel", "theorem", "[I", true)
  | 41 => ("ClauseKernelModel", "taken", "I", false)
  | 42 => ("ClauseKernelModel", "takenDef", "[Z", true)
  | 43 => ("ClauseKernelModel", "takenFrom", "[I", true)
  | 44 => ("ClauseKernelModel", "comingName", "I", false)
  | 45 => ("ClauseKernelModel", "comingMany", "I", false)
  | 46 => ("ClauseKernelModel", "began", "I", false)
  | 47 => ("ClauseKernelModel", "fuel", "I", false)
  | 48 => ("ClauseKernelModel", "steps", "I", false)
  | 49 => ("ClauseKernelModel", "work", "I", false)
  | 50 => ("ClauseKernelModel", "told0", "I", false)
  | 51 => ("ClauseKernelModel", "callOf", "[I", true)
  | 52 => ("ClauseKernelModel", "restOf", "[I", true)
  | 53 => ("ClauseKernelModel", "fromOf", "[I", true)
  | 54 => ("ClauseKernelModel", "calls", "I", false)
  | 55 => ("ClauseKernelModel", "built", "[I", true)
  | 56 => ("ClauseKernelModel", "builtSize", "I", false)
  | 57 => ("ClauseKernelModel", "variable", "[I", true)
  | 58 => ("ClauseKernelModel", "instead", "[I", true)
  | 59 => ("ClauseKernelModel", "pairs", "I", false)
  | 60 => ("ClauseKernelModel", "walk", "[I", true)
  | 61 => ("ClauseKernelModel", "walking", "I", false)
  | 62 => ("ClauseKernelModel", "its", "[I", true)
  | 63 => ("ClauseKernelModel", "itsMany", "I", false)
  | 64 => ("ClauseKernelModel", "value", "[I", true)
  | 65 => ("ClauseKernelModel", "values", "I", false)
  | 66 => ("ClauseKernelModel", "draft", "[I", true)
  | 67 => ("ClauseKernelModel", "drafted", "I", false)
  | 68 => ("ClauseKernelModel", "end", "[I", true)
  | 69 => ("ClauseKernelModel", "ruler", "[I", true)
  | 70 => ("ClauseKernelModel", "rulers", "[I", true)
  | 71 => ("ClauseKernelModel", "paths", "I", false)
  | 72 => ("ClauseKernelModel", "pathTerm", "[I", true)
  | 73 => ("ClauseKernelModel", "pathRuler", "[I", true)
  | 74 => ("ClauseKernelModel", "pathRulers", "[I", true)
  | 75 => ("ClauseKernelModel", "found", "[I", true)
  | 76 => ("ClauseKernelModel", "foundMany", "I", false)
  | 77 => ("ClauseKernelModel", "stepTerm", "[I", true)
  | 78 => ("ClauseKernelModel", "proof", "[I", true)
  | 79 => ("ClauseKernelModel", "proofPart", "[I", true)
  | 80 => ("ClauseKernelModel", "proofFrom", "[I", true)
  | 81 => ("ClauseKernelModel", "proofs", "I", false)
  | 82 => ("ClauseKernelModel", "clause", "[I", true)
  | 83 => ("ClauseKernelModel", "clauseMany", "[I", true)
  | 84 => ("ClauseKernelModel", "clauses", "I", false)
  | _ => ("ClauseKernelModel", "wrongProof", "I", false)
def xt_t13 : Nat → FieldType := fun k => match k with
  | 0 => (.array .int)
  | 1 => (.array .int)
  | 2 => (.array .int)
  | 3 => (.array .int)
  | 4 => (.array .int)
  | 5 => (.array .long)
  | 6 => (.array .int)
  | 7 => .int
  | 8 => (.array .int)
  | 9 => (.array .int)
  | 10 => .int
  | 11 => (.array .int)
  | 12 => (.array .int)
  | 13 => .int
  | 14 => (.array .int)
  | 15 => .int
  | 16 => (.array .int)
  | 17 => .int
  | 18 => (.array .int)
  | 19 => .int
  | 20 => .int
  | 21 => .int
  | 22 => .int
  | 23 => (.array .int)
  | 24 => (.array .int)
  | 25 => (.array .int)
  | 26 => (.array .int)
  | 27 => .int
  | 28 => (.array .int)
  | 29 => .int
  | 30 => .int
  | 31 => .boolean
  | 32 => .int
  | 33 => (.array .int)
  | 34 => (.array .int)
  | 35 => (.array .int)
  | 36 => (.array .int)
  | 37 => (.array .boolean)
  | 38 => .int
  | 39 => (.array .int)
  | 40 => (.array .int)
  | 41 => .int
  | 42 => (.array .boolean)
  | 43 => (.array .int)
  | 44 => .int
  | 45 => .int
  | 46 => .int
  | 47 => .int
  | 48 => .int
  | 49 => .int
  | 50 => .int
  | 51 => (.array .int)
  | 52 => (.array .int)
  | 53 => (.array .int)
  | 54 => .int
  | 55 => (.array .int)
  | 56 => .int
  | 57 => (.array .int)
  | 58 => (.array .int)
  | 59 => .int
  | 60 => (.array .int)
  | 61 => .int
  | 62 => (.array .int)
  | 63 => .int
  | 64 => (.array .int)
  | 65 => .int
  | 66 => (.array .int)
  | 67 => .int
  | 68 => (.array .int)
  | 69 => (.array .int)
  | 70 => (.array .int)
  | 71 => .int
  | 72 => (.array .int)
  | 73 => (.array .int)
  | 74 => (.array .int)
  | 75 => (.array .int)
  | 76 => .int
  | 77 => (.array .int)
  | 78 => (.array .int)
  | 79 => (.array .int)
  | 80 => (.array .int)
  | 81 => .int
  | 82 => (.array .int)
  | 83 => (.array .int)
  | 84 => .int
  | _ => .int
/-- class 14, old: java/lang/String -/
def xt_U0 : u_T := fun k => match k with
  | 0 => ("java/lang/String", "value", "[B", true)
  | _ => ("java/lang/String", "coder", "B", true)
def xt_cl : List vw_C := [("ClauseKernel$Row", xt_T0, 2), ("ClauseKernel$Cells", xt_T1, 5), ("ClauseKernel$Reader", xt_T2, 9), ("ClauseKernel$Teller", xt_T3, 3), ("java/util/ArrayList", xt_T4, 3), ("ClauseKernel$Book", xt_T5, 3), ("ClauseKernel$Terms", xt_T6, 6), ("ClauseKernel$Paths", xt_T7, 1), ("ClauseKernel$Prover", xt_T8, 8), ("ClauseKernel", xt_T9, 14), ("ClauseKernel$Term", xt_T10, 1), ("ClauseKernel$Thing", xt_T11, 5), ("ClauseKernel$Clause", xt_T12, 4), ("ClauseKernelModel", xt_T13, 86)]
def xt_ol : List vw_C := [("java/lang/String", xt_U0, 2)]
def xt_ts (ci : Nat) : Nat → FieldType := match ci with
  | 0 => xt_t0
  | 1 => xt_t1
  | 2 => xt_t2
  | 3 => xt_t3
  | 4 => xt_t4
  | 5 => xt_t5
  | 6 => xt_t6
  | 7 => xt_t7
  | 8 => xt_t8
  | 9 => xt_t9
  | 10 => xt_t10
  | 11 => xt_t11
  | 12 => xt_t12
  | 13 => xt_t13
  | _ => fun _ => .int
/-- the pool of a class of objects -/
def xt_co (ci : Nat) : Nat := match ci with
  | 0 => 2
  | 1 => 3
  | 2 => 8
  | 3 => 9
  | 4 => 11
  | 5 => 10
  | 6 => 14
  | 7 => 16
  | 8 => 15
  | 9 => 1
  | 10 => 998
  | 11 => 998
  | 12 => 998
  | 13 => 17
  | _ => 999
def xt_fld : List (Nat × Nat × Nat × Nat × String × Option String × (Nat × Nat) × (Nat × Nat)) := [(1, 14, 9, 0, "ClauseKernel", none, (2, 164), (0, 0)), (1, 18, 9, 1, "ClauseKernel", none, (2, 165), (0, 0)), (1, 22, 9, 8, "ClauseKernel", none, (2, 172), (0, 0)), (1, 29, 9, 2, "ClauseKernel", none, (2, 166), (0, 0)), (1, 38, 9, 3, "ClauseKernel", none, (2, 167), (0, 0)), (1, 45, 9, 4, "ClauseKernel", none, (2, 168), (0, 0)), (1, 52, 9, 5, "ClauseKernel", none, (2, 169), (0, 0)), (1, 61, 9, 6, "ClauseKernel", none, (2, 170), (0, 0)), (1, 70, 9, 7, "ClauseKernel", none, (2, 171), (0, 0)), (1, 78, 9, 12, "ClauseKernel", none, (2, 176), (0, 0)), (2, 13, 0, 0, "ClauseKernel$Row", none, (1, 44), (0, 0)), (3, 11, 1, 0, "ClauseKernel$Cells", none, (1, 213), (0, 0)), (3, 15, 1, 1, "ClauseKernel$Cells", none, (1, 214), (0, 0)), (3, 19, 1, 2, "ClauseKernel$Cells", none, (1, 215), (0, 0)), (3, 22, 1, 3, "ClauseKernel$Cells", none, (1, 216), (0, 0)), (5, 9, 14, 0, "java/lang/String", none, (9, 128), (0, 0)), (5, 15, 14, 1, "java/lang/String", none, (9, 129), (0, 0)), (3, 65, 1, 4, "ClauseKernel$Cells", none, (1, 217), (0, 0)), (8, 14, 2, 1, "ClauseKernel$Reader", none, (2, 0), (0, 0)), (8, 20, 2, 2, "ClauseKernel$Reader", none, (2, 1), (0, 0)), (8, 23, 2, 3, "ClauseKernel$Reader", none, (2, 2), (0, 0)), (8, 26, 2, 8, "ClauseKernel$Reader", none, (2, 8), (0, 0)), (8, 30, 2, 0, "ClauseKernel$Reader", none, (1, 239), (0, 0)), (9, 14, 3, 1, "ClauseKernel$Teller", none, (2, 38), (0, 0)), (9, 20, 3, 2, "ClauseKernel$Teller", none, (2, 39), (0, 0)), (9, 23, 3, 0, "ClauseKernel$Teller", none, (2, 37), (0, 0)), (10, 12, 5, 0, "ClauseKernel$Book", none, (2, 79), (0, 0)), (10, 18, 5, 1, "ClauseKernel$Book", none, (2, 80), (0, 0)), (10, 21, 5, 2, "ClauseKernel$Book", none, (2, 81), (0, 0)), (11, 9, 4, 0, "java/util/ArrayList", none, (2, 67), (0, 0)), (12, 7, 4, 2, "java/util/AbstractList", none, (2, 69), (0, 0)), (14, 14, 6, 2, "ClauseKernel$Terms", none, (2, 99), (0, 0)), (14, 20, 6, 3, "ClauseKernel$Terms", none, (2, 100), (0, 0)), (14, 23, 6, 4, "ClauseKernel$Terms", none, (2, 101), (0, 0)), (14, 27, 6, 5, "ClauseKernel$Terms", none, (2, 102), (0, 0)), (14, 30, 6, 0, "ClauseKernel$Terms", none, (2, 97), (0, 0)), (14, 34, 6, 1, "ClauseKernel$Terms", none, (2, 98), (0, 0)), (15, 9, 8, 0, "ClauseKernel$Prover", none, (2, 132), (0, 0)), (15, 15, 8, 1, "ClauseKernel$Prover", none, (2, 133), (0, 0)), (15, 19, 8, 2, "ClauseKernel$Prover", none, (2, 134), (0, 0)), (15, 28, 8, 3, "ClauseKernel$Prover", none, (2, 135), (0, 0)), (16, 9, 7, 0, "ClauseKernel$Paths", none, (2, 128), (0, 0)), (2, 19, 0, 1, "ClauseKernel$Row", none, (1, 45), (0, 0)), (1, 92, 9, 13, "ClauseKernel", none, (2, 177), (0, 0)), (1, 95, 9, 9, "ClauseKernel", none, (2, 173), (0, 0)), (1, 98, 9, 10, "ClauseKernel", none, (2, 174), (0, 0)), (8, 45, 2, 4, "ClauseKernel$Reader", none, (2, 3), (0, 0)), (8, 48, 2, 7, "ClauseKernel$Reader", none, (2, 6), (0, 0)), (8, 73, 2, 5, "ClauseKernel$Reader", none, (2, 4), (0, 0)), (11, 48, 4, 1, "java/util/ArrayList", none, (2, 68), (0, 0)), (1, 130, 2, 7, "ClauseKernel$Reader", some "ClauseKernel", (2, 7), (0, 0)), (1, 133, 2, 8, "ClauseKernel$Reader", some "ClauseKernel", (2, 9), (0, 0)), (1, 142, 9, 11, "ClauseKernel", none, (2, 175), (0, 0)), (1, 153, 11, 3, "ClauseKernel$Thing", some "ClauseKernel", (4, 40), (0, 0)), (1, 171, 11, 2, "ClauseKernel$Thing", some "ClauseKernel", (4, 35), (0, 0)), (1, 178, 11, 0, "ClauseKernel$Thing", some "ClauseKernel", (4, 29), (0, 0)), (17, 8, 13, 0, "ClauseKernelModel", none, (6, 108), (0, 0)), (17, 14, 13, 1, "ClauseKernelModel", none, (6, 109), (0, 0)), (17, 17, 13, 2, "ClauseKernelModel", none, (6, 110), (0, 0)), (17, 20, 13, 3, "ClauseKernelModel", none, (6, 111), (0, 0)), (17, 23, 13, 4, "ClauseKernelModel", none, (6, 112), (0, 0)), (17, 26, 13, 5, "ClauseKernelModel", none, (6, 113), (0, 0)), (17, 30, 13, 6, "ClauseKernelModel", none, (6, 114), (0, 0)), (17, 34, 13, 8, "ClauseKernelModel", none, (6, 116), (0, 0)), (17, 37, 13, 9, "ClauseKernelModel", none, (6, 117), (0, 0)), (17, 40, 13, 11, "ClauseKernelModel", none, (6, 119), (0, 0)), (17, 43, 13, 12, "ClauseKernelModel", none, (6, 120), (0, 0)), (17, 46, 13, 14, "ClauseKernelModel", none, (6, 122), (0, 0)), (17, 49, 13, 16, "ClauseKernelModel", none, (6, 124), (0, 0)), (17, 52, 13, 18, "ClauseKernelModel", none, (6, 126), (0, 0)), (17, 55, 13, 22, "ClauseKernelModel", none, (6, 130), (0, 0)), (17, 59, 13, 23, "ClauseKernelModel", none, (6, 131), (0, 0)), (17, 62, 13, 24, "ClauseKernelModel", none, (6, 132), (0, 0)), (17, 65, 13, 25, "ClauseKernelModel", none, (6, 133), (0, 0)), (17, 68, 13, 26, "ClauseKernelModel", none, (6, 134), (0, 0)), (17, 71, 13, 28, "ClauseKernelModel", none, (6, 136), (0, 0)), (17, 74, 13, 33, "ClauseKernelModel", none, (6, 141), (0, 0)), (17, 77, 13, 34, "ClauseKernelModel", none, (6, 142), (0, 0)), (17, 80, 13, 35, "ClauseKernelModel", none, (6, 143), (0, 0)), (17, 83, 13, 36, "ClauseKernelModel", none, (6, 144), (0, 0)), (17, 86, 13, 37, "ClauseKernelModel", none, (6, 145), (0, 0)), (17, 90, 13, 39, "ClauseKernelModel", none, (6, 147), (0, 0)), (17, 93, 13, 40, "ClauseKernelModel", none, (6, 148), (0, 0)), (17, 96, 13, 42, "ClauseKernelModel", none, (6, 150), (0, 0)), (17, 99, 13, 43, "ClauseKernelModel", none, (6, 151), (0, 0)), (17, 102, 13, 44, "ClauseKernelModel", none, (6, 152), (0, 0)), (17, 105, 13, 47, "ClauseKernelModel", none, (6, 155), (0, 0)), (17, 108, 13, 51, "ClauseKernelModel", none, (6, 159), (0, 0)), (17, 111, 13, 52, "ClauseKernelModel", none, (6, 160), (0, 0)), (17, 114, 13, 53, "ClauseKernelModel", none, (6, 161), (0, 0)), (17, 117, 13, 55, "ClauseKernelModel", none, (6, 163), (0, 0)), (17, 120, 13, 57, "ClauseKernelModel", none, (6, 165), (0, 0)), (17, 123, 13, 58, "ClauseKernelModel", none, (6, 166), (0, 0)), (17, 126, 13, 60, "ClauseKernelModel", none, (6, 168), (0, 0)), (17, 129, 13, 62, "ClauseKernelModel", none, (6, 170), (0, 0)), (17, 132, 13, 64, "ClauseKernelModel", none, (6, 172), (0, 0)), (17, 135, 13, 66, "ClauseKernelModel", none, (6, 174), (0, 0)), (17, 138, 13, 68, "ClauseKernelModel", none, (6, 176), (0, 0)), (17, 141, 13, 69, "ClauseKernelModel", none, (6, 177), (0, 0)), (17, 144, 13, 70, "ClauseKernelModel", none, (6, 178), (0, 0)), (17, 147, 13, 72, "ClauseKernelModel", none, (6, 180), (0, 0)), (17, 150, 13, 73, "ClauseKernelModel", none, (6, 181), (0, 0)), (17, 153, 13, 74, "ClauseKernelModel", none, (6, 182), (0, 0)), (17, 156, 13, 75, "ClauseKernelModel", none, (6, 183), (0, 0)), (17, 159, 13, 77, "ClauseKernelModel", none, (6, 185), (0, 0)), (17, 162, 13, 78, "ClauseKernelModel", none, (6, 186), (0, 0)), (17, 165, 13, 79, "ClauseKernelModel", none, (6, 187), (0, 0)), (17, 168, 13, 80, "ClauseKernelModel", none, (6, 188), (0, 0)), (17, 171, 13, 82, "ClauseKernelModel", none, (6, 190), (0, 0)), (17, 174, 13, 83, "ClauseKernelModel", none, (6, 191), (0, 0)), (17, 181, 13, 17, "ClauseKernelModel", none, (6, 125), (0, 0)), (17, 212, 13, 10, "ClauseKernelModel", none, (6, 118), (0, 0)), (17, 201, 13, 7, "ClauseKernelModel", none, (6, 115), (0, 0)), (17, 240, 13, 13, "ClauseKernelModel", none, (6, 121), (0, 0)), (17, 418, 13, 48, "ClauseKernelModel", none, (6, 156), (0, 0)), (17, 337, 13, 49, "ClauseKernelModel", none, (6, 157), (0, 0)), (17, 301, 13, 15, "ClauseKernelModel", none, (6, 123), (0, 0)), (17, 505, 13, 46, "ClauseKernelModel", none, (6, 154), (0, 0)), (17, 502, 13, 41, "ClauseKernelModel", none, (6, 149), (0, 0)), (17, 256, 13, 30, "ClauseKernelModel", none, (6, 138), (0, 0)), (17, 237, 13, 20, "ClauseKernelModel", none, (6, 128), (0, 0)), (17, 246, 13, 27, "ClauseKernelModel", none, (6, 135), (0, 0)), (17, 253, 13, 29, "ClauseKernelModel", none, (6, 137), (0, 0)), (17, 249, 13, 31, "ClauseKernelModel", none, (6, 139), (0, 0)), (17, 243, 13, 21, "ClauseKernelModel", none, (6, 129), (0, 0)), (17, 331, 13, 32, "ClauseKernelModel", none, (6, 140), (0, 0)), (17, 459, 13, 38, "ClauseKernelModel", none, (6, 146), (0, 0)), (17, 612, 13, 50, "ClauseKernelModel", none, (6, 158), (0, 0))]
/-- where the words of a class of objects stand -/
def xt_clw (ci : Nat) : List (Nat × Nat) := match ci with
  | 0 => [(1, 46), (1, 48)]
  | 1 => [(1, 218), (1, 220), (1, 222), (1, 224), (1, 226)]
  | 2 => [(2, 10), (2, 12), (2, 14), (2, 16), (2, 18), (2, 20), (2, 22), (2, 24), (2, 26)]
  | 3 => [(2, 40), (2, 42), (2, 44)]
  | 4 => [(2, 72), (2, 74), (2, 76)]
  | 5 => [(2, 82), (2, 84), (2, 86)]
  | 6 => [(2, 103), (2, 105), (2, 107), (2, 109), (2, 111), (2, 113)]
  | 7 => [(2, 129)]
  | 8 => [(2, 143), (2, 145), (2, 147), (2, 149), (2, 151), (2, 153), (2, 155), (2, 157)]
  | 9 => [(2, 178), (2, 180), (2, 182), (2, 184), (2, 186), (2, 188), (2, 190), (2, 192), (2, 194), (2, 196), (2, 198), (2, 200), (2, 202), (2, 204)]
  | 10 => [(3, 228)]
  | 11 => [(4, 44), (4, 46), (4, 48), (4, 50), (4, 52)]
  | 12 => [(4, 210), (4, 212), (4, 214), (4, 216)]
  | 13 => [(6, 194), (6, 196), (6, 198), (6, 200), (6, 202), (6, 204), (6, 206), (6, 208), (6, 210), (6, 212), (6, 214), (6, 216), (6, 218), (6, 220), (6, 222), (6, 224), (6, 226), (6, 228), (6, 230), (6, 232), (6, 234), (6, 236), (6, 238), (7, 0), (7, 2), (7, 4), (7, 6), (7, 8), (7, 10), (7, 12), (7, 14), (7, 16), (7, 18), (7, 20), (7, 22), (7, 24), (7, 26), (7, 28), (7, 30), (7, 32), (7, 34), (7, 36), (7, 38), (7, 40), (7, 42), (7, 44), (7, 46), (7, 48), (7, 50), (7, 52), (7, 54), (7, 56), (7, 58), (7, 60), (7, 62), (7, 64), (7, 66), (7, 68), (7, 70), (7, 72), (7, 74), (7, 76), (7, 78), (7, 80), (7, 82), (7, 84), (7, 86), (7, 88), (7, 90), (7, 92), (7, 94), (7, 96), (7, 98), (7, 100), (7, 102), (7, 104), (7, 106), (7, 108), (7, 110), (7, 112), (7, 114), (7, 116), (7, 118), (7, 120), (7, 122), (7, 124)]
  | _ => []
def xt_cls : List (Nat × Nat × Nat × (Nat × Nat) × (Nat × Nat) × (Nat × Nat)) := [(0, 7, 9, (1, 27), (1, 28), (1, 1)), (0, 10, 13, (6, 76), (6, 77), (1, 21)), (1, 9, 0, (1, 35), (1, 36), (1, 2)), (1, 26, 1, (1, 52), (1, 53), (1, 4)), (1, 33, 2, (1, 231), (1, 232), (1, 12)), (1, 42, 3, (2, 29), (2, 30), (1, 13)), (1, 49, 5, (2, 47), (2, 48), (1, 14)), (1, 56, 6, (2, 89), (2, 90), (1, 18)), (1, 65, 8, (2, 116), (2, 117), (1, 19)), (8, 9, 0, (1, 237), (1, 36), (1, 2)), (9, 9, 0, (2, 35), (1, 36), (1, 2)), (10, 9, 4, (2, 53), (2, 54), (1, 17)), (14, 9, 0, (2, 95), (1, 36), (1, 2)), (15, 23, 7, (2, 122), (2, 123), (1, 20))]
def xt_con : List (Nat × Nat × Value × (Nat × Nat)) := [(3, 31, .ref 1, (0, 0)), (3, 37, .ref 3, (0, 0)), (3, 39, .ref 5, (0, 0)), (3, 73, .long (4611686018427387904), (1, 118)), (3, 89, .int (1048576), (1, 127)), (3, 97, .long (-7046029254386353131), (1, 126)), (3, 59, .ref 7, (0, 0)), (2, 23, .int (1048576), (2, 223)), (17, 7, .int (140000), (6, 82)), (17, 33, .int (60000), (6, 83))]
def xt_strs : List (String × Nat × String × Nat) := [("ClauseKernel$Cells", 31, "nil t quote if equal cons implies + - < consp car cdr natp symbolp height not ", 1), ("ClauseKernel$Cells", 37, "defun check clause undo theorem ", 3), ("ClauseKernel$Cells", 39, "taut same value first second pair yes no def thm weak cut inst swap put induct ", 5), ("ClauseKernel$Cells", 59, "abcdefghijklmnopqrstuvwxyz0123456789+-*/<>=?!_", 7)]
/-- where the words of a method stand: its code, its class initialised -/
def xt_mw (k : Nat) : (Nat × Nat) × (Nat × Nat) := match k with
  | 1 => ((1, 31), (1, 1))
  | 2 => ((1, 39), (1, 2))
  | 3 => ((1, 56), (1, 4))
  | 4 => ((1, 60), (1, 5))
  | 5 => ((1, 65), (1, 4))
  | 6 => ((1, 69), (1, 6))
  | 7 => ((1, 73), (1, 6))
  | 8 => ((1, 79), (1, 6))
  | 9 => ((1, 83), (1, 6))
  | 10 => ((1, 86), (1, 7))
  | 11 => ((1, 89), (1, 6))
  | 12 => ((1, 94), (1, 8))
  | 13 => ((1, 117), (1, 4))
  | 14 => ((1, 122), (1, 4))
  | 15 => ((1, 125), (1, 4))
  | 16 => ((1, 154), (1, 4))
  | 17 => ((1, 159), (1, 6))
  | 18 => ((1, 163), (1, 6))
  | 19 => ((1, 167), (1, 7))
  | 20 => ((1, 170), (1, 7))
  | 21 => ((1, 175), (1, 7))
  | 22 => ((1, 235), (1, 12))
  | 23 => ((2, 33), (1, 13))
  | 24 => ((2, 51), (1, 14))
  | 25 => ((2, 57), (1, 17))
  | 26 => ((2, 60), (1, 16))
  | 27 => ((2, 63), (1, 15))
  | 28 => ((2, 93), (1, 18))
  | 29 => ((2, 120), (1, 19))
  | 30 => ((2, 126), (1, 20))
  | 31 => ((2, 163), (1, 4))
  | 32 => ((2, 210), (1, 1))
  | 33 => ((2, 214), (1, 1))
  | 34 => ((2, 218), (1, 2))
  | 35 => ((2, 222), (1, 2))
  | 36 => ((2, 229), (1, 1))
  | 37 => ((2, 233), (1, 1))
  | 38 => ((2, 237), (1, 13))
  | 39 => ((3, 1), (1, 2))
  | 40 => ((3, 5), (1, 12))
  | 41 => ((3, 9), (1, 12))
  | 42 => ((3, 15), (1, 12))
  | 43 => ((3, 20), (1, 2))
  | 44 => ((3, 50), (1, 2))
  | 45 => ((3, 89), (1, 1))
  | 46 => ((3, 145), (1, 14))
  | 47 => ((3, 149), (1, 17))
  | 48 => ((4, 132), (1, 14))
  | 49 => ((6, 31), (1, 4))
  | 50 => ((6, 35), (1, 1))
  | 51 => ((6, 39), (1, 1))
  | 52 => ((6, 43), (1, 1))
  | 53 => ((6, 47), (1, 1))
  | 54 => ((6, 51), (1, 13))
  | 55 => ((6, 55), (1, 1))
  | 56 => ((6, 59), (1, 13))
  | 57 => ((6, 64), (1, 1))
  | 58 => ((6, 68), (1, 14))
  | 59 => ((6, 80), (1, 21))
  | 60 => ((6, 87), (1, 21))
  | 61 => ((6, 91), (1, 21))
  | 62 => ((6, 95), (1, 21))
  | 63 => ((6, 99), (1, 21))
  | 64 => ((6, 103), (1, 21))
  | 65 => ((6, 107), (1, 21))
  | 66 => ((7, 131), (1, 21))
  | 67 => ((7, 135), (1, 21))
  | 68 => ((7, 139), (1, 21))
  | 69 => ((7, 143), (1, 21))
  | 70 => ((7, 147), (1, 21))
  | 71 => ((7, 151), (1, 21))
  | 72 => ((7, 163), (1, 21))
  | 73 => ((7, 216), (1, 21))
  | 74 => ((9, 81), (1, 21))
  | 75 => ((9, 85), (1, 21))
  | 76 => ((9, 89), (1, 21))
  | 77 => ((9, 93), (1, 21))
  | 78 => ((9, 97), (1, 21))
  | 79 => ((9, 101), (1, 21))
  | _ => ((0, 0), (0, 0))
def xt_smt : List (Nat × Nat × Nat × Nat × Option String × (Nat × Nat) × (Nat × Nat)) := [(3, 25, 4, 2, none, (1, 58), (1, 59)), (3, 55, 16, 2, none, (1, 152), (1, 153)), (5, 495, 10, 2, none, (1, 84), (1, 85)), (6, 9, 11, 2, none, (1, 87), (1, 88)), (5, 1059, 12, 3, none, (1, 92), (1, 93)), (3, 86, 15, 1, none, (1, 123), (1, 124)), (5, 637, 19, 4, none, (1, 165), (1, 166)), (6, 88, 20, 1, none, (1, 168), (1, 169)), (6, 95, 21, 4, none, (1, 173), (1, 174))]
def xt_pmt : List (Nat × Nat × Nat × Nat × Option String × (Nat × Nat) × (Nat × Nat)) := [(0, 9, 1, 1, none, (1, 29), (1, 30)), (0, 12, 59, 1, none, (6, 78), (6, 79)), (1, 11, 2, 2, none, (1, 37), (1, 38)), (1, 28, 3, 1, none, (1, 54), (1, 55)), (1, 35, 22, 2, none, (1, 233), (1, 234)), (1, 44, 23, 2, none, (2, 31), (2, 32)), (1, 51, 24, 1, some "ClauseKernel", (2, 49), (2, 50)), (1, 58, 28, 3, none, (2, 91), (2, 92)), (1, 67, 29, 4, none, (2, 118), (2, 119)), (8, 11, 2, 2, none, (1, 238), (1, 38)), (9, 11, 2, 2, none, (2, 36), (1, 38)), (10, 11, 25, 1, none, (2, 55), (2, 56)), (11, 1, 26, 1, none, (2, 58), (2, 59)), (12, 1, 27, 1, none, (2, 61), (2, 62)), (14, 11, 2, 2, none, (2, 96), (1, 38)), (15, 25, 30, 2, none, (2, 124), (2, 125))]
def xt_vmt : List (Nat × Nat × Nat × Nat × Nat × Option String × (Nat × Nat) × (Nat × Nat) × (Nat × Nat)) := [(0, 13, 6, 9, 32, none, (2, 207), (2, 209), (2, 208)), (0, 17, 6, 13, 66, none, (7, 128), (7, 130), (7, 129)), (0, 18, 2, 9, 33, none, (2, 211), (2, 213), (2, 212)), (0, 22, 2, 13, 67, none, (7, 132), (7, 134), (7, 133)), (0, 23, 2, 9, 36, none, (2, 226), (2, 228), (2, 227)), (0, 26, 2, 13, 68, none, (7, 136), (7, 138), (7, 137)), (0, 27, 1, 9, 37, none, (2, 230), (2, 232), (2, 231)), (0, 31, 1, 13, 69, none, (7, 140), (7, 142), (7, 141)), (0, 32, 2, 9, 50, none, (6, 32), (6, 34), (6, 33)), (0, 35, 2, 13, 74, none, (9, 78), (9, 80), (9, 79)), (0, 36, 1, 9, 51, none, (6, 36), (6, 38), (6, 37)), (0, 39, 1, 13, 75, none, (9, 82), (9, 84), (9, 83)), (0, 40, 2, 9, 52, none, (6, 40), (6, 42), (6, 41)), (0, 43, 2, 13, 76, none, (9, 86), (9, 88), (9, 87)), (0, 44, 1, 9, 53, none, (6, 44), (6, 46), (6, 45)), (0, 47, 1, 13, 77, none, (9, 90), (9, 92), (9, 91)), (0, 48, 2, 9, 55, none, (6, 52), (6, 54), (6, 53)), (0, 51, 2, 13, 78, none, (9, 94), (9, 96), (9, 95)), (0, 52, 2, 9, 57, none, (6, 61), (6, 63), (6, 62)), (0, 55, 2, 13, 79, none, (9, 98), (9, 100), (9, 99)), (1, 74, 1, 1, 31, none, (2, 160), (2, 162), (2, 161)), (3, 33, 2, 1, 5, none, (1, 62), (0, 0), (1, 64)), (3, 41, 1, 14, 6, none, (1, 66), (1, 68), (1, 67)), (3, 47, 2, 14, 8, none, (1, 76), (1, 78), (1, 77)), (3, 51, 2, 1, 13, none, (1, 114), (1, 116), (1, 115)), (5, 335, 1, 14, 7, none, (1, 70), (1, 72), (1, 71)), (5, 492, 1, 14, 9, none, (1, 80), (1, 82), (1, 81)), (3, 69, 3, 1, 14, none, (1, 119), (0, 1), (1, 121)), (3, 61, 2, 14, 17, none, (1, 156), (1, 158), (1, 157)), (5, 633, 3, 14, 18, none, (1, 160), (1, 162), (1, 161)), (5, 505, 1, 14, 6, none, (1, 164), (1, 68), (1, 67)), (1, 81, 1, 0, 34, none, (2, 215), (2, 217), (2, 216)), (1, 82, 2, 0, 35, none, (2, 219), (2, 221), (2, 220)), (1, 85, 6, 9, 32, none, (2, 225), (2, 209), (2, 208)), (1, 89, 1, 3, 38, none, (2, 234), (2, 236), (2, 235)), (1, 101, 2, 2, 40, none, (3, 2), (3, 4), (3, 3)), (1, 105, 2, 0, 39, none, (3, 85), (3, 0), (2, 239)), (1, 108, 2, 9, 45, none, (3, 86), (0, 13), (3, 88)), (1, 127, 2, 1, 49, none, (6, 28), (6, 30), (6, 29)), (9, 27, 2, 0, 39, none, (2, 238), (3, 0), (2, 239)), (8, 34, 1, 2, 41, none, (3, 6), (0, 2), (3, 8)), (8, 37, 2, 2, 42, none, (3, 12), (0, 3), (3, 14)), (8, 41, 1, 0, 34, none, (3, 16), (2, 217), (2, 216)), (8, 62, 1, 0, 44, none, (3, 47), (3, 49), (3, 48)), (8, 65, 2, 0, 43, none, (3, 17), (3, 19), (3, 18)), (8, 67, 2, 0, 39, none, (3, 10), (3, 0), (2, 239)), (8, 70, 2, 0, 35, none, (3, 11), (2, 221), (2, 220)), (10, 24, 1, 4, 47, none, (3, 146), (3, 148), (3, 147)), (1, 136, 1, 5, 46, none, (3, 142), (3, 144), (3, 143)), (1, 139, 1, 5, 48, none, (4, 129), (4, 131), (4, 130)), (1, 145, 1, 3, 54, none, (6, 48), (6, 50), (6, 49)), (9, 30, 1, 0, 34, none, (6, 12), (2, 217), (2, 216)), (1, 146, 2, 3, 56, none, (6, 56), (6, 58), (6, 57)), (9, 34, 2, 0, 43, none, (6, 60), (3, 19), (3, 18)), (1, 149, 2, 5, 58, none, (6, 65), (6, 67), (6, 66)), (17, 177, 9, 13, 60, none, (6, 84), (0, 50), (6, 86)), (17, 184, 2, 13, 61, none, (6, 88), (0, 51), (6, 90)), (17, 188, 1, 13, 62, none, (6, 92), (0, 52), (6, 94)), (17, 197, 4, 13, 63, none, (6, 96), (0, 53), (6, 98)), (17, 208, 2, 13, 64, none, (6, 100), (0, 54), (6, 102)), (17, 204, 4, 13, 65, none, (6, 104), (0, 55), (6, 106)), (17, 627, 1, 13, 70, none, (7, 144), (0, 56), (7, 146)), (17, 495, 2, 13, 73, none, (7, 213), (0, 70), (7, 215)), (17, 295, 1, 13, 71, none, (7, 148), (0, 57), (7, 150)), (17, 276, 3, 13, 72, none, (7, 160), (0, 60), (7, 162))]
def xt_obi : List (Nat × Nat × Nat × (Nat × Nat)) := [(1, 3, 1, (1, 32)), (2, 1, 1, (1, 40)), (2, 7, 2, (1, 41)), (3, 5, 1, (1, 57)), (6, 92, 2, (1, 171)), (6, 38, 3, (1, 172)), (8, 3, 1, (1, 236)), (9, 3, 1, (2, 34)), (10, 3, 1, (2, 52)), (13, 1, 1, (2, 64)), (14, 3, 1, (2, 94)), (15, 3, 1, (2, 121)), (16, 3, 1, (2, 127)), (17, 1, 1, (6, 81))]
/-- words that stand once: Object.<init>, the classes of arrays -/
def xt_once : List (Nat × Nat) := [(1, 33), (1, 34), (1, 51), (1, 229), (7, 127), (1, 42), (1, 3), (1, 43), (1, 139), (1, 3), (1, 140)]
def xt_sta : List (Nat × Nat × Nat × (Nat × Nat)) := [(5, 38, 0, (1, 74)), (5, 1053, 1, (1, 90)), (11, 39, 2, (2, 65))]
-- texts: nil t quote if equal cons implies + - < consp car cdr natp symbolp height not  | defun check clause undo theorem  | taut same value first second pair yes no def thm weak cut inst swap put induct  | abcdefghijklmnopqrstuvwxyz0123456789+-*/<>=?!_
-- statics read: (5, 38, ('java/lang/String', 'COMPACT_STRINGS', 'Z'), None) (5, 1053, ('jdk/internal/util/Preconditions', 'SIOOBE_FORMATTER', 'Ljava/util/function/BiFunction;'), None) (11, 39, ('java/util/ArrayList', 'DEFAULTCAPACITY_EMPTY_ELEMENTDATA', '[Ljava/lang/Object;'), None)
