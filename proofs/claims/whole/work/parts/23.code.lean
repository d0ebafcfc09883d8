theorem J_X0_workOut_0 : zjump 0 0 = C_X0_workOut_0 := by decide +kernel
theorem J_X0_workOut_40 : zjump 0 40 = C_X0_workOut_40 := by decide +kernel
theorem J_X0_workOut_42 : zjump 0 42 = C_X0_workOut_42 := by decide +kernel
theorem J_X0_workOut_90 : zjump 0 90 = C_X0_workOut_90 := by decide +kernel
theorem J_X0_workOut_101 : zjump 0 101 = C_X0_workOut_101 := by decide +kernel
theorem J_X0_workOut_103 : zjump 0 103 = C_X0_workOut_103 := by decide +kernel
theorem J_X0_workOut_119 : zjump 0 119 = C_X0_workOut_119 := by decide +kernel
theorem J_X0_workOut_120 : zjump 0 120 = C_X0_workOut_120 := by decide +kernel
theorem J_X0_workOut_146 : zjump 0 146 = C_X0_workOut_146 := by decide +kernel
theorem J_X0_workOut_167 : zjump 0 167 = C_X0_workOut_167 := by decide +kernel
theorem U_X0_workOut_0 (ls st : List zV) (σ : zM) : zres 0 C_X0_workOut_0 ls st σ = zres 0 ((0, 1, 0, .aload_n 0) :: (1, 1, 0, .iload_n 2) :: (2, 3, 1, .putfield 15) :: (5, 1, 0, .aload_n 1) :: (6, 1, 0, .iload_n 3) :: (7, 1, 0, .aaload) :: (8, 1, 0, .aload_n 0) :: (9, 3, 1, .getfield 15) :: (12, 3, 94, .invokestatic 19) :: (15, 2, 0, .istore 5) :: (17, 1, 0, .aload_n 1) :: (18, 2, 0, .iload 4) :: (20, 1, 0, .aaload) :: (21, 1, 0, .aload_n 0) :: (22, 3, 1, .getfield 15) :: (25, 3, 94, .invokestatic 19) :: (28, 2, 0, .istore 6) :: (30, 2, 0, .iload 5) :: (32, 3, 40, .ifCond .eq 8) :: (35, 2, 0, .iload 6) :: (37, 3, 42, .ifCond .ne 5) :: C_X0_workOut_40) ls st σ := rfl
theorem U_X0_workOut_40 (ls st : List zV) (σ : zM) : zres 0 C_X0_workOut_40 ls st σ = zres 0 ((40, 1, 0, .iconst 0) :: (41, 1, 1, .ireturn) :: C_X0_workOut_42) ls st σ := rfl
theorem U_X0_workOut_42 (ls st : List zV) (σ : zM) : zres 0 C_X0_workOut_42 ls st σ = zres 0 ((42, 1, 0, .aload_n 0) :: (43, 1, 0, .aload_n 1) :: (44, 1, 0, .iload_n 3) :: (45, 1, 0, .aaload) :: (46, 1, 0, .aload_n 1) :: (47, 2, 0, .iload 4) :: (49, 1, 0, .aaload) :: (50, 1, 0, .iload_n 3) :: (51, 2, 0, .iload 4) :: (53, 3, 1, .invokevirtual 23) :: (56, 2, 0, .lstore 7) :: (58, 1, 0, .aload_n 0) :: (59, 1, 0, .iconst 0) :: (60, 3, 4, .putfield 27) :: (63, 1, 0, .aload_n 0) :: (64, 1, (-1), .iconst (-1)) :: (65, 3, 5, .putfield 30) :: (68, 1, 0, .aload_n 0) :: (69, 1, 0, .lconst 0) :: (70, 3, 6, .putfield 33) :: (73, 1, 0, .aload_n 0) :: (74, 1, 1, .lconst 1) :: (75, 3, 7, .putfield 37) :: (78, 1, 0, .aload_n 0) :: (79, 2, 0, .lload 7) :: (81, 1, 0, .lconst 0) :: (82, 1, 0, .lcmp) :: (83, 3, 90, .ifCond .ne 7) :: (86, 1, (-1), .iconst (-1)) :: (87, 3, 103, .goto 16) :: C_X0_workOut_90) ls st σ := rfl
theorem U_X0_workOut_90 (ls st : List zV) (σ : zM) : zres 0 C_X0_workOut_90 ls st σ = zres 0 ((90, 2, 0, .lload 7) :: (92, 1, 0, .lconst 0) :: (93, 1, 0, .lcmp) :: (94, 3, 101, .ifCond .le 7) :: (97, 1, 0, .iload_n 3) :: (98, 3, 103, .goto 5) :: C_X0_workOut_101) ls st σ := rfl
theorem U_X0_workOut_101 (ls st : List zV) (σ : zM) : zres 0 C_X0_workOut_101 ls st σ = zres 0 ((101, 2, 0, .iload 4) :: C_X0_workOut_103) ls st σ := rfl
theorem U_X0_workOut_103 (ls st : List zV) (σ : zM) : zres 0 C_X0_workOut_103 ls st σ = zres 0 ((103, 3, 2, .putfield 40) :: (106, 1, 0, .aload_n 0) :: (107, 2, 0, .lload 7) :: (109, 1, 0, .lconst 0) :: (110, 1, 0, .lcmp) :: (111, 3, 119, .ifCond .le 8) :: (114, 2, 0, .iload 4) :: (116, 3, 120, .goto 4) :: C_X0_workOut_119) ls st σ := rfl
theorem U_X0_workOut_119 (ls st : List zV) (σ : zM) : zres 0 C_X0_workOut_119 ls st σ = zres 0 ((119, 1, 0, .iload_n 3) :: C_X0_workOut_120) ls st σ := rfl
theorem U_X0_workOut_120 (ls st : List zV) (σ : zM) : zres 0 C_X0_workOut_120 ls st σ = zres 0 ((120, 3, 3, .putfield 43) :: (123, 2, 0, .lload 7) :: (125, 1, 0, .lconst 0) :: (126, 1, 0, .lcmp) :: (127, 3, 146, .ifCond .le 19) :: (130, 1, 0, .aload_n 0) :: (131, 1, 0, .aload_n 1) :: (132, 1, 0, .iload_n 3) :: (133, 1, 0, .aaload) :: (134, 1, 0, .aload_n 1) :: (135, 2, 0, .iload 4) :: (137, 1, 0, .aaload) :: (138, 2, 0, .lload 7) :: (140, 3, 2, .invokevirtual 46) :: (143, 3, 167, .goto 24) :: C_X0_workOut_146) ls st σ := rfl
theorem U_X0_workOut_146 (ls st : List zV) (σ : zM) : zres 0 C_X0_workOut_146 ls st σ = zres 0 ((146, 2, 0, .lload 7) :: (148, 1, 0, .lconst 0) :: (149, 1, 0, .lcmp) :: (150, 3, 167, .ifCond .ge 17) :: (153, 1, 0, .aload_n 0) :: (154, 1, 0, .aload_n 1) :: (155, 2, 0, .iload 4) :: (157, 1, 0, .aaload) :: (158, 1, 0, .aload_n 1) :: (159, 1, 0, .iload_n 3) :: (160, 1, 0, .aaload) :: (161, 2, 0, .lload 7) :: (163, 1, 0, .lneg) :: (164, 3, 2, .invokevirtual 46) :: C_X0_workOut_167) ls st σ := rfl
theorem U_X0_workOut_167 (ls st : List zV) (σ : zM) : zres 0 C_X0_workOut_167 ls st σ = zres 0 ((167, 1, 0, .aload_n 0) :: (168, 1, 0, .aload_n 1) :: (169, 1, 0, .aload_n 0) :: (170, 3, 3, .getfield 43) :: (173, 1, 0, .aaload) :: (174, 3, 4, .invokevirtual 50) :: (177, 1, 1, .iconst 1) :: (178, 1, 1, .ireturn) :: []) ls st σ := rfl
theorem S_X0_workOut (c a0 a1 a2 a3 : Int) (σ : zM) : zcall 0 [vR c, vR a0, vI a1, vI a2, vI a3] σ = zres 0 C_X0_workOut_0 [vR c, vR a0, vI a1, vI a2, vI a3, vU, vU, vU, vU] [] σ := by
  unfold zcall zloc
  rw [G_X0_workOut, M_X0_workOut.2.1]
  rfl
theorem J_X0_giveFirst_0 : zjump 1 0 = C_X0_giveFirst_0 := by decide +kernel
theorem J_X0_giveFirst_26 : zjump 1 26 = C_X0_giveFirst_26 := by decide +kernel
theorem J_X0_giveFirst_56 : zjump 1 56 = C_X0_giveFirst_56 := by decide +kernel
theorem J_X0_giveFirst_57 : zjump 1 57 = C_X0_giveFirst_57 := by decide +kernel
theorem J_X0_giveFirst_74 : zjump 1 74 = C_X0_giveFirst_74 := by decide +kernel
theorem J_X0_giveFirst_76 : zjump 1 76 = C_X0_giveFirst_76 := by decide +kernel
theorem J_X0_giveFirst_95 : zjump 1 95 = C_X0_giveFirst_95 := by decide +kernel
theorem J_X0_giveFirst_104 : zjump 1 104 = C_X0_giveFirst_104 := by decide +kernel
theorem J_X0_giveFirst_113 : zjump 1 113 = C_X0_giveFirst_113 := by decide +kernel
theorem U_X0_giveFirst_0 (ls st : List zV) (σ : zM) : zres 1 C_X0_giveFirst_0 ls st σ = zres 1 ((0, 1, 0, .aload_n 1) :: (1, 1, 0, .aload_n 0) :: (2, 3, 1, .getfield 15) :: (5, 3, 94, .invokestatic 19) :: (8, 2, 0, .istore 5) :: (10, 1, 0, .aload_n 2) :: (11, 1, 0, .aload_n 0) :: (12, 3, 1, .getfield 15) :: (15, 3, 94, .invokestatic 19) :: (18, 2, 0, .istore 6) :: (20, 1, 0, .lconst 0) :: (21, 2, 0, .lstore 7) :: (23, 1, 0, .iconst 0) :: (24, 2, 0, .istore 9) :: C_X0_giveFirst_26) ls st σ := rfl
theorem U_X0_giveFirst_26 (ls st : List zV) (σ : zM) : zres 1 C_X0_giveFirst_26 ls st σ = zres 1 ((26, 2, 0, .iload 9) :: (28, 1, 0, .aload_n 0) :: (29, 3, 1, .getfield 15) :: (32, 3, 113, .if_icmp .ge 81) :: (35, 1, 0, .aload_n 1) :: (36, 2, 0, .iload 9) :: (38, 1, 0, .iaload) :: (39, 2, 0, .iload 6) :: (41, 1, 0, .imul) :: (42, 1, 0, .aload_n 2) :: (43, 2, 0, .iload 9) :: (45, 1, 0, .iaload) :: (46, 2, 0, .iload 5) :: (48, 1, 0, .imul) :: (49, 3, 56, .if_icmp .lt 7) :: (52, 1, 1, .iconst 1) :: (53, 3, 57, .goto 4) :: C_X0_giveFirst_56) ls st σ := rfl
theorem U_X0_giveFirst_56 (ls st : List zV) (σ : zM) : zres 1 C_X0_giveFirst_56 ls st σ = zres 1 ((56, 1, 0, .iconst 0) :: C_X0_giveFirst_57) ls st σ := rfl
theorem U_X0_giveFirst_57 (ls st : List zV) (σ : zM) : zres 1 C_X0_giveFirst_57 ls st σ = zres 1 ((57, 2, 0, .istore 10) :: (59, 1, 0, .aload_n 0) :: (60, 3, 0, .getfield 9) :: (63, 2, 0, .iload 9) :: (65, 2, 0, .iload 10) :: (67, 3, 74, .ifCond .eq 7) :: (70, 1, 0, .iload_n 3) :: (71, 3, 76, .goto 5) :: C_X0_giveFirst_74) ls st σ := rfl
theorem U_X0_giveFirst_74 (ls st : List zV) (σ : zM) : zres 1 C_X0_giveFirst_74 ls st σ = zres 1 ((74, 2, 0, .iload 4) :: C_X0_giveFirst_76) ls st σ := rfl
theorem U_X0_giveFirst_76 (ls st : List zV) (σ : zM) : zres 1 C_X0_giveFirst_76 ls st σ = zres 1 ((76, 1, 0, .iastore) :: (77, 2, 0, .lload 7) :: (79, 2, 0, .iload 10) :: (81, 3, 95, .ifCond .eq 14) :: (84, 1, 0, .aload_n 1) :: (85, 2, 0, .iload 9) :: (87, 1, 0, .iaload) :: (88, 2, 0, .iload 6) :: (90, 1, 0, .imul) :: (91, 1, 0, .i2l) :: (92, 3, 104, .goto 12) :: C_X0_giveFirst_95) ls st σ := rfl
theorem U_X0_giveFirst_95 (ls st : List zV) (σ : zM) : zres 1 C_X0_giveFirst_95 ls st σ = zres 1 ((95, 1, 0, .aload_n 2) :: (96, 2, 0, .iload 9) :: (98, 1, 0, .iaload) :: (99, 1, 0, .ineg) :: (100, 2, 0, .iload 5) :: (102, 1, 0, .imul) :: (103, 1, 0, .i2l) :: C_X0_giveFirst_104) ls st σ := rfl
theorem U_X0_giveFirst_104 (ls st : List zV) (σ : zM) : zres 1 C_X0_giveFirst_104 ls st σ = zres 1 ((104, 1, 0, .ladd) :: (105, 2, 0, .lstore 7) :: (107, 3, 0, .iinc 9 1) :: (110, 3, 26, .goto (-84)) :: C_X0_giveFirst_113) ls st σ := rfl
theorem U_X0_giveFirst_113 (ls st : List zV) (σ : zM) : zres 1 C_X0_giveFirst_113 ls st σ = zres 1 ((113, 2, 0, .lload 7) :: (115, 1, 0, .lreturn) :: []) ls st σ := rfl
theorem S_X0_giveFirst (c a0 a1 a2 a3 : Int) (σ : zM) : zcall 1 [vR c, vR a0, vR a1, vI a2, vI a3] σ = zres 1 C_X0_giveFirst_0 [vR c, vR a0, vR a1, vI a2, vI a3, vU, vU, vU, vU, vU, vU] [] σ := by
  unfold zcall zloc
  rw [G_X0_giveFirst, M_X0_giveFirst.2.1]
  rfl
theorem J_X0_moveToPoor_0 : zjump 2 0 = C_X0_moveToPoor_0 := by decide +kernel
theorem J_X0_moveToPoor_26 : zjump 2 26 = C_X0_moveToPoor_26 := by decide +kernel
theorem J_X0_moveToPoor_56 : zjump 2 56 = C_X0_moveToPoor_56 := by decide +kernel
theorem J_X0_moveToPoor_101 : zjump 2 101 = C_X0_moveToPoor_101 := by decide +kernel
theorem J_X0_moveToPoor_135 : zjump 2 135 = C_X0_moveToPoor_135 := by decide +kernel
theorem U_X0_moveToPoor_0 (ls st : List zV) (σ : zM) : zres 2 C_X0_moveToPoor_0 ls st σ = zres 2 ((0, 1, 0, .aload_n 1) :: (1, 1, 0, .aload_n 0) :: (2, 3, 1, .getfield 15) :: (5, 3, 94, .invokestatic 19) :: (8, 2, 0, .istore 5) :: (10, 1, 0, .aload_n 2) :: (11, 1, 0, .aload_n 0) :: (12, 3, 1, .getfield 15) :: (15, 3, 94, .invokestatic 19) :: (18, 2, 0, .istore 6) :: (20, 1, 0, .lload_n 3) :: (21, 2, 0, .lstore 7) :: (23, 1, 0, .iconst 0) :: (24, 2, 0, .istore 9) :: C_X0_moveToPoor_26) ls st σ := rfl
theorem U_X0_moveToPoor_26 (ls st : List zV) (σ : zM) : zres 2 C_X0_moveToPoor_26 ls st σ = zres 2 ((26, 2, 0, .iload 9) :: (28, 1, 0, .aload_n 0) :: (29, 3, 1, .getfield 15) :: (32, 3, 135, .if_icmp .ge 103) :: (35, 2, 0, .lload 7) :: (37, 1, 0, .lconst 0) :: (38, 1, 0, .lcmp) :: (39, 3, 135, .ifCond .le 96) :: (42, 1, 0, .aload_n 0) :: (43, 1, 0, .aload_n 1) :: (44, 1, 0, .aload_n 2) :: (45, 3, 3, .invokevirtual 54) :: (48, 2, 0, .istore 10) :: (50, 2, 0, .iload 10) :: (52, 3, 56, .ifCond .ge 4) :: (55, 1, 0, .return_) :: C_X0_moveToPoor_56) ls st σ := rfl
theorem U_X0_moveToPoor_56 (ls st : List zV) (σ : zM) : zres 2 C_X0_moveToPoor_56 ls st σ = zres 2 ((56, 1, 0, .aload_n 1) :: (57, 2, 0, .iload 10) :: (59, 1, 0, .iaload) :: (60, 2, 0, .iload 6) :: (62, 1, 0, .imul) :: (63, 1, 0, .aload_n 2) :: (64, 2, 0, .iload 10) :: (66, 1, 0, .iaload) :: (67, 2, 0, .iload 5) :: (69, 1, 0, .imul) :: (70, 1, 0, .iadd) :: (71, 1, 0, .i2l) :: (72, 2, 0, .lstore 11) :: (74, 2, 0, .lload 11) :: (76, 2, 0, .lload 7) :: (78, 1, 0, .lcmp) :: (79, 3, 101, .ifCond .le 22) :: (82, 1, 0, .aload_n 0) :: (83, 2, 0, .iload 10) :: (85, 3, 5, .putfield 30) :: (88, 1, 0, .aload_n 0) :: (89, 2, 0, .lload 7) :: (91, 3, 6, .putfield 33) :: (94, 1, 0, .aload_n 0) :: (95, 2, 0, .lload 11) :: (97, 3, 7, .putfield 37) :: (100, 1, 0, .return_) :: C_X0_moveToPoor_101) ls st σ := rfl
theorem U_X0_moveToPoor_101 (ls st : List zV) (σ : zM) : zres 2 C_X0_moveToPoor_101 ls st σ = zres 2 ((101, 1, 0, .aload_n 0) :: (102, 3, 0, .getfield 9) :: (105, 2, 0, .iload 10) :: (107, 1, 0, .aload_n 0) :: (108, 3, 3, .getfield 43) :: (111, 1, 0, .iastore) :: (112, 1, 0, .aload_n 0) :: (113, 1, 0, .dup) :: (114, 3, 4, .getfield 27) :: (117, 1, 1, .iconst 1) :: (118, 1, 0, .iadd) :: (119, 3, 4, .putfield 27) :: (122, 2, 0, .lload 7) :: (124, 2, 0, .lload 11) :: (126, 1, 0, .lsub) :: (127, 2, 0, .lstore 7) :: (129, 3, 0, .iinc 9 1) :: (132, 3, 26, .goto (-106)) :: C_X0_moveToPoor_135) ls st σ := rfl
theorem U_X0_moveToPoor_135 (ls st : List zV) (σ : zM) : zres 2 C_X0_moveToPoor_135 ls st σ = zres 2 ((135, 1, 0, .return_) :: []) ls st σ := rfl
theorem S_X0_moveToPoor (c a0 a1 a2 : Int) (σ : zM) : zcall 2 [vR c, vR a0, vR a1, vL a2] σ = zres 2 C_X0_moveToPoor_0 [vR c, vR a0, vR a1, vL a2, vU, vU, vU, vU, vU, vU, vU, vU, vU] [] σ := by
  unfold zcall zloc
  rw [G_X0_moveToPoor, M_X0_moveToPoor.2.1]
  rfl
theorem J_X0_nextToMove_0 : zjump 3 0 = C_X0_nextToMove_0 := by decide +kernel
theorem J_X0_nextToMove_5 : zjump 3 5 = C_X0_nextToMove_5 := by decide +kernel
theorem J_X0_nextToMove_43 : zjump 3 43 = C_X0_nextToMove_43 := by decide +kernel
theorem J_X0_nextToMove_46 : zjump 3 46 = C_X0_nextToMove_46 := by decide +kernel
theorem J_X0_nextToMove_52 : zjump 3 52 = C_X0_nextToMove_52 := by decide +kernel
theorem U_X0_nextToMove_0 (ls st : List zV) (σ : zM) : zres 3 C_X0_nextToMove_0 ls st σ = zres 3 ((0, 1, (-1), .iconst (-1)) :: (1, 1, 0, .istore_n 3) :: (2, 1, 0, .iconst 0) :: (3, 2, 0, .istore 4) :: C_X0_nextToMove_5) ls st σ := rfl
theorem U_X0_nextToMove_5 (ls st : List zV) (σ : zM) : zres 3 C_X0_nextToMove_5 ls st σ = zres 3 ((5, 2, 0, .iload 4) :: (7, 1, 0, .aload_n 0) :: (8, 3, 1, .getfield 15) :: (11, 3, 52, .if_icmp .ge 41) :: (14, 1, 0, .aload_n 0) :: (15, 3, 0, .getfield 9) :: (18, 2, 0, .iload 4) :: (20, 1, 0, .iaload) :: (21, 1, 0, .aload_n 0) :: (22, 3, 2, .getfield 40) :: (25, 3, 46, .if_icmp .ne 21) :: (28, 1, 0, .iload_n 3) :: (29, 3, 43, .ifCond .lt 14) :: (32, 1, 0, .aload_n 1) :: (33, 1, 0, .aload_n 2) :: (34, 2, 0, .iload 4) :: (36, 1, 0, .iload_n 3) :: (37, 3, 95, .invokestatic 58) :: (40, 3, 46, .ifCond .eq 6) :: C_X0_nextToMove_43) ls st σ := rfl
theorem U_X0_nextToMove_43 (ls st : List zV) (σ : zM) : zres 3 C_X0_nextToMove_43 ls st σ = zres 3 ((43, 2, 0, .iload 4) :: (45, 1, 0, .istore_n 3) :: C_X0_nextToMove_46) ls st σ := rfl
theorem U_X0_nextToMove_46 (ls st : List zV) (σ : zM) : zres 3 C_X0_nextToMove_46 ls st σ = zres 3 ((46, 3, 0, .iinc 4 1) :: (49, 3, 5, .goto (-44)) :: C_X0_nextToMove_52) ls st σ := rfl
theorem U_X0_nextToMove_52 (ls st : List zV) (σ : zM) : zres 3 C_X0_nextToMove_52 ls st σ = zres 3 ((52, 1, 0, .iload_n 3) :: (53, 1, 0, .ireturn) :: []) ls st σ := rfl
theorem S_X0_nextToMove (c a0 a1 : Int) (σ : zM) : zcall 3 [vR c, vR a0, vR a1] σ = zres 3 C_X0_nextToMove_0 [vR c, vR a0, vR a1, vU, vU] [] σ := by
  unfold zcall zloc
  rw [G_X0_nextToMove, M_X0_nextToMove.2.1]
  rfl
theorem J_X0_setAlike_0 : zjump 4 0 = C_X0_setAlike_0 := by decide +kernel
theorem J_X0_setAlike_5 : zjump 4 5 = C_X0_setAlike_5 := by decide +kernel
theorem J_X0_setAlike_36 : zjump 4 36 = C_X0_setAlike_36 := by decide +kernel
theorem J_X0_setAlike_42 : zjump 4 42 = C_X0_setAlike_42 := by decide +kernel
theorem J_X0_setAlike_60 : zjump 4 60 = C_X0_setAlike_60 := by decide +kernel
theorem J_X0_setAlike_72 : zjump 4 72 = C_X0_setAlike_72 := by decide +kernel
theorem U_X0_setAlike_0 (ls st : List zV) (σ : zM) : zres 4 C_X0_setAlike_0 ls st σ = zres 4 ((0, 1, 0, .lconst 0) :: (1, 1, 0, .lstore_n 2) :: (2, 1, 0, .iconst 0) :: (3, 2, 0, .istore 4) :: C_X0_setAlike_5) ls st σ := rfl
theorem U_X0_setAlike_5 (ls st : List zV) (σ : zM) : zres 4 C_X0_setAlike_5 ls st σ = zres 4 ((5, 2, 0, .iload 4) :: (7, 1, 0, .aload_n 0) :: (8, 3, 1, .getfield 15) :: (11, 3, 42, .if_icmp .ge 31) :: (14, 1, 0, .aload_n 0) :: (15, 3, 0, .getfield 9) :: (18, 2, 0, .iload 4) :: (20, 1, 0, .iaload) :: (21, 1, 0, .aload_n 0) :: (22, 3, 3, .getfield 43) :: (25, 3, 36, .if_icmp .ne 11) :: (28, 1, 0, .lload_n 2) :: (29, 1, 0, .aload_n 1) :: (30, 2, 0, .iload 4) :: (32, 1, 0, .iaload) :: (33, 1, 0, .i2l) :: (34, 1, 0, .ladd) :: (35, 1, 0, .lstore_n 2) :: C_X0_setAlike_36) ls st σ := rfl
theorem U_X0_setAlike_36 (ls st : List zV) (σ : zM) : zres 4 C_X0_setAlike_36 ls st σ = zres 4 ((36, 3, 0, .iinc 4 1) :: (39, 3, 5, .goto (-34)) :: C_X0_setAlike_42) ls st σ := rfl
theorem U_X0_setAlike_42 (ls st : List zV) (σ : zM) : zres 4 C_X0_setAlike_42 ls st σ = zres 4 ((42, 1, 0, .aload_n 0) :: (43, 1, 0, .lload_n 2) :: (44, 1, 0, .aload_n 0) :: (45, 3, 7, .getfield 37) :: (48, 1, 0, .lmul) :: (49, 1, 0, .aload_n 0) :: (50, 3, 5, .getfield 30) :: (53, 3, 60, .ifCond .ge 7) :: (56, 1, 0, .lconst 0) :: (57, 3, 72, .goto 15) :: C_X0_setAlike_60) ls st σ := rfl
theorem U_X0_setAlike_60 (ls st : List zV) (σ : zM) : zres 4 C_X0_setAlike_60 ls st σ = zres 4 ((60, 1, 0, .aload_n 1) :: (61, 1, 0, .aload_n 0) :: (62, 3, 5, .getfield 30) :: (65, 1, 0, .iaload) :: (66, 1, 0, .i2l) :: (67, 1, 0, .aload_n 0) :: (68, 3, 6, .getfield 33) :: (71, 1, 0, .lmul) :: C_X0_setAlike_72) ls st σ := rfl
theorem U_X0_setAlike_72 (ls st : List zV) (σ : zM) : zres 4 C_X0_setAlike_72 ls st σ = zres 4 ((72, 1, 0, .ladd) :: (73, 3, 8, .putfield 62) :: (76, 1, 0, .aload_n 0) :: (77, 1, 0, .aload_n 1) :: (78, 1, 0, .aload_n 0) :: (79, 3, 1, .getfield 15) :: (82, 3, 94, .invokestatic 19) :: (85, 1, 0, .i2l) :: (86, 1, 0, .aload_n 0) :: (87, 3, 7, .getfield 37) :: (90, 1, 0, .lmul) :: (91, 3, 9, .putfield 65) :: (94, 1, 0, .return_) :: []) ls st σ := rfl
theorem S_X0_setAlike (c a0 : Int) (σ : zM) : zcall 4 [vR c, vR a0] σ = zres 4 C_X0_setAlike_0 [vR c, vR a0, vU, vU, vU] [] σ := by
  unfold zcall zloc
  rw [G_X0_setAlike, M_X0_setAlike.2.1]
  rfl
theorem J_X0_hasSome_0 : zjump 5 0 = C_X0_hasSome_0 := by decide +kernel
theorem J_X0_hasSome_18 : zjump 5 18 = C_X0_hasSome_18 := by decide +kernel
theorem J_X0_hasSome_22 : zjump 5 22 = C_X0_hasSome_22 := by decide +kernel
theorem J_X0_hasSome_23 : zjump 5 23 = C_X0_hasSome_23 := by decide +kernel
theorem U_X0_hasSome_0 (ls st : List zV) (σ : zM) : zres 5 C_X0_hasSome_0 ls st σ = zres 5 ((0, 1, 0, .aload_n 0) :: (1, 3, 0, .getfield 9) :: (4, 1, 0, .iload_n 2) :: (5, 1, 0, .iaload) :: (6, 1, 0, .iload_n 1) :: (7, 3, 18, .if_icmp .eq 11) :: (10, 1, 0, .aload_n 0) :: (11, 3, 5, .getfield 30) :: (14, 1, 0, .iload_n 2) :: (15, 3, 22, .if_icmp .ne 7) :: C_X0_hasSome_18) ls st σ := rfl
theorem U_X0_hasSome_18 (ls st : List zV) (σ : zM) : zres 5 C_X0_hasSome_18 ls st σ = zres 5 ((18, 1, 1, .iconst 1) :: (19, 3, 23, .goto 4) :: C_X0_hasSome_22) ls st σ := rfl
theorem U_X0_hasSome_22 (ls st : List zV) (σ : zM) : zres 5 C_X0_hasSome_22 ls st σ = zres 5 ((22, 1, 0, .iconst 0) :: C_X0_hasSome_23) ls st σ := rfl
theorem U_X0_hasSome_23 (ls st : List zV) (σ : zM) : zres 5 C_X0_hasSome_23 ls st σ = zres 5 ((23, 1, 1, .ireturn) :: []) ls st σ := rfl
theorem S_X0_hasSome (c a0 a1 : Int) (σ : zM) : zcall 5 [vR c, vI a0, vI a1] σ = zres 5 C_X0_hasSome_0 [vR c, vI a0, vI a1] [] σ := by
  unfold zcall zloc
  rw [G_X0_hasSome, M_X0_hasSome.2.1]
  rfl
theorem J_X0_bitsOf_0 : zjump 6 0 = C_X0_bitsOf_0 := by decide +kernel
theorem J_X0_bitsOf_4 : zjump 6 4 = C_X0_bitsOf_4 := by decide +kernel
theorem J_X0_bitsOf_27 : zjump 6 27 = C_X0_bitsOf_27 := by decide +kernel
theorem J_X0_bitsOf_33 : zjump 6 33 = C_X0_bitsOf_33 := by decide +kernel
theorem U_X0_bitsOf_0 (ls st : List zV) (σ : zM) : zres 6 C_X0_bitsOf_0 ls st σ = zres 6 ((0, 1, 0, .iconst 0) :: (1, 1, 0, .istore_n 2) :: (2, 1, 0, .iconst 0) :: (3, 1, 0, .istore_n 3) :: C_X0_bitsOf_4) ls st σ := rfl
theorem U_X0_bitsOf_4 (ls st : List zV) (σ : zM) : zres 6 C_X0_bitsOf_4 ls st σ = zres 6 ((4, 1, 0, .iload_n 3) :: (5, 1, 0, .aload_n 0) :: (6, 3, 1, .getfield 15) :: (9, 3, 33, .if_icmp .ge 24) :: (12, 1, 0, .aload_n 0) :: (13, 1, 0, .iload_n 1) :: (14, 1, 0, .iload_n 3) :: (15, 3, 5, .invokevirtual 68) :: (18, 3, 27, .ifCond .eq 9) :: (21, 1, 0, .iload_n 2) :: (22, 1, 1, .iconst 1) :: (23, 1, 0, .iload_n 3) :: (24, 1, 0, .ishl) :: (25, 1, 0, .ior) :: (26, 1, 0, .istore_n 2) :: C_X0_bitsOf_27) ls st σ := rfl
theorem U_X0_bitsOf_27 (ls st : List zV) (σ : zM) : zres 6 C_X0_bitsOf_27 ls st σ = zres 6 ((27, 3, 0, .iinc 3 1) :: (30, 3, 4, .goto (-26)) :: C_X0_bitsOf_33) ls st σ := rfl
theorem U_X0_bitsOf_33 (ls st : List zV) (σ : zM) : zres 6 C_X0_bitsOf_33 ls st σ = zres 6 ((33, 1, 0, .iload_n 2) :: (34, 1, 0, .ireturn) :: []) ls st σ := rfl
theorem S_X0_bitsOf (c a0 : Int) (σ : zM) : zcall 6 [vR c, vI a0] σ = zres 6 C_X0_bitsOf_0 [vR c, vI a0, vU, vU] [] σ := by
  unfold zcall zloc
  rw [G_X0_bitsOf, M_X0_bitsOf.2.1]
  rfl
theorem J_X1_isFull_0 : zjump 7 0 = C_X1_isFull_0 := by decide +kernel
theorem J_X1_isFull_16 : zjump 7 16 = C_X1_isFull_16 := by decide +kernel
theorem J_X1_isFull_17 : zjump 7 17 = C_X1_isFull_17 := by decide +kernel
theorem U_X1_isFull_0 (ls st : List zV) (σ : zM) : zres 7 C_X1_isFull_0 ls st σ = zres 7 ((0, 1, 0, .aload_n 0) :: (1, 3, 34, .getfield 16) :: (4, 1, 0, .aload_n 0) :: (5, 3, 32, .getfield 7) :: (8, 1, 0, .arraylength) :: (9, 3, 16, .if_icmp .lt 7) :: (12, 1, 1, .iconst 1) :: (13, 3, 17, .goto 4) :: C_X1_isFull_16) ls st σ := rfl
theorem U_X1_isFull_16 (ls st : List zV) (σ : zM) : zres 7 C_X1_isFull_16 ls st σ = zres 7 ((16, 1, 0, .iconst 0) :: C_X1_isFull_17) ls st σ := rfl
theorem U_X1_isFull_17 (ls st : List zV) (σ : zM) : zres 7 C_X1_isFull_17 ls st σ = zres 7 ((17, 1, 1, .ireturn) :: []) ls st σ := rfl
theorem S_X1_isFull (c : Int) (σ : zM) : zcall 7 [vR c] σ = zres 7 C_X1_isFull_0 [vR c] [] σ := by
  unfold zcall zloc
  rw [G_X1_isFull, M_X1_isFull.2.1]
  rfl
theorem J_X1_append_0 : zjump 8 0 = C_X1_append_0 := by decide +kernel
theorem U_X1_append_0 (ls st : List zV) (σ : zM) : zres 8 C_X1_append_0 ls st σ = zres 8 ((0, 1, 0, .aload_n 0) :: (1, 3, 32, .getfield 7) :: (4, 1, 0, .aload_n 0) :: (5, 3, 34, .getfield 16) :: (8, 1, 0, .iload_n 1) :: (9, 1, 0, .iastore) :: (10, 1, 0, .aload_n 0) :: (11, 3, 33, .getfield 13) :: (14, 1, 0, .aload_n 0) :: (15, 3, 34, .getfield 16) :: (18, 1, 0, .iload_n 2) :: (19, 1, 0, .iastore) :: (20, 1, 0, .aload_n 0) :: (21, 1, 0, .dup) :: (22, 3, 34, .getfield 16) :: (25, 1, 1, .iconst 1) :: (26, 1, 0, .iadd) :: (27, 3, 34, .putfield 16) :: (30, 1, 0, .aload_n 0) :: (31, 3, 34, .getfield 16) :: (34, 1, 0, .ireturn) :: []) ls st σ := rfl
theorem S_X1_append (c a0 a1 : Int) (σ : zM) : zcall 8 [vR c, vI a0, vI a1] σ = zres 8 C_X1_append_0 [vR c, vI a0, vI a1] [] σ := by
  unfold zcall zloc
  rw [G_X1_append, M_X1_append.2.1]
  rfl
theorem J_X1_empty_0 : zjump 9 0 = C_X1_empty_0 := by decide +kernel
theorem U_X1_empty_0 (ls st : List zV) (σ : zM) : zres 9 C_X1_empty_0 ls st σ = zres 9 ((0, 1, 0, .aload_n 0) :: (1, 1, 0, .iconst 0) :: (2, 3, 34, .putfield 16) :: (5, 1, 0, .iconst 0) :: (6, 1, 0, .ireturn) :: []) ls st σ := rfl
theorem S_X1_empty (c : Int) (σ : zM) : zcall 9 [vR c] σ = zres 9 C_X1_empty_0 [vR c] [] σ := by
  unfold zcall zloc
  rw [G_X1_empty, M_X1_empty.2.1]
  rfl
theorem J_X1_become_0 : zjump 10 0 = C_X1_become_0 := by decide +kernel
theorem U_X1_become_0 (ls st : List zV) (σ : zM) : zres 10 C_X1_become_0 ls st σ = zres 10 ((0, 1, 0, .aload_n 1) :: (1, 3, 32, .getfield 7) :: (4, 1, 0, .iconst 0) :: (5, 1, 0, .aload_n 0) :: (6, 3, 32, .getfield 7) :: (9, 1, 0, .iconst 0) :: (10, 1, 0, .aload_n 0) :: (11, 3, 32, .getfield 7) :: (14, 1, 0, .arraylength) :: (15, 3, 9999, .invokestatic 20) :: (18, 1, 0, .aload_n 1) :: (19, 3, 33, .getfield 13) :: (22, 1, 0, .iconst 0) :: (23, 1, 0, .aload_n 0) :: (24, 3, 33, .getfield 13) :: (27, 1, 0, .iconst 0) :: (28, 1, 0, .aload_n 0) :: (29, 3, 33, .getfield 13) :: (32, 1, 0, .arraylength) :: (33, 3, 9999, .invokestatic 20) :: (36, 1, 0, .aload_n 0) :: (37, 1, 0, .aload_n 1) :: (38, 3, 34, .getfield 16) :: (41, 3, 34, .putfield 16) :: (44, 1, 0, .return_) :: []) ls st σ := rfl
theorem S_X1_become (c a0 : Int) (σ : zM) : zcall 10 [vR c, vR a0] σ = zres 10 C_X1_become_0 [vR c, vR a0] [] σ := by
  unfold zcall zloc
  rw [G_X1_become, M_X1_become.2.1]
  rfl
theorem J_X2_beginWith_0 : zjump 11 0 = C_X2_beginWith_0 := by decide +kernel
theorem U_X2_beginWith_0 (ls st : List zV) (σ : zM) : zres 11 C_X2_beginWith_0 ls st σ = zres 11 ((0, 1, 0, .aload_n 0) :: (1, 1, 0, .iload_n 1) :: (2, 3, 64, .putfield 9) :: (5, 1, 0, .aload_n 0) :: (6, 1, 0, .iconst 0) :: (7, 3, 65, .putfield 49) :: (10, 1, 0, .aload_n 0) :: (11, 3, 13, .invokevirtual 52) :: (14, 1, 0, .aload_n 0) :: (15, 3, 72, .getfield 39) :: (18, 1, 0, .iconst 0) :: (19, 3, 34, .putfield 55) :: (22, 1, 0, .aload_n 0) :: (23, 3, 73, .getfield 43) :: (26, 1, 0, .iconst 0) :: (27, 3, 34, .putfield 55) :: (30, 1, 0, .aload_n 0) :: (31, 3, 74, .getfield 46) :: (34, 1, 0, .iconst 0) :: (35, 3, 34, .putfield 55) :: (38, 1, 0, .return_) :: []) ls st σ := rfl
theorem S_X2_beginWith (c a0 : Int) (σ : zM) : zcall 11 [vR c, vI a0] σ = zres 11 C_X2_beginWith_0 [vR c, vI a0] [] σ := by
  unfold zcall zloc
  rw [G_X2_beginWith, M_X2_beginWith.2.1]
  rfl
theorem J_X2_addThing_0 : zjump 12 0 = C_X2_addThing_0 := by decide +kernel
theorem J_X2_addThing_7 : zjump 12 7 = C_X2_addThing_7 := by decide +kernel
theorem J_X2_addThing_27 : zjump 12 27 = C_X2_addThing_27 := by decide +kernel
theorem U_X2_addThing_0 (ls st : List zV) (σ : zM) : zres 12 C_X2_addThing_0 ls st σ = zres 12 ((0, 1, 0, .aload_n 0) :: (1, 3, 65, .getfield 49) :: (4, 1, 0, .istore_n 1) :: (5, 1, 0, .iconst 0) :: (6, 1, 0, .istore_n 2) :: C_X2_addThing_7) ls st σ := rfl
theorem U_X2_addThing_7 (ls st : List zV) (σ : zM) : zres 12 C_X2_addThing_7 ls st σ = zres 12 ((7, 1, 0, .iload_n 2) :: (8, 1, 4, .iconst 4) :: (9, 3, 27, .if_icmp .ge 18) :: (12, 1, 0, .aload_n 0) :: (13, 3, 66, .getfield 17) :: (16, 1, 0, .iload_n 2) :: (17, 1, 0, .aaload) :: (18, 1, 0, .iload_n 1) :: (19, 1, 0, .iconst 0) :: (20, 1, 0, .iastore) :: (21, 3, 0, .iinc 2 1) :: (24, 3, 7, .goto (-17)) :: C_X2_addThing_27) ls st σ := rfl
theorem U_X2_addThing_27 (ls st : List zV) (σ : zM) : zres 12 C_X2_addThing_27 ls st σ = zres 12 ((27, 1, 0, .aload_n 0) :: (28, 3, 67, .getfield 20) :: (31, 1, 0, .iload_n 1) :: (32, 1, (-1), .iconst (-1)) :: (33, 1, 0, .iastore) :: (34, 1, 0, .aload_n 0) :: (35, 1, 0, .dup) :: (36, 3, 65, .getfield 49) :: (39, 1, 1, .iconst 1) :: (40, 1, 0, .iadd) :: (41, 3, 65, .putfield 49) :: (44, 1, 0, .iload_n 1) :: (45, 1, 0, .ireturn) :: []) ls st σ := rfl
theorem S_X2_addThing (c : Int) (σ : zM) : zcall 12 [vR c] σ = zres 12 C_X2_addThing_0 [vR c, vU, vU] [] σ := by
  unfold zcall zloc
  rw [G_X2_addThing, M_X2_addThing.2.1]
  rfl
theorem J_X2_mendCut_0 : zjump 13 0 = C_X2_mendCut_0 := by decide +kernel
theorem U_X2_mendCut_0 (ls st : List zV) (σ : zM) : zres 13 C_X2_mendCut_0 ls st σ = zres 13 ((0, 1, 0, .aload_n 0) :: (1, 1, (-1), .iconst (-1)) :: (2, 3, 68, .putfield 24) :: (5, 1, 0, .aload_n 0) :: (6, 1, (-1), .iconst (-1)) :: (7, 3, 69, .putfield 27) :: (10, 1, 0, .aload_n 0) :: (11, 1, 0, .lconst 0) :: (12, 3, 70, .putfield 58) :: (15, 1, 0, .aload_n 0) :: (16, 1, 1, .lconst 1) :: (17, 3, 71, .putfield 30) :: (20, 1, 0, .return_) :: []) ls st σ := rfl
theorem S_X2_mendCut (c : Int) (σ : zM) : zcall 13 [vR c] σ = zres 13 C_X2_mendCut_0 [vR c] [] σ := by
  unfold zcall zloc
  rw [G_X2_mendCut, M_X2_mendCut.2.1]
  rfl
theorem J_X2_giveWhole_0 : zjump 14 0 = C_X2_giveWhole_0 := by decide +kernel
theorem J_X2_giveWhole_12 : zjump 14 12 = C_X2_giveWhole_12 := by decide +kernel
theorem U_X2_giveWhole_0 (ls st : List zV) (σ : zM) : zres 14 C_X2_giveWhole_0 ls st σ = zres 14 ((0, 1, 0, .aload_n 0) :: (1, 3, 68, .getfield 24) :: (4, 1, 0, .iload_n 1) :: (5, 3, 12, .if_icmp .ne 7) :: (8, 1, 0, .aload_n 0) :: (9, 3, 13, .invokevirtual 52) :: C_X2_giveWhole_12) ls st σ := rfl
theorem U_X2_giveWhole_12 (ls st : List zV) (σ : zM) : zres 14 C_X2_giveWhole_12 ls st σ = zres 14 ((12, 1, 0, .aload_n 0) :: (13, 3, 67, .getfield 20) :: (16, 1, 0, .iload_n 1) :: (17, 1, 0, .iload_n 2) :: (18, 1, 0, .iastore) :: (19, 1, 0, .return_) :: []) ls st σ := rfl
theorem S_X2_giveWhole (c a0 a1 : Int) (σ : zM) : zcall 14 [vR c, vI a0, vI a1] σ = zres 14 C_X2_giveWhole_0 [vR c, vI a0, vI a1] [] σ := by
  unfold zcall zloc
  rw [G_X2_giveWhole, M_X2_giveWhole.2.1]
  rfl
theorem J_X2_cutThing_0 : zjump 15 0 = C_X2_cutThing_0 := by decide +kernel
theorem U_X2_cutThing_0 (ls st : List zV) (σ : zM) : zres 15 C_X2_cutThing_0 ls st σ = zres 15 ((0, 1, 0, .aload_n 0) :: (1, 1, 0, .iload_n 1) :: (2, 3, 68, .putfield 24) :: (5, 1, 0, .aload_n 0) :: (6, 1, 0, .iload_n 2) :: (7, 3, 69, .putfield 27) :: (10, 1, 0, .aload_n 0) :: (11, 1, 0, .lload_n 3) :: (12, 2, 0, .lload 5) :: (14, 1, 0, .iconst 0) :: (15, 3, 92, .invokestatic 61) :: (18, 3, 70, .putfield 58) :: (21, 1, 0, .aload_n 0) :: (22, 1, 0, .lload_n 3) :: (23, 2, 0, .lload 5) :: (25, 1, 1, .iconst 1) :: (26, 3, 92, .invokestatic 61) :: (29, 3, 71, .putfield 30) :: (32, 1, 0, .return_) :: []) ls st σ := rfl
theorem S_X2_cutThing (c a0 a1 a2 a3 : Int) (σ : zM) : zcall 15 [vR c, vI a0, vI a1, vL a2, vL a3] σ = zres 15 C_X2_cutThing_0 [vR c, vI a0, vI a1, vL a2, vU, vL a3, vU] [] σ := by
  unfold zcall zloc
  rw [G_X2_cutThing, M_X2_cutThing.2.1]
  rfl
theorem J_X2_divideBy_0 : zjump 16 0 = C_X2_divideBy_0 := by decide +kernel
theorem J_X2_divideBy_46 : zjump 16 46 = C_X2_divideBy_46 := by decide +kernel
theorem U_X2_divideBy_0 (ls st : List zV) (σ : zM) : zres 16 C_X2_divideBy_0 ls st σ = zres 16 ((0, 1, 0, .aload_n 0) :: (1, 3, 13, .invokevirtual 52) :: (4, 1, 0, .aload_n 1) :: (5, 3, 0, .getfield 65) :: (8, 1, 0, .iconst 0) :: (9, 1, 0, .aload_n 0) :: (10, 3, 67, .getfield 20) :: (13, 1, 0, .iconst 0) :: (14, 2, 6, .bipush 6) :: (16, 3, 9999, .invokestatic 70) :: (19, 1, 0, .aload_n 1) :: (20, 3, 5, .getfield 76) :: (23, 3, 46, .ifCond .lt 23) :: (26, 1, 0, .aload_n 0) :: (27, 1, 0, .aload_n 1) :: (28, 3, 5, .getfield 76) :: (31, 1, 0, .aload_n 1) :: (32, 3, 3, .getfield 77) :: (35, 1, 0, .aload_n 1) :: (36, 3, 6, .getfield 80) :: (39, 1, 0, .aload_n 1) :: (40, 3, 7, .getfield 81) :: (43, 3, 15, .invokevirtual 82) :: C_X2_divideBy_46) ls st σ := rfl
theorem U_X2_divideBy_46 (ls st : List zV) (σ : zM) : zres 16 C_X2_divideBy_46 ls st σ = zres 16 ((46, 1, 0, .return_) :: []) ls st σ := rfl
theorem S_X2_divideBy (c a0 : Int) (σ : zM) : zcall 16 [vR c, vR a0] σ = zres 16 C_X2_divideBy_0 [vR c, vR a0] [] σ := by
  unfold zcall zloc
  rw [G_X2_divideBy, M_X2_divideBy.2.1]
  rfl
theorem J_X2_partsOf_0 : zjump 17 0 = C_X2_partsOf_0 := by decide +kernel
theorem J_X2_partsOf_21 : zjump 17 21 = C_X2_partsOf_21 := by decide +kernel
theorem J_X2_partsOf_33 : zjump 17 33 = C_X2_partsOf_33 := by decide +kernel
theorem J_X2_partsOf_53 : zjump 17 53 = C_X2_partsOf_53 := by decide +kernel
theorem J_X2_partsOf_57 : zjump 17 57 = C_X2_partsOf_57 := by decide +kernel
theorem U_X2_partsOf_0 (ls st : List zV) (σ : zM) : zres 17 C_X2_partsOf_0 ls st σ = zres 17 ((0, 1, 0, .aload_n 0) :: (1, 3, 68, .getfield 24) :: (4, 1, 0, .iload_n 2) :: (5, 3, 21, .if_icmp .ne 16) :: (8, 1, 0, .aload_n 0) :: (9, 3, 69, .getfield 27) :: (12, 1, 0, .iload_n 1) :: (13, 3, 21, .if_icmp .ne 8) :: (16, 1, 0, .aload_n 0) :: (17, 3, 70, .getfield 58) :: (20, 1, 0, .lreturn) :: C_X2_partsOf_21) ls st σ := rfl
theorem U_X2_partsOf_21 (ls st : List zV) (σ : zM) : zres 17 C_X2_partsOf_21 ls st σ = zres 17 ((21, 1, 0, .aload_n 0) :: (22, 3, 67, .getfield 20) :: (25, 1, 0, .iload_n 2) :: (26, 1, 0, .iaload) :: (27, 1, 0, .iload_n 1) :: (28, 3, 33, .if_icmp .eq 5) :: (31, 1, 0, .lconst 0) :: (32, 1, 0, .lreturn) :: C_X2_partsOf_33) ls st σ := rfl
theorem U_X2_partsOf_33 (ls st : List zV) (σ : zM) : zres 17 C_X2_partsOf_33 ls st σ = zres 17 ((33, 1, 0, .aload_n 0) :: (34, 3, 68, .getfield 24) :: (37, 1, 0, .iload_n 2) :: (38, 3, 53, .if_icmp .ne 15) :: (41, 1, 0, .aload_n 0) :: (42, 3, 71, .getfield 30) :: (45, 1, 0, .aload_n 0) :: (46, 3, 70, .getfield 58) :: (49, 1, 0, .lsub) :: (50, 3, 57, .goto 7) :: C_X2_partsOf_53) ls st σ := rfl
theorem U_X2_partsOf_53 (ls st : List zV) (σ : zM) : zres 17 C_X2_partsOf_53 ls st σ = zres 17 ((53, 1, 0, .aload_n 0) :: (54, 3, 71, .getfield 30) :: C_X2_partsOf_57) ls st σ := rfl
theorem U_X2_partsOf_57 (ls st : List zV) (σ : zM) : zres 17 C_X2_partsOf_57 ls st σ = zres 17 ((57, 1, 0, .lreturn) :: []) ls st σ := rfl
theorem S_X2_partsOf (c a0 a1 : Int) (σ : zM) : zcall 17 [vR c, vI a0, vI a1] σ = zres 17 C_X2_partsOf_0 [vR c, vI a0, vI a1] [] σ := by
  unfold zcall zloc
  rw [G_X2_partsOf, M_X2_partsOf.2.1]
  rfl
theorem J_X2_total_0 : zjump 18 0 = C_X2_total_0 := by decide +kernel
theorem U_X2_total_0 (ls st : List zV) (σ : zM) : zres 18 C_X2_total_0 ls st σ = zres 18 ((0, 1, 0, .aload_n 0) :: (1, 3, 66, .getfield 17) :: (4, 1, 0, .iload_n 1) :: (5, 1, 0, .aaload) :: (6, 1, 0, .aload_n 0) :: (7, 3, 65, .getfield 49) :: (10, 3, 94, .invokestatic 86) :: (13, 1, 0, .ireturn) :: []) ls st σ := rfl
theorem S_X2_total (c a0 : Int) (σ : zM) : zcall 18 [vR c, vI a0] σ = zres 18 C_X2_total_0 [vR c, vI a0] [] σ := by
  unfold zcall zloc
  rw [G_X2_total, M_X2_total.2.1]
  rfl
theorem J_X2_worth_0 : zjump 19 0 = C_X2_worth_0 := by decide +kernel
theorem J_X2_worth_5 : zjump 19 5 = C_X2_worth_5 := by decide +kernel
theorem J_X2_worth_41 : zjump 19 41 = C_X2_worth_41 := by decide +kernel
theorem U_X2_worth_0 (ls st : List zV) (σ : zM) : zres 19 C_X2_worth_0 ls st σ = zres 19 ((0, 1, 0, .lconst 0) :: (1, 1, 0, .lstore_n 3) :: (2, 1, 0, .iconst 0) :: (3, 2, 0, .istore 5) :: C_X2_worth_5) ls st σ := rfl
theorem U_X2_worth_5 (ls st : List zV) (σ : zM) : zres 19 C_X2_worth_5 ls st σ = zres 19 ((5, 2, 0, .iload 5) :: (7, 1, 0, .aload_n 0) :: (8, 3, 65, .getfield 49) :: (11, 3, 41, .if_icmp .ge 30) :: (14, 1, 0, .lload_n 3) :: (15, 1, 0, .aload_n 0) :: (16, 3, 66, .getfield 17) :: (19, 1, 0, .iload_n 1) :: (20, 1, 0, .aaload) :: (21, 2, 0, .iload 5) :: (23, 1, 0, .iaload) :: (24, 1, 0, .i2l) :: (25, 1, 0, .aload_n 0) :: (26, 1, 0, .iload_n 2) :: (27, 2, 0, .iload 5) :: (29, 3, 17, .invokevirtual 90) :: (32, 1, 0, .lmul) :: (33, 1, 0, .ladd) :: (34, 1, 0, .lstore_n 3) :: (35, 3, 0, .iinc 5 1) :: (38, 3, 5, .goto (-33)) :: C_X2_worth_41) ls st σ := rfl
theorem U_X2_worth_41 (ls st : List zV) (σ : zM) : zres 19 C_X2_worth_41 ls st σ = zres 19 ((41, 1, 0, .lload_n 3) :: (42, 1, 0, .lreturn) :: []) ls st σ := rfl
theorem S_X2_worth (c a0 a1 : Int) (σ : zM) : zcall 19 [vR c, vI a0, vI a1] σ = zres 19 C_X2_worth_0 [vR c, vI a0, vI a1, vU, vU, vU] [] σ := by
  unfold zcall zloc
  rw [G_X2_worth, M_X2_worth.2.1]
  rfl
theorem J_X2_bitsOf_0 : zjump 20 0 = C_X2_bitsOf_0 := by decide +kernel
theorem J_X2_bitsOf_4 : zjump 20 4 = C_X2_bitsOf_4 := by decide +kernel
theorem J_X2_bitsOf_29 : zjump 20 29 = C_X2_bitsOf_29 := by decide +kernel
theorem J_X2_bitsOf_35 : zjump 20 35 = C_X2_bitsOf_35 := by decide +kernel
theorem U_X2_bitsOf_0 (ls st : List zV) (σ : zM) : zres 20 C_X2_bitsOf_0 ls st σ = zres 20 ((0, 1, 0, .iconst 0) :: (1, 1, 0, .istore_n 2) :: (2, 1, 0, .iconst 0) :: (3, 1, 0, .istore_n 3) :: C_X2_bitsOf_4) ls st σ := rfl
theorem U_X2_bitsOf_4 (ls st : List zV) (σ : zM) : zres 20 C_X2_bitsOf_4 ls st σ = zres 20 ((4, 1, 0, .iload_n 3) :: (5, 1, 0, .aload_n 0) :: (6, 3, 65, .getfield 49) :: (9, 3, 35, .if_icmp .ge 26) :: (12, 1, 0, .aload_n 0) :: (13, 1, 0, .iload_n 1) :: (14, 1, 0, .iload_n 3) :: (15, 3, 17, .invokevirtual 90) :: (18, 1, 0, .lconst 0) :: (19, 1, 0, .lcmp) :: (20, 3, 29, .ifCond .le 9) :: (23, 1, 0, .iload_n 2) :: (24, 1, 1, .iconst 1) :: (25, 1, 0, .iload_n 3) :: (26, 1, 0, .ishl) :: (27, 1, 0, .ior) :: (28, 1, 0, .istore_n 2) :: C_X2_bitsOf_29) ls st σ := rfl
theorem U_X2_bitsOf_29 (ls st : List zV) (σ : zM) : zres 20 C_X2_bitsOf_29 ls st σ = zres 20 ((29, 3, 0, .iinc 3 1) :: (32, 3, 4, .goto (-28)) :: C_X2_bitsOf_35) ls st σ := rfl
theorem U_X2_bitsOf_35 (ls st : List zV) (σ : zM) : zres 20 C_X2_bitsOf_35 ls st σ = zres 20 ((35, 1, 0, .iload_n 2) :: (36, 1, 0, .ireturn) :: []) ls st σ := rfl
theorem S_X2_bitsOf (c a0 : Int) (σ : zM) : zcall 20 [vR c, vI a0] σ = zres 20 C_X2_bitsOf_0 [vR c, vI a0, vU, vU] [] σ := by
  unfold zcall zloc
  rw [G_X2_bitsOf, M_X2_bitsOf.2.1]
  rfl
theorem J_X2_cuts_0 : zjump 21 0 = C_X2_cuts_0 := by decide +kernel
theorem J_X2_cuts_11 : zjump 21 11 = C_X2_cuts_11 := by decide +kernel
theorem J_X2_cuts_12 : zjump 21 12 = C_X2_cuts_12 := by decide +kernel
theorem U_X2_cuts_0 (ls st : List zV) (σ : zM) : zres 21 C_X2_cuts_0 ls st σ = zres 21 ((0, 1, 0, .aload_n 0) :: (1, 3, 68, .getfield 24) :: (4, 3, 11, .ifCond .lt 7) :: (7, 1, 1, .iconst 1) :: (8, 3, 12, .goto 4) :: C_X2_cuts_11) ls st σ := rfl
theorem U_X2_cuts_11 (ls st : List zV) (σ : zM) : zres 21 C_X2_cuts_11 ls st σ = zres 21 ((11, 1, 0, .iconst 0) :: C_X2_cuts_12) ls st σ := rfl
theorem U_X2_cuts_12 (ls st : List zV) (σ : zM) : zres 21 C_X2_cuts_12 ls st σ = zres 21 ((12, 1, 0, .ireturn) :: []) ls st σ := rfl
theorem S_X2_cuts (c : Int) (σ : zM) : zcall 21 [vR c] σ = zres 21 C_X2_cuts_0 [vR c] [] σ := by
  unfold zcall zloc
  rw [G_X2_cuts, M_X2_cuts.2.1]
  rfl
theorem J_X2_unheld_0 : zjump 22 0 = C_X2_unheld_0 := by decide +kernel
theorem J_X2_unheld_4 : zjump 22 4 = C_X2_unheld_4 := by decide +kernel
theorem J_X2_unheld_25 : zjump 22 25 = C_X2_unheld_25 := by decide +kernel
theorem J_X2_unheld_31 : zjump 22 31 = C_X2_unheld_31 := by decide +kernel
theorem U_X2_unheld_0 (ls st : List zV) (σ : zM) : zres 22 C_X2_unheld_0 ls st σ = zres 22 ((0, 1, 0, .iconst 0) :: (1, 1, 0, .istore_n 1) :: (2, 1, 0, .iconst 0) :: (3, 1, 0, .istore_n 2) :: C_X2_unheld_4) ls st σ := rfl
theorem U_X2_unheld_4 (ls st : List zV) (σ : zM) : zres 22 C_X2_unheld_4 ls st σ = zres 22 ((4, 1, 0, .iload_n 2) :: (5, 1, 0, .aload_n 0) :: (6, 3, 65, .getfield 49) :: (9, 3, 31, .if_icmp .ge 22) :: (12, 1, 0, .aload_n 0) :: (13, 3, 67, .getfield 20) :: (16, 1, 0, .iload_n 2) :: (17, 1, 0, .iaload) :: (18, 1, (-1), .iconst (-1)) :: (19, 3, 25, .if_icmp .ne 6) :: (22, 3, 0, .iinc 1 1) :: C_X2_unheld_25) ls st σ := rfl
theorem U_X2_unheld_25 (ls st : List zV) (σ : zM) : zres 22 C_X2_unheld_25 ls st σ = zres 22 ((25, 3, 0, .iinc 2 1) :: (28, 3, 4, .goto (-24)) :: C_X2_unheld_31) ls st σ := rfl
theorem U_X2_unheld_31 (ls st : List zV) (σ : zM) : zres 22 C_X2_unheld_31 ls st σ = zres 22 ((31, 1, 0, .iload_n 1) :: (32, 1, 0, .ireturn) :: []) ls st σ := rfl
theorem S_X2_unheld (c : Int) (σ : zM) : zcall 22 [vR c] σ = zres 22 C_X2_unheld_0 [vR c, vU, vU] [] σ := by
  unfold zcall zloc
  rw [G_X2_unheld, M_X2_unheld.2.1]
  rfl
theorem J_X2_become_0 : zjump 23 0 = C_X2_become_0 := by decide +kernel
theorem U_X2_become_0 (ls st : List zV) (σ : zM) : zres 23 C_X2_become_0 ls st σ = zres 23 ((0, 1, 0, .aload_n 0) :: (1, 1, 0, .aload_n 1) :: (2, 3, 64, .getfield 9) :: (5, 3, 64, .putfield 9) :: (8, 1, 0, .aload_n 0) :: (9, 1, 0, .aload_n 1) :: (10, 3, 65, .getfield 49) :: (13, 3, 65, .putfield 49) :: (16, 1, 0, .aload_n 1) :: (17, 3, 66, .getfield 17) :: (20, 1, 0, .aload_n 0) :: (21, 3, 66, .getfield 17) :: (24, 3, 93, .invokestatic 94) :: (27, 1, 0, .aload_n 1) :: (28, 3, 67, .getfield 20) :: (31, 1, 0, .iconst 0) :: (32, 1, 0, .aload_n 0) :: (33, 3, 67, .getfield 20) :: (36, 1, 0, .iconst 0) :: (37, 2, 6, .bipush 6) :: (39, 3, 9999, .invokestatic 70) :: (42, 1, 0, .aload_n 0) :: (43, 1, 0, .aload_n 1) :: (44, 3, 68, .getfield 24) :: (47, 3, 68, .putfield 24) :: (50, 1, 0, .aload_n 0) :: (51, 1, 0, .aload_n 1) :: (52, 3, 69, .getfield 27) :: (55, 3, 69, .putfield 27) :: (58, 1, 0, .aload_n 0) :: (59, 1, 0, .aload_n 1) :: (60, 3, 70, .getfield 58) :: (63, 3, 70, .putfield 58) :: (66, 1, 0, .aload_n 0) :: (67, 1, 0, .aload_n 1) :: (68, 3, 71, .getfield 30) :: (71, 3, 71, .putfield 30) :: (74, 1, 0, .aload_n 0) :: (75, 3, 72, .getfield 39) :: (78, 1, 0, .aload_n 1) :: (79, 3, 72, .getfield 39) :: (82, 3, 10, .invokevirtual 98) :: (85, 1, 0, .aload_n 0) :: (86, 3, 73, .getfield 43) :: (89, 1, 0, .aload_n 1) :: (90, 3, 73, .getfield 43) :: (93, 3, 10, .invokevirtual 98) :: (96, 1, 0, .aload_n 0) :: (97, 3, 74, .getfield 46) :: (100, 1, 0, .aload_n 1) :: (101, 3, 74, .getfield 46) :: (104, 3, 10, .invokevirtual 98) :: (107, 1, 0, .return_) :: []) ls st σ := rfl
theorem S_X2_become (c a0 : Int) (σ : zM) : zcall 23 [vR c, vR a0] σ = zres 23 C_X2_become_0 [vR c, vR a0] [] σ := by
  unfold zcall zloc
  rw [G_X2_become, M_X2_become.2.1]
  rfl
theorem J_X3_isNothing_0 : zjump 24 0 = C_X3_isNothing_0 := by decide +kernel
theorem J_X3_isNothing_11 : zjump 24 11 = C_X3_isNothing_11 := by decide +kernel
theorem J_X3_isNothing_12 : zjump 24 12 = C_X3_isNothing_12 := by decide +kernel
theorem U_X3_isNothing_0 (ls st : List zV) (σ : zM) : zres 24 C_X3_isNothing_0 ls st σ = zres 24 ((0, 1, 0, .aload_n 0) :: (1, 3, 96, .getfield 9) :: (4, 3, 11, .ifCond .ge 7) :: (7, 1, 1, .iconst 1) :: (8, 3, 12, .goto 4) :: C_X3_isNothing_11) ls st σ := rfl
theorem U_X3_isNothing_11 (ls st : List zV) (σ : zM) : zres 24 C_X3_isNothing_11 ls st σ = zres 24 ((11, 1, 0, .iconst 0) :: C_X3_isNothing_12) ls st σ := rfl
theorem U_X3_isNothing_12 (ls st : List zV) (σ : zM) : zres 24 C_X3_isNothing_12 ls st σ = zres 24 ((12, 1, 1, .ireturn) :: []) ls st σ := rfl
theorem S_X3_isNothing (c : Int) (σ : zM) : zcall 24 [vR c] σ = zres 24 C_X3_isNothing_0 [vR c] [] σ := by
  unfold zcall zloc
  rw [G_X3_isNothing, M_X3_isNothing.2.1]
  rfl
theorem J_X3_begin_0 : zjump 25 0 = C_X3_begin_0 := by decide +kernel
theorem J_X3_begin_12 : zjump 25 12 = C_X3_begin_12 := by decide +kernel
theorem J_X3_begin_34 : zjump 25 34 = C_X3_begin_34 := by decide +kernel
theorem U_X3_begin_0 (ls st : List zV) (σ : zM) : zres 25 C_X3_begin_0 ls st σ = zres 25 ((0, 1, 0, .aload_n 0) :: (1, 1, 0, .iload_n 1) :: (2, 3, 96, .putfield 9) :: (5, 1, 0, .aload_n 0) :: (6, 1, 0, .iload_n 2) :: (7, 3, 97, .putfield 19) :: (10, 1, 0, .iconst 0) :: (11, 1, 0, .istore_n 3) :: C_X3_begin_12) ls st σ := rfl
theorem U_X3_begin_12 (ls st : List zV) (σ : zM) : zres 25 C_X3_begin_12 ls st σ = zres 25 ((12, 1, 0, .iload_n 3) :: (13, 1, 0, .aload_n 0) :: (14, 3, 98, .getfield 15) :: (17, 1, 0, .arraylength) :: (18, 3, 34, .if_icmp .ge 16) :: (21, 1, 0, .aload_n 0) :: (22, 3, 98, .getfield 15) :: (25, 1, 0, .iload_n 3) :: (26, 1, 0, .lconst 0) :: (27, 1, 0, .lastore) :: (28, 3, 0, .iinc 3 1) :: (31, 3, 12, .goto (-19)) :: C_X3_begin_34) ls st σ := rfl
theorem U_X3_begin_34 (ls st : List zV) (σ : zM) : zres 25 C_X3_begin_34 ls st σ = zres 25 ((34, 1, 0, .return_) :: []) ls st σ := rfl
theorem S_X3_begin (c a0 a1 : Int) (σ : zM) : zcall 25 [vR c, vI a0, vI a1] σ = zres 25 C_X3_begin_0 [vR c, vI a0, vI a1, vU] [] σ := by
  unfold zcall zloc
  rw [G_X3_begin, M_X3_begin.2.1]
  rfl
theorem J_X3_asItem_0 : zjump 26 0 = C_X3_asItem_0 := by decide +kernel
theorem J_X3_asItem_36 : zjump 26 36 = C_X3_asItem_36 := by decide +kernel
theorem J_X3_asItem_41 : zjump 26 41 = C_X3_asItem_41 := by decide +kernel
theorem J_X3_asItem_46 : zjump 26 46 = C_X3_asItem_46 := by decide +kernel
theorem J_X3_asItem_50 : zjump 26 50 = C_X3_asItem_50 := by decide +kernel
theorem J_X3_asItem_52 : zjump 26 52 = C_X3_asItem_52 := by decide +kernel
theorem J_X3_asItem_62 : zjump 26 62 = C_X3_asItem_62 := by decide +kernel
theorem J_X3_asItem_63 : zjump 26 63 = C_X3_asItem_63 := by decide +kernel
theorem U_X3_asItem_0 (ls st : List zV) (σ : zM) : zres 26 C_X3_asItem_0 ls st σ = zres 26 ((0, 1, 0, .aload_n 0) :: (1, 3, 96, .getfield 9) :: (4, 32, 0, .tableswitch 48 0 3 #[32, 37, 42, 46]) :: C_X3_asItem_36) ls st σ := rfl
theorem U_X3_asItem_36 (ls st : List zV) (σ : zM) : zres 26 C_X3_asItem_36 ls st σ = zres 26 ((36, 1, 0, .lload_n 1) :: (37, 1, 0, .l2i) :: (38, 1, 0, .i2b) :: (39, 1, 0, .i2l) :: (40, 1, 0, .lreturn) :: C_X3_asItem_41) ls st σ := rfl
theorem U_X3_asItem_41 (ls st : List zV) (σ : zM) : zres 26 C_X3_asItem_41 ls st σ = zres 26 ((41, 1, 0, .lload_n 1) :: (42, 1, 0, .l2i) :: (43, 1, 0, .i2s) :: (44, 1, 0, .i2l) :: (45, 1, 0, .lreturn) :: C_X3_asItem_46) ls st σ := rfl
theorem U_X3_asItem_46 (ls st : List zV) (σ : zM) : zres 26 C_X3_asItem_46 ls st σ = zres 26 ((46, 1, 0, .lload_n 1) :: (47, 1, 0, .l2i) :: (48, 1, 0, .i2l) :: (49, 1, 0, .lreturn) :: C_X3_asItem_50) ls st σ := rfl
theorem U_X3_asItem_50 (ls st : List zV) (σ : zM) : zres 26 C_X3_asItem_50 ls st σ = zres 26 ((50, 1, 0, .lload_n 1) :: (51, 1, 0, .lreturn) :: C_X3_asItem_52) ls st σ := rfl
theorem U_X3_asItem_52 (ls st : List zV) (σ : zM) : zres 26 C_X3_asItem_52 ls st σ = zres 26 ((52, 1, 0, .lload_n 1) :: (53, 1, 0, .lconst 0) :: (54, 1, 0, .lcmp) :: (55, 3, 62, .ifCond .eq 7) :: (58, 1, 1, .lconst 1) :: (59, 3, 63, .goto 4) :: C_X3_asItem_62) ls st σ := rfl
theorem U_X3_asItem_62 (ls st : List zV) (σ : zM) : zres 26 C_X3_asItem_62 ls st σ = zres 26 ((62, 1, 0, .lconst 0) :: C_X3_asItem_63) ls st σ := rfl
theorem U_X3_asItem_63 (ls st : List zV) (σ : zM) : zres 26 C_X3_asItem_63 ls st σ = zres 26 ((63, 1, 0, .lreturn) :: []) ls st σ := rfl
theorem S_X3_asItem (c a0 : Int) (σ : zM) : zcall 26 [vR c, vL a0] σ = zres 26 C_X3_asItem_0 [vR c, vL a0, vU] [] σ := by
  unfold zcall zloc
  rw [G_X3_asItem, M_X3_asItem.2.1]
  rfl
theorem J_X3_hasPlaces_0 : zjump 27 0 = C_X3_hasPlaces_0 := by decide +kernel
theorem J_X3_hasPlaces_30 : zjump 27 30 = C_X3_hasPlaces_30 := by decide +kernel
theorem J_X3_hasPlaces_31 : zjump 27 31 = C_X3_hasPlaces_31 := by decide +kernel
theorem U_X3_hasPlaces_0 (ls st : List zV) (σ : zM) : zres 27 C_X3_hasPlaces_0 ls st σ = zres 27 ((0, 1, 0, .iload_n 2) :: (1, 3, 30, .ifCond .lt 29) :: (4, 1, 0, .iload_n 1) :: (5, 3, 30, .ifCond .lt 25) :: (8, 1, 0, .iload_n 2) :: (9, 1, 0, .aload_n 0) :: (10, 3, 97, .getfield 19) :: (13, 3, 30, .if_icmp .gt 17) :: (16, 1, 0, .iload_n 1) :: (17, 1, 0, .aload_n 0) :: (18, 3, 97, .getfield 19) :: (21, 1, 0, .iload_n 2) :: (22, 1, 0, .isub) :: (23, 3, 30, .if_icmp .gt 7) :: (26, 1, 1, .iconst 1) :: (27, 3, 31, .goto 4) :: C_X3_hasPlaces_30) ls st σ := rfl
theorem U_X3_hasPlaces_30 (ls st : List zV) (σ : zM) : zres 27 C_X3_hasPlaces_30 ls st σ = zres 27 ((30, 1, 0, .iconst 0) :: C_X3_hasPlaces_31) ls st σ := rfl
theorem U_X3_hasPlaces_31 (ls st : List zV) (σ : zM) : zres 27 C_X3_hasPlaces_31 ls st σ = zres 27 ((31, 1, 1, .ireturn) :: []) ls st σ := rfl
theorem S_X3_hasPlaces (c a0 a1 : Int) (σ : zM) : zcall 27 [vR c, vI a0, vI a1] σ = zres 27 C_X3_hasPlaces_0 [vR c, vI a0, vI a1] [] σ := by
  unfold zcall zloc
  rw [G_X3_hasPlaces, M_X3_hasPlaces.2.1]
  rfl
theorem J_X4_append_0 : zjump 28 0 = C_X4_append_0 := by decide +kernel
theorem U_X4_append_0 (ls st : List zV) (σ : zM) : zres 28 C_X4_append_0 ls st σ = zres 28 ((0, 1, 0, .aload_n 0) :: (1, 3, 128, .getfield 9) :: (4, 1, 0, .aload_n 0) :: (5, 3, 129, .getfield 15) :: (8, 1, 0, .iload_n 1) :: (9, 1, 0, .i2b) :: (10, 1, 0, .bastore) :: (11, 1, 0, .aload_n 0) :: (12, 1, 0, .dup) :: (13, 3, 129, .getfield 15) :: (16, 1, 1, .iconst 1) :: (17, 1, 0, .iadd) :: (18, 3, 129, .putfield 15) :: (21, 1, 0, .aload_n 0) :: (22, 3, 129, .getfield 15) :: (25, 1, 0, .ireturn) :: []) ls st σ := rfl
theorem S_X4_append (c a0 : Int) (σ : zM) : zcall 28 [vR c, vI a0] σ = zres 28 C_X4_append_0 [vR c, vI a0] [] σ := by
  unfold zcall zloc
  rw [G_X4_append, M_X4_append.2.1]
  rfl
theorem J_X4_signAt_0 : zjump 29 0 = C_X4_signAt_0 := by decide +kernel
theorem J_X4_signAt_21 : zjump 29 21 = C_X4_signAt_21 := by decide +kernel
theorem J_X4_signAt_22 : zjump 29 22 = C_X4_signAt_22 := by decide +kernel
theorem U_X4_signAt_0 (ls st : List zV) (σ : zM) : zres 29 C_X4_signAt_0 ls st σ = zres 29 ((0, 1, 0, .iload_n 1) :: (1, 3, 21, .ifCond .lt 20) :: (4, 1, 0, .iload_n 1) :: (5, 1, 0, .aload_n 0) :: (6, 3, 129, .getfield 15) :: (9, 3, 21, .if_icmp .ge 12) :: (12, 1, 0, .aload_n 0) :: (13, 3, 128, .getfield 9) :: (16, 1, 0, .iload_n 1) :: (17, 1, 0, .baload) :: (18, 3, 22, .goto 4) :: C_X4_signAt_21) ls st σ := rfl
theorem U_X4_signAt_21 (ls st : List zV) (σ : zM) : zres 29 C_X4_signAt_21 ls st σ = zres 29 ((21, 1, (-1), .iconst (-1)) :: C_X4_signAt_22) ls st σ := rfl
theorem U_X4_signAt_22 (ls st : List zV) (σ : zM) : zres 29 C_X4_signAt_22 ls st σ = zres 29 ((22, 1, 0, .ireturn) :: []) ls st σ := rfl
theorem S_X4_signAt (c a0 : Int) (σ : zM) : zcall 29 [vR c, vI a0] σ = zres 29 C_X4_signAt_0 [vR c, vI a0] [] σ := by
  unfold zcall zloc
  rw [G_X4_signAt, M_X4_signAt.2.1]
  rfl
theorem J_X4_digitAt_0 : zjump 30 0 = C_X4_digitAt_0 := by decide +kernel
theorem J_X4_digitAt_25 : zjump 30 25 = C_X4_digitAt_25 := by decide +kernel
theorem J_X4_digitAt_26 : zjump 30 26 = C_X4_digitAt_26 := by decide +kernel
theorem U_X4_digitAt_0 (ls st : List zV) (σ : zM) : zres 30 C_X4_digitAt_0 ls st σ = zres 30 ((0, 1, 0, .aload_n 0) :: (1, 1, 0, .iload_n 1) :: (2, 3, 29, .invokevirtual 19) :: (5, 1, 0, .istore_n 2) :: (6, 1, 0, .iload_n 2) :: (7, 2, 48, .bipush 48) :: (9, 3, 25, .if_icmp .lt 16) :: (12, 1, 0, .iload_n 2) :: (13, 2, 57, .bipush 57) :: (15, 3, 25, .if_icmp .gt 10) :: (18, 1, 0, .iload_n 2) :: (19, 2, 48, .bipush 48) :: (21, 1, 0, .isub) :: (22, 3, 26, .goto 4) :: C_X4_digitAt_25) ls st σ := rfl
theorem U_X4_digitAt_25 (ls st : List zV) (σ : zM) : zres 30 C_X4_digitAt_25 ls st σ = zres 30 ((25, 1, (-1), .iconst (-1)) :: C_X4_digitAt_26) ls st σ := rfl
theorem U_X4_digitAt_26 (ls st : List zV) (σ : zM) : zres 30 C_X4_digitAt_26 ls st σ = zres 30 ((26, 1, 0, .ireturn) :: []) ls st σ := rfl
theorem S_X4_digitAt (c a0 : Int) (σ : zM) : zcall 30 [vR c, vI a0] σ = zres 30 C_X4_digitAt_0 [vR c, vI a0, vU] [] σ := by
  unfold zcall zloc
  rw [G_X4_digitAt, M_X4_digitAt.2.1]
  rfl
theorem J_X4_numberIn_0 : zjump 31 0 = C_X4_numberIn_0 := by decide +kernel
theorem J_X4_numberIn_5 : zjump 31 5 = C_X4_numberIn_5 := by decide +kernel
theorem J_X4_numberIn_29 : zjump 31 29 = C_X4_numberIn_29 := by decide +kernel
theorem U_X4_numberIn_0 (ls st : List zV) (σ : zM) : zres 31 C_X4_numberIn_0 ls st σ = zres 31 ((0, 1, 0, .iconst 0) :: (1, 1, 0, .istore_n 3) :: (2, 1, 0, .iload_n 1) :: (3, 2, 0, .istore 4) :: C_X4_numberIn_5) ls st σ := rfl
theorem U_X4_numberIn_5 (ls st : List zV) (σ : zM) : zres 31 C_X4_numberIn_5 ls st σ = zres 31 ((5, 2, 0, .iload 4) :: (7, 1, 0, .iload_n 2) :: (8, 3, 29, .if_icmp .ge 21) :: (11, 2, 10, .bipush 10) :: (13, 1, 0, .iload_n 3) :: (14, 1, 0, .imul) :: (15, 1, 0, .aload_n 0) :: (16, 2, 0, .iload 4) :: (18, 3, 30, .invokevirtual 23) :: (21, 1, 0, .iadd) :: (22, 1, 0, .istore_n 3) :: (23, 3, 0, .iinc 4 1) :: (26, 3, 5, .goto (-21)) :: C_X4_numberIn_29) ls st σ := rfl
theorem U_X4_numberIn_29 (ls st : List zV) (σ : zM) : zres 31 C_X4_numberIn_29 ls st σ = zres 31 ((29, 1, 0, .iload_n 3) :: (30, 1, 0, .ireturn) :: []) ls st σ := rfl
theorem S_X4_numberIn (c a0 a1 : Int) (σ : zM) : zcall 31 [vR c, vI a0, vI a1] σ = zres 31 C_X4_numberIn_0 [vR c, vI a0, vI a1, vU, vU] [] σ := by
  unfold zcall zloc
  rw [G_X4_numberIn, M_X4_numberIn.2.1]
  rfl
theorem J_X4_digitsBehind_0 : zjump 32 0 = C_X4_digitsBehind_0 := by decide +kernel
theorem J_X4_digitsBehind_68 : zjump 32 68 = C_X4_digitsBehind_68 := by decide +kernel
theorem J_X4_digitsBehind_70 : zjump 32 70 = C_X4_digitsBehind_70 := by decide +kernel
theorem J_X4_digitsBehind_72 : zjump 32 72 = C_X4_digitsBehind_72 := by decide +kernel
theorem J_X4_digitsBehind_74 : zjump 32 74 = C_X4_digitsBehind_74 := by decide +kernel
theorem J_X4_digitsBehind_76 : zjump 32 76 = C_X4_digitsBehind_76 := by decide +kernel
theorem U_X4_digitsBehind_0 (ls st : List zV) (σ : zM) : zres 32 C_X4_digitsBehind_0 ls st σ = zres 32 ((0, 1, 0, .iload_n 0) :: (1, 67, 0, .tableswitch 75 104 116 #[71, 75, 75, 75, 75, 75, 69, 75, 73, 75, 75, 71, 67]) :: C_X4_digitsBehind_68) ls st σ := rfl
theorem U_X4_digitsBehind_68 (ls st : List zV) (σ : zM) : zres 32 C_X4_digitsBehind_68 ls st σ = zres 32 ((68, 1, 0, .iconst 0) :: (69, 1, 0, .ireturn) :: C_X4_digitsBehind_70) ls st σ := rfl
theorem U_X4_digitsBehind_70 (ls st : List zV) (σ : zM) : zres 32 C_X4_digitsBehind_70 ls st σ = zres 32 ((70, 1, 1, .iconst 1) :: (71, 1, 0, .ireturn) :: C_X4_digitsBehind_72) ls st σ := rfl
theorem U_X4_digitsBehind_72 (ls st : List zV) (σ : zM) : zres 32 C_X4_digitsBehind_72 ls st σ = zres 32 ((72, 1, 2, .iconst 2) :: (73, 1, 0, .ireturn) :: C_X4_digitsBehind_74) ls st σ := rfl
theorem U_X4_digitsBehind_74 (ls st : List zV) (σ : zM) : zres 32 C_X4_digitsBehind_74 ls st σ = zres 32 ((74, 1, 3, .iconst 3) :: (75, 1, 0, .ireturn) :: C_X4_digitsBehind_76) ls st σ := rfl
theorem U_X4_digitsBehind_76 (ls st : List zV) (σ : zM) : zres 32 C_X4_digitsBehind_76 ls st σ = zres 32 ((76, 1, (-1), .iconst (-1)) :: (77, 1, 0, .ireturn) :: []) ls st σ := rfl
theorem S_X4_digitsBehind (a0 : Int) (σ : zM) : zcall 32 [vI a0] σ = zres 32 C_X4_digitsBehind_0 [vI a0] [] σ := by
  unfold zcall zloc
  rw [G_X4_digitsBehind, M_X4_digitsBehind.2.1]
  rfl
theorem J_X4_endOfClause_0 : zjump 33 0 = C_X4_endOfClause_0 := by decide +kernel
theorem J_X4_endOfClause_17 : zjump 33 17 = C_X4_endOfClause_17 := by decide +kernel
theorem J_X4_endOfClause_28 : zjump 33 28 = C_X4_endOfClause_28 := by decide +kernel
theorem J_X4_endOfClause_48 : zjump 33 48 = C_X4_endOfClause_48 := by decide +kernel
theorem J_X4_endOfClause_54 : zjump 33 54 = C_X4_endOfClause_54 := by decide +kernel
theorem J_X4_endOfClause_78 : zjump 33 78 = C_X4_endOfClause_78 := by decide +kernel
theorem J_X4_endOfClause_79 : zjump 33 79 = C_X4_endOfClause_79 := by decide +kernel
theorem U_X4_endOfClause_0 (ls st : List zV) (σ : zM) : zres 33 C_X4_endOfClause_0 ls st σ = zres 33 ((0, 1, 0, .aload_n 0) :: (1, 1, 0, .iload_n 1) :: (2, 3, 29, .invokevirtual 19) :: (5, 3, 32, .invokestatic 26) :: (8, 1, 0, .istore_n 2) :: (9, 1, 0, .iload_n 2) :: (10, 3, 17, .ifCond .ge 7) :: (13, 1, (-1), .iconst (-1)) :: (14, 1, 0, .iload_n 1) :: (15, 1, 0, .isub) :: (16, 1, 0, .ireturn) :: C_X4_endOfClause_17) ls st σ := rfl
theorem U_X4_endOfClause_17 (ls st : List zV) (σ : zM) : zres 33 C_X4_endOfClause_17 ls st σ = zres 33 ((17, 1, 0, .iload_n 1) :: (18, 1, 1, .iconst 1) :: (19, 1, 0, .iadd) :: (20, 1, 0, .iload_n 2) :: (21, 1, 0, .iadd) :: (22, 1, 0, .istore_n 3) :: (23, 1, 0, .iload_n 1) :: (24, 1, 1, .iconst 1) :: (25, 1, 0, .iadd) :: (26, 2, 0, .istore 4) :: C_X4_endOfClause_28) ls st σ := rfl
theorem U_X4_endOfClause_28 (ls st : List zV) (σ : zM) : zres 33 C_X4_endOfClause_28 ls st σ = zres 33 ((28, 2, 0, .iload 4) :: (30, 1, 0, .iload_n 3) :: (31, 3, 54, .if_icmp .ge 23) :: (34, 1, 0, .aload_n 0) :: (35, 2, 0, .iload 4) :: (37, 3, 30, .invokevirtual 23) :: (40, 3, 48, .ifCond .ge 8) :: (43, 1, (-1), .iconst (-1)) :: (44, 2, 0, .iload 4) :: (46, 1, 0, .isub) :: (47, 1, 0, .ireturn) :: C_X4_endOfClause_48) ls st σ := rfl
theorem U_X4_endOfClause_48 (ls st : List zV) (σ : zM) : zres 33 C_X4_endOfClause_48 ls st σ = zres 33 ((48, 3, 0, .iinc 4 1) :: (51, 3, 28, .goto (-23)) :: C_X4_endOfClause_54) ls st σ := rfl
theorem U_X4_endOfClause_54 (ls st : List zV) (σ : zM) : zres 33 C_X4_endOfClause_54 ls st σ = zres 33 ((54, 1, 0, .aload_n 0) :: (55, 1, 0, .iload_n 1) :: (56, 3, 29, .invokevirtual 19) :: (59, 2, 112, .bipush 112) :: (61, 3, 78, .if_icmp .ne 17) :: (64, 1, 0, .aload_n 0) :: (65, 1, 0, .iload_n 3) :: (66, 3, 30, .invokevirtual 23) :: (69, 3, 78, .ifCond .lt 9) :: (72, 1, 0, .iload_n 3) :: (73, 1, 1, .iconst 1) :: (74, 1, 0, .iadd) :: (75, 3, 79, .goto 4) :: C_X4_endOfClause_78) ls st σ := rfl
theorem U_X4_endOfClause_78 (ls st : List zV) (σ : zM) : zres 33 C_X4_endOfClause_78 ls st σ = zres 33 ((78, 1, 0, .iload_n 3) :: C_X4_endOfClause_79) ls st σ := rfl
theorem U_X4_endOfClause_79 (ls st : List zV) (σ : zM) : zres 33 C_X4_endOfClause_79 ls st σ = zres 33 ((79, 1, 0, .ireturn) :: []) ls st σ := rfl
theorem S_X4_endOfClause (c a0 : Int) (σ : zM) : zcall 33 [vR c, vI a0] σ = zres 33 C_X4_endOfClause_0 [vR c, vI a0, vU, vU, vU] [] σ := by
  unfold zcall zloc
  rw [G_X4_endOfClause, M_X4_endOfClause.2.1]
  rfl
theorem J_X4_fault_0 : zjump 34 0 = C_X4_fault_0 := by decide +kernel
theorem J_X4_fault_4 : zjump 34 4 = C_X4_fault_4 := by decide +kernel
theorem J_X4_fault_24 : zjump 34 24 = C_X4_fault_24 := by decide +kernel
theorem J_X4_fault_34 : zjump 34 34 = C_X4_fault_34 := by decide +kernel
theorem J_X4_fault_50 : zjump 34 50 = C_X4_fault_50 := by decide +kernel
theorem J_X4_fault_52 : zjump 34 52 = C_X4_fault_52 := by decide +kernel
theorem J_X4_fault_62 : zjump 34 62 = C_X4_fault_62 := by decide +kernel
theorem U_X4_fault_0 (ls st : List zV) (σ : zM) : zres 34 C_X4_fault_0 ls st σ = zres 34 ((0, 1, 0, .iconst 0) :: (1, 1, 0, .istore_n 1) :: (2, 1, 1, .iconst 1) :: (3, 1, 0, .istore_n 2) :: C_X4_fault_4) ls st σ := rfl
theorem U_X4_fault_4 (ls st : List zV) (σ : zM) : zres 34 C_X4_fault_4 ls st σ = zres 34 ((4, 1, 0, .iload_n 2) :: (5, 2, 14, .bipush 14) :: (7, 3, 62, .if_icmp .gt 55) :: (10, 1, 0, .aload_n 0) :: (11, 1, 0, .iload_n 1) :: (12, 3, 33, .invokevirtual 29) :: (15, 1, 0, .istore_n 3) :: (16, 1, 0, .iload_n 3) :: (17, 3, 24, .ifCond .ge 7) :: (20, 1, (-1), .iconst (-1)) :: (21, 1, 0, .iload_n 3) :: (22, 1, 0, .isub) :: (23, 1, 0, .ireturn) :: C_X4_fault_24) ls st σ := rfl
theorem U_X4_fault_24 (ls st : List zV) (σ : zM) : zres 34 C_X4_fault_24 ls st σ = zres 34 ((24, 1, 0, .iload_n 3) :: (25, 1, 0, .aload_n 0) :: (26, 3, 129, .getfield 15) :: (29, 3, 34, .if_icmp .ne 5) :: (32, 1, (-1), .iconst (-1)) :: (33, 1, 0, .ireturn) :: C_X4_fault_34) ls st σ := rfl
theorem U_X4_fault_34 (ls st : List zV) (σ : zM) : zres 34 C_X4_fault_34 ls st σ = zres 34 ((34, 1, 0, .iload_n 2) :: (35, 2, 14, .bipush 14) :: (37, 3, 50, .if_icmp .eq 13) :: (40, 1, 0, .aload_n 0) :: (41, 1, 0, .iload_n 3) :: (42, 3, 29, .invokevirtual 19) :: (45, 2, 59, .bipush 59) :: (47, 3, 52, .if_icmp .eq 5) :: C_X4_fault_50) ls st σ := rfl
theorem U_X4_fault_50 (ls st : List zV) (σ : zM) : zres 34 C_X4_fault_50 ls st σ = zres 34 ((50, 1, 0, .iload_n 3) :: (51, 1, 0, .ireturn) :: C_X4_fault_52) ls st σ := rfl
theorem U_X4_fault_52 (ls st : List zV) (σ : zM) : zres 34 C_X4_fault_52 ls st σ = zres 34 ((52, 1, 0, .iload_n 3) :: (53, 1, 1, .iconst 1) :: (54, 1, 0, .iadd) :: (55, 1, 0, .istore_n 1) :: (56, 3, 0, .iinc 2 1) :: (59, 3, 4, .goto (-55)) :: C_X4_fault_62) ls st σ := rfl
theorem U_X4_fault_62 (ls st : List zV) (σ : zM) : zres 34 C_X4_fault_62 ls st σ = zres 34 ((62, 1, 0, .iload_n 1) :: (63, 1, 0, .ireturn) :: []) ls st σ := rfl
theorem S_X4_fault (c : Int) (σ : zM) : zcall 34 [vR c] σ = zres 34 C_X4_fault_0 [vR c, vU, vU, vU] [] σ := by
  unfold zcall zloc
  rw [G_X4_fault, M_X4_fault.2.1]
  rfl
theorem J_X5_search_0 : zjump 35 0 = C_X5_search_0 := by decide +kernel
theorem J_X5_search_18 : zjump 35 18 = C_X5_search_18 := by decide +kernel
theorem J_X5_search_58 : zjump 35 58 = C_X5_search_58 := by decide +kernel
theorem J_X5_search_60 : zjump 35 60 = C_X5_search_60 := by decide +kernel
theorem J_X5_search_81 : zjump 35 81 = C_X5_search_81 := by decide +kernel
theorem U_X5_search_0 (ls st : List zV) (σ : zM) : zres 35 C_X5_search_0 ls st σ = zres 35 ((0, 1, 0, .aload_n 0) :: (1, 1, 0, .aload_n 1) :: (2, 3, 160, .putfield 24) :: (5, 1, 0, .aload_n 0) :: (6, 1, 0, .iload_n 2) :: (7, 3, 161, .putfield 28) :: (10, 1, 0, .aload_n 0) :: (11, 1, 0, .iload_n 3) :: (12, 3, 162, .putfield 32) :: (15, 1, 0, .iconst 0) :: (16, 2, 0, .istore 4) :: C_X5_search_18) ls st σ := rfl
theorem U_X5_search_18 (ls st : List zV) (σ : zM) : zres 35 C_X5_search_18 ls st σ = zres 35 ((18, 2, 0, .iload 4) :: (20, 1, 0, .aload_n 0) :: (21, 3, 161, .getfield 28) :: (24, 3, 81, .if_icmp .ge 57) :: (27, 1, 0, .aload_n 0) :: (28, 3, 160, .getfield 24) :: (31, 2, 0, .iload 4) :: (33, 1, 0, .aaload) :: (34, 1, 0, .aload_n 0) :: (35, 3, 162, .getfield 32) :: (38, 3, 94, .invokestatic 35) :: (41, 2, 0, .istore 5) :: (43, 1, 0, .aload_n 0) :: (44, 3, 164, .getfield 15) :: (47, 2, 0, .iload 4) :: (49, 2, 0, .iload 5) :: (51, 3, 58, .ifCond .ne 7) :: (54, 1, 1, .iconst 1) :: (55, 3, 60, .goto 5) :: C_X5_search_58) ls st σ := rfl
theorem U_X5_search_58 (ls st : List zV) (σ : zM) : zres 35 C_X5_search_58 ls st σ = zres 35 ((58, 2, 0, .iload 5) :: C_X5_search_60) ls st σ := rfl
theorem U_X5_search_60 (ls st : List zV) (σ : zM) : zres 35 C_X5_search_60 ls st σ = zres 35 ((60, 1, 0, .iastore) :: (61, 1, 0, .aload_n 0) :: (62, 3, 165, .getfield 18) :: (65, 2, 0, .iload 4) :: (67, 1, 0, .aload_n 0) :: (68, 3, 164, .getfield 15) :: (71, 2, 0, .iload 4) :: (73, 1, 0, .iaload) :: (74, 1, 0, .iastore) :: (75, 3, 0, .iinc 4 1) :: (78, 3, 18, .goto (-60)) :: C_X5_search_81) ls st σ := rfl
theorem U_X5_search_81 (ls st : List zV) (σ : zM) : zres 35 C_X5_search_81 ls st σ = zres 35 ((81, 1, 0, .aload_n 0) :: (82, 3, (-1), .ldc2_w 39) :: (85, 3, 167, .putfield 41) :: (88, 1, 0, .aload_n 0) :: (89, 1, 1, .lconst 1) :: (90, 3, 168, .putfield 45) :: (93, 1, 0, .aload_n 0) :: (94, 1, 0, .iconst 0) :: (95, 3, 36, .invokestatic 48) :: (98, 1, 0, .return_) :: []) ls st σ := rfl
theorem S_X5_search (c a0 a1 a2 : Int) (σ : zM) : zcall 35 [vR c, vR a0, vI a1, vI a2] σ = zres 35 C_X5_search_0 [vR c, vR a0, vI a1, vI a2, vU, vU] [] σ := by
  unfold zcall zloc
  rw [G_X5_search, M_X5_search.2.1]
  rfl
theorem J_X5_giveFrom0_0 : zjump 36 0 = C_X5_giveFrom0_0 := by decide +kernel
theorem J_X5_giveFrom0_34 : zjump 36 34 = C_X5_giveFrom0_34 := by decide +kernel
theorem J_X5_giveFrom0_48 : zjump 36 48 = C_X5_giveFrom0_48 := by decide +kernel
theorem J_X5_giveFrom0_50 : zjump 36 50 = C_X5_giveFrom0_50 := by decide +kernel
theorem J_X5_giveFrom0_92 : zjump 36 92 = C_X5_giveFrom0_92 := by decide +kernel
theorem U_X5_giveFrom0_0 (ls st : List zV) (σ : zM) : zres 36 C_X5_giveFrom0_0 ls st σ = zres 36 ((0, 1, 0, .aload_n 0) :: (1, 3, 44, .invokevirtual 52) :: (4, 1, 0, .istore_n 2) :: (5, 1, 0, .aload_n 0) :: (6, 3, 165, .getfield 18) :: (9, 1, 0, .iload_n 2) :: (10, 1, 0, .iaload) :: (11, 1, 0, .i2l) :: (12, 1, 0, .aload_n 0) :: (13, 3, 168, .getfield 45) :: (16, 1, 0, .lmul) :: (17, 1, 0, .aload_n 0) :: (18, 3, 167, .getfield 41) :: (21, 1, 0, .aload_n 0) :: (22, 3, 164, .getfield 15) :: (25, 1, 0, .iload_n 2) :: (26, 1, 0, .iaload) :: (27, 1, 0, .i2l) :: (28, 1, 0, .lmul) :: (29, 1, 0, .lcmp) :: (30, 3, 34, .ifCond .gt 4) :: (33, 1, 0, .return_) :: C_X5_giveFrom0_34) ls st σ := rfl
theorem U_X5_giveFrom0_34 (ls st : List zV) (σ : zM) : zres 36 C_X5_giveFrom0_34 ls st σ = zres 36 ((34, 1, 0, .iload_n 1) :: (35, 1, 0, .aload_n 0) :: (36, 3, 162, .getfield 32) :: (39, 3, 48, .if_icmp .lt 9) :: (42, 1, 0, .aload_n 0) :: (43, 1, 0, .iload_n 2) :: (44, 3, 45, .invokevirtual 56) :: (47, 1, 0, .return_) :: C_X5_giveFrom0_48) ls st σ := rfl
theorem U_X5_giveFrom0_48 (ls st : List zV) (σ : zM) : zres 36 C_X5_giveFrom0_48 ls st σ = zres 36 ((48, 1, 0, .iconst 0) :: (49, 1, 0, .istore_n 3) :: C_X5_giveFrom0_50) ls st σ := rfl
theorem U_X5_giveFrom0_50 (ls st : List zV) (σ : zM) : zres 36 C_X5_giveFrom0_50 ls st σ = zres 36 ((50, 1, 0, .iload_n 3) :: (51, 1, 0, .aload_n 0) :: (52, 3, 161, .getfield 28) :: (55, 3, 92, .if_icmp .ge 37) :: (58, 1, 0, .aload_n 0) :: (59, 3, 163, .getfield 9) :: (62, 1, 0, .iload_n 1) :: (63, 1, 0, .iload_n 3) :: (64, 1, 0, .iastore) :: (65, 1, 0, .aload_n 0) :: (66, 1, 0, .iload_n 1) :: (67, 1, 0, .iload_n 3) :: (68, 1, 1, .iconst 1) :: (69, 3, 46, .invokevirtual 60) :: (72, 1, 0, .aload_n 0) :: (73, 1, 0, .iload_n 1) :: (74, 1, 1, .iconst 1) :: (75, 1, 0, .iadd) :: (76, 3, 37, .invokestatic 48) :: (79, 1, 0, .aload_n 0) :: (80, 1, 0, .iload_n 1) :: (81, 1, 0, .iload_n 3) :: (82, 1, (-1), .iconst (-1)) :: (83, 3, 46, .invokevirtual 60) :: (86, 3, 0, .iinc 3 1) :: (89, 3, 50, .goto (-39)) :: C_X5_giveFrom0_92) ls st σ := rfl
theorem U_X5_giveFrom0_92 (ls st : List zV) (σ : zM) : zres 36 C_X5_giveFrom0_92 ls st σ = zres 36 ((92, 1, 0, .return_) :: []) ls st σ := rfl
theorem S_X5_giveFrom0 (a0 a1 : Int) (σ : zM) : zcall 36 [vR a0, vI a1] σ = zres 36 C_X5_giveFrom0_0 [vR a0, vI a1, vU, vU] [] σ := by
  unfold zcall zloc
  rw [G_X5_giveFrom0, M_X5_giveFrom0.2.1]
  rfl
theorem J_X5_giveFrom1_0 : zjump 37 0 = C_X5_giveFrom1_0 := by decide +kernel
theorem J_X5_giveFrom1_34 : zjump 37 34 = C_X5_giveFrom1_34 := by decide +kernel
theorem J_X5_giveFrom1_48 : zjump 37 48 = C_X5_giveFrom1_48 := by decide +kernel
theorem J_X5_giveFrom1_50 : zjump 37 50 = C_X5_giveFrom1_50 := by decide +kernel
theorem J_X5_giveFrom1_92 : zjump 37 92 = C_X5_giveFrom1_92 := by decide +kernel
theorem U_X5_giveFrom1_0 (ls st : List zV) (σ : zM) : zres 37 C_X5_giveFrom1_0 ls st σ = zres 37 ((0, 1, 0, .aload_n 0) :: (1, 3, 44, .invokevirtual 52) :: (4, 1, 0, .istore_n 2) :: (5, 1, 0, .aload_n 0) :: (6, 3, 165, .getfield 18) :: (9, 1, 0, .iload_n 2) :: (10, 1, 0, .iaload) :: (11, 1, 0, .i2l) :: (12, 1, 0, .aload_n 0) :: (13, 3, 168, .getfield 45) :: (16, 1, 0, .lmul) :: (17, 1, 0, .aload_n 0) :: (18, 3, 167, .getfield 41) :: (21, 1, 0, .aload_n 0) :: (22, 3, 164, .getfield 15) :: (25, 1, 0, .iload_n 2) :: (26, 1, 0, .iaload) :: (27, 1, 0, .i2l) :: (28, 1, 0, .lmul) :: (29, 1, 0, .lcmp) :: (30, 3, 34, .ifCond .gt 4) :: (33, 1, 0, .return_) :: C_X5_giveFrom1_34) ls st σ := rfl
theorem U_X5_giveFrom1_34 (ls st : List zV) (σ : zM) : zres 37 C_X5_giveFrom1_34 ls st σ = zres 37 ((34, 1, 0, .iload_n 1) :: (35, 1, 0, .aload_n 0) :: (36, 3, 162, .getfield 32) :: (39, 3, 48, .if_icmp .lt 9) :: (42, 1, 0, .aload_n 0) :: (43, 1, 0, .iload_n 2) :: (44, 3, 45, .invokevirtual 56) :: (47, 1, 0, .return_) :: C_X5_giveFrom1_48) ls st σ := rfl
theorem U_X5_giveFrom1_48 (ls st : List zV) (σ : zM) : zres 37 C_X5_giveFrom1_48 ls st σ = zres 37 ((48, 1, 0, .iconst 0) :: (49, 1, 0, .istore_n 3) :: C_X5_giveFrom1_50) ls st σ := rfl
theorem U_X5_giveFrom1_50 (ls st : List zV) (σ : zM) : zres 37 C_X5_giveFrom1_50 ls st σ = zres 37 ((50, 1, 0, .iload_n 3) :: (51, 1, 0, .aload_n 0) :: (52, 3, 161, .getfield 28) :: (55, 3, 92, .if_icmp .ge 37) :: (58, 1, 0, .aload_n 0) :: (59, 3, 163, .getfield 9) :: (62, 1, 0, .iload_n 1) :: (63, 1, 0, .iload_n 3) :: (64, 1, 0, .iastore) :: (65, 1, 0, .aload_n 0) :: (66, 1, 0, .iload_n 1) :: (67, 1, 0, .iload_n 3) :: (68, 1, 1, .iconst 1) :: (69, 3, 46, .invokevirtual 60) :: (72, 1, 0, .aload_n 0) :: (73, 1, 0, .iload_n 1) :: (74, 1, 1, .iconst 1) :: (75, 1, 0, .iadd) :: (76, 3, 38, .invokestatic 48) :: (79, 1, 0, .aload_n 0) :: (80, 1, 0, .iload_n 1) :: (81, 1, 0, .iload_n 3) :: (82, 1, (-1), .iconst (-1)) :: (83, 3, 46, .invokevirtual 60) :: (86, 3, 0, .iinc 3 1) :: (89, 3, 50, .goto (-39)) :: C_X5_giveFrom1_92) ls st σ := rfl
theorem U_X5_giveFrom1_92 (ls st : List zV) (σ : zM) : zres 37 C_X5_giveFrom1_92 ls st σ = zres 37 ((92, 1, 0, .return_) :: []) ls st σ := rfl
theorem S_X5_giveFrom1 (a0 a1 : Int) (σ : zM) : zcall 37 [vR a0, vI a1] σ = zres 37 C_X5_giveFrom1_0 [vR a0, vI a1, vU, vU] [] σ := by
  unfold zcall zloc
  rw [G_X5_giveFrom1, M_X5_giveFrom1.2.1]
  rfl
theorem J_X5_giveFrom2_0 : zjump 38 0 = C_X5_giveFrom2_0 := by decide +kernel
theorem J_X5_giveFrom2_34 : zjump 38 34 = C_X5_giveFrom2_34 := by decide +kernel
theorem J_X5_giveFrom2_48 : zjump 38 48 = C_X5_giveFrom2_48 := by decide +kernel
theorem J_X5_giveFrom2_50 : zjump 38 50 = C_X5_giveFrom2_50 := by decide +kernel
theorem J_X5_giveFrom2_92 : zjump 38 92 = C_X5_giveFrom2_92 := by decide +kernel
theorem U_X5_giveFrom2_0 (ls st : List zV) (σ : zM) : zres 38 C_X5_giveFrom2_0 ls st σ = zres 38 ((0, 1, 0, .aload_n 0) :: (1, 3, 44, .invokevirtual 52) :: (4, 1, 0, .istore_n 2) :: (5, 1, 0, .aload_n 0) :: (6, 3, 165, .getfield 18) :: (9, 1, 0, .iload_n 2) :: (10, 1, 0, .iaload) :: (11, 1, 0, .i2l) :: (12, 1, 0, .aload_n 0) :: (13, 3, 168, .getfield 45) :: (16, 1, 0, .lmul) :: (17, 1, 0, .aload_n 0) :: (18, 3, 167, .getfield 41) :: (21, 1, 0, .aload_n 0) :: (22, 3, 164, .getfield 15) :: (25, 1, 0, .iload_n 2) :: (26, 1, 0, .iaload) :: (27, 1, 0, .i2l) :: (28, 1, 0, .lmul) :: (29, 1, 0, .lcmp) :: (30, 3, 34, .ifCond .gt 4) :: (33, 1, 0, .return_) :: C_X5_giveFrom2_34) ls st σ := rfl
theorem U_X5_giveFrom2_34 (ls st : List zV) (σ : zM) : zres 38 C_X5_giveFrom2_34 ls st σ = zres 38 ((34, 1, 0, .iload_n 1) :: (35, 1, 0, .aload_n 0) :: (36, 3, 162, .getfield 32) :: (39, 3, 48, .if_icmp .lt 9) :: (42, 1, 0, .aload_n 0) :: (43, 1, 0, .iload_n 2) :: (44, 3, 45, .invokevirtual 56) :: (47, 1, 0, .return_) :: C_X5_giveFrom2_48) ls st σ := rfl
theorem U_X5_giveFrom2_48 (ls st : List zV) (σ : zM) : zres 38 C_X5_giveFrom2_48 ls st σ = zres 38 ((48, 1, 0, .iconst 0) :: (49, 1, 0, .istore_n 3) :: C_X5_giveFrom2_50) ls st σ := rfl
theorem U_X5_giveFrom2_50 (ls st : List zV) (σ : zM) : zres 38 C_X5_giveFrom2_50 ls st σ = zres 38 ((50, 1, 0, .iload_n 3) :: (51, 1, 0, .aload_n 0) :: (52, 3, 161, .getfield 28) :: (55, 3, 92, .if_icmp .ge 37) :: (58, 1, 0, .aload_n 0) :: (59, 3, 163, .getfield 9) :: (62, 1, 0, .iload_n 1) :: (63, 1, 0, .iload_n 3) :: (64, 1, 0, .iastore) :: (65, 1, 0, .aload_n 0) :: (66, 1, 0, .iload_n 1) :: (67, 1, 0, .iload_n 3) :: (68, 1, 1, .iconst 1) :: (69, 3, 46, .invokevirtual 60) :: (72, 1, 0, .aload_n 0) :: (73, 1, 0, .iload_n 1) :: (74, 1, 1, .iconst 1) :: (75, 1, 0, .iadd) :: (76, 3, 39, .invokestatic 48) :: (79, 1, 0, .aload_n 0) :: (80, 1, 0, .iload_n 1) :: (81, 1, 0, .iload_n 3) :: (82, 1, (-1), .iconst (-1)) :: (83, 3, 46, .invokevirtual 60) :: (86, 3, 0, .iinc 3 1) :: (89, 3, 50, .goto (-39)) :: C_X5_giveFrom2_92) ls st σ := rfl
theorem U_X5_giveFrom2_92 (ls st : List zV) (σ : zM) : zres 38 C_X5_giveFrom2_92 ls st σ = zres 38 ((92, 1, 0, .return_) :: []) ls st σ := rfl
theorem S_X5_giveFrom2 (a0 a1 : Int) (σ : zM) : zcall 38 [vR a0, vI a1] σ = zres 38 C_X5_giveFrom2_0 [vR a0, vI a1, vU, vU] [] σ := by
  unfold zcall zloc
  rw [G_X5_giveFrom2, M_X5_giveFrom2.2.1]
  rfl
theorem J_X5_giveFrom3_0 : zjump 39 0 = C_X5_giveFrom3_0 := by decide +kernel
theorem J_X5_giveFrom3_34 : zjump 39 34 = C_X5_giveFrom3_34 := by decide +kernel
theorem J_X5_giveFrom3_48 : zjump 39 48 = C_X5_giveFrom3_48 := by decide +kernel
theorem J_X5_giveFrom3_50 : zjump 39 50 = C_X5_giveFrom3_50 := by decide +kernel
theorem J_X5_giveFrom3_92 : zjump 39 92 = C_X5_giveFrom3_92 := by decide +kernel
theorem U_X5_giveFrom3_0 (ls st : List zV) (σ : zM) : zres 39 C_X5_giveFrom3_0 ls st σ = zres 39 ((0, 1, 0, .aload_n 0) :: (1, 3, 44, .invokevirtual 52) :: (4, 1, 0, .istore_n 2) :: (5, 1, 0, .aload_n 0) :: (6, 3, 165, .getfield 18) :: (9, 1, 0, .iload_n 2) :: (10, 1, 0, .iaload) :: (11, 1, 0, .i2l) :: (12, 1, 0, .aload_n 0) :: (13, 3, 168, .getfield 45) :: (16, 1, 0, .lmul) :: (17, 1, 0, .aload_n 0) :: (18, 3, 167, .getfield 41) :: (21, 1, 0, .aload_n 0) :: (22, 3, 164, .getfield 15) :: (25, 1, 0, .iload_n 2) :: (26, 1, 0, .iaload) :: (27, 1, 0, .i2l) :: (28, 1, 0, .lmul) :: (29, 1, 0, .lcmp) :: (30, 3, 34, .ifCond .gt 4) :: (33, 1, 0, .return_) :: C_X5_giveFrom3_34) ls st σ := rfl
theorem U_X5_giveFrom3_34 (ls st : List zV) (σ : zM) : zres 39 C_X5_giveFrom3_34 ls st σ = zres 39 ((34, 1, 0, .iload_n 1) :: (35, 1, 0, .aload_n 0) :: (36, 3, 162, .getfield 32) :: (39, 3, 48, .if_icmp .lt 9) :: (42, 1, 0, .aload_n 0) :: (43, 1, 0, .iload_n 2) :: (44, 3, 45, .invokevirtual 56) :: (47, 1, 0, .return_) :: C_X5_giveFrom3_48) ls st σ := rfl
theorem U_X5_giveFrom3_48 (ls st : List zV) (σ : zM) : zres 39 C_X5_giveFrom3_48 ls st σ = zres 39 ((48, 1, 0, .iconst 0) :: (49, 1, 0, .istore_n 3) :: C_X5_giveFrom3_50) ls st σ := rfl
theorem U_X5_giveFrom3_50 (ls st : List zV) (σ : zM) : zres 39 C_X5_giveFrom3_50 ls st σ = zres 39 ((50, 1, 0, .iload_n 3) :: (51, 1, 0, .aload_n 0) :: (52, 3, 161, .getfield 28) :: (55, 3, 92, .if_icmp .ge 37) :: (58, 1, 0, .aload_n 0) :: (59, 3, 163, .getfield 9) :: (62, 1, 0, .iload_n 1) :: (63, 1, 0, .iload_n 3) :: (64, 1, 0, .iastore) :: (65, 1, 0, .aload_n 0) :: (66, 1, 0, .iload_n 1) :: (67, 1, 0, .iload_n 3) :: (68, 1, 1, .iconst 1) :: (69, 3, 46, .invokevirtual 60) :: (72, 1, 0, .aload_n 0) :: (73, 1, 0, .iload_n 1) :: (74, 1, 1, .iconst 1) :: (75, 1, 0, .iadd) :: (76, 3, 40, .invokestatic 48) :: (79, 1, 0, .aload_n 0) :: (80, 1, 0, .iload_n 1) :: (81, 1, 0, .iload_n 3) :: (82, 1, (-1), .iconst (-1)) :: (83, 3, 46, .invokevirtual 60) :: (86, 3, 0, .iinc 3 1) :: (89, 3, 50, .goto (-39)) :: C_X5_giveFrom3_92) ls st σ := rfl
theorem U_X5_giveFrom3_92 (ls st : List zV) (σ : zM) : zres 39 C_X5_giveFrom3_92 ls st σ = zres 39 ((92, 1, 0, .return_) :: []) ls st σ := rfl
theorem S_X5_giveFrom3 (a0 a1 : Int) (σ : zM) : zcall 39 [vR a0, vI a1] σ = zres 39 C_X5_giveFrom3_0 [vR a0, vI a1, vU, vU] [] σ := by
  unfold zcall zloc
  rw [G_X5_giveFrom3, M_X5_giveFrom3.2.1]
  rfl
theorem J_X5_giveFrom4_0 : zjump 40 0 = C_X5_giveFrom4_0 := by decide +kernel
theorem J_X5_giveFrom4_34 : zjump 40 34 = C_X5_giveFrom4_34 := by decide +kernel
theorem J_X5_giveFrom4_48 : zjump 40 48 = C_X5_giveFrom4_48 := by decide +kernel
theorem J_X5_giveFrom4_50 : zjump 40 50 = C_X5_giveFrom4_50 := by decide +kernel
theorem J_X5_giveFrom4_92 : zjump 40 92 = C_X5_giveFrom4_92 := by decide +kernel
theorem U_X5_giveFrom4_0 (ls st : List zV) (σ : zM) : zres 40 C_X5_giveFrom4_0 ls st σ = zres 40 ((0, 1, 0, .aload_n 0) :: (1, 3, 44, .invokevirtual 52) :: (4, 1, 0, .istore_n 2) :: (5, 1, 0, .aload_n 0) :: (6, 3, 165, .getfield 18) :: (9, 1, 0, .iload_n 2) :: (10, 1, 0, .iaload) :: (11, 1, 0, .i2l) :: (12, 1, 0, .aload_n 0) :: (13, 3, 168, .getfield 45) :: (16, 1, 0, .lmul) :: (17, 1, 0, .aload_n 0) :: (18, 3, 167, .getfield 41) :: (21, 1, 0, .aload_n 0) :: (22, 3, 164, .getfield 15) :: (25, 1, 0, .iload_n 2) :: (26, 1, 0, .iaload) :: (27, 1, 0, .i2l) :: (28, 1, 0, .lmul) :: (29, 1, 0, .lcmp) :: (30, 3, 34, .ifCond .gt 4) :: (33, 1, 0, .return_) :: C_X5_giveFrom4_34) ls st σ := rfl
theorem U_X5_giveFrom4_34 (ls st : List zV) (σ : zM) : zres 40 C_X5_giveFrom4_34 ls st σ = zres 40 ((34, 1, 0, .iload_n 1) :: (35, 1, 0, .aload_n 0) :: (36, 3, 162, .getfield 32) :: (39, 3, 48, .if_icmp .lt 9) :: (42, 1, 0, .aload_n 0) :: (43, 1, 0, .iload_n 2) :: (44, 3, 45, .invokevirtual 56) :: (47, 1, 0, .return_) :: C_X5_giveFrom4_48) ls st σ := rfl
theorem U_X5_giveFrom4_48 (ls st : List zV) (σ : zM) : zres 40 C_X5_giveFrom4_48 ls st σ = zres 40 ((48, 1, 0, .iconst 0) :: (49, 1, 0, .istore_n 3) :: C_X5_giveFrom4_50) ls st σ := rfl
theorem U_X5_giveFrom4_50 (ls st : List zV) (σ : zM) : zres 40 C_X5_giveFrom4_50 ls st σ = zres 40 ((50, 1, 0, .iload_n 3) :: (51, 1, 0, .aload_n 0) :: (52, 3, 161, .getfield 28) :: (55, 3, 92, .if_icmp .ge 37) :: (58, 1, 0, .aload_n 0) :: (59, 3, 163, .getfield 9) :: (62, 1, 0, .iload_n 1) :: (63, 1, 0, .iload_n 3) :: (64, 1, 0, .iastore) :: (65, 1, 0, .aload_n 0) :: (66, 1, 0, .iload_n 1) :: (67, 1, 0, .iload_n 3) :: (68, 1, 1, .iconst 1) :: (69, 3, 46, .invokevirtual 60) :: (72, 1, 0, .aload_n 0) :: (73, 1, 0, .iload_n 1) :: (74, 1, 1, .iconst 1) :: (75, 1, 0, .iadd) :: (76, 3, 41, .invokestatic 48) :: (79, 1, 0, .aload_n 0) :: (80, 1, 0, .iload_n 1) :: (81, 1, 0, .iload_n 3) :: (82, 1, (-1), .iconst (-1)) :: (83, 3, 46, .invokevirtual 60) :: (86, 3, 0, .iinc 3 1) :: (89, 3, 50, .goto (-39)) :: C_X5_giveFrom4_92) ls st σ := rfl
theorem U_X5_giveFrom4_92 (ls st : List zV) (σ : zM) : zres 40 C_X5_giveFrom4_92 ls st σ = zres 40 ((92, 1, 0, .return_) :: []) ls st σ := rfl
theorem S_X5_giveFrom4 (a0 a1 : Int) (σ : zM) : zcall 40 [vR a0, vI a1] σ = zres 40 C_X5_giveFrom4_0 [vR a0, vI a1, vU, vU] [] σ := by
  unfold zcall zloc
  rw [G_X5_giveFrom4, M_X5_giveFrom4.2.1]
  rfl
theorem J_X5_giveFrom5_0 : zjump 41 0 = C_X5_giveFrom5_0 := by decide +kernel
theorem J_X5_giveFrom5_34 : zjump 41 34 = C_X5_giveFrom5_34 := by decide +kernel
theorem J_X5_giveFrom5_48 : zjump 41 48 = C_X5_giveFrom5_48 := by decide +kernel
theorem J_X5_giveFrom5_50 : zjump 41 50 = C_X5_giveFrom5_50 := by decide +kernel
theorem J_X5_giveFrom5_92 : zjump 41 92 = C_X5_giveFrom5_92 := by decide +kernel
theorem U_X5_giveFrom5_0 (ls st : List zV) (σ : zM) : zres 41 C_X5_giveFrom5_0 ls st σ = zres 41 ((0, 1, 0, .aload_n 0) :: (1, 3, 44, .invokevirtual 52) :: (4, 1, 0, .istore_n 2) :: (5, 1, 0, .aload_n 0) :: (6, 3, 165, .getfield 18) :: (9, 1, 0, .iload_n 2) :: (10, 1, 0, .iaload) :: (11, 1, 0, .i2l) :: (12, 1, 0, .aload_n 0) :: (13, 3, 168, .getfield 45) :: (16, 1, 0, .lmul) :: (17, 1, 0, .aload_n 0) :: (18, 3, 167, .getfield 41) :: (21, 1, 0, .aload_n 0) :: (22, 3, 164, .getfield 15) :: (25, 1, 0, .iload_n 2) :: (26, 1, 0, .iaload) :: (27, 1, 0, .i2l) :: (28, 1, 0, .lmul) :: (29, 1, 0, .lcmp) :: (30, 3, 34, .ifCond .gt 4) :: (33, 1, 0, .return_) :: C_X5_giveFrom5_34) ls st σ := rfl
theorem U_X5_giveFrom5_34 (ls st : List zV) (σ : zM) : zres 41 C_X5_giveFrom5_34 ls st σ = zres 41 ((34, 1, 0, .iload_n 1) :: (35, 1, 0, .aload_n 0) :: (36, 3, 162, .getfield 32) :: (39, 3, 48, .if_icmp .lt 9) :: (42, 1, 0, .aload_n 0) :: (43, 1, 0, .iload_n 2) :: (44, 3, 45, .invokevirtual 56) :: (47, 1, 0, .return_) :: C_X5_giveFrom5_48) ls st σ := rfl
theorem U_X5_giveFrom5_48 (ls st : List zV) (σ : zM) : zres 41 C_X5_giveFrom5_48 ls st σ = zres 41 ((48, 1, 0, .iconst 0) :: (49, 1, 0, .istore_n 3) :: C_X5_giveFrom5_50) ls st σ := rfl
theorem U_X5_giveFrom5_50 (ls st : List zV) (σ : zM) : zres 41 C_X5_giveFrom5_50 ls st σ = zres 41 ((50, 1, 0, .iload_n 3) :: (51, 1, 0, .aload_n 0) :: (52, 3, 161, .getfield 28) :: (55, 3, 92, .if_icmp .ge 37) :: (58, 1, 0, .aload_n 0) :: (59, 3, 163, .getfield 9) :: (62, 1, 0, .iload_n 1) :: (63, 1, 0, .iload_n 3) :: (64, 1, 0, .iastore) :: (65, 1, 0, .aload_n 0) :: (66, 1, 0, .iload_n 1) :: (67, 1, 0, .iload_n 3) :: (68, 1, 1, .iconst 1) :: (69, 3, 46, .invokevirtual 60) :: (72, 1, 0, .aload_n 0) :: (73, 1, 0, .iload_n 1) :: (74, 1, 1, .iconst 1) :: (75, 1, 0, .iadd) :: (76, 3, 42, .invokestatic 48) :: (79, 1, 0, .aload_n 0) :: (80, 1, 0, .iload_n 1) :: (81, 1, 0, .iload_n 3) :: (82, 1, (-1), .iconst (-1)) :: (83, 3, 46, .invokevirtual 60) :: (86, 3, 0, .iinc 3 1) :: (89, 3, 50, .goto (-39)) :: C_X5_giveFrom5_92) ls st σ := rfl
theorem U_X5_giveFrom5_92 (ls st : List zV) (σ : zM) : zres 41 C_X5_giveFrom5_92 ls st σ = zres 41 ((92, 1, 0, .return_) :: []) ls st σ := rfl
theorem S_X5_giveFrom5 (a0 a1 : Int) (σ : zM) : zcall 41 [vR a0, vI a1] σ = zres 41 C_X5_giveFrom5_0 [vR a0, vI a1, vU, vU] [] σ := by
  unfold zcall zloc
  rw [G_X5_giveFrom5, M_X5_giveFrom5.2.1]
  rfl
theorem J_X5_giveFrom6_0 : zjump 42 0 = C_X5_giveFrom6_0 := by decide +kernel
theorem J_X5_giveFrom6_34 : zjump 42 34 = C_X5_giveFrom6_34 := by decide +kernel
theorem J_X5_giveFrom6_48 : zjump 42 48 = C_X5_giveFrom6_48 := by decide +kernel
theorem J_X5_giveFrom6_50 : zjump 42 50 = C_X5_giveFrom6_50 := by decide +kernel
theorem J_X5_giveFrom6_92 : zjump 42 92 = C_X5_giveFrom6_92 := by decide +kernel
theorem U_X5_giveFrom6_0 (ls st : List zV) (σ : zM) : zres 42 C_X5_giveFrom6_0 ls st σ = zres 42 ((0, 1, 0, .aload_n 0) :: (1, 3, 44, .invokevirtual 52) :: (4, 1, 0, .istore_n 2) :: (5, 1, 0, .aload_n 0) :: (6, 3, 165, .getfield 18) :: (9, 1, 0, .iload_n 2) :: (10, 1, 0, .iaload) :: (11, 1, 0, .i2l) :: (12, 1, 0, .aload_n 0) :: (13, 3, 168, .getfield 45) :: (16, 1, 0, .lmul) :: (17, 1, 0, .aload_n 0) :: (18, 3, 167, .getfield 41) :: (21, 1, 0, .aload_n 0) :: (22, 3, 164, .getfield 15) :: (25, 1, 0, .iload_n 2) :: (26, 1, 0, .iaload) :: (27, 1, 0, .i2l) :: (28, 1, 0, .lmul) :: (29, 1, 0, .lcmp) :: (30, 3, 34, .ifCond .gt 4) :: (33, 1, 0, .return_) :: C_X5_giveFrom6_34) ls st σ := rfl
theorem U_X5_giveFrom6_34 (ls st : List zV) (σ : zM) : zres 42 C_X5_giveFrom6_34 ls st σ = zres 42 ((34, 1, 0, .iload_n 1) :: (35, 1, 0, .aload_n 0) :: (36, 3, 162, .getfield 32) :: (39, 3, 48, .if_icmp .lt 9) :: (42, 1, 0, .aload_n 0) :: (43, 1, 0, .iload_n 2) :: (44, 3, 45, .invokevirtual 56) :: (47, 1, 0, .return_) :: C_X5_giveFrom6_48) ls st σ := rfl
theorem U_X5_giveFrom6_48 (ls st : List zV) (σ : zM) : zres 42 C_X5_giveFrom6_48 ls st σ = zres 42 ((48, 1, 0, .iconst 0) :: (49, 1, 0, .istore_n 3) :: C_X5_giveFrom6_50) ls st σ := rfl
theorem U_X5_giveFrom6_50 (ls st : List zV) (σ : zM) : zres 42 C_X5_giveFrom6_50 ls st σ = zres 42 ((50, 1, 0, .iload_n 3) :: (51, 1, 0, .aload_n 0) :: (52, 3, 161, .getfield 28) :: (55, 3, 92, .if_icmp .ge 37) :: (58, 1, 0, .aload_n 0) :: (59, 3, 163, .getfield 9) :: (62, 1, 0, .iload_n 1) :: (63, 1, 0, .iload_n 3) :: (64, 1, 0, .iastore) :: (65, 1, 0, .aload_n 0) :: (66, 1, 0, .iload_n 1) :: (67, 1, 0, .iload_n 3) :: (68, 1, 1, .iconst 1) :: (69, 3, 46, .invokevirtual 60) :: (72, 1, 0, .aload_n 0) :: (73, 1, 0, .iload_n 1) :: (74, 1, 1, .iconst 1) :: (75, 1, 0, .iadd) :: (76, 3, 43, .invokestatic 48) :: (79, 1, 0, .aload_n 0) :: (80, 1, 0, .iload_n 1) :: (81, 1, 0, .iload_n 3) :: (82, 1, (-1), .iconst (-1)) :: (83, 3, 46, .invokevirtual 60) :: (86, 3, 0, .iinc 3 1) :: (89, 3, 50, .goto (-39)) :: C_X5_giveFrom6_92) ls st σ := rfl
theorem U_X5_giveFrom6_92 (ls st : List zV) (σ : zM) : zres 42 C_X5_giveFrom6_92 ls st σ = zres 42 ((92, 1, 0, .return_) :: []) ls st σ := rfl
theorem S_X5_giveFrom6 (a0 a1 : Int) (σ : zM) : zcall 42 [vR a0, vI a1] σ = zres 42 C_X5_giveFrom6_0 [vR a0, vI a1, vU, vU] [] σ := by
  unfold zcall zloc
  rw [G_X5_giveFrom6, M_X5_giveFrom6.2.1]
  rfl
theorem J_X5_giveFrom7_0 : zjump 43 0 = C_X5_giveFrom7_0 := by decide +kernel
theorem J_X5_giveFrom7_34 : zjump 43 34 = C_X5_giveFrom7_34 := by decide +kernel
theorem J_X5_giveFrom7_48 : zjump 43 48 = C_X5_giveFrom7_48 := by decide +kernel
theorem U_X5_giveFrom7_0 (ls st : List zV) (σ : zM) : zres 43 C_X5_giveFrom7_0 ls st σ = zres 43 ((0, 1, 0, .aload_n 0) :: (1, 3, 44, .invokevirtual 52) :: (4, 1, 0, .istore_n 2) :: (5, 1, 0, .aload_n 0) :: (6, 3, 165, .getfield 18) :: (9, 1, 0, .iload_n 2) :: (10, 1, 0, .iaload) :: (11, 1, 0, .i2l) :: (12, 1, 0, .aload_n 0) :: (13, 3, 168, .getfield 45) :: (16, 1, 0, .lmul) :: (17, 1, 0, .aload_n 0) :: (18, 3, 167, .getfield 41) :: (21, 1, 0, .aload_n 0) :: (22, 3, 164, .getfield 15) :: (25, 1, 0, .iload_n 2) :: (26, 1, 0, .iaload) :: (27, 1, 0, .i2l) :: (28, 1, 0, .lmul) :: (29, 1, 0, .lcmp) :: (30, 3, 34, .ifCond .gt 4) :: (33, 1, 0, .return_) :: C_X5_giveFrom7_34) ls st σ := rfl
theorem U_X5_giveFrom7_34 (ls st : List zV) (σ : zM) : zres 43 C_X5_giveFrom7_34 ls st σ = zres 43 ((34, 1, 0, .iload_n 1) :: (35, 1, 0, .aload_n 0) :: (36, 3, 162, .getfield 32) :: (39, 3, 48, .if_icmp .lt 9) :: (42, 1, 0, .aload_n 0) :: (43, 1, 0, .iload_n 2) :: (44, 3, 45, .invokevirtual 56) :: (47, 1, 0, .return_) :: C_X5_giveFrom7_48) ls st σ := rfl
theorem U_X5_giveFrom7_48 (ls st : List zV) (σ : zM) : zres 43 C_X5_giveFrom7_48 ls st σ = zres 43 ((48, 1, 0, .iconst 0) :: (49, 1, 0, .istore_n 3) :: (50, 1, 0, .iload_n 3) :: (51, 1, 0, .aload_n 0) :: (52, 3, 161, .getfield 28) :: (55, 3, 92, .if_icmp .ge 37) :: (58, 1, 0, .aload_n 0) :: (59, 3, 163, .getfield 9) :: (62, 1, 0, .iload_n 1) :: (63, 1, 0, .iload_n 3) :: (64, 1, 0, .iastore) :: (65, 1, 0, .aload_n 0) :: (66, 1, 0, .iload_n 1) :: (67, 1, 0, .iload_n 3) :: (68, 1, 1, .iconst 1) :: (69, 3, 46, .invokevirtual 60) :: (72, 1, 0, .aload_n 0) :: (73, 1, 0, .iload_n 1) :: (74, 1, 1, .iconst 1) :: (75, 1, 0, .iadd) :: []) ls st σ := rfl
theorem S_X5_giveFrom7 (a0 a1 : Int) (σ : zM) : zcall 43 [vR a0, vI a1] σ = zres 43 C_X5_giveFrom7_0 [vR a0, vI a1, vU, vU] [] σ := by
  unfold zcall zloc
  rw [G_X5_giveFrom7, M_X5_giveFrom7.2.1]
  rfl
theorem J_X5_poorest_0 : zjump 44 0 = C_X5_poorest_0 := by decide +kernel
theorem J_X5_poorest_4 : zjump 44 4 = C_X5_poorest_4 := by decide +kernel
theorem J_X5_poorest_43 : zjump 44 43 = C_X5_poorest_43 := by decide +kernel
theorem J_X5_poorest_49 : zjump 44 49 = C_X5_poorest_49 := by decide +kernel
theorem U_X5_poorest_0 (ls st : List zV) (σ : zM) : zres 44 C_X5_poorest_0 ls st σ = zres 44 ((0, 1, 0, .iconst 0) :: (1, 1, 0, .istore_n 1) :: (2, 1, 1, .iconst 1) :: (3, 1, 0, .istore_n 2) :: C_X5_poorest_4) ls st σ := rfl
theorem U_X5_poorest_4 (ls st : List zV) (σ : zM) : zres 44 C_X5_poorest_4 ls st σ = zres 44 ((4, 1, 0, .iload_n 2) :: (5, 1, 0, .aload_n 0) :: (6, 3, 161, .getfield 28) :: (9, 3, 49, .if_icmp .ge 40) :: (12, 1, 0, .aload_n 0) :: (13, 3, 165, .getfield 18) :: (16, 1, 0, .iload_n 2) :: (17, 1, 0, .iaload) :: (18, 1, 0, .aload_n 0) :: (19, 3, 164, .getfield 15) :: (22, 1, 0, .iload_n 1) :: (23, 1, 0, .iaload) :: (24, 1, 0, .imul) :: (25, 1, 0, .aload_n 0) :: (26, 3, 165, .getfield 18) :: (29, 1, 0, .iload_n 1) :: (30, 1, 0, .iaload) :: (31, 1, 0, .aload_n 0) :: (32, 3, 164, .getfield 15) :: (35, 1, 0, .iload_n 2) :: (36, 1, 0, .iaload) :: (37, 1, 0, .imul) :: (38, 3, 43, .if_icmp .ge 5) :: (41, 1, 0, .iload_n 2) :: (42, 1, 0, .istore_n 1) :: C_X5_poorest_43) ls st σ := rfl
theorem U_X5_poorest_43 (ls st : List zV) (σ : zM) : zres 44 C_X5_poorest_43 ls st σ = zres 44 ((43, 3, 0, .iinc 2 1) :: (46, 3, 4, .goto (-42)) :: C_X5_poorest_49) ls st σ := rfl
theorem U_X5_poorest_49 (ls st : List zV) (σ : zM) : zres 44 C_X5_poorest_49 ls st σ = zres 44 ((49, 1, 0, .iload_n 1) :: (50, 1, 0, .ireturn) :: []) ls st σ := rfl
theorem S_X5_poorest (c : Int) (σ : zM) : zcall 44 [vR c] σ = zres 44 C_X5_poorest_0 [vR c, vU, vU] [] σ := by
  unfold zcall zloc
  rw [G_X5_poorest, M_X5_poorest.2.1]
  rfl
theorem J_X5_keep_0 : zjump 45 0 = C_X5_keep_0 := by decide +kernel
theorem U_X5_keep_0 (ls st : List zV) (σ : zM) : zres 45 C_X5_keep_0 ls st σ = zres 45 ((0, 1, 0, .aload_n 0) :: (1, 3, 163, .getfield 9) :: (4, 1, 0, .iconst 0) :: (5, 1, 0, .aload_n 0) :: (6, 3, 166, .getfield 21) :: (9, 1, 0, .iconst 0) :: (10, 2, 6, .bipush 6) :: (12, 3, 9999, .invokestatic 64) :: (15, 1, 0, .aload_n 0) :: (16, 1, 0, .aload_n 0) :: (17, 3, 165, .getfield 18) :: (20, 1, 0, .iload_n 1) :: (21, 1, 0, .iaload) :: (22, 1, 0, .i2l) :: (23, 3, 167, .putfield 41) :: (26, 1, 0, .aload_n 0) :: (27, 1, 0, .aload_n 0) :: (28, 3, 164, .getfield 15) :: (31, 1, 0, .iload_n 1) :: (32, 1, 0, .iaload) :: (33, 1, 0, .i2l) :: (34, 3, 168, .putfield 45) :: (37, 1, 0, .aload_n 0) :: (38, 1, 0, .iload_n 1) :: (39, 3, 169, .putfield 70) :: (42, 1, 0, .return_) :: []) ls st σ := rfl
theorem S_X5_keep (c a0 : Int) (σ : zM) : zcall 45 [vR c, vI a0] σ = zres 45 C_X5_keep_0 [vR c, vI a0] [] σ := by
  unfold zcall zloc
  rw [G_X5_keep, M_X5_keep.2.1]
  rfl
theorem J_X5_denyOthers_0 : zjump 46 0 = C_X5_denyOthers_0 := by decide +kernel
theorem J_X5_denyOthers_3 : zjump 46 3 = C_X5_denyOthers_3 := by decide +kernel
theorem J_X5_denyOthers_39 : zjump 46 39 = C_X5_denyOthers_39 := by decide +kernel
theorem J_X5_denyOthers_45 : zjump 46 45 = C_X5_denyOthers_45 := by decide +kernel
theorem U_X5_denyOthers_0 (ls st : List zV) (σ : zM) : zres 46 C_X5_denyOthers_0 ls st σ = zres 46 ((0, 1, 0, .iconst 0) :: (1, 2, 0, .istore 4) :: C_X5_denyOthers_3) ls st σ := rfl
theorem U_X5_denyOthers_3 (ls st : List zV) (σ : zM) : zres 46 C_X5_denyOthers_3 ls st σ = zres 46 ((3, 2, 0, .iload 4) :: (5, 1, 0, .aload_n 0) :: (6, 3, 161, .getfield 28) :: (9, 3, 45, .if_icmp .ge 36) :: (12, 2, 0, .iload 4) :: (14, 1, 0, .iload_n 2) :: (15, 3, 39, .if_icmp .eq 24) :: (18, 1, 0, .aload_n 0) :: (19, 3, 165, .getfield 18) :: (22, 2, 0, .iload 4) :: (24, 1, 0, .dup2) :: (25, 1, 0, .iaload) :: (26, 1, 0, .iload_n 3) :: (27, 1, 0, .aload_n 0) :: (28, 3, 160, .getfield 24) :: (31, 2, 0, .iload 4) :: (33, 1, 0, .aaload) :: (34, 1, 0, .iload_n 1) :: (35, 1, 0, .iaload) :: (36, 1, 0, .imul) :: (37, 1, 0, .isub) :: (38, 1, 0, .iastore) :: C_X5_denyOthers_39) ls st σ := rfl
theorem U_X5_denyOthers_39 (ls st : List zV) (σ : zM) : zres 46 C_X5_denyOthers_39 ls st σ = zres 46 ((39, 3, 0, .iinc 4 1) :: (42, 3, 3, .goto (-39)) :: C_X5_denyOthers_45) ls st σ := rfl
theorem U_X5_denyOthers_45 (ls st : List zV) (σ : zM) : zres 46 C_X5_denyOthers_45 ls st σ = zres 46 ((45, 1, 0, .return_) :: []) ls st σ := rfl
theorem S_X5_denyOthers (c a0 a1 a2 : Int) (σ : zM) : zcall 46 [vR c, vI a0, vI a1, vI a2] σ = zres 46 C_X5_denyOthers_0 [vR c, vI a0, vI a1, vI a2, vU] [] σ := by
  unfold zcall zloc
  rw [G_X5_denyOthers, M_X5_denyOthers.2.1]
  rfl
theorem J_X6_parties_0 : zjump 47 0 = C_X6_parties_0 := by decide +kernel
theorem J_X6_parties_10 : zjump 47 10 = C_X6_parties_10 := by decide +kernel
theorem J_X6_parties_13 : zjump 47 13 = C_X6_parties_13 := by decide +kernel
theorem U_X6_parties_0 (ls st : List zV) (σ : zM) : zres 47 C_X6_parties_0 ls st σ = zres 47 ((0, 1, 0, .iload_n 1) :: (1, 1, 2, .iconst 2) :: (2, 3, 10, .if_icmp .lt 8) :: (5, 1, 0, .iload_n 1) :: (6, 1, 4, .iconst 4) :: (7, 3, 13, .if_icmp .le 6) :: C_X6_parties_10) ls st σ := rfl
theorem U_X6_parties_10 (ls st : List zV) (σ : zM) : zres 47 C_X6_parties_10 ls st σ = zres 47 ((10, 2, (-2), .bipush (-2)) :: (12, 1, 0, .ireturn) :: C_X6_parties_13) ls st σ := rfl
theorem U_X6_parties_13 (ls st : List zV) (σ : zM) : zres 47 C_X6_parties_13 ls st σ = zres 47 ((13, 1, 0, .aload_n 0) :: (14, 3, 192, .getfield 12) :: (17, 3, 64, .getfield 54) :: (20, 1, 0, .istore_n 2) :: (21, 1, 0, .aload_n 0) :: (22, 3, 192, .getfield 12) :: (25, 1, 0, .iload_n 1) :: (26, 3, 11, .invokevirtual 58) :: (29, 1, 0, .iload_n 2) :: (30, 1, 0, .ireturn) :: []) ls st σ := rfl
theorem S_X6_parties (c a0 : Int) (σ : zM) : zcall 47 [vR c, vI a0] σ = zres 47 C_X6_parties_0 [vR c, vI a0, vU] [] σ := by
  unfold zcall zloc
  rw [G_X6_parties, M_X6_parties.2.1]
  rfl
theorem J_X6_thing_0 : zjump 48 0 = C_X6_thing_0 := by decide +kernel
theorem J_X6_thing_15 : zjump 48 15 = C_X6_thing_15 := by decide +kernel
theorem U_X6_thing_0 (ls st : List zV) (σ : zM) : zres 48 C_X6_thing_0 ls st σ = zres 48 ((0, 1, 0, .aload_n 0) :: (1, 3, 192, .getfield 12) :: (4, 3, 65, .getfield 62) :: (7, 2, 6, .bipush 6) :: (9, 3, 15, .if_icmp .lt 6) :: (12, 2, (-4), .bipush (-4)) :: (14, 1, 0, .ireturn) :: C_X6_thing_15) ls st σ := rfl
theorem U_X6_thing_15 (ls st : List zV) (σ : zM) : zres 48 C_X6_thing_15 ls st σ = zres 48 ((15, 1, 0, .aload_n 0) :: (16, 3, 192, .getfield 12) :: (19, 3, 12, .invokevirtual 65) :: (22, 1, 0, .ireturn) :: []) ls st σ := rfl
theorem S_X6_thing (c : Int) (σ : zM) : zcall 48 [vR c] σ = zres 48 C_X6_thing_0 [vR c] [] σ := by
  unfold zcall zloc
  rw [G_X6_thing, M_X6_thing.2.1]
  rfl
theorem J_X6_point_0 : zjump 49 0 = C_X6_point_0 := by decide +kernel
theorem J_X6_point_16 : zjump 49 16 = C_X6_point_16 := by decide +kernel
theorem J_X6_point_18 : zjump 49 18 = C_X6_point_18 := by decide +kernel
theorem J_X6_point_28 : zjump 49 28 = C_X6_point_28 := by decide +kernel
theorem J_X6_point_31 : zjump 49 31 = C_X6_point_31 := by decide +kernel
theorem U_X6_point_0 (ls st : List zV) (σ : zM) : zres 49 C_X6_point_0 ls st σ = zres 49 ((0, 1, 0, .aload_n 0) :: (1, 1, 0, .iload_n 1) :: (2, 3, 85, .invokevirtual 69) :: (5, 3, 16, .ifCond .eq 11) :: (8, 1, 0, .aload_n 0) :: (9, 1, 0, .iload_n 2) :: (10, 3, 87, .invokevirtual 73) :: (13, 3, 18, .ifCond .ne 5) :: C_X6_point_16) ls st σ := rfl
theorem U_X6_point_16 (ls st : List zV) (σ : zM) : zres 49 C_X6_point_16 ls st σ = zres 49 ((16, 1, (-1), .iconst (-1)) :: (17, 1, 0, .ireturn) :: C_X6_point_18) ls st σ := rfl
theorem U_X6_point_18 (ls st : List zV) (σ : zM) : zres 49 C_X6_point_18 ls st σ = zres 49 ((18, 1, 0, .iload_n 3) :: (19, 3, 28, .ifCond .lt 9) :: (22, 1, 0, .iload_n 3) :: (23, 2, 99, .bipush 99) :: (25, 3, 31, .if_icmp .le 6) :: C_X6_point_28) ls st σ := rfl
theorem U_X6_point_28 (ls st : List zV) (σ : zM) : zres 49 C_X6_point_28 ls st σ = zres 49 ((28, 2, (-2), .bipush (-2)) :: (30, 1, 0, .ireturn) :: C_X6_point_31) ls st σ := rfl
theorem U_X6_point_31 (ls st : List zV) (σ : zM) : zres 49 C_X6_point_31 ls st σ = zres 49 ((31, 1, 0, .aload_n 0) :: (32, 3, 192, .getfield 12) :: (35, 3, 66, .getfield 76) :: (38, 1, 0, .iload_n 1) :: (39, 1, 0, .aaload) :: (40, 1, 0, .iload_n 2) :: (41, 1, 0, .iaload) :: (42, 2, 0, .istore 4) :: (44, 1, 0, .aload_n 0) :: (45, 3, 192, .getfield 12) :: (48, 3, 66, .getfield 76) :: (51, 1, 0, .iload_n 1) :: (52, 1, 0, .aaload) :: (53, 1, 0, .iload_n 2) :: (54, 1, 0, .iload_n 3) :: (55, 1, 0, .iastore) :: (56, 2, 0, .iload 4) :: (58, 1, 0, .ireturn) :: []) ls st σ := rfl
theorem S_X6_point (c a0 a1 a2 : Int) (σ : zM) : zcall 49 [vR c, vI a0, vI a1, vI a2] σ = zres 49 C_X6_point_0 [vR c, vI a0, vI a1, vI a2, vU] [] σ := by
  unfold zcall zloc
  rw [G_X6_point, M_X6_point.2.1]
  rfl
theorem J_X6_of_0 : zjump 50 0 = C_X6_of_0 := by decide +kernel
theorem J_X6_of_16 : zjump 50 16 = C_X6_of_16 := by decide +kernel
theorem J_X6_of_18 : zjump 50 18 = C_X6_of_18 := by decide +kernel
theorem U_X6_of_0 (ls st : List zV) (σ : zM) : zres 50 C_X6_of_0 ls st σ = zres 50 ((0, 1, 0, .aload_n 0) :: (1, 1, 0, .iload_n 1) :: (2, 3, 85, .invokevirtual 69) :: (5, 3, 16, .ifCond .eq 11) :: (8, 1, 0, .aload_n 0) :: (9, 1, 0, .iload_n 2) :: (10, 3, 87, .invokevirtual 73) :: (13, 3, 18, .ifCond .ne 5) :: C_X6_of_16) ls st σ := rfl
theorem U_X6_of_16 (ls st : List zV) (σ : zM) : zres 50 C_X6_of_16 ls st σ = zres 50 ((16, 1, (-1), .iconst (-1)) :: (17, 1, 0, .ireturn) :: C_X6_of_18) ls st σ := rfl
theorem U_X6_of_18 (ls st : List zV) (σ : zM) : zres 50 C_X6_of_18 ls st σ = zres 50 ((18, 1, 0, .aload_n 0) :: (19, 3, 192, .getfield 12) :: (22, 3, 66, .getfield 76) :: (25, 1, 0, .iload_n 1) :: (26, 1, 0, .aaload) :: (27, 1, 0, .iload_n 2) :: (28, 1, 0, .iaload) :: (29, 1, 0, .ireturn) :: []) ls st σ := rfl
theorem S_X6_of (c a0 a1 : Int) (σ : zM) : zcall 50 [vR c, vI a0, vI a1] σ = zres 50 C_X6_of_0 [vR c, vI a0, vI a1] [] σ := by
  unfold zcall zloc
  rw [G_X6_of, M_X6_of.2.1]
  rfl
theorem J_X6_hold_0 : zjump 51 0 = C_X6_hold_0 := by decide +kernel
theorem J_X6_hold_21 : zjump 51 21 = C_X6_hold_21 := by decide +kernel
theorem J_X6_hold_23 : zjump 51 23 = C_X6_hold_23 := by decide +kernel
theorem U_X6_hold_0 (ls st : List zV) (σ : zM) : zres 51 C_X6_hold_0 ls st σ = zres 51 ((0, 1, 0, .aload_n 0) :: (1, 1, 0, .iload_n 1) :: (2, 3, 87, .invokevirtual 73) :: (5, 3, 21, .ifCond .eq 16) :: (8, 1, 0, .iload_n 2) :: (9, 1, (-1), .iconst (-1)) :: (10, 3, 23, .if_icmp .eq 13) :: (13, 1, 0, .aload_n 0) :: (14, 1, 0, .iload_n 2) :: (15, 3, 85, .invokevirtual 69) :: (18, 3, 23, .ifCond .ne 5) :: C_X6_hold_21) ls st σ := rfl
theorem U_X6_hold_21 (ls st : List zV) (σ : zM) : zres 51 C_X6_hold_21 ls st σ = zres 51 ((21, 1, (-1), .iconst (-1)) :: (22, 1, 0, .ireturn) :: C_X6_hold_23) ls st σ := rfl
theorem U_X6_hold_23 (ls st : List zV) (σ : zM) : zres 51 C_X6_hold_23 ls st σ = zres 51 ((23, 1, 0, .aload_n 0) :: (24, 3, 192, .getfield 12) :: (27, 3, 67, .getfield 79) :: (30, 1, 0, .iload_n 1) :: (31, 1, 0, .iaload) :: (32, 1, 0, .istore_n 3) :: (33, 1, 0, .aload_n 0) :: (34, 3, 192, .getfield 12) :: (37, 1, 0, .iload_n 1) :: (38, 1, 0, .iload_n 2) :: (39, 3, 14, .invokevirtual 83) :: (42, 1, 0, .iload_n 3) :: (43, 3, 90, .invokestatic 87) :: (46, 1, 0, .ireturn) :: []) ls st σ := rfl
theorem S_X6_hold (c a0 a1 : Int) (σ : zM) : zcall 51 [vR c, vI a0, vI a1] σ = zres 51 C_X6_hold_0 [vR c, vI a0, vI a1, vU] [] σ := by
  unfold zcall zloc
  rw [G_X6_hold, M_X6_hold.2.1]
  rfl
theorem J_X6_split_0 : zjump 52 0 = C_X6_split_0 := by decide +kernel
theorem J_X6_split_16 : zjump 52 16 = C_X6_split_16 := by decide +kernel
theorem J_X6_split_18 : zjump 52 18 = C_X6_split_18 := by decide +kernel
theorem J_X6_split_36 : zjump 52 36 = C_X6_split_36 := by decide +kernel
theorem J_X6_split_39 : zjump 52 39 = C_X6_split_39 := by decide +kernel
theorem J_X6_split_65 : zjump 52 65 = C_X6_split_65 := by decide +kernel
theorem J_X6_split_68 : zjump 52 68 = C_X6_split_68 := by decide +kernel
theorem J_X6_split_92 : zjump 52 92 = C_X6_split_92 := by decide +kernel
theorem U_X6_split_0 (ls st : List zV) (σ : zM) : zres 52 C_X6_split_0 ls st σ = zres 52 ((0, 1, 0, .aload_n 0) :: (1, 1, 0, .iload_n 1) :: (2, 3, 87, .invokevirtual 73) :: (5, 3, 16, .ifCond .eq 11) :: (8, 1, 0, .aload_n 0) :: (9, 1, 0, .iload_n 2) :: (10, 3, 85, .invokevirtual 69) :: (13, 3, 18, .ifCond .ne 5) :: C_X6_split_16) ls st σ := rfl
theorem U_X6_split_16 (ls st : List zV) (σ : zM) : zres 52 C_X6_split_16 ls st σ = zres 52 ((16, 1, (-1), .iconst (-1)) :: (17, 1, 0, .ireturn) :: C_X6_split_18) ls st σ := rfl
theorem U_X6_split_18 (ls st : List zV) (σ : zM) : zres 52 C_X6_split_18 ls st σ = zres 52 ((18, 1, 0, .iload_n 3) :: (19, 1, 1, .iconst 1) :: (20, 3, 36, .if_icmp .lt 16) :: (23, 2, 0, .iload 4) :: (25, 2, 99, .bipush 99) :: (27, 3, 36, .if_icmp .gt 9) :: (30, 1, 0, .iload_n 3) :: (31, 2, 0, .iload 4) :: (33, 3, 39, .if_icmp .lt 6) :: C_X6_split_36) ls st σ := rfl
theorem U_X6_split_36 (ls st : List zV) (σ : zM) : zres 52 C_X6_split_36 ls st σ = zres 52 ((36, 2, (-2), .bipush (-2)) :: (38, 1, 0, .ireturn) :: C_X6_split_39) ls st σ := rfl
theorem U_X6_split_39 (ls st : List zV) (σ : zM) : zres 52 C_X6_split_39 ls st σ = zres 52 ((39, 1, 0, .aload_n 0) :: (40, 3, 192, .getfield 12) :: (43, 3, 67, .getfield 79) :: (46, 1, 0, .iload_n 1) :: (47, 1, 0, .iaload) :: (48, 1, (-1), .iconst (-1)) :: (49, 3, 65, .if_icmp .eq 16) :: (52, 1, 0, .aload_n 0) :: (53, 3, 192, .getfield 12) :: (56, 3, 67, .getfield 79) :: (59, 1, 0, .iload_n 1) :: (60, 1, 0, .iaload) :: (61, 1, 0, .iload_n 2) :: (62, 3, 68, .if_icmp .ne 6) :: C_X6_split_65) ls st σ := rfl
theorem U_X6_split_65 (ls st : List zV) (σ : zM) : zres 52 C_X6_split_65 ls st σ = zres 52 ((65, 2, (-3), .bipush (-3)) :: (67, 1, 0, .ireturn) :: C_X6_split_68) ls st σ := rfl
theorem U_X6_split_68 (ls st : List zV) (σ : zM) : zres 52 C_X6_split_68 ls st σ = zres 52 ((68, 1, 0, .aload_n 0) :: (69, 3, 192, .getfield 12) :: (72, 3, 68, .getfield 91) :: (75, 3, 92, .ifCond .lt 17) :: (78, 1, 0, .aload_n 0) :: (79, 3, 192, .getfield 12) :: (82, 3, 68, .getfield 91) :: (85, 1, 0, .iload_n 1) :: (86, 3, 92, .if_icmp .eq 6) :: (89, 2, (-4), .bipush (-4)) :: (91, 1, 0, .ireturn) :: C_X6_split_92) ls st σ := rfl
theorem U_X6_split_92 (ls st : List zV) (σ : zM) : zres 52 C_X6_split_92 ls st σ = zres 52 ((92, 1, 0, .aload_n 0) :: (93, 3, 192, .getfield 12) :: (96, 1, 0, .iload_n 1) :: (97, 1, 0, .iload_n 2) :: (98, 1, 0, .iload_n 3) :: (99, 1, 0, .i2l) :: (100, 2, 0, .iload 4) :: (102, 1, 0, .i2l) :: (103, 3, 15, .invokevirtual 94) :: (106, 1, 0, .aload_n 0) :: (107, 3, 192, .getfield 12) :: (110, 3, 21, .invokevirtual 98) :: (113, 1, 0, .ireturn) :: []) ls st σ := rfl
theorem S_X6_split (c a0 a1 a2 a3 : Int) (σ : zM) : zcall 52 [vR c, vI a0, vI a1, vI a2, vI a3] σ = zres 52 C_X6_split_0 [vR c, vI a0, vI a1, vI a2, vI a3] [] σ := by
  unfold zcall zloc
  rw [G_X6_split, M_X6_split.2.1]
  rfl
theorem J_X6_settle_0 : zjump 53 0 = C_X6_settle_0 := by decide +kernel
theorem J_X6_settle_11 : zjump 53 11 = C_X6_settle_11 := by decide +kernel
theorem J_X6_settle_40 : zjump 53 40 = C_X6_settle_40 := by decide +kernel
theorem U_X6_settle_0 (ls st : List zV) (σ : zM) : zres 53 C_X6_settle_0 ls st σ = zres 53 ((0, 1, 0, .aload_n 0) :: (1, 1, 0, .iload_n 1) :: (2, 1, 0, .iload_n 2) :: (3, 3, 86, .invokevirtual 101) :: (6, 3, 11, .ifCond .ne 5) :: (9, 1, (-1), .iconst (-1)) :: (10, 1, 0, .ireturn) :: C_X6_settle_11) ls st σ := rfl
theorem U_X6_settle_11 (ls st : List zV) (σ : zM) : zres 53 C_X6_settle_11 ls st σ = zres 53 ((11, 1, 0, .aload_n 0) :: (12, 3, 195, .getfield 24) :: (15, 1, 0, .aload_n 0) :: (16, 3, 192, .getfield 12) :: (19, 3, 66, .getfield 76) :: (22, 1, 0, .aload_n 0) :: (23, 3, 192, .getfield 12) :: (26, 3, 65, .getfield 62) :: (29, 1, 0, .iload_n 1) :: (30, 1, 0, .iload_n 2) :: (31, 3, 0, .invokevirtual 105) :: (34, 3, 40, .ifCond .ne 6) :: (37, 2, (-3), .bipush (-3)) :: (39, 1, 0, .ireturn) :: C_X6_settle_40) ls st σ := rfl
theorem U_X6_settle_40 (ls st : List zV) (σ : zM) : zres 53 C_X6_settle_40 ls st σ = zres 53 ((40, 1, 0, .aload_n 0) :: (41, 3, 192, .getfield 12) :: (44, 1, 0, .aload_n 0) :: (45, 3, 195, .getfield 24) :: (48, 3, 16, .invokevirtual 109) :: (51, 1, 0, .aload_n 0) :: (52, 3, 195, .getfield 24) :: (55, 3, 5, .getfield 113) :: (58, 3, 90, .invokestatic 87) :: (61, 1, 0, .ireturn) :: []) ls st σ := rfl
theorem S_X6_settle (c a0 a1 : Int) (σ : zM) : zcall 53 [vR c, vI a0, vI a1] σ = zres 53 C_X6_settle_0 [vR c, vI a0, vI a1] [] σ := by
  unfold zcall zloc
  rw [G_X6_settle, M_X6_settle.2.1]
  rfl
theorem J_X6_feed_0 : zjump 54 0 = C_X6_feed_0 := by decide +kernel
theorem J_X6_feed_10 : zjump 54 10 = C_X6_feed_10 := by decide +kernel
theorem J_X6_feed_13 : zjump 54 13 = C_X6_feed_13 := by decide +kernel
theorem J_X6_feed_28 : zjump 54 28 = C_X6_feed_28 := by decide +kernel
theorem U_X6_feed_0 (ls st : List zV) (σ : zM) : zres 54 C_X6_feed_0 ls st σ = zres 54 ((0, 1, 0, .iload_n 1) :: (1, 3, 10, .ifCond .lt 9) :: (4, 1, 0, .iload_n 1) :: (5, 2, 127, .bipush 127) :: (7, 3, 13, .if_icmp .le 6) :: C_X6_feed_10) ls st σ := rfl
theorem U_X6_feed_10 (ls st : List zV) (σ : zM) : zres 54 C_X6_feed_10 ls st σ = zres 54 ((10, 2, (-2), .bipush (-2)) :: (12, 1, 0, .ireturn) :: C_X6_feed_13) ls st σ := rfl
theorem U_X6_feed_13 (ls st : List zV) (σ : zM) : zres 54 C_X6_feed_13 ls st σ = zres 54 ((13, 1, 0, .aload_n 0) :: (14, 3, 198, .getfield 43) :: (17, 3, 129, .getfield 114) :: (20, 2, 100, .bipush 100) :: (22, 3, 28, .if_icmp .lt 6) :: (25, 2, (-4), .bipush (-4)) :: (27, 1, 0, .ireturn) :: C_X6_feed_28) ls st σ := rfl
theorem U_X6_feed_28 (ls st : List zV) (σ : zM) : zres 54 C_X6_feed_28 ls st σ = zres 54 ((28, 1, 0, .aload_n 0) :: (29, 3, 198, .getfield 43) :: (32, 1, 0, .iload_n 1) :: (33, 3, 28, .invokevirtual 117) :: (36, 1, 0, .ireturn) :: []) ls st σ := rfl
theorem S_X6_feed (c a0 : Int) (σ : zM) : zcall 54 [vR c, vI a0] σ = zres 54 C_X6_feed_0 [vR c, vI a0] [] σ := by
  unfold zcall zloc
  rw [G_X6_feed, M_X6_feed.2.1]
  rfl
theorem J_X6_read_0 : zjump 55 0 = C_X6_read_0 := by decide +kernel
theorem J_X6_read_19 : zjump 55 19 = C_X6_read_19 := by decide +kernel
theorem J_X6_read_68 : zjump 55 68 = C_X6_read_68 := by decide +kernel
theorem J_X6_read_71 : zjump 55 71 = C_X6_read_71 := by decide +kernel
theorem J_X6_read_82 : zjump 55 82 = C_X6_read_82 := by decide +kernel
theorem J_X6_read_98 : zjump 55 98 = C_X6_read_98 := by decide +kernel
theorem J_X6_read_102 : zjump 55 102 = C_X6_read_102 := by decide +kernel
theorem U_X6_read_0 (ls st : List zV) (σ : zM) : zres 55 C_X6_read_0 ls st σ = zres 55 ((0, 1, 0, .aload_n 0) :: (1, 3, 198, .getfield 43) :: (4, 3, 34, .invokevirtual 120) :: (7, 1, 0, .istore_n 1) :: (8, 1, 0, .iconst 0) :: (9, 1, 0, .istore_n 2) :: (10, 1, 0, .iload_n 1) :: (11, 3, 82, .ifCond .ge 71) :: (14, 1, 0, .iconst 0) :: (15, 1, 0, .istore_n 3) :: (16, 1, 0, .iconst 0) :: (17, 2, 0, .istore 4) :: C_X6_read_19) ls st σ := rfl
theorem U_X6_read_19 (ls st : List zV) (σ : zM) : zres 55 C_X6_read_19 ls st σ = zres 55 ((19, 2, 0, .iload 4) :: (21, 2, 14, .bipush 14) :: (23, 3, 82, .if_icmp .ge 59) :: (26, 1, 0, .iload_n 3) :: (27, 1, 0, .aload_n 0) :: (28, 3, 198, .getfield 43) :: (31, 3, 129, .getfield 114) :: (34, 3, 82, .if_icmp .ge 48) :: (37, 1, 0, .aload_n 0) :: (38, 3, 198, .getfield 43) :: (41, 1, 0, .iload_n 3) :: (42, 3, 33, .invokevirtual 123) :: (45, 2, 0, .istore 5) :: (47, 1, 0, .aload_n 0) :: (48, 1, 0, .iload_n 3) :: (49, 2, 0, .iload 5) :: (51, 3, 96, .invokevirtual 126) :: (54, 2, 0, .istore 6) :: (56, 2, 0, .iload 6) :: (58, 3, 68, .ifCond .ge 10) :: (61, 2, 0, .iload 6) :: (63, 2, (-5), .bipush (-5)) :: (65, 3, 71, .if_icmp .ne 6) :: C_X6_read_68) ls st σ := rfl
theorem U_X6_read_68 (ls st : List zV) (σ : zM) : zres 55 C_X6_read_68 ls st σ = zres 55 ((68, 3, 0, .iinc 2 1) :: C_X6_read_71) ls st σ := rfl
theorem U_X6_read_71 (ls st : List zV) (σ : zM) : zres 55 C_X6_read_71 ls st σ = zres 55 ((71, 2, 0, .iload 5) :: (73, 1, 1, .iconst 1) :: (74, 1, 0, .iadd) :: (75, 1, 0, .istore_n 3) :: (76, 3, 0, .iinc 4 1) :: (79, 3, 19, .goto (-60)) :: C_X6_read_82) ls st σ := rfl
theorem U_X6_read_82 (ls st : List zV) (σ : zM) : zres 55 C_X6_read_82 ls st σ = zres 55 ((82, 1, 0, .aload_n 0) :: (83, 3, 198, .getfield 43) :: (86, 1, 0, .iconst 0) :: (87, 3, 129, .putfield 114) :: (90, 1, 0, .iload_n 1) :: (91, 3, 98, .ifCond .ge 7) :: (94, 1, 0, .iload_n 2) :: (95, 3, 102, .goto 7) :: C_X6_read_98) ls st σ := rfl
theorem U_X6_read_98 (ls st : List zV) (σ : zM) : zres 55 C_X6_read_98 ls st σ = zres 55 ((98, 2, (-10), .bipush (-10)) :: (100, 1, 0, .iload_n 1) :: (101, 1, 0, .isub) :: C_X6_read_102) ls st σ := rfl
theorem U_X6_read_102 (ls st : List zV) (σ : zM) : zres 55 C_X6_read_102 ls st σ = zres 55 ((102, 1, 0, .ireturn) :: []) ls st σ := rfl
theorem S_X6_read (c : Int) (σ : zM) : zcall 55 [vR c] σ = zres 55 C_X6_read_0 [vR c, vU, vU, vU, vU, vU, vU] [] σ := by
  unfold zcall zloc
  rw [G_X6_read, M_X6_read.2.1]
  rfl
theorem J_X6_holder_0 : zjump 56 0 = C_X6_holder_0 := by decide +kernel
theorem J_X6_holder_17 : zjump 56 17 = C_X6_holder_17 := by decide +kernel
theorem J_X6_holder_19 : zjump 56 19 = C_X6_holder_19 := by decide +kernel
theorem J_X6_holder_36 : zjump 56 36 = C_X6_holder_36 := by decide +kernel
theorem J_X6_holder_60 : zjump 56 60 = C_X6_holder_60 := by decide +kernel
theorem J_X6_holder_62 : zjump 56 62 = C_X6_holder_62 := by decide +kernel
theorem U_X6_holder_0 (ls st : List zV) (σ : zM) : zres 56 C_X6_holder_0 ls st σ = zres 56 ((0, 1, 0, .aload_n 0) :: (1, 1, 0, .iload_n 1) :: (2, 3, 87, .invokevirtual 73) :: (5, 3, 17, .ifCond .eq 12) :: (8, 1, 0, .iload_n 2) :: (9, 3, 17, .ifCond .lt 8) :: (12, 1, 0, .iload_n 2) :: (13, 1, 1, .iconst 1) :: (14, 3, 19, .if_icmp .le 5) :: C_X6_holder_17) ls st σ := rfl
theorem U_X6_holder_17 (ls st : List zV) (σ : zM) : zres 56 C_X6_holder_17 ls st σ = zres 56 ((17, 1, (-1), .iconst (-1)) :: (18, 1, 0, .ireturn) :: C_X6_holder_19) ls st σ := rfl
theorem U_X6_holder_19 (ls st : List zV) (σ : zM) : zres 56 C_X6_holder_19 ls st σ = zres 56 ((19, 1, 0, .iload_n 2) :: (20, 3, 36, .ifCond .ne 16) :: (23, 1, 0, .aload_n 0) :: (24, 3, 192, .getfield 12) :: (27, 3, 67, .getfield 79) :: (30, 1, 0, .iload_n 1) :: (31, 1, 0, .iaload) :: (32, 3, 90, .invokestatic 87) :: (35, 1, 0, .ireturn) :: C_X6_holder_36) ls st σ := rfl
theorem U_X6_holder_36 (ls st : List zV) (σ : zM) : zres 56 C_X6_holder_36 ls st σ = zres 56 ((36, 1, 0, .aload_n 0) :: (37, 3, 192, .getfield 12) :: (40, 3, 68, .getfield 91) :: (43, 1, 0, .iload_n 1) :: (44, 3, 60, .if_icmp .ne 16) :: (47, 1, 0, .aload_n 0) :: (48, 3, 192, .getfield 12) :: (51, 3, 69, .getfield 130) :: (54, 3, 90, .invokestatic 87) :: (57, 3, 62, .goto 5) :: C_X6_holder_60) ls st σ := rfl
theorem U_X6_holder_60 (ls st : List zV) (σ : zM) : zres 56 C_X6_holder_60 ls st σ = zres 56 ((60, 2, (-5), .bipush (-5)) :: C_X6_holder_62) ls st σ := rfl
theorem U_X6_holder_62 (ls st : List zV) (σ : zM) : zres 56 C_X6_holder_62 ls st σ = zres 56 ((62, 1, 0, .ireturn) :: []) ls st σ := rfl
theorem S_X6_holder (c a0 a1 : Int) (σ : zM) : zcall 56 [vR c, vI a0, vI a1] σ = zres 56 C_X6_holder_0 [vR c, vI a0, vI a1] [] σ := by
  unfold zcall zloc
  rw [G_X6_holder, M_X6_holder.2.1]
  rfl
theorem J_X6_held_0 : zjump 57 0 = C_X6_held_0 := by decide +kernel
theorem J_X6_held_23 : zjump 57 23 = C_X6_held_23 := by decide +kernel
theorem J_X6_held_27 : zjump 57 27 = C_X6_held_27 := by decide +kernel
theorem U_X6_held_0 (ls st : List zV) (σ : zM) : zres 57 C_X6_held_0 ls st σ = zres 57 ((0, 1, 0, .aload_n 0) :: (1, 1, 0, .iload_n 1) :: (2, 3, 85, .invokevirtual 69) :: (5, 3, 23, .ifCond .eq 18) :: (8, 1, 0, .aload_n 0) :: (9, 1, 0, .iload_n 2) :: (10, 3, 87, .invokevirtual 73) :: (13, 3, 23, .ifCond .eq 10) :: (16, 1, 0, .iload_n 3) :: (17, 3, 88, .invokestatic 133) :: (20, 3, 27, .ifCond .ne 7) :: C_X6_held_23) ls st σ := rfl
theorem U_X6_held_23 (ls st : List zV) (σ : zM) : zres 57 C_X6_held_23 ls st σ = zres 57 ((23, 3, (-9223372036854775808), .ldc2_w 136) :: (26, 1, 0, .lreturn) :: C_X6_held_27) ls st σ := rfl
theorem U_X6_held_27 (ls st : List zV) (σ : zM) : zres 57 C_X6_held_27 ls st σ = zres 57 ((27, 1, 0, .aload_n 0) :: (28, 3, 192, .getfield 12) :: (31, 1, 0, .iload_n 1) :: (32, 1, 0, .iload_n 2) :: (33, 3, 17, .invokevirtual 138) :: (36, 1, 0, .aload_n 0) :: (37, 3, 192, .getfield 12) :: (40, 3, 71, .getfield 142) :: (43, 1, 0, .iload_n 3) :: (44, 3, 92, .invokestatic 146) :: (47, 1, 0, .lreturn) :: []) ls st σ := rfl
theorem S_X6_held (c a0 a1 a2 : Int) (σ : zM) : zcall 57 [vR c, vI a0, vI a1, vI a2] σ = zres 57 C_X6_held_0 [vR c, vI a0, vI a1, vI a2] [] σ := by
  unfold zcall zloc
  rw [G_X6_held, M_X6_held.2.1]
  rfl
theorem J_X6_share_0 : zjump 58 0 = C_X6_share_0 := by decide +kernel
theorem J_X6_share_23 : zjump 58 23 = C_X6_share_23 := by decide +kernel
theorem J_X6_share_27 : zjump 58 27 = C_X6_share_27 := by decide +kernel
theorem J_X6_share_47 : zjump 58 47 = C_X6_share_47 := by decide +kernel
theorem U_X6_share_0 (ls st : List zV) (σ : zM) : zres 58 C_X6_share_0 ls st σ = zres 58 ((0, 1, 0, .aload_n 0) :: (1, 1, 0, .iload_n 1) :: (2, 3, 85, .invokevirtual 69) :: (5, 3, 23, .ifCond .eq 18) :: (8, 1, 0, .aload_n 0) :: (9, 1, 0, .iload_n 2) :: (10, 3, 85, .invokevirtual 69) :: (13, 3, 23, .ifCond .eq 10) :: (16, 1, 0, .iload_n 3) :: (17, 3, 88, .invokestatic 133) :: (20, 3, 27, .ifCond .ne 7) :: C_X6_share_23) ls st σ := rfl
theorem U_X6_share_23 (ls st : List zV) (σ : zM) : zres 58 C_X6_share_23 ls st σ = zres 58 ((23, 3, (-9223372036854775808), .ldc2_w 136) :: (26, 1, 0, .lreturn) :: C_X6_share_27) ls st σ := rfl
theorem U_X6_share_27 (ls st : List zV) (σ : zM) : zres 58 C_X6_share_27 ls st σ = zres 58 ((27, 1, 0, .aload_n 0) :: (28, 3, 192, .getfield 12) :: (31, 1, 0, .iload_n 1) :: (32, 3, 18, .invokevirtual 150) :: (35, 1, 0, .i2l) :: (36, 2, 0, .lstore 4) :: (38, 2, 0, .lload 4) :: (40, 1, 0, .lconst 0) :: (41, 1, 0, .lcmp) :: (42, 3, 47, .ifCond .ne 5) :: (45, 1, 1, .lconst 1) :: (46, 1, 0, .lreturn) :: C_X6_share_47) ls st σ := rfl
theorem U_X6_share_47 (ls st : List zV) (σ : zM) : zres 58 C_X6_share_47 ls st σ = zres 58 ((47, 1, 0, .aload_n 0) :: (48, 3, 192, .getfield 12) :: (51, 1, 0, .iload_n 1) :: (52, 1, 0, .iload_n 2) :: (53, 3, 19, .invokevirtual 153) :: (56, 2, 0, .lload 4) :: (58, 1, 0, .aload_n 0) :: (59, 3, 192, .getfield 12) :: (62, 3, 71, .getfield 142) :: (65, 1, 0, .lmul) :: (66, 1, 0, .iload_n 3) :: (67, 3, 92, .invokestatic 146) :: (70, 1, 0, .lreturn) :: []) ls st σ := rfl
theorem S_X6_share (c a0 a1 a2 : Int) (σ : zM) : zcall 58 [vR c, vI a0, vI a1, vI a2] σ = zres 58 C_X6_share_0 [vR c, vI a0, vI a1, vI a2, vU, vU] [] σ := by
  unfold zcall zloc
  rw [G_X6_share, M_X6_share.2.1]
  rfl
theorem J_X6_claim_0 : zjump 59 0 = C_X6_claim_0 := by decide +kernel
theorem J_X6_claim_12 : zjump 59 12 = C_X6_claim_12 := by decide +kernel
theorem J_X6_claim_14 : zjump 59 14 = C_X6_claim_14 := by decide +kernel
theorem J_X6_claim_26 : zjump 59 26 = C_X6_claim_26 := by decide +kernel
theorem J_X6_claim_38 : zjump 59 38 = C_X6_claim_38 := by decide +kernel
theorem J_X6_claim_52 : zjump 59 52 = C_X6_claim_52 := by decide +kernel
theorem J_X6_claim_54 : zjump 59 54 = C_X6_claim_54 := by decide +kernel
theorem U_X6_claim_0 (ls st : List zV) (σ : zM) : zres 59 C_X6_claim_0 ls st σ = zres 59 ((0, 1, 0, .aload_n 0) :: (1, 1, 0, .iload_n 1) :: (2, 3, 85, .invokevirtual 69) :: (5, 3, 12, .ifCond .eq 7) :: (8, 1, 0, .iload_n 2) :: (9, 3, 14, .ifCond .ge 5) :: C_X6_claim_12) ls st σ := rfl
theorem U_X6_claim_12 (ls st : List zV) (σ : zM) : zres 59 C_X6_claim_12 ls st σ = zres 59 ((12, 1, (-1), .iconst (-1)) :: (13, 1, 0, .ireturn) :: C_X6_claim_14) ls st σ := rfl
theorem U_X6_claim_14 (ls st : List zV) (σ : zM) : zres 59 C_X6_claim_14 ls st σ = zres 59 ((14, 1, 0, .aload_n 0) :: (15, 1, 0, .iload_n 1) :: (16, 3, 97, .invokevirtual 156) :: (19, 1, 0, .istore_n 3) :: (20, 1, 0, .iload_n 2) :: (21, 3, 26, .ifCond .ne 5) :: (24, 1, 0, .iload_n 3) :: (25, 1, 0, .ireturn) :: C_X6_claim_26) ls st σ := rfl
theorem U_X6_claim_26 (ls st : List zV) (σ : zM) : zres 59 C_X6_claim_26 ls st σ = zres 59 ((26, 1, 0, .iload_n 2) :: (27, 1, 1, .iconst 1) :: (28, 3, 38, .if_icmp .ne 10) :: (31, 1, 0, .aload_n 0) :: (32, 1, 0, .iload_n 3) :: (33, 1, 0, .iload_n 1) :: (34, 3, 98, .invokevirtual 159) :: (37, 1, 0, .ireturn) :: C_X6_claim_38) ls st σ := rfl
theorem U_X6_claim_38 (ls st : List zV) (σ : zM) : zres 59 C_X6_claim_38 ls st σ = zres 59 ((38, 1, 0, .iload_n 2) :: (39, 1, 2, .iconst 2) :: (40, 3, 52, .if_icmp .ne 12) :: (43, 1, 0, .aload_n 0) :: (44, 1, 0, .iload_n 3) :: (45, 1, 0, .iload_n 1) :: (46, 3, 99, .invokevirtual 162) :: (49, 3, 54, .goto 5) :: C_X6_claim_52) ls st σ := rfl
theorem U_X6_claim_52 (ls st : List zV) (σ : zM) : zres 59 C_X6_claim_52 ls st σ = zres 59 ((52, 2, (-5), .bipush (-5)) :: C_X6_claim_54) ls st σ := rfl
theorem U_X6_claim_54 (ls st : List zV) (σ : zM) : zres 59 C_X6_claim_54 ls st σ = zres 59 ((54, 1, 0, .ireturn) :: []) ls st σ := rfl
theorem S_X6_claim (c a0 a1 : Int) (σ : zM) : zcall 59 [vR c, vI a0, vI a1] σ = zres 59 C_X6_claim_0 [vR c, vI a0, vI a1, vU] [] σ := by
  unfold zcall zloc
  rw [G_X6_claim, M_X6_claim.2.1]
  rfl
theorem J_X6_better_0 : zjump 60 0 = C_X6_better_0 := by decide +kernel
theorem J_X6_better_11 : zjump 60 11 = C_X6_better_11 := by decide +kernel
theorem J_X6_better_35 : zjump 60 35 = C_X6_better_35 := by decide +kernel
theorem J_X6_better_65 : zjump 60 65 = C_X6_better_65 := by decide +kernel
theorem J_X6_better_124 : zjump 60 124 = C_X6_better_124 := by decide +kernel
theorem J_X6_better_130 : zjump 60 130 = C_X6_better_130 := by decide +kernel
theorem J_X6_better_136 : zjump 60 136 = C_X6_better_136 := by decide +kernel
theorem U_X6_better_0 (ls st : List zV) (σ : zM) : zres 60 C_X6_better_0 ls st σ = zres 60 ((0, 1, 0, .aload_n 0) :: (1, 1, 0, .iload_n 1) :: (2, 1, 0, .iload_n 2) :: (3, 3, 86, .invokevirtual 101) :: (6, 3, 11, .ifCond .ne 5) :: (9, 1, (-1), .iconst (-1)) :: (10, 1, 0, .ireturn) :: C_X6_better_11) ls st σ := rfl
theorem U_X6_better_11 (ls st : List zV) (σ : zM) : zres 60 C_X6_better_11 ls st σ = zres 60 ((11, 1, 0, .aload_n 0) :: (12, 3, 192, .getfield 12) :: (15, 3, 66, .getfield 76) :: (18, 1, 0, .iload_n 1) :: (19, 1, 0, .aaload) :: (20, 1, 0, .astore_n 3) :: (21, 1, 0, .aload_n 0) :: (22, 3, 192, .getfield 12) :: (25, 3, 66, .getfield 76) :: (28, 1, 0, .iload_n 2) :: (29, 1, 0, .aaload) :: (30, 2, 0, .astore 4) :: (32, 1, 0, .iconst 0) :: (33, 2, 0, .istore 5) :: C_X6_better_35) ls st σ := rfl
theorem U_X6_better_35 (ls st : List zV) (σ : zM) : zres 60 C_X6_better_35 ls st σ = zres 60 ((35, 2, 0, .iload 5) :: (37, 1, 0, .aload_n 0) :: (38, 3, 192, .getfield 12) :: (41, 3, 65, .getfield 62) :: (44, 3, 136, .if_icmp .ge 92) :: (47, 1, 0, .aload_n 0) :: (48, 3, 192, .getfield 12) :: (51, 1, 0, .iload_n 1) :: (52, 2, 0, .iload 5) :: (54, 3, 17, .invokevirtual 138) :: (57, 1, 0, .lconst 0) :: (58, 1, 0, .lcmp) :: (59, 3, 130, .ifCond .le 71) :: (62, 1, 0, .iconst 0) :: (63, 2, 0, .istore 6) :: C_X6_better_65) ls st σ := rfl
theorem U_X6_better_65 (ls st : List zV) (σ : zM) : zres 60 C_X6_better_65 ls st σ = zres 60 ((65, 2, 0, .iload 6) :: (67, 1, 0, .aload_n 0) :: (68, 3, 192, .getfield 12) :: (71, 3, 65, .getfield 62) :: (74, 3, 130, .if_icmp .ge 56) :: (77, 1, 0, .aload_n 0) :: (78, 3, 192, .getfield 12) :: (81, 1, 0, .iload_n 2) :: (82, 2, 0, .iload 6) :: (84, 3, 17, .invokevirtual 138) :: (87, 1, 0, .lconst 0) :: (88, 1, 0, .lcmp) :: (89, 3, 124, .ifCond .le 35) :: (92, 1, 0, .aload_n 3) :: (93, 2, 0, .iload 5) :: (95, 1, 0, .iaload) :: (96, 2, 0, .aload 4) :: (98, 2, 0, .iload 6) :: (100, 1, 0, .iaload) :: (101, 1, 0, .imul) :: (102, 1, 0, .aload_n 3) :: (103, 2, 0, .iload 6) :: (105, 1, 0, .iaload) :: (106, 2, 0, .aload 4) :: (108, 2, 0, .iload 5) :: (110, 1, 0, .iaload) :: (111, 1, 0, .imul) :: (112, 3, 124, .if_icmp .ge 12) :: (115, 2, 10, .bipush 10) :: (117, 2, 0, .iload 5) :: (119, 1, 0, .imul) :: (120, 2, 0, .iload 6) :: (122, 1, 0, .iadd) :: (123, 1, 0, .ireturn) :: C_X6_better_124) ls st σ := rfl
theorem U_X6_better_124 (ls st : List zV) (σ : zM) : zres 60 C_X6_better_124 ls st σ = zres 60 ((124, 3, 0, .iinc 6 1) :: (127, 3, 65, .goto (-62)) :: C_X6_better_130) ls st σ := rfl
theorem U_X6_better_130 (ls st : List zV) (σ : zM) : zres 60 C_X6_better_130 ls st σ = zres 60 ((130, 3, 0, .iinc 5 1) :: (133, 3, 35, .goto (-98)) :: C_X6_better_136) ls st σ := rfl
theorem U_X6_better_136 (ls st : List zV) (σ : zM) : zres 60 C_X6_better_136 ls st σ = zres 60 ((136, 2, (-5), .bipush (-5)) :: (138, 1, 0, .ireturn) :: []) ls st σ := rfl
theorem S_X6_better (c a0 a1 : Int) (σ : zM) : zcall 60 [vR c, vI a0, vI a1] σ = zres 60 C_X6_better_0 [vR c, vI a0, vI a1, vU, vU, vU, vU] [] σ := by
  unfold zcall zloc
  rw [G_X6_better, M_X6_better.2.1]
  rfl
theorem J_X6_told_0 : zjump 61 0 = C_X6_told_0 := by decide +kernel
theorem J_X6_told_40 : zjump 61 40 = C_X6_told_40 := by decide +kernel
theorem J_X6_told_48 : zjump 61 48 = C_X6_told_48 := by decide +kernel
theorem J_X6_told_56 : zjump 61 56 = C_X6_told_56 := by decide +kernel
theorem J_X6_told_64 : zjump 61 64 = C_X6_told_64 := by decide +kernel
theorem J_X6_told_72 : zjump 61 72 = C_X6_told_72 := by decide +kernel
theorem J_X6_told_77 : zjump 61 77 = C_X6_told_77 := by decide +kernel
theorem J_X6_told_113 : zjump 61 113 = C_X6_told_113 := by decide +kernel
theorem U_X6_told_0 (ls st : List zV) (σ : zM) : zres 61 C_X6_told_0 ls st σ = zres 61 ((0, 1, 0, .iload_n 1) :: (1, 39, 0, .tableswitch 112 0 5 #[39, 47, 55, 63, 71, 76]) :: C_X6_told_40) ls st σ := rfl
theorem U_X6_told_40 (ls st : List zV) (σ : zM) : zres 61 C_X6_told_40 ls st σ = zres 61 ((40, 1, 0, .aload_n 0) :: (41, 3, 192, .getfield 12) :: (44, 3, 64, .getfield 54) :: (47, 1, 0, .ireturn) :: C_X6_told_48) ls st σ := rfl
theorem U_X6_told_48 (ls st : List zV) (σ : zM) : zres 61 C_X6_told_48 ls st σ = zres 61 ((48, 1, 0, .aload_n 0) :: (49, 3, 192, .getfield 12) :: (52, 3, 65, .getfield 62) :: (55, 1, 0, .ireturn) :: C_X6_told_56) ls st σ := rfl
theorem U_X6_told_56 (ls st : List zV) (σ : zM) : zres 61 C_X6_told_56 ls st σ = zres 61 ((56, 1, 0, .aload_n 0) :: (57, 3, 192, .getfield 12) :: (60, 3, 21, .invokevirtual 98) :: (63, 1, 0, .ireturn) :: C_X6_told_64) ls st σ := rfl
theorem U_X6_told_64 (ls st : List zV) (σ : zM) : zres 61 C_X6_told_64 ls st σ = zres 61 ((64, 1, 0, .aload_n 0) :: (65, 3, 192, .getfield 12) :: (68, 3, 22, .invokevirtual 165) :: (71, 1, 0, .ireturn) :: C_X6_told_72) ls st σ := rfl
theorem U_X6_told_72 (ls st : List zV) (σ : zM) : zres 61 C_X6_told_72 ls st σ = zres 61 ((72, 1, 0, .aload_n 0) :: (73, 3, 102, .invokevirtual 168) :: (76, 1, 0, .ireturn) :: C_X6_told_77) ls st σ := rfl
theorem U_X6_told_77 (ls st : List zV) (σ : zM) : zres 61 C_X6_told_77 ls st σ = zres 61 ((77, 1, 0, .aload_n 0) :: (78, 3, 196, .getfield 31) :: (81, 1, 0, .aload_n 0) :: (82, 3, 192, .getfield 12) :: (85, 3, 66, .getfield 76) :: (88, 1, 0, .aload_n 0) :: (89, 3, 192, .getfield 12) :: (92, 3, 64, .getfield 54) :: (95, 1, 0, .aload_n 0) :: (96, 3, 192, .getfield 12) :: (99, 3, 65, .getfield 62) :: (102, 3, 35, .invokevirtual 171) :: (105, 1, 0, .aload_n 0) :: (106, 3, 196, .getfield 31) :: (109, 3, 169, .getfield 175) :: (112, 1, 0, .ireturn) :: C_X6_told_113) ls st σ := rfl
theorem U_X6_told_113 (ls st : List zV) (σ : zM) : zres 61 C_X6_told_113 ls st σ = zres 61 ((113, 1, (-1), .iconst (-1)) :: (114, 1, 0, .ireturn) :: []) ls st σ := rfl
theorem S_X6_told (c a0 : Int) (σ : zM) : zcall 61 [vR c, vI a0] σ = zres 61 C_X6_told_0 [vR c, vI a0] [] σ := by
  unfold zcall zloc
  rw [G_X6_told, M_X6_told.2.1]
  rfl
theorem J_X6_all_0 : zjump 62 0 = C_X6_all_0 := by decide +kernel
theorem J_X6_all_19 : zjump 62 19 = C_X6_all_19 := by decide +kernel
theorem J_X6_all_20 : zjump 62 20 = C_X6_all_20 := by decide +kernel
theorem U_X6_all_0 (ls st : List zV) (σ : zM) : zres 62 C_X6_all_0 ls st σ = zres 62 ((0, 1, 0, .aload_n 0) :: (1, 1, 0, .iload_n 1) :: (2, 3, 85, .invokevirtual 69) :: (5, 3, 19, .ifCond .eq 14) :: (8, 1, 0, .aload_n 0) :: (9, 3, 192, .getfield 12) :: (12, 1, 0, .iload_n 1) :: (13, 3, 18, .invokevirtual 150) :: (16, 3, 20, .goto 4) :: C_X6_all_19) ls st σ := rfl
theorem U_X6_all_19 (ls st : List zV) (σ : zM) : zres 62 C_X6_all_19 ls st σ = zres 62 ((19, 1, (-1), .iconst (-1)) :: C_X6_all_20) ls st σ := rfl
theorem U_X6_all_20 (ls st : List zV) (σ : zM) : zres 62 C_X6_all_20 ls st σ = zres 62 ((20, 1, 0, .ireturn) :: []) ls st σ := rfl
theorem S_X6_all (c a0 : Int) (σ : zM) : zcall 62 [vR c, vI a0] σ = zres 62 C_X6_all_0 [vR c, vI a0] [] σ := by
  unfold zcall zloc
  rw [G_X6_all, M_X6_all.2.1]
  rfl
theorem J_X6_adjusted_0 : zjump 63 0 = C_X6_adjusted_0 := by decide +kernel
theorem J_X6_adjusted_18 : zjump 63 18 = C_X6_adjusted_18 := by decide +kernel
theorem J_X6_adjusted_20 : zjump 63 20 = C_X6_adjusted_20 := by decide +kernel
theorem J_X6_adjusted_49 : zjump 63 49 = C_X6_adjusted_49 := by decide +kernel
theorem J_X6_adjusted_80 : zjump 63 80 = C_X6_adjusted_80 := by decide +kernel
theorem J_X6_adjusted_91 : zjump 63 91 = C_X6_adjusted_91 := by decide +kernel
theorem J_X6_adjusted_100 : zjump 63 100 = C_X6_adjusted_100 := by decide +kernel
theorem J_X6_adjusted_109 : zjump 63 109 = C_X6_adjusted_109 := by decide +kernel
theorem J_X6_adjusted_117 : zjump 63 117 = C_X6_adjusted_117 := by decide +kernel
theorem U_X6_adjusted_0 (ls st : List zV) (σ : zM) : zres 63 C_X6_adjusted_0 ls st σ = zres 63 ((0, 1, 0, .aload_n 0) :: (1, 1, 0, .iload_n 1) :: (2, 1, 0, .iload_n 2) :: (3, 3, 86, .invokevirtual 101) :: (6, 3, 18, .ifCond .eq 12) :: (9, 1, 0, .iload_n 3) :: (10, 3, 18, .ifCond .lt 8) :: (13, 1, 0, .iload_n 3) :: (14, 1, 4, .iconst 4) :: (15, 3, 20, .if_icmp .le 5) :: C_X6_adjusted_18) ls st σ := rfl
theorem U_X6_adjusted_18 (ls st : List zV) (σ : zM) : zres 63 C_X6_adjusted_18 ls st σ = zres 63 ((18, 1, (-1), .iconst (-1)) :: (19, 1, 0, .ireturn) :: C_X6_adjusted_20) ls st σ := rfl
theorem U_X6_adjusted_20 (ls st : List zV) (σ : zM) : zres 63 C_X6_adjusted_20 ls st σ = zres 63 ((20, 1, 0, .aload_n 0) :: (21, 3, 195, .getfield 24) :: (24, 1, 0, .aload_n 0) :: (25, 3, 192, .getfield 12) :: (28, 3, 66, .getfield 76) :: (31, 1, 0, .aload_n 0) :: (32, 3, 192, .getfield 12) :: (35, 3, 65, .getfield 62) :: (38, 1, 0, .iload_n 1) :: (39, 1, 0, .iload_n 2) :: (40, 3, 0, .invokevirtual 105) :: (43, 3, 49, .ifCond .ne 6) :: (46, 2, (-3), .bipush (-3)) :: (48, 1, 0, .ireturn) :: C_X6_adjusted_49) ls st σ := rfl
theorem U_X6_adjusted_49 (ls st : List zV) (σ : zM) : zres 63 C_X6_adjusted_49 ls st σ = zres 63 ((49, 1, 0, .iload_n 3) :: (50, 30, 0, .tableswitch 67 0 3 #[30, 41, 50, 59]) :: C_X6_adjusted_80) ls st σ := rfl
theorem U_X6_adjusted_80 (ls st : List zV) (σ : zM) : zres 63 C_X6_adjusted_80 ls st σ = zres 63 ((80, 1, 0, .aload_n 0) :: (81, 3, 195, .getfield 24) :: (84, 3, 5, .getfield 113) :: (87, 3, 90, .invokestatic 87) :: (90, 1, 0, .ireturn) :: C_X6_adjusted_91) ls st σ := rfl
theorem U_X6_adjusted_91 (ls st : List zV) (σ : zM) : zres 63 C_X6_adjusted_91 ls st σ = zres 63 ((91, 1, 0, .aload_n 0) :: (92, 3, 195, .getfield 24) :: (95, 1, 0, .iload_n 1) :: (96, 3, 6, .invokevirtual 178) :: (99, 1, 0, .ireturn) :: C_X6_adjusted_100) ls st σ := rfl
theorem U_X6_adjusted_100 (ls st : List zV) (σ : zM) : zres 63 C_X6_adjusted_100 ls st σ = zres 63 ((100, 1, 0, .aload_n 0) :: (101, 3, 195, .getfield 24) :: (104, 1, 0, .iload_n 2) :: (105, 3, 6, .invokevirtual 178) :: (108, 1, 0, .ireturn) :: C_X6_adjusted_109) ls st σ := rfl
theorem U_X6_adjusted_109 (ls st : List zV) (σ : zM) : zres 63 C_X6_adjusted_109 ls st σ = zres 63 ((109, 1, 0, .aload_n 0) :: (110, 3, 195, .getfield 24) :: (113, 3, 4, .getfield 181) :: (116, 1, 0, .ireturn) :: C_X6_adjusted_117) ls st σ := rfl
theorem U_X6_adjusted_117 (ls st : List zV) (σ : zM) : zres 63 C_X6_adjusted_117 ls st σ = zres 63 ((117, 1, 0, .aload_n 0) :: (118, 3, 195, .getfield 24) :: (121, 3, 2, .getfield 184) :: (124, 3, 90, .invokestatic 87) :: (127, 1, 0, .ireturn) :: []) ls st σ := rfl
theorem S_X6_adjusted (c a0 a1 a2 : Int) (σ : zM) : zcall 63 [vR c, vI a0, vI a1, vI a2] σ = zres 63 C_X6_adjusted_0 [vR c, vI a0, vI a1, vI a2] [] σ := by
  unfold zcall zloc
  rw [G_X6_adjusted, M_X6_adjusted.2.1]
  rfl
theorem J_X6_alike_0 : zjump 64 0 = C_X6_alike_0 := by decide +kernel
theorem J_X6_alike_42 : zjump 64 42 = C_X6_alike_42 := by decide +kernel
theorem J_X6_alike_46 : zjump 64 46 = C_X6_alike_46 := by decide +kernel
theorem U_X6_alike_0 (ls st : List zV) (σ : zM) : zres 64 C_X6_alike_0 ls st σ = zres 64 ((0, 1, 0, .aload_n 0) :: (1, 1, 0, .iload_n 1) :: (2, 1, 0, .iload_n 2) :: (3, 3, 86, .invokevirtual 101) :: (6, 3, 42, .ifCond .eq 36) :: (9, 1, 0, .iload_n 3) :: (10, 3, 88, .invokestatic 133) :: (13, 3, 42, .ifCond .eq 29) :: (16, 1, 0, .aload_n 0) :: (17, 3, 195, .getfield 24) :: (20, 1, 0, .aload_n 0) :: (21, 3, 192, .getfield 12) :: (24, 3, 66, .getfield 76) :: (27, 1, 0, .aload_n 0) :: (28, 3, 192, .getfield 12) :: (31, 3, 65, .getfield 62) :: (34, 1, 0, .iload_n 1) :: (35, 1, 0, .iload_n 2) :: (36, 3, 0, .invokevirtual 105) :: (39, 3, 46, .ifCond .ne 7) :: C_X6_alike_42) ls st σ := rfl
theorem U_X6_alike_42 (ls st : List zV) (σ : zM) : zres 64 C_X6_alike_42 ls st σ = zres 64 ((42, 3, (-9223372036854775808), .ldc2_w 136) :: (45, 1, 0, .lreturn) :: C_X6_alike_46) ls st σ := rfl
theorem U_X6_alike_46 (ls st : List zV) (σ : zM) : zres 64 C_X6_alike_46 ls st σ = zres 64 ((46, 1, 0, .aload_n 0) :: (47, 3, 195, .getfield 24) :: (50, 3, 8, .getfield 187) :: (53, 1, 0, .aload_n 0) :: (54, 3, 195, .getfield 24) :: (57, 3, 9, .getfield 190) :: (60, 1, 0, .iload_n 3) :: (61, 3, 92, .invokestatic 146) :: (64, 1, 0, .lreturn) :: []) ls st σ := rfl
theorem S_X6_alike (c a0 a1 a2 : Int) (σ : zM) : zcall 64 [vR c, vI a0, vI a1, vI a2] σ = zres 64 C_X6_alike_0 [vR c, vI a0, vI a1, vI a2] [] σ := by
  unfold zcall zloc
  rw [G_X6_alike, M_X6_alike.2.1]
  rfl
theorem J_X6_parted_0 : zjump 65 0 = C_X6_parted_0 := by decide +kernel
theorem J_X6_parted_42 : zjump 65 42 = C_X6_parted_42 := by decide +kernel
theorem J_X6_parted_46 : zjump 65 46 = C_X6_parted_46 := by decide +kernel
theorem U_X6_parted_0 (ls st : List zV) (σ : zM) : zres 65 C_X6_parted_0 ls st σ = zres 65 ((0, 1, 0, .aload_n 0) :: (1, 1, 0, .iload_n 1) :: (2, 1, 0, .iload_n 2) :: (3, 3, 86, .invokevirtual 101) :: (6, 3, 42, .ifCond .eq 36) :: (9, 1, 0, .iload_n 3) :: (10, 3, 88, .invokestatic 133) :: (13, 3, 42, .ifCond .eq 29) :: (16, 1, 0, .aload_n 0) :: (17, 3, 195, .getfield 24) :: (20, 1, 0, .aload_n 0) :: (21, 3, 192, .getfield 12) :: (24, 3, 66, .getfield 76) :: (27, 1, 0, .aload_n 0) :: (28, 3, 192, .getfield 12) :: (31, 3, 65, .getfield 62) :: (34, 1, 0, .iload_n 1) :: (35, 1, 0, .iload_n 2) :: (36, 3, 0, .invokevirtual 105) :: (39, 3, 46, .ifCond .ne 7) :: C_X6_parted_42) ls st σ := rfl
theorem U_X6_parted_42 (ls st : List zV) (σ : zM) : zres 65 C_X6_parted_42 ls st σ = zres 65 ((42, 3, (-9223372036854775808), .ldc2_w 136) :: (45, 1, 0, .lreturn) :: C_X6_parted_46) ls st σ := rfl
theorem U_X6_parted_46 (ls st : List zV) (σ : zM) : zres 65 C_X6_parted_46 ls st σ = zres 65 ((46, 1, 0, .aload_n 0) :: (47, 3, 195, .getfield 24) :: (50, 3, 6, .getfield 193) :: (53, 1, 0, .aload_n 0) :: (54, 3, 195, .getfield 24) :: (57, 3, 7, .getfield 196) :: (60, 1, 0, .iload_n 3) :: (61, 3, 92, .invokestatic 146) :: (64, 1, 0, .lreturn) :: []) ls st σ := rfl
theorem S_X6_parted (c a0 a1 a2 : Int) (σ : zM) : zcall 65 [vR c, vI a0, vI a1, vI a2] σ = zres 65 C_X6_parted_0 [vR c, vI a0, vI a1, vI a2] [] σ := by
  unfold zcall zloc
  rw [G_X6_parted, M_X6_parted.2.1]
  rfl
theorem J_X6_ratio_0 : zjump 66 0 = C_X6_ratio_0 := by decide +kernel
theorem J_X6_ratio_24 : zjump 66 24 = C_X6_ratio_24 := by decide +kernel
theorem J_X6_ratio_26 : zjump 66 26 = C_X6_ratio_26 := by decide +kernel
theorem J_X6_ratio_29 : zjump 66 29 = C_X6_ratio_29 := by decide +kernel
theorem J_X6_ratio_47 : zjump 66 47 = C_X6_ratio_47 := by decide +kernel
theorem J_X6_ratio_97 : zjump 66 97 = C_X6_ratio_97 := by decide +kernel
theorem J_X6_ratio_103 : zjump 66 103 = C_X6_ratio_103 := by decide +kernel
theorem J_X6_ratio_112 : zjump 66 112 = C_X6_ratio_112 := by decide +kernel
theorem J_X6_ratio_118 : zjump 66 118 = C_X6_ratio_118 := by decide +kernel
theorem U_X6_ratio_0 (ls st : List zV) (σ : zM) : zres 66 C_X6_ratio_0 ls st σ = zres 66 ((0, 1, 0, .aload_n 0) :: (1, 1, 0, .iload_n 1) :: (2, 1, 0, .iload_n 2) :: (3, 3, 86, .invokevirtual 101) :: (6, 3, 24, .ifCond .eq 18) :: (9, 1, 0, .iload_n 3) :: (10, 3, 24, .ifCond .lt 14) :: (13, 1, 0, .iload_n 3) :: (14, 1, 0, .aload_n 0) :: (15, 3, 192, .getfield 12) :: (18, 3, 65, .getfield 62) :: (21, 3, 26, .if_icmp .lt 5) :: C_X6_ratio_24) ls st σ := rfl
theorem U_X6_ratio_24 (ls st : List zV) (σ : zM) : zres 66 C_X6_ratio_24 ls st σ = zres 66 ((24, 1, (-1), .iconst (-1)) :: (25, 1, 0, .ireturn) :: C_X6_ratio_26) ls st σ := rfl
theorem U_X6_ratio_26 (ls st : List zV) (σ : zM) : zres 66 C_X6_ratio_26 ls st σ = zres 66 ((26, 1, 0, .iconst 0) :: (27, 2, 0, .istore 4) :: C_X6_ratio_29) ls st σ := rfl
theorem U_X6_ratio_29 (ls st : List zV) (σ : zM) : zres 66 C_X6_ratio_29 ls st σ = zres 66 ((29, 2, 0, .iload 4) :: (31, 1, 0, .aload_n 0) :: (32, 3, 192, .getfield 12) :: (35, 3, 65, .getfield 62) :: (38, 3, 118, .if_icmp .ge 80) :: (41, 1, 0, .iconst 0) :: (42, 2, 0, .istore 5) :: (44, 1, 0, .iconst 0) :: (45, 2, 0, .istore 6) :: C_X6_ratio_47) ls st σ := rfl
theorem U_X6_ratio_47 (ls st : List zV) (σ : zM) : zres 66 C_X6_ratio_47 ls st σ = zres 66 ((47, 2, 0, .iload 6) :: (49, 1, 0, .aload_n 0) :: (50, 3, 192, .getfield 12) :: (53, 3, 65, .getfield 62) :: (56, 3, 103, .if_icmp .ge 47) :: (59, 2, 0, .iload 6) :: (61, 2, 0, .iload 4) :: (63, 3, 97, .if_icmp .eq 34) :: (66, 1, 0, .aload_n 0) :: (67, 3, 192, .getfield 12) :: (70, 3, 66, .getfield 76) :: (73, 1, 0, .iload_n 1) :: (74, 1, 0, .aaload) :: (75, 1, 0, .aload_n 0) :: (76, 3, 192, .getfield 12) :: (79, 3, 66, .getfield 76) :: (82, 1, 0, .iload_n 2) :: (83, 1, 0, .aaload) :: (84, 2, 0, .iload 6) :: (86, 2, 0, .iload 4) :: (88, 3, 95, .invokestatic 197) :: (91, 3, 97, .ifCond .eq 6) :: (94, 3, 0, .iinc 5 1) :: C_X6_ratio_97) ls st σ := rfl
theorem U_X6_ratio_97 (ls st : List zV) (σ : zM) : zres 66 C_X6_ratio_97 ls st σ = zres 66 ((97, 3, 0, .iinc 6 1) :: (100, 3, 47, .goto (-53)) :: C_X6_ratio_103) ls st σ := rfl
theorem U_X6_ratio_103 (ls st : List zV) (σ : zM) : zres 66 C_X6_ratio_103 ls st σ = zres 66 ((103, 2, 0, .iload 5) :: (105, 1, 0, .iload_n 3) :: (106, 3, 112, .if_icmp .ne 6) :: (109, 2, 0, .iload 4) :: (111, 1, 0, .ireturn) :: C_X6_ratio_112) ls st σ := rfl
theorem U_X6_ratio_112 (ls st : List zV) (σ : zM) : zres 66 C_X6_ratio_112 ls st σ = zres 66 ((112, 3, 0, .iinc 4 1) :: (115, 3, 29, .goto (-86)) :: C_X6_ratio_118) ls st σ := rfl
theorem U_X6_ratio_118 (ls st : List zV) (σ : zM) : zres 66 C_X6_ratio_118 ls st σ = zres 66 ((118, 1, (-1), .iconst (-1)) :: (119, 1, 0, .ireturn) :: []) ls st σ := rfl
theorem S_X6_ratio (c a0 a1 a2 : Int) (σ : zM) : zcall 66 [vR c, vI a0, vI a1, vI a2] σ = zres 66 C_X6_ratio_0 [vR c, vI a0, vI a1, vI a2, vU, vU, vU] [] σ := by
  unfold zcall zloc
  rw [G_X6_ratio, M_X6_ratio.2.1]
  rfl
theorem J_X6_fair_0 : zjump 67 0 = C_X6_fair_0 := by decide +kernel
theorem J_X6_fair_10 : zjump 67 10 = C_X6_fair_10 := by decide +kernel
theorem U_X6_fair_0 (ls st : List zV) (σ : zM) : zres 67 C_X6_fair_0 ls st σ = zres 67 ((0, 1, 0, .aload_n 0) :: (1, 1, 0, .iload_n 1) :: (2, 3, 87, .invokevirtual 73) :: (5, 3, 10, .ifCond .ne 5) :: (8, 1, (-1), .iconst (-1)) :: (9, 1, 0, .ireturn) :: C_X6_fair_10) ls st σ := rfl
theorem U_X6_fair_10 (ls st : List zV) (σ : zM) : zres 67 C_X6_fair_10 ls st σ = zres 67 ((10, 1, 0, .aload_n 0) :: (11, 3, 196, .getfield 31) :: (14, 1, 0, .aload_n 0) :: (15, 3, 192, .getfield 12) :: (18, 3, 66, .getfield 76) :: (21, 1, 0, .aload_n 0) :: (22, 3, 192, .getfield 12) :: (25, 3, 64, .getfield 54) :: (28, 1, 0, .aload_n 0) :: (29, 3, 192, .getfield 12) :: (32, 3, 65, .getfield 62) :: (35, 3, 35, .invokevirtual 171) :: (38, 1, 0, .aload_n 0) :: (39, 3, 196, .getfield 31) :: (42, 3, 166, .getfield 201) :: (45, 1, 0, .iload_n 1) :: (46, 1, 0, .iaload) :: (47, 1, 0, .ireturn) :: []) ls st σ := rfl
theorem S_X6_fair (c a0 : Int) (σ : zM) : zcall 67 [vR c, vI a0] σ = zres 67 C_X6_fair_0 [vR c, vI a0] [] σ := by
  unfold zcall zloc
  rw [G_X6_fair, M_X6_fair.2.1]
  rfl
theorem J_X6_fairest_0 : zjump 68 0 = C_X6_fairest_0 := by decide +kernel
theorem J_X6_fairest_11 : zjump 68 11 = C_X6_fairest_11 := by decide +kernel
theorem U_X6_fairest_0 (ls st : List zV) (σ : zM) : zres 68 C_X6_fairest_0 ls st σ = zres 68 ((0, 1, 0, .iload_n 1) :: (1, 3, 88, .invokestatic 133) :: (4, 3, 11, .ifCond .ne 7) :: (7, 3, (-9223372036854775808), .ldc2_w 136) :: (10, 1, 0, .lreturn) :: C_X6_fairest_11) ls st σ := rfl
theorem U_X6_fairest_11 (ls st : List zV) (σ : zM) : zres 68 C_X6_fairest_11 ls st σ = zres 68 ((11, 1, 0, .aload_n 0) :: (12, 3, 196, .getfield 31) :: (15, 1, 0, .aload_n 0) :: (16, 3, 192, .getfield 12) :: (19, 3, 66, .getfield 76) :: (22, 1, 0, .aload_n 0) :: (23, 3, 192, .getfield 12) :: (26, 3, 64, .getfield 54) :: (29, 1, 0, .aload_n 0) :: (30, 3, 192, .getfield 12) :: (33, 3, 65, .getfield 62) :: (36, 3, 35, .invokevirtual 171) :: (39, 1, 0, .aload_n 0) :: (40, 3, 196, .getfield 31) :: (43, 3, 167, .getfield 204) :: (46, 1, 0, .aload_n 0) :: (47, 3, 196, .getfield 31) :: (50, 3, 168, .getfield 207) :: (53, 1, 0, .iload_n 1) :: (54, 3, 92, .invokestatic 146) :: (57, 1, 0, .lreturn) :: []) ls st σ := rfl
theorem S_X6_fairest (c a0 : Int) (σ : zM) : zcall 68 [vR c, vI a0] σ = zres 68 C_X6_fairest_0 [vR c, vI a0] [] σ := by
  unfold zcall zloc
  rw [G_X6_fairest, M_X6_fairest.2.1]
  rfl
theorem J_X6_see_0 : zjump 69 0 = C_X6_see_0 := by decide +kernel
theorem J_X6_see_16 : zjump 69 16 = C_X6_see_16 := by decide +kernel
theorem J_X6_see_26 : zjump 69 26 = C_X6_see_26 := by decide +kernel
theorem J_X6_see_35 : zjump 69 35 = C_X6_see_35 := by decide +kernel
theorem J_X6_see_38 : zjump 69 38 = C_X6_see_38 := by decide +kernel
theorem J_X6_see_56 : zjump 69 56 = C_X6_see_56 := by decide +kernel
theorem J_X6_see_68 : zjump 69 68 = C_X6_see_68 := by decide +kernel
theorem U_X6_see_0 (ls st : List zV) (σ : zM) : zres 69 C_X6_see_0 ls st σ = zres 69 ((0, 1, 0, .iload_n 1) :: (1, 1, (-1), .iconst (-1)) :: (2, 3, 16, .if_icmp .ne 14) :: (5, 1, 0, .aload_n 0) :: (6, 3, 192, .getfield 12) :: (9, 3, 72, .getfield 210) :: (12, 3, 9, .invokevirtual 214) :: (15, 1, 0, .ireturn) :: C_X6_see_16) ls st σ := rfl
theorem U_X6_see_16 (ls st : List zV) (σ : zM) : zres 69 C_X6_see_16 ls st σ = zres 69 ((16, 1, 0, .aload_n 0) :: (17, 1, 0, .iload_n 1) :: (18, 3, 87, .invokevirtual 73) :: (21, 3, 26, .ifCond .ne 5) :: (24, 1, (-1), .iconst (-1)) :: (25, 1, 0, .ireturn) :: C_X6_see_26) ls st σ := rfl
theorem U_X6_see_26 (ls st : List zV) (σ : zM) : zres 69 C_X6_see_26 ls st σ = zres 69 ((26, 1, 0, .iload_n 2) :: (27, 3, 35, .ifCond .lt 8) :: (30, 1, 0, .iload_n 2) :: (31, 1, 1, .iconst 1) :: (32, 3, 38, .if_icmp .le 6) :: C_X6_see_35) ls st σ := rfl
theorem U_X6_see_35 (ls st : List zV) (σ : zM) : zres 69 C_X6_see_35 ls st σ = zres 69 ((35, 2, (-2), .bipush (-2)) :: (37, 1, 0, .ireturn) :: C_X6_see_38) ls st σ := rfl
theorem U_X6_see_38 (ls st : List zV) (σ : zM) : zres 69 C_X6_see_38 ls st σ = zres 69 ((38, 1, 0, .aload_n 0) :: (39, 3, 192, .getfield 12) :: (42, 3, 72, .getfield 210) :: (45, 3, 7, .invokevirtual 219) :: (48, 3, 56, .ifCond .eq 8) :: (51, 2, (-4), .bipush (-4)) :: (53, 3, 68, .goto 15) :: C_X6_see_56) ls st σ := rfl
theorem U_X6_see_56 (ls st : List zV) (σ : zM) : zres 69 C_X6_see_56 ls st σ = zres 69 ((56, 1, 0, .aload_n 0) :: (57, 3, 192, .getfield 12) :: (60, 3, 72, .getfield 210) :: (63, 1, 0, .iload_n 1) :: (64, 1, 0, .iload_n 2) :: (65, 3, 8, .invokevirtual 223) :: C_X6_see_68) ls st σ := rfl
theorem U_X6_see_68 (ls st : List zV) (σ : zM) : zres 69 C_X6_see_68 ls st σ = zres 69 ((68, 1, 0, .ireturn) :: []) ls st σ := rfl
theorem S_X6_see (c a0 a1 : Int) (σ : zM) : zcall 69 [vR c, vI a0, vI a1] σ = zres 69 C_X6_see_0 [vR c, vI a0, vI a1] [] σ := by
  unfold zcall zloc
  rw [G_X6_see, M_X6_see.2.1]
  rfl
theorem J_X6_fits_0 : zjump 70 0 = C_X6_fits_0 := by decide +kernel
theorem J_X6_fits_26 : zjump 70 26 = C_X6_fits_26 := by decide +kernel
theorem J_X6_fits_28 : zjump 70 28 = C_X6_fits_28 := by decide +kernel
theorem J_X6_fits_52 : zjump 70 52 = C_X6_fits_52 := by decide +kernel
theorem J_X6_fits_85 : zjump 70 85 = C_X6_fits_85 := by decide +kernel
theorem J_X6_fits_88 : zjump 70 88 = C_X6_fits_88 := by decide +kernel
theorem J_X6_fits_94 : zjump 70 94 = C_X6_fits_94 := by decide +kernel
theorem J_X6_fits_103 : zjump 70 103 = C_X6_fits_103 := by decide +kernel
theorem J_X6_fits_105 : zjump 70 105 = C_X6_fits_105 := by decide +kernel
theorem U_X6_fits_0 (ls st : List zV) (σ : zM) : zres 70 C_X6_fits_0 ls st σ = zres 70 ((0, 1, 0, .iload_n 1) :: (1, 3, 26, .ifCond .lt 25) :: (4, 1, 0, .iload_n 1) :: (5, 1, 1, .iconst 1) :: (6, 3, 26, .if_icmp .gt 20) :: (9, 1, 0, .aload_n 0) :: (10, 1, 0, .iload_n 2) :: (11, 3, 87, .invokevirtual 73) :: (14, 3, 26, .ifCond .eq 12) :: (17, 1, 0, .iload_n 3) :: (18, 3, 26, .ifCond .lt 8) :: (21, 1, 0, .iload_n 3) :: (22, 1, 1, .iconst 1) :: (23, 3, 28, .if_icmp .le 5) :: C_X6_fits_26) ls st σ := rfl
theorem U_X6_fits_26 (ls st : List zV) (σ : zM) : zres 70 C_X6_fits_26 ls st σ = zres 70 ((26, 1, (-1), .iconst (-1)) :: (27, 1, 0, .ireturn) :: C_X6_fits_28) ls st σ := rfl
theorem U_X6_fits_28 (ls st : List zV) (σ : zM) : zres 70 C_X6_fits_28 ls st σ = zres 70 ((28, 1, 0, .aload_n 0) :: (29, 3, 192, .getfield 12) :: (32, 3, 66, .getfield 76) :: (35, 1, 0, .aload_n 0) :: (36, 3, 197, .getfield 37) :: (39, 3, 93, .invokestatic 225) :: (42, 1, 0, .iconst 0) :: (43, 2, 0, .istore 4) :: (45, 2, (-5), .bipush (-5)) :: (47, 2, 0, .istore 5) :: (49, 1, 0, .iconst 0) :: (50, 2, 0, .istore 6) :: C_X6_fits_52) ls st σ := rfl
theorem U_X6_fits_52 (ls st : List zV) (σ : zM) : zres 70 C_X6_fits_52 ls st σ = zres 70 ((52, 2, 0, .iload 6) :: (54, 2, 20, .bipush 20) :: (56, 3, 94, .if_icmp .gt 38) :: (59, 1, 0, .aload_n 0) :: (60, 3, 197, .getfield 37) :: (63, 1, 0, .iload_n 1) :: (64, 1, 0, .aaload) :: (65, 1, 0, .iload_n 2) :: (66, 2, 0, .iload 6) :: (68, 1, 0, .iastore) :: (69, 1, 0, .aload_n 0) :: (70, 3, 103, .invokevirtual 229) :: (73, 3, 88, .ifCond .eq 15) :: (76, 2, 0, .iload 4) :: (78, 3, 85, .ifCond .ne 7) :: (81, 2, 0, .iload 6) :: (83, 2, 0, .istore 5) :: C_X6_fits_85) ls st σ := rfl
theorem U_X6_fits_85 (ls st : List zV) (σ : zM) : zres 70 C_X6_fits_85 ls st σ = zres 70 ((85, 3, 0, .iinc 4 1) :: C_X6_fits_88) ls st σ := rfl
theorem U_X6_fits_88 (ls st : List zV) (σ : zM) : zres 70 C_X6_fits_88 ls st σ = zres 70 ((88, 3, 0, .iinc 6 1) :: (91, 3, 52, .goto (-39)) :: C_X6_fits_94) ls st σ := rfl
theorem U_X6_fits_94 (ls st : List zV) (σ : zM) : zres 70 C_X6_fits_94 ls st σ = zres 70 ((94, 1, 0, .iload_n 3) :: (95, 3, 103, .ifCond .ne 8) :: (98, 2, 0, .iload 4) :: (100, 3, 105, .goto 5) :: C_X6_fits_103) ls st σ := rfl
theorem U_X6_fits_103 (ls st : List zV) (σ : zM) : zres 70 C_X6_fits_103 ls st σ = zres 70 ((103, 2, 0, .iload 5) :: C_X6_fits_105) ls st σ := rfl
theorem U_X6_fits_105 (ls st : List zV) (σ : zM) : zres 70 C_X6_fits_105 ls st σ = zres 70 ((105, 1, 0, .ireturn) :: []) ls st σ := rfl
theorem S_X6_fits (c a0 a1 a2 : Int) (σ : zM) : zcall 70 [vR c, vI a0, vI a1, vI a2] σ = zres 70 C_X6_fits_0 [vR c, vI a0, vI a1, vI a2, vU, vU, vU] [] σ := by
  unfold zcall zloc
  rw [G_X6_fits, M_X6_fits.2.1]
  rfl
theorem J_X6_odds_0 : zjump 71 0 = C_X6_odds_0 := by decide +kernel
theorem J_X6_odds_15 : zjump 71 15 = C_X6_odds_15 := by decide +kernel
theorem J_X6_odds_19 : zjump 71 19 = C_X6_odds_19 := by decide +kernel
theorem J_X6_odds_38 : zjump 71 38 = C_X6_odds_38 := by decide +kernel
theorem J_X6_odds_92 : zjump 71 92 = C_X6_odds_92 := by decide +kernel
theorem J_X6_odds_98 : zjump 71 98 = C_X6_odds_98 := by decide +kernel
theorem U_X6_odds_0 (ls st : List zV) (σ : zM) : zres 71 C_X6_odds_0 ls st σ = zres 71 ((0, 1, 0, .aload_n 0) :: (1, 1, 0, .iload_n 1) :: (2, 3, 87, .invokevirtual 73) :: (5, 3, 15, .ifCond .eq 10) :: (8, 1, 0, .iload_n 2) :: (9, 3, 88, .invokestatic 133) :: (12, 3, 19, .ifCond .ne 7) :: C_X6_odds_15) ls st σ := rfl
theorem U_X6_odds_15 (ls st : List zV) (σ : zM) : zres 71 C_X6_odds_15 ls st σ = zres 71 ((15, 3, (-9223372036854775808), .ldc2_w 136) :: (18, 1, 0, .lreturn) :: C_X6_odds_19) ls st σ := rfl
theorem U_X6_odds_19 (ls st : List zV) (σ : zM) : zres 71 C_X6_odds_19 ls st σ = zres 71 ((19, 1, 0, .aload_n 0) :: (20, 3, 192, .getfield 12) :: (23, 3, 66, .getfield 76) :: (26, 1, 0, .aload_n 0) :: (27, 3, 197, .getfield 37) :: (30, 3, 93, .invokestatic 225) :: (33, 1, 0, .iconst 0) :: (34, 1, 0, .istore_n 3) :: (35, 1, 1, .iconst 1) :: (36, 2, 0, .istore 4) :: C_X6_odds_38) ls st σ := rfl
theorem U_X6_odds_38 (ls st : List zV) (σ : zM) : zres 71 C_X6_odds_38 ls st σ = zres 71 ((38, 2, 0, .iload 4) :: (40, 2, 10, .bipush 10) :: (42, 3, 98, .if_icmp .gt 56) :: (45, 1, 0, .aload_n 0) :: (46, 3, 197, .getfield 37) :: (49, 1, 0, .iconst 0) :: (50, 1, 0, .aaload) :: (51, 1, 0, .iload_n 1) :: (52, 2, 0, .iload 4) :: (54, 1, 0, .iastore) :: (55, 1, 0, .aload_n 0) :: (56, 3, 195, .getfield 24) :: (59, 1, 0, .aload_n 0) :: (60, 3, 197, .getfield 37) :: (63, 1, 0, .aload_n 0) :: (64, 3, 192, .getfield 12) :: (67, 3, 65, .getfield 62) :: (70, 1, 0, .iconst 0) :: (71, 1, 1, .iconst 1) :: (72, 3, 0, .invokevirtual 105) :: (75, 3, 92, .ifCond .eq 17) :: (78, 1, 0, .aload_n 0) :: (79, 3, 195, .getfield 24) :: (82, 3, 5, .getfield 113) :: (85, 1, 0, .iload_n 1) :: (86, 3, 92, .if_icmp .ne 6) :: (89, 3, 0, .iinc 3 1) :: C_X6_odds_92) ls st σ := rfl
theorem U_X6_odds_92 (ls st : List zV) (σ : zM) : zres 71 C_X6_odds_92 ls st σ = zres 71 ((92, 3, 0, .iinc 4 1) :: (95, 3, 38, .goto (-57)) :: C_X6_odds_98) ls st σ := rfl
theorem U_X6_odds_98 (ls st : List zV) (σ : zM) : zres 71 C_X6_odds_98 ls st σ = zres 71 ((98, 1, 0, .iload_n 3) :: (99, 1, 0, .i2l) :: (100, 3, 10, .ldc2_w 232) :: (103, 1, 0, .iload_n 2) :: (104, 3, 92, .invokestatic 146) :: (107, 1, 0, .lreturn) :: []) ls st σ := rfl
theorem S_X6_odds (c a0 a1 : Int) (σ : zM) : zcall 71 [vR c, vI a0, vI a1] σ = zres 71 C_X6_odds_0 [vR c, vI a0, vI a1, vU, vU] [] σ := by
  unfold zcall zloc
  rw [G_X6_odds, M_X6_odds.2.1]
  rfl
theorem J_X6_mean_0 : zjump 72 0 = C_X6_mean_0 := by decide +kernel
theorem J_X6_mean_25 : zjump 72 25 = C_X6_mean_25 := by decide +kernel
theorem J_X6_mean_29 : zjump 72 29 = C_X6_mean_29 := by decide +kernel
theorem U_X6_mean_0 (ls st : List zV) (σ : zM) : zres 72 C_X6_mean_0 ls st σ = zres 72 ((0, 1, 0, .aload_n 0) :: (1, 1, 0, .iload_n 1) :: (2, 3, 85, .invokevirtual 69) :: (5, 3, 25, .ifCond .eq 20) :: (8, 1, 0, .iload_n 2) :: (9, 3, 88, .invokestatic 133) :: (12, 3, 25, .ifCond .eq 13) :: (15, 1, 0, .aload_n 0) :: (16, 3, 192, .getfield 12) :: (19, 3, 65, .getfield 62) :: (22, 3, 29, .ifCond .ne 7) :: C_X6_mean_25) ls st σ := rfl
theorem U_X6_mean_25 (ls st : List zV) (σ : zM) : zres 72 C_X6_mean_25 ls st σ = zres 72 ((25, 3, (-9223372036854775808), .ldc2_w 136) :: (28, 1, 0, .lreturn) :: C_X6_mean_29) ls st σ := rfl
theorem U_X6_mean_29 (ls st : List zV) (σ : zM) : zres 72 C_X6_mean_29 ls st σ = zres 72 ((29, 1, 0, .aload_n 0) :: (30, 3, 192, .getfield 12) :: (33, 1, 0, .iload_n 1) :: (34, 3, 18, .invokevirtual 150) :: (37, 1, 0, .i2l) :: (38, 1, 0, .aload_n 0) :: (39, 3, 192, .getfield 12) :: (42, 3, 65, .getfield 62) :: (45, 1, 0, .i2l) :: (46, 1, 0, .iload_n 2) :: (47, 3, 92, .invokestatic 146) :: (50, 1, 0, .lreturn) :: []) ls st σ := rfl
theorem S_X6_mean (c a0 a1 : Int) (σ : zM) : zcall 72 [vR c, vI a0, vI a1] σ = zres 72 C_X6_mean_0 [vR c, vI a0, vI a1] [] σ := by
  unfold zcall zloc
  rw [G_X6_mean, M_X6_mean.2.1]
  rfl
theorem J_X6_event_0 : zjump 73 0 = C_X6_event_0 := by decide +kernel
theorem J_X6_event_16 : zjump 73 16 = C_X6_event_16 := by decide +kernel
theorem J_X6_event_38 : zjump 73 38 = C_X6_event_38 := by decide +kernel
theorem J_X6_event_40 : zjump 73 40 = C_X6_event_40 := by decide +kernel
theorem J_X6_event_50 : zjump 73 50 = C_X6_event_50 := by decide +kernel
theorem J_X6_event_53 : zjump 73 53 = C_X6_event_53 := by decide +kernel
theorem J_X6_event_71 : zjump 73 71 = C_X6_event_71 := by decide +kernel
theorem J_X6_event_83 : zjump 73 83 = C_X6_event_83 := by decide +kernel
theorem U_X6_event_0 (ls st : List zV) (σ : zM) : zres 73 C_X6_event_0 ls st σ = zres 73 ((0, 1, 0, .iload_n 1) :: (1, 1, (-1), .iconst (-1)) :: (2, 3, 16, .if_icmp .ne 14) :: (5, 1, 0, .aload_n 0) :: (6, 3, 192, .getfield 12) :: (9, 3, 73, .getfield 234) :: (12, 3, 9, .invokevirtual 214) :: (15, 1, 0, .ireturn) :: C_X6_event_16) ls st σ := rfl
theorem U_X6_event_16 (ls st : List zV) (σ : zM) : zres 73 C_X6_event_16 ls st σ = zres 73 ((16, 1, 0, .iload_n 1) :: (17, 3, 38, .ifCond .lt 21) :: (20, 1, 0, .iload_n 1) :: (21, 1, 3, .iconst 3) :: (22, 3, 38, .if_icmp .gt 16) :: (25, 1, 0, .iload_n 1) :: (26, 1, 3, .iconst 3) :: (27, 3, 40, .if_icmp .ge 13) :: (30, 1, 0, .aload_n 0) :: (31, 1, 0, .iload_n 2) :: (32, 3, 87, .invokevirtual 73) :: (35, 3, 40, .ifCond .ne 5) :: C_X6_event_38) ls st σ := rfl
theorem U_X6_event_38 (ls st : List zV) (σ : zM) : zres 73 C_X6_event_38 ls st σ = zres 73 ((38, 1, (-1), .iconst (-1)) :: (39, 1, 0, .ireturn) :: C_X6_event_40) ls st σ := rfl
theorem U_X6_event_40 (ls st : List zV) (σ : zM) : zres 73 C_X6_event_40 ls st σ = zres 73 ((40, 1, 0, .iload_n 2) :: (41, 3, 50, .ifCond .lt 9) :: (44, 1, 0, .iload_n 2) :: (45, 2, 99, .bipush 99) :: (47, 3, 53, .if_icmp .le 6) :: C_X6_event_50) ls st σ := rfl
theorem U_X6_event_50 (ls st : List zV) (σ : zM) : zres 73 C_X6_event_50 ls st σ = zres 73 ((50, 2, (-2), .bipush (-2)) :: (52, 1, 0, .ireturn) :: C_X6_event_53) ls st σ := rfl
theorem U_X6_event_53 (ls st : List zV) (σ : zM) : zres 73 C_X6_event_53 ls st σ = zres 73 ((53, 1, 0, .aload_n 0) :: (54, 3, 192, .getfield 12) :: (57, 3, 73, .getfield 234) :: (60, 3, 7, .invokevirtual 219) :: (63, 3, 71, .ifCond .eq 8) :: (66, 2, (-4), .bipush (-4)) :: (68, 3, 83, .goto 15) :: C_X6_event_71) ls st σ := rfl
theorem U_X6_event_71 (ls st : List zV) (σ : zM) : zres 73 C_X6_event_71 ls st σ = zres 73 ((71, 1, 0, .aload_n 0) :: (72, 3, 192, .getfield 12) :: (75, 3, 73, .getfield 234) :: (78, 1, 0, .iload_n 1) :: (79, 1, 0, .iload_n 2) :: (80, 3, 8, .invokevirtual 223) :: C_X6_event_83) ls st σ := rfl
theorem U_X6_event_83 (ls st : List zV) (σ : zM) : zres 73 C_X6_event_83 ls st σ = zres 73 ((83, 1, 0, .ireturn) :: []) ls st σ := rfl
theorem S_X6_event (c a0 a1 : Int) (σ : zM) : zcall 73 [vR c, vI a0, vI a1] σ = zres 73 C_X6_event_0 [vR c, vI a0, vI a1] [] σ := by
  unfold zcall zloc
  rw [G_X6_event, M_X6_event.2.1]
  rfl
theorem J_X6_after_0 : zjump 74 0 = C_X6_after_0 := by decide +kernel
theorem J_X6_after_9 : zjump 74 9 = C_X6_after_9 := by decide +kernel
theorem J_X6_after_13 : zjump 74 13 = C_X6_after_13 := by decide +kernel
theorem J_X6_after_29 : zjump 74 29 = C_X6_after_29 := by decide +kernel
theorem J_X6_after_77 : zjump 74 77 = C_X6_after_77 := by decide +kernel
theorem J_X6_after_104 : zjump 74 104 = C_X6_after_104 := by decide +kernel
theorem J_X6_after_121 : zjump 74 121 = C_X6_after_121 := by decide +kernel
theorem U_X6_after_0 (ls st : List zV) (σ : zM) : zres 74 C_X6_after_0 ls st σ = zres 74 ((0, 1, 0, .iload_n 1) :: (1, 3, 9, .ifCond .lt 8) :: (4, 1, 0, .iload_n 1) :: (5, 1, 2, .iconst 2) :: (6, 3, 13, .if_icmp .le 7) :: C_X6_after_9) ls st σ := rfl
theorem U_X6_after_9 (ls st : List zV) (σ : zM) : zres 74 C_X6_after_9 ls st σ = zres 74 ((9, 3, (-9223372036854775808), .ldc2_w 136) :: (12, 1, 0, .lreturn) :: C_X6_after_13) ls st σ := rfl
theorem U_X6_after_13 (ls st : List zV) (σ : zM) : zres 74 C_X6_after_13 ls st σ = zres 74 ((13, 1, 0, .aload_n 0) :: (14, 3, 192, .getfield 12) :: (17, 3, 66, .getfield 76) :: (20, 1, 0, .aload_n 0) :: (21, 3, 197, .getfield 37) :: (24, 3, 93, .invokestatic 225) :: (27, 1, 0, .iconst 0) :: (28, 1, 0, .istore_n 2) :: C_X6_after_29) ls st σ := rfl
theorem U_X6_after_29 (ls st : List zV) (σ : zM) : zres 74 C_X6_after_29 ls st σ = zres 74 ((29, 1, 0, .iload_n 2) :: (30, 1, 0, .aload_n 0) :: (31, 3, 192, .getfield 12) :: (34, 3, 73, .getfield 234) :: (37, 3, 34, .getfield 237) :: (40, 3, 77, .if_icmp .ge 37) :: (43, 1, 0, .aload_n 0) :: (44, 1, 0, .aload_n 0) :: (45, 3, 192, .getfield 12) :: (48, 3, 73, .getfield 234) :: (51, 3, 32, .getfield 238) :: (54, 1, 0, .iload_n 2) :: (55, 1, 0, .iaload) :: (56, 1, 0, .aload_n 0) :: (57, 3, 192, .getfield 12) :: (60, 3, 73, .getfield 234) :: (63, 3, 33, .getfield 241) :: (66, 1, 0, .iload_n 2) :: (67, 1, 0, .iaload) :: (68, 3, 104, .invokevirtual 244) :: (71, 3, 0, .iinc 2 1) :: (74, 3, 29, .goto (-45)) :: C_X6_after_77) ls st σ := rfl
theorem U_X6_after_77 (ls st : List zV) (σ : zM) : zres 74 C_X6_after_77 ls st σ = zres 74 ((77, 1, 0, .aload_n 0) :: (78, 3, 195, .getfield 24) :: (81, 1, 0, .aload_n 0) :: (82, 3, 197, .getfield 37) :: (85, 1, 0, .aload_n 0) :: (86, 3, 192, .getfield 12) :: (89, 3, 65, .getfield 62) :: (92, 1, 0, .iconst 0) :: (93, 1, 1, .iconst 1) :: (94, 3, 0, .invokevirtual 105) :: (97, 3, 104, .ifCond .ne 7) :: (100, 3, (-9223372036854775808), .ldc2_w 136) :: (103, 1, 0, .lreturn) :: C_X6_after_104) ls st σ := rfl
theorem U_X6_after_104 (ls st : List zV) (σ : zM) : zres 74 C_X6_after_104 ls st σ = zres 74 ((104, 1, 0, .iload_n 1) :: (105, 1, 2, .iconst 2) :: (106, 3, 121, .if_icmp .ne 15) :: (109, 1, 0, .aload_n 0) :: (110, 3, 195, .getfield 24) :: (113, 3, 5, .getfield 113) :: (116, 3, 90, .invokestatic 87) :: (119, 1, 0, .i2l) :: (120, 1, 0, .lreturn) :: C_X6_after_121) ls st σ := rfl
theorem U_X6_after_121 (ls st : List zV) (σ : zM) : zres 74 C_X6_after_121 ls st σ = zres 74 ((121, 1, 0, .aload_n 0) :: (122, 3, 195, .getfield 24) :: (125, 3, 8, .getfield 187) :: (128, 1, 0, .aload_n 0) :: (129, 3, 195, .getfield 24) :: (132, 3, 9, .getfield 190) :: (135, 1, 0, .iload_n 1) :: (136, 3, 92, .invokestatic 146) :: (139, 1, 0, .lreturn) :: []) ls st σ := rfl
theorem S_X6_after (c a0 : Int) (σ : zM) : zcall 74 [vR c, vI a0] σ = zres 74 C_X6_after_0 [vR c, vI a0, vU] [] σ := by
  unfold zcall zloc
  rw [G_X6_after, M_X6_after.2.1]
  rfl
theorem J_X6_book_0 : zjump 75 0 = C_X6_book_0 := by decide +kernel
theorem J_X6_book_16 : zjump 75 16 = C_X6_book_16 := by decide +kernel
theorem J_X6_book_32 : zjump 75 32 = C_X6_book_32 := by decide +kernel
theorem J_X6_book_34 : zjump 75 34 = C_X6_book_34 := by decide +kernel
theorem J_X6_book_52 : zjump 75 52 = C_X6_book_52 := by decide +kernel
theorem J_X6_book_64 : zjump 75 64 = C_X6_book_64 := by decide +kernel
theorem U_X6_book_0 (ls st : List zV) (σ : zM) : zres 75 C_X6_book_0 ls st σ = zres 75 ((0, 1, 0, .iload_n 1) :: (1, 1, (-1), .iconst (-1)) :: (2, 3, 16, .if_icmp .ne 14) :: (5, 1, 0, .aload_n 0) :: (6, 3, 192, .getfield 12) :: (9, 3, 74, .getfield 247) :: (12, 3, 9, .invokevirtual 214) :: (15, 1, 0, .ireturn) :: C_X6_book_16) ls st σ := rfl
theorem U_X6_book_16 (ls st : List zV) (σ : zM) : zres 75 C_X6_book_16 ls st σ = zres 75 ((16, 1, 0, .aload_n 0) :: (17, 1, 0, .iload_n 1) :: (18, 3, 87, .invokevirtual 73) :: (21, 3, 32, .ifCond .eq 11) :: (24, 1, 0, .aload_n 0) :: (25, 1, 0, .iload_n 2) :: (26, 3, 85, .invokevirtual 69) :: (29, 3, 34, .ifCond .ne 5) :: C_X6_book_32) ls st σ := rfl
theorem U_X6_book_32 (ls st : List zV) (σ : zM) : zres 75 C_X6_book_32 ls st σ = zres 75 ((32, 1, (-1), .iconst (-1)) :: (33, 1, 0, .ireturn) :: C_X6_book_34) ls st σ := rfl
theorem U_X6_book_34 (ls st : List zV) (σ : zM) : zres 75 C_X6_book_34 ls st σ = zres 75 ((34, 1, 0, .aload_n 0) :: (35, 3, 192, .getfield 12) :: (38, 3, 74, .getfield 247) :: (41, 3, 7, .invokevirtual 219) :: (44, 3, 52, .ifCond .eq 8) :: (47, 2, (-4), .bipush (-4)) :: (49, 3, 64, .goto 15) :: C_X6_book_52) ls st σ := rfl
theorem U_X6_book_52 (ls st : List zV) (σ : zM) : zres 75 C_X6_book_52 ls st σ = zres 75 ((52, 1, 0, .aload_n 0) :: (53, 3, 192, .getfield 12) :: (56, 3, 74, .getfield 247) :: (59, 1, 0, .iload_n 1) :: (60, 1, 0, .iload_n 2) :: (61, 3, 8, .invokevirtual 223) :: C_X6_book_64) ls st σ := rfl
theorem U_X6_book_64 (ls st : List zV) (σ : zM) : zres 75 C_X6_book_64 ls st σ = zres 75 ((64, 1, 0, .ireturn) :: []) ls st σ := rfl
theorem S_X6_book (c a0 a1 : Int) (σ : zM) : zcall 75 [vR c, vI a0, vI a1] σ = zres 75 C_X6_book_0 [vR c, vI a0, vI a1] [] σ := by
  unfold zcall zloc
  rw [G_X6_book, M_X6_book.2.1]
  rfl
theorem J_X6_looked_0 : zjump 76 0 = C_X6_looked_0 := by decide +kernel
theorem J_X6_looked_2 : zjump 76 2 = C_X6_looked_2 := by decide +kernel
theorem J_X6_looked_54 : zjump 76 54 = C_X6_looked_54 := by decide +kernel
theorem J_X6_looked_60 : zjump 76 60 = C_X6_looked_60 := by decide +kernel
theorem U_X6_looked_0 (ls st : List zV) (σ : zM) : zres 76 C_X6_looked_0 ls st σ = zres 76 ((0, 1, 0, .iconst 0) :: (1, 1, 0, .istore_n 1) :: C_X6_looked_2) ls st σ := rfl
theorem U_X6_looked_2 (ls st : List zV) (σ : zM) : zres 76 C_X6_looked_2 ls st σ = zres 76 ((2, 1, 0, .iload_n 1) :: (3, 1, 0, .aload_n 0) :: (4, 3, 192, .getfield 12) :: (7, 3, 74, .getfield 247) :: (10, 3, 34, .getfield 237) :: (13, 3, 60, .if_icmp .ge 47) :: (16, 1, 0, .aload_n 0) :: (17, 3, 192, .getfield 12) :: (20, 1, 0, .aload_n 0) :: (21, 3, 192, .getfield 12) :: (24, 3, 74, .getfield 247) :: (27, 3, 33, .getfield 241) :: (30, 1, 0, .iload_n 1) :: (31, 1, 0, .iaload) :: (32, 1, 0, .aload_n 0) :: (33, 3, 192, .getfield 12) :: (36, 3, 74, .getfield 247) :: (39, 3, 32, .getfield 238) :: (42, 1, 0, .iload_n 1) :: (43, 1, 0, .iaload) :: (44, 3, 17, .invokevirtual 138) :: (47, 1, 0, .lconst 0) :: (48, 1, 0, .lcmp) :: (49, 3, 54, .ifCond .ne 5) :: (52, 1, 0, .iload_n 1) :: (53, 1, 0, .ireturn) :: C_X6_looked_54) ls st σ := rfl
theorem U_X6_looked_54 (ls st : List zV) (σ : zM) : zres 76 C_X6_looked_54 ls st σ = zres 76 ((54, 3, 0, .iinc 1 1) :: (57, 3, 2, .goto (-55)) :: C_X6_looked_60) ls st σ := rfl
theorem U_X6_looked_60 (ls st : List zV) (σ : zM) : zres 76 C_X6_looked_60 ls st σ = zres 76 ((60, 2, (-5), .bipush (-5)) :: (62, 1, 0, .ireturn) :: []) ls st σ := rfl
theorem S_X6_looked (c : Int) (σ : zM) : zcall 76 [vR c] σ = zres 76 C_X6_looked_0 [vR c, vU] [] σ := by
  unfold zcall zloc
  rw [G_X6_looked, M_X6_looked.2.1]
  rfl
theorem J_X6_judge_0 : zjump 77 0 = C_X6_judge_0 := by decide +kernel
theorem J_X6_judge_9 : zjump 77 9 = C_X6_judge_9 := by decide +kernel
theorem J_X6_judge_34 : zjump 77 34 = C_X6_judge_34 := by decide +kernel
theorem J_X6_judge_37 : zjump 77 37 = C_X6_judge_37 := by decide +kernel
theorem J_X6_judge_64 : zjump 77 64 = C_X6_judge_64 := by decide +kernel
theorem J_X6_judge_70 : zjump 77 70 = C_X6_judge_70 := by decide +kernel
theorem J_X6_judge_97 : zjump 77 97 = C_X6_judge_97 := by decide +kernel
theorem J_X6_judge_103 : zjump 77 103 = C_X6_judge_103 := by decide +kernel
theorem U_X6_judge_0 (ls st : List zV) (σ : zM) : zres 77 C_X6_judge_0 ls st σ = zres 77 ((0, 1, 0, .iload_n 1) :: (1, 3, 89, .invokestatic 250) :: (4, 3, 9, .ifCond .ne 5) :: (7, 1, (-1), .iconst (-1)) :: (8, 1, 0, .ireturn) :: C_X6_judge_9) ls st σ := rfl
theorem U_X6_judge_9 (ls st : List zV) (σ : zM) : zres 77 C_X6_judge_9 ls st σ = zres 77 ((9, 1, 0, .aload_n 0) :: (10, 3, 199, .getfield 49) :: (13, 1, 0, .iload_n 1) :: (14, 1, 0, .aaload) :: (15, 1, 0, .astore_n 3) :: (16, 1, 0, .aload_n 3) :: (17, 3, 24, .invokevirtual 253) :: (20, 3, 34, .ifCond .ne 14) :: (23, 1, 0, .aload_n 3) :: (24, 3, 96, .getfield 256) :: (27, 1, 3, .iconst 3) :: (28, 3, 34, .if_icmp .eq 6) :: (31, 2, (-12), .bipush (-12)) :: (33, 1, 0, .ireturn) :: C_X6_judge_34) ls st σ := rfl
theorem U_X6_judge_34 (ls st : List zV) (σ : zM) : zres 77 C_X6_judge_34 ls st σ = zres 77 ((34, 1, 0, .iconst 0) :: (35, 2, 0, .istore 4) :: C_X6_judge_37) ls st σ := rfl
theorem U_X6_judge_37 (ls st : List zV) (σ : zM) : zres 77 C_X6_judge_37 ls st σ = zres 77 ((37, 2, 0, .iload 4) :: (39, 1, 0, .aload_n 0) :: (40, 3, 192, .getfield 12) :: (43, 3, 65, .getfield 62) :: (46, 3, 103, .if_icmp .ge 57) :: (49, 1, 0, .iload_n 2) :: (50, 3, 64, .ifCond .lt 14) :: (53, 1, 0, .iload_n 2) :: (54, 1, 0, .aload_n 3) :: (55, 3, 97, .getfield 259) :: (58, 2, 0, .iload 4) :: (60, 1, 0, .isub) :: (61, 3, 70, .if_icmp .lt 9) :: C_X6_judge_64) ls st σ := rfl
theorem U_X6_judge_64 (ls st : List zV) (σ : zM) : zres 77 C_X6_judge_64 ls st σ = zres 77 ((64, 2, 100, .bipush 100) :: (66, 2, 0, .iload 4) :: (68, 1, 0, .iadd) :: (69, 1, 0, .ireturn) :: C_X6_judge_70) ls st σ := rfl
theorem U_X6_judge_70 (ls st : List zV) (σ : zM) : zres 77 C_X6_judge_70 ls st σ = zres 77 ((70, 1, 0, .aload_n 3) :: (71, 3, 98, .getfield 262) :: (74, 1, 0, .iload_n 2) :: (75, 2, 0, .iload 4) :: (77, 1, 0, .iadd) :: (78, 1, 0, .laload) :: (79, 1, 0, .aload_n 0) :: (80, 3, 192, .getfield 12) :: (83, 3, 67, .getfield 79) :: (86, 2, 0, .iload 4) :: (88, 1, 0, .iaload) :: (89, 1, 0, .i2l) :: (90, 1, 0, .lcmp) :: (91, 3, 97, .ifCond .eq 6) :: (94, 2, 0, .iload 4) :: (96, 1, 0, .ireturn) :: C_X6_judge_97) ls st σ := rfl
theorem U_X6_judge_97 (ls st : List zV) (σ : zM) : zres 77 C_X6_judge_97 ls st σ = zres 77 ((97, 3, 0, .iinc 4 1) :: (100, 3, 37, .goto (-63)) :: C_X6_judge_103) ls st σ := rfl
theorem U_X6_judge_103 (ls st : List zV) (σ : zM) : zres 77 C_X6_judge_103 ls st σ = zres 77 ((103, 2, (-5), .bipush (-5)) :: (105, 1, 0, .ireturn) :: []) ls st σ := rfl
theorem S_X6_judge (c a0 a1 : Int) (σ : zM) : zcall 77 [vR c, vI a0, vI a1] σ = zres 77 C_X6_judge_0 [vR c, vI a0, vI a1, vU, vU] [] σ := by
  unfold zcall zloc
  rw [G_X6_judge, M_X6_judge.2.1]
  rfl
theorem J_X6_image_0 : zjump 78 0 = C_X6_image_0 := by decide +kernel
theorem U_X6_image_0 (ls st : List zV) (σ : zM) : zres 78 C_X6_image_0 ls st σ = zres 78 ((0, 1, 0, .aload_n 0) :: (1, 3, 193, .getfield 18) :: (4, 1, 0, .aload_n 0) :: (5, 3, 192, .getfield 12) :: (8, 3, 23, .invokevirtual 266) :: (11, 1, 0, .aload_n 0) :: (12, 1, 1, .iconst 1) :: (13, 3, 194, .putfield 270) :: (16, 1, 0, .aload_n 0) :: (17, 3, 192, .getfield 12) :: (20, 3, 65, .getfield 62) :: (23, 1, 0, .ireturn) :: []) ls st σ := rfl
theorem S_X6_image (c : Int) (σ : zM) : zcall 78 [vR c] σ = zres 78 C_X6_image_0 [vR c] [] σ := by
  unfold zcall zloc
  rw [G_X6_image, M_X6_image.2.1]
  rfl
theorem J_X6_undo_0 : zjump 79 0 = C_X6_undo_0 := by decide +kernel
theorem J_X6_undo_10 : zjump 79 10 = C_X6_undo_10 := by decide +kernel
theorem U_X6_undo_0 (ls st : List zV) (σ : zM) : zres 79 C_X6_undo_0 ls st σ = zres 79 ((0, 1, 0, .aload_n 0) :: (1, 3, 194, .getfield 270) :: (4, 3, 10, .ifCond .ne 6) :: (7, 2, (-3), .bipush (-3)) :: (9, 1, 0, .ireturn) :: C_X6_undo_10) ls st σ := rfl
theorem U_X6_undo_10 (ls st : List zV) (σ : zM) : zres 79 C_X6_undo_10 ls st σ = zres 79 ((10, 1, 0, .aload_n 0) :: (11, 3, 192, .getfield 12) :: (14, 1, 0, .aload_n 0) :: (15, 3, 193, .getfield 18) :: (18, 3, 23, .invokevirtual 266) :: (21, 1, 0, .aload_n 0) :: (22, 3, 192, .getfield 12) :: (25, 3, 65, .getfield 62) :: (28, 1, 0, .ireturn) :: []) ls st σ := rfl
theorem S_X6_undo (c : Int) (σ : zM) : zcall 79 [vR c] σ = zres 79 C_X6_undo_0 [vR c] [] σ := by
  unfold zcall zloc
  rw [G_X6_undo, M_X6_undo.2.1]
  rfl
theorem J_X6_count_0 : zjump 80 0 = C_X6_count_0 := by decide +kernel
theorem J_X6_count_32 : zjump 80 32 = C_X6_count_32 := by decide +kernel
theorem J_X6_count_43 : zjump 80 43 = C_X6_count_43 := by decide +kernel
theorem J_X6_count_54 : zjump 80 54 = C_X6_count_54 := by decide +kernel
theorem J_X6_count_65 : zjump 80 65 = C_X6_count_65 := by decide +kernel
theorem J_X6_count_73 : zjump 80 73 = C_X6_count_73 := by decide +kernel
theorem U_X6_count_0 (ls st : List zV) (σ : zM) : zres 80 C_X6_count_0 ls st σ = zres 80 ((0, 1, 0, .iload_n 1) :: (1, 31, 0, .tableswitch 72 0 3 #[31, 42, 53, 64]) :: C_X6_count_32) ls st σ := rfl
theorem U_X6_count_32 (ls st : List zV) (σ : zM) : zres 80 C_X6_count_32 ls st σ = zres 80 ((32, 1, 0, .aload_n 0) :: (33, 3, 192, .getfield 12) :: (36, 3, 72, .getfield 210) :: (39, 3, 34, .getfield 237) :: (42, 1, 0, .ireturn) :: C_X6_count_43) ls st σ := rfl
theorem U_X6_count_43 (ls st : List zV) (σ : zM) : zres 80 C_X6_count_43 ls st σ = zres 80 ((43, 1, 0, .aload_n 0) :: (44, 3, 192, .getfield 12) :: (47, 3, 73, .getfield 234) :: (50, 3, 34, .getfield 237) :: (53, 1, 0, .ireturn) :: C_X6_count_54) ls st σ := rfl
theorem U_X6_count_54 (ls st : List zV) (σ : zM) : zres 80 C_X6_count_54 ls st σ = zres 80 ((54, 1, 0, .aload_n 0) :: (55, 3, 192, .getfield 12) :: (58, 3, 74, .getfield 247) :: (61, 3, 34, .getfield 237) :: (64, 1, 0, .ireturn) :: C_X6_count_65) ls st σ := rfl
theorem U_X6_count_65 (ls st : List zV) (σ : zM) : zres 80 C_X6_count_65 ls st σ = zres 80 ((65, 1, 0, .aload_n 0) :: (66, 3, 198, .getfield 43) :: (69, 3, 129, .getfield 114) :: (72, 1, 0, .ireturn) :: C_X6_count_73) ls st σ := rfl
theorem U_X6_count_73 (ls st : List zV) (σ : zM) : zres 80 C_X6_count_73 ls st σ = zres 80 ((73, 2, (-2), .bipush (-2)) :: (75, 1, 0, .ireturn) :: []) ls st σ := rfl
theorem S_X6_count (c a0 : Int) (σ : zM) : zcall 80 [vR c, vI a0] σ = zres 80 C_X6_count_0 [vR c, vI a0] [] σ := by
  unfold zcall zloc
  rw [G_X6_count, M_X6_count.2.1]
  rfl
theorem J_X6_tape_0 : zjump 81 0 = C_X6_tape_0 := by decide +kernel
theorem J_X6_tape_9 : zjump 81 9 = C_X6_tape_9 := by decide +kernel
theorem J_X6_tape_29 : zjump 81 29 = C_X6_tape_29 := by decide +kernel
theorem J_X6_tape_32 : zjump 81 32 = C_X6_tape_32 := by decide +kernel
theorem J_X6_tape_43 : zjump 81 43 = C_X6_tape_43 := by decide +kernel
theorem J_X6_tape_58 : zjump 81 58 = C_X6_tape_58 := by decide +kernel
theorem J_X6_tape_59 : zjump 81 59 = C_X6_tape_59 := by decide +kernel
theorem U_X6_tape_0 (ls st : List zV) (σ : zM) : zres 81 C_X6_tape_0 ls st σ = zres 81 ((0, 1, 0, .iload_n 1) :: (1, 3, 89, .invokestatic 250) :: (4, 3, 9, .ifCond .ne 5) :: (7, 1, (-1), .iconst (-1)) :: (8, 1, 0, .ireturn) :: C_X6_tape_9) ls st σ := rfl
theorem U_X6_tape_9 (ls st : List zV) (σ : zM) : zres 81 C_X6_tape_9 ls st σ = zres 81 ((9, 1, 0, .iload_n 2) :: (10, 1, (-1), .iconst (-1)) :: (11, 3, 29, .if_icmp .lt 18) :: (14, 1, 0, .iload_n 2) :: (15, 1, 4, .iconst 4) :: (16, 3, 29, .if_icmp .gt 13) :: (19, 1, 0, .iload_n 2) :: (20, 3, 32, .ifCond .lt 12) :: (23, 1, 0, .iload_n 3) :: (24, 2, 60, .bipush 60) :: (26, 3, 32, .if_icmp .le 6) :: C_X6_tape_29) ls st σ := rfl
theorem U_X6_tape_29 (ls st : List zV) (σ : zM) : zres 81 C_X6_tape_29 ls st σ = zres 81 ((29, 2, (-2), .bipush (-2)) :: (31, 1, 0, .ireturn) :: C_X6_tape_32) ls st σ := rfl
theorem U_X6_tape_32 (ls st : List zV) (σ : zM) : zres 81 C_X6_tape_32 ls st σ = zres 81 ((32, 1, 0, .iload_n 2) :: (33, 3, 43, .ifCond .lt 10) :: (36, 1, 0, .iload_n 3) :: (37, 3, 43, .ifCond .ge 6) :: (40, 2, (-14), .bipush (-14)) :: (42, 1, 0, .ireturn) :: C_X6_tape_43) ls st σ := rfl
theorem U_X6_tape_43 (ls st : List zV) (σ : zM) : zres 81 C_X6_tape_43 ls st σ = zres 81 ((43, 1, 0, .aload_n 0) :: (44, 3, 199, .getfield 49) :: (47, 1, 0, .iload_n 1) :: (48, 1, 0, .aaload) :: (49, 1, 0, .iload_n 2) :: (50, 1, 0, .iload_n 2) :: (51, 3, 58, .ifCond .ge 7) :: (54, 1, 0, .iconst 0) :: (55, 3, 59, .goto 4) :: C_X6_tape_58) ls st σ := rfl
theorem U_X6_tape_58 (ls st : List zV) (σ : zM) : zres 81 C_X6_tape_58 ls st σ = zres 81 ((58, 1, 0, .iload_n 3) :: C_X6_tape_59) ls st σ := rfl
theorem U_X6_tape_59 (ls st : List zV) (σ : zM) : zres 81 C_X6_tape_59 ls st σ = zres 81 ((59, 3, 25, .invokevirtual 274) :: (62, 1, 1, .iconst 1) :: (63, 1, 0, .ireturn) :: []) ls st σ := rfl
theorem S_X6_tape (c a0 a1 a2 : Int) (σ : zM) : zcall 81 [vR c, vI a0, vI a1, vI a2] σ = zres 81 C_X6_tape_0 [vR c, vI a0, vI a1, vI a2] [] σ := by
  unfold zcall zloc
  rw [G_X6_tape, M_X6_tape.2.1]
  rfl
theorem J_X6_item_0 : zjump 82 0 = C_X6_item_0 := by decide +kernel
theorem J_X6_item_9 : zjump 82 9 = C_X6_item_9 := by decide +kernel
theorem J_X6_item_28 : zjump 82 28 = C_X6_item_28 := by decide +kernel
theorem J_X6_item_41 : zjump 82 41 = C_X6_item_41 := by decide +kernel
theorem J_X6_item_44 : zjump 82 44 = C_X6_item_44 := by decide +kernel
theorem U_X6_item_0 (ls st : List zV) (σ : zM) : zres 82 C_X6_item_0 ls st σ = zres 82 ((0, 1, 0, .iload_n 1) :: (1, 3, 89, .invokestatic 250) :: (4, 3, 9, .ifCond .ne 5) :: (7, 1, (-1), .iconst (-1)) :: (8, 1, 0, .ireturn) :: C_X6_item_9) ls st σ := rfl
theorem U_X6_item_9 (ls st : List zV) (σ : zM) : zres 82 C_X6_item_9 ls st σ = zres 82 ((9, 1, 0, .aload_n 0) :: (10, 3, 199, .getfield 49) :: (13, 1, 0, .iload_n 1) :: (14, 1, 0, .aaload) :: (15, 2, 0, .astore 5) :: (17, 2, 0, .aload 5) :: (19, 3, 24, .invokevirtual 253) :: (22, 3, 28, .ifCond .eq 6) :: (25, 2, (-11), .bipush (-11)) :: (27, 1, 0, .ireturn) :: C_X6_item_28) ls st σ := rfl
theorem U_X6_item_28 (ls st : List zV) (σ : zM) : zres 82 C_X6_item_28 ls st σ = zres 82 ((28, 1, 0, .iload_n 2) :: (29, 3, 41, .ifCond .lt 12) :: (32, 1, 0, .iload_n 2) :: (33, 2, 0, .aload 5) :: (35, 3, 97, .getfield 259) :: (38, 3, 44, .if_icmp .lt 6) :: C_X6_item_41) ls st σ := rfl
theorem U_X6_item_41 (ls st : List zV) (σ : zM) : zres 82 C_X6_item_41 ls st σ = zres 82 ((41, 2, (-13), .bipush (-13)) :: (43, 1, 0, .ireturn) :: C_X6_item_44) ls st σ := rfl
theorem U_X6_item_44 (ls st : List zV) (σ : zM) : zres 82 C_X6_item_44 ls st σ = zres 82 ((44, 2, 0, .aload 5) :: (46, 3, 98, .getfield 262) :: (49, 1, 0, .iload_n 2) :: (50, 2, 0, .aload 5) :: (52, 1, 0, .lload_n 3) :: (53, 3, 26, .invokevirtual 277) :: (56, 1, 0, .lastore) :: (57, 1, 1, .iconst 1) :: (58, 1, 0, .ireturn) :: []) ls st σ := rfl
theorem S_X6_item (c a0 a1 a2 : Int) (σ : zM) : zcall 82 [vR c, vI a0, vI a1, vL a2] σ = zres 82 C_X6_item_0 [vR c, vI a0, vI a1, vL a2, vU, vU] [] σ := by
  unfold zcall zloc
  rw [G_X6_item, M_X6_item.2.1]
  rfl
theorem J_X6_peek_0 : zjump 83 0 = C_X6_peek_0 := by decide +kernel
theorem J_X6_peek_24 : zjump 83 24 = C_X6_peek_24 := by decide +kernel
theorem J_X6_peek_28 : zjump 83 28 = C_X6_peek_28 := by decide +kernel
theorem U_X6_peek_0 (ls st : List zV) (σ : zM) : zres 83 C_X6_peek_0 ls st σ = zres 83 ((0, 1, 0, .iload_n 1) :: (1, 3, 89, .invokestatic 250) :: (4, 3, 24, .ifCond .eq 20) :: (7, 1, 0, .iload_n 2) :: (8, 3, 24, .ifCond .lt 16) :: (11, 1, 0, .iload_n 2) :: (12, 1, 0, .aload_n 0) :: (13, 3, 199, .getfield 49) :: (16, 1, 0, .iload_n 1) :: (17, 1, 0, .aaload) :: (18, 3, 97, .getfield 259) :: (21, 3, 28, .if_icmp .lt 7) :: C_X6_peek_24) ls st σ := rfl
theorem U_X6_peek_24 (ls st : List zV) (σ : zM) : zres 83 C_X6_peek_24 ls st σ = zres 83 ((24, 3, (-9223372036854775808), .ldc2_w 136) :: (27, 1, 0, .lreturn) :: C_X6_peek_28) ls st σ := rfl
theorem U_X6_peek_28 (ls st : List zV) (σ : zM) : zres 83 C_X6_peek_28 ls st σ = zres 83 ((28, 1, 0, .aload_n 0) :: (29, 3, 199, .getfield 49) :: (32, 1, 0, .iload_n 1) :: (33, 1, 0, .aaload) :: (34, 3, 98, .getfield 262) :: (37, 1, 0, .iload_n 2) :: (38, 1, 0, .laload) :: (39, 1, 0, .lreturn) :: []) ls st σ := rfl
theorem S_X6_peek (c a0 a1 : Int) (σ : zM) : zcall 83 [vR c, vI a0, vI a1] σ = zres 83 C_X6_peek_0 [vR c, vI a0, vI a1] [] σ := by
  unfold zcall zloc
  rw [G_X6_peek, M_X6_peek.2.1]
  rfl
theorem J_X6_shift_0 : zjump 84 0 = C_X6_shift_0 := by decide +kernel
theorem J_X6_shift_14 : zjump 84 14 = C_X6_shift_14 := by decide +kernel
theorem J_X6_shift_16 : zjump 84 16 = C_X6_shift_16 := by decide +kernel
theorem J_X6_shift_48 : zjump 84 48 = C_X6_shift_48 := by decide +kernel
theorem J_X6_shift_51 : zjump 84 51 = C_X6_shift_51 := by decide +kernel
theorem J_X6_shift_67 : zjump 84 67 = C_X6_shift_67 := by decide +kernel
theorem J_X6_shift_90 : zjump 84 90 = C_X6_shift_90 := by decide +kernel
theorem J_X6_shift_93 : zjump 84 93 = C_X6_shift_93 := by decide +kernel
theorem U_X6_shift_0 (ls st : List zV) (σ : zM) : zres 84 C_X6_shift_0 ls st σ = zres 84 ((0, 1, 0, .iload_n 1) :: (1, 3, 89, .invokestatic 250) :: (4, 3, 14, .ifCond .eq 10) :: (7, 1, 0, .iload_n 3) :: (8, 3, 89, .invokestatic 250) :: (11, 3, 16, .ifCond .ne 5) :: C_X6_shift_14) ls st σ := rfl
theorem U_X6_shift_14 (ls st : List zV) (σ : zM) : zres 84 C_X6_shift_14 ls st σ = zres 84 ((14, 1, (-1), .iconst (-1)) :: (15, 1, 0, .ireturn) :: C_X6_shift_16) ls st σ := rfl
theorem U_X6_shift_16 (ls st : List zV) (σ : zM) : zres 84 C_X6_shift_16 ls st σ = zres 84 ((16, 1, 0, .aload_n 0) :: (17, 3, 199, .getfield 49) :: (20, 1, 0, .iload_n 1) :: (21, 1, 0, .aaload) :: (22, 2, 0, .astore 6) :: (24, 1, 0, .aload_n 0) :: (25, 3, 199, .getfield 49) :: (28, 1, 0, .iload_n 3) :: (29, 1, 0, .aaload) :: (30, 2, 0, .astore 7) :: (32, 2, 0, .aload 6) :: (34, 3, 24, .invokevirtual 253) :: (37, 3, 48, .ifCond .ne 11) :: (40, 2, 0, .aload 7) :: (42, 3, 24, .invokevirtual 253) :: (45, 3, 51, .ifCond .eq 6) :: C_X6_shift_48) ls st σ := rfl
theorem U_X6_shift_48 (ls st : List zV) (σ : zM) : zres 84 C_X6_shift_48 ls st σ = zres 84 ((48, 2, (-11), .bipush (-11)) :: (50, 1, 0, .ireturn) :: C_X6_shift_51) ls st σ := rfl
theorem U_X6_shift_51 (ls st : List zV) (σ : zM) : zres 84 C_X6_shift_51 ls st σ = zres 84 ((51, 2, 0, .aload 6) :: (53, 3, 96, .getfield 256) :: (56, 2, 0, .aload 7) :: (58, 3, 96, .getfield 256) :: (61, 3, 67, .if_icmp .eq 6) :: (64, 2, (-12), .bipush (-12)) :: (66, 1, 0, .ireturn) :: C_X6_shift_67) ls st σ := rfl
theorem U_X6_shift_67 (ls st : List zV) (σ : zM) : zres 84 C_X6_shift_67 ls st σ = zres 84 ((67, 2, 0, .aload 6) :: (69, 1, 0, .iload_n 2) :: (70, 2, 0, .iload 5) :: (72, 3, 27, .invokevirtual 281) :: (75, 3, 90, .ifCond .eq 15) :: (78, 2, 0, .aload 7) :: (80, 2, 0, .iload 4) :: (82, 2, 0, .iload 5) :: (84, 3, 27, .invokevirtual 281) :: (87, 3, 93, .ifCond .ne 6) :: C_X6_shift_90) ls st σ := rfl
theorem U_X6_shift_90 (ls st : List zV) (σ : zM) : zres 84 C_X6_shift_90 ls st σ = zres 84 ((90, 2, (-13), .bipush (-13)) :: (92, 1, 0, .ireturn) :: C_X6_shift_93) ls st σ := rfl
theorem U_X6_shift_93 (ls st : List zV) (σ : zM) : zres 84 C_X6_shift_93 ls st σ = zres 84 ((93, 2, 0, .aload 6) :: (95, 3, 98, .getfield 262) :: (98, 1, 0, .iload_n 2) :: (99, 2, 0, .aload 7) :: (101, 3, 98, .getfield 262) :: (104, 2, 0, .iload 4) :: (106, 2, 0, .iload 5) :: (108, 3, 9999, .invokestatic 284) :: (111, 2, 0, .iload 5) :: (113, 1, 0, .ireturn) :: []) ls st σ := rfl
theorem S_X6_shift (c a0 a1 a2 a3 a4 : Int) (σ : zM) : zcall 84 [vR c, vI a0, vI a1, vI a2, vI a3, vI a4] σ = zres 84 C_X6_shift_0 [vR c, vI a0, vI a1, vI a2, vI a3, vI a4, vU, vU] [] σ := by
  unfold zcall zloc
  rw [G_X6_shift, M_X6_shift.2.1]
  rfl
theorem J_X6_isParty_0 : zjump 85 0 = C_X6_isParty_0 := by decide +kernel
theorem J_X6_isParty_19 : zjump 85 19 = C_X6_isParty_19 := by decide +kernel
theorem J_X6_isParty_20 : zjump 85 20 = C_X6_isParty_20 := by decide +kernel
theorem U_X6_isParty_0 (ls st : List zV) (σ : zM) : zres 85 C_X6_isParty_0 ls st σ = zres 85 ((0, 1, 0, .iload_n 1) :: (1, 3, 19, .ifCond .lt 18) :: (4, 1, 0, .iload_n 1) :: (5, 1, 0, .aload_n 0) :: (6, 3, 192, .getfield 12) :: (9, 3, 64, .getfield 54) :: (12, 3, 19, .if_icmp .ge 7) :: (15, 1, 1, .iconst 1) :: (16, 3, 20, .goto 4) :: C_X6_isParty_19) ls st σ := rfl
theorem U_X6_isParty_19 (ls st : List zV) (σ : zM) : zres 85 C_X6_isParty_19 ls st σ = zres 85 ((19, 1, 0, .iconst 0) :: C_X6_isParty_20) ls st σ := rfl
theorem U_X6_isParty_20 (ls st : List zV) (σ : zM) : zres 85 C_X6_isParty_20 ls st σ = zres 85 ((20, 1, 1, .ireturn) :: []) ls st σ := rfl
theorem S_X6_isParty (c a0 : Int) (σ : zM) : zcall 85 [vR c, vI a0] σ = zres 85 C_X6_isParty_0 [vR c, vI a0] [] σ := by
  unfold zcall zloc
  rw [G_X6_isParty, M_X6_isParty.2.1]
  rfl
theorem J_X6_areTwo_0 : zjump 86 0 = C_X6_areTwo_0 := by decide +kernel
theorem J_X6_areTwo_25 : zjump 86 25 = C_X6_areTwo_25 := by decide +kernel
theorem J_X6_areTwo_26 : zjump 86 26 = C_X6_areTwo_26 := by decide +kernel
theorem U_X6_areTwo_0 (ls st : List zV) (σ : zM) : zres 86 C_X6_areTwo_0 ls st σ = zres 86 ((0, 1, 0, .aload_n 0) :: (1, 1, 0, .iload_n 1) :: (2, 3, 85, .invokevirtual 69) :: (5, 3, 25, .ifCond .eq 20) :: (8, 1, 0, .aload_n 0) :: (9, 1, 0, .iload_n 2) :: (10, 3, 85, .invokevirtual 69) :: (13, 3, 25, .ifCond .eq 12) :: (16, 1, 0, .iload_n 1) :: (17, 1, 0, .iload_n 2) :: (18, 3, 25, .if_icmp .eq 7) :: (21, 1, 1, .iconst 1) :: (22, 3, 26, .goto 4) :: C_X6_areTwo_25) ls st σ := rfl
theorem U_X6_areTwo_25 (ls st : List zV) (σ : zM) : zres 86 C_X6_areTwo_25 ls st σ = zres 86 ((25, 1, 0, .iconst 0) :: C_X6_areTwo_26) ls st σ := rfl
theorem U_X6_areTwo_26 (ls st : List zV) (σ : zM) : zres 86 C_X6_areTwo_26 ls st σ = zres 86 ((26, 1, 1, .ireturn) :: []) ls st σ := rfl
theorem S_X6_areTwo (c a0 a1 : Int) (σ : zM) : zcall 86 [vR c, vI a0, vI a1] σ = zres 86 C_X6_areTwo_0 [vR c, vI a0, vI a1] [] σ := by
  unfold zcall zloc
  rw [G_X6_areTwo, M_X6_areTwo.2.1]
  rfl
theorem J_X6_isThing_0 : zjump 87 0 = C_X6_isThing_0 := by decide +kernel
theorem J_X6_isThing_19 : zjump 87 19 = C_X6_isThing_19 := by decide +kernel
theorem J_X6_isThing_20 : zjump 87 20 = C_X6_isThing_20 := by decide +kernel
theorem U_X6_isThing_0 (ls st : List zV) (σ : zM) : zres 87 C_X6_isThing_0 ls st σ = zres 87 ((0, 1, 0, .iload_n 1) :: (1, 3, 19, .ifCond .lt 18) :: (4, 1, 0, .iload_n 1) :: (5, 1, 0, .aload_n 0) :: (6, 3, 192, .getfield 12) :: (9, 3, 65, .getfield 62) :: (12, 3, 19, .if_icmp .ge 7) :: (15, 1, 1, .iconst 1) :: (16, 3, 20, .goto 4) :: C_X6_isThing_19) ls st σ := rfl
theorem U_X6_isThing_19 (ls st : List zV) (σ : zM) : zres 87 C_X6_isThing_19 ls st σ = zres 87 ((19, 1, 0, .iconst 0) :: C_X6_isThing_20) ls st σ := rfl
theorem U_X6_isThing_20 (ls st : List zV) (σ : zM) : zres 87 C_X6_isThing_20 ls st σ = zres 87 ((20, 1, 1, .ireturn) :: []) ls st σ := rfl
theorem S_X6_isThing (c a0 : Int) (σ : zM) : zcall 87 [vR c, vI a0] σ = zres 87 C_X6_isThing_0 [vR c, vI a0] [] σ := by
  unfold zcall zloc
  rw [G_X6_isThing, M_X6_isThing.2.1]
  rfl
theorem J_X6_isPart_0 : zjump 88 0 = C_X6_isPart_0 := by decide +kernel
theorem J_X6_isPart_9 : zjump 88 9 = C_X6_isPart_9 := by decide +kernel
theorem J_X6_isPart_13 : zjump 88 13 = C_X6_isPart_13 := by decide +kernel
theorem J_X6_isPart_14 : zjump 88 14 = C_X6_isPart_14 := by decide +kernel
theorem U_X6_isPart_0 (ls st : List zV) (σ : zM) : zres 88 C_X6_isPart_0 ls st σ = zres 88 ((0, 1, 0, .iload_n 0) :: (1, 3, 9, .ifCond .eq 8) :: (4, 1, 0, .iload_n 0) :: (5, 1, 1, .iconst 1) :: (6, 3, 13, .if_icmp .ne 7) :: C_X6_isPart_9) ls st σ := rfl
theorem U_X6_isPart_9 (ls st : List zV) (σ : zM) : zres 88 C_X6_isPart_9 ls st σ = zres 88 ((9, 1, 1, .iconst 1) :: (10, 3, 14, .goto 4) :: C_X6_isPart_13) ls st σ := rfl
theorem U_X6_isPart_13 (ls st : List zV) (σ : zM) : zres 88 C_X6_isPart_13 ls st σ = zres 88 ((13, 1, 0, .iconst 0) :: C_X6_isPart_14) ls st σ := rfl
theorem U_X6_isPart_14 (ls st : List zV) (σ : zM) : zres 88 C_X6_isPart_14 ls st σ = zres 88 ((14, 1, 1, .ireturn) :: []) ls st σ := rfl
theorem S_X6_isPart (a0 : Int) (σ : zM) : zcall 88 [vI a0] σ = zres 88 C_X6_isPart_0 [vI a0] [] σ := by
  unfold zcall zloc
  rw [G_X6_isPart, M_X6_isPart.2.1]
  rfl
theorem J_X6_isTape_0 : zjump 89 0 = C_X6_isTape_0 := by decide +kernel
theorem J_X6_isTape_14 : zjump 89 14 = C_X6_isTape_14 := by decide +kernel
theorem J_X6_isTape_15 : zjump 89 15 = C_X6_isTape_15 := by decide +kernel
theorem U_X6_isTape_0 (ls st : List zV) (σ : zM) : zres 89 C_X6_isTape_0 ls st σ = zres 89 ((0, 1, 0, .iload_n 0) :: (1, 3, 14, .ifCond .lt 13) :: (4, 1, 0, .iload_n 0) :: (5, 2, 6, .bipush 6) :: (7, 3, 14, .if_icmp .ge 7) :: (10, 1, 1, .iconst 1) :: (11, 3, 15, .goto 4) :: C_X6_isTape_14) ls st σ := rfl
theorem U_X6_isTape_14 (ls st : List zV) (σ : zM) : zres 89 C_X6_isTape_14 ls st σ = zres 89 ((14, 1, 0, .iconst 0) :: C_X6_isTape_15) ls st σ := rfl
theorem U_X6_isTape_15 (ls st : List zV) (σ : zM) : zres 89 C_X6_isTape_15 ls st σ = zres 89 ((15, 1, 1, .ireturn) :: []) ls st σ := rfl
theorem S_X6_isTape (a0 : Int) (σ : zM) : zcall 89 [vI a0] σ = zres 89 C_X6_isTape_0 [vI a0] [] σ := by
  unfold zcall zloc
  rw [G_X6_isTape, M_X6_isTape.2.1]
  rfl
theorem J_X6_orNoSuch_0 : zjump 90 0 = C_X6_orNoSuch_0 := by decide +kernel
theorem J_X6_orNoSuch_9 : zjump 90 9 = C_X6_orNoSuch_9 := by decide +kernel
theorem J_X6_orNoSuch_10 : zjump 90 10 = C_X6_orNoSuch_10 := by decide +kernel
theorem U_X6_orNoSuch_0 (ls st : List zV) (σ : zM) : zres 90 C_X6_orNoSuch_0 ls st σ = zres 90 ((0, 1, 0, .iload_n 0) :: (1, 3, 9, .ifCond .ge 8) :: (4, 2, (-5), .bipush (-5)) :: (6, 3, 10, .goto 4) :: C_X6_orNoSuch_9) ls st σ := rfl
theorem U_X6_orNoSuch_9 (ls st : List zV) (σ : zM) : zres 90 C_X6_orNoSuch_9 ls st σ = zres 90 ((9, 1, 0, .iload_n 0) :: C_X6_orNoSuch_10) ls st σ := rfl
theorem U_X6_orNoSuch_10 (ls st : List zV) (σ : zM) : zres 90 C_X6_orNoSuch_10 ls st σ = zres 90 ((10, 1, 0, .ireturn) :: []) ls st σ := rfl
theorem S_X6_orNoSuch (a0 : Int) (σ : zM) : zcall 90 [vI a0] σ = zres 90 C_X6_orNoSuch_0 [vI a0] [] σ := by
  unfold zcall zloc
  rw [G_X6_orNoSuch, M_X6_orNoSuch.2.1]
  rfl
theorem J_X6_commonDivisor_0 : zjump 91 0 = C_X6_commonDivisor_0 := by decide +kernel
theorem J_X6_commonDivisor_9 : zjump 91 9 = C_X6_commonDivisor_9 := by decide +kernel
theorem J_X6_commonDivisor_45 : zjump 91 45 = C_X6_commonDivisor_45 := by decide +kernel
theorem U_X6_commonDivisor_0 (ls st : List zV) (σ : zM) : zres 91 C_X6_commonDivisor_0 ls st σ = zres 91 ((0, 1, 0, .lload_n 0) :: (1, 2, 0, .lstore 4) :: (3, 1, 0, .lload_n 2) :: (4, 2, 0, .lstore 6) :: (6, 1, 0, .iconst 0) :: (7, 2, 0, .istore 8) :: C_X6_commonDivisor_9) ls st σ := rfl
theorem U_X6_commonDivisor_9 (ls st : List zV) (σ : zM) : zres 91 C_X6_commonDivisor_9 ls st σ = zres 91 ((9, 2, 0, .iload 8) :: (11, 3, 200, .sipush 200) :: (14, 3, 45, .if_icmp .ge 31) :: (17, 2, 0, .lload 6) :: (19, 1, 0, .lconst 0) :: (20, 1, 0, .lcmp) :: (21, 3, 45, .ifCond .eq 24) :: (24, 2, 0, .lload 4) :: (26, 2, 0, .lload 6) :: (28, 1, 0, .lrem) :: (29, 2, 0, .lstore 9) :: (31, 2, 0, .lload 6) :: (33, 2, 0, .lstore 4) :: (35, 2, 0, .lload 9) :: (37, 2, 0, .lstore 6) :: (39, 3, 0, .iinc 8 1) :: (42, 3, 9, .goto (-33)) :: C_X6_commonDivisor_45) ls st σ := rfl
theorem U_X6_commonDivisor_45 (ls st : List zV) (σ : zM) : zres 91 C_X6_commonDivisor_45 ls st σ = zres 91 ((45, 2, 0, .lload 4) :: (47, 1, 0, .lreturn) :: []) ls st σ := rfl
theorem S_X6_commonDivisor (a0 a1 : Int) (σ : zM) : zcall 91 [vL a0, vL a1] σ = zres 91 C_X6_commonDivisor_0 [vL a0, vU, vL a1, vU, vU, vU, vU, vU, vU, vU, vU] [] σ := by
  unfold zcall zloc
  rw [G_X6_commonDivisor, M_X6_commonDivisor.2.1]
  rfl
theorem J_X6_inLowestTerms_0 : zjump 92 0 = C_X6_inLowestTerms_0 := by decide +kernel
theorem J_X6_inLowestTerms_16 : zjump 92 16 = C_X6_inLowestTerms_16 := by decide +kernel
theorem J_X6_inLowestTerms_17 : zjump 92 17 = C_X6_inLowestTerms_17 := by decide +kernel
theorem J_X6_inLowestTerms_34 : zjump 92 34 = C_X6_inLowestTerms_34 := by decide +kernel
theorem J_X6_inLowestTerms_36 : zjump 92 36 = C_X6_inLowestTerms_36 := by decide +kernel
theorem U_X6_inLowestTerms_0 (ls st : List zV) (σ : zM) : zres 92 C_X6_inLowestTerms_0 ls st σ = zres 92 ((0, 1, 0, .lload_n 0) :: (1, 1, 0, .lload_n 2) :: (2, 3, 91, .invokestatic 290) :: (5, 2, 0, .lstore 5) :: (7, 2, 0, .iload 4) :: (9, 3, 16, .ifCond .ne 7) :: (12, 1, 0, .lload_n 0) :: (13, 3, 17, .goto 4) :: C_X6_inLowestTerms_16) ls st σ := rfl
theorem U_X6_inLowestTerms_16 (ls st : List zV) (σ : zM) : zres 92 C_X6_inLowestTerms_16 ls st σ = zres 92 ((16, 1, 0, .lload_n 2) :: C_X6_inLowestTerms_17) ls st σ := rfl
theorem U_X6_inLowestTerms_17 (ls st : List zV) (σ : zM) : zres 92 C_X6_inLowestTerms_17 ls st σ = zres 92 ((17, 2, 0, .lstore 7) :: (19, 2, 0, .lload 5) :: (21, 1, 0, .lconst 0) :: (22, 1, 0, .lcmp) :: (23, 3, 34, .ifCond .le 11) :: (26, 2, 0, .lload 7) :: (28, 2, 0, .lload 5) :: (30, 1, 0, .ldiv) :: (31, 3, 36, .goto 5) :: C_X6_inLowestTerms_34) ls st σ := rfl
theorem U_X6_inLowestTerms_34 (ls st : List zV) (σ : zM) : zres 92 C_X6_inLowestTerms_34 ls st σ = zres 92 ((34, 2, 0, .lload 7) :: C_X6_inLowestTerms_36) ls st σ := rfl
theorem U_X6_inLowestTerms_36 (ls st : List zV) (σ : zM) : zres 92 C_X6_inLowestTerms_36 ls st σ = zres 92 ((36, 1, 0, .lreturn) :: []) ls st σ := rfl
theorem S_X6_inLowestTerms (a0 a1 a2 : Int) (σ : zM) : zcall 92 [vL a0, vL a1, vI a2] σ = zres 92 C_X6_inLowestTerms_0 [vL a0, vU, vL a1, vU, vI a2, vU, vU, vU, vU] [] σ := by
  unfold zcall zloc
  rw [G_X6_inLowestTerms, M_X6_inLowestTerms.2.1]
  rfl
theorem J_X6_copyPoints_0 : zjump 93 0 = C_X6_copyPoints_0 := by decide +kernel
theorem J_X6_copyPoints_2 : zjump 93 2 = C_X6_copyPoints_2 := by decide +kernel
theorem J_X6_copyPoints_26 : zjump 93 26 = C_X6_copyPoints_26 := by decide +kernel
theorem U_X6_copyPoints_0 (ls st : List zV) (σ : zM) : zres 93 C_X6_copyPoints_0 ls st σ = zres 93 ((0, 1, 0, .iconst 0) :: (1, 1, 0, .istore_n 2) :: C_X6_copyPoints_2) ls st σ := rfl
theorem U_X6_copyPoints_2 (ls st : List zV) (σ : zM) : zres 93 C_X6_copyPoints_2 ls st σ = zres 93 ((2, 1, 0, .iload_n 2) :: (3, 1, 4, .iconst 4) :: (4, 3, 26, .if_icmp .ge 22) :: (7, 1, 0, .aload_n 0) :: (8, 1, 0, .iload_n 2) :: (9, 1, 0, .aaload) :: (10, 1, 0, .iconst 0) :: (11, 1, 0, .aload_n 1) :: (12, 1, 0, .iload_n 2) :: (13, 1, 0, .aaload) :: (14, 1, 0, .iconst 0) :: (15, 2, 6, .bipush 6) :: (17, 3, 9999, .invokestatic 284) :: (20, 3, 0, .iinc 2 1) :: (23, 3, 2, .goto (-21)) :: C_X6_copyPoints_26) ls st σ := rfl
theorem U_X6_copyPoints_26 (ls st : List zV) (σ : zM) : zres 93 C_X6_copyPoints_26 ls st σ = zres 93 ((26, 1, 0, .return_) :: []) ls st σ := rfl
theorem S_X6_copyPoints (a0 a1 : Int) (σ : zM) : zcall 93 [vR a0, vR a1] σ = zres 93 C_X6_copyPoints_0 [vR a0, vR a1, vU] [] σ := by
  unfold zcall zloc
  rw [G_X6_copyPoints, M_X6_copyPoints.2.1]
  rfl
theorem J_X6_sumOf_0 : zjump 94 0 = C_X6_sumOf_0 := by decide +kernel
theorem J_X6_sumOf_4 : zjump 94 4 = C_X6_sumOf_4 := by decide +kernel
theorem J_X6_sumOf_21 : zjump 94 21 = C_X6_sumOf_21 := by decide +kernel
theorem U_X6_sumOf_0 (ls st : List zV) (σ : zM) : zres 94 C_X6_sumOf_0 ls st σ = zres 94 ((0, 1, 0, .iconst 0) :: (1, 1, 0, .istore_n 2) :: (2, 1, 0, .iconst 0) :: (3, 1, 0, .istore_n 3) :: C_X6_sumOf_4) ls st σ := rfl
theorem U_X6_sumOf_4 (ls st : List zV) (σ : zM) : zres 94 C_X6_sumOf_4 ls st σ = zres 94 ((4, 1, 0, .iload_n 3) :: (5, 1, 0, .iload_n 1) :: (6, 3, 21, .if_icmp .ge 15) :: (9, 1, 0, .iload_n 2) :: (10, 1, 0, .aload_n 0) :: (11, 1, 0, .iload_n 3) :: (12, 1, 0, .iaload) :: (13, 1, 0, .iadd) :: (14, 1, 0, .istore_n 2) :: (15, 3, 0, .iinc 3 1) :: (18, 3, 4, .goto (-14)) :: C_X6_sumOf_21) ls st σ := rfl
theorem U_X6_sumOf_21 (ls st : List zV) (σ : zM) : zres 94 C_X6_sumOf_21 ls st σ = zres 94 ((21, 1, 0, .iload_n 2) :: (22, 1, 0, .ireturn) :: []) ls st σ := rfl
theorem S_X6_sumOf (a0 a1 : Int) (σ : zM) : zcall 94 [vR a0, vI a1] σ = zres 94 C_X6_sumOf_0 [vR a0, vI a1, vU, vU] [] σ := by
  unfold zcall zloc
  rw [G_X6_sumOf, M_X6_sumOf.2.1]
  rfl
theorem J_X6_comesFirst_0 : zjump 95 0 = C_X6_comesFirst_0 := by decide +kernel
theorem J_X6_comesFirst_10 : zjump 95 10 = C_X6_comesFirst_10 := by decide +kernel
theorem J_X6_comesFirst_11 : zjump 95 11 = C_X6_comesFirst_11 := by decide +kernel
theorem J_X6_comesFirst_23 : zjump 95 23 = C_X6_comesFirst_23 := by decide +kernel
theorem J_X6_comesFirst_24 : zjump 95 24 = C_X6_comesFirst_24 := by decide +kernel
theorem J_X6_comesFirst_36 : zjump 95 36 = C_X6_comesFirst_36 := by decide +kernel
theorem J_X6_comesFirst_66 : zjump 95 66 = C_X6_comesFirst_66 := by decide +kernel
theorem J_X6_comesFirst_75 : zjump 95 75 = C_X6_comesFirst_75 := by decide +kernel
theorem J_X6_comesFirst_79 : zjump 95 79 = C_X6_comesFirst_79 := by decide +kernel
theorem J_X6_comesFirst_90 : zjump 95 90 = C_X6_comesFirst_90 := by decide +kernel
theorem J_X6_comesFirst_91 : zjump 95 91 = C_X6_comesFirst_91 := by decide +kernel
theorem U_X6_comesFirst_0 (ls st : List zV) (σ : zM) : zres 95 C_X6_comesFirst_0 ls st σ = zres 95 ((0, 1, 0, .aload_n 1) :: (1, 1, 0, .iload_n 2) :: (2, 1, 0, .iaload) :: (3, 3, 10, .ifCond .ne 7) :: (6, 1, 1, .iconst 1) :: (7, 3, 11, .goto 4) :: C_X6_comesFirst_10) ls st σ := rfl
theorem U_X6_comesFirst_10 (ls st : List zV) (σ : zM) : zres 95 C_X6_comesFirst_10 ls st σ = zres 95 ((10, 1, 0, .iconst 0) :: C_X6_comesFirst_11) ls st σ := rfl
theorem U_X6_comesFirst_11 (ls st : List zV) (σ : zM) : zres 95 C_X6_comesFirst_11 ls st σ = zres 95 ((11, 2, 0, .istore 4) :: (13, 1, 0, .aload_n 1) :: (14, 1, 0, .iload_n 3) :: (15, 1, 0, .iaload) :: (16, 3, 23, .ifCond .ne 7) :: (19, 1, 1, .iconst 1) :: (20, 3, 24, .goto 4) :: C_X6_comesFirst_23) ls st σ := rfl
theorem U_X6_comesFirst_23 (ls st : List zV) (σ : zM) : zres 95 C_X6_comesFirst_23 ls st σ = zres 95 ((23, 1, 0, .iconst 0) :: C_X6_comesFirst_24) ls st σ := rfl
theorem U_X6_comesFirst_24 (ls st : List zV) (σ : zM) : zres 95 C_X6_comesFirst_24 ls st σ = zres 95 ((24, 2, 0, .istore 5) :: (26, 2, 0, .iload 4) :: (28, 2, 0, .iload 5) :: (30, 3, 36, .if_icmp .eq 6) :: (33, 2, 0, .iload 5) :: (35, 1, 1, .ireturn) :: C_X6_comesFirst_36) ls st σ := rfl
theorem U_X6_comesFirst_36 (ls st : List zV) (σ : zM) : zres 95 C_X6_comesFirst_36 ls st σ = zres 95 ((36, 1, 0, .aload_n 0) :: (37, 1, 0, .iload_n 2) :: (38, 1, 0, .iaload) :: (39, 1, 0, .aload_n 1) :: (40, 1, 0, .iload_n 3) :: (41, 1, 0, .iaload) :: (42, 1, 0, .imul) :: (43, 2, 0, .istore 6) :: (45, 1, 0, .aload_n 0) :: (46, 1, 0, .iload_n 3) :: (47, 1, 0, .iaload) :: (48, 1, 0, .aload_n 1) :: (49, 1, 0, .iload_n 2) :: (50, 1, 0, .iaload) :: (51, 1, 0, .imul) :: (52, 2, 0, .istore 7) :: (54, 2, 0, .iload 4) :: (56, 3, 66, .ifCond .ne 10) :: (59, 2, 0, .iload 6) :: (61, 2, 0, .iload 7) :: (63, 3, 79, .if_icmp .ne 16) :: C_X6_comesFirst_66) ls st σ := rfl
theorem U_X6_comesFirst_66 (ls st : List zV) (σ : zM) : zres 95 C_X6_comesFirst_66 ls st σ = zres 95 ((66, 1, 0, .iload_n 2) :: (67, 1, 0, .iload_n 3) :: (68, 3, 75, .if_icmp .ge 7) :: (71, 1, 1, .iconst 1) :: (72, 3, 91, .goto 19) :: C_X6_comesFirst_75) ls st σ := rfl
theorem U_X6_comesFirst_75 (ls st : List zV) (σ : zM) : zres 95 C_X6_comesFirst_75 ls st σ = zres 95 ((75, 1, 0, .iconst 0) :: (76, 3, 91, .goto 15) :: C_X6_comesFirst_79) ls st σ := rfl
theorem U_X6_comesFirst_79 (ls st : List zV) (σ : zM) : zres 95 C_X6_comesFirst_79 ls st σ = zres 95 ((79, 2, 0, .iload 6) :: (81, 2, 0, .iload 7) :: (83, 3, 90, .if_icmp .ge 7) :: (86, 1, 1, .iconst 1) :: (87, 3, 91, .goto 4) :: C_X6_comesFirst_90) ls st σ := rfl
theorem U_X6_comesFirst_90 (ls st : List zV) (σ : zM) : zres 95 C_X6_comesFirst_90 ls st σ = zres 95 ((90, 1, 0, .iconst 0) :: C_X6_comesFirst_91) ls st σ := rfl
theorem U_X6_comesFirst_91 (ls st : List zV) (σ : zM) : zres 95 C_X6_comesFirst_91 ls st σ = zres 95 ((91, 1, 1, .ireturn) :: []) ls st σ := rfl
theorem S_X6_comesFirst (a0 a1 a2 a3 : Int) (σ : zM) : zcall 95 [vR a0, vR a1, vI a2, vI a3] σ = zres 95 C_X6_comesFirst_0 [vR a0, vR a1, vI a2, vI a3, vU, vU, vU, vU] [] σ := by
  unfold zcall zloc
  rw [G_X6_comesFirst, M_X6_comesFirst.2.1]
  rfl
theorem J_X6_doClause_0 : zjump 96 0 = C_X6_doClause_0 := by decide +kernel
theorem J_X6_doClause_72 : zjump 96 72 = C_X6_doClause_72 := by decide +kernel
theorem J_X6_doClause_78 : zjump 96 78 = C_X6_doClause_78 := by decide +kernel
theorem J_X6_doClause_83 : zjump 96 83 = C_X6_doClause_83 := by decide +kernel
theorem J_X6_doClause_102 : zjump 96 102 = C_X6_doClause_102 := by decide +kernel
theorem J_X6_doClause_110 : zjump 96 110 = C_X6_doClause_110 := by decide +kernel
theorem U_X6_doClause_0 (ls st : List zV) (σ : zM) : zres 96 C_X6_doClause_0 ls st σ = zres 96 ((0, 1, 0, .aload_n 0) :: (1, 3, 198, .getfield 43) :: (4, 1, 0, .iload_n 1) :: (5, 1, 1, .iconst 1) :: (6, 1, 0, .iadd) :: (7, 3, 30, .invokevirtual 294) :: (10, 1, 0, .istore_n 3) :: (11, 1, 0, .aload_n 0) :: (12, 3, 198, .getfield 43) :: (15, 1, 0, .iload_n 1) :: (16, 1, 2, .iconst 2) :: (17, 1, 0, .iadd) :: (18, 3, 30, .invokevirtual 294) :: (21, 2, 0, .istore 4) :: (23, 1, 0, .aload_n 0) :: (24, 3, 198, .getfield 43) :: (27, 1, 0, .iload_n 1) :: (28, 3, 29, .invokevirtual 297) :: (31, 41, 0, .lookupswitch 79 #[(104, 71), (110, 41), (112, 52), (116, 47)]) :: C_X6_doClause_72) ls st σ := rfl
theorem U_X6_doClause_72 (ls st : List zV) (σ : zM) : zres 96 C_X6_doClause_72 ls st σ = zres 96 ((72, 1, 0, .aload_n 0) :: (73, 1, 0, .iload_n 3) :: (74, 3, 47, .invokevirtual 300) :: (77, 1, 0, .ireturn) :: C_X6_doClause_78) ls st σ := rfl
theorem U_X6_doClause_78 (ls st : List zV) (σ : zM) : zres 96 C_X6_doClause_78 ls st σ = zres 96 ((78, 1, 0, .aload_n 0) :: (79, 3, 48, .invokevirtual 303) :: (82, 1, 0, .ireturn) :: C_X6_doClause_83) ls st σ := rfl
theorem U_X6_doClause_83 (ls st : List zV) (σ : zM) : zres 96 C_X6_doClause_83 ls st σ = zres 96 ((83, 1, 0, .aload_n 0) :: (84, 1, 0, .iload_n 3) :: (85, 2, 0, .iload 4) :: (87, 1, 0, .aload_n 0) :: (88, 3, 198, .getfield 43) :: (91, 1, 0, .iload_n 1) :: (92, 1, 3, .iconst 3) :: (93, 1, 0, .iadd) :: (94, 1, 0, .iload_n 2) :: (95, 3, 31, .invokevirtual 306) :: (98, 3, 49, .invokevirtual 309) :: (101, 1, 0, .ireturn) :: C_X6_doClause_102) ls st σ := rfl
theorem U_X6_doClause_102 (ls st : List zV) (σ : zM) : zres 96 C_X6_doClause_102 ls st σ = zres 96 ((102, 1, 0, .aload_n 0) :: (103, 1, 0, .iload_n 3) :: (104, 2, 0, .iload 4) :: (106, 3, 51, .invokevirtual 313) :: (109, 1, 0, .ireturn) :: C_X6_doClause_110) ls st σ := rfl
theorem U_X6_doClause_110 (ls st : List zV) (σ : zM) : zres 96 C_X6_doClause_110 ls st σ = zres 96 ((110, 1, 0, .aload_n 0) :: (111, 1, 0, .iload_n 3) :: (112, 2, 0, .iload 4) :: (114, 3, 53, .invokevirtual 316) :: (117, 1, 0, .ireturn) :: []) ls st σ := rfl
theorem S_X6_doClause (c a0 a1 : Int) (σ : zM) : zcall 96 [vR c, vI a0, vI a1] σ = zres 96 C_X6_doClause_0 [vR c, vI a0, vI a1, vU, vU] [] σ := by
  unfold zcall zloc
  rw [G_X6_doClause, M_X6_doClause.2.1]
  rfl
theorem J_X6_claimOf_0 : zjump 97 0 = C_X6_claimOf_0 := by decide +kernel
theorem J_X6_claimOf_13 : zjump 97 13 = C_X6_claimOf_13 := by decide +kernel
theorem J_X6_claimOf_23 : zjump 97 23 = C_X6_claimOf_23 := by decide +kernel
theorem J_X6_claimOf_64 : zjump 97 64 = C_X6_claimOf_64 := by decide +kernel
theorem J_X6_claimOf_76 : zjump 97 76 = C_X6_claimOf_76 := by decide +kernel
theorem J_X6_claimOf_77 : zjump 97 77 = C_X6_claimOf_77 := by decide +kernel
theorem U_X6_claimOf_0 (ls st : List zV) (σ : zM) : zres 97 C_X6_claimOf_0 ls st σ = zres 97 ((0, 1, 0, .aload_n 0) :: (1, 3, 192, .getfield 12) :: (4, 1, 0, .iload_n 1) :: (5, 3, 18, .invokevirtual 150) :: (8, 3, 13, .ifCond .ne 5) :: (11, 1, 1, .iconst 1) :: (12, 1, 0, .ireturn) :: C_X6_claimOf_13) ls st σ := rfl
theorem U_X6_claimOf_13 (ls st : List zV) (σ : zM) : zres 97 C_X6_claimOf_13 ls st σ = zres 97 ((13, 1, 0, .aload_n 0) :: (14, 1, 0, .iload_n 1) :: (15, 3, 100, .invokevirtual 319) :: (18, 3, 23, .ifCond .lt 5) :: (21, 1, 2, .iconst 2) :: (22, 1, 0, .ireturn) :: C_X6_claimOf_23) ls st σ := rfl
theorem U_X6_claimOf_23 (ls st : List zV) (σ : zM) : zres 97 C_X6_claimOf_23 ls st σ = zres 97 ((23, 1, 0, .aload_n 0) :: (24, 3, 192, .getfield 12) :: (27, 1, 0, .iload_n 1) :: (28, 1, 0, .iload_n 1) :: (29, 3, 19, .invokevirtual 153) :: (32, 1, 0, .aload_n 0) :: (33, 3, 192, .getfield 12) :: (36, 3, 64, .getfield 54) :: (39, 1, 0, .i2l) :: (40, 1, 0, .lmul) :: (41, 1, 0, .aload_n 0) :: (42, 3, 192, .getfield 12) :: (45, 1, 0, .iload_n 1) :: (46, 3, 18, .invokevirtual 150) :: (49, 1, 0, .i2l) :: (50, 1, 0, .aload_n 0) :: (51, 3, 192, .getfield 12) :: (54, 3, 71, .getfield 142) :: (57, 1, 0, .lmul) :: (58, 1, 0, .lcmp) :: (59, 3, 64, .ifCond .ge 5) :: (62, 1, 3, .iconst 3) :: (63, 1, 0, .ireturn) :: C_X6_claimOf_64) ls st σ := rfl
theorem U_X6_claimOf_64 (ls st : List zV) (σ : zM) : zres 97 C_X6_claimOf_64 ls st σ = zres 97 ((64, 1, 0, .aload_n 0) :: (65, 1, 0, .iload_n 1) :: (66, 3, 101, .invokevirtual 322) :: (69, 3, 76, .ifCond .lt 7) :: (72, 1, 4, .iconst 4) :: (73, 3, 77, .goto 4) :: C_X6_claimOf_76) ls st σ := rfl
theorem U_X6_claimOf_76 (ls st : List zV) (σ : zM) : zres 97 C_X6_claimOf_76 ls st σ = zres 97 ((76, 1, 0, .iconst 0) :: C_X6_claimOf_77) ls st σ := rfl
theorem U_X6_claimOf_77 (ls st : List zV) (σ : zM) : zres 97 C_X6_claimOf_77 ls st σ = zres 97 ((77, 1, 0, .ireturn) :: []) ls st σ := rfl
theorem S_X6_claimOf (c a0 : Int) (σ : zM) : zcall 97 [vR c, vI a0] σ = zres 97 C_X6_claimOf_0 [vR c, vI a0] [] σ := by
  unfold zcall zloc
  rw [G_X6_claimOf, M_X6_claimOf.2.1]
  rfl
theorem J_X6_causeOf_0 : zjump 98 0 = C_X6_causeOf_0 := by decide +kernel
theorem J_X6_causeOf_32 : zjump 98 32 = C_X6_causeOf_32 := by decide +kernel
theorem J_X6_causeOf_47 : zjump 98 47 = C_X6_causeOf_47 := by decide +kernel
theorem J_X6_causeOf_56 : zjump 98 56 = C_X6_causeOf_56 := by decide +kernel
theorem J_X6_causeOf_65 : zjump 98 65 = C_X6_causeOf_65 := by decide +kernel
theorem J_X6_causeOf_74 : zjump 98 74 = C_X6_causeOf_74 := by decide +kernel
theorem U_X6_causeOf_0 (ls st : List zV) (σ : zM) : zres 98 C_X6_causeOf_0 ls st σ = zres 98 ((0, 1, 0, .iload_n 1) :: (1, 31, 0, .tableswitch 73 1 4 #[31, 46, 55, 64]) :: C_X6_causeOf_32) ls st σ := rfl
theorem U_X6_causeOf_32 (ls st : List zV) (σ : zM) : zres 98 C_X6_causeOf_32 ls st σ = zres 98 ((32, 2, 10, .bipush 10) :: (34, 1, 0, .aload_n 0) :: (35, 3, 192, .getfield 12) :: (38, 1, 0, .iload_n 2) :: (39, 3, 20, .invokevirtual 325) :: (42, 3, 192, .invokestatic 326) :: (45, 1, 0, .iadd) :: (46, 1, 0, .ireturn) :: C_X6_causeOf_47) ls st σ := rfl
theorem U_X6_causeOf_47 (ls st : List zV) (σ : zM) : zres 98 C_X6_causeOf_47 ls st σ = zres 98 ((47, 2, 10, .bipush 10) :: (49, 1, 0, .aload_n 0) :: (50, 1, 0, .iload_n 2) :: (51, 3, 100, .invokevirtual 319) :: (54, 1, 0, .iadd) :: (55, 1, 0, .ireturn) :: C_X6_causeOf_56) ls st σ := rfl
theorem U_X6_causeOf_56 (ls st : List zV) (σ : zM) : zres 98 C_X6_causeOf_56 ls st σ = zres 98 ((56, 1, 0, .aload_n 0) :: (57, 3, 192, .getfield 12) :: (60, 1, 0, .iload_n 2) :: (61, 3, 20, .invokevirtual 325) :: (64, 1, 0, .ireturn) :: C_X6_causeOf_65) ls st σ := rfl
theorem U_X6_causeOf_65 (ls st : List zV) (σ : zM) : zres 98 C_X6_causeOf_65 ls st σ = zres 98 ((65, 2, 10, .bipush 10) :: (67, 1, 0, .aload_n 0) :: (68, 1, 0, .iload_n 2) :: (69, 3, 101, .invokevirtual 322) :: (72, 1, 0, .iadd) :: (73, 1, 0, .ireturn) :: C_X6_causeOf_74) ls st σ := rfl
theorem U_X6_causeOf_74 (ls st : List zV) (σ : zM) : zres 98 C_X6_causeOf_74 ls st σ = zres 98 ((74, 2, (-5), .bipush (-5)) :: (76, 1, 0, .ireturn) :: []) ls st σ := rfl
theorem S_X6_causeOf (c a0 a1 : Int) (σ : zM) : zcall 98 [vR c, vI a0, vI a1] σ = zres 98 C_X6_causeOf_0 [vR c, vI a0, vI a1] [] σ := by
  unfold zcall zloc
  rw [G_X6_causeOf, M_X6_causeOf.2.1]
  rfl
theorem J_X6_secondCauseOf_0 : zjump 99 0 = C_X6_secondCauseOf_0 := by decide +kernel
theorem J_X6_secondCauseOf_20 : zjump 99 20 = C_X6_secondCauseOf_20 := by decide +kernel
theorem J_X6_secondCauseOf_31 : zjump 99 31 = C_X6_secondCauseOf_31 := by decide +kernel
theorem J_X6_secondCauseOf_32 : zjump 99 32 = C_X6_secondCauseOf_32 := by decide +kernel
theorem J_X6_secondCauseOf_52 : zjump 99 52 = C_X6_secondCauseOf_52 := by decide +kernel
theorem J_X6_secondCauseOf_54 : zjump 99 54 = C_X6_secondCauseOf_54 := by decide +kernel
theorem U_X6_secondCauseOf_0 (ls st : List zV) (σ : zM) : zres 99 C_X6_secondCauseOf_0 ls st σ = zres 99 ((0, 1, 0, .iload_n 1) :: (1, 1, 2, .iconst 2) :: (2, 3, 32, .if_icmp .ne 30) :: (5, 1, 0, .aload_n 0) :: (6, 1, 0, .iload_n 2) :: (7, 3, 100, .invokevirtual 319) :: (10, 1, 0, .istore_n 3) :: (11, 1, 0, .iload_n 3) :: (12, 3, 20, .ifCond .ge 8) :: (15, 2, (-5), .bipush (-5)) :: (17, 3, 31, .goto 14) :: C_X6_secondCauseOf_20) ls st σ := rfl
theorem U_X6_secondCauseOf_20 (ls st : List zV) (σ : zM) : zres 99 C_X6_secondCauseOf_20 ls st σ = zres 99 ((20, 1, 0, .aload_n 0) :: (21, 3, 192, .getfield 12) :: (24, 3, 66, .getfield 76) :: (27, 1, 0, .iload_n 2) :: (28, 1, 0, .aaload) :: (29, 1, 0, .iload_n 3) :: (30, 1, 0, .iaload) :: C_X6_secondCauseOf_31) ls st σ := rfl
theorem U_X6_secondCauseOf_31 (ls st : List zV) (σ : zM) : zres 99 C_X6_secondCauseOf_31 ls st σ = zres 99 ((31, 1, 0, .ireturn) :: C_X6_secondCauseOf_32) ls st σ := rfl
theorem U_X6_secondCauseOf_32 (ls st : List zV) (σ : zM) : zres 99 C_X6_secondCauseOf_32 ls st σ = zres 99 ((32, 1, 0, .iload_n 1) :: (33, 1, 4, .iconst 4) :: (34, 3, 52, .if_icmp .ne 18) :: (37, 1, 0, .aload_n 0) :: (38, 3, 192, .getfield 12) :: (41, 1, 0, .aload_n 0) :: (42, 1, 0, .iload_n 2) :: (43, 3, 101, .invokevirtual 322) :: (46, 3, 20, .invokevirtual 325) :: (49, 3, 54, .goto 5) :: C_X6_secondCauseOf_52) ls st σ := rfl
theorem U_X6_secondCauseOf_52 (ls st : List zV) (σ : zM) : zres 99 C_X6_secondCauseOf_52 ls st σ = zres 99 ((52, 2, (-5), .bipush (-5)) :: C_X6_secondCauseOf_54) ls st σ := rfl
theorem U_X6_secondCauseOf_54 (ls st : List zV) (σ : zM) : zres 99 C_X6_secondCauseOf_54 ls st σ = zres 99 ((54, 1, 0, .ireturn) :: []) ls st σ := rfl
theorem S_X6_secondCauseOf (c a0 a1 : Int) (σ : zM) : zcall 99 [vR c, vI a0, vI a1] σ = zres 99 C_X6_secondCauseOf_0 [vR c, vI a0, vI a1, vU] [] σ := by
  unfold zcall zloc
  rw [G_X6_secondCauseOf, M_X6_secondCauseOf.2.1]
  rfl
theorem J_X6_firstUnheld_0 : zjump 100 0 = C_X6_firstUnheld_0 := by decide +kernel
theorem J_X6_firstUnheld_2 : zjump 100 2 = C_X6_firstUnheld_2 := by decide +kernel
theorem J_X6_firstUnheld_42 : zjump 100 42 = C_X6_firstUnheld_42 := by decide +kernel
theorem J_X6_firstUnheld_48 : zjump 100 48 = C_X6_firstUnheld_48 := by decide +kernel
theorem U_X6_firstUnheld_0 (ls st : List zV) (σ : zM) : zres 100 C_X6_firstUnheld_0 ls st σ = zres 100 ((0, 1, 0, .iconst 0) :: (1, 1, 0, .istore_n 2) :: C_X6_firstUnheld_2) ls st σ := rfl
theorem U_X6_firstUnheld_2 (ls st : List zV) (σ : zM) : zres 100 C_X6_firstUnheld_2 ls st σ = zres 100 ((2, 1, 0, .iload_n 2) :: (3, 1, 0, .aload_n 0) :: (4, 3, 192, .getfield 12) :: (7, 3, 65, .getfield 62) :: (10, 3, 48, .if_icmp .ge 38) :: (13, 1, 0, .aload_n 0) :: (14, 3, 192, .getfield 12) :: (17, 3, 67, .getfield 79) :: (20, 1, 0, .iload_n 2) :: (21, 1, 0, .iaload) :: (22, 1, (-1), .iconst (-1)) :: (23, 3, 42, .if_icmp .ne 19) :: (26, 1, 0, .aload_n 0) :: (27, 3, 192, .getfield 12) :: (30, 3, 66, .getfield 76) :: (33, 1, 0, .iload_n 1) :: (34, 1, 0, .aaload) :: (35, 1, 0, .iload_n 2) :: (36, 1, 0, .iaload) :: (37, 3, 42, .ifCond .le 5) :: (40, 1, 0, .iload_n 2) :: (41, 1, 0, .ireturn) :: C_X6_firstUnheld_42) ls st σ := rfl
theorem U_X6_firstUnheld_42 (ls st : List zV) (σ : zM) : zres 100 C_X6_firstUnheld_42 ls st σ = zres 100 ((42, 3, 0, .iinc 2 1) :: (45, 3, 2, .goto (-43)) :: C_X6_firstUnheld_48) ls st σ := rfl
theorem U_X6_firstUnheld_48 (ls st : List zV) (σ : zM) : zres 100 C_X6_firstUnheld_48 ls st σ = zres 100 ((48, 1, (-1), .iconst (-1)) :: (49, 1, 0, .ireturn) :: []) ls st σ := rfl
theorem S_X6_firstUnheld (c a0 : Int) (σ : zM) : zcall 100 [vR c, vI a0] σ = zres 100 C_X6_firstUnheld_0 [vR c, vI a0, vU] [] σ := by
  unfold zcall zloc
  rw [G_X6_firstUnheld, M_X6_firstUnheld.2.1]
  rfl
theorem J_X6_firstEnvied_0 : zjump 101 0 = C_X6_firstEnvied_0 := by decide +kernel
theorem J_X6_firstEnvied_13 : zjump 101 13 = C_X6_firstEnvied_13 := by decide +kernel
theorem J_X6_firstEnvied_43 : zjump 101 43 = C_X6_firstEnvied_43 := by decide +kernel
theorem J_X6_firstEnvied_49 : zjump 101 49 = C_X6_firstEnvied_49 := by decide +kernel
theorem U_X6_firstEnvied_0 (ls st : List zV) (σ : zM) : zres 101 C_X6_firstEnvied_0 ls st σ = zres 101 ((0, 1, 0, .aload_n 0) :: (1, 3, 192, .getfield 12) :: (4, 1, 0, .iload_n 1) :: (5, 1, 0, .iload_n 1) :: (6, 3, 19, .invokevirtual 153) :: (9, 1, 0, .lstore_n 2) :: (10, 1, 0, .iconst 0) :: (11, 2, 0, .istore 4) :: C_X6_firstEnvied_13) ls st σ := rfl
theorem U_X6_firstEnvied_13 (ls st : List zV) (σ : zM) : zres 101 C_X6_firstEnvied_13 ls st σ = zres 101 ((13, 2, 0, .iload 4) :: (15, 1, 0, .aload_n 0) :: (16, 3, 192, .getfield 12) :: (19, 3, 64, .getfield 54) :: (22, 3, 49, .if_icmp .ge 27) :: (25, 1, 0, .aload_n 0) :: (26, 3, 192, .getfield 12) :: (29, 1, 0, .iload_n 1) :: (30, 2, 0, .iload 4) :: (32, 3, 19, .invokevirtual 153) :: (35, 1, 0, .lload_n 2) :: (36, 1, 0, .lcmp) :: (37, 3, 43, .ifCond .le 6) :: (40, 2, 0, .iload 4) :: (42, 1, 0, .ireturn) :: C_X6_firstEnvied_43) ls st σ := rfl
theorem U_X6_firstEnvied_43 (ls st : List zV) (σ : zM) : zres 101 C_X6_firstEnvied_43 ls st σ = zres 101 ((43, 3, 0, .iinc 4 1) :: (46, 3, 13, .goto (-33)) :: C_X6_firstEnvied_49) ls st σ := rfl
theorem U_X6_firstEnvied_49 (ls st : List zV) (σ : zM) : zres 101 C_X6_firstEnvied_49 ls st σ = zres 101 ((49, 1, (-1), .iconst (-1)) :: (50, 1, 0, .ireturn) :: []) ls st σ := rfl
theorem S_X6_firstEnvied (c a0 : Int) (σ : zM) : zcall 101 [vR c, vI a0] σ = zres 101 C_X6_firstEnvied_0 [vR c, vI a0, vU, vU, vU] [] σ := by
  unfold zcall zloc
  rw [G_X6_firstEnvied, M_X6_firstEnvied.2.1]
  rfl
theorem J_X6_enviousBits_0 : zjump 102 0 = C_X6_enviousBits_0 := by decide +kernel
theorem J_X6_enviousBits_4 : zjump 102 4 = C_X6_enviousBits_4 := by decide +kernel
theorem J_X6_enviousBits_29 : zjump 102 29 = C_X6_enviousBits_29 := by decide +kernel
theorem J_X6_enviousBits_35 : zjump 102 35 = C_X6_enviousBits_35 := by decide +kernel
theorem U_X6_enviousBits_0 (ls st : List zV) (σ : zM) : zres 102 C_X6_enviousBits_0 ls st σ = zres 102 ((0, 1, 0, .iconst 0) :: (1, 1, 0, .istore_n 1) :: (2, 1, 0, .iconst 0) :: (3, 1, 0, .istore_n 2) :: C_X6_enviousBits_4) ls st σ := rfl
theorem U_X6_enviousBits_4 (ls st : List zV) (σ : zM) : zres 102 C_X6_enviousBits_4 ls st σ = zres 102 ((4, 1, 0, .iload_n 2) :: (5, 1, 0, .aload_n 0) :: (6, 3, 192, .getfield 12) :: (9, 3, 64, .getfield 54) :: (12, 3, 35, .if_icmp .ge 23) :: (15, 1, 0, .aload_n 0) :: (16, 1, 0, .iload_n 2) :: (17, 3, 101, .invokevirtual 322) :: (20, 3, 29, .ifCond .lt 9) :: (23, 1, 0, .iload_n 1) :: (24, 1, 1, .iconst 1) :: (25, 1, 0, .iload_n 2) :: (26, 1, 0, .ishl) :: (27, 1, 0, .ior) :: (28, 1, 0, .istore_n 1) :: C_X6_enviousBits_29) ls st σ := rfl
theorem U_X6_enviousBits_29 (ls st : List zV) (σ : zM) : zres 102 C_X6_enviousBits_29 ls st σ = zres 102 ((29, 3, 0, .iinc 2 1) :: (32, 3, 4, .goto (-28)) :: C_X6_enviousBits_35) ls st σ := rfl
theorem U_X6_enviousBits_35 (ls st : List zV) (σ : zM) : zres 102 C_X6_enviousBits_35 ls st σ = zres 102 ((35, 1, 0, .iload_n 1) :: (36, 1, 0, .ireturn) :: []) ls st σ := rfl
theorem S_X6_enviousBits (c : Int) (σ : zM) : zcall 102 [vR c] σ = zres 102 C_X6_enviousBits_0 [vR c, vU, vU] [] σ := by
  unfold zcall zloc
  rw [G_X6_enviousBits, M_X6_enviousBits.2.1]
  rfl
theorem J_X6_triedFitsSeen_0 : zjump 103 0 = C_X6_triedFitsSeen_0 := by decide +kernel
theorem J_X6_triedFitsSeen_25 : zjump 103 25 = C_X6_triedFitsSeen_25 := by decide +kernel
theorem J_X6_triedFitsSeen_27 : zjump 103 27 = C_X6_triedFitsSeen_27 := by decide +kernel
theorem J_X6_triedFitsSeen_77 : zjump 103 77 = C_X6_triedFitsSeen_77 := by decide +kernel
theorem J_X6_triedFitsSeen_83 : zjump 103 83 = C_X6_triedFitsSeen_83 := by decide +kernel
theorem U_X6_triedFitsSeen_0 (ls st : List zV) (σ : zM) : zres 103 C_X6_triedFitsSeen_0 ls st σ = zres 103 ((0, 1, 0, .aload_n 0) :: (1, 3, 195, .getfield 24) :: (4, 1, 0, .aload_n 0) :: (5, 3, 197, .getfield 37) :: (8, 1, 0, .aload_n 0) :: (9, 3, 192, .getfield 12) :: (12, 3, 65, .getfield 62) :: (15, 1, 0, .iconst 0) :: (16, 1, 1, .iconst 1) :: (17, 3, 0, .invokevirtual 105) :: (20, 3, 25, .ifCond .ne 5) :: (23, 1, 0, .iconst 0) :: (24, 1, 1, .ireturn) :: C_X6_triedFitsSeen_25) ls st σ := rfl
theorem U_X6_triedFitsSeen_25 (ls st : List zV) (σ : zM) : zres 103 C_X6_triedFitsSeen_25 ls st σ = zres 103 ((25, 1, 0, .iconst 0) :: (26, 1, 0, .istore_n 1) :: C_X6_triedFitsSeen_27) ls st σ := rfl
theorem U_X6_triedFitsSeen_27 (ls st : List zV) (σ : zM) : zres 103 C_X6_triedFitsSeen_27 ls st σ = zres 103 ((27, 1, 0, .iload_n 1) :: (28, 1, 0, .aload_n 0) :: (29, 3, 192, .getfield 12) :: (32, 3, 72, .getfield 210) :: (35, 3, 34, .getfield 237) :: (38, 3, 83, .if_icmp .ge 45) :: (41, 1, 0, .aload_n 0) :: (42, 3, 195, .getfield 24) :: (45, 1, 0, .aload_n 0) :: (46, 3, 192, .getfield 12) :: (49, 3, 72, .getfield 210) :: (52, 3, 33, .getfield 241) :: (55, 1, 0, .iload_n 1) :: (56, 1, 0, .iaload) :: (57, 1, 0, .aload_n 0) :: (58, 3, 192, .getfield 12) :: (61, 3, 72, .getfield 210) :: (64, 3, 32, .getfield 238) :: (67, 1, 0, .iload_n 1) :: (68, 1, 0, .iaload) :: (69, 3, 5, .invokevirtual 331) :: (72, 3, 77, .ifCond .ne 5) :: (75, 1, 0, .iconst 0) :: (76, 1, 1, .ireturn) :: C_X6_triedFitsSeen_77) ls st σ := rfl
theorem U_X6_triedFitsSeen_77 (ls st : List zV) (σ : zM) : zres 103 C_X6_triedFitsSeen_77 ls st σ = zres 103 ((77, 3, 0, .iinc 1 1) :: (80, 3, 27, .goto (-53)) :: C_X6_triedFitsSeen_83) ls st σ := rfl
theorem U_X6_triedFitsSeen_83 (ls st : List zV) (σ : zM) : zres 103 C_X6_triedFitsSeen_83 ls st σ = zres 103 ((83, 1, 1, .iconst 1) :: (84, 1, 1, .ireturn) :: []) ls st σ := rfl
theorem S_X6_triedFitsSeen (c : Int) (σ : zM) : zcall 103 [vR c] σ = zres 103 C_X6_triedFitsSeen_0 [vR c, vU] [] σ := by
  unfold zcall zloc
  rw [G_X6_triedFitsSeen, M_X6_triedFitsSeen.2.1]
  rfl
theorem J_X6_letHappen_0 : zjump 104 0 = C_X6_letHappen_0 := by decide +kernel
theorem J_X6_letHappen_2 : zjump 104 2 = C_X6_letHappen_2 := by decide +kernel
theorem J_X6_letHappen_16 : zjump 104 16 = C_X6_letHappen_16 := by decide +kernel
theorem J_X6_letHappen_50 : zjump 104 50 = C_X6_letHappen_50 := by decide +kernel
theorem J_X6_letHappen_54 : zjump 104 54 = C_X6_letHappen_54 := by decide +kernel
theorem J_X6_letHappen_70 : zjump 104 70 = C_X6_letHappen_70 := by decide +kernel
theorem J_X6_letHappen_74 : zjump 104 74 = C_X6_letHappen_74 := by decide +kernel
theorem J_X6_letHappen_75 : zjump 104 75 = C_X6_letHappen_75 := by decide +kernel
theorem J_X6_letHappen_92 : zjump 104 92 = C_X6_letHappen_92 := by decide +kernel
theorem J_X6_letHappen_98 : zjump 104 98 = C_X6_letHappen_98 := by decide +kernel
theorem J_X6_letHappen_104 : zjump 104 104 = C_X6_letHappen_104 := by decide +kernel
theorem U_X6_letHappen_0 (ls st : List zV) (σ : zM) : zres 104 C_X6_letHappen_0 ls st σ = zres 104 ((0, 1, 0, .iconst 0) :: (1, 1, 0, .istore_n 3) :: C_X6_letHappen_2) ls st σ := rfl
theorem U_X6_letHappen_2 (ls st : List zV) (σ : zM) : zres 104 C_X6_letHappen_2 ls st σ = zres 104 ((2, 1, 0, .iload_n 3) :: (3, 1, 0, .aload_n 0) :: (4, 3, 192, .getfield 12) :: (7, 3, 64, .getfield 54) :: (10, 3, 104, .if_icmp .ge 94) :: (13, 1, 0, .iconst 0) :: (14, 2, 0, .istore 4) :: C_X6_letHappen_16) ls st σ := rfl
theorem U_X6_letHappen_16 (ls st : List zV) (σ : zM) : zres 104 C_X6_letHappen_16 ls st σ = zres 104 ((16, 2, 0, .iload 4) :: (18, 1, 0, .aload_n 0) :: (19, 3, 192, .getfield 12) :: (22, 3, 65, .getfield 62) :: (25, 3, 98, .if_icmp .ge 73) :: (28, 1, 0, .iload_n 1) :: (29, 1, 3, .iconst 3) :: (30, 3, 54, .if_icmp .ne 24) :: (33, 1, 0, .aload_n 0) :: (34, 3, 197, .getfield 37) :: (37, 1, 0, .iload_n 3) :: (38, 1, 0, .aaload) :: (39, 2, 0, .iload 4) :: (41, 1, 0, .iaload) :: (42, 1, 0, .iload_n 2) :: (43, 3, 50, .if_icmp .ge 7) :: (46, 1, 1, .iconst 1) :: (47, 3, 75, .goto 28) :: C_X6_letHappen_50) ls st σ := rfl
theorem U_X6_letHappen_50 (ls st : List zV) (σ : zM) : zres 104 C_X6_letHappen_50 ls st σ = zres 104 ((50, 1, 0, .iconst 0) :: (51, 3, 75, .goto 24) :: C_X6_letHappen_54) ls st σ := rfl
theorem U_X6_letHappen_54 (ls st : List zV) (σ : zM) : zres 104 C_X6_letHappen_54 ls st σ = zres 104 ((54, 2, 0, .iload 4) :: (56, 1, 0, .iload_n 2) :: (57, 3, 74, .if_icmp .ne 17) :: (60, 1, 0, .iload_n 1) :: (61, 1, 2, .iconst 2) :: (62, 3, 70, .if_icmp .eq 8) :: (65, 1, 0, .iload_n 1) :: (66, 1, 0, .iload_n 3) :: (67, 3, 74, .if_icmp .ne 7) :: C_X6_letHappen_70) ls st σ := rfl
theorem U_X6_letHappen_70 (ls st : List zV) (σ : zM) : zres 104 C_X6_letHappen_70 ls st σ = zres 104 ((70, 1, 1, .iconst 1) :: (71, 3, 75, .goto 4) :: C_X6_letHappen_74) ls st σ := rfl
theorem U_X6_letHappen_74 (ls st : List zV) (σ : zM) : zres 104 C_X6_letHappen_74 ls st σ = zres 104 ((74, 1, 0, .iconst 0) :: C_X6_letHappen_75) ls st σ := rfl
theorem U_X6_letHappen_75 (ls st : List zV) (σ : zM) : zres 104 C_X6_letHappen_75 ls st σ = zres 104 ((75, 2, 0, .istore 5) :: (77, 2, 0, .iload 5) :: (79, 3, 92, .ifCond .eq 13) :: (82, 1, 0, .aload_n 0) :: (83, 3, 197, .getfield 37) :: (86, 1, 0, .iload_n 3) :: (87, 1, 0, .aaload) :: (88, 2, 0, .iload 4) :: (90, 1, 0, .iconst 0) :: (91, 1, 0, .iastore) :: C_X6_letHappen_92) ls st σ := rfl
theorem U_X6_letHappen_92 (ls st : List zV) (σ : zM) : zres 104 C_X6_letHappen_92 ls st σ = zres 104 ((92, 3, 0, .iinc 4 1) :: (95, 3, 16, .goto (-79)) :: C_X6_letHappen_98) ls st σ := rfl
theorem U_X6_letHappen_98 (ls st : List zV) (σ : zM) : zres 104 C_X6_letHappen_98 ls st σ = zres 104 ((98, 3, 0, .iinc 3 1) :: (101, 3, 2, .goto (-99)) :: C_X6_letHappen_104) ls st σ := rfl
theorem U_X6_letHappen_104 (ls st : List zV) (σ : zM) : zres 104 C_X6_letHappen_104 ls st σ = zres 104 ((104, 1, 0, .return_) :: []) ls st σ := rfl
theorem S_X6_letHappen (c a0 a1 : Int) (σ : zM) : zcall 104 [vR c, vI a0, vI a1] σ = zres 104 C_X6_letHappen_0 [vR c, vI a0, vI a1, vU, vU, vU] [] σ := by
  unfold zcall zloc
  rw [G_X6_letHappen, M_X6_letHappen.2.1]
  rfl
theorem J_X7_in_0 : zjump 105 0 = C_X7_in_0 := by decide +kernel
theorem J_X7_in_17 : zjump 105 17 = C_X7_in_17 := by decide +kernel
theorem J_X7_in_18 : zjump 105 18 = C_X7_in_18 := by decide +kernel
theorem U_X7_in_0 (ls st : List zV) (σ : zM) : zres 105 C_X7_in_0 ls st σ = zres 105 ((0, 1, 0, .lload_n 0) :: (1, 1, 0, .lload_n 2) :: (2, 1, 0, .lcmp) :: (3, 3, 17, .ifCond .lt 14) :: (6, 1, 0, .lload_n 0) :: (7, 2, 0, .lload 4) :: (9, 1, 0, .lcmp) :: (10, 3, 17, .ifCond .gt 7) :: (13, 1, 1, .iconst 1) :: (14, 3, 18, .goto 4) :: C_X7_in_17) ls st σ := rfl
theorem U_X7_in_17 (ls st : List zV) (σ : zM) : zres 105 C_X7_in_17 ls st σ = zres 105 ((17, 1, 0, .iconst 0) :: C_X7_in_18) ls st σ := rfl
theorem U_X7_in_18 (ls st : List zV) (σ : zM) : zres 105 C_X7_in_18 ls st σ = zres 105 ((18, 1, 1, .ireturn) :: []) ls st σ := rfl
theorem S_X7_in (a0 a1 a2 : Int) (σ : zM) : zcall 105 [vL a0, vL a1, vL a2] σ = zres 105 C_X7_in_0 [vL a0, vU, vL a1, vU, vL a2, vU] [] σ := by
  unfold zcall zloc
  rw [G_X7_in, M_X7_in.2.1]
  rfl
theorem J_X7_isParty_0 : zjump 106 0 = C_X7_isParty_0 := by decide +kernel
theorem U_X7_isParty_0 (ls st : List zV) (σ : zM) : zres 106 C_X7_isParty_0 ls st σ = zres 106 ((0, 1, 0, .iload_n 1) :: (1, 1, 0, .i2l) :: (2, 1, 0, .lconst 0) :: (3, 1, 0, .aload_n 0) :: (4, 3, 224, .getfield 11) :: (7, 1, 0, .iconst 0) :: (8, 1, 0, .iaload) :: (9, 1, 1, .iconst 1) :: (10, 1, 0, .isub) :: (11, 1, 0, .i2l) :: (12, 3, 105, .invokestatic 47) :: (15, 1, 1, .ireturn) :: []) ls st σ := rfl
theorem S_X7_isParty (c a0 : Int) (σ : zM) : zcall 106 [vR c, vI a0] σ = zres 106 C_X7_isParty_0 [vR c, vI a0] [] σ := by
  unfold zcall zloc
  rw [G_X7_isParty, M_X7_isParty.2.1]
  rfl
theorem J_X7_isThing_0 : zjump 107 0 = C_X7_isThing_0 := by decide +kernel
theorem U_X7_isThing_0 (ls st : List zV) (σ : zM) : zres 107 C_X7_isThing_0 ls st σ = zres 107 ((0, 1, 0, .iload_n 1) :: (1, 1, 0, .i2l) :: (2, 1, 0, .lconst 0) :: (3, 1, 0, .aload_n 0) :: (4, 3, 224, .getfield 11) :: (7, 1, 1, .iconst 1) :: (8, 1, 0, .iaload) :: (9, 1, 1, .iconst 1) :: (10, 1, 0, .isub) :: (11, 1, 0, .i2l) :: (12, 3, 105, .invokestatic 47) :: (15, 1, 1, .ireturn) :: []) ls st σ := rfl
theorem S_X7_isThing (c a0 : Int) (σ : zM) : zcall 107 [vR c, vI a0] σ = zres 107 C_X7_isThing_0 [vR c, vI a0] [] σ := by
  unfold zcall zloc
  rw [G_X7_isThing, M_X7_isThing.2.1]
  rfl
theorem J_X7_areTwo_0 : zjump 108 0 = C_X7_areTwo_0 := by decide +kernel
theorem J_X7_areTwo_25 : zjump 108 25 = C_X7_areTwo_25 := by decide +kernel
theorem J_X7_areTwo_26 : zjump 108 26 = C_X7_areTwo_26 := by decide +kernel
theorem U_X7_areTwo_0 (ls st : List zV) (σ : zM) : zres 108 C_X7_areTwo_0 ls st σ = zres 108 ((0, 1, 0, .aload_n 0) :: (1, 1, 0, .iload_n 1) :: (2, 3, 106, .invokevirtual 51) :: (5, 3, 25, .ifCond .eq 20) :: (8, 1, 0, .aload_n 0) :: (9, 1, 0, .iload_n 2) :: (10, 3, 106, .invokevirtual 51) :: (13, 3, 25, .ifCond .eq 12) :: (16, 1, 0, .iload_n 1) :: (17, 1, 0, .iload_n 2) :: (18, 3, 25, .if_icmp .eq 7) :: (21, 1, 1, .iconst 1) :: (22, 3, 26, .goto 4) :: C_X7_areTwo_25) ls st σ := rfl
theorem U_X7_areTwo_25 (ls st : List zV) (σ : zM) : zres 108 C_X7_areTwo_25 ls st σ = zres 108 ((25, 1, 0, .iconst 0) :: C_X7_areTwo_26) ls st σ := rfl
theorem U_X7_areTwo_26 (ls st : List zV) (σ : zM) : zres 108 C_X7_areTwo_26 ls st σ = zres 108 ((26, 1, 1, .ireturn) :: []) ls st σ := rfl
theorem S_X7_areTwo (c a0 a1 : Int) (σ : zM) : zcall 108 [vR c, vI a0, vI a1] σ = zres 108 C_X7_areTwo_0 [vR c, vI a0, vI a1] [] σ := by
  unfold zcall zloc
  rw [G_X7_areTwo, M_X7_areTwo.2.1]
  rfl
theorem J_X7_isPart_0 : zjump 109 0 = C_X7_isPart_0 := by decide +kernel
theorem J_X7_isPart_9 : zjump 109 9 = C_X7_isPart_9 := by decide +kernel
theorem J_X7_isPart_13 : zjump 109 13 = C_X7_isPart_13 := by decide +kernel
theorem J_X7_isPart_14 : zjump 109 14 = C_X7_isPart_14 := by decide +kernel
theorem U_X7_isPart_0 (ls st : List zV) (σ : zM) : zres 109 C_X7_isPart_0 ls st σ = zres 109 ((0, 1, 0, .iload_n 0) :: (1, 3, 9, .ifCond .eq 8) :: (4, 1, 0, .iload_n 0) :: (5, 1, 1, .iconst 1) :: (6, 3, 13, .if_icmp .ne 7) :: C_X7_isPart_9) ls st σ := rfl
theorem U_X7_isPart_9 (ls st : List zV) (σ : zM) : zres 109 C_X7_isPart_9 ls st σ = zres 109 ((9, 1, 1, .iconst 1) :: (10, 3, 14, .goto 4) :: C_X7_isPart_13) ls st σ := rfl
theorem U_X7_isPart_13 (ls st : List zV) (σ : zM) : zres 109 C_X7_isPart_13 ls st σ = zres 109 ((13, 1, 0, .iconst 0) :: C_X7_isPart_14) ls st σ := rfl
theorem U_X7_isPart_14 (ls st : List zV) (σ : zM) : zres 109 C_X7_isPart_14 ls st σ = zres 109 ((14, 1, 1, .ireturn) :: []) ls st σ := rfl
theorem S_X7_isPart (a0 : Int) (σ : zM) : zcall 109 [vI a0] σ = zres 109 C_X7_isPart_0 [vI a0] [] σ := by
  unfold zcall zloc
  rw [G_X7_isPart, M_X7_isPart.2.1]
  rfl
theorem J_X7_parties_0 : zjump 110 0 = C_X7_parties_0 := by decide +kernel
theorem J_X7_parties_17 : zjump 110 17 = C_X7_parties_17 := by decide +kernel
theorem U_X7_parties_0 (ls st : List zV) (σ : zM) : zres 110 C_X7_parties_0 ls st σ = zres 110 ((0, 1, 0, .iload_n 1) :: (1, 1, 0, .i2l) :: (2, 3, 2, .ldc2_w 55) :: (5, 3, 4, .ldc2_w 57) :: (8, 3, 105, .invokestatic 47) :: (11, 3, 17, .ifCond .ne 6) :: (14, 2, (-2), .bipush (-2)) :: (16, 1, 0, .ireturn) :: C_X7_parties_17) ls st σ := rfl
theorem U_X7_parties_17 (ls st : List zV) (σ : zM) : zres 110 C_X7_parties_17 ls st σ = zres 110 ((17, 1, 0, .aload_n 0) :: (18, 3, 224, .getfield 11) :: (21, 1, 0, .iconst 0) :: (22, 1, 0, .iaload) :: (23, 1, 0, .istore_n 2) :: (24, 1, 0, .aload_n 0) :: (25, 3, 224, .getfield 11) :: (28, 1, 0, .iconst 0) :: (29, 1, 0, .iload_n 1) :: (30, 1, 0, .iastore) :: (31, 1, 0, .aload_n 0) :: (32, 3, 224, .getfield 11) :: (35, 1, 1, .iconst 1) :: (36, 1, 0, .iconst 0) :: (37, 1, 0, .iastore) :: (38, 1, 0, .aload_n 0) :: (39, 3, 224, .getfield 11) :: (42, 1, 2, .iconst 2) :: (43, 1, 0, .iconst 0) :: (44, 1, 0, .iastore) :: (45, 1, 0, .aload_n 0) :: (46, 3, 224, .getfield 11) :: (49, 1, 3, .iconst 3) :: (50, 1, 0, .iconst 0) :: (51, 1, 0, .iastore) :: (52, 1, 0, .aload_n 0) :: (53, 3, 224, .getfield 11) :: (56, 1, 4, .iconst 4) :: (57, 1, 0, .iconst 0) :: (58, 1, 0, .iastore) :: (59, 1, 0, .iload_n 2) :: (60, 1, 0, .ireturn) :: []) ls st σ := rfl
theorem S_X7_parties (c a0 : Int) (σ : zM) : zcall 110 [vR c, vI a0] σ = zres 110 C_X7_parties_0 [vR c, vI a0, vU] [] σ := by
  unfold zcall zloc
  rw [G_X7_parties, M_X7_parties.2.1]
  rfl
theorem J_X7_thing_0 : zjump 111 0 = C_X7_thing_0 := by decide +kernel
theorem J_X7_thing_16 : zjump 111 16 = C_X7_thing_16 := by decide +kernel
theorem J_X7_thing_18 : zjump 111 18 = C_X7_thing_18 := by decide +kernel
theorem J_X7_thing_44 : zjump 111 44 = C_X7_thing_44 := by decide +kernel
theorem U_X7_thing_0 (ls st : List zV) (σ : zM) : zres 111 C_X7_thing_0 ls st σ = zres 111 ((0, 1, 0, .aload_n 0) :: (1, 3, 224, .getfield 11) :: (4, 1, 1, .iconst 1) :: (5, 1, 0, .iaload) :: (6, 1, 0, .istore_n 1) :: (7, 1, 0, .iload_n 1) :: (8, 2, 6, .bipush 6) :: (10, 3, 16, .if_icmp .ne 6) :: (13, 2, (-4), .bipush (-4)) :: (15, 1, 0, .ireturn) :: C_X7_thing_16) ls st σ := rfl
theorem U_X7_thing_16 (ls st : List zV) (σ : zM) : zres 111 C_X7_thing_16 ls st σ = zres 111 ((16, 1, 0, .iconst 0) :: (17, 1, 0, .istore_n 2) :: C_X7_thing_18) ls st σ := rfl
theorem U_X7_thing_18 (ls st : List zV) (σ : zM) : zres 111 C_X7_thing_18 ls st σ = zres 111 ((18, 1, 0, .iload_n 2) :: (19, 1, 4, .iconst 4) :: (20, 3, 44, .if_icmp .ge 24) :: (23, 1, 0, .aload_n 0) :: (24, 3, 224, .getfield 11) :: (27, 2, 29, .bipush 29) :: (29, 2, 6, .bipush 6) :: (31, 1, 0, .iload_n 2) :: (32, 1, 0, .imul) :: (33, 1, 0, .iadd) :: (34, 1, 0, .iload_n 1) :: (35, 1, 0, .iadd) :: (36, 1, 0, .iconst 0) :: (37, 1, 0, .iastore) :: (38, 3, 0, .iinc 2 1) :: (41, 3, 18, .goto (-23)) :: C_X7_thing_44) ls st σ := rfl
theorem U_X7_thing_44 (ls st : List zV) (σ : zM) : zres 111 C_X7_thing_44 ls st σ = zres 111 ((44, 1, 0, .aload_n 0) :: (45, 1, 0, .iload_n 1) :: (46, 1, (-1), .iconst (-1)) :: (47, 3, 112, .invokevirtual 59) :: (50, 1, 0, .aload_n 0) :: (51, 3, 224, .getfield 11) :: (54, 1, 1, .iconst 1) :: (55, 1, 0, .dup2) :: (56, 1, 0, .iaload) :: (57, 1, 1, .iconst 1) :: (58, 1, 0, .iadd) :: (59, 1, 0, .iastore) :: (60, 1, 0, .iload_n 1) :: (61, 1, 0, .ireturn) :: []) ls st σ := rfl
theorem S_X7_thing (c : Int) (σ : zM) : zcall 111 [vR c] σ = zres 111 C_X7_thing_0 [vR c, vU, vU] [] σ := by
  unfold zcall zloc
  rw [G_X7_thing, M_X7_thing.2.1]
  rfl
theorem J_X7_holds_0 : zjump 112 0 = C_X7_holds_0 := by decide +kernel
theorem U_X7_holds_0 (ls st : List zV) (σ : zM) : zres 112 C_X7_holds_0 ls st σ = zres 112 ((0, 1, 0, .aload_n 0) :: (1, 3, 224, .getfield 11) :: (4, 1, 5, .iconst 5) :: (5, 1, 0, .iload_n 1) :: (6, 1, 0, .iadd) :: (7, 1, 0, .iload_n 2) :: (8, 1, 0, .iastore) :: (9, 1, 0, .aload_n 0) :: (10, 3, 224, .getfield 11) :: (13, 2, 11, .bipush 11) :: (15, 1, 0, .iload_n 1) :: (16, 1, 0, .iadd) :: (17, 1, (-1), .iconst (-1)) :: (18, 1, 0, .iastore) :: (19, 1, 0, .aload_n 0) :: (20, 3, 224, .getfield 11) :: (23, 2, 17, .bipush 17) :: (25, 1, 0, .iload_n 1) :: (26, 1, 0, .iadd) :: (27, 1, 0, .iconst 0) :: (28, 1, 0, .iastore) :: (29, 1, 0, .aload_n 0) :: (30, 3, 224, .getfield 11) :: (33, 2, 23, .bipush 23) :: (35, 1, 0, .iload_n 1) :: (36, 1, 0, .iadd) :: (37, 1, 1, .iconst 1) :: (38, 1, 0, .iastore) :: (39, 1, 0, .return_) :: []) ls st σ := rfl
theorem S_X7_holds (c a0 a1 : Int) (σ : zM) : zcall 112 [vR c, vI a0, vI a1] σ = zres 112 C_X7_holds_0 [vR c, vI a0, vI a1] [] σ := by
  unfold zcall zloc
  rw [G_X7_holds, M_X7_holds.2.1]
  rfl
theorem J_X7_pointsOf_0 : zjump 113 0 = C_X7_pointsOf_0 := by decide +kernel
theorem U_X7_pointsOf_0 (ls st : List zV) (σ : zM) : zres 113 C_X7_pointsOf_0 ls st σ = zres 113 ((0, 1, 0, .aload_n 0) :: (1, 3, 224, .getfield 11) :: (4, 2, 29, .bipush 29) :: (6, 2, 6, .bipush 6) :: (8, 1, 0, .iload_n 1) :: (9, 1, 0, .imul) :: (10, 1, 0, .iadd) :: (11, 1, 0, .iload_n 2) :: (12, 1, 0, .iadd) :: (13, 1, 0, .iaload) :: (14, 1, 0, .ireturn) :: []) ls st σ := rfl
theorem S_X7_pointsOf (c a0 a1 : Int) (σ : zM) : zcall 113 [vR c, vI a0, vI a1] σ = zres 113 C_X7_pointsOf_0 [vR c, vI a0, vI a1] [] σ := by
  unfold zcall zloc
  rw [G_X7_pointsOf, M_X7_pointsOf.2.1]
  rfl
theorem J_X7_point_0 : zjump 114 0 = C_X7_point_0 := by decide +kernel
theorem J_X7_point_16 : zjump 114 16 = C_X7_point_16 := by decide +kernel
theorem J_X7_point_18 : zjump 114 18 = C_X7_point_18 := by decide +kernel
theorem J_X7_point_33 : zjump 114 33 = C_X7_point_33 := by decide +kernel
theorem U_X7_point_0 (ls st : List zV) (σ : zM) : zres 114 C_X7_point_0 ls st σ = zres 114 ((0, 1, 0, .aload_n 0) :: (1, 1, 0, .iload_n 1) :: (2, 3, 106, .invokevirtual 51) :: (5, 3, 16, .ifCond .eq 11) :: (8, 1, 0, .aload_n 0) :: (9, 1, 0, .iload_n 2) :: (10, 3, 107, .invokevirtual 63) :: (13, 3, 18, .ifCond .ne 5) :: C_X7_point_16) ls st σ := rfl
theorem U_X7_point_16 (ls st : List zV) (σ : zM) : zres 114 C_X7_point_16 ls st σ = zres 114 ((16, 1, (-1), .iconst (-1)) :: (17, 1, 0, .ireturn) :: C_X7_point_18) ls st σ := rfl
theorem U_X7_point_18 (ls st : List zV) (σ : zM) : zres 114 C_X7_point_18 ls st σ = zres 114 ((18, 1, 0, .iload_n 3) :: (19, 1, 0, .i2l) :: (20, 1, 0, .lconst 0) :: (21, 3, 99, .ldc2_w 66) :: (24, 3, 105, .invokestatic 47) :: (27, 3, 33, .ifCond .ne 6) :: (30, 2, (-2), .bipush (-2)) :: (32, 1, 0, .ireturn) :: C_X7_point_33) ls st σ := rfl
theorem U_X7_point_33 (ls st : List zV) (σ : zM) : zres 114 C_X7_point_33 ls st σ = zres 114 ((33, 1, 0, .aload_n 0) :: (34, 1, 0, .iload_n 1) :: (35, 1, 0, .iload_n 2) :: (36, 3, 113, .invokevirtual 68) :: (39, 2, 0, .istore 4) :: (41, 1, 0, .aload_n 0) :: (42, 3, 224, .getfield 11) :: (45, 2, 29, .bipush 29) :: (47, 2, 6, .bipush 6) :: (49, 1, 0, .iload_n 1) :: (50, 1, 0, .imul) :: (51, 1, 0, .iadd) :: (52, 1, 0, .iload_n 2) :: (53, 1, 0, .iadd) :: (54, 1, 0, .iload_n 3) :: (55, 1, 0, .iastore) :: (56, 2, 0, .iload 4) :: (58, 1, 0, .ireturn) :: []) ls st σ := rfl
theorem S_X7_point (c a0 a1 a2 : Int) (σ : zM) : zcall 114 [vR c, vI a0, vI a1, vI a2] σ = zres 114 C_X7_point_0 [vR c, vI a0, vI a1, vI a2, vU] [] σ := by
  unfold zcall zloc
  rw [G_X7_point, M_X7_point.2.1]
  rfl
theorem J_X7_of_0 : zjump 115 0 = C_X7_of_0 := by decide +kernel
theorem J_X7_of_25 : zjump 115 25 = C_X7_of_25 := by decide +kernel
theorem J_X7_of_26 : zjump 115 26 = C_X7_of_26 := by decide +kernel
theorem U_X7_of_0 (ls st : List zV) (σ : zM) : zres 115 C_X7_of_0 ls st σ = zres 115 ((0, 1, 0, .aload_n 0) :: (1, 1, 0, .iload_n 1) :: (2, 3, 106, .invokevirtual 51) :: (5, 3, 25, .ifCond .eq 20) :: (8, 1, 0, .aload_n 0) :: (9, 1, 0, .iload_n 2) :: (10, 3, 107, .invokevirtual 63) :: (13, 3, 25, .ifCond .eq 12) :: (16, 1, 0, .aload_n 0) :: (17, 1, 0, .iload_n 1) :: (18, 1, 0, .iload_n 2) :: (19, 3, 113, .invokevirtual 68) :: (22, 3, 26, .goto 4) :: C_X7_of_25) ls st σ := rfl
theorem U_X7_of_25 (ls st : List zV) (σ : zM) : zres 115 C_X7_of_25 ls st σ = zres 115 ((25, 1, (-1), .iconst (-1)) :: C_X7_of_26) ls st σ := rfl
theorem U_X7_of_26 (ls st : List zV) (σ : zM) : zres 115 C_X7_of_26 ls st σ = zres 115 ((26, 1, 0, .ireturn) :: []) ls st σ := rfl
theorem S_X7_of (c a0 a1 : Int) (σ : zM) : zcall 115 [vR c, vI a0, vI a1] σ = zres 115 C_X7_of_0 [vR c, vI a0, vI a1] [] σ := by
  unfold zcall zloc
  rw [G_X7_of, M_X7_of.2.1]
  rfl
theorem J_X7_allOf_0 : zjump 116 0 = C_X7_allOf_0 := by decide +kernel
theorem J_X7_allOf_4 : zjump 116 4 = C_X7_allOf_4 := by decide +kernel
theorem J_X7_allOf_29 : zjump 116 29 = C_X7_allOf_29 := by decide +kernel
theorem U_X7_allOf_0 (ls st : List zV) (σ : zM) : zres 116 C_X7_allOf_0 ls st σ = zres 116 ((0, 1, 0, .iconst 0) :: (1, 1, 0, .istore_n 2) :: (2, 1, 0, .iconst 0) :: (3, 1, 0, .istore_n 3) :: C_X7_allOf_4) ls st σ := rfl
theorem U_X7_allOf_4 (ls st : List zV) (σ : zM) : zres 116 C_X7_allOf_4 ls st σ = zres 116 ((4, 1, 0, .iload_n 3) :: (5, 1, 0, .aload_n 0) :: (6, 3, 224, .getfield 11) :: (9, 1, 1, .iconst 1) :: (10, 1, 0, .iaload) :: (11, 3, 29, .if_icmp .ge 18) :: (14, 1, 0, .iload_n 2) :: (15, 1, 0, .aload_n 0) :: (16, 1, 0, .iload_n 1) :: (17, 1, 0, .iload_n 3) :: (18, 3, 113, .invokevirtual 68) :: (21, 1, 0, .iadd) :: (22, 1, 0, .istore_n 2) :: (23, 3, 0, .iinc 3 1) :: (26, 3, 4, .goto (-22)) :: C_X7_allOf_29) ls st σ := rfl
theorem U_X7_allOf_29 (ls st : List zV) (σ : zM) : zres 116 C_X7_allOf_29 ls st σ = zres 116 ((29, 1, 0, .iload_n 2) :: (30, 1, 0, .ireturn) :: []) ls st σ := rfl
theorem S_X7_allOf (c a0 : Int) (σ : zM) : zcall 116 [vR c, vI a0] σ = zres 116 C_X7_allOf_0 [vR c, vI a0, vU, vU] [] σ := by
  unfold zcall zloc
  rw [G_X7_allOf, M_X7_allOf.2.1]
  rfl
theorem J_X7_all_0 : zjump 117 0 = C_X7_all_0 := by decide +kernel
theorem J_X7_all_16 : zjump 117 16 = C_X7_all_16 := by decide +kernel
theorem J_X7_all_17 : zjump 117 17 = C_X7_all_17 := by decide +kernel
theorem U_X7_all_0 (ls st : List zV) (σ : zM) : zres 117 C_X7_all_0 ls st σ = zres 117 ((0, 1, 0, .aload_n 0) :: (1, 1, 0, .iload_n 1) :: (2, 3, 106, .invokevirtual 51) :: (5, 3, 16, .ifCond .eq 11) :: (8, 1, 0, .aload_n 0) :: (9, 1, 0, .iload_n 1) :: (10, 3, 116, .invokevirtual 72) :: (13, 3, 17, .goto 4) :: C_X7_all_16) ls st σ := rfl
theorem U_X7_all_16 (ls st : List zV) (σ : zM) : zres 117 C_X7_all_16 ls st σ = zres 117 ((16, 1, (-1), .iconst (-1)) :: C_X7_all_17) ls st σ := rfl
theorem U_X7_all_17 (ls st : List zV) (σ : zM) : zres 117 C_X7_all_17 ls st σ = zres 117 ((17, 1, 0, .ireturn) :: []) ls st σ := rfl
theorem S_X7_all (c a0 : Int) (σ : zM) : zcall 117 [vR c, vI a0] σ = zres 117 C_X7_all_0 [vR c, vI a0] [] σ := by
  unfold zcall zloc
  rw [G_X7_all, M_X7_all.2.1]
  rfl
theorem J_X7_orNobody_0 : zjump 118 0 = C_X7_orNobody_0 := by decide +kernel
theorem J_X7_orNobody_10 : zjump 118 10 = C_X7_orNobody_10 := by decide +kernel
theorem J_X7_orNobody_11 : zjump 118 11 = C_X7_orNobody_11 := by decide +kernel
theorem U_X7_orNobody_0 (ls st : List zV) (σ : zM) : zres 118 C_X7_orNobody_0 ls st σ = zres 118 ((0, 1, 0, .iload_n 0) :: (1, 1, (-1), .iconst (-1)) :: (2, 3, 10, .if_icmp .ne 8) :: (5, 2, (-5), .bipush (-5)) :: (7, 3, 11, .goto 4) :: C_X7_orNobody_10) ls st σ := rfl
theorem U_X7_orNobody_10 (ls st : List zV) (σ : zM) : zres 118 C_X7_orNobody_10 ls st σ = zres 118 ((10, 1, 0, .iload_n 0) :: C_X7_orNobody_11) ls st σ := rfl
theorem U_X7_orNobody_11 (ls st : List zV) (σ : zM) : zres 118 C_X7_orNobody_11 ls st σ = zres 118 ((11, 1, 0, .ireturn) :: []) ls st σ := rfl
theorem S_X7_orNobody (a0 : Int) (σ : zM) : zcall 118 [vI a0] σ = zres 118 C_X7_orNobody_0 [vI a0] [] σ := by
  unfold zcall zloc
  rw [G_X7_orNobody, M_X7_orNobody.2.1]
  rfl
theorem J_X7_hold_0 : zjump 119 0 = C_X7_hold_0 := by decide +kernel
theorem J_X7_hold_21 : zjump 119 21 = C_X7_hold_21 := by decide +kernel
theorem J_X7_hold_23 : zjump 119 23 = C_X7_hold_23 := by decide +kernel
theorem U_X7_hold_0 (ls st : List zV) (σ : zM) : zres 119 C_X7_hold_0 ls st σ = zres 119 ((0, 1, 0, .aload_n 0) :: (1, 1, 0, .iload_n 1) :: (2, 3, 107, .invokevirtual 63) :: (5, 3, 21, .ifCond .eq 16) :: (8, 1, 0, .iload_n 2) :: (9, 1, (-1), .iconst (-1)) :: (10, 3, 23, .if_icmp .eq 13) :: (13, 1, 0, .aload_n 0) :: (14, 1, 0, .iload_n 2) :: (15, 3, 106, .invokevirtual 51) :: (18, 3, 23, .ifCond .ne 5) :: C_X7_hold_21) ls st σ := rfl
theorem U_X7_hold_21 (ls st : List zV) (σ : zM) : zres 119 C_X7_hold_21 ls st σ = zres 119 ((21, 1, (-1), .iconst (-1)) :: (22, 1, 0, .ireturn) :: C_X7_hold_23) ls st σ := rfl
theorem U_X7_hold_23 (ls st : List zV) (σ : zM) : zres 119 C_X7_hold_23 ls st σ = zres 119 ((23, 1, 0, .aload_n 0) :: (24, 3, 224, .getfield 11) :: (27, 1, 5, .iconst 5) :: (28, 1, 0, .iload_n 1) :: (29, 1, 0, .iadd) :: (30, 1, 0, .iaload) :: (31, 1, 0, .istore_n 3) :: (32, 1, 0, .aload_n 0) :: (33, 1, 0, .iload_n 1) :: (34, 1, 0, .iload_n 2) :: (35, 3, 112, .invokevirtual 59) :: (38, 1, 0, .iload_n 3) :: (39, 3, 118, .invokestatic 76) :: (42, 1, 0, .ireturn) :: []) ls st σ := rfl
theorem S_X7_hold (c a0 a1 : Int) (σ : zM) : zcall 119 [vR c, vI a0, vI a1] σ = zres 119 C_X7_hold_0 [vR c, vI a0, vI a1, vU] [] σ := by
  unfold zcall zloc
  rw [G_X7_hold, M_X7_hold.2.1]
  rfl
theorem J_X7_splits_0 : zjump 120 0 = C_X7_splits_0 := by decide +kernel
theorem J_X7_splits_4 : zjump 120 4 = C_X7_splits_4 := by decide +kernel
theorem J_X7_splits_32 : zjump 120 32 = C_X7_splits_32 := by decide +kernel
theorem J_X7_splits_33 : zjump 120 33 = C_X7_splits_33 := by decide +kernel
theorem J_X7_splits_41 : zjump 120 41 = C_X7_splits_41 := by decide +kernel
theorem U_X7_splits_0 (ls st : List zV) (σ : zM) : zres 120 C_X7_splits_0 ls st σ = zres 120 ((0, 1, 0, .iconst 0) :: (1, 1, 0, .istore_n 1) :: (2, 1, 0, .iconst 0) :: (3, 1, 0, .istore_n 2) :: C_X7_splits_4) ls st σ := rfl
theorem U_X7_splits_4 (ls st : List zV) (σ : zM) : zres 120 C_X7_splits_4 ls st σ = zres 120 ((4, 1, 0, .iload_n 2) :: (5, 1, 0, .aload_n 0) :: (6, 3, 224, .getfield 11) :: (9, 1, 1, .iconst 1) :: (10, 1, 0, .iaload) :: (11, 3, 41, .if_icmp .ge 30) :: (14, 1, 0, .iload_n 1) :: (15, 1, 0, .aload_n 0) :: (16, 3, 224, .getfield 11) :: (19, 2, 11, .bipush 11) :: (21, 1, 0, .iload_n 2) :: (22, 1, 0, .iadd) :: (23, 1, 0, .iaload) :: (24, 1, (-1), .iconst (-1)) :: (25, 3, 32, .if_icmp .ne 7) :: (28, 1, 0, .iconst 0) :: (29, 3, 33, .goto 4) :: C_X7_splits_32) ls st σ := rfl
theorem U_X7_splits_32 (ls st : List zV) (σ : zM) : zres 120 C_X7_splits_32 ls st σ = zres 120 ((32, 1, 1, .iconst 1) :: C_X7_splits_33) ls st σ := rfl
theorem U_X7_splits_33 (ls st : List zV) (σ : zM) : zres 120 C_X7_splits_33 ls st σ = zres 120 ((33, 1, 0, .iadd) :: (34, 1, 0, .istore_n 1) :: (35, 3, 0, .iinc 2 1) :: (38, 3, 4, .goto (-34)) :: C_X7_splits_41) ls st σ := rfl
theorem U_X7_splits_41 (ls st : List zV) (σ : zM) : zres 120 C_X7_splits_41 ls st σ = zres 120 ((41, 1, 0, .iload_n 1) :: (42, 1, 0, .ireturn) :: []) ls st σ := rfl
theorem S_X7_splits (c : Int) (σ : zM) : zcall 120 [vR c] σ = zres 120 C_X7_splits_0 [vR c, vU, vU] [] σ := by
  unfold zcall zloc
  rw [G_X7_splits, M_X7_splits.2.1]
  rfl
theorem J_X7_divisor_0 : zjump 121 0 = C_X7_divisor_0 := by decide +kernel
theorem J_X7_divisor_6 : zjump 121 6 = C_X7_divisor_6 := by decide +kernel
theorem J_X7_divisor_31 : zjump 121 31 = C_X7_divisor_31 := by decide +kernel
theorem U_X7_divisor_0 (ls st : List zV) (σ : zM) : zres 121 C_X7_divisor_0 ls st σ = zres 121 ((0, 1, 0, .lload_n 0) :: (1, 2, 0, .lstore 4) :: (3, 1, 0, .lload_n 2) :: (4, 2, 0, .lstore 6) :: C_X7_divisor_6) ls st σ := rfl
theorem U_X7_divisor_6 (ls st : List zV) (σ : zM) : zres 121 C_X7_divisor_6 ls st σ = zres 121 ((6, 2, 0, .lload 6) :: (8, 1, 0, .lconst 0) :: (9, 1, 0, .lcmp) :: (10, 3, 31, .ifCond .eq 21) :: (13, 2, 0, .lload 4) :: (15, 2, 0, .lload 6) :: (17, 1, 0, .lrem) :: (18, 2, 0, .lstore 8) :: (20, 2, 0, .lload 6) :: (22, 2, 0, .lstore 4) :: (24, 2, 0, .lload 8) :: (26, 2, 0, .lstore 6) :: (28, 3, 6, .goto (-22)) :: C_X7_divisor_31) ls st σ := rfl
theorem U_X7_divisor_31 (ls st : List zV) (σ : zM) : zres 121 C_X7_divisor_31 ls st σ = zres 121 ((31, 2, 0, .lload 4) :: (33, 1, 0, .lreturn) :: []) ls st σ := rfl
theorem S_X7_divisor (a0 a1 : Int) (σ : zM) : zcall 121 [vL a0, vL a1] σ = zres 121 C_X7_divisor_0 [vL a0, vU, vL a1, vU, vU, vU, vU, vU, vU, vU] [] σ := by
  unfold zcall zloc
  rw [G_X7_divisor, M_X7_divisor.2.1]
  rfl
theorem J_X7_lowest_0 : zjump 122 0 = C_X7_lowest_0 := by decide +kernel
theorem J_X7_lowest_9 : zjump 122 9 = C_X7_lowest_9 := by decide +kernel
theorem J_X7_lowest_10 : zjump 122 10 = C_X7_lowest_10 := by decide +kernel
theorem U_X7_lowest_0 (ls st : List zV) (σ : zM) : zres 122 C_X7_lowest_0 ls st σ = zres 122 ((0, 2, 0, .iload 4) :: (2, 3, 9, .ifCond .ne 7) :: (5, 1, 0, .lload_n 0) :: (6, 3, 10, .goto 4) :: C_X7_lowest_9) ls st σ := rfl
theorem U_X7_lowest_9 (ls st : List zV) (σ : zM) : zres 122 C_X7_lowest_9 ls st σ = zres 122 ((9, 1, 0, .lload_n 2) :: C_X7_lowest_10) ls st σ := rfl
theorem U_X7_lowest_10 (ls st : List zV) (σ : zM) : zres 122 C_X7_lowest_10 ls st σ = zres 122 ((10, 1, 0, .lload_n 0) :: (11, 1, 0, .lload_n 2) :: (12, 3, 121, .invokestatic 79) :: (15, 1, 0, .ldiv) :: (16, 1, 0, .lreturn) :: []) ls st σ := rfl
theorem S_X7_lowest (a0 a1 a2 : Int) (σ : zM) : zcall 122 [vL a0, vL a1, vI a2] σ = zres 122 C_X7_lowest_0 [vL a0, vU, vL a1, vU, vI a2] [] σ := by
  unfold zcall zloc
  rw [G_X7_lowest, M_X7_lowest.2.1]
  rfl
theorem J_X7_splits__0 : zjump 123 0 = C_X7_splits__0 := by decide +kernel
theorem U_X7_splits__0 (ls st : List zV) (σ : zM) : zres 123 C_X7_splits__0 ls st σ = zres 123 ((0, 1, 0, .aload_n 0) :: (1, 3, 224, .getfield 11) :: (4, 2, 11, .bipush 11) :: (6, 1, 0, .iload_n 1) :: (7, 1, 0, .iadd) :: (8, 1, 0, .iload_n 2) :: (9, 1, 0, .iastore) :: (10, 1, 0, .aload_n 0) :: (11, 3, 224, .getfield 11) :: (14, 2, 17, .bipush 17) :: (16, 1, 0, .iload_n 1) :: (17, 1, 0, .iadd) :: (18, 1, 0, .lload_n 3) :: (19, 2, 0, .lload 5) :: (21, 1, 0, .iconst 0) :: (22, 3, 122, .invokestatic 83) :: (25, 1, 0, .l2i) :: (26, 1, 0, .iastore) :: (27, 1, 0, .aload_n 0) :: (28, 3, 224, .getfield 11) :: (31, 2, 23, .bipush 23) :: (33, 1, 0, .iload_n 1) :: (34, 1, 0, .iadd) :: (35, 1, 0, .lload_n 3) :: (36, 2, 0, .lload 5) :: (38, 1, 1, .iconst 1) :: (39, 3, 122, .invokestatic 83) :: (42, 1, 0, .l2i) :: (43, 1, 0, .iastore) :: (44, 1, 0, .return_) :: []) ls st σ := rfl
theorem S_X7_splits_ (c a0 a1 a2 a3 : Int) (σ : zM) : zcall 123 [vR c, vI a0, vI a1, vL a2, vL a3] σ = zres 123 C_X7_splits__0 [vR c, vI a0, vI a1, vL a2, vU, vL a3, vU] [] σ := by
  unfold zcall zloc
  rw [G_X7_splits_, M_X7_splits_.2.1]
  rfl
theorem J_X7_split_0 : zjump 124 0 = C_X7_split_0 := by decide +kernel
theorem J_X7_split_16 : zjump 124 16 = C_X7_split_16 := by decide +kernel
theorem J_X7_split_18 : zjump 124 18 = C_X7_split_18 := by decide +kernel
theorem J_X7_split_49 : zjump 124 49 = C_X7_split_49 := by decide +kernel
theorem J_X7_split_52 : zjump 124 52 = C_X7_split_52 := by decide +kernel
theorem J_X7_split_76 : zjump 124 76 = C_X7_split_76 := by decide +kernel
theorem J_X7_split_79 : zjump 124 79 = C_X7_split_79 := by decide +kernel
theorem J_X7_split_102 : zjump 124 102 = C_X7_split_102 := by decide +kernel
theorem U_X7_split_0 (ls st : List zV) (σ : zM) : zres 124 C_X7_split_0 ls st σ = zres 124 ((0, 1, 0, .aload_n 0) :: (1, 1, 0, .iload_n 1) :: (2, 3, 107, .invokevirtual 63) :: (5, 3, 16, .ifCond .eq 11) :: (8, 1, 0, .aload_n 0) :: (9, 1, 0, .iload_n 2) :: (10, 3, 106, .invokevirtual 51) :: (13, 3, 18, .ifCond .ne 5) :: C_X7_split_16) ls st σ := rfl
theorem U_X7_split_16 (ls st : List zV) (σ : zM) : zres 124 C_X7_split_16 ls st σ = zres 124 ((16, 1, (-1), .iconst (-1)) :: (17, 1, 0, .ireturn) :: C_X7_split_18) ls st σ := rfl
theorem U_X7_split_18 (ls st : List zV) (σ : zM) : zres 124 C_X7_split_18 ls st σ = zres 124 ((18, 1, 0, .iload_n 3) :: (19, 1, 0, .i2l) :: (20, 1, 1, .lconst 1) :: (21, 3, 99, .ldc2_w 66) :: (24, 3, 105, .invokestatic 47) :: (27, 3, 49, .ifCond .eq 22) :: (30, 2, 0, .iload 4) :: (32, 1, 0, .i2l) :: (33, 1, 1, .lconst 1) :: (34, 3, 99, .ldc2_w 66) :: (37, 3, 105, .invokestatic 47) :: (40, 3, 49, .ifCond .eq 9) :: (43, 1, 0, .iload_n 3) :: (44, 2, 0, .iload 4) :: (46, 3, 52, .if_icmp .lt 6) :: C_X7_split_49) ls st σ := rfl
theorem U_X7_split_49 (ls st : List zV) (σ : zM) : zres 124 C_X7_split_49 ls st σ = zres 124 ((49, 2, (-2), .bipush (-2)) :: (51, 1, 0, .ireturn) :: C_X7_split_52) ls st σ := rfl
theorem U_X7_split_52 (ls st : List zV) (σ : zM) : zres 124 C_X7_split_52 ls st σ = zres 124 ((52, 1, 0, .aload_n 0) :: (53, 3, 224, .getfield 11) :: (56, 1, 5, .iconst 5) :: (57, 1, 0, .iload_n 1) :: (58, 1, 0, .iadd) :: (59, 1, 0, .iaload) :: (60, 1, (-1), .iconst (-1)) :: (61, 3, 76, .if_icmp .eq 15) :: (64, 1, 0, .aload_n 0) :: (65, 3, 224, .getfield 11) :: (68, 1, 5, .iconst 5) :: (69, 1, 0, .iload_n 1) :: (70, 1, 0, .iadd) :: (71, 1, 0, .iaload) :: (72, 1, 0, .iload_n 2) :: (73, 3, 79, .if_icmp .ne 6) :: C_X7_split_76) ls st σ := rfl
theorem U_X7_split_76 (ls st : List zV) (σ : zM) : zres 124 C_X7_split_76 ls st σ = zres 124 ((76, 2, (-3), .bipush (-3)) :: (78, 1, 0, .ireturn) :: C_X7_split_79) ls st σ := rfl
theorem U_X7_split_79 (ls st : List zV) (σ : zM) : zres 124 C_X7_split_79 ls st σ = zres 124 ((79, 1, 0, .aload_n 0) :: (80, 3, 120, .invokevirtual 87) :: (83, 3, 102, .ifCond .le 19) :: (86, 1, 0, .aload_n 0) :: (87, 3, 224, .getfield 11) :: (90, 2, 11, .bipush 11) :: (92, 1, 0, .iload_n 1) :: (93, 1, 0, .iadd) :: (94, 1, 0, .iaload) :: (95, 1, (-1), .iconst (-1)) :: (96, 3, 102, .if_icmp .ne 6) :: (99, 2, (-4), .bipush (-4)) :: (101, 1, 0, .ireturn) :: C_X7_split_102) ls st σ := rfl
theorem U_X7_split_102 (ls st : List zV) (σ : zM) : zres 124 C_X7_split_102 ls st σ = zres 124 ((102, 1, 0, .aload_n 0) :: (103, 1, 0, .iload_n 1) :: (104, 1, 0, .iload_n 2) :: (105, 1, 0, .iload_n 3) :: (106, 1, 0, .i2l) :: (107, 2, 0, .iload 4) :: (109, 1, 0, .i2l) :: (110, 3, 123, .invokevirtual 91) :: (113, 1, 0, .aload_n 0) :: (114, 3, 120, .invokevirtual 87) :: (117, 1, 0, .ireturn) :: []) ls st σ := rfl
theorem S_X7_split (c a0 a1 a2 a3 : Int) (σ : zM) : zcall 124 [vR c, vI a0, vI a1, vI a2, vI a3] σ = zres 124 C_X7_split_0 [vR c, vI a0, vI a1, vI a2, vI a3] [] σ := by
  unfold zcall zloc
  rw [G_X7_split, M_X7_split.2.1]
  rfl
theorem J_X7_holder_0 : zjump 125 0 = C_X7_holder_0 := by decide +kernel
theorem J_X7_holder_18 : zjump 125 18 = C_X7_holder_18 := by decide +kernel
theorem J_X7_holder_20 : zjump 125 20 = C_X7_holder_20 := by decide +kernel
theorem J_X7_holder_32 : zjump 125 32 = C_X7_holder_32 := by decide +kernel
theorem J_X7_holder_34 : zjump 125 34 = C_X7_holder_34 := by decide +kernel
theorem U_X7_holder_0 (ls st : List zV) (σ : zM) : zres 125 C_X7_holder_0 ls st σ = zres 125 ((0, 1, 0, .aload_n 0) :: (1, 1, 0, .iload_n 1) :: (2, 3, 107, .invokevirtual 63) :: (5, 3, 18, .ifCond .eq 13) :: (8, 1, 0, .iload_n 2) :: (9, 1, 0, .i2l) :: (10, 1, 0, .lconst 0) :: (11, 1, 1, .lconst 1) :: (12, 3, 105, .invokestatic 47) :: (15, 3, 20, .ifCond .ne 5) :: C_X7_holder_18) ls st σ := rfl
theorem U_X7_holder_18 (ls st : List zV) (σ : zM) : zres 125 C_X7_holder_18 ls st σ = zres 125 ((18, 1, (-1), .iconst (-1)) :: (19, 1, 0, .ireturn) :: C_X7_holder_20) ls st σ := rfl
theorem U_X7_holder_20 (ls st : List zV) (σ : zM) : zres 125 C_X7_holder_20 ls st σ = zres 125 ((20, 1, 0, .aload_n 0) :: (21, 3, 224, .getfield 11) :: (24, 1, 0, .iload_n 2) :: (25, 3, 32, .ifCond .ne 7) :: (28, 1, 5, .iconst 5) :: (29, 3, 34, .goto 5) :: C_X7_holder_32) ls st σ := rfl
theorem U_X7_holder_32 (ls st : List zV) (σ : zM) : zres 125 C_X7_holder_32 ls st σ = zres 125 ((32, 2, 11, .bipush 11) :: C_X7_holder_34) ls st σ := rfl
theorem U_X7_holder_34 (ls st : List zV) (σ : zM) : zres 125 C_X7_holder_34 ls st σ = zres 125 ((34, 1, 0, .iload_n 1) :: (35, 1, 0, .iadd) :: (36, 1, 0, .iaload) :: (37, 3, 118, .invokestatic 76) :: (40, 1, 0, .ireturn) :: []) ls st σ := rfl
theorem S_X7_holder (c a0 a1 : Int) (σ : zM) : zcall 125 [vR c, vI a0, vI a1] σ = zres 125 C_X7_holder_0 [vR c, vI a0, vI a1] [] σ := by
  unfold zcall zloc
  rw [G_X7_holder, M_X7_holder.2.1]
  rfl
theorem J_X7_heldUp_0 : zjump 126 0 = C_X7_heldUp_0 := by decide +kernel
theorem J_X7_heldUp_23 : zjump 126 23 = C_X7_heldUp_23 := by decide +kernel
theorem J_X7_heldUp_57 : zjump 126 57 = C_X7_heldUp_57 := by decide +kernel
theorem J_X7_heldUp_58 : zjump 126 58 = C_X7_heldUp_58 := by decide +kernel
theorem U_X7_heldUp_0 (ls st : List zV) (σ : zM) : zres 126 C_X7_heldUp_0 ls st σ = zres 126 ((0, 1, 0, .aload_n 0) :: (1, 3, 224, .getfield 11) :: (4, 2, 11, .bipush 11) :: (6, 1, 0, .iload_n 2) :: (7, 1, 0, .iadd) :: (8, 1, 0, .iaload) :: (9, 1, 0, .iload_n 1) :: (10, 3, 23, .if_icmp .ne 13) :: (13, 1, 0, .aload_n 0) :: (14, 3, 224, .getfield 11) :: (17, 2, 17, .bipush 17) :: (19, 1, 0, .iload_n 2) :: (20, 1, 0, .iadd) :: (21, 1, 0, .iaload) :: (22, 1, 0, .ireturn) :: C_X7_heldUp_23) ls st σ := rfl
theorem U_X7_heldUp_23 (ls st : List zV) (σ : zM) : zres 126 C_X7_heldUp_23 ls st σ = zres 126 ((23, 1, 0, .aload_n 0) :: (24, 3, 224, .getfield 11) :: (27, 1, 5, .iconst 5) :: (28, 1, 0, .iload_n 2) :: (29, 1, 0, .iadd) :: (30, 1, 0, .iaload) :: (31, 1, 0, .iload_n 1) :: (32, 3, 57, .if_icmp .ne 25) :: (35, 1, 0, .aload_n 0) :: (36, 3, 224, .getfield 11) :: (39, 2, 23, .bipush 23) :: (41, 1, 0, .iload_n 2) :: (42, 1, 0, .iadd) :: (43, 1, 0, .iaload) :: (44, 1, 0, .aload_n 0) :: (45, 3, 224, .getfield 11) :: (48, 2, 17, .bipush 17) :: (50, 1, 0, .iload_n 2) :: (51, 1, 0, .iadd) :: (52, 1, 0, .iaload) :: (53, 1, 0, .isub) :: (54, 3, 58, .goto 4) :: C_X7_heldUp_57) ls st σ := rfl
theorem U_X7_heldUp_57 (ls st : List zV) (σ : zM) : zres 126 C_X7_heldUp_57 ls st σ = zres 126 ((57, 1, 0, .iconst 0) :: C_X7_heldUp_58) ls st σ := rfl
theorem U_X7_heldUp_58 (ls st : List zV) (σ : zM) : zres 126 C_X7_heldUp_58 ls st σ = zres 126 ((58, 1, 0, .ireturn) :: []) ls st σ := rfl
theorem S_X7_heldUp (c a0 a1 : Int) (σ : zM) : zcall 126 [vR c, vI a0, vI a1] σ = zres 126 C_X7_heldUp_0 [vR c, vI a0, vI a1] [] σ := by
  unfold zcall zloc
  rw [G_X7_heldUp, M_X7_heldUp.2.1]
  rfl
theorem J_X7_doesHold_0 : zjump 127 0 = C_X7_doesHold_0 := by decide +kernel
theorem J_X7_doesHold_13 : zjump 127 13 = C_X7_doesHold_13 := by decide +kernel
theorem J_X7_doesHold_14 : zjump 127 14 = C_X7_doesHold_14 := by decide +kernel
theorem U_X7_doesHold_0 (ls st : List zV) (σ : zM) : zres 127 C_X7_doesHold_0 ls st σ = zres 127 ((0, 1, 0, .aload_n 0) :: (1, 1, 0, .iload_n 1) :: (2, 1, 0, .iload_n 2) :: (3, 3, 126, .invokevirtual 94) :: (6, 3, 13, .ifCond .le 7) :: (9, 1, 1, .iconst 1) :: (10, 3, 14, .goto 4) :: C_X7_doesHold_13) ls st σ := rfl
theorem U_X7_doesHold_13 (ls st : List zV) (σ : zM) : zres 127 C_X7_doesHold_13 ls st σ = zres 127 ((13, 1, 0, .iconst 0) :: C_X7_doesHold_14) ls st σ := rfl
theorem U_X7_doesHold_14 (ls st : List zV) (σ : zM) : zres 127 C_X7_doesHold_14 ls st σ = zres 127 ((14, 1, 1, .ireturn) :: []) ls st σ := rfl
theorem S_X7_doesHold (c a0 a1 : Int) (σ : zM) : zcall 127 [vR c, vI a0, vI a1] σ = zres 127 C_X7_doesHold_0 [vR c, vI a0, vI a1] [] σ := by
  unfold zcall zloc
  rw [G_X7_doesHold, M_X7_doesHold.2.1]
  rfl
theorem J_X7_held_0 : zjump 128 0 = C_X7_held_0 := by decide +kernel
theorem J_X7_held_23 : zjump 128 23 = C_X7_held_23 := by decide +kernel
theorem J_X7_held_27 : zjump 128 27 = C_X7_held_27 := by decide +kernel
theorem U_X7_held_0 (ls st : List zV) (σ : zM) : zres 128 C_X7_held_0 ls st σ = zres 128 ((0, 1, 0, .aload_n 0) :: (1, 1, 0, .iload_n 1) :: (2, 3, 106, .invokevirtual 51) :: (5, 3, 23, .ifCond .eq 18) :: (8, 1, 0, .aload_n 0) :: (9, 1, 0, .iload_n 2) :: (10, 3, 107, .invokevirtual 63) :: (13, 3, 23, .ifCond .eq 10) :: (16, 1, 0, .iload_n 3) :: (17, 3, 109, .invokestatic 97) :: (20, 3, 27, .ifCond .ne 7) :: C_X7_held_23) ls st σ := rfl
theorem U_X7_held_23 (ls st : List zV) (σ : zM) : zres 128 C_X7_held_23 ls st σ = zres 128 ((23, 3, (-9223372036854775808), .ldc2_w 100) :: (26, 1, 0, .lreturn) :: C_X7_held_27) ls st σ := rfl
theorem U_X7_held_27 (ls st : List zV) (σ : zM) : zres 128 C_X7_held_27 ls st σ = zres 128 ((27, 1, 0, .aload_n 0) :: (28, 1, 0, .iload_n 1) :: (29, 1, 0, .iload_n 2) :: (30, 3, 126, .invokevirtual 94) :: (33, 1, 0, .i2l) :: (34, 1, 0, .aload_n 0) :: (35, 3, 224, .getfield 11) :: (38, 2, 23, .bipush 23) :: (40, 1, 0, .iload_n 2) :: (41, 1, 0, .iadd) :: (42, 1, 0, .iaload) :: (43, 1, 0, .i2l) :: (44, 1, 0, .iload_n 3) :: (45, 3, 122, .invokestatic 83) :: (48, 1, 0, .lreturn) :: []) ls st σ := rfl
theorem S_X7_held (c a0 a1 a2 : Int) (σ : zM) : zcall 128 [vR c, vI a0, vI a1, vI a2] σ = zres 128 C_X7_held_0 [vR c, vI a0, vI a1, vI a2] [] σ := by
  unfold zcall zloc
  rw [G_X7_held, M_X7_held.2.1]
  rfl
theorem J_X7_bitsOf_0 : zjump 129 0 = C_X7_bitsOf_0 := by decide +kernel
theorem J_X7_bitsOf_4 : zjump 129 4 = C_X7_bitsOf_4 := by decide +kernel
theorem J_X7_bitsOf_30 : zjump 129 30 = C_X7_bitsOf_30 := by decide +kernel
theorem J_X7_bitsOf_31 : zjump 129 31 = C_X7_bitsOf_31 := by decide +kernel
theorem J_X7_bitsOf_39 : zjump 129 39 = C_X7_bitsOf_39 := by decide +kernel
theorem U_X7_bitsOf_0 (ls st : List zV) (σ : zM) : zres 129 C_X7_bitsOf_0 ls st σ = zres 129 ((0, 1, 0, .iconst 0) :: (1, 1, 0, .istore_n 2) :: (2, 1, 0, .iconst 0) :: (3, 1, 0, .istore_n 3) :: C_X7_bitsOf_4) ls st σ := rfl
theorem U_X7_bitsOf_4 (ls st : List zV) (σ : zM) : zres 129 C_X7_bitsOf_4 ls st σ = zres 129 ((4, 1, 0, .iload_n 3) :: (5, 1, 0, .aload_n 0) :: (6, 3, 224, .getfield 11) :: (9, 1, 1, .iconst 1) :: (10, 1, 0, .iaload) :: (11, 3, 39, .if_icmp .ge 28) :: (14, 1, 0, .iload_n 2) :: (15, 1, 0, .aload_n 0) :: (16, 1, 0, .iload_n 1) :: (17, 1, 0, .iload_n 3) :: (18, 3, 127, .invokevirtual 102) :: (21, 3, 30, .ifCond .eq 9) :: (24, 1, 1, .iconst 1) :: (25, 1, 0, .iload_n 3) :: (26, 1, 0, .ishl) :: (27, 3, 31, .goto 4) :: C_X7_bitsOf_30) ls st σ := rfl
theorem U_X7_bitsOf_30 (ls st : List zV) (σ : zM) : zres 129 C_X7_bitsOf_30 ls st σ = zres 129 ((30, 1, 0, .iconst 0) :: C_X7_bitsOf_31) ls st σ := rfl
theorem U_X7_bitsOf_31 (ls st : List zV) (σ : zM) : zres 129 C_X7_bitsOf_31 ls st σ = zres 129 ((31, 1, 0, .ior) :: (32, 1, 0, .istore_n 2) :: (33, 3, 0, .iinc 3 1) :: (36, 3, 4, .goto (-32)) :: C_X7_bitsOf_39) ls st σ := rfl
theorem U_X7_bitsOf_39 (ls st : List zV) (σ : zM) : zres 129 C_X7_bitsOf_39 ls st σ = zres 129 ((39, 1, 0, .iload_n 2) :: (40, 1, 0, .ireturn) :: []) ls st σ := rfl
theorem S_X7_bitsOf (c a0 : Int) (σ : zM) : zcall 129 [vR c, vI a0] σ = zres 129 C_X7_bitsOf_0 [vR c, vI a0, vU, vU] [] σ := by
  unfold zcall zloc
  rw [G_X7_bitsOf, M_X7_bitsOf.2.1]
  rfl
theorem J_X7_lowOfAll_0 : zjump 130 0 = C_X7_lowOfAll_0 := by decide +kernel
theorem J_X7_lowOfAll_4 : zjump 130 4 = C_X7_lowOfAll_4 := by decide +kernel
theorem J_X7_lowOfAll_33 : zjump 130 33 = C_X7_lowOfAll_33 := by decide +kernel
theorem U_X7_lowOfAll_0 (ls st : List zV) (σ : zM) : zres 130 C_X7_lowOfAll_0 ls st σ = zres 130 ((0, 1, 1, .lconst 1) :: (1, 1, 0, .lstore_n 1) :: (2, 1, 0, .iconst 0) :: (3, 1, 0, .istore_n 3) :: C_X7_lowOfAll_4) ls st σ := rfl
theorem U_X7_lowOfAll_4 (ls st : List zV) (σ : zM) : zres 130 C_X7_lowOfAll_4 ls st σ = zres 130 ((4, 1, 0, .iload_n 3) :: (5, 1, 0, .aload_n 0) :: (6, 3, 224, .getfield 11) :: (9, 1, 1, .iconst 1) :: (10, 1, 0, .iaload) :: (11, 3, 33, .if_icmp .ge 22) :: (14, 1, 0, .lload_n 1) :: (15, 1, 0, .aload_n 0) :: (16, 3, 224, .getfield 11) :: (19, 2, 23, .bipush 23) :: (21, 1, 0, .iload_n 3) :: (22, 1, 0, .iadd) :: (23, 1, 0, .iaload) :: (24, 1, 0, .i2l) :: (25, 1, 0, .lmul) :: (26, 1, 0, .lstore_n 1) :: (27, 3, 0, .iinc 3 1) :: (30, 3, 4, .goto (-26)) :: C_X7_lowOfAll_33) ls st σ := rfl
theorem U_X7_lowOfAll_33 (ls st : List zV) (σ : zM) : zres 130 C_X7_lowOfAll_33 ls st σ = zres 130 ((33, 1, 0, .lload_n 1) :: (34, 1, 0, .lreturn) :: []) ls st σ := rfl
theorem S_X7_lowOfAll (c : Int) (σ : zM) : zcall 130 [vR c] σ = zres 130 C_X7_lowOfAll_0 [vR c, vU, vU, vU] [] σ := by
  unfold zcall zloc
  rw [G_X7_lowOfAll, M_X7_lowOfAll.2.1]
  rfl
theorem J_X7_worth_0 : zjump 131 0 = C_X7_worth_0 := by decide +kernel
theorem J_X7_worth_11 : zjump 131 11 = C_X7_worth_11 := by decide +kernel
theorem J_X7_worth_64 : zjump 131 64 = C_X7_worth_64 := by decide +kernel
theorem U_X7_worth_0 (ls st : List zV) (σ : zM) : zres 131 C_X7_worth_0 ls st σ = zres 131 ((0, 1, 0, .aload_n 0) :: (1, 3, 130, .invokevirtual 106) :: (4, 1, 0, .lstore_n 3) :: (5, 1, 0, .lconst 0) :: (6, 2, 0, .lstore 5) :: (8, 1, 0, .iconst 0) :: (9, 2, 0, .istore 7) :: C_X7_worth_11) ls st σ := rfl
theorem U_X7_worth_11 (ls st : List zV) (σ : zM) : zres 131 C_X7_worth_11 ls st σ = zres 131 ((11, 2, 0, .iload 7) :: (13, 1, 0, .aload_n 0) :: (14, 3, 224, .getfield 11) :: (17, 1, 1, .iconst 1) :: (18, 1, 0, .iaload) :: (19, 3, 64, .if_icmp .ge 45) :: (22, 2, 0, .lload 5) :: (24, 1, 0, .aload_n 0) :: (25, 1, 0, .iload_n 1) :: (26, 2, 0, .iload 7) :: (28, 3, 113, .invokevirtual 68) :: (31, 1, 0, .i2l) :: (32, 1, 0, .lload_n 3) :: (33, 1, 0, .aload_n 0) :: (34, 3, 224, .getfield 11) :: (37, 2, 23, .bipush 23) :: (39, 2, 0, .iload 7) :: (41, 1, 0, .iadd) :: (42, 1, 0, .iaload) :: (43, 1, 0, .i2l) :: (44, 1, 0, .ldiv) :: (45, 1, 0, .lmul) :: (46, 1, 0, .aload_n 0) :: (47, 1, 0, .iload_n 2) :: (48, 2, 0, .iload 7) :: (50, 3, 126, .invokevirtual 94) :: (53, 1, 0, .i2l) :: (54, 1, 0, .lmul) :: (55, 1, 0, .ladd) :: (56, 2, 0, .lstore 5) :: (58, 3, 0, .iinc 7 1) :: (61, 3, 11, .goto (-50)) :: C_X7_worth_64) ls st σ := rfl
theorem U_X7_worth_64 (ls st : List zV) (σ : zM) : zres 131 C_X7_worth_64 ls st σ = zres 131 ((64, 2, 0, .lload 5) :: (66, 1, 0, .lreturn) :: []) ls st σ := rfl
theorem S_X7_worth (c a0 a1 : Int) (σ : zM) : zcall 131 [vR c, vI a0, vI a1] σ = zres 131 C_X7_worth_0 [vR c, vI a0, vI a1, vU, vU, vU, vU, vU] [] σ := by
  unfold zcall zloc
  rw [G_X7_worth, M_X7_worth.2.1]
  rfl
theorem J_X7_share_0 : zjump 132 0 = C_X7_share_0 := by decide +kernel
theorem J_X7_share_23 : zjump 132 23 = C_X7_share_23 := by decide +kernel
theorem J_X7_share_27 : zjump 132 27 = C_X7_share_27 := by decide +kernel
theorem J_X7_share_39 : zjump 132 39 = C_X7_share_39 := by decide +kernel
theorem J_X7_share_60 : zjump 132 60 = C_X7_share_60 := by decide +kernel
theorem U_X7_share_0 (ls st : List zV) (σ : zM) : zres 132 C_X7_share_0 ls st σ = zres 132 ((0, 1, 0, .aload_n 0) :: (1, 1, 0, .iload_n 1) :: (2, 3, 106, .invokevirtual 51) :: (5, 3, 23, .ifCond .eq 18) :: (8, 1, 0, .aload_n 0) :: (9, 1, 0, .iload_n 2) :: (10, 3, 106, .invokevirtual 51) :: (13, 3, 23, .ifCond .eq 10) :: (16, 1, 0, .iload_n 3) :: (17, 3, 109, .invokestatic 97) :: (20, 3, 27, .ifCond .ne 7) :: C_X7_share_23) ls st σ := rfl
theorem U_X7_share_23 (ls st : List zV) (σ : zM) : zres 132 C_X7_share_23 ls st σ = zres 132 ((23, 3, (-9223372036854775808), .ldc2_w 100) :: (26, 1, 0, .lreturn) :: C_X7_share_27) ls st σ := rfl
theorem U_X7_share_27 (ls st : List zV) (σ : zM) : zres 132 C_X7_share_27 ls st σ = zres 132 ((27, 1, 0, .aload_n 0) :: (28, 1, 0, .iload_n 1) :: (29, 3, 116, .invokevirtual 72) :: (32, 3, 39, .ifCond .ne 7) :: (35, 1, 1, .lconst 1) :: (36, 3, 60, .goto 24) :: C_X7_share_39) ls st σ := rfl
theorem U_X7_share_39 (ls st : List zV) (σ : zM) : zres 132 C_X7_share_39 ls st σ = zres 132 ((39, 1, 0, .aload_n 0) :: (40, 1, 0, .iload_n 1) :: (41, 1, 0, .iload_n 2) :: (42, 3, 131, .invokevirtual 110) :: (45, 1, 0, .aload_n 0) :: (46, 1, 0, .iload_n 1) :: (47, 3, 116, .invokevirtual 72) :: (50, 1, 0, .i2l) :: (51, 1, 0, .aload_n 0) :: (52, 3, 130, .invokevirtual 106) :: (55, 1, 0, .lmul) :: (56, 1, 0, .iload_n 3) :: (57, 3, 122, .invokestatic 83) :: C_X7_share_60) ls st σ := rfl
theorem U_X7_share_60 (ls st : List zV) (σ : zM) : zres 132 C_X7_share_60 ls st σ = zres 132 ((60, 1, 0, .lreturn) :: []) ls st σ := rfl
theorem S_X7_share (c a0 a1 a2 : Int) (σ : zM) : zcall 132 [vR c, vI a0, vI a1, vI a2] σ = zres 132 C_X7_share_0 [vR c, vI a0, vI a1, vI a2] [] σ := by
  unfold zcall zloc
  rw [G_X7_share, M_X7_share.2.1]
  rfl
theorem J_X7_isWanting_0 : zjump 133 0 = C_X7_isWanting_0 := by decide +kernel
theorem J_X7_isWanting_25 : zjump 133 25 = C_X7_isWanting_25 := by decide +kernel
theorem J_X7_isWanting_26 : zjump 133 26 = C_X7_isWanting_26 := by decide +kernel
theorem U_X7_isWanting_0 (ls st : List zV) (σ : zM) : zres 133 C_X7_isWanting_0 ls st σ = zres 133 ((0, 1, 0, .aload_n 0) :: (1, 1, 0, .iload_n 1) :: (2, 1, 0, .iload_n 2) :: (3, 3, 113, .invokevirtual 68) :: (6, 3, 25, .ifCond .le 19) :: (9, 1, 0, .aload_n 0) :: (10, 3, 224, .getfield 11) :: (13, 1, 5, .iconst 5) :: (14, 1, 0, .iload_n 2) :: (15, 1, 0, .iadd) :: (16, 1, 0, .iaload) :: (17, 1, (-1), .iconst (-1)) :: (18, 3, 25, .if_icmp .ne 7) :: (21, 1, 1, .iconst 1) :: (22, 3, 26, .goto 4) :: C_X7_isWanting_25) ls st σ := rfl
theorem U_X7_isWanting_25 (ls st : List zV) (σ : zM) : zres 133 C_X7_isWanting_25 ls st σ = zres 133 ((25, 1, 0, .iconst 0) :: C_X7_isWanting_26) ls st σ := rfl
theorem U_X7_isWanting_26 (ls st : List zV) (σ : zM) : zres 133 C_X7_isWanting_26 ls st σ = zres 133 ((26, 1, 1, .ireturn) :: []) ls st σ := rfl
theorem S_X7_isWanting (c a0 a1 : Int) (σ : zM) : zcall 133 [vR c, vI a0, vI a1] σ = zres 133 C_X7_isWanting_0 [vR c, vI a0, vI a1] [] σ := by
  unfold zcall zloc
  rw [G_X7_isWanting, M_X7_isWanting.2.1]
  rfl
theorem J_X7_firstWanting_0 : zjump 134 0 = C_X7_firstWanting_0 := by decide +kernel
theorem J_X7_firstWanting_2 : zjump 134 2 = C_X7_firstWanting_2 := by decide +kernel
theorem J_X7_firstWanting_27 : zjump 134 27 = C_X7_firstWanting_27 := by decide +kernel
theorem U_X7_firstWanting_0 (ls st : List zV) (σ : zM) : zres 134 C_X7_firstWanting_0 ls st σ = zres 134 ((0, 1, 0, .iconst 0) :: (1, 1, 0, .istore_n 2) :: C_X7_firstWanting_2) ls st σ := rfl
theorem U_X7_firstWanting_2 (ls st : List zV) (σ : zM) : zres 134 C_X7_firstWanting_2 ls st σ = zres 134 ((2, 1, 0, .iload_n 2) :: (3, 1, 0, .aload_n 0) :: (4, 3, 224, .getfield 11) :: (7, 1, 1, .iconst 1) :: (8, 1, 0, .iaload) :: (9, 3, 27, .if_icmp .ge 18) :: (12, 1, 0, .aload_n 0) :: (13, 1, 0, .iload_n 1) :: (14, 1, 0, .iload_n 2) :: (15, 3, 133, .invokevirtual 114) :: (18, 3, 27, .ifCond .ne 9) :: (21, 3, 0, .iinc 2 1) :: (24, 3, 2, .goto (-22)) :: C_X7_firstWanting_27) ls st σ := rfl
theorem U_X7_firstWanting_27 (ls st : List zV) (σ : zM) : zres 134 C_X7_firstWanting_27 ls st σ = zres 134 ((27, 1, 0, .iload_n 2) :: (28, 1, 0, .ireturn) :: []) ls st σ := rfl
theorem S_X7_firstWanting (c a0 : Int) (σ : zM) : zcall 134 [vR c, vI a0] σ = zres 134 C_X7_firstWanting_0 [vR c, vI a0, vU] [] σ := by
  unfold zcall zloc
  rw [G_X7_firstWanting, M_X7_firstWanting.2.1]
  rfl
theorem J_X7_envied_0 : zjump 135 0 = C_X7_envied_0 := by decide +kernel
theorem J_X7_envied_2 : zjump 135 2 = C_X7_envied_2 := by decide +kernel
theorem J_X7_envied_36 : zjump 135 36 = C_X7_envied_36 := by decide +kernel
theorem J_X7_envied_42 : zjump 135 42 = C_X7_envied_42 := by decide +kernel
theorem U_X7_envied_0 (ls st : List zV) (σ : zM) : zres 135 C_X7_envied_0 ls st σ = zres 135 ((0, 1, 0, .iconst 0) :: (1, 1, 0, .istore_n 2) :: C_X7_envied_2) ls st σ := rfl
theorem U_X7_envied_2 (ls st : List zV) (σ : zM) : zres 135 C_X7_envied_2 ls st σ = zres 135 ((2, 1, 0, .iload_n 2) :: (3, 1, 0, .aload_n 0) :: (4, 3, 224, .getfield 11) :: (7, 1, 0, .iconst 0) :: (8, 1, 0, .iaload) :: (9, 3, 42, .if_icmp .ge 33) :: (12, 1, 0, .aload_n 0) :: (13, 1, 0, .iload_n 1) :: (14, 3, 116, .invokevirtual 72) :: (17, 3, 36, .ifCond .eq 19) :: (20, 1, 0, .aload_n 0) :: (21, 1, 0, .iload_n 1) :: (22, 1, 0, .iload_n 2) :: (23, 3, 131, .invokevirtual 110) :: (26, 1, 0, .aload_n 0) :: (27, 1, 0, .iload_n 1) :: (28, 1, 0, .iload_n 1) :: (29, 3, 131, .invokevirtual 110) :: (32, 1, 0, .lcmp) :: (33, 3, 42, .ifCond .gt 9) :: C_X7_envied_36) ls st σ := rfl
theorem U_X7_envied_36 (ls st : List zV) (σ : zM) : zres 135 C_X7_envied_36 ls st σ = zres 135 ((36, 3, 0, .iinc 2 1) :: (39, 3, 2, .goto (-37)) :: C_X7_envied_42) ls st σ := rfl
theorem U_X7_envied_42 (ls st : List zV) (σ : zM) : zres 135 C_X7_envied_42 ls st σ = zres 135 ((42, 1, 0, .iload_n 2) :: (43, 1, 0, .ireturn) :: []) ls st σ := rfl
theorem S_X7_envied (c a0 : Int) (σ : zM) : zcall 135 [vR c, vI a0] σ = zres 135 C_X7_envied_0 [vR c, vI a0, vU] [] σ := by
  unfold zcall zloc
  rw [G_X7_envied, M_X7_envied.2.1]
  rfl
theorem J_X7_claimOf_0 : zjump 136 0 = C_X7_claimOf_0 := by decide +kernel
theorem J_X7_claimOf_10 : zjump 136 10 = C_X7_claimOf_10 := by decide +kernel
theorem J_X7_claimOf_26 : zjump 136 26 = C_X7_claimOf_26 := by decide +kernel
theorem J_X7_claimOf_57 : zjump 136 57 = C_X7_claimOf_57 := by decide +kernel
theorem J_X7_claimOf_75 : zjump 136 75 = C_X7_claimOf_75 := by decide +kernel
theorem J_X7_claimOf_76 : zjump 136 76 = C_X7_claimOf_76 := by decide +kernel
theorem U_X7_claimOf_0 (ls st : List zV) (σ : zM) : zres 136 C_X7_claimOf_0 ls st σ = zres 136 ((0, 1, 0, .aload_n 0) :: (1, 1, 0, .iload_n 1) :: (2, 3, 116, .invokevirtual 72) :: (5, 3, 10, .ifCond .ne 5) :: (8, 1, 1, .iconst 1) :: (9, 1, 0, .ireturn) :: C_X7_claimOf_10) ls st σ := rfl
theorem U_X7_claimOf_10 (ls st : List zV) (σ : zM) : zres 136 C_X7_claimOf_10 ls st σ = zres 136 ((10, 1, 0, .aload_n 0) :: (11, 1, 0, .iload_n 1) :: (12, 3, 134, .invokevirtual 117) :: (15, 1, 0, .aload_n 0) :: (16, 3, 224, .getfield 11) :: (19, 1, 1, .iconst 1) :: (20, 1, 0, .iaload) :: (21, 3, 26, .if_icmp .ge 5) :: (24, 1, 2, .iconst 2) :: (25, 1, 0, .ireturn) :: C_X7_claimOf_26) ls st σ := rfl
theorem U_X7_claimOf_26 (ls st : List zV) (σ : zM) : zres 136 C_X7_claimOf_26 ls st σ = zres 136 ((26, 1, 0, .aload_n 0) :: (27, 1, 0, .iload_n 1) :: (28, 1, 0, .iload_n 1) :: (29, 3, 131, .invokevirtual 110) :: (32, 1, 0, .aload_n 0) :: (33, 3, 224, .getfield 11) :: (36, 1, 0, .iconst 0) :: (37, 1, 0, .iaload) :: (38, 1, 0, .i2l) :: (39, 1, 0, .lmul) :: (40, 1, 0, .aload_n 0) :: (41, 1, 0, .iload_n 1) :: (42, 3, 116, .invokevirtual 72) :: (45, 1, 0, .i2l) :: (46, 1, 0, .aload_n 0) :: (47, 3, 130, .invokevirtual 106) :: (50, 1, 0, .lmul) :: (51, 1, 0, .lcmp) :: (52, 3, 57, .ifCond .ge 5) :: (55, 1, 3, .iconst 3) :: (56, 1, 0, .ireturn) :: C_X7_claimOf_57) ls st σ := rfl
theorem U_X7_claimOf_57 (ls st : List zV) (σ : zM) : zres 136 C_X7_claimOf_57 ls st σ = zres 136 ((57, 1, 0, .aload_n 0) :: (58, 1, 0, .iload_n 1) :: (59, 3, 135, .invokevirtual 120) :: (62, 1, 0, .aload_n 0) :: (63, 3, 224, .getfield 11) :: (66, 1, 0, .iconst 0) :: (67, 1, 0, .iaload) :: (68, 3, 75, .if_icmp .ge 7) :: (71, 1, 4, .iconst 4) :: (72, 3, 76, .goto 4) :: C_X7_claimOf_75) ls st σ := rfl
theorem U_X7_claimOf_75 (ls st : List zV) (σ : zM) : zres 136 C_X7_claimOf_75 ls st σ = zres 136 ((75, 1, 0, .iconst 0) :: C_X7_claimOf_76) ls st σ := rfl
theorem U_X7_claimOf_76 (ls st : List zV) (σ : zM) : zres 136 C_X7_claimOf_76 ls st σ = zres 136 ((76, 1, 0, .ireturn) :: []) ls st σ := rfl
theorem S_X7_claimOf (c a0 : Int) (σ : zM) : zcall 136 [vR c, vI a0] σ = zres 136 C_X7_claimOf_0 [vR c, vI a0] [] σ := by
  unfold zcall zloc
  rw [G_X7_claimOf, M_X7_claimOf.2.1]
  rfl
theorem J_X7_ones_0 : zjump 137 0 = C_X7_ones_0 := by decide +kernel
theorem J_X7_ones_4 : zjump 137 4 = C_X7_ones_4 := by decide +kernel
theorem J_X7_ones_24 : zjump 137 24 = C_X7_ones_24 := by decide +kernel
theorem U_X7_ones_0 (ls st : List zV) (σ : zM) : zres 137 C_X7_ones_0 ls st σ = zres 137 ((0, 1, 0, .iconst 0) :: (1, 1, 0, .istore_n 2) :: (2, 1, 0, .iconst 0) :: (3, 1, 0, .istore_n 3) :: C_X7_ones_4) ls st σ := rfl
theorem U_X7_ones_4 (ls st : List zV) (σ : zM) : zres 137 C_X7_ones_4 ls st σ = zres 137 ((4, 1, 0, .iload_n 3) :: (5, 2, 6, .bipush 6) :: (7, 3, 24, .if_icmp .ge 17) :: (10, 1, 0, .iload_n 2) :: (11, 1, 0, .iload_n 1) :: (12, 1, 0, .iload_n 3) :: (13, 1, 0, .ishr) :: (14, 1, 1, .iconst 1) :: (15, 1, 0, .iand) :: (16, 1, 0, .iadd) :: (17, 1, 0, .istore_n 2) :: (18, 3, 0, .iinc 3 1) :: (21, 3, 4, .goto (-17)) :: C_X7_ones_24) ls st σ := rfl
theorem U_X7_ones_24 (ls st : List zV) (σ : zM) : zres 137 C_X7_ones_24 ls st σ = zres 137 ((24, 1, 0, .iload_n 2) :: (25, 1, 0, .ireturn) :: []) ls st σ := rfl
theorem S_X7_ones (c a0 : Int) (σ : zM) : zcall 137 [vR c, vI a0] σ = zres 137 C_X7_ones_0 [vR c, vI a0, vU, vU] [] σ := by
  unfold zcall zloc
  rw [G_X7_ones, M_X7_ones.2.1]
  rfl
theorem J_X7_causeOf_0 : zjump 138 0 = C_X7_causeOf_0 := by decide +kernel
theorem J_X7_causeOf_32 : zjump 138 32 = C_X7_causeOf_32 := by decide +kernel
theorem J_X7_causeOf_45 : zjump 138 45 = C_X7_causeOf_45 := by decide +kernel
theorem J_X7_causeOf_54 : zjump 138 54 = C_X7_causeOf_54 := by decide +kernel
theorem J_X7_causeOf_60 : zjump 138 60 = C_X7_causeOf_60 := by decide +kernel
theorem J_X7_causeOf_69 : zjump 138 69 = C_X7_causeOf_69 := by decide +kernel
theorem U_X7_causeOf_0 (ls st : List zV) (σ : zM) : zres 138 C_X7_causeOf_0 ls st σ = zres 138 ((0, 1, 0, .iload_n 2) :: (1, 31, 0, .tableswitch 68 1 4 #[31, 44, 53, 59]) :: C_X7_causeOf_32) ls st σ := rfl
theorem U_X7_causeOf_32 (ls st : List zV) (σ : zM) : zres 138 C_X7_causeOf_32 ls st σ = zres 138 ((32, 2, 10, .bipush 10) :: (34, 1, 0, .aload_n 0) :: (35, 1, 0, .aload_n 0) :: (36, 1, 0, .iload_n 1) :: (37, 3, 129, .invokevirtual 123) :: (40, 3, 137, .invokevirtual 126) :: (43, 1, 0, .iadd) :: (44, 1, 0, .ireturn) :: C_X7_causeOf_45) ls st σ := rfl
theorem U_X7_causeOf_45 (ls st : List zV) (σ : zM) : zres 138 C_X7_causeOf_45 ls st σ = zres 138 ((45, 2, 10, .bipush 10) :: (47, 1, 0, .aload_n 0) :: (48, 1, 0, .iload_n 1) :: (49, 3, 134, .invokevirtual 117) :: (52, 1, 0, .iadd) :: (53, 1, 0, .ireturn) :: C_X7_causeOf_54) ls st σ := rfl
theorem U_X7_causeOf_54 (ls st : List zV) (σ : zM) : zres 138 C_X7_causeOf_54 ls st σ = zres 138 ((54, 1, 0, .aload_n 0) :: (55, 1, 0, .iload_n 1) :: (56, 3, 129, .invokevirtual 123) :: (59, 1, 0, .ireturn) :: C_X7_causeOf_60) ls st σ := rfl
theorem U_X7_causeOf_60 (ls st : List zV) (σ : zM) : zres 138 C_X7_causeOf_60 ls st σ = zres 138 ((60, 2, 10, .bipush 10) :: (62, 1, 0, .aload_n 0) :: (63, 1, 0, .iload_n 1) :: (64, 3, 135, .invokevirtual 120) :: (67, 1, 0, .iadd) :: (68, 1, 0, .ireturn) :: C_X7_causeOf_69) ls st σ := rfl
theorem U_X7_causeOf_69 (ls st : List zV) (σ : zM) : zres 138 C_X7_causeOf_69 ls st σ = zres 138 ((69, 2, (-5), .bipush (-5)) :: (71, 1, 0, .ireturn) :: []) ls st σ := rfl
theorem S_X7_causeOf (c a0 a1 : Int) (σ : zM) : zcall 138 [vR c, vI a0, vI a1] σ = zres 138 C_X7_causeOf_0 [vR c, vI a0, vI a1] [] σ := by
  unfold zcall zloc
  rw [G_X7_causeOf, M_X7_causeOf.2.1]
  rfl
theorem J_X7_claim_0 : zjump 139 0 = C_X7_claim_0 := by decide +kernel
theorem J_X7_claim_12 : zjump 139 12 = C_X7_claim_12 := by decide +kernel
theorem J_X7_claim_14 : zjump 139 14 = C_X7_claim_14 := by decide +kernel
theorem J_X7_claim_33 : zjump 139 33 = C_X7_claim_33 := by decide +kernel
theorem J_X7_claim_39 : zjump 139 39 = C_X7_claim_39 := by decide +kernel
theorem J_X7_claim_40 : zjump 139 40 = C_X7_claim_40 := by decide +kernel
theorem J_X7_claim_55 : zjump 139 55 = C_X7_claim_55 := by decide +kernel
theorem J_X7_claim_58 : zjump 139 58 = C_X7_claim_58 := by decide +kernel
theorem J_X7_claim_76 : zjump 139 76 = C_X7_claim_76 := by decide +kernel
theorem J_X7_claim_85 : zjump 139 85 = C_X7_claim_85 := by decide +kernel
theorem U_X7_claim_0 (ls st : List zV) (σ : zM) : zres 139 C_X7_claim_0 ls st σ = zres 139 ((0, 1, 0, .aload_n 0) :: (1, 1, 0, .iload_n 1) :: (2, 3, 106, .invokevirtual 51) :: (5, 3, 12, .ifCond .eq 7) :: (8, 1, 0, .iload_n 2) :: (9, 3, 14, .ifCond .ge 5) :: C_X7_claim_12) ls st σ := rfl
theorem U_X7_claim_12 (ls st : List zV) (σ : zM) : zres 139 C_X7_claim_12 ls st σ = zres 139 ((12, 1, (-1), .iconst (-1)) :: (13, 1, 0, .ireturn) :: C_X7_claim_14) ls st σ := rfl
theorem U_X7_claim_14 (ls st : List zV) (σ : zM) : zres 139 C_X7_claim_14 ls st σ = zres 139 ((14, 1, 0, .aload_n 0) :: (15, 1, 0, .iload_n 1) :: (16, 3, 136, .invokevirtual 129) :: (19, 1, 0, .istore_n 3) :: (20, 1, 0, .iload_n 2) :: (21, 1, 2, .iconst 2) :: (22, 3, 40, .if_icmp .ge 18) :: (25, 1, 0, .iload_n 2) :: (26, 3, 33, .ifCond .ne 7) :: (29, 1, 0, .iload_n 3) :: (30, 3, 39, .goto 9) :: C_X7_claim_33) ls st σ := rfl
theorem U_X7_claim_33 (ls st : List zV) (σ : zM) : zres 139 C_X7_claim_33 ls st σ = zres 139 ((33, 1, 0, .aload_n 0) :: (34, 1, 0, .iload_n 1) :: (35, 1, 0, .iload_n 3) :: (36, 3, 138, .invokevirtual 132) :: C_X7_claim_39) ls st σ := rfl
theorem U_X7_claim_39 (ls st : List zV) (σ : zM) : zres 139 C_X7_claim_39 ls st σ = zres 139 ((39, 1, 0, .ireturn) :: C_X7_claim_40) ls st σ := rfl
theorem U_X7_claim_40 (ls st : List zV) (σ : zM) : zres 139 C_X7_claim_40 ls st σ = zres 139 ((40, 1, 0, .iload_n 2) :: (41, 1, 2, .iconst 2) :: (42, 3, 55, .if_icmp .gt 13) :: (45, 1, 0, .iload_n 3) :: (46, 1, 2, .iconst 2) :: (47, 3, 58, .if_icmp .eq 11) :: (50, 1, 0, .iload_n 3) :: (51, 1, 4, .iconst 4) :: (52, 3, 58, .if_icmp .eq 6) :: C_X7_claim_55) ls st σ := rfl
theorem U_X7_claim_55 (ls st : List zV) (σ : zM) : zres 139 C_X7_claim_55 ls st σ = zres 139 ((55, 2, (-5), .bipush (-5)) :: (57, 1, 0, .ireturn) :: C_X7_claim_58) ls st σ := rfl
theorem U_X7_claim_58 (ls st : List zV) (σ : zM) : zres 139 C_X7_claim_58 ls st σ = zres 139 ((58, 1, 0, .iload_n 3) :: (59, 1, 2, .iconst 2) :: (60, 3, 76, .if_icmp .ne 16) :: (63, 1, 0, .aload_n 0) :: (64, 1, 0, .iload_n 1) :: (65, 1, 0, .aload_n 0) :: (66, 1, 0, .iload_n 1) :: (67, 3, 134, .invokevirtual 117) :: (70, 3, 113, .invokevirtual 68) :: (73, 3, 85, .goto 12) :: C_X7_claim_76) ls st σ := rfl
theorem U_X7_claim_76 (ls st : List zV) (σ : zM) : zres 139 C_X7_claim_76 ls st σ = zres 139 ((76, 1, 0, .aload_n 0) :: (77, 1, 0, .aload_n 0) :: (78, 1, 0, .iload_n 1) :: (79, 3, 135, .invokevirtual 120) :: (82, 3, 129, .invokevirtual 123) :: C_X7_claim_85) ls st σ := rfl
theorem U_X7_claim_85 (ls st : List zV) (σ : zM) : zres 139 C_X7_claim_85 ls st σ = zres 139 ((85, 1, 0, .ireturn) :: []) ls st σ := rfl
theorem S_X7_claim (c a0 a1 : Int) (σ : zM) : zcall 139 [vR c, vI a0, vI a1] σ = zres 139 C_X7_claim_0 [vR c, vI a0, vI a1, vU] [] σ := by
  unfold zcall zloc
  rw [G_X7_claim, M_X7_claim.2.1]
  rfl
theorem J_X7_better_0 : zjump 140 0 = C_X7_better_0 := by decide +kernel
theorem J_X7_better_11 : zjump 140 11 = C_X7_better_11 := by decide +kernel
theorem J_X7_better_13 : zjump 140 13 = C_X7_better_13 := by decide +kernel
theorem J_X7_better_26 : zjump 140 26 = C_X7_better_26 := by decide +kernel
theorem J_X7_better_95 : zjump 140 95 = C_X7_better_95 := by decide +kernel
theorem J_X7_better_101 : zjump 140 101 = C_X7_better_101 := by decide +kernel
theorem J_X7_better_107 : zjump 140 107 = C_X7_better_107 := by decide +kernel
theorem U_X7_better_0 (ls st : List zV) (σ : zM) : zres 140 C_X7_better_0 ls st σ = zres 140 ((0, 1, 0, .aload_n 0) :: (1, 1, 0, .iload_n 1) :: (2, 1, 0, .iload_n 2) :: (3, 3, 108, .invokevirtual 135) :: (6, 3, 11, .ifCond .ne 5) :: (9, 1, (-1), .iconst (-1)) :: (10, 1, 0, .ireturn) :: C_X7_better_11) ls st σ := rfl
theorem U_X7_better_11 (ls st : List zV) (σ : zM) : zres 140 C_X7_better_11 ls st σ = zres 140 ((11, 1, 0, .iconst 0) :: (12, 1, 0, .istore_n 3) :: C_X7_better_13) ls st σ := rfl
theorem U_X7_better_13 (ls st : List zV) (σ : zM) : zres 140 C_X7_better_13 ls st σ = zres 140 ((13, 1, 0, .iload_n 3) :: (14, 1, 0, .aload_n 0) :: (15, 3, 224, .getfield 11) :: (18, 1, 1, .iconst 1) :: (19, 1, 0, .iaload) :: (20, 3, 107, .if_icmp .ge 87) :: (23, 1, 0, .iconst 0) :: (24, 2, 0, .istore 4) :: C_X7_better_26) ls st σ := rfl
theorem U_X7_better_26 (ls st : List zV) (σ : zM) : zres 140 C_X7_better_26 ls st σ = zres 140 ((26, 2, 0, .iload 4) :: (28, 1, 0, .aload_n 0) :: (29, 3, 224, .getfield 11) :: (32, 1, 1, .iconst 1) :: (33, 1, 0, .iaload) :: (34, 3, 101, .if_icmp .ge 67) :: (37, 1, 0, .aload_n 0) :: (38, 1, 0, .iload_n 1) :: (39, 1, 0, .iload_n 3) :: (40, 3, 127, .invokevirtual 102) :: (43, 3, 95, .ifCond .eq 52) :: (46, 1, 0, .aload_n 0) :: (47, 1, 0, .iload_n 2) :: (48, 2, 0, .iload 4) :: (50, 3, 127, .invokevirtual 102) :: (53, 3, 95, .ifCond .eq 42) :: (56, 1, 0, .aload_n 0) :: (57, 1, 0, .iload_n 1) :: (58, 1, 0, .iload_n 3) :: (59, 3, 113, .invokevirtual 68) :: (62, 1, 0, .aload_n 0) :: (63, 1, 0, .iload_n 2) :: (64, 2, 0, .iload 4) :: (66, 3, 113, .invokevirtual 68) :: (69, 1, 0, .imul) :: (70, 1, 0, .aload_n 0) :: (71, 1, 0, .iload_n 1) :: (72, 2, 0, .iload 4) :: (74, 3, 113, .invokevirtual 68) :: (77, 1, 0, .aload_n 0) :: (78, 1, 0, .iload_n 2) :: (79, 1, 0, .iload_n 3) :: (80, 3, 113, .invokevirtual 68) :: (83, 1, 0, .imul) :: (84, 3, 95, .if_icmp .ge 11) :: (87, 2, 10, .bipush 10) :: (89, 1, 0, .iload_n 3) :: (90, 1, 0, .imul) :: (91, 2, 0, .iload 4) :: (93, 1, 0, .iadd) :: (94, 1, 0, .ireturn) :: C_X7_better_95) ls st σ := rfl
theorem U_X7_better_95 (ls st : List zV) (σ : zM) : zres 140 C_X7_better_95 ls st σ = zres 140 ((95, 3, 0, .iinc 4 1) :: (98, 3, 26, .goto (-72)) :: C_X7_better_101) ls st σ := rfl
theorem U_X7_better_101 (ls st : List zV) (σ : zM) : zres 140 C_X7_better_101 ls st σ = zres 140 ((101, 3, 0, .iinc 3 1) :: (104, 3, 13, .goto (-91)) :: C_X7_better_107) ls st σ := rfl
theorem U_X7_better_107 (ls st : List zV) (σ : zM) : zres 140 C_X7_better_107 ls st σ = zres 140 ((107, 2, (-5), .bipush (-5)) :: (109, 1, 0, .ireturn) :: []) ls st σ := rfl
theorem S_X7_better (c a0 a1 : Int) (σ : zM) : zcall 140 [vR c, vI a0, vI a1] σ = zres 140 C_X7_better_0 [vR c, vI a0, vI a1, vU, vU] [] σ := by
  unfold zcall zloc
  rw [G_X7_better, M_X7_better.2.1]
  rfl
theorem J_X7_envious_0 : zjump 141 0 = C_X7_envious_0 := by decide +kernel
theorem J_X7_envious_4 : zjump 141 4 = C_X7_envious_4 := by decide +kernel
theorem J_X7_envious_35 : zjump 141 35 = C_X7_envious_35 := by decide +kernel
theorem J_X7_envious_36 : zjump 141 36 = C_X7_envious_36 := by decide +kernel
theorem J_X7_envious_44 : zjump 141 44 = C_X7_envious_44 := by decide +kernel
theorem U_X7_envious_0 (ls st : List zV) (σ : zM) : zres 141 C_X7_envious_0 ls st σ = zres 141 ((0, 1, 0, .iconst 0) :: (1, 1, 0, .istore_n 1) :: (2, 1, 0, .iconst 0) :: (3, 1, 0, .istore_n 2) :: C_X7_envious_4) ls st σ := rfl
theorem U_X7_envious_4 (ls st : List zV) (σ : zM) : zres 141 C_X7_envious_4 ls st σ = zres 141 ((4, 1, 0, .iload_n 2) :: (5, 1, 0, .aload_n 0) :: (6, 3, 224, .getfield 11) :: (9, 1, 0, .iconst 0) :: (10, 1, 0, .iaload) :: (11, 3, 44, .if_icmp .ge 33) :: (14, 1, 0, .iload_n 1) :: (15, 1, 0, .aload_n 0) :: (16, 1, 0, .iload_n 2) :: (17, 3, 135, .invokevirtual 120) :: (20, 1, 0, .aload_n 0) :: (21, 3, 224, .getfield 11) :: (24, 1, 0, .iconst 0) :: (25, 1, 0, .iaload) :: (26, 3, 35, .if_icmp .ge 9) :: (29, 1, 1, .iconst 1) :: (30, 1, 0, .iload_n 2) :: (31, 1, 0, .ishl) :: (32, 3, 36, .goto 4) :: C_X7_envious_35) ls st σ := rfl
theorem U_X7_envious_35 (ls st : List zV) (σ : zM) : zres 141 C_X7_envious_35 ls st σ = zres 141 ((35, 1, 0, .iconst 0) :: C_X7_envious_36) ls st σ := rfl
theorem U_X7_envious_36 (ls st : List zV) (σ : zM) : zres 141 C_X7_envious_36 ls st σ = zres 141 ((36, 1, 0, .ior) :: (37, 1, 0, .istore_n 1) :: (38, 3, 0, .iinc 2 1) :: (41, 3, 4, .goto (-37)) :: C_X7_envious_44) ls st σ := rfl
theorem U_X7_envious_44 (ls st : List zV) (σ : zM) : zres 141 C_X7_envious_44 ls st σ = zres 141 ((44, 1, 0, .iload_n 1) :: (45, 1, 0, .ireturn) :: []) ls st σ := rfl
theorem S_X7_envious (c : Int) (σ : zM) : zcall 141 [vR c] σ = zres 141 C_X7_envious_0 [vR c, vU, vU] [] σ := by
  unfold zcall zloc
  rw [G_X7_envious, M_X7_envious.2.1]
  rfl
theorem J_X7_aheadBy_0 : zjump 142 0 = C_X7_aheadBy_0 := by decide +kernel
theorem J_X7_aheadBy_6 : zjump 142 6 = C_X7_aheadBy_6 := by decide +kernel
theorem J_X7_aheadBy_35 : zjump 142 35 = C_X7_aheadBy_35 := by decide +kernel
theorem J_X7_aheadBy_36 : zjump 142 36 = C_X7_aheadBy_36 := by decide +kernel
theorem J_X7_aheadBy_45 : zjump 142 45 = C_X7_aheadBy_45 := by decide +kernel
theorem U_X7_aheadBy_0 (ls st : List zV) (σ : zM) : zres 142 C_X7_aheadBy_0 ls st σ = zres 142 ((0, 1, 0, .iconst 0) :: (1, 2, 0, .istore 4) :: (3, 1, 0, .iconst 0) :: (4, 2, 0, .istore 5) :: C_X7_aheadBy_6) ls st σ := rfl
theorem U_X7_aheadBy_6 (ls st : List zV) (σ : zM) : zres 142 C_X7_aheadBy_6 ls st σ = zres 142 ((6, 2, 0, .iload 5) :: (8, 1, 0, .aload_n 0) :: (9, 3, 224, .getfield 11) :: (12, 1, 1, .iconst 1) :: (13, 1, 0, .iaload) :: (14, 3, 45, .if_icmp .ge 31) :: (17, 2, 0, .iload 4) :: (19, 1, 0, .aload_n 0) :: (20, 1, 0, .iload_n 1) :: (21, 1, 0, .iload_n 2) :: (22, 2, 0, .iload 5) :: (24, 1, 0, .iload_n 3) :: (25, 3, 143, .invokevirtual 138) :: (28, 3, 35, .ifCond .eq 7) :: (31, 1, 1, .iconst 1) :: (32, 3, 36, .goto 4) :: C_X7_aheadBy_35) ls st σ := rfl
theorem U_X7_aheadBy_35 (ls st : List zV) (σ : zM) : zres 142 C_X7_aheadBy_35 ls st σ = zres 142 ((35, 1, 0, .iconst 0) :: C_X7_aheadBy_36) ls st σ := rfl
theorem U_X7_aheadBy_36 (ls st : List zV) (σ : zM) : zres 142 C_X7_aheadBy_36 ls st σ = zres 142 ((36, 1, 0, .iadd) :: (37, 2, 0, .istore 4) :: (39, 3, 0, .iinc 5 1) :: (42, 3, 6, .goto (-36)) :: C_X7_aheadBy_45) ls st σ := rfl
theorem U_X7_aheadBy_45 (ls st : List zV) (σ : zM) : zres 142 C_X7_aheadBy_45 ls st σ = zres 142 ((45, 2, 0, .iload 4) :: (47, 1, 0, .ireturn) :: []) ls st σ := rfl
theorem S_X7_aheadBy (c a0 a1 a2 : Int) (σ : zM) : zcall 142 [vR c, vI a0, vI a1, vI a2] σ = zres 142 C_X7_aheadBy_0 [vR c, vI a0, vI a1, vI a2, vU, vU] [] σ := by
  unfold zcall zloc
  rw [G_X7_aheadBy, M_X7_aheadBy.2.1]
  rfl
theorem J_X7_isAhead_0 : zjump 143 0 = C_X7_isAhead_0 := by decide +kernel
theorem J_X7_isAhead_27 : zjump 143 27 = C_X7_isAhead_27 := by decide +kernel
theorem J_X7_isAhead_43 : zjump 143 43 = C_X7_isAhead_43 := by decide +kernel
theorem J_X7_isAhead_47 : zjump 143 47 = C_X7_isAhead_47 := by decide +kernel
theorem J_X7_isAhead_48 : zjump 143 48 = C_X7_isAhead_48 := by decide +kernel
theorem J_X7_isAhead_49 : zjump 143 49 = C_X7_isAhead_49 := by decide +kernel
theorem J_X7_isAhead_92 : zjump 143 92 = C_X7_isAhead_92 := by decide +kernel
theorem J_X7_isAhead_96 : zjump 143 96 = C_X7_isAhead_96 := by decide +kernel
theorem J_X7_isAhead_97 : zjump 143 97 = C_X7_isAhead_97 := by decide +kernel
theorem U_X7_isAhead_0 (ls st : List zV) (σ : zM) : zres 143 C_X7_isAhead_0 ls st σ = zres 143 ((0, 1, 0, .aload_n 0) :: (1, 1, 0, .iload_n 2) :: (2, 1, 0, .iload_n 3) :: (3, 3, 113, .invokevirtual 68) :: (6, 2, 0, .istore 5) :: (8, 1, 0, .aload_n 0) :: (9, 1, 0, .iload_n 2) :: (10, 2, 0, .iload 4) :: (12, 3, 113, .invokevirtual 68) :: (15, 2, 0, .istore 6) :: (17, 2, 0, .iload 5) :: (19, 3, 27, .ifCond .eq 8) :: (22, 2, 0, .iload 6) :: (24, 3, 49, .ifCond .ne 25) :: C_X7_isAhead_27) ls st σ := rfl
theorem U_X7_isAhead_27 (ls st : List zV) (σ : zM) : zres 143 C_X7_isAhead_27 ls st σ = zres 143 ((27, 2, 0, .iload 5) :: (29, 3, 43, .ifCond .gt 14) :: (32, 2, 0, .iload 6) :: (34, 3, 47, .ifCond .ne 13) :: (37, 1, 0, .iload_n 3) :: (38, 2, 0, .iload 4) :: (40, 3, 47, .if_icmp .ge 7) :: C_X7_isAhead_43) ls st σ := rfl
theorem U_X7_isAhead_43 (ls st : List zV) (σ : zM) : zres 143 C_X7_isAhead_43 ls st σ = zres 143 ((43, 1, 1, .iconst 1) :: (44, 3, 48, .goto 4) :: C_X7_isAhead_47) ls st σ := rfl
theorem U_X7_isAhead_47 (ls st : List zV) (σ : zM) : zres 143 C_X7_isAhead_47 ls st σ = zres 143 ((47, 1, 0, .iconst 0) :: C_X7_isAhead_48) ls st σ := rfl
theorem U_X7_isAhead_48 (ls st : List zV) (σ : zM) : zres 143 C_X7_isAhead_48 ls st σ = zres 143 ((48, 1, 1, .ireturn) :: C_X7_isAhead_49) ls st σ := rfl
theorem U_X7_isAhead_49 (ls st : List zV) (σ : zM) : zres 143 C_X7_isAhead_49 ls st σ = zres 143 ((49, 1, 0, .aload_n 0) :: (50, 1, 0, .iload_n 1) :: (51, 1, 0, .iload_n 3) :: (52, 3, 113, .invokevirtual 68) :: (55, 2, 0, .iload 6) :: (57, 1, 0, .imul) :: (58, 2, 0, .istore 7) :: (60, 1, 0, .aload_n 0) :: (61, 1, 0, .iload_n 1) :: (62, 2, 0, .iload 4) :: (64, 3, 113, .invokevirtual 68) :: (67, 2, 0, .iload 5) :: (69, 1, 0, .imul) :: (70, 2, 0, .istore 8) :: (72, 2, 0, .iload 7) :: (74, 2, 0, .iload 8) :: (76, 3, 92, .if_icmp .lt 16) :: (79, 2, 0, .iload 7) :: (81, 2, 0, .iload 8) :: (83, 3, 96, .if_icmp .ne 13) :: (86, 1, 0, .iload_n 3) :: (87, 2, 0, .iload 4) :: (89, 3, 96, .if_icmp .ge 7) :: C_X7_isAhead_92) ls st σ := rfl
theorem U_X7_isAhead_92 (ls st : List zV) (σ : zM) : zres 143 C_X7_isAhead_92 ls st σ = zres 143 ((92, 1, 1, .iconst 1) :: (93, 3, 97, .goto 4) :: C_X7_isAhead_96) ls st σ := rfl
theorem U_X7_isAhead_96 (ls st : List zV) (σ : zM) : zres 143 C_X7_isAhead_96 ls st σ = zres 143 ((96, 1, 0, .iconst 0) :: C_X7_isAhead_97) ls st σ := rfl
theorem U_X7_isAhead_97 (ls st : List zV) (σ : zM) : zres 143 C_X7_isAhead_97 ls st σ = zres 143 ((97, 1, 1, .ireturn) :: []) ls st σ := rfl
theorem S_X7_isAhead (c a0 a1 a2 a3 : Int) (σ : zM) : zcall 143 [vR c, vI a0, vI a1, vI a2, vI a3] σ = zres 143 C_X7_isAhead_0 [vR c, vI a0, vI a1, vI a2, vI a3, vU, vU, vU, vU] [] σ := by
  unfold zcall zloc
  rw [G_X7_isAhead, M_X7_isAhead.2.1]
  rfl
theorem J_X7_byRatio_0 : zjump 144 0 = C_X7_byRatio_0 := by decide +kernel
theorem J_X7_byRatio_3 : zjump 144 3 = C_X7_byRatio_3 := by decide +kernel
theorem J_X7_byRatio_21 : zjump 144 21 = C_X7_byRatio_21 := by decide +kernel
theorem U_X7_byRatio_0 (ls st : List zV) (σ : zM) : zres 144 C_X7_byRatio_0 ls st σ = zres 144 ((0, 1, 0, .iconst 0) :: (1, 2, 0, .istore 4) :: C_X7_byRatio_3) ls st σ := rfl
theorem U_X7_byRatio_3 (ls st : List zV) (σ : zM) : zres 144 C_X7_byRatio_3 ls st σ = zres 144 ((3, 1, 0, .aload_n 0) :: (4, 1, 0, .iload_n 1) :: (5, 1, 0, .iload_n 2) :: (6, 2, 0, .iload 4) :: (8, 3, 142, .invokevirtual 142) :: (11, 1, 0, .iload_n 3) :: (12, 3, 21, .if_icmp .eq 9) :: (15, 3, 0, .iinc 4 1) :: (18, 3, 3, .goto (-15)) :: C_X7_byRatio_21) ls st σ := rfl
theorem U_X7_byRatio_21 (ls st : List zV) (σ : zM) : zres 144 C_X7_byRatio_21 ls st σ = zres 144 ((21, 2, 0, .iload 4) :: (23, 1, 0, .ireturn) :: []) ls st σ := rfl
theorem S_X7_byRatio (c a0 a1 a2 : Int) (σ : zM) : zcall 144 [vR c, vI a0, vI a1, vI a2] σ = zres 144 C_X7_byRatio_0 [vR c, vI a0, vI a1, vI a2, vU] [] σ := by
  unfold zcall zloc
  rw [G_X7_byRatio, M_X7_byRatio.2.1]
  rfl
theorem J_X7_ratio_0 : zjump 145 0 = C_X7_ratio_0 := by decide +kernel
theorem J_X7_ratio_27 : zjump 145 27 = C_X7_ratio_27 := by decide +kernel
theorem J_X7_ratio_28 : zjump 145 28 = C_X7_ratio_28 := by decide +kernel
theorem U_X7_ratio_0 (ls st : List zV) (σ : zM) : zres 145 C_X7_ratio_0 ls st σ = zres 145 ((0, 1, 0, .aload_n 0) :: (1, 1, 0, .iload_n 1) :: (2, 1, 0, .iload_n 2) :: (3, 3, 108, .invokevirtual 135) :: (6, 3, 27, .ifCond .eq 21) :: (9, 1, 0, .aload_n 0) :: (10, 1, 0, .iload_n 3) :: (11, 3, 107, .invokevirtual 63) :: (14, 3, 27, .ifCond .eq 13) :: (17, 1, 0, .aload_n 0) :: (18, 1, 0, .iload_n 1) :: (19, 1, 0, .iload_n 2) :: (20, 1, 0, .iload_n 3) :: (21, 3, 144, .invokevirtual 146) :: (24, 3, 28, .goto 4) :: C_X7_ratio_27) ls st σ := rfl
theorem U_X7_ratio_27 (ls st : List zV) (σ : zM) : zres 145 C_X7_ratio_27 ls st σ = zres 145 ((27, 1, (-1), .iconst (-1)) :: C_X7_ratio_28) ls st σ := rfl
theorem U_X7_ratio_28 (ls st : List zV) (σ : zM) : zres 145 C_X7_ratio_28 ls st σ = zres 145 ((28, 1, 0, .ireturn) :: []) ls st σ := rfl
theorem S_X7_ratio (c a0 a1 a2 : Int) (σ : zM) : zcall 145 [vR c, vI a0, vI a1, vI a2] σ = zres 145 C_X7_ratio_0 [vR c, vI a0, vI a1, vI a2] [] σ := by
  unfold zcall zloc
  rw [G_X7_ratio, M_X7_ratio.2.1]
  rfl
theorem J_X7_sumOf_0 : zjump 146 0 = C_X7_sumOf_0 := by decide +kernel
theorem J_X7_sumOf_5 : zjump 146 5 = C_X7_sumOf_5 := by decide +kernel
theorem J_X7_sumOf_38 : zjump 146 38 = C_X7_sumOf_38 := by decide +kernel
theorem J_X7_sumOf_39 : zjump 146 39 = C_X7_sumOf_39 := by decide +kernel
theorem J_X7_sumOf_47 : zjump 146 47 = C_X7_sumOf_47 := by decide +kernel
theorem U_X7_sumOf_0 (ls st : List zV) (σ : zM) : zres 146 C_X7_sumOf_0 ls st σ = zres 146 ((0, 1, 0, .iconst 0) :: (1, 1, 0, .istore_n 3) :: (2, 1, 0, .iconst 0) :: (3, 2, 0, .istore 4) :: C_X7_sumOf_5) ls st σ := rfl
theorem U_X7_sumOf_5 (ls st : List zV) (σ : zM) : zres 146 C_X7_sumOf_5 ls st σ = zres 146 ((5, 2, 0, .iload 4) :: (7, 1, 0, .aload_n 0) :: (8, 3, 224, .getfield 11) :: (11, 1, 1, .iconst 1) :: (12, 1, 0, .iaload) :: (13, 3, 47, .if_icmp .ge 34) :: (16, 1, 0, .iload_n 3) :: (17, 1, 0, .aload_n 0) :: (18, 3, 228, .getfield 21) :: (21, 2, 0, .iload 4) :: (23, 1, 0, .baload) :: (24, 1, 0, .iload_n 2) :: (25, 3, 38, .if_icmp .ne 13) :: (28, 1, 0, .aload_n 0) :: (29, 1, 0, .iload_n 1) :: (30, 2, 0, .iload 4) :: (32, 3, 113, .invokevirtual 68) :: (35, 3, 39, .goto 4) :: C_X7_sumOf_38) ls st σ := rfl
theorem U_X7_sumOf_38 (ls st : List zV) (σ : zM) : zres 146 C_X7_sumOf_38 ls st σ = zres 146 ((38, 1, 0, .iconst 0) :: C_X7_sumOf_39) ls st σ := rfl
theorem U_X7_sumOf_39 (ls st : List zV) (σ : zM) : zres 146 C_X7_sumOf_39 ls st σ = zres 146 ((39, 1, 0, .iadd) :: (40, 1, 0, .istore_n 3) :: (41, 3, 0, .iinc 4 1) :: (44, 3, 5, .goto (-39)) :: C_X7_sumOf_47) ls st σ := rfl
theorem U_X7_sumOf_47 (ls st : List zV) (σ : zM) : zres 146 C_X7_sumOf_47 ls st σ = zres 146 ((47, 1, 0, .iload_n 3) :: (48, 1, 0, .ireturn) :: []) ls st σ := rfl
theorem S_X7_sumOf (c a0 a1 : Int) (σ : zM) : zcall 146 [vR c, vI a0, vI a1] σ = zres 146 C_X7_sumOf_0 [vR c, vI a0, vI a1, vU, vU] [] σ := by
  unfold zcall zloc
  rw [G_X7_sumOf, M_X7_sumOf.2.1]
  rfl
theorem J_X7_moreOf_0 : zjump 147 0 = C_X7_moreOf_0 := by decide +kernel
theorem J_X7_moreOf_22 : zjump 147 22 = C_X7_moreOf_22 := by decide +kernel
theorem J_X7_moreOf_23 : zjump 147 23 = C_X7_moreOf_23 := by decide +kernel
theorem U_X7_moreOf_0 (ls st : List zV) (σ : zM) : zres 147 C_X7_moreOf_0 ls st σ = zres 147 ((0, 1, 0, .aload_n 0) :: (1, 1, 0, .iload_n 1) :: (2, 1, 0, .iload_n 3) :: (3, 3, 146, .invokevirtual 149) :: (6, 1, 0, .aload_n 0) :: (7, 1, 0, .iload_n 2) :: (8, 3, 116, .invokevirtual 72) :: (11, 1, 0, .imul) :: (12, 1, 0, .aload_n 0) :: (13, 1, 0, .iload_n 2) :: (14, 1, 0, .iload_n 3) :: (15, 3, 22, .ifCond .ne 7) :: (18, 1, 1, .iconst 1) :: (19, 3, 23, .goto 4) :: C_X7_moreOf_22) ls st σ := rfl
theorem U_X7_moreOf_22 (ls st : List zV) (σ : zM) : zres 147 C_X7_moreOf_22 ls st σ = zres 147 ((22, 1, 0, .iconst 0) :: C_X7_moreOf_23) ls st σ := rfl
theorem U_X7_moreOf_23 (ls st : List zV) (σ : zM) : zres 147 C_X7_moreOf_23 ls st σ = zres 147 ((23, 3, 146, .invokevirtual 149) :: (26, 1, 0, .aload_n 0) :: (27, 1, 0, .iload_n 1) :: (28, 3, 116, .invokevirtual 72) :: (31, 1, 0, .imul) :: (32, 1, 0, .isub) :: (33, 1, 0, .ireturn) :: []) ls st σ := rfl
theorem S_X7_moreOf (c a0 a1 a2 : Int) (σ : zM) : zcall 147 [vR c, vI a0, vI a1, vI a2] σ = zres 147 C_X7_moreOf_0 [vR c, vI a0, vI a1, vI a2] [] σ := by
  unfold zcall zloc
  rw [G_X7_moreOf, M_X7_moreOf.2.1]
  rfl
theorem J_X7_adjusts_0 : zjump 148 0 = C_X7_adjusts_0 := by decide +kernel
theorem J_X7_adjusts_16 : zjump 148 16 = C_X7_adjusts_16 := by decide +kernel
theorem J_X7_adjusts_18 : zjump 148 18 = C_X7_adjusts_18 := by decide +kernel
theorem J_X7_adjusts_20 : zjump 148 20 = C_X7_adjusts_20 := by decide +kernel
theorem J_X7_adjusts_66 : zjump 148 66 = C_X7_adjusts_66 := by decide +kernel
theorem J_X7_adjusts_67 : zjump 148 67 = C_X7_adjusts_67 := by decide +kernel
theorem J_X7_adjusts_74 : zjump 148 74 = C_X7_adjusts_74 := by decide +kernel
theorem J_X7_adjusts_111 : zjump 148 111 = C_X7_adjusts_111 := by decide +kernel
theorem J_X7_adjusts_119 : zjump 148 119 = C_X7_adjusts_119 := by decide +kernel
theorem J_X7_adjusts_120 : zjump 148 120 = C_X7_adjusts_120 := by decide +kernel
theorem J_X7_adjusts_132 : zjump 148 132 = C_X7_adjusts_132 := by decide +kernel
theorem J_X7_adjusts_133 : zjump 148 133 = C_X7_adjusts_133 := by decide +kernel
theorem J_X7_adjusts_153 : zjump 148 153 = C_X7_adjusts_153 := by decide +kernel
theorem J_X7_adjusts_154 : zjump 148 154 = C_X7_adjusts_154 := by decide +kernel
theorem J_X7_adjusts_157 : zjump 148 157 = C_X7_adjusts_157 := by decide +kernel
theorem U_X7_adjusts_0 (ls st : List zV) (σ : zM) : zres 148 C_X7_adjusts_0 ls st σ = zres 148 ((0, 1, 0, .aload_n 0) :: (1, 1, 0, .iload_n 1) :: (2, 3, 116, .invokevirtual 72) :: (5, 3, 16, .ifCond .eq 11) :: (8, 1, 0, .aload_n 0) :: (9, 1, 0, .iload_n 2) :: (10, 3, 116, .invokevirtual 72) :: (13, 3, 18, .ifCond .ne 5) :: C_X7_adjusts_16) ls st σ := rfl
theorem U_X7_adjusts_16 (ls st : List zV) (σ : zM) : zres 148 C_X7_adjusts_16 ls st σ = zres 148 ((16, 1, 0, .iconst 0) :: (17, 1, 1, .ireturn) :: C_X7_adjusts_18) ls st σ := rfl
theorem U_X7_adjusts_18 (ls st : List zV) (σ : zM) : zres 148 C_X7_adjusts_18 ls st σ = zres 148 ((18, 1, 0, .iconst 0) :: (19, 1, 0, .istore_n 3) :: C_X7_adjusts_20) ls st σ := rfl
theorem U_X7_adjusts_20 (ls st : List zV) (σ : zM) : zres 148 C_X7_adjusts_20 ls st σ = zres 148 ((20, 1, 0, .iload_n 3) :: (21, 1, 0, .aload_n 0) :: (22, 3, 224, .getfield 11) :: (25, 1, 1, .iconst 1) :: (26, 1, 0, .iaload) :: (27, 3, 74, .if_icmp .ge 47) :: (30, 1, 0, .aload_n 0) :: (31, 3, 228, .getfield 21) :: (34, 1, 0, .iload_n 3) :: (35, 1, 0, .aload_n 0) :: (36, 1, 0, .iload_n 1) :: (37, 1, 0, .iload_n 3) :: (38, 3, 113, .invokevirtual 68) :: (41, 1, 0, .aload_n 0) :: (42, 1, 0, .iload_n 2) :: (43, 3, 116, .invokevirtual 72) :: (46, 1, 0, .imul) :: (47, 1, 0, .aload_n 0) :: (48, 1, 0, .iload_n 2) :: (49, 1, 0, .iload_n 3) :: (50, 3, 113, .invokevirtual 68) :: (53, 1, 0, .aload_n 0) :: (54, 1, 0, .iload_n 1) :: (55, 3, 116, .invokevirtual 72) :: (58, 1, 0, .imul) :: (59, 3, 66, .if_icmp .lt 7) :: (62, 1, 1, .iconst 1) :: (63, 3, 67, .goto 4) :: C_X7_adjusts_66) ls st σ := rfl
theorem U_X7_adjusts_66 (ls st : List zV) (σ : zM) : zres 148 C_X7_adjusts_66 ls st σ = zres 148 ((66, 1, 0, .iconst 0) :: C_X7_adjusts_67) ls st σ := rfl
theorem U_X7_adjusts_67 (ls st : List zV) (σ : zM) : zres 148 C_X7_adjusts_67 ls st σ = zres 148 ((67, 1, 0, .bastore) :: (68, 3, 0, .iinc 3 1) :: (71, 3, 20, .goto (-51)) :: C_X7_adjusts_74) ls st σ := rfl
theorem U_X7_adjusts_74 (ls st : List zV) (σ : zM) : zres 148 C_X7_adjusts_74 ls st σ = zres 148 ((74, 1, 0, .aload_n 0) :: (75, 1, (-1), .iconst (-1)) :: (76, 3, 229, .putfield 153) :: (79, 1, 0, .aload_n 0) :: (80, 1, 0, .lconst 0) :: (81, 3, 230, .putfield 157) :: (84, 1, 0, .aload_n 0) :: (85, 1, 1, .lconst 1) :: (86, 3, 231, .putfield 161) :: (89, 1, 0, .aload_n 0) :: (90, 1, 0, .iconst 0) :: (91, 3, 232, .putfield 164) :: (94, 1, 0, .aload_n 0) :: (95, 1, 0, .iload_n 1) :: (96, 1, 0, .iload_n 2) :: (97, 1, 1, .iconst 1) :: (98, 3, 147, .invokevirtual 167) :: (101, 1, 0, .istore_n 3) :: (102, 1, 0, .aload_n 0) :: (103, 1, 0, .iload_n 3) :: (104, 3, 111, .ifCond .le 7) :: (107, 1, 0, .iload_n 1) :: (108, 3, 120, .goto 12) :: C_X7_adjusts_111) ls st σ := rfl
theorem U_X7_adjusts_111 (ls st : List zV) (σ : zM) : zres 148 C_X7_adjusts_111 ls st σ = zres 148 ((111, 1, 0, .iload_n 3) :: (112, 3, 119, .ifCond .ge 7) :: (115, 1, 0, .iload_n 2) :: (116, 3, 120, .goto 4) :: C_X7_adjusts_119) ls st σ := rfl
theorem U_X7_adjusts_119 (ls st : List zV) (σ : zM) : zres 148 C_X7_adjusts_119 ls st σ = zres 148 ((119, 1, (-1), .iconst (-1)) :: C_X7_adjusts_120) ls st σ := rfl
theorem U_X7_adjusts_120 (ls st : List zV) (σ : zM) : zres 148 C_X7_adjusts_120 ls st σ = zres 148 ((120, 3, 233, .putfield 171) :: (123, 1, 0, .aload_n 0) :: (124, 1, 0, .iload_n 3) :: (125, 3, 132, .ifCond .le 7) :: (128, 1, 0, .iload_n 2) :: (129, 3, 133, .goto 4) :: C_X7_adjusts_132) ls st σ := rfl
theorem U_X7_adjusts_132 (ls st : List zV) (σ : zM) : zres 148 C_X7_adjusts_132 ls st σ = zres 148 ((132, 1, 0, .iload_n 1) :: C_X7_adjusts_133) ls st σ := rfl
theorem U_X7_adjusts_133 (ls st : List zV) (σ : zM) : zres 148 C_X7_adjusts_133 ls st σ = zres 148 ((133, 3, 234, .putfield 174) :: (136, 1, 0, .iload_n 3) :: (137, 3, 157, .ifCond .eq 20) :: (140, 1, 0, .aload_n 0) :: (141, 1, 0, .aload_n 0) :: (142, 3, 233, .getfield 171) :: (145, 1, 0, .iload_n 1) :: (146, 3, 153, .if_icmp .ne 7) :: (149, 1, 1, .iconst 1) :: (150, 3, 154, .goto 4) :: C_X7_adjusts_153) ls st σ := rfl
theorem U_X7_adjusts_153 (ls st : List zV) (σ : zM) : zres 148 C_X7_adjusts_153 ls st σ = zres 148 ((153, 1, 0, .iconst 0) :: C_X7_adjusts_154) ls st σ := rfl
theorem U_X7_adjusts_154 (ls st : List zV) (σ : zM) : zres 148 C_X7_adjusts_154 ls st σ = zres 148 ((154, 3, 149, .invokevirtual 177) :: C_X7_adjusts_157) ls st σ := rfl
theorem U_X7_adjusts_157 (ls st : List zV) (σ : zM) : zres 148 C_X7_adjusts_157 ls st σ = zres 148 ((157, 1, 1, .iconst 1) :: (158, 1, 1, .ireturn) :: []) ls st σ := rfl
theorem S_X7_adjusts (c a0 a1 : Int) (σ : zM) : zcall 148 [vR c, vI a0, vI a1] σ = zres 148 C_X7_adjusts_0 [vR c, vI a0, vI a1, vU] [] σ := by
  unfold zcall zloc
  rw [G_X7_adjusts, M_X7_adjusts.2.1]
  rfl
theorem J_X7_movesAll_0 : zjump 149 0 = C_X7_movesAll_0 := by decide +kernel
theorem J_X7_movesAll_13 : zjump 149 13 = C_X7_movesAll_13 := by decide +kernel
theorem J_X7_movesAll_48 : zjump 149 48 = C_X7_movesAll_48 := by decide +kernel
theorem J_X7_movesAll_63 : zjump 149 63 = C_X7_movesAll_63 := by decide +kernel
theorem J_X7_movesAll_77 : zjump 149 77 = C_X7_movesAll_77 := by decide +kernel
theorem J_X7_movesAll_78 : zjump 149 78 = C_X7_movesAll_78 := by decide +kernel
theorem J_X7_movesAll_143 : zjump 149 143 = C_X7_movesAll_143 := by decide +kernel
theorem J_X7_movesAll_153 : zjump 149 153 = C_X7_movesAll_153 := by decide +kernel
theorem J_X7_movesAll_159 : zjump 149 159 = C_X7_movesAll_159 := by decide +kernel
theorem U_X7_movesAll_0 (ls st : List zV) (σ : zM) : zres 149 C_X7_movesAll_0 ls st σ = zres 149 ((0, 1, 0, .aload_n 0) :: (1, 3, 233, .getfield 171) :: (4, 1, 0, .istore_n 2) :: (5, 1, 0, .aload_n 0) :: (6, 3, 234, .getfield 174) :: (9, 1, 0, .istore_n 3) :: (10, 1, 0, .iconst 0) :: (11, 2, 0, .istore 4) :: C_X7_movesAll_13) ls st σ := rfl
theorem U_X7_movesAll_13 (ls st : List zV) (σ : zM) : zres 149 C_X7_movesAll_13 ls st σ = zres 149 ((13, 2, 0, .iload 4) :: (15, 1, 0, .aload_n 0) :: (16, 3, 224, .getfield 11) :: (19, 1, 1, .iconst 1) :: (20, 1, 0, .iaload) :: (21, 3, 159, .if_icmp .ge 138) :: (24, 1, 0, .aload_n 0) :: (25, 1, 0, .iload_n 2) :: (26, 1, 0, .iload_n 3) :: (27, 2, 0, .iload 4) :: (29, 3, 144, .invokevirtual 146) :: (32, 2, 0, .istore 5) :: (34, 1, 0, .aload_n 0) :: (35, 3, 228, .getfield 21) :: (38, 2, 0, .iload 5) :: (40, 1, 0, .baload) :: (41, 1, 0, .iload_n 1) :: (42, 3, 48, .if_icmp .eq 6) :: (45, 3, 153, .goto 108) :: C_X7_movesAll_48) ls st σ := rfl
theorem U_X7_movesAll_48 (ls st : List zV) (σ : zM) : zres 149 C_X7_movesAll_48 ls st σ = zres 149 ((48, 1, 0, .aload_n 0) :: (49, 1, 0, .iload_n 2) :: (50, 1, 0, .iload_n 3) :: (51, 1, 0, .iload_n 1) :: (52, 3, 147, .invokevirtual 167) :: (55, 2, 0, .istore 6) :: (57, 2, 0, .iload 6) :: (59, 3, 63, .ifCond .ne 4) :: (62, 1, 0, .return_) :: C_X7_movesAll_63) ls st σ := rfl
theorem U_X7_movesAll_63 (ls st : List zV) (σ : zM) : zres 149 C_X7_movesAll_63 ls st σ = zres 149 ((63, 1, 0, .aload_n 0) :: (64, 3, 228, .getfield 21) :: (67, 2, 0, .iload 5) :: (69, 1, 0, .iload_n 1) :: (70, 3, 77, .ifCond .ne 7) :: (73, 1, 1, .iconst 1) :: (74, 3, 78, .goto 4) :: C_X7_movesAll_77) ls st σ := rfl
theorem U_X7_movesAll_77 (ls st : List zV) (σ : zM) : zres 149 C_X7_movesAll_77 ls st σ = zres 149 ((77, 1, 0, .iconst 0) :: C_X7_movesAll_78) ls st σ := rfl
theorem U_X7_movesAll_78 (ls st : List zV) (σ : zM) : zres 149 C_X7_movesAll_78 ls st σ = zres 149 ((78, 1, 0, .bastore) :: (79, 1, 0, .aload_n 0) :: (80, 1, 0, .iload_n 2) :: (81, 1, 0, .iload_n 3) :: (82, 1, 0, .iload_n 1) :: (83, 3, 147, .invokevirtual 167) :: (86, 3, 143, .ifCond .ge 57) :: (89, 1, 0, .aload_n 0) :: (90, 3, 228, .getfield 21) :: (93, 2, 0, .iload 5) :: (95, 1, 0, .iload_n 1) :: (96, 1, 0, .bastore) :: (97, 1, 0, .aload_n 0) :: (98, 2, 0, .iload 5) :: (100, 3, 229, .putfield 153) :: (103, 1, 0, .aload_n 0) :: (104, 2, 0, .iload 6) :: (106, 1, 0, .i2l) :: (107, 3, 230, .putfield 157) :: (110, 1, 0, .aload_n 0) :: (111, 1, 0, .aload_n 0) :: (112, 1, 0, .iload_n 2) :: (113, 2, 0, .iload 5) :: (115, 3, 113, .invokevirtual 68) :: (118, 1, 0, .aload_n 0) :: (119, 1, 0, .iload_n 3) :: (120, 3, 116, .invokevirtual 72) :: (123, 1, 0, .imul) :: (124, 1, 0, .aload_n 0) :: (125, 1, 0, .iload_n 3) :: (126, 2, 0, .iload 5) :: (128, 3, 113, .invokevirtual 68) :: (131, 1, 0, .aload_n 0) :: (132, 1, 0, .iload_n 2) :: (133, 3, 116, .invokevirtual 72) :: (136, 1, 0, .imul) :: (137, 1, 0, .iadd) :: (138, 1, 0, .i2l) :: (139, 3, 231, .putfield 161) :: (142, 1, 0, .return_) :: C_X7_movesAll_143) ls st σ := rfl
theorem U_X7_movesAll_143 (ls st : List zV) (σ : zM) : zres 149 C_X7_movesAll_143 ls st σ = zres 149 ((143, 1, 0, .aload_n 0) :: (144, 1, 0, .dup) :: (145, 3, 232, .getfield 164) :: (148, 1, 1, .iconst 1) :: (149, 1, 0, .iadd) :: (150, 3, 232, .putfield 164) :: C_X7_movesAll_153) ls st σ := rfl
theorem U_X7_movesAll_153 (ls st : List zV) (σ : zM) : zres 149 C_X7_movesAll_153 ls st σ = zres 149 ((153, 3, 0, .iinc 4 1) :: (156, 3, 13, .goto (-143)) :: C_X7_movesAll_159) ls st σ := rfl
theorem U_X7_movesAll_159 (ls st : List zV) (σ : zM) : zres 149 C_X7_movesAll_159 ls st σ = zres 149 ((159, 1, 0, .return_) :: []) ls st σ := rfl
theorem S_X7_movesAll (c a0 : Int) (σ : zM) : zcall 149 [vR c, vI a0] σ = zres 149 C_X7_movesAll_0 [vR c, vI a0, vU, vU, vU, vU, vU] [] σ := by
  unfold zcall zloc
  rw [G_X7_movesAll, M_X7_movesAll.2.1]
  rfl
theorem J_X7_doesHoldSo_0 : zjump 150 0 = C_X7_doesHoldSo_0 := by decide +kernel
theorem J_X7_doesHoldSo_18 : zjump 150 18 = C_X7_doesHoldSo_18 := by decide +kernel
theorem J_X7_doesHoldSo_22 : zjump 150 22 = C_X7_doesHoldSo_22 := by decide +kernel
theorem J_X7_doesHoldSo_23 : zjump 150 23 = C_X7_doesHoldSo_23 := by decide +kernel
theorem U_X7_doesHoldSo_0 (ls st : List zV) (σ : zM) : zres 150 C_X7_doesHoldSo_0 ls st σ = zres 150 ((0, 1, 0, .aload_n 0) :: (1, 3, 228, .getfield 21) :: (4, 1, 0, .iload_n 2) :: (5, 1, 0, .baload) :: (6, 1, 0, .iload_n 1) :: (7, 3, 18, .if_icmp .eq 11) :: (10, 1, 0, .aload_n 0) :: (11, 3, 229, .getfield 153) :: (14, 1, 0, .iload_n 2) :: (15, 3, 22, .if_icmp .ne 7) :: C_X7_doesHoldSo_18) ls st σ := rfl
theorem U_X7_doesHoldSo_18 (ls st : List zV) (σ : zM) : zres 150 C_X7_doesHoldSo_18 ls st σ = zres 150 ((18, 1, 1, .iconst 1) :: (19, 3, 23, .goto 4) :: C_X7_doesHoldSo_22) ls st σ := rfl
theorem U_X7_doesHoldSo_22 (ls st : List zV) (σ : zM) : zres 150 C_X7_doesHoldSo_22 ls st σ = zres 150 ((22, 1, 0, .iconst 0) :: C_X7_doesHoldSo_23) ls st σ := rfl
theorem U_X7_doesHoldSo_23 (ls st : List zV) (σ : zM) : zres 150 C_X7_doesHoldSo_23 ls st σ = zres 150 ((23, 1, 1, .ireturn) :: []) ls st σ := rfl
theorem S_X7_doesHoldSo (c a0 a1 : Int) (σ : zM) : zcall 150 [vR c, vI a0, vI a1] σ = zres 150 C_X7_doesHoldSo_0 [vR c, vI a0, vI a1] [] σ := by
  unfold zcall zloc
  rw [G_X7_doesHoldSo, M_X7_doesHoldSo.2.1]
  rfl
theorem J_X7_bitsSo_0 : zjump 151 0 = C_X7_bitsSo_0 := by decide +kernel
theorem J_X7_bitsSo_4 : zjump 151 4 = C_X7_bitsSo_4 := by decide +kernel
theorem J_X7_bitsSo_30 : zjump 151 30 = C_X7_bitsSo_30 := by decide +kernel
theorem J_X7_bitsSo_31 : zjump 151 31 = C_X7_bitsSo_31 := by decide +kernel
theorem J_X7_bitsSo_39 : zjump 151 39 = C_X7_bitsSo_39 := by decide +kernel
theorem U_X7_bitsSo_0 (ls st : List zV) (σ : zM) : zres 151 C_X7_bitsSo_0 ls st σ = zres 151 ((0, 1, 0, .iconst 0) :: (1, 1, 0, .istore_n 2) :: (2, 1, 0, .iconst 0) :: (3, 1, 0, .istore_n 3) :: C_X7_bitsSo_4) ls st σ := rfl
theorem U_X7_bitsSo_4 (ls st : List zV) (σ : zM) : zres 151 C_X7_bitsSo_4 ls st σ = zres 151 ((4, 1, 0, .iload_n 3) :: (5, 1, 0, .aload_n 0) :: (6, 3, 224, .getfield 11) :: (9, 1, 1, .iconst 1) :: (10, 1, 0, .iaload) :: (11, 3, 39, .if_icmp .ge 28) :: (14, 1, 0, .iload_n 2) :: (15, 1, 0, .aload_n 0) :: (16, 1, 0, .iload_n 1) :: (17, 1, 0, .iload_n 3) :: (18, 3, 150, .invokevirtual 181) :: (21, 3, 30, .ifCond .eq 9) :: (24, 1, 1, .iconst 1) :: (25, 1, 0, .iload_n 3) :: (26, 1, 0, .ishl) :: (27, 3, 31, .goto 4) :: C_X7_bitsSo_30) ls st σ := rfl
theorem U_X7_bitsSo_30 (ls st : List zV) (σ : zM) : zres 151 C_X7_bitsSo_30 ls st σ = zres 151 ((30, 1, 0, .iconst 0) :: C_X7_bitsSo_31) ls st σ := rfl
theorem U_X7_bitsSo_31 (ls st : List zV) (σ : zM) : zres 151 C_X7_bitsSo_31 ls st σ = zres 151 ((31, 1, 0, .ior) :: (32, 1, 0, .istore_n 2) :: (33, 3, 0, .iinc 3 1) :: (36, 3, 4, .goto (-32)) :: C_X7_bitsSo_39) ls st σ := rfl
theorem U_X7_bitsSo_39 (ls st : List zV) (σ : zM) : zres 151 C_X7_bitsSo_39 ls st σ = zres 151 ((39, 1, 0, .iload_n 2) :: (40, 1, 0, .ireturn) :: []) ls st σ := rfl
theorem S_X7_bitsSo (c a0 : Int) (σ : zM) : zcall 151 [vR c, vI a0] σ = zres 151 C_X7_bitsSo_0 [vR c, vI a0, vU, vU] [] σ := by
  unfold zcall zloc
  rw [G_X7_bitsSo, M_X7_bitsSo.2.1]
  rfl
theorem J_X7_adjusted_0 : zjump 152 0 = C_X7_adjusted_0 := by decide +kernel
theorem J_X7_adjusted_21 : zjump 152 21 = C_X7_adjusted_21 := by decide +kernel
theorem J_X7_adjusted_23 : zjump 152 23 = C_X7_adjusted_23 := by decide +kernel
theorem J_X7_adjusted_35 : zjump 152 35 = C_X7_adjusted_35 := by decide +kernel
theorem J_X7_adjusted_68 : zjump 152 68 = C_X7_adjusted_68 := by decide +kernel
theorem J_X7_adjusted_76 : zjump 152 76 = C_X7_adjusted_76 := by decide +kernel
theorem J_X7_adjusted_86 : zjump 152 86 = C_X7_adjusted_86 := by decide +kernel
theorem J_X7_adjusted_87 : zjump 152 87 = C_X7_adjusted_87 := by decide +kernel
theorem J_X7_adjusted_91 : zjump 152 91 = C_X7_adjusted_91 := by decide +kernel
theorem J_X7_adjusted_96 : zjump 152 96 = C_X7_adjusted_96 := by decide +kernel
theorem U_X7_adjusted_0 (ls st : List zV) (σ : zM) : zres 152 C_X7_adjusted_0 ls st σ = zres 152 ((0, 1, 0, .aload_n 0) :: (1, 1, 0, .iload_n 1) :: (2, 1, 0, .iload_n 2) :: (3, 3, 108, .invokevirtual 135) :: (6, 3, 21, .ifCond .eq 15) :: (9, 1, 0, .iload_n 3) :: (10, 1, 0, .i2l) :: (11, 1, 0, .lconst 0) :: (12, 3, 4, .ldc2_w 57) :: (15, 3, 105, .invokestatic 47) :: (18, 3, 23, .ifCond .ne 5) :: C_X7_adjusted_21) ls st σ := rfl
theorem U_X7_adjusted_21 (ls st : List zV) (σ : zM) : zres 152 C_X7_adjusted_21 ls st σ = zres 152 ((21, 1, (-1), .iconst (-1)) :: (22, 1, 0, .ireturn) :: C_X7_adjusted_23) ls st σ := rfl
theorem U_X7_adjusted_23 (ls st : List zV) (σ : zM) : zres 152 C_X7_adjusted_23 ls st σ = zres 152 ((23, 1, 0, .aload_n 0) :: (24, 1, 0, .iload_n 1) :: (25, 1, 0, .iload_n 2) :: (26, 3, 148, .invokevirtual 185) :: (29, 3, 35, .ifCond .ne 6) :: (32, 2, (-3), .bipush (-3)) :: (34, 1, 0, .ireturn) :: C_X7_adjusted_35) ls st σ := rfl
theorem U_X7_adjusted_35 (ls st : List zV) (σ : zM) : zres 152 C_X7_adjusted_35 ls st σ = zres 152 ((35, 1, 0, .iload_n 3) :: (36, 32, 0, .tableswitch 60 0 3 #[32, 40, 40, 55]) :: C_X7_adjusted_68) ls st σ := rfl
theorem U_X7_adjusted_68 (ls st : List zV) (σ : zM) : zres 152 C_X7_adjusted_68 ls st σ = zres 152 ((68, 1, 0, .aload_n 0) :: (69, 3, 229, .getfield 153) :: (72, 3, 118, .invokestatic 76) :: (75, 1, 0, .ireturn) :: C_X7_adjusted_76) ls st σ := rfl
theorem U_X7_adjusted_76 (ls st : List zV) (σ : zM) : zres 152 C_X7_adjusted_76 ls st σ = zres 152 ((76, 1, 0, .aload_n 0) :: (77, 1, 0, .iload_n 3) :: (78, 1, 1, .iconst 1) :: (79, 3, 86, .if_icmp .ne 7) :: (82, 1, 1, .iconst 1) :: (83, 3, 87, .goto 4) :: C_X7_adjusted_86) ls st σ := rfl
theorem U_X7_adjusted_86 (ls st : List zV) (σ : zM) : zres 152 C_X7_adjusted_86 ls st σ = zres 152 ((86, 1, 0, .iconst 0) :: C_X7_adjusted_87) ls st σ := rfl
theorem U_X7_adjusted_87 (ls st : List zV) (σ : zM) : zres 152 C_X7_adjusted_87 ls st σ = zres 152 ((87, 3, 151, .invokevirtual 188) :: (90, 1, 0, .ireturn) :: C_X7_adjusted_91) ls st σ := rfl
theorem U_X7_adjusted_91 (ls st : List zV) (σ : zM) : zres 152 C_X7_adjusted_91 ls st σ = zres 152 ((91, 1, 0, .aload_n 0) :: (92, 3, 232, .getfield 164) :: (95, 1, 0, .ireturn) :: C_X7_adjusted_96) ls st σ := rfl
theorem U_X7_adjusted_96 (ls st : List zV) (σ : zM) : zres 152 C_X7_adjusted_96 ls st σ = zres 152 ((96, 1, 0, .aload_n 0) :: (97, 3, 233, .getfield 171) :: (100, 3, 118, .invokestatic 76) :: (103, 1, 0, .ireturn) :: []) ls st σ := rfl
theorem S_X7_adjusted (c a0 a1 a2 : Int) (σ : zM) : zcall 152 [vR c, vI a0, vI a1, vI a2] σ = zres 152 C_X7_adjusted_0 [vR c, vI a0, vI a1, vI a2] [] σ := by
  unfold zcall zloc
  rw [G_X7_adjusted, M_X7_adjusted.2.1]
  rfl
theorem J_X7_alikeOf_0 : zjump 153 0 = C_X7_alikeOf_0 := by decide +kernel
theorem J_X7_alikeOf_49 : zjump 153 49 = C_X7_alikeOf_49 := by decide +kernel
theorem J_X7_alikeOf_64 : zjump 153 64 = C_X7_alikeOf_64 := by decide +kernel
theorem J_X7_alikeOf_66 : zjump 153 66 = C_X7_alikeOf_66 := by decide +kernel
theorem U_X7_alikeOf_0 (ls st : List zV) (σ : zM) : zres 153 C_X7_alikeOf_0 ls st σ = zres 153 ((0, 1, 0, .aload_n 0) :: (1, 1, 0, .iload_n 1) :: (2, 1, 1, .iconst 1) :: (3, 3, 146, .invokevirtual 149) :: (6, 1, 0, .i2l) :: (7, 1, 0, .aload_n 0) :: (8, 3, 231, .getfield 161) :: (11, 1, 0, .lmul) :: (12, 1, 0, .lstore_n 3) :: (13, 1, 0, .aload_n 0) :: (14, 3, 229, .getfield 153) :: (17, 1, (-1), .iconst (-1)) :: (18, 3, 66, .if_icmp .eq 48) :: (21, 1, 0, .lload_n 3) :: (22, 1, 0, .aload_n 0) :: (23, 3, 233, .getfield 171) :: (26, 1, 0, .iload_n 1) :: (27, 3, 49, .if_icmp .ne 22) :: (30, 1, 0, .aload_n 0) :: (31, 1, 0, .iload_n 1) :: (32, 1, 0, .aload_n 0) :: (33, 3, 229, .getfield 153) :: (36, 3, 113, .invokevirtual 68) :: (39, 1, 0, .ineg) :: (40, 1, 0, .i2l) :: (41, 1, 0, .aload_n 0) :: (42, 3, 230, .getfield 157) :: (45, 1, 0, .lmul) :: (46, 3, 64, .goto 18) :: C_X7_alikeOf_49) ls st σ := rfl
theorem U_X7_alikeOf_49 (ls st : List zV) (σ : zM) : zres 153 C_X7_alikeOf_49 ls st σ = zres 153 ((49, 1, 0, .aload_n 0) :: (50, 1, 0, .iload_n 1) :: (51, 1, 0, .aload_n 0) :: (52, 3, 229, .getfield 153) :: (55, 3, 113, .invokevirtual 68) :: (58, 1, 0, .i2l) :: (59, 1, 0, .aload_n 0) :: (60, 3, 230, .getfield 157) :: (63, 1, 0, .lmul) :: C_X7_alikeOf_64) ls st σ := rfl
theorem U_X7_alikeOf_64 (ls st : List zV) (σ : zM) : zres 153 C_X7_alikeOf_64 ls st σ = zres 153 ((64, 1, 0, .ladd) :: (65, 1, 0, .lstore_n 3) :: C_X7_alikeOf_66) ls st σ := rfl
theorem U_X7_alikeOf_66 (ls st : List zV) (σ : zM) : zres 153 C_X7_alikeOf_66 ls st σ = zres 153 ((66, 1, 0, .lload_n 3) :: (67, 1, 0, .aload_n 0) :: (68, 1, 0, .iload_n 1) :: (69, 3, 116, .invokevirtual 72) :: (72, 1, 0, .i2l) :: (73, 1, 0, .aload_n 0) :: (74, 3, 231, .getfield 161) :: (77, 1, 0, .lmul) :: (78, 1, 0, .iload_n 2) :: (79, 3, 122, .invokestatic 83) :: (82, 1, 0, .lreturn) :: []) ls st σ := rfl
theorem S_X7_alikeOf (c a0 a1 : Int) (σ : zM) : zcall 153 [vR c, vI a0, vI a1] σ = zres 153 C_X7_alikeOf_0 [vR c, vI a0, vI a1, vU, vU] [] σ := by
  unfold zcall zloc
  rw [G_X7_alikeOf, M_X7_alikeOf.2.1]
  rfl
theorem J_X7_alike_0 : zjump 154 0 = C_X7_alike_0 := by decide +kernel
theorem J_X7_alike_34 : zjump 154 34 = C_X7_alike_34 := by decide +kernel
theorem J_X7_alike_37 : zjump 154 37 = C_X7_alike_37 := by decide +kernel
theorem U_X7_alike_0 (ls st : List zV) (σ : zM) : zres 154 C_X7_alike_0 ls st σ = zres 154 ((0, 1, 0, .aload_n 0) :: (1, 1, 0, .iload_n 1) :: (2, 1, 0, .iload_n 2) :: (3, 3, 108, .invokevirtual 135) :: (6, 3, 34, .ifCond .eq 28) :: (9, 1, 0, .iload_n 3) :: (10, 3, 109, .invokestatic 97) :: (13, 3, 34, .ifCond .eq 21) :: (16, 1, 0, .aload_n 0) :: (17, 1, 0, .iload_n 1) :: (18, 1, 0, .iload_n 2) :: (19, 3, 148, .invokevirtual 185) :: (22, 3, 34, .ifCond .eq 12) :: (25, 1, 0, .aload_n 0) :: (26, 1, 0, .iload_n 1) :: (27, 1, 0, .iload_n 3) :: (28, 3, 153, .invokevirtual 192) :: (31, 3, 37, .goto 6) :: C_X7_alike_34) ls st σ := rfl
theorem U_X7_alike_34 (ls st : List zV) (σ : zM) : zres 154 C_X7_alike_34 ls st σ = zres 154 ((34, 3, (-9223372036854775808), .ldc2_w 100) :: C_X7_alike_37) ls st σ := rfl
theorem U_X7_alike_37 (ls st : List zV) (σ : zM) : zres 154 C_X7_alike_37 ls st σ = zres 154 ((37, 1, 0, .lreturn) :: []) ls st σ := rfl
theorem S_X7_alike (c a0 a1 a2 : Int) (σ : zM) : zcall 154 [vR c, vI a0, vI a1, vI a2] σ = zres 154 C_X7_alike_0 [vR c, vI a0, vI a1, vI a2] [] σ := by
  unfold zcall zloc
  rw [G_X7_alike, M_X7_alike.2.1]
  rfl
theorem J_X7_parted_0 : zjump 155 0 = C_X7_parted_0 := by decide +kernel
theorem J_X7_parted_40 : zjump 155 40 = C_X7_parted_40 := by decide +kernel
theorem J_X7_parted_43 : zjump 155 43 = C_X7_parted_43 := by decide +kernel
theorem U_X7_parted_0 (ls st : List zV) (σ : zM) : zres 155 C_X7_parted_0 ls st σ = zres 155 ((0, 1, 0, .aload_n 0) :: (1, 1, 0, .iload_n 1) :: (2, 1, 0, .iload_n 2) :: (3, 3, 108, .invokevirtual 135) :: (6, 3, 40, .ifCond .eq 34) :: (9, 1, 0, .iload_n 3) :: (10, 3, 109, .invokestatic 97) :: (13, 3, 40, .ifCond .eq 27) :: (16, 1, 0, .aload_n 0) :: (17, 1, 0, .iload_n 1) :: (18, 1, 0, .iload_n 2) :: (19, 3, 148, .invokevirtual 185) :: (22, 3, 40, .ifCond .eq 18) :: (25, 1, 0, .aload_n 0) :: (26, 3, 230, .getfield 157) :: (29, 1, 0, .aload_n 0) :: (30, 3, 231, .getfield 161) :: (33, 1, 0, .iload_n 3) :: (34, 3, 122, .invokestatic 83) :: (37, 3, 43, .goto 6) :: C_X7_parted_40) ls st σ := rfl
theorem U_X7_parted_40 (ls st : List zV) (σ : zM) : zres 155 C_X7_parted_40 ls st σ = zres 155 ((40, 3, (-9223372036854775808), .ldc2_w 100) :: C_X7_parted_43) ls st σ := rfl
theorem U_X7_parted_43 (ls st : List zV) (σ : zM) : zres 155 C_X7_parted_43 ls st σ = zres 155 ((43, 1, 0, .lreturn) :: []) ls st σ := rfl
theorem S_X7_parted (c a0 a1 a2 : Int) (σ : zM) : zcall 155 [vR c, vI a0, vI a1, vI a2] σ = zres 155 C_X7_parted_0 [vR c, vI a0, vI a1, vI a2] [] σ := by
  unfold zcall zloc
  rw [G_X7_parted, M_X7_parted.2.1]
  rfl
theorem J_X7_settle_0 : zjump 156 0 = C_X7_settle_0 := by decide +kernel
theorem J_X7_settle_11 : zjump 156 11 = C_X7_settle_11 := by decide +kernel
theorem J_X7_settle_23 : zjump 156 23 = C_X7_settle_23 := by decide +kernel
theorem J_X7_settle_25 : zjump 156 25 = C_X7_settle_25 := by decide +kernel
theorem J_X7_settle_50 : zjump 156 50 = C_X7_settle_50 := by decide +kernel
theorem J_X7_settle_51 : zjump 156 51 = C_X7_settle_51 := by decide +kernel
theorem J_X7_settle_60 : zjump 156 60 = C_X7_settle_60 := by decide +kernel
theorem J_X7_settle_88 : zjump 156 88 = C_X7_settle_88 := by decide +kernel
theorem U_X7_settle_0 (ls st : List zV) (σ : zM) : zres 156 C_X7_settle_0 ls st σ = zres 156 ((0, 1, 0, .aload_n 0) :: (1, 1, 0, .iload_n 1) :: (2, 1, 0, .iload_n 2) :: (3, 3, 108, .invokevirtual 135) :: (6, 3, 11, .ifCond .ne 5) :: (9, 1, (-1), .iconst (-1)) :: (10, 1, 0, .ireturn) :: C_X7_settle_11) ls st σ := rfl
theorem U_X7_settle_11 (ls st : List zV) (σ : zM) : zres 156 C_X7_settle_11 ls st σ = zres 156 ((11, 1, 0, .aload_n 0) :: (12, 1, 0, .iload_n 1) :: (13, 1, 0, .iload_n 2) :: (14, 3, 148, .invokevirtual 185) :: (17, 3, 23, .ifCond .ne 6) :: (20, 2, (-3), .bipush (-3)) :: (22, 1, 0, .ireturn) :: C_X7_settle_23) ls st σ := rfl
theorem U_X7_settle_23 (ls st : List zV) (σ : zM) : zres 156 C_X7_settle_23 ls st σ = zres 156 ((23, 1, 0, .iconst 0) :: (24, 1, 0, .istore_n 3) :: C_X7_settle_25) ls st σ := rfl
theorem U_X7_settle_25 (ls st : List zV) (σ : zM) : zres 156 C_X7_settle_25 ls st σ = zres 156 ((25, 1, 0, .iload_n 3) :: (26, 1, 0, .aload_n 0) :: (27, 3, 224, .getfield 11) :: (30, 1, 1, .iconst 1) :: (31, 1, 0, .iaload) :: (32, 3, 60, .if_icmp .ge 28) :: (35, 1, 0, .aload_n 0) :: (36, 1, 0, .iload_n 3) :: (37, 1, 0, .aload_n 0) :: (38, 3, 228, .getfield 21) :: (41, 1, 0, .iload_n 3) :: (42, 1, 0, .baload) :: (43, 3, 50, .ifCond .eq 7) :: (46, 1, 0, .iload_n 1) :: (47, 3, 51, .goto 4) :: C_X7_settle_50) ls st σ := rfl
theorem U_X7_settle_50 (ls st : List zV) (σ : zM) : zres 156 C_X7_settle_50 ls st σ = zres 156 ((50, 1, 0, .iload_n 2) :: C_X7_settle_51) ls st σ := rfl
theorem U_X7_settle_51 (ls st : List zV) (σ : zM) : zres 156 C_X7_settle_51 ls st σ = zres 156 ((51, 3, 112, .invokevirtual 59) :: (54, 3, 0, .iinc 3 1) :: (57, 3, 25, .goto (-32)) :: C_X7_settle_60) ls st σ := rfl
theorem U_X7_settle_60 (ls st : List zV) (σ : zM) : zres 156 C_X7_settle_60 ls st σ = zres 156 ((60, 1, 0, .aload_n 0) :: (61, 3, 229, .getfield 153) :: (64, 1, (-1), .iconst (-1)) :: (65, 3, 88, .if_icmp .eq 23) :: (68, 1, 0, .aload_n 0) :: (69, 1, 0, .aload_n 0) :: (70, 3, 229, .getfield 153) :: (73, 1, 0, .aload_n 0) :: (74, 3, 234, .getfield 174) :: (77, 1, 0, .aload_n 0) :: (78, 3, 230, .getfield 157) :: (81, 1, 0, .aload_n 0) :: (82, 3, 231, .getfield 161) :: (85, 3, 123, .invokevirtual 91) :: C_X7_settle_88) ls st σ := rfl
theorem U_X7_settle_88 (ls st : List zV) (σ : zM) : zres 156 C_X7_settle_88 ls st σ = zres 156 ((88, 1, 0, .aload_n 0) :: (89, 3, 229, .getfield 153) :: (92, 3, 118, .invokestatic 76) :: (95, 1, 0, .ireturn) :: []) ls st σ := rfl
theorem S_X7_settle (c a0 a1 : Int) (σ : zM) : zcall 156 [vR c, vI a0, vI a1] σ = zres 156 C_X7_settle_0 [vR c, vI a0, vI a1, vU] [] σ := by
  unfold zcall zloc
  rw [G_X7_settle, M_X7_settle.2.1]
  rfl
theorem J_X7_nextWay_0 : zjump 157 0 = C_X7_nextWay_0 := by decide +kernel
theorem J_X7_nextWay_9 : zjump 157 9 = C_X7_nextWay_9 := by decide +kernel
theorem J_X7_nextWay_43 : zjump 157 43 = C_X7_nextWay_43 := by decide +kernel
theorem J_X7_nextWay_49 : zjump 157 49 = C_X7_nextWay_49 := by decide +kernel
theorem U_X7_nextWay_0 (ls st : List zV) (σ : zM) : zres 157 C_X7_nextWay_0 ls st σ = zres 157 ((0, 1, 0, .aload_n 0) :: (1, 3, 224, .getfield 11) :: (4, 1, 1, .iconst 1) :: (5, 1, 0, .iaload) :: (6, 1, 1, .iconst 1) :: (7, 1, 0, .isub) :: (8, 1, 0, .istore_n 1) :: C_X7_nextWay_9) ls st σ := rfl
theorem U_X7_nextWay_9 (ls st : List zV) (σ : zM) : zres 157 C_X7_nextWay_9 ls st σ = zres 157 ((9, 1, 0, .iload_n 1) :: (10, 3, 43, .ifCond .lt 33) :: (13, 1, 0, .aload_n 0) :: (14, 3, 235, .getfield 25) :: (17, 1, 0, .iload_n 1) :: (18, 1, 0, .iaload) :: (19, 1, 0, .aload_n 0) :: (20, 3, 224, .getfield 11) :: (23, 1, 0, .iconst 0) :: (24, 1, 0, .iaload) :: (25, 1, 1, .iconst 1) :: (26, 1, 0, .isub) :: (27, 3, 43, .if_icmp .ne 16) :: (30, 1, 0, .aload_n 0) :: (31, 3, 235, .getfield 25) :: (34, 1, 0, .iload_n 1) :: (35, 1, 0, .iconst 0) :: (36, 1, 0, .iastore) :: (37, 3, 0, .iinc 1 (-1)) :: (40, 3, 9, .goto (-31)) :: C_X7_nextWay_43) ls st σ := rfl
theorem U_X7_nextWay_43 (ls st : List zV) (σ : zM) : zres 157 C_X7_nextWay_43 ls st σ = zres 157 ((43, 1, 0, .iload_n 1) :: (44, 3, 49, .ifCond .ge 5) :: (47, 1, 0, .iconst 0) :: (48, 1, 1, .ireturn) :: C_X7_nextWay_49) ls st σ := rfl
theorem U_X7_nextWay_49 (ls st : List zV) (σ : zM) : zres 157 C_X7_nextWay_49 ls st σ = zres 157 ((49, 1, 0, .aload_n 0) :: (50, 3, 235, .getfield 25) :: (53, 1, 0, .iload_n 1) :: (54, 1, 0, .dup2) :: (55, 1, 0, .iaload) :: (56, 1, 1, .iconst 1) :: (57, 1, 0, .iadd) :: (58, 1, 0, .iastore) :: (59, 1, 1, .iconst 1) :: (60, 1, 1, .ireturn) :: []) ls st σ := rfl
theorem S_X7_nextWay (c : Int) (σ : zM) : zcall 157 [vR c] σ = zres 157 C_X7_nextWay_0 [vR c, vU] [] σ := by
  unfold zcall zloc
  rw [G_X7_nextWay, M_X7_nextWay.2.1]
  rfl
theorem J_X7_wayWorth_0 : zjump 158 0 = C_X7_wayWorth_0 := by decide +kernel
theorem J_X7_wayWorth_4 : zjump 158 4 = C_X7_wayWorth_4 := by decide +kernel
theorem J_X7_wayWorth_34 : zjump 158 34 = C_X7_wayWorth_34 := by decide +kernel
theorem J_X7_wayWorth_35 : zjump 158 35 = C_X7_wayWorth_35 := by decide +kernel
theorem J_X7_wayWorth_43 : zjump 158 43 = C_X7_wayWorth_43 := by decide +kernel
theorem U_X7_wayWorth_0 (ls st : List zV) (σ : zM) : zres 158 C_X7_wayWorth_0 ls st σ = zres 158 ((0, 1, 0, .iconst 0) :: (1, 1, 0, .istore_n 2) :: (2, 1, 0, .iconst 0) :: (3, 1, 0, .istore_n 3) :: C_X7_wayWorth_4) ls st σ := rfl
theorem U_X7_wayWorth_4 (ls st : List zV) (σ : zM) : zres 158 C_X7_wayWorth_4 ls st σ = zres 158 ((4, 1, 0, .iload_n 3) :: (5, 1, 0, .aload_n 0) :: (6, 3, 224, .getfield 11) :: (9, 1, 1, .iconst 1) :: (10, 1, 0, .iaload) :: (11, 3, 43, .if_icmp .ge 32) :: (14, 1, 0, .iload_n 2) :: (15, 1, 0, .aload_n 0) :: (16, 3, 235, .getfield 25) :: (19, 1, 0, .iload_n 3) :: (20, 1, 0, .iaload) :: (21, 1, 0, .iload_n 1) :: (22, 3, 34, .if_icmp .ne 12) :: (25, 1, 0, .aload_n 0) :: (26, 1, 0, .iload_n 1) :: (27, 1, 0, .iload_n 3) :: (28, 3, 113, .invokevirtual 68) :: (31, 3, 35, .goto 4) :: C_X7_wayWorth_34) ls st σ := rfl
theorem U_X7_wayWorth_34 (ls st : List zV) (σ : zM) : zres 158 C_X7_wayWorth_34 ls st σ = zres 158 ((34, 1, 0, .iconst 0) :: C_X7_wayWorth_35) ls st σ := rfl
theorem U_X7_wayWorth_35 (ls st : List zV) (σ : zM) : zres 158 C_X7_wayWorth_35 ls st σ = zres 158 ((35, 1, 0, .iadd) :: (36, 1, 0, .istore_n 2) :: (37, 3, 0, .iinc 3 1) :: (40, 3, 4, .goto (-36)) :: C_X7_wayWorth_43) ls st σ := rfl
theorem U_X7_wayWorth_43 (ls st : List zV) (σ : zM) : zres 158 C_X7_wayWorth_43 ls st σ = zres 158 ((43, 1, 0, .iload_n 2) :: (44, 1, 0, .ireturn) :: []) ls st σ := rfl
theorem S_X7_wayWorth (c a0 : Int) (σ : zM) : zcall 158 [vR c, vI a0] σ = zres 158 C_X7_wayWorth_0 [vR c, vI a0, vU, vU] [] σ := by
  unfold zcall zloc
  rw [G_X7_wayWorth, M_X7_wayWorth.2.1]
  rfl
theorem J_X7_searches_0 : zjump 159 0 = C_X7_searches_0 := by decide +kernel
theorem J_X7_searches_2 : zjump 159 2 = C_X7_searches_2 := by decide +kernel
theorem J_X7_searches_21 : zjump 159 21 = C_X7_searches_21 := by decide +kernel
theorem J_X7_searches_35 : zjump 159 35 = C_X7_searches_35 := by decide +kernel
theorem J_X7_searches_49 : zjump 159 49 = C_X7_searches_49 := by decide +kernel
theorem J_X7_searches_77 : zjump 159 77 = C_X7_searches_77 := by decide +kernel
theorem J_X7_searches_84 : zjump 159 84 = C_X7_searches_84 := by decide +kernel
theorem J_X7_searches_95 : zjump 159 95 = C_X7_searches_95 := by decide +kernel
theorem J_X7_searches_98 : zjump 159 98 = C_X7_searches_98 := by decide +kernel
theorem J_X7_searches_120 : zjump 159 120 = C_X7_searches_120 := by decide +kernel
theorem J_X7_searches_130 : zjump 159 130 = C_X7_searches_130 := by decide +kernel
theorem J_X7_searches_136 : zjump 159 136 = C_X7_searches_136 := by decide +kernel
theorem J_X7_searches_184 : zjump 159 184 = C_X7_searches_184 := by decide +kernel
theorem J_X7_searches_192 : zjump 159 192 = C_X7_searches_192 := by decide +kernel
theorem U_X7_searches_0 (ls st : List zV) (σ : zM) : zres 159 C_X7_searches_0 ls st σ = zres 159 ((0, 1, 0, .iconst 0) :: (1, 1, 0, .istore_n 1) :: C_X7_searches_2) ls st σ := rfl
theorem U_X7_searches_2 (ls st : List zV) (σ : zM) : zres 159 C_X7_searches_2 ls st σ = zres 159 ((2, 1, 0, .iload_n 1) :: (3, 2, 6, .bipush 6) :: (5, 3, 21, .if_icmp .ge 16) :: (8, 1, 0, .aload_n 0) :: (9, 3, 235, .getfield 25) :: (12, 1, 0, .iload_n 1) :: (13, 1, 0, .iconst 0) :: (14, 1, 0, .iastore) :: (15, 3, 0, .iinc 1 1) :: (18, 3, 2, .goto (-16)) :: C_X7_searches_21) ls st σ := rfl
theorem U_X7_searches_21 (ls st : List zV) (σ : zM) : zres 159 C_X7_searches_21 ls st σ = zres 159 ((21, 1, 0, .aload_n 0) :: (22, 3, (-1), .ldc2_w 195) :: (25, 3, 237, .putfield 197) :: (28, 1, 0, .aload_n 0) :: (29, 1, 1, .lconst 1) :: (30, 3, 238, .putfield 200) :: (33, 1, 1, .iconst 1) :: (34, 1, 0, .istore_n 1) :: C_X7_searches_35) ls st σ := rfl
theorem U_X7_searches_35 (ls st : List zV) (σ : zM) : zres 159 C_X7_searches_35 ls st σ = zres 159 ((35, 1, 0, .iload_n 1) :: (36, 3, 192, .ifCond .eq 156) :: (39, 1, 0, .iconst 0) :: (40, 1, 0, .istore_n 2) :: (41, 1, 0, .lconst 0) :: (42, 1, 0, .lstore_n 3) :: (43, 1, 0, .lconst 0) :: (44, 2, 0, .lstore 5) :: (46, 1, 0, .iconst 0) :: (47, 2, 0, .istore 7) :: C_X7_searches_49) ls st σ := rfl
theorem U_X7_searches_49 (ls st : List zV) (σ : zM) : zres 159 C_X7_searches_49 ls st σ = zres 159 ((49, 2, 0, .iload 7) :: (51, 1, 0, .aload_n 0) :: (52, 3, 224, .getfield 11) :: (55, 1, 0, .iconst 0) :: (56, 1, 0, .iaload) :: (57, 3, 136, .if_icmp .ge 79) :: (60, 1, 0, .aload_n 0) :: (61, 2, 0, .iload 7) :: (63, 3, 116, .invokevirtual 72) :: (66, 2, 0, .istore 8) :: (68, 2, 0, .iload 8) :: (70, 3, 77, .ifCond .ne 7) :: (73, 1, 1, .lconst 1) :: (74, 3, 84, .goto 10) :: C_X7_searches_77) ls st σ := rfl
theorem U_X7_searches_77 (ls st : List zV) (σ : zM) : zres 159 C_X7_searches_77 ls st σ = zres 159 ((77, 1, 0, .aload_n 0) :: (78, 2, 0, .iload 7) :: (80, 3, 158, .invokevirtual 203) :: (83, 1, 0, .i2l) :: C_X7_searches_84) ls st σ := rfl
theorem U_X7_searches_84 (ls st : List zV) (σ : zM) : zres 159 C_X7_searches_84 ls st σ = zres 159 ((84, 2, 0, .lstore 9) :: (86, 2, 0, .iload 8) :: (88, 3, 95, .ifCond .ne 7) :: (91, 1, 1, .lconst 1) :: (92, 3, 98, .goto 6) :: C_X7_searches_95) ls st σ := rfl
theorem U_X7_searches_95 (ls st : List zV) (σ : zM) : zres 159 C_X7_searches_95 ls st σ = zres 159 ((95, 2, 0, .iload 8) :: (97, 1, 0, .i2l) :: C_X7_searches_98) ls st σ := rfl
theorem U_X7_searches_98 (ls st : List zV) (σ : zM) : zres 159 C_X7_searches_98 ls st σ = zres 159 ((98, 2, 0, .lstore 11) :: (100, 2, 0, .lload 5) :: (102, 1, 0, .lconst 0) :: (103, 1, 0, .lcmp) :: (104, 3, 120, .ifCond .eq 16) :: (107, 2, 0, .lload 9) :: (109, 2, 0, .lload 5) :: (111, 1, 0, .lmul) :: (112, 1, 0, .lload_n 3) :: (113, 2, 0, .lload 11) :: (115, 1, 0, .lmul) :: (116, 1, 0, .lcmp) :: (117, 3, 130, .ifCond .ge 13) :: C_X7_searches_120) ls st σ := rfl
theorem U_X7_searches_120 (ls st : List zV) (σ : zM) : zres 159 C_X7_searches_120 ls st σ = zres 159 ((120, 2, 0, .iload 7) :: (122, 1, 0, .istore_n 2) :: (123, 2, 0, .lload 9) :: (125, 1, 0, .lstore_n 3) :: (126, 2, 0, .lload 11) :: (128, 2, 0, .lstore 5) :: C_X7_searches_130) ls st σ := rfl
theorem U_X7_searches_130 (ls st : List zV) (σ : zM) : zres 159 C_X7_searches_130 ls st σ = zres 159 ((130, 3, 0, .iinc 7 1) :: (133, 3, 49, .goto (-84)) :: C_X7_searches_136) ls st σ := rfl
theorem U_X7_searches_136 (ls st : List zV) (σ : zM) : zres 159 C_X7_searches_136 ls st σ = zres 159 ((136, 1, 0, .lload_n 3) :: (137, 1, 0, .aload_n 0) :: (138, 3, 238, .getfield 200) :: (141, 1, 0, .lmul) :: (142, 1, 0, .aload_n 0) :: (143, 3, 237, .getfield 197) :: (146, 2, 0, .lload 5) :: (148, 1, 0, .lmul) :: (149, 1, 0, .lcmp) :: (150, 3, 184, .ifCond .le 34) :: (153, 1, 0, .aload_n 0) :: (154, 1, 0, .lload_n 3) :: (155, 3, 237, .putfield 197) :: (158, 1, 0, .aload_n 0) :: (159, 2, 0, .lload 5) :: (161, 3, 238, .putfield 200) :: (164, 1, 0, .aload_n 0) :: (165, 1, 0, .iload_n 2) :: (166, 3, 239, .putfield 206) :: (169, 1, 0, .aload_n 0) :: (170, 3, 235, .getfield 25) :: (173, 1, 0, .iconst 0) :: (174, 1, 0, .aload_n 0) :: (175, 3, 236, .getfield 28) :: (178, 1, 0, .iconst 0) :: (179, 2, 6, .bipush 6) :: (181, 3, 9999, .invokestatic 209) :: C_X7_searches_184) ls st σ := rfl
theorem U_X7_searches_184 (ls st : List zV) (σ : zM) : zres 159 C_X7_searches_184 ls st σ = zres 159 ((184, 1, 0, .aload_n 0) :: (185, 3, 157, .invokevirtual 215) :: (188, 1, 0, .istore_n 1) :: (189, 3, 35, .goto (-154)) :: C_X7_searches_192) ls st σ := rfl
theorem U_X7_searches_192 (ls st : List zV) (σ : zM) : zres 159 C_X7_searches_192 ls st σ = zres 159 ((192, 1, 0, .return_) :: []) ls st σ := rfl
theorem S_X7_searches (c : Int) (σ : zM) : zcall 159 [vR c] σ = zres 159 C_X7_searches_0 [vR c, vU, vU, vU, vU, vU, vU, vU, vU, vU, vU, vU, vU] [] σ := by
  unfold zcall zloc
  rw [G_X7_searches, M_X7_searches.2.1]
  rfl
theorem J_X7_fair_0 : zjump 160 0 = C_X7_fair_0 := by decide +kernel
theorem J_X7_fair_10 : zjump 160 10 = C_X7_fair_10 := by decide +kernel
theorem U_X7_fair_0 (ls st : List zV) (σ : zM) : zres 160 C_X7_fair_0 ls st σ = zres 160 ((0, 1, 0, .aload_n 0) :: (1, 1, 0, .iload_n 1) :: (2, 3, 107, .invokevirtual 63) :: (5, 3, 10, .ifCond .ne 5) :: (8, 1, (-1), .iconst (-1)) :: (9, 1, 0, .ireturn) :: C_X7_fair_10) ls st σ := rfl
theorem U_X7_fair_10 (ls st : List zV) (σ : zM) : zres 160 C_X7_fair_10 ls st σ = zres 160 ((10, 1, 0, .aload_n 0) :: (11, 3, 159, .invokevirtual 219) :: (14, 1, 0, .aload_n 0) :: (15, 3, 236, .getfield 28) :: (18, 1, 0, .iload_n 1) :: (19, 1, 0, .iaload) :: (20, 1, 0, .ireturn) :: []) ls st σ := rfl
theorem S_X7_fair (c a0 : Int) (σ : zM) : zcall 160 [vR c, vI a0] σ = zres 160 C_X7_fair_0 [vR c, vI a0] [] σ := by
  unfold zcall zloc
  rw [G_X7_fair, M_X7_fair.2.1]
  rfl
theorem J_X7_fairest_0 : zjump 161 0 = C_X7_fairest_0 := by decide +kernel
theorem J_X7_fairest_11 : zjump 161 11 = C_X7_fairest_11 := by decide +kernel
theorem U_X7_fairest_0 (ls st : List zV) (σ : zM) : zres 161 C_X7_fairest_0 ls st σ = zres 161 ((0, 1, 0, .iload_n 1) :: (1, 3, 109, .invokestatic 97) :: (4, 3, 11, .ifCond .ne 7) :: (7, 3, (-9223372036854775808), .ldc2_w 100) :: (10, 1, 0, .lreturn) :: C_X7_fairest_11) ls st σ := rfl
theorem U_X7_fairest_11 (ls st : List zV) (σ : zM) : zres 161 C_X7_fairest_11 ls st σ = zres 161 ((11, 1, 0, .aload_n 0) :: (12, 3, 159, .invokevirtual 219) :: (15, 1, 0, .aload_n 0) :: (16, 3, 237, .getfield 197) :: (19, 1, 0, .aload_n 0) :: (20, 3, 238, .getfield 200) :: (23, 1, 0, .iload_n 1) :: (24, 3, 122, .invokestatic 83) :: (27, 1, 0, .lreturn) :: []) ls st σ := rfl
theorem S_X7_fairest (c a0 : Int) (σ : zM) : zcall 161 [vR c, vI a0] σ = zres 161 C_X7_fairest_0 [vR c, vI a0] [] σ := by
  unfold zcall zloc
  rw [G_X7_fairest, M_X7_fairest.2.1]
  rfl
theorem J_X7_withoutHolder_0 : zjump 162 0 = C_X7_withoutHolder_0 := by decide +kernel
theorem J_X7_withoutHolder_4 : zjump 162 4 = C_X7_withoutHolder_4 := by decide +kernel
theorem J_X7_withoutHolder_31 : zjump 162 31 = C_X7_withoutHolder_31 := by decide +kernel
theorem J_X7_withoutHolder_32 : zjump 162 32 = C_X7_withoutHolder_32 := by decide +kernel
theorem J_X7_withoutHolder_40 : zjump 162 40 = C_X7_withoutHolder_40 := by decide +kernel
theorem U_X7_withoutHolder_0 (ls st : List zV) (σ : zM) : zres 162 C_X7_withoutHolder_0 ls st σ = zres 162 ((0, 1, 0, .iconst 0) :: (1, 1, 0, .istore_n 1) :: (2, 1, 0, .iconst 0) :: (3, 1, 0, .istore_n 2) :: C_X7_withoutHolder_4) ls st σ := rfl
theorem U_X7_withoutHolder_4 (ls st : List zV) (σ : zM) : zres 162 C_X7_withoutHolder_4 ls st σ = zres 162 ((4, 1, 0, .iload_n 2) :: (5, 1, 0, .aload_n 0) :: (6, 3, 224, .getfield 11) :: (9, 1, 1, .iconst 1) :: (10, 1, 0, .iaload) :: (11, 3, 40, .if_icmp .ge 29) :: (14, 1, 0, .iload_n 1) :: (15, 1, 0, .aload_n 0) :: (16, 3, 224, .getfield 11) :: (19, 1, 5, .iconst 5) :: (20, 1, 0, .iload_n 2) :: (21, 1, 0, .iadd) :: (22, 1, 0, .iaload) :: (23, 1, (-1), .iconst (-1)) :: (24, 3, 31, .if_icmp .ne 7) :: (27, 1, 1, .iconst 1) :: (28, 3, 32, .goto 4) :: C_X7_withoutHolder_31) ls st σ := rfl
theorem U_X7_withoutHolder_31 (ls st : List zV) (σ : zM) : zres 162 C_X7_withoutHolder_31 ls st σ = zres 162 ((31, 1, 0, .iconst 0) :: C_X7_withoutHolder_32) ls st σ := rfl
theorem U_X7_withoutHolder_32 (ls st : List zV) (σ : zM) : zres 162 C_X7_withoutHolder_32 ls st σ = zres 162 ((32, 1, 0, .iadd) :: (33, 1, 0, .istore_n 1) :: (34, 3, 0, .iinc 2 1) :: (37, 3, 4, .goto (-33)) :: C_X7_withoutHolder_40) ls st σ := rfl
theorem U_X7_withoutHolder_40 (ls st : List zV) (σ : zM) : zres 162 C_X7_withoutHolder_40 ls st σ = zres 162 ((40, 1, 0, .iload_n 1) :: (41, 1, 0, .ireturn) :: []) ls st σ := rfl
theorem S_X7_withoutHolder (c : Int) (σ : zM) : zcall 162 [vR c] σ = zres 162 C_X7_withoutHolder_0 [vR c, vU, vU] [] σ := by
  unfold zcall zloc
  rw [G_X7_withoutHolder, M_X7_withoutHolder.2.1]
  rfl
theorem J_X7_told_0 : zjump 163 0 = C_X7_told_0 := by decide +kernel
theorem J_X7_told_40 : zjump 163 40 = C_X7_told_40 := by decide +kernel
theorem J_X7_told_47 : zjump 163 47 = C_X7_told_47 := by decide +kernel
theorem J_X7_told_54 : zjump 163 54 = C_X7_told_54 := by decide +kernel
theorem J_X7_told_59 : zjump 163 59 = C_X7_told_59 := by decide +kernel
theorem J_X7_told_64 : zjump 163 64 = C_X7_told_64 := by decide +kernel
theorem J_X7_told_69 : zjump 163 69 = C_X7_told_69 := by decide +kernel
theorem J_X7_told_78 : zjump 163 78 = C_X7_told_78 := by decide +kernel
theorem U_X7_told_0 (ls st : List zV) (σ : zM) : zres 163 C_X7_told_0 ls st σ = zres 163 ((0, 1, 0, .iload_n 1) :: (1, 39, 0, .tableswitch 77 0 5 #[39, 46, 53, 58, 63, 68]) :: C_X7_told_40) ls st σ := rfl
theorem U_X7_told_40 (ls st : List zV) (σ : zM) : zres 163 C_X7_told_40 ls st σ = zres 163 ((40, 1, 0, .aload_n 0) :: (41, 3, 224, .getfield 11) :: (44, 1, 0, .iconst 0) :: (45, 1, 0, .iaload) :: (46, 1, 0, .ireturn) :: C_X7_told_47) ls st σ := rfl
theorem U_X7_told_47 (ls st : List zV) (σ : zM) : zres 163 C_X7_told_47 ls st σ = zres 163 ((47, 1, 0, .aload_n 0) :: (48, 3, 224, .getfield 11) :: (51, 1, 1, .iconst 1) :: (52, 1, 0, .iaload) :: (53, 1, 0, .ireturn) :: C_X7_told_54) ls st σ := rfl
theorem U_X7_told_54 (ls st : List zV) (σ : zM) : zres 163 C_X7_told_54 ls st σ = zres 163 ((54, 1, 0, .aload_n 0) :: (55, 3, 120, .invokevirtual 87) :: (58, 1, 0, .ireturn) :: C_X7_told_59) ls st σ := rfl
theorem U_X7_told_59 (ls st : List zV) (σ : zM) : zres 163 C_X7_told_59 ls st σ = zres 163 ((59, 1, 0, .aload_n 0) :: (60, 3, 162, .invokevirtual 222) :: (63, 1, 0, .ireturn) :: C_X7_told_64) ls st σ := rfl
theorem U_X7_told_64 (ls st : List zV) (σ : zM) : zres 163 C_X7_told_64 ls st σ = zres 163 ((64, 1, 0, .aload_n 0) :: (65, 3, 141, .invokevirtual 225) :: (68, 1, 0, .ireturn) :: C_X7_told_69) ls st σ := rfl
theorem U_X7_told_69 (ls st : List zV) (σ : zM) : zres 163 C_X7_told_69 ls st σ = zres 163 ((69, 1, 0, .aload_n 0) :: (70, 3, 159, .invokevirtual 219) :: (73, 1, 0, .aload_n 0) :: (74, 3, 239, .getfield 206) :: (77, 1, 0, .ireturn) :: C_X7_told_78) ls st σ := rfl
theorem U_X7_told_78 (ls st : List zV) (σ : zM) : zres 163 C_X7_told_78 ls st σ = zres 163 ((78, 1, (-1), .iconst (-1)) :: (79, 1, 0, .ireturn) :: []) ls st σ := rfl
theorem S_X7_told (c a0 : Int) (σ : zM) : zcall 163 [vR c, vI a0] σ = zres 163 C_X7_told_0 [vR c, vI a0] [] σ := by
  unfold zcall zloc
  rw [G_X7_told, M_X7_told.2.1]
  rfl
theorem J_X7_feed_0 : zjump 164 0 = C_X7_feed_0 := by decide +kernel
theorem J_X7_feed_15 : zjump 164 15 = C_X7_feed_15 := by decide +kernel
theorem J_X7_feed_27 : zjump 164 27 = C_X7_feed_27 := by decide +kernel
theorem U_X7_feed_0 (ls st : List zV) (σ : zM) : zres 164 C_X7_feed_0 ls st σ = zres 164 ((0, 1, 0, .iload_n 1) :: (1, 1, 0, .i2l) :: (2, 1, 0, .lconst 0) :: (3, 3, 127, .ldc2_w 228) :: (6, 3, 105, .invokestatic 47) :: (9, 3, 15, .ifCond .ne 6) :: (12, 2, (-2), .bipush (-2)) :: (14, 1, 0, .ireturn) :: C_X7_feed_15) ls st σ := rfl
theorem U_X7_feed_15 (ls st : List zV) (σ : zM) : zres 164 C_X7_feed_15 ls st σ = zres 164 ((15, 1, 0, .aload_n 0) :: (16, 3, 241, .getfield 230) :: (19, 2, 100, .bipush 100) :: (21, 3, 27, .if_icmp .ne 6) :: (24, 2, (-4), .bipush (-4)) :: (26, 1, 0, .ireturn) :: C_X7_feed_27) ls st σ := rfl
theorem U_X7_feed_27 (ls st : List zV) (σ : zM) : zres 164 C_X7_feed_27 ls st σ = zres 164 ((27, 1, 0, .aload_n 0) :: (28, 3, 240, .getfield 31) :: (31, 1, 0, .aload_n 0) :: (32, 3, 241, .getfield 230) :: (35, 1, 0, .iload_n 1) :: (36, 1, 0, .iastore) :: (37, 1, 0, .aload_n 0) :: (38, 1, 0, .dup) :: (39, 3, 241, .getfield 230) :: (42, 1, 1, .iconst 1) :: (43, 1, 0, .iadd) :: (44, 3, 241, .putfield 230) :: (47, 1, 0, .aload_n 0) :: (48, 3, 241, .getfield 230) :: (51, 1, 0, .ireturn) :: []) ls st σ := rfl
theorem S_X7_feed (c a0 : Int) (σ : zM) : zcall 164 [vR c, vI a0] σ = zres 164 C_X7_feed_0 [vR c, vI a0] [] σ := by
  unfold zcall zloc
  rw [G_X7_feed, M_X7_feed.2.1]
  rfl
theorem J_X7_isDigit_0 : zjump 165 0 = C_X7_isDigit_0 := by decide +kernel
theorem J_X7_isDigit_37 : zjump 165 37 = C_X7_isDigit_37 := by decide +kernel
theorem J_X7_isDigit_38 : zjump 165 38 = C_X7_isDigit_38 := by decide +kernel
theorem U_X7_isDigit_0 (ls st : List zV) (σ : zM) : zres 165 C_X7_isDigit_0 ls st σ = zres 165 ((0, 1, 0, .aload_n 0) :: (1, 3, 242, .getfield 233) :: (4, 1, 0, .aload_n 0) :: (5, 3, 241, .getfield 230) :: (8, 3, 37, .if_icmp .ge 29) :: (11, 1, 0, .aload_n 0) :: (12, 3, 240, .getfield 31) :: (15, 1, 0, .aload_n 0) :: (16, 3, 242, .getfield 233) :: (19, 1, 0, .iaload) :: (20, 1, 0, .i2l) :: (21, 3, 48, .ldc2_w 236) :: (24, 3, 57, .ldc2_w 238) :: (27, 3, 105, .invokestatic 47) :: (30, 3, 37, .ifCond .eq 7) :: (33, 1, 1, .iconst 1) :: (34, 3, 38, .goto 4) :: C_X7_isDigit_37) ls st σ := rfl
theorem U_X7_isDigit_37 (ls st : List zV) (σ : zM) : zres 165 C_X7_isDigit_37 ls st σ = zres 165 ((37, 1, 0, .iconst 0) :: C_X7_isDigit_38) ls st σ := rfl
theorem U_X7_isDigit_38 (ls st : List zV) (σ : zM) : zres 165 C_X7_isDigit_38 ls st σ = zres 165 ((38, 1, 1, .ireturn) :: []) ls st σ := rfl
theorem S_X7_isDigit (c : Int) (σ : zM) : zcall 165 [vR c] σ = zres 165 C_X7_isDigit_0 [vR c] [] σ := by
  unfold zcall zloc
  rw [G_X7_isDigit, M_X7_isDigit.2.1]
  rfl
theorem J_X7_numbersOf_0 : zjump 166 0 = C_X7_numbersOf_0 := by decide +kernel
theorem J_X7_numbersOf_10 : zjump 166 10 = C_X7_numbersOf_10 := by decide +kernel
theorem J_X7_numbersOf_20 : zjump 166 20 = C_X7_numbersOf_20 := by decide +kernel
theorem J_X7_numbersOf_30 : zjump 166 30 = C_X7_numbersOf_30 := by decide +kernel
theorem J_X7_numbersOf_42 : zjump 166 42 = C_X7_numbersOf_42 := by decide +kernel
theorem J_X7_numbersOf_46 : zjump 166 46 = C_X7_numbersOf_46 := by decide +kernel
theorem J_X7_numbersOf_47 : zjump 166 47 = C_X7_numbersOf_47 := by decide +kernel
theorem U_X7_numbersOf_0 (ls st : List zV) (σ : zM) : zres 166 C_X7_numbersOf_0 ls st σ = zres 166 ((0, 1, 0, .iload_n 0) :: (1, 2, 110, .bipush 110) :: (3, 3, 10, .if_icmp .ne 7) :: (6, 1, 1, .iconst 1) :: (7, 3, 47, .goto 40) :: C_X7_numbersOf_10) ls st σ := rfl
theorem U_X7_numbersOf_10 (ls st : List zV) (σ : zM) : zres 166 C_X7_numbersOf_10 ls st σ = zres 166 ((10, 1, 0, .iload_n 0) :: (11, 2, 116, .bipush 116) :: (13, 3, 20, .if_icmp .ne 7) :: (16, 1, 0, .iconst 0) :: (17, 3, 47, .goto 30) :: C_X7_numbersOf_20) ls st σ := rfl
theorem U_X7_numbersOf_20 (ls st : List zV) (σ : zM) : zres 166 C_X7_numbersOf_20 ls st σ = zres 166 ((20, 1, 0, .iload_n 0) :: (21, 2, 112, .bipush 112) :: (23, 3, 30, .if_icmp .ne 7) :: (26, 1, 3, .iconst 3) :: (27, 3, 47, .goto 20) :: C_X7_numbersOf_30) ls st σ := rfl
theorem U_X7_numbersOf_30 (ls st : List zV) (σ : zM) : zres 166 C_X7_numbersOf_30 ls st σ = zres 166 ((30, 1, 0, .iload_n 0) :: (31, 2, 104, .bipush 104) :: (33, 3, 42, .if_icmp .eq 9) :: (36, 1, 0, .iload_n 0) :: (37, 2, 115, .bipush 115) :: (39, 3, 46, .if_icmp .ne 7) :: C_X7_numbersOf_42) ls st σ := rfl
theorem U_X7_numbersOf_42 (ls st : List zV) (σ : zM) : zres 166 C_X7_numbersOf_42 ls st σ = zres 166 ((42, 1, 2, .iconst 2) :: (43, 3, 47, .goto 4) :: C_X7_numbersOf_46) ls st σ := rfl
theorem U_X7_numbersOf_46 (ls st : List zV) (σ : zM) : zres 166 C_X7_numbersOf_46 ls st σ = zres 166 ((46, 1, (-1), .iconst (-1)) :: C_X7_numbersOf_47) ls st σ := rfl
theorem U_X7_numbersOf_47 (ls st : List zV) (σ : zM) : zres 166 C_X7_numbersOf_47 ls st σ = zres 166 ((47, 1, 0, .ireturn) :: []) ls st σ := rfl
theorem S_X7_numbersOf (a0 : Int) (σ : zM) : zcall 166 [vI a0] σ = zres 166 C_X7_numbersOf_0 [vI a0] [] σ := by
  unfold zcall zloc
  rw [G_X7_numbersOf, M_X7_numbersOf.2.1]
  rfl
theorem J_X7_readsClause_0 : zjump 167 0 = C_X7_readsClause_0 := by decide +kernel
theorem J_X7_readsClause_27 : zjump 167 27 = C_X7_readsClause_27 := by decide +kernel
theorem J_X7_readsClause_29 : zjump 167 29 = C_X7_readsClause_29 := by decide +kernel
theorem J_X7_readsClause_60 : zjump 167 60 = C_X7_readsClause_60 := by decide +kernel
theorem J_X7_readsClause_77 : zjump 167 77 = C_X7_readsClause_77 := by decide +kernel
theorem J_X7_readsClause_143 : zjump 167 143 = C_X7_readsClause_143 := by decide +kernel
theorem J_X7_readsClause_161 : zjump 167 161 = C_X7_readsClause_161 := by decide +kernel
theorem U_X7_readsClause_0 (ls st : List zV) (σ : zM) : zres 167 C_X7_readsClause_0 ls st σ = zres 167 ((0, 1, 0, .aload_n 0) :: (1, 3, 242, .getfield 233) :: (4, 1, 0, .aload_n 0) :: (5, 3, 241, .getfield 230) :: (8, 3, 27, .if_icmp .eq 19) :: (11, 1, 0, .aload_n 0) :: (12, 3, 240, .getfield 31) :: (15, 1, 0, .aload_n 0) :: (16, 3, 242, .getfield 233) :: (19, 1, 0, .iaload) :: (20, 3, 166, .invokestatic 240) :: (23, 1, (-1), .iconst (-1)) :: (24, 3, 29, .if_icmp .ne 5) :: C_X7_readsClause_27) ls st σ := rfl
theorem U_X7_readsClause_27 (ls st : List zV) (σ : zM) : zres 167 C_X7_readsClause_27 ls st σ = zres 167 ((27, 1, 0, .iconst 0) :: (28, 1, 1, .ireturn) :: C_X7_readsClause_29) ls st σ := rfl
theorem U_X7_readsClause_29 (ls st : List zV) (σ : zM) : zres 167 C_X7_readsClause_29 ls st σ = zres 167 ((29, 1, 0, .aload_n 0) :: (30, 3, 240, .getfield 31) :: (33, 1, 0, .aload_n 0) :: (34, 3, 242, .getfield 233) :: (37, 1, 0, .iaload) :: (38, 1, 0, .istore_n 2) :: (39, 1, 0, .aload_n 0) :: (40, 3, 243, .getfield 34) :: (43, 1, 4, .iconst 4) :: (44, 1, 0, .iload_n 1) :: (45, 1, 0, .imul) :: (46, 1, 0, .iload_n 2) :: (47, 1, 0, .iastore) :: (48, 1, 0, .aload_n 0) :: (49, 1, 0, .dup) :: (50, 3, 242, .getfield 233) :: (53, 1, 1, .iconst 1) :: (54, 1, 0, .iadd) :: (55, 3, 242, .putfield 233) :: (58, 1, 1, .iconst 1) :: (59, 1, 0, .istore_n 3) :: C_X7_readsClause_60) ls st σ := rfl
theorem U_X7_readsClause_60 (ls st : List zV) (σ : zM) : zres 167 C_X7_readsClause_60 ls st σ = zres 167 ((60, 1, 0, .iload_n 3) :: (61, 1, 0, .iload_n 2) :: (62, 3, 166, .invokestatic 240) :: (65, 3, 161, .if_icmp .gt 96) :: (68, 1, 0, .aload_n 0) :: (69, 3, 165, .invokevirtual 243) :: (72, 3, 77, .ifCond .ne 5) :: (75, 1, 0, .iconst 0) :: (76, 1, 1, .ireturn) :: C_X7_readsClause_77) ls st σ := rfl
theorem U_X7_readsClause_77 (ls st : List zV) (σ : zM) : zres 167 C_X7_readsClause_77 ls st σ = zres 167 ((77, 1, 0, .aload_n 0) :: (78, 3, 240, .getfield 31) :: (81, 1, 0, .aload_n 0) :: (82, 3, 242, .getfield 233) :: (85, 1, 0, .iaload) :: (86, 2, 48, .bipush 48) :: (88, 1, 0, .isub) :: (89, 2, 0, .istore 4) :: (91, 1, 0, .aload_n 0) :: (92, 1, 0, .dup) :: (93, 3, 242, .getfield 233) :: (96, 1, 1, .iconst 1) :: (97, 1, 0, .iadd) :: (98, 3, 242, .putfield 233) :: (101, 1, 0, .iload_n 3) :: (102, 1, 3, .iconst 3) :: (103, 3, 143, .if_icmp .ne 40) :: (106, 1, 0, .aload_n 0) :: (107, 3, 165, .invokevirtual 243) :: (110, 3, 143, .ifCond .eq 33) :: (113, 2, 10, .bipush 10) :: (115, 2, 0, .iload 4) :: (117, 1, 0, .imul) :: (118, 1, 0, .aload_n 0) :: (119, 3, 240, .getfield 31) :: (122, 1, 0, .aload_n 0) :: (123, 3, 242, .getfield 233) :: (126, 1, 0, .iaload) :: (127, 1, 0, .iadd) :: (128, 2, 48, .bipush 48) :: (130, 1, 0, .isub) :: (131, 2, 0, .istore 4) :: (133, 1, 0, .aload_n 0) :: (134, 1, 0, .dup) :: (135, 3, 242, .getfield 233) :: (138, 1, 1, .iconst 1) :: (139, 1, 0, .iadd) :: (140, 3, 242, .putfield 233) :: C_X7_readsClause_143) ls st σ := rfl
theorem U_X7_readsClause_143 (ls st : List zV) (σ : zM) : zres 167 C_X7_readsClause_143 ls st σ = zres 167 ((143, 1, 0, .aload_n 0) :: (144, 3, 243, .getfield 34) :: (147, 1, 4, .iconst 4) :: (148, 1, 0, .iload_n 1) :: (149, 1, 0, .imul) :: (150, 1, 0, .iload_n 3) :: (151, 1, 0, .iadd) :: (152, 2, 0, .iload 4) :: (154, 1, 0, .iastore) :: (155, 3, 0, .iinc 3 1) :: (158, 3, 60, .goto (-98)) :: C_X7_readsClause_161) ls st σ := rfl
theorem U_X7_readsClause_161 (ls st : List zV) (σ : zM) : zres 167 C_X7_readsClause_161 ls st σ = zres 167 ((161, 1, 1, .iconst 1) :: (162, 1, 1, .ireturn) :: []) ls st σ := rfl
theorem S_X7_readsClause (c a0 : Int) (σ : zM) : zcall 167 [vR c, vI a0] σ = zres 167 C_X7_readsClause_0 [vR c, vI a0, vU, vU, vU] [] σ := by
  unfold zcall zloc
  rw [G_X7_readsClause, M_X7_readsClause.2.1]
  rfl
theorem J_X7_readsAll_0 : zjump 168 0 = C_X7_readsAll_0 := by decide +kernel
theorem J_X7_readsAll_7 : zjump 168 7 = C_X7_readsAll_7 := by decide +kernel
theorem J_X7_readsAll_31 : zjump 168 31 = C_X7_readsAll_31 := by decide +kernel
theorem J_X7_readsAll_51 : zjump 168 51 = C_X7_readsAll_51 := by decide +kernel
theorem J_X7_readsAll_53 : zjump 168 53 = C_X7_readsAll_53 := by decide +kernel
theorem J_X7_readsAll_66 : zjump 168 66 = C_X7_readsAll_66 := by decide +kernel
theorem U_X7_readsAll_0 (ls st : List zV) (σ : zM) : zres 168 C_X7_readsAll_0 ls st σ = zres 168 ((0, 1, 0, .aload_n 0) :: (1, 1, 0, .iconst 0) :: (2, 3, 242, .putfield 233) :: (5, 1, 0, .iconst 0) :: (6, 1, 0, .istore_n 1) :: C_X7_readsAll_7) ls st σ := rfl
theorem U_X7_readsAll_7 (ls st : List zV) (σ : zM) : zres 168 C_X7_readsAll_7 ls st σ = zres 168 ((7, 1, 0, .aload_n 0) :: (8, 1, 0, .iload_n 1) :: (9, 3, 167, .invokevirtual 246) :: (12, 3, 66, .ifCond .eq 54) :: (15, 3, 0, .iinc 1 1) :: (18, 1, 0, .aload_n 0) :: (19, 3, 242, .getfield 233) :: (22, 1, 0, .aload_n 0) :: (23, 3, 241, .getfield 230) :: (26, 3, 31, .if_icmp .ne 5) :: (29, 1, 0, .iload_n 1) :: (30, 1, 0, .ireturn) :: C_X7_readsAll_31) ls st σ := rfl
theorem U_X7_readsAll_31 (ls st : List zV) (σ : zM) : zres 168 C_X7_readsAll_31 ls st σ = zres 168 ((31, 1, 0, .aload_n 0) :: (32, 3, 240, .getfield 31) :: (35, 1, 0, .aload_n 0) :: (36, 3, 242, .getfield 233) :: (39, 1, 0, .iaload) :: (40, 2, 59, .bipush 59) :: (42, 3, 51, .if_icmp .ne 9) :: (45, 1, 0, .iload_n 1) :: (46, 2, 14, .bipush 14) :: (48, 3, 53, .if_icmp .ne 5) :: C_X7_readsAll_51) ls st σ := rfl
theorem U_X7_readsAll_51 (ls st : List zV) (σ : zM) : zres 168 C_X7_readsAll_51 ls st σ = zres 168 ((51, 1, (-1), .iconst (-1)) :: (52, 1, 0, .ireturn) :: C_X7_readsAll_53) ls st σ := rfl
theorem U_X7_readsAll_53 (ls st : List zV) (σ : zM) : zres 168 C_X7_readsAll_53 ls st σ = zres 168 ((53, 1, 0, .aload_n 0) :: (54, 1, 0, .dup) :: (55, 3, 242, .getfield 233) :: (58, 1, 1, .iconst 1) :: (59, 1, 0, .iadd) :: (60, 3, 242, .putfield 233) :: (63, 3, 7, .goto (-56)) :: C_X7_readsAll_66) ls st σ := rfl
theorem U_X7_readsAll_66 (ls st : List zV) (σ : zM) : zres 168 C_X7_readsAll_66 ls st σ = zres 168 ((66, 1, (-1), .iconst (-1)) :: (67, 1, 0, .ireturn) :: []) ls st σ := rfl
theorem S_X7_readsAll (c : Int) (σ : zM) : zcall 168 [vR c] σ = zres 168 C_X7_readsAll_0 [vR c, vU] [] σ := by
  unfold zcall zloc
  rw [G_X7_readsAll, M_X7_readsAll.2.1]
  rfl
theorem J_X7_does_0 : zjump 169 0 = C_X7_does_0 := by decide +kernel
theorem J_X7_does_72 : zjump 169 72 = C_X7_does_72 := by decide +kernel
theorem J_X7_does_78 : zjump 169 78 = C_X7_does_78 := by decide +kernel
theorem J_X7_does_83 : zjump 169 83 = C_X7_does_83 := by decide +kernel
theorem J_X7_does_100 : zjump 169 100 = C_X7_does_100 := by decide +kernel
theorem J_X7_does_107 : zjump 169 107 = C_X7_does_107 := by decide +kernel
theorem U_X7_does_0 (ls st : List zV) (σ : zM) : zres 169 C_X7_does_0 ls st σ = zres 169 ((0, 1, 0, .aload_n 0) :: (1, 3, 243, .getfield 34) :: (4, 1, 4, .iconst 4) :: (5, 1, 0, .iload_n 1) :: (6, 1, 0, .imul) :: (7, 1, 1, .iconst 1) :: (8, 1, 0, .iadd) :: (9, 1, 0, .iaload) :: (10, 1, 0, .istore_n 2) :: (11, 1, 0, .aload_n 0) :: (12, 3, 243, .getfield 34) :: (15, 1, 4, .iconst 4) :: (16, 1, 0, .iload_n 1) :: (17, 1, 0, .imul) :: (18, 1, 2, .iconst 2) :: (19, 1, 0, .iadd) :: (20, 1, 0, .iaload) :: (21, 1, 0, .istore_n 3) :: (22, 1, 0, .aload_n 0) :: (23, 3, 243, .getfield 34) :: (26, 1, 4, .iconst 4) :: (27, 1, 0, .iload_n 1) :: (28, 1, 0, .imul) :: (29, 1, 0, .iaload) :: (30, 42, 0, .lookupswitch 77 #[(104, 70), (110, 42), (112, 53), (116, 48)]) :: C_X7_does_72) ls st σ := rfl
theorem U_X7_does_72 (ls st : List zV) (σ : zM) : zres 169 C_X7_does_72 ls st σ = zres 169 ((72, 1, 0, .aload_n 0) :: (73, 1, 0, .iload_n 2) :: (74, 3, 110, .invokevirtual 249) :: (77, 1, 0, .ireturn) :: C_X7_does_78) ls st σ := rfl
theorem U_X7_does_78 (ls st : List zV) (σ : zM) : zres 169 C_X7_does_78 ls st σ = zres 169 ((78, 1, 0, .aload_n 0) :: (79, 3, 111, .invokevirtual 252) :: (82, 1, 0, .ireturn) :: C_X7_does_83) ls st σ := rfl
theorem U_X7_does_83 (ls st : List zV) (σ : zM) : zres 169 C_X7_does_83 ls st σ = zres 169 ((83, 1, 0, .aload_n 0) :: (84, 1, 0, .iload_n 2) :: (85, 1, 0, .iload_n 3) :: (86, 1, 0, .aload_n 0) :: (87, 3, 243, .getfield 34) :: (90, 1, 4, .iconst 4) :: (91, 1, 0, .iload_n 1) :: (92, 1, 0, .imul) :: (93, 1, 3, .iconst 3) :: (94, 1, 0, .iadd) :: (95, 1, 0, .iaload) :: (96, 3, 114, .invokevirtual 255) :: (99, 1, 0, .ireturn) :: C_X7_does_100) ls st σ := rfl
theorem U_X7_does_100 (ls st : List zV) (σ : zM) : zres 169 C_X7_does_100 ls st σ = zres 169 ((100, 1, 0, .aload_n 0) :: (101, 1, 0, .iload_n 2) :: (102, 1, 0, .iload_n 3) :: (103, 3, 119, .invokevirtual 258) :: (106, 1, 0, .ireturn) :: C_X7_does_107) ls st σ := rfl
theorem U_X7_does_107 (ls st : List zV) (σ : zM) : zres 169 C_X7_does_107 ls st σ = zres 169 ((107, 1, 0, .aload_n 0) :: (108, 1, 0, .iload_n 2) :: (109, 1, 0, .iload_n 3) :: (110, 3, 156, .invokevirtual 261) :: (113, 1, 0, .ireturn) :: []) ls st σ := rfl
theorem S_X7_does (c a0 : Int) (σ : zM) : zcall 169 [vR c, vI a0] σ = zres 169 C_X7_does_0 [vR c, vI a0, vU, vU] [] σ := by
  unfold zcall zloc
  rw [G_X7_does, M_X7_does.2.1]
  rfl
theorem J_X7_read_0 : zjump 170 0 = C_X7_read_0 := by decide +kernel
theorem J_X7_read_23 : zjump 170 23 = C_X7_read_23 := by decide +kernel
theorem J_X7_read_27 : zjump 170 27 = C_X7_read_27 := by decide +kernel
theorem J_X7_read_52 : zjump 170 52 = C_X7_read_52 := by decide +kernel
theorem J_X7_read_56 : zjump 170 56 = C_X7_read_56 := by decide +kernel
theorem J_X7_read_57 : zjump 170 57 = C_X7_read_57 := by decide +kernel
theorem J_X7_read_65 : zjump 170 65 = C_X7_read_65 := by decide +kernel
theorem U_X7_read_0 (ls st : List zV) (σ : zM) : zres 170 C_X7_read_0 ls st σ = zres 170 ((0, 1, 0, .aload_n 0) :: (1, 3, 168, .invokevirtual 264) :: (4, 1, 0, .istore_n 1) :: (5, 1, 0, .aload_n 0) :: (6, 1, 0, .iconst 0) :: (7, 3, 241, .putfield 230) :: (10, 1, 0, .iload_n 1) :: (11, 1, (-1), .iconst (-1)) :: (12, 3, 23, .if_icmp .ne 11) :: (15, 2, (-10), .bipush (-10)) :: (17, 1, 0, .aload_n 0) :: (18, 3, 242, .getfield 233) :: (21, 1, 0, .isub) :: (22, 1, 0, .ireturn) :: C_X7_read_23) ls st σ := rfl
theorem U_X7_read_23 (ls st : List zV) (σ : zM) : zres 170 C_X7_read_23 ls st σ = zres 170 ((23, 1, 0, .iconst 0) :: (24, 1, 0, .istore_n 2) :: (25, 1, 0, .iconst 0) :: (26, 1, 0, .istore_n 3) :: C_X7_read_27) ls st σ := rfl
theorem U_X7_read_27 (ls st : List zV) (σ : zM) : zres 170 C_X7_read_27 ls st σ = zres 170 ((27, 1, 0, .iload_n 3) :: (28, 1, 0, .iload_n 1) :: (29, 3, 65, .if_icmp .ge 36) :: (32, 1, 0, .aload_n 0) :: (33, 1, 0, .iload_n 3) :: (34, 3, 169, .invokevirtual 267) :: (37, 2, 0, .istore 4) :: (39, 1, 0, .iload_n 2) :: (40, 2, 0, .iload 4) :: (42, 3, 52, .ifCond .ge 10) :: (45, 2, 0, .iload 4) :: (47, 2, (-5), .bipush (-5)) :: (49, 3, 56, .if_icmp .ne 7) :: C_X7_read_52) ls st σ := rfl
theorem U_X7_read_52 (ls st : List zV) (σ : zM) : zres 170 C_X7_read_52 ls st σ = zres 170 ((52, 1, 1, .iconst 1) :: (53, 3, 57, .goto 4) :: C_X7_read_56) ls st σ := rfl
theorem U_X7_read_56 (ls st : List zV) (σ : zM) : zres 170 C_X7_read_56 ls st σ = zres 170 ((56, 1, 0, .iconst 0) :: C_X7_read_57) ls st σ := rfl
theorem U_X7_read_57 (ls st : List zV) (σ : zM) : zres 170 C_X7_read_57 ls st σ = zres 170 ((57, 1, 0, .iadd) :: (58, 1, 0, .istore_n 2) :: (59, 3, 0, .iinc 3 1) :: (62, 3, 27, .goto (-35)) :: C_X7_read_65) ls st σ := rfl
theorem U_X7_read_65 (ls st : List zV) (σ : zM) : zres 170 C_X7_read_65 ls st σ = zres 170 ((65, 1, 0, .iload_n 2) :: (66, 1, 0, .ireturn) :: []) ls st σ := rfl
theorem S_X7_read (c : Int) (σ : zM) : zcall 170 [vR c] σ = zres 170 C_X7_read_0 [vR c, vU, vU, vU, vU] [] σ := by
  unfold zcall zloc
  rw [G_X7_read, M_X7_read.2.1]
  rfl
theorem J_X7_see_0 : zjump 171 0 = C_X7_see_0 := by decide +kernel
theorem J_X7_see_14 : zjump 171 14 = C_X7_see_14 := by decide +kernel
theorem J_X7_see_24 : zjump 171 24 = C_X7_see_24 := by decide +kernel
theorem J_X7_see_37 : zjump 171 37 = C_X7_see_37 := by decide +kernel
theorem J_X7_see_50 : zjump 171 50 = C_X7_see_50 := by decide +kernel
theorem U_X7_see_0 (ls st : List zV) (σ : zM) : zres 171 C_X7_see_0 ls st σ = zres 171 ((0, 1, 0, .iload_n 1) :: (1, 1, (-1), .iconst (-1)) :: (2, 3, 14, .if_icmp .ne 12) :: (5, 1, 0, .aload_n 0) :: (6, 3, 224, .getfield 11) :: (9, 1, 2, .iconst 2) :: (10, 1, 0, .iconst 0) :: (11, 1, 0, .iastore) :: (12, 1, 0, .iconst 0) :: (13, 1, 0, .ireturn) :: C_X7_see_14) ls st σ := rfl
theorem U_X7_see_14 (ls st : List zV) (σ : zM) : zres 171 C_X7_see_14 ls st σ = zres 171 ((14, 1, 0, .aload_n 0) :: (15, 1, 0, .iload_n 1) :: (16, 3, 107, .invokevirtual 63) :: (19, 3, 24, .ifCond .ne 5) :: (22, 1, (-1), .iconst (-1)) :: (23, 1, 0, .ireturn) :: C_X7_see_24) ls st σ := rfl
theorem U_X7_see_24 (ls st : List zV) (σ : zM) : zres 171 C_X7_see_24 ls st σ = zres 171 ((24, 1, 0, .iload_n 2) :: (25, 1, 0, .i2l) :: (26, 1, 0, .lconst 0) :: (27, 1, 1, .lconst 1) :: (28, 3, 105, .invokestatic 47) :: (31, 3, 37, .ifCond .ne 6) :: (34, 2, (-2), .bipush (-2)) :: (36, 1, 0, .ireturn) :: C_X7_see_37) ls st σ := rfl
theorem U_X7_see_37 (ls st : List zV) (σ : zM) : zres 171 C_X7_see_37 ls st σ = zres 171 ((37, 1, 0, .aload_n 0) :: (38, 3, 224, .getfield 11) :: (41, 1, 2, .iconst 2) :: (42, 1, 0, .iaload) :: (43, 1, 5, .iconst 5) :: (44, 3, 50, .if_icmp .ne 6) :: (47, 2, (-4), .bipush (-4)) :: (49, 1, 0, .ireturn) :: C_X7_see_50) ls st σ := rfl
theorem U_X7_see_50 (ls st : List zV) (σ : zM) : zres 171 C_X7_see_50 ls st σ = zres 171 ((50, 1, 0, .aload_n 0) :: (51, 3, 224, .getfield 11) :: (54, 2, 53, .bipush 53) :: (56, 1, 0, .aload_n 0) :: (57, 3, 224, .getfield 11) :: (60, 1, 2, .iconst 2) :: (61, 1, 0, .iaload) :: (62, 1, 0, .iadd) :: (63, 2, 10, .bipush 10) :: (65, 1, 0, .iload_n 1) :: (66, 1, 0, .imul) :: (67, 1, 0, .iload_n 2) :: (68, 1, 0, .iadd) :: (69, 1, 0, .iastore) :: (70, 1, 0, .aload_n 0) :: (71, 3, 224, .getfield 11) :: (74, 1, 2, .iconst 2) :: (75, 1, 0, .dup2) :: (76, 1, 0, .iaload) :: (77, 1, 1, .iconst 1) :: (78, 1, 0, .iadd) :: (79, 1, 0, .iastore) :: (80, 1, 0, .aload_n 0) :: (81, 3, 224, .getfield 11) :: (84, 1, 2, .iconst 2) :: (85, 1, 0, .iaload) :: (86, 1, 0, .ireturn) :: []) ls st σ := rfl
theorem S_X7_see (c a0 a1 : Int) (σ : zM) : zcall 171 [vR c, vI a0, vI a1] σ = zres 171 C_X7_see_0 [vR c, vI a0, vI a1] [] σ := by
  unfold zcall zloc
  rw [G_X7_see, M_X7_see.2.1]
  rfl
theorem J_X7_isSeenSo_0 : zjump 172 0 = C_X7_isSeenSo_0 := by decide +kernel
theorem J_X7_isSeenSo_9 : zjump 172 9 = C_X7_isSeenSo_9 := by decide +kernel
theorem J_X7_isSeenSo_45 : zjump 172 45 = C_X7_isSeenSo_45 := by decide +kernel
theorem J_X7_isSeenSo_46 : zjump 172 46 = C_X7_isSeenSo_46 := by decide +kernel
theorem J_X7_isSeenSo_60 : zjump 172 60 = C_X7_isSeenSo_60 := by decide +kernel
theorem U_X7_isSeenSo_0 (ls st : List zV) (σ : zM) : zres 172 C_X7_isSeenSo_0 ls st σ = zres 172 ((0, 1, 0, .aload_n 0) :: (1, 1, 0, .iconst 0) :: (2, 1, 1, .iconst 1) :: (3, 3, 148, .invokevirtual 185) :: (6, 1, 0, .istore_n 1) :: (7, 1, 0, .iconst 0) :: (8, 1, 0, .istore_n 2) :: C_X7_isSeenSo_9) ls st σ := rfl
theorem U_X7_isSeenSo_9 (ls st : List zV) (σ : zM) : zres 172 C_X7_isSeenSo_9 ls st σ = zres 172 ((9, 1, 0, .iload_n 2) :: (10, 1, 0, .aload_n 0) :: (11, 3, 224, .getfield 11) :: (14, 1, 2, .iconst 2) :: (15, 1, 0, .iaload) :: (16, 3, 60, .if_icmp .ge 44) :: (19, 1, 0, .iload_n 1) :: (20, 3, 60, .ifCond .eq 40) :: (23, 1, 0, .aload_n 0) :: (24, 3, 224, .getfield 11) :: (27, 2, 53, .bipush 53) :: (29, 1, 0, .iload_n 2) :: (30, 1, 0, .iadd) :: (31, 1, 0, .iaload) :: (32, 1, 0, .istore_n 3) :: (33, 1, 0, .aload_n 0) :: (34, 1, 0, .iload_n 3) :: (35, 2, 10, .bipush 10) :: (37, 1, 0, .irem) :: (38, 3, 45, .ifCond .ne 7) :: (41, 1, 1, .iconst 1) :: (42, 3, 46, .goto 4) :: C_X7_isSeenSo_45) ls st σ := rfl
theorem U_X7_isSeenSo_45 (ls st : List zV) (σ : zM) : zres 172 C_X7_isSeenSo_45 ls st σ = zres 172 ((45, 1, 0, .iconst 0) :: C_X7_isSeenSo_46) ls st σ := rfl
theorem U_X7_isSeenSo_46 (ls st : List zV) (σ : zM) : zres 172 C_X7_isSeenSo_46 ls st σ = zres 172 ((46, 1, 0, .iload_n 3) :: (47, 2, 10, .bipush 10) :: (49, 1, 0, .idiv) :: (50, 3, 150, .invokevirtual 181) :: (53, 1, 0, .istore_n 1) :: (54, 3, 0, .iinc 2 1) :: (57, 3, 9, .goto (-48)) :: C_X7_isSeenSo_60) ls st σ := rfl
theorem U_X7_isSeenSo_60 (ls st : List zV) (σ : zM) : zres 172 C_X7_isSeenSo_60 ls st σ = zres 172 ((60, 1, 0, .iload_n 1) :: (61, 1, 1, .ireturn) :: []) ls st σ := rfl
theorem S_X7_isSeenSo (c : Int) (σ : zM) : zcall 172 [vR c] σ = zres 172 C_X7_isSeenSo_0 [vR c, vU, vU, vU] [] σ := by
  unfold zcall zloc
  rw [G_X7_isSeenSo, M_X7_isSeenSo.2.1]
  rfl
theorem J_X7_fits_0 : zjump 173 0 = C_X7_fits_0 := by decide +kernel
theorem J_X7_fits_28 : zjump 173 28 = C_X7_fits_28 := by decide +kernel
theorem J_X7_fits_30 : zjump 173 30 = C_X7_fits_30 := by decide +kernel
theorem J_X7_fits_61 : zjump 173 61 = C_X7_fits_61 := by decide +kernel
theorem J_X7_fits_89 : zjump 173 89 = C_X7_fits_89 := by decide +kernel
theorem J_X7_fits_95 : zjump 173 95 = C_X7_fits_95 := by decide +kernel
theorem J_X7_fits_113 : zjump 173 113 = C_X7_fits_113 := by decide +kernel
theorem J_X7_fits_115 : zjump 173 115 = C_X7_fits_115 := by decide +kernel
theorem U_X7_fits_0 (ls st : List zV) (σ : zM) : zres 173 C_X7_fits_0 ls st σ = zres 173 ((0, 1, 0, .iload_n 1) :: (1, 1, 0, .i2l) :: (2, 1, 0, .lconst 0) :: (3, 1, 1, .lconst 1) :: (4, 3, 105, .invokestatic 47) :: (7, 3, 28, .ifCond .eq 21) :: (10, 1, 0, .aload_n 0) :: (11, 1, 0, .iload_n 2) :: (12, 3, 107, .invokevirtual 63) :: (15, 3, 28, .ifCond .eq 13) :: (18, 1, 0, .iload_n 3) :: (19, 1, 0, .i2l) :: (20, 1, 0, .lconst 0) :: (21, 1, 1, .lconst 1) :: (22, 3, 105, .invokestatic 47) :: (25, 3, 30, .ifCond .ne 5) :: C_X7_fits_28) ls st σ := rfl
theorem U_X7_fits_28 (ls st : List zV) (σ : zM) : zres 173 C_X7_fits_28 ls st σ = zres 173 ((28, 1, (-1), .iconst (-1)) :: (29, 1, 0, .ireturn) :: C_X7_fits_30) ls st σ := rfl
theorem U_X7_fits_30 (ls st : List zV) (σ : zM) : zres 173 C_X7_fits_30 ls st σ = zres 173 ((30, 2, 29, .bipush 29) :: (32, 2, 6, .bipush 6) :: (34, 1, 0, .iload_n 1) :: (35, 1, 0, .imul) :: (36, 1, 0, .iadd) :: (37, 1, 0, .iload_n 2) :: (38, 1, 0, .iadd) :: (39, 2, 0, .istore 4) :: (41, 1, 0, .aload_n 0) :: (42, 3, 224, .getfield 11) :: (45, 2, 0, .iload 4) :: (47, 1, 0, .iaload) :: (48, 2, 0, .istore 5) :: (50, 1, 0, .iconst 0) :: (51, 2, 0, .istore 6) :: (53, 2, (-5), .bipush (-5)) :: (55, 2, 0, .istore 7) :: (57, 2, 20, .bipush 20) :: (59, 2, 0, .istore 8) :: C_X7_fits_61) ls st σ := rfl
theorem U_X7_fits_61 (ls st : List zV) (σ : zM) : zres 173 C_X7_fits_61 ls st σ = zres 173 ((61, 2, 0, .iload 8) :: (63, 3, 95, .ifCond .lt 32) :: (66, 1, 0, .aload_n 0) :: (67, 3, 224, .getfield 11) :: (70, 2, 0, .iload 4) :: (72, 2, 0, .iload 8) :: (74, 1, 0, .iastore) :: (75, 1, 0, .aload_n 0) :: (76, 3, 172, .invokevirtual 270) :: (79, 3, 89, .ifCond .eq 10) :: (82, 3, 0, .iinc 6 1) :: (85, 2, 0, .iload 8) :: (87, 2, 0, .istore 7) :: C_X7_fits_89) ls st σ := rfl
theorem U_X7_fits_89 (ls st : List zV) (σ : zM) : zres 173 C_X7_fits_89 ls st σ = zres 173 ((89, 3, 0, .iinc 8 (-1)) :: (92, 3, 61, .goto (-31)) :: C_X7_fits_95) ls st σ := rfl
theorem U_X7_fits_95 (ls st : List zV) (σ : zM) : zres 173 C_X7_fits_95 ls st σ = zres 173 ((95, 1, 0, .aload_n 0) :: (96, 3, 224, .getfield 11) :: (99, 2, 0, .iload 4) :: (101, 2, 0, .iload 5) :: (103, 1, 0, .iastore) :: (104, 1, 0, .iload_n 3) :: (105, 3, 113, .ifCond .ne 8) :: (108, 2, 0, .iload 6) :: (110, 3, 115, .goto 5) :: C_X7_fits_113) ls st σ := rfl
theorem U_X7_fits_113 (ls st : List zV) (σ : zM) : zres 173 C_X7_fits_113 ls st σ = zres 173 ((113, 2, 0, .iload 7) :: C_X7_fits_115) ls st σ := rfl
theorem U_X7_fits_115 (ls st : List zV) (σ : zM) : zres 173 C_X7_fits_115 ls st σ = zres 173 ((115, 1, 0, .ireturn) :: []) ls st σ := rfl
theorem S_X7_fits (c a0 a1 a2 : Int) (σ : zM) : zcall 173 [vR c, vI a0, vI a1, vI a2] σ = zres 173 C_X7_fits_0 [vR c, vI a0, vI a1, vI a2, vU, vU, vU, vU, vU] [] σ := by
  unfold zcall zloc
  rw [G_X7_fits, M_X7_fits.2.1]
  rfl
theorem J_X7_odds_0 : zjump 174 0 = C_X7_odds_0 := by decide +kernel
theorem J_X7_odds_15 : zjump 174 15 = C_X7_odds_15 := by decide +kernel
theorem J_X7_odds_19 : zjump 174 19 = C_X7_odds_19 := by decide +kernel
theorem J_X7_odds_32 : zjump 174 32 = C_X7_odds_32 := by decide +kernel
theorem J_X7_odds_73 : zjump 174 73 = C_X7_odds_73 := by decide +kernel
theorem J_X7_odds_74 : zjump 174 74 = C_X7_odds_74 := by decide +kernel
theorem J_X7_odds_83 : zjump 174 83 = C_X7_odds_83 := by decide +kernel
theorem U_X7_odds_0 (ls st : List zV) (σ : zM) : zres 174 C_X7_odds_0 ls st σ = zres 174 ((0, 1, 0, .aload_n 0) :: (1, 1, 0, .iload_n 1) :: (2, 3, 107, .invokevirtual 63) :: (5, 3, 15, .ifCond .eq 10) :: (8, 1, 0, .iload_n 2) :: (9, 3, 109, .invokestatic 97) :: (12, 3, 19, .ifCond .ne 7) :: C_X7_odds_15) ls st σ := rfl
theorem U_X7_odds_15 (ls st : List zV) (σ : zM) : zres 174 C_X7_odds_15 ls st σ = zres 174 ((15, 3, (-9223372036854775808), .ldc2_w 100) :: (18, 1, 0, .lreturn) :: C_X7_odds_19) ls st σ := rfl
theorem U_X7_odds_19 (ls st : List zV) (σ : zM) : zres 174 C_X7_odds_19 ls st σ = zres 174 ((19, 1, 0, .aload_n 0) :: (20, 1, 0, .iconst 0) :: (21, 1, 0, .iload_n 1) :: (22, 3, 113, .invokevirtual 68) :: (25, 1, 0, .istore_n 3) :: (26, 1, 0, .iconst 0) :: (27, 2, 0, .istore 4) :: (29, 1, 1, .iconst 1) :: (30, 2, 0, .istore 5) :: C_X7_odds_32) ls st σ := rfl
theorem U_X7_odds_32 (ls st : List zV) (σ : zM) : zres 174 C_X7_odds_32 ls st σ = zres 174 ((32, 2, 0, .iload 5) :: (34, 2, 10, .bipush 10) :: (36, 3, 83, .if_icmp .gt 47) :: (39, 1, 0, .aload_n 0) :: (40, 3, 224, .getfield 11) :: (43, 2, 29, .bipush 29) :: (45, 1, 0, .iload_n 1) :: (46, 1, 0, .iadd) :: (47, 2, 0, .iload 5) :: (49, 1, 0, .iastore) :: (50, 2, 0, .iload 4) :: (52, 1, 0, .aload_n 0) :: (53, 1, 0, .iconst 0) :: (54, 1, 1, .iconst 1) :: (55, 3, 148, .invokevirtual 185) :: (58, 3, 73, .ifCond .eq 15) :: (61, 1, 0, .aload_n 0) :: (62, 3, 229, .getfield 153) :: (65, 1, 0, .iload_n 1) :: (66, 3, 73, .if_icmp .ne 7) :: (69, 1, 1, .iconst 1) :: (70, 3, 74, .goto 4) :: C_X7_odds_73) ls st σ := rfl
theorem U_X7_odds_73 (ls st : List zV) (σ : zM) : zres 174 C_X7_odds_73 ls st σ = zres 174 ((73, 1, 0, .iconst 0) :: C_X7_odds_74) ls st σ := rfl
theorem U_X7_odds_74 (ls st : List zV) (σ : zM) : zres 174 C_X7_odds_74 ls st σ = zres 174 ((74, 1, 0, .iadd) :: (75, 2, 0, .istore 4) :: (77, 3, 0, .iinc 5 1) :: (80, 3, 32, .goto (-48)) :: C_X7_odds_83) ls st σ := rfl
theorem U_X7_odds_83 (ls st : List zV) (σ : zM) : zres 174 C_X7_odds_83 ls st σ = zres 174 ((83, 1, 0, .aload_n 0) :: (84, 3, 224, .getfield 11) :: (87, 2, 29, .bipush 29) :: (89, 1, 0, .iload_n 1) :: (90, 1, 0, .iadd) :: (91, 1, 0, .iload_n 3) :: (92, 1, 0, .iastore) :: (93, 2, 0, .iload 4) :: (95, 1, 0, .i2l) :: (96, 3, 10, .ldc2_w 273) :: (99, 1, 0, .iload_n 2) :: (100, 3, 122, .invokestatic 83) :: (103, 1, 0, .lreturn) :: []) ls st σ := rfl
theorem S_X7_odds (c a0 a1 : Int) (σ : zM) : zcall 174 [vR c, vI a0, vI a1] σ = zres 174 C_X7_odds_0 [vR c, vI a0, vI a1, vU, vU, vU] [] σ := by
  unfold zcall zloc
  rw [G_X7_odds, M_X7_odds.2.1]
  rfl
theorem J_X7_mean_0 : zjump 175 0 = C_X7_mean_0 := by decide +kernel
theorem J_X7_mean_44 : zjump 175 44 = C_X7_mean_44 := by decide +kernel
theorem J_X7_mean_47 : zjump 175 47 = C_X7_mean_47 := by decide +kernel
theorem U_X7_mean_0 (ls st : List zV) (σ : zM) : zres 175 C_X7_mean_0 ls st σ = zres 175 ((0, 1, 0, .aload_n 0) :: (1, 1, 0, .iload_n 1) :: (2, 3, 106, .invokevirtual 51) :: (5, 3, 44, .ifCond .eq 39) :: (8, 1, 0, .iload_n 2) :: (9, 3, 109, .invokestatic 97) :: (12, 3, 44, .ifCond .eq 32) :: (15, 1, 0, .aload_n 0) :: (16, 3, 224, .getfield 11) :: (19, 1, 1, .iconst 1) :: (20, 1, 0, .iaload) :: (21, 3, 44, .ifCond .le 23) :: (24, 1, 0, .aload_n 0) :: (25, 1, 0, .iload_n 1) :: (26, 3, 116, .invokevirtual 72) :: (29, 1, 0, .i2l) :: (30, 1, 0, .aload_n 0) :: (31, 3, 224, .getfield 11) :: (34, 1, 1, .iconst 1) :: (35, 1, 0, .iaload) :: (36, 1, 0, .i2l) :: (37, 1, 0, .iload_n 2) :: (38, 3, 122, .invokestatic 83) :: (41, 3, 47, .goto 6) :: C_X7_mean_44) ls st σ := rfl
theorem U_X7_mean_44 (ls st : List zV) (σ : zM) : zres 175 C_X7_mean_44 ls st σ = zres 175 ((44, 3, (-9223372036854775808), .ldc2_w 100) :: C_X7_mean_47) ls st σ := rfl
theorem U_X7_mean_47 (ls st : List zV) (σ : zM) : zres 175 C_X7_mean_47 ls st σ = zres 175 ((47, 1, 0, .lreturn) :: []) ls st σ := rfl
theorem S_X7_mean (c a0 a1 : Int) (σ : zM) : zcall 175 [vR c, vI a0, vI a1] σ = zres 175 C_X7_mean_0 [vR c, vI a0, vI a1] [] σ := by
  unfold zcall zloc
  rw [G_X7_mean, M_X7_mean.2.1]
  rfl
theorem J_X7_event_0 : zjump 176 0 = C_X7_event_0 := by decide +kernel
theorem J_X7_event_14 : zjump 176 14 = C_X7_event_14 := by decide +kernel
theorem J_X7_event_39 : zjump 176 39 = C_X7_event_39 := by decide +kernel
theorem J_X7_event_41 : zjump 176 41 = C_X7_event_41 := by decide +kernel
theorem J_X7_event_61 : zjump 176 61 = C_X7_event_61 := by decide +kernel
theorem J_X7_event_75 : zjump 176 75 = C_X7_event_75 := by decide +kernel
theorem U_X7_event_0 (ls st : List zV) (σ : zM) : zres 176 C_X7_event_0 ls st σ = zres 176 ((0, 1, 0, .iload_n 1) :: (1, 1, (-1), .iconst (-1)) :: (2, 3, 14, .if_icmp .ne 12) :: (5, 1, 0, .aload_n 0) :: (6, 3, 224, .getfield 11) :: (9, 1, 3, .iconst 3) :: (10, 1, 0, .iconst 0) :: (11, 1, 0, .iastore) :: (12, 1, 0, .iconst 0) :: (13, 1, 0, .ireturn) :: C_X7_event_14) ls st σ := rfl
theorem U_X7_event_14 (ls st : List zV) (σ : zM) : zres 176 C_X7_event_14 ls st σ = zres 176 ((14, 1, 0, .iload_n 1) :: (15, 1, 0, .i2l) :: (16, 1, 0, .lconst 0) :: (17, 3, 3, .ldc2_w 275) :: (20, 3, 105, .invokestatic 47) :: (23, 3, 39, .ifCond .eq 16) :: (26, 1, 0, .iload_n 1) :: (27, 1, 3, .iconst 3) :: (28, 3, 41, .if_icmp .ge 13) :: (31, 1, 0, .aload_n 0) :: (32, 1, 0, .iload_n 2) :: (33, 3, 107, .invokevirtual 63) :: (36, 3, 41, .ifCond .ne 5) :: C_X7_event_39) ls st σ := rfl
theorem U_X7_event_39 (ls st : List zV) (σ : zM) : zres 176 C_X7_event_39 ls st σ = zres 176 ((39, 1, (-1), .iconst (-1)) :: (40, 1, 0, .ireturn) :: C_X7_event_41) ls st σ := rfl
theorem U_X7_event_41 (ls st : List zV) (σ : zM) : zres 176 C_X7_event_41 ls st σ = zres 176 ((41, 1, 0, .iload_n 1) :: (42, 1, 3, .iconst 3) :: (43, 3, 61, .if_icmp .ne 18) :: (46, 1, 0, .iload_n 2) :: (47, 1, 0, .i2l) :: (48, 1, 0, .lconst 0) :: (49, 3, 99, .ldc2_w 66) :: (52, 3, 105, .invokestatic 47) :: (55, 3, 61, .ifCond .ne 6) :: (58, 2, (-2), .bipush (-2)) :: (60, 1, 0, .ireturn) :: C_X7_event_61) ls st σ := rfl
theorem U_X7_event_61 (ls st : List zV) (σ : zM) : zres 176 C_X7_event_61 ls st σ = zres 176 ((61, 1, 0, .aload_n 0) :: (62, 3, 224, .getfield 11) :: (65, 1, 3, .iconst 3) :: (66, 1, 0, .iaload) :: (67, 2, 8, .bipush 8) :: (69, 3, 75, .if_icmp .ne 6) :: (72, 2, (-4), .bipush (-4)) :: (74, 1, 0, .ireturn) :: C_X7_event_75) ls st σ := rfl
theorem U_X7_event_75 (ls st : List zV) (σ : zM) : zres 176 C_X7_event_75 ls st σ = zres 176 ((75, 1, 0, .aload_n 0) :: (76, 3, 224, .getfield 11) :: (79, 2, 58, .bipush 58) :: (81, 1, 2, .iconst 2) :: (82, 1, 0, .aload_n 0) :: (83, 3, 224, .getfield 11) :: (86, 1, 3, .iconst 3) :: (87, 1, 0, .iaload) :: (88, 1, 0, .imul) :: (89, 1, 0, .iadd) :: (90, 1, 0, .iload_n 1) :: (91, 1, 0, .iastore) :: (92, 1, 0, .aload_n 0) :: (93, 3, 224, .getfield 11) :: (96, 2, 58, .bipush 58) :: (98, 1, 2, .iconst 2) :: (99, 1, 0, .aload_n 0) :: (100, 3, 224, .getfield 11) :: (103, 1, 3, .iconst 3) :: (104, 1, 0, .iaload) :: (105, 1, 0, .imul) :: (106, 1, 0, .iadd) :: (107, 1, 1, .iconst 1) :: (108, 1, 0, .iadd) :: (109, 1, 0, .iload_n 2) :: (110, 1, 0, .iastore) :: (111, 1, 0, .aload_n 0) :: (112, 3, 224, .getfield 11) :: (115, 1, 3, .iconst 3) :: (116, 1, 0, .dup2) :: (117, 1, 0, .iaload) :: (118, 1, 1, .iconst 1) :: (119, 1, 0, .iadd) :: (120, 1, 0, .iastore) :: (121, 1, 0, .aload_n 0) :: (122, 3, 224, .getfield 11) :: (125, 1, 3, .iconst 3) :: (126, 1, 0, .iaload) :: (127, 1, 0, .ireturn) :: []) ls st σ := rfl
theorem S_X7_event (c a0 a1 : Int) (σ : zM) : zcall 176 [vR c, vI a0, vI a1] σ = zres 176 C_X7_event_0 [vR c, vI a0, vI a1] [] σ := by
  unfold zcall zloc
  rw [G_X7_event, M_X7_event.2.1]
  rfl
theorem J_X7_happens_0 : zjump 177 0 = C_X7_happens_0 := by decide +kernel
theorem J_X7_happens_2 : zjump 177 2 = C_X7_happens_2 := by decide +kernel
theorem J_X7_happens_15 : zjump 177 15 = C_X7_happens_15 := by decide +kernel
theorem J_X7_happens_46 : zjump 177 46 = C_X7_happens_46 := by decide +kernel
theorem J_X7_happens_50 : zjump 177 50 = C_X7_happens_50 := by decide +kernel
theorem J_X7_happens_66 : zjump 177 66 = C_X7_happens_66 := by decide +kernel
theorem J_X7_happens_70 : zjump 177 70 = C_X7_happens_70 := by decide +kernel
theorem J_X7_happens_71 : zjump 177 71 = C_X7_happens_71 := by decide +kernel
theorem J_X7_happens_96 : zjump 177 96 = C_X7_happens_96 := by decide +kernel
theorem J_X7_happens_103 : zjump 177 103 = C_X7_happens_103 := by decide +kernel
theorem J_X7_happens_110 : zjump 177 110 = C_X7_happens_110 := by decide +kernel
theorem J_X7_happens_116 : zjump 177 116 = C_X7_happens_116 := by decide +kernel
theorem U_X7_happens_0 (ls st : List zV) (σ : zM) : zres 177 C_X7_happens_0 ls st σ = zres 177 ((0, 1, 0, .iconst 0) :: (1, 1, 0, .istore_n 3) :: C_X7_happens_2) ls st σ := rfl
theorem U_X7_happens_2 (ls st : List zV) (σ : zM) : zres 177 C_X7_happens_2 ls st σ = zres 177 ((2, 1, 0, .iload_n 3) :: (3, 1, 0, .aload_n 0) :: (4, 3, 224, .getfield 11) :: (7, 1, 0, .iconst 0) :: (8, 1, 0, .iaload) :: (9, 3, 116, .if_icmp .ge 107) :: (12, 1, 0, .iconst 0) :: (13, 2, 0, .istore 4) :: C_X7_happens_15) ls st σ := rfl
theorem U_X7_happens_15 (ls st : List zV) (σ : zM) : zres 177 C_X7_happens_15 ls st σ = zres 177 ((15, 2, 0, .iload 4) :: (17, 1, 0, .aload_n 0) :: (18, 3, 224, .getfield 11) :: (21, 1, 1, .iconst 1) :: (22, 1, 0, .iaload) :: (23, 3, 110, .if_icmp .ge 87) :: (26, 1, 0, .iload_n 1) :: (27, 1, 3, .iconst 3) :: (28, 3, 50, .if_icmp .ne 22) :: (31, 1, 0, .aload_n 0) :: (32, 1, 0, .iload_n 3) :: (33, 2, 0, .iload 4) :: (35, 3, 113, .invokevirtual 68) :: (38, 1, 0, .iload_n 2) :: (39, 3, 46, .if_icmp .ge 7) :: (42, 1, 1, .iconst 1) :: (43, 3, 71, .goto 28) :: C_X7_happens_46) ls st σ := rfl
theorem U_X7_happens_46 (ls st : List zV) (σ : zM) : zres 177 C_X7_happens_46 ls st σ = zres 177 ((46, 1, 0, .iconst 0) :: (47, 3, 71, .goto 24) :: C_X7_happens_50) ls st σ := rfl
theorem U_X7_happens_50 (ls st : List zV) (σ : zM) : zres 177 C_X7_happens_50 ls st σ = zres 177 ((50, 2, 0, .iload 4) :: (52, 1, 0, .iload_n 2) :: (53, 3, 70, .if_icmp .ne 17) :: (56, 1, 0, .iload_n 1) :: (57, 1, 2, .iconst 2) :: (58, 3, 66, .if_icmp .eq 8) :: (61, 1, 0, .iload_n 1) :: (62, 1, 0, .iload_n 3) :: (63, 3, 70, .if_icmp .ne 7) :: C_X7_happens_66) ls st σ := rfl
theorem U_X7_happens_66 (ls st : List zV) (σ : zM) : zres 177 C_X7_happens_66 ls st σ = zres 177 ((66, 1, 1, .iconst 1) :: (67, 3, 71, .goto 4) :: C_X7_happens_70) ls st σ := rfl
theorem U_X7_happens_70 (ls st : List zV) (σ : zM) : zres 177 C_X7_happens_70 ls st σ = zres 177 ((70, 1, 0, .iconst 0) :: C_X7_happens_71) ls st σ := rfl
theorem U_X7_happens_71 (ls st : List zV) (σ : zM) : zres 177 C_X7_happens_71 ls st σ = zres 177 ((71, 2, 0, .istore 5) :: (73, 1, 0, .aload_n 0) :: (74, 3, 224, .getfield 11) :: (77, 2, 29, .bipush 29) :: (79, 2, 6, .bipush 6) :: (81, 1, 0, .iload_n 3) :: (82, 1, 0, .imul) :: (83, 1, 0, .iadd) :: (84, 2, 0, .iload 4) :: (86, 1, 0, .iadd) :: (87, 2, 0, .iload 5) :: (89, 3, 96, .ifCond .eq 7) :: (92, 1, 0, .iconst 0) :: (93, 3, 103, .goto 10) :: C_X7_happens_96) ls st σ := rfl
theorem U_X7_happens_96 (ls st : List zV) (σ : zM) : zres 177 C_X7_happens_96 ls st σ = zres 177 ((96, 1, 0, .aload_n 0) :: (97, 1, 0, .iload_n 3) :: (98, 2, 0, .iload 4) :: (100, 3, 113, .invokevirtual 68) :: C_X7_happens_103) ls st σ := rfl
theorem U_X7_happens_103 (ls st : List zV) (σ : zM) : zres 177 C_X7_happens_103 ls st σ = zres 177 ((103, 1, 0, .iastore) :: (104, 3, 0, .iinc 4 1) :: (107, 3, 15, .goto (-92)) :: C_X7_happens_110) ls st σ := rfl
theorem U_X7_happens_110 (ls st : List zV) (σ : zM) : zres 177 C_X7_happens_110 ls st σ = zres 177 ((110, 3, 0, .iinc 3 1) :: (113, 3, 2, .goto (-111)) :: C_X7_happens_116) ls st σ := rfl
theorem U_X7_happens_116 (ls st : List zV) (σ : zM) : zres 177 C_X7_happens_116 ls st σ = zres 177 ((116, 1, 0, .return_) :: []) ls st σ := rfl
theorem S_X7_happens (c a0 a1 : Int) (σ : zM) : zcall 177 [vR c, vI a0, vI a1] σ = zres 177 C_X7_happens_0 [vR c, vI a0, vI a1, vU, vU, vU] [] σ := by
  unfold zcall zloc
  rw [G_X7_happens, M_X7_happens.2.1]
  rfl
theorem J_X7_afterNow_0 : zjump 178 0 = C_X7_afterNow_0 := by decide +kernel
theorem J_X7_afterNow_13 : zjump 178 13 = C_X7_afterNow_13 := by decide +kernel
theorem J_X7_afterNow_29 : zjump 178 29 = C_X7_afterNow_29 := by decide +kernel
theorem J_X7_afterNow_35 : zjump 178 35 = C_X7_afterNow_35 := by decide +kernel
theorem U_X7_afterNow_0 (ls st : List zV) (σ : zM) : zres 178 C_X7_afterNow_0 ls st σ = zres 178 ((0, 1, 0, .aload_n 0) :: (1, 1, 0, .iconst 0) :: (2, 1, 1, .iconst 1) :: (3, 3, 148, .invokevirtual 185) :: (6, 3, 13, .ifCond .ne 7) :: (9, 3, (-9223372036854775808), .ldc2_w 100) :: (12, 1, 0, .lreturn) :: C_X7_afterNow_13) ls st σ := rfl
theorem U_X7_afterNow_13 (ls st : List zV) (σ : zM) : zres 178 C_X7_afterNow_13 ls st σ = zres 178 ((13, 1, 0, .iload_n 1) :: (14, 1, 2, .iconst 2) :: (15, 3, 29, .if_icmp .ne 14) :: (18, 1, 0, .aload_n 0) :: (19, 3, 229, .getfield 153) :: (22, 3, 118, .invokestatic 76) :: (25, 1, 0, .i2l) :: (26, 3, 35, .goto 9) :: C_X7_afterNow_29) ls st σ := rfl
theorem U_X7_afterNow_29 (ls st : List zV) (σ : zM) : zres 178 C_X7_afterNow_29 ls st σ = zres 178 ((29, 1, 0, .aload_n 0) :: (30, 1, 0, .iconst 0) :: (31, 1, 0, .iload_n 1) :: (32, 3, 153, .invokevirtual 192) :: C_X7_afterNow_35) ls st σ := rfl
theorem U_X7_afterNow_35 (ls st : List zV) (σ : zM) : zres 178 C_X7_afterNow_35 ls st σ = zres 178 ((35, 1, 0, .lreturn) :: []) ls st σ := rfl
theorem S_X7_afterNow (c a0 : Int) (σ : zM) : zcall 178 [vR c, vI a0] σ = zres 178 C_X7_afterNow_0 [vR c, vI a0] [] σ := by
  unfold zcall zloc
  rw [G_X7_afterNow, M_X7_afterNow.2.1]
  rfl
theorem J_X7_after_0 : zjump 179 0 = C_X7_after_0 := by decide +kernel
theorem J_X7_after_16 : zjump 179 16 = C_X7_after_16 := by decide +kernel
theorem J_X7_after_33 : zjump 179 33 = C_X7_after_33 := by decide +kernel
theorem J_X7_after_77 : zjump 179 77 = C_X7_after_77 := by decide +kernel
theorem U_X7_after_0 (ls st : List zV) (σ : zM) : zres 179 C_X7_after_0 ls st σ = zres 179 ((0, 1, 0, .iload_n 1) :: (1, 1, 0, .i2l) :: (2, 1, 0, .lconst 0) :: (3, 3, 2, .ldc2_w 55) :: (6, 3, 105, .invokestatic 47) :: (9, 3, 16, .ifCond .ne 7) :: (12, 3, (-9223372036854775808), .ldc2_w 100) :: (15, 1, 0, .lreturn) :: C_X7_after_16) ls st σ := rfl
theorem U_X7_after_16 (ls st : List zV) (σ : zM) : zres 179 C_X7_after_16 ls st σ = zres 179 ((16, 1, 0, .aload_n 0) :: (17, 3, 224, .getfield 11) :: (20, 1, 0, .iconst 0) :: (21, 1, 0, .aload_n 0) :: (22, 3, 226, .getfield 18) :: (25, 1, 0, .iconst 0) :: (26, 2, 82, .bipush 82) :: (28, 3, 9999, .invokestatic 209) :: (31, 1, 0, .iconst 0) :: (32, 1, 0, .istore_n 2) :: C_X7_after_33) ls st σ := rfl
theorem U_X7_after_33 (ls st : List zV) (σ : zM) : zres 179 C_X7_after_33 ls st σ = zres 179 ((33, 1, 0, .iload_n 2) :: (34, 1, 0, .aload_n 0) :: (35, 3, 226, .getfield 18) :: (38, 1, 3, .iconst 3) :: (39, 1, 0, .iaload) :: (40, 3, 77, .if_icmp .ge 37) :: (43, 1, 0, .aload_n 0) :: (44, 1, 0, .aload_n 0) :: (45, 3, 226, .getfield 18) :: (48, 2, 58, .bipush 58) :: (50, 1, 2, .iconst 2) :: (51, 1, 0, .iload_n 2) :: (52, 1, 0, .imul) :: (53, 1, 0, .iadd) :: (54, 1, 0, .iaload) :: (55, 1, 0, .aload_n 0) :: (56, 3, 226, .getfield 18) :: (59, 2, 58, .bipush 58) :: (61, 1, 2, .iconst 2) :: (62, 1, 0, .iload_n 2) :: (63, 1, 0, .imul) :: (64, 1, 0, .iadd) :: (65, 1, 1, .iconst 1) :: (66, 1, 0, .iadd) :: (67, 1, 0, .iaload) :: (68, 3, 177, .invokevirtual 277) :: (71, 3, 0, .iinc 2 1) :: (74, 3, 33, .goto (-41)) :: C_X7_after_77) ls st σ := rfl
theorem U_X7_after_77 (ls st : List zV) (σ : zM) : zres 179 C_X7_after_77 ls st σ = zres 179 ((77, 1, 0, .aload_n 0) :: (78, 1, 0, .iload_n 1) :: (79, 3, 178, .invokevirtual 280) :: (82, 1, 0, .lstore_n 2) :: (83, 1, 0, .aload_n 0) :: (84, 3, 226, .getfield 18) :: (87, 1, 0, .iconst 0) :: (88, 1, 0, .aload_n 0) :: (89, 3, 224, .getfield 11) :: (92, 1, 0, .iconst 0) :: (93, 2, 82, .bipush 82) :: (95, 3, 9999, .invokestatic 209) :: (98, 1, 0, .lload_n 2) :: (99, 1, 0, .lreturn) :: []) ls st σ := rfl
theorem S_X7_after (c a0 : Int) (σ : zM) : zcall 179 [vR c, vI a0] σ = zres 179 C_X7_after_0 [vR c, vI a0, vU, vU] [] σ := by
  unfold zcall zloc
  rw [G_X7_after, M_X7_after.2.1]
  rfl
theorem J_X7_book_0 : zjump 180 0 = C_X7_book_0 := by decide +kernel
theorem J_X7_book_14 : zjump 180 14 = C_X7_book_14 := by decide +kernel
theorem J_X7_book_30 : zjump 180 30 = C_X7_book_30 := by decide +kernel
theorem J_X7_book_32 : zjump 180 32 = C_X7_book_32 := by decide +kernel
theorem J_X7_book_46 : zjump 180 46 = C_X7_book_46 := by decide +kernel
theorem U_X7_book_0 (ls st : List zV) (σ : zM) : zres 180 C_X7_book_0 ls st σ = zres 180 ((0, 1, 0, .iload_n 1) :: (1, 1, (-1), .iconst (-1)) :: (2, 3, 14, .if_icmp .ne 12) :: (5, 1, 0, .aload_n 0) :: (6, 3, 224, .getfield 11) :: (9, 1, 4, .iconst 4) :: (10, 1, 0, .iconst 0) :: (11, 1, 0, .iastore) :: (12, 1, 0, .iconst 0) :: (13, 1, 0, .ireturn) :: C_X7_book_14) ls st σ := rfl
theorem U_X7_book_14 (ls st : List zV) (σ : zM) : zres 180 C_X7_book_14 ls st σ = zres 180 ((14, 1, 0, .aload_n 0) :: (15, 1, 0, .iload_n 1) :: (16, 3, 107, .invokevirtual 63) :: (19, 3, 30, .ifCond .eq 11) :: (22, 1, 0, .aload_n 0) :: (23, 1, 0, .iload_n 2) :: (24, 3, 106, .invokevirtual 51) :: (27, 3, 32, .ifCond .ne 5) :: C_X7_book_30) ls st σ := rfl
theorem U_X7_book_30 (ls st : List zV) (σ : zM) : zres 180 C_X7_book_30 ls st σ = zres 180 ((30, 1, (-1), .iconst (-1)) :: (31, 1, 0, .ireturn) :: C_X7_book_32) ls st σ := rfl
theorem U_X7_book_32 (ls st : List zV) (σ : zM) : zres 180 C_X7_book_32 ls st σ = zres 180 ((32, 1, 0, .aload_n 0) :: (33, 3, 224, .getfield 11) :: (36, 1, 4, .iconst 4) :: (37, 1, 0, .iaload) :: (38, 2, 8, .bipush 8) :: (40, 3, 46, .if_icmp .ne 6) :: (43, 2, (-4), .bipush (-4)) :: (45, 1, 0, .ireturn) :: C_X7_book_46) ls st σ := rfl
theorem U_X7_book_46 (ls st : List zV) (σ : zM) : zres 180 C_X7_book_46 ls st σ = zres 180 ((46, 1, 0, .aload_n 0) :: (47, 3, 224, .getfield 11) :: (50, 2, 74, .bipush 74) :: (52, 1, 0, .aload_n 0) :: (53, 3, 224, .getfield 11) :: (56, 1, 4, .iconst 4) :: (57, 1, 0, .iaload) :: (58, 1, 0, .iadd) :: (59, 2, 10, .bipush 10) :: (61, 1, 0, .iload_n 1) :: (62, 1, 0, .imul) :: (63, 1, 0, .iload_n 2) :: (64, 1, 0, .iadd) :: (65, 1, 0, .iastore) :: (66, 1, 0, .aload_n 0) :: (67, 3, 224, .getfield 11) :: (70, 1, 4, .iconst 4) :: (71, 1, 0, .dup2) :: (72, 1, 0, .iaload) :: (73, 1, 1, .iconst 1) :: (74, 1, 0, .iadd) :: (75, 1, 0, .iastore) :: (76, 1, 0, .aload_n 0) :: (77, 3, 224, .getfield 11) :: (80, 1, 4, .iconst 4) :: (81, 1, 0, .iaload) :: (82, 1, 0, .ireturn) :: []) ls st σ := rfl
theorem S_X7_book (c a0 a1 : Int) (σ : zM) : zcall 180 [vR c, vI a0, vI a1] σ = zres 180 C_X7_book_0 [vR c, vI a0, vI a1] [] σ := by
  unfold zcall zloc
  rw [G_X7_book, M_X7_book.2.1]
  rfl
theorem J_X7_looked_0 : zjump 181 0 = C_X7_looked_0 := by decide +kernel
theorem J_X7_looked_2 : zjump 181 2 = C_X7_looked_2 := by decide +kernel
theorem J_X7_looked_45 : zjump 181 45 = C_X7_looked_45 := by decide +kernel
theorem J_X7_looked_51 : zjump 181 51 = C_X7_looked_51 := by decide +kernel
theorem U_X7_looked_0 (ls st : List zV) (σ : zM) : zres 181 C_X7_looked_0 ls st σ = zres 181 ((0, 1, 0, .iconst 0) :: (1, 1, 0, .istore_n 1) :: C_X7_looked_2) ls st σ := rfl
theorem U_X7_looked_2 (ls st : List zV) (σ : zM) : zres 181 C_X7_looked_2 ls st σ = zres 181 ((2, 1, 0, .iload_n 1) :: (3, 1, 0, .aload_n 0) :: (4, 3, 224, .getfield 11) :: (7, 1, 4, .iconst 4) :: (8, 1, 0, .iaload) :: (9, 3, 51, .if_icmp .ge 42) :: (12, 1, 0, .aload_n 0) :: (13, 1, 0, .aload_n 0) :: (14, 3, 224, .getfield 11) :: (17, 2, 74, .bipush 74) :: (19, 1, 0, .iload_n 1) :: (20, 1, 0, .iadd) :: (21, 1, 0, .iaload) :: (22, 2, 10, .bipush 10) :: (24, 1, 0, .irem) :: (25, 1, 0, .aload_n 0) :: (26, 3, 224, .getfield 11) :: (29, 2, 74, .bipush 74) :: (31, 1, 0, .iload_n 1) :: (32, 1, 0, .iadd) :: (33, 1, 0, .iaload) :: (34, 2, 10, .bipush 10) :: (36, 1, 0, .idiv) :: (37, 3, 127, .invokevirtual 102) :: (40, 3, 45, .ifCond .ne 5) :: (43, 1, 0, .iload_n 1) :: (44, 1, 0, .ireturn) :: C_X7_looked_45) ls st σ := rfl
theorem U_X7_looked_45 (ls st : List zV) (σ : zM) : zres 181 C_X7_looked_45 ls st σ = zres 181 ((45, 3, 0, .iinc 1 1) :: (48, 3, 2, .goto (-46)) :: C_X7_looked_51) ls st σ := rfl
theorem U_X7_looked_51 (ls st : List zV) (σ : zM) : zres 181 C_X7_looked_51 ls st σ = zres 181 ((51, 2, (-5), .bipush (-5)) :: (53, 1, 0, .ireturn) :: []) ls st σ := rfl
theorem S_X7_looked (c : Int) (σ : zM) : zcall 181 [vR c] σ = zres 181 C_X7_looked_0 [vR c, vU] [] σ := by
  unfold zcall zloc
  rw [G_X7_looked, M_X7_looked.2.1]
  rfl
theorem J_X7_image_0 : zjump 182 0 = C_X7_image_0 := by decide +kernel
theorem U_X7_image_0 (ls st : List zV) (σ : zM) : zres 182 C_X7_image_0 ls st σ = zres 182 ((0, 1, 0, .aload_n 0) :: (1, 3, 224, .getfield 11) :: (4, 1, 0, .iconst 0) :: (5, 1, 0, .aload_n 0) :: (6, 3, 225, .getfield 15) :: (9, 1, 0, .iconst 0) :: (10, 2, 82, .bipush 82) :: (12, 3, 9999, .invokestatic 209) :: (15, 1, 0, .aload_n 0) :: (16, 1, 1, .iconst 1) :: (17, 3, 227, .putfield 284) :: (20, 1, 0, .aload_n 0) :: (21, 3, 224, .getfield 11) :: (24, 1, 1, .iconst 1) :: (25, 1, 0, .iaload) :: (26, 1, 0, .ireturn) :: []) ls st σ := rfl
theorem S_X7_image (c : Int) (σ : zM) : zcall 182 [vR c] σ = zres 182 C_X7_image_0 [vR c] [] σ := by
  unfold zcall zloc
  rw [G_X7_image, M_X7_image.2.1]
  rfl
theorem J_X7_undo_0 : zjump 183 0 = C_X7_undo_0 := by decide +kernel
theorem J_X7_undo_10 : zjump 183 10 = C_X7_undo_10 := by decide +kernel
theorem U_X7_undo_0 (ls st : List zV) (σ : zM) : zres 183 C_X7_undo_0 ls st σ = zres 183 ((0, 1, 0, .aload_n 0) :: (1, 3, 227, .getfield 284) :: (4, 3, 10, .ifCond .ne 6) :: (7, 2, (-3), .bipush (-3)) :: (9, 1, 0, .ireturn) :: C_X7_undo_10) ls st σ := rfl
theorem U_X7_undo_10 (ls st : List zV) (σ : zM) : zres 183 C_X7_undo_10 ls st σ = zres 183 ((10, 1, 0, .aload_n 0) :: (11, 3, 225, .getfield 15) :: (14, 1, 0, .iconst 0) :: (15, 1, 0, .aload_n 0) :: (16, 3, 224, .getfield 11) :: (19, 1, 0, .iconst 0) :: (20, 2, 82, .bipush 82) :: (22, 3, 9999, .invokestatic 209) :: (25, 1, 0, .aload_n 0) :: (26, 3, 224, .getfield 11) :: (29, 1, 1, .iconst 1) :: (30, 1, 0, .iaload) :: (31, 1, 0, .ireturn) :: []) ls st σ := rfl
theorem S_X7_undo (c : Int) (σ : zM) : zcall 183 [vR c] σ = zres 183 C_X7_undo_0 [vR c] [] σ := by
  unfold zcall zloc
  rw [G_X7_undo, M_X7_undo.2.1]
  rfl
theorem J_X7_count_0 : zjump 184 0 = C_X7_count_0 := by decide +kernel
theorem J_X7_count_32 : zjump 184 32 = C_X7_count_32 := by decide +kernel
theorem J_X7_count_39 : zjump 184 39 = C_X7_count_39 := by decide +kernel
theorem J_X7_count_46 : zjump 184 46 = C_X7_count_46 := by decide +kernel
theorem J_X7_count_53 : zjump 184 53 = C_X7_count_53 := by decide +kernel
theorem J_X7_count_58 : zjump 184 58 = C_X7_count_58 := by decide +kernel
theorem U_X7_count_0 (ls st : List zV) (σ : zM) : zres 184 C_X7_count_0 ls st σ = zres 184 ((0, 1, 0, .iload_n 1) :: (1, 31, 0, .tableswitch 57 0 3 #[31, 38, 45, 52]) :: C_X7_count_32) ls st σ := rfl
theorem U_X7_count_32 (ls st : List zV) (σ : zM) : zres 184 C_X7_count_32 ls st σ = zres 184 ((32, 1, 0, .aload_n 0) :: (33, 3, 224, .getfield 11) :: (36, 1, 2, .iconst 2) :: (37, 1, 0, .iaload) :: (38, 1, 0, .ireturn) :: C_X7_count_39) ls st σ := rfl
theorem U_X7_count_39 (ls st : List zV) (σ : zM) : zres 184 C_X7_count_39 ls st σ = zres 184 ((39, 1, 0, .aload_n 0) :: (40, 3, 224, .getfield 11) :: (43, 1, 3, .iconst 3) :: (44, 1, 0, .iaload) :: (45, 1, 0, .ireturn) :: C_X7_count_46) ls st σ := rfl
theorem U_X7_count_46 (ls st : List zV) (σ : zM) : zres 184 C_X7_count_46 ls st σ = zres 184 ((46, 1, 0, .aload_n 0) :: (47, 3, 224, .getfield 11) :: (50, 1, 4, .iconst 4) :: (51, 1, 0, .iaload) :: (52, 1, 0, .ireturn) :: C_X7_count_53) ls st σ := rfl
theorem U_X7_count_53 (ls st : List zV) (σ : zM) : zres 184 C_X7_count_53 ls st σ = zres 184 ((53, 1, 0, .aload_n 0) :: (54, 3, 241, .getfield 230) :: (57, 1, 0, .ireturn) :: C_X7_count_58) ls st σ := rfl
theorem U_X7_count_58 (ls st : List zV) (σ : zM) : zres 184 C_X7_count_58 ls st σ = zres 184 ((58, 2, (-2), .bipush (-2)) :: (60, 1, 0, .ireturn) :: []) ls st σ := rfl
theorem S_X7_count (c a0 : Int) (σ : zM) : zcall 184 [vR c, vI a0] σ = zres 184 C_X7_count_0 [vR c, vI a0] [] σ := by
  unfold zcall zloc
  rw [G_X7_count, M_X7_count.2.1]
  rfl
theorem J_X7_isTape_0 : zjump 185 0 = C_X7_isTape_0 := by decide +kernel
theorem U_X7_isTape_0 (ls st : List zV) (σ : zM) : zres 185 C_X7_isTape_0 ls st σ = zres 185 ((0, 1, 0, .iload_n 0) :: (1, 1, 0, .i2l) :: (2, 1, 0, .lconst 0) :: (3, 3, 5, .ldc2_w 288) :: (6, 3, 105, .invokestatic 47) :: (9, 1, 1, .ireturn) :: []) ls st σ := rfl
theorem S_X7_isTape (a0 : Int) (σ : zM) : zcall 185 [vI a0] σ = zres 185 C_X7_isTape_0 [vI a0] [] σ := by
  unfold zcall zloc
  rw [G_X7_isTape, M_X7_isTape.2.1]
  rfl
theorem J_X7_tape_0 : zjump 186 0 = C_X7_tape_0 := by decide +kernel
theorem J_X7_tape_9 : zjump 186 9 = C_X7_tape_9 := by decide +kernel
theorem J_X7_tape_34 : zjump 186 34 = C_X7_tape_34 := by decide +kernel
theorem J_X7_tape_37 : zjump 186 37 = C_X7_tape_37 := by decide +kernel
theorem J_X7_tape_49 : zjump 186 49 = C_X7_tape_49 := by decide +kernel
theorem J_X7_tape_70 : zjump 186 70 = C_X7_tape_70 := by decide +kernel
theorem J_X7_tape_71 : zjump 186 71 = C_X7_tape_71 := by decide +kernel
theorem J_X7_tape_75 : zjump 186 75 = C_X7_tape_75 := by decide +kernel
theorem J_X7_tape_101 : zjump 186 101 = C_X7_tape_101 := by decide +kernel
theorem U_X7_tape_0 (ls st : List zV) (σ : zM) : zres 186 C_X7_tape_0 ls st σ = zres 186 ((0, 1, 0, .iload_n 1) :: (1, 3, 185, .invokestatic 290) :: (4, 3, 9, .ifCond .ne 5) :: (7, 1, (-1), .iconst (-1)) :: (8, 1, 0, .ireturn) :: C_X7_tape_9) ls st σ := rfl
theorem U_X7_tape_9 (ls st : List zV) (σ : zM) : zres 186 C_X7_tape_9 ls st σ = zres 186 ((9, 1, 0, .iload_n 2) :: (10, 1, 0, .i2l) :: (11, 3, (-1), .ldc2_w 195) :: (14, 3, 4, .ldc2_w 57) :: (17, 3, 105, .invokestatic 47) :: (20, 3, 34, .ifCond .eq 14) :: (23, 1, 0, .iload_n 2) :: (24, 1, (-1), .iconst (-1)) :: (25, 3, 37, .if_icmp .eq 12) :: (28, 1, 0, .iload_n 3) :: (29, 2, 60, .bipush 60) :: (31, 3, 37, .if_icmp .le 6) :: C_X7_tape_34) ls st σ := rfl
theorem U_X7_tape_34 (ls st : List zV) (σ : zM) : zres 186 C_X7_tape_34 ls st σ = zres 186 ((34, 2, (-2), .bipush (-2)) :: (36, 1, 0, .ireturn) :: C_X7_tape_37) ls st σ := rfl
theorem U_X7_tape_37 (ls st : List zV) (σ : zM) : zres 186 C_X7_tape_37 ls st σ = zres 186 ((37, 1, 0, .iload_n 2) :: (38, 1, (-1), .iconst (-1)) :: (39, 3, 49, .if_icmp .eq 10) :: (42, 1, 0, .iload_n 3) :: (43, 3, 49, .ifCond .ge 6) :: (46, 2, (-14), .bipush (-14)) :: (48, 1, 0, .ireturn) :: C_X7_tape_49) ls st σ := rfl
theorem U_X7_tape_49 (ls st : List zV) (σ : zM) : zres 186 C_X7_tape_49 ls st σ = zres 186 ((49, 1, 0, .aload_n 0) :: (50, 3, 244, .getfield 37) :: (53, 1, 0, .iload_n 1) :: (54, 1, 0, .iload_n 2) :: (55, 1, 0, .iastore) :: (56, 1, 0, .aload_n 0) :: (57, 3, 245, .getfield 40) :: (60, 1, 0, .iload_n 1) :: (61, 1, 0, .iload_n 2) :: (62, 1, (-1), .iconst (-1)) :: (63, 3, 70, .if_icmp .ne 7) :: (66, 1, 0, .iconst 0) :: (67, 3, 71, .goto 4) :: C_X7_tape_70) ls st σ := rfl
theorem U_X7_tape_70 (ls st : List zV) (σ : zM) : zres 186 C_X7_tape_70 ls st σ = zres 186 ((70, 1, 0, .iload_n 3) :: C_X7_tape_71) ls st σ := rfl
theorem U_X7_tape_71 (ls st : List zV) (σ : zM) : zres 186 C_X7_tape_71 ls st σ = zres 186 ((71, 1, 0, .iastore) :: (72, 1, 0, .iconst 0) :: (73, 2, 0, .istore 4) :: C_X7_tape_75) ls st σ := rfl
theorem U_X7_tape_75 (ls st : List zV) (σ : zM) : zres 186 C_X7_tape_75 ls st σ = zres 186 ((75, 2, 0, .iload 4) :: (77, 2, 60, .bipush 60) :: (79, 3, 101, .if_icmp .ge 22) :: (82, 1, 0, .aload_n 0) :: (83, 3, 246, .getfield 43) :: (86, 2, 60, .bipush 60) :: (88, 1, 0, .iload_n 1) :: (89, 1, 0, .imul) :: (90, 2, 0, .iload 4) :: (92, 1, 0, .iadd) :: (93, 1, 0, .lconst 0) :: (94, 1, 0, .lastore) :: (95, 3, 0, .iinc 4 1) :: (98, 3, 75, .goto (-23)) :: C_X7_tape_101) ls st σ := rfl
theorem U_X7_tape_101 (ls st : List zV) (σ : zM) : zres 186 C_X7_tape_101 ls st σ = zres 186 ((101, 1, 1, .iconst 1) :: (102, 1, 0, .ireturn) :: []) ls st σ := rfl
theorem S_X7_tape (c a0 a1 a2 : Int) (σ : zM) : zcall 186 [vR c, vI a0, vI a1, vI a2] σ = zres 186 C_X7_tape_0 [vR c, vI a0, vI a1, vI a2, vU] [] σ := by
  unfold zcall zloc
  rw [G_X7_tape, M_X7_tape.2.1]
  rfl
theorem J_X7_kept_0 : zjump 187 0 = C_X7_kept_0 := by decide +kernel
theorem J_X7_kept_32 : zjump 187 32 = C_X7_kept_32 := by decide +kernel
theorem J_X7_kept_37 : zjump 187 37 = C_X7_kept_37 := by decide +kernel
theorem J_X7_kept_42 : zjump 187 42 = C_X7_kept_42 := by decide +kernel
theorem J_X7_kept_46 : zjump 187 46 = C_X7_kept_46 := by decide +kernel
theorem J_X7_kept_48 : zjump 187 48 = C_X7_kept_48 := by decide +kernel
theorem J_X7_kept_58 : zjump 187 58 = C_X7_kept_58 := by decide +kernel
theorem J_X7_kept_59 : zjump 187 59 = C_X7_kept_59 := by decide +kernel
theorem U_X7_kept_0 (ls st : List zV) (σ : zM) : zres 187 C_X7_kept_0 ls st σ = zres 187 ((0, 1, 0, .iload_n 0) :: (1, 31, 0, .tableswitch 47 0 3 #[31, 36, 41, 45]) :: C_X7_kept_32) ls st σ := rfl
theorem U_X7_kept_32 (ls st : List zV) (σ : zM) : zres 187 C_X7_kept_32 ls st σ = zres 187 ((32, 1, 0, .lload_n 1) :: (33, 1, 0, .l2i) :: (34, 1, 0, .i2b) :: (35, 1, 0, .i2l) :: (36, 1, 0, .lreturn) :: C_X7_kept_37) ls st σ := rfl
theorem U_X7_kept_37 (ls st : List zV) (σ : zM) : zres 187 C_X7_kept_37 ls st σ = zres 187 ((37, 1, 0, .lload_n 1) :: (38, 1, 0, .l2i) :: (39, 1, 0, .i2s) :: (40, 1, 0, .i2l) :: (41, 1, 0, .lreturn) :: C_X7_kept_42) ls st σ := rfl
theorem U_X7_kept_42 (ls st : List zV) (σ : zM) : zres 187 C_X7_kept_42 ls st σ = zres 187 ((42, 1, 0, .lload_n 1) :: (43, 1, 0, .l2i) :: (44, 1, 0, .i2l) :: (45, 1, 0, .lreturn) :: C_X7_kept_46) ls st σ := rfl
theorem U_X7_kept_46 (ls st : List zV) (σ : zM) : zres 187 C_X7_kept_46 ls st σ = zres 187 ((46, 1, 0, .lload_n 1) :: (47, 1, 0, .lreturn) :: C_X7_kept_48) ls st σ := rfl
theorem U_X7_kept_48 (ls st : List zV) (σ : zM) : zres 187 C_X7_kept_48 ls st σ = zres 187 ((48, 1, 0, .lload_n 1) :: (49, 1, 0, .lconst 0) :: (50, 1, 0, .lcmp) :: (51, 3, 58, .ifCond .ne 7) :: (54, 1, 0, .lconst 0) :: (55, 3, 59, .goto 4) :: C_X7_kept_58) ls st σ := rfl
theorem U_X7_kept_58 (ls st : List zV) (σ : zM) : zres 187 C_X7_kept_58 ls st σ = zres 187 ((58, 1, 1, .lconst 1) :: C_X7_kept_59) ls st σ := rfl
theorem U_X7_kept_59 (ls st : List zV) (σ : zM) : zres 187 C_X7_kept_59 ls st σ = zres 187 ((59, 1, 0, .lreturn) :: []) ls st σ := rfl
theorem S_X7_kept (a0 a1 : Int) (σ : zM) : zcall 187 [vI a0, vL a1] σ = zres 187 C_X7_kept_0 [vI a0, vL a1, vU] [] σ := by
  unfold zcall zloc
  rw [G_X7_kept, M_X7_kept.2.1]
  rfl
theorem J_X7_item_0 : zjump 188 0 = C_X7_item_0 := by decide +kernel
theorem J_X7_item_9 : zjump 188 9 = C_X7_item_9 := by decide +kernel
theorem J_X7_item_22 : zjump 188 22 = C_X7_item_22 := by decide +kernel
theorem J_X7_item_43 : zjump 188 43 = C_X7_item_43 := by decide +kernel
theorem U_X7_item_0 (ls st : List zV) (σ : zM) : zres 188 C_X7_item_0 ls st σ = zres 188 ((0, 1, 0, .iload_n 1) :: (1, 3, 185, .invokestatic 290) :: (4, 3, 9, .ifCond .ne 5) :: (7, 1, (-1), .iconst (-1)) :: (8, 1, 0, .ireturn) :: C_X7_item_9) ls st σ := rfl
theorem U_X7_item_9 (ls st : List zV) (σ : zM) : zres 188 C_X7_item_9 ls st σ = zres 188 ((9, 1, 0, .aload_n 0) :: (10, 3, 244, .getfield 37) :: (13, 1, 0, .iload_n 1) :: (14, 1, 0, .iaload) :: (15, 1, (-1), .iconst (-1)) :: (16, 3, 22, .if_icmp .ne 6) :: (19, 2, (-11), .bipush (-11)) :: (21, 1, 0, .ireturn) :: C_X7_item_22) ls st σ := rfl
theorem U_X7_item_22 (ls st : List zV) (σ : zM) : zres 188 C_X7_item_22 ls st σ = zres 188 ((22, 1, 0, .iload_n 2) :: (23, 1, 0, .i2l) :: (24, 1, 0, .lconst 0) :: (25, 1, 0, .aload_n 0) :: (26, 3, 245, .getfield 40) :: (29, 1, 0, .iload_n 1) :: (30, 1, 0, .iaload) :: (31, 1, 1, .iconst 1) :: (32, 1, 0, .isub) :: (33, 1, 0, .i2l) :: (34, 3, 105, .invokestatic 47) :: (37, 3, 43, .ifCond .ne 6) :: (40, 2, (-13), .bipush (-13)) :: (42, 1, 0, .ireturn) :: C_X7_item_43) ls st σ := rfl
theorem U_X7_item_43 (ls st : List zV) (σ : zM) : zres 188 C_X7_item_43 ls st σ = zres 188 ((43, 1, 0, .aload_n 0) :: (44, 3, 246, .getfield 43) :: (47, 2, 60, .bipush 60) :: (49, 1, 0, .iload_n 1) :: (50, 1, 0, .imul) :: (51, 1, 0, .iload_n 2) :: (52, 1, 0, .iadd) :: (53, 1, 0, .aload_n 0) :: (54, 3, 244, .getfield 37) :: (57, 1, 0, .iload_n 1) :: (58, 1, 0, .iaload) :: (59, 1, 0, .lload_n 3) :: (60, 3, 187, .invokestatic 293) :: (63, 1, 0, .lastore) :: (64, 1, 1, .iconst 1) :: (65, 1, 0, .ireturn) :: []) ls st σ := rfl
theorem S_X7_item (c a0 a1 a2 : Int) (σ : zM) : zcall 188 [vR c, vI a0, vI a1, vL a2] σ = zres 188 C_X7_item_0 [vR c, vI a0, vI a1, vL a2, vU] [] σ := by
  unfold zcall zloc
  rw [G_X7_item, M_X7_item.2.1]
  rfl
theorem J_X7_peek_0 : zjump 189 0 = C_X7_peek_0 := by decide +kernel
theorem J_X7_peek_39 : zjump 189 39 = C_X7_peek_39 := by decide +kernel
theorem J_X7_peek_42 : zjump 189 42 = C_X7_peek_42 := by decide +kernel
theorem U_X7_peek_0 (ls st : List zV) (σ : zM) : zres 189 C_X7_peek_0 ls st σ = zres 189 ((0, 1, 0, .iload_n 1) :: (1, 3, 185, .invokestatic 290) :: (4, 3, 39, .ifCond .eq 35) :: (7, 1, 0, .iload_n 2) :: (8, 1, 0, .i2l) :: (9, 1, 0, .lconst 0) :: (10, 1, 0, .aload_n 0) :: (11, 3, 245, .getfield 40) :: (14, 1, 0, .iload_n 1) :: (15, 1, 0, .iaload) :: (16, 1, 1, .iconst 1) :: (17, 1, 0, .isub) :: (18, 1, 0, .i2l) :: (19, 3, 105, .invokestatic 47) :: (22, 3, 39, .ifCond .eq 17) :: (25, 1, 0, .aload_n 0) :: (26, 3, 246, .getfield 43) :: (29, 2, 60, .bipush 60) :: (31, 1, 0, .iload_n 1) :: (32, 1, 0, .imul) :: (33, 1, 0, .iload_n 2) :: (34, 1, 0, .iadd) :: (35, 1, 0, .laload) :: (36, 3, 42, .goto 6) :: C_X7_peek_39) ls st σ := rfl
theorem U_X7_peek_39 (ls st : List zV) (σ : zM) : zres 189 C_X7_peek_39 ls st σ = zres 189 ((39, 3, (-9223372036854775808), .ldc2_w 100) :: C_X7_peek_42) ls st σ := rfl
theorem U_X7_peek_42 (ls st : List zV) (σ : zM) : zres 189 C_X7_peek_42 ls st σ = zres 189 ((42, 1, 0, .lreturn) :: []) ls st σ := rfl
theorem S_X7_peek (c a0 a1 : Int) (σ : zM) : zcall 189 [vR c, vI a0, vI a1] σ = zres 189 C_X7_peek_0 [vR c, vI a0, vI a1] [] σ := by
  unfold zcall zloc
  rw [G_X7_peek, M_X7_peek.2.1]
  rfl
theorem J_X7_shift_0 : zjump 190 0 = C_X7_shift_0 := by decide +kernel
theorem J_X7_shift_14 : zjump 190 14 = C_X7_shift_14 := by decide +kernel
theorem J_X7_shift_16 : zjump 190 16 = C_X7_shift_16 := by decide +kernel
theorem J_X7_shift_36 : zjump 190 36 = C_X7_shift_36 := by decide +kernel
theorem J_X7_shift_39 : zjump 190 39 = C_X7_shift_39 := by decide +kernel
theorem J_X7_shift_57 : zjump 190 57 = C_X7_shift_57 := by decide +kernel
theorem J_X7_shift_98 : zjump 190 98 = C_X7_shift_98 := by decide +kernel
theorem J_X7_shift_101 : zjump 190 101 = C_X7_shift_101 := by decide +kernel
theorem U_X7_shift_0 (ls st : List zV) (σ : zM) : zres 190 C_X7_shift_0 ls st σ = zres 190 ((0, 1, 0, .iload_n 1) :: (1, 3, 185, .invokestatic 290) :: (4, 3, 14, .ifCond .eq 10) :: (7, 1, 0, .iload_n 3) :: (8, 3, 185, .invokestatic 290) :: (11, 3, 16, .ifCond .ne 5) :: C_X7_shift_14) ls st σ := rfl
theorem U_X7_shift_14 (ls st : List zV) (σ : zM) : zres 190 C_X7_shift_14 ls st σ = zres 190 ((14, 1, (-1), .iconst (-1)) :: (15, 1, 0, .ireturn) :: C_X7_shift_16) ls st σ := rfl
theorem U_X7_shift_16 (ls st : List zV) (σ : zM) : zres 190 C_X7_shift_16 ls st σ = zres 190 ((16, 1, 0, .aload_n 0) :: (17, 3, 244, .getfield 37) :: (20, 1, 0, .iload_n 1) :: (21, 1, 0, .iaload) :: (22, 1, (-1), .iconst (-1)) :: (23, 3, 36, .if_icmp .eq 13) :: (26, 1, 0, .aload_n 0) :: (27, 3, 244, .getfield 37) :: (30, 1, 0, .iload_n 3) :: (31, 1, 0, .iaload) :: (32, 1, (-1), .iconst (-1)) :: (33, 3, 39, .if_icmp .ne 6) :: C_X7_shift_36) ls st σ := rfl
theorem U_X7_shift_36 (ls st : List zV) (σ : zM) : zres 190 C_X7_shift_36 ls st σ = zres 190 ((36, 2, (-11), .bipush (-11)) :: (38, 1, 0, .ireturn) :: C_X7_shift_39) ls st σ := rfl
theorem U_X7_shift_39 (ls st : List zV) (σ : zM) : zres 190 C_X7_shift_39 ls st σ = zres 190 ((39, 1, 0, .aload_n 0) :: (40, 3, 244, .getfield 37) :: (43, 1, 0, .iload_n 1) :: (44, 1, 0, .iaload) :: (45, 1, 0, .aload_n 0) :: (46, 3, 244, .getfield 37) :: (49, 1, 0, .iload_n 3) :: (50, 1, 0, .iaload) :: (51, 3, 57, .if_icmp .eq 6) :: (54, 2, (-12), .bipush (-12)) :: (56, 1, 0, .ireturn) :: C_X7_shift_57) ls st σ := rfl
theorem U_X7_shift_57 (ls st : List zV) (σ : zM) : zres 190 C_X7_shift_57 ls st σ = zres 190 ((57, 2, 0, .iload 5) :: (59, 3, 98, .ifCond .lt 39) :: (62, 1, 0, .iload_n 2) :: (63, 3, 98, .ifCond .lt 35) :: (66, 2, 0, .iload 4) :: (68, 3, 98, .ifCond .lt 30) :: (71, 1, 0, .iload_n 2) :: (72, 1, 0, .aload_n 0) :: (73, 3, 245, .getfield 40) :: (76, 1, 0, .iload_n 1) :: (77, 1, 0, .iaload) :: (78, 2, 0, .iload 5) :: (80, 1, 0, .isub) :: (81, 3, 98, .if_icmp .gt 17) :: (84, 2, 0, .iload 4) :: (86, 1, 0, .aload_n 0) :: (87, 3, 245, .getfield 40) :: (90, 1, 0, .iload_n 3) :: (91, 1, 0, .iaload) :: (92, 2, 0, .iload 5) :: (94, 1, 0, .isub) :: (95, 3, 101, .if_icmp .le 6) :: C_X7_shift_98) ls st σ := rfl
theorem U_X7_shift_98 (ls st : List zV) (σ : zM) : zres 190 C_X7_shift_98 ls st σ = zres 190 ((98, 2, (-13), .bipush (-13)) :: (100, 1, 0, .ireturn) :: C_X7_shift_101) ls st σ := rfl
theorem U_X7_shift_101 (ls st : List zV) (σ : zM) : zres 190 C_X7_shift_101 ls st σ = zres 190 ((101, 1, 0, .aload_n 0) :: (102, 3, 246, .getfield 43) :: (105, 2, 60, .bipush 60) :: (107, 1, 0, .iload_n 1) :: (108, 1, 0, .imul) :: (109, 1, 0, .iload_n 2) :: (110, 1, 0, .iadd) :: (111, 1, 0, .aload_n 0) :: (112, 3, 246, .getfield 43) :: (115, 2, 60, .bipush 60) :: (117, 1, 0, .iload_n 3) :: (118, 1, 0, .imul) :: (119, 2, 0, .iload 4) :: (121, 1, 0, .iadd) :: (122, 2, 0, .iload 5) :: (124, 3, 9999, .invokestatic 209) :: (127, 2, 0, .iload 5) :: (129, 1, 0, .ireturn) :: []) ls st σ := rfl
theorem S_X7_shift (c a0 a1 a2 a3 a4 : Int) (σ : zM) : zcall 190 [vR c, vI a0, vI a1, vI a2, vI a3, vI a4] σ = zres 190 C_X7_shift_0 [vR c, vI a0, vI a1, vI a2, vI a3, vI a4] [] σ := by
  unfold zcall zloc
  rw [G_X7_shift, M_X7_shift.2.1]
  rfl
theorem J_X7_judge_0 : zjump 191 0 = C_X7_judge_0 := by decide +kernel
theorem J_X7_judge_9 : zjump 191 9 = C_X7_judge_9 := by decide +kernel
theorem J_X7_judge_32 : zjump 191 32 = C_X7_judge_32 := by decide +kernel
theorem J_X7_judge_34 : zjump 191 34 = C_X7_judge_34 := by decide +kernel
theorem J_X7_judge_60 : zjump 191 60 = C_X7_judge_60 := by decide +kernel
theorem J_X7_judge_65 : zjump 191 65 = C_X7_judge_65 := by decide +kernel
theorem J_X7_judge_93 : zjump 191 93 = C_X7_judge_93 := by decide +kernel
theorem J_X7_judge_99 : zjump 191 99 = C_X7_judge_99 := by decide +kernel
theorem U_X7_judge_0 (ls st : List zV) (σ : zM) : zres 191 C_X7_judge_0 ls st σ = zres 191 ((0, 1, 0, .iload_n 1) :: (1, 3, 185, .invokestatic 290) :: (4, 3, 9, .ifCond .ne 5) :: (7, 1, (-1), .iconst (-1)) :: (8, 1, 0, .ireturn) :: C_X7_judge_9) ls st σ := rfl
theorem U_X7_judge_9 (ls st : List zV) (σ : zM) : zres 191 C_X7_judge_9 ls st σ = zres 191 ((9, 1, 0, .aload_n 0) :: (10, 3, 244, .getfield 37) :: (13, 1, 0, .iload_n 1) :: (14, 1, 0, .iaload) :: (15, 1, (-1), .iconst (-1)) :: (16, 3, 32, .if_icmp .eq 16) :: (19, 1, 0, .aload_n 0) :: (20, 3, 244, .getfield 37) :: (23, 1, 0, .iload_n 1) :: (24, 1, 0, .iaload) :: (25, 1, 3, .iconst 3) :: (26, 3, 32, .if_icmp .eq 6) :: (29, 2, (-12), .bipush (-12)) :: (31, 1, 0, .ireturn) :: C_X7_judge_32) ls st σ := rfl
theorem U_X7_judge_32 (ls st : List zV) (σ : zM) : zres 191 C_X7_judge_32 ls st σ = zres 191 ((32, 1, 0, .iconst 0) :: (33, 1, 0, .istore_n 3) :: C_X7_judge_34) ls st σ := rfl
theorem U_X7_judge_34 (ls st : List zV) (σ : zM) : zres 191 C_X7_judge_34 ls st σ = zres 191 ((34, 1, 0, .iload_n 3) :: (35, 1, 0, .aload_n 0) :: (36, 3, 224, .getfield 11) :: (39, 1, 1, .iconst 1) :: (40, 1, 0, .iaload) :: (41, 3, 99, .if_icmp .ge 58) :: (44, 1, 0, .iload_n 2) :: (45, 3, 60, .ifCond .lt 15) :: (48, 1, 0, .iload_n 2) :: (49, 1, 0, .aload_n 0) :: (50, 3, 245, .getfield 40) :: (53, 1, 0, .iload_n 1) :: (54, 1, 0, .iaload) :: (55, 1, 0, .iload_n 3) :: (56, 1, 0, .isub) :: (57, 3, 65, .if_icmp .lt 8) :: C_X7_judge_60) ls st σ := rfl
theorem U_X7_judge_60 (ls st : List zV) (σ : zM) : zres 191 C_X7_judge_60 ls st σ = zres 191 ((60, 2, 100, .bipush 100) :: (62, 1, 0, .iload_n 3) :: (63, 1, 0, .iadd) :: (64, 1, 0, .ireturn) :: C_X7_judge_65) ls st σ := rfl
theorem U_X7_judge_65 (ls st : List zV) (σ : zM) : zres 191 C_X7_judge_65 ls st σ = zres 191 ((65, 1, 0, .aload_n 0) :: (66, 3, 246, .getfield 43) :: (69, 2, 60, .bipush 60) :: (71, 1, 0, .iload_n 1) :: (72, 1, 0, .imul) :: (73, 1, 0, .iload_n 2) :: (74, 1, 0, .iadd) :: (75, 1, 0, .iload_n 3) :: (76, 1, 0, .iadd) :: (77, 1, 0, .laload) :: (78, 1, 0, .aload_n 0) :: (79, 3, 224, .getfield 11) :: (82, 1, 5, .iconst 5) :: (83, 1, 0, .iload_n 3) :: (84, 1, 0, .iadd) :: (85, 1, 0, .iaload) :: (86, 1, 0, .i2l) :: (87, 1, 0, .lcmp) :: (88, 3, 93, .ifCond .eq 5) :: (91, 1, 0, .iload_n 3) :: (92, 1, 0, .ireturn) :: C_X7_judge_93) ls st σ := rfl
theorem U_X7_judge_93 (ls st : List zV) (σ : zM) : zres 191 C_X7_judge_93 ls st σ = zres 191 ((93, 3, 0, .iinc 3 1) :: (96, 3, 34, .goto (-62)) :: C_X7_judge_99) ls st σ := rfl
theorem U_X7_judge_99 (ls st : List zV) (σ : zM) : zres 191 C_X7_judge_99 ls st σ = zres 191 ((99, 2, (-5), .bipush (-5)) :: (101, 1, 0, .ireturn) :: []) ls st σ := rfl
theorem S_X7_judge (c a0 a1 : Int) (σ : zM) : zcall 191 [vR c, vI a0, vI a1] σ = zres 191 C_X7_judge_0 [vR c, vI a0, vI a1, vU] [] σ := by
  unfold zcall zloc
  rw [G_X7_judge, M_X7_judge.2.1]
  rfl
theorem J_J6_bitCount_0 : zjump 192 0 = C_J6_bitCount_0 := by decide +kernel
theorem U_J6_bitCount_0 (ls st : List zV) (σ : zM) : zres 192 C_J6_bitCount_0 ls st σ = zres 192 ((0, 1, 0, .iload_n 0) :: (1, 1, 0, .iload_n 0) :: (2, 1, 1, .iconst 1) :: (3, 1, 0, .iushr) :: (4, 3, 1431655765, .ldc_w 265) :: (7, 1, 0, .iand) :: (8, 1, 0, .isub) :: (9, 1, 0, .istore_n 0) :: (10, 1, 0, .iload_n 0) :: (11, 3, 858993459, .ldc_w 266) :: (14, 1, 0, .iand) :: (15, 1, 0, .iload_n 0) :: (16, 1, 2, .iconst 2) :: (17, 1, 0, .iushr) :: (18, 3, 858993459, .ldc_w 266) :: (21, 1, 0, .iand) :: (22, 1, 0, .iadd) :: (23, 1, 0, .istore_n 0) :: (24, 1, 0, .iload_n 0) :: (25, 1, 0, .iload_n 0) :: (26, 1, 4, .iconst 4) :: (27, 1, 0, .iushr) :: (28, 1, 0, .iadd) :: (29, 3, 252645135, .ldc_w 267) :: (32, 1, 0, .iand) :: (33, 1, 0, .istore_n 0) :: (34, 1, 0, .iload_n 0) :: (35, 1, 0, .iload_n 0) :: (36, 2, 8, .bipush 8) :: (38, 1, 0, .iushr) :: (39, 1, 0, .iadd) :: (40, 1, 0, .istore_n 0) :: (41, 1, 0, .iload_n 0) :: (42, 1, 0, .iload_n 0) :: (43, 2, 16, .bipush 16) :: (45, 1, 0, .iushr) :: (46, 1, 0, .iadd) :: (47, 1, 0, .istore_n 0) :: (48, 1, 0, .iload_n 0) :: (49, 2, 63, .bipush 63) :: (51, 1, 0, .iand) :: (52, 1, 0, .ireturn) :: []) ls st σ := rfl
theorem S_J6_bitCount (a0 : Int) (σ : zM) : zcall 192 [vI a0] σ = zres 192 C_J6_bitCount_0 [vI a0] [] σ := by
  unfold zcall zloc
  rw [G_J6_bitCount, M_J6_bitCount.2.1]
  rfl
theorem W_X3_asItem_4_0 : zswT 26 4 48 0 3 #[32, 37, 42, 46] 0 = C_X3_asItem_36 := J_X3_asItem_36
theorem W_X3_asItem_4_1 : zswT 26 4 48 0 3 #[32, 37, 42, 46] 1 = C_X3_asItem_41 := J_X3_asItem_41
theorem W_X3_asItem_4_2 : zswT 26 4 48 0 3 #[32, 37, 42, 46] 2 = C_X3_asItem_46 := J_X3_asItem_46
theorem W_X3_asItem_4_3 : zswT 26 4 48 0 3 #[32, 37, 42, 46] 3 = C_X3_asItem_50 := J_X3_asItem_50
theorem W_X3_asItem_4_d (a : Int) (h : a < 0 ∨ 3 < a) : zswT 26 4 48 0 3 #[32, 37, 42, 46] a = C_X3_asItem_52 := by
  unfold zswT
  rw [if_pos h]
  exact J_X3_asItem_52
theorem W_X4_digitsBehind_1_104 : zswT 32 1 75 104 116 #[71, 75, 75, 75, 75, 75, 69, 75, 73, 75, 75, 71, 67] 104 = C_X4_digitsBehind_72 := J_X4_digitsBehind_72
theorem W_X4_digitsBehind_1_105 : zswT 32 1 75 104 116 #[71, 75, 75, 75, 75, 75, 69, 75, 73, 75, 75, 71, 67] 105 = C_X4_digitsBehind_76 := J_X4_digitsBehind_76
theorem W_X4_digitsBehind_1_106 : zswT 32 1 75 104 116 #[71, 75, 75, 75, 75, 75, 69, 75, 73, 75, 75, 71, 67] 106 = C_X4_digitsBehind_76 := J_X4_digitsBehind_76
theorem W_X4_digitsBehind_1_107 : zswT 32 1 75 104 116 #[71, 75, 75, 75, 75, 75, 69, 75, 73, 75, 75, 71, 67] 107 = C_X4_digitsBehind_76 := J_X4_digitsBehind_76
theorem W_X4_digitsBehind_1_108 : zswT 32 1 75 104 116 #[71, 75, 75, 75, 75, 75, 69, 75, 73, 75, 75, 71, 67] 108 = C_X4_digitsBehind_76 := J_X4_digitsBehind_76
theorem W_X4_digitsBehind_1_109 : zswT 32 1 75 104 116 #[71, 75, 75, 75, 75, 75, 69, 75, 73, 75, 75, 71, 67] 109 = C_X4_digitsBehind_76 := J_X4_digitsBehind_76
theorem W_X4_digitsBehind_1_110 : zswT 32 1 75 104 116 #[71, 75, 75, 75, 75, 75, 69, 75, 73, 75, 75, 71, 67] 110 = C_X4_digitsBehind_70 := J_X4_digitsBehind_70
theorem W_X4_digitsBehind_1_111 : zswT 32 1 75 104 116 #[71, 75, 75, 75, 75, 75, 69, 75, 73, 75, 75, 71, 67] 111 = C_X4_digitsBehind_76 := J_X4_digitsBehind_76
theorem W_X4_digitsBehind_1_112 : zswT 32 1 75 104 116 #[71, 75, 75, 75, 75, 75, 69, 75, 73, 75, 75, 71, 67] 112 = C_X4_digitsBehind_74 := J_X4_digitsBehind_74
theorem W_X4_digitsBehind_1_113 : zswT 32 1 75 104 116 #[71, 75, 75, 75, 75, 75, 69, 75, 73, 75, 75, 71, 67] 113 = C_X4_digitsBehind_76 := J_X4_digitsBehind_76
theorem W_X4_digitsBehind_1_114 : zswT 32 1 75 104 116 #[71, 75, 75, 75, 75, 75, 69, 75, 73, 75, 75, 71, 67] 114 = C_X4_digitsBehind_76 := J_X4_digitsBehind_76
theorem W_X4_digitsBehind_1_115 : zswT 32 1 75 104 116 #[71, 75, 75, 75, 75, 75, 69, 75, 73, 75, 75, 71, 67] 115 = C_X4_digitsBehind_72 := J_X4_digitsBehind_72
theorem W_X4_digitsBehind_1_116 : zswT 32 1 75 104 116 #[71, 75, 75, 75, 75, 75, 69, 75, 73, 75, 75, 71, 67] 116 = C_X4_digitsBehind_68 := J_X4_digitsBehind_68
theorem W_X4_digitsBehind_1_d (a : Int) (h : a < 104 ∨ 116 < a) : zswT 32 1 75 104 116 #[71, 75, 75, 75, 75, 75, 69, 75, 73, 75, 75, 71, 67] a = C_X4_digitsBehind_76 := by
  unfold zswT
  rw [if_pos h]
  exact J_X4_digitsBehind_76
theorem W_X6_told_1_0 : zswT 61 1 112 0 5 #[39, 47, 55, 63, 71, 76] 0 = C_X6_told_40 := J_X6_told_40
theorem W_X6_told_1_1 : zswT 61 1 112 0 5 #[39, 47, 55, 63, 71, 76] 1 = C_X6_told_48 := J_X6_told_48
theorem W_X6_told_1_2 : zswT 61 1 112 0 5 #[39, 47, 55, 63, 71, 76] 2 = C_X6_told_56 := J_X6_told_56
theorem W_X6_told_1_3 : zswT 61 1 112 0 5 #[39, 47, 55, 63, 71, 76] 3 = C_X6_told_64 := J_X6_told_64
theorem W_X6_told_1_4 : zswT 61 1 112 0 5 #[39, 47, 55, 63, 71, 76] 4 = C_X6_told_72 := J_X6_told_72
theorem W_X6_told_1_5 : zswT 61 1 112 0 5 #[39, 47, 55, 63, 71, 76] 5 = C_X6_told_77 := J_X6_told_77
theorem W_X6_told_1_d (a : Int) (h : a < 0 ∨ 5 < a) : zswT 61 1 112 0 5 #[39, 47, 55, 63, 71, 76] a = C_X6_told_113 := by
  unfold zswT
  rw [if_pos h]
  exact J_X6_told_113
theorem W_X6_adjusted_50_0 : zswT 63 50 67 0 3 #[30, 41, 50, 59] 0 = C_X6_adjusted_80 := J_X6_adjusted_80
theorem W_X6_adjusted_50_1 : zswT 63 50 67 0 3 #[30, 41, 50, 59] 1 = C_X6_adjusted_91 := J_X6_adjusted_91
theorem W_X6_adjusted_50_2 : zswT 63 50 67 0 3 #[30, 41, 50, 59] 2 = C_X6_adjusted_100 := J_X6_adjusted_100
theorem W_X6_adjusted_50_3 : zswT 63 50 67 0 3 #[30, 41, 50, 59] 3 = C_X6_adjusted_109 := J_X6_adjusted_109
theorem W_X6_adjusted_50_d (a : Int) (h : a < 0 ∨ 3 < a) : zswT 63 50 67 0 3 #[30, 41, 50, 59] a = C_X6_adjusted_117 := by
  unfold zswT
  rw [if_pos h]
  exact J_X6_adjusted_117
theorem W_X6_count_1_0 : zswT 80 1 72 0 3 #[31, 42, 53, 64] 0 = C_X6_count_32 := J_X6_count_32
theorem W_X6_count_1_1 : zswT 80 1 72 0 3 #[31, 42, 53, 64] 1 = C_X6_count_43 := J_X6_count_43
theorem W_X6_count_1_2 : zswT 80 1 72 0 3 #[31, 42, 53, 64] 2 = C_X6_count_54 := J_X6_count_54
theorem W_X6_count_1_3 : zswT 80 1 72 0 3 #[31, 42, 53, 64] 3 = C_X6_count_65 := J_X6_count_65
theorem W_X6_count_1_d (a : Int) (h : a < 0 ∨ 3 < a) : zswT 80 1 72 0 3 #[31, 42, 53, 64] a = C_X6_count_73 := by
  unfold zswT
  rw [if_pos h]
  exact J_X6_count_73
theorem W_X6_doClause_31_104 : zswL 96 31 79 #[(104, 71), (110, 41), (112, 52), (116, 47)] 104 = C_X6_doClause_102 := J_X6_doClause_102
theorem W_X6_doClause_31_110 : zswL 96 31 79 #[(104, 71), (110, 41), (112, 52), (116, 47)] 110 = C_X6_doClause_72 := J_X6_doClause_72
theorem W_X6_doClause_31_112 : zswL 96 31 79 #[(104, 71), (110, 41), (112, 52), (116, 47)] 112 = C_X6_doClause_83 := J_X6_doClause_83
theorem W_X6_doClause_31_116 : zswL 96 31 79 #[(104, 71), (110, 41), (112, 52), (116, 47)] 116 = C_X6_doClause_78 := J_X6_doClause_78
theorem W_X6_doClause_31_d (a : Int) (h : (a < 104 ∨ 104 < a) ∧ (a < 110 ∨ 110 < a) ∧ (a < 112 ∨ 112 < a) ∧ (a < 116 ∨ 116 < a)) : zswL 96 31 79 #[(104, 71), (110, 41), (112, 52), (116, 47)] a = C_X6_doClause_110 := by
  unfold zswL
  have : Op.lookupswitch.offset (#[(104, 71), (110, 41), (112, 52), (116, 47)] : Array (Int × Int)).toList 79 a = 79 := by
    simp only [Op.lookupswitch.offset]
    repeat (rw [if_neg (by first | omega | (simp; omega))])
  rw [this]
  exact J_X6_doClause_110
theorem W_X6_causeOf_1_1 : zswT 98 1 73 1 4 #[31, 46, 55, 64] 1 = C_X6_causeOf_32 := J_X6_causeOf_32
theorem W_X6_causeOf_1_2 : zswT 98 1 73 1 4 #[31, 46, 55, 64] 2 = C_X6_causeOf_47 := J_X6_causeOf_47
theorem W_X6_causeOf_1_3 : zswT 98 1 73 1 4 #[31, 46, 55, 64] 3 = C_X6_causeOf_56 := J_X6_causeOf_56
theorem W_X6_causeOf_1_4 : zswT 98 1 73 1 4 #[31, 46, 55, 64] 4 = C_X6_causeOf_65 := J_X6_causeOf_65
theorem W_X6_causeOf_1_d (a : Int) (h : a < 1 ∨ 4 < a) : zswT 98 1 73 1 4 #[31, 46, 55, 64] a = C_X6_causeOf_74 := by
  unfold zswT
  rw [if_pos h]
  exact J_X6_causeOf_74
theorem W_X7_causeOf_1_1 : zswT 138 1 68 1 4 #[31, 44, 53, 59] 1 = C_X7_causeOf_32 := J_X7_causeOf_32
theorem W_X7_causeOf_1_2 : zswT 138 1 68 1 4 #[31, 44, 53, 59] 2 = C_X7_causeOf_45 := J_X7_causeOf_45
theorem W_X7_causeOf_1_3 : zswT 138 1 68 1 4 #[31, 44, 53, 59] 3 = C_X7_causeOf_54 := J_X7_causeOf_54
theorem W_X7_causeOf_1_4 : zswT 138 1 68 1 4 #[31, 44, 53, 59] 4 = C_X7_causeOf_60 := J_X7_causeOf_60
theorem W_X7_causeOf_1_d (a : Int) (h : a < 1 ∨ 4 < a) : zswT 138 1 68 1 4 #[31, 44, 53, 59] a = C_X7_causeOf_69 := by
  unfold zswT
  rw [if_pos h]
  exact J_X7_causeOf_69
theorem W_X7_adjusted_36_0 : zswT 152 36 60 0 3 #[32, 40, 40, 55] 0 = C_X7_adjusted_68 := J_X7_adjusted_68
theorem W_X7_adjusted_36_1 : zswT 152 36 60 0 3 #[32, 40, 40, 55] 1 = C_X7_adjusted_76 := J_X7_adjusted_76
theorem W_X7_adjusted_36_2 : zswT 152 36 60 0 3 #[32, 40, 40, 55] 2 = C_X7_adjusted_76 := J_X7_adjusted_76
theorem W_X7_adjusted_36_3 : zswT 152 36 60 0 3 #[32, 40, 40, 55] 3 = C_X7_adjusted_91 := J_X7_adjusted_91
theorem W_X7_adjusted_36_d (a : Int) (h : a < 0 ∨ 3 < a) : zswT 152 36 60 0 3 #[32, 40, 40, 55] a = C_X7_adjusted_96 := by
  unfold zswT
  rw [if_pos h]
  exact J_X7_adjusted_96
theorem W_X7_told_1_0 : zswT 163 1 77 0 5 #[39, 46, 53, 58, 63, 68] 0 = C_X7_told_40 := J_X7_told_40
theorem W_X7_told_1_1 : zswT 163 1 77 0 5 #[39, 46, 53, 58, 63, 68] 1 = C_X7_told_47 := J_X7_told_47
theorem W_X7_told_1_2 : zswT 163 1 77 0 5 #[39, 46, 53, 58, 63, 68] 2 = C_X7_told_54 := J_X7_told_54
theorem W_X7_told_1_3 : zswT 163 1 77 0 5 #[39, 46, 53, 58, 63, 68] 3 = C_X7_told_59 := J_X7_told_59
theorem W_X7_told_1_4 : zswT 163 1 77 0 5 #[39, 46, 53, 58, 63, 68] 4 = C_X7_told_64 := J_X7_told_64
theorem W_X7_told_1_5 : zswT 163 1 77 0 5 #[39, 46, 53, 58, 63, 68] 5 = C_X7_told_69 := J_X7_told_69
theorem W_X7_told_1_d (a : Int) (h : a < 0 ∨ 5 < a) : zswT 163 1 77 0 5 #[39, 46, 53, 58, 63, 68] a = C_X7_told_78 := by
  unfold zswT
  rw [if_pos h]
  exact J_X7_told_78
theorem W_X7_does_30_104 : zswL 169 30 77 #[(104, 70), (110, 42), (112, 53), (116, 48)] 104 = C_X7_does_100 := J_X7_does_100
theorem W_X7_does_30_110 : zswL 169 30 77 #[(104, 70), (110, 42), (112, 53), (116, 48)] 110 = C_X7_does_72 := J_X7_does_72
theorem W_X7_does_30_112 : zswL 169 30 77 #[(104, 70), (110, 42), (112, 53), (116, 48)] 112 = C_X7_does_83 := J_X7_does_83
theorem W_X7_does_30_116 : zswL 169 30 77 #[(104, 70), (110, 42), (112, 53), (116, 48)] 116 = C_X7_does_78 := J_X7_does_78
theorem W_X7_does_30_d (a : Int) (h : (a < 104 ∨ 104 < a) ∧ (a < 110 ∨ 110 < a) ∧ (a < 112 ∨ 112 < a) ∧ (a < 116 ∨ 116 < a)) : zswL 169 30 77 #[(104, 70), (110, 42), (112, 53), (116, 48)] a = C_X7_does_107 := by
  unfold zswL
  have : Op.lookupswitch.offset (#[(104, 70), (110, 42), (112, 53), (116, 48)] : Array (Int × Int)).toList 77 a = 77 := by
    simp only [Op.lookupswitch.offset]
    repeat (rw [if_neg (by first | omega | (simp; omega))])
  rw [this]
  exact J_X7_does_107
theorem W_X7_count_1_0 : zswT 184 1 57 0 3 #[31, 38, 45, 52] 0 = C_X7_count_32 := J_X7_count_32
theorem W_X7_count_1_1 : zswT 184 1 57 0 3 #[31, 38, 45, 52] 1 = C_X7_count_39 := J_X7_count_39
theorem W_X7_count_1_2 : zswT 184 1 57 0 3 #[31, 38, 45, 52] 2 = C_X7_count_46 := J_X7_count_46
theorem W_X7_count_1_3 : zswT 184 1 57 0 3 #[31, 38, 45, 52] 3 = C_X7_count_53 := J_X7_count_53
theorem W_X7_count_1_d (a : Int) (h : a < 0 ∨ 3 < a) : zswT 184 1 57 0 3 #[31, 38, 45, 52] a = C_X7_count_58 := by
  unfold zswT
  rw [if_pos h]
  exact J_X7_count_58
theorem W_X7_kept_1_0 : zswT 187 1 47 0 3 #[31, 36, 41, 45] 0 = C_X7_kept_32 := J_X7_kept_32
theorem W_X7_kept_1_1 : zswT 187 1 47 0 3 #[31, 36, 41, 45] 1 = C_X7_kept_37 := J_X7_kept_37
theorem W_X7_kept_1_2 : zswT 187 1 47 0 3 #[31, 36, 41, 45] 2 = C_X7_kept_42 := J_X7_kept_42
theorem W_X7_kept_1_3 : zswT 187 1 47 0 3 #[31, 36, 41, 45] 3 = C_X7_kept_46 := J_X7_kept_46
theorem W_X7_kept_1_d (a : Int) (h : a < 0 ∨ 3 < a) : zswT 187 1 47 0 3 #[31, 36, 41, 45] a = C_X7_kept_48 := by
  unfold zswT
  rw [if_pos h]
  exact J_X7_kept_48
