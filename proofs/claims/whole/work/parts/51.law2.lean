/-! Law: what it is worth -/

theorem wd_701 : Cond.fieldLink RX2 13 "ArmchairHouse$Law" "code" "[I" ∈ TBL := tb_tab (List.mem_of_getElem? (i := 701) (by decide +kernel)) rfl
theorem fl_X2_13 : amFl RX2 2 0 13 RX2 TX2 2 := ⟨rfl, inT_2, by decide, wd_701⟩
theorem wd_702 : Cond.fieldLink RX2 7 "ArmchairHouse$Law" "stack" "[I" ∈ TBL := tb_tab (List.mem_of_getElem? (i := 702) (by decide +kernel)) rfl
theorem fl_X2_7 : amFl RX2 2 1 7 RX2 TX2 2 := ⟨rfl, inT_2, by decide, wd_702⟩
theorem wd_825 : Cond.methodLink RX2 16 yX2_apply ∈ TBL := tb_tab (List.mem_of_getElem? (i := 825) (by decide +kernel)) rfl
theorem wd_21 : Cond.initialized RX2 ∈ TBL := tb_tab (List.mem_of_getElem? (i := 21) (by decide +kernel)) rfl
theorem wd_827 : Cond.code yX2_apply cX2_apply 7 (some .int) ∈ TBL := tb_tab (List.mem_of_getElem? (i := 827) (by decide +kernel)) rfl
theorem lk_X2_16 : amLk RX2 16 yX2_apply cX2_apply 7 (some .int) 3 := ⟨wd_825, wd_21, wd_827, by decide +kernel, by decide +kernel, by decide⟩
theorem wd_826 : Cond.static yX2_apply ∈ TBL := tb_tab (List.mem_of_getElem? (i := 826) (by decide +kernel)) rfl
def a_X2_worth : AC := [(0, vI 0 1), (1, vIstore 2 2), (2, vI 0 3), (3, vIstore 3 4), (4, vIload 3 5), (5, vAload 0 6), (6, vGetR TT 18 0 8 9), (9, vAlen TT 10), (10, vIcGe 219 13), (13, vAload 0 14), (14, vGetR TT 18 0 8 17), (17, vIload 3 18), (18, vIald TT 19), (19, vIstore 4 21), (21, vIload 4 23), (23, vI 20000 26), (26, vIcGe 79 29), (29, vIload 4 31), (31, vI 10000 34), (34, vIsub 35), (35, vIstore 5 37), (37, vIload 2 38), (38, vAload 0 39), (39, vGetR TT 18 1 8 42), (42, vAlen TT 43), (43, vIcGe 76 46), (46, vIload 5 48), (48, vAload 1 49), (49, vAlen TT 50), (50, vIcGe 76 53), (53, vAload 0 54), (54, vGetR TT 18 1 8 57), (57, vIload 2 58), (58, vIload 5 60), (60, vIfGe 68 63), (63, vIload 4 65), (65, vGoto 72), (68, vAload 1 69), (69, vIload 5 71), (71, vIald TT 72), (72, vIast TT 73), (73, vIinc 2 1 76), (76, vGoto 213), (79, vIload 2 80), (80, vI 1 81), (81, vIcGe 86 84), (84, vI 0 85), (85, vIret), (86, vIload 4 88), (88, vI 20059 91), (91, vIcNe 103 94), (94, vAload 0 95), (95, vGetR TT 18 1 8 98), (98, vIload 2 99), (99, vI 1 100), (100, vIsub 101), (101, vIald TT 102), (102, vIret), (103, vIload 4 105), (105, vI 20033 108), (108, vIcNe 132 111), (111, vAload 0 112), (112, vGetR TT 18 1 8 115), (115, vIload 2 116), (116, vI 1 117), (117, vIsub 118), (118, vI 1 119), (119, vAload 0 120), (120, vGetR TT 18 1 8 123), (123, vIload 2 124), (124, vI 1 125), (125, vIsub 126), (126, vIald TT 127), (127, vIsub 128), (128, vIast TT 129), (129, vGoto 213), (132, vIload 4 134), (134, vI 30000 137), (137, vIcLt 174 140), (140, vIinc 2 (-1) 143), (143, vAload 0 144), (144, vGetR TT 18 1 8 147), (147, vIload 2 148), (148, vIald TT 149), (149, vIfNe 213 152), (152, vIload 4 154), (154, vI 30000 157), (157, vIsub 158), (158, vIload 3 159), (159, vIcLe 213 162), (162, vIload 4 164), (164, vI 30000 167), (167, vIsub 168), (168, vI 1 169), (169, vIsub 170), (170, vIstore 3 171), (171, vGoto 213), (174, vIload 2 175), (175, vI 2 176), (176, vIcLt 213 179), (179, vIinc 2 (-1) 182), (182, vAload 0 183), (183, vGetR TT 18 1 8 186), (186, vIload 2 187), (187, vI 1 188), (188, vIsub 189), (189, vIload 4 191), (191, vI 20000 194), (194, vIsub 195), (195, vAload 0 196), (196, vGetR TT 18 1 8 199), (199, vIload 2 200), (200, vI 1 201), (201, vIsub 202), (202, vIald TT 203), (203, vAload 0 204), (204, vGetR TT 18 1 8 207), (207, vIload 2 208), (208, vIald TT 209), (209, vCallS w_X2_apply 3 212), (212, vIast TT 213), (213, vIinc 3 1 216), (216, vGoto 4), (219, vI 0 220), (220, vIret)]
theorem k_X2_worth_0 : look a_X2_worth 0 = vI 0 1 := rfl
theorem k_X2_worth_1 : look a_X2_worth 1 = vIstore 2 2 := rfl
theorem k_X2_worth_2 : look a_X2_worth 2 = vI 0 3 := rfl
theorem k_X2_worth_3 : look a_X2_worth 3 = vIstore 3 4 := rfl
theorem k_X2_worth_4 : look a_X2_worth 4 = vIload 3 5 := rfl
theorem k_X2_worth_5 : look a_X2_worth 5 = vAload 0 6 := rfl
theorem k_X2_worth_6 : look a_X2_worth 6 = vGetR TT 18 0 8 9 := rfl
theorem k_X2_worth_9 : look a_X2_worth 9 = vAlen TT 10 := rfl
theorem k_X2_worth_10 : look a_X2_worth 10 = vIcGe 219 13 := rfl
theorem k_X2_worth_13 : look a_X2_worth 13 = vAload 0 14 := rfl
theorem k_X2_worth_14 : look a_X2_worth 14 = vGetR TT 18 0 8 17 := rfl
theorem k_X2_worth_17 : look a_X2_worth 17 = vIload 3 18 := rfl
theorem k_X2_worth_18 : look a_X2_worth 18 = vIald TT 19 := rfl
theorem k_X2_worth_19 : look a_X2_worth 19 = vIstore 4 21 := rfl
theorem k_X2_worth_21 : look a_X2_worth 21 = vIload 4 23 := rfl
theorem k_X2_worth_23 : look a_X2_worth 23 = vI 20000 26 := rfl
theorem k_X2_worth_26 : look a_X2_worth 26 = vIcGe 79 29 := rfl
theorem k_X2_worth_29 : look a_X2_worth 29 = vIload 4 31 := rfl
theorem k_X2_worth_31 : look a_X2_worth 31 = vI 10000 34 := rfl
theorem k_X2_worth_34 : look a_X2_worth 34 = vIsub 35 := rfl
theorem k_X2_worth_35 : look a_X2_worth 35 = vIstore 5 37 := rfl
theorem k_X2_worth_37 : look a_X2_worth 37 = vIload 2 38 := rfl
theorem k_X2_worth_38 : look a_X2_worth 38 = vAload 0 39 := rfl
theorem k_X2_worth_39 : look a_X2_worth 39 = vGetR TT 18 1 8 42 := rfl
theorem k_X2_worth_42 : look a_X2_worth 42 = vAlen TT 43 := rfl
theorem k_X2_worth_43 : look a_X2_worth 43 = vIcGe 76 46 := rfl
theorem k_X2_worth_46 : look a_X2_worth 46 = vIload 5 48 := rfl
theorem k_X2_worth_48 : look a_X2_worth 48 = vAload 1 49 := rfl
theorem k_X2_worth_49 : look a_X2_worth 49 = vAlen TT 50 := rfl
theorem k_X2_worth_50 : look a_X2_worth 50 = vIcGe 76 53 := rfl
theorem k_X2_worth_53 : look a_X2_worth 53 = vAload 0 54 := rfl
theorem k_X2_worth_54 : look a_X2_worth 54 = vGetR TT 18 1 8 57 := rfl
theorem k_X2_worth_57 : look a_X2_worth 57 = vIload 2 58 := rfl
theorem k_X2_worth_58 : look a_X2_worth 58 = vIload 5 60 := rfl
theorem k_X2_worth_60 : look a_X2_worth 60 = vIfGe 68 63 := rfl
theorem k_X2_worth_63 : look a_X2_worth 63 = vIload 4 65 := rfl
theorem k_X2_worth_65 : look a_X2_worth 65 = vGoto 72 := rfl
theorem k_X2_worth_68 : look a_X2_worth 68 = vAload 1 69 := rfl
theorem k_X2_worth_69 : look a_X2_worth 69 = vIload 5 71 := rfl
theorem k_X2_worth_71 : look a_X2_worth 71 = vIald TT 72 := rfl
theorem k_X2_worth_72 : look a_X2_worth 72 = vIast TT 73 := rfl
theorem k_X2_worth_73 : look a_X2_worth 73 = vIinc 2 1 76 := rfl
theorem k_X2_worth_76 : look a_X2_worth 76 = vGoto 213 := rfl
theorem k_X2_worth_79 : look a_X2_worth 79 = vIload 2 80 := rfl
theorem k_X2_worth_80 : look a_X2_worth 80 = vI 1 81 := rfl
theorem k_X2_worth_81 : look a_X2_worth 81 = vIcGe 86 84 := rfl
theorem k_X2_worth_84 : look a_X2_worth 84 = vI 0 85 := rfl
theorem k_X2_worth_85 : look a_X2_worth 85 = vIret := rfl
theorem k_X2_worth_86 : look a_X2_worth 86 = vIload 4 88 := rfl
theorem k_X2_worth_88 : look a_X2_worth 88 = vI 20059 91 := rfl
theorem k_X2_worth_91 : look a_X2_worth 91 = vIcNe 103 94 := rfl
theorem k_X2_worth_94 : look a_X2_worth 94 = vAload 0 95 := rfl
theorem k_X2_worth_95 : look a_X2_worth 95 = vGetR TT 18 1 8 98 := rfl
theorem k_X2_worth_98 : look a_X2_worth 98 = vIload 2 99 := rfl
theorem k_X2_worth_99 : look a_X2_worth 99 = vI 1 100 := rfl
theorem k_X2_worth_100 : look a_X2_worth 100 = vIsub 101 := rfl
theorem k_X2_worth_101 : look a_X2_worth 101 = vIald TT 102 := rfl
theorem k_X2_worth_102 : look a_X2_worth 102 = vIret := rfl
theorem k_X2_worth_103 : look a_X2_worth 103 = vIload 4 105 := rfl
theorem k_X2_worth_105 : look a_X2_worth 105 = vI 20033 108 := rfl
theorem k_X2_worth_108 : look a_X2_worth 108 = vIcNe 132 111 := rfl
theorem k_X2_worth_111 : look a_X2_worth 111 = vAload 0 112 := rfl
theorem k_X2_worth_112 : look a_X2_worth 112 = vGetR TT 18 1 8 115 := rfl
theorem k_X2_worth_115 : look a_X2_worth 115 = vIload 2 116 := rfl
theorem k_X2_worth_116 : look a_X2_worth 116 = vI 1 117 := rfl
theorem k_X2_worth_117 : look a_X2_worth 117 = vIsub 118 := rfl
theorem k_X2_worth_118 : look a_X2_worth 118 = vI 1 119 := rfl
theorem k_X2_worth_119 : look a_X2_worth 119 = vAload 0 120 := rfl
theorem k_X2_worth_120 : look a_X2_worth 120 = vGetR TT 18 1 8 123 := rfl
theorem k_X2_worth_123 : look a_X2_worth 123 = vIload 2 124 := rfl
theorem k_X2_worth_124 : look a_X2_worth 124 = vI 1 125 := rfl
theorem k_X2_worth_125 : look a_X2_worth 125 = vIsub 126 := rfl
theorem k_X2_worth_126 : look a_X2_worth 126 = vIald TT 127 := rfl
theorem k_X2_worth_127 : look a_X2_worth 127 = vIsub 128 := rfl
theorem k_X2_worth_128 : look a_X2_worth 128 = vIast TT 129 := rfl
theorem k_X2_worth_129 : look a_X2_worth 129 = vGoto 213 := rfl
theorem k_X2_worth_132 : look a_X2_worth 132 = vIload 4 134 := rfl
theorem k_X2_worth_134 : look a_X2_worth 134 = vI 30000 137 := rfl
theorem k_X2_worth_137 : look a_X2_worth 137 = vIcLt 174 140 := rfl
theorem k_X2_worth_140 : look a_X2_worth 140 = vIinc 2 (-1) 143 := rfl
theorem k_X2_worth_143 : look a_X2_worth 143 = vAload 0 144 := rfl
theorem k_X2_worth_144 : look a_X2_worth 144 = vGetR TT 18 1 8 147 := rfl
theorem k_X2_worth_147 : look a_X2_worth 147 = vIload 2 148 := rfl
theorem k_X2_worth_148 : look a_X2_worth 148 = vIald TT 149 := rfl
theorem k_X2_worth_149 : look a_X2_worth 149 = vIfNe 213 152 := rfl
theorem k_X2_worth_152 : look a_X2_worth 152 = vIload 4 154 := rfl
theorem k_X2_worth_154 : look a_X2_worth 154 = vI 30000 157 := rfl
theorem k_X2_worth_157 : look a_X2_worth 157 = vIsub 158 := rfl
theorem k_X2_worth_158 : look a_X2_worth 158 = vIload 3 159 := rfl
theorem k_X2_worth_159 : look a_X2_worth 159 = vIcLe 213 162 := rfl
theorem k_X2_worth_162 : look a_X2_worth 162 = vIload 4 164 := rfl
theorem k_X2_worth_164 : look a_X2_worth 164 = vI 30000 167 := rfl
theorem k_X2_worth_167 : look a_X2_worth 167 = vIsub 168 := rfl
theorem k_X2_worth_168 : look a_X2_worth 168 = vI 1 169 := rfl
theorem k_X2_worth_169 : look a_X2_worth 169 = vIsub 170 := rfl
theorem k_X2_worth_170 : look a_X2_worth 170 = vIstore 3 171 := rfl
theorem k_X2_worth_171 : look a_X2_worth 171 = vGoto 213 := rfl
theorem k_X2_worth_174 : look a_X2_worth 174 = vIload 2 175 := rfl
theorem k_X2_worth_175 : look a_X2_worth 175 = vI 2 176 := rfl
theorem k_X2_worth_176 : look a_X2_worth 176 = vIcLt 213 179 := rfl
theorem k_X2_worth_179 : look a_X2_worth 179 = vIinc 2 (-1) 182 := rfl
theorem k_X2_worth_182 : look a_X2_worth 182 = vAload 0 183 := rfl
theorem k_X2_worth_183 : look a_X2_worth 183 = vGetR TT 18 1 8 186 := rfl
theorem k_X2_worth_186 : look a_X2_worth 186 = vIload 2 187 := rfl
theorem k_X2_worth_187 : look a_X2_worth 187 = vI 1 188 := rfl
theorem k_X2_worth_188 : look a_X2_worth 188 = vIsub 189 := rfl
theorem k_X2_worth_189 : look a_X2_worth 189 = vIload 4 191 := rfl
theorem k_X2_worth_191 : look a_X2_worth 191 = vI 20000 194 := rfl
theorem k_X2_worth_194 : look a_X2_worth 194 = vIsub 195 := rfl
theorem k_X2_worth_195 : look a_X2_worth 195 = vAload 0 196 := rfl
theorem k_X2_worth_196 : look a_X2_worth 196 = vGetR TT 18 1 8 199 := rfl
theorem k_X2_worth_199 : look a_X2_worth 199 = vIload 2 200 := rfl
theorem k_X2_worth_200 : look a_X2_worth 200 = vI 1 201 := rfl
theorem k_X2_worth_201 : look a_X2_worth 201 = vIsub 202 := rfl
theorem k_X2_worth_202 : look a_X2_worth 202 = vIald TT 203 := rfl
theorem k_X2_worth_203 : look a_X2_worth 203 = vAload 0 204 := rfl
theorem k_X2_worth_204 : look a_X2_worth 204 = vGetR TT 18 1 8 207 := rfl
theorem k_X2_worth_207 : look a_X2_worth 207 = vIload 2 208 := rfl
theorem k_X2_worth_208 : look a_X2_worth 208 = vIald TT 209 := rfl
theorem k_X2_worth_209 : look a_X2_worth 209 = vCallS w_X2_apply 3 212 := rfl
theorem k_X2_worth_212 : look a_X2_worth 212 = vIast TT 213 := rfl
theorem k_X2_worth_213 : look a_X2_worth 213 = vIinc 3 1 216 := rfl
theorem k_X2_worth_216 : look a_X2_worth 216 = vGoto 4 := rfl
theorem k_X2_worth_219 : look a_X2_worth 219 = vI 0 220 := rfl
theorem k_X2_worth_220 : look a_X2_worth 220 = vIret := rfl
theorem o_X2_worth {X : amX} (e1 : XT X = TT) (e2 : XD X = 1) (hB : amB X RX2 cX2_worth (some .int) 6) : ∀ pc, amOK X pc (look a_X2_worth pc) := by
  have hT : amTok (XT X) := e1 ▸ TT_ok
  refine look_ok ?_
  unfold a_X2_worth
  refine fc (ok_iconst hB dX2_worth_0) ?_
  refine fc (ok_istore_n hB (by decide) dX2_worth_1) ?_
  refine fc (ok_iconst hB dX2_worth_2) ?_
  refine fc (ok_istore_n hB (by decide) dX2_worth_3) ?_
  refine fc (ok_iload_n hB dX2_worth_4) ?_
  refine fc (ok_aload_n hB dX2_worth_5) ?_
  refine fc (okt_getR e1 hB hT fl_X2_13 rfl af_2_0 at_2_0 (by decide) dX2_worth_6) ?_
  refine fc (okt_arraylength e1 hB dX2_worth_9) ?_
  refine fc (ok_icmp_ge hB (t := 219) (by decide) dX2_worth_10) ?_
  refine fc (ok_aload_n hB dX2_worth_13) ?_
  refine fc (okt_getR e1 hB hT fl_X2_13 rfl af_2_0 at_2_0 (by decide) dX2_worth_14) ?_
  refine fc (ok_iload_n hB dX2_worth_17) ?_
  refine fc (okt_iaload e1 hB dX2_worth_18) ?_
  refine fc (ok_istore hB (by decide) dX2_worth_19) ?_
  refine fc (ok_iload hB dX2_worth_21) ?_
  refine fc (ok_sipush hB dX2_worth_23 (by decide)) ?_
  refine fc (ok_icmp_ge hB (t := 79) (by decide) dX2_worth_26) ?_
  refine fc (ok_iload hB dX2_worth_29) ?_
  refine fc (ok_sipush hB dX2_worth_31 (by decide)) ?_
  refine fc (ok_isub hB dX2_worth_34) ?_
  refine fc (ok_istore hB (by decide) dX2_worth_35) ?_
  refine fc (ok_iload_n hB dX2_worth_37) ?_
  refine fc (ok_aload_n hB dX2_worth_38) ?_
  refine fc (okt_getR e1 hB hT fl_X2_7 rfl af_2_1 at_2_1 (by decide) dX2_worth_39) ?_
  refine fc (okt_arraylength e1 hB dX2_worth_42) ?_
  refine fc (ok_icmp_ge hB (t := 76) (by decide) dX2_worth_43) ?_
  refine fc (ok_iload hB dX2_worth_46) ?_
  refine fc (ok_aload_n hB dX2_worth_48) ?_
  refine fc (okt_arraylength e1 hB dX2_worth_49) ?_
  refine fc (ok_icmp_ge hB (t := 76) (by decide) dX2_worth_50) ?_
  refine fc (ok_aload_n hB dX2_worth_53) ?_
  refine fc (okt_getR e1 hB hT fl_X2_7 rfl af_2_1 at_2_1 (by decide) dX2_worth_54) ?_
  refine fc (ok_iload_n hB dX2_worth_57) ?_
  refine fc (ok_iload hB dX2_worth_58) ?_
  refine fc (ok_if_ge hB (t := 68) (by decide) dX2_worth_60) ?_
  refine fc (ok_iload hB dX2_worth_63) ?_
  refine fc (ok_goto hB (t := 72) (by decide) dX2_worth_65) ?_
  refine fc (ok_aload_n hB dX2_worth_68) ?_
  refine fc (ok_iload hB dX2_worth_69) ?_
  refine fc (okt_iaload e1 hB dX2_worth_71) ?_
  refine fc (okt_iastore e1 hB dX2_worth_72) ?_
  refine fc (ok_iinc hB (by decide) dX2_worth_73) ?_
  refine fc (ok_goto hB (t := 213) (by decide) dX2_worth_76) ?_
  refine fc (ok_iload_n hB dX2_worth_79) ?_
  refine fc (ok_iconst hB dX2_worth_80) ?_
  refine fc (ok_icmp_ge hB (t := 86) (by decide) dX2_worth_81) ?_
  refine fc (ok_iconst hB dX2_worth_84) ?_
  refine fc (ok_iret hB dX2_worth_85) ?_
  refine fc (ok_iload hB dX2_worth_86) ?_
  refine fc (ok_sipush hB dX2_worth_88 (by decide)) ?_
  refine fc (ok_icmp_ne hB (t := 103) (by decide) dX2_worth_91) ?_
  refine fc (ok_aload_n hB dX2_worth_94) ?_
  refine fc (okt_getR e1 hB hT fl_X2_7 rfl af_2_1 at_2_1 (by decide) dX2_worth_95) ?_
  refine fc (ok_iload_n hB dX2_worth_98) ?_
  refine fc (ok_iconst hB dX2_worth_99) ?_
  refine fc (ok_isub hB dX2_worth_100) ?_
  refine fc (okt_iaload e1 hB dX2_worth_101) ?_
  refine fc (ok_iret hB dX2_worth_102) ?_
  refine fc (ok_iload hB dX2_worth_103) ?_
  refine fc (ok_sipush hB dX2_worth_105 (by decide)) ?_
  refine fc (ok_icmp_ne hB (t := 132) (by decide) dX2_worth_108) ?_
  refine fc (ok_aload_n hB dX2_worth_111) ?_
  refine fc (okt_getR e1 hB hT fl_X2_7 rfl af_2_1 at_2_1 (by decide) dX2_worth_112) ?_
  refine fc (ok_iload_n hB dX2_worth_115) ?_
  refine fc (ok_iconst hB dX2_worth_116) ?_
  refine fc (ok_isub hB dX2_worth_117) ?_
  refine fc (ok_iconst hB dX2_worth_118) ?_
  refine fc (ok_aload_n hB dX2_worth_119) ?_
  refine fc (okt_getR e1 hB hT fl_X2_7 rfl af_2_1 at_2_1 (by decide) dX2_worth_120) ?_
  refine fc (ok_iload_n hB dX2_worth_123) ?_
  refine fc (ok_iconst hB dX2_worth_124) ?_
  refine fc (ok_isub hB dX2_worth_125) ?_
  refine fc (okt_iaload e1 hB dX2_worth_126) ?_
  refine fc (ok_isub hB dX2_worth_127) ?_
  refine fc (okt_iastore e1 hB dX2_worth_128) ?_
  refine fc (ok_goto hB (t := 213) (by decide) dX2_worth_129) ?_
  refine fc (ok_iload hB dX2_worth_132) ?_
  refine fc (ok_sipush hB dX2_worth_134 (by decide)) ?_
  refine fc (ok_icmp_lt hB (t := 174) (by decide) dX2_worth_137) ?_
  refine fc (ok_iinc hB (by decide) dX2_worth_140) ?_
  refine fc (ok_aload_n hB dX2_worth_143) ?_
  refine fc (okt_getR e1 hB hT fl_X2_7 rfl af_2_1 at_2_1 (by decide) dX2_worth_144) ?_
  refine fc (ok_iload_n hB dX2_worth_147) ?_
  refine fc (okt_iaload e1 hB dX2_worth_148) ?_
  refine fc (ok_if_ne hB (t := 213) (by decide) dX2_worth_149) ?_
  refine fc (ok_iload hB dX2_worth_152) ?_
  refine fc (ok_sipush hB dX2_worth_154 (by decide)) ?_
  refine fc (ok_isub hB dX2_worth_157) ?_
  refine fc (ok_iload_n hB dX2_worth_158) ?_
  refine fc (ok_icmp_le hB (t := 213) (by decide) dX2_worth_159) ?_
  refine fc (ok_iload hB dX2_worth_162) ?_
  refine fc (ok_sipush hB dX2_worth_164 (by decide)) ?_
  refine fc (ok_isub hB dX2_worth_167) ?_
  refine fc (ok_iconst hB dX2_worth_168) ?_
  refine fc (ok_isub hB dX2_worth_169) ?_
  refine fc (ok_istore_n hB (by decide) dX2_worth_170) ?_
  refine fc (ok_goto hB (t := 213) (by decide) dX2_worth_171) ?_
  refine fc (ok_iload_n hB dX2_worth_174) ?_
  refine fc (ok_iconst hB dX2_worth_175) ?_
  refine fc (ok_icmp_lt hB (t := 213) (by decide) dX2_worth_176) ?_
  refine fc (ok_iinc hB (by decide) dX2_worth_179) ?_
  refine fc (ok_aload_n hB dX2_worth_182) ?_
  refine fc (okt_getR e1 hB hT fl_X2_7 rfl af_2_1 at_2_1 (by decide) dX2_worth_183) ?_
  refine fc (ok_iload_n hB dX2_worth_186) ?_
  refine fc (ok_iconst hB dX2_worth_187) ?_
  refine fc (ok_isub hB dX2_worth_188) ?_
  refine fc (ok_iload hB dX2_worth_189) ?_
  refine fc (ok_sipush hB dX2_worth_191 (by decide)) ?_
  refine fc (ok_isub hB dX2_worth_194) ?_
  refine fc (ok_aload_n hB dX2_worth_195) ?_
  refine fc (okt_getR e1 hB hT fl_X2_7 rfl af_2_1 at_2_1 (by decide) dX2_worth_196) ?_
  refine fc (ok_iload_n hB dX2_worth_199) ?_
  refine fc (ok_iconst hB dX2_worth_200) ?_
  refine fc (ok_isub hB dX2_worth_201) ?_
  refine fc (okt_iaload e1 hB dX2_worth_202) ?_
  refine fc (ok_aload_n hB dX2_worth_203) ?_
  refine fc (okt_getR e1 hB hT fl_X2_7 rfl af_2_1 at_2_1 (by decide) dX2_worth_204) ?_
  refine fc (ok_iload_n hB dX2_worth_207) ?_
  refine fc (okt_iaload e1 hB dX2_worth_208) ?_
  refine fc (ok_callS hB (e1 ▸ s_X2_apply) lk_X2_16 (by rw [e2]; decide) wd_826 dX2_worth_209) ?_
  refine fc (okt_iastore e1 hB dX2_worth_212) ?_
  refine fc (ok_iinc hB (by decide) dX2_worth_213) ?_
  refine fc (ok_goto hB (t := 4) (by decide) dX2_worth_216) ?_
  refine fc (ok_iconst hB dX2_worth_219) ?_
  refine fc (ok_iret hB dX2_worth_220) ?_
  exact fn
def inv_worth (σ : Mem) (a v : Int) (n pc : Nat) (ls st : List AV) (σ' : Mem) : Prop := pc = 4 ∧ st = [] ∧ ∃ (i : Int) (s : List Int) (g : Int → Int) (v4 v5 : AV), ls = [(18, a), (8, 27), (0, s.length), (0, i), v4, v5] ∧ σ' = setv σ (a + 2) g ∧ s.length ≤ 48 ∧ stk g s ∧ wx (σ (a + 1)) (σ (a + 1) (-1)) (σ 27) n i s = some v
def w_X2_worth : WP := fun av σ Q => ∃ (a : Int) (z : Int), av = [(18, a), (8, z)] ∧ (z = 27 ∧ (a = 100 ∨ a = 103 ∨ a = 106 ∨ a = 109) ∧ 0 ≤ σ (a + 1) (-1) ∧ σ (a + 1) (-1) ≤ 241 ∧ (wx (σ (a + 1)) (σ (a + 1) (-1)) (σ 27) 300 0 []).isSome = true ∧ (∀ g, Q (0, (wx (σ (a + 1)) (σ (a + 1) (-1)) (σ 27) 300 0 []).getD 0) (setv σ (a + 2) g)))
theorem w_X2_worth_e (a : Int) (z : Int) (σ : Mem) (Q : AV → Mem → Prop) : w_X2_worth [(18, a), (8, z)] σ Q = (z = 27 ∧ (a = 100 ∨ a = 103 ∨ a = 106 ∨ a = 109) ∧ 0 ≤ σ (a + 1) (-1) ∧ σ (a + 1) (-1) ≤ 241 ∧ (wx (σ (a + 1)) (σ (a + 1) (-1)) (σ 27) 300 0 []).isSome = true ∧ (∀ g, Q (0, (wx (σ (a + 1)) (σ (a + 1) (-1)) (σ 27) 300 0 []).getD 0) (setv σ (a + 2) g))) := by
  apply propext; constructor
  · rintro ⟨a', z', h9, hb9⟩; cases h9; exact hb9
  · intro hb9; exact ⟨a, z, rfl, hb9⟩

set_option maxRecDepth 100000 in
set_option maxHeartbeats 4000000 in
theorem s_X2_worth : ∀ av σ Q, w_X2_worth av σ Q → amCall 1 0 0 TT yX2_worth cX2_worth 6 (some .int) av σ Q := by
  rintro av σ Q ⟨a, z, rfl, rfl, ha, h0, h1, hs, h⟩
  obtain ⟨v, hv⟩ := Option.isSome_iff_exists.mp hs
  rw [hv, Option.getD_some] at h
  have e1 : ∀ τ, rfv TT τ a 0 = a + 1 := fun τ => (law_id ha τ).1
  have e2 : ∀ τ, rfv TT τ a 1 = a + 2 := fun τ => (law_id ha τ).2.1
  have e3 : ∀ τ, alen TT τ (a + 1) = τ (a + 1) (-1) := fun τ => (law_id ha τ).2.2.1
  have e4 : ∀ τ, alen TT τ (a + 2) = 48 := fun τ => (law_id ha τ).2.2.2
  have r1 : ∀ g, setv σ (a + 2) g (a + 1) = σ (a + 1) := fun g => setv_o _ _ (by omega)
  have r2 : ∀ g, setv σ (a + 2) g 27 = σ 27 := fun g => setv_o _ _ (by omega)
  have ha0 : 0 ≤ a := by omega
  have ha1 : 0 ≤ a + 1 := by omega
  have ha2 : 0 ≤ a + 2 := by omega
  refine am_m [4] (inv_worth σ a v) (own := RX2) (A := look a_X2_worth) (fun X e1 e2 hB => o_X2_worth e1 e2 hB) rfl (by decide +kernel) rfl rfl ?_ ⟨90, ?_⟩ (w := 6)
  · rintro n pc ls st σ' ⟨rfl, rfl, i, s, g, v4, v5, rfl, rfl, hlen, hk, hw⟩
    cases n with
    | zero => unfold wx at hw; cases hw
    | succ n =>
      refine ⟨90, ?_⟩
      simp only [↓reduceIte, vSw2_e, swP_n, swP_c, vI_e, vL_e, vNull_e, vIload_e, vLload_e, vAload_e, vIstore_e, vLstore_e, vAstore_e, vIinc_e, vIadd_e, vIsub_e, vImul_e, vIand_e, vIor_e, vIxor_e, vIshl_e, vIshr_e, vIushr_e, vIdiv_e, vIrem_e, vLadd_e, vLsub_e, vLmul_e, vLand_e, vLor_e, vLxor_e, vLdiv_e, vLrem_e, vLushr_e, vLshl_e, vLcmp_e, vIneg_e, vI2l_e, vL2i_e, vI2b_e, vI2c_e, vDup_e, vPop_e, vDup2_e, vGoto_e, vIcEq_e, vIfEq_e, vIcNe_e, vIfNe_e, vIcLt_e, vIfLt_e, vIcGe_e, vIfGe_e, vIcGt_e, vIfGt_e, vIcLe_e, vIfLe_e, vNonnull_e, vSw_e, vGetI_e, vGetL_e, vGetR_e, vPutI_e, vPutZ_e, vPutL_e, vPutR_e, vIald_e, vIald_s, vLald_e, vBald_e, vBald_s, vAald_e, vIast_e, vLast_e, vBast_e, vAast_e, vAlen_e8, vAlen_e9, vAlen_e10, vAlen_e11, vAlen_e5, vAlen_e3, vGets_e, vCompact_e, vLdcS_e, vIret_e, vZret_e, vCret_e, vBret_e, vLret_e, vVret_e, vAret_e, vCallM_e0, vCallMV_e0, vCallS_e0, vCallSV_e0, vCallM_e1, vCallMV_e1, vCallS_e1, vCallSV_e1, vCallM_e2, vCallMV_e2, vCallS_e2, vCallSV_e2, vCallM_e3, vCallMV_e3, vCallS_e3, vCallSV_e3, vCallM_e4, vCallMV_e4, vCallS_e4, vCallSV_e4, vCallM_e5, vCallMV_e5, vCallS_e5, vCallSV_e5, vCallM_e6, vCallMV_e6, vCallS_e6, vCallSV_e6, vCallM_e7, vCallMV_e7, vCallS_e7, vCallSV_e7, vBad_e, vStrVal_e, vStrCod_e, vForm_e, vCallT_e0, vCallT_e1, vCallT_e2, vCopy_e, rf_0_0, rf_0_1, rf_0_2, rf_0_3, rf_0_4, rf_0_7, rf_0_10, rf_0_11, rf_0_12, rf_0_13, rf_0_14, rf_0_15, rf_0_16, rf_1_0, rf_3_0, rf_3_1, rf_6_0, rf_6_1, rf_9_0, rf_9_1, rf_9_3, rf_13_0, rf_13_1, rf_13_2, rf_16_0, rf_16_1, rf_16_2, rf_16_3, rf_21_0, rf_21_1, rf_21_2, rf_21_3, rf_26_0, rf_26_1, rf_26_2, rf_26_3, rf_26_4, rf_26_5, rf_26_6, rf_31_0, rf_31_2, rf_31_5, rf_31_6, rf_36_0, rf_36_1, rf_36_2, rf_36_3, rf_39_0, rf_39_1, rf_39_2, rf_41_0, rf_41_1, rf_41_2, rf_41_3, rf_5000_1, rf_5000_2, rf_5000_3, rf_5000_4, rf_5000_5, rf_5000_15, rf_5000_16, rf_5000_18, rf_5000_19, rf_5000_20, rf_5000_21, rf_5000_22, rf_5000_23, rf_5000_24, rf_5000_25, rf_5000_26, rf_5000_27, rf_5000_36, rf_5000_37, rf_5000_40, rf_5000_41, rf_5000_42, rf_5000_43, rf_5000_44, rf_5000_45, rf_5000_47, rf_5000_52, rf_5000_54, rf_5000_55, rf_100_0, rf_100_1, rf_103_0, rf_103_1, rf_106_0, rf_106_1, rf_109_0, rf_109_1, al_2, al_4, al_5, al_7, al_8, al_10, al_11, al_12, al_14, al_15, al_17, al_18, al_19, al_20, al_22, al_23, al_24, al_25, al_27, al_28, al_29, al_30, al_32, al_33, al_34, al_35, al_37, al_38, al_40, al_42, al_5001, al_5002, al_5003, al_5004, al_5005, al_5006, al_5007, al_5008, al_5009, al_5010, al_5011, al_5012, al_5013, al_5014, al_5015, al_5016, al_5017, al_5018, al_5019, al_5020, al_5021, al_5022, al_5023, al_5024, al_5025, al_5026, al_9000, al_101, al_102, al_104, al_105, al_107, al_108, al_110, al_111, vcs_e, lg_c0, lg_cs, lg_nil, set_c0, set_cs, okst_0, okst_s, acok_n, acok_c, List.contains_nil, List.contains_cons, Bool.or_false, Bool.false_or, Bool.false_eq_true, if_false, if_true, ite_self, ne_eq, true_and, and_true, not_false_eq_true, not_true_eq_false, false_imp_iff, true_imp_iff, Nat.ble_eq, Bool.and_eq_true, reduceCtorEq, or_false, false_or, or_true, true_or, false_and, and_false, and_self, Int.reduceLE, Int.reduceAdd, Int.reduceSub, Int.reduceMul, Int.reduceNeg, Int.reduceLT, Int.reduceEq, Int.reduceNe, Nat.reduceBEq, Nat.reduceBNe, Nat.reduceEqDiff, amCmp_in, amCmp_lt, amCmp_le, amCmp_gt, amCmp_ge, amCmp_eq, amCmp_ne, Nat.reduceLeDiff, Nat.reduceSub, Bool.and_true, Bool.true_and, Bool.and_self, Bool.or_true, Bool.true_or, isRf_3, isRf_4, isRf_5, isRf_8, isRf_9, isRf_10, isRf_11, isRf_15, isRf_16, isRf_17, isRf_18, isRf_19, isRf_20, isRf_21, isRf_22, isRf_23, isRf_24, isRf_25, isRf_26, isRf_27, isRf_28, k_X2_worth_0, k_X2_worth_1, k_X2_worth_2, k_X2_worth_3, k_X2_worth_4, k_X2_worth_5, k_X2_worth_6, k_X2_worth_9, k_X2_worth_10, k_X2_worth_13, k_X2_worth_14, k_X2_worth_17, k_X2_worth_18, k_X2_worth_19, k_X2_worth_21, k_X2_worth_23, k_X2_worth_26, k_X2_worth_29, k_X2_worth_31, k_X2_worth_34, k_X2_worth_35, k_X2_worth_37, k_X2_worth_38, k_X2_worth_39, k_X2_worth_42, k_X2_worth_43, k_X2_worth_46, k_X2_worth_48, k_X2_worth_49, k_X2_worth_50, k_X2_worth_53, k_X2_worth_54, k_X2_worth_57, k_X2_worth_58, k_X2_worth_60, k_X2_worth_63, k_X2_worth_65, k_X2_worth_68, k_X2_worth_69, k_X2_worth_71, k_X2_worth_72, k_X2_worth_73, k_X2_worth_76, k_X2_worth_79, k_X2_worth_80, k_X2_worth_81, k_X2_worth_84, k_X2_worth_85, k_X2_worth_86, k_X2_worth_88, k_X2_worth_91, k_X2_worth_94, k_X2_worth_95, k_X2_worth_98, k_X2_worth_99, k_X2_worth_100, k_X2_worth_101, k_X2_worth_102, k_X2_worth_103, k_X2_worth_105, k_X2_worth_108, k_X2_worth_111, k_X2_worth_112, k_X2_worth_115, k_X2_worth_116, k_X2_worth_117, k_X2_worth_118, k_X2_worth_119, k_X2_worth_120, k_X2_worth_123, k_X2_worth_124, k_X2_worth_125, k_X2_worth_126, k_X2_worth_127, k_X2_worth_128, k_X2_worth_129, k_X2_worth_132, k_X2_worth_134, k_X2_worth_137, k_X2_worth_140, k_X2_worth_143, k_X2_worth_144, k_X2_worth_147, k_X2_worth_148, k_X2_worth_149, k_X2_worth_152, k_X2_worth_154, k_X2_worth_157, k_X2_worth_158, k_X2_worth_159, k_X2_worth_162, k_X2_worth_164, k_X2_worth_167, k_X2_worth_168, k_X2_worth_169, k_X2_worth_170, k_X2_worth_171, k_X2_worth_174, k_X2_worth_175, k_X2_worth_176, k_X2_worth_179, k_X2_worth_182, k_X2_worth_183, k_X2_worth_186, k_X2_worth_187, k_X2_worth_188, k_X2_worth_189, k_X2_worth_191, k_X2_worth_194, k_X2_worth_195, k_X2_worth_196, k_X2_worth_199, k_X2_worth_200, k_X2_worth_201, k_X2_worth_202, k_X2_worth_203, k_X2_worth_204, k_X2_worth_207, k_X2_worth_208, k_X2_worth_209, k_X2_worth_212, k_X2_worth_213, k_X2_worth_216, k_X2_worth_219, k_X2_worth_220, w_X2_apply_e, e1, e2, e3, e4, r1, r2, setv_s, up_setv, ha0, ha1, ha2]
      unfold wx at hw
      by_cases c1 : i < 0 ∨ σ (a + 1) (-1) < i
      · rw [if_pos c1] at hw; cases hw
      rw [if_neg c1] at hw
      by_cases c2 : i = σ (a + 1) (-1)
      · rw [if_pos c2] at hw
        cases hw
        repeat' (first | apply And.intro | intro _)
        all_goals first | omega | exact h _
      rw [if_neg c2] at hw
      generalize hci : σ (a + 1) i = ci at *
      by_cases c3 : 0 ≤ ci ∧ ci < 10000
      · rw [if_pos c3] at hw
        split at hw
        case isFalse => cases hw
        rename_i c4
        repeat' (first | apply And.intro | intro _)
        all_goals first | omega | exact ⟨n, by omega, rfl, rfl, i + 1, ci :: s, _, _, _, rfl, rfl, by (try simp only [List.length_cons]); (try simp only [List.length_cons] at hlen); omega, ⟨upf_s _ _ _, stk_upf (by omega) hk⟩, hw⟩
      rw [if_neg c3] at hw
      by_cases c4 : 10000 ≤ ci ∧ ci < 10006
      · rw [if_pos c4] at hw
        split at hw
        case isFalse => cases hw
        repeat' (first | apply And.intro | intro _)
        all_goals first | omega | exact ⟨n, by omega, rfl, rfl, i + 1, _ :: s, _, _, _, rfl, rfl, by (try simp only [List.length_cons]); (try simp only [List.length_cons] at hlen); omega, ⟨upf_s _ _ _, stk_upf (by omega) hk⟩, hw⟩
      rw [if_neg c4] at hw
      cases s with
      | nil => cases hw
      | cons b s =>
        have hk1 := hk.1
        have hlen' : s.length + 1 ≤ 48 := hlen
        have hk2 := hk.2
        have hl : ((b :: s).length : Int) = s.length + 1 := by simp
        have hl1 : (s.length : Int) + 1 - 1 = s.length := by omega
        have hl2 : (s.length : Int) + 1 + -1 = s.length := by omega
        simp only [hl, hl1, hl2, hk1] at hw ⊢
        by_cases c5 : ci = 20059
        · rw [if_pos c5] at hw
          cases hw
          repeat' (first | apply And.intro | intro _)
          all_goals first | omega | exact h _
        rw [if_neg c5] at hw
        by_cases c6 : ci = 20033
        · rw [if_pos c6] at hw
          repeat' (first | apply And.intro | intro _)
          all_goals first | omega | exact ⟨n, by omega, rfl, rfl, i + 1, (1 - b) :: s, _, _, _, rfl, rfl, by (try simp only [List.length_cons]); (try simp only [List.length_cons] at hlen); omega, ⟨upf_s _ _ _, stk_upf (by omega) hk2⟩, hw⟩
        rw [if_neg c6] at hw
        by_cases c7 : 30000 ≤ ci ∧ ci ≤ 30241
        · rw [if_pos c7] at hw
          by_cases c8 : bnd b
          · rw [if_neg (fun q => q c8)] at hw
            by_cases c9 : b = 0
            · rw [if_pos c9] at hw
              split at hw
              case isFalse => cases hw
              repeat' (first | apply And.intro | intro _)
              all_goals first | omega | exact ⟨n, by omega, rfl, rfl, ci - 30000 - 1 + 1, s, _, _, _, rfl, rfl, by (try simp only [List.length_cons]); (try simp only [List.length_cons] at hlen); omega, hk2, by rw [show ci - 30000 - 1 + 1 = ci - 30000 by omega]; exact hw⟩
            · rw [if_neg c9] at hw
              repeat' (first | apply And.intro | intro _)
              all_goals first | omega | exact ⟨n, by omega, rfl, rfl, i + 1, s, _, _, _, rfl, rfl, by (try simp only [List.length_cons]); (try simp only [List.length_cons] at hlen); omega, hk2, hw⟩
          · rw [if_pos c8] at hw; cases hw
        rw [if_neg c7] at hw
        split at hw
        case isFalse => cases hw
        rename_i c8
        cases s with
        | nil => cases hw
        | cons b2 s =>
          have hk3 := hk2.1
          have hlen'' : s.length + 1 + 1 ≤ 48 := hlen
          have hk4 := hk2.2
          have hm1 : ((b2 :: s).length : Int) = s.length + 1 := by simp
          have hm2 : (s.length : Int) + 1 - 1 = s.length := by omega
          rw [hm1] at hk1 hl1 hl2
          simp only [hm1, hm2, hk1, hk3, hl1] at hw ⊢
          split at hw
          case isFalse => cases hw
          rename_i c9
          repeat' (first | apply And.intro | intro _)
          all_goals first | omega | exact ⟨n, by omega, rfl, rfl, i + 1, _ :: s, _, _, _, rfl, rfl, by (try simp only [List.length_cons]); (try simp only [List.length_cons] at hlen); omega, ⟨upf_s _ _ _, stk_upf (by omega) hk4⟩, hw⟩
  · change vcs _ _ _ _ 90 0 [(18, a), (8, 27), (6, 0), (6, 0), (6, 0), (6, 0)] [] σ
    simp only [↓reduceIte, vI_e, vL_e, vNull_e, vIload_e, vLload_e, vAload_e, vIstore_e, vLstore_e, vAstore_e, vIinc_e, vIadd_e, vIsub_e, vImul_e, vIand_e, vIor_e, vIxor_e, vIshl_e, vIshr_e, vIushr_e, vIdiv_e, vIrem_e, vLadd_e, vLsub_e, vLmul_e, vLand_e, vLor_e, vLxor_e, vLdiv_e, vLrem_e, vLushr_e, vLshl_e, vLcmp_e, vIneg_e, vI2l_e, vL2i_e, vI2b_e, vI2c_e, vDup_e, vPop_e, vDup2_e, vGoto_e, vIcEq_e, vIfEq_e, vIcNe_e, vIfNe_e, vIcLt_e, vIfLt_e, vIcGe_e, vIfGe_e, vIcGt_e, vIfGt_e, vIcLe_e, vIfLe_e, vNonnull_e, vSw_e, vGetI_e, vGetL_e, vGetR_e, vPutI_e, vPutZ_e, vPutL_e, vPutR_e, vIald_e, vIald_s, vLald_e, vBald_e, vBald_s, vAald_e, vIast_e, vLast_e, vBast_e, vAast_e, vAlen_e8, vAlen_e9, vAlen_e10, vAlen_e11, vAlen_e5, vAlen_e3, vGets_e, vCompact_e, vLdcS_e, vIret_e, vZret_e, vCret_e, vBret_e, vLret_e, vVret_e, vAret_e, vCallM_e0, vCallMV_e0, vCallS_e0, vCallSV_e0, vCallM_e1, vCallMV_e1, vCallS_e1, vCallSV_e1, vCallM_e2, vCallMV_e2, vCallS_e2, vCallSV_e2, vCallM_e3, vCallMV_e3, vCallS_e3, vCallSV_e3, vCallM_e4, vCallMV_e4, vCallS_e4, vCallSV_e4, vCallM_e5, vCallMV_e5, vCallS_e5, vCallSV_e5, vCallM_e6, vCallMV_e6, vCallS_e6, vCallSV_e6, vCallM_e7, vCallMV_e7, vCallS_e7, vCallSV_e7, vBad_e, vStrVal_e, vStrCod_e, vForm_e, vCallT_e0, vCallT_e1, vCallT_e2, vCopy_e, rf_0_0, rf_0_1, rf_0_2, rf_0_3, rf_0_4, rf_0_7, rf_0_10, rf_0_11, rf_0_12, rf_0_13, rf_0_14, rf_0_15, rf_0_16, rf_1_0, rf_3_0, rf_3_1, rf_6_0, rf_6_1, rf_9_0, rf_9_1, rf_9_3, rf_13_0, rf_13_1, rf_13_2, rf_16_0, rf_16_1, rf_16_2, rf_16_3, rf_21_0, rf_21_1, rf_21_2, rf_21_3, rf_26_0, rf_26_1, rf_26_2, rf_26_3, rf_26_4, rf_26_5, rf_26_6, rf_31_0, rf_31_2, rf_31_5, rf_31_6, rf_36_0, rf_36_1, rf_36_2, rf_36_3, rf_39_0, rf_39_1, rf_39_2, rf_41_0, rf_41_1, rf_41_2, rf_41_3, rf_5000_1, rf_5000_2, rf_5000_3, rf_5000_4, rf_5000_5, rf_5000_15, rf_5000_16, rf_5000_18, rf_5000_19, rf_5000_20, rf_5000_21, rf_5000_22, rf_5000_23, rf_5000_24, rf_5000_25, rf_5000_26, rf_5000_27, rf_5000_36, rf_5000_37, rf_5000_40, rf_5000_41, rf_5000_42, rf_5000_43, rf_5000_44, rf_5000_45, rf_5000_47, rf_5000_52, rf_5000_54, rf_5000_55, rf_100_0, rf_100_1, rf_103_0, rf_103_1, rf_106_0, rf_106_1, rf_109_0, rf_109_1, al_2, al_4, al_5, al_7, al_8, al_10, al_11, al_12, al_14, al_15, al_17, al_18, al_19, al_20, al_22, al_23, al_24, al_25, al_27, al_28, al_29, al_30, al_32, al_33, al_34, al_35, al_37, al_38, al_40, al_42, al_5001, al_5002, al_5003, al_5004, al_5005, al_5006, al_5007, al_5008, al_5009, al_5010, al_5011, al_5012, al_5013, al_5014, al_5015, al_5016, al_5017, al_5018, al_5019, al_5020, al_5021, al_5022, al_5023, al_5024, al_5025, al_5026, al_9000, al_101, al_102, al_104, al_105, al_107, al_108, al_110, al_111, vcs_e, lg_c0, lg_cs, lg_nil, set_c0, set_cs, okst_0, okst_s, acok_n, acok_c, List.contains_nil, List.contains_cons, Bool.or_false, Bool.false_or, Bool.false_eq_true, if_false, if_true, ite_self, ne_eq, true_and, and_true, not_false_eq_true, not_true_eq_false, false_imp_iff, true_imp_iff, Nat.ble_eq, Bool.and_eq_true, reduceCtorEq, or_false, false_or, or_true, true_or, false_and, and_false, and_self, Int.reduceLE, Int.reduceAdd, Int.reduceSub, Int.reduceMul, Int.reduceNeg, Int.reduceLT, Int.reduceEq, Int.reduceNe, Nat.reduceBEq, Nat.reduceBNe, Nat.reduceEqDiff, amCmp_in, amCmp_lt, amCmp_le, amCmp_gt, amCmp_ge, amCmp_eq, amCmp_ne, Nat.reduceLeDiff, Nat.reduceSub, Bool.and_true, Bool.true_and, Bool.and_self, Bool.or_true, Bool.true_or, isRf_3, isRf_4, isRf_5, isRf_8, isRf_9, isRf_10, isRf_11, isRf_15, isRf_16, isRf_17, isRf_18, isRf_19, isRf_20, isRf_21, isRf_22, isRf_23, isRf_24, isRf_25, isRf_26, isRf_27, isRf_28, k_X2_worth_0, k_X2_worth_1, k_X2_worth_2, k_X2_worth_3, k_X2_worth_4, k_X2_worth_5, k_X2_worth_6, k_X2_worth_9, k_X2_worth_10, k_X2_worth_13, k_X2_worth_14, k_X2_worth_17, k_X2_worth_18, k_X2_worth_19, k_X2_worth_21, k_X2_worth_23, k_X2_worth_26, k_X2_worth_29, k_X2_worth_31, k_X2_worth_34, k_X2_worth_35, k_X2_worth_37, k_X2_worth_38, k_X2_worth_39, k_X2_worth_42, k_X2_worth_43, k_X2_worth_46, k_X2_worth_48, k_X2_worth_49, k_X2_worth_50, k_X2_worth_53, k_X2_worth_54, k_X2_worth_57, k_X2_worth_58, k_X2_worth_60, k_X2_worth_63, k_X2_worth_65, k_X2_worth_68, k_X2_worth_69, k_X2_worth_71, k_X2_worth_72, k_X2_worth_73, k_X2_worth_76, k_X2_worth_79, k_X2_worth_80, k_X2_worth_81, k_X2_worth_84, k_X2_worth_85, k_X2_worth_86, k_X2_worth_88, k_X2_worth_91, k_X2_worth_94, k_X2_worth_95, k_X2_worth_98, k_X2_worth_99, k_X2_worth_100, k_X2_worth_101, k_X2_worth_102, k_X2_worth_103, k_X2_worth_105, k_X2_worth_108, k_X2_worth_111, k_X2_worth_112, k_X2_worth_115, k_X2_worth_116, k_X2_worth_117, k_X2_worth_118, k_X2_worth_119, k_X2_worth_120, k_X2_worth_123, k_X2_worth_124, k_X2_worth_125, k_X2_worth_126, k_X2_worth_127, k_X2_worth_128, k_X2_worth_129, k_X2_worth_132, k_X2_worth_134, k_X2_worth_137, k_X2_worth_140, k_X2_worth_143, k_X2_worth_144, k_X2_worth_147, k_X2_worth_148, k_X2_worth_149, k_X2_worth_152, k_X2_worth_154, k_X2_worth_157, k_X2_worth_158, k_X2_worth_159, k_X2_worth_162, k_X2_worth_164, k_X2_worth_167, k_X2_worth_168, k_X2_worth_169, k_X2_worth_170, k_X2_worth_171, k_X2_worth_174, k_X2_worth_175, k_X2_worth_176, k_X2_worth_179, k_X2_worth_182, k_X2_worth_183, k_X2_worth_186, k_X2_worth_187, k_X2_worth_188, k_X2_worth_189, k_X2_worth_191, k_X2_worth_194, k_X2_worth_195, k_X2_worth_196, k_X2_worth_199, k_X2_worth_200, k_X2_worth_201, k_X2_worth_202, k_X2_worth_203, k_X2_worth_204, k_X2_worth_207, k_X2_worth_208, k_X2_worth_209, k_X2_worth_212, k_X2_worth_213, k_X2_worth_216, k_X2_worth_219, k_X2_worth_220]
    exact ⟨300, rfl, rfl, 0, [], σ (a + 2), _, _, rfl, (setv_id _ _).symm, Nat.zero_le _, trivial, hv⟩
