/-! Match: how it is prepared -/
def gvF (σ : Mem) (o r p c t x y : Int) : Int := (if oaM (gmv σ 16 t p) (pval σ 6 0 0 0) (hbits (sXY (σ 18) o r x y) t (pcnt σ 6 2).toNat) (pval σ 6 1 p 3).toNat c = -1 then flM (gmv σ 16 t p) (pval σ 6 0 0 0) (hbits (sXY (σ 18) o r x y) t (pcnt σ 6 2).toNat) (pval σ 6 1 p 3).toNat c else 0) - if σ 18 c = t then 0 else σ 16 5
/-- the gains of SITTERS below n -/
def gnOk (σ : Mem) (g : Int → Int) (o r p n : Int) : Prop := ∀ t : Int, 0 ≤ t → t < n → g (4 * t) = gvF σ o r p o t t (-1) ∧ g (4 * t + 1) = gvF σ o r p o t t t ∧ g (4 * t + 2) = gvF σ o r p r t (-1) t ∧ g (4 * t + 3) = gvF σ o r p r t t t
theorem SO_set40 {m τ : Mem} {a t p : Int} (h : SO m τ a t p) (hs : stOk m a) (j v : Int) : SO (setv m 40 (upf (m 40) j v)) (up τ 40 j v) a t p := by
  obtain ⟨⟨h1, h1'⟩, h2, h3, h4, h5⟩ := h
  have hw := SW_set (σ := m) (b := 40) (Or.inr (Or.inr rfl)) (upf (m 40) j v)
  obtain ⟨ra, ra1, -, -, -⟩ := SW_a hw hs.1
  refine ⟨⟨fun b g1 g2 g3 g4 g5 g6 g7 g8 g9 => ?_, ?_⟩, ?_, ?_, ?_, fun i n k a1 a2 a3 a4 a5 a6 => ?_⟩
  · by_cases e : b = 40
    · subst e
      rw [setv_s, up_row, h1 40 g1 g2 g3 g4 g5 g6 g7 g8 g9]
    · rw [setv_o _ _ e, up_na _ e]; exact h1 b g1 g2 g3 g4 g5 g6 g7 g8 g9
  · rw [setv_o _ _ (by decide), up_na _ (by decide)]; exact h1'
  · rw [up_na _ (by decide)]; exact h2
  · rw [up_na _ (by decide)]; exact h3
  · rw [up_na _ (by decide)]; exact h4
  · rw [up_na _ (by decide), SW_pval hw, SW_pval hw, ra, ra1, SW_rkV hw hs.2.2.1]
    exact h5 i n k a1 a2 a3 a4 a5 a6

theorem wd_1105 : Cond.methodLink RX4 29 yX0_holders ∈ TBL := tb_tab (List.mem_of_getElem? (i := 1105) (by decide +kernel)) rfl
theorem lk_X4_29 : amLk RX4 29 yX0_holders cX0_holders 5 (some .int) 2 := ⟨wd_1105, wd_6, wd_788, by decide +kernel, by decide +kernel, by decide⟩
theorem wd_1106 : Cond.methodLink RX4 35 yX9_openSitter ∈ TBL := tb_tab (List.mem_of_getElem? (i := 1106) (by decide +kernel)) rfl
theorem lk_X4_35 : amLk RX4 35 yX9_openSitter cX9_openSitter 4 (none) 3 := ⟨wd_1106, wd_7, wd_783, by decide +kernel, by decide +kernel, by decide⟩
theorem wd_1107 : Cond.methodLink RX4 41 yX9_playGroup ∈ TBL := tb_tab (List.mem_of_getElem? (i := 1107) (by decide +kernel)) rfl
theorem lk_X4_41 : amLk RX4 41 yX9_playGroup cX9_playGroup 10 (none) 1 := ⟨wd_1107, wd_7, wd_792, by decide +kernel, by decide +kernel, by decide⟩
theorem wd_1108 : Cond.methodLink RX4 45 yX4_has ∈ TBL := tb_tab (List.mem_of_getElem? (i := 1108) (by decide +kernel)) rfl
theorem wd_1111 : Cond.code yX4_has cX4_has 5 (some .int) ∈ TBL := tb_tab (List.mem_of_getElem? (i := 1111) (by decide +kernel)) rfl
theorem lk_X4_45 : amLk RX4 45 yX4_has cX4_has 5 (some .int) 3 := ⟨wd_1108, wd_10, wd_1111, by decide +kernel, by decide +kernel, by decide⟩
theorem wd_1110 : Cond.instanceMethod yX4_has ∈ TBL := tb_tab (List.mem_of_getElem? (i := 1110) (by decide +kernel)) rfl
theorem sl_X4_has : Cond.selects RX4 yX4_has yX4_has ∈ TBL := tb_sel (List.mem_of_getElem? (i := 38) (by decide +kernel)) rfl
def a_X4_prepare : AC := [(0, vI 1 1), (1, vIload 2 2), (2, vIshl 3), (3, vI 1 4), (4, vIload 3 5), (5, vIshl 6), (6, vIor 7), (7, vIstore 5 9), (9, vI 0 10), (10, vIstore 6 12), (12, vIload 6 14), (14, vAload 0 15), (15, vGetR TT 20 0 22 18), (18, vI 3 19), (19, vCallM w_X6_many 22 1 22), (22, vIcGe 183 25), (25, vIload 6 27), (27, vI 6 29), (29, vIcGe 183 32), (32, vAload 1 33), (33, vIload 6 35), (35, vAload 0 36), (36, vGetR TT 20 0 22 39), (39, vI 2 40), (40, vCallM w_X6_many 22 1 43), (43, vCallM w_X0_holders 16 2 46), (46, vIload 5 48), (48, vI (-1) 49), (49, vIxor 50), (50, vIand 51), (51, vIstore 7 53), (53, vAload 0 54), (54, vGetR TT 20 1 25 57), (57, vAload 1 58), (58, vIload 4 60), (60, vIload 6 62), (62, vCallMV w_X9_openSitter 25 3 65), (65, vAload 0 66), (66, vGetR TT 20 1 25 69), (69, vIload 7 71), (71, vI 1 72), (72, vIload 2 73), (73, vIshl 74), (74, vIor 75), (75, vCallMV w_X9_playGroup 25 1 78), (78, vAload 0 79), (79, vGetR TT 20 2 8 82), (82, vI 4 83), (83, vIload 6 85), (85, vImul 86), (86, vAload 0 87), (87, vAload 1 88), (88, vIload 2 89), (89, vIload 6 91), (91, vCallM w_X4_has 20 3 94), (94, vIast TT 95), (95, vAload 0 96), (96, vGetR TT 20 1 25 99), (99, vIload 7 101), (101, vI 1 102), (102, vIload 3 103), (103, vIshl 104), (104, vIor 105), (105, vCallMV w_X9_playGroup 25 1 108), (108, vAload 0 109), (109, vGetR TT 20 2 8 112), (112, vI 4 113), (113, vIload 6 115), (115, vImul 116), (116, vI 2 117), (117, vIadd 118), (118, vAload 0 119), (119, vAload 1 120), (120, vIload 3 121), (121, vIload 6 123), (123, vCallM w_X4_has 20 3 126), (126, vIast TT 127), (127, vAload 0 128), (128, vGetR TT 20 1 25 131), (131, vIload 7 133), (133, vIload 5 135), (135, vIor 136), (136, vCallMV w_X9_playGroup 25 1 139), (139, vAload 0 140), (140, vGetR TT 20 2 8 143), (143, vI 4 144), (144, vIload 6 146), (146, vImul 147), (147, vI 1 148), (148, vIadd 149), (149, vAload 0 150), (150, vAload 1 151), (151, vIload 2 152), (152, vIload 6 154), (154, vCallM w_X4_has 20 3 157), (157, vIast TT 158), (158, vAload 0 159), (159, vGetR TT 20 2 8 162), (162, vI 4 163), (163, vIload 6 165), (165, vImul 166), (166, vI 3 167), (167, vIadd 168), (168, vAload 0 169), (169, vAload 1 170), (170, vIload 3 171), (171, vIload 6 173), (173, vCallM w_X4_has 20 3 176), (176, vIast TT 177), (177, vIinc 6 1 180), (180, vGoto 12), (183, vVret)]
theorem k_X4_prepare_0 : look a_X4_prepare 0 = vI 1 1 := rfl
theorem k_X4_prepare_1 : look a_X4_prepare 1 = vIload 2 2 := rfl
theorem k_X4_prepare_2 : look a_X4_prepare 2 = vIshl 3 := rfl
theorem k_X4_prepare_3 : look a_X4_prepare 3 = vI 1 4 := rfl
theorem k_X4_prepare_4 : look a_X4_prepare 4 = vIload 3 5 := rfl
theorem k_X4_prepare_5 : look a_X4_prepare 5 = vIshl 6 := rfl
theorem k_X4_prepare_6 : look a_X4_prepare 6 = vIor 7 := rfl
theorem k_X4_prepare_7 : look a_X4_prepare 7 = vIstore 5 9 := rfl
theorem k_X4_prepare_9 : look a_X4_prepare 9 = vI 0 10 := rfl
theorem k_X4_prepare_10 : look a_X4_prepare 10 = vIstore 6 12 := rfl
theorem k_X4_prepare_12 : look a_X4_prepare 12 = vIload 6 14 := rfl
theorem k_X4_prepare_14 : look a_X4_prepare 14 = vAload 0 15 := rfl
theorem k_X4_prepare_15 : look a_X4_prepare 15 = vGetR TT 20 0 22 18 := rfl
theorem k_X4_prepare_18 : look a_X4_prepare 18 = vI 3 19 := rfl
theorem k_X4_prepare_19 : look a_X4_prepare 19 = vCallM w_X6_many 22 1 22 := rfl
theorem k_X4_prepare_22 : look a_X4_prepare 22 = vIcGe 183 25 := rfl
theorem k_X4_prepare_25 : look a_X4_prepare 25 = vIload 6 27 := rfl
theorem k_X4_prepare_27 : look a_X4_prepare 27 = vI 6 29 := rfl
theorem k_X4_prepare_29 : look a_X4_prepare 29 = vIcGe 183 32 := rfl
theorem k_X4_prepare_32 : look a_X4_prepare 32 = vAload 1 33 := rfl
theorem k_X4_prepare_33 : look a_X4_prepare 33 = vIload 6 35 := rfl
theorem k_X4_prepare_35 : look a_X4_prepare 35 = vAload 0 36 := rfl
theorem k_X4_prepare_36 : look a_X4_prepare 36 = vGetR TT 20 0 22 39 := rfl
theorem k_X4_prepare_39 : look a_X4_prepare 39 = vI 2 40 := rfl
theorem k_X4_prepare_40 : look a_X4_prepare 40 = vCallM w_X6_many 22 1 43 := rfl
theorem k_X4_prepare_43 : look a_X4_prepare 43 = vCallM w_X0_holders 16 2 46 := rfl
theorem k_X4_prepare_46 : look a_X4_prepare 46 = vIload 5 48 := rfl
theorem k_X4_prepare_48 : look a_X4_prepare 48 = vI (-1) 49 := rfl
theorem k_X4_prepare_49 : look a_X4_prepare 49 = vIxor 50 := rfl
theorem k_X4_prepare_50 : look a_X4_prepare 50 = vIand 51 := rfl
theorem k_X4_prepare_51 : look a_X4_prepare 51 = vIstore 7 53 := rfl
theorem k_X4_prepare_53 : look a_X4_prepare 53 = vAload 0 54 := rfl
theorem k_X4_prepare_54 : look a_X4_prepare 54 = vGetR TT 20 1 25 57 := rfl
theorem k_X4_prepare_57 : look a_X4_prepare 57 = vAload 1 58 := rfl
theorem k_X4_prepare_58 : look a_X4_prepare 58 = vIload 4 60 := rfl
theorem k_X4_prepare_60 : look a_X4_prepare 60 = vIload 6 62 := rfl
theorem k_X4_prepare_62 : look a_X4_prepare 62 = vCallMV w_X9_openSitter 25 3 65 := rfl
theorem k_X4_prepare_65 : look a_X4_prepare 65 = vAload 0 66 := rfl
theorem k_X4_prepare_66 : look a_X4_prepare 66 = vGetR TT 20 1 25 69 := rfl
theorem k_X4_prepare_69 : look a_X4_prepare 69 = vIload 7 71 := rfl
theorem k_X4_prepare_71 : look a_X4_prepare 71 = vI 1 72 := rfl
theorem k_X4_prepare_72 : look a_X4_prepare 72 = vIload 2 73 := rfl
theorem k_X4_prepare_73 : look a_X4_prepare 73 = vIshl 74 := rfl
theorem k_X4_prepare_74 : look a_X4_prepare 74 = vIor 75 := rfl
theorem k_X4_prepare_75 : look a_X4_prepare 75 = vCallMV w_X9_playGroup 25 1 78 := rfl
theorem k_X4_prepare_78 : look a_X4_prepare 78 = vAload 0 79 := rfl
theorem k_X4_prepare_79 : look a_X4_prepare 79 = vGetR TT 20 2 8 82 := rfl
theorem k_X4_prepare_82 : look a_X4_prepare 82 = vI 4 83 := rfl
theorem k_X4_prepare_83 : look a_X4_prepare 83 = vIload 6 85 := rfl
theorem k_X4_prepare_85 : look a_X4_prepare 85 = vImul 86 := rfl
theorem k_X4_prepare_86 : look a_X4_prepare 86 = vAload 0 87 := rfl
theorem k_X4_prepare_87 : look a_X4_prepare 87 = vAload 1 88 := rfl
theorem k_X4_prepare_88 : look a_X4_prepare 88 = vIload 2 89 := rfl
theorem k_X4_prepare_89 : look a_X4_prepare 89 = vIload 6 91 := rfl
theorem k_X4_prepare_91 : look a_X4_prepare 91 = vCallM w_X4_has 20 3 94 := rfl
theorem k_X4_prepare_94 : look a_X4_prepare 94 = vIast TT 95 := rfl
theorem k_X4_prepare_95 : look a_X4_prepare 95 = vAload 0 96 := rfl
theorem k_X4_prepare_96 : look a_X4_prepare 96 = vGetR TT 20 1 25 99 := rfl
theorem k_X4_prepare_99 : look a_X4_prepare 99 = vIload 7 101 := rfl
theorem k_X4_prepare_101 : look a_X4_prepare 101 = vI 1 102 := rfl
theorem k_X4_prepare_102 : look a_X4_prepare 102 = vIload 3 103 := rfl
theorem k_X4_prepare_103 : look a_X4_prepare 103 = vIshl 104 := rfl
theorem k_X4_prepare_104 : look a_X4_prepare 104 = vIor 105 := rfl
theorem k_X4_prepare_105 : look a_X4_prepare 105 = vCallMV w_X9_playGroup 25 1 108 := rfl
theorem k_X4_prepare_108 : look a_X4_prepare 108 = vAload 0 109 := rfl
theorem k_X4_prepare_109 : look a_X4_prepare 109 = vGetR TT 20 2 8 112 := rfl
theorem k_X4_prepare_112 : look a_X4_prepare 112 = vI 4 113 := rfl
theorem k_X4_prepare_113 : look a_X4_prepare 113 = vIload 6 115 := rfl
theorem k_X4_prepare_115 : look a_X4_prepare 115 = vImul 116 := rfl
theorem k_X4_prepare_116 : look a_X4_prepare 116 = vI 2 117 := rfl
theorem k_X4_prepare_117 : look a_X4_prepare 117 = vIadd 118 := rfl
theorem k_X4_prepare_118 : look a_X4_prepare 118 = vAload 0 119 := rfl
theorem k_X4_prepare_119 : look a_X4_prepare 119 = vAload 1 120 := rfl
theorem k_X4_prepare_120 : look a_X4_prepare 120 = vIload 3 121 := rfl
theorem k_X4_prepare_121 : look a_X4_prepare 121 = vIload 6 123 := rfl
theorem k_X4_prepare_123 : look a_X4_prepare 123 = vCallM w_X4_has 20 3 126 := rfl
theorem k_X4_prepare_126 : look a_X4_prepare 126 = vIast TT 127 := rfl
theorem k_X4_prepare_127 : look a_X4_prepare 127 = vAload 0 128 := rfl
theorem k_X4_prepare_128 : look a_X4_prepare 128 = vGetR TT 20 1 25 131 := rfl
theorem k_X4_prepare_131 : look a_X4_prepare 131 = vIload 7 133 := rfl
theorem k_X4_prepare_133 : look a_X4_prepare 133 = vIload 5 135 := rfl
theorem k_X4_prepare_135 : look a_X4_prepare 135 = vIor 136 := rfl
theorem k_X4_prepare_136 : look a_X4_prepare 136 = vCallMV w_X9_playGroup 25 1 139 := rfl
theorem k_X4_prepare_139 : look a_X4_prepare 139 = vAload 0 140 := rfl
theorem k_X4_prepare_140 : look a_X4_prepare 140 = vGetR TT 20 2 8 143 := rfl
theorem k_X4_prepare_143 : look a_X4_prepare 143 = vI 4 144 := rfl
theorem k_X4_prepare_144 : look a_X4_prepare 144 = vIload 6 146 := rfl
theorem k_X4_prepare_146 : look a_X4_prepare 146 = vImul 147 := rfl
theorem k_X4_prepare_147 : look a_X4_prepare 147 = vI 1 148 := rfl
theorem k_X4_prepare_148 : look a_X4_prepare 148 = vIadd 149 := rfl
theorem k_X4_prepare_149 : look a_X4_prepare 149 = vAload 0 150 := rfl
theorem k_X4_prepare_150 : look a_X4_prepare 150 = vAload 1 151 := rfl
theorem k_X4_prepare_151 : look a_X4_prepare 151 = vIload 2 152 := rfl
theorem k_X4_prepare_152 : look a_X4_prepare 152 = vIload 6 154 := rfl
theorem k_X4_prepare_154 : look a_X4_prepare 154 = vCallM w_X4_has 20 3 157 := rfl
theorem k_X4_prepare_157 : look a_X4_prepare 157 = vIast TT 158 := rfl
theorem k_X4_prepare_158 : look a_X4_prepare 158 = vAload 0 159 := rfl
theorem k_X4_prepare_159 : look a_X4_prepare 159 = vGetR TT 20 2 8 162 := rfl
theorem k_X4_prepare_162 : look a_X4_prepare 162 = vI 4 163 := rfl
theorem k_X4_prepare_163 : look a_X4_prepare 163 = vIload 6 165 := rfl
theorem k_X4_prepare_165 : look a_X4_prepare 165 = vImul 166 := rfl
theorem k_X4_prepare_166 : look a_X4_prepare 166 = vI 3 167 := rfl
theorem k_X4_prepare_167 : look a_X4_prepare 167 = vIadd 168 := rfl
theorem k_X4_prepare_168 : look a_X4_prepare 168 = vAload 0 169 := rfl
theorem k_X4_prepare_169 : look a_X4_prepare 169 = vAload 1 170 := rfl
theorem k_X4_prepare_170 : look a_X4_prepare 170 = vIload 3 171 := rfl
theorem k_X4_prepare_171 : look a_X4_prepare 171 = vIload 6 173 := rfl
theorem k_X4_prepare_173 : look a_X4_prepare 173 = vCallM w_X4_has 20 3 176 := rfl
theorem k_X4_prepare_176 : look a_X4_prepare 176 = vIast TT 177 := rfl
theorem k_X4_prepare_177 : look a_X4_prepare 177 = vIinc 6 1 180 := rfl
theorem k_X4_prepare_180 : look a_X4_prepare 180 = vGoto 12 := rfl
theorem k_X4_prepare_183 : look a_X4_prepare 183 = vVret := rfl
theorem o_X4_prepare {X : amX} (e1 : XT X = TT) (e2 : XD X = 5) (hB : amB X RX4 cX4_prepare (none) 8) : ∀ pc, amOK X pc (look a_X4_prepare pc) := by
  have hT : amTok (XT X) := e1 ▸ TT_ok
  refine look_ok ?_
  unfold a_X4_prepare
  refine fc (ok_iconst hB dX4_prepare_0) ?_
  refine fc (ok_iload_n hB dX4_prepare_1) ?_
  refine fc (ok_ishl hB dX4_prepare_2) ?_
  refine fc (ok_iconst hB dX4_prepare_3) ?_
  refine fc (ok_iload_n hB dX4_prepare_4) ?_
  refine fc (ok_ishl hB dX4_prepare_5) ?_
  refine fc (ok_ior hB dX4_prepare_6) ?_
  refine fc (ok_istore hB (by decide) dX4_prepare_7) ?_
  refine fc (ok_iconst hB dX4_prepare_9) ?_
  refine fc (ok_istore hB (by decide) dX4_prepare_10) ?_
  refine fc (ok_iload hB dX4_prepare_12) ?_
  refine fc (ok_aload_n hB dX4_prepare_14) ?_
  refine fc (okt_getR e1 hB hT fl_X4_15 rfl af_4_0 at_4_0 (by decide) dX4_prepare_15) ?_
  refine fc (ok_iconst hB dX4_prepare_18) ?_
  refine fc (ok_callM hB hT (e1 ▸ s_X6_many) lk_X4_25 (by rw [e2]; decide) (c := 6) rfl rfl rfl wd_557 wd_558 dX4_prepare_19) ?_
  refine fc (ok_icmp_ge hB (t := 183) (by decide) dX4_prepare_22) ?_
  refine fc (ok_iload hB dX4_prepare_25) ?_
  refine fc (ok_bipush hB dX4_prepare_27 (by decide)) ?_
  refine fc (ok_icmp_ge hB (t := 183) (by decide) dX4_prepare_29) ?_
  refine fc (ok_aload_n hB dX4_prepare_32) ?_
  refine fc (ok_iload hB dX4_prepare_33) ?_
  refine fc (ok_aload_n hB dX4_prepare_35) ?_
  refine fc (okt_getR e1 hB hT fl_X4_15 rfl af_4_0 at_4_0 (by decide) dX4_prepare_36) ?_
  refine fc (ok_iconst hB dX4_prepare_39) ?_
  refine fc (ok_callM hB hT (e1 ▸ s_X6_many) lk_X4_25 (by rw [e2]; decide) (c := 6) rfl rfl rfl wd_557 wd_558 dX4_prepare_40) ?_
  refine fc (ok_callM hB hT (e1 ▸ s_X0_holders) lk_X4_29 (by rw [e2]; decide) (c := 0) rfl rfl rfl wd_786 wd_787 dX4_prepare_43) ?_
  refine fc (ok_iload hB dX4_prepare_46) ?_
  refine fc (ok_iconst hB dX4_prepare_48) ?_
  refine fc (ok_ixor hB dX4_prepare_49) ?_
  refine fc (ok_iand hB dX4_prepare_50) ?_
  refine fc (ok_istore hB (by decide) dX4_prepare_51) ?_
  refine fc (ok_aload_n hB dX4_prepare_53) ?_
  refine fc (okt_getR e1 hB hT fl_X4_19 rfl af_4_1 at_4_1 (by decide) dX4_prepare_54) ?_
  refine fc (ok_aload_n hB dX4_prepare_57) ?_
  refine fc (ok_iload hB dX4_prepare_58) ?_
  refine fc (ok_iload hB dX4_prepare_60) ?_
  refine fc (ok_callMV hB hT (e1 ▸ s_X9_openSitter) lk_X4_35 (by rw [e2]; decide) (c := 9) rfl rfl rfl wd_781 wd_782 dX4_prepare_62) ?_
  refine fc (ok_aload_n hB dX4_prepare_65) ?_
  refine fc (okt_getR e1 hB hT fl_X4_19 rfl af_4_1 at_4_1 (by decide) dX4_prepare_66) ?_
  refine fc (ok_iload hB dX4_prepare_69) ?_
  refine fc (ok_iconst hB dX4_prepare_71) ?_
  refine fc (ok_iload_n hB dX4_prepare_72) ?_
  refine fc (ok_ishl hB dX4_prepare_73) ?_
  refine fc (ok_ior hB dX4_prepare_74) ?_
  refine fc (ok_callMV hB hT (e1 ▸ s_X9_playGroup) lk_X4_41 (by rw [e2]; decide) (c := 9) rfl rfl rfl wd_790 wd_791 dX4_prepare_75) ?_
  refine fc (ok_aload_n hB dX4_prepare_78) ?_
  refine fc (okt_getR e1 hB hT fl_X4_9 rfl af_4_2 at_4_2 (by decide) dX4_prepare_79) ?_
  refine fc (ok_iconst hB dX4_prepare_82) ?_
  refine fc (ok_iload hB dX4_prepare_83) ?_
  refine fc (ok_imul hB dX4_prepare_85) ?_
  refine fc (ok_aload_n hB dX4_prepare_86) ?_
  refine fc (ok_aload_n hB dX4_prepare_87) ?_
  refine fc (ok_iload_n hB dX4_prepare_88) ?_
  refine fc (ok_iload hB dX4_prepare_89) ?_
  refine fc (ok_callM hB hT (e1 ▸ s_X4_has) lk_X4_45 (by rw [e2]; decide) (c := 4) rfl rfl rfl wd_1110 sl_X4_has dX4_prepare_91) ?_
  refine fc (okt_iastore e1 hB dX4_prepare_94) ?_
  refine fc (ok_aload_n hB dX4_prepare_95) ?_
  refine fc (okt_getR e1 hB hT fl_X4_19 rfl af_4_1 at_4_1 (by decide) dX4_prepare_96) ?_
  refine fc (ok_iload hB dX4_prepare_99) ?_
  refine fc (ok_iconst hB dX4_prepare_101) ?_
  refine fc (ok_iload_n hB dX4_prepare_102) ?_
  refine fc (ok_ishl hB dX4_prepare_103) ?_
  refine fc (ok_ior hB dX4_prepare_104) ?_
  refine fc (ok_callMV hB hT (e1 ▸ s_X9_playGroup) lk_X4_41 (by rw [e2]; decide) (c := 9) rfl rfl rfl wd_790 wd_791 dX4_prepare_105) ?_
  refine fc (ok_aload_n hB dX4_prepare_108) ?_
  refine fc (okt_getR e1 hB hT fl_X4_9 rfl af_4_2 at_4_2 (by decide) dX4_prepare_109) ?_
  refine fc (ok_iconst hB dX4_prepare_112) ?_
  refine fc (ok_iload hB dX4_prepare_113) ?_
  refine fc (ok_imul hB dX4_prepare_115) ?_
  refine fc (ok_iconst hB dX4_prepare_116) ?_
  refine fc (ok_iadd hB dX4_prepare_117) ?_
  refine fc (ok_aload_n hB dX4_prepare_118) ?_
  refine fc (ok_aload_n hB dX4_prepare_119) ?_
  refine fc (ok_iload_n hB dX4_prepare_120) ?_
  refine fc (ok_iload hB dX4_prepare_121) ?_
  refine fc (ok_callM hB hT (e1 ▸ s_X4_has) lk_X4_45 (by rw [e2]; decide) (c := 4) rfl rfl rfl wd_1110 sl_X4_has dX4_prepare_123) ?_
  refine fc (okt_iastore e1 hB dX4_prepare_126) ?_
  refine fc (ok_aload_n hB dX4_prepare_127) ?_
  refine fc (okt_getR e1 hB hT fl_X4_19 rfl af_4_1 at_4_1 (by decide) dX4_prepare_128) ?_
  refine fc (ok_iload hB dX4_prepare_131) ?_
  refine fc (ok_iload hB dX4_prepare_133) ?_
  refine fc (ok_ior hB dX4_prepare_135) ?_
  refine fc (ok_callMV hB hT (e1 ▸ s_X9_playGroup) lk_X4_41 (by rw [e2]; decide) (c := 9) rfl rfl rfl wd_790 wd_791 dX4_prepare_136) ?_
  refine fc (ok_aload_n hB dX4_prepare_139) ?_
  refine fc (okt_getR e1 hB hT fl_X4_9 rfl af_4_2 at_4_2 (by decide) dX4_prepare_140) ?_
  refine fc (ok_iconst hB dX4_prepare_143) ?_
  refine fc (ok_iload hB dX4_prepare_144) ?_
  refine fc (ok_imul hB dX4_prepare_146) ?_
  refine fc (ok_iconst hB dX4_prepare_147) ?_
  refine fc (ok_iadd hB dX4_prepare_148) ?_
  refine fc (ok_aload_n hB dX4_prepare_149) ?_
  refine fc (ok_aload_n hB dX4_prepare_150) ?_
  refine fc (ok_iload_n hB dX4_prepare_151) ?_
  refine fc (ok_iload hB dX4_prepare_152) ?_
  refine fc (ok_callM hB hT (e1 ▸ s_X4_has) lk_X4_45 (by rw [e2]; decide) (c := 4) rfl rfl rfl wd_1110 sl_X4_has dX4_prepare_154) ?_
  refine fc (okt_iastore e1 hB dX4_prepare_157) ?_
  refine fc (ok_aload_n hB dX4_prepare_158) ?_
  refine fc (okt_getR e1 hB hT fl_X4_9 rfl af_4_2 at_4_2 (by decide) dX4_prepare_159) ?_
  refine fc (ok_iconst hB dX4_prepare_162) ?_
  refine fc (ok_iload hB dX4_prepare_163) ?_
  refine fc (ok_imul hB dX4_prepare_165) ?_
  refine fc (ok_iconst hB dX4_prepare_166) ?_
  refine fc (ok_iadd hB dX4_prepare_167) ?_
  refine fc (ok_aload_n hB dX4_prepare_168) ?_
  refine fc (ok_aload_n hB dX4_prepare_169) ?_
  refine fc (ok_iload_n hB dX4_prepare_170) ?_
  refine fc (ok_iload hB dX4_prepare_171) ?_
  refine fc (ok_callM hB hT (e1 ▸ s_X4_has) lk_X4_45 (by rw [e2]; decide) (c := 4) rfl rfl rfl wd_1110 sl_X4_has dX4_prepare_173) ?_
  refine fc (okt_iastore e1 hB dX4_prepare_176) ?_
  refine fc (ok_iinc hB (by decide) dX4_prepare_177) ?_
  refine fc (ok_goto hB (t := 12) (by decide) dX4_prepare_180) ?_
  refine fc (ok_vret hB dX4_prepare_183) ?_
  exact fn
def inv_prep (σ : Mem) (o r p : Int) (n pc : Nat) (ls st : List AV) (σ' : Mem) : Prop := pc = 12 ∧ st = [] ∧ ∃ (k : Nat) (v7 : AV) (g : Int → Int), ls = [(20, 39), (16, 16), (0, o), (0, r), (0, p), (0, amIor (amIshl 1 o) (amIshl 1 r)), (0, (k : Int)), v7] ∧ (k : Int) + n = pcnt σ 6 3 ∧ SF (setv σ 40 g) σ' ∧ gnOk σ g o r p k
def w_X4_prepare : WP := fun av σ Q => ∃ (a : Int) (o : Int) (r : Int) (p : Int), av = [(20, 39), (16, a), (0, o), (0, r), (0, p)] ∧ (a = 16 ∧ stOk σ 16 ∧ InR p ∧ pval σ 6 1 p 3 ≤ 9 ∧ 0 ≤ o ∧ o < pcnt σ 6 2 ∧ 0 ≤ r ∧ r < pcnt σ 6 2 ∧ o ≠ r ∧ (∀ i, 0 ≤ i → i < 6 → InR (σ 18 i)) ∧ (∀ τ, SW σ τ → gnOk σ (τ 40) o r p (pcnt σ 6 3) → Q (6, 0) τ))
theorem w_X4_prepare_e (a : Int) (o : Int) (r : Int) (p : Int) (σ : Mem) (Q : AV → Mem → Prop) : w_X4_prepare [(20, 39), (16, a), (0, o), (0, r), (0, p)] σ Q = (a = 16 ∧ stOk σ 16 ∧ InR p ∧ pval σ 6 1 p 3 ≤ 9 ∧ 0 ≤ o ∧ o < pcnt σ 6 2 ∧ 0 ≤ r ∧ r < pcnt σ 6 2 ∧ o ≠ r ∧ (∀ i, 0 ≤ i → i < 6 → InR (σ 18 i)) ∧ (∀ τ, SW σ τ → gnOk σ (τ 40) o r p (pcnt σ 6 3) → Q (6, 0) τ)) := by
  apply propext; constructor
  · rintro ⟨a', o', r', p', h9, hb9⟩; cases h9; exact hb9
  · intro hb9; exact ⟨a, o, r, p, rfl, hb9⟩

set_option maxRecDepth 100000 in
set_option maxHeartbeats 4000000 in
theorem s_X4_prepare : ∀ av σ Q, w_X4_prepare av σ Q → amCall 5 0 0 TT yX4_prepare cX4_prepare 8 (none) av σ Q := by
  rintro av σ Q ⟨a, o, r, p, rfl, rfl, hst, hp, h9, ho0, ho1, hr0, hr1, hne, hse, h⟩
  have hB := hst.2.1
  have c2 := pcnt_b hB 2
  have c3 := pcnt_b hB 3
  refine am_m [12] (inv_prep σ o r p) (own := RX4) (A := look a_X4_prepare) (fun X e1 e2 hB => o_X4_prepare e1 e2 hB) rfl (by decide +kernel) rfl rfl ?_ ⟨60, ?_⟩ (w := 8)
  · rintro n pc ls st σ' ⟨rfl, rfl, k, v7, g, rfl, hk, hF, hg⟩
    have hW0 : ∀ g, SW σ (setv σ 40 g) := fun g => SW_set (Or.inr (Or.inr rfl)) g
    have pc3 : pcnt σ' 6 3 = pcnt σ 6 3 := by rw [SF_pcnt hF 3]; exact SW_pcnt (hW0 g) 3
    have pc2 : pcnt σ' 6 2 = pcnt σ 6 2 := by rw [SF_pcnt hF 2]; exact SW_pcnt (hW0 g) 2
    have r18 : σ' 18 = σ 18 := by rw [SF_r hF (b := 18) (by omega)]; exact setv_o _ _ (by decide)
    have r40 : σ' 40 = g := by rw [SF_r hF (b := 40) (by omega)]; exact setv_s _ _ _
    by_cases hlt : (k : Int) < pcnt σ 6 3
    · obtain ⟨mk1, mk2, mk3⟩ := mAe (s := σ 18) (t := k) (o := o) (r := r) (n := (pcnt σ 6 2).toNat) (by omega) (by omega) ho0 (by omega) hr0 (by omega) hne
      have hO := SO_open hF 16 k p
      refine ⟨190, ?_⟩
      simp only [↓reduceIte, inR_0, inR_1, inR_m, vSw2_e, swP_n, swP_c, vI_e, vL_e, vNull_e, vIload_e, vLload_e, vAload_e, vIstore_e, vLstore_e, vAstore_e, vIinc_e, vIadd_e, vIsub_e, vImul_e, vIand_e, vIor_e, vIxor_e, vIshl_e, vIshr_e, vIushr_e, vIdiv_e, vIrem_e, vLadd_e, vLsub_e, vLmul_e, vLand_e, vLor_e, vLxor_e, vLdiv_e, vLrem_e, vLushr_e, vLshl_e, vLcmp_e, vIneg_e, vI2l_e, vL2i_e, vI2b_e, vI2c_e, vDup_e, vPop_e, vDup2_e, vGoto_e, vIcEq_e, vIfEq_e, vIcNe_e, vIfNe_e, vIcLt_e, vIfLt_e, vIcGe_e, vIfGe_e, vIcGt_e, vIfGt_e, vIcLe_e, vIfLe_e, vNonnull_e, vSw_e, vGetI_e, vGetL_e, vGetR_e, vPutI_e, vPutZ_e, vPutL_e, vPutR_e, vIald_e, vIald_s, vLald_e, vBald_e, vBald_s, vAald_e, vIast_e, vLast_e, vBast_e, vAast_e, vAlen_e8, vAlen_e9, vAlen_e10, vAlen_e11, vAlen_e5, vAlen_e3, vGets_e, vCompact_e, vLdcS_e, vIret_e, vZret_e, vCret_e, vBret_e, vLret_e, vVret_e, vAret_e, vCallM_e0, vCallMV_e0, vCallS_e0, vCallSV_e0, vCallM_e1, vCallMV_e1, vCallS_e1, vCallSV_e1, vCallM_e2, vCallMV_e2, vCallS_e2, vCallSV_e2, vCallM_e3, vCallMV_e3, vCallS_e3, vCallSV_e3, vCallM_e4, vCallMV_e4, vCallS_e4, vCallSV_e4, vCallM_e5, vCallMV_e5, vCallS_e5, vCallSV_e5, vCallM_e6, vCallMV_e6, vCallS_e6, vCallSV_e6, vCallM_e7, vCallMV_e7, vCallS_e7, vCallSV_e7, vBad_e, vStrVal_e, vStrCod_e, vForm_e, vCallT_e0, vCallT_e1, vCallT_e2, vCopy_e, rf_0_0, rf_0_1, rf_0_2, rf_0_3, rf_0_4, rf_0_7, rf_0_10, rf_0_11, rf_0_12, rf_0_13, rf_0_14, rf_0_15, rf_0_16, rf_1_0, rf_3_0, rf_3_1, rf_6_0, rf_6_1, rf_9_0, rf_9_1, rf_9_3, rf_13_0, rf_13_1, rf_13_2, rf_16_0, rf_16_1, rf_16_2, rf_16_3, rf_21_0, rf_21_1, rf_21_2, rf_21_3, rf_26_0, rf_26_1, rf_26_2, rf_26_3, rf_26_4, rf_26_5, rf_26_6, rf_31_0, rf_31_2, rf_31_5, rf_31_6, rf_36_0, rf_36_1, rf_36_2, rf_36_3, rf_39_0, rf_39_1, rf_39_2, rf_41_0, rf_41_1, rf_41_2, rf_41_3, rf_5000_1, rf_5000_2, rf_5000_3, rf_5000_4, rf_5000_5, rf_5000_15, rf_5000_16, rf_5000_18, rf_5000_19, rf_5000_20, rf_5000_21, rf_5000_22, rf_5000_23, rf_5000_24, rf_5000_25, rf_5000_26, rf_5000_27, rf_5000_36, rf_5000_37, rf_5000_40, rf_5000_41, rf_5000_42, rf_5000_43, rf_5000_44, rf_5000_45, rf_5000_47, rf_5000_52, rf_5000_54, rf_5000_55, rf_100_0, rf_100_1, rf_103_0, rf_103_1, rf_106_0, rf_106_1, rf_109_0, rf_109_1, al_2, al_4, al_5, al_7, al_8, al_10, al_11, al_12, al_14, al_15, al_17, al_18, al_19, al_20, al_22, al_23, al_24, al_25, al_27, al_28, al_29, al_30, al_32, al_33, al_34, al_35, al_37, al_38, al_40, al_42, al_5001, al_5002, al_5003, al_5004, al_5005, al_5006, al_5007, al_5008, al_5009, al_5010, al_5011, al_5012, al_5013, al_5014, al_5015, al_5016, al_5017, al_5018, al_5019, al_5020, al_5021, al_5022, al_5023, al_5024, al_5025, al_5026, al_9000, al_101, al_102, al_104, al_105, al_107, al_108, al_110, al_111, vcs_e, lg_c0, lg_cs, lg_nil, set_c0, set_cs, okst_0, okst_s, acok_n, acok_c, List.contains_nil, List.contains_cons, Bool.or_false, Bool.false_or, Bool.false_eq_true, if_false, if_true, ite_self, ne_eq, true_and, and_true, not_false_eq_true, not_true_eq_false, false_imp_iff, true_imp_iff, Nat.ble_eq, Bool.and_eq_true, reduceCtorEq, or_false, false_or, or_true, true_or, false_and, and_false, and_self, Int.reduceLE, Int.reduceAdd, Int.reduceSub, Int.reduceMul, Int.reduceNeg, Int.reduceLT, Int.reduceEq, Int.reduceNe, Nat.reduceBEq, Nat.reduceBNe, Nat.reduceEqDiff, amCmp_in, amCmp_lt, amCmp_le, amCmp_gt, amCmp_ge, amCmp_eq, amCmp_ne, Nat.reduceLeDiff, Nat.reduceSub, Bool.and_true, Bool.true_and, Bool.and_self, Bool.or_true, Bool.true_or, isRf_3, isRf_4, isRf_5, isRf_8, isRf_9, isRf_10, isRf_11, isRf_15, isRf_16, isRf_17, isRf_18, isRf_19, isRf_20, isRf_21, isRf_22, isRf_23, isRf_24, isRf_25, isRf_26, isRf_27, isRf_28, k_X4_prepare_0, k_X4_prepare_1, k_X4_prepare_2, k_X4_prepare_3, k_X4_prepare_4, k_X4_prepare_5, k_X4_prepare_6, k_X4_prepare_7, k_X4_prepare_9, k_X4_prepare_10, k_X4_prepare_12, k_X4_prepare_14, k_X4_prepare_15, k_X4_prepare_18, k_X4_prepare_19, k_X4_prepare_22, k_X4_prepare_25, k_X4_prepare_27, k_X4_prepare_29, k_X4_prepare_32, k_X4_prepare_33, k_X4_prepare_35, k_X4_prepare_36, k_X4_prepare_39, k_X4_prepare_40, k_X4_prepare_43, k_X4_prepare_46, k_X4_prepare_48, k_X4_prepare_49, k_X4_prepare_50, k_X4_prepare_51, k_X4_prepare_53, k_X4_prepare_54, k_X4_prepare_57, k_X4_prepare_58, k_X4_prepare_60, k_X4_prepare_62, k_X4_prepare_65, k_X4_prepare_66, k_X4_prepare_69, k_X4_prepare_71, k_X4_prepare_72, k_X4_prepare_73, k_X4_prepare_74, k_X4_prepare_75, k_X4_prepare_78, k_X4_prepare_79, k_X4_prepare_82, k_X4_prepare_83, k_X4_prepare_85, k_X4_prepare_86, k_X4_prepare_87, k_X4_prepare_88, k_X4_prepare_89, k_X4_prepare_91, k_X4_prepare_94, k_X4_prepare_95, k_X4_prepare_96, k_X4_prepare_99, k_X4_prepare_101, k_X4_prepare_102, k_X4_prepare_103, k_X4_prepare_104, k_X4_prepare_105, k_X4_prepare_108, k_X4_prepare_109, k_X4_prepare_112, k_X4_prepare_113, k_X4_prepare_115, k_X4_prepare_116, k_X4_prepare_117, k_X4_prepare_118, k_X4_prepare_119, k_X4_prepare_120, k_X4_prepare_121, k_X4_prepare_123, k_X4_prepare_126, k_X4_prepare_127, k_X4_prepare_128, k_X4_prepare_131, k_X4_prepare_133, k_X4_prepare_135, k_X4_prepare_136, k_X4_prepare_139, k_X4_prepare_140, k_X4_prepare_143, k_X4_prepare_144, k_X4_prepare_146, k_X4_prepare_147, k_X4_prepare_148, k_X4_prepare_149, k_X4_prepare_150, k_X4_prepare_151, k_X4_prepare_152, k_X4_prepare_154, k_X4_prepare_157, k_X4_prepare_158, k_X4_prepare_159, k_X4_prepare_162, k_X4_prepare_163, k_X4_prepare_165, k_X4_prepare_166, k_X4_prepare_167, k_X4_prepare_168, k_X4_prepare_169, k_X4_prepare_170, k_X4_prepare_171, k_X4_prepare_173, k_X4_prepare_176, k_X4_prepare_177, k_X4_prepare_180, k_X4_prepare_183, w_X0_holders_e, w_X4_has_e, w_X6_many_e, w_X9_openSitter_e, w_X9_playGroup_e, pc3, pc2, r18, mk1, mk2, mk3]
      have hb1 := hbits_64 (sXY (σ 18) o r k (-1)) k (n := (pcnt σ 6 2).toNat) (by omega)
      have hb2 := hbits_64 (sXY (σ 18) o r (-1) k) k (n := (pcnt σ 6 2).toNat) (by omega)
      have hb3 := hbits_64 (sXY (σ 18) o r k k) k (n := (pcnt σ 6 2).toNat) (by omega)
      have bo : ∀ x y, x = (k : Int) → bt (hbits (sXY (σ 18) o r x y) k (pcnt σ 6 2).toNat) o = 1 := fun x y hx => by
        rw [hbits_bit _ _ ho0 (by omega) (by omega), if_pos ⟨by omega, by unfold sXY; rw [if_pos rfl]; exact hx⟩]
      have br : ∀ x y, y = (k : Int) → bt (hbits (sXY (σ 18) o r x y) k (pcnt σ 6 2).toNat) r = 1 := fun x y hy => by
        rw [hbits_bit _ _ hr0 (by omega) (by omega), if_pos ⟨by omega, by unfold sXY; rw [if_neg (Ne.symm hne), if_pos rfl]; exact hy⟩]
      have st' : ∀ g, stOk (setv σ 40 g) 16 := fun g => SW_stOk (hW0 g) hst
      have oab : ∀ (S : Int) (c : Int), InR (oaM (gmv σ 16 k p) (pval σ 6 0 0 0) S (pval σ 6 1 p 3).toNat c) := fun S c => by
        have := oaM_b (gmv σ 16 k p) (pval σ 6 0 0 0) S c (pval σ 6 1 p 3).toNat
        have := pval_b hB 1 p 3
        exact ⟨by omega, by omega⟩
      have key : ∀ (g : Int → Int) (τ : Mem) (x y c : Int), SO (setv σ 40 g) τ 16 k p → τ 29 c = flM (gmv σ 16 k p) (pval σ 6 0 0 0) (hbits (sXY (σ 18) o r x y) k (pcnt σ 6 2).toNat) (pval σ 6 1 p 3).toNat c → τ 30 c = oaM (gmv σ 16 k p) (pval σ 6 0 0 0) (hbits (sXY (σ 18) o r x y) k (pcnt σ 6 2).toNat) (pval σ 6 1 p 3).toNat c → hasF τ c k = gvF σ o r p c k x y := fun g τ x y c q1 q2 q3 => by
        unfold hasF gvF
        rw [q2, q3, SF_r q1.1 (b := 18) (by omega), SF_r q1.1 (b := 16) (by omega), setv_o _ _ (by decide), setv_o _ _ (by decide)]
      have s18 : ∀ (g : Int → Int) (τ : Mem), SO (setv σ 40 g) τ 16 k p → τ 18 = σ 18 := fun g τ q => by rw [SF_r q.1 (b := 18) (by omega)]; exact setv_o _ _ (by decide)
      have nxt : ∀ (g : Int → Int) (τ : Mem) (j v : Int), SO (setv σ 40 g) τ 16 k p → SO (setv σ 40 (upf g j v)) (up τ 40 j v) 16 k p := fun g τ j v q => by
        have := SO_set40 q (st' g) j v
        rw [setv_setv, setv_s] at this
        exact this
      have Gm : ∀ g, gmv (setv σ 40 g) 16 k p = gmv σ 16 k p := fun g => SW_gmv (hW0 g) hst k p
      have Pv : ∀ g x y z, pval (setv σ 40 g) 6 x y z = pval σ 6 x y z := fun g => SW_pval (hW0 g)
      have fin : ∀ (τ : Mem) (v : AV), SO (setv σ 40 (upf (upf (upf (upf g (4 * k) (gvF σ o r p o k k (-1))) (4 * k + 2) (gvF σ o r p r k (-1) k)) (4 * k + 1) (gvF σ o r p o k k k)) (4 * k + 3) (gvF σ o r p r k k k))) τ 16 k p → ∃ k', k' < n ∧ inv_prep σ o r p k' 12 [(20, 39), (16, 16), (0, o), (0, r), (0, p), (0, amIor (amIshl 1 o) (amIshl 1 r)), (0, (k : Int) + 1), v] [] τ := fun τ v q => by
        refine ⟨n - 1, by omega, rfl, rfl, k + 1, v, _, rfl, by omega, q.1, fun t t0 t1 => ?_⟩
        by_cases e : t = k
        · subst e
          unfold upf
          refine ⟨?_, ?_, ?_, ?_⟩
          · rw [if_neg (by omega), if_neg (by omega), if_neg (by omega), if_pos rfl]
          · rw [if_neg (by omega), if_pos rfl]
          · rw [if_neg (by omega), if_neg (by omega), if_pos rfl]
          · rw [if_pos rfl]
        · obtain ⟨q1, q2, q3, q4⟩ := hg t t0 (by omega)
          unfold upf
          refine ⟨?_, ?_, ?_, ?_⟩
          · rw [if_neg (by omega), if_neg (by omega), if_neg (by omega), if_neg (by omega)]; exact q1
          · rw [if_neg (by omega), if_neg (by omega), if_neg (by omega), if_neg (by omega)]; exact q2
          · rw [if_neg (by omega), if_neg (by omega), if_neg (by omega), if_neg (by omega)]; exact q3
          · rw [if_neg (by omega), if_neg (by omega), if_neg (by omega), if_neg (by omega)]; exact q4
      repeat' (first | assumption | apply And.intro | intro _)
      all_goals first | omega | exact absurd trivial (by assumption) | exact Or.inr rfl | exact Or.inl rfl | skip
      all_goals
        refine ⟨setv σ 40 g, 16, k, p, st' g, hO, ⟨by omega, by omega⟩, hp, by rw [Pv]; exact h9, hb1.1, hb1.2, fun τ1 q1 q2 q3 => ?_⟩
        simp only [Gm, Pv] at q2 q3
        have w1 := q2 o ho0 (by omega)
        have w2 := q3 o ho0 (by omega)
        rw [if_pos (bo _ _ rfl)] at w1 w2
        have hv1 := key g τ1 k (-1) o q1 w1 w2
        have i1 := oab (hbits (sXY (σ 18) o r k (-1)) k (pcnt σ 6 2).toNat) o
        rw [← w2] at i1
        have e1 := s18 g τ1 q1
        have ho' := hse o ho0 (by omega)
        have hr' := hse r hr0 (by omega)
        simp only [hv1, e1]
        repeat' (first | assumption | apply And.intro | intro _)
        all_goals first | omega | exact absurd trivial (by assumption) | skip
        all_goals
          refine ⟨_, 16, k, p, st' _, nxt g τ1 (4 * k) (gvF σ o r p o k k (-1)) q1, ⟨by omega, by omega⟩, hp, by rw [Pv]; exact h9, hb2.1, hb2.2, fun τ2 q4 q5 q6 => ?_⟩
          simp only [Gm, Pv] at q5 q6
          have w3 := q5 r hr0 (by omega)
          have w4 := q6 r hr0 (by omega)
          rw [if_pos (br _ _ rfl)] at w3 w4
          have hv2 := key _ τ2 (-1) k r q4 w3 w4
          have i2 := oab (hbits (sXY (σ 18) o r (-1) k) k (pcnt σ 6 2).toNat) r
          rw [← w4] at i2
          have e2 := s18 _ τ2 q4
          simp only [hv2, e2]
          repeat' (first | assumption | apply And.intro | intro _)
          all_goals first | omega | exact absurd trivial (by assumption) | skip
          all_goals
            refine ⟨_, 16, k, p, st' _, nxt _ τ2 (4 * k + 2) (gvF σ o r p r k (-1) k) q4, ⟨by omega, by omega⟩, hp, by rw [Pv]; exact h9, hb3.1, hb3.2, fun τ3 q7 q8 q9 => ?_⟩
            simp only [Gm, Pv] at q8 q9
            have w5 := q8 o ho0 (by omega)
            have w6 := q9 o ho0 (by omega)
            have w7 := q8 r hr0 (by omega)
            have w8 := q9 r hr0 (by omega)
            rw [if_pos (bo _ _ rfl)] at w5 w6
            rw [if_pos (br _ _ rfl)] at w7 w8
            have hv3 := key _ τ3 k k o q7 w5 w6
            have e3 := s18 _ τ3 q7
            have q10 := nxt _ τ3 (4 * k + 1) (gvF σ o r p o k k k) q7
            have hv4 := key _ (up τ3 40 (4 * k + 1) (gvF σ o r p o k k k)) k k r q10 (by rw [up_na _ (by decide)]; exact w7) (by rw [up_na _ (by decide)]; exact w8)
            have i3 := oab (hbits (sXY (σ 18) o r k k) k (pcnt σ 6 2).toNat) o
            rw [← w6] at i3
            have i4 := oab (hbits (sXY (σ 18) o r k k) k (pcnt σ 6 2).toNat) r
            rw [← w8] at i4
            have i9 := fun v => fin _ v (nxt _ _ (4 * k + 3) (gvF σ o r p r k k k) q10)
            have u30 : up τ3 40 (4 * k + 1) (gvF σ o r p o k k k) 30 = τ3 30 := up_na _ (by decide)
            have u18 : up τ3 40 (4 * k + 1) (gvF σ o r p o k k k) 18 = σ 18 := by rw [up_na _ (by decide)]; exact e3
            simp only [hv3, hv4, e3, u30, u18]
            repeat' (first | assumption | apply And.intro | intro _)
            all_goals first | omega | exact absurd trivial (by assumption) | exact i9 _
    · have hh := h σ' (SW_tr (hW0 g) (SF_SW hF)) (by rw [r40, show pcnt σ 6 3 = (k : Int) by omega]; exact hg)
      refine ⟨60, ?_⟩
      simp only [↓reduceIte, inR_0, inR_1, inR_m, vSw2_e, swP_n, swP_c, vI_e, vL_e, vNull_e, vIload_e, vLload_e, vAload_e, vIstore_e, vLstore_e, vAstore_e, vIinc_e, vIadd_e, vIsub_e, vImul_e, vIand_e, vIor_e, vIxor_e, vIshl_e, vIshr_e, vIushr_e, vIdiv_e, vIrem_e, vLadd_e, vLsub_e, vLmul_e, vLand_e, vLor_e, vLxor_e, vLdiv_e, vLrem_e, vLushr_e, vLshl_e, vLcmp_e, vIneg_e, vI2l_e, vL2i_e, vI2b_e, vI2c_e, vDup_e, vPop_e, vDup2_e, vGoto_e, vIcEq_e, vIfEq_e, vIcNe_e, vIfNe_e, vIcLt_e, vIfLt_e, vIcGe_e, vIfGe_e, vIcGt_e, vIfGt_e, vIcLe_e, vIfLe_e, vNonnull_e, vSw_e, vGetI_e, vGetL_e, vGetR_e, vPutI_e, vPutZ_e, vPutL_e, vPutR_e, vIald_e, vIald_s, vLald_e, vBald_e, vBald_s, vAald_e, vIast_e, vLast_e, vBast_e, vAast_e, vAlen_e8, vAlen_e9, vAlen_e10, vAlen_e11, vAlen_e5, vAlen_e3, vGets_e, vCompact_e, vLdcS_e, vIret_e, vZret_e, vCret_e, vBret_e, vLret_e, vVret_e, vAret_e, vCallM_e0, vCallMV_e0, vCallS_e0, vCallSV_e0, vCallM_e1, vCallMV_e1, vCallS_e1, vCallSV_e1, vCallM_e2, vCallMV_e2, vCallS_e2, vCallSV_e2, vCallM_e3, vCallMV_e3, vCallS_e3, vCallSV_e3, vCallM_e4, vCallMV_e4, vCallS_e4, vCallSV_e4, vCallM_e5, vCallMV_e5, vCallS_e5, vCallSV_e5, vCallM_e6, vCallMV_e6, vCallS_e6, vCallSV_e6, vCallM_e7, vCallMV_e7, vCallS_e7, vCallSV_e7, vBad_e, vStrVal_e, vStrCod_e, vForm_e, vCallT_e0, vCallT_e1, vCallT_e2, vCopy_e, rf_0_0, rf_0_1, rf_0_2, rf_0_3, rf_0_4, rf_0_7, rf_0_10, rf_0_11, rf_0_12, rf_0_13, rf_0_14, rf_0_15, rf_0_16, rf_1_0, rf_3_0, rf_3_1, rf_6_0, rf_6_1, rf_9_0, rf_9_1, rf_9_3, rf_13_0, rf_13_1, rf_13_2, rf_16_0, rf_16_1, rf_16_2, rf_16_3, rf_21_0, rf_21_1, rf_21_2, rf_21_3, rf_26_0, rf_26_1, rf_26_2, rf_26_3, rf_26_4, rf_26_5, rf_26_6, rf_31_0, rf_31_2, rf_31_5, rf_31_6, rf_36_0, rf_36_1, rf_36_2, rf_36_3, rf_39_0, rf_39_1, rf_39_2, rf_41_0, rf_41_1, rf_41_2, rf_41_3, rf_5000_1, rf_5000_2, rf_5000_3, rf_5000_4, rf_5000_5, rf_5000_15, rf_5000_16, rf_5000_18, rf_5000_19, rf_5000_20, rf_5000_21, rf_5000_22, rf_5000_23, rf_5000_24, rf_5000_25, rf_5000_26, rf_5000_27, rf_5000_36, rf_5000_37, rf_5000_40, rf_5000_41, rf_5000_42, rf_5000_43, rf_5000_44, rf_5000_45, rf_5000_47, rf_5000_52, rf_5000_54, rf_5000_55, rf_100_0, rf_100_1, rf_103_0, rf_103_1, rf_106_0, rf_106_1, rf_109_0, rf_109_1, al_2, al_4, al_5, al_7, al_8, al_10, al_11, al_12, al_14, al_15, al_17, al_18, al_19, al_20, al_22, al_23, al_24, al_25, al_27, al_28, al_29, al_30, al_32, al_33, al_34, al_35, al_37, al_38, al_40, al_42, al_5001, al_5002, al_5003, al_5004, al_5005, al_5006, al_5007, al_5008, al_5009, al_5010, al_5011, al_5012, al_5013, al_5014, al_5015, al_5016, al_5017, al_5018, al_5019, al_5020, al_5021, al_5022, al_5023, al_5024, al_5025, al_5026, al_9000, al_101, al_102, al_104, al_105, al_107, al_108, al_110, al_111, vcs_e, lg_c0, lg_cs, lg_nil, set_c0, set_cs, okst_0, okst_s, acok_n, acok_c, List.contains_nil, List.contains_cons, Bool.or_false, Bool.false_or, Bool.false_eq_true, if_false, if_true, ite_self, ne_eq, true_and, and_true, not_false_eq_true, not_true_eq_false, false_imp_iff, true_imp_iff, Nat.ble_eq, Bool.and_eq_true, reduceCtorEq, or_false, false_or, or_true, true_or, false_and, and_false, and_self, Int.reduceLE, Int.reduceAdd, Int.reduceSub, Int.reduceMul, Int.reduceNeg, Int.reduceLT, Int.reduceEq, Int.reduceNe, Nat.reduceBEq, Nat.reduceBNe, Nat.reduceEqDiff, amCmp_in, amCmp_lt, amCmp_le, amCmp_gt, amCmp_ge, amCmp_eq, amCmp_ne, Nat.reduceLeDiff, Nat.reduceSub, Bool.and_true, Bool.true_and, Bool.and_self, Bool.or_true, Bool.true_or, isRf_3, isRf_4, isRf_5, isRf_8, isRf_9, isRf_10, isRf_11, isRf_15, isRf_16, isRf_17, isRf_18, isRf_19, isRf_20, isRf_21, isRf_22, isRf_23, isRf_24, isRf_25, isRf_26, isRf_27, isRf_28, k_X4_prepare_0, k_X4_prepare_1, k_X4_prepare_2, k_X4_prepare_3, k_X4_prepare_4, k_X4_prepare_5, k_X4_prepare_6, k_X4_prepare_7, k_X4_prepare_9, k_X4_prepare_10, k_X4_prepare_12, k_X4_prepare_14, k_X4_prepare_15, k_X4_prepare_18, k_X4_prepare_19, k_X4_prepare_22, k_X4_prepare_25, k_X4_prepare_27, k_X4_prepare_29, k_X4_prepare_32, k_X4_prepare_33, k_X4_prepare_35, k_X4_prepare_36, k_X4_prepare_39, k_X4_prepare_40, k_X4_prepare_43, k_X4_prepare_46, k_X4_prepare_48, k_X4_prepare_49, k_X4_prepare_50, k_X4_prepare_51, k_X4_prepare_53, k_X4_prepare_54, k_X4_prepare_57, k_X4_prepare_58, k_X4_prepare_60, k_X4_prepare_62, k_X4_prepare_65, k_X4_prepare_66, k_X4_prepare_69, k_X4_prepare_71, k_X4_prepare_72, k_X4_prepare_73, k_X4_prepare_74, k_X4_prepare_75, k_X4_prepare_78, k_X4_prepare_79, k_X4_prepare_82, k_X4_prepare_83, k_X4_prepare_85, k_X4_prepare_86, k_X4_prepare_87, k_X4_prepare_88, k_X4_prepare_89, k_X4_prepare_91, k_X4_prepare_94, k_X4_prepare_95, k_X4_prepare_96, k_X4_prepare_99, k_X4_prepare_101, k_X4_prepare_102, k_X4_prepare_103, k_X4_prepare_104, k_X4_prepare_105, k_X4_prepare_108, k_X4_prepare_109, k_X4_prepare_112, k_X4_prepare_113, k_X4_prepare_115, k_X4_prepare_116, k_X4_prepare_117, k_X4_prepare_118, k_X4_prepare_119, k_X4_prepare_120, k_X4_prepare_121, k_X4_prepare_123, k_X4_prepare_126, k_X4_prepare_127, k_X4_prepare_128, k_X4_prepare_131, k_X4_prepare_133, k_X4_prepare_135, k_X4_prepare_136, k_X4_prepare_139, k_X4_prepare_140, k_X4_prepare_143, k_X4_prepare_144, k_X4_prepare_146, k_X4_prepare_147, k_X4_prepare_148, k_X4_prepare_149, k_X4_prepare_150, k_X4_prepare_151, k_X4_prepare_152, k_X4_prepare_154, k_X4_prepare_157, k_X4_prepare_158, k_X4_prepare_159, k_X4_prepare_162, k_X4_prepare_163, k_X4_prepare_165, k_X4_prepare_166, k_X4_prepare_167, k_X4_prepare_168, k_X4_prepare_169, k_X4_prepare_170, k_X4_prepare_171, k_X4_prepare_173, k_X4_prepare_176, k_X4_prepare_177, k_X4_prepare_180, k_X4_prepare_183, w_X0_holders_e, w_X4_has_e, w_X6_many_e, w_X9_openSitter_e, w_X9_playGroup_e, pc3]
      repeat' (first | assumption | apply And.intro | intro _)
      all_goals first | omega | exact absurd trivial (by assumption) | exact Or.inr rfl | exact hh
  · change vcs _ _ _ _ 60 0 [(20, 39), (16, 16), (0, o), (0, r), (0, p), (6, 0), (6, 0), (6, 0)] [] σ
    simp only [↓reduceIte, inR_0, inR_1, inR_m, vI_e, vL_e, vNull_e, vIload_e, vLload_e, vAload_e, vIstore_e, vLstore_e, vAstore_e, vIinc_e, vIadd_e, vIsub_e, vImul_e, vIand_e, vIor_e, vIxor_e, vIshl_e, vIshr_e, vIushr_e, vIdiv_e, vIrem_e, vLadd_e, vLsub_e, vLmul_e, vLand_e, vLor_e, vLxor_e, vLdiv_e, vLrem_e, vLushr_e, vLshl_e, vLcmp_e, vIneg_e, vI2l_e, vL2i_e, vI2b_e, vI2c_e, vDup_e, vPop_e, vDup2_e, vGoto_e, vIcEq_e, vIfEq_e, vIcNe_e, vIfNe_e, vIcLt_e, vIfLt_e, vIcGe_e, vIfGe_e, vIcGt_e, vIfGt_e, vIcLe_e, vIfLe_e, vNonnull_e, vSw_e, vGetI_e, vGetL_e, vGetR_e, vPutI_e, vPutZ_e, vPutL_e, vPutR_e, vIald_e, vIald_s, vLald_e, vBald_e, vBald_s, vAald_e, vIast_e, vLast_e, vBast_e, vAast_e, vAlen_e8, vAlen_e9, vAlen_e10, vAlen_e11, vAlen_e5, vAlen_e3, vGets_e, vCompact_e, vLdcS_e, vIret_e, vZret_e, vCret_e, vBret_e, vLret_e, vVret_e, vAret_e, vCallM_e0, vCallMV_e0, vCallS_e0, vCallSV_e0, vCallM_e1, vCallMV_e1, vCallS_e1, vCallSV_e1, vCallM_e2, vCallMV_e2, vCallS_e2, vCallSV_e2, vCallM_e3, vCallMV_e3, vCallS_e3, vCallSV_e3, vCallM_e4, vCallMV_e4, vCallS_e4, vCallSV_e4, vCallM_e5, vCallMV_e5, vCallS_e5, vCallSV_e5, vCallM_e6, vCallMV_e6, vCallS_e6, vCallSV_e6, vCallM_e7, vCallMV_e7, vCallS_e7, vCallSV_e7, vBad_e, vStrVal_e, vStrCod_e, vForm_e, vCallT_e0, vCallT_e1, vCallT_e2, vCopy_e, rf_0_0, rf_0_1, rf_0_2, rf_0_3, rf_0_4, rf_0_7, rf_0_10, rf_0_11, rf_0_12, rf_0_13, rf_0_14, rf_0_15, rf_0_16, rf_1_0, rf_3_0, rf_3_1, rf_6_0, rf_6_1, rf_9_0, rf_9_1, rf_9_3, rf_13_0, rf_13_1, rf_13_2, rf_16_0, rf_16_1, rf_16_2, rf_16_3, rf_21_0, rf_21_1, rf_21_2, rf_21_3, rf_26_0, rf_26_1, rf_26_2, rf_26_3, rf_26_4, rf_26_5, rf_26_6, rf_31_0, rf_31_2, rf_31_5, rf_31_6, rf_36_0, rf_36_1, rf_36_2, rf_36_3, rf_39_0, rf_39_1, rf_39_2, rf_41_0, rf_41_1, rf_41_2, rf_41_3, rf_5000_1, rf_5000_2, rf_5000_3, rf_5000_4, rf_5000_5, rf_5000_15, rf_5000_16, rf_5000_18, rf_5000_19, rf_5000_20, rf_5000_21, rf_5000_22, rf_5000_23, rf_5000_24, rf_5000_25, rf_5000_26, rf_5000_27, rf_5000_36, rf_5000_37, rf_5000_40, rf_5000_41, rf_5000_42, rf_5000_43, rf_5000_44, rf_5000_45, rf_5000_47, rf_5000_52, rf_5000_54, rf_5000_55, rf_100_0, rf_100_1, rf_103_0, rf_103_1, rf_106_0, rf_106_1, rf_109_0, rf_109_1, al_2, al_4, al_5, al_7, al_8, al_10, al_11, al_12, al_14, al_15, al_17, al_18, al_19, al_20, al_22, al_23, al_24, al_25, al_27, al_28, al_29, al_30, al_32, al_33, al_34, al_35, al_37, al_38, al_40, al_42, al_5001, al_5002, al_5003, al_5004, al_5005, al_5006, al_5007, al_5008, al_5009, al_5010, al_5011, al_5012, al_5013, al_5014, al_5015, al_5016, al_5017, al_5018, al_5019, al_5020, al_5021, al_5022, al_5023, al_5024, al_5025, al_5026, al_9000, al_101, al_102, al_104, al_105, al_107, al_108, al_110, al_111, vcs_e, lg_c0, lg_cs, lg_nil, set_c0, set_cs, okst_0, okst_s, acok_n, acok_c, List.contains_nil, List.contains_cons, Bool.or_false, Bool.false_or, Bool.false_eq_true, if_false, if_true, ite_self, ne_eq, true_and, and_true, not_false_eq_true, not_true_eq_false, false_imp_iff, true_imp_iff, Nat.ble_eq, Bool.and_eq_true, reduceCtorEq, or_false, false_or, or_true, true_or, false_and, and_false, and_self, Int.reduceLE, Int.reduceAdd, Int.reduceSub, Int.reduceMul, Int.reduceNeg, Int.reduceLT, Int.reduceEq, Int.reduceNe, Nat.reduceBEq, Nat.reduceBNe, Nat.reduceEqDiff, amCmp_in, amCmp_lt, amCmp_le, amCmp_gt, amCmp_ge, amCmp_eq, amCmp_ne, Nat.reduceLeDiff, Nat.reduceSub, Bool.and_true, Bool.true_and, Bool.and_self, Bool.or_true, Bool.true_or, isRf_3, isRf_4, isRf_5, isRf_8, isRf_9, isRf_10, isRf_11, isRf_15, isRf_16, isRf_17, isRf_18, isRf_19, isRf_20, isRf_21, isRf_22, isRf_23, isRf_24, isRf_25, isRf_26, isRf_27, isRf_28, k_X4_prepare_0, k_X4_prepare_1, k_X4_prepare_2, k_X4_prepare_3, k_X4_prepare_4, k_X4_prepare_5, k_X4_prepare_6, k_X4_prepare_7, k_X4_prepare_9, k_X4_prepare_10, k_X4_prepare_12, k_X4_prepare_14, k_X4_prepare_15, k_X4_prepare_18, k_X4_prepare_19, k_X4_prepare_22, k_X4_prepare_25, k_X4_prepare_27, k_X4_prepare_29, k_X4_prepare_32, k_X4_prepare_33, k_X4_prepare_35, k_X4_prepare_36, k_X4_prepare_39, k_X4_prepare_40, k_X4_prepare_43, k_X4_prepare_46, k_X4_prepare_48, k_X4_prepare_49, k_X4_prepare_50, k_X4_prepare_51, k_X4_prepare_53, k_X4_prepare_54, k_X4_prepare_57, k_X4_prepare_58, k_X4_prepare_60, k_X4_prepare_62, k_X4_prepare_65, k_X4_prepare_66, k_X4_prepare_69, k_X4_prepare_71, k_X4_prepare_72, k_X4_prepare_73, k_X4_prepare_74, k_X4_prepare_75, k_X4_prepare_78, k_X4_prepare_79, k_X4_prepare_82, k_X4_prepare_83, k_X4_prepare_85, k_X4_prepare_86, k_X4_prepare_87, k_X4_prepare_88, k_X4_prepare_89, k_X4_prepare_91, k_X4_prepare_94, k_X4_prepare_95, k_X4_prepare_96, k_X4_prepare_99, k_X4_prepare_101, k_X4_prepare_102, k_X4_prepare_103, k_X4_prepare_104, k_X4_prepare_105, k_X4_prepare_108, k_X4_prepare_109, k_X4_prepare_112, k_X4_prepare_113, k_X4_prepare_115, k_X4_prepare_116, k_X4_prepare_117, k_X4_prepare_118, k_X4_prepare_119, k_X4_prepare_120, k_X4_prepare_121, k_X4_prepare_123, k_X4_prepare_126, k_X4_prepare_127, k_X4_prepare_128, k_X4_prepare_131, k_X4_prepare_133, k_X4_prepare_135, k_X4_prepare_136, k_X4_prepare_139, k_X4_prepare_140, k_X4_prepare_143, k_X4_prepare_144, k_X4_prepare_146, k_X4_prepare_147, k_X4_prepare_148, k_X4_prepare_149, k_X4_prepare_150, k_X4_prepare_151, k_X4_prepare_152, k_X4_prepare_154, k_X4_prepare_157, k_X4_prepare_158, k_X4_prepare_159, k_X4_prepare_162, k_X4_prepare_163, k_X4_prepare_165, k_X4_prepare_166, k_X4_prepare_167, k_X4_prepare_168, k_X4_prepare_169, k_X4_prepare_170, k_X4_prepare_171, k_X4_prepare_173, k_X4_prepare_176, k_X4_prepare_177, k_X4_prepare_180, k_X4_prepare_183]
    exact ⟨(pcnt σ 6 3).toNat, rfl, rfl, 0, _, σ 40, rfl, by omega, by rw [setv_id]; exact SF_rf σ, fun t t0 t1 => by omega⟩
