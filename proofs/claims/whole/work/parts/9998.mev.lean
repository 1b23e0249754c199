/-! the reference: an EVENING -/
theorem up_sv2 (σ : Mem) (a : Int) (f : Int → Int) (k v : Int) : up (setv σ a f) a k v = setv σ a (upf f k v) := by
  funext b j; unfold up setv upf
  by_cases e : b = a
  · subst e
    simp only [true_and, if_true]
  · rw [if_neg (fun q => e q.1), if_neg e, if_neg e]
theorem sv_id2 (σ : Mem) (a : Int) : setv σ a (σ a) = σ := by
  funext b j; unfold setv
  split
  · rename_i h; rw [h]
  · rfl
theorem setv_e2 (σ : Mem) (a : Int) (f : Int → Int) : setv σ a f a = f := by funext j; unfold setv; rw [if_pos rfl]
theorem upf_s2 (f : Int → Int) (k v : Int) : upf f k v k = v := by unfold upf; rw [if_pos rfl]
theorem upf_n2 (f : Int → Int) {k v j : Int} (h : j ≠ k) : upf f k v j = f j := by unfold upf; rw [if_neg h]
/-- TEARS and HEARTS behind an EVENING -/
def cR (r fl : Int → Int) (o n j : Int) : Int := if 0 ≤ j ∧ j < 4 * n ∧ j % 4 = 3 then min 9999 (r j + fl (j / 4)) else if 0 ≤ j ∧ j < 4 * n ∧ j % 4 = 0 ∧ bt o (j / 4) = 1 then max 0 (r j - 1) else r j
theorem cR_0 (r fl : Int → Int) (o : Int) : cR r fl o 0 = r := by funext j; unfold cR; rw [if_neg (by omega), if_neg (by omega)]
theorem cR_t (r fl : Int → Int) {o c : Int} (c0 : 0 ≤ c) (h : bt o c = 1) : upf (upf (cR r fl o c) (4 * c + 3) (min 9999 (r (4 * c + 3) + fl c))) (4 * c) (max 0 (r (4 * c) - 1)) = cR r fl o (c + 1) := by
  funext j
  by_cases e0 : j = 4 * c
  · subst e0
    rw [upf_s2]; unfold cR
    rw [if_neg (by omega), if_pos ⟨by omega, by omega, by omega, by rw [show 4 * c / 4 = c by omega]; exact h⟩]
  · rw [upf_n2 _ e0]
    by_cases e3 : j = 4 * c + 3
    · subst e3
      rw [upf_s2]; unfold cR
      rw [if_pos ⟨by omega, by omega, by omega⟩, show (4 * c + 3) / 4 = c by omega]
    · rw [upf_n2 _ e3]; unfold cR
      simp only [show (0 ≤ j ∧ j < 4 * (c + 1) ∧ j % 4 = 3) = (0 ≤ j ∧ j < 4 * c ∧ j % 4 = 3) from propext (by omega)]
      have e9 : (0 ≤ j ∧ j < 4 * (c + 1) ∧ j % 4 = 0 ∧ bt o (j / 4) = 1) = (0 ≤ j ∧ j < 4 * c ∧ j % 4 = 0 ∧ bt o (j / 4) = 1) := propext ⟨fun q => ⟨q.1, by omega, q.2.2⟩, fun q => ⟨q.1, by omega, q.2.2⟩⟩
      simp only [e9]
theorem cR_f (r fl : Int → Int) {o c : Int} (c0 : 0 ≤ c) (h : bt o c ≠ 1) : upf (cR r fl o c) (4 * c + 3) (min 9999 (r (4 * c + 3) + fl c)) = cR r fl o (c + 1) := by
  funext j
  by_cases e3 : j = 4 * c + 3
  · subst e3
    rw [upf_s2]; unfold cR
    rw [if_pos ⟨by omega, by omega, by omega⟩, show (4 * c + 3) / 4 = c by omega]
  · rw [upf_n2 _ e3]; unfold cR
    simp only [show (0 ≤ j ∧ j < 4 * (c + 1) ∧ j % 4 = 3) = (0 ≤ j ∧ j < 4 * c ∧ j % 4 = 3) from propext (by omega)]
    have e9 : (0 ≤ j ∧ j < 4 * (c + 1) ∧ j % 4 = 0 ∧ bt o (j / 4) = 1) = (0 ≤ j ∧ j < 4 * c ∧ j % 4 = 0 ∧ bt o (j / 4) = 1) := propext ⟨fun q => ⟨q.1, by
      by_cases e0 : j = 4 * c
      · subst e0
        have := q.2.2.2
        rw [show 4 * c / 4 = c by omega] at this
        exact absurd this h
      · omega, q.2.2⟩, fun q => ⟨q.1, by omega, q.2.2⟩⟩
    simp only [e9]
theorem cR_ge (r fl : Int → Int) (o : Int) {c j : Int} (h : 4 * c ≤ j) : cR r fl o c j = r j := by unfold cR; rw [if_neg (by omega), if_neg (by omega)]
/-- LOG: one forth -/
def sR (r : Int → Int) (k j : Int) : Int := if 28 ≤ j ∧ j < 28 + k then r (j + 3) else r j
theorem sR_0 (r : Int → Int) : sR r 0 = r := by funext j; unfold sR; rw [if_neg (by omega)]
theorem sR_s (r : Int → Int) {k : Int} (h : 0 ≤ k) : upf (sR r k) (28 + k) (r (28 + k + 3)) = sR r (k + 1) := by
  funext j
  by_cases e : j = 28 + k
  · subst e
    rw [upf_s2]; unfold sR; rw [if_pos (by omega)]
  · rw [upf_n2 _ e]; unfold sR
    simp only [show (28 ≤ j ∧ j < 28 + (k + 1)) = (28 ≤ j ∧ j < 28 + k) from propext (by omega)]
theorem sR_ge (r : Int → Int) {k j : Int} (h : 28 + k ≤ j ∨ j < 28) : sR r k j = r j := by unfold sR; rw [if_neg (by omega)]
def eR2 (r : Int → Int) : Int → Int := upf (upf r 24 0) 26 (r 26 + 1)
def eR3 (r : Int → Int) : Int → Int := if r 27 = 60 then upf (sR r 177) 27 59 else r
def eR4 (r : Int → Int) (p A o : Int) : Int → Int := upf (upf (upf (upf r (28 + 3 * r 27) p) (28 + 3 * r 27 + 1) A) (28 + 3 * r 27 + 2) o) 27 (r 27 + 1)
/-- the row of an audience behind an EVENING -/
def mER (r fl : Int → Int) (o n A p : Int) : Int → Int := eR4 (eR3 (eR2 (cR r fl o n))) p A o

theorem wd_1696 : Cond.methodLink RX12 362 yX12_goPlay ∈ TBL := tb_tab (List.mem_of_getElem? (i := 1696) (by decide +kernel)) rfl
theorem wd_1699 : Cond.code yX12_goPlay cX12_goPlay 6 (some .int) ∈ TBL := tb_tab (List.mem_of_getElem? (i := 1699) (by decide +kernel)) rfl
theorem lk_X12_362 : amLk RX12 362 yX12_goPlay cX12_goPlay 6 (some .int) 2 := ⟨wd_1696, wd_12, wd_1699, by decide +kernel, by decide +kernel, by decide⟩
theorem wd_1698 : Cond.instanceMethod yX12_goPlay ∈ TBL := tb_tab (List.mem_of_getElem? (i := 1698) (by decide +kernel)) rfl
theorem sl_X12_goPlay : Cond.selects RX12 yX12_goPlay yX12_goPlay ∈ TBL := tb_sel (List.mem_of_getElem? (i := 78) (by decide +kernel)) rfl
def a_X12_goEvening : AC := [(0, vAload 0 1), (1, vAload 1 2), (2, vIload 2 3), (3, vCallM w_X12_goPlay 28 2 6), (6, vIstore 3 7), (7, vI 0 8), (8, vIstore 4 10), (10, vIload 4 12), (12, vAload 0 13), (13, vGetI 28 29 16), (16, vIcGe 86 19), (19, vAload 1 20), (20, vI 4 21), (21, vIload 4 23), (23, vImul 24), (24, vI 3 25), (25, vIadd 26), (26, vI 9999 29), (29, vAload 1 30), (30, vI 4 31), (31, vIload 4 33), (33, vImul 34), (34, vI 3 35), (35, vIadd 36), (36, vIald TT 37), (37, vAload 0 38), (38, vGetR TT 28 42 8 41), (41, vIload 4 43), (43, vIald TT 44), (44, vIadd 45), (45, vCallS w_J9_min_7cf53 2 48), (48, vIast TT 49), (49, vIload 3 50), (50, vIload 4 52), (52, vCallS w_X12_has 2 55), (55, vIfEq 80 58), (58, vAload 1 59), (59, vI 4 60), (60, vIload 4 62), (62, vImul 63), (63, vI 0 64), (64, vIadd 65), (65, vI 0 66), (66, vAload 1 67), (67, vI 4 68), (68, vIload 4 70), (70, vImul 71), (71, vI 0 72), (72, vIadd 73), (73, vIald TT 74), (74, vI 1 75), (75, vIsub 76), (76, vCallS w_J9_max_7cf53 2 79), (79, vIast TT 80), (80, vIinc 4 1 83), (83, vGoto 10), (86, vAload 1 87), (87, vI 24 89), (89, vI 0 90), (90, vIast TT 91), (91, vAload 1 92), (92, vI 26 94), (94, vDup2 95), (95, vIald TT 96), (96, vI 1 97), (97, vIadd 98), (98, vIast TT 99), (99, vAload 1 100), (100, vI 27 102), (102, vIald TT 103), (103, vI 60 105), (105, vIcNe 149 108), (108, vI 1 109), (109, vIstore 4 111), (111, vIload 4 113), (113, vI 177 116), (116, vIcGt 141 119), (119, vAload 1 120), (120, vI 27 122), (122, vIload 4 124), (124, vIadd 125), (125, vAload 1 126), (126, vI 27 128), (128, vIload 4 130), (130, vIadd 131), (131, vI 3 132), (132, vIadd 133), (133, vIald TT 134), (134, vIast TT 135), (135, vIinc 4 1 138), (138, vGoto 111), (141, vAload 1 142), (142, vI 27 144), (144, vDup2 145), (145, vIald TT 146), (146, vI 1 147), (147, vIsub 148), (148, vIast TT 149), (149, vI 28 151), (151, vI 3 152), (152, vAload 1 153), (153, vI 27 155), (155, vIald TT 156), (156, vImul 157), (157, vIadd 158), (158, vIstore 4 160), (160, vAload 1 161), (161, vIload 4 163), (163, vIload 2 164), (164, vIast TT 165), (165, vAload 1 166), (166, vIload 4 168), (168, vI 1 169), (169, vIadd 170), (170, vAload 0 171), (171, vGetI 28 46 174), (174, vIast TT 175), (175, vAload 1 176), (176, vIload 4 178), (178, vI 2 179), (179, vIadd 180), (180, vIload 3 181), (181, vIast TT 182), (182, vAload 1 183), (183, vI 27 185), (185, vDup2 186), (186, vIald TT 187), (187, vI 1 188), (188, vIadd 189), (189, vIast TT 190), (190, vAload 0 191), (191, vGetI 28 46 194), (194, vIret)]
theorem k_X12_goEvening_0 : look a_X12_goEvening 0 = vAload 0 1 := rfl
theorem k_X12_goEvening_1 : look a_X12_goEvening 1 = vAload 1 2 := rfl
theorem k_X12_goEvening_2 : look a_X12_goEvening 2 = vIload 2 3 := rfl
theorem k_X12_goEvening_3 : look a_X12_goEvening 3 = vCallM w_X12_goPlay 28 2 6 := rfl
theorem k_X12_goEvening_6 : look a_X12_goEvening 6 = vIstore 3 7 := rfl
theorem k_X12_goEvening_7 : look a_X12_goEvening 7 = vI 0 8 := rfl
theorem k_X12_goEvening_8 : look a_X12_goEvening 8 = vIstore 4 10 := rfl
theorem k_X12_goEvening_10 : look a_X12_goEvening 10 = vIload 4 12 := rfl
theorem k_X12_goEvening_12 : look a_X12_goEvening 12 = vAload 0 13 := rfl
theorem k_X12_goEvening_13 : look a_X12_goEvening 13 = vGetI 28 29 16 := rfl
theorem k_X12_goEvening_16 : look a_X12_goEvening 16 = vIcGe 86 19 := rfl
theorem k_X12_goEvening_19 : look a_X12_goEvening 19 = vAload 1 20 := rfl
theorem k_X12_goEvening_20 : look a_X12_goEvening 20 = vI 4 21 := rfl
theorem k_X12_goEvening_21 : look a_X12_goEvening 21 = vIload 4 23 := rfl
theorem k_X12_goEvening_23 : look a_X12_goEvening 23 = vImul 24 := rfl
theorem k_X12_goEvening_24 : look a_X12_goEvening 24 = vI 3 25 := rfl
theorem k_X12_goEvening_25 : look a_X12_goEvening 25 = vIadd 26 := rfl
theorem k_X12_goEvening_26 : look a_X12_goEvening 26 = vI 9999 29 := rfl
theorem k_X12_goEvening_29 : look a_X12_goEvening 29 = vAload 1 30 := rfl
theorem k_X12_goEvening_30 : look a_X12_goEvening 30 = vI 4 31 := rfl
theorem k_X12_goEvening_31 : look a_X12_goEvening 31 = vIload 4 33 := rfl
theorem k_X12_goEvening_33 : look a_X12_goEvening 33 = vImul 34 := rfl
theorem k_X12_goEvening_34 : look a_X12_goEvening 34 = vI 3 35 := rfl
theorem k_X12_goEvening_35 : look a_X12_goEvening 35 = vIadd 36 := rfl
theorem k_X12_goEvening_36 : look a_X12_goEvening 36 = vIald TT 37 := rfl
theorem k_X12_goEvening_37 : look a_X12_goEvening 37 = vAload 0 38 := rfl
theorem k_X12_goEvening_38 : look a_X12_goEvening 38 = vGetR TT 28 42 8 41 := rfl
theorem k_X12_goEvening_41 : look a_X12_goEvening 41 = vIload 4 43 := rfl
theorem k_X12_goEvening_43 : look a_X12_goEvening 43 = vIald TT 44 := rfl
theorem k_X12_goEvening_44 : look a_X12_goEvening 44 = vIadd 45 := rfl
theorem k_X12_goEvening_45 : look a_X12_goEvening 45 = vCallS w_J9_min_7cf53 2 48 := rfl
theorem k_X12_goEvening_48 : look a_X12_goEvening 48 = vIast TT 49 := rfl
theorem k_X12_goEvening_49 : look a_X12_goEvening 49 = vIload 3 50 := rfl
theorem k_X12_goEvening_50 : look a_X12_goEvening 50 = vIload 4 52 := rfl
theorem k_X12_goEvening_52 : look a_X12_goEvening 52 = vCallS w_X12_has 2 55 := rfl
theorem k_X12_goEvening_55 : look a_X12_goEvening 55 = vIfEq 80 58 := rfl
theorem k_X12_goEvening_58 : look a_X12_goEvening 58 = vAload 1 59 := rfl
theorem k_X12_goEvening_59 : look a_X12_goEvening 59 = vI 4 60 := rfl
theorem k_X12_goEvening_60 : look a_X12_goEvening 60 = vIload 4 62 := rfl
theorem k_X12_goEvening_62 : look a_X12_goEvening 62 = vImul 63 := rfl
theorem k_X12_goEvening_63 : look a_X12_goEvening 63 = vI 0 64 := rfl
theorem k_X12_goEvening_64 : look a_X12_goEvening 64 = vIadd 65 := rfl
theorem k_X12_goEvening_65 : look a_X12_goEvening 65 = vI 0 66 := rfl
theorem k_X12_goEvening_66 : look a_X12_goEvening 66 = vAload 1 67 := rfl
theorem k_X12_goEvening_67 : look a_X12_goEvening 67 = vI 4 68 := rfl
theorem k_X12_goEvening_68 : look a_X12_goEvening 68 = vIload 4 70 := rfl
theorem k_X12_goEvening_70 : look a_X12_goEvening 70 = vImul 71 := rfl
theorem k_X12_goEvening_71 : look a_X12_goEvening 71 = vI 0 72 := rfl
theorem k_X12_goEvening_72 : look a_X12_goEvening 72 = vIadd 73 := rfl
theorem k_X12_goEvening_73 : look a_X12_goEvening 73 = vIald TT 74 := rfl
theorem k_X12_goEvening_74 : look a_X12_goEvening 74 = vI 1 75 := rfl
theorem k_X12_goEvening_75 : look a_X12_goEvening 75 = vIsub 76 := rfl
theorem k_X12_goEvening_76 : look a_X12_goEvening 76 = vCallS w_J9_max_7cf53 2 79 := rfl
theorem k_X12_goEvening_79 : look a_X12_goEvening 79 = vIast TT 80 := rfl
theorem k_X12_goEvening_80 : look a_X12_goEvening 80 = vIinc 4 1 83 := rfl
theorem k_X12_goEvening_83 : look a_X12_goEvening 83 = vGoto 10 := rfl
theorem k_X12_goEvening_86 : look a_X12_goEvening 86 = vAload 1 87 := rfl
theorem k_X12_goEvening_87 : look a_X12_goEvening 87 = vI 24 89 := rfl
theorem k_X12_goEvening_89 : look a_X12_goEvening 89 = vI 0 90 := rfl
theorem k_X12_goEvening_90 : look a_X12_goEvening 90 = vIast TT 91 := rfl
theorem k_X12_goEvening_91 : look a_X12_goEvening 91 = vAload 1 92 := rfl
theorem k_X12_goEvening_92 : look a_X12_goEvening 92 = vI 26 94 := rfl
theorem k_X12_goEvening_94 : look a_X12_goEvening 94 = vDup2 95 := rfl
theorem k_X12_goEvening_95 : look a_X12_goEvening 95 = vIald TT 96 := rfl
theorem k_X12_goEvening_96 : look a_X12_goEvening 96 = vI 1 97 := rfl
theorem k_X12_goEvening_97 : look a_X12_goEvening 97 = vIadd 98 := rfl
theorem k_X12_goEvening_98 : look a_X12_goEvening 98 = vIast TT 99 := rfl
theorem k_X12_goEvening_99 : look a_X12_goEvening 99 = vAload 1 100 := rfl
theorem k_X12_goEvening_100 : look a_X12_goEvening 100 = vI 27 102 := rfl
theorem k_X12_goEvening_102 : look a_X12_goEvening 102 = vIald TT 103 := rfl
theorem k_X12_goEvening_103 : look a_X12_goEvening 103 = vI 60 105 := rfl
theorem k_X12_goEvening_105 : look a_X12_goEvening 105 = vIcNe 149 108 := rfl
theorem k_X12_goEvening_108 : look a_X12_goEvening 108 = vI 1 109 := rfl
theorem k_X12_goEvening_109 : look a_X12_goEvening 109 = vIstore 4 111 := rfl
theorem k_X12_goEvening_111 : look a_X12_goEvening 111 = vIload 4 113 := rfl
theorem k_X12_goEvening_113 : look a_X12_goEvening 113 = vI 177 116 := rfl
theorem k_X12_goEvening_116 : look a_X12_goEvening 116 = vIcGt 141 119 := rfl
theorem k_X12_goEvening_119 : look a_X12_goEvening 119 = vAload 1 120 := rfl
theorem k_X12_goEvening_120 : look a_X12_goEvening 120 = vI 27 122 := rfl
theorem k_X12_goEvening_122 : look a_X12_goEvening 122 = vIload 4 124 := rfl
theorem k_X12_goEvening_124 : look a_X12_goEvening 124 = vIadd 125 := rfl
theorem k_X12_goEvening_125 : look a_X12_goEvening 125 = vAload 1 126 := rfl
theorem k_X12_goEvening_126 : look a_X12_goEvening 126 = vI 27 128 := rfl
theorem k_X12_goEvening_128 : look a_X12_goEvening 128 = vIload 4 130 := rfl
theorem k_X12_goEvening_130 : look a_X12_goEvening 130 = vIadd 131 := rfl
theorem k_X12_goEvening_131 : look a_X12_goEvening 131 = vI 3 132 := rfl
theorem k_X12_goEvening_132 : look a_X12_goEvening 132 = vIadd 133 := rfl
theorem k_X12_goEvening_133 : look a_X12_goEvening 133 = vIald TT 134 := rfl
theorem k_X12_goEvening_134 : look a_X12_goEvening 134 = vIast TT 135 := rfl
theorem k_X12_goEvening_135 : look a_X12_goEvening 135 = vIinc 4 1 138 := rfl
theorem k_X12_goEvening_138 : look a_X12_goEvening 138 = vGoto 111 := rfl
theorem k_X12_goEvening_141 : look a_X12_goEvening 141 = vAload 1 142 := rfl
theorem k_X12_goEvening_142 : look a_X12_goEvening 142 = vI 27 144 := rfl
theorem k_X12_goEvening_144 : look a_X12_goEvening 144 = vDup2 145 := rfl
theorem k_X12_goEvening_145 : look a_X12_goEvening 145 = vIald TT 146 := rfl
theorem k_X12_goEvening_146 : look a_X12_goEvening 146 = vI 1 147 := rfl
theorem k_X12_goEvening_147 : look a_X12_goEvening 147 = vIsub 148 := rfl
theorem k_X12_goEvening_148 : look a_X12_goEvening 148 = vIast TT 149 := rfl
theorem k_X12_goEvening_149 : look a_X12_goEvening 149 = vI 28 151 := rfl
theorem k_X12_goEvening_151 : look a_X12_goEvening 151 = vI 3 152 := rfl
theorem k_X12_goEvening_152 : look a_X12_goEvening 152 = vAload 1 153 := rfl
theorem k_X12_goEvening_153 : look a_X12_goEvening 153 = vI 27 155 := rfl
theorem k_X12_goEvening_155 : look a_X12_goEvening 155 = vIald TT 156 := rfl
theorem k_X12_goEvening_156 : look a_X12_goEvening 156 = vImul 157 := rfl
theorem k_X12_goEvening_157 : look a_X12_goEvening 157 = vIadd 158 := rfl
theorem k_X12_goEvening_158 : look a_X12_goEvening 158 = vIstore 4 160 := rfl
theorem k_X12_goEvening_160 : look a_X12_goEvening 160 = vAload 1 161 := rfl
theorem k_X12_goEvening_161 : look a_X12_goEvening 161 = vIload 4 163 := rfl
theorem k_X12_goEvening_163 : look a_X12_goEvening 163 = vIload 2 164 := rfl
theorem k_X12_goEvening_164 : look a_X12_goEvening 164 = vIast TT 165 := rfl
theorem k_X12_goEvening_165 : look a_X12_goEvening 165 = vAload 1 166 := rfl
theorem k_X12_goEvening_166 : look a_X12_goEvening 166 = vIload 4 168 := rfl
theorem k_X12_goEvening_168 : look a_X12_goEvening 168 = vI 1 169 := rfl
theorem k_X12_goEvening_169 : look a_X12_goEvening 169 = vIadd 170 := rfl
theorem k_X12_goEvening_170 : look a_X12_goEvening 170 = vAload 0 171 := rfl
theorem k_X12_goEvening_171 : look a_X12_goEvening 171 = vGetI 28 46 174 := rfl
theorem k_X12_goEvening_174 : look a_X12_goEvening 174 = vIast TT 175 := rfl
theorem k_X12_goEvening_175 : look a_X12_goEvening 175 = vAload 1 176 := rfl
theorem k_X12_goEvening_176 : look a_X12_goEvening 176 = vIload 4 178 := rfl
theorem k_X12_goEvening_178 : look a_X12_goEvening 178 = vI 2 179 := rfl
theorem k_X12_goEvening_179 : look a_X12_goEvening 179 = vIadd 180 := rfl
theorem k_X12_goEvening_180 : look a_X12_goEvening 180 = vIload 3 181 := rfl
theorem k_X12_goEvening_181 : look a_X12_goEvening 181 = vIast TT 182 := rfl
theorem k_X12_goEvening_182 : look a_X12_goEvening 182 = vAload 1 183 := rfl
theorem k_X12_goEvening_183 : look a_X12_goEvening 183 = vI 27 185 := rfl
theorem k_X12_goEvening_185 : look a_X12_goEvening 185 = vDup2 186 := rfl
theorem k_X12_goEvening_186 : look a_X12_goEvening 186 = vIald TT 187 := rfl
theorem k_X12_goEvening_187 : look a_X12_goEvening 187 = vI 1 188 := rfl
theorem k_X12_goEvening_188 : look a_X12_goEvening 188 = vIadd 189 := rfl
theorem k_X12_goEvening_189 : look a_X12_goEvening 189 = vIast TT 190 := rfl
theorem k_X12_goEvening_190 : look a_X12_goEvening 190 = vAload 0 191 := rfl
theorem k_X12_goEvening_191 : look a_X12_goEvening 191 = vGetI 28 46 194 := rfl
theorem k_X12_goEvening_194 : look a_X12_goEvening 194 = vIret := rfl
theorem o_X12_goEvening {X : amX} (e1 : XT X = TT) (e2 : XD X = 60) (hB : amB X RX12 cX12_goEvening (some .int) 5) : ∀ pc, amOK X pc (look a_X12_goEvening pc) := by
  have hT : amTok (XT X) := e1 ▸ TT_ok
  refine look_ok ?_
  unfold a_X12_goEvening
  refine fc (ok_aload_n hB dX12_goEvening_0) ?_
  refine fc (ok_aload_n hB dX12_goEvening_1) ?_
  refine fc (ok_iload_n hB dX12_goEvening_2) ?_
  refine fc (ok_callM hB hT (e1 ▸ s_X12_goPlay) lk_X12_362 (by rw [e2]; decide) (c := 12) rfl rfl rfl wd_1698 sl_X12_goPlay dX12_goEvening_3) ?_
  refine fc (ok_istore_n hB (by decide) dX12_goEvening_6) ?_
  refine fc (ok_iconst hB dX12_goEvening_7) ?_
  refine fc (ok_istore hB (by decide) dX12_goEvening_8) ?_
  refine fc (ok_iload hB dX12_goEvening_10) ?_
  refine fc (ok_aload_n hB dX12_goEvening_12) ?_
  refine fc (ok_getI hB hT fl_X12_317 rfl rfl (Or.inl af_12_29) dX12_goEvening_13) ?_
  refine fc (ok_icmp_ge hB (t := 86) (by decide) dX12_goEvening_16) ?_
  refine fc (ok_aload_n hB dX12_goEvening_19) ?_
  refine fc (ok_iconst hB dX12_goEvening_20) ?_
  refine fc (ok_iload hB dX12_goEvening_21) ?_
  refine fc (ok_imul hB dX12_goEvening_23) ?_
  refine fc (ok_iconst hB dX12_goEvening_24) ?_
  refine fc (ok_iadd hB dX12_goEvening_25) ?_
  refine fc (ok_sipush hB dX12_goEvening_26 (by decide)) ?_
  refine fc (ok_aload_n hB dX12_goEvening_29) ?_
  refine fc (ok_iconst hB dX12_goEvening_30) ?_
  refine fc (ok_iload hB dX12_goEvening_31) ?_
  refine fc (ok_imul hB dX12_goEvening_33) ?_
  refine fc (ok_iconst hB dX12_goEvening_34) ?_
  refine fc (ok_iadd hB dX12_goEvening_35) ?_
  refine fc (okt_iaload e1 hB dX12_goEvening_36) ?_
  refine fc (ok_aload_n hB dX12_goEvening_37) ?_
  refine fc (okt_getR e1 hB hT fl_X12_87 rfl af_12_42 at_12_42 (by decide) dX12_goEvening_38) ?_
  refine fc (ok_iload hB dX12_goEvening_41) ?_
  refine fc (okt_iaload e1 hB dX12_goEvening_43) ?_
  refine fc (ok_iadd hB dX12_goEvening_44) ?_
  refine fc (ok_callS hB (e1 ▸ s_J9_min_7cf53) lk_X12_345 (by rw [e2]; decide) wd_452 dX12_goEvening_45) ?_
  refine fc (okt_iastore e1 hB dX12_goEvening_48) ?_
  refine fc (ok_iload_n hB dX12_goEvening_49) ?_
  refine fc (ok_iload hB dX12_goEvening_50) ?_
  refine fc (ok_callS hB (e1 ▸ s_X12_has) lk_X12_244 (by rw [e2]; decide) wd_1538 dX12_goEvening_52) ?_
  refine fc (ok_if_eq hB (t := 80) (by decide) dX12_goEvening_55) ?_
  refine fc (ok_aload_n hB dX12_goEvening_58) ?_
  refine fc (ok_iconst hB dX12_goEvening_59) ?_
  refine fc (ok_iload hB dX12_goEvening_60) ?_
  refine fc (ok_imul hB dX12_goEvening_62) ?_
  refine fc (ok_iconst hB dX12_goEvening_63) ?_
  refine fc (ok_iadd hB dX12_goEvening_64) ?_
  refine fc (ok_iconst hB dX12_goEvening_65) ?_
  refine fc (ok_aload_n hB dX12_goEvening_66) ?_
  refine fc (ok_iconst hB dX12_goEvening_67) ?_
  refine fc (ok_iload hB dX12_goEvening_68) ?_
  refine fc (ok_imul hB dX12_goEvening_70) ?_
  refine fc (ok_iconst hB dX12_goEvening_71) ?_
  refine fc (ok_iadd hB dX12_goEvening_72) ?_
  refine fc (okt_iaload e1 hB dX12_goEvening_73) ?_
  refine fc (ok_iconst hB dX12_goEvening_74) ?_
  refine fc (ok_isub hB dX12_goEvening_75) ?_
  refine fc (ok_callS hB (e1 ▸ s_J9_max_7cf53) lk_X12_347 (by rw [e2]; decide) wd_449 dX12_goEvening_76) ?_
  refine fc (okt_iastore e1 hB dX12_goEvening_79) ?_
  refine fc (ok_iinc hB (by decide) dX12_goEvening_80) ?_
  refine fc (ok_goto hB (t := 10) (by decide) dX12_goEvening_83) ?_
  refine fc (ok_aload_n hB dX12_goEvening_86) ?_
  refine fc (ok_bipush hB dX12_goEvening_87 (by decide)) ?_
  refine fc (ok_iconst hB dX12_goEvening_89) ?_
  refine fc (okt_iastore e1 hB dX12_goEvening_90) ?_
  refine fc (ok_aload_n hB dX12_goEvening_91) ?_
  refine fc (ok_bipush hB dX12_goEvening_92 (by decide)) ?_
  refine fc (ok_dup2 hB dX12_goEvening_94) ?_
  refine fc (okt_iaload e1 hB dX12_goEvening_95) ?_
  refine fc (ok_iconst hB dX12_goEvening_96) ?_
  refine fc (ok_iadd hB dX12_goEvening_97) ?_
  refine fc (okt_iastore e1 hB dX12_goEvening_98) ?_
  refine fc (ok_aload_n hB dX12_goEvening_99) ?_
  refine fc (ok_bipush hB dX12_goEvening_100 (by decide)) ?_
  refine fc (okt_iaload e1 hB dX12_goEvening_102) ?_
  refine fc (ok_bipush hB dX12_goEvening_103 (by decide)) ?_
  refine fc (ok_icmp_ne hB (t := 149) (by decide) dX12_goEvening_105) ?_
  refine fc (ok_iconst hB dX12_goEvening_108) ?_
  refine fc (ok_istore hB (by decide) dX12_goEvening_109) ?_
  refine fc (ok_iload hB dX12_goEvening_111) ?_
  refine fc (ok_sipush hB dX12_goEvening_113 (by decide)) ?_
  refine fc (ok_icmp_gt hB (t := 141) (by decide) dX12_goEvening_116) ?_
  refine fc (ok_aload_n hB dX12_goEvening_119) ?_
  refine fc (ok_bipush hB dX12_goEvening_120 (by decide)) ?_
  refine fc (ok_iload hB dX12_goEvening_122) ?_
  refine fc (ok_iadd hB dX12_goEvening_124) ?_
  refine fc (ok_aload_n hB dX12_goEvening_125) ?_
  refine fc (ok_bipush hB dX12_goEvening_126 (by decide)) ?_
  refine fc (ok_iload hB dX12_goEvening_128) ?_
  refine fc (ok_iadd hB dX12_goEvening_130) ?_
  refine fc (ok_iconst hB dX12_goEvening_131) ?_
  refine fc (ok_iadd hB dX12_goEvening_132) ?_
  refine fc (okt_iaload e1 hB dX12_goEvening_133) ?_
  refine fc (okt_iastore e1 hB dX12_goEvening_134) ?_
  refine fc (ok_iinc hB (by decide) dX12_goEvening_135) ?_
  refine fc (ok_goto hB (t := 111) (by decide) dX12_goEvening_138) ?_
  refine fc (ok_aload_n hB dX12_goEvening_141) ?_
  refine fc (ok_bipush hB dX12_goEvening_142 (by decide)) ?_
  refine fc (ok_dup2 hB dX12_goEvening_144) ?_
  refine fc (okt_iaload e1 hB dX12_goEvening_145) ?_
  refine fc (ok_iconst hB dX12_goEvening_146) ?_
  refine fc (ok_isub hB dX12_goEvening_147) ?_
  refine fc (okt_iastore e1 hB dX12_goEvening_148) ?_
  refine fc (ok_bipush hB dX12_goEvening_149 (by decide)) ?_
  refine fc (ok_iconst hB dX12_goEvening_151) ?_
  refine fc (ok_aload_n hB dX12_goEvening_152) ?_
  refine fc (ok_bipush hB dX12_goEvening_153 (by decide)) ?_
  refine fc (okt_iaload e1 hB dX12_goEvening_155) ?_
  refine fc (ok_imul hB dX12_goEvening_156) ?_
  refine fc (ok_iadd hB dX12_goEvening_157) ?_
  refine fc (ok_istore hB (by decide) dX12_goEvening_158) ?_
  refine fc (ok_aload_n hB dX12_goEvening_160) ?_
  refine fc (ok_iload hB dX12_goEvening_161) ?_
  refine fc (ok_iload_n hB dX12_goEvening_163) ?_
  refine fc (okt_iastore e1 hB dX12_goEvening_164) ?_
  refine fc (ok_aload_n hB dX12_goEvening_165) ?_
  refine fc (ok_iload hB dX12_goEvening_166) ?_
  refine fc (ok_iconst hB dX12_goEvening_168) ?_
  refine fc (ok_iadd hB dX12_goEvening_169) ?_
  refine fc (ok_aload_n hB dX12_goEvening_170) ?_
  refine fc (ok_getI hB hT fl_X12_352 rfl rfl (Or.inl af_12_46) dX12_goEvening_171) ?_
  refine fc (okt_iastore e1 hB dX12_goEvening_174) ?_
  refine fc (ok_aload_n hB dX12_goEvening_175) ?_
  refine fc (ok_iload hB dX12_goEvening_176) ?_
  refine fc (ok_iconst hB dX12_goEvening_178) ?_
  refine fc (ok_iadd hB dX12_goEvening_179) ?_
  refine fc (ok_iload_n hB dX12_goEvening_180) ?_
  refine fc (okt_iastore e1 hB dX12_goEvening_181) ?_
  refine fc (ok_aload_n hB dX12_goEvening_182) ?_
  refine fc (ok_bipush hB dX12_goEvening_183 (by decide)) ?_
  refine fc (ok_dup2 hB dX12_goEvening_185) ?_
  refine fc (okt_iaload e1 hB dX12_goEvening_186) ?_
  refine fc (ok_iconst hB dX12_goEvening_187) ?_
  refine fc (ok_iadd hB dX12_goEvening_188) ?_
  refine fc (okt_iastore e1 hB dX12_goEvening_189) ?_
  refine fc (ok_aload_n hB dX12_goEvening_190) ?_
  refine fc (ok_getI hB hT fl_X12_352 rfl rfl (Or.inl af_12_46) dX12_goEvening_191) ?_
  refine fc (ok_iret hB dX12_goEvening_194) ?_
  exact fn
def inv_gev (σ : Mem) (a p : Int) (F : Int → Int) (O A : Int) (n pc : Nat) (ls st : List AV) (σ' : Mem) : Prop := st = [] ∧ ∃ τ, PF σ τ ∧ mOk τ ∧ τ 5000 46 = A ∧ (∀ j, 0 ≤ j → j < σ 5000 29 → τ 5019 j = F j) ∧
  ((∃ c : Nat, pc = 10 ∧ ls = [(28, 5000), (8, a), (0, p), (0, O), (0, (c : Int))] ∧ (n : Int) = 300 + (6 - c) ∧ (c : Int) ≤ σ 5000 29 ∧ σ' = setv τ a (cR (σ a) F O c)) ∨
   (∃ k : Nat, pc = 111 ∧ ls = [(28, 5000), (8, a), (0, p), (0, O), (0, (k : Int) + 1)] ∧ k + n = 177 ∧ σ a 27 = 60 ∧ σ' = setv τ a (sR (eR2 (cR (σ a) F O (σ 5000 29))) k)))
def w_X12_goEvening : WP := fun av σ Q => ∃ (a : Int) (p : Int), av = [(28, 5000), (8, a), (0, p)] ∧ (mP σ a ∧ 0 ≤ p ∧ (p < 4 ∧ p < σ 5000 28) ∧ (∀ c, 0 ≤ c → c < σ 5000 29 → 0 ≤ σ a (4 * c + 3) ∧ σ a (4 * c + 3) ≤ 9999) ∧ 0 ≤ σ a 27 ∧ σ a 27 ≤ 60 ∧ (∀ τ, PF σ τ → mOk τ → Q (0, sumC (mFl σ a p (σ 5007 (4 * p + 3)).toNat) (σ 5000 29).toNat) (setv τ a (mER (σ a) (mFl σ a p (σ 5007 (4 * p + 3)).toNat) (mOu σ a p (σ 5007 (4 * p + 3)).toNat) (σ 5000 29) (sumC (mFl σ a p (σ 5007 (4 * p + 3)).toNat) (σ 5000 29).toNat) p))))
theorem w_X12_goEvening_e (a : Int) (p : Int) (σ : Mem) (Q : AV → Mem → Prop) : w_X12_goEvening [(28, 5000), (8, a), (0, p)] σ Q = (mP σ a ∧ 0 ≤ p ∧ (p < 4 ∧ p < σ 5000 28) ∧ (∀ c, 0 ≤ c → c < σ 5000 29 → 0 ≤ σ a (4 * c + 3) ∧ σ a (4 * c + 3) ≤ 9999) ∧ 0 ≤ σ a 27 ∧ σ a 27 ≤ 60 ∧ (∀ τ, PF σ τ → mOk τ → Q (0, sumC (mFl σ a p (σ 5007 (4 * p + 3)).toNat) (σ 5000 29).toNat) (setv τ a (mER (σ a) (mFl σ a p (σ 5007 (4 * p + 3)).toNat) (mOu σ a p (σ 5007 (4 * p + 3)).toNat) (σ 5000 29) (sumC (mFl σ a p (σ 5007 (4 * p + 3)).toNat) (σ 5000 29).toNat) p)))) := by
  apply propext; constructor
  · rintro ⟨a', p', h9, hb9⟩; cases h9; exact hb9
  · intro hb9; exact ⟨a, p, rfl, hb9⟩

set_option maxRecDepth 100000 in
set_option maxHeartbeats 4000000 in
theorem s_X12_goEvening : ∀ av σ Q, w_X12_goEvening av σ Q → amCall 60 0 0 TT yX12_goEvening cX12_goEvening 5 (some .int) av σ Q := by
  rintro av σ Q ⟨a, p, rfl, hP, p0, p1, hte, g0, g1, hq⟩
  obtain ⟨ha, hok, hli, ⟨n0, n6⟩, hcs, hil, hev, hpl, hsi, hl0, hl1⟩ := id hP
  have a0 : 0 ≤ a := by omega
  have al : ∀ τ, alen TT τ a = 208 := isW_al ha
  have hM := hpl (4 * p + 3) (by omega) (by omega)
  have fb := fun (c : Nat) (hc : (c : Int) < σ 5000 29) => mFl_b (w := a) (p := p) hc (σ 5007 (4 * p + 3)).toNat
  have ob := mOu_b σ a p n6 (σ 5007 (4 * p + 3)).toNat
  generalize hF : mFl σ a p (σ 5007 (4 * p + 3)).toNat = F at *
  generalize hO : mOu σ a p (σ 5007 (4 * p + 3)).toNat = O at *
  generalize hA : sumC F (σ 5000 29).toNat = A at *
  have sa : ∀ (τ : Mem) f, setv τ a f a = f := fun τ f => setv_e2 τ a f
  have s5 : ∀ (τ : Mem) f, setv τ a f 5000 = τ 5000 := fun τ f => setv_o _ _ (by omega)
  have s19 : ∀ (τ : Mem) f, setv τ a f 5019 = τ 5019 := fun τ f => setv_o _ _ (by omega)
  have us : ∀ (τ : Mem) f k v, up (setv τ a f) a k v = setv τ a (upf f k v) := fun τ f k v => up_sv2 τ a f k v
  have c27 : cR (σ a) F O (σ 5000 29) 27 = σ a 27 := cR_ge _ _ _ (by omega)
  have c26 : cR (σ a) F O (σ 5000 29) 26 = σ a 26 := cR_ge _ _ _ (by omega)
  have q27 : eR2 (cR (σ a) F O (σ 5000 29)) 27 = σ a 27 := by unfold eR2; rw [upf_n2 _ (by decide), upf_n2 _ (by decide)]; exact c27
  have fin : ∀ τ g (L : Int), PF σ τ → mOk τ → g = eR3 (eR2 (cR (σ a) F O (σ 5000 29))) → g 27 = L → Q (0, A) (setv τ a (upf (upf (upf (upf g (28 + 3 * L) p) (28 + 3 * L + 1) A) (28 + 3 * L + 2) O) 27 (L + 1))) := fun τ g L h1 h2 h3 h4 => by
    have := hq τ h1 h2
    unfold mER eR4 at this
    rw [← h3, h4] at this; exact this
  refine am_m [10, 111] (inv_gev σ a p F O A) (own := RX12) (A := look a_X12_goEvening) (fun X e1 e2 hB => o_X12_goEvening e1 e2 hB) rfl (by decide +kernel) rfl rfl ?_ ⟨60, ?_⟩ (w := 5)
  · rintro n pc ls st σ' ⟨rfl, τ, hPF, hm, h46, hfe, ⟨c, rfl, rfl, hn, hc, rfl⟩ | ⟨k, rfl, rfl, hn, h60, rfl⟩⟩
    · have e29 := hPF.2 29 (by decide) (by decide) (by decide) (by decide)
      by_cases cc : (c : Int) < σ 5000 29
      · have fc := fb c cc
        have htc := hte c (by omega) cc
        have hhc := (hcs c (by omega) cc).2
        have f9 := hfe c (by omega) cc
        have r3 : cR (σ a) F O c (4 * c + 3) = σ a (4 * c + 3) := cR_ge _ _ _ (by omega)
        have r0 : ∀ v, upf (cR (σ a) F O c) (4 * c + 3) v (4 * c) = σ a (4 * c) := fun v => by rw [upf_n2 _ (by omega)]; exact cR_ge _ _ _ (by omega)
        have b01 := bt_b O c
        have emi : (if σ a (4 * c + 3) + F c < 9999 then σ a (4 * c + 3) + F c else 9999) = min 9999 (σ a (4 * c + 3) + F c) := by split <;> omega
        have ema : (if (0 : Int) < σ a (4 * c) - 1 then σ a (4 * c) - 1 else 0) = max 0 (σ a (4 * c) - 1) := by split <;> omega
        by_cases d : bt O c = 1
        · have i9 : ∃ k', k' < n ∧ inv_gev σ a p F O A k' 10 [(28, 5000), (8, a), (0, p), (0, O), (0, (c : Int) + 1)] [] (setv τ a (upf (upf (cR (σ a) F O c) (4 * c + 3) (min 9999 (σ a (4 * c + 3) + F c))) (4 * c) (max 0 (σ a (4 * c) - 1)))) :=
            ⟨n - 1, by omega, rfl, τ, hPF, hm, h46, hfe, Or.inl ⟨c + 1, rfl, rfl, by omega, by omega, by rw [cR_t _ _ (by omega) d]; rfl⟩⟩
          refine ⟨90, ?_⟩
          simp only [↓reduceIte, inR_0, inR_1, inR_m, vSw2_e, swP_n, swP_c, vI_e, vL_e, vNull_e, vIload_e, vLload_e, vAload_e, vIstore_e, vLstore_e, vAstore_e, vIinc_e, vIadd_e, vIsub_e, vImul_e, vIand_e, vIor_e, vIxor_e, vIshl_e, vIshr_e, vIushr_e, vIdiv_e, vIrem_e, vLadd_e, vLsub_e, vLmul_e, vLand_e, vLor_e, vLxor_e, vLdiv_e, vLrem_e, vLushr_e, vLshl_e, vLcmp_e, vIneg_e, vI2l_e, vL2i_e, vI2b_e, vI2c_e, vDup_e, vPop_e, vDup2_e, vGoto_e, vIcEq_e, vIfEq_e, vIcNe_e, vIfNe_e, vIcLt_e, vIfLt_e, vIcGe_e, vIfGe_e, vIcGt_e, vIfGt_e, vIcLe_e, vIfLe_e, vNonnull_e, vSw_e, vGetI_e, vGetL_e, vGetR_e, vPutI_e, vPutZ_e, vPutL_e, vPutR_e, vIald_e, vIald_s, vLald_e, vBald_e, vBald_s, vAald_e, vIast_e, vLast_e, vBast_e, vAast_e, vAlen_e8, vAlen_e9, vAlen_e10, vAlen_e11, vAlen_e5, vAlen_e3, vGets_e, vCompact_e, vLdcS_e, vIret_e, vZret_e, vCret_e, vBret_e, vLret_e, vVret_e, vAret_e, vCallM_e0, vCallMV_e0, vCallS_e0, vCallSV_e0, vCallM_e1, vCallMV_e1, vCallS_e1, vCallSV_e1, vCallM_e2, vCallMV_e2, vCallS_e2, vCallSV_e2, vCallM_e3, vCallMV_e3, vCallS_e3, vCallSV_e3, vCallM_e4, vCallMV_e4, vCallS_e4, vCallSV_e4, vCallM_e5, vCallMV_e5, vCallS_e5, vCallSV_e5, vCallM_e6, vCallMV_e6, vCallS_e6, vCallSV_e6, vCallM_e7, vCallMV_e7, vCallS_e7, vCallSV_e7, vBad_e, vStrVal_e, vStrCod_e, vForm_e, vCallT_e0, vCallT_e1, vCallT_e2, vCopy_e, rf_0_0, rf_0_1, rf_0_2, rf_0_3, rf_0_4, rf_0_7, rf_0_10, rf_0_11, rf_0_12, rf_0_13, rf_0_14, rf_0_15, rf_0_16, rf_1_0, rf_3_0, rf_3_1, rf_6_0, rf_6_1, rf_9_0, rf_9_1, rf_9_3, rf_13_0, rf_13_1, rf_13_2, rf_16_0, rf_16_1, rf_16_2, rf_16_3, rf_21_0, rf_21_1, rf_21_2, rf_21_3, rf_26_0, rf_26_1, rf_26_2, rf_26_3, rf_26_4, rf_26_5, rf_26_6, rf_31_0, rf_31_2, rf_31_5, rf_31_6, rf_36_0, rf_36_1, rf_36_2, rf_36_3, rf_39_0, rf_39_1, rf_39_2, rf_41_0, rf_41_1, rf_41_2, rf_41_3, rf_5000_1, rf_5000_2, rf_5000_3, rf_5000_4, rf_5000_5, rf_5000_15, rf_5000_16, rf_5000_18, rf_5000_19, rf_5000_20, rf_5000_21, rf_5000_22, rf_5000_23, rf_5000_24, rf_5000_25, rf_5000_26, rf_5000_27, rf_5000_36, rf_5000_37, rf_5000_40, rf_5000_41, rf_5000_42, rf_5000_43, rf_5000_44, rf_5000_45, rf_5000_47, rf_5000_52, rf_5000_54, rf_5000_55, rf_100_0, rf_100_1, rf_103_0, rf_103_1, rf_106_0, rf_106_1, rf_109_0, rf_109_1, al_2, al_4, al_5, al_7, al_8, al_10, al_11, al_12, al_14, al_15, al_17, al_18, al_19, al_20, al_22, al_23, al_24, al_25, al_27, al_28, al_29, al_30, al_32, al_33, al_34, al_35, al_37, al_38, al_40, al_42, al_5001, al_5002, al_5003, al_5004, al_5005, al_5006, al_5007, al_5008, al_5009, al_5010, al_5011, al_5012, al_5013, al_5014, al_5015, al_5016, al_5017, al_5018, al_5019, al_5020, al_5021, al_5022, al_5023, al_5024, al_5025, al_5026, al_9000, al_101, al_102, al_104, al_105, al_107, al_108, al_110, al_111, vcs_e, lg_c0, lg_cs, lg_nil, set_c0, set_cs, okst_0, okst_s, acok_n, acok_c, List.contains_nil, List.contains_cons, Bool.or_false, Bool.false_or, Bool.false_eq_true, if_false, if_true, ite_self, ne_eq, true_and, and_true, not_false_eq_true, not_true_eq_false, false_imp_iff, true_imp_iff, Nat.ble_eq, Bool.and_eq_true, reduceCtorEq, or_false, false_or, or_true, true_or, false_and, and_false, and_self, Int.reduceLE, Int.reduceAdd, Int.reduceSub, Int.reduceMul, Int.reduceNeg, Int.reduceLT, Int.reduceEq, Int.reduceNe, Nat.reduceBEq, Nat.reduceBNe, Nat.reduceEqDiff, amCmp_in, amCmp_lt, amCmp_le, amCmp_gt, amCmp_ge, amCmp_eq, amCmp_ne, Nat.reduceLeDiff, Nat.reduceSub, Bool.and_true, Bool.true_and, Bool.and_self, Bool.or_true, Bool.true_or, isRf_3, isRf_4, isRf_5, isRf_8, isRf_9, isRf_10, isRf_11, isRf_15, isRf_16, isRf_17, isRf_18, isRf_19, isRf_20, isRf_21, isRf_22, isRf_23, isRf_24, isRf_25, isRf_26, isRf_27, isRf_28, k_X12_goEvening_0, k_X12_goEvening_1, k_X12_goEvening_2, k_X12_goEvening_3, k_X12_goEvening_6, k_X12_goEvening_7, k_X12_goEvening_8, k_X12_goEvening_10, k_X12_goEvening_12, k_X12_goEvening_13, k_X12_goEvening_16, k_X12_goEvening_19, k_X12_goEvening_20, k_X12_goEvening_21, k_X12_goEvening_23, k_X12_goEvening_24, k_X12_goEvening_25, k_X12_goEvening_26, k_X12_goEvening_29, k_X12_goEvening_30, k_X12_goEvening_31, k_X12_goEvening_33, k_X12_goEvening_34, k_X12_goEvening_35, k_X12_goEvening_36, k_X12_goEvening_37, k_X12_goEvening_38, k_X12_goEvening_41, k_X12_goEvening_43, k_X12_goEvening_44, k_X12_goEvening_45, k_X12_goEvening_48, k_X12_goEvening_49, k_X12_goEvening_50, k_X12_goEvening_52, k_X12_goEvening_55, k_X12_goEvening_58, k_X12_goEvening_59, k_X12_goEvening_60, k_X12_goEvening_62, k_X12_goEvening_63, k_X12_goEvening_64, k_X12_goEvening_65, k_X12_goEvening_66, k_X12_goEvening_67, k_X12_goEvening_68, k_X12_goEvening_70, k_X12_goEvening_71, k_X12_goEvening_72, k_X12_goEvening_73, k_X12_goEvening_74, k_X12_goEvening_75, k_X12_goEvening_76, k_X12_goEvening_79, k_X12_goEvening_80, k_X12_goEvening_83, k_X12_goEvening_86, k_X12_goEvening_87, k_X12_goEvening_89, k_X12_goEvening_90, k_X12_goEvening_91, k_X12_goEvening_92, k_X12_goEvening_94, k_X12_goEvening_95, k_X12_goEvening_96, k_X12_goEvening_97, k_X12_goEvening_98, k_X12_goEvening_99, k_X12_goEvening_100, k_X12_goEvening_102, k_X12_goEvening_103, k_X12_goEvening_105, k_X12_goEvening_108, k_X12_goEvening_109, k_X12_goEvening_111, k_X12_goEvening_113, k_X12_goEvening_116, k_X12_goEvening_119, k_X12_goEvening_120, k_X12_goEvening_122, k_X12_goEvening_124, k_X12_goEvening_125, k_X12_goEvening_126, k_X12_goEvening_128, k_X12_goEvening_130, k_X12_goEvening_131, k_X12_goEvening_132, k_X12_goEvening_133, k_X12_goEvening_134, k_X12_goEvening_135, k_X12_goEvening_138, k_X12_goEvening_141, k_X12_goEvening_142, k_X12_goEvening_144, k_X12_goEvening_145, k_X12_goEvening_146, k_X12_goEvening_147, k_X12_goEvening_148, k_X12_goEvening_149, k_X12_goEvening_151, k_X12_goEvening_152, k_X12_goEvening_153, k_X12_goEvening_155, k_X12_goEvening_156, k_X12_goEvening_157, k_X12_goEvening_158, k_X12_goEvening_160, k_X12_goEvening_161, k_X12_goEvening_163, k_X12_goEvening_164, k_X12_goEvening_165, k_X12_goEvening_166, k_X12_goEvening_168, k_X12_goEvening_169, k_X12_goEvening_170, k_X12_goEvening_171, k_X12_goEvening_174, k_X12_goEvening_175, k_X12_goEvening_176, k_X12_goEvening_178, k_X12_goEvening_179, k_X12_goEvening_180, k_X12_goEvening_181, k_X12_goEvening_182, k_X12_goEvening_183, k_X12_goEvening_185, k_X12_goEvening_186, k_X12_goEvening_187, k_X12_goEvening_188, k_X12_goEvening_189, k_X12_goEvening_190, k_X12_goEvening_191, k_X12_goEvening_194, w_J9_max_7cf53_e, w_J9_min_7cf53_e, w_X12_goPlay_e, w_X12_has_e, al, a0, sa, s5, s19, us, e29, f9, r3, r0, emi, ema, d, Int.add_zero]
          repeat' (first | assumption | apply And.intro | intro _)
          all_goals first | omega | exact absurd trivial (by assumption) | exact i9
        · have d0 : bt O c = 0 := by omega
          have i9 : ∃ k', k' < n ∧ inv_gev σ a p F O A k' 10 [(28, 5000), (8, a), (0, p), (0, O), (0, (c : Int) + 1)] [] (setv τ a (upf (cR (σ a) F O c) (4 * c + 3) (min 9999 (σ a (4 * c + 3) + F c)))) :=
            ⟨n - 1, by omega, rfl, τ, hPF, hm, h46, hfe, Or.inl ⟨c + 1, rfl, rfl, by omega, by omega, by rw [cR_f _ _ (by omega) d]; rfl⟩⟩
          refine ⟨90, ?_⟩
          simp only [↓reduceIte, inR_0, inR_1, inR_m, vSw2_e, swP_n, swP_c, vI_e, vL_e, vNull_e, vIload_e, vLload_e, vAload_e, vIstore_e, vLstore_e, vAstore_e, vIinc_e, vIadd_e, vIsub_e, vImul_e, vIand_e, vIor_e, vIxor_e, vIshl_e, vIshr_e, vIushr_e, vIdiv_e, vIrem_e, vLadd_e, vLsub_e, vLmul_e, vLand_e, vLor_e, vLxor_e, vLdiv_e, vLrem_e, vLushr_e, vLshl_e, vLcmp_e, vIneg_e, vI2l_e, vL2i_e, vI2b_e, vI2c_e, vDup_e, vPop_e, vDup2_e, vGoto_e, vIcEq_e, vIfEq_e, vIcNe_e, vIfNe_e, vIcLt_e, vIfLt_e, vIcGe_e, vIfGe_e, vIcGt_e, vIfGt_e, vIcLe_e, vIfLe_e, vNonnull_e, vSw_e, vGetI_e, vGetL_e, vGetR_e, vPutI_e, vPutZ_e, vPutL_e, vPutR_e, vIald_e, vIald_s, vLald_e, vBald_e, vBald_s, vAald_e, vIast_e, vLast_e, vBast_e, vAast_e, vAlen_e8, vAlen_e9, vAlen_e10, vAlen_e11, vAlen_e5, vAlen_e3, vGets_e, vCompact_e, vLdcS_e, vIret_e, vZret_e, vCret_e, vBret_e, vLret_e, vVret_e, vAret_e, vCallM_e0, vCallMV_e0, vCallS_e0, vCallSV_e0, vCallM_e1, vCallMV_e1, vCallS_e1, vCallSV_e1, vCallM_e2, vCallMV_e2, vCallS_e2, vCallSV_e2, vCallM_e3, vCallMV_e3, vCallS_e3, vCallSV_e3, vCallM_e4, vCallMV_e4, vCallS_e4, vCallSV_e4, vCallM_e5, vCallMV_e5, vCallS_e5, vCallSV_e5, vCallM_e6, vCallMV_e6, vCallS_e6, vCallSV_e6, vCallM_e7, vCallMV_e7, vCallS_e7, vCallSV_e7, vBad_e, vStrVal_e, vStrCod_e, vForm_e, vCallT_e0, vCallT_e1, vCallT_e2, vCopy_e, rf_0_0, rf_0_1, rf_0_2, rf_0_3, rf_0_4, rf_0_7, rf_0_10, rf_0_11, rf_0_12, rf_0_13, rf_0_14, rf_0_15, rf_0_16, rf_1_0, rf_3_0, rf_3_1, rf_6_0, rf_6_1, rf_9_0, rf_9_1, rf_9_3, rf_13_0, rf_13_1, rf_13_2, rf_16_0, rf_16_1, rf_16_2, rf_16_3, rf_21_0, rf_21_1, rf_21_2, rf_21_3, rf_26_0, rf_26_1, rf_26_2, rf_26_3, rf_26_4, rf_26_5, rf_26_6, rf_31_0, rf_31_2, rf_31_5, rf_31_6, rf_36_0, rf_36_1, rf_36_2, rf_36_3, rf_39_0, rf_39_1, rf_39_2, rf_41_0, rf_41_1, rf_41_2, rf_41_3, rf_5000_1, rf_5000_2, rf_5000_3, rf_5000_4, rf_5000_5, rf_5000_15, rf_5000_16, rf_5000_18, rf_5000_19, rf_5000_20, rf_5000_21, rf_5000_22, rf_5000_23, rf_5000_24, rf_5000_25, rf_5000_26, rf_5000_27, rf_5000_36, rf_5000_37, rf_5000_40, rf_5000_41, rf_5000_42, rf_5000_43, rf_5000_44, rf_5000_45, rf_5000_47, rf_5000_52, rf_5000_54, rf_5000_55, rf_100_0, rf_100_1, rf_103_0, rf_103_1, rf_106_0, rf_106_1, rf_109_0, rf_109_1, al_2, al_4, al_5, al_7, al_8, al_10, al_11, al_12, al_14, al_15, al_17, al_18, al_19, al_20, al_22, al_23, al_24, al_25, al_27, al_28, al_29, al_30, al_32, al_33, al_34, al_35, al_37, al_38, al_40, al_42, al_5001, al_5002, al_5003, al_5004, al_5005, al_5006, al_5007, al_5008, al_5009, al_5010, al_5011, al_5012, al_5013, al_5014, al_5015, al_5016, al_5017, al_5018, al_5019, al_5020, al_5021, al_5022, al_5023, al_5024, al_5025, al_5026, al_9000, al_101, al_102, al_104, al_105, al_107, al_108, al_110, al_111, vcs_e, lg_c0, lg_cs, lg_nil, set_c0, set_cs, okst_0, okst_s, acok_n, acok_c, List.contains_nil, List.contains_cons, Bool.or_false, Bool.false_or, Bool.false_eq_true, if_false, if_true, ite_self, ne_eq, true_and, and_true, not_false_eq_true, not_true_eq_false, false_imp_iff, true_imp_iff, Nat.ble_eq, Bool.and_eq_true, reduceCtorEq, or_false, false_or, or_true, true_or, false_and, and_false, and_self, Int.reduceLE, Int.reduceAdd, Int.reduceSub, Int.reduceMul, Int.reduceNeg, Int.reduceLT, Int.reduceEq, Int.reduceNe, Nat.reduceBEq, Nat.reduceBNe, Nat.reduceEqDiff, amCmp_in, amCmp_lt, amCmp_le, amCmp_gt, amCmp_ge, amCmp_eq, amCmp_ne, Nat.reduceLeDiff, Nat.reduceSub, Bool.and_true, Bool.true_and, Bool.and_self, Bool.or_true, Bool.true_or, isRf_3, isRf_4, isRf_5, isRf_8, isRf_9, isRf_10, isRf_11, isRf_15, isRf_16, isRf_17, isRf_18, isRf_19, isRf_20, isRf_21, isRf_22, isRf_23, isRf_24, isRf_25, isRf_26, isRf_27, isRf_28, k_X12_goEvening_0, k_X12_goEvening_1, k_X12_goEvening_2, k_X12_goEvening_3, k_X12_goEvening_6, k_X12_goEvening_7, k_X12_goEvening_8, k_X12_goEvening_10, k_X12_goEvening_12, k_X12_goEvening_13, k_X12_goEvening_16, k_X12_goEvening_19, k_X12_goEvening_20, k_X12_goEvening_21, k_X12_goEvening_23, k_X12_goEvening_24, k_X12_goEvening_25, k_X12_goEvening_26, k_X12_goEvening_29, k_X12_goEvening_30, k_X12_goEvening_31, k_X12_goEvening_33, k_X12_goEvening_34, k_X12_goEvening_35, k_X12_goEvening_36, k_X12_goEvening_37, k_X12_goEvening_38, k_X12_goEvening_41, k_X12_goEvening_43, k_X12_goEvening_44, k_X12_goEvening_45, k_X12_goEvening_48, k_X12_goEvening_49, k_X12_goEvening_50, k_X12_goEvening_52, k_X12_goEvening_55, k_X12_goEvening_58, k_X12_goEvening_59, k_X12_goEvening_60, k_X12_goEvening_62, k_X12_goEvening_63, k_X12_goEvening_64, k_X12_goEvening_65, k_X12_goEvening_66, k_X12_goEvening_67, k_X12_goEvening_68, k_X12_goEvening_70, k_X12_goEvening_71, k_X12_goEvening_72, k_X12_goEvening_73, k_X12_goEvening_74, k_X12_goEvening_75, k_X12_goEvening_76, k_X12_goEvening_79, k_X12_goEvening_80, k_X12_goEvening_83, k_X12_goEvening_86, k_X12_goEvening_87, k_X12_goEvening_89, k_X12_goEvening_90, k_X12_goEvening_91, k_X12_goEvening_92, k_X12_goEvening_94, k_X12_goEvening_95, k_X12_goEvening_96, k_X12_goEvening_97, k_X12_goEvening_98, k_X12_goEvening_99, k_X12_goEvening_100, k_X12_goEvening_102, k_X12_goEvening_103, k_X12_goEvening_105, k_X12_goEvening_108, k_X12_goEvening_109, k_X12_goEvening_111, k_X12_goEvening_113, k_X12_goEvening_116, k_X12_goEvening_119, k_X12_goEvening_120, k_X12_goEvening_122, k_X12_goEvening_124, k_X12_goEvening_125, k_X12_goEvening_126, k_X12_goEvening_128, k_X12_goEvening_130, k_X12_goEvening_131, k_X12_goEvening_132, k_X12_goEvening_133, k_X12_goEvening_134, k_X12_goEvening_135, k_X12_goEvening_138, k_X12_goEvening_141, k_X12_goEvening_142, k_X12_goEvening_144, k_X12_goEvening_145, k_X12_goEvening_146, k_X12_goEvening_147, k_X12_goEvening_148, k_X12_goEvening_149, k_X12_goEvening_151, k_X12_goEvening_152, k_X12_goEvening_153, k_X12_goEvening_155, k_X12_goEvening_156, k_X12_goEvening_157, k_X12_goEvening_158, k_X12_goEvening_160, k_X12_goEvening_161, k_X12_goEvening_163, k_X12_goEvening_164, k_X12_goEvening_165, k_X12_goEvening_166, k_X12_goEvening_168, k_X12_goEvening_169, k_X12_goEvening_170, k_X12_goEvening_171, k_X12_goEvening_174, k_X12_goEvening_175, k_X12_goEvening_176, k_X12_goEvening_178, k_X12_goEvening_179, k_X12_goEvening_180, k_X12_goEvening_181, k_X12_goEvening_182, k_X12_goEvening_183, k_X12_goEvening_185, k_X12_goEvening_186, k_X12_goEvening_187, k_X12_goEvening_188, k_X12_goEvening_189, k_X12_goEvening_190, k_X12_goEvening_191, k_X12_goEvening_194, w_J9_max_7cf53_e, w_J9_min_7cf53_e, w_X12_goPlay_e, w_X12_has_e, al, a0, sa, s5, s19, us, e29, f9, r3, r0, emi, d0, Int.add_zero]
          repeat' (first | assumption | apply And.intro | intro _)
          all_goals first | omega | exact absurd trivial (by assumption) | exact i9
      · have ec : (c : Int) = σ 5000 29 := by omega
        rw [ec]
        have e2 : upf (upf (cR (σ a) F O (σ 5000 29)) 24 0) 26 (σ a 26 + 1) = eR2 (cR (σ a) F O (σ 5000 29)) := by unfold eR2; rw [c26]
        by_cases d : σ a 27 = 60
        · have i9 : ∃ k', k' < n ∧ inv_gev σ a p F O A k' 111 [(28, 5000), (8, a), (0, p), (0, O), (0, 1)] [] (setv τ a (eR2 (cR (σ a) F O (σ 5000 29)))) :=
            ⟨177, by omega, rfl, τ, hPF, hm, h46, hfe, Or.inr ⟨0, rfl, rfl, rfl, d, by rw [show ((0 : Nat) : Int) = 0 from rfl, sR_0]⟩⟩
          refine ⟨90, ?_⟩
          simp only [↓reduceIte, inR_0, inR_1, inR_m, vSw2_e, swP_n, swP_c, vI_e, vL_e, vNull_e, vIload_e, vLload_e, vAload_e, vIstore_e, vLstore_e, vAstore_e, vIinc_e, vIadd_e, vIsub_e, vImul_e, vIand_e, vIor_e, vIxor_e, vIshl_e, vIshr_e, vIushr_e, vIdiv_e, vIrem_e, vLadd_e, vLsub_e, vLmul_e, vLand_e, vLor_e, vLxor_e, vLdiv_e, vLrem_e, vLushr_e, vLshl_e, vLcmp_e, vIneg_e, vI2l_e, vL2i_e, vI2b_e, vI2c_e, vDup_e, vPop_e, vDup2_e, vGoto_e, vIcEq_e, vIfEq_e, vIcNe_e, vIfNe_e, vIcLt_e, vIfLt_e, vIcGe_e, vIfGe_e, vIcGt_e, vIfGt_e, vIcLe_e, vIfLe_e, vNonnull_e, vSw_e, vGetI_e, vGetL_e, vGetR_e, vPutI_e, vPutZ_e, vPutL_e, vPutR_e, vIald_e, vIald_s, vLald_e, vBald_e, vBald_s, vAald_e, vIast_e, vLast_e, vBast_e, vAast_e, vAlen_e8, vAlen_e9, vAlen_e10, vAlen_e11, vAlen_e5, vAlen_e3, vGets_e, vCompact_e, vLdcS_e, vIret_e, vZret_e, vCret_e, vBret_e, vLret_e, vVret_e, vAret_e, vCallM_e0, vCallMV_e0, vCallS_e0, vCallSV_e0, vCallM_e1, vCallMV_e1, vCallS_e1, vCallSV_e1, vCallM_e2, vCallMV_e2, vCallS_e2, vCallSV_e2, vCallM_e3, vCallMV_e3, vCallS_e3, vCallSV_e3, vCallM_e4, vCallMV_e4, vCallS_e4, vCallSV_e4, vCallM_e5, vCallMV_e5, vCallS_e5, vCallSV_e5, vCallM_e6, vCallMV_e6, vCallS_e6, vCallSV_e6, vCallM_e7, vCallMV_e7, vCallS_e7, vCallSV_e7, vBad_e, vStrVal_e, vStrCod_e, vForm_e, vCallT_e0, vCallT_e1, vCallT_e2, vCopy_e, rf_0_0, rf_0_1, rf_0_2, rf_0_3, rf_0_4, rf_0_7, rf_0_10, rf_0_11, rf_0_12, rf_0_13, rf_0_14, rf_0_15, rf_0_16, rf_1_0, rf_3_0, rf_3_1, rf_6_0, rf_6_1, rf_9_0, rf_9_1, rf_9_3, rf_13_0, rf_13_1, rf_13_2, rf_16_0, rf_16_1, rf_16_2, rf_16_3, rf_21_0, rf_21_1, rf_21_2, rf_21_3, rf_26_0, rf_26_1, rf_26_2, rf_26_3, rf_26_4, rf_26_5, rf_26_6, rf_31_0, rf_31_2, rf_31_5, rf_31_6, rf_36_0, rf_36_1, rf_36_2, rf_36_3, rf_39_0, rf_39_1, rf_39_2, rf_41_0, rf_41_1, rf_41_2, rf_41_3, rf_5000_1, rf_5000_2, rf_5000_3, rf_5000_4, rf_5000_5, rf_5000_15, rf_5000_16, rf_5000_18, rf_5000_19, rf_5000_20, rf_5000_21, rf_5000_22, rf_5000_23, rf_5000_24, rf_5000_25, rf_5000_26, rf_5000_27, rf_5000_36, rf_5000_37, rf_5000_40, rf_5000_41, rf_5000_42, rf_5000_43, rf_5000_44, rf_5000_45, rf_5000_47, rf_5000_52, rf_5000_54, rf_5000_55, rf_100_0, rf_100_1, rf_103_0, rf_103_1, rf_106_0, rf_106_1, rf_109_0, rf_109_1, al_2, al_4, al_5, al_7, al_8, al_10, al_11, al_12, al_14, al_15, al_17, al_18, al_19, al_20, al_22, al_23, al_24, al_25, al_27, al_28, al_29, al_30, al_32, al_33, al_34, al_35, al_37, al_38, al_40, al_42, al_5001, al_5002, al_5003, al_5004, al_5005, al_5006, al_5007, al_5008, al_5009, al_5010, al_5011, al_5012, al_5013, al_5014, al_5015, al_5016, al_5017, al_5018, al_5019, al_5020, al_5021, al_5022, al_5023, al_5024, al_5025, al_5026, al_9000, al_101, al_102, al_104, al_105, al_107, al_108, al_110, al_111, vcs_e, lg_c0, lg_cs, lg_nil, set_c0, set_cs, okst_0, okst_s, acok_n, acok_c, List.contains_nil, List.contains_cons, Bool.or_false, Bool.false_or, Bool.false_eq_true, if_false, if_true, ite_self, ne_eq, true_and, and_true, not_false_eq_true, not_true_eq_false, false_imp_iff, true_imp_iff, Nat.ble_eq, Bool.and_eq_true, reduceCtorEq, or_false, false_or, or_true, true_or, false_and, and_false, and_self, Int.reduceLE, Int.reduceAdd, Int.reduceSub, Int.reduceMul, Int.reduceNeg, Int.reduceLT, Int.reduceEq, Int.reduceNe, Nat.reduceBEq, Nat.reduceBNe, Nat.reduceEqDiff, amCmp_in, amCmp_lt, amCmp_le, amCmp_gt, amCmp_ge, amCmp_eq, amCmp_ne, Nat.reduceLeDiff, Nat.reduceSub, Bool.and_true, Bool.true_and, Bool.and_self, Bool.or_true, Bool.true_or, isRf_3, isRf_4, isRf_5, isRf_8, isRf_9, isRf_10, isRf_11, isRf_15, isRf_16, isRf_17, isRf_18, isRf_19, isRf_20, isRf_21, isRf_22, isRf_23, isRf_24, isRf_25, isRf_26, isRf_27, isRf_28, k_X12_goEvening_0, k_X12_goEvening_1, k_X12_goEvening_2, k_X12_goEvening_3, k_X12_goEvening_6, k_X12_goEvening_7, k_X12_goEvening_8, k_X12_goEvening_10, k_X12_goEvening_12, k_X12_goEvening_13, k_X12_goEvening_16, k_X12_goEvening_19, k_X12_goEvening_20, k_X12_goEvening_21, k_X12_goEvening_23, k_X12_goEvening_24, k_X12_goEvening_25, k_X12_goEvening_26, k_X12_goEvening_29, k_X12_goEvening_30, k_X12_goEvening_31, k_X12_goEvening_33, k_X12_goEvening_34, k_X12_goEvening_35, k_X12_goEvening_36, k_X12_goEvening_37, k_X12_goEvening_38, k_X12_goEvening_41, k_X12_goEvening_43, k_X12_goEvening_44, k_X12_goEvening_45, k_X12_goEvening_48, k_X12_goEvening_49, k_X12_goEvening_50, k_X12_goEvening_52, k_X12_goEvening_55, k_X12_goEvening_58, k_X12_goEvening_59, k_X12_goEvening_60, k_X12_goEvening_62, k_X12_goEvening_63, k_X12_goEvening_64, k_X12_goEvening_65, k_X12_goEvening_66, k_X12_goEvening_67, k_X12_goEvening_68, k_X12_goEvening_70, k_X12_goEvening_71, k_X12_goEvening_72, k_X12_goEvening_73, k_X12_goEvening_74, k_X12_goEvening_75, k_X12_goEvening_76, k_X12_goEvening_79, k_X12_goEvening_80, k_X12_goEvening_83, k_X12_goEvening_86, k_X12_goEvening_87, k_X12_goEvening_89, k_X12_goEvening_90, k_X12_goEvening_91, k_X12_goEvening_92, k_X12_goEvening_94, k_X12_goEvening_95, k_X12_goEvening_96, k_X12_goEvening_97, k_X12_goEvening_98, k_X12_goEvening_99, k_X12_goEvening_100, k_X12_goEvening_102, k_X12_goEvening_103, k_X12_goEvening_105, k_X12_goEvening_108, k_X12_goEvening_109, k_X12_goEvening_111, k_X12_goEvening_113, k_X12_goEvening_116, k_X12_goEvening_119, k_X12_goEvening_120, k_X12_goEvening_122, k_X12_goEvening_124, k_X12_goEvening_125, k_X12_goEvening_126, k_X12_goEvening_128, k_X12_goEvening_130, k_X12_goEvening_131, k_X12_goEvening_132, k_X12_goEvening_133, k_X12_goEvening_134, k_X12_goEvening_135, k_X12_goEvening_138, k_X12_goEvening_141, k_X12_goEvening_142, k_X12_goEvening_144, k_X12_goEvening_145, k_X12_goEvening_146, k_X12_goEvening_147, k_X12_goEvening_148, k_X12_goEvening_149, k_X12_goEvening_151, k_X12_goEvening_152, k_X12_goEvening_153, k_X12_goEvening_155, k_X12_goEvening_156, k_X12_goEvening_157, k_X12_goEvening_158, k_X12_goEvening_160, k_X12_goEvening_161, k_X12_goEvening_163, k_X12_goEvening_164, k_X12_goEvening_165, k_X12_goEvening_166, k_X12_goEvening_168, k_X12_goEvening_169, k_X12_goEvening_170, k_X12_goEvening_171, k_X12_goEvening_174, k_X12_goEvening_175, k_X12_goEvening_176, k_X12_goEvening_178, k_X12_goEvening_179, k_X12_goEvening_180, k_X12_goEvening_181, k_X12_goEvening_182, k_X12_goEvening_183, k_X12_goEvening_185, k_X12_goEvening_186, k_X12_goEvening_187, k_X12_goEvening_188, k_X12_goEvening_189, k_X12_goEvening_190, k_X12_goEvening_191, k_X12_goEvening_194, w_J9_max_7cf53_e, w_J9_min_7cf53_e, w_X12_goPlay_e, w_X12_has_e, al, a0, sa, s5, s19, us, e29, upf_n2, c26, e2, q27, d, Int.reduceNe, ne_eq, not_false_eq_true]
          repeat' (first | assumption | apply And.intro | intro _)
          all_goals first | omega | exact absurd trivial (by assumption) | exact i9
        · have e3 : eR2 (cR (σ a) F O (σ 5000 29)) = eR3 (eR2 (cR (σ a) F O (σ 5000 29))) := by
            unfold eR3; rw [q27, if_neg d]
          have h0 := fin τ _ (σ a 27) hPF hm e3 q27
          have w1 : ∀ x y z, upf (upf (upf (eR2 (cR (σ a) F O (σ 5000 29))) (28 + 3 * σ a 27) x) (28 + 3 * σ a 27 + 1) y) (28 + 3 * σ a 27 + 2) z 27 = σ a 27 := fun x y z => by rw [upf_n2 _ (by omega), upf_n2 _ (by omega), upf_n2 _ (by omega)]; exact q27
          refine ⟨90, ?_⟩
          simp only [↓reduceIte, inR_0, inR_1, inR_m, vSw2_e, swP_n, swP_c, vI_e, vL_e, vNull_e, vIload_e, vLload_e, vAload_e, vIstore_e, vLstore_e, vAstore_e, vIinc_e, vIadd_e, vIsub_e, vImul_e, vIand_e, vIor_e, vIxor_e, vIshl_e, vIshr_e, vIushr_e, vIdiv_e, vIrem_e, vLadd_e, vLsub_e, vLmul_e, vLand_e, vLor_e, vLxor_e, vLdiv_e, vLrem_e, vLushr_e, vLshl_e, vLcmp_e, vIneg_e, vI2l_e, vL2i_e, vI2b_e, vI2c_e, vDup_e, vPop_e, vDup2_e, vGoto_e, vIcEq_e, vIfEq_e, vIcNe_e, vIfNe_e, vIcLt_e, vIfLt_e, vIcGe_e, vIfGe_e, vIcGt_e, vIfGt_e, vIcLe_e, vIfLe_e, vNonnull_e, vSw_e, vGetI_e, vGetL_e, vGetR_e, vPutI_e, vPutZ_e, vPutL_e, vPutR_e, vIald_e, vIald_s, vLald_e, vBald_e, vBald_s, vAald_e, vIast_e, vLast_e, vBast_e, vAast_e, vAlen_e8, vAlen_e9, vAlen_e10, vAlen_e11, vAlen_e5, vAlen_e3, vGets_e, vCompact_e, vLdcS_e, vIret_e, vZret_e, vCret_e, vBret_e, vLret_e, vVret_e, vAret_e, vCallM_e0, vCallMV_e0, vCallS_e0, vCallSV_e0, vCallM_e1, vCallMV_e1, vCallS_e1, vCallSV_e1, vCallM_e2, vCallMV_e2, vCallS_e2, vCallSV_e2, vCallM_e3, vCallMV_e3, vCallS_e3, vCallSV_e3, vCallM_e4, vCallMV_e4, vCallS_e4, vCallSV_e4, vCallM_e5, vCallMV_e5, vCallS_e5, vCallSV_e5, vCallM_e6, vCallMV_e6, vCallS_e6, vCallSV_e6, vCallM_e7, vCallMV_e7, vCallS_e7, vCallSV_e7, vBad_e, vStrVal_e, vStrCod_e, vForm_e, vCallT_e0, vCallT_e1, vCallT_e2, vCopy_e, rf_0_0, rf_0_1, rf_0_2, rf_0_3, rf_0_4, rf_0_7, rf_0_10, rf_0_11, rf_0_12, rf_0_13, rf_0_14, rf_0_15, rf_0_16, rf_1_0, rf_3_0, rf_3_1, rf_6_0, rf_6_1, rf_9_0, rf_9_1, rf_9_3, rf_13_0, rf_13_1, rf_13_2, rf_16_0, rf_16_1, rf_16_2, rf_16_3, rf_21_0, rf_21_1, rf_21_2, rf_21_3, rf_26_0, rf_26_1, rf_26_2, rf_26_3, rf_26_4, rf_26_5, rf_26_6, rf_31_0, rf_31_2, rf_31_5, rf_31_6, rf_36_0, rf_36_1, rf_36_2, rf_36_3, rf_39_0, rf_39_1, rf_39_2, rf_41_0, rf_41_1, rf_41_2, rf_41_3, rf_5000_1, rf_5000_2, rf_5000_3, rf_5000_4, rf_5000_5, rf_5000_15, rf_5000_16, rf_5000_18, rf_5000_19, rf_5000_20, rf_5000_21, rf_5000_22, rf_5000_23, rf_5000_24, rf_5000_25, rf_5000_26, rf_5000_27, rf_5000_36, rf_5000_37, rf_5000_40, rf_5000_41, rf_5000_42, rf_5000_43, rf_5000_44, rf_5000_45, rf_5000_47, rf_5000_52, rf_5000_54, rf_5000_55, rf_100_0, rf_100_1, rf_103_0, rf_103_1, rf_106_0, rf_106_1, rf_109_0, rf_109_1, al_2, al_4, al_5, al_7, al_8, al_10, al_11, al_12, al_14, al_15, al_17, al_18, al_19, al_20, al_22, al_23, al_24, al_25, al_27, al_28, al_29, al_30, al_32, al_33, al_34, al_35, al_37, al_38, al_40, al_42, al_5001, al_5002, al_5003, al_5004, al_5005, al_5006, al_5007, al_5008, al_5009, al_5010, al_5011, al_5012, al_5013, al_5014, al_5015, al_5016, al_5017, al_5018, al_5019, al_5020, al_5021, al_5022, al_5023, al_5024, al_5025, al_5026, al_9000, al_101, al_102, al_104, al_105, al_107, al_108, al_110, al_111, vcs_e, lg_c0, lg_cs, lg_nil, set_c0, set_cs, okst_0, okst_s, acok_n, acok_c, List.contains_nil, List.contains_cons, Bool.or_false, Bool.false_or, Bool.false_eq_true, if_false, if_true, ite_self, ne_eq, true_and, and_true, not_false_eq_true, not_true_eq_false, false_imp_iff, true_imp_iff, Nat.ble_eq, Bool.and_eq_true, reduceCtorEq, or_false, false_or, or_true, true_or, false_and, and_false, and_self, Int.reduceLE, Int.reduceAdd, Int.reduceSub, Int.reduceMul, Int.reduceNeg, Int.reduceLT, Int.reduceEq, Int.reduceNe, Nat.reduceBEq, Nat.reduceBNe, Nat.reduceEqDiff, amCmp_in, amCmp_lt, amCmp_le, amCmp_gt, amCmp_ge, amCmp_eq, amCmp_ne, Nat.reduceLeDiff, Nat.reduceSub, Bool.and_true, Bool.true_and, Bool.and_self, Bool.or_true, Bool.true_or, isRf_3, isRf_4, isRf_5, isRf_8, isRf_9, isRf_10, isRf_11, isRf_15, isRf_16, isRf_17, isRf_18, isRf_19, isRf_20, isRf_21, isRf_22, isRf_23, isRf_24, isRf_25, isRf_26, isRf_27, isRf_28, k_X12_goEvening_0, k_X12_goEvening_1, k_X12_goEvening_2, k_X12_goEvening_3, k_X12_goEvening_6, k_X12_goEvening_7, k_X12_goEvening_8, k_X12_goEvening_10, k_X12_goEvening_12, k_X12_goEvening_13, k_X12_goEvening_16, k_X12_goEvening_19, k_X12_goEvening_20, k_X12_goEvening_21, k_X12_goEvening_23, k_X12_goEvening_24, k_X12_goEvening_25, k_X12_goEvening_26, k_X12_goEvening_29, k_X12_goEvening_30, k_X12_goEvening_31, k_X12_goEvening_33, k_X12_goEvening_34, k_X12_goEvening_35, k_X12_goEvening_36, k_X12_goEvening_37, k_X12_goEvening_38, k_X12_goEvening_41, k_X12_goEvening_43, k_X12_goEvening_44, k_X12_goEvening_45, k_X12_goEvening_48, k_X12_goEvening_49, k_X12_goEvening_50, k_X12_goEvening_52, k_X12_goEvening_55, k_X12_goEvening_58, k_X12_goEvening_59, k_X12_goEvening_60, k_X12_goEvening_62, k_X12_goEvening_63, k_X12_goEvening_64, k_X12_goEvening_65, k_X12_goEvening_66, k_X12_goEvening_67, k_X12_goEvening_68, k_X12_goEvening_70, k_X12_goEvening_71, k_X12_goEvening_72, k_X12_goEvening_73, k_X12_goEvening_74, k_X12_goEvening_75, k_X12_goEvening_76, k_X12_goEvening_79, k_X12_goEvening_80, k_X12_goEvening_83, k_X12_goEvening_86, k_X12_goEvening_87, k_X12_goEvening_89, k_X12_goEvening_90, k_X12_goEvening_91, k_X12_goEvening_92, k_X12_goEvening_94, k_X12_goEvening_95, k_X12_goEvening_96, k_X12_goEvening_97, k_X12_goEvening_98, k_X12_goEvening_99, k_X12_goEvening_100, k_X12_goEvening_102, k_X12_goEvening_103, k_X12_goEvening_105, k_X12_goEvening_108, k_X12_goEvening_109, k_X12_goEvening_111, k_X12_goEvening_113, k_X12_goEvening_116, k_X12_goEvening_119, k_X12_goEvening_120, k_X12_goEvening_122, k_X12_goEvening_124, k_X12_goEvening_125, k_X12_goEvening_126, k_X12_goEvening_128, k_X12_goEvening_130, k_X12_goEvening_131, k_X12_goEvening_132, k_X12_goEvening_133, k_X12_goEvening_134, k_X12_goEvening_135, k_X12_goEvening_138, k_X12_goEvening_141, k_X12_goEvening_142, k_X12_goEvening_144, k_X12_goEvening_145, k_X12_goEvening_146, k_X12_goEvening_147, k_X12_goEvening_148, k_X12_goEvening_149, k_X12_goEvening_151, k_X12_goEvening_152, k_X12_goEvening_153, k_X12_goEvening_155, k_X12_goEvening_156, k_X12_goEvening_157, k_X12_goEvening_158, k_X12_goEvening_160, k_X12_goEvening_161, k_X12_goEvening_163, k_X12_goEvening_164, k_X12_goEvening_165, k_X12_goEvening_166, k_X12_goEvening_168, k_X12_goEvening_169, k_X12_goEvening_170, k_X12_goEvening_171, k_X12_goEvening_174, k_X12_goEvening_175, k_X12_goEvening_176, k_X12_goEvening_178, k_X12_goEvening_179, k_X12_goEvening_180, k_X12_goEvening_181, k_X12_goEvening_182, k_X12_goEvening_183, k_X12_goEvening_185, k_X12_goEvening_186, k_X12_goEvening_187, k_X12_goEvening_188, k_X12_goEvening_189, k_X12_goEvening_190, k_X12_goEvening_191, k_X12_goEvening_194, w_J9_max_7cf53_e, w_J9_min_7cf53_e, w_X12_goPlay_e, w_X12_has_e, al, a0, sa, s5, s19, us, e29, upf_n2, c26, e2, q27, w1, h46, Int.reduceNe, ne_eq, not_false_eq_true]
          repeat' (first | assumption | apply And.intro | intro _)
          all_goals first | omega | exact absurd trivial (by assumption) | exact h0
    · have q60 : eR2 (cR (σ a) F O (σ 5000 29)) 27 = 60 := by rw [q27]; exact h60
      generalize hg : eR2 (cR (σ a) F O (σ 5000 29)) = g at *
      by_cases cc : k < 177
      · have i9 : ∃ k', k' < n ∧ inv_gev σ a p F O A k' 111 [(28, 5000), (8, a), (0, p), (0, O), (0, (k : Int) + 1 + 1)] [] (setv τ a (upf (sR g k) (27 + ((k : Int) + 1)) (sR g k (27 + ((k : Int) + 1) + 3)))) := by
          refine ⟨n - 1, by omega, rfl, τ, hPF, hm, h46, hfe, Or.inr ⟨k + 1, rfl, rfl, by omega, h60, ?_⟩⟩
          rw [hg, show (27 : Int) + ((k : Int) + 1) = 28 + k by omega, sR_ge g (by omega), sR_s g (by omega)]; rfl
        refine ⟨90, ?_⟩
        simp only [↓reduceIte, inR_0, inR_1, inR_m, vSw2_e, swP_n, swP_c, vI_e, vL_e, vNull_e, vIload_e, vLload_e, vAload_e, vIstore_e, vLstore_e, vAstore_e, vIinc_e, vIadd_e, vIsub_e, vImul_e, vIand_e, vIor_e, vIxor_e, vIshl_e, vIshr_e, vIushr_e, vIdiv_e, vIrem_e, vLadd_e, vLsub_e, vLmul_e, vLand_e, vLor_e, vLxor_e, vLdiv_e, vLrem_e, vLushr_e, vLshl_e, vLcmp_e, vIneg_e, vI2l_e, vL2i_e, vI2b_e, vI2c_e, vDup_e, vPop_e, vDup2_e, vGoto_e, vIcEq_e, vIfEq_e, vIcNe_e, vIfNe_e, vIcLt_e, vIfLt_e, vIcGe_e, vIfGe_e, vIcGt_e, vIfGt_e, vIcLe_e, vIfLe_e, vNonnull_e, vSw_e, vGetI_e, vGetL_e, vGetR_e, vPutI_e, vPutZ_e, vPutL_e, vPutR_e, vIald_e, vIald_s, vLald_e, vBald_e, vBald_s, vAald_e, vIast_e, vLast_e, vBast_e, vAast_e, vAlen_e8, vAlen_e9, vAlen_e10, vAlen_e11, vAlen_e5, vAlen_e3, vGets_e, vCompact_e, vLdcS_e, vIret_e, vZret_e, vCret_e, vBret_e, vLret_e, vVret_e, vAret_e, vCallM_e0, vCallMV_e0, vCallS_e0, vCallSV_e0, vCallM_e1, vCallMV_e1, vCallS_e1, vCallSV_e1, vCallM_e2, vCallMV_e2, vCallS_e2, vCallSV_e2, vCallM_e3, vCallMV_e3, vCallS_e3, vCallSV_e3, vCallM_e4, vCallMV_e4, vCallS_e4, vCallSV_e4, vCallM_e5, vCallMV_e5, vCallS_e5, vCallSV_e5, vCallM_e6, vCallMV_e6, vCallS_e6, vCallSV_e6, vCallM_e7, vCallMV_e7, vCallS_e7, vCallSV_e7, vBad_e, vStrVal_e, vStrCod_e, vForm_e, vCallT_e0, vCallT_e1, vCallT_e2, vCopy_e, rf_0_0, rf_0_1, rf_0_2, rf_0_3, rf_0_4, rf_0_7, rf_0_10, rf_0_11, rf_0_12, rf_0_13, rf_0_14, rf_0_15, rf_0_16, rf_1_0, rf_3_0, rf_3_1, rf_6_0, rf_6_1, rf_9_0, rf_9_1, rf_9_3, rf_13_0, rf_13_1, rf_13_2, rf_16_0, rf_16_1, rf_16_2, rf_16_3, rf_21_0, rf_21_1, rf_21_2, rf_21_3, rf_26_0, rf_26_1, rf_26_2, rf_26_3, rf_26_4, rf_26_5, rf_26_6, rf_31_0, rf_31_2, rf_31_5, rf_31_6, rf_36_0, rf_36_1, rf_36_2, rf_36_3, rf_39_0, rf_39_1, rf_39_2, rf_41_0, rf_41_1, rf_41_2, rf_41_3, rf_5000_1, rf_5000_2, rf_5000_3, rf_5000_4, rf_5000_5, rf_5000_15, rf_5000_16, rf_5000_18, rf_5000_19, rf_5000_20, rf_5000_21, rf_5000_22, rf_5000_23, rf_5000_24, rf_5000_25, rf_5000_26, rf_5000_27, rf_5000_36, rf_5000_37, rf_5000_40, rf_5000_41, rf_5000_42, rf_5000_43, rf_5000_44, rf_5000_45, rf_5000_47, rf_5000_52, rf_5000_54, rf_5000_55, rf_100_0, rf_100_1, rf_103_0, rf_103_1, rf_106_0, rf_106_1, rf_109_0, rf_109_1, al_2, al_4, al_5, al_7, al_8, al_10, al_11, al_12, al_14, al_15, al_17, al_18, al_19, al_20, al_22, al_23, al_24, al_25, al_27, al_28, al_29, al_30, al_32, al_33, al_34, al_35, al_37, al_38, al_40, al_42, al_5001, al_5002, al_5003, al_5004, al_5005, al_5006, al_5007, al_5008, al_5009, al_5010, al_5011, al_5012, al_5013, al_5014, al_5015, al_5016, al_5017, al_5018, al_5019, al_5020, al_5021, al_5022, al_5023, al_5024, al_5025, al_5026, al_9000, al_101, al_102, al_104, al_105, al_107, al_108, al_110, al_111, vcs_e, lg_c0, lg_cs, lg_nil, set_c0, set_cs, okst_0, okst_s, acok_n, acok_c, List.contains_nil, List.contains_cons, Bool.or_false, Bool.false_or, Bool.false_eq_true, if_false, if_true, ite_self, ne_eq, true_and, and_true, not_false_eq_true, not_true_eq_false, false_imp_iff, true_imp_iff, Nat.ble_eq, Bool.and_eq_true, reduceCtorEq, or_false, false_or, or_true, true_or, false_and, and_false, and_self, Int.reduceLE, Int.reduceAdd, Int.reduceSub, Int.reduceMul, Int.reduceNeg, Int.reduceLT, Int.reduceEq, Int.reduceNe, Nat.reduceBEq, Nat.reduceBNe, Nat.reduceEqDiff, amCmp_in, amCmp_lt, amCmp_le, amCmp_gt, amCmp_ge, amCmp_eq, amCmp_ne, Nat.reduceLeDiff, Nat.reduceSub, Bool.and_true, Bool.true_and, Bool.and_self, Bool.or_true, Bool.true_or, isRf_3, isRf_4, isRf_5, isRf_8, isRf_9, isRf_10, isRf_11, isRf_15, isRf_16, isRf_17, isRf_18, isRf_19, isRf_20, isRf_21, isRf_22, isRf_23, isRf_24, isRf_25, isRf_26, isRf_27, isRf_28, k_X12_goEvening_0, k_X12_goEvening_1, k_X12_goEvening_2, k_X12_goEvening_3, k_X12_goEvening_6, k_X12_goEvening_7, k_X12_goEvening_8, k_X12_goEvening_10, k_X12_goEvening_12, k_X12_goEvening_13, k_X12_goEvening_16, k_X12_goEvening_19, k_X12_goEvening_20, k_X12_goEvening_21, k_X12_goEvening_23, k_X12_goEvening_24, k_X12_goEvening_25, k_X12_goEvening_26, k_X12_goEvening_29, k_X12_goEvening_30, k_X12_goEvening_31, k_X12_goEvening_33, k_X12_goEvening_34, k_X12_goEvening_35, k_X12_goEvening_36, k_X12_goEvening_37, k_X12_goEvening_38, k_X12_goEvening_41, k_X12_goEvening_43, k_X12_goEvening_44, k_X12_goEvening_45, k_X12_goEvening_48, k_X12_goEvening_49, k_X12_goEvening_50, k_X12_goEvening_52, k_X12_goEvening_55, k_X12_goEvening_58, k_X12_goEvening_59, k_X12_goEvening_60, k_X12_goEvening_62, k_X12_goEvening_63, k_X12_goEvening_64, k_X12_goEvening_65, k_X12_goEvening_66, k_X12_goEvening_67, k_X12_goEvening_68, k_X12_goEvening_70, k_X12_goEvening_71, k_X12_goEvening_72, k_X12_goEvening_73, k_X12_goEvening_74, k_X12_goEvening_75, k_X12_goEvening_76, k_X12_goEvening_79, k_X12_goEvening_80, k_X12_goEvening_83, k_X12_goEvening_86, k_X12_goEvening_87, k_X12_goEvening_89, k_X12_goEvening_90, k_X12_goEvening_91, k_X12_goEvening_92, k_X12_goEvening_94, k_X12_goEvening_95, k_X12_goEvening_96, k_X12_goEvening_97, k_X12_goEvening_98, k_X12_goEvening_99, k_X12_goEvening_100, k_X12_goEvening_102, k_X12_goEvening_103, k_X12_goEvening_105, k_X12_goEvening_108, k_X12_goEvening_109, k_X12_goEvening_111, k_X12_goEvening_113, k_X12_goEvening_116, k_X12_goEvening_119, k_X12_goEvening_120, k_X12_goEvening_122, k_X12_goEvening_124, k_X12_goEvening_125, k_X12_goEvening_126, k_X12_goEvening_128, k_X12_goEvening_130, k_X12_goEvening_131, k_X12_goEvening_132, k_X12_goEvening_133, k_X12_goEvening_134, k_X12_goEvening_135, k_X12_goEvening_138, k_X12_goEvening_141, k_X12_goEvening_142, k_X12_goEvening_144, k_X12_goEvening_145, k_X12_goEvening_146, k_X12_goEvening_147, k_X12_goEvening_148, k_X12_goEvening_149, k_X12_goEvening_151, k_X12_goEvening_152, k_X12_goEvening_153, k_X12_goEvening_155, k_X12_goEvening_156, k_X12_goEvening_157, k_X12_goEvening_158, k_X12_goEvening_160, k_X12_goEvening_161, k_X12_goEvening_163, k_X12_goEvening_164, k_X12_goEvening_165, k_X12_goEvening_166, k_X12_goEvening_168, k_X12_goEvening_169, k_X12_goEvening_170, k_X12_goEvening_171, k_X12_goEvening_174, k_X12_goEvening_175, k_X12_goEvening_176, k_X12_goEvening_178, k_X12_goEvening_179, k_X12_goEvening_180, k_X12_goEvening_181, k_X12_goEvening_182, k_X12_goEvening_183, k_X12_goEvening_185, k_X12_goEvening_186, k_X12_goEvening_187, k_X12_goEvening_188, k_X12_goEvening_189, k_X12_goEvening_190, k_X12_goEvening_191, k_X12_goEvening_194, w_J9_max_7cf53_e, w_J9_min_7cf53_e, w_X12_goPlay_e, w_X12_has_e, al, a0, sa, s5, us]
        repeat' (first | apply And.intro | intro _)
        all_goals first | omega | exact absurd trivial (by assumption) | exact i9
      · have ek : (k : Int) = 177 := by omega
        rw [ek]
        have s27 : sR g 177 27 = 60 := by rw [sR_ge g (by decide)]; exact q60
        have e3 : upf (sR g 177) 27 59 = eR3 g := by unfold eR3; rw [if_pos q60]
        have h0 := fin τ _ 59 hPF hm e3 (upf_s2 _ _ _)
        have w1 : ∀ x y z, upf (upf (upf (upf (sR g 177) 27 59) 205 x) 206 y) 207 z 27 = 59 := fun x y z => by rw [upf_n2 _ (by decide), upf_n2 _ (by decide), upf_n2 _ (by decide), upf_s2]
        simp only [Int.reduceMul, Int.reduceAdd] at h0
        refine ⟨90, ?_⟩
        simp only [↓reduceIte, inR_0, inR_1, inR_m, vSw2_e, swP_n, swP_c, vI_e, vL_e, vNull_e, vIload_e, vLload_e, vAload_e, vIstore_e, vLstore_e, vAstore_e, vIinc_e, vIadd_e, vIsub_e, vImul_e, vIand_e, vIor_e, vIxor_e, vIshl_e, vIshr_e, vIushr_e, vIdiv_e, vIrem_e, vLadd_e, vLsub_e, vLmul_e, vLand_e, vLor_e, vLxor_e, vLdiv_e, vLrem_e, vLushr_e, vLshl_e, vLcmp_e, vIneg_e, vI2l_e, vL2i_e, vI2b_e, vI2c_e, vDup_e, vPop_e, vDup2_e, vGoto_e, vIcEq_e, vIfEq_e, vIcNe_e, vIfNe_e, vIcLt_e, vIfLt_e, vIcGe_e, vIfGe_e, vIcGt_e, vIfGt_e, vIcLe_e, vIfLe_e, vNonnull_e, vSw_e, vGetI_e, vGetL_e, vGetR_e, vPutI_e, vPutZ_e, vPutL_e, vPutR_e, vIald_e, vIald_s, vLald_e, vBald_e, vBald_s, vAald_e, vIast_e, vLast_e, vBast_e, vAast_e, vAlen_e8, vAlen_e9, vAlen_e10, vAlen_e11, vAlen_e5, vAlen_e3, vGets_e, vCompact_e, vLdcS_e, vIret_e, vZret_e, vCret_e, vBret_e, vLret_e, vVret_e, vAret_e, vCallM_e0, vCallMV_e0, vCallS_e0, vCallSV_e0, vCallM_e1, vCallMV_e1, vCallS_e1, vCallSV_e1, vCallM_e2, vCallMV_e2, vCallS_e2, vCallSV_e2, vCallM_e3, vCallMV_e3, vCallS_e3, vCallSV_e3, vCallM_e4, vCallMV_e4, vCallS_e4, vCallSV_e4, vCallM_e5, vCallMV_e5, vCallS_e5, vCallSV_e5, vCallM_e6, vCallMV_e6, vCallS_e6, vCallSV_e6, vCallM_e7, vCallMV_e7, vCallS_e7, vCallSV_e7, vBad_e, vStrVal_e, vStrCod_e, vForm_e, vCallT_e0, vCallT_e1, vCallT_e2, vCopy_e, rf_0_0, rf_0_1, rf_0_2, rf_0_3, rf_0_4, rf_0_7, rf_0_10, rf_0_11, rf_0_12, rf_0_13, rf_0_14, rf_0_15, rf_0_16, rf_1_0, rf_3_0, rf_3_1, rf_6_0, rf_6_1, rf_9_0, rf_9_1, rf_9_3, rf_13_0, rf_13_1, rf_13_2, rf_16_0, rf_16_1, rf_16_2, rf_16_3, rf_21_0, rf_21_1, rf_21_2, rf_21_3, rf_26_0, rf_26_1, rf_26_2, rf_26_3, rf_26_4, rf_26_5, rf_26_6, rf_31_0, rf_31_2, rf_31_5, rf_31_6, rf_36_0, rf_36_1, rf_36_2, rf_36_3, rf_39_0, rf_39_1, rf_39_2, rf_41_0, rf_41_1, rf_41_2, rf_41_3, rf_5000_1, rf_5000_2, rf_5000_3, rf_5000_4, rf_5000_5, rf_5000_15, rf_5000_16, rf_5000_18, rf_5000_19, rf_5000_20, rf_5000_21, rf_5000_22, rf_5000_23, rf_5000_24, rf_5000_25, rf_5000_26, rf_5000_27, rf_5000_36, rf_5000_37, rf_5000_40, rf_5000_41, rf_5000_42, rf_5000_43, rf_5000_44, rf_5000_45, rf_5000_47, rf_5000_52, rf_5000_54, rf_5000_55, rf_100_0, rf_100_1, rf_103_0, rf_103_1, rf_106_0, rf_106_1, rf_109_0, rf_109_1, al_2, al_4, al_5, al_7, al_8, al_10, al_11, al_12, al_14, al_15, al_17, al_18, al_19, al_20, al_22, al_23, al_24, al_25, al_27, al_28, al_29, al_30, al_32, al_33, al_34, al_35, al_37, al_38, al_40, al_42, al_5001, al_5002, al_5003, al_5004, al_5005, al_5006, al_5007, al_5008, al_5009, al_5010, al_5011, al_5012, al_5013, al_5014, al_5015, al_5016, al_5017, al_5018, al_5019, al_5020, al_5021, al_5022, al_5023, al_5024, al_5025, al_5026, al_9000, al_101, al_102, al_104, al_105, al_107, al_108, al_110, al_111, vcs_e, lg_c0, lg_cs, lg_nil, set_c0, set_cs, okst_0, okst_s, acok_n, acok_c, List.contains_nil, List.contains_cons, Bool.or_false, Bool.false_or, Bool.false_eq_true, if_false, if_true, ite_self, ne_eq, true_and, and_true, not_false_eq_true, not_true_eq_false, false_imp_iff, true_imp_iff, Nat.ble_eq, Bool.and_eq_true, reduceCtorEq, or_false, false_or, or_true, true_or, false_and, and_false, and_self, Int.reduceLE, Int.reduceAdd, Int.reduceSub, Int.reduceMul, Int.reduceNeg, Int.reduceLT, Int.reduceEq, Int.reduceNe, Nat.reduceBEq, Nat.reduceBNe, Nat.reduceEqDiff, amCmp_in, amCmp_lt, amCmp_le, amCmp_gt, amCmp_ge, amCmp_eq, amCmp_ne, Nat.reduceLeDiff, Nat.reduceSub, Bool.and_true, Bool.true_and, Bool.and_self, Bool.or_true, Bool.true_or, isRf_3, isRf_4, isRf_5, isRf_8, isRf_9, isRf_10, isRf_11, isRf_15, isRf_16, isRf_17, isRf_18, isRf_19, isRf_20, isRf_21, isRf_22, isRf_23, isRf_24, isRf_25, isRf_26, isRf_27, isRf_28, k_X12_goEvening_0, k_X12_goEvening_1, k_X12_goEvening_2, k_X12_goEvening_3, k_X12_goEvening_6, k_X12_goEvening_7, k_X12_goEvening_8, k_X12_goEvening_10, k_X12_goEvening_12, k_X12_goEvening_13, k_X12_goEvening_16, k_X12_goEvening_19, k_X12_goEvening_20, k_X12_goEvening_21, k_X12_goEvening_23, k_X12_goEvening_24, k_X12_goEvening_25, k_X12_goEvening_26, k_X12_goEvening_29, k_X12_goEvening_30, k_X12_goEvening_31, k_X12_goEvening_33, k_X12_goEvening_34, k_X12_goEvening_35, k_X12_goEvening_36, k_X12_goEvening_37, k_X12_goEvening_38, k_X12_goEvening_41, k_X12_goEvening_43, k_X12_goEvening_44, k_X12_goEvening_45, k_X12_goEvening_48, k_X12_goEvening_49, k_X12_goEvening_50, k_X12_goEvening_52, k_X12_goEvening_55, k_X12_goEvening_58, k_X12_goEvening_59, k_X12_goEvening_60, k_X12_goEvening_62, k_X12_goEvening_63, k_X12_goEvening_64, k_X12_goEvening_65, k_X12_goEvening_66, k_X12_goEvening_67, k_X12_goEvening_68, k_X12_goEvening_70, k_X12_goEvening_71, k_X12_goEvening_72, k_X12_goEvening_73, k_X12_goEvening_74, k_X12_goEvening_75, k_X12_goEvening_76, k_X12_goEvening_79, k_X12_goEvening_80, k_X12_goEvening_83, k_X12_goEvening_86, k_X12_goEvening_87, k_X12_goEvening_89, k_X12_goEvening_90, k_X12_goEvening_91, k_X12_goEvening_92, k_X12_goEvening_94, k_X12_goEvening_95, k_X12_goEvening_96, k_X12_goEvening_97, k_X12_goEvening_98, k_X12_goEvening_99, k_X12_goEvening_100, k_X12_goEvening_102, k_X12_goEvening_103, k_X12_goEvening_105, k_X12_goEvening_108, k_X12_goEvening_109, k_X12_goEvening_111, k_X12_goEvening_113, k_X12_goEvening_116, k_X12_goEvening_119, k_X12_goEvening_120, k_X12_goEvening_122, k_X12_goEvening_124, k_X12_goEvening_125, k_X12_goEvening_126, k_X12_goEvening_128, k_X12_goEvening_130, k_X12_goEvening_131, k_X12_goEvening_132, k_X12_goEvening_133, k_X12_goEvening_134, k_X12_goEvening_135, k_X12_goEvening_138, k_X12_goEvening_141, k_X12_goEvening_142, k_X12_goEvening_144, k_X12_goEvening_145, k_X12_goEvening_146, k_X12_goEvening_147, k_X12_goEvening_148, k_X12_goEvening_149, k_X12_goEvening_151, k_X12_goEvening_152, k_X12_goEvening_153, k_X12_goEvening_155, k_X12_goEvening_156, k_X12_goEvening_157, k_X12_goEvening_158, k_X12_goEvening_160, k_X12_goEvening_161, k_X12_goEvening_163, k_X12_goEvening_164, k_X12_goEvening_165, k_X12_goEvening_166, k_X12_goEvening_168, k_X12_goEvening_169, k_X12_goEvening_170, k_X12_goEvening_171, k_X12_goEvening_174, k_X12_goEvening_175, k_X12_goEvening_176, k_X12_goEvening_178, k_X12_goEvening_179, k_X12_goEvening_180, k_X12_goEvening_181, k_X12_goEvening_182, k_X12_goEvening_183, k_X12_goEvening_185, k_X12_goEvening_186, k_X12_goEvening_187, k_X12_goEvening_188, k_X12_goEvening_189, k_X12_goEvening_190, k_X12_goEvening_191, k_X12_goEvening_194, w_J9_max_7cf53_e, w_J9_min_7cf53_e, w_X12_goPlay_e, w_X12_has_e, al, a0, sa, s5, us, s27, upf_s2, w1, h46]
        repeat' (first | assumption | apply And.intro | intro _)
        all_goals first | omega | exact absurd trivial (by assumption) | exact h0
  · change vcs _ _ _ _ 60 0 [(28, 5000), (8, a), (0, p), (6, 0), (6, 0)] [] σ
    have i9 : ∀ τ, PF σ τ → mOk τ → τ 5000 46 = A → (∀ j, 0 ≤ j → j < σ 5000 29 → τ 5019 j = F j ∧ τ 5020 j = mOa σ a p (σ 5007 (4 * p + 3)).toNat j) → ∃ k', inv_gev σ a p F O A k' 10 [(28, 5000), (8, a), (0, p), (0, O), (0, 0)] [] τ := fun τ h1 h2 h3 h4 => by
      refine ⟨306, rfl, τ, h1, h2, h3, fun j j0 j1 => (h4 j j0 j1).1, Or.inl ⟨0, rfl, rfl, by omega, by omega, ?_⟩⟩
      rw [show ((0 : Nat) : Int) = 0 from rfl, cR_0, ← PF_r h1 (b := a) (by omega), sv_id2]
    simp only [↓reduceIte, inR_0, inR_1, inR_m, vSw2_e, swP_n, swP_c, vI_e, vL_e, vNull_e, vIload_e, vLload_e, vAload_e, vIstore_e, vLstore_e, vAstore_e, vIinc_e, vIadd_e, vIsub_e, vImul_e, vIand_e, vIor_e, vIxor_e, vIshl_e, vIshr_e, vIushr_e, vIdiv_e, vIrem_e, vLadd_e, vLsub_e, vLmul_e, vLand_e, vLor_e, vLxor_e, vLdiv_e, vLrem_e, vLushr_e, vLshl_e, vLcmp_e, vIneg_e, vI2l_e, vL2i_e, vI2b_e, vI2c_e, vDup_e, vPop_e, vDup2_e, vGoto_e, vIcEq_e, vIfEq_e, vIcNe_e, vIfNe_e, vIcLt_e, vIfLt_e, vIcGe_e, vIfGe_e, vIcGt_e, vIfGt_e, vIcLe_e, vIfLe_e, vNonnull_e, vSw_e, vGetI_e, vGetL_e, vGetR_e, vPutI_e, vPutZ_e, vPutL_e, vPutR_e, vIald_e, vIald_s, vLald_e, vBald_e, vBald_s, vAald_e, vIast_e, vLast_e, vBast_e, vAast_e, vAlen_e8, vAlen_e9, vAlen_e10, vAlen_e11, vAlen_e5, vAlen_e3, vGets_e, vCompact_e, vLdcS_e, vIret_e, vZret_e, vCret_e, vBret_e, vLret_e, vVret_e, vAret_e, vCallM_e0, vCallMV_e0, vCallS_e0, vCallSV_e0, vCallM_e1, vCallMV_e1, vCallS_e1, vCallSV_e1, vCallM_e2, vCallMV_e2, vCallS_e2, vCallSV_e2, vCallM_e3, vCallMV_e3, vCallS_e3, vCallSV_e3, vCallM_e4, vCallMV_e4, vCallS_e4, vCallSV_e4, vCallM_e5, vCallMV_e5, vCallS_e5, vCallSV_e5, vCallM_e6, vCallMV_e6, vCallS_e6, vCallSV_e6, vCallM_e7, vCallMV_e7, vCallS_e7, vCallSV_e7, vBad_e, vStrVal_e, vStrCod_e, vForm_e, vCallT_e0, vCallT_e1, vCallT_e2, vCopy_e, rf_0_0, rf_0_1, rf_0_2, rf_0_3, rf_0_4, rf_0_7, rf_0_10, rf_0_11, rf_0_12, rf_0_13, rf_0_14, rf_0_15, rf_0_16, rf_1_0, rf_3_0, rf_3_1, rf_6_0, rf_6_1, rf_9_0, rf_9_1, rf_9_3, rf_13_0, rf_13_1, rf_13_2, rf_16_0, rf_16_1, rf_16_2, rf_16_3, rf_21_0, rf_21_1, rf_21_2, rf_21_3, rf_26_0, rf_26_1, rf_26_2, rf_26_3, rf_26_4, rf_26_5, rf_26_6, rf_31_0, rf_31_2, rf_31_5, rf_31_6, rf_36_0, rf_36_1, rf_36_2, rf_36_3, rf_39_0, rf_39_1, rf_39_2, rf_41_0, rf_41_1, rf_41_2, rf_41_3, rf_5000_1, rf_5000_2, rf_5000_3, rf_5000_4, rf_5000_5, rf_5000_15, rf_5000_16, rf_5000_18, rf_5000_19, rf_5000_20, rf_5000_21, rf_5000_22, rf_5000_23, rf_5000_24, rf_5000_25, rf_5000_26, rf_5000_27, rf_5000_36, rf_5000_37, rf_5000_40, rf_5000_41, rf_5000_42, rf_5000_43, rf_5000_44, rf_5000_45, rf_5000_47, rf_5000_52, rf_5000_54, rf_5000_55, rf_100_0, rf_100_1, rf_103_0, rf_103_1, rf_106_0, rf_106_1, rf_109_0, rf_109_1, al_2, al_4, al_5, al_7, al_8, al_10, al_11, al_12, al_14, al_15, al_17, al_18, al_19, al_20, al_22, al_23, al_24, al_25, al_27, al_28, al_29, al_30, al_32, al_33, al_34, al_35, al_37, al_38, al_40, al_42, al_5001, al_5002, al_5003, al_5004, al_5005, al_5006, al_5007, al_5008, al_5009, al_5010, al_5011, al_5012, al_5013, al_5014, al_5015, al_5016, al_5017, al_5018, al_5019, al_5020, al_5021, al_5022, al_5023, al_5024, al_5025, al_5026, al_9000, al_101, al_102, al_104, al_105, al_107, al_108, al_110, al_111, vcs_e, lg_c0, lg_cs, lg_nil, set_c0, set_cs, okst_0, okst_s, acok_n, acok_c, List.contains_nil, List.contains_cons, Bool.or_false, Bool.false_or, Bool.false_eq_true, if_false, if_true, ite_self, ne_eq, true_and, and_true, not_false_eq_true, not_true_eq_false, false_imp_iff, true_imp_iff, Nat.ble_eq, Bool.and_eq_true, reduceCtorEq, or_false, false_or, or_true, true_or, false_and, and_false, and_self, Int.reduceLE, Int.reduceAdd, Int.reduceSub, Int.reduceMul, Int.reduceNeg, Int.reduceLT, Int.reduceEq, Int.reduceNe, Nat.reduceBEq, Nat.reduceBNe, Nat.reduceEqDiff, amCmp_in, amCmp_lt, amCmp_le, amCmp_gt, amCmp_ge, amCmp_eq, amCmp_ne, Nat.reduceLeDiff, Nat.reduceSub, Bool.and_true, Bool.true_and, Bool.and_self, Bool.or_true, Bool.true_or, isRf_3, isRf_4, isRf_5, isRf_8, isRf_9, isRf_10, isRf_11, isRf_15, isRf_16, isRf_17, isRf_18, isRf_19, isRf_20, isRf_21, isRf_22, isRf_23, isRf_24, isRf_25, isRf_26, isRf_27, isRf_28, k_X12_goEvening_0, k_X12_goEvening_1, k_X12_goEvening_2, k_X12_goEvening_3, k_X12_goEvening_6, k_X12_goEvening_7, k_X12_goEvening_8, k_X12_goEvening_10, k_X12_goEvening_12, k_X12_goEvening_13, k_X12_goEvening_16, k_X12_goEvening_19, k_X12_goEvening_20, k_X12_goEvening_21, k_X12_goEvening_23, k_X12_goEvening_24, k_X12_goEvening_25, k_X12_goEvening_26, k_X12_goEvening_29, k_X12_goEvening_30, k_X12_goEvening_31, k_X12_goEvening_33, k_X12_goEvening_34, k_X12_goEvening_35, k_X12_goEvening_36, k_X12_goEvening_37, k_X12_goEvening_38, k_X12_goEvening_41, k_X12_goEvening_43, k_X12_goEvening_44, k_X12_goEvening_45, k_X12_goEvening_48, k_X12_goEvening_49, k_X12_goEvening_50, k_X12_goEvening_52, k_X12_goEvening_55, k_X12_goEvening_58, k_X12_goEvening_59, k_X12_goEvening_60, k_X12_goEvening_62, k_X12_goEvening_63, k_X12_goEvening_64, k_X12_goEvening_65, k_X12_goEvening_66, k_X12_goEvening_67, k_X12_goEvening_68, k_X12_goEvening_70, k_X12_goEvening_71, k_X12_goEvening_72, k_X12_goEvening_73, k_X12_goEvening_74, k_X12_goEvening_75, k_X12_goEvening_76, k_X12_goEvening_79, k_X12_goEvening_80, k_X12_goEvening_83, k_X12_goEvening_86, k_X12_goEvening_87, k_X12_goEvening_89, k_X12_goEvening_90, k_X12_goEvening_91, k_X12_goEvening_92, k_X12_goEvening_94, k_X12_goEvening_95, k_X12_goEvening_96, k_X12_goEvening_97, k_X12_goEvening_98, k_X12_goEvening_99, k_X12_goEvening_100, k_X12_goEvening_102, k_X12_goEvening_103, k_X12_goEvening_105, k_X12_goEvening_108, k_X12_goEvening_109, k_X12_goEvening_111, k_X12_goEvening_113, k_X12_goEvening_116, k_X12_goEvening_119, k_X12_goEvening_120, k_X12_goEvening_122, k_X12_goEvening_124, k_X12_goEvening_125, k_X12_goEvening_126, k_X12_goEvening_128, k_X12_goEvening_130, k_X12_goEvening_131, k_X12_goEvening_132, k_X12_goEvening_133, k_X12_goEvening_134, k_X12_goEvening_135, k_X12_goEvening_138, k_X12_goEvening_141, k_X12_goEvening_142, k_X12_goEvening_144, k_X12_goEvening_145, k_X12_goEvening_146, k_X12_goEvening_147, k_X12_goEvening_148, k_X12_goEvening_149, k_X12_goEvening_151, k_X12_goEvening_152, k_X12_goEvening_153, k_X12_goEvening_155, k_X12_goEvening_156, k_X12_goEvening_157, k_X12_goEvening_158, k_X12_goEvening_160, k_X12_goEvening_161, k_X12_goEvening_163, k_X12_goEvening_164, k_X12_goEvening_165, k_X12_goEvening_166, k_X12_goEvening_168, k_X12_goEvening_169, k_X12_goEvening_170, k_X12_goEvening_171, k_X12_goEvening_174, k_X12_goEvening_175, k_X12_goEvening_176, k_X12_goEvening_178, k_X12_goEvening_179, k_X12_goEvening_180, k_X12_goEvening_181, k_X12_goEvening_182, k_X12_goEvening_183, k_X12_goEvening_185, k_X12_goEvening_186, k_X12_goEvening_187, k_X12_goEvening_188, k_X12_goEvening_189, k_X12_goEvening_190, k_X12_goEvening_191, k_X12_goEvening_194, w_J9_max_7cf53_e, w_J9_min_7cf53_e, w_X12_goPlay_e, w_X12_has_e, hF, hO, hA]
    repeat' (first | assumption | exact hP | apply And.intro | intro _)
    all_goals first | omega | exact absurd trivial (by assumption) | exact i9 _ (by assumption) (by assumption) (by assumption) (by assumption)
