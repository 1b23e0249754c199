/-! Law: its codes -/
abbrev bnd (x : Int) : Prop := -1000000 ≤ x ∧ x ≤ 1000000
def clm (x : Int) : Int := if 1000000 < x then 1000000 else if x < -1000000 then -1000000 else x
def apF (s l r : Int) : Int := if s = 47 then (if r = 0 then 0 else Int.tdiv l r) else if s = 61 then (if l = r then 1 else 0) else if s = 60 then (if l < r then 1 else 0) else if s = 62 then (if r < l then 1 else 0) else if s = 38 then amIand l r else if s = 124 then amIor l r else clm (if s = 42 then l * r else if s = 45 then l - r else l + r)
theorem clm_1 {x : Int} (h : 1000000 < x) : clm x = 1000000 := if_pos h
theorem clm_2 {x : Int} (h : ¬ 1000000 < x) (h2 : x < -1000000) : clm x = -1000000 := by unfold clm; rw [if_neg h, if_pos h2]
theorem clm_3 {x : Int} (h : ¬ 1000000 < x) (h2 : ¬ x < -1000000) : clm x = x := by unfold clm; rw [if_neg h, if_neg h2]
theorem clm_bd (x : Int) : bnd (clm x) := by unfold clm; split; exact ⟨by decide, by decide⟩; split; exact ⟨by decide, by decide⟩; exact ⟨by omega, by omega⟩
theorem l2i_in {x : Int} (h : -2147483648 ≤ x ∧ x ≤ 2147483647) : amL2i x = x := by
  unfold amL2i
  have e1 : x.bmod (2 ^ 64) = x := Int.bmod_eq_of_le (m := 2 ^ 64) (by omega) (by omega)
  have e2 : x.bmod (2 ^ 32) = x := Int.bmod_eq_of_le (m := 2 ^ 32) (by omega) (by omega)
  rw [Int64.toInt_toInt32, Int64.toInt_ofInt, e1, e2]
theorem mul_bd {l r : Int} (hl : bnd l) (hr : bnd r) : -1000000000000 ≤ l * r ∧ l * r ≤ 1000000000000 := by
  have h1 : l.natAbs ≤ 1000000 := by omega
  have h2 : r.natAbs ≤ 1000000 := by omega
  have h3 : (l * r).natAbs ≤ 1000000 * 1000000 := by rw [Int.natAbs_mul]; exact Nat.mul_le_mul h1 h2
  omega

theorem wd_828 : Cond.constantLong RX2 20 1000000 ∈ TBL := tb_tab (List.mem_of_getElem? (i := 828) (by decide +kernel)) rfl
theorem wd_829 : Cond.constant RX2 22 1000000 ∈ TBL := tb_tab (List.mem_of_getElem? (i := 829) (by decide +kernel)) rfl
theorem wd_830 : Cond.constantLong RX2 23 (-1000000) ∈ TBL := tb_tab (List.mem_of_getElem? (i := 830) (by decide +kernel)) rfl
theorem wd_831 : Cond.constant RX2 25 (-1000000) ∈ TBL := tb_tab (List.mem_of_getElem? (i := 831) (by decide +kernel)) rfl
def a_X2_apply : AC := [(0, vIload 0 1), (1, vSw2 [(38, 105), (47, 60), (60, 83), (61, 72), (62, 94), (124, 109)] 113), (60, vIload 2 61), (61, vIfNe 68 64), (64, vI 0 65), (65, vGoto 71), (68, vIload 1 69), (69, vIload 2 70), (70, vIdiv 71), (71, vIret), (72, vIload 1 73), (73, vIload 2 74), (74, vIcNe 81 77), (77, vI 1 78), (78, vGoto 82), (81, vI 0 82), (82, vIret), (83, vIload 1 84), (84, vIload 2 85), (85, vIcGe 92 88), (88, vI 1 89), (89, vGoto 93), (92, vI 0 93), (93, vIret), (94, vIload 1 95), (95, vIload 2 96), (96, vIcLe 103 99), (99, vI 1 100), (100, vGoto 104), (103, vI 0 104), (104, vIret), (105, vIload 1 106), (106, vIload 2 107), (107, vIand 108), (108, vIret), (109, vIload 1 110), (110, vIload 2 111), (111, vIor 112), (112, vIret), (113, vIload 0 114), (114, vI 45 116), (116, vIcNe 127 119), (119, vIload 1 120), (120, vI2l 121), (121, vIload 2 122), (122, vI2l 123), (123, vLsub 124), (124, vGoto 132), (127, vIload 1 128), (128, vI2l 129), (129, vIload 2 130), (130, vI2l 131), (131, vLadd 132), (132, vLstore 3 133), (133, vIload 0 134), (134, vI 42 136), (136, vIcNe 147 139), (139, vIload 1 140), (140, vI2l 141), (141, vIload 2 142), (142, vI2l 143), (143, vLmul 144), (144, vGoto 148), (147, vLload 3 148), (148, vLstore 5 150), (150, vLload 5 152), (152, vL 1000000 155), (155, vLcmp 156), (156, vIfLe 162 159), (159, vI 1000000 161), (161, vIret), (162, vLload 5 164), (164, vL (-1000000) 167), (167, vLcmp 168), (168, vIfGe 176 171), (171, vI (-1000000) 173), (173, vGoto 179), (176, vLload 5 178), (178, vL2i 179), (179, vIret)]
theorem k_X2_apply_0 : look a_X2_apply 0 = vIload 0 1 := rfl
theorem k_X2_apply_1 : look a_X2_apply 1 = vSw2 [(38, 105), (47, 60), (60, 83), (61, 72), (62, 94), (124, 109)] 113 := rfl
theorem k_X2_apply_60 : look a_X2_apply 60 = vIload 2 61 := rfl
theorem k_X2_apply_61 : look a_X2_apply 61 = vIfNe 68 64 := rfl
theorem k_X2_apply_64 : look a_X2_apply 64 = vI 0 65 := rfl
theorem k_X2_apply_65 : look a_X2_apply 65 = vGoto 71 := rfl
theorem k_X2_apply_68 : look a_X2_apply 68 = vIload 1 69 := rfl
theorem k_X2_apply_69 : look a_X2_apply 69 = vIload 2 70 := rfl
theorem k_X2_apply_70 : look a_X2_apply 70 = vIdiv 71 := rfl
theorem k_X2_apply_71 : look a_X2_apply 71 = vIret := rfl
theorem k_X2_apply_72 : look a_X2_apply 72 = vIload 1 73 := rfl
theorem k_X2_apply_73 : look a_X2_apply 73 = vIload 2 74 := rfl
theorem k_X2_apply_74 : look a_X2_apply 74 = vIcNe 81 77 := rfl
theorem k_X2_apply_77 : look a_X2_apply 77 = vI 1 78 := rfl
theorem k_X2_apply_78 : look a_X2_apply 78 = vGoto 82 := rfl
theorem k_X2_apply_81 : look a_X2_apply 81 = vI 0 82 := rfl
theorem k_X2_apply_82 : look a_X2_apply 82 = vIret := rfl
theorem k_X2_apply_83 : look a_X2_apply 83 = vIload 1 84 := rfl
theorem k_X2_apply_84 : look a_X2_apply 84 = vIload 2 85 := rfl
theorem k_X2_apply_85 : look a_X2_apply 85 = vIcGe 92 88 := rfl
theorem k_X2_apply_88 : look a_X2_apply 88 = vI 1 89 := rfl
theorem k_X2_apply_89 : look a_X2_apply 89 = vGoto 93 := rfl
theorem k_X2_apply_92 : look a_X2_apply 92 = vI 0 93 := rfl
theorem k_X2_apply_93 : look a_X2_apply 93 = vIret := rfl
theorem k_X2_apply_94 : look a_X2_apply 94 = vIload 1 95 := rfl
theorem k_X2_apply_95 : look a_X2_apply 95 = vIload 2 96 := rfl
theorem k_X2_apply_96 : look a_X2_apply 96 = vIcLe 103 99 := rfl
theorem k_X2_apply_99 : look a_X2_apply 99 = vI 1 100 := rfl
theorem k_X2_apply_100 : look a_X2_apply 100 = vGoto 104 := rfl
theorem k_X2_apply_103 : look a_X2_apply 103 = vI 0 104 := rfl
theorem k_X2_apply_104 : look a_X2_apply 104 = vIret := rfl
theorem k_X2_apply_105 : look a_X2_apply 105 = vIload 1 106 := rfl
theorem k_X2_apply_106 : look a_X2_apply 106 = vIload 2 107 := rfl
theorem k_X2_apply_107 : look a_X2_apply 107 = vIand 108 := rfl
theorem k_X2_apply_108 : look a_X2_apply 108 = vIret := rfl
theorem k_X2_apply_109 : look a_X2_apply 109 = vIload 1 110 := rfl
theorem k_X2_apply_110 : look a_X2_apply 110 = vIload 2 111 := rfl
theorem k_X2_apply_111 : look a_X2_apply 111 = vIor 112 := rfl
theorem k_X2_apply_112 : look a_X2_apply 112 = vIret := rfl
theorem k_X2_apply_113 : look a_X2_apply 113 = vIload 0 114 := rfl
theorem k_X2_apply_114 : look a_X2_apply 114 = vI 45 116 := rfl
theorem k_X2_apply_116 : look a_X2_apply 116 = vIcNe 127 119 := rfl
theorem k_X2_apply_119 : look a_X2_apply 119 = vIload 1 120 := rfl
theorem k_X2_apply_120 : look a_X2_apply 120 = vI2l 121 := rfl
theorem k_X2_apply_121 : look a_X2_apply 121 = vIload 2 122 := rfl
theorem k_X2_apply_122 : look a_X2_apply 122 = vI2l 123 := rfl
theorem k_X2_apply_123 : look a_X2_apply 123 = vLsub 124 := rfl
theorem k_X2_apply_124 : look a_X2_apply 124 = vGoto 132 := rfl
theorem k_X2_apply_127 : look a_X2_apply 127 = vIload 1 128 := rfl
theorem k_X2_apply_128 : look a_X2_apply 128 = vI2l 129 := rfl
theorem k_X2_apply_129 : look a_X2_apply 129 = vIload 2 130 := rfl
theorem k_X2_apply_130 : look a_X2_apply 130 = vI2l 131 := rfl
theorem k_X2_apply_131 : look a_X2_apply 131 = vLadd 132 := rfl
theorem k_X2_apply_132 : look a_X2_apply 132 = vLstore 3 133 := rfl
theorem k_X2_apply_133 : look a_X2_apply 133 = vIload 0 134 := rfl
theorem k_X2_apply_134 : look a_X2_apply 134 = vI 42 136 := rfl
theorem k_X2_apply_136 : look a_X2_apply 136 = vIcNe 147 139 := rfl
theorem k_X2_apply_139 : look a_X2_apply 139 = vIload 1 140 := rfl
theorem k_X2_apply_140 : look a_X2_apply 140 = vI2l 141 := rfl
theorem k_X2_apply_141 : look a_X2_apply 141 = vIload 2 142 := rfl
theorem k_X2_apply_142 : look a_X2_apply 142 = vI2l 143 := rfl
theorem k_X2_apply_143 : look a_X2_apply 143 = vLmul 144 := rfl
theorem k_X2_apply_144 : look a_X2_apply 144 = vGoto 148 := rfl
theorem k_X2_apply_147 : look a_X2_apply 147 = vLload 3 148 := rfl
theorem k_X2_apply_148 : look a_X2_apply 148 = vLstore 5 150 := rfl
theorem k_X2_apply_150 : look a_X2_apply 150 = vLload 5 152 := rfl
theorem k_X2_apply_152 : look a_X2_apply 152 = vL 1000000 155 := rfl
theorem k_X2_apply_155 : look a_X2_apply 155 = vLcmp 156 := rfl
theorem k_X2_apply_156 : look a_X2_apply 156 = vIfLe 162 159 := rfl
theorem k_X2_apply_159 : look a_X2_apply 159 = vI 1000000 161 := rfl
theorem k_X2_apply_161 : look a_X2_apply 161 = vIret := rfl
theorem k_X2_apply_162 : look a_X2_apply 162 = vLload 5 164 := rfl
theorem k_X2_apply_164 : look a_X2_apply 164 = vL (-1000000) 167 := rfl
theorem k_X2_apply_167 : look a_X2_apply 167 = vLcmp 168 := rfl
theorem k_X2_apply_168 : look a_X2_apply 168 = vIfGe 176 171 := rfl
theorem k_X2_apply_171 : look a_X2_apply 171 = vI (-1000000) 173 := rfl
theorem k_X2_apply_173 : look a_X2_apply 173 = vGoto 179 := rfl
theorem k_X2_apply_176 : look a_X2_apply 176 = vLload 5 178 := rfl
theorem k_X2_apply_178 : look a_X2_apply 178 = vL2i 179 := rfl
theorem k_X2_apply_179 : look a_X2_apply 179 = vIret := rfl
theorem o_X2_apply {X : amX} (e1 : XT X = TT) (e2 : XD X = 0) (hB : amB X RX2 cX2_apply (some .int) 7) : ∀ pc, amOK X pc (look a_X2_apply pc) := by
  have hT : amTok (XT X) := e1 ▸ TT_ok
  refine look_ok ?_
  unfold a_X2_apply
  refine fc (ok_iload_n hB dX2_apply_0) ?_
  refine fc (ok_sw2 (by decide) (ok_lookupswitch hB [(38, 105), (47, 60), (60, 83), (61, 72), (62, 94), (124, 109)] dX2_apply_1 (by decide) (by decide) (by decide))) ?_
  refine fc (ok_iload_n hB dX2_apply_60) ?_
  refine fc (ok_if_ne hB (t := 68) (by decide) dX2_apply_61) ?_
  refine fc (ok_iconst hB dX2_apply_64) ?_
  refine fc (ok_goto hB (t := 71) (by decide) dX2_apply_65) ?_
  refine fc (ok_iload_n hB dX2_apply_68) ?_
  refine fc (ok_iload_n hB dX2_apply_69) ?_
  refine fc (ok_idiv hB dX2_apply_70) ?_
  refine fc (ok_iret hB dX2_apply_71) ?_
  refine fc (ok_iload_n hB dX2_apply_72) ?_
  refine fc (ok_iload_n hB dX2_apply_73) ?_
  refine fc (ok_icmp_ne hB (t := 81) (by decide) dX2_apply_74) ?_
  refine fc (ok_iconst hB dX2_apply_77) ?_
  refine fc (ok_goto hB (t := 82) (by decide) dX2_apply_78) ?_
  refine fc (ok_iconst hB dX2_apply_81) ?_
  refine fc (ok_iret hB dX2_apply_82) ?_
  refine fc (ok_iload_n hB dX2_apply_83) ?_
  refine fc (ok_iload_n hB dX2_apply_84) ?_
  refine fc (ok_icmp_ge hB (t := 92) (by decide) dX2_apply_85) ?_
  refine fc (ok_iconst hB dX2_apply_88) ?_
  refine fc (ok_goto hB (t := 93) (by decide) dX2_apply_89) ?_
  refine fc (ok_iconst hB dX2_apply_92) ?_
  refine fc (ok_iret hB dX2_apply_93) ?_
  refine fc (ok_iload_n hB dX2_apply_94) ?_
  refine fc (ok_iload_n hB dX2_apply_95) ?_
  refine fc (ok_icmp_le hB (t := 103) (by decide) dX2_apply_96) ?_
  refine fc (ok_iconst hB dX2_apply_99) ?_
  refine fc (ok_goto hB (t := 104) (by decide) dX2_apply_100) ?_
  refine fc (ok_iconst hB dX2_apply_103) ?_
  refine fc (ok_iret hB dX2_apply_104) ?_
  refine fc (ok_iload_n hB dX2_apply_105) ?_
  refine fc (ok_iload_n hB dX2_apply_106) ?_
  refine fc (ok_iand hB dX2_apply_107) ?_
  refine fc (ok_iret hB dX2_apply_108) ?_
  refine fc (ok_iload_n hB dX2_apply_109) ?_
  refine fc (ok_iload_n hB dX2_apply_110) ?_
  refine fc (ok_ior hB dX2_apply_111) ?_
  refine fc (ok_iret hB dX2_apply_112) ?_
  refine fc (ok_iload_n hB dX2_apply_113) ?_
  refine fc (ok_bipush hB dX2_apply_114 (by decide)) ?_
  refine fc (ok_icmp_ne hB (t := 127) (by decide) dX2_apply_116) ?_
  refine fc (ok_iload_n hB dX2_apply_119) ?_
  refine fc (ok_i2l hB dX2_apply_120) ?_
  refine fc (ok_iload_n hB dX2_apply_121) ?_
  refine fc (ok_i2l hB dX2_apply_122) ?_
  refine fc (ok_lsub hB dX2_apply_123) ?_
  refine fc (ok_goto hB (t := 132) (by decide) dX2_apply_124) ?_
  refine fc (ok_iload_n hB dX2_apply_127) ?_
  refine fc (ok_i2l hB dX2_apply_128) ?_
  refine fc (ok_iload_n hB dX2_apply_129) ?_
  refine fc (ok_i2l hB dX2_apply_130) ?_
  refine fc (ok_ladd hB dX2_apply_131) ?_
  refine fc (ok_lstore_n hB (by decide) dX2_apply_132) ?_
  refine fc (ok_iload_n hB dX2_apply_133) ?_
  refine fc (ok_bipush hB dX2_apply_134 (by decide)) ?_
  refine fc (ok_icmp_ne hB (t := 147) (by decide) dX2_apply_136) ?_
  refine fc (ok_iload_n hB dX2_apply_139) ?_
  refine fc (ok_i2l hB dX2_apply_140) ?_
  refine fc (ok_iload_n hB dX2_apply_141) ?_
  refine fc (ok_i2l hB dX2_apply_142) ?_
  refine fc (ok_lmul hB dX2_apply_143) ?_
  refine fc (ok_goto hB (t := 148) (by decide) dX2_apply_144) ?_
  refine fc (ok_lload_n hB dX2_apply_147) ?_
  refine fc (ok_lstore hB (by decide) dX2_apply_148) ?_
  refine fc (ok_lload hB dX2_apply_150) ?_
  refine fc (ok_ldc2 hB wd_828 rfl dX2_apply_152) ?_
  refine fc (ok_lcmp hB dX2_apply_155) ?_
  refine fc (ok_if_le hB (t := 162) (by decide) dX2_apply_156) ?_
  refine fc (ok_ldc hB wd_829 rfl dX2_apply_159) ?_
  refine fc (ok_iret hB dX2_apply_161) ?_
  refine fc (ok_lload hB dX2_apply_162) ?_
  refine fc (ok_ldc2 hB wd_830 rfl dX2_apply_164) ?_
  refine fc (ok_lcmp hB dX2_apply_167) ?_
  refine fc (ok_if_ge hB (t := 176) (by decide) dX2_apply_168) ?_
  refine fc (ok_ldc hB wd_831 rfl dX2_apply_171) ?_
  refine fc (ok_goto hB (t := 179) (by decide) dX2_apply_173) ?_
  refine fc (ok_lload hB dX2_apply_176) ?_
  refine fc (ok_l2i hB dX2_apply_178) ?_
  refine fc (ok_iret hB dX2_apply_179) ?_
  exact fn

def w_X2_apply : WP := fun av σ Q => ∃ (s : Int) (l : Int) (r : Int), av = [(0, s), (0, l), (0, r)] ∧ (InR s ∧ bnd l ∧ bnd r ∧ Q (0, apF s l r) σ)
theorem w_X2_apply_e (s : Int) (l : Int) (r : Int) (σ : Mem) (Q : AV → Mem → Prop) : w_X2_apply [(0, s), (0, l), (0, r)] σ Q = (InR s ∧ bnd l ∧ bnd r ∧ Q (0, apF s l r) σ) := by
  apply propext; constructor
  · rintro ⟨s', l', r', h9, hb9⟩; cases h9; exact hb9
  · intro hb9; exact ⟨s, l, r, rfl, hb9⟩

set_option maxRecDepth 100000 in
set_option maxHeartbeats 4000000 in
theorem s_X2_apply : ∀ av σ Q, w_X2_apply av σ Q → amCall 0 0 0 TT yX2_apply cX2_apply 7 (some .int) av σ Q := by
  rintro av σ Q ⟨s, l, r, rfl, hs, hl, hr, h⟩
  have hm := mul_bd hl hr
  refine am_m0 (own := RX2) (A := look a_X2_apply) (fun X e1 e2 hB => o_X2_apply e1 e2 hB) rfl (by decide +kernel) rfl rfl 120 (w := 7) ?_
  change vcs _ _ _ _ 120 0 [(0, s), (0, l), (0, r), (6, 0), (6, 0), (6, 0), (6, 0)] [] σ
  simp only [↓reduceIte, vSw2_e, swP_n, swP_c, vI_e, vL_e, vNull_e, vIload_e, vLload_e, vAload_e, vIstore_e, vLstore_e, vAstore_e, vIinc_e, vIadd_e, vIsub_e, vImul_e, vIand_e, vIor_e, vIxor_e, vIshl_e, vIshr_e, vIushr_e, vIdiv_e, vIrem_e, vLadd_e, vLsub_e, vLmul_e, vLand_e, vLor_e, vLxor_e, vLdiv_e, vLrem_e, vLushr_e, vLshl_e, vLcmp_e, vIneg_e, vI2l_e, vL2i_e, vI2b_e, vI2c_e, vDup_e, vPop_e, vDup2_e, vGoto_e, vIcEq_e, vIfEq_e, vIcNe_e, vIfNe_e, vIcLt_e, vIfLt_e, vIcGe_e, vIfGe_e, vIcGt_e, vIfGt_e, vIcLe_e, vIfLe_e, vNonnull_e, vSw_e, vGetI_e, vGetL_e, vGetR_e, vPutI_e, vPutZ_e, vPutL_e, vPutR_e, vIald_e, vIald_s, vLald_e, vBald_e, vBald_s, vAald_e, vIast_e, vLast_e, vBast_e, vAast_e, vAlen_e8, vAlen_e9, vAlen_e10, vAlen_e11, vAlen_e5, vAlen_e3, vGets_e, vCompact_e, vLdcS_e, vIret_e, vZret_e, vCret_e, vBret_e, vLret_e, vVret_e, vAret_e, vCallM_e0, vCallMV_e0, vCallS_e0, vCallSV_e0, vCallM_e1, vCallMV_e1, vCallS_e1, vCallSV_e1, vCallM_e2, vCallMV_e2, vCallS_e2, vCallSV_e2, vCallM_e3, vCallMV_e3, vCallS_e3, vCallSV_e3, vCallM_e4, vCallMV_e4, vCallS_e4, vCallSV_e4, vCallM_e5, vCallMV_e5, vCallS_e5, vCallSV_e5, vCallM_e6, vCallMV_e6, vCallS_e6, vCallSV_e6, vCallM_e7, vCallMV_e7, vCallS_e7, vCallSV_e7, vBad_e, vStrVal_e, vStrCod_e, vForm_e, vCallT_e0, vCallT_e1, vCallT_e2, vCopy_e, rf_0_0, rf_0_1, rf_0_2, rf_0_3, rf_0_4, rf_0_7, rf_0_10, rf_0_11, rf_0_12, rf_0_13, rf_0_14, rf_0_15, rf_0_16, rf_1_0, rf_3_0, rf_3_1, rf_6_0, rf_6_1, rf_9_0, rf_9_1, rf_9_3, rf_13_0, rf_13_1, rf_13_2, rf_16_0, rf_16_1, rf_16_2, rf_16_3, rf_21_0, rf_21_1, rf_21_2, rf_21_3, rf_26_0, rf_26_1, rf_26_2, rf_26_3, rf_26_4, rf_26_5, rf_26_6, rf_31_0, rf_31_2, rf_31_5, rf_31_6, rf_36_0, rf_36_1, rf_36_2, rf_36_3, rf_39_0, rf_39_1, rf_39_2, rf_41_0, rf_41_1, rf_41_2, rf_41_3, rf_5000_1, rf_5000_2, rf_5000_3, rf_5000_4, rf_5000_5, rf_5000_15, rf_5000_16, rf_5000_18, rf_5000_19, rf_5000_20, rf_5000_21, rf_5000_22, rf_5000_23, rf_5000_24, rf_5000_25, rf_5000_26, rf_5000_27, rf_5000_36, rf_5000_37, rf_5000_40, rf_5000_41, rf_5000_42, rf_5000_43, rf_5000_44, rf_5000_45, rf_5000_47, rf_5000_52, rf_5000_54, rf_5000_55, rf_100_0, rf_100_1, rf_103_0, rf_103_1, rf_106_0, rf_106_1, rf_109_0, rf_109_1, al_2, al_4, al_5, al_7, al_8, al_10, al_11, al_12, al_14, al_15, al_17, al_18, al_19, al_20, al_22, al_23, al_24, al_25, al_27, al_28, al_29, al_30, al_32, al_33, al_34, al_35, al_37, al_38, al_40, al_42, al_5001, al_5002, al_5003, al_5004, al_5005, al_5006, al_5007, al_5008, al_5009, al_5010, al_5011, al_5012, al_5013, al_5014, al_5015, al_5016, al_5017, al_5018, al_5019, al_5020, al_5021, al_5022, al_5023, al_5024, al_5025, al_5026, al_9000, al_101, al_102, al_104, al_105, al_107, al_108, al_110, al_111, vcs_e, lg_c0, lg_cs, lg_nil, set_c0, set_cs, okst_0, okst_s, acok_n, acok_c, List.contains_nil, List.contains_cons, Bool.or_false, Bool.false_or, Bool.false_eq_true, if_false, if_true, ite_self, ne_eq, true_and, and_true, not_false_eq_true, not_true_eq_false, false_imp_iff, true_imp_iff, Nat.ble_eq, Bool.and_eq_true, reduceCtorEq, or_false, false_or, or_true, true_or, false_and, and_false, and_self, Int.reduceLE, Int.reduceAdd, Int.reduceSub, Int.reduceMul, Int.reduceNeg, Int.reduceLT, Int.reduceEq, Int.reduceNe, Nat.reduceBEq, Nat.reduceBNe, Nat.reduceEqDiff, amCmp_in, amCmp_lt, amCmp_le, amCmp_gt, amCmp_ge, amCmp_eq, amCmp_ne, Nat.reduceLeDiff, Nat.reduceSub, Bool.and_true, Bool.true_and, Bool.and_self, Bool.or_true, Bool.true_or, isRf_3, isRf_4, isRf_5, isRf_8, isRf_9, isRf_10, isRf_11, isRf_15, isRf_16, isRf_17, isRf_18, isRf_19, isRf_20, isRf_21, isRf_22, isRf_23, isRf_24, isRf_25, isRf_26, isRf_27, isRf_28, k_X2_apply_0, k_X2_apply_1, k_X2_apply_60, k_X2_apply_61, k_X2_apply_64, k_X2_apply_65, k_X2_apply_68, k_X2_apply_69, k_X2_apply_70, k_X2_apply_71, k_X2_apply_72, k_X2_apply_73, k_X2_apply_74, k_X2_apply_77, k_X2_apply_78, k_X2_apply_81, k_X2_apply_82, k_X2_apply_83, k_X2_apply_84, k_X2_apply_85, k_X2_apply_88, k_X2_apply_89, k_X2_apply_92, k_X2_apply_93, k_X2_apply_94, k_X2_apply_95, k_X2_apply_96, k_X2_apply_99, k_X2_apply_100, k_X2_apply_103, k_X2_apply_104, k_X2_apply_105, k_X2_apply_106, k_X2_apply_107, k_X2_apply_108, k_X2_apply_109, k_X2_apply_110, k_X2_apply_111, k_X2_apply_112, k_X2_apply_113, k_X2_apply_114, k_X2_apply_116, k_X2_apply_119, k_X2_apply_120, k_X2_apply_121, k_X2_apply_122, k_X2_apply_123, k_X2_apply_124, k_X2_apply_127, k_X2_apply_128, k_X2_apply_129, k_X2_apply_130, k_X2_apply_131, k_X2_apply_132, k_X2_apply_133, k_X2_apply_134, k_X2_apply_136, k_X2_apply_139, k_X2_apply_140, k_X2_apply_141, k_X2_apply_142, k_X2_apply_143, k_X2_apply_144, k_X2_apply_147, k_X2_apply_148, k_X2_apply_150, k_X2_apply_152, k_X2_apply_155, k_X2_apply_156, k_X2_apply_159, k_X2_apply_161, k_X2_apply_162, k_X2_apply_164, k_X2_apply_167, k_X2_apply_168, k_X2_apply_171, k_X2_apply_173, k_X2_apply_176, k_X2_apply_178, k_X2_apply_179]
  unfold apF at h
  by_cases c1 : s = 47
  · subst c1
    simp only [if_true, Int.reduceEq, if_false, ne_eq, not_false_eq_true, not_true_eq_false, false_imp_iff, true_imp_iff, and_true, true_and] at h ⊢
    repeat' (first | assumption | apply And.intro | intro _)
    all_goals first | omega | (rw [if_pos (by omega)] at h; exact h) | (rw [if_neg (by omega)] at h; exact h)
  by_cases c2 : s = 61
  · subst c2
    simp only [if_true, Int.reduceEq, if_false, ne_eq, not_false_eq_true, not_true_eq_false, false_imp_iff, true_imp_iff, and_true, true_and] at h ⊢
    repeat' (first | assumption | apply And.intro | intro _)
    all_goals first | omega | (rw [if_pos (by omega)] at h; exact h) | (rw [if_neg (by omega)] at h; exact h)
  by_cases c3 : s = 60
  · subst c3
    simp only [if_true, Int.reduceEq, if_false, ne_eq, not_false_eq_true, not_true_eq_false, false_imp_iff, true_imp_iff, and_true, true_and] at h ⊢
    repeat' (first | assumption | apply And.intro | intro _)
    all_goals first | omega | (rw [if_pos (by omega)] at h; exact h) | (rw [if_neg (by omega)] at h; exact h)
  by_cases c4 : s = 62
  · subst c4
    simp only [if_true, Int.reduceEq, if_false, ne_eq, not_false_eq_true, not_true_eq_false, false_imp_iff, true_imp_iff, and_true, true_and] at h ⊢
    repeat' (first | assumption | apply And.intro | intro _)
    all_goals first | omega | (rw [if_pos (by omega)] at h; exact h) | (rw [if_neg (by omega)] at h; exact h)
  by_cases c5 : s = 38
  · subst c5
    simp only [if_true, Int.reduceEq, if_false, ne_eq, not_false_eq_true, not_true_eq_false, false_imp_iff, true_imp_iff, and_true, true_and] at h ⊢
    repeat' (first | assumption | apply And.intro | intro _)
    all_goals first | omega | exact h
  by_cases c6 : s = 124
  · subst c6
    simp only [if_true, Int.reduceEq, if_false, ne_eq, not_false_eq_true, not_true_eq_false, false_imp_iff, true_imp_iff, and_true, true_and] at h ⊢
    repeat' (first | assumption | apply And.intro | intro _)
    all_goals first | omega | exact h
  rw [if_neg c1, if_neg c2, if_neg c3, if_neg c4, if_neg c5, if_neg c6] at h
  by_cases c7 : s = 42
  · subst c7
    simp only [if_true, Int.reduceEq, if_false, ne_eq, not_false_eq_true, not_true_eq_false, false_imp_iff, true_imp_iff, and_true, true_and] at h ⊢
    repeat' (first | assumption | apply And.intro | intro _)
    all_goals first | omega | (rw [clm_1 (by omega)] at h; exact h) | (rw [clm_2 (by omega) (by omega)] at h; exact h) | (rw [clm_3 (by omega) (by omega)] at h; rw [l2i_in (by omega)]; exact h)
  · rw [if_neg c7] at h
    by_cases c8 : s = 45
    · subst c8
      simp only [if_true, Int.reduceEq, if_false, ne_eq, not_false_eq_true, not_true_eq_false, false_imp_iff, true_imp_iff, and_true, true_and] at h ⊢
      repeat' (first | assumption | apply And.intro | intro _)
      all_goals first | omega | (rw [clm_1 (by omega)] at h; exact h) | (rw [clm_2 (by omega) (by omega)] at h; exact h) | (rw [clm_3 (by omega) (by omega)] at h; rw [l2i_in (by omega)]; exact h)
    · rw [if_neg c8] at h
      repeat' (first | assumption | apply And.intro | intro _)
      all_goals first | omega | (rw [clm_1 (by omega)] at h; exact h) | (rw [clm_2 (by omega) (by omega)] at h; exact h) | (rw [clm_3 (by omega) (by omega)] at h; rw [l2i_in (by omega)]; exact h)
/-- the codes, run: none where they are not as they should be -/
def wx (c : Int → Int) (len : Int) (L : Int → Int) : Nat → Int → List Int → Option Int
  | 0, _, _ => none
  | f + 1, i, s =>
    if i < 0 ∨ len < i then none
    else if i = len then some 0
    else if 0 ≤ c i ∧ c i < 10000 then (if s.length < 48 then wx c len L f (i + 1) (c i :: s) else none)
    else if 10000 ≤ c i ∧ c i < 10006 then (if s.length < 48 then wx c len L f (i + 1) (L (c i - 10000) :: s) else none)
    else match s with
    | [] => none
    | a :: s =>
      if c i = 20059 then some a
      else if c i = 20033 then wx c len L f (i + 1) ((1 - a) :: s)
      else if 30000 ≤ c i ∧ c i ≤ 30241 then (if ¬ bnd a then none else if a = 0 then (if i < c i - 30000 then wx c len L f (c i - 30000) s else none) else wx c len L f (i + 1) s)
      else if 20000 ≤ c i ∧ c i < 30000 then
        match s with
        | [] => none
        | b :: s => if bnd a ∧ bnd b then wx c len L f (i + 1) (apF (c i - 20000) b a :: s) else none
      else none
def stk (g : Int → Int) : List Int → Prop
  | [] => True
  | a :: s => g s.length = a ∧ stk g s
theorem stk_upf {g : Int → Int} {k v : Int} : ∀ {s : List Int}, (s.length : Int) ≤ k → stk g s → stk (upf g k v) s := by
  intro s
  induction s with
  | nil => intro _ _; trivial
  | cons a s ih =>
    intro h1 h2
    have h3 : (s.length : Int) + 1 ≤ k := by simpa using h1
    exact ⟨by unfold upf; rw [if_neg (by omega)]; exact h2.1, ih (by omega) h2.2⟩
theorem upf_s (f : Int → Int) (k v : Int) : upf f k v k = v := if_pos rfl
theorem law_id {a : Int} (h : a = 100 ∨ a = 103 ∨ a = 106 ∨ a = 109) (σ : Mem) : rfv TT σ a 0 = a + 1 ∧ rfv TT σ a 1 = a + 2 ∧ alen TT σ (a + 1) = σ (a + 1) (-1) ∧ alen TT σ (a + 2) = 48 := by
  rcases h with rfl | rfl | rfl | rfl <;> exact ⟨rfl, rfl, rfl, rfl⟩

