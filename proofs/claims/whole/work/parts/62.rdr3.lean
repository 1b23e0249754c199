/-! LawReader: the machine -/
theorem inR_0 : InR 0 = True := eq_true ⟨by decide, by decide⟩
theorem inR_1 : InR 1 = True := eq_true ⟨by decide, by decide⟩
theorem inR_m : InR (-1) = True := eq_true ⟨by decide, by decide⟩
theorem lix_f {x : Int} : (if x = -1 then -1 else fidx (stv 20102) x 0 6) = lix x := by
  have e0 : stv 20102 0 = 102 := by decide
  have e1 : stv 20102 1 = 104 := by decide
  have e2 : stv 20102 2 = 100 := by decide
  have e3 : stv 20102 3 = 110 := by decide
  have e4 : stv 20102 4 = 107 := by decide
  have e5 : stv 20102 5 = 101 := by decide
  unfold lix
  simp only [fidx, Int.zero_add, Int.reduceAdd, e0, e1, e2, e3, e4, e5]
  by_cases c : x = -1
  · subst c; rfl
  · rw [if_neg c]
    simp only [eq_comm (b := x)]

theorem wd_600 : Cond.methodLink RX3 100 yX10_isDigit ∈ TBL := tb_tab (List.mem_of_getElem? (i := 600) (by decide +kernel)) rfl
theorem lk_X3_100 : amLk RX3 100 yX10_isDigit cX10_isDigit 1 (some .boolean) 1 := ⟨wd_600, wd_2, wd_548, by decide +kernel, by decide +kernel, by decide⟩
theorem wd_601 : Cond.methodLink RX3 103 yX10_number ∈ TBL := tb_tab (List.mem_of_getElem? (i := 601) (by decide +kernel)) rfl
theorem lk_X3_103 : amLk RX3 103 yX10_number cX10_number 4 (some .int) 1 := ⟨wd_601, wd_2, wd_544, by decide +kernel, by decide +kernel, by decide⟩
theorem wd_603 : Cond.methodLink RX3 113 yX10_place ∈ TBL := tb_tab (List.mem_of_getElem? (i := 603) (by decide +kernel)) rfl
theorem lk_X3_113 : amLk RX3 113 yX10_place cX10_place 2 (some .int) 2 := ⟨wd_603, wd_2, wd_419, by decide +kernel, by decide +kernel, by decide⟩
theorem wd_604 : Cond.methodLink RX3 117 yX3_open ∈ TBL := tb_tab (List.mem_of_getElem? (i := 604) (by decide +kernel)) rfl
theorem wd_607 : Cond.code yX3_open cX3_open 2 (some .boolean) ∈ TBL := tb_tab (List.mem_of_getElem? (i := 607) (by decide +kernel)) rfl
theorem lk_X3_117 : amLk RX3 117 yX3_open cX3_open 2 (some .boolean) 1 := ⟨wd_604, wd_4, wd_607, by decide +kernel, by decide +kernel, by decide⟩
theorem wd_606 : Cond.instanceMethod yX3_open ∈ TBL := tb_tab (List.mem_of_getElem? (i := 606) (by decide +kernel)) rfl
theorem sl_X3_open : Cond.selects RX3 yX3_open yX3_open ∈ TBL := tb_sel (List.mem_of_getElem? (i := 11) (by decide +kernel)) rfl
def a_X3_takeAtom : AC := [(0, vIload 1 1), (1, vCallS w_X10_isDigit 1 4), (4, vIfEq 37 7), (7, vAload 0 8), (8, vGetR TT 19 0 26 11), (11, vI 4 12), (12, vCallM w_X10_number 26 1 15), (15, vIstore 2 16), (16, vAload 0 17), (17, vIload 2 18), (18, vCallMV w_X3_emit 19 1 21), (21, vAload 0 22), (22, vI 0 23), (23, vPutZ 19 10 26), (26, vIload 2 27), (27, vI (-1) 28), (28, vIcEq 35 31), (31, vI 1 32), (32, vGoto 36), (35, vI 0 36), (36, vZret), (37, vIload 1 38), (38, vLdcS 20002 40), (40, vCallS w_X10_place 2 43), (43, vIstore 2 44), (44, vIload 2 45), (45, vI (-1) 46), (46, vIcEq 78 49), (49, vAload 0 50), (50, vI 10000 53), (53, vIload 2 54), (54, vIadd 55), (55, vCallMV w_X3_emit 19 1 58), (58, vAload 0 59), (59, vI 0 60), (60, vPutZ 19 10 63), (63, vAload 0 64), (64, vGetR TT 19 0 26 67), (67, vDup 68), (68, vGetI 26 2 71), (71, vI 1 72), (72, vIadd 73), (73, vPutI 26 2 76), (76, vI 1 77), (77, vZret), (78, vIload 1 79), (79, vI 91 81), (81, vIcEq 103 84), (84, vAload 0 85), (85, vGetI 19 11 88), (88, vIfEq 107 91), (91, vIload 1 92), (92, vI 33 94), (94, vIcEq 103 97), (97, vIload 1 98), (98, vI 40 100), (100, vIcNe 107 103), (103, vI 1 104), (104, vGoto 108), (107, vI 0 108), (108, vIstore 3 109), (109, vIload 3 110), (110, vIfEq 134 113), (113, vAload 0 114), (114, vGetI 19 6 117), (117, vI 6 119), (119, vIcGe 134 122), (122, vAload 0 123), (123, vIload 1 124), (124, vCallM w_X3_open 19 1 127), (127, vIfEq 134 130), (130, vI 1 131), (131, vGoto 135), (134, vI 0 135), (135, vZret)]
theorem k_X3_takeAtom_0 : look a_X3_takeAtom 0 = vIload 1 1 := rfl
theorem k_X3_takeAtom_1 : look a_X3_takeAtom 1 = vCallS w_X10_isDigit 1 4 := rfl
theorem k_X3_takeAtom_4 : look a_X3_takeAtom 4 = vIfEq 37 7 := rfl
theorem k_X3_takeAtom_7 : look a_X3_takeAtom 7 = vAload 0 8 := rfl
theorem k_X3_takeAtom_8 : look a_X3_takeAtom 8 = vGetR TT 19 0 26 11 := rfl
theorem k_X3_takeAtom_11 : look a_X3_takeAtom 11 = vI 4 12 := rfl
theorem k_X3_takeAtom_12 : look a_X3_takeAtom 12 = vCallM w_X10_number 26 1 15 := rfl
theorem k_X3_takeAtom_15 : look a_X3_takeAtom 15 = vIstore 2 16 := rfl
theorem k_X3_takeAtom_16 : look a_X3_takeAtom 16 = vAload 0 17 := rfl
theorem k_X3_takeAtom_17 : look a_X3_takeAtom 17 = vIload 2 18 := rfl
theorem k_X3_takeAtom_18 : look a_X3_takeAtom 18 = vCallMV w_X3_emit 19 1 21 := rfl
theorem k_X3_takeAtom_21 : look a_X3_takeAtom 21 = vAload 0 22 := rfl
theorem k_X3_takeAtom_22 : look a_X3_takeAtom 22 = vI 0 23 := rfl
theorem k_X3_takeAtom_23 : look a_X3_takeAtom 23 = vPutZ 19 10 26 := rfl
theorem k_X3_takeAtom_26 : look a_X3_takeAtom 26 = vIload 2 27 := rfl
theorem k_X3_takeAtom_27 : look a_X3_takeAtom 27 = vI (-1) 28 := rfl
theorem k_X3_takeAtom_28 : look a_X3_takeAtom 28 = vIcEq 35 31 := rfl
theorem k_X3_takeAtom_31 : look a_X3_takeAtom 31 = vI 1 32 := rfl
theorem k_X3_takeAtom_32 : look a_X3_takeAtom 32 = vGoto 36 := rfl
theorem k_X3_takeAtom_35 : look a_X3_takeAtom 35 = vI 0 36 := rfl
theorem k_X3_takeAtom_36 : look a_X3_takeAtom 36 = vZret := rfl
theorem k_X3_takeAtom_37 : look a_X3_takeAtom 37 = vIload 1 38 := rfl
theorem k_X3_takeAtom_38 : look a_X3_takeAtom 38 = vLdcS 20002 40 := rfl
theorem k_X3_takeAtom_40 : look a_X3_takeAtom 40 = vCallS w_X10_place 2 43 := rfl
theorem k_X3_takeAtom_43 : look a_X3_takeAtom 43 = vIstore 2 44 := rfl
theorem k_X3_takeAtom_44 : look a_X3_takeAtom 44 = vIload 2 45 := rfl
theorem k_X3_takeAtom_45 : look a_X3_takeAtom 45 = vI (-1) 46 := rfl
theorem k_X3_takeAtom_46 : look a_X3_takeAtom 46 = vIcEq 78 49 := rfl
theorem k_X3_takeAtom_49 : look a_X3_takeAtom 49 = vAload 0 50 := rfl
theorem k_X3_takeAtom_50 : look a_X3_takeAtom 50 = vI 10000 53 := rfl
theorem k_X3_takeAtom_53 : look a_X3_takeAtom 53 = vIload 2 54 := rfl
theorem k_X3_takeAtom_54 : look a_X3_takeAtom 54 = vIadd 55 := rfl
theorem k_X3_takeAtom_55 : look a_X3_takeAtom 55 = vCallMV w_X3_emit 19 1 58 := rfl
theorem k_X3_takeAtom_58 : look a_X3_takeAtom 58 = vAload 0 59 := rfl
theorem k_X3_takeAtom_59 : look a_X3_takeAtom 59 = vI 0 60 := rfl
theorem k_X3_takeAtom_60 : look a_X3_takeAtom 60 = vPutZ 19 10 63 := rfl
theorem k_X3_takeAtom_63 : look a_X3_takeAtom 63 = vAload 0 64 := rfl
theorem k_X3_takeAtom_64 : look a_X3_takeAtom 64 = vGetR TT 19 0 26 67 := rfl
theorem k_X3_takeAtom_67 : look a_X3_takeAtom 67 = vDup 68 := rfl
theorem k_X3_takeAtom_68 : look a_X3_takeAtom 68 = vGetI 26 2 71 := rfl
theorem k_X3_takeAtom_71 : look a_X3_takeAtom 71 = vI 1 72 := rfl
theorem k_X3_takeAtom_72 : look a_X3_takeAtom 72 = vIadd 73 := rfl
theorem k_X3_takeAtom_73 : look a_X3_takeAtom 73 = vPutI 26 2 76 := rfl
theorem k_X3_takeAtom_76 : look a_X3_takeAtom 76 = vI 1 77 := rfl
theorem k_X3_takeAtom_77 : look a_X3_takeAtom 77 = vZret := rfl
theorem k_X3_takeAtom_78 : look a_X3_takeAtom 78 = vIload 1 79 := rfl
theorem k_X3_takeAtom_79 : look a_X3_takeAtom 79 = vI 91 81 := rfl
theorem k_X3_takeAtom_81 : look a_X3_takeAtom 81 = vIcEq 103 84 := rfl
theorem k_X3_takeAtom_84 : look a_X3_takeAtom 84 = vAload 0 85 := rfl
theorem k_X3_takeAtom_85 : look a_X3_takeAtom 85 = vGetI 19 11 88 := rfl
theorem k_X3_takeAtom_88 : look a_X3_takeAtom 88 = vIfEq 107 91 := rfl
theorem k_X3_takeAtom_91 : look a_X3_takeAtom 91 = vIload 1 92 := rfl
theorem k_X3_takeAtom_92 : look a_X3_takeAtom 92 = vI 33 94 := rfl
theorem k_X3_takeAtom_94 : look a_X3_takeAtom 94 = vIcEq 103 97 := rfl
theorem k_X3_takeAtom_97 : look a_X3_takeAtom 97 = vIload 1 98 := rfl
theorem k_X3_takeAtom_98 : look a_X3_takeAtom 98 = vI 40 100 := rfl
theorem k_X3_takeAtom_100 : look a_X3_takeAtom 100 = vIcNe 107 103 := rfl
theorem k_X3_takeAtom_103 : look a_X3_takeAtom 103 = vI 1 104 := rfl
theorem k_X3_takeAtom_104 : look a_X3_takeAtom 104 = vGoto 108 := rfl
theorem k_X3_takeAtom_107 : look a_X3_takeAtom 107 = vI 0 108 := rfl
theorem k_X3_takeAtom_108 : look a_X3_takeAtom 108 = vIstore 3 109 := rfl
theorem k_X3_takeAtom_109 : look a_X3_takeAtom 109 = vIload 3 110 := rfl
theorem k_X3_takeAtom_110 : look a_X3_takeAtom 110 = vIfEq 134 113 := rfl
theorem k_X3_takeAtom_113 : look a_X3_takeAtom 113 = vAload 0 114 := rfl
theorem k_X3_takeAtom_114 : look a_X3_takeAtom 114 = vGetI 19 6 117 := rfl
theorem k_X3_takeAtom_117 : look a_X3_takeAtom 117 = vI 6 119 := rfl
theorem k_X3_takeAtom_119 : look a_X3_takeAtom 119 = vIcGe 134 122 := rfl
theorem k_X3_takeAtom_122 : look a_X3_takeAtom 122 = vAload 0 123 := rfl
theorem k_X3_takeAtom_123 : look a_X3_takeAtom 123 = vIload 1 124 := rfl
theorem k_X3_takeAtom_124 : look a_X3_takeAtom 124 = vCallM w_X3_open 19 1 127 := rfl
theorem k_X3_takeAtom_127 : look a_X3_takeAtom 127 = vIfEq 134 130 := rfl
theorem k_X3_takeAtom_130 : look a_X3_takeAtom 130 = vI 1 131 := rfl
theorem k_X3_takeAtom_131 : look a_X3_takeAtom 131 = vGoto 135 := rfl
theorem k_X3_takeAtom_134 : look a_X3_takeAtom 134 = vI 0 135 := rfl
theorem k_X3_takeAtom_135 : look a_X3_takeAtom 135 = vZret := rfl
theorem o_X3_takeAtom {X : amX} (e1 : XT X = TT) (e2 : XD X = 5) (hB : amB X RX3 cX3_takeAtom (some .boolean) 4) : ∀ pc, amOK X pc (look a_X3_takeAtom pc) := by
  have hT : amTok (XT X) := e1 ▸ TT_ok
  refine look_ok ?_
  unfold a_X3_takeAtom
  refine fc (ok_iload_n hB dX3_takeAtom_0) ?_
  refine fc (ok_callS hB (e1 ▸ s_X10_isDigit) lk_X3_100 (by rw [e2]; decide) wd_547 dX3_takeAtom_1) ?_
  refine fc (ok_if_eq hB (t := 37) (by decide) dX3_takeAtom_4) ?_
  refine fc (ok_aload_n hB dX3_takeAtom_7) ?_
  refine fc (okt_getR e1 hB hT fl_X3_49 rfl af_3_0 at_3_0 (by decide) dX3_takeAtom_8) ?_
  refine fc (ok_iconst hB dX3_takeAtom_11) ?_
  refine fc (ok_callM hB hT (e1 ▸ s_X10_number) lk_X3_103 (by rw [e2]; decide) (c := 10) rfl rfl rfl wd_542 wd_543 dX3_takeAtom_12) ?_
  refine fc (ok_istore_n hB (by decide) dX3_takeAtom_15) ?_
  refine fc (ok_aload_n hB dX3_takeAtom_16) ?_
  refine fc (ok_iload_n hB dX3_takeAtom_17) ?_
  refine fc (ok_callMV hB hT (e1 ▸ s_X3_emit) lk_X3_107 (by rw [e2]; decide) (c := 3) rfl rfl rfl wd_594 sl_X3_emit dX3_takeAtom_18) ?_
  refine fc (ok_aload_n hB dX3_takeAtom_21) ?_
  refine fc (ok_iconst hB dX3_takeAtom_22) ?_
  refine fc (ok_putZ hB hT fp_X3_42 rfl rfl rfl af_3_10 dX3_takeAtom_23) ?_
  refine fc (ok_iload_n hB dX3_takeAtom_26) ?_
  refine fc (ok_iconst hB dX3_takeAtom_27) ?_
  refine fc (ok_icmp_eq hB (t := 35) (by decide) dX3_takeAtom_28) ?_
  refine fc (ok_iconst hB dX3_takeAtom_31) ?_
  refine fc (ok_goto hB (t := 36) (by decide) dX3_takeAtom_32) ?_
  refine fc (ok_iconst hB dX3_takeAtom_35) ?_
  refine fc (ok_zret hB dX3_takeAtom_36) ?_
  refine fc (ok_iload_n hB dX3_takeAtom_37) ?_
  refine fc (ok_ldcS hB (k := 2) rfl rfl rfl rfl dX3_takeAtom_38) ?_
  refine fc (ok_callS hB (e1 ▸ s_X10_place) lk_X3_113 (by rw [e2]; decide) wd_418 dX3_takeAtom_40) ?_
  refine fc (ok_istore_n hB (by decide) dX3_takeAtom_43) ?_
  refine fc (ok_iload_n hB dX3_takeAtom_44) ?_
  refine fc (ok_iconst hB dX3_takeAtom_45) ?_
  refine fc (ok_icmp_eq hB (t := 78) (by decide) dX3_takeAtom_46) ?_
  refine fc (ok_aload_n hB dX3_takeAtom_49) ?_
  refine fc (ok_sipush hB dX3_takeAtom_50 (by decide)) ?_
  refine fc (ok_iload_n hB dX3_takeAtom_53) ?_
  refine fc (ok_iadd hB dX3_takeAtom_54) ?_
  refine fc (ok_callMV hB hT (e1 ▸ s_X3_emit) lk_X3_107 (by rw [e2]; decide) (c := 3) rfl rfl rfl wd_594 sl_X3_emit dX3_takeAtom_55) ?_
  refine fc (ok_aload_n hB dX3_takeAtom_58) ?_
  refine fc (ok_iconst hB dX3_takeAtom_59) ?_
  refine fc (ok_putZ hB hT fp_X3_42 rfl rfl rfl af_3_10 dX3_takeAtom_60) ?_
  refine fc (ok_aload_n hB dX3_takeAtom_63) ?_
  refine fc (okt_getR e1 hB hT fl_X3_49 rfl af_3_0 at_3_0 (by decide) dX3_takeAtom_64) ?_
  refine fc (ok_dup hB dX3_takeAtom_67) ?_
  refine fc (ok_getI hB hT fl_X3_53 rfl rfl (Or.inl af_10_2) dX3_takeAtom_68) ?_
  refine fc (ok_iconst hB dX3_takeAtom_71) ?_
  refine fc (ok_iadd hB dX3_takeAtom_72) ?_
  refine fc (ok_putI hB hT fp_X3_53 rfl rfl rfl af_10_2 dX3_takeAtom_73) ?_
  refine fc (ok_iconst hB dX3_takeAtom_76) ?_
  refine fc (ok_zret hB dX3_takeAtom_77) ?_
  refine fc (ok_iload_n hB dX3_takeAtom_78) ?_
  refine fc (ok_bipush hB dX3_takeAtom_79 (by decide)) ?_
  refine fc (ok_icmp_eq hB (t := 103) (by decide) dX3_takeAtom_81) ?_
  refine fc (ok_aload_n hB dX3_takeAtom_84) ?_
  refine fc (ok_getI hB hT fl_X3_46 rfl rfl (Or.inr af_3_11) dX3_takeAtom_85) ?_
  refine fc (ok_if_eq hB (t := 107) (by decide) dX3_takeAtom_88) ?_
  refine fc (ok_iload_n hB dX3_takeAtom_91) ?_
  refine fc (ok_bipush hB dX3_takeAtom_92 (by decide)) ?_
  refine fc (ok_icmp_eq hB (t := 103) (by decide) dX3_takeAtom_94) ?_
  refine fc (ok_iload_n hB dX3_takeAtom_97) ?_
  refine fc (ok_bipush hB dX3_takeAtom_98 (by decide)) ?_
  refine fc (ok_icmp_ne hB (t := 107) (by decide) dX3_takeAtom_100) ?_
  refine fc (ok_iconst hB dX3_takeAtom_103) ?_
  refine fc (ok_goto hB (t := 108) (by decide) dX3_takeAtom_104) ?_
  refine fc (ok_iconst hB dX3_takeAtom_107) ?_
  refine fc (ok_istore_n hB (by decide) dX3_takeAtom_108) ?_
  refine fc (ok_iload_n hB dX3_takeAtom_109) ?_
  refine fc (ok_if_eq hB (t := 134) (by decide) dX3_takeAtom_110) ?_
  refine fc (ok_aload_n hB dX3_takeAtom_113) ?_
  refine fc (ok_getI hB hT fl_X3_30 rfl rfl (Or.inl af_3_6) dX3_takeAtom_114) ?_
  refine fc (ok_bipush hB dX3_takeAtom_117 (by decide)) ?_
  refine fc (ok_icmp_ge hB (t := 134) (by decide) dX3_takeAtom_119) ?_
  refine fc (ok_aload_n hB dX3_takeAtom_122) ?_
  refine fc (ok_iload_n hB dX3_takeAtom_123) ?_
  refine fc (ok_callM hB hT (e1 ▸ s_X3_open) lk_X3_117 (by rw [e2]; decide) (c := 3) rfl rfl rfl wd_606 sl_X3_open dX3_takeAtom_124) ?_
  refine fc (ok_if_eq hB (t := 134) (by decide) dX3_takeAtom_127) ?_
  refine fc (ok_iconst hB dX3_takeAtom_130) ?_
  refine fc (ok_goto hB (t := 135) (by decide) dX3_takeAtom_131) ?_
  refine fc (ok_iconst hB dX3_takeAtom_134) ?_
  refine fc (ok_zret hB dX3_takeAtom_135) ?_
  exact fn

def w_X3_takeAtom : WP := fun av σ Q => ∃ (x : Int), av = [(19, 9), (0, x)] ∧ (∃ (m : Mem) (p : Int) (C W : List Int) (sd wi br ro ska um : Int) (K : LK) (Z : Int ⊕ (Int × List Int × Int)), tapeOk m ∧ RdP m σ p C W sd wi br ro ska 1 um ∧ lok (m 1 1) 1 p C W sd wi br ro ska um ∧ sk (tsg m) (m 1 1) p = p ∧ x = tsg m p ∧ latm (tsg m) K p C W sd wi br ro ska um = some Z ∧
(∀ τ wa' p' C' W' sd' wi' br' ro' ska' um', RdP m τ p' C' W' sd' wi' br' ro' ska' wa' um' → K wa' p' C' W' sd' wi' br' ro' ska' um' = some Z → Q (0, 1) τ) ∧ (∀ τ q, RdX m τ q → Z = .inl q → Q (0, 0) τ))
theorem w_X3_takeAtom_e (x : Int) (σ : Mem) (Q : AV → Mem → Prop) : w_X3_takeAtom [(19, 9), (0, x)] σ Q = (∃ (m : Mem) (p : Int) (C W : List Int) (sd wi br ro ska um : Int) (K : LK) (Z : Int ⊕ (Int × List Int × Int)), tapeOk m ∧ RdP m σ p C W sd wi br ro ska 1 um ∧ lok (m 1 1) 1 p C W sd wi br ro ska um ∧ sk (tsg m) (m 1 1) p = p ∧ x = tsg m p ∧ latm (tsg m) K p C W sd wi br ro ska um = some Z ∧
(∀ τ wa' p' C' W' sd' wi' br' ro' ska' um', RdP m τ p' C' W' sd' wi' br' ro' ska' wa' um' → K wa' p' C' W' sd' wi' br' ro' ska' um' = some Z → Q (0, 1) τ) ∧ (∀ τ q, RdX m τ q → Z = .inl q → Q (0, 0) τ)) := by
  apply propext; constructor
  · rintro ⟨x', h9, hb9⟩; cases h9; exact hb9
  · intro hb9; exact ⟨x, rfl, hb9⟩

set_option maxRecDepth 100000 in
set_option maxHeartbeats 4000000 in
theorem s_X3_takeAtom : ∀ av σ Q, w_X3_takeAtom av σ Q → amCall 5 0 0 TT yX3_takeAtom cX3_takeAtom 4 (some .boolean) av σ Q := by
  rintro av σ Q ⟨x, rfl, m, p, C, W, sd, wi, br, ro, ska, um, K, Z, ht, hL, ⟨b1, b2, b3, b4, b5, b6, b7, b8, b9, b10, b11, b12, b13, b14, b15, b16⟩, hsk, hx, hz, hG, hF⟩
  have hX := RdX_t hL.1
  have htk := RdX_ok hL.1 ht
  have e2 : σ 9 2 = C.length := hL.2.1.1
  have e6 : σ 9 6 = wi := hL.2.2.2.2.1
  have e11 : σ 9 11 = um := hL.2.2.2.2.2.2.2.2.2
  have ep : σ 1 2 = p := hL.1.2.2
  have ek : tsk σ = p := by rw [tsk_sk, hX.1, hX.2, ep]; exact hsk
  have ht1 := ht.2.1
  have hb := tsg_bd ht p
  rw [← hx] at hb
  have nb := ndig_bd (tsg m) 4 p
  have st6 : (stl 20102).toNat = 6 := by decide
  have st7 : (0 : Int) < stl 20102 := by decide
  refine am_m0 (own := RX3) (A := look a_X3_takeAtom) (fun X e1 e2 hB => o_X3_takeAtom e1 e2 hB) rfl (by decide +kernel) rfl rfl 90 (w := 4) ?_
  change vcs _ _ _ _ 90 0 [(19, 9), (0, x), (6, 0), (6, 0)] [] σ
  simp only [↓reduceIte, inR_0, inR_1, inR_m, vSw2_e, swP_n, swP_c, vI_e, vL_e, vNull_e, vIload_e, vLload_e, vAload_e, vIstore_e, vLstore_e, vAstore_e, vIinc_e, vIadd_e, vIsub_e, vImul_e, vIand_e, vIor_e, vIxor_e, vIshl_e, vIshr_e, vIushr_e, vIdiv_e, vIrem_e, vLadd_e, vLsub_e, vLmul_e, vLand_e, vLor_e, vLxor_e, vLdiv_e, vLrem_e, vLushr_e, vLshl_e, vLcmp_e, vIneg_e, vI2l_e, vL2i_e, vI2b_e, vI2c_e, vDup_e, vPop_e, vDup2_e, vGoto_e, vIcEq_e, vIfEq_e, vIcNe_e, vIfNe_e, vIcLt_e, vIfLt_e, vIcGe_e, vIfGe_e, vIcGt_e, vIfGt_e, vIcLe_e, vIfLe_e, vNonnull_e, vSw_e, vGetI_e, vGetL_e, vGetR_e, vPutI_e, vPutZ_e, vPutL_e, vPutR_e, vIald_e, vIald_s, vLald_e, vBald_e, vBald_s, vAald_e, vIast_e, vLast_e, vBast_e, vAast_e, vAlen_e8, vAlen_e9, vAlen_e10, vAlen_e11, vAlen_e5, vAlen_e3, vGets_e, vCompact_e, vLdcS_e, vIret_e, vZret_e, vCret_e, vBret_e, vLret_e, vVret_e, vAret_e, vCallM_e0, vCallMV_e0, vCallS_e0, vCallSV_e0, vCallM_e1, vCallMV_e1, vCallS_e1, vCallSV_e1, vCallM_e2, vCallMV_e2, vCallS_e2, vCallSV_e2, vCallM_e3, vCallMV_e3, vCallS_e3, vCallSV_e3, vCallM_e4, vCallMV_e4, vCallS_e4, vCallSV_e4, vCallM_e5, vCallMV_e5, vCallS_e5, vCallSV_e5, vCallM_e6, vCallMV_e6, vCallS_e6, vCallSV_e6, vCallM_e7, vCallMV_e7, vCallS_e7, vCallSV_e7, vBad_e, vStrVal_e, vStrCod_e, vForm_e, vCallT_e0, vCallT_e1, vCallT_e2, vCopy_e, rf_0_0, rf_0_1, rf_0_2, rf_0_3, rf_0_4, rf_0_7, rf_0_10, rf_0_11, rf_0_12, rf_0_13, rf_0_14, rf_0_15, rf_0_16, rf_1_0, rf_3_0, rf_3_1, rf_6_0, rf_6_1, rf_9_0, rf_9_1, rf_9_3, rf_13_0, rf_13_1, rf_13_2, rf_16_0, rf_16_1, rf_16_2, rf_16_3, rf_21_0, rf_21_1, rf_21_2, rf_21_3, rf_26_0, rf_26_1, rf_26_2, rf_26_3, rf_26_4, rf_26_5, rf_26_6, rf_31_0, rf_31_2, rf_31_5, rf_31_6, rf_36_0, rf_36_1, rf_36_2, rf_36_3, rf_39_0, rf_39_1, rf_39_2, rf_41_0, rf_41_1, rf_41_2, rf_41_3, rf_5000_1, rf_5000_2, rf_5000_3, rf_5000_4, rf_5000_5, rf_5000_15, rf_5000_16, rf_5000_18, rf_5000_19, rf_5000_20, rf_5000_21, rf_5000_22, rf_5000_23, rf_5000_24, rf_5000_25, rf_5000_26, rf_5000_27, rf_5000_36, rf_5000_37, rf_5000_40, rf_5000_41, rf_5000_42, rf_5000_43, rf_5000_44, rf_5000_45, rf_5000_47, rf_5000_52, rf_5000_54, rf_5000_55, rf_100_0, rf_100_1, rf_103_0, rf_103_1, rf_106_0, rf_106_1, rf_109_0, rf_109_1, al_2, al_4, al_5, al_7, al_8, al_10, al_11, al_12, al_14, al_15, al_17, al_18, al_19, al_20, al_22, al_23, al_24, al_25, al_27, al_28, al_29, al_30, al_32, al_33, al_34, al_35, al_37, al_38, al_40, al_42, al_5001, al_5002, al_5003, al_5004, al_5005, al_5006, al_5007, al_5008, al_5009, al_5010, al_5011, al_5012, al_5013, al_5014, al_5015, al_5016, al_5017, al_5018, al_5019, al_5020, al_5021, al_5022, al_5023, al_5024, al_5025, al_5026, al_9000, al_101, al_102, al_104, al_105, al_107, al_108, al_110, al_111, vcs_e, lg_c0, lg_cs, lg_nil, set_c0, set_cs, okst_0, okst_s, acok_n, acok_c, List.contains_nil, List.contains_cons, Bool.or_false, Bool.false_or, Bool.false_eq_true, if_false, if_true, ite_self, ne_eq, true_and, and_true, not_false_eq_true, not_true_eq_false, false_imp_iff, true_imp_iff, Nat.ble_eq, Bool.and_eq_true, reduceCtorEq, or_false, false_or, or_true, true_or, false_and, and_false, and_self, Int.reduceLE, Int.reduceAdd, Int.reduceSub, Int.reduceMul, Int.reduceNeg, Int.reduceLT, Int.reduceEq, Int.reduceNe, Nat.reduceBEq, Nat.reduceBNe, Nat.reduceEqDiff, amCmp_in, amCmp_lt, amCmp_le, amCmp_gt, amCmp_ge, amCmp_eq, amCmp_ne, Nat.reduceLeDiff, Nat.reduceSub, Bool.and_true, Bool.true_and, Bool.and_self, Bool.or_true, Bool.true_or, isRf_3, isRf_4, isRf_5, isRf_8, isRf_9, isRf_10, isRf_11, isRf_15, isRf_16, isRf_17, isRf_18, isRf_19, isRf_20, isRf_21, isRf_22, isRf_23, isRf_24, isRf_25, isRf_26, isRf_27, isRf_28, k_X3_takeAtom_0, k_X3_takeAtom_1, k_X3_takeAtom_4, k_X3_takeAtom_7, k_X3_takeAtom_8, k_X3_takeAtom_11, k_X3_takeAtom_12, k_X3_takeAtom_15, k_X3_takeAtom_16, k_X3_takeAtom_17, k_X3_takeAtom_18, k_X3_takeAtom_21, k_X3_takeAtom_22, k_X3_takeAtom_23, k_X3_takeAtom_26, k_X3_takeAtom_27, k_X3_takeAtom_28, k_X3_takeAtom_31, k_X3_takeAtom_32, k_X3_takeAtom_35, k_X3_takeAtom_36, k_X3_takeAtom_37, k_X3_takeAtom_38, k_X3_takeAtom_40, k_X3_takeAtom_43, k_X3_takeAtom_44, k_X3_takeAtom_45, k_X3_takeAtom_46, k_X3_takeAtom_49, k_X3_takeAtom_50, k_X3_takeAtom_53, k_X3_takeAtom_54, k_X3_takeAtom_55, k_X3_takeAtom_58, k_X3_takeAtom_59, k_X3_takeAtom_60, k_X3_takeAtom_63, k_X3_takeAtom_64, k_X3_takeAtom_67, k_X3_takeAtom_68, k_X3_takeAtom_71, k_X3_takeAtom_72, k_X3_takeAtom_73, k_X3_takeAtom_76, k_X3_takeAtom_77, k_X3_takeAtom_78, k_X3_takeAtom_79, k_X3_takeAtom_81, k_X3_takeAtom_84, k_X3_takeAtom_85, k_X3_takeAtom_88, k_X3_takeAtom_91, k_X3_takeAtom_92, k_X3_takeAtom_94, k_X3_takeAtom_97, k_X3_takeAtom_98, k_X3_takeAtom_100, k_X3_takeAtom_103, k_X3_takeAtom_104, k_X3_takeAtom_107, k_X3_takeAtom_108, k_X3_takeAtom_109, k_X3_takeAtom_110, k_X3_takeAtom_113, k_X3_takeAtom_114, k_X3_takeAtom_117, k_X3_takeAtom_119, k_X3_takeAtom_122, k_X3_takeAtom_123, k_X3_takeAtom_124, k_X3_takeAtom_127, k_X3_takeAtom_130, k_X3_takeAtom_131, k_X3_takeAtom_134, k_X3_takeAtom_135, w_X10_isDigit_e, w_X10_number_e, w_X10_place_e, w_X3_emit_e, w_X3_open_e, up_s, up_nj, up_na, up_up, savR_o, cpy_o, fillm_o, setAud_o, setv_o, setv_s, Int.reduceNe, Int.reduceEq, Int.reduceLT, Int.reduceAdd, not_false_eq_true, ne_eq, or_true, true_or, e2, e6, e11, ep, ek, hX.1, hX.2, st6, st7, lix_f]
  unfold latm at hz
  rw [← hx] at hz
  have lb := lix_b x
  by_cases c1 : isdg x
  · rw [if_pos c1] at hz
    have n1 : ndig (tsg m) p 4 ≠ 0 := by
      have nb3 := ndig_bd (tsg m) 3 (p + 1)
      rw [ndig, if_pos (by rw [← hx]; exact c1)]; omega
    have v1 := nval4_b (tsg m) p
    have t4 : (4 : Int).toNat = 4 := rfl
    simp only [t4]
    rw [if_pos c1]
    by_cases c2 : isdg (tsg m (p + ndig (tsg m) p 4))
    · rw [if_pos c2] at hz
      cases hz
      rw [if_pos (Or.inr c2)]
      have hh := hF _ _ (RdX_p (RdX_9 (RdX_9 (RdX_9 hL.1 (Or.inr (Or.inl rfl)) C.length (-1)) (Or.inl rfl) 2 (C.length + 1)) (Or.inl rfl) 10 0) (p + ndig (tsg m) p 4)) rfl
      have hh2 := hF _ _ (RdX_9 (RdX_9 (RdX_9 (RdX_p hL.1 (p + ndig (tsg m) p 4)) (Or.inr (Or.inl rfl)) C.length (-1)) (Or.inl rfl) 2 (C.length + 1)) (Or.inl rfl) 10 0) rfl
      repeat' (first | assumption | apply And.intro | intro _)
      all_goals first | omega | exact htk | exact hh2
    · rw [if_neg c2] at hz
      have hnn : ¬ (ndig (tsg m) p 4 = 0 ∨ isdg (tsg m (p + ndig (tsg m) p 4))) := fun q => q.elim n1 c2
      rw [if_neg hnn]
      have hh := hG _ _ _ _ _ _ _ _ _ _ _ (RdP_10 (RdP_emit (RdP_p hL (p + ndig (tsg m) p 4)) (nval (tsg m) p 0 4)) 0) hz
      repeat' (first | assumption | apply And.intro | intro _)
      all_goals first | omega | exact htk | exact hh
  · rw [if_neg c1] at hz
    rw [if_neg c1]
    by_cases c2 : 0 ≤ lix x
    · rw [if_pos c2] at hz
      have hh := hG _ _ _ _ _ _ _ _ _ _ _ (RdP_p (RdP_10 (RdP_emit hL (10000 + lix x)) 0) (p + 1)) hz
      repeat' (first | assumption | apply And.intro | intro _)
      all_goals first | omega | exact hh
    · rw [if_neg c2] at hz
      by_cases c3 : wi < 6 ∧ x = 91
      · rw [if_pos c3] at hz
        obtain ⟨c3, rfl⟩ := c3
        repeat' (first | assumption | apply And.intro | intro _)
        all_goals first | omega | skip
        all_goals exact ⟨m, p, C, W, sd, wi, br, ro, ska, 1, um, hL, by omega, by omega, by omega, by omega, by omega, by omega, by omega, by omega, by omega, by omega, by omega, fun _ τ hτ => hG τ _ _ _ _ _ _ _ _ _ _ hτ hz, fun h => absurd rfl h⟩
      · rw [if_neg c3] at hz
        by_cases c4 : wi < 6 ∧ um = 1 ∧ (x = 33 ∨ x = 40)
        · rw [if_pos c4] at hz
          repeat' (first | assumption | apply And.intro | intro _)
          all_goals first | omega | skip
          all_goals exact ⟨m, p, C, W, sd, wi, br, ro, ska, 1, um, hL, by omega, by omega, by omega, by omega, by omega, by omega, by omega, by omega, by omega, by omega, by omega, fun h => by omega, fun _ τ hτ => hG τ _ _ _ _ _ _ _ _ _ _ hτ hz⟩
        · rw [if_neg c4] at hz
          cases hz
          have hh := hF _ _ hL.1 rfl
          repeat' (first | assumption | apply And.intro | intro _)
          all_goals first | omega | exact hh
theorem wd_616 : Cond.methodLink RX3 123 yX3_join ∈ TBL := tb_tab (List.mem_of_getElem? (i := 616) (by decide +kernel)) rfl
theorem wd_619 : Cond.code yX3_join cX3_join 4 (some .boolean) ∈ TBL := tb_tab (List.mem_of_getElem? (i := 619) (by decide +kernel)) rfl
theorem lk_X3_123 : amLk RX3 123 yX3_join cX3_join 4 (some .boolean) 3 := ⟨wd_616, wd_4, wd_619, by decide +kernel, by decide +kernel, by decide⟩
theorem wd_618 : Cond.instanceMethod yX3_join ∈ TBL := tb_tab (List.mem_of_getElem? (i := 618) (by decide +kernel)) rfl
theorem sl_X3_join : Cond.selects RX3 yX3_join yX3_join ∈ TBL := tb_sel (List.mem_of_getElem? (i := 14) (by decide +kernel)) rfl
theorem wd_620 : Cond.methodLink RX3 127 yX3_closeBracket ∈ TBL := tb_tab (List.mem_of_getElem? (i := 620) (by decide +kernel)) rfl
theorem wd_623 : Cond.code yX3_closeBracket cX3_closeBracket 1 (some .boolean) ∈ TBL := tb_tab (List.mem_of_getElem? (i := 623) (by decide +kernel)) rfl
theorem lk_X3_127 : amLk RX3 127 yX3_closeBracket cX3_closeBracket 1 (some .boolean) 0 := ⟨wd_620, wd_4, wd_623, by decide +kernel, by decide +kernel, by decide⟩
theorem wd_622 : Cond.instanceMethod yX3_closeBracket ∈ TBL := tb_tab (List.mem_of_getElem? (i := 622) (by decide +kernel)) rfl
theorem sl_X3_closeBracket : Cond.selects RX3 yX3_closeBracket yX3_closeBracket ∈ TBL := tb_sel (List.mem_of_getElem? (i := 15) (by decide +kernel)) rfl
theorem wd_624 : Cond.methodLink RX3 130 yX3_closeRound ∈ TBL := tb_tab (List.mem_of_getElem? (i := 624) (by decide +kernel)) rfl
theorem wd_627 : Cond.code yX3_closeRound cX3_closeRound 1 (some .boolean) ∈ TBL := tb_tab (List.mem_of_getElem? (i := 627) (by decide +kernel)) rfl
theorem lk_X3_130 : amLk RX3 130 yX3_closeRound cX3_closeRound 1 (some .boolean) 0 := ⟨wd_624, wd_4, wd_627, by decide +kernel, by decide +kernel, by decide⟩
theorem wd_626 : Cond.instanceMethod yX3_closeRound ∈ TBL := tb_tab (List.mem_of_getElem? (i := 626) (by decide +kernel)) rfl
theorem sl_X3_closeRound : Cond.selects RX3 yX3_closeRound yX3_closeRound ∈ TBL := tb_sel (List.mem_of_getElem? (i := 16) (by decide +kernel)) rfl
theorem wd_628 : Cond.methodLink RX3 133 yX3_closeCondition ∈ TBL := tb_tab (List.mem_of_getElem? (i := 628) (by decide +kernel)) rfl
theorem wd_631 : Cond.code yX3_closeCondition cX3_closeCondition 1 (some .boolean) ∈ TBL := tb_tab (List.mem_of_getElem? (i := 631) (by decide +kernel)) rfl
theorem lk_X3_133 : amLk RX3 133 yX3_closeCondition cX3_closeCondition 1 (some .boolean) 0 := ⟨wd_628, wd_4, wd_631, by decide +kernel, by decide +kernel, by decide⟩
theorem wd_630 : Cond.instanceMethod yX3_closeCondition ∈ TBL := tb_tab (List.mem_of_getElem? (i := 630) (by decide +kernel)) rfl
theorem sl_X3_closeCondition : Cond.selects RX3 yX3_closeCondition yX3_closeCondition ∈ TBL := tb_sel (List.mem_of_getElem? (i := 17) (by decide +kernel)) rfl
def a_X3_takeSign : AC := [(0, vAload 0 1), (1, vGetI 19 7 4), (4, vIfNe 27 7), (7, vAload 0 8), (8, vGetI 19 5 11), (11, vI 2 12), (12, vIcEq 23 15), (15, vAload 0 16), (16, vGetI 19 5 19), (19, vI 4 20), (20, vIcNe 27 23), (23, vI 1 24), (24, vGoto 28), (27, vI 0 28), (28, vIstore 2 29), (29, vIload 1 30), (30, vSw2 [(38, 221), (41, 241), (42, 136), (43, 136), (45, 136), (47, 136), (60, 183), (61, 183), (62, 183), (63, 265), (93, 163), (124, 221)] 289), (136, vAload 0 137), (137, vGetI 19 5 140), (140, vI 4 141), (141, vIcEq 161 144), (144, vAload 0 145), (145, vIload 1 146), (146, vAload 0 147), (147, vGetI 19 5 150), (150, vI 0 151), (151, vCallM w_X3_join 19 3 154), (154, vIfEq 161 157), (157, vI 1 158), (158, vGoto 162), (161, vI 0 162), (162, vZret), (163, vAload 0 164), (164, vGetI 19 7 167), (167, vIfLe 181 170), (170, vAload 0 171), (171, vCallM w_X3_closeBracket 19 0 174), (174, vIfEq 181 177), (177, vI 1 178), (178, vGoto 182), (181, vI 0 182), (182, vZret), (183, vAload 0 184), (184, vGetI 19 7 187), (187, vIfNe 219 190), (190, vAload 0 191), (191, vGetI 19 5 194), (194, vIfEq 205 197), (197, vAload 0 198), (198, vGetI 19 5 201), (201, vI 1 202), (202, vIcNe 219 205), (205, vAload 0 206), (206, vIload 1 207), (207, vI 2 208), (208, vI 0 209), (209, vCallM w_X3_join 19 3 212), (212, vIfEq 219 215), (215, vI 1 216), (216, vGoto 220), (219, vI 0 220), (220, vZret), (221, vIload 2 222), (222, vIfEq 239 225), (225, vAload 0 226), (226, vIload 1 227), (227, vI 1 228), (228, vI 1 229), (229, vCallM w_X3_join 19 3 232), (232, vIfEq 239 235), (235, vI 1 236), (236, vGoto 240), (239, vI 0 240), (240, vZret), (241, vIload 2 242), (242, vIfEq 263 245), (245, vAload 0 246), (246, vGetI 19 8 249), (249, vIfLe 263 252), (252, vAload 0 253), (253, vCallM w_X3_closeRound 19 0 256), (256, vIfEq 263 259), (259, vI 1 260), (260, vGoto 264), (263, vI 0 264), (264, vZret), (265, vIload 2 266), (266, vIfEq 287 269), (269, vAload 0 270), (270, vGetI 19 8 273), (273, vIfNe 287 276), (276, vAload 0 277), (277, vCallM w_X3_closeCondition 19 0 280), (280, vIfEq 287 283), (283, vI 1 284), (284, vGoto 288), (287, vI 0 288), (288, vZret), (289, vI 0 290), (290, vZret)]
theorem k_X3_takeSign_0 : look a_X3_takeSign 0 = vAload 0 1 := rfl
theorem k_X3_takeSign_1 : look a_X3_takeSign 1 = vGetI 19 7 4 := rfl
theorem k_X3_takeSign_4 : look a_X3_takeSign 4 = vIfNe 27 7 := rfl
theorem k_X3_takeSign_7 : look a_X3_takeSign 7 = vAload 0 8 := rfl
theorem k_X3_takeSign_8 : look a_X3_takeSign 8 = vGetI 19 5 11 := rfl
theorem k_X3_takeSign_11 : look a_X3_takeSign 11 = vI 2 12 := rfl
theorem k_X3_takeSign_12 : look a_X3_takeSign 12 = vIcEq 23 15 := rfl
theorem k_X3_takeSign_15 : look a_X3_takeSign 15 = vAload 0 16 := rfl
theorem k_X3_takeSign_16 : look a_X3_takeSign 16 = vGetI 19 5 19 := rfl
theorem k_X3_takeSign_19 : look a_X3_takeSign 19 = vI 4 20 := rfl
theorem k_X3_takeSign_20 : look a_X3_takeSign 20 = vIcNe 27 23 := rfl
theorem k_X3_takeSign_23 : look a_X3_takeSign 23 = vI 1 24 := rfl
theorem k_X3_takeSign_24 : look a_X3_takeSign 24 = vGoto 28 := rfl
theorem k_X3_takeSign_27 : look a_X3_takeSign 27 = vI 0 28 := rfl
theorem k_X3_takeSign_28 : look a_X3_takeSign 28 = vIstore 2 29 := rfl
theorem k_X3_takeSign_29 : look a_X3_takeSign 29 = vIload 1 30 := rfl
theorem k_X3_takeSign_30 : look a_X3_takeSign 30 = vSw2 [(38, 221), (41, 241), (42, 136), (43, 136), (45, 136), (47, 136), (60, 183), (61, 183), (62, 183), (63, 265), (93, 163), (124, 221)] 289 := rfl
theorem k_X3_takeSign_136 : look a_X3_takeSign 136 = vAload 0 137 := rfl
theorem k_X3_takeSign_137 : look a_X3_takeSign 137 = vGetI 19 5 140 := rfl
theorem k_X3_takeSign_140 : look a_X3_takeSign 140 = vI 4 141 := rfl
theorem k_X3_takeSign_141 : look a_X3_takeSign 141 = vIcEq 161 144 := rfl
theorem k_X3_takeSign_144 : look a_X3_takeSign 144 = vAload 0 145 := rfl
theorem k_X3_takeSign_145 : look a_X3_takeSign 145 = vIload 1 146 := rfl
theorem k_X3_takeSign_146 : look a_X3_takeSign 146 = vAload 0 147 := rfl
theorem k_X3_takeSign_147 : look a_X3_takeSign 147 = vGetI 19 5 150 := rfl
theorem k_X3_takeSign_150 : look a_X3_takeSign 150 = vI 0 151 := rfl
theorem k_X3_takeSign_151 : look a_X3_takeSign 151 = vCallM w_X3_join 19 3 154 := rfl
theorem k_X3_takeSign_154 : look a_X3_takeSign 154 = vIfEq 161 157 := rfl
theorem k_X3_takeSign_157 : look a_X3_takeSign 157 = vI 1 158 := rfl
theorem k_X3_takeSign_158 : look a_X3_takeSign 158 = vGoto 162 := rfl
theorem k_X3_takeSign_161 : look a_X3_takeSign 161 = vI 0 162 := rfl
theorem k_X3_takeSign_162 : look a_X3_takeSign 162 = vZret := rfl
theorem k_X3_takeSign_163 : look a_X3_takeSign 163 = vAload 0 164 := rfl
theorem k_X3_takeSign_164 : look a_X3_takeSign 164 = vGetI 19 7 167 := rfl
theorem k_X3_takeSign_167 : look a_X3_takeSign 167 = vIfLe 181 170 := rfl
theorem k_X3_takeSign_170 : look a_X3_takeSign 170 = vAload 0 171 := rfl
theorem k_X3_takeSign_171 : look a_X3_takeSign 171 = vCallM w_X3_closeBracket 19 0 174 := rfl
theorem k_X3_takeSign_174 : look a_X3_takeSign 174 = vIfEq 181 177 := rfl
theorem k_X3_takeSign_177 : look a_X3_takeSign 177 = vI 1 178 := rfl
theorem k_X3_takeSign_178 : look a_X3_takeSign 178 = vGoto 182 := rfl
theorem k_X3_takeSign_181 : look a_X3_takeSign 181 = vI 0 182 := rfl
theorem k_X3_takeSign_182 : look a_X3_takeSign 182 = vZret := rfl
theorem k_X3_takeSign_183 : look a_X3_takeSign 183 = vAload 0 184 := rfl
theorem k_X3_takeSign_184 : look a_X3_takeSign 184 = vGetI 19 7 187 := rfl
theorem k_X3_takeSign_187 : look a_X3_takeSign 187 = vIfNe 219 190 := rfl
theorem k_X3_takeSign_190 : look a_X3_takeSign 190 = vAload 0 191 := rfl
theorem k_X3_takeSign_191 : look a_X3_takeSign 191 = vGetI 19 5 194 := rfl
theorem k_X3_takeSign_194 : look a_X3_takeSign 194 = vIfEq 205 197 := rfl
theorem k_X3_takeSign_197 : look a_X3_takeSign 197 = vAload 0 198 := rfl
theorem k_X3_takeSign_198 : look a_X3_takeSign 198 = vGetI 19 5 201 := rfl
theorem k_X3_takeSign_201 : look a_X3_takeSign 201 = vI 1 202 := rfl
theorem k_X3_takeSign_202 : look a_X3_takeSign 202 = vIcNe 219 205 := rfl
theorem k_X3_takeSign_205 : look a_X3_takeSign 205 = vAload 0 206 := rfl
theorem k_X3_takeSign_206 : look a_X3_takeSign 206 = vIload 1 207 := rfl
theorem k_X3_takeSign_207 : look a_X3_takeSign 207 = vI 2 208 := rfl
theorem k_X3_takeSign_208 : look a_X3_takeSign 208 = vI 0 209 := rfl
theorem k_X3_takeSign_209 : look a_X3_takeSign 209 = vCallM w_X3_join 19 3 212 := rfl
theorem k_X3_takeSign_212 : look a_X3_takeSign 212 = vIfEq 219 215 := rfl
theorem k_X3_takeSign_215 : look a_X3_takeSign 215 = vI 1 216 := rfl
theorem k_X3_takeSign_216 : look a_X3_takeSign 216 = vGoto 220 := rfl
theorem k_X3_takeSign_219 : look a_X3_takeSign 219 = vI 0 220 := rfl
theorem k_X3_takeSign_220 : look a_X3_takeSign 220 = vZret := rfl
theorem k_X3_takeSign_221 : look a_X3_takeSign 221 = vIload 2 222 := rfl
theorem k_X3_takeSign_222 : look a_X3_takeSign 222 = vIfEq 239 225 := rfl
theorem k_X3_takeSign_225 : look a_X3_takeSign 225 = vAload 0 226 := rfl
theorem k_X3_takeSign_226 : look a_X3_takeSign 226 = vIload 1 227 := rfl
theorem k_X3_takeSign_227 : look a_X3_takeSign 227 = vI 1 228 := rfl
theorem k_X3_takeSign_228 : look a_X3_takeSign 228 = vI 1 229 := rfl
theorem k_X3_takeSign_229 : look a_X3_takeSign 229 = vCallM w_X3_join 19 3 232 := rfl
theorem k_X3_takeSign_232 : look a_X3_takeSign 232 = vIfEq 239 235 := rfl
theorem k_X3_takeSign_235 : look a_X3_takeSign 235 = vI 1 236 := rfl
theorem k_X3_takeSign_236 : look a_X3_takeSign 236 = vGoto 240 := rfl
theorem k_X3_takeSign_239 : look a_X3_takeSign 239 = vI 0 240 := rfl
theorem k_X3_takeSign_240 : look a_X3_takeSign 240 = vZret := rfl
theorem k_X3_takeSign_241 : look a_X3_takeSign 241 = vIload 2 242 := rfl
theorem k_X3_takeSign_242 : look a_X3_takeSign 242 = vIfEq 263 245 := rfl
theorem k_X3_takeSign_245 : look a_X3_takeSign 245 = vAload 0 246 := rfl
theorem k_X3_takeSign_246 : look a_X3_takeSign 246 = vGetI 19 8 249 := rfl
theorem k_X3_takeSign_249 : look a_X3_takeSign 249 = vIfLe 263 252 := rfl
theorem k_X3_takeSign_252 : look a_X3_takeSign 252 = vAload 0 253 := rfl
theorem k_X3_takeSign_253 : look a_X3_takeSign 253 = vCallM w_X3_closeRound 19 0 256 := rfl
theorem k_X3_takeSign_256 : look a_X3_takeSign 256 = vIfEq 263 259 := rfl
theorem k_X3_takeSign_259 : look a_X3_takeSign 259 = vI 1 260 := rfl
theorem k_X3_takeSign_260 : look a_X3_takeSign 260 = vGoto 264 := rfl
theorem k_X3_takeSign_263 : look a_X3_takeSign 263 = vI 0 264 := rfl
theorem k_X3_takeSign_264 : look a_X3_takeSign 264 = vZret := rfl
theorem k_X3_takeSign_265 : look a_X3_takeSign 265 = vIload 2 266 := rfl
theorem k_X3_takeSign_266 : look a_X3_takeSign 266 = vIfEq 287 269 := rfl
theorem k_X3_takeSign_269 : look a_X3_takeSign 269 = vAload 0 270 := rfl
theorem k_X3_takeSign_270 : look a_X3_takeSign 270 = vGetI 19 8 273 := rfl
theorem k_X3_takeSign_273 : look a_X3_takeSign 273 = vIfNe 287 276 := rfl
theorem k_X3_takeSign_276 : look a_X3_takeSign 276 = vAload 0 277 := rfl
theorem k_X3_takeSign_277 : look a_X3_takeSign 277 = vCallM w_X3_closeCondition 19 0 280 := rfl
theorem k_X3_takeSign_280 : look a_X3_takeSign 280 = vIfEq 287 283 := rfl
theorem k_X3_takeSign_283 : look a_X3_takeSign 283 = vI 1 284 := rfl
theorem k_X3_takeSign_284 : look a_X3_takeSign 284 = vGoto 288 := rfl
theorem k_X3_takeSign_287 : look a_X3_takeSign 287 = vI 0 288 := rfl
theorem k_X3_takeSign_288 : look a_X3_takeSign 288 = vZret := rfl
theorem k_X3_takeSign_289 : look a_X3_takeSign 289 = vI 0 290 := rfl
theorem k_X3_takeSign_290 : look a_X3_takeSign 290 = vZret := rfl
theorem o_X3_takeSign {X : amX} (e1 : XT X = TT) (e2 : XD X = 3) (hB : amB X RX3 cX3_takeSign (some .boolean) 3) : ∀ pc, amOK X pc (look a_X3_takeSign pc) := by
  have hT : amTok (XT X) := e1 ▸ TT_ok
  refine look_ok ?_
  unfold a_X3_takeSign
  refine fc (ok_aload_n hB dX3_takeSign_0) ?_
  refine fc (ok_getI hB hT fl_X3_33 rfl rfl (Or.inl af_3_7) dX3_takeSign_1) ?_
  refine fc (ok_if_ne hB (t := 27) (by decide) dX3_takeSign_4) ?_
  refine fc (ok_aload_n hB dX3_takeSign_7) ?_
  refine fc (ok_getI hB hT fl_X3_27 rfl rfl (Or.inl af_3_5) dX3_takeSign_8) ?_
  refine fc (ok_iconst hB dX3_takeSign_11) ?_
  refine fc (ok_icmp_eq hB (t := 23) (by decide) dX3_takeSign_12) ?_
  refine fc (ok_aload_n hB dX3_takeSign_15) ?_
  refine fc (ok_getI hB hT fl_X3_27 rfl rfl (Or.inl af_3_5) dX3_takeSign_16) ?_
  refine fc (ok_iconst hB dX3_takeSign_19) ?_
  refine fc (ok_icmp_ne hB (t := 27) (by decide) dX3_takeSign_20) ?_
  refine fc (ok_iconst hB dX3_takeSign_23) ?_
  refine fc (ok_goto hB (t := 28) (by decide) dX3_takeSign_24) ?_
  refine fc (ok_iconst hB dX3_takeSign_27) ?_
  refine fc (ok_istore_n hB (by decide) dX3_takeSign_28) ?_
  refine fc (ok_iload_n hB dX3_takeSign_29) ?_
  refine fc (ok_sw2 (by decide) (ok_lookupswitch hB [(38, 221), (41, 241), (42, 136), (43, 136), (45, 136), (47, 136), (60, 183), (61, 183), (62, 183), (63, 265), (93, 163), (124, 221)] dX3_takeSign_30 (by decide) (by decide) (by decide))) ?_
  refine fc (ok_aload_n hB dX3_takeSign_136) ?_
  refine fc (ok_getI hB hT fl_X3_27 rfl rfl (Or.inl af_3_5) dX3_takeSign_137) ?_
  refine fc (ok_iconst hB dX3_takeSign_140) ?_
  refine fc (ok_icmp_eq hB (t := 161) (by decide) dX3_takeSign_141) ?_
  refine fc (ok_aload_n hB dX3_takeSign_144) ?_
  refine fc (ok_iload_n hB dX3_takeSign_145) ?_
  refine fc (ok_aload_n hB dX3_takeSign_146) ?_
  refine fc (ok_getI hB hT fl_X3_27 rfl rfl (Or.inl af_3_5) dX3_takeSign_147) ?_
  refine fc (ok_iconst hB dX3_takeSign_150) ?_
  refine fc (ok_callM hB hT (e1 ▸ s_X3_join) lk_X3_123 (by rw [e2]; decide) (c := 3) rfl rfl rfl wd_618 sl_X3_join dX3_takeSign_151) ?_
  refine fc (ok_if_eq hB (t := 161) (by decide) dX3_takeSign_154) ?_
  refine fc (ok_iconst hB dX3_takeSign_157) ?_
  refine fc (ok_goto hB (t := 162) (by decide) dX3_takeSign_158) ?_
  refine fc (ok_iconst hB dX3_takeSign_161) ?_
  refine fc (ok_zret hB dX3_takeSign_162) ?_
  refine fc (ok_aload_n hB dX3_takeSign_163) ?_
  refine fc (ok_getI hB hT fl_X3_33 rfl rfl (Or.inl af_3_7) dX3_takeSign_164) ?_
  refine fc (ok_if_le hB (t := 181) (by decide) dX3_takeSign_167) ?_
  refine fc (ok_aload_n hB dX3_takeSign_170) ?_
  refine fc (ok_callM hB hT (e1 ▸ s_X3_closeBracket) lk_X3_127 (by rw [e2]; decide) (c := 3) rfl rfl rfl wd_622 sl_X3_closeBracket dX3_takeSign_171) ?_
  refine fc (ok_if_eq hB (t := 181) (by decide) dX3_takeSign_174) ?_
  refine fc (ok_iconst hB dX3_takeSign_177) ?_
  refine fc (ok_goto hB (t := 182) (by decide) dX3_takeSign_178) ?_
  refine fc (ok_iconst hB dX3_takeSign_181) ?_
  refine fc (ok_zret hB dX3_takeSign_182) ?_
  refine fc (ok_aload_n hB dX3_takeSign_183) ?_
  refine fc (ok_getI hB hT fl_X3_33 rfl rfl (Or.inl af_3_7) dX3_takeSign_184) ?_
  refine fc (ok_if_ne hB (t := 219) (by decide) dX3_takeSign_187) ?_
  refine fc (ok_aload_n hB dX3_takeSign_190) ?_
  refine fc (ok_getI hB hT fl_X3_27 rfl rfl (Or.inl af_3_5) dX3_takeSign_191) ?_
  refine fc (ok_if_eq hB (t := 205) (by decide) dX3_takeSign_194) ?_
  refine fc (ok_aload_n hB dX3_takeSign_197) ?_
  refine fc (ok_getI hB hT fl_X3_27 rfl rfl (Or.inl af_3_5) dX3_takeSign_198) ?_
  refine fc (ok_iconst hB dX3_takeSign_201) ?_
  refine fc (ok_icmp_ne hB (t := 219) (by decide) dX3_takeSign_202) ?_
  refine fc (ok_aload_n hB dX3_takeSign_205) ?_
  refine fc (ok_iload_n hB dX3_takeSign_206) ?_
  refine fc (ok_iconst hB dX3_takeSign_207) ?_
  refine fc (ok_iconst hB dX3_takeSign_208) ?_
  refine fc (ok_callM hB hT (e1 ▸ s_X3_join) lk_X3_123 (by rw [e2]; decide) (c := 3) rfl rfl rfl wd_618 sl_X3_join dX3_takeSign_209) ?_
  refine fc (ok_if_eq hB (t := 219) (by decide) dX3_takeSign_212) ?_
  refine fc (ok_iconst hB dX3_takeSign_215) ?_
  refine fc (ok_goto hB (t := 220) (by decide) dX3_takeSign_216) ?_
  refine fc (ok_iconst hB dX3_takeSign_219) ?_
  refine fc (ok_zret hB dX3_takeSign_220) ?_
  refine fc (ok_iload_n hB dX3_takeSign_221) ?_
  refine fc (ok_if_eq hB (t := 239) (by decide) dX3_takeSign_222) ?_
  refine fc (ok_aload_n hB dX3_takeSign_225) ?_
  refine fc (ok_iload_n hB dX3_takeSign_226) ?_
  refine fc (ok_iconst hB dX3_takeSign_227) ?_
  refine fc (ok_iconst hB dX3_takeSign_228) ?_
  refine fc (ok_callM hB hT (e1 ▸ s_X3_join) lk_X3_123 (by rw [e2]; decide) (c := 3) rfl rfl rfl wd_618 sl_X3_join dX3_takeSign_229) ?_
  refine fc (ok_if_eq hB (t := 239) (by decide) dX3_takeSign_232) ?_
  refine fc (ok_iconst hB dX3_takeSign_235) ?_
  refine fc (ok_goto hB (t := 240) (by decide) dX3_takeSign_236) ?_
  refine fc (ok_iconst hB dX3_takeSign_239) ?_
  refine fc (ok_zret hB dX3_takeSign_240) ?_
  refine fc (ok_iload_n hB dX3_takeSign_241) ?_
  refine fc (ok_if_eq hB (t := 263) (by decide) dX3_takeSign_242) ?_
  refine fc (ok_aload_n hB dX3_takeSign_245) ?_
  refine fc (ok_getI hB hT fl_X3_36 rfl rfl (Or.inl af_3_8) dX3_takeSign_246) ?_
  refine fc (ok_if_le hB (t := 263) (by decide) dX3_takeSign_249) ?_
  refine fc (ok_aload_n hB dX3_takeSign_252) ?_
  refine fc (ok_callM hB hT (e1 ▸ s_X3_closeRound) lk_X3_130 (by rw [e2]; decide) (c := 3) rfl rfl rfl wd_626 sl_X3_closeRound dX3_takeSign_253) ?_
  refine fc (ok_if_eq hB (t := 263) (by decide) dX3_takeSign_256) ?_
  refine fc (ok_iconst hB dX3_takeSign_259) ?_
  refine fc (ok_goto hB (t := 264) (by decide) dX3_takeSign_260) ?_
  refine fc (ok_iconst hB dX3_takeSign_263) ?_
  refine fc (ok_zret hB dX3_takeSign_264) ?_
  refine fc (ok_iload_n hB dX3_takeSign_265) ?_
  refine fc (ok_if_eq hB (t := 287) (by decide) dX3_takeSign_266) ?_
  refine fc (ok_aload_n hB dX3_takeSign_269) ?_
  refine fc (ok_getI hB hT fl_X3_36 rfl rfl (Or.inl af_3_8) dX3_takeSign_270) ?_
  refine fc (ok_if_ne hB (t := 287) (by decide) dX3_takeSign_273) ?_
  refine fc (ok_aload_n hB dX3_takeSign_276) ?_
  refine fc (ok_callM hB hT (e1 ▸ s_X3_closeCondition) lk_X3_133 (by rw [e2]; decide) (c := 3) rfl rfl rfl wd_630 sl_X3_closeCondition dX3_takeSign_277) ?_
  refine fc (ok_if_eq hB (t := 287) (by decide) dX3_takeSign_280) ?_
  refine fc (ok_iconst hB dX3_takeSign_283) ?_
  refine fc (ok_goto hB (t := 288) (by decide) dX3_takeSign_284) ?_
  refine fc (ok_iconst hB dX3_takeSign_287) ?_
  refine fc (ok_zret hB dX3_takeSign_288) ?_
  refine fc (ok_iconst hB dX3_takeSign_289) ?_
  refine fc (ok_zret hB dX3_takeSign_290) ?_
  exact fn

def w_X3_takeSign : WP := fun av σ Q => ∃ (x : Int), av = [(19, 9), (0, x)] ∧ (∃ (m : Mem) (p : Int) (C W : List Int) (sd wi br ro ska um : Int) (K : LK) (Z : Int ⊕ (Int × List Int × Int)), RdP m σ p C W sd wi br ro ska 0 um ∧ m 1 1 ≤ 240 ∧ lok (m 1 1) 0 p C W sd wi br ro ska um ∧ 0 ≤ x ∧ x ≤ 255 ∧ x ≠ 59 ∧ lsgn K x p C W sd wi br ro ska um = some Z ∧
(∀ τ wa' p' C' W' sd' wi' br' ro' ska' um', RdP m τ p' C' W' sd' wi' br' ro' ska' wa' um' → K wa' p' C' W' sd' wi' br' ro' ska' um' = some Z → Q (0, 1) τ) ∧ (∀ τ q, RdX m τ q → Z = .inl q → Q (0, 0) τ))
theorem w_X3_takeSign_e (x : Int) (σ : Mem) (Q : AV → Mem → Prop) : w_X3_takeSign [(19, 9), (0, x)] σ Q = (∃ (m : Mem) (p : Int) (C W : List Int) (sd wi br ro ska um : Int) (K : LK) (Z : Int ⊕ (Int × List Int × Int)), RdP m σ p C W sd wi br ro ska 0 um ∧ m 1 1 ≤ 240 ∧ lok (m 1 1) 0 p C W sd wi br ro ska um ∧ 0 ≤ x ∧ x ≤ 255 ∧ x ≠ 59 ∧ lsgn K x p C W sd wi br ro ska um = some Z ∧
(∀ τ wa' p' C' W' sd' wi' br' ro' ska' um', RdP m τ p' C' W' sd' wi' br' ro' ska' wa' um' → K wa' p' C' W' sd' wi' br' ro' ska' um' = some Z → Q (0, 1) τ) ∧ (∀ τ q, RdX m τ q → Z = .inl q → Q (0, 0) τ)) := by
  apply propext; constructor
  · rintro ⟨x', h9, hb9⟩; cases h9; exact hb9
  · intro hb9; exact ⟨x, rfl, hb9⟩

set_option maxRecDepth 100000 in
set_option maxHeartbeats 4000000 in
theorem s_X3_takeSign : ∀ av σ Q, w_X3_takeSign av σ Q → amCall 3 0 0 TT yX3_takeSign cX3_takeSign 3 (some .boolean) av σ Q := by
  rintro av σ Q ⟨x, rfl, m, p, C, W, sd, wi, br, ro, ska, um, K, Z, hL, ht1, ⟨b1, b2, b3, b4, b5, b6, b7, b8, b9, b10, b11, b12, b13, b14, b15, b16⟩, hx0, hx1, hx2, hz, hG, hF⟩
  have e5 : σ 9 5 = sd := hL.2.2.2.1
  have e7 : σ 9 7 = br := hL.2.2.2.2.2.1
  have e8 : σ 9 8 = ro := hL.2.2.2.2.2.2.1
  refine am_m0 (own := RX3) (A := look a_X3_takeSign) (fun X e1 e2 hB => o_X3_takeSign e1 e2 hB) rfl (by decide +kernel) rfl rfl 90 (w := 3) ?_
  change vcs _ _ _ _ 90 0 [(19, 9), (0, x), (6, 0)] [] σ
  simp only [↓reduceIte, inR_0, inR_1, inR_m, vSw2_e, swP_n, swP_c, vI_e, vL_e, vNull_e, vIload_e, vLload_e, vAload_e, vIstore_e, vLstore_e, vAstore_e, vIinc_e, vIadd_e, vIsub_e, vImul_e, vIand_e, vIor_e, vIxor_e, vIshl_e, vIshr_e, vIushr_e, vIdiv_e, vIrem_e, vLadd_e, vLsub_e, vLmul_e, vLand_e, vLor_e, vLxor_e, vLdiv_e, vLrem_e, vLushr_e, vLshl_e, vLcmp_e, vIneg_e, vI2l_e, vL2i_e, vI2b_e, vI2c_e, vDup_e, vPop_e, vDup2_e, vGoto_e, vIcEq_e, vIfEq_e, vIcNe_e, vIfNe_e, vIcLt_e, vIfLt_e, vIcGe_e, vIfGe_e, vIcGt_e, vIfGt_e, vIcLe_e, vIfLe_e, vNonnull_e, vSw_e, vGetI_e, vGetL_e, vGetR_e, vPutI_e, vPutZ_e, vPutL_e, vPutR_e, vIald_e, vIald_s, vLald_e, vBald_e, vBald_s, vAald_e, vIast_e, vLast_e, vBast_e, vAast_e, vAlen_e8, vAlen_e9, vAlen_e10, vAlen_e11, vAlen_e5, vAlen_e3, vGets_e, vCompact_e, vLdcS_e, vIret_e, vZret_e, vCret_e, vBret_e, vLret_e, vVret_e, vAret_e, vCallM_e0, vCallMV_e0, vCallS_e0, vCallSV_e0, vCallM_e1, vCallMV_e1, vCallS_e1, vCallSV_e1, vCallM_e2, vCallMV_e2, vCallS_e2, vCallSV_e2, vCallM_e3, vCallMV_e3, vCallS_e3, vCallSV_e3, vCallM_e4, vCallMV_e4, vCallS_e4, vCallSV_e4, vCallM_e5, vCallMV_e5, vCallS_e5, vCallSV_e5, vCallM_e6, vCallMV_e6, vCallS_e6, vCallSV_e6, vCallM_e7, vCallMV_e7, vCallS_e7, vCallSV_e7, vBad_e, vStrVal_e, vStrCod_e, vForm_e, vCallT_e0, vCallT_e1, vCallT_e2, vCopy_e, rf_0_0, rf_0_1, rf_0_2, rf_0_3, rf_0_4, rf_0_7, rf_0_10, rf_0_11, rf_0_12, rf_0_13, rf_0_14, rf_0_15, rf_0_16, rf_1_0, rf_3_0, rf_3_1, rf_6_0, rf_6_1, rf_9_0, rf_9_1, rf_9_3, rf_13_0, rf_13_1, rf_13_2, rf_16_0, rf_16_1, rf_16_2, rf_16_3, rf_21_0, rf_21_1, rf_21_2, rf_21_3, rf_26_0, rf_26_1, rf_26_2, rf_26_3, rf_26_4, rf_26_5, rf_26_6, rf_31_0, rf_31_2, rf_31_5, rf_31_6, rf_36_0, rf_36_1, rf_36_2, rf_36_3, rf_39_0, rf_39_1, rf_39_2, rf_41_0, rf_41_1, rf_41_2, rf_41_3, rf_5000_1, rf_5000_2, rf_5000_3, rf_5000_4, rf_5000_5, rf_5000_15, rf_5000_16, rf_5000_18, rf_5000_19, rf_5000_20, rf_5000_21, rf_5000_22, rf_5000_23, rf_5000_24, rf_5000_25, rf_5000_26, rf_5000_27, rf_5000_36, rf_5000_37, rf_5000_40, rf_5000_41, rf_5000_42, rf_5000_43, rf_5000_44, rf_5000_45, rf_5000_47, rf_5000_52, rf_5000_54, rf_5000_55, rf_100_0, rf_100_1, rf_103_0, rf_103_1, rf_106_0, rf_106_1, rf_109_0, rf_109_1, al_2, al_4, al_5, al_7, al_8, al_10, al_11, al_12, al_14, al_15, al_17, al_18, al_19, al_20, al_22, al_23, al_24, al_25, al_27, al_28, al_29, al_30, al_32, al_33, al_34, al_35, al_37, al_38, al_40, al_42, al_5001, al_5002, al_5003, al_5004, al_5005, al_5006, al_5007, al_5008, al_5009, al_5010, al_5011, al_5012, al_5013, al_5014, al_5015, al_5016, al_5017, al_5018, al_5019, al_5020, al_5021, al_5022, al_5023, al_5024, al_5025, al_5026, al_9000, al_101, al_102, al_104, al_105, al_107, al_108, al_110, al_111, vcs_e, lg_c0, lg_cs, lg_nil, set_c0, set_cs, okst_0, okst_s, acok_n, acok_c, List.contains_nil, List.contains_cons, Bool.or_false, Bool.false_or, Bool.false_eq_true, if_false, if_true, ite_self, ne_eq, true_and, and_true, not_false_eq_true, not_true_eq_false, false_imp_iff, true_imp_iff, Nat.ble_eq, Bool.and_eq_true, reduceCtorEq, or_false, false_or, or_true, true_or, false_and, and_false, and_self, Int.reduceLE, Int.reduceAdd, Int.reduceSub, Int.reduceMul, Int.reduceNeg, Int.reduceLT, Int.reduceEq, Int.reduceNe, Nat.reduceBEq, Nat.reduceBNe, Nat.reduceEqDiff, amCmp_in, amCmp_lt, amCmp_le, amCmp_gt, amCmp_ge, amCmp_eq, amCmp_ne, Nat.reduceLeDiff, Nat.reduceSub, Bool.and_true, Bool.true_and, Bool.and_self, Bool.or_true, Bool.true_or, isRf_3, isRf_4, isRf_5, isRf_8, isRf_9, isRf_10, isRf_11, isRf_15, isRf_16, isRf_17, isRf_18, isRf_19, isRf_20, isRf_21, isRf_22, isRf_23, isRf_24, isRf_25, isRf_26, isRf_27, isRf_28, k_X3_takeSign_0, k_X3_takeSign_1, k_X3_takeSign_4, k_X3_takeSign_7, k_X3_takeSign_8, k_X3_takeSign_11, k_X3_takeSign_12, k_X3_takeSign_15, k_X3_takeSign_16, k_X3_takeSign_19, k_X3_takeSign_20, k_X3_takeSign_23, k_X3_takeSign_24, k_X3_takeSign_27, k_X3_takeSign_28, k_X3_takeSign_29, k_X3_takeSign_30, k_X3_takeSign_136, k_X3_takeSign_137, k_X3_takeSign_140, k_X3_takeSign_141, k_X3_takeSign_144, k_X3_takeSign_145, k_X3_takeSign_146, k_X3_takeSign_147, k_X3_takeSign_150, k_X3_takeSign_151, k_X3_takeSign_154, k_X3_takeSign_157, k_X3_takeSign_158, k_X3_takeSign_161, k_X3_takeSign_162, k_X3_takeSign_163, k_X3_takeSign_164, k_X3_takeSign_167, k_X3_takeSign_170, k_X3_takeSign_171, k_X3_takeSign_174, k_X3_takeSign_177, k_X3_takeSign_178, k_X3_takeSign_181, k_X3_takeSign_182, k_X3_takeSign_183, k_X3_takeSign_184, k_X3_takeSign_187, k_X3_takeSign_190, k_X3_takeSign_191, k_X3_takeSign_194, k_X3_takeSign_197, k_X3_takeSign_198, k_X3_takeSign_201, k_X3_takeSign_202, k_X3_takeSign_205, k_X3_takeSign_206, k_X3_takeSign_207, k_X3_takeSign_208, k_X3_takeSign_209, k_X3_takeSign_212, k_X3_takeSign_215, k_X3_takeSign_216, k_X3_takeSign_219, k_X3_takeSign_220, k_X3_takeSign_221, k_X3_takeSign_222, k_X3_takeSign_225, k_X3_takeSign_226, k_X3_takeSign_227, k_X3_takeSign_228, k_X3_takeSign_229, k_X3_takeSign_232, k_X3_takeSign_235, k_X3_takeSign_236, k_X3_takeSign_239, k_X3_takeSign_240, k_X3_takeSign_241, k_X3_takeSign_242, k_X3_takeSign_245, k_X3_takeSign_246, k_X3_takeSign_249, k_X3_takeSign_252, k_X3_takeSign_253, k_X3_takeSign_256, k_X3_takeSign_259, k_X3_takeSign_260, k_X3_takeSign_263, k_X3_takeSign_264, k_X3_takeSign_265, k_X3_takeSign_266, k_X3_takeSign_269, k_X3_takeSign_270, k_X3_takeSign_273, k_X3_takeSign_276, k_X3_takeSign_277, k_X3_takeSign_280, k_X3_takeSign_283, k_X3_takeSign_284, k_X3_takeSign_287, k_X3_takeSign_288, k_X3_takeSign_289, k_X3_takeSign_290, w_X3_closeBracket_e, w_X3_closeCondition_e, w_X3_closeRound_e, w_X3_join_e, up_s, up_nj, up_na, up_up, savR_o, cpy_o, fillm_o, setAud_o, setv_o, setv_s, Int.reduceNe, Int.reduceEq, Int.reduceLT, Int.reduceAdd, not_false_eq_true, ne_eq, or_true, true_or, e5, e7, e8]
  unfold lsgn at hz
  rw [if_neg (by omega)] at hz
  have hJ : ∀ s u : Int, InR s → (u = 0 ∨ u = 1) → ljn K p x C W s wi br ro ska u = some Z → ∃ (m : Mem) (p : Int) (C W : List Int) (sd wi br ro ska wa um : Int), RdP m σ p C W sd wi br ro ska wa um ∧ C.length + W.length ≤ 238 ∧ W.length ≤ 60 ∧ 0 ≤ wi ∧ wi ≤ 100 ∧ 0 ≤ p ∧ p ≤ 1000 ∧ 0 ≤ x ∧ x ≤ 255 ∧ InR s ∧ (u = 0 ∨ u = 1) ∧ (∀ τ, RdP m τ (p + 1) (C ++ sC (stren x) W) (x :: sW (stren x) W) s (wi - sN (stren x) W) br ro ska 1 u → Q (0, 1) τ) :=
    fun s u hs hu hj => ⟨m, p, C, W, sd, wi, br, ro, ska, 0, um, hL, by omega, by omega, by omega, by omega, by omega, by omega, hx0, hx1, hs, hu, fun τ hτ => hG τ _ _ _ _ _ _ _ _ _ _ hτ hj⟩
  have hFF : Z = .inl p → Q (0, 0) σ := fun h => hF _ _ hL.1 h
  by_cases c1 : x = 43 ∨ x = 45 ∨ x = 42 ∨ x = 47
  · rw [if_pos c1] at hz
    have hq1 : sd = 4 → Q (0, 0) σ := fun h => by rw [if_pos h] at hz; cases hz; exact hFF rfl
    have hq2 := fun (h : ¬ sd = 4) => hJ sd 0 ⟨by omega, by omega⟩ (Or.inl rfl) (by rw [if_neg h] at hz; exact hz)
    clear hz hF hG
    rcases c1 with rfl | rfl | rfl | rfl <;>
    · simp only [inR_0, inR_1, inR_m, Int.reduceEq, ne_eq, not_false_eq_true, not_true_eq_false, false_imp_iff, true_imp_iff, and_true, true_and, Int.reduceLE, or_false, or_true, and_self] at hq2 ⊢
      repeat' (first | assumption | apply And.intro | intro _)
      all_goals first | omega | exact hq1 (by omega) | exact hq2 (by omega)
  rw [if_neg c1] at hz
  by_cases c2 : x = 93
  · rw [if_pos c2] at hz
    have hq1 : ¬ 0 < br → Q (0, 0) σ := fun h => by rw [if_neg h] at hz; cases hz; exact hFF rfl
    have hq2 : 0 < br → ∃ (m : Mem) (p : Int) (C W : List Int) (sd wi br ro ska wa um a : Int) (w : List Int), RdP m σ p C W sd wi br ro ska wa um ∧ C.length + W.length ≤ 238 ∧ W.length ≤ 60 ∧ 0 ≤ wi ∧ wi ≤ 100 ∧ 0 ≤ p ∧ p ≤ 1000 ∧ 0 ≤ br ∧ br ≤ 100 ∧ sW 1 W = a :: w ∧ (∀ τ, RdP m τ (p + 1) (C ++ sC 1 W) w sd (wi - sN 1 W - 1) (br - 1) ro ska wa um → Q (0, 1) τ) := fun h => by
      rw [if_pos h] at hz
      cases hw : sW 1 W with
      | nil => rw [hw] at hz; cases hz
      | cons a w =>
        rw [hw] at hz
        exact ⟨m, p, C, W, sd, wi, br, ro, ska, 0, um, a, w, hL, by omega, by omega, by omega, by omega, by omega, by omega, by omega, by omega, hw, fun τ hτ => hG τ _ _ _ _ _ _ _ _ _ _ hτ hz⟩
    clear hz hF hG
    subst c2
    simp only [inR_0, inR_1, inR_m, Int.reduceEq, ne_eq, not_false_eq_true, not_true_eq_false, false_imp_iff, true_imp_iff, and_true, true_and, Int.reduceLE] at hq2 ⊢
    repeat' (first | assumption | apply And.intro | intro _)
    all_goals first | omega | exact hq1 (by omega) | exact hq2 (by omega)
  rw [if_neg c2] at hz
  by_cases c3 : isSg x
  · rw [if_pos c3] at hz
    have hq1 : ¬ (br = 0 ∧ (sd = 0 ∨ sd = 1)) → Q (0, 0) σ := fun h => by rw [if_neg h] at hz; cases hz; exact hFF rfl
    have hq2 := fun (h : br = 0 ∧ (sd = 0 ∨ sd = 1)) => hJ 2 0 ⟨by omega, by omega⟩ (Or.inl rfl) (by rw [if_pos h] at hz; exact hz)
    clear hz hF hG
    rcases c3 with rfl | rfl | rfl <;>
    · simp only [inR_0, inR_1, inR_m, Int.reduceEq, ne_eq, not_false_eq_true, not_true_eq_false, false_imp_iff, true_imp_iff, and_true, true_and, Int.reduceLE, or_false, or_true, and_self, Int.reduceNeg] at hq2 ⊢
      repeat' (first | assumption | apply And.intro | intro _)
      all_goals first | omega | exact hq1 (by omega) | exact hq2 (by omega)
  rw [if_neg c3] at hz
  by_cases c4 : x = 38 ∨ x = 124
  · rw [if_pos c4] at hz
    have hq1 : ¬ (br = 0 ∧ (sd = 2 ∨ sd = 4)) → Q (0, 0) σ := fun h => by rw [if_neg h] at hz; cases hz; exact hFF rfl
    have hq2 := fun (h : br = 0 ∧ (sd = 2 ∨ sd = 4)) => hJ 1 1 ⟨by omega, by omega⟩ (Or.inr rfl) (by rw [if_pos h] at hz; exact hz)
    clear hz hF hG
    rcases c4 with rfl | rfl <;>
    · simp only [inR_0, inR_1, inR_m, Int.reduceEq, ne_eq, not_false_eq_true, not_true_eq_false, false_imp_iff, true_imp_iff, and_true, true_and, Int.reduceLE, or_false, or_true, and_self, Int.reduceNeg] at hq2 ⊢
      repeat' (first | assumption | apply And.intro | intro _)
      all_goals first | omega | exact hq1 (by omega) | exact hq2 (by omega)
  rw [if_neg c4] at hz
  by_cases c5 : x = 41
  · rw [if_pos c5] at hz
    have hq1 : ¬ (br = 0 ∧ (sd = 2 ∨ sd = 4) ∧ 0 < ro) → Q (0, 0) σ := fun h => by rw [if_neg h] at hz; cases hz; exact hFF rfl
    have hq2 : br = 0 ∧ (sd = 2 ∨ sd = 4) ∧ 0 < ro → ∃ (m : Mem) (p : Int) (C W : List Int) (sd wi br ro ska wa um a : Int) (w : List Int), RdP m σ p C W sd wi br ro ska wa um ∧ C.length + W.length ≤ 238 ∧ W.length ≤ 60 ∧ 0 ≤ wi ∧ wi ≤ 100 ∧ 0 ≤ p ∧ p ≤ 1000 ∧ 0 ≤ ro ∧ ro ≤ 100 ∧ sW 1 W = a :: w ∧ (∀ τ, RdP m τ (p + 1) (C ++ sC 1 W) w 4 (wi - sN 1 W - 1) br (ro - 1) ska wa um → Q (0, 1) τ) := fun h => by
      rw [if_pos h] at hz
      cases hw : sW 1 W with
      | nil => rw [hw] at hz; cases hz
      | cons a w =>
        rw [hw] at hz
        exact ⟨m, p, C, W, sd, wi, br, ro, ska, 0, um, a, w, hL, by omega, by omega, by omega, by omega, by omega, by omega, by omega, by omega, hw, fun τ hτ => hG τ _ _ _ _ _ _ _ _ _ _ hτ hz⟩
    clear hz hF hG
    subst c5
    simp only [inR_0, inR_1, inR_m, Int.reduceEq, ne_eq, not_false_eq_true, not_true_eq_false, false_imp_iff, true_imp_iff, and_true, true_and, Int.reduceLE] at hq2 ⊢
    repeat' (first | assumption | apply And.intro | intro _)
    all_goals first | omega | exact hq1 (by omega) | exact hq2 (by omega)
  rw [if_neg c5] at hz
  by_cases c6 : x = 63
  · rw [if_pos c6] at hz
    have hq1 : ¬ (br = 0 ∧ (sd = 2 ∨ sd = 4) ∧ ro = 0) → Q (0, 0) σ := fun h => by rw [if_neg h] at hz; cases hz; exact hFF rfl
    have hq2 : br = 0 ∧ (sd = 2 ∨ sd = 4) ∧ ro = 0 → ∃ (m : Mem) (p : Int) (C W : List Int) (sd wi br ro ska wa um : Int), RdP m σ p C W sd wi br ro ska wa um ∧ C.length + W.length ≤ 238 ∧ W.length ≤ 60 ∧ 0 ≤ wi ∧ wi ≤ 100 ∧ 0 ≤ p ∧ p ≤ 1000 ∧ (∀ τ, RdP m τ (p + 1) (C ++ sC 1 W ++ [30000]) (sW 1 W) 3 (wi - sN 1 W) br ro (C.length + (sC 1 W).length) 1 0 → Q (0, 1) τ) := fun h => by
      rw [if_pos h] at hz
      exact ⟨m, p, C, W, sd, wi, br, ro, ska, 0, um, hL, by omega, by omega, by omega, by omega, by omega, by omega, fun τ hτ => hG τ _ _ _ _ _ _ _ _ _ _ hτ hz⟩
    clear hz hF hG
    subst c6
    simp only [inR_0, inR_1, inR_m, Int.reduceEq, ne_eq, not_false_eq_true, not_true_eq_false, false_imp_iff, true_imp_iff, and_true, true_and, Int.reduceLE] at hq2 ⊢
    repeat' (first | assumption | apply And.intro | intro _)
    all_goals first | omega | exact hq1 (by omega) | exact hq2 (by omega)
  rw [if_neg c6] at hz
  cases hz
  have hh := hFF rfl
  clear hF hG hJ
  repeat' (first | assumption | apply And.intro | intro _)
  all_goals first | omega | exact hh
theorem wd_576 : Cond.methodLink RX3 87 yX10_ahead ∈ TBL := tb_tab (List.mem_of_getElem? (i := 576) (by decide +kernel)) rfl
theorem lk_X3_87 : amLk RX3 87 yX10_ahead cX10_ahead 1 (some .int) 0 := ⟨wd_576, wd_2, wd_411, by decide +kernel, by decide +kernel, by decide⟩
def a_X3_readHead : AC := [(0, vAload 0 1), (1, vGetR TT 19 0 26 4), (4, vCallM w_X10_ahead 26 0 7), (7, vI 121 9), (9, vIcEq 14 12), (12, vI 0 13), (13, vZret), (14, vAload 0 15), (15, vGetR TT 19 0 26 18), (18, vDup 19), (19, vGetI 26 2 22), (22, vI 1 23), (23, vIadd 24), (24, vPutI 26 2 27), (27, vAload 0 28), (28, vGetR TT 19 0 26 31), (31, vCallM w_X10_ahead 26 0 34), (34, vI 58 36), (36, vIcEq 41 39), (39, vI 0 40), (40, vZret), (41, vAload 0 42), (42, vGetR TT 19 0 26 45), (45, vDup 46), (46, vGetI 26 2 49), (49, vI 1 50), (50, vIadd 51), (51, vPutI 26 2 54), (54, vAload 0 55), (55, vI 0 56), (56, vPutI 19 4 59), (59, vAload 0 60), (60, vI 0 61), (61, vPutI 19 5 64), (64, vAload 0 65), (65, vI 0 66), (66, vPutI 19 6 69), (69, vAload 0 70), (70, vI 0 71), (71, vPutI 19 7 74), (74, vAload 0 75), (75, vI 0 76), (76, vPutI 19 8 79), (79, vAload 0 80), (80, vI (-1) 81), (81, vPutI 19 9 84), (84, vAload 0 85), (85, vI 1 86), (86, vPutZ 19 10 89), (89, vAload 0 90), (90, vI 1 91), (91, vPutZ 19 11 94), (94, vI 1 95), (95, vZret)]
theorem k_X3_readHead_0 : look a_X3_readHead 0 = vAload 0 1 := rfl
theorem k_X3_readHead_1 : look a_X3_readHead 1 = vGetR TT 19 0 26 4 := rfl
theorem k_X3_readHead_4 : look a_X3_readHead 4 = vCallM w_X10_ahead 26 0 7 := rfl
theorem k_X3_readHead_7 : look a_X3_readHead 7 = vI 121 9 := rfl
theorem k_X3_readHead_9 : look a_X3_readHead 9 = vIcEq 14 12 := rfl
theorem k_X3_readHead_12 : look a_X3_readHead 12 = vI 0 13 := rfl
theorem k_X3_readHead_13 : look a_X3_readHead 13 = vZret := rfl
theorem k_X3_readHead_14 : look a_X3_readHead 14 = vAload 0 15 := rfl
theorem k_X3_readHead_15 : look a_X3_readHead 15 = vGetR TT 19 0 26 18 := rfl
theorem k_X3_readHead_18 : look a_X3_readHead 18 = vDup 19 := rfl
theorem k_X3_readHead_19 : look a_X3_readHead 19 = vGetI 26 2 22 := rfl
theorem k_X3_readHead_22 : look a_X3_readHead 22 = vI 1 23 := rfl
theorem k_X3_readHead_23 : look a_X3_readHead 23 = vIadd 24 := rfl
theorem k_X3_readHead_24 : look a_X3_readHead 24 = vPutI 26 2 27 := rfl
theorem k_X3_readHead_27 : look a_X3_readHead 27 = vAload 0 28 := rfl
theorem k_X3_readHead_28 : look a_X3_readHead 28 = vGetR TT 19 0 26 31 := rfl
theorem k_X3_readHead_31 : look a_X3_readHead 31 = vCallM w_X10_ahead 26 0 34 := rfl
theorem k_X3_readHead_34 : look a_X3_readHead 34 = vI 58 36 := rfl
theorem k_X3_readHead_36 : look a_X3_readHead 36 = vIcEq 41 39 := rfl
theorem k_X3_readHead_39 : look a_X3_readHead 39 = vI 0 40 := rfl
theorem k_X3_readHead_40 : look a_X3_readHead 40 = vZret := rfl
theorem k_X3_readHead_41 : look a_X3_readHead 41 = vAload 0 42 := rfl
theorem k_X3_readHead_42 : look a_X3_readHead 42 = vGetR TT 19 0 26 45 := rfl
theorem k_X3_readHead_45 : look a_X3_readHead 45 = vDup 46 := rfl
theorem k_X3_readHead_46 : look a_X3_readHead 46 = vGetI 26 2 49 := rfl
theorem k_X3_readHead_49 : look a_X3_readHead 49 = vI 1 50 := rfl
theorem k_X3_readHead_50 : look a_X3_readHead 50 = vIadd 51 := rfl
theorem k_X3_readHead_51 : look a_X3_readHead 51 = vPutI 26 2 54 := rfl
theorem k_X3_readHead_54 : look a_X3_readHead 54 = vAload 0 55 := rfl
theorem k_X3_readHead_55 : look a_X3_readHead 55 = vI 0 56 := rfl
theorem k_X3_readHead_56 : look a_X3_readHead 56 = vPutI 19 4 59 := rfl
theorem k_X3_readHead_59 : look a_X3_readHead 59 = vAload 0 60 := rfl
theorem k_X3_readHead_60 : look a_X3_readHead 60 = vI 0 61 := rfl
theorem k_X3_readHead_61 : look a_X3_readHead 61 = vPutI 19 5 64 := rfl
theorem k_X3_readHead_64 : look a_X3_readHead 64 = vAload 0 65 := rfl
theorem k_X3_readHead_65 : look a_X3_readHead 65 = vI 0 66 := rfl
theorem k_X3_readHead_66 : look a_X3_readHead 66 = vPutI 19 6 69 := rfl
theorem k_X3_readHead_69 : look a_X3_readHead 69 = vAload 0 70 := rfl
theorem k_X3_readHead_70 : look a_X3_readHead 70 = vI 0 71 := rfl
theorem k_X3_readHead_71 : look a_X3_readHead 71 = vPutI 19 7 74 := rfl
theorem k_X3_readHead_74 : look a_X3_readHead 74 = vAload 0 75 := rfl
theorem k_X3_readHead_75 : look a_X3_readHead 75 = vI 0 76 := rfl
theorem k_X3_readHead_76 : look a_X3_readHead 76 = vPutI 19 8 79 := rfl
theorem k_X3_readHead_79 : look a_X3_readHead 79 = vAload 0 80 := rfl
theorem k_X3_readHead_80 : look a_X3_readHead 80 = vI (-1) 81 := rfl
theorem k_X3_readHead_81 : look a_X3_readHead 81 = vPutI 19 9 84 := rfl
theorem k_X3_readHead_84 : look a_X3_readHead 84 = vAload 0 85 := rfl
theorem k_X3_readHead_85 : look a_X3_readHead 85 = vI 1 86 := rfl
theorem k_X3_readHead_86 : look a_X3_readHead 86 = vPutZ 19 10 89 := rfl
theorem k_X3_readHead_89 : look a_X3_readHead 89 = vAload 0 90 := rfl
theorem k_X3_readHead_90 : look a_X3_readHead 90 = vI 1 91 := rfl
theorem k_X3_readHead_91 : look a_X3_readHead 91 = vPutZ 19 11 94 := rfl
theorem k_X3_readHead_94 : look a_X3_readHead 94 = vI 1 95 := rfl
theorem k_X3_readHead_95 : look a_X3_readHead 95 = vZret := rfl
theorem o_X3_readHead {X : amX} (e1 : XT X = TT) (e2 : XD X = 2) (hB : amB X RX3 cX3_readHead (some .boolean) 1) : ∀ pc, amOK X pc (look a_X3_readHead pc) := by
  have hT : amTok (XT X) := e1 ▸ TT_ok
  refine look_ok ?_
  unfold a_X3_readHead
  refine fc (ok_aload_n hB dX3_readHead_0) ?_
  refine fc (okt_getR e1 hB hT fl_X3_49 rfl af_3_0 at_3_0 (by decide) dX3_readHead_1) ?_
  refine fc (ok_callM hB hT (e1 ▸ s_X10_ahead) lk_X3_87 (by rw [e2]; decide) (c := 10) rfl rfl rfl wd_409 wd_410 dX3_readHead_4) ?_
  refine fc (ok_bipush hB dX3_readHead_7 (by decide)) ?_
  refine fc (ok_icmp_eq hB (t := 14) (by decide) dX3_readHead_9) ?_
  refine fc (ok_iconst hB dX3_readHead_12) ?_
  refine fc (ok_zret hB dX3_readHead_13) ?_
  refine fc (ok_aload_n hB dX3_readHead_14) ?_
  refine fc (okt_getR e1 hB hT fl_X3_49 rfl af_3_0 at_3_0 (by decide) dX3_readHead_15) ?_
  refine fc (ok_dup hB dX3_readHead_18) ?_
  refine fc (ok_getI hB hT fl_X3_53 rfl rfl (Or.inl af_10_2) dX3_readHead_19) ?_
  refine fc (ok_iconst hB dX3_readHead_22) ?_
  refine fc (ok_iadd hB dX3_readHead_23) ?_
  refine fc (ok_putI hB hT fp_X3_53 rfl rfl rfl af_10_2 dX3_readHead_24) ?_
  refine fc (ok_aload_n hB dX3_readHead_27) ?_
  refine fc (okt_getR e1 hB hT fl_X3_49 rfl af_3_0 at_3_0 (by decide) dX3_readHead_28) ?_
  refine fc (ok_callM hB hT (e1 ▸ s_X10_ahead) lk_X3_87 (by rw [e2]; decide) (c := 10) rfl rfl rfl wd_409 wd_410 dX3_readHead_31) ?_
  refine fc (ok_bipush hB dX3_readHead_34 (by decide)) ?_
  refine fc (ok_icmp_eq hB (t := 41) (by decide) dX3_readHead_36) ?_
  refine fc (ok_iconst hB dX3_readHead_39) ?_
  refine fc (ok_zret hB dX3_readHead_40) ?_
  refine fc (ok_aload_n hB dX3_readHead_41) ?_
  refine fc (okt_getR e1 hB hT fl_X3_49 rfl af_3_0 at_3_0 (by decide) dX3_readHead_42) ?_
  refine fc (ok_dup hB dX3_readHead_45) ?_
  refine fc (ok_getI hB hT fl_X3_53 rfl rfl (Or.inl af_10_2) dX3_readHead_46) ?_
  refine fc (ok_iconst hB dX3_readHead_49) ?_
  refine fc (ok_iadd hB dX3_readHead_50) ?_
  refine fc (ok_putI hB hT fp_X3_53 rfl rfl rfl af_10_2 dX3_readHead_51) ?_
  refine fc (ok_aload_n hB dX3_readHead_54) ?_
  refine fc (ok_iconst hB dX3_readHead_55) ?_
  refine fc (ok_putI hB hT fp_X3_24 rfl rfl rfl af_3_4 dX3_readHead_56) ?_
  refine fc (ok_aload_n hB dX3_readHead_59) ?_
  refine fc (ok_iconst hB dX3_readHead_60) ?_
  refine fc (ok_putI hB hT fp_X3_27 rfl rfl rfl af_3_5 dX3_readHead_61) ?_
  refine fc (ok_aload_n hB dX3_readHead_64) ?_
  refine fc (ok_iconst hB dX3_readHead_65) ?_
  refine fc (ok_putI hB hT fp_X3_30 rfl rfl rfl af_3_6 dX3_readHead_66) ?_
  refine fc (ok_aload_n hB dX3_readHead_69) ?_
  refine fc (ok_iconst hB dX3_readHead_70) ?_
  refine fc (ok_putI hB hT fp_X3_33 rfl rfl rfl af_3_7 dX3_readHead_71) ?_
  refine fc (ok_aload_n hB dX3_readHead_74) ?_
  refine fc (ok_iconst hB dX3_readHead_75) ?_
  refine fc (ok_putI hB hT fp_X3_36 rfl rfl rfl af_3_8 dX3_readHead_76) ?_
  refine fc (ok_aload_n hB dX3_readHead_79) ?_
  refine fc (ok_iconst hB dX3_readHead_80) ?_
  refine fc (ok_putI hB hT fp_X3_39 rfl rfl rfl af_3_9 dX3_readHead_81) ?_
  refine fc (ok_aload_n hB dX3_readHead_84) ?_
  refine fc (ok_iconst hB dX3_readHead_85) ?_
  refine fc (ok_putZ hB hT fp_X3_42 rfl rfl rfl af_3_10 dX3_readHead_86) ?_
  refine fc (ok_aload_n hB dX3_readHead_89) ?_
  refine fc (ok_iconst hB dX3_readHead_90) ?_
  refine fc (ok_putZ hB hT fp_X3_46 rfl rfl rfl af_3_11 dX3_readHead_91) ?_
  refine fc (ok_iconst hB dX3_readHead_94) ?_
  refine fc (ok_zret hB dX3_readHead_95) ?_
  exact fn

def w_X3_readHead : WP := fun av σ Q => av = [(19, 9)] ∧ (∃ (m : Mem) (p : Int) (C : List Int), tapeOk m ∧ RdX m σ p ∧ 0 ≤ p ∧ p ≤ m 1 1 ∧ σ 9 2 = C.length ∧ lst (σ 10) 0 C ∧
(if tsg m (sk (tsg m) (m 1 1) p) ≠ 121 then (∀ τ, RdX m τ (sk (tsg m) (m 1 1) p) → Q (0, 0) τ)
else if tsg m (sk (tsg m) (m 1 1) (sk (tsg m) (m 1 1) p + 1)) ≠ 58 then (∀ τ, RdX m τ (sk (tsg m) (m 1 1) (sk (tsg m) (m 1 1) p + 1)) → Q (0, 0) τ)
else ∀ τ, RdP m τ (sk (tsg m) (m 1 1) (sk (tsg m) (m 1 1) p + 1) + 1) C [] 0 0 0 0 (-1) 1 1 → Q (0, 1) τ))
theorem w_X3_readHead_e  (σ : Mem) (Q : AV → Mem → Prop) : w_X3_readHead [(19, 9)] σ Q = (∃ (m : Mem) (p : Int) (C : List Int), tapeOk m ∧ RdX m σ p ∧ 0 ≤ p ∧ p ≤ m 1 1 ∧ σ 9 2 = C.length ∧ lst (σ 10) 0 C ∧
(if tsg m (sk (tsg m) (m 1 1) p) ≠ 121 then (∀ τ, RdX m τ (sk (tsg m) (m 1 1) p) → Q (0, 0) τ)
else if tsg m (sk (tsg m) (m 1 1) (sk (tsg m) (m 1 1) p + 1)) ≠ 58 then (∀ τ, RdX m τ (sk (tsg m) (m 1 1) (sk (tsg m) (m 1 1) p + 1)) → Q (0, 0) τ)
else ∀ τ, RdP m τ (sk (tsg m) (m 1 1) (sk (tsg m) (m 1 1) p + 1) + 1) C [] 0 0 0 0 (-1) 1 1 → Q (0, 1) τ)) := by
  apply propext; constructor
  · rintro ⟨h9, hb9⟩; cases h9; exact hb9
  · intro hb9; exact ⟨rfl, hb9⟩

set_option maxRecDepth 100000 in
set_option maxHeartbeats 4000000 in
theorem s_X3_readHead : ∀ av σ Q, w_X3_readHead av σ Q → amCall 2 0 0 TT yX3_readHead cX3_readHead 1 (some .boolean) av σ Q := by
  rintro av σ Q ⟨rfl, m, p, C, ht, hL, h0, h1, h2, h3, h⟩
  have hX := RdX_t hL
  have htk := RdX_ok hL ht
  have ht1 := ht.2.1
  have ep : σ 1 2 = p := hL.2.2
  have hte : ∀ i, m 1 1 ≤ i → tsg m i = -1 := fun i hi => (tsg_bd ht i).2.2.2 hi
  have s1 := sk_b (tsg m) h1
  have tU : ∀ q, tsg (up σ 1 2 q) = tsg m := fun q => (RdX_t (RdX_p hL q)).1
  have tO : ∀ q, tapeOk (up σ 1 2 q) := fun q => RdX_ok (RdX_p hL q) ht
  have tO1 := tO (sk (tsg m) (m 1 1) p + 1)
  refine am_m0 (own := RX3) (A := look a_X3_readHead) (fun X e1 e2 hB => o_X3_readHead e1 e2 hB) rfl (by decide +kernel) rfl rfl 90 (w := 1) ?_
  change vcs _ _ _ _ 90 0 [(19, 9)] [] σ
  simp only [↓reduceIte, inR_0, inR_1, inR_m, vSw2_e, swP_n, swP_c, vI_e, vL_e, vNull_e, vIload_e, vLload_e, vAload_e, vIstore_e, vLstore_e, vAstore_e, vIinc_e, vIadd_e, vIsub_e, vImul_e, vIand_e, vIor_e, vIxor_e, vIshl_e, vIshr_e, vIushr_e, vIdiv_e, vIrem_e, vLadd_e, vLsub_e, vLmul_e, vLand_e, vLor_e, vLxor_e, vLdiv_e, vLrem_e, vLushr_e, vLshl_e, vLcmp_e, vIneg_e, vI2l_e, vL2i_e, vI2b_e, vI2c_e, vDup_e, vPop_e, vDup2_e, vGoto_e, vIcEq_e, vIfEq_e, vIcNe_e, vIfNe_e, vIcLt_e, vIfLt_e, vIcGe_e, vIfGe_e, vIcGt_e, vIfGt_e, vIcLe_e, vIfLe_e, vNonnull_e, vSw_e, vGetI_e, vGetL_e, vGetR_e, vPutI_e, vPutZ_e, vPutL_e, vPutR_e, vIald_e, vIald_s, vLald_e, vBald_e, vBald_s, vAald_e, vIast_e, vLast_e, vBast_e, vAast_e, vAlen_e8, vAlen_e9, vAlen_e10, vAlen_e11, vAlen_e5, vAlen_e3, vGets_e, vCompact_e, vLdcS_e, vIret_e, vZret_e, vCret_e, vBret_e, vLret_e, vVret_e, vAret_e, vCallM_e0, vCallMV_e0, vCallS_e0, vCallSV_e0, vCallM_e1, vCallMV_e1, vCallS_e1, vCallSV_e1, vCallM_e2, vCallMV_e2, vCallS_e2, vCallSV_e2, vCallM_e3, vCallMV_e3, vCallS_e3, vCallSV_e3, vCallM_e4, vCallMV_e4, vCallS_e4, vCallSV_e4, vCallM_e5, vCallMV_e5, vCallS_e5, vCallSV_e5, vCallM_e6, vCallMV_e6, vCallS_e6, vCallSV_e6, vCallM_e7, vCallMV_e7, vCallS_e7, vCallSV_e7, vBad_e, vStrVal_e, vStrCod_e, vForm_e, vCallT_e0, vCallT_e1, vCallT_e2, vCopy_e, rf_0_0, rf_0_1, rf_0_2, rf_0_3, rf_0_4, rf_0_7, rf_0_10, rf_0_11, rf_0_12, rf_0_13, rf_0_14, rf_0_15, rf_0_16, rf_1_0, rf_3_0, rf_3_1, rf_6_0, rf_6_1, rf_9_0, rf_9_1, rf_9_3, rf_13_0, rf_13_1, rf_13_2, rf_16_0, rf_16_1, rf_16_2, rf_16_3, rf_21_0, rf_21_1, rf_21_2, rf_21_3, rf_26_0, rf_26_1, rf_26_2, rf_26_3, rf_26_4, rf_26_5, rf_26_6, rf_31_0, rf_31_2, rf_31_5, rf_31_6, rf_36_0, rf_36_1, rf_36_2, rf_36_3, rf_39_0, rf_39_1, rf_39_2, rf_41_0, rf_41_1, rf_41_2, rf_41_3, rf_5000_1, rf_5000_2, rf_5000_3, rf_5000_4, rf_5000_5, rf_5000_15, rf_5000_16, rf_5000_18, rf_5000_19, rf_5000_20, rf_5000_21, rf_5000_22, rf_5000_23, rf_5000_24, rf_5000_25, rf_5000_26, rf_5000_27, rf_5000_36, rf_5000_37, rf_5000_40, rf_5000_41, rf_5000_42, rf_5000_43, rf_5000_44, rf_5000_45, rf_5000_47, rf_5000_52, rf_5000_54, rf_5000_55, rf_100_0, rf_100_1, rf_103_0, rf_103_1, rf_106_0, rf_106_1, rf_109_0, rf_109_1, al_2, al_4, al_5, al_7, al_8, al_10, al_11, al_12, al_14, al_15, al_17, al_18, al_19, al_20, al_22, al_23, al_24, al_25, al_27, al_28, al_29, al_30, al_32, al_33, al_34, al_35, al_37, al_38, al_40, al_42, al_5001, al_5002, al_5003, al_5004, al_5005, al_5006, al_5007, al_5008, al_5009, al_5010, al_5011, al_5012, al_5013, al_5014, al_5015, al_5016, al_5017, al_5018, al_5019, al_5020, al_5021, al_5022, al_5023, al_5024, al_5025, al_5026, al_9000, al_101, al_102, al_104, al_105, al_107, al_108, al_110, al_111, vcs_e, lg_c0, lg_cs, lg_nil, set_c0, set_cs, okst_0, okst_s, acok_n, acok_c, List.contains_nil, List.contains_cons, Bool.or_false, Bool.false_or, Bool.false_eq_true, if_false, if_true, ite_self, ne_eq, true_and, and_true, not_false_eq_true, not_true_eq_false, false_imp_iff, true_imp_iff, Nat.ble_eq, Bool.and_eq_true, reduceCtorEq, or_false, false_or, or_true, true_or, false_and, and_false, and_self, Int.reduceLE, Int.reduceAdd, Int.reduceSub, Int.reduceMul, Int.reduceNeg, Int.reduceLT, Int.reduceEq, Int.reduceNe, Nat.reduceBEq, Nat.reduceBNe, Nat.reduceEqDiff, amCmp_in, amCmp_lt, amCmp_le, amCmp_gt, amCmp_ge, amCmp_eq, amCmp_ne, Nat.reduceLeDiff, Nat.reduceSub, Bool.and_true, Bool.true_and, Bool.and_self, Bool.or_true, Bool.true_or, isRf_3, isRf_4, isRf_5, isRf_8, isRf_9, isRf_10, isRf_11, isRf_15, isRf_16, isRf_17, isRf_18, isRf_19, isRf_20, isRf_21, isRf_22, isRf_23, isRf_24, isRf_25, isRf_26, isRf_27, isRf_28, k_X3_readHead_0, k_X3_readHead_1, k_X3_readHead_4, k_X3_readHead_7, k_X3_readHead_9, k_X3_readHead_12, k_X3_readHead_13, k_X3_readHead_14, k_X3_readHead_15, k_X3_readHead_18, k_X3_readHead_19, k_X3_readHead_22, k_X3_readHead_23, k_X3_readHead_24, k_X3_readHead_27, k_X3_readHead_28, k_X3_readHead_31, k_X3_readHead_34, k_X3_readHead_36, k_X3_readHead_39, k_X3_readHead_40, k_X3_readHead_41, k_X3_readHead_42, k_X3_readHead_45, k_X3_readHead_46, k_X3_readHead_49, k_X3_readHead_50, k_X3_readHead_51, k_X3_readHead_54, k_X3_readHead_55, k_X3_readHead_56, k_X3_readHead_59, k_X3_readHead_60, k_X3_readHead_61, k_X3_readHead_64, k_X3_readHead_65, k_X3_readHead_66, k_X3_readHead_69, k_X3_readHead_70, k_X3_readHead_71, k_X3_readHead_74, k_X3_readHead_75, k_X3_readHead_76, k_X3_readHead_79, k_X3_readHead_80, k_X3_readHead_81, k_X3_readHead_84, k_X3_readHead_85, k_X3_readHead_86, k_X3_readHead_89, k_X3_readHead_90, k_X3_readHead_91, k_X3_readHead_94, k_X3_readHead_95, w_X10_ahead_e, up_s, up_nj, up_na, up_up, savR_o, cpy_o, fillm_o, setAud_o, setv_o, setv_s, Int.reduceNe, Int.reduceEq, Int.reduceLT, Int.reduceAdd, not_false_eq_true, ne_eq, or_true, true_or, ep, hX.1, hX.2, skp_fold, tU]
  generalize hq1 : sk (tsg m) (m 1 1) p = q1 at *
  have tb1 := tsg_bd ht q1
  by_cases c1 : tsg m q1 ≠ 121
  · rw [if_pos c1] at h
    have hh := h _ (RdX_p hL q1)
    repeat' (first | assumption | apply And.intro | intro _)
    all_goals first | omega | exact htk | exact hh
  rw [if_neg c1] at h
  have hl1 := sk_lt hte (q := q1) (by omega)
  have s2 := sk_b (tsg m) (n := m 1 1) (p := q1 + 1) (by omega)
  generalize hq2 : sk (tsg m) (m 1 1) (q1 + 1) = q2 at *
  have tb2 := tsg_bd ht q2
  by_cases c2 : tsg m q2 ≠ 58
  · rw [if_pos c2] at h
    have hh := h _ (RdX_p hL q2)
    repeat' (first | assumption | apply And.intro | intro _)
    all_goals first | omega | exact htk | exact tO _ | exact hh
  rw [if_neg c2] at h
  have hl2 := sk_lt hte (q := q2) (by omega)
  have L1 : RdP m (up (up (up (up (up (up (up (up (up σ 1 2 (q2 + 1)) 9 4 0) 9 5 0) 9 6 0) 9 7 0) 9 8 0) 9 9 (-1)) 9 10 1) 9 11 1) (q2 + 1) C [] 0 0 0 0 (-1) 1 1 := by
    refine ⟨RdX_9 (RdX_9 (RdX_9 (RdX_9 (RdX_9 (RdX_9 (RdX_9 (RdX_9 (RdX_p hL (q2 + 1)) (Or.inl rfl) _ _) (Or.inl rfl) _ _) (Or.inl rfl) _ _) (Or.inl rfl) _ _) (Or.inl rfl) _ _) (Or.inl rfl) _ _) (Or.inl rfl) _ _) (Or.inl rfl) _ _, ⟨?_, ?_⟩, ⟨?_, trivial, (fun _ h => nomatch h)⟩, ?_, ?_, ?_, ?_, ?_, ?_, ?_⟩
    all_goals simp only [up_s, up_nj, up_na, up_up, savR_o, cpy_o, fillm_o, setAud_o, setv_o, setv_s, Int.reduceNe, Int.reduceEq, Int.reduceLT, Int.reduceAdd, not_false_eq_true, ne_eq, or_true, true_or, h2, h3, List.length_nil]
    all_goals rfl
  have hh := h _ L1
  repeat' (first | assumption | apply And.intro | intro _)
  all_goals first | omega | exact htk | exact tO _ | exact hh
