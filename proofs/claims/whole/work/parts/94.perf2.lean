/-! ArmchairHouse: PERFORM, the method -/

theorem wd_959 : Cond.methodLink RX11 279 yX11_canStep ∈ TBL := tb_tab (List.mem_of_getElem? (i := 959) (by decide +kernel)) rfl
theorem wd_962 : Cond.code yX11_canStep cX11_canStep 5 (some .boolean) ∈ TBL := tb_tab (List.mem_of_getElem? (i := 962) (by decide +kernel)) rfl
theorem lk_X11_279 : amLk RX11 279 yX11_canStep cX11_canStep 5 (some .boolean) 3 := ⟨wd_959, wd_1, wd_962, by decide +kernel, by decide +kernel, by decide⟩
theorem wd_961 : Cond.instanceMethod yX11_canStep ∈ TBL := tb_tab (List.mem_of_getElem? (i := 961) (by decide +kernel)) rfl
theorem sl_X11_canStep : Cond.selects RX11 yX11_canStep yX11_canStep ∈ TBL := tb_sel (List.mem_of_getElem? (i := 29) (by decide +kernel)) rfl
theorem wd_963 : Cond.methodLink RX11 283 yX11_doQuietStep ∈ TBL := tb_tab (List.mem_of_getElem? (i := 963) (by decide +kernel)) rfl
theorem wd_966 : Cond.code yX11_doQuietStep cX11_doQuietStep 5 (none) ∈ TBL := tb_tab (List.mem_of_getElem? (i := 966) (by decide +kernel)) rfl
theorem lk_X11_283 : amLk RX11 283 yX11_doQuietStep cX11_doQuietStep 5 (none) 3 := ⟨wd_963, wd_1, wd_966, by decide +kernel, by decide +kernel, by decide⟩
theorem wd_965 : Cond.instanceMethod yX11_doQuietStep ∈ TBL := tb_tab (List.mem_of_getElem? (i := 965) (by decide +kernel)) rfl
theorem sl_X11_doQuietStep : Cond.selects RX11 yX11_doQuietStep yX11_doQuietStep ∈ TBL := tb_sel (List.mem_of_getElem? (i := 30) (by decide +kernel)) rfl
def a_X11_perform : AC := [(0, vAload 0 1), (1, vGetR TT 27 7 23 4), (4, vIload 1 5), (5, vCallM w_X7_steps 23 1 8), (8, vIfEq 21 11), (11, vAload 0 12), (12, vGetR TT 27 2 22 15), (15, vCallM w_X6_isTold 22 0 18), (18, vIfNe 23 21), (21, vI (-1) 22), (22, vIret), (23, vI 0 24), (24, vIstore 2 25), (25, vIload 2 26), (26, vAload 0 27), (27, vGetR TT 27 7 23 30), (30, vIload 1 31), (31, vCallM w_X7_steps 23 1 34), (34, vIcGe 137 37), (37, vAload 0 38), (38, vIload 1 39), (39, vIload 2 40), (40, vAload 0 41), (41, vGetR TT 27 10 16 44), (44, vCallM w_X11_canStep 27 3 47), (47, vIfNe 52 50), (50, vIload 2 51), (51, vIret), (52, vAload 0 53), (53, vGetR TT 27 13 21 56), (56, vAload 0 57), (57, vGetR TT 27 10 16 60), (60, vCallMV w_X5_remember 21 1 63), (63, vAload 0 64), (64, vGetR TT 27 7 23 67), (67, vIload 1 68), (68, vIload 2 69), (69, vI 0 70), (70, vCallM w_X7_part 23 3 73), (73, vIfNe 121 76), (76, vAload 0 77), (77, vGetR TT 27 7 23 80), (80, vIload 1 81), (81, vIload 2 82), (82, vI 1 83), (83, vCallM w_X7_part 23 3 86), (86, vIstore 3 87), (87, vAload 0 88), (88, vGetR TT 27 12 25 91), (91, vAload 0 92), (92, vGetR TT 27 10 16 95), (95, vIload 3 96), (96, vCallM w_X9_show 25 2 99), (99, vIstore 4 101), (101, vAload 0 102), (102, vGetR TT 27 13 21 105), (105, vIload 3 106), (106, vIload 4 108), (108, vAload 0 109), (109, vGetR TT 27 12 25 112), (112, vCallM w_X9_outBits 25 0 115), (115, vCallMV w_X5_write 21 3 118), (118, vGoto 131), (121, vAload 0 122), (122, vIload 1 123), (123, vIload 2 124), (124, vAload 0 125), (125, vGetR TT 27 10 16 128), (128, vCallMV w_X11_doQuietStep 27 3 131), (131, vIinc 2 1 134), (134, vGoto 25), (137, vAload 0 138), (138, vGetR TT 27 7 23 141), (141, vIload 1 142), (142, vCallM w_X7_steps 23 1 145), (145, vIret)]
theorem k_X11_perform_0 : look a_X11_perform 0 = vAload 0 1 := rfl
theorem k_X11_perform_1 : look a_X11_perform 1 = vGetR TT 27 7 23 4 := rfl
theorem k_X11_perform_4 : look a_X11_perform 4 = vIload 1 5 := rfl
theorem k_X11_perform_5 : look a_X11_perform 5 = vCallM w_X7_steps 23 1 8 := rfl
theorem k_X11_perform_8 : look a_X11_perform 8 = vIfEq 21 11 := rfl
theorem k_X11_perform_11 : look a_X11_perform 11 = vAload 0 12 := rfl
theorem k_X11_perform_12 : look a_X11_perform 12 = vGetR TT 27 2 22 15 := rfl
theorem k_X11_perform_15 : look a_X11_perform 15 = vCallM w_X6_isTold 22 0 18 := rfl
theorem k_X11_perform_18 : look a_X11_perform 18 = vIfNe 23 21 := rfl
theorem k_X11_perform_21 : look a_X11_perform 21 = vI (-1) 22 := rfl
theorem k_X11_perform_22 : look a_X11_perform 22 = vIret := rfl
theorem k_X11_perform_23 : look a_X11_perform 23 = vI 0 24 := rfl
theorem k_X11_perform_24 : look a_X11_perform 24 = vIstore 2 25 := rfl
theorem k_X11_perform_25 : look a_X11_perform 25 = vIload 2 26 := rfl
theorem k_X11_perform_26 : look a_X11_perform 26 = vAload 0 27 := rfl
theorem k_X11_perform_27 : look a_X11_perform 27 = vGetR TT 27 7 23 30 := rfl
theorem k_X11_perform_30 : look a_X11_perform 30 = vIload 1 31 := rfl
theorem k_X11_perform_31 : look a_X11_perform 31 = vCallM w_X7_steps 23 1 34 := rfl
theorem k_X11_perform_34 : look a_X11_perform 34 = vIcGe 137 37 := rfl
theorem k_X11_perform_37 : look a_X11_perform 37 = vAload 0 38 := rfl
theorem k_X11_perform_38 : look a_X11_perform 38 = vIload 1 39 := rfl
theorem k_X11_perform_39 : look a_X11_perform 39 = vIload 2 40 := rfl
theorem k_X11_perform_40 : look a_X11_perform 40 = vAload 0 41 := rfl
theorem k_X11_perform_41 : look a_X11_perform 41 = vGetR TT 27 10 16 44 := rfl
theorem k_X11_perform_44 : look a_X11_perform 44 = vCallM w_X11_canStep 27 3 47 := rfl
theorem k_X11_perform_47 : look a_X11_perform 47 = vIfNe 52 50 := rfl
theorem k_X11_perform_50 : look a_X11_perform 50 = vIload 2 51 := rfl
theorem k_X11_perform_51 : look a_X11_perform 51 = vIret := rfl
theorem k_X11_perform_52 : look a_X11_perform 52 = vAload 0 53 := rfl
theorem k_X11_perform_53 : look a_X11_perform 53 = vGetR TT 27 13 21 56 := rfl
theorem k_X11_perform_56 : look a_X11_perform 56 = vAload 0 57 := rfl
theorem k_X11_perform_57 : look a_X11_perform 57 = vGetR TT 27 10 16 60 := rfl
theorem k_X11_perform_60 : look a_X11_perform 60 = vCallMV w_X5_remember 21 1 63 := rfl
theorem k_X11_perform_63 : look a_X11_perform 63 = vAload 0 64 := rfl
theorem k_X11_perform_64 : look a_X11_perform 64 = vGetR TT 27 7 23 67 := rfl
theorem k_X11_perform_67 : look a_X11_perform 67 = vIload 1 68 := rfl
theorem k_X11_perform_68 : look a_X11_perform 68 = vIload 2 69 := rfl
theorem k_X11_perform_69 : look a_X11_perform 69 = vI 0 70 := rfl
theorem k_X11_perform_70 : look a_X11_perform 70 = vCallM w_X7_part 23 3 73 := rfl
theorem k_X11_perform_73 : look a_X11_perform 73 = vIfNe 121 76 := rfl
theorem k_X11_perform_76 : look a_X11_perform 76 = vAload 0 77 := rfl
theorem k_X11_perform_77 : look a_X11_perform 77 = vGetR TT 27 7 23 80 := rfl
theorem k_X11_perform_80 : look a_X11_perform 80 = vIload 1 81 := rfl
theorem k_X11_perform_81 : look a_X11_perform 81 = vIload 2 82 := rfl
theorem k_X11_perform_82 : look a_X11_perform 82 = vI 1 83 := rfl
theorem k_X11_perform_83 : look a_X11_perform 83 = vCallM w_X7_part 23 3 86 := rfl
theorem k_X11_perform_86 : look a_X11_perform 86 = vIstore 3 87 := rfl
theorem k_X11_perform_87 : look a_X11_perform 87 = vAload 0 88 := rfl
theorem k_X11_perform_88 : look a_X11_perform 88 = vGetR TT 27 12 25 91 := rfl
theorem k_X11_perform_91 : look a_X11_perform 91 = vAload 0 92 := rfl
theorem k_X11_perform_92 : look a_X11_perform 92 = vGetR TT 27 10 16 95 := rfl
theorem k_X11_perform_95 : look a_X11_perform 95 = vIload 3 96 := rfl
theorem k_X11_perform_96 : look a_X11_perform 96 = vCallM w_X9_show 25 2 99 := rfl
theorem k_X11_perform_99 : look a_X11_perform 99 = vIstore 4 101 := rfl
theorem k_X11_perform_101 : look a_X11_perform 101 = vAload 0 102 := rfl
theorem k_X11_perform_102 : look a_X11_perform 102 = vGetR TT 27 13 21 105 := rfl
theorem k_X11_perform_105 : look a_X11_perform 105 = vIload 3 106 := rfl
theorem k_X11_perform_106 : look a_X11_perform 106 = vIload 4 108 := rfl
theorem k_X11_perform_108 : look a_X11_perform 108 = vAload 0 109 := rfl
theorem k_X11_perform_109 : look a_X11_perform 109 = vGetR TT 27 12 25 112 := rfl
theorem k_X11_perform_112 : look a_X11_perform 112 = vCallM w_X9_outBits 25 0 115 := rfl
theorem k_X11_perform_115 : look a_X11_perform 115 = vCallMV w_X5_write 21 3 118 := rfl
theorem k_X11_perform_118 : look a_X11_perform 118 = vGoto 131 := rfl
theorem k_X11_perform_121 : look a_X11_perform 121 = vAload 0 122 := rfl
theorem k_X11_perform_122 : look a_X11_perform 122 = vIload 1 123 := rfl
theorem k_X11_perform_123 : look a_X11_perform 123 = vIload 2 124 := rfl
theorem k_X11_perform_124 : look a_X11_perform 124 = vAload 0 125 := rfl
theorem k_X11_perform_125 : look a_X11_perform 125 = vGetR TT 27 10 16 128 := rfl
theorem k_X11_perform_128 : look a_X11_perform 128 = vCallMV w_X11_doQuietStep 27 3 131 := rfl
theorem k_X11_perform_131 : look a_X11_perform 131 = vIinc 2 1 134 := rfl
theorem k_X11_perform_134 : look a_X11_perform 134 = vGoto 25 := rfl
theorem k_X11_perform_137 : look a_X11_perform 137 = vAload 0 138 := rfl
theorem k_X11_perform_138 : look a_X11_perform 138 = vGetR TT 27 7 23 141 := rfl
theorem k_X11_perform_141 : look a_X11_perform 141 = vIload 1 142 := rfl
theorem k_X11_perform_142 : look a_X11_perform 142 = vCallM w_X7_steps 23 1 145 := rfl
theorem k_X11_perform_145 : look a_X11_perform 145 = vIret := rfl
theorem o_X11_perform {X : amX} (e1 : XT X = TT) (e2 : XD X = 7) (hB : amB X RX11 cX11_perform (some .int) 5) : ∀ pc, amOK X pc (look a_X11_perform pc) := by
  have hT : amTok (XT X) := e1 ▸ TT_ok
  refine look_ok ?_
  unfold a_X11_perform
  refine fc (ok_aload_n hB dX11_perform_0) ?_
  refine fc (okt_getR e1 hB hT fl_X11_51 rfl af_11_7 at_11_7 (by decide) dX11_perform_1) ?_
  refine fc (ok_iload_n hB dX11_perform_4) ?_
  refine fc (ok_callM hB hT (e1 ▸ s_X7_steps) lk_X11_270 (by rw [e2]; decide) (c := 7) rfl rfl rfl wd_943 wd_944 dX11_perform_5) ?_
  refine fc (ok_if_eq hB (t := 21) (by decide) dX11_perform_8) ?_
  refine fc (ok_aload_n hB dX11_perform_11) ?_
  refine fc (okt_getR e1 hB hT fl_X11_23 rfl af_11_2 at_11_2 (by decide) dX11_perform_12) ?_
  refine fc (ok_callM hB hT (e1 ▸ s_X6_isTold) lk_X11_164 (by rw [e2]; decide) (c := 6) rfl rfl rfl wd_717 wd_718 dX11_perform_15) ?_
  refine fc (ok_if_ne hB (t := 23) (by decide) dX11_perform_18) ?_
  refine fc (ok_iconst hB dX11_perform_21) ?_
  refine fc (ok_iret hB dX11_perform_22) ?_
  refine fc (ok_iconst hB dX11_perform_23) ?_
  refine fc (ok_istore_n hB (by decide) dX11_perform_24) ?_
  refine fc (ok_iload_n hB dX11_perform_25) ?_
  refine fc (ok_aload_n hB dX11_perform_26) ?_
  refine fc (okt_getR e1 hB hT fl_X11_51 rfl af_11_7 at_11_7 (by decide) dX11_perform_27) ?_
  refine fc (ok_iload_n hB dX11_perform_30) ?_
  refine fc (ok_callM hB hT (e1 ▸ s_X7_steps) lk_X11_270 (by rw [e2]; decide) (c := 7) rfl rfl rfl wd_943 wd_944 dX11_perform_31) ?_
  refine fc (ok_icmp_ge hB (t := 137) (by decide) dX11_perform_34) ?_
  refine fc (ok_aload_n hB dX11_perform_37) ?_
  refine fc (ok_iload_n hB dX11_perform_38) ?_
  refine fc (ok_iload_n hB dX11_perform_39) ?_
  refine fc (ok_aload_n hB dX11_perform_40) ?_
  refine fc (okt_getR e1 hB hT fl_X11_65 rfl af_11_10 at_11_10 (by decide) dX11_perform_41) ?_
  refine fc (ok_callM hB hT (e1 ▸ s_X11_canStep) lk_X11_279 (by rw [e2]; decide) (c := 11) rfl rfl rfl wd_961 sl_X11_canStep dX11_perform_44) ?_
  refine fc (ok_if_ne hB (t := 52) (by decide) dX11_perform_47) ?_
  refine fc (ok_iload_n hB dX11_perform_50) ?_
  refine fc (ok_iret hB dX11_perform_51) ?_
  refine fc (ok_aload_n hB dX11_perform_52) ?_
  refine fc (okt_getR e1 hB hT fl_X11_84 rfl af_11_13 at_11_13 (by decide) dX11_perform_53) ?_
  refine fc (ok_aload_n hB dX11_perform_56) ?_
  refine fc (okt_getR e1 hB hT fl_X11_65 rfl af_11_10 at_11_10 (by decide) dX11_perform_57) ?_
  refine fc (ok_callMV hB hT (e1 ▸ s_X5_remember) lk_X11_217 (by rw [e2]; decide) (c := 5) rfl rfl rfl wd_762 wd_763 dX11_perform_60) ?_
  refine fc (ok_aload_n hB dX11_perform_63) ?_
  refine fc (okt_getR e1 hB hT fl_X11_51 rfl af_11_7 at_11_7 (by decide) dX11_perform_64) ?_
  refine fc (ok_iload_n hB dX11_perform_67) ?_
  refine fc (ok_iload_n hB dX11_perform_68) ?_
  refine fc (ok_iconst hB dX11_perform_69) ?_
  refine fc (ok_callM hB hT (e1 ▸ s_X7_part) lk_X11_274 (by rw [e2]; decide) (c := 7) rfl rfl rfl wd_948 wd_949 dX11_perform_70) ?_
  refine fc (ok_if_ne hB (t := 121) (by decide) dX11_perform_73) ?_
  refine fc (ok_aload_n hB dX11_perform_76) ?_
  refine fc (okt_getR e1 hB hT fl_X11_51 rfl af_11_7 at_11_7 (by decide) dX11_perform_77) ?_
  refine fc (ok_iload_n hB dX11_perform_80) ?_
  refine fc (ok_iload_n hB dX11_perform_81) ?_
  refine fc (ok_iconst hB dX11_perform_82) ?_
  refine fc (ok_callM hB hT (e1 ▸ s_X7_part) lk_X11_274 (by rw [e2]; decide) (c := 7) rfl rfl rfl wd_948 wd_949 dX11_perform_83) ?_
  refine fc (ok_istore_n hB (by decide) dX11_perform_86) ?_
  refine fc (ok_aload_n hB dX11_perform_87) ?_
  refine fc (okt_getR e1 hB hT fl_X11_77 rfl af_11_12 at_11_12 (by decide) dX11_perform_88) ?_
  refine fc (ok_aload_n hB dX11_perform_91) ?_
  refine fc (okt_getR e1 hB hT fl_X11_65 rfl af_11_10 at_11_10 (by decide) dX11_perform_92) ?_
  refine fc (ok_iload_n hB dX11_perform_95) ?_
  refine fc (ok_callM hB hT (e1 ▸ s_X9_show) lk_X11_221 (by rw [e2]; decide) (c := 9) rfl rfl rfl wd_772 wd_773 dX11_perform_96) ?_
  refine fc (ok_istore hB (by decide) dX11_perform_99) ?_
  refine fc (ok_aload_n hB dX11_perform_101) ?_
  refine fc (okt_getR e1 hB hT fl_X11_84 rfl af_11_13 at_11_13 (by decide) dX11_perform_102) ?_
  refine fc (ok_iload_n hB dX11_perform_105) ?_
  refine fc (ok_iload hB dX11_perform_106) ?_
  refine fc (ok_aload_n hB dX11_perform_108) ?_
  refine fc (okt_getR e1 hB hT fl_X11_77 rfl af_11_12 at_11_12 (by decide) dX11_perform_109) ?_
  refine fc (ok_callM hB hT (e1 ▸ s_X9_outBits) lk_X11_225 (by rw [e2]; decide) (c := 9) rfl rfl rfl wd_857 wd_858 dX11_perform_112) ?_
  refine fc (ok_callMV hB hT (e1 ▸ s_X5_write) lk_X11_228 (by rw [e2]; decide) (c := 5) rfl rfl rfl wd_861 wd_862 dX11_perform_115) ?_
  refine fc (ok_goto hB (t := 131) (by decide) dX11_perform_118) ?_
  refine fc (ok_aload_n hB dX11_perform_121) ?_
  refine fc (ok_iload_n hB dX11_perform_122) ?_
  refine fc (ok_iload_n hB dX11_perform_123) ?_
  refine fc (ok_aload_n hB dX11_perform_124) ?_
  refine fc (okt_getR e1 hB hT fl_X11_65 rfl af_11_10 at_11_10 (by decide) dX11_perform_125) ?_
  refine fc (ok_callMV hB hT (e1 ▸ s_X11_doQuietStep) lk_X11_283 (by rw [e2]; decide) (c := 11) rfl rfl rfl wd_965 sl_X11_doQuietStep dX11_perform_128) ?_
  refine fc (ok_iinc hB (by decide) dX11_perform_131) ?_
  refine fc (ok_goto hB (t := 25) (by decide) dX11_perform_134) ?_
  refine fc (ok_aload_n hB dX11_perform_137) ?_
  refine fc (okt_getR e1 hB hT fl_X11_51 rfl af_11_7 at_11_7 (by decide) dX11_perform_138) ?_
  refine fc (ok_iload_n hB dX11_perform_141) ?_
  refine fc (ok_callM hB hT (e1 ▸ s_X7_steps) lk_X11_270 (by rw [e2]; decide) (c := 7) rfl rfl rfl wd_943 wd_944 dX11_perform_142) ?_
  refine fc (ok_iret hB dX11_perform_145) ?_
  exact fn
def inv_pfm (σ : Mem) (s : Int) (n pc : Nat) (ls st : List AV) (σ' : Mem) : Prop := pc = 25 ∧ st = [] ∧ ((0 ≤ s ∧ s < σ 13 3) ∧ 0 < pcnt σ 6 2) ∧ ∃ (k : Nat) (v3 v4 : AV), ls = [(27, 0), (0, s), (0, (k : Int)), v3, v4] ∧ (k : Int) + n = σ 15 s ∧ pfX s k σ σ' ∧ xA σ' ∧ AF σ σ' ∧ σ' 31 1 ≤ σ 31 1 + k
def w_X11_perform : WP := fun av σ Q => ∃ (s : Int), av = [(27, 0), (0, s)] ∧ (InR s ∧ xA σ ∧ seaOk σ ∧ (∀ j, 0 ≤ s → s < σ 13 3 → 0 ≤ j → j < 3 * σ 15 s → InR (σ 14 (s * 48 + j))) ∧ σ 31 1 ≤ 999900 ∧ (¬ ((0 ≤ s ∧ s < σ 13 3) ∧ 0 < pcnt σ 6 2) → Q (0, -1) σ) ∧ ((0 ≤ s ∧ s < σ 13 3) ∧ 0 < pcnt σ 6 2 → ∀ (k : Nat) τ, pfX s k σ τ → AF σ τ → xA τ → (((k : Int) < σ 15 s ∧ ¬ csP τ s k 16) ∨ (k : Int) = σ 15 s) → Q (0, (k : Int)) τ))
theorem w_X11_perform_e (s : Int) (σ : Mem) (Q : AV → Mem → Prop) : w_X11_perform [(27, 0), (0, s)] σ Q = (InR s ∧ xA σ ∧ seaOk σ ∧ (∀ j, 0 ≤ s → s < σ 13 3 → 0 ≤ j → j < 3 * σ 15 s → InR (σ 14 (s * 48 + j))) ∧ σ 31 1 ≤ 999900 ∧ (¬ ((0 ≤ s ∧ s < σ 13 3) ∧ 0 < pcnt σ 6 2) → Q (0, -1) σ) ∧ ((0 ≤ s ∧ s < σ 13 3) ∧ 0 < pcnt σ 6 2 → ∀ (k : Nat) τ, pfX s k σ τ → AF σ τ → xA τ → (((k : Int) < σ 15 s ∧ ¬ csP τ s k 16) ∨ (k : Int) = σ 15 s) → Q (0, (k : Int)) τ)) := by
  apply propext; constructor
  · rintro ⟨s', h9, hb9⟩; cases h9; exact hb9
  · intro hb9; exact ⟨s, rfl, hb9⟩

set_option maxRecDepth 100000 in
set_option maxHeartbeats 4000000 in
theorem s_X11_perform : ∀ av σ Q, w_X11_perform av σ Q → amCall 7 0 0 TT yX11_perform cX11_perform 5 (some .int) av σ Q := by
  rintro av σ Q ⟨s, rfl, hs, hx, hsea, hrow, hw, h1, h2⟩
  obtain ⟨q1, q2⟩ := id hsea
  have hB0 := hx.1.1.2.1
  have c20 := pcnt_b hB0 2
  refine am_m [25] (inv_pfm σ s) (own := RX11) (A := look a_X11_perform) (fun X e1 e2 hB => o_X11_perform e1 e2 hB) rfl (by decide +kernel) rfl rfl ?_ ⟨90, ?_⟩ (w := 5)
  · rintro n pc ls st σ' ⟨rfl, rfl, cc, k, v3, v4, rfl, hk, hpf, hx', hA, hw'⟩
    have r13 : σ' 13 = σ 13 := AF_r hA (by omega)
    have r14 : σ' 14 = σ 14 := AF_r hA (by omega)
    have r15 : σ' 15 = σ 15 := AF_r hA (by omega)
    have q3 := q2 s cc.1.1 cc.1.2
    obtain ⟨⟨hst, hse, h9, hsi⟩, hpa, hau, hte, hp4, hpr, hmo⟩ := id hx'
    obtain ⟨-, hB, hl, hh, hev, hil⟩ := id hst
    have c1 := pcnt_b hB 1
    have c2 := pcnt_b hB 2
    have c3 := pcnt_b hB 3
    have hP := rmM_SP σ'
    have hxr := rm_x hx'
    have hst' := hxr.1.1
    have pc2 : pcnt (rmM σ') 6 2 = pcnt σ' 6 2 := SP_pcnt hP 2
    have pc3 : pcnt (rmM σ') 6 3 = pcnt σ' 6 3 := SP_pcnt hP 3
    have o18 : rmM σ' 18 = σ' 18 := rmM_o σ' (by decide) (by decide)
    have o20 : rmM σ' 20 = σ' 20 := rmM_o σ' (by decide) (by decide)
    have o14 : rmM σ' 14 = σ 14 := by rw [rmM_o σ' (by decide) (by decide)]; exact r14
    obtain ⟨p1, p2, p3⟩ := id hpa
    have e1 : (16 : Int) + 2 = 18 := rfl
    have e2 : (16 : Int) + 4 = 20 := rfl
    have z0 : s * 48 + (k : Int) * 3 + 0 = s * 48 + (k : Int) * 3 := Int.add_zero _
    have hte' : ∀ i, 0 ≤ i → i < pcnt σ' 6 2 → (0 ≤ σ' 18 i ∧ σ' 18 i < pcnt σ' 6 3) ∧ 0 ≤ σ' 20 i ∧ σ' 20 i ≤ 9999 := fun i i0 i1 => ⟨hsi i i0 i1, hte i i0 i1⟩
    refine ⟨120, ?_⟩
    simp only [↓reduceIte, inR_0, inR_1, inR_m, vSw2_e, swP_n, swP_c, vI_e, vL_e, vNull_e, vIload_e, vLload_e, vAload_e, vIstore_e, vLstore_e, vAstore_e, vIinc_e, vIadd_e, vIsub_e, vImul_e, vIand_e, vIor_e, vIxor_e, vIshl_e, vIshr_e, vIushr_e, vIdiv_e, vIrem_e, vLadd_e, vLsub_e, vLmul_e, vLand_e, vLor_e, vLxor_e, vLdiv_e, vLrem_e, vLushr_e, vLshl_e, vLcmp_e, vIneg_e, vI2l_e, vL2i_e, vI2b_e, vI2c_e, vDup_e, vPop_e, vDup2_e, vGoto_e, vIcEq_e, vIfEq_e, vIcNe_e, vIfNe_e, vIcLt_e, vIfLt_e, vIcGe_e, vIfGe_e, vIcGt_e, vIfGt_e, vIcLe_e, vIfLe_e, vNonnull_e, vSw_e, vGetI_e, vGetL_e, vGetR_e, vPutI_e, vPutZ_e, vPutL_e, vPutR_e, vIald_e, vIald_s, vLald_e, vBald_e, vBald_s, vAald_e, vIast_e, vLast_e, vBast_e, vAast_e, vAlen_e8, vAlen_e9, vAlen_e10, vAlen_e11, vAlen_e5, vAlen_e3, vGets_e, vCompact_e, vLdcS_e, vIret_e, vZret_e, vCret_e, vBret_e, vLret_e, vVret_e, vAret_e, vCallM_e0, vCallMV_e0, vCallS_e0, vCallSV_e0, vCallM_e1, vCallMV_e1, vCallS_e1, vCallSV_e1, vCallM_e2, vCallMV_e2, vCallS_e2, vCallSV_e2, vCallM_e3, vCallMV_e3, vCallS_e3, vCallSV_e3, vCallM_e4, vCallMV_e4, vCallS_e4, vCallSV_e4, vCallM_e5, vCallMV_e5, vCallS_e5, vCallSV_e5, vCallM_e6, vCallMV_e6, vCallS_e6, vCallSV_e6, vCallM_e7, vCallMV_e7, vCallS_e7, vCallSV_e7, vBad_e, vStrVal_e, vStrCod_e, vForm_e, vCallT_e0, vCallT_e1, vCallT_e2, vCopy_e, rf_0_0, rf_0_1, rf_0_2, rf_0_3, rf_0_4, rf_0_7, rf_0_10, rf_0_11, rf_0_12, rf_0_13, rf_0_14, rf_0_15, rf_0_16, rf_1_0, rf_3_0, rf_3_1, rf_6_0, rf_6_1, rf_9_0, rf_9_1, rf_9_3, rf_13_0, rf_13_1, rf_13_2, rf_16_0, rf_16_1, rf_16_2, rf_16_3, rf_21_0, rf_21_1, rf_21_2, rf_21_3, rf_26_0, rf_26_1, rf_26_2, rf_26_3, rf_26_4, rf_26_5, rf_26_6, rf_31_0, rf_31_2, rf_31_5, rf_31_6, rf_36_0, rf_36_1, rf_36_2, rf_36_3, rf_39_0, rf_39_1, rf_39_2, rf_41_0, rf_41_1, rf_41_2, rf_41_3, rf_5000_1, rf_5000_2, rf_5000_3, rf_5000_4, rf_5000_5, rf_5000_15, rf_5000_16, rf_5000_18, rf_5000_19, rf_5000_20, rf_5000_21, rf_5000_22, rf_5000_23, rf_5000_24, rf_5000_25, rf_5000_26, rf_5000_27, rf_5000_36, rf_5000_37, rf_5000_40, rf_5000_41, rf_5000_42, rf_5000_43, rf_5000_44, rf_5000_45, rf_5000_47, rf_5000_52, rf_5000_54, rf_5000_55, rf_100_0, rf_100_1, rf_103_0, rf_103_1, rf_106_0, rf_106_1, rf_109_0, rf_109_1, al_2, al_4, al_5, al_7, al_8, al_10, al_11, al_12, al_14, al_15, al_17, al_18, al_19, al_20, al_22, al_23, al_24, al_25, al_27, al_28, al_29, al_30, al_32, al_33, al_34, al_35, al_37, al_38, al_40, al_42, al_5001, al_5002, al_5003, al_5004, al_5005, al_5006, al_5007, al_5008, al_5009, al_5010, al_5011, al_5012, al_5013, al_5014, al_5015, al_5016, al_5017, al_5018, al_5019, al_5020, al_5021, al_5022, al_5023, al_5024, al_5025, al_5026, al_9000, al_101, al_102, al_104, al_105, al_107, al_108, al_110, al_111, vcs_e, lg_c0, lg_cs, lg_nil, set_c0, set_cs, okst_0, okst_s, acok_n, acok_c, List.contains_nil, List.contains_cons, Bool.or_false, Bool.false_or, Bool.false_eq_true, if_false, if_true, ite_self, ne_eq, true_and, and_true, not_false_eq_true, not_true_eq_false, false_imp_iff, true_imp_iff, Nat.ble_eq, Bool.and_eq_true, reduceCtorEq, or_false, false_or, or_true, true_or, false_and, and_false, and_self, Int.reduceLE, Int.reduceAdd, Int.reduceSub, Int.reduceMul, Int.reduceNeg, Int.reduceLT, Int.reduceEq, Int.reduceNe, Nat.reduceBEq, Nat.reduceBNe, Nat.reduceEqDiff, amCmp_in, amCmp_lt, amCmp_le, amCmp_gt, amCmp_ge, amCmp_eq, amCmp_ne, Nat.reduceLeDiff, Nat.reduceSub, Bool.and_true, Bool.true_and, Bool.and_self, Bool.or_true, Bool.true_or, isRf_3, isRf_4, isRf_5, isRf_8, isRf_9, isRf_10, isRf_11, isRf_15, isRf_16, isRf_17, isRf_18, isRf_19, isRf_20, isRf_21, isRf_22, isRf_23, isRf_24, isRf_25, isRf_26, isRf_27, isRf_28, k_X11_perform_0, k_X11_perform_1, k_X11_perform_4, k_X11_perform_5, k_X11_perform_8, k_X11_perform_11, k_X11_perform_12, k_X11_perform_15, k_X11_perform_18, k_X11_perform_21, k_X11_perform_22, k_X11_perform_23, k_X11_perform_24, k_X11_perform_25, k_X11_perform_26, k_X11_perform_27, k_X11_perform_30, k_X11_perform_31, k_X11_perform_34, k_X11_perform_37, k_X11_perform_38, k_X11_perform_39, k_X11_perform_40, k_X11_perform_41, k_X11_perform_44, k_X11_perform_47, k_X11_perform_50, k_X11_perform_51, k_X11_perform_52, k_X11_perform_53, k_X11_perform_56, k_X11_perform_57, k_X11_perform_60, k_X11_perform_63, k_X11_perform_64, k_X11_perform_67, k_X11_perform_68, k_X11_perform_69, k_X11_perform_70, k_X11_perform_73, k_X11_perform_76, k_X11_perform_77, k_X11_perform_80, k_X11_perform_81, k_X11_perform_82, k_X11_perform_83, k_X11_perform_86, k_X11_perform_87, k_X11_perform_88, k_X11_perform_91, k_X11_perform_92, k_X11_perform_95, k_X11_perform_96, k_X11_perform_99, k_X11_perform_101, k_X11_perform_102, k_X11_perform_105, k_X11_perform_106, k_X11_perform_108, k_X11_perform_109, k_X11_perform_112, k_X11_perform_115, k_X11_perform_118, k_X11_perform_121, k_X11_perform_122, k_X11_perform_123, k_X11_perform_124, k_X11_perform_125, k_X11_perform_128, k_X11_perform_131, k_X11_perform_134, k_X11_perform_137, k_X11_perform_138, k_X11_perform_141, k_X11_perform_142, k_X11_perform_145, w_X11_canStep_e, w_X11_doQuietStep_e, w_X5_remember_e, w_X5_write_e, w_X6_isTold_e, w_X7_part_e, w_X7_steps_e, w_X9_outBits_e, w_X9_show_e, up_s, up_nj, up_na, up_up, savR_o, cpy_o, fillm_o, setAud_o, setv_o, setv_s, Int.reduceNe, Int.reduceEq, Int.reduceLT, Int.reduceAdd, not_false_eq_true, ne_eq, or_true, true_or, r13, r14, r15, rmM_e, pc2, pc3, o18, o20, o14, z0, e1, e2, SP_pval hP]
    rw [if_pos cc.1]
    by_cases hlt : (k : Int) < σ 15 s
    · have hj : ∀ j, 0 ≤ j → j ≤ 2 → InR (σ 14 (s * 48 + (k : Int) * 3 + j)) := fun j j0 j1 => by
        have := hrow ((k : Int) * 3 + j) cc.1.1 cc.1.2 (by omega) (by omega)
        rw [← Int.add_assoc] at this
        exact this
      have g0 := hj 0 (by decide) (by decide)
      rw [Int.add_zero] at g0
      have g1 := hj 1 (by decide) (by decide)
      have g2 := hj 2 (by decide) (by decide)
      have fl : ¬ csP σ' s k 16 → Q (0, (k : Int)) σ' := fun g => h2 cc k σ' hpf hA hx' (Or.inl ⟨hlt, g⟩)
      have nxt : csP σ' s k 16 → ∀ τ (u3 u4 : AV), stS σ' s k τ → ∃ k', k' < n ∧ inv_pfm σ s k' 25 [(27, 0), (0, s), (0, (k : Int) + 1), u3, u4] [] τ := fun g τ u3 u4 gs => by
        obtain ⟨x1, x2, x3, x4⟩ := stS_x hx' (by omega) g gs
        exact ⟨n - 1, by omega, rfl, rfl, cc, k + 1, u3, u4, rfl, by omega, ⟨σ', hpf, g, gs⟩, x1, AF_tr hA x2, by omega⟩
      have es : ∀ τ, stS σ' s k τ ↔ (if σ 14 (s * 48 + (k : Int) * 3) = 0 then evS σ' (σ 14 (s * 48 + (k : Int) * 3 + 1)) τ else τ = qsM (rmM σ') s k 16) := fun τ => by unfold stS; rw [r14]
      have ec : csP σ' s k 16 → if σ 14 (s * 48 + (k : Int) * 3) = 0 then (0 ≤ σ 14 (s * 48 + (k : Int) * 3 + 1) ∧ σ 14 (s * 48 + (k : Int) * 3 + 1) < pcnt σ' 6 1 ∧ σ' 16 6 < 999) else 0 ≤ σ 14 (s * 48 + (k : Int) * 3 + 1) ∧ σ 14 (s * 48 + (k : Int) * 3 + 1) < 6 := fun g => by
        unfold csP at g
        rw [r14] at g
        by_cases k0 : σ 14 (s * 48 + (k : Int) * 3) = 0
        · rw [if_pos k0] at g ⊢; exact g
        · rw [if_neg k0] at g ⊢
          split at g
          · exact ⟨g.1.1, by have := g.1.2; omega⟩
          · exact ⟨g.1, by omega⟩
      generalize hd0 : σ 14 (s * 48 + (k : Int) * 3) = d0 at *
      generalize hd1 : σ 14 (s * 48 + (k : Int) * 3 + 1) = d1 at *
      by_cases cs : csP σ' s k 16
      · have ecs := ec cs
        have nx := nxt cs
        by_cases k0 : d0 = 0
        · rw [if_pos k0] at ecs
          simp only [es, if_pos k0] at nx
          have h9p := h9 d1
          obtain ⟨mb1, mb2⟩ := evMv_b hst h9p
          have f1 := (SP_pFl hP hst d1).1
          have key : ∀ υ, shP (rmM σ') υ 16 d1 → pcnt υ 6 2 = pcnt σ' 6 2 ∧ outB (υ 30) (pcnt σ' 6 2).toNat = evOb σ' d1 ∧ (∀ i, 0 ≤ i → i < pcnt σ' 6 2 → InR (υ 30 i)) ∧ υ 31 1 = σ' 31 1 ∧ (∀ u3 u4, ∃ k', k' < n ∧ inv_pfm σ s k' 25 [(27, 0), (0, s), (0, (k : Int) + 1), u3, u4] [] (wrM υ d1 (evMv σ' d1) (evOb σ' d1))) := fun υ hυ => by
            obtain ⟨z1, z2, z3, z4, z5⟩ := sh_post hst h9p hυ
            exact ⟨z1, z2, z3, z4, fun u3 u4 => nx _ u3 u4 ⟨υ, hυ, rfl⟩⟩
          rw [show sumC (pFl (rmM σ') 16 d1) (pcnt σ' 6 2).toNat = evMv σ' d1 by rw [f1]]
          repeat' (first | assumption | apply And.intro | intro _)
          all_goals first | omega | exact absurd trivial (by assumption) | exact isA16 | exact isP6 | exact absurd cs (by assumption) | skip
          all_goals
            obtain ⟨z1, z2, z3, z4, z6⟩ := key _ ‹shP (rmM σ') _ 16 d1›
            first
              | omega
              | (rw [z1]; omega)
              | exact (z3 _ (by assumption) (by rw [← z1]; assumption)).1
              | exact (z3 _ (by assumption) (by rw [← z1]; assumption)).2
              | (rw [z1, z2]; omega)
              | (rw [z1, z2, wrM_e]; exact z6 _ _)
        · rw [if_neg k0] at ecs
          simp only [es, if_neg k0] at nx
          have i9 := fun u3 u4 => nx _ u3 u4 rfl
          repeat' (first | assumption | apply And.intro | intro _)
          all_goals first | omega | exact absurd trivial (by assumption) | exact isA16 | exact isP6 | exact absurd cs (by assumption) | exact i9 _ _
      · have hh := fl cs
        repeat' (first | assumption | apply And.intro | intro _)
        all_goals first | omega | exact absurd trivial (by assumption) | exact isA16 | exact isP6 | exact absurd (by assumption) cs | exact hh
    · have hh := h2 cc k σ' hpf hA hx' (Or.inr (by omega))
      rw [show σ 15 s = (k : Int) by omega]
      repeat' (first | assumption | apply And.intro | intro _)
      all_goals first | omega | exact absurd trivial (by assumption) | exact hh
  · change vcs _ _ _ _ 90 0 [(27, 0), (0, s), (6, 0), (6, 0), (6, 0)] [] σ
    simp only [↓reduceIte, inR_0, inR_1, inR_m, vSw2_e, swP_n, swP_c, vI_e, vL_e, vNull_e, vIload_e, vLload_e, vAload_e, vIstore_e, vLstore_e, vAstore_e, vIinc_e, vIadd_e, vIsub_e, vImul_e, vIand_e, vIor_e, vIxor_e, vIshl_e, vIshr_e, vIushr_e, vIdiv_e, vIrem_e, vLadd_e, vLsub_e, vLmul_e, vLand_e, vLor_e, vLxor_e, vLdiv_e, vLrem_e, vLushr_e, vLshl_e, vLcmp_e, vIneg_e, vI2l_e, vL2i_e, vI2b_e, vI2c_e, vDup_e, vPop_e, vDup2_e, vGoto_e, vIcEq_e, vIfEq_e, vIcNe_e, vIfNe_e, vIcLt_e, vIfLt_e, vIcGe_e, vIfGe_e, vIcGt_e, vIfGt_e, vIcLe_e, vIfLe_e, vNonnull_e, vSw_e, vGetI_e, vGetL_e, vGetR_e, vPutI_e, vPutZ_e, vPutL_e, vPutR_e, vIald_e, vIald_s, vLald_e, vBald_e, vBald_s, vAald_e, vIast_e, vLast_e, vBast_e, vAast_e, vAlen_e8, vAlen_e9, vAlen_e10, vAlen_e11, vAlen_e5, vAlen_e3, vGets_e, vCompact_e, vLdcS_e, vIret_e, vZret_e, vCret_e, vBret_e, vLret_e, vVret_e, vAret_e, vCallM_e0, vCallMV_e0, vCallS_e0, vCallSV_e0, vCallM_e1, vCallMV_e1, vCallS_e1, vCallSV_e1, vCallM_e2, vCallMV_e2, vCallS_e2, vCallSV_e2, vCallM_e3, vCallMV_e3, vCallS_e3, vCallSV_e3, vCallM_e4, vCallMV_e4, vCallS_e4, vCallSV_e4, vCallM_e5, vCallMV_e5, vCallS_e5, vCallSV_e5, vCallM_e6, vCallMV_e6, vCallS_e6, vCallSV_e6, vCallM_e7, vCallMV_e7, vCallS_e7, vCallSV_e7, vBad_e, vStrVal_e, vStrCod_e, vForm_e, vCallT_e0, vCallT_e1, vCallT_e2, vCopy_e, rf_0_0, rf_0_1, rf_0_2, rf_0_3, rf_0_4, rf_0_7, rf_0_10, rf_0_11, rf_0_12, rf_0_13, rf_0_14, rf_0_15, rf_0_16, rf_1_0, rf_3_0, rf_3_1, rf_6_0, rf_6_1, rf_9_0, rf_9_1, rf_9_3, rf_13_0, rf_13_1, rf_13_2, rf_16_0, rf_16_1, rf_16_2, rf_16_3, rf_21_0, rf_21_1, rf_21_2, rf_21_3, rf_26_0, rf_26_1, rf_26_2, rf_26_3, rf_26_4, rf_26_5, rf_26_6, rf_31_0, rf_31_2, rf_31_5, rf_31_6, rf_36_0, rf_36_1, rf_36_2, rf_36_3, rf_39_0, rf_39_1, rf_39_2, rf_41_0, rf_41_1, rf_41_2, rf_41_3, rf_5000_1, rf_5000_2, rf_5000_3, rf_5000_4, rf_5000_5, rf_5000_15, rf_5000_16, rf_5000_18, rf_5000_19, rf_5000_20, rf_5000_21, rf_5000_22, rf_5000_23, rf_5000_24, rf_5000_25, rf_5000_26, rf_5000_27, rf_5000_36, rf_5000_37, rf_5000_40, rf_5000_41, rf_5000_42, rf_5000_43, rf_5000_44, rf_5000_45, rf_5000_47, rf_5000_52, rf_5000_54, rf_5000_55, rf_100_0, rf_100_1, rf_103_0, rf_103_1, rf_106_0, rf_106_1, rf_109_0, rf_109_1, al_2, al_4, al_5, al_7, al_8, al_10, al_11, al_12, al_14, al_15, al_17, al_18, al_19, al_20, al_22, al_23, al_24, al_25, al_27, al_28, al_29, al_30, al_32, al_33, al_34, al_35, al_37, al_38, al_40, al_42, al_5001, al_5002, al_5003, al_5004, al_5005, al_5006, al_5007, al_5008, al_5009, al_5010, al_5011, al_5012, al_5013, al_5014, al_5015, al_5016, al_5017, al_5018, al_5019, al_5020, al_5021, al_5022, al_5023, al_5024, al_5025, al_5026, al_9000, al_101, al_102, al_104, al_105, al_107, al_108, al_110, al_111, vcs_e, lg_c0, lg_cs, lg_nil, set_c0, set_cs, okst_0, okst_s, acok_n, acok_c, List.contains_nil, List.contains_cons, Bool.or_false, Bool.false_or, Bool.false_eq_true, if_false, if_true, ite_self, ne_eq, true_and, and_true, not_false_eq_true, not_true_eq_false, false_imp_iff, true_imp_iff, Nat.ble_eq, Bool.and_eq_true, reduceCtorEq, or_false, false_or, or_true, true_or, false_and, and_false, and_self, Int.reduceLE, Int.reduceAdd, Int.reduceSub, Int.reduceMul, Int.reduceNeg, Int.reduceLT, Int.reduceEq, Int.reduceNe, Nat.reduceBEq, Nat.reduceBNe, Nat.reduceEqDiff, amCmp_in, amCmp_lt, amCmp_le, amCmp_gt, amCmp_ge, amCmp_eq, amCmp_ne, Nat.reduceLeDiff, Nat.reduceSub, Bool.and_true, Bool.true_and, Bool.and_self, Bool.or_true, Bool.true_or, isRf_3, isRf_4, isRf_5, isRf_8, isRf_9, isRf_10, isRf_11, isRf_15, isRf_16, isRf_17, isRf_18, isRf_19, isRf_20, isRf_21, isRf_22, isRf_23, isRf_24, isRf_25, isRf_26, isRf_27, isRf_28, k_X11_perform_0, k_X11_perform_1, k_X11_perform_4, k_X11_perform_5, k_X11_perform_8, k_X11_perform_11, k_X11_perform_12, k_X11_perform_15, k_X11_perform_18, k_X11_perform_21, k_X11_perform_22, k_X11_perform_23, k_X11_perform_24, k_X11_perform_25, k_X11_perform_26, k_X11_perform_27, k_X11_perform_30, k_X11_perform_31, k_X11_perform_34, k_X11_perform_37, k_X11_perform_38, k_X11_perform_39, k_X11_perform_40, k_X11_perform_41, k_X11_perform_44, k_X11_perform_47, k_X11_perform_50, k_X11_perform_51, k_X11_perform_52, k_X11_perform_53, k_X11_perform_56, k_X11_perform_57, k_X11_perform_60, k_X11_perform_63, k_X11_perform_64, k_X11_perform_67, k_X11_perform_68, k_X11_perform_69, k_X11_perform_70, k_X11_perform_73, k_X11_perform_76, k_X11_perform_77, k_X11_perform_80, k_X11_perform_81, k_X11_perform_82, k_X11_perform_83, k_X11_perform_86, k_X11_perform_87, k_X11_perform_88, k_X11_perform_91, k_X11_perform_92, k_X11_perform_95, k_X11_perform_96, k_X11_perform_99, k_X11_perform_101, k_X11_perform_102, k_X11_perform_105, k_X11_perform_106, k_X11_perform_108, k_X11_perform_109, k_X11_perform_112, k_X11_perform_115, k_X11_perform_118, k_X11_perform_121, k_X11_perform_122, k_X11_perform_123, k_X11_perform_124, k_X11_perform_125, k_X11_perform_128, k_X11_perform_131, k_X11_perform_134, k_X11_perform_137, k_X11_perform_138, k_X11_perform_141, k_X11_perform_142, k_X11_perform_145, w_X11_canStep_e, w_X11_doQuietStep_e, w_X5_remember_e, w_X5_write_e, w_X6_isTold_e, w_X7_part_e, w_X7_steps_e, w_X9_outBits_e, w_X9_show_e]
    by_cases d : 0 ≤ s ∧ s < σ 13 3
    · have q3 := q2 s d.1 d.2
      rw [if_pos d]
      by_cases d2 : 0 < pcnt σ 6 2
      · rw [if_pos d2]
        have i9 : ∃ k', inv_pfm σ s k' 25 [(27, 0), (0, s), (0, 0), (6, 0), (6, 0)] [] σ := ⟨(σ 15 s).toNat, rfl, rfl, ⟨d, d2⟩, 0, _, _, rfl, by omega, rfl, hx, AF_rf σ, by omega⟩
        repeat' (first | assumption | apply And.intro | intro _)
        all_goals first | omega | exact absurd trivial (by assumption) | exact isP6 | exact i9
      · rw [if_neg d2]
        have hh := h1 (fun q => d2 q.2)
        repeat' (first | assumption | apply And.intro | intro _)
        all_goals first | omega | exact absurd trivial (by assumption) | exact isP6 | exact hh
    · rw [if_neg d]
      have hh := h1 (fun q => d q.1)
      repeat' (first | assumption | apply And.intro | intro _)
      all_goals first | omega | exact absurd trivial (by assumption) | exact isP6 | exact hh
