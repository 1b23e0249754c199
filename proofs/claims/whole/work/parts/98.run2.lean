/-! ArmchairHouse: RUN -/

def a_X11_run : AC := [(0, vAload 0 1), (1, vGetR TT 27 7 23 4), (4, vIload 1 5), (5, vCallM w_X7_steps 23 1 8), (8, vIfEq 30 11), (11, vAload 0 12), (12, vGetR TT 27 2 22 15), (15, vCallM w_X6_isTold 22 0 18), (18, vIfEq 30 21), (21, vIload 2 22), (22, vIfLt 30 25), (25, vIload 2 26), (26, vI 1 27), (27, vIcLe 34 30), (30, vI (-1000000) 33), (33, vIret), (34, vAload 0 35), (35, vGetR TT 27 11 16 38), (38, vAload 0 39), (39, vGetR TT 27 10 16 42), (42, vCallMV w_X0_copyFrom 16 1 45), (45, vI 0 46), (46, vIstore 3 47), (47, vI 0 48), (48, vIstore 4 50), (50, vIload 4 52), (52, vAload 0 53), (53, vGetR TT 27 7 23 56), (56, vIload 1 57), (57, vCallM w_X7_steps 23 1 60), (60, vIcGe 147 63), (63, vAload 0 64), (64, vIload 1 65), (65, vIload 4 67), (67, vAload 0 68), (68, vGetR TT 27 11 16 71), (71, vCallM w_X11_canStep 27 3 74), (74, vIfNe 88 77), (77, vIload 2 78), (78, vIfNe 86 81), (81, vIload 4 83), (83, vGoto 87), (86, vIload 3 87), (87, vIret), (88, vAload 0 89), (89, vGetR TT 27 7 23 92), (92, vIload 1 93), (93, vIload 4 95), (95, vI 0 96), (96, vCallM w_X7_part 23 3 99), (99, vIfNe 130 102), (102, vIload 3 103), (103, vAload 0 104), (104, vGetR TT 27 12 25 107), (107, vAload 0 108), (108, vGetR TT 27 11 16 111), (111, vAload 0 112), (112, vGetR TT 27 7 23 115), (115, vIload 1 116), (116, vIload 4 118), (118, vI 1 119), (119, vCallM w_X7_part 23 3 122), (122, vCallM w_X9_show 25 2 125), (125, vIadd 126), (126, vIstore 3 127), (127, vGoto 141), (130, vAload 0 131), (131, vIload 1 132), (132, vIload 4 134), (134, vAload 0 135), (135, vGetR TT 27 11 16 138), (138, vCallMV w_X11_doQuietStep 27 3 141), (141, vIinc 4 1 144), (144, vGoto 50), (147, vIload 2 148), (148, vIfNe 155 151), (151, vI (-1) 152), (152, vGoto 156), (155, vIload 3 156), (156, vIret)]
theorem k_X11_run_0 : look a_X11_run 0 = vAload 0 1 := rfl
theorem k_X11_run_1 : look a_X11_run 1 = vGetR TT 27 7 23 4 := rfl
theorem k_X11_run_4 : look a_X11_run 4 = vIload 1 5 := rfl
theorem k_X11_run_5 : look a_X11_run 5 = vCallM w_X7_steps 23 1 8 := rfl
theorem k_X11_run_8 : look a_X11_run 8 = vIfEq 30 11 := rfl
theorem k_X11_run_11 : look a_X11_run 11 = vAload 0 12 := rfl
theorem k_X11_run_12 : look a_X11_run 12 = vGetR TT 27 2 22 15 := rfl
theorem k_X11_run_15 : look a_X11_run 15 = vCallM w_X6_isTold 22 0 18 := rfl
theorem k_X11_run_18 : look a_X11_run 18 = vIfEq 30 21 := rfl
theorem k_X11_run_21 : look a_X11_run 21 = vIload 2 22 := rfl
theorem k_X11_run_22 : look a_X11_run 22 = vIfLt 30 25 := rfl
theorem k_X11_run_25 : look a_X11_run 25 = vIload 2 26 := rfl
theorem k_X11_run_26 : look a_X11_run 26 = vI 1 27 := rfl
theorem k_X11_run_27 : look a_X11_run 27 = vIcLe 34 30 := rfl
theorem k_X11_run_30 : look a_X11_run 30 = vI (-1000000) 33 := rfl
theorem k_X11_run_33 : look a_X11_run 33 = vIret := rfl
theorem k_X11_run_34 : look a_X11_run 34 = vAload 0 35 := rfl
theorem k_X11_run_35 : look a_X11_run 35 = vGetR TT 27 11 16 38 := rfl
theorem k_X11_run_38 : look a_X11_run 38 = vAload 0 39 := rfl
theorem k_X11_run_39 : look a_X11_run 39 = vGetR TT 27 10 16 42 := rfl
theorem k_X11_run_42 : look a_X11_run 42 = vCallMV w_X0_copyFrom 16 1 45 := rfl
theorem k_X11_run_45 : look a_X11_run 45 = vI 0 46 := rfl
theorem k_X11_run_46 : look a_X11_run 46 = vIstore 3 47 := rfl
theorem k_X11_run_47 : look a_X11_run 47 = vI 0 48 := rfl
theorem k_X11_run_48 : look a_X11_run 48 = vIstore 4 50 := rfl
theorem k_X11_run_50 : look a_X11_run 50 = vIload 4 52 := rfl
theorem k_X11_run_52 : look a_X11_run 52 = vAload 0 53 := rfl
theorem k_X11_run_53 : look a_X11_run 53 = vGetR TT 27 7 23 56 := rfl
theorem k_X11_run_56 : look a_X11_run 56 = vIload 1 57 := rfl
theorem k_X11_run_57 : look a_X11_run 57 = vCallM w_X7_steps 23 1 60 := rfl
theorem k_X11_run_60 : look a_X11_run 60 = vIcGe 147 63 := rfl
theorem k_X11_run_63 : look a_X11_run 63 = vAload 0 64 := rfl
theorem k_X11_run_64 : look a_X11_run 64 = vIload 1 65 := rfl
theorem k_X11_run_65 : look a_X11_run 65 = vIload 4 67 := rfl
theorem k_X11_run_67 : look a_X11_run 67 = vAload 0 68 := rfl
theorem k_X11_run_68 : look a_X11_run 68 = vGetR TT 27 11 16 71 := rfl
theorem k_X11_run_71 : look a_X11_run 71 = vCallM w_X11_canStep 27 3 74 := rfl
theorem k_X11_run_74 : look a_X11_run 74 = vIfNe 88 77 := rfl
theorem k_X11_run_77 : look a_X11_run 77 = vIload 2 78 := rfl
theorem k_X11_run_78 : look a_X11_run 78 = vIfNe 86 81 := rfl
theorem k_X11_run_81 : look a_X11_run 81 = vIload 4 83 := rfl
theorem k_X11_run_83 : look a_X11_run 83 = vGoto 87 := rfl
theorem k_X11_run_86 : look a_X11_run 86 = vIload 3 87 := rfl
theorem k_X11_run_87 : look a_X11_run 87 = vIret := rfl
theorem k_X11_run_88 : look a_X11_run 88 = vAload 0 89 := rfl
theorem k_X11_run_89 : look a_X11_run 89 = vGetR TT 27 7 23 92 := rfl
theorem k_X11_run_92 : look a_X11_run 92 = vIload 1 93 := rfl
theorem k_X11_run_93 : look a_X11_run 93 = vIload 4 95 := rfl
theorem k_X11_run_95 : look a_X11_run 95 = vI 0 96 := rfl
theorem k_X11_run_96 : look a_X11_run 96 = vCallM w_X7_part 23 3 99 := rfl
theorem k_X11_run_99 : look a_X11_run 99 = vIfNe 130 102 := rfl
theorem k_X11_run_102 : look a_X11_run 102 = vIload 3 103 := rfl
theorem k_X11_run_103 : look a_X11_run 103 = vAload 0 104 := rfl
theorem k_X11_run_104 : look a_X11_run 104 = vGetR TT 27 12 25 107 := rfl
theorem k_X11_run_107 : look a_X11_run 107 = vAload 0 108 := rfl
theorem k_X11_run_108 : look a_X11_run 108 = vGetR TT 27 11 16 111 := rfl
theorem k_X11_run_111 : look a_X11_run 111 = vAload 0 112 := rfl
theorem k_X11_run_112 : look a_X11_run 112 = vGetR TT 27 7 23 115 := rfl
theorem k_X11_run_115 : look a_X11_run 115 = vIload 1 116 := rfl
theorem k_X11_run_116 : look a_X11_run 116 = vIload 4 118 := rfl
theorem k_X11_run_118 : look a_X11_run 118 = vI 1 119 := rfl
theorem k_X11_run_119 : look a_X11_run 119 = vCallM w_X7_part 23 3 122 := rfl
theorem k_X11_run_122 : look a_X11_run 122 = vCallM w_X9_show 25 2 125 := rfl
theorem k_X11_run_125 : look a_X11_run 125 = vIadd 126 := rfl
theorem k_X11_run_126 : look a_X11_run 126 = vIstore 3 127 := rfl
theorem k_X11_run_127 : look a_X11_run 127 = vGoto 141 := rfl
theorem k_X11_run_130 : look a_X11_run 130 = vAload 0 131 := rfl
theorem k_X11_run_131 : look a_X11_run 131 = vIload 1 132 := rfl
theorem k_X11_run_132 : look a_X11_run 132 = vIload 4 134 := rfl
theorem k_X11_run_134 : look a_X11_run 134 = vAload 0 135 := rfl
theorem k_X11_run_135 : look a_X11_run 135 = vGetR TT 27 11 16 138 := rfl
theorem k_X11_run_138 : look a_X11_run 138 = vCallMV w_X11_doQuietStep 27 3 141 := rfl
theorem k_X11_run_141 : look a_X11_run 141 = vIinc 4 1 144 := rfl
theorem k_X11_run_144 : look a_X11_run 144 = vGoto 50 := rfl
theorem k_X11_run_147 : look a_X11_run 147 = vIload 2 148 := rfl
theorem k_X11_run_148 : look a_X11_run 148 = vIfNe 155 151 := rfl
theorem k_X11_run_151 : look a_X11_run 151 = vI (-1) 152 := rfl
theorem k_X11_run_152 : look a_X11_run 152 = vGoto 156 := rfl
theorem k_X11_run_155 : look a_X11_run 155 = vIload 3 156 := rfl
theorem k_X11_run_156 : look a_X11_run 156 = vIret := rfl
theorem o_X11_run {X : amX} (e1 : XT X = TT) (e2 : XD X = 7) (hB : amB X RX11 cX11_run (some .int) 5) : ∀ pc, amOK X pc (look a_X11_run pc) := by
  have hT : amTok (XT X) := e1 ▸ TT_ok
  refine look_ok ?_
  unfold a_X11_run
  refine fc (ok_aload_n hB dX11_run_0) ?_
  refine fc (okt_getR e1 hB hT fl_X11_51 rfl af_11_7 at_11_7 (by decide) dX11_run_1) ?_
  refine fc (ok_iload_n hB dX11_run_4) ?_
  refine fc (ok_callM hB hT (e1 ▸ s_X7_steps) lk_X11_270 (by rw [e2]; decide) (c := 7) rfl rfl rfl wd_943 wd_944 dX11_run_5) ?_
  refine fc (ok_if_eq hB (t := 30) (by decide) dX11_run_8) ?_
  refine fc (ok_aload_n hB dX11_run_11) ?_
  refine fc (okt_getR e1 hB hT fl_X11_23 rfl af_11_2 at_11_2 (by decide) dX11_run_12) ?_
  refine fc (ok_callM hB hT (e1 ▸ s_X6_isTold) lk_X11_164 (by rw [e2]; decide) (c := 6) rfl rfl rfl wd_717 wd_718 dX11_run_15) ?_
  refine fc (ok_if_eq hB (t := 30) (by decide) dX11_run_18) ?_
  refine fc (ok_iload_n hB dX11_run_21) ?_
  refine fc (ok_if_lt hB (t := 30) (by decide) dX11_run_22) ?_
  refine fc (ok_iload_n hB dX11_run_25) ?_
  refine fc (ok_iconst hB dX11_run_26) ?_
  refine fc (ok_icmp_le hB (t := 34) (by decide) dX11_run_27) ?_
  refine fc (ok_ldcw hB wd_946 rfl dX11_run_30) ?_
  refine fc (ok_iret hB dX11_run_33) ?_
  refine fc (ok_aload_n hB dX11_run_34) ?_
  refine fc (okt_getR e1 hB hT fl_X11_69 rfl af_11_11 at_11_11 (by decide) dX11_run_35) ?_
  refine fc (ok_aload_n hB dX11_run_38) ?_
  refine fc (okt_getR e1 hB hT fl_X11_65 rfl af_11_10 at_11_10 (by decide) dX11_run_39) ?_
  refine fc (ok_callMV hB hT (e1 ▸ s_X0_copyFrom) lk_X11_277 (by rw [e2]; decide) (c := 0) rfl rfl rfl wd_956 wd_957 dX11_run_42) ?_
  refine fc (ok_iconst hB dX11_run_45) ?_
  refine fc (ok_istore_n hB (by decide) dX11_run_46) ?_
  refine fc (ok_iconst hB dX11_run_47) ?_
  refine fc (ok_istore hB (by decide) dX11_run_48) ?_
  refine fc (ok_iload hB dX11_run_50) ?_
  refine fc (ok_aload_n hB dX11_run_52) ?_
  refine fc (okt_getR e1 hB hT fl_X11_51 rfl af_11_7 at_11_7 (by decide) dX11_run_53) ?_
  refine fc (ok_iload_n hB dX11_run_56) ?_
  refine fc (ok_callM hB hT (e1 ▸ s_X7_steps) lk_X11_270 (by rw [e2]; decide) (c := 7) rfl rfl rfl wd_943 wd_944 dX11_run_57) ?_
  refine fc (ok_icmp_ge hB (t := 147) (by decide) dX11_run_60) ?_
  refine fc (ok_aload_n hB dX11_run_63) ?_
  refine fc (ok_iload_n hB dX11_run_64) ?_
  refine fc (ok_iload hB dX11_run_65) ?_
  refine fc (ok_aload_n hB dX11_run_67) ?_
  refine fc (okt_getR e1 hB hT fl_X11_69 rfl af_11_11 at_11_11 (by decide) dX11_run_68) ?_
  refine fc (ok_callM hB hT (e1 ▸ s_X11_canStep) lk_X11_279 (by rw [e2]; decide) (c := 11) rfl rfl rfl wd_961 sl_X11_canStep dX11_run_71) ?_
  refine fc (ok_if_ne hB (t := 88) (by decide) dX11_run_74) ?_
  refine fc (ok_iload_n hB dX11_run_77) ?_
  refine fc (ok_if_ne hB (t := 86) (by decide) dX11_run_78) ?_
  refine fc (ok_iload hB dX11_run_81) ?_
  refine fc (ok_goto hB (t := 87) (by decide) dX11_run_83) ?_
  refine fc (ok_iload_n hB dX11_run_86) ?_
  refine fc (ok_iret hB dX11_run_87) ?_
  refine fc (ok_aload_n hB dX11_run_88) ?_
  refine fc (okt_getR e1 hB hT fl_X11_51 rfl af_11_7 at_11_7 (by decide) dX11_run_89) ?_
  refine fc (ok_iload_n hB dX11_run_92) ?_
  refine fc (ok_iload hB dX11_run_93) ?_
  refine fc (ok_iconst hB dX11_run_95) ?_
  refine fc (ok_callM hB hT (e1 ▸ s_X7_part) lk_X11_274 (by rw [e2]; decide) (c := 7) rfl rfl rfl wd_948 wd_949 dX11_run_96) ?_
  refine fc (ok_if_ne hB (t := 130) (by decide) dX11_run_99) ?_
  refine fc (ok_iload_n hB dX11_run_102) ?_
  refine fc (ok_aload_n hB dX11_run_103) ?_
  refine fc (okt_getR e1 hB hT fl_X11_77 rfl af_11_12 at_11_12 (by decide) dX11_run_104) ?_
  refine fc (ok_aload_n hB dX11_run_107) ?_
  refine fc (okt_getR e1 hB hT fl_X11_69 rfl af_11_11 at_11_11 (by decide) dX11_run_108) ?_
  refine fc (ok_aload_n hB dX11_run_111) ?_
  refine fc (okt_getR e1 hB hT fl_X11_51 rfl af_11_7 at_11_7 (by decide) dX11_run_112) ?_
  refine fc (ok_iload_n hB dX11_run_115) ?_
  refine fc (ok_iload hB dX11_run_116) ?_
  refine fc (ok_iconst hB dX11_run_118) ?_
  refine fc (ok_callM hB hT (e1 ▸ s_X7_part) lk_X11_274 (by rw [e2]; decide) (c := 7) rfl rfl rfl wd_948 wd_949 dX11_run_119) ?_
  refine fc (ok_callM hB hT (e1 ▸ s_X9_show) lk_X11_221 (by rw [e2]; decide) (c := 9) rfl rfl rfl wd_772 wd_773 dX11_run_122) ?_
  refine fc (ok_iadd hB dX11_run_125) ?_
  refine fc (ok_istore_n hB (by decide) dX11_run_126) ?_
  refine fc (ok_goto hB (t := 141) (by decide) dX11_run_127) ?_
  refine fc (ok_aload_n hB dX11_run_130) ?_
  refine fc (ok_iload_n hB dX11_run_131) ?_
  refine fc (ok_iload hB dX11_run_132) ?_
  refine fc (ok_aload_n hB dX11_run_134) ?_
  refine fc (okt_getR e1 hB hT fl_X11_69 rfl af_11_11 at_11_11 (by decide) dX11_run_135) ?_
  refine fc (ok_callMV hB hT (e1 ▸ s_X11_doQuietStep) lk_X11_283 (by rw [e2]; decide) (c := 11) rfl rfl rfl wd_965 sl_X11_doQuietStep dX11_run_138) ?_
  refine fc (ok_iinc hB (by decide) dX11_run_141) ?_
  refine fc (ok_goto hB (t := 50) (by decide) dX11_run_144) ?_
  refine fc (ok_iload_n hB dX11_run_147) ?_
  refine fc (ok_if_ne hB (t := 155) (by decide) dX11_run_148) ?_
  refine fc (ok_iconst hB dX11_run_151) ?_
  refine fc (ok_goto hB (t := 156) (by decide) dX11_run_152) ?_
  refine fc (ok_iload_n hB dX11_run_155) ?_
  refine fc (ok_iret hB dX11_run_156) ?_
  exact fn
def inv_run (σ : Mem) (s w : Int) (n pc : Nat) (ls st : List AV) (σ' : Mem) : Prop := pc = 50 ∧ st = [] ∧ ((0 ≤ s ∧ s < σ 13 3) ∧ 0 < pcnt σ 6 2 ∧ 0 ≤ w ∧ w ≤ 1) ∧ ∃ (k : Nat) (m : Int), ls = [(27, 0), (0, s), (0, w), (0, m), (0, (k : Int))] ∧ (k : Int) + n = σ 15 s ∧ rnX s k σ m σ' ∧ xP σ' ∧ SA σ σ'
def w_X11_run : WP := fun av σ Q => ∃ (s : Int) (w : Int), av = [(27, 0), (0, s), (0, w)] ∧ (InR s ∧ InR w ∧ xA σ ∧ seaOk σ ∧ (∀ j, 0 ≤ s → s < σ 13 3 → 0 ≤ j → j < 3 * σ 15 s → InR (σ 14 (s * 48 + j))) ∧ (¬ ((0 ≤ s ∧ s < σ 13 3) ∧ 0 < pcnt σ 6 2 ∧ 0 ≤ w ∧ w ≤ 1) → Q (0, -1000000) σ) ∧ ((0 ≤ s ∧ s < σ 13 3) ∧ 0 < pcnt σ 6 2 ∧ 0 ≤ w ∧ w ≤ 1 → ∀ (k : Nat) m τ, rnX s k σ m τ → SA σ τ → ((k : Int) < σ 15 s → ¬ csP τ s k 21 → Q (0, if w = 0 then (k : Int) else m) τ) ∧ ((k : Int) = σ 15 s → Q (0, if w = 0 then -1 else m) τ)))
theorem w_X11_run_e (s : Int) (w : Int) (σ : Mem) (Q : AV → Mem → Prop) : w_X11_run [(27, 0), (0, s), (0, w)] σ Q = (InR s ∧ InR w ∧ xA σ ∧ seaOk σ ∧ (∀ j, 0 ≤ s → s < σ 13 3 → 0 ≤ j → j < 3 * σ 15 s → InR (σ 14 (s * 48 + j))) ∧ (¬ ((0 ≤ s ∧ s < σ 13 3) ∧ 0 < pcnt σ 6 2 ∧ 0 ≤ w ∧ w ≤ 1) → Q (0, -1000000) σ) ∧ ((0 ≤ s ∧ s < σ 13 3) ∧ 0 < pcnt σ 6 2 ∧ 0 ≤ w ∧ w ≤ 1 → ∀ (k : Nat) m τ, rnX s k σ m τ → SA σ τ → ((k : Int) < σ 15 s → ¬ csP τ s k 21 → Q (0, if w = 0 then (k : Int) else m) τ) ∧ ((k : Int) = σ 15 s → Q (0, if w = 0 then -1 else m) τ))) := by
  apply propext; constructor
  · rintro ⟨s', w', h9, hb9⟩; cases h9; exact hb9
  · intro hb9; exact ⟨s, w, rfl, hb9⟩

set_option maxRecDepth 100000 in
set_option maxHeartbeats 4000000 in
theorem s_X11_run : ∀ av σ Q, w_X11_run av σ Q → amCall 7 0 0 TT yX11_run cX11_run 5 (some .int) av σ Q := by
  rintro av σ Q ⟨s, w, rfl, hs, hw, hx, hsea, hrow, h1, h2⟩
  obtain ⟨q1, q2⟩ := id hsea
  have hB0 := hx.1.1.2.1
  have c20 := pcnt_b hB0 2
  refine am_m [50] (inv_run σ s w) (own := RX11) (A := look a_X11_run) (fun X e1 e2 hB => o_X11_run e1 e2 hB) rfl (by decide +kernel) rfl rfl ?_ ⟨90, ?_⟩ (w := 5)
  · rintro n pc ls st σ' ⟨rfl, rfl, cc, k, m, rfl, hk, hrn, hx', hA⟩
    have r13 : σ' 13 = σ 13 := SA_r hA (by omega)
    have r14 : σ' 14 = σ 14 := SA_r hA (by omega)
    have r15 : σ' 15 = σ 15 := SA_r hA (by omega)
    have q3 := q2 s cc.1.1 cc.1.2
    obtain ⟨hst, hse, h9, hsi, hmi, hte, hpr, hmo⟩ := id hx'
    obtain ⟨-, hB, hl, hh, hev, hil⟩ := id hst
    have c1 := pcnt_b hB 1
    have c2 := pcnt_b hB 2
    have c3 := pcnt_b hB 3
    have e1 : (21 : Int) + 2 = 23 := rfl
    have e2 : (21 : Int) + 4 = 25 := rfl
    have z0 : s * 48 + (k : Int) * 3 + 0 = s * 48 + (k : Int) * 3 := Int.add_zero _
    have hau : auS σ' 21 := ⟨hse, hmi, ⟨by omega, by omega⟩⟩
    have hev' : InR (σ' 21 6) := ⟨by omega, by omega⟩
    have hte' : ∀ i, 0 ≤ i → i < pcnt σ' 6 2 → (0 ≤ σ' 23 i ∧ σ' 23 i < pcnt σ' 6 3) ∧ 0 ≤ σ' 25 i ∧ σ' 25 i ≤ 9999 := fun i i0 i1 => ⟨hsi i i0 i1, hte i i0 i1⟩
    obtain ⟨f1, f2⟩ := h2 cc k m σ' hrn hA
    refine ⟨120, ?_⟩
    simp only [↓reduceIte, inR_0, inR_1, inR_m, vSw2_e, swP_n, swP_c, vI_e, vL_e, vNull_e, vIload_e, vLload_e, vAload_e, vIstore_e, vLstore_e, vAstore_e, vIinc_e, vIadd_e, vIsub_e, vImul_e, vIand_e, vIor_e, vIxor_e, vIshl_e, vIshr_e, vIushr_e, vIdiv_e, vIrem_e, vLadd_e, vLsub_e, vLmul_e, vLand_e, vLor_e, vLxor_e, vLdiv_e, vLrem_e, vLushr_e, vLshl_e, vLcmp_e, vIneg_e, vI2l_e, vL2i_e, vI2b_e, vI2c_e, vDup_e, vPop_e, vDup2_e, vGoto_e, vIcEq_e, vIfEq_e, vIcNe_e, vIfNe_e, vIcLt_e, vIfLt_e, vIcGe_e, vIfGe_e, vIcGt_e, vIfGt_e, vIcLe_e, vIfLe_e, vNonnull_e, vSw_e, vGetI_e, vGetL_e, vGetR_e, vPutI_e, vPutZ_e, vPutL_e, vPutR_e, vIald_e, vIald_s, vLald_e, vBald_e, vBald_s, vAald_e, vIast_e, vLast_e, vBast_e, vAast_e, vAlen_e8, vAlen_e9, vAlen_e10, vAlen_e11, vAlen_e5, vAlen_e3, vGets_e, vCompact_e, vLdcS_e, vIret_e, vZret_e, vCret_e, vBret_e, vLret_e, vVret_e, vAret_e, vCallM_e0, vCallMV_e0, vCallS_e0, vCallSV_e0, vCallM_e1, vCallMV_e1, vCallS_e1, vCallSV_e1, vCallM_e2, vCallMV_e2, vCallS_e2, vCallSV_e2, vCallM_e3, vCallMV_e3, vCallS_e3, vCallSV_e3, vCallM_e4, vCallMV_e4, vCallS_e4, vCallSV_e4, vCallM_e5, vCallMV_e5, vCallS_e5, vCallSV_e5, vCallM_e6, vCallMV_e6, vCallS_e6, vCallSV_e6, vCallM_e7, vCallMV_e7, vCallS_e7, vCallSV_e7, vBad_e, vStrVal_e, vStrCod_e, vForm_e, vCallT_e0, vCallT_e1, vCallT_e2, vCopy_e, rf_0_0, rf_0_1, rf_0_2, rf_0_3, rf_0_4, rf_0_7, rf_0_10, rf_0_11, rf_0_12, rf_0_13, rf_0_14, rf_0_15, rf_0_16, rf_1_0, rf_3_0, rf_3_1, rf_6_0, rf_6_1, rf_9_0, rf_9_1, rf_9_3, rf_13_0, rf_13_1, rf_13_2, rf_16_0, rf_16_1, rf_16_2, rf_16_3, rf_21_0, rf_21_1, rf_21_2, rf_21_3, rf_26_0, rf_26_1, rf_26_2, rf_26_3, rf_26_4, rf_26_5, rf_26_6, rf_31_0, rf_31_2, rf_31_5, rf_31_6, rf_36_0, rf_36_1, rf_36_2, rf_36_3, rf_39_0, rf_39_1, rf_39_2, rf_41_0, rf_41_1, rf_41_2, rf_41_3, rf_5000_1, rf_5000_2, rf_5000_3, rf_5000_4, rf_5000_5, rf_5000_15, rf_5000_16, rf_5000_18, rf_5000_19, rf_5000_20, rf_5000_21, rf_5000_22, rf_5000_23, rf_5000_24, rf_5000_25, rf_5000_26, rf_5000_27, rf_5000_36, rf_5000_37, rf_5000_40, rf_5000_41, rf_5000_42, rf_5000_43, rf_5000_44, rf_5000_45, rf_5000_47, rf_5000_52, rf_5000_54, rf_5000_55, rf_100_0, rf_100_1, rf_103_0, rf_103_1, rf_106_0, rf_106_1, rf_109_0, rf_109_1, al_2, al_4, al_5, al_7, al_8, al_10, al_11, al_12, al_14, al_15, al_17, al_18, al_19, al_20, al_22, al_23, al_24, al_25, al_27, al_28, al_29, al_30, al_32, al_33, al_34, al_35, al_37, al_38, al_40, al_42, al_5001, al_5002, al_5003, al_5004, al_5005, al_5006, al_5007, al_5008, al_5009, al_5010, al_5011, al_5012, al_5013, al_5014, al_5015, al_5016, al_5017, al_5018, al_5019, al_5020, al_5021, al_5022, al_5023, al_5024, al_5025, al_5026, al_9000, al_101, al_102, al_104, al_105, al_107, al_108, al_110, al_111, vcs_e, lg_c0, lg_cs, lg_nil, set_c0, set_cs, okst_0, okst_s, acok_n, acok_c, List.contains_nil, List.contains_cons, Bool.or_false, Bool.false_or, Bool.false_eq_true, if_false, if_true, ite_self, ne_eq, true_and, and_true, not_false_eq_true, not_true_eq_false, false_imp_iff, true_imp_iff, Nat.ble_eq, Bool.and_eq_true, reduceCtorEq, or_false, false_or, or_true, true_or, false_and, and_false, and_self, Int.reduceLE, Int.reduceAdd, Int.reduceSub, Int.reduceMul, Int.reduceNeg, Int.reduceLT, Int.reduceEq, Int.reduceNe, Nat.reduceBEq, Nat.reduceBNe, Nat.reduceEqDiff, amCmp_in, amCmp_lt, amCmp_le, amCmp_gt, amCmp_ge, amCmp_eq, amCmp_ne, Nat.reduceLeDiff, Nat.reduceSub, Bool.and_true, Bool.true_and, Bool.and_self, Bool.or_true, Bool.true_or, isRf_3, isRf_4, isRf_5, isRf_8, isRf_9, isRf_10, isRf_11, isRf_15, isRf_16, isRf_17, isRf_18, isRf_19, isRf_20, isRf_21, isRf_22, isRf_23, isRf_24, isRf_25, isRf_26, isRf_27, isRf_28, k_X11_run_0, k_X11_run_1, k_X11_run_4, k_X11_run_5, k_X11_run_8, k_X11_run_11, k_X11_run_12, k_X11_run_15, k_X11_run_18, k_X11_run_21, k_X11_run_22, k_X11_run_25, k_X11_run_26, k_X11_run_27, k_X11_run_30, k_X11_run_33, k_X11_run_34, k_X11_run_35, k_X11_run_38, k_X11_run_39, k_X11_run_42, k_X11_run_45, k_X11_run_46, k_X11_run_47, k_X11_run_48, k_X11_run_50, k_X11_run_52, k_X11_run_53, k_X11_run_56, k_X11_run_57, k_X11_run_60, k_X11_run_63, k_X11_run_64, k_X11_run_65, k_X11_run_67, k_X11_run_68, k_X11_run_71, k_X11_run_74, k_X11_run_77, k_X11_run_78, k_X11_run_81, k_X11_run_83, k_X11_run_86, k_X11_run_87, k_X11_run_88, k_X11_run_89, k_X11_run_92, k_X11_run_93, k_X11_run_95, k_X11_run_96, k_X11_run_99, k_X11_run_102, k_X11_run_103, k_X11_run_104, k_X11_run_107, k_X11_run_108, k_X11_run_111, k_X11_run_112, k_X11_run_115, k_X11_run_116, k_X11_run_118, k_X11_run_119, k_X11_run_122, k_X11_run_125, k_X11_run_126, k_X11_run_127, k_X11_run_130, k_X11_run_131, k_X11_run_132, k_X11_run_134, k_X11_run_135, k_X11_run_138, k_X11_run_141, k_X11_run_144, k_X11_run_147, k_X11_run_148, k_X11_run_151, k_X11_run_152, k_X11_run_155, k_X11_run_156, w_X0_copyFrom_e, w_X11_canStep_e, w_X11_doQuietStep_e, w_X6_isTold_e, w_X7_part_e, w_X7_steps_e, w_X9_show_e, r13, r14, r15, z0, e1, e2]
    rw [if_pos cc.1]
    by_cases hlt : (k : Int) < σ 15 s
    · have hj : ∀ j, 0 ≤ j → j ≤ 2 → InR (σ 14 (s * 48 + (k : Int) * 3 + j)) := fun j j0 j1 => by
        have := hrow ((k : Int) * 3 + j) cc.1.1 cc.1.2 (by omega) (by omega)
        rw [← Int.add_assoc] at this
        exact this
      have g0 := hj 0 (by decide) (by decide)
      rw [Int.add_zero] at g0
      have g1 := hj 1 (by decide) (by decide)
      have nxt : csP σ' s k 21 → ∀ d τ, stR σ' s k d τ → ∃ k', k' < n ∧ inv_run σ s w k' 50 [(27, 0), (0, s), (0, w), (0, m + d), (0, (k : Int) + 1)] [] τ := fun g d τ gs => by
        obtain ⟨x1, x2⟩ := stR_x hx' g gs
        exact ⟨n - 1, by omega, rfl, rfl, cc, k + 1, m + d, rfl, by omega, ⟨σ', m, d, hrn, g, gs, rfl⟩, x1, SA_tr hA x2⟩
      have es : ∀ d τ, stR σ' s k d τ ↔ (if σ 14 (s * 48 + (k : Int) * 3) = 0 then (shP σ' τ 21 (σ 14 (s * 48 + (k : Int) * 3 + 1)) ∧ d = sumC (pFl σ' 21 (σ 14 (s * 48 + (k : Int) * 3 + 1))) (pcnt σ' 6 2).toNat) else (τ = qsM σ' s k 21 ∧ d = 0)) := fun d τ => by unfold stR; rw [r14]
      have ec : csP σ' s k 21 → if σ 14 (s * 48 + (k : Int) * 3) = 0 then True else 0 ≤ σ 14 (s * 48 + (k : Int) * 3 + 1) ∧ σ 14 (s * 48 + (k : Int) * 3 + 1) < 6 := fun g => by
        unfold csP at g
        rw [r14] at g
        by_cases k0 : σ 14 (s * 48 + (k : Int) * 3) = 0
        · rw [if_pos k0]; trivial
        · rw [if_neg k0] at g ⊢
          split at g
          · exact ⟨g.1.1, by have := g.1.2; omega⟩
          · exact ⟨g.1, by omega⟩
      generalize hd0 : σ 14 (s * 48 + (k : Int) * 3) = d0 at *
      generalize hd1 : σ 14 (s * 48 + (k : Int) * 3 + 1) = d1 at *
      have h9p := h9 d1
      by_cases cs : csP σ' s k 21
      · have ecs := ec cs
        have nx := nxt cs
        by_cases k0 : d0 = 0
        · simp only [es, if_pos k0] at nx
          have i9 := fun τ (g : shP σ' τ 21 d1) => nx _ τ ⟨g, rfl⟩
          repeat' (first | assumption | apply And.intro | intro _)
          all_goals first | omega | exact absurd trivial (by assumption) | exact isA21 | exact isP6 | exact absurd cs (by assumption) | exact i9 _ (by assumption)
        · rw [if_neg k0] at ecs
          simp only [es, if_neg k0] at nx
          have i9 := nx 0 _ ⟨rfl, rfl⟩
          rw [Int.add_zero] at i9
          repeat' (first | assumption | apply And.intro | intro _)
          all_goals first | omega | exact absurd trivial (by assumption) | exact isA21 | exact isP6 | exact absurd cs (by assumption) | exact i9
      · have hh := f1 hlt cs
        by_cases w0 : w = 0
        · rw [if_pos w0] at hh
          repeat' (first | assumption | apply And.intro | intro _)
          all_goals first | omega | exact absurd trivial (by assumption) | exact isA21 | exact isP6 | exact absurd (by assumption) cs | exact hh
        · rw [if_neg w0] at hh
          repeat' (first | assumption | apply And.intro | intro _)
          all_goals first | omega | exact absurd trivial (by assumption) | exact isA21 | exact isP6 | exact absurd (by assumption) cs | exact hh
    · have hh := f2 (by omega)
      by_cases w0 : w = 0
      · rw [if_pos w0] at hh
        repeat' (first | assumption | apply And.intro | intro _)
        all_goals first | omega | exact absurd trivial (by assumption) | exact hh
      · rw [if_neg w0] at hh
        repeat' (first | assumption | apply And.intro | intro _)
        all_goals first | omega | exact absurd trivial (by assumption) | exact hh
  · change vcs _ _ _ _ 90 0 [(27, 0), (0, s), (0, w), (6, 0), (6, 0)] [] σ
    simp only [↓reduceIte, inR_0, inR_1, inR_m, vSw2_e, swP_n, swP_c, vI_e, vL_e, vNull_e, vIload_e, vLload_e, vAload_e, vIstore_e, vLstore_e, vAstore_e, vIinc_e, vIadd_e, vIsub_e, vImul_e, vIand_e, vIor_e, vIxor_e, vIshl_e, vIshr_e, vIushr_e, vIdiv_e, vIrem_e, vLadd_e, vLsub_e, vLmul_e, vLand_e, vLor_e, vLxor_e, vLdiv_e, vLrem_e, vLushr_e, vLshl_e, vLcmp_e, vIneg_e, vI2l_e, vL2i_e, vI2b_e, vI2c_e, vDup_e, vPop_e, vDup2_e, vGoto_e, vIcEq_e, vIfEq_e, vIcNe_e, vIfNe_e, vIcLt_e, vIfLt_e, vIcGe_e, vIfGe_e, vIcGt_e, vIfGt_e, vIcLe_e, vIfLe_e, vNonnull_e, vSw_e, vGetI_e, vGetL_e, vGetR_e, vPutI_e, vPutZ_e, vPutL_e, vPutR_e, vIald_e, vIald_s, vLald_e, vBald_e, vBald_s, vAald_e, vIast_e, vLast_e, vBast_e, vAast_e, vAlen_e8, vAlen_e9, vAlen_e10, vAlen_e11, vAlen_e5, vAlen_e3, vGets_e, vCompact_e, vLdcS_e, vIret_e, vZret_e, vCret_e, vBret_e, vLret_e, vVret_e, vAret_e, vCallM_e0, vCallMV_e0, vCallS_e0, vCallSV_e0, vCallM_e1, vCallMV_e1, vCallS_e1, vCallSV_e1, vCallM_e2, vCallMV_e2, vCallS_e2, vCallSV_e2, vCallM_e3, vCallMV_e3, vCallS_e3, vCallSV_e3, vCallM_e4, vCallMV_e4, vCallS_e4, vCallSV_e4, vCallM_e5, vCallMV_e5, vCallS_e5, vCallSV_e5, vCallM_e6, vCallMV_e6, vCallS_e6, vCallSV_e6, vCallM_e7, vCallMV_e7, vCallS_e7, vCallSV_e7, vBad_e, vStrVal_e, vStrCod_e, vForm_e, vCallT_e0, vCallT_e1, vCallT_e2, vCopy_e, rf_0_0, rf_0_1, rf_0_2, rf_0_3, rf_0_4, rf_0_7, rf_0_10, rf_0_11, rf_0_12, rf_0_13, rf_0_14, rf_0_15, rf_0_16, rf_1_0, rf_3_0, rf_3_1, rf_6_0, rf_6_1, rf_9_0, rf_9_1, rf_9_3, rf_13_0, rf_13_1, rf_13_2, rf_16_0, rf_16_1, rf_16_2, rf_16_3, rf_21_0, rf_21_1, rf_21_2, rf_21_3, rf_26_0, rf_26_1, rf_26_2, rf_26_3, rf_26_4, rf_26_5, rf_26_6, rf_31_0, rf_31_2, rf_31_5, rf_31_6, rf_36_0, rf_36_1, rf_36_2, rf_36_3, rf_39_0, rf_39_1, rf_39_2, rf_41_0, rf_41_1, rf_41_2, rf_41_3, rf_5000_1, rf_5000_2, rf_5000_3, rf_5000_4, rf_5000_5, rf_5000_15, rf_5000_16, rf_5000_18, rf_5000_19, rf_5000_20, rf_5000_21, rf_5000_22, rf_5000_23, rf_5000_24, rf_5000_25, rf_5000_26, rf_5000_27, rf_5000_36, rf_5000_37, rf_5000_40, rf_5000_41, rf_5000_42, rf_5000_43, rf_5000_44, rf_5000_45, rf_5000_47, rf_5000_52, rf_5000_54, rf_5000_55, rf_100_0, rf_100_1, rf_103_0, rf_103_1, rf_106_0, rf_106_1, rf_109_0, rf_109_1, al_2, al_4, al_5, al_7, al_8, al_10, al_11, al_12, al_14, al_15, al_17, al_18, al_19, al_20, al_22, al_23, al_24, al_25, al_27, al_28, al_29, al_30, al_32, al_33, al_34, al_35, al_37, al_38, al_40, al_42, al_5001, al_5002, al_5003, al_5004, al_5005, al_5006, al_5007, al_5008, al_5009, al_5010, al_5011, al_5012, al_5013, al_5014, al_5015, al_5016, al_5017, al_5018, al_5019, al_5020, al_5021, al_5022, al_5023, al_5024, al_5025, al_5026, al_9000, al_101, al_102, al_104, al_105, al_107, al_108, al_110, al_111, vcs_e, lg_c0, lg_cs, lg_nil, set_c0, set_cs, okst_0, okst_s, acok_n, acok_c, List.contains_nil, List.contains_cons, Bool.or_false, Bool.false_or, Bool.false_eq_true, if_false, if_true, ite_self, ne_eq, true_and, and_true, not_false_eq_true, not_true_eq_false, false_imp_iff, true_imp_iff, Nat.ble_eq, Bool.and_eq_true, reduceCtorEq, or_false, false_or, or_true, true_or, false_and, and_false, and_self, Int.reduceLE, Int.reduceAdd, Int.reduceSub, Int.reduceMul, Int.reduceNeg, Int.reduceLT, Int.reduceEq, Int.reduceNe, Nat.reduceBEq, Nat.reduceBNe, Nat.reduceEqDiff, amCmp_in, amCmp_lt, amCmp_le, amCmp_gt, amCmp_ge, amCmp_eq, amCmp_ne, Nat.reduceLeDiff, Nat.reduceSub, Bool.and_true, Bool.true_and, Bool.and_self, Bool.or_true, Bool.true_or, isRf_3, isRf_4, isRf_5, isRf_8, isRf_9, isRf_10, isRf_11, isRf_15, isRf_16, isRf_17, isRf_18, isRf_19, isRf_20, isRf_21, isRf_22, isRf_23, isRf_24, isRf_25, isRf_26, isRf_27, isRf_28, k_X11_run_0, k_X11_run_1, k_X11_run_4, k_X11_run_5, k_X11_run_8, k_X11_run_11, k_X11_run_12, k_X11_run_15, k_X11_run_18, k_X11_run_21, k_X11_run_22, k_X11_run_25, k_X11_run_26, k_X11_run_27, k_X11_run_30, k_X11_run_33, k_X11_run_34, k_X11_run_35, k_X11_run_38, k_X11_run_39, k_X11_run_42, k_X11_run_45, k_X11_run_46, k_X11_run_47, k_X11_run_48, k_X11_run_50, k_X11_run_52, k_X11_run_53, k_X11_run_56, k_X11_run_57, k_X11_run_60, k_X11_run_63, k_X11_run_64, k_X11_run_65, k_X11_run_67, k_X11_run_68, k_X11_run_71, k_X11_run_74, k_X11_run_77, k_X11_run_78, k_X11_run_81, k_X11_run_83, k_X11_run_86, k_X11_run_87, k_X11_run_88, k_X11_run_89, k_X11_run_92, k_X11_run_93, k_X11_run_95, k_X11_run_96, k_X11_run_99, k_X11_run_102, k_X11_run_103, k_X11_run_104, k_X11_run_107, k_X11_run_108, k_X11_run_111, k_X11_run_112, k_X11_run_115, k_X11_run_116, k_X11_run_118, k_X11_run_119, k_X11_run_122, k_X11_run_125, k_X11_run_126, k_X11_run_127, k_X11_run_130, k_X11_run_131, k_X11_run_132, k_X11_run_134, k_X11_run_135, k_X11_run_138, k_X11_run_141, k_X11_run_144, k_X11_run_147, k_X11_run_148, k_X11_run_151, k_X11_run_152, k_X11_run_155, k_X11_run_156, w_X0_copyFrom_e, w_X11_canStep_e, w_X11_doQuietStep_e, w_X6_isTold_e, w_X7_part_e, w_X7_steps_e, w_X9_show_e]
    obtain ⟨ax1, ax2⟩ := ap_x hx
    by_cases d : 0 ≤ s ∧ s < σ 13 3
    · have q3 := q2 s d.1 d.2
      rw [if_pos d]
      by_cases d2 : 0 < pcnt σ 6 2
      · rw [if_pos d2]
        by_cases d3 : 0 ≤ w ∧ w ≤ 1
        · have i9 : ∃ k', inv_run σ s w k' 50 [(27, 0), (0, s), (0, w), (0, 0), (0, 0)] [] (setAud σ 21 (aud σ 16)) := ⟨(σ 15 s).toNat, rfl, rfl, ⟨d, d2, d3⟩, 0, 0, rfl, by omega, ⟨rfl, rfl⟩, ax1, ax2⟩
          repeat' (first | assumption | apply And.intro | intro _)
          all_goals first | omega | exact absurd trivial (by assumption) | exact isP6 | exact i9
        · have hh := h1 (fun q => d3 q.2.2)
          repeat' (first | assumption | apply And.intro | intro _)
          all_goals first | omega | exact absurd trivial (by assumption) | exact isP6 | exact hh
      · rw [if_neg d2]
        have hh := h1 (fun q => d2 q.2.1)
        repeat' (first | assumption | apply And.intro | intro _)
        all_goals first | omega | exact absurd trivial (by assumption) | exact isP6 | exact hh
    · rw [if_neg d]
      have hh := h1 (fun q => d q.1)
      repeat' (first | assumption | apply And.intro | intro _)
      all_goals first | omega | exact absurd trivial (by assumption) | exact isP6 | exact hh
