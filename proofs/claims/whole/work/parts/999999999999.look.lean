theorem A : True := True.intro
theorem B : True := True.intro
theorem G : True := True.intro
theorem G0 : True := True.intro
theorem G1 : True := True.intro
theorem G2 : True := True.intro
theorem K : True := True.intro
theorem L : True := True.intro
theorem M : True := True.intro
theorem N : True := True.intro
theorem N4 : True := True.intro
theorem P : True := True.intro
theorem P' : True := True.intro
theorem Q9 : True := True.intro
theorem R : True := True.intro
theorem S : True := True.intro
theorem S0 : True := True.intro
theorem T0 : True := True.intro
theorem X : True := True.intro
theorem a : True := True.intro
theorem a0 : True := True.intro
theorem a1 : True := True.intro
theorem al : True := True.intro
theorem b : True := True.intro
theorem b16 : True := True.intro
theorem c : True := True.intro
theorem c0 : True := True.intro
theorem c1 : True := True.intro
theorem c13 : True := True.intro
theorem c14 : True := True.intro
theorem c2 : True := True.intro
theorem c29 : True := True.intro
theorem c3 : True := True.intro
theorem c4 : True := True.intro
theorem c51 : True := True.intro
theorem c6 : True := True.intro
theorem c9 : True := True.intro
theorem cN : True := True.intro
theorem cost : True := True.intro
theorem cp : True := True.intro
theorem cw : True := True.intro
theorem d : True := True.intro
theorem d0 : True := True.intro
theorem d1 : True := True.intro
theorem d2 : True := True.intro
theorem d3 : True := True.intro
theorem d9 : True := True.intro
theorem e : True := True.intro
theorem e0 : True := True.intro
theorem e1 : True := True.intro
theorem e15 : True := True.intro
theorem e2 : True := True.intro
theorem e22 : True := True.intro
theorem e23 : True := True.intro
theorem e28 : True := True.intro
theorem e3 : True := True.intro
theorem e4 : True := True.intro
theorem e6 : True := True.intro
theorem e7 : True := True.intro
theorem e9 : True := True.intro
theorem ev : True := True.intro
theorem ex : True := True.intro
theorem f1 : True := True.intro
theorem f6 : True := True.intro
theorem f9 : True := True.intro
theorem fin : True := True.intro
theorem found : True := True.intro
theorem g3 : True := True.intro
theorem g5 : True := True.intro
theorem gm : True := True.intro
theorem hB : True := True.intro
theorem hN : True := True.intro
theorem hS : True := True.intro
theorem hT : True := True.intro
theorem ha : True := True.intro
theorem hb : True := True.intro
theorem hc : True := True.intro
theorem hd : True := True.intro
theorem hi : True := True.intro
theorem hid : True := True.intro
theorem hm : True := True.intro
theorem i : True := True.intro
theorem i0 : True := True.intro
theorem i1 : True := True.intro
theorem i8 : True := True.intro
theorem i9 : True := True.intro
theorem ih : True := True.intro
theorem j : True := True.intro
theorem k : True := True.intro
theorem k0 : True := True.intro
theorem k1 : True := True.intro
theorem k3 : True := True.intro
theorem k5 : True := True.intro
theorem k6 : True := True.intro
theorem k7 : True := True.intro
theorem k8 : True := True.intro
theorem key : True := True.intro
theorem kn : True := True.intro
theorem lo : True := True.intro
theorem m : True := True.intro
theorem m0 : True := True.intro
theorem m1 : True := True.intro
theorem m2 : True := True.intro
theorem m3 : True := True.intro
theorem m4 : True := True.intro
theorem m9 : True := True.intro
theorem mv : True := True.intro
theorem n : True := True.intro
theorem n0 : True := True.intro
theorem n1 : True := True.intro
theorem n28 : True := True.intro
theorem n30 : True := True.intro
theorem n6 : True := True.intro
theorem ob : True := True.intro
theorem only : True := True.intro
theorem own : True := True.intro
theorem p : True := True.intro
theorem p0 : True := True.intro
theorem p1 : True := True.intro
theorem p5 : True := True.intro
theorem p6 : True := True.intro
theorem q : True := True.intro
theorem q1 : True := True.intro
theorem q2 : True := True.intro
theorem q3 : True := True.intro
theorem q8 : True := True.intro
theorem q9 : True := True.intro
theorem r1 : True := True.intro
theorem rd : True := True.intro
theorem row : True := True.intro
theorem s : True := True.intro
theorem s0 : True := True.intro
theorem s1 : True := True.intro
theorem s2 : True := True.intro
theorem s3 : True := True.intro
theorem s4 : True := True.intro
theorem same : True := True.intro
theorem sb : True := True.intro
theorem st : True := True.intro
theorem t : True := True.intro
theorem t0 : True := True.intro
theorem t1 : True := True.intro
theorem t2 : True := True.intro
theorem tb : True := True.intro
theorem tc : True := True.intro
theorem toN : True := True.intro
theorem told : True := True.intro
theorem u : True := True.intro
theorem u1 : True := True.intro
theorem u2 : True := True.intro
theorem uB : True := True.intro
theorem v : True := True.intro
theorem v0 : True := True.intro
theorem v1 : True := True.intro
theorem v4 : True := True.intro
theorem w : True := True.intro
theorem w0 : True := True.intro
theorem w1 : True := True.intro
theorem x0 : True := True.intro
theorem x1 : True := True.intro
theorem x2 : True := True.intro
theorem xi : True := True.intro
theorem y : True := True.intro
theorem z : True := True.intro
/-! the reference reads the items of a clause, whole -/
theorem btp (x w : Int) : bt x w = x / (2 ^ w.toNat) % 2 := by unfold bt; rw [Int.natCast_pow]; rfl
theorem kid_al {k : Int} (k0 : 0 ≤ k) (k1 : k < 4) (τ : Mem) : alen TT τ (kid k) = mostK k * kln k ∧ mostK k * kln k ≤ 18 ∧ 5006 ≤ kid k ∧ kid k ≤ 5012 := by
  have : k = 0 ∨ k = 1 ∨ k = 2 ∨ k = 3 := by omega
  rcases this with rfl | rfl | rfl | rfl <;> exact ⟨rfl, by decide, by decide, by decide⟩
theorem kch_b (k : Int) : 0 ≤ kch k ∧ kch k ≤ 200 := by unfold kch; (repeat' split) <;> omega
abbrev hRi (m : Mem) (p : Int) (v : Int → Int) (k i : Int) : Int × Int × (Int → Int) := hIt (mtx m) (m 5000 9) k (firstK k + i) 5 0 p (filv v k i)

theorem wd_1512 : Cond.methodLink RX12 236 yX12_usual ∈ TBL := tb_tab (List.mem_of_getElem? (i := 1512) (by decide +kernel)) rfl
theorem wd_1514 : Cond.code yX12_usual cX12_usual 2 (some .int) ∈ TBL := tb_tab (List.mem_of_getElem? (i := 1514) (by decide +kernel)) rfl
theorem lk_X12_236 : amLk RX12 236 yX12_usual cX12_usual 2 (some .int) 2 := ⟨wd_1512, wd_12, wd_1514, by decide +kernel, by decide +kernel, by decide⟩
theorem wd_1513 : Cond.static yX12_usual ∈ TBL := tb_tab (List.mem_of_getElem? (i := 1513) (by decide +kernel)) rfl
theorem wd_1540 : Cond.methodLink RX12 248 yX12_leastOf ∈ TBL := tb_tab (List.mem_of_getElem? (i := 1540) (by decide +kernel)) rfl
theorem wd_1542 : Cond.code yX12_leastOf cX12_leastOf 2 (some .int) ∈ TBL := tb_tab (List.mem_of_getElem? (i := 1542) (by decide +kernel)) rfl
theorem lk_X12_248 : amLk RX12 248 yX12_leastOf cX12_leastOf 2 (some .int) 2 := ⟨wd_1540, wd_12, wd_1542, by decide +kernel, by decide +kernel, by decide⟩
theorem wd_1541 : Cond.static yX12_leastOf ∈ TBL := tb_tab (List.mem_of_getElem? (i := 1541) (by decide +kernel)) rfl
theorem wd_1543 : Cond.methodLink RX12 251 yX12_mostOf ∈ TBL := tb_tab (List.mem_of_getElem? (i := 1543) (by decide +kernel)) rfl
theorem wd_1545 : Cond.code yX12_mostOf cX12_mostOf 2 (some .int) ∈ TBL := tb_tab (List.mem_of_getElem? (i := 1545) (by decide +kernel)) rfl
theorem lk_X12_251 : amLk RX12 251 yX12_mostOf cX12_mostOf 2 (some .int) 2 := ⟨wd_1543, wd_12, wd_1545, by decide +kernel, by decide +kernel, by decide⟩
theorem wd_1544 : Cond.static yX12_mostOf ∈ TBL := tb_tab (List.mem_of_getElem? (i := 1544) (by decide +kernel)) rfl
theorem wd_1546 : Cond.methodLink RX12 254 yX12_number ∈ TBL := tb_tab (List.mem_of_getElem? (i := 1546) (by decide +kernel)) rfl
theorem wd_1549 : Cond.code yX12_number cX12_number 5 (some .int) ∈ TBL := tb_tab (List.mem_of_getElem? (i := 1549) (by decide +kernel)) rfl
theorem lk_X12_254 : amLk RX12 254 yX12_number cX12_number 5 (some .int) 2 := ⟨wd_1546, wd_12, wd_1549, by decide +kernel, by decide +kernel, by decide⟩
theorem wd_1548 : Cond.instanceMethod yX12_number ∈ TBL := tb_tab (List.mem_of_getElem? (i := 1548) (by decide +kernel)) rfl
theorem sl_X12_number : Cond.selects RX12 yX12_number yX12_number ∈ TBL := tb_sel (List.mem_of_getElem? (i := 54) (by decide +kernel)) rfl
def a_X12_readItems : AC := [(0, vI 0 1), (1, vIstore 5 3), (3, vIload 5 5), (5, vAload 4 7), (7, vCallT w_J0_length_8abf5 0 10), (10, vIcGe 31 13), (13, vAload 2 14), (14, vIload 3 15), (15, vIload 5 17), (17, vIadd 18), (18, vIload 1 19), (19, vIload 5 21), (21, vCallS w_X12_usual 2 24), (24, vIast TT 25), (25, vIinc 5 1 28), (28, vGoto 3), (31, vI 0 32), (32, vIstore 5 34), (34, vAload 4 36), (36, vAload 0 37), (37, vCallM w_X12_look 28 0 40), (40, vCallS w_X12_spotOf 2 43), (43, vIstore 6 45), (45, vIload 6 47), (47, vI (-1) 48), (48, vIcEq 138 51), (51, vAload 0 52), (52, vGetI 28 11 55), (55, vI (-1) 56), (56, vIcNe 138 59), (59, vIload 5 61), (61, vIload 6 63), (63, vCallS w_X12_has 2 66), (66, vIfEq 75 69), (69, vAload 0 70), (70, vCallM w_X12_fails 28 0 73), (73, vPop 74), (74, vVret), (75, vIload 5 77), (77, vI 1 78), (78, vIload 6 80), (80, vIshl 81), (81, vIor 82), (82, vIstore 5 84), (84, vAload 0 85), (85, vDup 86), (86, vGetI 28 10 89), (89, vI 1 90), (90, vIadd 91), (91, vPutI 28 10 94), (94, vAload 2 95), (95, vIload 3 96), (96, vIload 6 98), (98, vIadd 99), (99, vAload 0 100), (100, vIload 1 101), (101, vIload 6 103), (103, vCallS w_X12_leastOf 2 106), (106, vIload 1 107), (107, vIload 6 109), (109, vCallS w_X12_mostOf 2 112), (112, vCallM w_X12_number 28 2 115), (115, vIast TT 116), (116, vAload 0 117), (117, vGetI 28 11 120), (120, vI (-1) 121), (121, vIcNe 45 124), (124, vAload 4 126), (126, vAload 0 127), (127, vCallM w_X12_look 28 0 130), (130, vCallS w_X12_spotOf 2 133), (133, vIstore 6 135), (135, vGoto 45), (138, vVret)]
theorem k_X12_readItems_0 : look a_X12_readItems 0 = vI 0 1 := rfl
theorem k_X12_readItems_1 : look a_X12_readItems 1 = vIstore 5 3 := rfl
theorem k_X12_readItems_3 : look a_X12_readItems 3 = vIload 5 5 := rfl
theorem k_X12_readItems_5 : look a_X12_readItems 5 = vAload 4 7 := rfl
theorem k_X12_readItems_7 : look a_X12_readItems 7 = vCallT w_J0_length_8abf5 0 10 := rfl
theorem k_X12_readItems_10 : look a_X12_readItems 10 = vIcGe 31 13 := rfl
theorem k_X12_readItems_13 : look a_X12_readItems 13 = vAload 2 14 := rfl
theorem k_X12_readItems_14 : look a_X12_readItems 14 = vIload 3 15 := rfl
theorem k_X12_readItems_15 : look a_X12_readItems 15 = vIload 5 17 := rfl
theorem k_X12_readItems_17 : look a_X12_readItems 17 = vIadd 18 := rfl
theorem k_X12_readItems_18 : look a_X12_readItems 18 = vIload 1 19 := rfl
theorem k_X12_readItems_19 : look a_X12_readItems 19 = vIload 5 21 := rfl
theorem k_X12_readItems_21 : look a_X12_readItems 21 = vCallS w_X12_usual 2 24 := rfl
theorem k_X12_readItems_24 : look a_X12_readItems 24 = vIast TT 25 := rfl
theorem k_X12_readItems_25 : look a_X12_readItems 25 = vIinc 5 1 28 := rfl
theorem k_X12_readItems_28 : look a_X12_readItems 28 = vGoto 3 := rfl
theorem k_X12_readItems_31 : look a_X12_readItems 31 = vI 0 32 := rfl
theorem k_X12_readItems_32 : look a_X12_readItems 32 = vIstore 5 34 := rfl
theorem k_X12_readItems_34 : look a_X12_readItems 34 = vAload 4 36 := rfl
theorem k_X12_readItems_36 : look a_X12_readItems 36 = vAload 0 37 := rfl
theorem k_X12_readItems_37 : look a_X12_readItems 37 = vCallM w_X12_look 28 0 40 := rfl
theorem k_X12_readItems_40 : look a_X12_readItems 40 = vCallS w_X12_spotOf 2 43 := rfl
theorem k_X12_readItems_43 : look a_X12_readItems 43 = vIstore 6 45 := rfl
theorem k_X12_readItems_45 : look a_X12_readItems 45 = vIload 6 47 := rfl
theorem k_X12_readItems_47 : look a_X12_readItems 47 = vI (-1) 48 := rfl
theorem k_X12_readItems_48 : look a_X12_readItems 48 = vIcEq 138 51 := rfl
theorem k_X12_readItems_51 : look a_X12_readItems 51 = vAload 0 52 := rfl
theorem k_X12_readItems_52 : look a_X12_readItems 52 = vGetI 28 11 55 := rfl
theorem k_X12_readItems_55 : look a_X12_readItems 55 = vI (-1) 56 := rfl
theorem k_X12_readItems_56 : look a_X12_readItems 56 = vIcNe 138 59 := rfl
theorem k_X12_readItems_59 : look a_X12_readItems 59 = vIload 5 61 := rfl
theorem k_X12_readItems_61 : look a_X12_readItems 61 = vIload 6 63 := rfl
theorem k_X12_readItems_63 : look a_X12_readItems 63 = vCallS w_X12_has 2 66 := rfl
theorem k_X12_readItems_66 : look a_X12_readItems 66 = vIfEq 75 69 := rfl
theorem k_X12_readItems_69 : look a_X12_readItems 69 = vAload 0 70 := rfl
theorem k_X12_readItems_70 : look a_X12_readItems 70 = vCallM w_X12_fails 28 0 73 := rfl
theorem k_X12_readItems_73 : look a_X12_readItems 73 = vPop 74 := rfl
theorem k_X12_readItems_74 : look a_X12_readItems 74 = vVret := rfl
theorem k_X12_readItems_75 : look a_X12_readItems 75 = vIload 5 77 := rfl
theorem k_X12_readItems_77 : look a_X12_readItems 77 = vI 1 78 := rfl
theorem k_X12_readItems_78 : look a_X12_readItems 78 = vIload 6 80 := rfl
theorem k_X12_readItems_80 : look a_X12_readItems 80 = vIshl 81 := rfl
theorem k_X12_readItems_81 : look a_X12_readItems 81 = vIor 82 := rfl
theorem k_X12_readItems_82 : look a_X12_readItems 82 = vIstore 5 84 := rfl
theorem k_X12_readItems_84 : look a_X12_readItems 84 = vAload 0 85 := rfl
theorem k_X12_readItems_85 : look a_X12_readItems 85 = vDup 86 := rfl
theorem k_X12_readItems_86 : look a_X12_readItems 86 = vGetI 28 10 89 := rfl
theorem k_X12_readItems_89 : look a_X12_readItems 89 = vI 1 90 := rfl
theorem k_X12_readItems_90 : look a_X12_readItems 90 = vIadd 91 := rfl
theorem k_X12_readItems_91 : look a_X12_readItems 91 = vPutI 28 10 94 := rfl
theorem k_X12_readItems_94 : look a_X12_readItems 94 = vAload 2 95 := rfl
theorem k_X12_readItems_95 : look a_X12_readItems 95 = vIload 3 96 := rfl
theorem k_X12_readItems_96 : look a_X12_readItems 96 = vIload 6 98 := rfl
theorem k_X12_readItems_98 : look a_X12_readItems 98 = vIadd 99 := rfl
theorem k_X12_readItems_99 : look a_X12_readItems 99 = vAload 0 100 := rfl
theorem k_X12_readItems_100 : look a_X12_readItems 100 = vIload 1 101 := rfl
theorem k_X12_readItems_101 : look a_X12_readItems 101 = vIload 6 103 := rfl
theorem k_X12_readItems_103 : look a_X12_readItems 103 = vCallS w_X12_leastOf 2 106 := rfl
theorem k_X12_readItems_106 : look a_X12_readItems 106 = vIload 1 107 := rfl
theorem k_X12_readItems_107 : look a_X12_readItems 107 = vIload 6 109 := rfl
theorem k_X12_readItems_109 : look a_X12_readItems 109 = vCallS w_X12_mostOf 2 112 := rfl
theorem k_X12_readItems_112 : look a_X12_readItems 112 = vCallM w_X12_number 28 2 115 := rfl
theorem k_X12_readItems_115 : look a_X12_readItems 115 = vIast TT 116 := rfl
theorem k_X12_readItems_116 : look a_X12_readItems 116 = vAload 0 117 := rfl
theorem k_X12_readItems_117 : look a_X12_readItems 117 = vGetI 28 11 120 := rfl
theorem k_X12_readItems_120 : look a_X12_readItems 120 = vI (-1) 121 := rfl
theorem k_X12_readItems_121 : look a_X12_readItems 121 = vIcNe 45 124 := rfl
theorem k_X12_readItems_124 : look a_X12_readItems 124 = vAload 4 126 := rfl
theorem k_X12_readItems_126 : look a_X12_readItems 126 = vAload 0 127 := rfl
theorem k_X12_readItems_127 : look a_X12_readItems 127 = vCallM w_X12_look 28 0 130 := rfl
theorem k_X12_readItems_130 : look a_X12_readItems 130 = vCallS w_X12_spotOf 2 133 := rfl
theorem k_X12_readItems_133 : look a_X12_readItems 133 = vIstore 6 135 := rfl
theorem k_X12_readItems_135 : look a_X12_readItems 135 = vGoto 45 := rfl
theorem k_X12_readItems_138 : look a_X12_readItems 138 = vVret := rfl
theorem o_X12_readItems {X : amX} (e1 : XT X = TT) (e2 : XD X = 5) (hB : amB X RX12 cX12_readItems (none) 7) : ∀ pc, amOK X pc (look a_X12_readItems pc) := by
  have hT : amTok (XT X) := e1 ▸ TT_ok
  refine look_ok ?_
  unfold a_X12_readItems
  refine fc (ok_iconst hB dX12_readItems_0) ?_
  refine fc (ok_istore hB (by decide) dX12_readItems_1) ?_
  refine fc (ok_iload hB dX12_readItems_3) ?_
  refine fc (ok_aload hB dX12_readItems_5) ?_
  refine fc (ok_callT hB (e1 ▸ s_J0_length_8abf5) lk_X12_114 (by rw [e2]; decide) rfl wd_435 wd_436 dX12_readItems_7) ?_
  refine fc (ok_icmp_ge hB (t := 31) (by decide) dX12_readItems_10) ?_
  refine fc (ok_aload_n hB dX12_readItems_13) ?_
  refine fc (ok_iload_n hB dX12_readItems_14) ?_
  refine fc (ok_iload hB dX12_readItems_15) ?_
  refine fc (ok_iadd hB dX12_readItems_17) ?_
  refine fc (ok_iload_n hB dX12_readItems_18) ?_
  refine fc (ok_iload hB dX12_readItems_19) ?_
  refine fc (ok_callS hB (e1 ▸ s_X12_usual) lk_X12_236 (by rw [e2]; decide) wd_1513 dX12_readItems_21) ?_
  refine fc (okt_iastore e1 hB dX12_readItems_24) ?_
  refine fc (ok_iinc hB (by decide) dX12_readItems_25) ?_
  refine fc (ok_goto hB (t := 3) (by decide) dX12_readItems_28) ?_
  refine fc (ok_iconst hB dX12_readItems_31) ?_
  refine fc (ok_istore hB (by decide) dX12_readItems_32) ?_
  refine fc (ok_aload hB dX12_readItems_34) ?_
  refine fc (ok_aload_n hB dX12_readItems_36) ?_
  refine fc (ok_callM hB hT (e1 ▸ s_X12_look) lk_X12_153 (by rw [e2]; decide) (c := 12) rfl rfl rfl wd_1521 sl_X12_look dX12_readItems_37) ?_
  refine fc (ok_callS hB (e1 ▸ s_X12_spotOf) lk_X12_240 (by rw [e2]; decide) wd_1534 dX12_readItems_40) ?_
  refine fc (ok_istore hB (by decide) dX12_readItems_43) ?_
  refine fc (ok_iload hB dX12_readItems_45) ?_
  refine fc (ok_iconst hB dX12_readItems_47) ?_
  refine fc (ok_icmp_eq hB (t := 138) (by decide) dX12_readItems_48) ?_
  refine fc (ok_aload_n hB dX12_readItems_51) ?_
  refine fc (ok_getI hB hT fl_X12_143 rfl rfl (Or.inl af_12_11) dX12_readItems_52) ?_
  refine fc (ok_iconst hB dX12_readItems_55) ?_
  refine fc (ok_icmp_ne hB (t := 138) (by decide) dX12_readItems_56) ?_
  refine fc (ok_iload hB dX12_readItems_59) ?_
  refine fc (ok_iload hB dX12_readItems_61) ?_
  refine fc (ok_callS hB (e1 ▸ s_X12_has) lk_X12_244 (by rw [e2]; decide) wd_1538 dX12_readItems_63) ?_
  refine fc (ok_if_eq hB (t := 75) (by decide) dX12_readItems_66) ?_
  refine fc (ok_aload_n hB dX12_readItems_69) ?_
  refine fc (ok_callM hB hT (e1 ▸ s_X12_fails) lk_X12_149 (by rw [e2]; decide) (c := 12) rfl rfl rfl wd_1525 sl_X12_fails dX12_readItems_70) ?_
  refine fc (ok_pop hB dX12_readItems_73) ?_
  refine fc (ok_vret hB dX12_readItems_74) ?_
  refine fc (ok_iload hB dX12_readItems_75) ?_
  refine fc (ok_iconst hB dX12_readItems_77) ?_
  refine fc (ok_iload hB dX12_readItems_78) ?_
  refine fc (ok_ishl hB dX12_readItems_80) ?_
  refine fc (ok_ior hB dX12_readItems_81) ?_
  refine fc (ok_istore hB (by decide) dX12_readItems_82) ?_
  refine fc (ok_aload_n hB dX12_readItems_84) ?_
  refine fc (ok_dup hB dX12_readItems_85) ?_
  refine fc (ok_getI hB hT fl_X12_134 rfl rfl (Or.inl af_12_10) dX12_readItems_86) ?_
  refine fc (ok_iconst hB dX12_readItems_89) ?_
  refine fc (ok_iadd hB dX12_readItems_90) ?_
  refine fc (ok_putI hB hT fp_X12_134 rfl rfl rfl af_12_10 dX12_readItems_91) ?_
  refine fc (ok_aload_n hB dX12_readItems_94) ?_
  refine fc (ok_iload_n hB dX12_readItems_95) ?_
  refine fc (ok_iload hB dX12_readItems_96) ?_
  refine fc (ok_iadd hB dX12_readItems_98) ?_
  refine fc (ok_aload_n hB dX12_readItems_99) ?_
  refine fc (ok_iload_n hB dX12_readItems_100) ?_
  refine fc (ok_iload hB dX12_readItems_101) ?_
  refine fc (ok_callS hB (e1 ▸ s_X12_leastOf) lk_X12_248 (by rw [e2]; decide) wd_1541 dX12_readItems_103) ?_
  refine fc (ok_iload_n hB dX12_readItems_106) ?_
  refine fc (ok_iload hB dX12_readItems_107) ?_
  refine fc (ok_callS hB (e1 ▸ s_X12_mostOf) lk_X12_251 (by rw [e2]; decide) wd_1544 dX12_readItems_109) ?_
  refine fc (ok_callM hB hT (e1 ▸ s_X12_number) lk_X12_254 (by rw [e2]; decide) (c := 12) rfl rfl rfl wd_1548 sl_X12_number dX12_readItems_112) ?_
  refine fc (okt_iastore e1 hB dX12_readItems_115) ?_
  refine fc (ok_aload_n hB dX12_readItems_116) ?_
  refine fc (ok_getI hB hT fl_X12_143 rfl rfl (Or.inl af_12_11) dX12_readItems_117) ?_
  refine fc (ok_iconst hB dX12_readItems_120) ?_
  refine fc (ok_icmp_ne hB (t := 45) (by decide) dX12_readItems_121) ?_
  refine fc (ok_aload hB dX12_readItems_124) ?_
  refine fc (ok_aload_n hB dX12_readItems_126) ?_
  refine fc (ok_callM hB hT (e1 ▸ s_X12_look) lk_X12_153 (by rw [e2]; decide) (c := 12) rfl rfl rfl wd_1521 sl_X12_look dX12_readItems_127) ?_
  refine fc (ok_callS hB (e1 ▸ s_X12_spotOf) lk_X12_240 (by rw [e2]; decide) wd_1534 dX12_readItems_130) ?_
  refine fc (ok_istore hB (by decide) dX12_readItems_133) ?_
  refine fc (ok_goto hB (t := 45) (by decide) dX12_readItems_135) ?_
  refine fc (ok_vret hB dX12_readItems_138) ?_
  exact fn
def inv_rit (m : Mem) (cc v : Int → Int) (p k i c a r z L : Int) (R : Int × Int × (Int → Int)) (n pc : Nat) (ls st : List AV) (σ' : Mem) : Prop := st = [] ∧
  ((∃ j : Nat, pc = 3 ∧ ls = [(28, 5000), (0, c), (8, a), (0, r), (4, z), (0, (j : Int)), (6, 0)] ∧ σ' = hoN m p (-1) cc (flv v k i j) ∧ (j : Int) ≤ L ∧ (n : Int) = 10 + L - j) ∨
   (∃ (f : Nat) (told q : Int) (v' : Int → Int), pc = 45 ∧ n = f + 1 ∧ ls = [(28, 5000), (0, c), (8, a), (0, r), (4, z), (0, told), (0, itemF k (mtx m (sk (mtx m) (m 5000 9) q)))] ∧ σ' = hoN m (sk (mtx m) (m 5000 9) q) (-1) cc v' ∧ 0 ≤ told ∧ told < 16 ∧ bc4 told + f = 5 ∧ 0 ≤ q ∧ q ≤ m 5000 9 ∧ rowB v' ∧ hIt (mtx m) (m 5000 9) k (firstK k + i) f told q v' = R) ∨
   (∃ (told w x q : Int) (v' : Int → Int), pc = 45 ∧ n = 0 ∧ ls = [(28, 5000), (0, c), (8, a), (0, r), (4, z), (0, told), (0, w)] ∧ InR w ∧ σ' = hoN m q x cc v' ∧ 0 ≤ x ∧ x ≤ 250 ∧ rowB v' ∧ R.1 = x))
def w_X12_readItems : WP := fun av σ Q => ∃ (c : Int) (a : Int) (r : Int) (z : Int), av = [(28, 5000), (0, c), (8, a), (0, r), (4, z)] ∧ (∃ (m : Mem) (p : Int) (cc v : Int → Int) (k i : Int), σ = hoN m p (-1) cc v ∧ c = kch k ∧ a = kid k ∧ r = i * kln k ∧ z = 20006 + k ∧ 0 ≤ k ∧ k < 4 ∧ 0 ≤ i ∧ i < mostK k ∧ txOk m ∧ 0 ≤ p ∧ p ≤ m 5000 9 ∧ rowB v ∧ ((hRi m p v k i).1 = -1 → Q (6, 0) (hoN m (hRi m p v k i).2.1 (-1) cc (hRi m p v k i).2.2)) ∧ ((hRi m p v k i).1 ≠ -1 → (∀ q v', rowB v' → Q (6, 0) (hoN m q (hRi m p v k i).1 cc v')) ∧ (∀ v', rowB v' → mtx m (hRi m p v k i).1 ≠ -1 → mtx m (hRi m p v k i).1 ≠ 59 → sk (mtx m) (m 5000 9) (hRi m p v k i).1 = (hRi m p v k i).1 → Q (6, 0) (hoN m (hRi m p v k i).1 (-1) cc v'))))
theorem w_X12_readItems_e (c : Int) (a : Int) (r : Int) (z : Int) (σ : Mem) (Q : AV → Mem → Prop) : w_X12_readItems [(28, 5000), (0, c), (8, a), (0, r), (4, z)] σ Q = (∃ (m : Mem) (p : Int) (cc v : Int → Int) (k i : Int), σ = hoN m p (-1) cc v ∧ c = kch k ∧ a = kid k ∧ r = i * kln k ∧ z = 20006 + k ∧ 0 ≤ k ∧ k < 4 ∧ 0 ≤ i ∧ i < mostK k ∧ txOk m ∧ 0 ≤ p ∧ p ≤ m 5000 9 ∧ rowB v ∧ ((hRi m p v k i).1 = -1 → Q (6, 0) (hoN m (hRi m p v k i).2.1 (-1) cc (hRi m p v k i).2.2)) ∧ ((hRi m p v k i).1 ≠ -1 → (∀ q v', rowB v' → Q (6, 0) (hoN m q (hRi m p v k i).1 cc v')) ∧ (∀ v', rowB v' → mtx m (hRi m p v k i).1 ≠ -1 → mtx m (hRi m p v k i).1 ≠ 59 → sk (mtx m) (m 5000 9) (hRi m p v k i).1 = (hRi m p v k i).1 → Q (6, 0) (hoN m (hRi m p v k i).1 (-1) cc v')))) := by
  apply propext; constructor
  · rintro ⟨c', a', r', z', h9, hb9⟩; cases h9; exact hb9
  · intro hb9; exact ⟨c, a, r, z, rfl, hb9⟩

set_option maxRecDepth 100000 in
set_option maxHeartbeats 4000000 in
theorem s_X12_readItems : ∀ av σ Q, w_X12_readItems av σ Q → amCall 5 0 0 TT yX12_readItems cX12_readItems 7 (none) av σ Q := by
  rintro av σ Q ⟨c, a, r, z, rfl, m, p, cc, v, k, i, rfl, hc, ha, hr, hz, k0, k1, i0, i1, ht, p0, p1, hvB, hq1, hq2⟩
  have n0 := ht.1
  have n1 := ht.2.1
  have hte := mtx_n ht
  have kb := kln_b k
  have cb := kch_b k
  have kv := fun w (w0 : 0 ≤ w) (w1 : w < kln k) => kvals' k0 k1 w0 w1
  have sb := fun w (w0 : 0 ≤ w) (w1 : w < 4) => sav_b (i := k * 4 + w) (by omega) (by omega)
  have al : ∀ τ, alen TT τ a = mostK k * kln k := fun τ => by rw [ha]; exact (kid_al k0 k1 τ).1
  have Ab := (kid_al k0 k1 (fun _ _ => 0)).2
  rw [← ha] at Ab
  have a0 : 0 ≤ a := by omega
  have hsl := fun w (w0 : 0 ≤ w) (w1 : w < kln k) => (slo_k k0 k1 i0 i1 w0 w1).2
  have ssl : stl (z + 100) = kln k := by rw [hz]; exact stl_it k0 k1
  have itm := fun s (hs : s ≠ 32) => itm_e k0 k1 (s := s) hs
  have hw : ∀ p f c v w x, 0 ≤ w → w < kln k → up (hoN m p f c v) a (r + w) x = hoN m p f c (upf v ((firstK k + i) * 4 + w) x) := fun p f c v w x w0 w1 => by rw [ha, hr]; exact ho_w k0 k1 i0 i1 w0 w1
  have hfl : ∀ p f, hoN m p f cc (flv v k i (kln k)) = hoN m p f cc (filv v k i) := fun p f => ho_fl k0 k1 i0 i1
  rw [← hr] at hsl
  rw [← hc] at kv cb
  rw [← hz] at itm
  have z0 : 20000 ≤ z ∧ z < 20011 := by omega
  have Mt : ∀ p f c v, mtx (hoN m p f c v) = mtx m := fun p f c v => (ho_tx ht p f c v).1
  have MtO : ∀ p f c v, txOk (hoN m p f c v) = True := fun p f c v => eq_true (ho_tx ht p f c v).2
  unfold hRi at hq1 hq2
  generalize hR : hIt (mtx m) (m 5000 9) k (firstK k + i) 5 0 p (filv v k i) = R at hq1 hq2
  generalize mostK k * kln k = A at *
  generalize hL : kln k = L at *
  refine am_m [3, 45] (inv_rit m cc v p k i c a r z L R) (own := RX12) (A := look a_X12_readItems) (fun X e1 e2 hB => o_X12_readItems e1 e2 hB) rfl (by decide +kernel) rfl rfl ?_ ⟨60, ?_⟩ (w := 7)
  · rintro n pc ls st σ' ⟨rfl, ⟨j, rfl, rfl, rfl, hj, hn⟩ | ⟨f, told, q, v', rfl, rfl, rfl, rfl, t0, t1, hb, q0, q1, vB, hI⟩ | ⟨told, w, x, q, v', rfl, rfl, rfl, w9, rfl, x0, x1, vB, hx⟩⟩
    · by_cases cj : (j : Int) < L
      · have e9 : up (hoN m p (-1) cc (flv v k i j)) a (r + j) (usuV c j) = hoN m p (-1) cc (flv v k i ((j : Int) + 1)) := by
          rw [hw _ _ _ _ _ _ (by omega) cj, (kv j (by omega) cj).2.2, flv_s v k i (by omega)]
        have i9 : ∃ k', k' < n ∧ inv_rit m cc v p k i c a r z L R k' 3 [(28, 5000), (0, c), (8, a), (0, r), (4, z), (0, (j : Int) + 1), (6, 0)] [] (hoN m p (-1) cc (flv v k i ((j : Int) + 1))) := ⟨n - 1, by omega, rfl, Or.inl ⟨j + 1, rfl, rfl, rfl, by omega, by omega⟩⟩
        have hs := hsl j (by omega) cj
        refine ⟨60, ?_⟩
        simp only [↓reduceIte, inR_0, inR_1, inR_m, vSw2_e, swP_n, swP_c, vI_e, vL_e, vNull_e, vIload_e, vLload_e, vAload_e, vIstore_e, vLstore_e, vAstore_e, vIinc_e, vIadd_e, vIsub_e, vImul_e, vIand_e, vIor_e, vIxor_e, vIshl_e, vIshr_e, vIushr_e, vIdiv_e, vIrem_e, vLadd_e, vLsub_e, vLmul_e, vLand_e, vLor_e, vLxor_e, vLdiv_e, vLrem_e, vLushr_e, vLshl_e, vLcmp_e, vIneg_e, vI2l_e, vL2i_e, vI2b_e, vI2c_e, vDup_e, vPop_e, vDup2_e, vGoto_e, vIcEq_e, vIfEq_e, vIcNe_e, vIfNe_e, vIcLt_e, vIfLt_e, vIcGe_e, vIfGe_e, vIcGt_e, vIfGt_e, vIcLe_e, vIfLe_e, vNonnull_e, vSw_e, vGetI_e, vGetL_e, vGetR_e, vPutI_e, vPutZ_e, vPutL_e, vPutR_e, vIald_e, vIald_s, vLald_e, vBald_e, vBald_s, vAald_e, vIast_e, vLast_e, vBast_e, vAast_e, vAlen_e8, vAlen_e9, vAlen_e10, vAlen_e11, vAlen_e5, vAlen_e3, vGets_e, vCompact_e, vLdcS_e, vIret_e, vZret_e, vCret_e, vBret_e, vLret_e, vVret_e, vAret_e, vCallM_e0, vCallMV_e0, vCallS_e0, vCallSV_e0, vCallM_e1, vCallMV_e1, vCallS_e1, vCallSV_e1, vCallM_e2, vCallMV_e2, vCallS_e2, vCallSV_e2, vCallM_e3, vCallMV_e3, vCallS_e3, vCallSV_e3, vCallM_e4, vCallMV_e4, vCallS_e4, vCallSV_e4, vCallM_e5, vCallMV_e5, vCallS_e5, vCallSV_e5, vCallM_e6, vCallMV_e6, vCallS_e6, vCallSV_e6, vCallM_e7, vCallMV_e7, vCallS_e7, vCallSV_e7, vBad_e, vStrVal_e, vStrCod_e, vForm_e, vCallT_e0, vCallT_e1, vCallT_e2, vCopy_e, rf_0_0, rf_0_1, rf_0_2, rf_0_3, rf_0_4, rf_0_7, rf_0_10, rf_0_11, rf_0_12, rf_0_13, rf_0_14, rf_0_15, rf_0_16, rf_1_0, rf_3_0, rf_3_1, rf_6_0, rf_6_1, rf_9_0, rf_9_1, rf_9_3, rf_13_0, rf_13_1, rf_13_2, rf_16_0, rf_16_1, rf_16_2, rf_16_3, rf_21_0, rf_21_1, rf_21_2, rf_21_3, rf_26_0, rf_26_1, rf_26_2, rf_26_3, rf_26_4, rf_26_5, rf_26_6, rf_31_0, rf_31_2, rf_31_5, rf_31_6, rf_36_0, rf_36_1, rf_36_2, rf_36_3, rf_39_0, rf_39_1, rf_39_2, rf_41_0, rf_41_1, rf_41_2, rf_41_3, rf_5000_1, rf_5000_2, rf_5000_3, rf_5000_4, rf_5000_5, rf_5000_15, rf_5000_16, rf_5000_18, rf_5000_19, rf_5000_20, rf_5000_21, rf_5000_22, rf_5000_23, rf_5000_24, rf_5000_25, rf_5000_26, rf_5000_27, rf_5000_36, rf_5000_37, rf_5000_40, rf_5000_41, rf_5000_42, rf_5000_43, rf_5000_44, rf_5000_45, rf_5000_47, rf_5000_52, rf_5000_54, rf_5000_55, rf_100_0, rf_100_1, rf_103_0, rf_103_1, rf_106_0, rf_106_1, rf_109_0, rf_109_1, al_2, al_4, al_5, al_7, al_8, al_10, al_11, al_12, al_14, al_15, al_17, al_18, al_19, al_20, al_22, al_23, al_24, al_25, al_27, al_28, al_29, al_30, al_32, al_33, al_34, al_35, al_37, al_38, al_40, al_42, al_5001, al_5002, al_5003, al_5004, al_5005, al_5006, al_5007, al_5008, al_5009, al_5010, al_5011, al_5012, al_5013, al_5014, al_5015, al_5016, al_5017, al_5018, al_5019, al_5020, al_5021, al_5022, al_5023, al_5024, al_5025, al_5026, al_9000, al_101, al_102, al_104, al_105, al_107, al_108, al_110, al_111, vcs_e, lg_c0, lg_cs, lg_nil, set_c0, set_cs, okst_0, okst_s, acok_n, acok_c, List.contains_nil, List.contains_cons, Bool.or_false, Bool.false_or, Bool.false_eq_true, if_false, if_true, ite_self, ne_eq, true_and, and_true, not_false_eq_true, not_true_eq_false, false_imp_iff, true_imp_iff, Nat.ble_eq, Bool.and_eq_true, reduceCtorEq, or_false, false_or, or_true, true_or, false_and, and_false, and_self, Int.reduceLE, Int.reduceAdd, Int.reduceSub, Int.reduceMul, Int.reduceNeg, Int.reduceLT, Int.reduceEq, Int.reduceNe, Nat.reduceBEq, Nat.reduceBNe, Nat.reduceEqDiff, amCmp_in, amCmp_lt, amCmp_le, amCmp_gt, amCmp_ge, amCmp_eq, amCmp_ne, Nat.reduceLeDiff, Nat.reduceSub, Bool.and_true, Bool.true_and, Bool.and_self, Bool.or_true, Bool.true_or, isRf_3, isRf_4, isRf_5, isRf_8, isRf_9, isRf_10, isRf_11, isRf_15, isRf_16, isRf_17, isRf_18, isRf_19, isRf_20, isRf_21, isRf_22, isRf_23, isRf_24, isRf_25, isRf_26, isRf_27, isRf_28, k_X12_readItems_0, k_X12_readItems_1, k_X12_readItems_3, k_X12_readItems_5, k_X12_readItems_7, k_X12_readItems_10, k_X12_readItems_13, k_X12_readItems_14, k_X12_readItems_15, k_X12_readItems_17, k_X12_readItems_18, k_X12_readItems_19, k_X12_readItems_21, k_X12_readItems_24, k_X12_readItems_25, k_X12_readItems_28, k_X12_readItems_31, k_X12_readItems_32, k_X12_readItems_34, k_X12_readItems_36, k_X12_readItems_37, k_X12_readItems_40, k_X12_readItems_43, k_X12_readItems_45, k_X12_readItems_47, k_X12_readItems_48, k_X12_readItems_51, k_X12_readItems_52, k_X12_readItems_55, k_X12_readItems_56, k_X12_readItems_59, k_X12_readItems_61, k_X12_readItems_63, k_X12_readItems_66, k_X12_readItems_69, k_X12_readItems_70, k_X12_readItems_73, k_X12_readItems_74, k_X12_readItems_75, k_X12_readItems_77, k_X12_readItems_78, k_X12_readItems_80, k_X12_readItems_81, k_X12_readItems_82, k_X12_readItems_84, k_X12_readItems_85, k_X12_readItems_86, k_X12_readItems_89, k_X12_readItems_90, k_X12_readItems_91, k_X12_readItems_94, k_X12_readItems_95, k_X12_readItems_96, k_X12_readItems_98, k_X12_readItems_99, k_X12_readItems_100, k_X12_readItems_101, k_X12_readItems_103, k_X12_readItems_106, k_X12_readItems_107, k_X12_readItems_109, k_X12_readItems_112, k_X12_readItems_115, k_X12_readItems_116, k_X12_readItems_117, k_X12_readItems_120, k_X12_readItems_121, k_X12_readItems_124, k_X12_readItems_126, k_X12_readItems_127, k_X12_readItems_130, k_X12_readItems_133, k_X12_readItems_135, k_X12_readItems_138, w_J0_length_8abf5_e, w_X12_fails_e, w_X12_has_e, w_X12_leastOf_e, w_X12_look_e, w_X12_mostOf_e, w_X12_number_e, w_X12_spotOf_e, w_X12_usual_e, ssl, al, a0, e9]
        repeat' (first | apply And.intro | intro _)
        all_goals first | omega | exact absurd trivial (by assumption) | exact i9 | exact ⟨by omega, by omega⟩ | trivial
      · have ej : (j : Int) = L := by omega
        rw [ej, hfl]
        have s1 := sk_b (mtx m) p1
        have b1 := mtx_b ht (sk (mtx m) (m 5000 9) p)
        have fb := itemF_b k (mtx m (sk (mtx m) (m 5000 9) p))
        have ei := (itm (mtx m (sk (mtx m) (m 5000 9) p)) (sk_32 hte p)).1
        have i9 : ∃ k', k' < n ∧ inv_rit m cc v p k i c a r z L R k' 45 [(28, 5000), (0, c), (8, a), (0, r), (4, z), (0, 0), (0, itemF k (mtx m (sk (mtx m) (m 5000 9) p)))] [] (hoN m (sk (mtx m) (m 5000 9) p) (-1) cc (filv v k i)) := ⟨6, by omega, rfl, Or.inr (Or.inl ⟨5, 0, p, _, rfl, rfl, rfl, rfl, by decide, by decide, by decide, p0, p1, filv_B hvB _ _, hR⟩)⟩
        refine ⟨60, ?_⟩
        simp only [↓reduceIte, inR_0, inR_1, inR_m, vSw2_e, swP_n, swP_c, vI_e, vL_e, vNull_e, vIload_e, vLload_e, vAload_e, vIstore_e, vLstore_e, vAstore_e, vIinc_e, vIadd_e, vIsub_e, vImul_e, vIand_e, vIor_e, vIxor_e, vIshl_e, vIshr_e, vIushr_e, vIdiv_e, vIrem_e, vLadd_e, vLsub_e, vLmul_e, vLand_e, vLor_e, vLxor_e, vLdiv_e, vLrem_e, vLushr_e, vLshl_e, vLcmp_e, vIneg_e, vI2l_e, vL2i_e, vI2b_e, vI2c_e, vDup_e, vPop_e, vDup2_e, vGoto_e, vIcEq_e, vIfEq_e, vIcNe_e, vIfNe_e, vIcLt_e, vIfLt_e, vIcGe_e, vIfGe_e, vIcGt_e, vIfGt_e, vIcLe_e, vIfLe_e, vNonnull_e, vSw_e, vGetI_e, vGetL_e, vGetR_e, vPutI_e, vPutZ_e, vPutL_e, vPutR_e, vIald_e, vIald_s, vLald_e, vBald_e, vBald_s, vAald_e, vIast_e, vLast_e, vBast_e, vAast_e, vAlen_e8, vAlen_e9, vAlen_e10, vAlen_e11, vAlen_e5, vAlen_e3, vGets_e, vCompact_e, vLdcS_e, vIret_e, vZret_e, vCret_e, vBret_e, vLret_e, vVret_e, vAret_e, vCallM_e0, vCallMV_e0, vCallS_e0, vCallSV_e0, vCallM_e1, vCallMV_e1, vCallS_e1, vCallSV_e1, vCallM_e2, vCallMV_e2, vCallS_e2, vCallSV_e2, vCallM_e3, vCallMV_e3, vCallS_e3, vCallSV_e3, vCallM_e4, vCallMV_e4, vCallS_e4, vCallSV_e4, vCallM_e5, vCallMV_e5, vCallS_e5, vCallSV_e5, vCallM_e6, vCallMV_e6, vCallS_e6, vCallSV_e6, vCallM_e7, vCallMV_e7, vCallS_e7, vCallSV_e7, vBad_e, vStrVal_e, vStrCod_e, vForm_e, vCallT_e0, vCallT_e1, vCallT_e2, vCopy_e, rf_0_0, rf_0_1, rf_0_2, rf_0_3, rf_0_4, rf_0_7, rf_0_10, rf_0_11, rf_0_12, rf_0_13, rf_0_14, rf_0_15, rf_0_16, rf_1_0, rf_3_0, rf_3_1, rf_6_0, rf_6_1, rf_9_0, rf_9_1, rf_9_3, rf_13_0, rf_13_1, rf_13_2, rf_16_0, rf_16_1, rf_16_2, rf_16_3, rf_21_0, rf_21_1, rf_21_2, rf_21_3, rf_26_0, rf_26_1, rf_26_2, rf_26_3, rf_26_4, rf_26_5, rf_26_6, rf_31_0, rf_31_2, rf_31_5, rf_31_6, rf_36_0, rf_36_1, rf_36_2, rf_36_3, rf_39_0, rf_39_1, rf_39_2, rf_41_0, rf_41_1, rf_41_2, rf_41_3, rf_5000_1, rf_5000_2, rf_5000_3, rf_5000_4, rf_5000_5, rf_5000_15, rf_5000_16, rf_5000_18, rf_5000_19, rf_5000_20, rf_5000_21, rf_5000_22, rf_5000_23, rf_5000_24, rf_5000_25, rf_5000_26, rf_5000_27, rf_5000_36, rf_5000_37, rf_5000_40, rf_5000_41, rf_5000_42, rf_5000_43, rf_5000_44, rf_5000_45, rf_5000_47, rf_5000_52, rf_5000_54, rf_5000_55, rf_100_0, rf_100_1, rf_103_0, rf_103_1, rf_106_0, rf_106_1, rf_109_0, rf_109_1, al_2, al_4, al_5, al_7, al_8, al_10, al_11, al_12, al_14, al_15, al_17, al_18, al_19, al_20, al_22, al_23, al_24, al_25, al_27, al_28, al_29, al_30, al_32, al_33, al_34, al_35, al_37, al_38, al_40, al_42, al_5001, al_5002, al_5003, al_5004, al_5005, al_5006, al_5007, al_5008, al_5009, al_5010, al_5011, al_5012, al_5013, al_5014, al_5015, al_5016, al_5017, al_5018, al_5019, al_5020, al_5021, al_5022, al_5023, al_5024, al_5025, al_5026, al_9000, al_101, al_102, al_104, al_105, al_107, al_108, al_110, al_111, vcs_e, lg_c0, lg_cs, lg_nil, set_c0, set_cs, okst_0, okst_s, acok_n, acok_c, List.contains_nil, List.contains_cons, Bool.or_false, Bool.false_or, Bool.false_eq_true, if_false, if_true, ite_self, ne_eq, true_and, and_true, not_false_eq_true, not_true_eq_false, false_imp_iff, true_imp_iff, Nat.ble_eq, Bool.and_eq_true, reduceCtorEq, or_false, false_or, or_true, true_or, false_and, and_false, and_self, Int.reduceLE, Int.reduceAdd, Int.reduceSub, Int.reduceMul, Int.reduceNeg, Int.reduceLT, Int.reduceEq, Int.reduceNe, Nat.reduceBEq, Nat.reduceBNe, Nat.reduceEqDiff, amCmp_in, amCmp_lt, amCmp_le, amCmp_gt, amCmp_ge, amCmp_eq, amCmp_ne, Nat.reduceLeDiff, Nat.reduceSub, Bool.and_true, Bool.true_and, Bool.and_self, Bool.or_true, Bool.true_or, isRf_3, isRf_4, isRf_5, isRf_8, isRf_9, isRf_10, isRf_11, isRf_15, isRf_16, isRf_17, isRf_18, isRf_19, isRf_20, isRf_21, isRf_22, isRf_23, isRf_24, isRf_25, isRf_26, isRf_27, isRf_28, k_X12_readItems_0, k_X12_readItems_1, k_X12_readItems_3, k_X12_readItems_5, k_X12_readItems_7, k_X12_readItems_10, k_X12_readItems_13, k_X12_readItems_14, k_X12_readItems_15, k_X12_readItems_17, k_X12_readItems_18, k_X12_readItems_19, k_X12_readItems_21, k_X12_readItems_24, k_X12_readItems_25, k_X12_readItems_28, k_X12_readItems_31, k_X12_readItems_32, k_X12_readItems_34, k_X12_readItems_36, k_X12_readItems_37, k_X12_readItems_40, k_X12_readItems_43, k_X12_readItems_45, k_X12_readItems_47, k_X12_readItems_48, k_X12_readItems_51, k_X12_readItems_52, k_X12_readItems_55, k_X12_readItems_56, k_X12_readItems_59, k_X12_readItems_61, k_X12_readItems_63, k_X12_readItems_66, k_X12_readItems_69, k_X12_readItems_70, k_X12_readItems_73, k_X12_readItems_74, k_X12_readItems_75, k_X12_readItems_77, k_X12_readItems_78, k_X12_readItems_80, k_X12_readItems_81, k_X12_readItems_82, k_X12_readItems_84, k_X12_readItems_85, k_X12_readItems_86, k_X12_readItems_89, k_X12_readItems_90, k_X12_readItems_91, k_X12_readItems_94, k_X12_readItems_95, k_X12_readItems_96, k_X12_readItems_98, k_X12_readItems_99, k_X12_readItems_100, k_X12_readItems_101, k_X12_readItems_103, k_X12_readItems_106, k_X12_readItems_107, k_X12_readItems_109, k_X12_readItems_112, k_X12_readItems_115, k_X12_readItems_116, k_X12_readItems_117, k_X12_readItems_120, k_X12_readItems_121, k_X12_readItems_124, k_X12_readItems_126, k_X12_readItems_127, k_X12_readItems_130, k_X12_readItems_133, k_X12_readItems_135, k_X12_readItems_138, w_J0_length_8abf5_e, w_X12_fails_e, w_X12_has_e, w_X12_leastOf_e, w_X12_look_e, w_X12_mostOf_e, w_X12_number_e, w_X12_spotOf_e, w_X12_usual_e, ssl, msk, Mt, MtO, ho_10, ho_9, ho_11, ho_u10, ei]
        repeat' (first | apply And.intro | intro _)
        all_goals first | omega | exact absurd trivial (by assumption) | exact i9 | exact ⟨by omega, by omega⟩ | trivial
    · have bb := bc4_b told
      obtain ⟨f', rfl⟩ : ∃ f', f = f' + 1 := ⟨f - 1, by omega⟩
      have s1 := sk_b (mtx m) q1
      have ss := sk_sk (mtx m) q1
      have b1 := mtx_b ht (sk (mtx m) (m 5000 9) q)
      have fb := itemF_b k (mtx m (sk (mtx m) (m 5000 9) q))
      have ei := (itm (mtx m (sk (mtx m) (m 5000 9) q)) (sk_32 hte q)).2
      have im := itm_m (k := k) (s := mtx m (sk (mtx m) (m 5000 9) q))
      unfold hIt at hI
      generalize hqs : sk (mtx m) (m 5000 9) q = s at *
      generalize hw9 : itemF k (mtx m s) = w at *
      refine ⟨90, ?_⟩
      by_cases cw : w = -1
      · have q9 : Q (6, 0) (hoN m s (-1) cc v') := by
          by_cases ce : mtx m s = -1 ∨ mtx m s = 59
          · rw [if_pos ce] at hI
            have := hq1 (by rw [← hI])
            rw [← hI] at this; exact this
          · rw [if_neg ce, if_pos (Or.inl cw)] at hI
            have hR1 : R.1 = s := by rw [← hI]
            have := (hq2 (by rw [hR1]; omega)).2 v' vB
            rw [hR1] at this
            exact this (by omega) (by omega) ss
        simp only [↓reduceIte, inR_0, inR_1, inR_m, vSw2_e, swP_n, swP_c, vI_e, vL_e, vNull_e, vIload_e, vLload_e, vAload_e, vIstore_e, vLstore_e, vAstore_e, vIinc_e, vIadd_e, vIsub_e, vImul_e, vIand_e, vIor_e, vIxor_e, vIshl_e, vIshr_e, vIushr_e, vIdiv_e, vIrem_e, vLadd_e, vLsub_e, vLmul_e, vLand_e, vLor_e, vLxor_e, vLdiv_e, vLrem_e, vLushr_e, vLshl_e, vLcmp_e, vIneg_e, vI2l_e, vL2i_e, vI2b_e, vI2c_e, vDup_e, vPop_e, vDup2_e, vGoto_e, vIcEq_e, vIfEq_e, vIcNe_e, vIfNe_e, vIcLt_e, vIfLt_e, vIcGe_e, vIfGe_e, vIcGt_e, vIfGt_e, vIcLe_e, vIfLe_e, vNonnull_e, vSw_e, vGetI_e, vGetL_e, vGetR_e, vPutI_e, vPutZ_e, vPutL_e, vPutR_e, vIald_e, vIald_s, vLald_e, vBald_e, vBald_s, vAald_e, vIast_e, vLast_e, vBast_e, vAast_e, vAlen_e8, vAlen_e9, vAlen_e10, vAlen_e11, vAlen_e5, vAlen_e3, vGets_e, vCompact_e, vLdcS_e, vIret_e, vZret_e, vCret_e, vBret_e, vLret_e, vVret_e, vAret_e, vCallM_e0, vCallMV_e0, vCallS_e0, vCallSV_e0, vCallM_e1, vCallMV_e1, vCallS_e1, vCallSV_e1, vCallM_e2, vCallMV_e2, vCallS_e2, vCallSV_e2, vCallM_e3, vCallMV_e3, vCallS_e3, vCallSV_e3, vCallM_e4, vCallMV_e4, vCallS_e4, vCallSV_e4, vCallM_e5, vCallMV_e5, vCallS_e5, vCallSV_e5, vCallM_e6, vCallMV_e6, vCallS_e6, vCallSV_e6, vCallM_e7, vCallMV_e7, vCallS_e7, vCallSV_e7, vBad_e, vStrVal_e, vStrCod_e, vForm_e, vCallT_e0, vCallT_e1, vCallT_e2, vCopy_e, rf_0_0, rf_0_1, rf_0_2, rf_0_3, rf_0_4, rf_0_7, rf_0_10, rf_0_11, rf_0_12, rf_0_13, rf_0_14, rf_0_15, rf_0_16, rf_1_0, rf_3_0, rf_3_1, rf_6_0, rf_6_1, rf_9_0, rf_9_1, rf_9_3, rf_13_0, rf_13_1, rf_13_2, rf_16_0, rf_16_1, rf_16_2, rf_16_3, rf_21_0, rf_21_1, rf_21_2, rf_21_3, rf_26_0, rf_26_1, rf_26_2, rf_26_3, rf_26_4, rf_26_5, rf_26_6, rf_31_0, rf_31_2, rf_31_5, rf_31_6, rf_36_0, rf_36_1, rf_36_2, rf_36_3, rf_39_0, rf_39_1, rf_39_2, rf_41_0, rf_41_1, rf_41_2, rf_41_3, rf_5000_1, rf_5000_2, rf_5000_3, rf_5000_4, rf_5000_5, rf_5000_15, rf_5000_16, rf_5000_18, rf_5000_19, rf_5000_20, rf_5000_21, rf_5000_22, rf_5000_23, rf_5000_24, rf_5000_25, rf_5000_26, rf_5000_27, rf_5000_36, rf_5000_37, rf_5000_40, rf_5000_41, rf_5000_42, rf_5000_43, rf_5000_44, rf_5000_45, rf_5000_47, rf_5000_52, rf_5000_54, rf_5000_55, rf_100_0, rf_100_1, rf_103_0, rf_103_1, rf_106_0, rf_106_1, rf_109_0, rf_109_1, al_2, al_4, al_5, al_7, al_8, al_10, al_11, al_12, al_14, al_15, al_17, al_18, al_19, al_20, al_22, al_23, al_24, al_25, al_27, al_28, al_29, al_30, al_32, al_33, al_34, al_35, al_37, al_38, al_40, al_42, al_5001, al_5002, al_5003, al_5004, al_5005, al_5006, al_5007, al_5008, al_5009, al_5010, al_5011, al_5012, al_5013, al_5014, al_5015, al_5016, al_5017, al_5018, al_5019, al_5020, al_5021, al_5022, al_5023, al_5024, al_5025, al_5026, al_9000, al_101, al_102, al_104, al_105, al_107, al_108, al_110, al_111, vcs_e, lg_c0, lg_cs, lg_nil, set_c0, set_cs, okst_0, okst_s, acok_n, acok_c, List.contains_nil, List.contains_cons, Bool.or_false, Bool.false_or, Bool.false_eq_true, if_false, if_true, ite_self, ne_eq, true_and, and_true, not_false_eq_true, not_true_eq_false, false_imp_iff, true_imp_iff, Nat.ble_eq, Bool.and_eq_true, reduceCtorEq, or_false, false_or, or_true, true_or, false_and, and_false, and_self, Int.reduceLE, Int.reduceAdd, Int.reduceSub, Int.reduceMul, Int.reduceNeg, Int.reduceLT, Int.reduceEq, Int.reduceNe, Nat.reduceBEq, Nat.reduceBNe, Nat.reduceEqDiff, amCmp_in, amCmp_lt, amCmp_le, amCmp_gt, amCmp_ge, amCmp_eq, amCmp_ne, Nat.reduceLeDiff, Nat.reduceSub, Bool.and_true, Bool.true_and, Bool.and_self, Bool.or_true, Bool.true_or, isRf_3, isRf_4, isRf_5, isRf_8, isRf_9, isRf_10, isRf_11, isRf_15, isRf_16, isRf_17, isRf_18, isRf_19, isRf_20, isRf_21, isRf_22, isRf_23, isRf_24, isRf_25, isRf_26, isRf_27, isRf_28, k_X12_readItems_0, k_X12_readItems_1, k_X12_readItems_3, k_X12_readItems_5, k_X12_readItems_7, k_X12_readItems_10, k_X12_readItems_13, k_X12_readItems_14, k_X12_readItems_15, k_X12_readItems_17, k_X12_readItems_18, k_X12_readItems_19, k_X12_readItems_21, k_X12_readItems_24, k_X12_readItems_25, k_X12_readItems_28, k_X12_readItems_31, k_X12_readItems_32, k_X12_readItems_34, k_X12_readItems_36, k_X12_readItems_37, k_X12_readItems_40, k_X12_readItems_43, k_X12_readItems_45, k_X12_readItems_47, k_X12_readItems_48, k_X12_readItems_51, k_X12_readItems_52, k_X12_readItems_55, k_X12_readItems_56, k_X12_readItems_59, k_X12_readItems_61, k_X12_readItems_63, k_X12_readItems_66, k_X12_readItems_69, k_X12_readItems_70, k_X12_readItems_73, k_X12_readItems_74, k_X12_readItems_75, k_X12_readItems_77, k_X12_readItems_78, k_X12_readItems_80, k_X12_readItems_81, k_X12_readItems_82, k_X12_readItems_84, k_X12_readItems_85, k_X12_readItems_86, k_X12_readItems_89, k_X12_readItems_90, k_X12_readItems_91, k_X12_readItems_94, k_X12_readItems_95, k_X12_readItems_96, k_X12_readItems_98, k_X12_readItems_99, k_X12_readItems_100, k_X12_readItems_101, k_X12_readItems_103, k_X12_readItems_106, k_X12_readItems_107, k_X12_readItems_109, k_X12_readItems_112, k_X12_readItems_115, k_X12_readItems_116, k_X12_readItems_117, k_X12_readItems_120, k_X12_readItems_121, k_X12_readItems_124, k_X12_readItems_126, k_X12_readItems_127, k_X12_readItems_130, k_X12_readItems_133, k_X12_readItems_135, k_X12_readItems_138, cw]
        repeat' (first | apply And.intro | intro _)
        all_goals first | omega | exact absurd trivial (by assumption) | exact q9
      · have hm := im (by omega)
        have b16 := bit16' t0 t1 (i := w) (by omega) (by omega)
        rw [if_neg (by omega)] at hI
        have eb := btp told w
        have lts : s < m 5000 9 := sk_lt hte (q := s) hm.1
        by_cases ct : told / (2 ^ w.toNat) % 2 = 1
        · rw [if_pos (Or.inr ct)] at hI
          have hR1 : R.1 = s := by rw [← hI]
          have q9 := (hq2 (by rw [hR1]; omega)).1 s v' vB
          rw [hR1] at q9
          rw [ct] at eb
          simp only [↓reduceIte, inR_0, inR_1, inR_m, vSw2_e, swP_n, swP_c, vI_e, vL_e, vNull_e, vIload_e, vLload_e, vAload_e, vIstore_e, vLstore_e, vAstore_e, vIinc_e, vIadd_e, vIsub_e, vImul_e, vIand_e, vIor_e, vIxor_e, vIshl_e, vIshr_e, vIushr_e, vIdiv_e, vIrem_e, vLadd_e, vLsub_e, vLmul_e, vLand_e, vLor_e, vLxor_e, vLdiv_e, vLrem_e, vLushr_e, vLshl_e, vLcmp_e, vIneg_e, vI2l_e, vL2i_e, vI2b_e, vI2c_e, vDup_e, vPop_e, vDup2_e, vGoto_e, vIcEq_e, vIfEq_e, vIcNe_e, vIfNe_e, vIcLt_e, vIfLt_e, vIcGe_e, vIfGe_e, vIcGt_e, vIfGt_e, vIcLe_e, vIfLe_e, vNonnull_e, vSw_e, vGetI_e, vGetL_e, vGetR_e, vPutI_e, vPutZ_e, vPutL_e, vPutR_e, vIald_e, vIald_s, vLald_e, vBald_e, vBald_s, vAald_e, vIast_e, vLast_e, vBast_e, vAast_e, vAlen_e8, vAlen_e9, vAlen_e10, vAlen_e11, vAlen_e5, vAlen_e3, vGets_e, vCompact_e, vLdcS_e, vIret_e, vZret_e, vCret_e, vBret_e, vLret_e, vVret_e, vAret_e, vCallM_e0, vCallMV_e0, vCallS_e0, vCallSV_e0, vCallM_e1, vCallMV_e1, vCallS_e1, vCallSV_e1, vCallM_e2, vCallMV_e2, vCallS_e2, vCallSV_e2, vCallM_e3, vCallMV_e3, vCallS_e3, vCallSV_e3, vCallM_e4, vCallMV_e4, vCallS_e4, vCallSV_e4, vCallM_e5, vCallMV_e5, vCallS_e5, vCallSV_e5, vCallM_e6, vCallMV_e6, vCallS_e6, vCallSV_e6, vCallM_e7, vCallMV_e7, vCallS_e7, vCallSV_e7, vBad_e, vStrVal_e, vStrCod_e, vForm_e, vCallT_e0, vCallT_e1, vCallT_e2, vCopy_e, rf_0_0, rf_0_1, rf_0_2, rf_0_3, rf_0_4, rf_0_7, rf_0_10, rf_0_11, rf_0_12, rf_0_13, rf_0_14, rf_0_15, rf_0_16, rf_1_0, rf_3_0, rf_3_1, rf_6_0, rf_6_1, rf_9_0, rf_9_1, rf_9_3, rf_13_0, rf_13_1, rf_13_2, rf_16_0, rf_16_1, rf_16_2, rf_16_3, rf_21_0, rf_21_1, rf_21_2, rf_21_3, rf_26_0, rf_26_1, rf_26_2, rf_26_3, rf_26_4, rf_26_5, rf_26_6, rf_31_0, rf_31_2, rf_31_5, rf_31_6, rf_36_0, rf_36_1, rf_36_2, rf_36_3, rf_39_0, rf_39_1, rf_39_2, rf_41_0, rf_41_1, rf_41_2, rf_41_3, rf_5000_1, rf_5000_2, rf_5000_3, rf_5000_4, rf_5000_5, rf_5000_15, rf_5000_16, rf_5000_18, rf_5000_19, rf_5000_20, rf_5000_21, rf_5000_22, rf_5000_23, rf_5000_24, rf_5000_25, rf_5000_26, rf_5000_27, rf_5000_36, rf_5000_37, rf_5000_40, rf_5000_41, rf_5000_42, rf_5000_43, rf_5000_44, rf_5000_45, rf_5000_47, rf_5000_52, rf_5000_54, rf_5000_55, rf_100_0, rf_100_1, rf_103_0, rf_103_1, rf_106_0, rf_106_1, rf_109_0, rf_109_1, al_2, al_4, al_5, al_7, al_8, al_10, al_11, al_12, al_14, al_15, al_17, al_18, al_19, al_20, al_22, al_23, al_24, al_25, al_27, al_28, al_29, al_30, al_32, al_33, al_34, al_35, al_37, al_38, al_40, al_42, al_5001, al_5002, al_5003, al_5004, al_5005, al_5006, al_5007, al_5008, al_5009, al_5010, al_5011, al_5012, al_5013, al_5014, al_5015, al_5016, al_5017, al_5018, al_5019, al_5020, al_5021, al_5022, al_5023, al_5024, al_5025, al_5026, al_9000, al_101, al_102, al_104, al_105, al_107, al_108, al_110, al_111, vcs_e, lg_c0, lg_cs, lg_nil, set_c0, set_cs, okst_0, okst_s, acok_n, acok_c, List.contains_nil, List.contains_cons, Bool.or_false, Bool.false_or, Bool.false_eq_true, if_false, if_true, ite_self, ne_eq, true_and, and_true, not_false_eq_true, not_true_eq_false, false_imp_iff, true_imp_iff, Nat.ble_eq, Bool.and_eq_true, reduceCtorEq, or_false, false_or, or_true, true_or, false_and, and_false, and_self, Int.reduceLE, Int.reduceAdd, Int.reduceSub, Int.reduceMul, Int.reduceNeg, Int.reduceLT, Int.reduceEq, Int.reduceNe, Nat.reduceBEq, Nat.reduceBNe, Nat.reduceEqDiff, amCmp_in, amCmp_lt, amCmp_le, amCmp_gt, amCmp_ge, amCmp_eq, amCmp_ne, Nat.reduceLeDiff, Nat.reduceSub, Bool.and_true, Bool.true_and, Bool.and_self, Bool.or_true, Bool.true_or, isRf_3, isRf_4, isRf_5, isRf_8, isRf_9, isRf_10, isRf_11, isRf_15, isRf_16, isRf_17, isRf_18, isRf_19, isRf_20, isRf_21, isRf_22, isRf_23, isRf_24, isRf_25, isRf_26, isRf_27, isRf_28, k_X12_readItems_0, k_X12_readItems_1, k_X12_readItems_3, k_X12_readItems_5, k_X12_readItems_7, k_X12_readItems_10, k_X12_readItems_13, k_X12_readItems_14, k_X12_readItems_15, k_X12_readItems_17, k_X12_readItems_18, k_X12_readItems_19, k_X12_readItems_21, k_X12_readItems_24, k_X12_readItems_25, k_X12_readItems_28, k_X12_readItems_31, k_X12_readItems_32, k_X12_readItems_34, k_X12_readItems_36, k_X12_readItems_37, k_X12_readItems_40, k_X12_readItems_43, k_X12_readItems_45, k_X12_readItems_47, k_X12_readItems_48, k_X12_readItems_51, k_X12_readItems_52, k_X12_readItems_55, k_X12_readItems_56, k_X12_readItems_59, k_X12_readItems_61, k_X12_readItems_63, k_X12_readItems_66, k_X12_readItems_69, k_X12_readItems_70, k_X12_readItems_73, k_X12_readItems_74, k_X12_readItems_75, k_X12_readItems_77, k_X12_readItems_78, k_X12_readItems_80, k_X12_readItems_81, k_X12_readItems_82, k_X12_readItems_84, k_X12_readItems_85, k_X12_readItems_86, k_X12_readItems_89, k_X12_readItems_90, k_X12_readItems_91, k_X12_readItems_94, k_X12_readItems_95, k_X12_readItems_96, k_X12_readItems_98, k_X12_readItems_99, k_X12_readItems_100, k_X12_readItems_101, k_X12_readItems_103, k_X12_readItems_106, k_X12_readItems_107, k_X12_readItems_109, k_X12_readItems_112, k_X12_readItems_115, k_X12_readItems_116, k_X12_readItems_117, k_X12_readItems_120, k_X12_readItems_121, k_X12_readItems_124, k_X12_readItems_126, k_X12_readItems_127, k_X12_readItems_130, k_X12_readItems_133, k_X12_readItems_135, k_X12_readItems_138, w_J0_length_8abf5_e, w_X12_fails_e, w_X12_has_e, w_X12_leastOf_e, w_X12_look_e, w_X12_mostOf_e, w_X12_number_e, w_X12_spotOf_e, w_X12_usual_e, ho_10, ho_9, ho_11, ho_u10, ho_u11, ho_fa, eb]
          repeat' (first | apply And.intro | intro _)
          all_goals first | omega | exact absurd trivial (by assumption) | exact q9 | exact ⟨by omega, by omega⟩ | trivial
        · have eb0 : bt told w = 0 := by have := bt_b told w; omega
          have et : amIor told (amIshl 1 w) = told + 2 ^ w.toNat := by rw [b16.2.1, if_neg ct]
          have tb : told + 2 ^ w.toNat < 16 := b16.2.2.2 ct
          have tc := bc4_s t0 t1 (by omega) (by omega) ct
          rw [if_neg (by omega)] at hI
          have s3 := sk_b (mtx m) (n := m 5000 9) (p := s + 1) (by omega)
          generalize hs2 : sk (mtx m) (m 5000 9) (s + 1) = s2 at *
          have hsw := hsl w (by omega) (by omega)
          have ww : ∀ p f c v x, up (hoN m p f c v) a (r + w) x = hoN m p f c (upf v ((firstK k + i) * 4 + w) x) := fun p f c v x => hw p f c v w x (by omega) (by omega)
          obtain ⟨kv1, kv2, -⟩ := kv w (by omega) (by omega)
          have sbw := sb w (by omega) (by omega)
          have b2 := mtx_b ht s2
          have b3 := mtx_b ht (s2 + 1)
          generalize hT2 : told + 2 ^ w.toNat = T at *
          have T0 : 0 ≤ T := by have := b16.2.2.1; omega
          have uB : ∀ X, 0 ≤ X → X ≤ 99 → rowB (upf v' ((firstK k + i) * 4 + w) X) := fun X X0 X1 j j0 j1 => by
            unfold upf; split
            · exact ⟨X0, X1⟩
            · exact vB j j0 j1
          /- a fault in the number -/
          have iF : ∀ x X, R.1 = x → 0 ≤ x → x ≤ 250 → 0 ≤ X ∧ X ≤ 99 → ∃ k', k' < f' + 1 + 1 ∧ inv_rit m cc v p k i c a r z L R k' 45 [(28, 5000), (0, c), (8, a), (0, r), (4, z), (0, T), (0, w)] [] (hoN m x x cc (upf v' ((firstK k + i) * 4 + w) X)) := fun x X e e0 e1 hX => ⟨0, by omega, rfl, Or.inr (Or.inr ⟨T, w, x, x, _, rfl, rfl, rfl, ⟨by omega, by omega⟩, rfl, e0, e1, uB X hX.1 hX.2, e⟩)⟩
          /- a number -/
          have iG : ∀ q' x, 0 ≤ q' → q' ≤ m 5000 9 → 0 ≤ x ∧ x ≤ 99 → hIt (mtx m) (m 5000 9) k (firstK k + i) f' T q' (upf v' ((firstK k + i) * 4 + w) x) = R → ∃ k', k' < f' + 1 + 1 ∧ inv_rit m cc v p k i c a r z L R k' 45 [(28, 5000), (0, c), (8, a), (0, r), (4, z), (0, T), (0, itemF k (mtx m (sk (mtx m) (m 5000 9) q')))] [] (hoN m (sk (mtx m) (m 5000 9) q') (-1) cc (upf v' ((firstK k + i) * 4 + w) x)) := fun q' x e0 e1 hx e => ⟨f' + 1, by omega, rfl, Or.inr (Or.inl ⟨f', T, q', _, rfl, rfl, rfl, rfl, T0, by omega, by omega, e0, e1, uB x hx.1 hx.2, e⟩)⟩
          have itq : ∀ q', fidx (stv (z + 100)) (mtx m (sk (mtx m) (m 5000 9) q')) 0 L.toNat = itemF k (mtx m (sk (mtx m) (m 5000 9) q')) := fun q' => (itm _ (sk_32 hte q')).1
          have skb : ∀ q', q' ≤ m 5000 9 → q' ≤ sk (mtx m) (m 5000 9) q' ∧ sk (mtx m) (m 5000 9) q' ≤ m 5000 9 := fun q' e => sk_b (mtx m) e
          have itb := fun q' => itemF_b k (mtx m (sk (mtx m) (m 5000 9) q'))
          have mtb := fun q' => mtx_b ht (sk (mtx m) (m 5000 9) q')
          by_cases d0 : dg (mtx m s2)
          · have l2 : s2 < m 5000 9 := sk_lt hte (q := s2) (by omega)
            by_cases d1 : dg (mtx m (s2 + 1))
            · obtain ⟨e1, e2⟩ := nd_2 d0 d1
              have l3 : s2 + 1 < m 5000 9 := sk_lt hte (q := s2 + 1) (by omega)
              rw [e1, e2] at hI
              by_cases d2 : dg (mtx m (s2 + 2))
              · rw [if_pos (Or.inr d2)] at hI
                have i9 := fun X => iF (s2 + 2) X (by rw [← hI]) (by omega) (by omega)
                simp only [↓reduceIte, inR_0, inR_1, inR_m, vSw2_e, swP_n, swP_c, vI_e, vL_e, vNull_e, vIload_e, vLload_e, vAload_e, vIstore_e, vLstore_e, vAstore_e, vIinc_e, vIadd_e, vIsub_e, vImul_e, vIand_e, vIor_e, vIxor_e, vIshl_e, vIshr_e, vIushr_e, vIdiv_e, vIrem_e, vLadd_e, vLsub_e, vLmul_e, vLand_e, vLor_e, vLxor_e, vLdiv_e, vLrem_e, vLushr_e, vLshl_e, vLcmp_e, vIneg_e, vI2l_e, vL2i_e, vI2b_e, vI2c_e, vDup_e, vPop_e, vDup2_e, vGoto_e, vIcEq_e, vIfEq_e, vIcNe_e, vIfNe_e, vIcLt_e, vIfLt_e, vIcGe_e, vIfGe_e, vIcGt_e, vIfGt_e, vIcLe_e, vIfLe_e, vNonnull_e, vSw_e, vGetI_e, vGetL_e, vGetR_e, vPutI_e, vPutZ_e, vPutL_e, vPutR_e, vIald_e, vIald_s, vLald_e, vBald_e, vBald_s, vAald_e, vIast_e, vLast_e, vBast_e, vAast_e, vAlen_e8, vAlen_e9, vAlen_e10, vAlen_e11, vAlen_e5, vAlen_e3, vGets_e, vCompact_e, vLdcS_e, vIret_e, vZret_e, vCret_e, vBret_e, vLret_e, vVret_e, vAret_e, vCallM_e0, vCallMV_e0, vCallS_e0, vCallSV_e0, vCallM_e1, vCallMV_e1, vCallS_e1, vCallSV_e1, vCallM_e2, vCallMV_e2, vCallS_e2, vCallSV_e2, vCallM_e3, vCallMV_e3, vCallS_e3, vCallSV_e3, vCallM_e4, vCallMV_e4, vCallS_e4, vCallSV_e4, vCallM_e5, vCallMV_e5, vCallS_e5, vCallSV_e5, vCallM_e6, vCallMV_e6, vCallS_e6, vCallSV_e6, vCallM_e7, vCallMV_e7, vCallS_e7, vCallSV_e7, vBad_e, vStrVal_e, vStrCod_e, vForm_e, vCallT_e0, vCallT_e1, vCallT_e2, vCopy_e, rf_0_0, rf_0_1, rf_0_2, rf_0_3, rf_0_4, rf_0_7, rf_0_10, rf_0_11, rf_0_12, rf_0_13, rf_0_14, rf_0_15, rf_0_16, rf_1_0, rf_3_0, rf_3_1, rf_6_0, rf_6_1, rf_9_0, rf_9_1, rf_9_3, rf_13_0, rf_13_1, rf_13_2, rf_16_0, rf_16_1, rf_16_2, rf_16_3, rf_21_0, rf_21_1, rf_21_2, rf_21_3, rf_26_0, rf_26_1, rf_26_2, rf_26_3, rf_26_4, rf_26_5, rf_26_6, rf_31_0, rf_31_2, rf_31_5, rf_31_6, rf_36_0, rf_36_1, rf_36_2, rf_36_3, rf_39_0, rf_39_1, rf_39_2, rf_41_0, rf_41_1, rf_41_2, rf_41_3, rf_5000_1, rf_5000_2, rf_5000_3, rf_5000_4, rf_5000_5, rf_5000_15, rf_5000_16, rf_5000_18, rf_5000_19, rf_5000_20, rf_5000_21, rf_5000_22, rf_5000_23, rf_5000_24, rf_5000_25, rf_5000_26, rf_5000_27, rf_5000_36, rf_5000_37, rf_5000_40, rf_5000_41, rf_5000_42, rf_5000_43, rf_5000_44, rf_5000_45, rf_5000_47, rf_5000_52, rf_5000_54, rf_5000_55, rf_100_0, rf_100_1, rf_103_0, rf_103_1, rf_106_0, rf_106_1, rf_109_0, rf_109_1, al_2, al_4, al_5, al_7, al_8, al_10, al_11, al_12, al_14, al_15, al_17, al_18, al_19, al_20, al_22, al_23, al_24, al_25, al_27, al_28, al_29, al_30, al_32, al_33, al_34, al_35, al_37, al_38, al_40, al_42, al_5001, al_5002, al_5003, al_5004, al_5005, al_5006, al_5007, al_5008, al_5009, al_5010, al_5011, al_5012, al_5013, al_5014, al_5015, al_5016, al_5017, al_5018, al_5019, al_5020, al_5021, al_5022, al_5023, al_5024, al_5025, al_5026, al_9000, al_101, al_102, al_104, al_105, al_107, al_108, al_110, al_111, vcs_e, lg_c0, lg_cs, lg_nil, set_c0, set_cs, okst_0, okst_s, acok_n, acok_c, List.contains_nil, List.contains_cons, Bool.or_false, Bool.false_or, Bool.false_eq_true, if_false, if_true, ite_self, ne_eq, true_and, and_true, not_false_eq_true, not_true_eq_false, false_imp_iff, true_imp_iff, Nat.ble_eq, Bool.and_eq_true, reduceCtorEq, or_false, false_or, or_true, true_or, false_and, and_false, and_self, Int.reduceLE, Int.reduceAdd, Int.reduceSub, Int.reduceMul, Int.reduceNeg, Int.reduceLT, Int.reduceEq, Int.reduceNe, Nat.reduceBEq, Nat.reduceBNe, Nat.reduceEqDiff, amCmp_in, amCmp_lt, amCmp_le, amCmp_gt, amCmp_ge, amCmp_eq, amCmp_ne, Nat.reduceLeDiff, Nat.reduceSub, Bool.and_true, Bool.true_and, Bool.and_self, Bool.or_true, Bool.true_or, isRf_3, isRf_4, isRf_5, isRf_8, isRf_9, isRf_10, isRf_11, isRf_15, isRf_16, isRf_17, isRf_18, isRf_19, isRf_20, isRf_21, isRf_22, isRf_23, isRf_24, isRf_25, isRf_26, isRf_27, isRf_28, k_X12_readItems_0, k_X12_readItems_1, k_X12_readItems_3, k_X12_readItems_5, k_X12_readItems_7, k_X12_readItems_10, k_X12_readItems_13, k_X12_readItems_14, k_X12_readItems_15, k_X12_readItems_17, k_X12_readItems_18, k_X12_readItems_19, k_X12_readItems_21, k_X12_readItems_24, k_X12_readItems_25, k_X12_readItems_28, k_X12_readItems_31, k_X12_readItems_32, k_X12_readItems_34, k_X12_readItems_36, k_X12_readItems_37, k_X12_readItems_40, k_X12_readItems_43, k_X12_readItems_45, k_X12_readItems_47, k_X12_readItems_48, k_X12_readItems_51, k_X12_readItems_52, k_X12_readItems_55, k_X12_readItems_56, k_X12_readItems_59, k_X12_readItems_61, k_X12_readItems_63, k_X12_readItems_66, k_X12_readItems_69, k_X12_readItems_70, k_X12_readItems_73, k_X12_readItems_74, k_X12_readItems_75, k_X12_readItems_77, k_X12_readItems_78, k_X12_readItems_80, k_X12_readItems_81, k_X12_readItems_82, k_X12_readItems_84, k_X12_readItems_85, k_X12_readItems_86, k_X12_readItems_89, k_X12_readItems_90, k_X12_readItems_91, k_X12_readItems_94, k_X12_readItems_95, k_X12_readItems_96, k_X12_readItems_98, k_X12_readItems_99, k_X12_readItems_100, k_X12_readItems_101, k_X12_readItems_103, k_X12_readItems_106, k_X12_readItems_107, k_X12_readItems_109, k_X12_readItems_112, k_X12_readItems_115, k_X12_readItems_116, k_X12_readItems_117, k_X12_readItems_120, k_X12_readItems_121, k_X12_readItems_124, k_X12_readItems_126, k_X12_readItems_127, k_X12_readItems_130, k_X12_readItems_133, k_X12_readItems_135, k_X12_readItems_138, w_J0_length_8abf5_e, w_X12_fails_e, w_X12_has_e, w_X12_leastOf_e, w_X12_look_e, w_X12_mostOf_e, w_X12_number_e, w_X12_spotOf_e, w_X12_usual_e, msk, Mt, MtO, ho_10, ho_9, ho_11, ho_u10, ho_u11, eb0, et, hs2, kv1, kv2, al, a0, ww, d0, d1, d2]
                repeat' (first | apply And.intro | intro _)
                all_goals first | omega | exact absurd trivial (by assumption) | exact i9 _ ⟨by omega, by omega⟩ | exact ⟨by omega, by omega⟩ | trivial
              · rw [if_neg (by omega)] at hI
                have k1' := skb (s2 + 2) (by omega)
                have k2' := itb (s2 + 2)
                have k3' := mtb (s2 + 2)
                by_cases d3 : sav 21000 (k * 4 + w) ≤ 10 * (mtx m s2 - 48) + mtx m (s2 + 1) - 48 ∧ 10 * (mtx m s2 - 48) + mtx m (s2 + 1) - 48 ≤ sav 21001 (k * 4 + w)
                · rw [if_pos ⟨k0, k1, by omega, by omega, d3.1, d3.2⟩] at hI
                  have i9 := iG (s2 + 2) _ (by omega) (by omega) ⟨by omega, by omega⟩ hI
                  simp only [↓reduceIte, inR_0, inR_1, inR_m, vSw2_e, swP_n, swP_c, vI_e, vL_e, vNull_e, vIload_e, vLload_e, vAload_e, vIstore_e, vLstore_e, vAstore_e, vIinc_e, vIadd_e, vIsub_e, vImul_e, vIand_e, vIor_e, vIxor_e, vIshl_e, vIshr_e, vIushr_e, vIdiv_e, vIrem_e, vLadd_e, vLsub_e, vLmul_e, vLand_e, vLor_e, vLxor_e, vLdiv_e, vLrem_e, vLushr_e, vLshl_e, vLcmp_e, vIneg_e, vI2l_e, vL2i_e, vI2b_e, vI2c_e, vDup_e, vPop_e, vDup2_e, vGoto_e, vIcEq_e, vIfEq_e, vIcNe_e, vIfNe_e, vIcLt_e, vIfLt_e, vIcGe_e, vIfGe_e, vIcGt_e, vIfGt_e, vIcLe_e, vIfLe_e, vNonnull_e, vSw_e, vGetI_e, vGetL_e, vGetR_e, vPutI_e, vPutZ_e, vPutL_e, vPutR_e, vIald_e, vIald_s, vLald_e, vBald_e, vBald_s, vAald_e, vIast_e, vLast_e, vBast_e, vAast_e, vAlen_e8, vAlen_e9, vAlen_e10, vAlen_e11, vAlen_e5, vAlen_e3, vGets_e, vCompact_e, vLdcS_e, vIret_e, vZret_e, vCret_e, vBret_e, vLret_e, vVret_e, vAret_e, vCallM_e0, vCallMV_e0, vCallS_e0, vCallSV_e0, vCallM_e1, vCallMV_e1, vCallS_e1, vCallSV_e1, vCallM_e2, vCallMV_e2, vCallS_e2, vCallSV_e2, vCallM_e3, vCallMV_e3, vCallS_e3, vCallSV_e3, vCallM_e4, vCallMV_e4, vCallS_e4, vCallSV_e4, vCallM_e5, vCallMV_e5, vCallS_e5, vCallSV_e5, vCallM_e6, vCallMV_e6, vCallS_e6, vCallSV_e6, vCallM_e7, vCallMV_e7, vCallS_e7, vCallSV_e7, vBad_e, vStrVal_e, vStrCod_e, vForm_e, vCallT_e0, vCallT_e1, vCallT_e2, vCopy_e, rf_0_0, rf_0_1, rf_0_2, rf_0_3, rf_0_4, rf_0_7, rf_0_10, rf_0_11, rf_0_12, rf_0_13, rf_0_14, rf_0_15, rf_0_16, rf_1_0, rf_3_0, rf_3_1, rf_6_0, rf_6_1, rf_9_0, rf_9_1, rf_9_3, rf_13_0, rf_13_1, rf_13_2, rf_16_0, rf_16_1, rf_16_2, rf_16_3, rf_21_0, rf_21_1, rf_21_2, rf_21_3, rf_26_0, rf_26_1, rf_26_2, rf_26_3, rf_26_4, rf_26_5, rf_26_6, rf_31_0, rf_31_2, rf_31_5, rf_31_6, rf_36_0, rf_36_1, rf_36_2, rf_36_3, rf_39_0, rf_39_1, rf_39_2, rf_41_0, rf_41_1, rf_41_2, rf_41_3, rf_5000_1, rf_5000_2, rf_5000_3, rf_5000_4, rf_5000_5, rf_5000_15, rf_5000_16, rf_5000_18, rf_5000_19, rf_5000_20, rf_5000_21, rf_5000_22, rf_5000_23, rf_5000_24, rf_5000_25, rf_5000_26, rf_5000_27, rf_5000_36, rf_5000_37, rf_5000_40, rf_5000_41, rf_5000_42, rf_5000_43, rf_5000_44, rf_5000_45, rf_5000_47, rf_5000_52, rf_5000_54, rf_5000_55, rf_100_0, rf_100_1, rf_103_0, rf_103_1, rf_106_0, rf_106_1, rf_109_0, rf_109_1, al_2, al_4, al_5, al_7, al_8, al_10, al_11, al_12, al_14, al_15, al_17, al_18, al_19, al_20, al_22, al_23, al_24, al_25, al_27, al_28, al_29, al_30, al_32, al_33, al_34, al_35, al_37, al_38, al_40, al_42, al_5001, al_5002, al_5003, al_5004, al_5005, al_5006, al_5007, al_5008, al_5009, al_5010, al_5011, al_5012, al_5013, al_5014, al_5015, al_5016, al_5017, al_5018, al_5019, al_5020, al_5021, al_5022, al_5023, al_5024, al_5025, al_5026, al_9000, al_101, al_102, al_104, al_105, al_107, al_108, al_110, al_111, vcs_e, lg_c0, lg_cs, lg_nil, set_c0, set_cs, okst_0, okst_s, acok_n, acok_c, List.contains_nil, List.contains_cons, Bool.or_false, Bool.false_or, Bool.false_eq_true, if_false, if_true, ite_self, ne_eq, true_and, and_true, not_false_eq_true, not_true_eq_false, false_imp_iff, true_imp_iff, Nat.ble_eq, Bool.and_eq_true, reduceCtorEq, or_false, false_or, or_true, true_or, false_and, and_false, and_self, Int.reduceLE, Int.reduceAdd, Int.reduceSub, Int.reduceMul, Int.reduceNeg, Int.reduceLT, Int.reduceEq, Int.reduceNe, Nat.reduceBEq, Nat.reduceBNe, Nat.reduceEqDiff, amCmp_in, amCmp_lt, amCmp_le, amCmp_gt, amCmp_ge, amCmp_eq, amCmp_ne, Nat.reduceLeDiff, Nat.reduceSub, Bool.and_true, Bool.true_and, Bool.and_self, Bool.or_true, Bool.true_or, isRf_3, isRf_4, isRf_5, isRf_8, isRf_9, isRf_10, isRf_11, isRf_15, isRf_16, isRf_17, isRf_18, isRf_19, isRf_20, isRf_21, isRf_22, isRf_23, isRf_24, isRf_25, isRf_26, isRf_27, isRf_28, k_X12_readItems_0, k_X12_readItems_1, k_X12_readItems_3, k_X12_readItems_5, k_X12_readItems_7, k_X12_readItems_10, k_X12_readItems_13, k_X12_readItems_14, k_X12_readItems_15, k_X12_readItems_17, k_X12_readItems_18, k_X12_readItems_19, k_X12_readItems_21, k_X12_readItems_24, k_X12_readItems_25, k_X12_readItems_28, k_X12_readItems_31, k_X12_readItems_32, k_X12_readItems_34, k_X12_readItems_36, k_X12_readItems_37, k_X12_readItems_40, k_X12_readItems_43, k_X12_readItems_45, k_X12_readItems_47, k_X12_readItems_48, k_X12_readItems_51, k_X12_readItems_52, k_X12_readItems_55, k_X12_readItems_56, k_X12_readItems_59, k_X12_readItems_61, k_X12_readItems_63, k_X12_readItems_66, k_X12_readItems_69, k_X12_readItems_70, k_X12_readItems_73, k_X12_readItems_74, k_X12_readItems_75, k_X12_readItems_77, k_X12_readItems_78, k_X12_readItems_80, k_X12_readItems_81, k_X12_readItems_82, k_X12_readItems_84, k_X12_readItems_85, k_X12_readItems_86, k_X12_readItems_89, k_X12_readItems_90, k_X12_readItems_91, k_X12_readItems_94, k_X12_readItems_95, k_X12_readItems_96, k_X12_readItems_98, k_X12_readItems_99, k_X12_readItems_100, k_X12_readItems_101, k_X12_readItems_103, k_X12_readItems_106, k_X12_readItems_107, k_X12_readItems_109, k_X12_readItems_112, k_X12_readItems_115, k_X12_readItems_116, k_X12_readItems_117, k_X12_readItems_120, k_X12_readItems_121, k_X12_readItems_124, k_X12_readItems_126, k_X12_readItems_127, k_X12_readItems_130, k_X12_readItems_133, k_X12_readItems_135, k_X12_readItems_138, w_J0_length_8abf5_e, w_X12_fails_e, w_X12_has_e, w_X12_leastOf_e, w_X12_look_e, w_X12_mostOf_e, w_X12_number_e, w_X12_spotOf_e, w_X12_usual_e, msk, Mt, MtO, ho_10, ho_9, ho_11, ho_u10, ho_u11, eb0, et, hs2, kv1, kv2, al, a0, ww, ssl, itq, d0, d1, d2, d3]
                  repeat' (first | apply And.intro | intro _)
                  all_goals first | omega | exact absurd trivial (by assumption) | exact i9 | exact ⟨by omega, by omega⟩ | trivial
                · rw [if_neg (fun q => d3 ⟨q.2.2.2.2.1, q.2.2.2.2.2⟩)] at hI
                  have i9 := fun X => iF (s2 + 1) X (by rw [← hI]; show s2 + 2 - 1 = s2 + 1; omega) (by omega) (by omega)
                  simp only [↓reduceIte, inR_0, inR_1, inR_m, vSw2_e, swP_n, swP_c, vI_e, vL_e, vNull_e, vIload_e, vLload_e, vAload_e, vIstore_e, vLstore_e, vAstore_e, vIinc_e, vIadd_e, vIsub_e, vImul_e, vIand_e, vIor_e, vIxor_e, vIshl_e, vIshr_e, vIushr_e, vIdiv_e, vIrem_e, vLadd_e, vLsub_e, vLmul_e, vLand_e, vLor_e, vLxor_e, vLdiv_e, vLrem_e, vLushr_e, vLshl_e, vLcmp_e, vIneg_e, vI2l_e, vL2i_e, vI2b_e, vI2c_e, vDup_e, vPop_e, vDup2_e, vGoto_e, vIcEq_e, vIfEq_e, vIcNe_e, vIfNe_e, vIcLt_e, vIfLt_e, vIcGe_e, vIfGe_e, vIcGt_e, vIfGt_e, vIcLe_e, vIfLe_e, vNonnull_e, vSw_e, vGetI_e, vGetL_e, vGetR_e, vPutI_e, vPutZ_e, vPutL_e, vPutR_e, vIald_e, vIald_s, vLald_e, vBald_e, vBald_s, vAald_e, vIast_e, vLast_e, vBast_e, vAast_e, vAlen_e8, vAlen_e9, vAlen_e10, vAlen_e11, vAlen_e5, vAlen_e3, vGets_e, vCompact_e, vLdcS_e, vIret_e, vZret_e, vCret_e, vBret_e, vLret_e, vVret_e, vAret_e, vCallM_e0, vCallMV_e0, vCallS_e0, vCallSV_e0, vCallM_e1, vCallMV_e1, vCallS_e1, vCallSV_e1, vCallM_e2, vCallMV_e2, vCallS_e2, vCallSV_e2, vCallM_e3, vCallMV_e3, vCallS_e3, vCallSV_e3, vCallM_e4, vCallMV_e4, vCallS_e4, vCallSV_e4, vCallM_e5, vCallMV_e5, vCallS_e5, vCallSV_e5, vCallM_e6, vCallMV_e6, vCallS_e6, vCallSV_e6, vCallM_e7, vCallMV_e7, vCallS_e7, vCallSV_e7, vBad_e, vStrVal_e, vStrCod_e, vForm_e, vCallT_e0, vCallT_e1, vCallT_e2, vCopy_e, rf_0_0, rf_0_1, rf_0_2, rf_0_3, rf_0_4, rf_0_7, rf_0_10, rf_0_11, rf_0_12, rf_0_13, rf_0_14, rf_0_15, rf_0_16, rf_1_0, rf_3_0, rf_3_1, rf_6_0, rf_6_1, rf_9_0, rf_9_1, rf_9_3, rf_13_0, rf_13_1, rf_13_2, rf_16_0, rf_16_1, rf_16_2, rf_16_3, rf_21_0, rf_21_1, rf_21_2, rf_21_3, rf_26_0, rf_26_1, rf_26_2, rf_26_3, rf_26_4, rf_26_5, rf_26_6, rf_31_0, rf_31_2, rf_31_5, rf_31_6, rf_36_0, rf_36_1, rf_36_2, rf_36_3, rf_39_0, rf_39_1, rf_39_2, rf_41_0, rf_41_1, rf_41_2, rf_41_3, rf_5000_1, rf_5000_2, rf_5000_3, rf_5000_4, rf_5000_5, rf_5000_15, rf_5000_16, rf_5000_18, rf_5000_19, rf_5000_20, rf_5000_21, rf_5000_22, rf_5000_23, rf_5000_24, rf_5000_25, rf_5000_26, rf_5000_27, rf_5000_36, rf_5000_37, rf_5000_40, rf_5000_41, rf_5000_42, rf_5000_43, rf_5000_44, rf_5000_45, rf_5000_47, rf_5000_52, rf_5000_54, rf_5000_55, rf_100_0, rf_100_1, rf_103_0, rf_103_1, rf_106_0, rf_106_1, rf_109_0, rf_109_1, al_2, al_4, al_5, al_7, al_8, al_10, al_11, al_12, al_14, al_15, al_17, al_18, al_19, al_20, al_22, al_23, al_24, al_25, al_27, al_28, al_29, al_30, al_32, al_33, al_34, al_35, al_37, al_38, al_40, al_42, al_5001, al_5002, al_5003, al_5004, al_5005, al_5006, al_5007, al_5008, al_5009, al_5010, al_5011, al_5012, al_5013, al_5014, al_5015, al_5016, al_5017, al_5018, al_5019, al_5020, al_5021, al_5022, al_5023, al_5024, al_5025, al_5026, al_9000, al_101, al_102, al_104, al_105, al_107, al_108, al_110, al_111, vcs_e, lg_c0, lg_cs, lg_nil, set_c0, set_cs, okst_0, okst_s, acok_n, acok_c, List.contains_nil, List.contains_cons, Bool.or_false, Bool.false_or, Bool.false_eq_true, if_false, if_true, ite_self, ne_eq, true_and, and_true, not_false_eq_true, not_true_eq_false, false_imp_iff, true_imp_iff, Nat.ble_eq, Bool.and_eq_true, reduceCtorEq, or_false, false_or, or_true, true_or, false_and, and_false, and_self, Int.reduceLE, Int.reduceAdd, Int.reduceSub, Int.reduceMul, Int.reduceNeg, Int.reduceLT, Int.reduceEq, Int.reduceNe, Nat.reduceBEq, Nat.reduceBNe, Nat.reduceEqDiff, amCmp_in, amCmp_lt, amCmp_le, amCmp_gt, amCmp_ge, amCmp_eq, amCmp_ne, Nat.reduceLeDiff, Nat.reduceSub, Bool.and_true, Bool.true_and, Bool.and_self, Bool.or_true, Bool.true_or, isRf_3, isRf_4, isRf_5, isRf_8, isRf_9, isRf_10, isRf_11, isRf_15, isRf_16, isRf_17, isRf_18, isRf_19, isRf_20, isRf_21, isRf_22, isRf_23, isRf_24, isRf_25, isRf_26, isRf_27, isRf_28, k_X12_readItems_0, k_X12_readItems_1, k_X12_readItems_3, k_X12_readItems_5, k_X12_readItems_7, k_X12_readItems_10, k_X12_readItems_13, k_X12_readItems_14, k_X12_readItems_15, k_X12_readItems_17, k_X12_readItems_18, k_X12_readItems_19, k_X12_readItems_21, k_X12_readItems_24, k_X12_readItems_25, k_X12_readItems_28, k_X12_readItems_31, k_X12_readItems_32, k_X12_readItems_34, k_X12_readItems_36, k_X12_readItems_37, k_X12_readItems_40, k_X12_readItems_43, k_X12_readItems_45, k_X12_readItems_47, k_X12_readItems_48, k_X12_readItems_51, k_X12_readItems_52, k_X12_readItems_55, k_X12_readItems_56, k_X12_readItems_59, k_X12_readItems_61, k_X12_readItems_63, k_X12_readItems_66, k_X12_readItems_69, k_X12_readItems_70, k_X12_readItems_73, k_X12_readItems_74, k_X12_readItems_75, k_X12_readItems_77, k_X12_readItems_78, k_X12_readItems_80, k_X12_readItems_81, k_X12_readItems_82, k_X12_readItems_84, k_X12_readItems_85, k_X12_readItems_86, k_X12_readItems_89, k_X12_readItems_90, k_X12_readItems_91, k_X12_readItems_94, k_X12_readItems_95, k_X12_readItems_96, k_X12_readItems_98, k_X12_readItems_99, k_X12_readItems_100, k_X12_readItems_101, k_X12_readItems_103, k_X12_readItems_106, k_X12_readItems_107, k_X12_readItems_109, k_X12_readItems_112, k_X12_readItems_115, k_X12_readItems_116, k_X12_readItems_117, k_X12_readItems_120, k_X12_readItems_121, k_X12_readItems_124, k_X12_readItems_126, k_X12_readItems_127, k_X12_readItems_130, k_X12_readItems_133, k_X12_readItems_135, k_X12_readItems_138, w_J0_length_8abf5_e, w_X12_fails_e, w_X12_has_e, w_X12_leastOf_e, w_X12_look_e, w_X12_mostOf_e, w_X12_number_e, w_X12_spotOf_e, w_X12_usual_e, msk, Mt, MtO, ho_10, ho_9, ho_11, ho_u10, ho_u11, eb0, et, hs2, kv1, kv2, al, a0, ww, d0, d1, d2, d3]
                  repeat' (first | apply And.intro | intro _)
                  all_goals first | omega | exact absurd trivial (by assumption) | exact i9 _ ⟨by omega, by omega⟩ | exact ⟨by omega, by omega⟩ | trivial
            · obtain ⟨e1, e2⟩ := nd_1 d0 d1
              rw [e1, e2, if_neg (by omega)] at hI
              have k1' := skb (s2 + 1) (by omega)
              have k2' := itb (s2 + 1)
              have k3' := mtb (s2 + 1)
              by_cases d3 : sav 21000 (k * 4 + w) ≤ mtx m s2 - 48 ∧ mtx m s2 - 48 ≤ sav 21001 (k * 4 + w)
              · rw [if_pos ⟨k0, k1, by omega, by omega, d3.1, d3.2⟩] at hI
                have i9 := iG (s2 + 1) _ (by omega) (by omega) ⟨by omega, by omega⟩ hI
                simp only [↓reduceIte, inR_0, inR_1, inR_m, vSw2_e, swP_n, swP_c, vI_e, vL_e, vNull_e, vIload_e, vLload_e, vAload_e, vIstore_e, vLstore_e, vAstore_e, vIinc_e, vIadd_e, vIsub_e, vImul_e, vIand_e, vIor_e, vIxor_e, vIshl_e, vIshr_e, vIushr_e, vIdiv_e, vIrem_e, vLadd_e, vLsub_e, vLmul_e, vLand_e, vLor_e, vLxor_e, vLdiv_e, vLrem_e, vLushr_e, vLshl_e, vLcmp_e, vIneg_e, vI2l_e, vL2i_e, vI2b_e, vI2c_e, vDup_e, vPop_e, vDup2_e, vGoto_e, vIcEq_e, vIfEq_e, vIcNe_e, vIfNe_e, vIcLt_e, vIfLt_e, vIcGe_e, vIfGe_e, vIcGt_e, vIfGt_e, vIcLe_e, vIfLe_e, vNonnull_e, vSw_e, vGetI_e, vGetL_e, vGetR_e, vPutI_e, vPutZ_e, vPutL_e, vPutR_e, vIald_e, vIald_s, vLald_e, vBald_e, vBald_s, vAald_e, vIast_e, vLast_e, vBast_e, vAast_e, vAlen_e8, vAlen_e9, vAlen_e10, vAlen_e11, vAlen_e5, vAlen_e3, vGets_e, vCompact_e, vLdcS_e, vIret_e, vZret_e, vCret_e, vBret_e, vLret_e, vVret_e, vAret_e, vCallM_e0, vCallMV_e0, vCallS_e0, vCallSV_e0, vCallM_e1, vCallMV_e1, vCallS_e1, vCallSV_e1, vCallM_e2, vCallMV_e2, vCallS_e2, vCallSV_e2, vCallM_e3, vCallMV_e3, vCallS_e3, vCallSV_e3, vCallM_e4, vCallMV_e4, vCallS_e4, vCallSV_e4, vCallM_e5, vCallMV_e5, vCallS_e5, vCallSV_e5, vCallM_e6, vCallMV_e6, vCallS_e6, vCallSV_e6, vCallM_e7, vCallMV_e7, vCallS_e7, vCallSV_e7, vBad_e, vStrVal_e, vStrCod_e, vForm_e, vCallT_e0, vCallT_e1, vCallT_e2, vCopy_e, rf_0_0, rf_0_1, rf_0_2, rf_0_3, rf_0_4, rf_0_7, rf_0_10, rf_0_11, rf_0_12, rf_0_13, rf_0_14, rf_0_15, rf_0_16, rf_1_0, rf_3_0, rf_3_1, rf_6_0, rf_6_1, rf_9_0, rf_9_1, rf_9_3, rf_13_0, rf_13_1, rf_13_2, rf_16_0, rf_16_1, rf_16_2, rf_16_3, rf_21_0, rf_21_1, rf_21_2, rf_21_3, rf_26_0, rf_26_1, rf_26_2, rf_26_3, rf_26_4, rf_26_5, rf_26_6, rf_31_0, rf_31_2, rf_31_5, rf_31_6, rf_36_0, rf_36_1, rf_36_2, rf_36_3, rf_39_0, rf_39_1, rf_39_2, rf_41_0, rf_41_1, rf_41_2, rf_41_3, rf_5000_1, rf_5000_2, rf_5000_3, rf_5000_4, rf_5000_5, rf_5000_15, rf_5000_16, rf_5000_18, rf_5000_19, rf_5000_20, rf_5000_21, rf_5000_22, rf_5000_23, rf_5000_24, rf_5000_25, rf_5000_26, rf_5000_27, rf_5000_36, rf_5000_37, rf_5000_40, rf_5000_41, rf_5000_42, rf_5000_43, rf_5000_44, rf_5000_45, rf_5000_47, rf_5000_52, rf_5000_54, rf_5000_55, rf_100_0, rf_100_1, rf_103_0, rf_103_1, rf_106_0, rf_106_1, rf_109_0, rf_109_1, al_2, al_4, al_5, al_7, al_8, al_10, al_11, al_12, al_14, al_15, al_17, al_18, al_19, al_20, al_22, al_23, al_24, al_25, al_27, al_28, al_29, al_30, al_32, al_33, al_34, al_35, al_37, al_38, al_40, al_42, al_5001, al_5002, al_5003, al_5004, al_5005, al_5006, al_5007, al_5008, al_5009, al_5010, al_5011, al_5012, al_5013, al_5014, al_5015, al_5016, al_5017, al_5018, al_5019, al_5020, al_5021, al_5022, al_5023, al_5024, al_5025, al_5026, al_9000, al_101, al_102, al_104, al_105, al_107, al_108, al_110, al_111, vcs_e, lg_c0, lg_cs, lg_nil, set_c0, set_cs, okst_0, okst_s, acok_n, acok_c, List.contains_nil, List.contains_cons, Bool.or_false, Bool.false_or, Bool.false_eq_true, if_false, if_true, ite_self, ne_eq, true_and, and_true, not_false_eq_true, not_true_eq_false, false_imp_iff, true_imp_iff, Nat.ble_eq, Bool.and_eq_true, reduceCtorEq, or_false, false_or, or_true, true_or, false_and, and_false, and_self, Int.reduceLE, Int.reduceAdd, Int.reduceSub, Int.reduceMul, Int.reduceNeg, Int.reduceLT, Int.reduceEq, Int.reduceNe, Nat.reduceBEq, Nat.reduceBNe, Nat.reduceEqDiff, amCmp_in, amCmp_lt, amCmp_le, amCmp_gt, amCmp_ge, amCmp_eq, amCmp_ne, Nat.reduceLeDiff, Nat.reduceSub, Bool.and_true, Bool.true_and, Bool.and_self, Bool.or_true, Bool.true_or, isRf_3, isRf_4, isRf_5, isRf_8, isRf_9, isRf_10, isRf_11, isRf_15, isRf_16, isRf_17, isRf_18, isRf_19, isRf_20, isRf_21, isRf_22, isRf_23, isRf_24, isRf_25, isRf_26, isRf_27, isRf_28, k_X12_readItems_0, k_X12_readItems_1, k_X12_readItems_3, k_X12_readItems_5, k_X12_readItems_7, k_X12_readItems_10, k_X12_readItems_13, k_X12_readItems_14, k_X12_readItems_15, k_X12_readItems_17, k_X12_readItems_18, k_X12_readItems_19, k_X12_readItems_21, k_X12_readItems_24, k_X12_readItems_25, k_X12_readItems_28, k_X12_readItems_31, k_X12_readItems_32, k_X12_readItems_34, k_X12_readItems_36, k_X12_readItems_37, k_X12_readItems_40, k_X12_readItems_43, k_X12_readItems_45, k_X12_readItems_47, k_X12_readItems_48, k_X12_readItems_51, k_X12_readItems_52, k_X12_readItems_55, k_X12_readItems_56, k_X12_readItems_59, k_X12_readItems_61, k_X12_readItems_63, k_X12_readItems_66, k_X12_readItems_69, k_X12_readItems_70, k_X12_readItems_73, k_X12_readItems_74, k_X12_readItems_75, k_X12_readItems_77, k_X12_readItems_78, k_X12_readItems_80, k_X12_readItems_81, k_X12_readItems_82, k_X12_readItems_84, k_X12_readItems_85, k_X12_readItems_86, k_X12_readItems_89, k_X12_readItems_90, k_X12_readItems_91, k_X12_readItems_94, k_X12_readItems_95, k_X12_readItems_96, k_X12_readItems_98, k_X12_readItems_99, k_X12_readItems_100, k_X12_readItems_101, k_X12_readItems_103, k_X12_readItems_106, k_X12_readItems_107, k_X12_readItems_109, k_X12_readItems_112, k_X12_readItems_115, k_X12_readItems_116, k_X12_readItems_117, k_X12_readItems_120, k_X12_readItems_121, k_X12_readItems_124, k_X12_readItems_126, k_X12_readItems_127, k_X12_readItems_130, k_X12_readItems_133, k_X12_readItems_135, k_X12_readItems_138, w_J0_length_8abf5_e, w_X12_fails_e, w_X12_has_e, w_X12_leastOf_e, w_X12_look_e, w_X12_mostOf_e, w_X12_number_e, w_X12_spotOf_e, w_X12_usual_e, msk, Mt, MtO, ho_10, ho_9, ho_11, ho_u10, ho_u11, eb0, et, hs2, kv1, kv2, al, a0, ww, ssl, itq, d0, d1, d3]
                repeat' (first | apply And.intro | intro _)
                all_goals first | omega | exact absurd trivial (by assumption) | exact i9 | exact ⟨by omega, by omega⟩ | trivial
              · rw [if_neg (fun q => d3 ⟨q.2.2.2.2.1, q.2.2.2.2.2⟩)] at hI
                have i9 := fun X => iF s2 X (by rw [← hI]; show s2 + 1 - 1 = s2; omega) (by omega) (by omega)
                simp only [↓reduceIte, inR_0, inR_1, inR_m, vSw2_e, swP_n, swP_c, vI_e, vL_e, vNull_e, vIload_e, vLload_e, vAload_e, vIstore_e, vLstore_e, vAstore_e, vIinc_e, vIadd_e, vIsub_e, vImul_e, vIand_e, vIor_e, vIxor_e, vIshl_e, vIshr_e, vIushr_e, vIdiv_e, vIrem_e, vLadd_e, vLsub_e, vLmul_e, vLand_e, vLor_e, vLxor_e, vLdiv_e, vLrem_e, vLushr_e, vLshl_e, vLcmp_e, vIneg_e, vI2l_e, vL2i_e, vI2b_e, vI2c_e, vDup_e, vPop_e, vDup2_e, vGoto_e, vIcEq_e, vIfEq_e, vIcNe_e, vIfNe_e, vIcLt_e, vIfLt_e, vIcGe_e, vIfGe_e, vIcGt_e, vIfGt_e, vIcLe_e, vIfLe_e, vNonnull_e, vSw_e, vGetI_e, vGetL_e, vGetR_e, vPutI_e, vPutZ_e, vPutL_e, vPutR_e, vIald_e, vIald_s, vLald_e, vBald_e, vBald_s, vAald_e, vIast_e, vLast_e, vBast_e, vAast_e, vAlen_e8, vAlen_e9, vAlen_e10, vAlen_e11, vAlen_e5, vAlen_e3, vGets_e, vCompact_e, vLdcS_e, vIret_e, vZret_e, vCret_e, vBret_e, vLret_e, vVret_e, vAret_e, vCallM_e0, vCallMV_e0, vCallS_e0, vCallSV_e0, vCallM_e1, vCallMV_e1, vCallS_e1, vCallSV_e1, vCallM_e2, vCallMV_e2, vCallS_e2, vCallSV_e2, vCallM_e3, vCallMV_e3, vCallS_e3, vCallSV_e3, vCallM_e4, vCallMV_e4, vCallS_e4, vCallSV_e4, vCallM_e5, vCallMV_e5, vCallS_e5, vCallSV_e5, vCallM_e6, vCallMV_e6, vCallS_e6, vCallSV_e6, vCallM_e7, vCallMV_e7, vCallS_e7, vCallSV_e7, vBad_e, vStrVal_e, vStrCod_e, vForm_e, vCallT_e0, vCallT_e1, vCallT_e2, vCopy_e, rf_0_0, rf_0_1, rf_0_2, rf_0_3, rf_0_4, rf_0_7, rf_0_10, rf_0_11, rf_0_12, rf_0_13, rf_0_14, rf_0_15, rf_0_16, rf_1_0, rf_3_0, rf_3_1, rf_6_0, rf_6_1, rf_9_0, rf_9_1, rf_9_3, rf_13_0, rf_13_1, rf_13_2, rf_16_0, rf_16_1, rf_16_2, rf_16_3, rf_21_0, rf_21_1, rf_21_2, rf_21_3, rf_26_0, rf_26_1, rf_26_2, rf_26_3, rf_26_4, rf_26_5, rf_26_6, rf_31_0, rf_31_2, rf_31_5, rf_31_6, rf_36_0, rf_36_1, rf_36_2, rf_36_3, rf_39_0, rf_39_1, rf_39_2, rf_41_0, rf_41_1, rf_41_2, rf_41_3, rf_5000_1, rf_5000_2, rf_5000_3, rf_5000_4, rf_5000_5, rf_5000_15, rf_5000_16, rf_5000_18, rf_5000_19, rf_5000_20, rf_5000_21, rf_5000_22, rf_5000_23, rf_5000_24, rf_5000_25, rf_5000_26, rf_5000_27, rf_5000_36, rf_5000_37, rf_5000_40, rf_5000_41, rf_5000_42, rf_5000_43, rf_5000_44, rf_5000_45, rf_5000_47, rf_5000_52, rf_5000_54, rf_5000_55, rf_100_0, rf_100_1, rf_103_0, rf_103_1, rf_106_0, rf_106_1, rf_109_0, rf_109_1, al_2, al_4, al_5, al_7, al_8, al_10, al_11, al_12, al_14, al_15, al_17, al_18, al_19, al_20, al_22, al_23, al_24, al_25, al_27, al_28, al_29, al_30, al_32, al_33, al_34, al_35, al_37, al_38, al_40, al_42, al_5001, al_5002, al_5003, al_5004, al_5005, al_5006, al_5007, al_5008, al_5009, al_5010, al_5011, al_5012, al_5013, al_5014, al_5015, al_5016, al_5017, al_5018, al_5019, al_5020, al_5021, al_5022, al_5023, al_5024, al_5025, al_5026, al_9000, al_101, al_102, al_104, al_105, al_107, al_108, al_110, al_111, vcs_e, lg_c0, lg_cs, lg_nil, set_c0, set_cs, okst_0, okst_s, acok_n, acok_c, List.contains_nil, List.contains_cons, Bool.or_false, Bool.false_or, Bool.false_eq_true, if_false, if_true, ite_self, ne_eq, true_and, and_true, not_false_eq_true, not_true_eq_false, false_imp_iff, true_imp_iff, Nat.ble_eq, Bool.and_eq_true, reduceCtorEq, or_false, false_or, or_true, true_or, false_and, and_false, and_self, Int.reduceLE, Int.reduceAdd, Int.reduceSub, Int.reduceMul, Int.reduceNeg, Int.reduceLT, Int.reduceEq, Int.reduceNe, Nat.reduceBEq, Nat.reduceBNe, Nat.reduceEqDiff, amCmp_in, amCmp_lt, amCmp_le, amCmp_gt, amCmp_ge, amCmp_eq, amCmp_ne, Nat.reduceLeDiff, Nat.reduceSub, Bool.and_true, Bool.true_and, Bool.and_self, Bool.or_true, Bool.true_or, isRf_3, isRf_4, isRf_5, isRf_8, isRf_9, isRf_10, isRf_11, isRf_15, isRf_16, isRf_17, isRf_18, isRf_19, isRf_20, isRf_21, isRf_22, isRf_23, isRf_24, isRf_25, isRf_26, isRf_27, isRf_28, k_X12_readItems_0, k_X12_readItems_1, k_X12_readItems_3, k_X12_readItems_5, k_X12_readItems_7, k_X12_readItems_10, k_X12_readItems_13, k_X12_readItems_14, k_X12_readItems_15, k_X12_readItems_17, k_X12_readItems_18, k_X12_readItems_19, k_X12_readItems_21, k_X12_readItems_24, k_X12_readItems_25, k_X12_readItems_28, k_X12_readItems_31, k_X12_readItems_32, k_X12_readItems_34, k_X12_readItems_36, k_X12_readItems_37, k_X12_readItems_40, k_X12_readItems_43, k_X12_readItems_45, k_X12_readItems_47, k_X12_readItems_48, k_X12_readItems_51, k_X12_readItems_52, k_X12_readItems_55, k_X12_readItems_56, k_X12_readItems_59, k_X12_readItems_61, k_X12_readItems_63, k_X12_readItems_66, k_X12_readItems_69, k_X12_readItems_70, k_X12_readItems_73, k_X12_readItems_74, k_X12_readItems_75, k_X12_readItems_77, k_X12_readItems_78, k_X12_readItems_80, k_X12_readItems_81, k_X12_readItems_82, k_X12_readItems_84, k_X12_readItems_85, k_X12_readItems_86, k_X12_readItems_89, k_X12_readItems_90, k_X12_readItems_91, k_X12_readItems_94, k_X12_readItems_95, k_X12_readItems_96, k_X12_readItems_98, k_X12_readItems_99, k_X12_readItems_100, k_X12_readItems_101, k_X12_readItems_103, k_X12_readItems_106, k_X12_readItems_107, k_X12_readItems_109, k_X12_readItems_112, k_X12_readItems_115, k_X12_readItems_116, k_X12_readItems_117, k_X12_readItems_120, k_X12_readItems_121, k_X12_readItems_124, k_X12_readItems_126, k_X12_readItems_127, k_X12_readItems_130, k_X12_readItems_133, k_X12_readItems_135, k_X12_readItems_138, w_J0_length_8abf5_e, w_X12_fails_e, w_X12_has_e, w_X12_leastOf_e, w_X12_look_e, w_X12_mostOf_e, w_X12_number_e, w_X12_spotOf_e, w_X12_usual_e, msk, Mt, MtO, ho_10, ho_9, ho_11, ho_u10, ho_u11, eb0, et, hs2, kv1, kv2, al, a0, ww, d0, d1, d3]
                repeat' (first | apply And.intro | intro _)
                all_goals first | omega | exact absurd trivial (by assumption) | exact i9 _ ⟨by omega, by omega⟩ | exact ⟨by omega, by omega⟩ | trivial
          · have e1 := nd_0 d0
            rw [e1, if_pos (Or.inl rfl)] at hI
            have i9 := fun X => iF s2 X (by rw [← hI]; show s2 + 0 = s2; omega) (by omega) (by omega)
            simp only [↓reduceIte, inR_0, inR_1, inR_m, vSw2_e, swP_n, swP_c, vI_e, vL_e, vNull_e, vIload_e, vLload_e, vAload_e, vIstore_e, vLstore_e, vAstore_e, vIinc_e, vIadd_e, vIsub_e, vImul_e, vIand_e, vIor_e, vIxor_e, vIshl_e, vIshr_e, vIushr_e, vIdiv_e, vIrem_e, vLadd_e, vLsub_e, vLmul_e, vLand_e, vLor_e, vLxor_e, vLdiv_e, vLrem_e, vLushr_e, vLshl_e, vLcmp_e, vIneg_e, vI2l_e, vL2i_e, vI2b_e, vI2c_e, vDup_e, vPop_e, vDup2_e, vGoto_e, vIcEq_e, vIfEq_e, vIcNe_e, vIfNe_e, vIcLt_e, vIfLt_e, vIcGe_e, vIfGe_e, vIcGt_e, vIfGt_e, vIcLe_e, vIfLe_e, vNonnull_e, vSw_e, vGetI_e, vGetL_e, vGetR_e, vPutI_e, vPutZ_e, vPutL_e, vPutR_e, vIald_e, vIald_s, vLald_e, vBald_e, vBald_s, vAald_e, vIast_e, vLast_e, vBast_e, vAast_e, vAlen_e8, vAlen_e9, vAlen_e10, vAlen_e11, vAlen_e5, vAlen_e3, vGets_e, vCompact_e, vLdcS_e, vIret_e, vZret_e, vCret_e, vBret_e, vLret_e, vVret_e, vAret_e, vCallM_e0, vCallMV_e0, vCallS_e0, vCallSV_e0, vCallM_e1, vCallMV_e1, vCallS_e1, vCallSV_e1, vCallM_e2, vCallMV_e2, vCallS_e2, vCallSV_e2, vCallM_e3, vCallMV_e3, vCallS_e3, vCallSV_e3, vCallM_e4, vCallMV_e4, vCallS_e4, vCallSV_e4, vCallM_e5, vCallMV_e5, vCallS_e5, vCallSV_e5, vCallM_e6, vCallMV_e6, vCallS_e6, vCallSV_e6, vCallM_e7, vCallMV_e7, vCallS_e7, vCallSV_e7, vBad_e, vStrVal_e, vStrCod_e, vForm_e, vCallT_e0, vCallT_e1, vCallT_e2, vCopy_e, rf_0_0, rf_0_1, rf_0_2, rf_0_3, rf_0_4, rf_0_7, rf_0_10, rf_0_11, rf_0_12, rf_0_13, rf_0_14, rf_0_15, rf_0_16, rf_1_0, rf_3_0, rf_3_1, rf_6_0, rf_6_1, rf_9_0, rf_9_1, rf_9_3, rf_13_0, rf_13_1, rf_13_2, rf_16_0, rf_16_1, rf_16_2, rf_16_3, rf_21_0, rf_21_1, rf_21_2, rf_21_3, rf_26_0, rf_26_1, rf_26_2, rf_26_3, rf_26_4, rf_26_5, rf_26_6, rf_31_0, rf_31_2, rf_31_5, rf_31_6, rf_36_0, rf_36_1, rf_36_2, rf_36_3, rf_39_0, rf_39_1, rf_39_2, rf_41_0, rf_41_1, rf_41_2, rf_41_3, rf_5000_1, rf_5000_2, rf_5000_3, rf_5000_4, rf_5000_5, rf_5000_15, rf_5000_16, rf_5000_18, rf_5000_19, rf_5000_20, rf_5000_21, rf_5000_22, rf_5000_23, rf_5000_24, rf_5000_25, rf_5000_26, rf_5000_27, rf_5000_36, rf_5000_37, rf_5000_40, rf_5000_41, rf_5000_42, rf_5000_43, rf_5000_44, rf_5000_45, rf_5000_47, rf_5000_52, rf_5000_54, rf_5000_55, rf_100_0, rf_100_1, rf_103_0, rf_103_1, rf_106_0, rf_106_1, rf_109_0, rf_109_1, al_2, al_4, al_5, al_7, al_8, al_10, al_11, al_12, al_14, al_15, al_17, al_18, al_19, al_20, al_22, al_23, al_24, al_25, al_27, al_28, al_29, al_30, al_32, al_33, al_34, al_35, al_37, al_38, al_40, al_42, al_5001, al_5002, al_5003, al_5004, al_5005, al_5006, al_5007, al_5008, al_5009, al_5010, al_5011, al_5012, al_5013, al_5014, al_5015, al_5016, al_5017, al_5018, al_5019, al_5020, al_5021, al_5022, al_5023, al_5024, al_5025, al_5026, al_9000, al_101, al_102, al_104, al_105, al_107, al_108, al_110, al_111, vcs_e, lg_c0, lg_cs, lg_nil, set_c0, set_cs, okst_0, okst_s, acok_n, acok_c, List.contains_nil, List.contains_cons, Bool.or_false, Bool.false_or, Bool.false_eq_true, if_false, if_true, ite_self, ne_eq, true_and, and_true, not_false_eq_true, not_true_eq_false, false_imp_iff, true_imp_iff, Nat.ble_eq, Bool.and_eq_true, reduceCtorEq, or_false, false_or, or_true, true_or, false_and, and_false, and_self, Int.reduceLE, Int.reduceAdd, Int.reduceSub, Int.reduceMul, Int.reduceNeg, Int.reduceLT, Int.reduceEq, Int.reduceNe, Nat.reduceBEq, Nat.reduceBNe, Nat.reduceEqDiff, amCmp_in, amCmp_lt, amCmp_le, amCmp_gt, amCmp_ge, amCmp_eq, amCmp_ne, Nat.reduceLeDiff, Nat.reduceSub, Bool.and_true, Bool.true_and, Bool.and_self, Bool.or_true, Bool.true_or, isRf_3, isRf_4, isRf_5, isRf_8, isRf_9, isRf_10, isRf_11, isRf_15, isRf_16, isRf_17, isRf_18, isRf_19, isRf_20, isRf_21, isRf_22, isRf_23, isRf_24, isRf_25, isRf_26, isRf_27, isRf_28, k_X12_readItems_0, k_X12_readItems_1, k_X12_readItems_3, k_X12_readItems_5, k_X12_readItems_7, k_X12_readItems_10, k_X12_readItems_13, k_X12_readItems_14, k_X12_readItems_15, k_X12_readItems_17, k_X12_readItems_18, k_X12_readItems_19, k_X12_readItems_21, k_X12_readItems_24, k_X12_readItems_25, k_X12_readItems_28, k_X12_readItems_31, k_X12_readItems_32, k_X12_readItems_34, k_X12_readItems_36, k_X12_readItems_37, k_X12_readItems_40, k_X12_readItems_43, k_X12_readItems_45, k_X12_readItems_47, k_X12_readItems_48, k_X12_readItems_51, k_X12_readItems_52, k_X12_readItems_55, k_X12_readItems_56, k_X12_readItems_59, k_X12_readItems_61, k_X12_readItems_63, k_X12_readItems_66, k_X12_readItems_69, k_X12_readItems_70, k_X12_readItems_73, k_X12_readItems_74, k_X12_readItems_75, k_X12_readItems_77, k_X12_readItems_78, k_X12_readItems_80, k_X12_readItems_81, k_X12_readItems_82, k_X12_readItems_84, k_X12_readItems_85, k_X12_readItems_86, k_X12_readItems_89, k_X12_readItems_90, k_X12_readItems_91, k_X12_readItems_94, k_X12_readItems_95, k_X12_readItems_96, k_X12_readItems_98, k_X12_readItems_99, k_X12_readItems_100, k_X12_readItems_101, k_X12_readItems_103, k_X12_readItems_106, k_X12_readItems_107, k_X12_readItems_109, k_X12_readItems_112, k_X12_readItems_115, k_X12_readItems_116, k_X12_readItems_117, k_X12_readItems_120, k_X12_readItems_121, k_X12_readItems_124, k_X12_readItems_126, k_X12_readItems_127, k_X12_readItems_130, k_X12_readItems_133, k_X12_readItems_135, k_X12_readItems_138, w_J0_length_8abf5_e, w_X12_fails_e, w_X12_has_e, w_X12_leastOf_e, w_X12_look_e, w_X12_mostOf_e, w_X12_number_e, w_X12_spotOf_e, w_X12_usual_e, msk, Mt, MtO, ho_10, ho_9, ho_11, ho_u10, ho_u11, eb0, et, hs2, kv1, kv2, al, a0, ww, d0]
            repeat' (first | apply And.intro | intro _)
            all_goals first | omega | exact absurd trivial (by assumption) | exact i9 _ ⟨by omega, by omega⟩ | exact ⟨by omega, by omega⟩ | trivial
    · have q9 := (hq2 (by rw [hx]; omega)).1 q v' vB
      rw [hx] at q9
      have xn : ¬ x = -1 := by omega
      refine ⟨60, ?_⟩
      simp only [↓reduceIte, inR_0, inR_1, inR_m, vSw2_e, swP_n, swP_c, vI_e, vL_e, vNull_e, vIload_e, vLload_e, vAload_e, vIstore_e, vLstore_e, vAstore_e, vIinc_e, vIadd_e, vIsub_e, vImul_e, vIand_e, vIor_e, vIxor_e, vIshl_e, vIshr_e, vIushr_e, vIdiv_e, vIrem_e, vLadd_e, vLsub_e, vLmul_e, vLand_e, vLor_e, vLxor_e, vLdiv_e, vLrem_e, vLushr_e, vLshl_e, vLcmp_e, vIneg_e, vI2l_e, vL2i_e, vI2b_e, vI2c_e, vDup_e, vPop_e, vDup2_e, vGoto_e, vIcEq_e, vIfEq_e, vIcNe_e, vIfNe_e, vIcLt_e, vIfLt_e, vIcGe_e, vIfGe_e, vIcGt_e, vIfGt_e, vIcLe_e, vIfLe_e, vNonnull_e, vSw_e, vGetI_e, vGetL_e, vGetR_e, vPutI_e, vPutZ_e, vPutL_e, vPutR_e, vIald_e, vIald_s, vLald_e, vBald_e, vBald_s, vAald_e, vIast_e, vLast_e, vBast_e, vAast_e, vAlen_e8, vAlen_e9, vAlen_e10, vAlen_e11, vAlen_e5, vAlen_e3, vGets_e, vCompact_e, vLdcS_e, vIret_e, vZret_e, vCret_e, vBret_e, vLret_e, vVret_e, vAret_e, vCallM_e0, vCallMV_e0, vCallS_e0, vCallSV_e0, vCallM_e1, vCallMV_e1, vCallS_e1, vCallSV_e1, vCallM_e2, vCallMV_e2, vCallS_e2, vCallSV_e2, vCallM_e3, vCallMV_e3, vCallS_e3, vCallSV_e3, vCallM_e4, vCallMV_e4, vCallS_e4, vCallSV_e4, vCallM_e5, vCallMV_e5, vCallS_e5, vCallSV_e5, vCallM_e6, vCallMV_e6, vCallS_e6, vCallSV_e6, vCallM_e7, vCallMV_e7, vCallS_e7, vCallSV_e7, vBad_e, vStrVal_e, vStrCod_e, vForm_e, vCallT_e0, vCallT_e1, vCallT_e2, vCopy_e, rf_0_0, rf_0_1, rf_0_2, rf_0_3, rf_0_4, rf_0_7, rf_0_10, rf_0_11, rf_0_12, rf_0_13, rf_0_14, rf_0_15, rf_0_16, rf_1_0, rf_3_0, rf_3_1, rf_6_0, rf_6_1, rf_9_0, rf_9_1, rf_9_3, rf_13_0, rf_13_1, rf_13_2, rf_16_0, rf_16_1, rf_16_2, rf_16_3, rf_21_0, rf_21_1, rf_21_2, rf_21_3, rf_26_0, rf_26_1, rf_26_2, rf_26_3, rf_26_4, rf_26_5, rf_26_6, rf_31_0, rf_31_2, rf_31_5, rf_31_6, rf_36_0, rf_36_1, rf_36_2, rf_36_3, rf_39_0, rf_39_1, rf_39_2, rf_41_0, rf_41_1, rf_41_2, rf_41_3, rf_5000_1, rf_5000_2, rf_5000_3, rf_5000_4, rf_5000_5, rf_5000_15, rf_5000_16, rf_5000_18, rf_5000_19, rf_5000_20, rf_5000_21, rf_5000_22, rf_5000_23, rf_5000_24, rf_5000_25, rf_5000_26, rf_5000_27, rf_5000_36, rf_5000_37, rf_5000_40, rf_5000_41, rf_5000_42, rf_5000_43, rf_5000_44, rf_5000_45, rf_5000_47, rf_5000_52, rf_5000_54, rf_5000_55, rf_100_0, rf_100_1, rf_103_0, rf_103_1, rf_106_0, rf_106_1, rf_109_0, rf_109_1, al_2, al_4, al_5, al_7, al_8, al_10, al_11, al_12, al_14, al_15, al_17, al_18, al_19, al_20, al_22, al_23, al_24, al_25, al_27, al_28, al_29, al_30, al_32, al_33, al_34, al_35, al_37, al_38, al_40, al_42, al_5001, al_5002, al_5003, al_5004, al_5005, al_5006, al_5007, al_5008, al_5009, al_5010, al_5011, al_5012, al_5013, al_5014, al_5015, al_5016, al_5017, al_5018, al_5019, al_5020, al_5021, al_5022, al_5023, al_5024, al_5025, al_5026, al_9000, al_101, al_102, al_104, al_105, al_107, al_108, al_110, al_111, vcs_e, lg_c0, lg_cs, lg_nil, set_c0, set_cs, okst_0, okst_s, acok_n, acok_c, List.contains_nil, List.contains_cons, Bool.or_false, Bool.false_or, Bool.false_eq_true, if_false, if_true, ite_self, ne_eq, true_and, and_true, not_false_eq_true, not_true_eq_false, false_imp_iff, true_imp_iff, Nat.ble_eq, Bool.and_eq_true, reduceCtorEq, or_false, false_or, or_true, true_or, false_and, and_false, and_self, Int.reduceLE, Int.reduceAdd, Int.reduceSub, Int.reduceMul, Int.reduceNeg, Int.reduceLT, Int.reduceEq, Int.reduceNe, Nat.reduceBEq, Nat.reduceBNe, Nat.reduceEqDiff, amCmp_in, amCmp_lt, amCmp_le, amCmp_gt, amCmp_ge, amCmp_eq, amCmp_ne, Nat.reduceLeDiff, Nat.reduceSub, Bool.and_true, Bool.true_and, Bool.and_self, Bool.or_true, Bool.true_or, isRf_3, isRf_4, isRf_5, isRf_8, isRf_9, isRf_10, isRf_11, isRf_15, isRf_16, isRf_17, isRf_18, isRf_19, isRf_20, isRf_21, isRf_22, isRf_23, isRf_24, isRf_25, isRf_26, isRf_27, isRf_28, k_X12_readItems_0, k_X12_readItems_1, k_X12_readItems_3, k_X12_readItems_5, k_X12_readItems_7, k_X12_readItems_10, k_X12_readItems_13, k_X12_readItems_14, k_X12_readItems_15, k_X12_readItems_17, k_X12_readItems_18, k_X12_readItems_19, k_X12_readItems_21, k_X12_readItems_24, k_X12_readItems_25, k_X12_readItems_28, k_X12_readItems_31, k_X12_readItems_32, k_X12_readItems_34, k_X12_readItems_36, k_X12_readItems_37, k_X12_readItems_40, k_X12_readItems_43, k_X12_readItems_45, k_X12_readItems_47, k_X12_readItems_48, k_X12_readItems_51, k_X12_readItems_52, k_X12_readItems_55, k_X12_readItems_56, k_X12_readItems_59, k_X12_readItems_61, k_X12_readItems_63, k_X12_readItems_66, k_X12_readItems_69, k_X12_readItems_70, k_X12_readItems_73, k_X12_readItems_74, k_X12_readItems_75, k_X12_readItems_77, k_X12_readItems_78, k_X12_readItems_80, k_X12_readItems_81, k_X12_readItems_82, k_X12_readItems_84, k_X12_readItems_85, k_X12_readItems_86, k_X12_readItems_89, k_X12_readItems_90, k_X12_readItems_91, k_X12_readItems_94, k_X12_readItems_95, k_X12_readItems_96, k_X12_readItems_98, k_X12_readItems_99, k_X12_readItems_100, k_X12_readItems_101, k_X12_readItems_103, k_X12_readItems_106, k_X12_readItems_107, k_X12_readItems_109, k_X12_readItems_112, k_X12_readItems_115, k_X12_readItems_116, k_X12_readItems_117, k_X12_readItems_120, k_X12_readItems_121, k_X12_readItems_124, k_X12_readItems_126, k_X12_readItems_127, k_X12_readItems_130, k_X12_readItems_133, k_X12_readItems_135, k_X12_readItems_138, ho_11, xn]
      repeat' (first | apply And.intro | intro _)
      all_goals first | omega | exact absurd trivial (by assumption) | exact q9
  · change vcs _ _ _ _ 60 0 [(28, 5000), (0, c), (8, a), (0, r), (4, z), (6, 0), (6, 0)] [] (hoN m p (-1) cc v)
    have i9 : ∃ k', inv_rit m cc v p k i c a r z L R k' 3 [(28, 5000), (0, c), (8, a), (0, r), (4, z), (0, 0), (6, 0)] [] (hoN m p (-1) cc v) := ⟨(10 + L).toNat, rfl, Or.inl ⟨0, rfl, rfl, by rw [show ((0 : Nat) : Int) = 0 from rfl, flv_0], by omega, by omega⟩⟩
    simp only [↓reduceIte, inR_0, inR_1, inR_m, vSw2_e, swP_n, swP_c, vI_e, vL_e, vNull_e, vIload_e, vLload_e, vAload_e, vIstore_e, vLstore_e, vAstore_e, vIinc_e, vIadd_e, vIsub_e, vImul_e, vIand_e, vIor_e, vIxor_e, vIshl_e, vIshr_e, vIushr_e, vIdiv_e, vIrem_e, vLadd_e, vLsub_e, vLmul_e, vLand_e, vLor_e, vLxor_e, vLdiv_e, vLrem_e, vLushr_e, vLshl_e, vLcmp_e, vIneg_e, vI2l_e, vL2i_e, vI2b_e, vI2c_e, vDup_e, vPop_e, vDup2_e, vGoto_e, vIcEq_e, vIfEq_e, vIcNe_e, vIfNe_e, vIcLt_e, vIfLt_e, vIcGe_e, vIfGe_e, vIcGt_e, vIfGt_e, vIcLe_e, vIfLe_e, vNonnull_e, vSw_e, vGetI_e, vGetL_e, vGetR_e, vPutI_e, vPutZ_e, vPutL_e, vPutR_e, vIald_e, vIald_s, vLald_e, vBald_e, vBald_s, vAald_e, vIast_e, vLast_e, vBast_e, vAast_e, vAlen_e8, vAlen_e9, vAlen_e10, vAlen_e11, vAlen_e5, vAlen_e3, vGets_e, vCompact_e, vLdcS_e, vIret_e, vZret_e, vCret_e, vBret_e, vLret_e, vVret_e, vAret_e, vCallM_e0, vCallMV_e0, vCallS_e0, vCallSV_e0, vCallM_e1, vCallMV_e1, vCallS_e1, vCallSV_e1, vCallM_e2, vCallMV_e2, vCallS_e2, vCallSV_e2, vCallM_e3, vCallMV_e3, vCallS_e3, vCallSV_e3, vCallM_e4, vCallMV_e4, vCallS_e4, vCallSV_e4, vCallM_e5, vCallMV_e5, vCallS_e5, vCallSV_e5, vCallM_e6, vCallMV_e6, vCallS_e6, vCallSV_e6, vCallM_e7, vCallMV_e7, vCallS_e7, vCallSV_e7, vBad_e, vStrVal_e, vStrCod_e, vForm_e, vCallT_e0, vCallT_e1, vCallT_e2, vCopy_e, rf_0_0, rf_0_1, rf_0_2, rf_0_3, rf_0_4, rf_0_7, rf_0_10, rf_0_11, rf_0_12, rf_0_13, rf_0_14, rf_0_15, rf_0_16, rf_1_0, rf_3_0, rf_3_1, rf_6_0, rf_6_1, rf_9_0, rf_9_1, rf_9_3, rf_13_0, rf_13_1, rf_13_2, rf_16_0, rf_16_1, rf_16_2, rf_16_3, rf_21_0, rf_21_1, rf_21_2, rf_21_3, rf_26_0, rf_26_1, rf_26_2, rf_26_3, rf_26_4, rf_26_5, rf_26_6, rf_31_0, rf_31_2, rf_31_5, rf_31_6, rf_36_0, rf_36_1, rf_36_2, rf_36_3, rf_39_0, rf_39_1, rf_39_2, rf_41_0, rf_41_1, rf_41_2, rf_41_3, rf_5000_1, rf_5000_2, rf_5000_3, rf_5000_4, rf_5000_5, rf_5000_15, rf_5000_16, rf_5000_18, rf_5000_19, rf_5000_20, rf_5000_21, rf_5000_22, rf_5000_23, rf_5000_24, rf_5000_25, rf_5000_26, rf_5000_27, rf_5000_36, rf_5000_37, rf_5000_40, rf_5000_41, rf_5000_42, rf_5000_43, rf_5000_44, rf_5000_45, rf_5000_47, rf_5000_52, rf_5000_54, rf_5000_55, rf_100_0, rf_100_1, rf_103_0, rf_103_1, rf_106_0, rf_106_1, rf_109_0, rf_109_1, al_2, al_4, al_5, al_7, al_8, al_10, al_11, al_12, al_14, al_15, al_17, al_18, al_19, al_20, al_22, al_23, al_24, al_25, al_27, al_28, al_29, al_30, al_32, al_33, al_34, al_35, al_37, al_38, al_40, al_42, al_5001, al_5002, al_5003, al_5004, al_5005, al_5006, al_5007, al_5008, al_5009, al_5010, al_5011, al_5012, al_5013, al_5014, al_5015, al_5016, al_5017, al_5018, al_5019, al_5020, al_5021, al_5022, al_5023, al_5024, al_5025, al_5026, al_9000, al_101, al_102, al_104, al_105, al_107, al_108, al_110, al_111, vcs_e, lg_c0, lg_cs, lg_nil, set_c0, set_cs, okst_0, okst_s, acok_n, acok_c, List.contains_nil, List.contains_cons, Bool.or_false, Bool.false_or, Bool.false_eq_true, if_false, if_true, ite_self, ne_eq, true_and, and_true, not_false_eq_true, not_true_eq_false, false_imp_iff, true_imp_iff, Nat.ble_eq, Bool.and_eq_true, reduceCtorEq, or_false, false_or, or_true, true_or, false_and, and_false, and_self, Int.reduceLE, Int.reduceAdd, Int.reduceSub, Int.reduceMul, Int.reduceNeg, Int.reduceLT, Int.reduceEq, Int.reduceNe, Nat.reduceBEq, Nat.reduceBNe, Nat.reduceEqDiff, amCmp_in, amCmp_lt, amCmp_le, amCmp_gt, amCmp_ge, amCmp_eq, amCmp_ne, Nat.reduceLeDiff, Nat.reduceSub, Bool.and_true, Bool.true_and, Bool.and_self, Bool.or_true, Bool.true_or, isRf_3, isRf_4, isRf_5, isRf_8, isRf_9, isRf_10, isRf_11, isRf_15, isRf_16, isRf_17, isRf_18, isRf_19, isRf_20, isRf_21, isRf_22, isRf_23, isRf_24, isRf_25, isRf_26, isRf_27, isRf_28, k_X12_readItems_0, k_X12_readItems_1, k_X12_readItems_3, k_X12_readItems_5, k_X12_readItems_7, k_X12_readItems_10, k_X12_readItems_13, k_X12_readItems_14, k_X12_readItems_15, k_X12_readItems_17, k_X12_readItems_18, k_X12_readItems_19, k_X12_readItems_21, k_X12_readItems_24, k_X12_readItems_25, k_X12_readItems_28, k_X12_readItems_31, k_X12_readItems_32, k_X12_readItems_34, k_X12_readItems_36, k_X12_readItems_37, k_X12_readItems_40, k_X12_readItems_43, k_X12_readItems_45, k_X12_readItems_47, k_X12_readItems_48, k_X12_readItems_51, k_X12_readItems_52, k_X12_readItems_55, k_X12_readItems_56, k_X12_readItems_59, k_X12_readItems_61, k_X12_readItems_63, k_X12_readItems_66, k_X12_readItems_69, k_X12_readItems_70, k_X12_readItems_73, k_X12_readItems_74, k_X12_readItems_75, k_X12_readItems_77, k_X12_readItems_78, k_X12_readItems_80, k_X12_readItems_81, k_X12_readItems_82, k_X12_readItems_84, k_X12_readItems_85, k_X12_readItems_86, k_X12_readItems_89, k_X12_readItems_90, k_X12_readItems_91, k_X12_readItems_94, k_X12_readItems_95, k_X12_readItems_96, k_X12_readItems_98, k_X12_readItems_99, k_X12_readItems_100, k_X12_readItems_101, k_X12_readItems_103, k_X12_readItems_106, k_X12_readItems_107, k_X12_readItems_109, k_X12_readItems_112, k_X12_readItems_115, k_X12_readItems_116, k_X12_readItems_117, k_X12_readItems_120, k_X12_readItems_121, k_X12_readItems_124, k_X12_readItems_126, k_X12_readItems_127, k_X12_readItems_130, k_X12_readItems_133, k_X12_readItems_135, k_X12_readItems_138]
    repeat' (first | apply And.intro | intro _)
    all_goals first | omega | exact absurd trivial (by assumption) | exact i9
/-! the reference reads a clause of a HOUSE -/
theorem kindF_e (s : Int) : kindF s = if s = 115 then 0 else if s = 112 then 1 else if s = 99 then 2 else if s = 116 then 3 else -1 := by
  unfold kindF
  have e0 : stv 20100 0 = 115 := by decide
  have e1 : stv 20100 1 = 112 := by decide
  have e2 : stv 20100 2 = 99 := by decide
  have e3 : stv 20100 3 = 116 := by decide
  rw [fidx_4, e0, e1, e2, e3]
  (repeat' split) <;> omega
theorem ho_uc (m : Mem) (p f x : Int) (c v : Int → Int) {k : Int} (h : 31 ≤ k ∧ k ≤ 33) : up (hoN m p f c v) 5000 k x = hoN m p f (upf c (k - 30) x) v := by
  funext b j; unfold up hoN upf
  by_cases h2 : b = 5000 ∧ j = k
  · rw [if_pos h2, h2.1, h2.2, slo_5, if_neg (by decide), if_pos ⟨rfl, h⟩, if_pos rfl]
  · rw [if_neg h2]
    by_cases hs : 0 ≤ slo b j
    · rw [if_pos hs, if_pos hs]
    · rw [if_neg hs, if_neg hs]
      by_cases h3 : b = 5000 ∧ 31 ≤ j ∧ j ≤ 33
      · rw [if_pos h3, if_pos h3, if_neg (by omega)]
      · rw [if_neg h3, if_neg h3]
        by_cases h4 : b = 5000 ∧ j = 35
        · rw [if_pos h4, if_pos h4, if_neg (by omega)]
        · rw [if_neg h4, if_neg h4]
theorem ho_u0 (m : Mem) (p f x : Int) (c v : Int → Int) : up (hoN m p f c v) 5000 35 x = hoN m p f (upf c 0 x) v := by
  funext b j; unfold up hoN upf
  by_cases h2 : b = 5000 ∧ j = 35
  · rw [if_pos h2, h2.1, h2.2, slo_5, if_neg (by decide), if_neg (by decide), if_pos ⟨rfl, rfl⟩, if_pos rfl]
  · rw [if_neg h2]
    by_cases hs : 0 ≤ slo b j
    · rw [if_pos hs, if_pos hs]
    · rw [if_neg hs, if_neg hs]
      by_cases h3 : b = 5000 ∧ 31 ≤ j ∧ j ≤ 33
      · rw [if_pos h3, if_pos h3, if_neg (by omega)]
      · rw [if_neg h3, if_neg h3, if_neg h2, if_neg h2]

theorem wd_1340 : Cond.fieldLink RX12 257 "ArmchairHouseModel" "hasRules" "Z" ∈ TBL := tb_tab (List.mem_of_getElem? (i := 1340) (by decide +kernel)) rfl
theorem fl_X12_257 : amFl RX12 12 35 257 RX12 TX12 57 := ⟨rfl, inT_12, by decide, wd_1340⟩
theorem wd_1336 : Cond.fieldLink RX12 260 "ArmchairHouseModel" "playsRead" "I" ∈ TBL := tb_tab (List.mem_of_getElem? (i := 1336) (by decide +kernel)) rfl
theorem fl_X12_260 : amFl RX12 12 31 260 RX12 TX12 57 := ⟨rfl, inT_12, by decide, wd_1336⟩
theorem wd_1337 : Cond.fieldLink RX12 263 "ArmchairHouseModel" "chairsRead" "I" ∈ TBL := tb_tab (List.mem_of_getElem? (i := 1337) (by decide +kernel)) rfl
theorem fl_X12_263 : amFl RX12 12 32 263 RX12 TX12 57 := ⟨rfl, inT_12, by decide, wd_1337⟩
theorem wd_1338 : Cond.fieldLink RX12 266 "ArmchairHouseModel" "sittersRead" "I" ∈ TBL := tb_tab (List.mem_of_getElem? (i := 1338) (by decide +kernel)) rfl
theorem fl_X12_266 : amFl RX12 12 33 266 RX12 TX12 57 := ⟨rfl, inT_12, by decide, wd_1338⟩
theorem fp_X12_257 : amFp RX12 12 35 257 RX12 TX12 57 tyX12 .boolean := ⟨fl_X12_257, tyX12_ok, nmX12, by decide +kernel⟩
theorem wd_1324 : Cond.fieldLink RX12 40 "ArmchairHouseModel" "ruleRead" "[I" ∈ TBL := tb_tab (List.mem_of_getElem? (i := 1324) (by decide +kernel)) rfl
theorem fl_X12_40 : amFl RX12 12 19 40 RX12 TX12 57 := ⟨rfl, inT_12, by decide, wd_1324⟩
theorem wd_1528 : Cond.methodLink RX12 271 yX12_readItems ∈ TBL := tb_tab (List.mem_of_getElem? (i := 1528) (by decide +kernel)) rfl
theorem wd_1531 : Cond.code yX12_readItems cX12_readItems 7 (none) ∈ TBL := tb_tab (List.mem_of_getElem? (i := 1531) (by decide +kernel)) rfl
theorem lk_X12_271 : amLk RX12 271 yX12_readItems cX12_readItems 7 (none) 4 := ⟨wd_1528, wd_12, wd_1531, by decide +kernel, by decide +kernel, by decide⟩
theorem wd_1530 : Cond.instanceMethod yX12_readItems ∈ TBL := tb_tab (List.mem_of_getElem? (i := 1530) (by decide +kernel)) rfl
theorem sl_X12_readItems : Cond.selects RX12 yX12_readItems yX12_readItems ∈ TBL := tb_sel (List.mem_of_getElem? (i := 53) (by decide +kernel)) rfl
theorem fp_X12_260 : amFp RX12 12 31 260 RX12 TX12 57 tyX12 .int := ⟨fl_X12_260, tyX12_ok, nmX12, by decide +kernel⟩
theorem wd_1326 : Cond.fieldLink RX12 46 "ArmchairHouseModel" "playRead" "[I" ∈ TBL := tb_tab (List.mem_of_getElem? (i := 1326) (by decide +kernel)) rfl
theorem fl_X12_46 : amFl RX12 12 21 46 RX12 TX12 57 := ⟨rfl, inT_12, by decide, wd_1326⟩
theorem fp_X12_263 : amFp RX12 12 32 263 RX12 TX12 57 tyX12 .int := ⟨fl_X12_263, tyX12_ok, nmX12, by decide +kernel⟩
theorem wd_1328 : Cond.fieldLink RX12 52 "ArmchairHouseModel" "chairRead" "[I" ∈ TBL := tb_tab (List.mem_of_getElem? (i := 1328) (by decide +kernel)) rfl
theorem fl_X12_52 : amFl RX12 12 23 52 RX12 TX12 57 := ⟨rfl, inT_12, by decide, wd_1328⟩
theorem fp_X12_266 : amFp RX12 12 33 266 RX12 TX12 57 tyX12 .int := ⟨fl_X12_266, tyX12_ok, nmX12, by decide +kernel⟩
theorem wd_1330 : Cond.fieldLink RX12 58 "ArmchairHouseModel" "sitterRead" "[I" ∈ TBL := tb_tab (List.mem_of_getElem? (i := 1330) (by decide +kernel)) rfl
theorem fl_X12_58 : amFl RX12 12 25 58 RX12 TX12 57 := ⟨rfl, inT_12, by decide, wd_1330⟩
def a_X12_readClause : AC := [(0, vAload 0 1), (1, vCallM w_X12_look 28 0 4), (4, vIstore 1 5), (5, vIload 1 6), (6, vI 115 8), (8, vIcNe 18 11), (11, vAload 0 12), (12, vGetI 28 35 15), (15, vIfEq 62 18), (18, vIload 1 19), (19, vI 112 21), (21, vIcNe 32 24), (24, vAload 0 25), (25, vGetI 28 31 28), (28, vI 4 29), (29, vIcLt 62 32), (32, vIload 1 33), (33, vI 99 35), (35, vIcNe 47 38), (38, vAload 0 39), (39, vGetI 28 32 42), (42, vI 6 44), (44, vIcLt 62 47), (47, vIload 1 48), (48, vI 116 50), (50, vIcNe 66 53), (53, vAload 0 54), (54, vGetI 28 33 57), (57, vI 6 59), (59, vIcGe 66 62), (62, vI 1 63), (63, vGoto 67), (66, vI 0 67), (67, vIstore 2 68), (68, vIload 2 69), (69, vIfNe 78 72), (72, vAload 0 73), (73, vCallM w_X12_fails 28 0 76), (76, vPop 77), (77, vVret), (78, vAload 0 79), (79, vDup 80), (80, vGetI 28 10 83), (83, vI 1 84), (84, vIadd 85), (85, vPutI 28 10 88), (88, vIload 1 89), (89, vI 115 91), (91, vIcNe 115 94), (94, vAload 0 95), (95, vI 1 96), (96, vPutZ 28 35 99), (99, vAload 0 100), (100, vIload 1 101), (101, vAload 0 102), (102, vGetR TT 28 19 8 105), (105, vI 0 106), (106, vLdcS 20006 109), (109, vCallMV w_X12_readItems 28 4 112), (112, vGoto 221), (115, vIload 1 116), (116, vI 112 118), (118, vIcNe 154 121), (121, vAload 0 122), (122, vDup 123), (123, vGetI 28 31 126), (126, vI 1 127), (127, vIadd 128), (128, vPutI 28 31 131), (131, vAload 0 132), (132, vIload 1 133), (133, vAload 0 134), (134, vGetR TT 28 21 8 137), (137, vI 4 138), (138, vAload 0 139), (139, vGetI 28 31 142), (142, vI 1 143), (143, vIsub 144), (144, vImul 145), (145, vLdcS 20007 148), (148, vCallMV w_X12_readItems 28 4 151), (151, vGoto 221), (154, vIload 1 155), (155, vI 99 157), (157, vIcNe 193 160), (160, vAload 0 161), (161, vDup 162), (162, vGetI 28 32 165), (165, vI 1 166), (166, vIadd 167), (167, vPutI 28 32 170), (170, vAload 0 171), (171, vIload 1 172), (172, vAload 0 173), (173, vGetR TT 28 23 8 176), (176, vI 3 177), (177, vAload 0 178), (178, vGetI 28 32 181), (181, vI 1 182), (182, vIsub 183), (183, vImul 184), (184, vLdcS 20008 187), (187, vCallMV w_X12_readItems 28 4 190), (190, vGoto 221), (193, vAload 0 194), (194, vDup 195), (195, vGetI 28 33 198), (198, vI 1 199), (199, vIadd 200), (200, vPutI 28 33 203), (203, vAload 0 204), (204, vIload 1 205), (205, vAload 0 206), (206, vGetR TT 28 25 8 209), (209, vAload 0 210), (210, vGetI 28 33 213), (213, vI 1 214), (214, vIsub 215), (215, vLdcS 20009 218), (218, vCallMV w_X12_readItems 28 4 221), (221, vVret)]
theorem k_X12_readClause_0 : look a_X12_readClause 0 = vAload 0 1 := rfl
theorem k_X12_readClause_1 : look a_X12_readClause 1 = vCallM w_X12_look 28 0 4 := rfl
theorem k_X12_readClause_4 : look a_X12_readClause 4 = vIstore 1 5 := rfl
theorem k_X12_readClause_5 : look a_X12_readClause 5 = vIload 1 6 := rfl
theorem k_X12_readClause_6 : look a_X12_readClause 6 = vI 115 8 := rfl
theorem k_X12_readClause_8 : look a_X12_readClause 8 = vIcNe 18 11 := rfl
theorem k_X12_readClause_11 : look a_X12_readClause 11 = vAload 0 12 := rfl
theorem k_X12_readClause_12 : look a_X12_readClause 12 = vGetI 28 35 15 := rfl
theorem k_X12_readClause_15 : look a_X12_readClause 15 = vIfEq 62 18 := rfl
theorem k_X12_readClause_18 : look a_X12_readClause 18 = vIload 1 19 := rfl
theorem k_X12_readClause_19 : look a_X12_readClause 19 = vI 112 21 := rfl
theorem k_X12_readClause_21 : look a_X12_readClause 21 = vIcNe 32 24 := rfl
theorem k_X12_readClause_24 : look a_X12_readClause 24 = vAload 0 25 := rfl
theorem k_X12_readClause_25 : look a_X12_readClause 25 = vGetI 28 31 28 := rfl
theorem k_X12_readClause_28 : look a_X12_readClause 28 = vI 4 29 := rfl
theorem k_X12_readClause_29 : look a_X12_readClause 29 = vIcLt 62 32 := rfl
theorem k_X12_readClause_32 : look a_X12_readClause 32 = vIload 1 33 := rfl
theorem k_X12_readClause_33 : look a_X12_readClause 33 = vI 99 35 := rfl
theorem k_X12_readClause_35 : look a_X12_readClause 35 = vIcNe 47 38 := rfl
theorem k_X12_readClause_38 : look a_X12_readClause 38 = vAload 0 39 := rfl
theorem k_X12_readClause_39 : look a_X12_readClause 39 = vGetI 28 32 42 := rfl
theorem k_X12_readClause_42 : look a_X12_readClause 42 = vI 6 44 := rfl
theorem k_X12_readClause_44 : look a_X12_readClause 44 = vIcLt 62 47 := rfl
theorem k_X12_readClause_47 : look a_X12_readClause 47 = vIload 1 48 := rfl
theorem k_X12_readClause_48 : look a_X12_readClause 48 = vI 116 50 := rfl
theorem k_X12_readClause_50 : look a_X12_readClause 50 = vIcNe 66 53 := rfl
theorem k_X12_readClause_53 : look a_X12_readClause 53 = vAload 0 54 := rfl
theorem k_X12_readClause_54 : look a_X12_readClause 54 = vGetI 28 33 57 := rfl
theorem k_X12_readClause_57 : look a_X12_readClause 57 = vI 6 59 := rfl
theorem k_X12_readClause_59 : look a_X12_readClause 59 = vIcGe 66 62 := rfl
theorem k_X12_readClause_62 : look a_X12_readClause 62 = vI 1 63 := rfl
theorem k_X12_readClause_63 : look a_X12_readClause 63 = vGoto 67 := rfl
theorem k_X12_readClause_66 : look a_X12_readClause 66 = vI 0 67 := rfl
theorem k_X12_readClause_67 : look a_X12_readClause 67 = vIstore 2 68 := rfl
theorem k_X12_readClause_68 : look a_X12_readClause 68 = vIload 2 69 := rfl
theorem k_X12_readClause_69 : look a_X12_readClause 69 = vIfNe 78 72 := rfl
theorem k_X12_readClause_72 : look a_X12_readClause 72 = vAload 0 73 := rfl
theorem k_X12_readClause_73 : look a_X12_readClause 73 = vCallM w_X12_fails 28 0 76 := rfl
theorem k_X12_readClause_76 : look a_X12_readClause 76 = vPop 77 := rfl
theorem k_X12_readClause_77 : look a_X12_readClause 77 = vVret := rfl
theorem k_X12_readClause_78 : look a_X12_readClause 78 = vAload 0 79 := rfl
theorem k_X12_readClause_79 : look a_X12_readClause 79 = vDup 80 := rfl
theorem k_X12_readClause_80 : look a_X12_readClause 80 = vGetI 28 10 83 := rfl
theorem k_X12_readClause_83 : look a_X12_readClause 83 = vI 1 84 := rfl
theorem k_X12_readClause_84 : look a_X12_readClause 84 = vIadd 85 := rfl
theorem k_X12_readClause_85 : look a_X12_readClause 85 = vPutI 28 10 88 := rfl
theorem k_X12_readClause_88 : look a_X12_readClause 88 = vIload 1 89 := rfl
theorem k_X12_readClause_89 : look a_X12_readClause 89 = vI 115 91 := rfl
theorem k_X12_readClause_91 : look a_X12_readClause 91 = vIcNe 115 94 := rfl
theorem k_X12_readClause_94 : look a_X12_readClause 94 = vAload 0 95 := rfl
theorem k_X12_readClause_95 : look a_X12_readClause 95 = vI 1 96 := rfl
theorem k_X12_readClause_96 : look a_X12_readClause 96 = vPutZ 28 35 99 := rfl
theorem k_X12_readClause_99 : look a_X12_readClause 99 = vAload 0 100 := rfl
theorem k_X12_readClause_100 : look a_X12_readClause 100 = vIload 1 101 := rfl
theorem k_X12_readClause_101 : look a_X12_readClause 101 = vAload 0 102 := rfl
theorem k_X12_readClause_102 : look a_X12_readClause 102 = vGetR TT 28 19 8 105 := rfl
theorem k_X12_readClause_105 : look a_X12_readClause 105 = vI 0 106 := rfl
theorem k_X12_readClause_106 : look a_X12_readClause 106 = vLdcS 20006 109 := rfl
theorem k_X12_readClause_109 : look a_X12_readClause 109 = vCallMV w_X12_readItems 28 4 112 := rfl
theorem k_X12_readClause_112 : look a_X12_readClause 112 = vGoto 221 := rfl
theorem k_X12_readClause_115 : look a_X12_readClause 115 = vIload 1 116 := rfl
theorem k_X12_readClause_116 : look a_X12_readClause 116 = vI 112 118 := rfl
theorem k_X12_readClause_118 : look a_X12_readClause 118 = vIcNe 154 121 := rfl
theorem k_X12_readClause_121 : look a_X12_readClause 121 = vAload 0 122 := rfl
theorem k_X12_readClause_122 : look a_X12_readClause 122 = vDup 123 := rfl
theorem k_X12_readClause_123 : look a_X12_readClause 123 = vGetI 28 31 126 := rfl
theorem k_X12_readClause_126 : look a_X12_readClause 126 = vI 1 127 := rfl
theorem k_X12_readClause_127 : look a_X12_readClause 127 = vIadd 128 := rfl
theorem k_X12_readClause_128 : look a_X12_readClause 128 = vPutI 28 31 131 := rfl
theorem k_X12_readClause_131 : look a_X12_readClause 131 = vAload 0 132 := rfl
theorem k_X12_readClause_132 : look a_X12_readClause 132 = vIload 1 133 := rfl
theorem k_X12_readClause_133 : look a_X12_readClause 133 = vAload 0 134 := rfl
theorem k_X12_readClause_134 : look a_X12_readClause 134 = vGetR TT 28 21 8 137 := rfl
theorem k_X12_readClause_137 : look a_X12_readClause 137 = vI 4 138 := rfl
theorem k_X12_readClause_138 : look a_X12_readClause 138 = vAload 0 139 := rfl
theorem k_X12_readClause_139 : look a_X12_readClause 139 = vGetI 28 31 142 := rfl
theorem k_X12_readClause_142 : look a_X12_readClause 142 = vI 1 143 := rfl
theorem k_X12_readClause_143 : look a_X12_readClause 143 = vIsub 144 := rfl
theorem k_X12_readClause_144 : look a_X12_readClause 144 = vImul 145 := rfl
theorem k_X12_readClause_145 : look a_X12_readClause 145 = vLdcS 20007 148 := rfl
theorem k_X12_readClause_148 : look a_X12_readClause 148 = vCallMV w_X12_readItems 28 4 151 := rfl
theorem k_X12_readClause_151 : look a_X12_readClause 151 = vGoto 221 := rfl
theorem k_X12_readClause_154 : look a_X12_readClause 154 = vIload 1 155 := rfl
theorem k_X12_readClause_155 : look a_X12_readClause 155 = vI 99 157 := rfl
theorem k_X12_readClause_157 : look a_X12_readClause 157 = vIcNe 193 160 := rfl
theorem k_X12_readClause_160 : look a_X12_readClause 160 = vAload 0 161 := rfl
theorem k_X12_readClause_161 : look a_X12_readClause 161 = vDup 162 := rfl
theorem k_X12_readClause_162 : look a_X12_readClause 162 = vGetI 28 32 165 := rfl
theorem k_X12_readClause_165 : look a_X12_readClause 165 = vI 1 166 := rfl
theorem k_X12_readClause_166 : look a_X12_readClause 166 = vIadd 167 := rfl
theorem k_X12_readClause_167 : look a_X12_readClause 167 = vPutI 28 32 170 := rfl
theorem k_X12_readClause_170 : look a_X12_readClause 170 = vAload 0 171 := rfl
theorem k_X12_readClause_171 : look a_X12_readClause 171 = vIload 1 172 := rfl
theorem k_X12_readClause_172 : look a_X12_readClause 172 = vAload 0 173 := rfl
theorem k_X12_readClause_173 : look a_X12_readClause 173 = vGetR TT 28 23 8 176 := rfl
theorem k_X12_readClause_176 : look a_X12_readClause 176 = vI 3 177 := rfl
theorem k_X12_readClause_177 : look a_X12_readClause 177 = vAload 0 178 := rfl
theorem k_X12_readClause_178 : look a_X12_readClause 178 = vGetI 28 32 181 := rfl
theorem k_X12_readClause_181 : look a_X12_readClause 181 = vI 1 182 := rfl
theorem k_X12_readClause_182 : look a_X12_readClause 182 = vIsub 183 := rfl
theorem k_X12_readClause_183 : look a_X12_readClause 183 = vImul 184 := rfl
theorem k_X12_readClause_184 : look a_X12_readClause 184 = vLdcS 20008 187 := rfl
theorem k_X12_readClause_187 : look a_X12_readClause 187 = vCallMV w_X12_readItems 28 4 190 := rfl
theorem k_X12_readClause_190 : look a_X12_readClause 190 = vGoto 221 := rfl
theorem k_X12_readClause_193 : look a_X12_readClause 193 = vAload 0 194 := rfl
theorem k_X12_readClause_194 : look a_X12_readClause 194 = vDup 195 := rfl
theorem k_X12_readClause_195 : look a_X12_readClause 195 = vGetI 28 33 198 := rfl
theorem k_X12_readClause_198 : look a_X12_readClause 198 = vI 1 199 := rfl
theorem k_X12_readClause_199 : look a_X12_readClause 199 = vIadd 200 := rfl
theorem k_X12_readClause_200 : look a_X12_readClause 200 = vPutI 28 33 203 := rfl
theorem k_X12_readClause_203 : look a_X12_readClause 203 = vAload 0 204 := rfl
theorem k_X12_readClause_204 : look a_X12_readClause 204 = vIload 1 205 := rfl
theorem k_X12_readClause_205 : look a_X12_readClause 205 = vAload 0 206 := rfl
theorem k_X12_readClause_206 : look a_X12_readClause 206 = vGetR TT 28 25 8 209 := rfl
theorem k_X12_readClause_209 : look a_X12_readClause 209 = vAload 0 210 := rfl
theorem k_X12_readClause_210 : look a_X12_readClause 210 = vGetI 28 33 213 := rfl
theorem k_X12_readClause_213 : look a_X12_readClause 213 = vI 1 214 := rfl
theorem k_X12_readClause_214 : look a_X12_readClause 214 = vIsub 215 := rfl
theorem k_X12_readClause_215 : look a_X12_readClause 215 = vLdcS 20009 218 := rfl
theorem k_X12_readClause_218 : look a_X12_readClause 218 = vCallMV w_X12_readItems 28 4 221 := rfl
theorem k_X12_readClause_221 : look a_X12_readClause 221 = vVret := rfl
theorem o_X12_readClause {X : amX} (e1 : XT X = TT) (e2 : XD X = 6) (hB : amB X RX12 cX12_readClause (none) 3) : ∀ pc, amOK X pc (look a_X12_readClause pc) := by
  have hT : amTok (XT X) := e1 ▸ TT_ok
  refine look_ok ?_
  unfold a_X12_readClause
  refine fc (ok_aload_n hB dX12_readClause_0) ?_
  refine fc (ok_callM hB hT (e1 ▸ s_X12_look) lk_X12_153 (by rw [e2]; decide) (c := 12) rfl rfl rfl wd_1521 sl_X12_look dX12_readClause_1) ?_
  refine fc (ok_istore_n hB (by decide) dX12_readClause_4) ?_
  refine fc (ok_iload_n hB dX12_readClause_5) ?_
  refine fc (ok_bipush hB dX12_readClause_6 (by decide)) ?_
  refine fc (ok_icmp_ne hB (t := 18) (by decide) dX12_readClause_8) ?_
  refine fc (ok_aload_n hB dX12_readClause_11) ?_
  refine fc (ok_getI hB hT fl_X12_257 rfl rfl (Or.inr af_12_35) dX12_readClause_12) ?_
  refine fc (ok_if_eq hB (t := 62) (by decide) dX12_readClause_15) ?_
  refine fc (ok_iload_n hB dX12_readClause_18) ?_
  refine fc (ok_bipush hB dX12_readClause_19 (by decide)) ?_
  refine fc (ok_icmp_ne hB (t := 32) (by decide) dX12_readClause_21) ?_
  refine fc (ok_aload_n hB dX12_readClause_24) ?_
  refine fc (ok_getI hB hT fl_X12_260 rfl rfl (Or.inl af_12_31) dX12_readClause_25) ?_
  refine fc (ok_iconst hB dX12_readClause_28) ?_
  refine fc (ok_icmp_lt hB (t := 62) (by decide) dX12_readClause_29) ?_
  refine fc (ok_iload_n hB dX12_readClause_32) ?_
  refine fc (ok_bipush hB dX12_readClause_33 (by decide)) ?_
  refine fc (ok_icmp_ne hB (t := 47) (by decide) dX12_readClause_35) ?_
  refine fc (ok_aload_n hB dX12_readClause_38) ?_
  refine fc (ok_getI hB hT fl_X12_263 rfl rfl (Or.inl af_12_32) dX12_readClause_39) ?_
  refine fc (ok_bipush hB dX12_readClause_42 (by decide)) ?_
  refine fc (ok_icmp_lt hB (t := 62) (by decide) dX12_readClause_44) ?_
  refine fc (ok_iload_n hB dX12_readClause_47) ?_
  refine fc (ok_bipush hB dX12_readClause_48 (by decide)) ?_
  refine fc (ok_icmp_ne hB (t := 66) (by decide) dX12_readClause_50) ?_
  refine fc (ok_aload_n hB dX12_readClause_53) ?_
  refine fc (ok_getI hB hT fl_X12_266 rfl rfl (Or.inl af_12_33) dX12_readClause_54) ?_
  refine fc (ok_bipush hB dX12_readClause_57 (by decide)) ?_
  refine fc (ok_icmp_ge hB (t := 66) (by decide) dX12_readClause_59) ?_
  refine fc (ok_iconst hB dX12_readClause_62) ?_
  refine fc (ok_goto hB (t := 67) (by decide) dX12_readClause_63) ?_
  refine fc (ok_iconst hB dX12_readClause_66) ?_
  refine fc (ok_istore_n hB (by decide) dX12_readClause_67) ?_
  refine fc (ok_iload_n hB dX12_readClause_68) ?_
  refine fc (ok_if_ne hB (t := 78) (by decide) dX12_readClause_69) ?_
  refine fc (ok_aload_n hB dX12_readClause_72) ?_
  refine fc (ok_callM hB hT (e1 ▸ s_X12_fails) lk_X12_149 (by rw [e2]; decide) (c := 12) rfl rfl rfl wd_1525 sl_X12_fails dX12_readClause_73) ?_
  refine fc (ok_pop hB dX12_readClause_76) ?_
  refine fc (ok_vret hB dX12_readClause_77) ?_
  refine fc (ok_aload_n hB dX12_readClause_78) ?_
  refine fc (ok_dup hB dX12_readClause_79) ?_
  refine fc (ok_getI hB hT fl_X12_134 rfl rfl (Or.inl af_12_10) dX12_readClause_80) ?_
  refine fc (ok_iconst hB dX12_readClause_83) ?_
  refine fc (ok_iadd hB dX12_readClause_84) ?_
  refine fc (ok_putI hB hT fp_X12_134 rfl rfl rfl af_12_10 dX12_readClause_85) ?_
  refine fc (ok_iload_n hB dX12_readClause_88) ?_
  refine fc (ok_bipush hB dX12_readClause_89 (by decide)) ?_
  refine fc (ok_icmp_ne hB (t := 115) (by decide) dX12_readClause_91) ?_
  refine fc (ok_aload_n hB dX12_readClause_94) ?_
  refine fc (ok_iconst hB dX12_readClause_95) ?_
  refine fc (ok_putZ hB hT fp_X12_257 rfl rfl rfl af_12_35 dX12_readClause_96) ?_
  refine fc (ok_aload_n hB dX12_readClause_99) ?_
  refine fc (ok_iload_n hB dX12_readClause_100) ?_
  refine fc (ok_aload_n hB dX12_readClause_101) ?_
  refine fc (okt_getR e1 hB hT fl_X12_40 rfl af_12_19 at_12_19 (by decide) dX12_readClause_102) ?_
  refine fc (ok_iconst hB dX12_readClause_105) ?_
  refine fc (ok_ldcwS hB (k := 6) rfl rfl rfl rfl dX12_readClause_106) ?_
  refine fc (ok_callMV hB hT (e1 ▸ s_X12_readItems) lk_X12_271 (by rw [e2]; decide) (c := 12) rfl rfl rfl wd_1530 sl_X12_readItems dX12_readClause_109) ?_
  refine fc (ok_goto hB (t := 221) (by decide) dX12_readClause_112) ?_
  refine fc (ok_iload_n hB dX12_readClause_115) ?_
  refine fc (ok_bipush hB dX12_readClause_116 (by decide)) ?_
  refine fc (ok_icmp_ne hB (t := 154) (by decide) dX12_readClause_118) ?_
  refine fc (ok_aload_n hB dX12_readClause_121) ?_
  refine fc (ok_dup hB dX12_readClause_122) ?_
  refine fc (ok_getI hB hT fl_X12_260 rfl rfl (Or.inl af_12_31) dX12_readClause_123) ?_
  refine fc (ok_iconst hB dX12_readClause_126) ?_
  refine fc (ok_iadd hB dX12_readClause_127) ?_
  refine fc (ok_putI hB hT fp_X12_260 rfl rfl rfl af_12_31 dX12_readClause_128) ?_
  refine fc (ok_aload_n hB dX12_readClause_131) ?_
  refine fc (ok_iload_n hB dX12_readClause_132) ?_
  refine fc (ok_aload_n hB dX12_readClause_133) ?_
  refine fc (okt_getR e1 hB hT fl_X12_46 rfl af_12_21 at_12_21 (by decide) dX12_readClause_134) ?_
  refine fc (ok_iconst hB dX12_readClause_137) ?_
  refine fc (ok_aload_n hB dX12_readClause_138) ?_
  refine fc (ok_getI hB hT fl_X12_260 rfl rfl (Or.inl af_12_31) dX12_readClause_139) ?_
  refine fc (ok_iconst hB dX12_readClause_142) ?_
  refine fc (ok_isub hB dX12_readClause_143) ?_
  refine fc (ok_imul hB dX12_readClause_144) ?_
  refine fc (ok_ldcwS hB (k := 7) rfl rfl rfl rfl dX12_readClause_145) ?_
  refine fc (ok_callMV hB hT (e1 ▸ s_X12_readItems) lk_X12_271 (by rw [e2]; decide) (c := 12) rfl rfl rfl wd_1530 sl_X12_readItems dX12_readClause_148) ?_
  refine fc (ok_goto hB (t := 221) (by decide) dX12_readClause_151) ?_
  refine fc (ok_iload_n hB dX12_readClause_154) ?_
  refine fc (ok_bipush hB dX12_readClause_155 (by decide)) ?_
  refine fc (ok_icmp_ne hB (t := 193) (by decide) dX12_readClause_157) ?_
  refine fc (ok_aload_n hB dX12_readClause_160) ?_
  refine fc (ok_dup hB dX12_readClause_161) ?_
  refine fc (ok_getI hB hT fl_X12_263 rfl rfl (Or.inl af_12_32) dX12_readClause_162) ?_
  refine fc (ok_iconst hB dX12_readClause_165) ?_
  refine fc (ok_iadd hB dX12_readClause_166) ?_
  refine fc (ok_putI hB hT fp_X12_263 rfl rfl rfl af_12_32 dX12_readClause_167) ?_
  refine fc (ok_aload_n hB dX12_readClause_170) ?_
  refine fc (ok_iload_n hB dX12_readClause_171) ?_
  refine fc (ok_aload_n hB dX12_readClause_172) ?_
  refine fc (okt_getR e1 hB hT fl_X12_52 rfl af_12_23 at_12_23 (by decide) dX12_readClause_173) ?_
  refine fc (ok_iconst hB dX12_readClause_176) ?_
  refine fc (ok_aload_n hB dX12_readClause_177) ?_
  refine fc (ok_getI hB hT fl_X12_263 rfl rfl (Or.inl af_12_32) dX12_readClause_178) ?_
  refine fc (ok_iconst hB dX12_readClause_181) ?_
  refine fc (ok_isub hB dX12_readClause_182) ?_
  refine fc (ok_imul hB dX12_readClause_183) ?_
  refine fc (ok_ldcwS hB (k := 8) rfl rfl rfl rfl dX12_readClause_184) ?_
  refine fc (ok_callMV hB hT (e1 ▸ s_X12_readItems) lk_X12_271 (by rw [e2]; decide) (c := 12) rfl rfl rfl wd_1530 sl_X12_readItems dX12_readClause_187) ?_
  refine fc (ok_goto hB (t := 221) (by decide) dX12_readClause_190) ?_
  refine fc (ok_aload_n hB dX12_readClause_193) ?_
  refine fc (ok_dup hB dX12_readClause_194) ?_
  refine fc (ok_getI hB hT fl_X12_266 rfl rfl (Or.inl af_12_33) dX12_readClause_195) ?_
  refine fc (ok_iconst hB dX12_readClause_198) ?_
  refine fc (ok_iadd hB dX12_readClause_199) ?_
  refine fc (ok_putI hB hT fp_X12_266 rfl rfl rfl af_12_33 dX12_readClause_200) ?_
  refine fc (ok_aload_n hB dX12_readClause_203) ?_
  refine fc (ok_iload_n hB dX12_readClause_204) ?_
  refine fc (ok_aload_n hB dX12_readClause_205) ?_
  refine fc (okt_getR e1 hB hT fl_X12_58 rfl af_12_25 at_12_25 (by decide) dX12_readClause_206) ?_
  refine fc (ok_aload_n hB dX12_readClause_209) ?_
  refine fc (ok_getI hB hT fl_X12_266 rfl rfl (Or.inl af_12_33) dX12_readClause_210) ?_
  refine fc (ok_iconst hB dX12_readClause_213) ?_
  refine fc (ok_isub hB dX12_readClause_214) ?_
  refine fc (ok_ldcwS hB (k := 9) rfl rfl rfl rfl dX12_readClause_215) ?_
  refine fc (ok_callMV hB hT (e1 ▸ s_X12_readItems) lk_X12_271 (by rw [e2]; decide) (c := 12) rfl rfl rfl wd_1530 sl_X12_readItems dX12_readClause_218) ?_
  refine fc (ok_vret hB dX12_readClause_221) ?_
  exact fn

def w_X12_readClause : WP := fun av σ Q => av = [(28, 5000)] ∧ (∃ (m : Mem) (p : Int) (c v : Int → Int), σ = hoN m p (-1) c v ∧ txOk m ∧ 0 ≤ p ∧ p ≤ m 5000 9 ∧ cntB c ∧ c 0 ≤ 1 ∧ rowB v ∧
(¬ (0 ≤ hK (mtx m) (m 5000 9) p ∧ c (hK (mtx m) (m 5000 9) p) < mostK (hK (mtx m) (m 5000 9) p)) → Q (6, 0) (hoN m (sk (mtx m) (m 5000 9) p) (sk (mtx m) (m 5000 9) p) c v)) ∧
(0 ≤ hK (mtx m) (m 5000 9) p → c (hK (mtx m) (m 5000 9) p) < mostK (hK (mtx m) (m 5000 9) p) → ((hR (mtx m) (m 5000 9) p c v).1 = -1 → Q (6, 0) (hoN m (hR (mtx m) (m 5000 9) p c v).2.1 (-1) (upf c (hK (mtx m) (m 5000 9) p) (c (hK (mtx m) (m 5000 9) p) + 1)) (hR (mtx m) (m 5000 9) p c v).2.2)) ∧ ((hR (mtx m) (m 5000 9) p c v).1 ≠ -1 → (∀ q v', rowB v' → Q (6, 0) (hoN m q (hR (mtx m) (m 5000 9) p c v).1 (upf c (hK (mtx m) (m 5000 9) p) (c (hK (mtx m) (m 5000 9) p) + 1)) v')) ∧ (∀ v', rowB v' → mtx m (hR (mtx m) (m 5000 9) p c v).1 ≠ -1 → mtx m (hR (mtx m) (m 5000 9) p c v).1 ≠ 59 → sk (mtx m) (m 5000 9) (hR (mtx m) (m 5000 9) p c v).1 = (hR (mtx m) (m 5000 9) p c v).1 → Q (6, 0) (hoN m (hR (mtx m) (m 5000 9) p c v).1 (-1) (upf c (hK (mtx m) (m 5000 9) p) (c (hK (mtx m) (m 5000 9) p) + 1)) v')))))
theorem w_X12_readClause_e  (σ : Mem) (Q : AV → Mem → Prop) : w_X12_readClause [(28, 5000)] σ Q = (∃ (m : Mem) (p : Int) (c v : Int → Int), σ = hoN m p (-1) c v ∧ txOk m ∧ 0 ≤ p ∧ p ≤ m 5000 9 ∧ cntB c ∧ c 0 ≤ 1 ∧ rowB v ∧
(¬ (0 ≤ hK (mtx m) (m 5000 9) p ∧ c (hK (mtx m) (m 5000 9) p) < mostK (hK (mtx m) (m 5000 9) p)) → Q (6, 0) (hoN m (sk (mtx m) (m 5000 9) p) (sk (mtx m) (m 5000 9) p) c v)) ∧
(0 ≤ hK (mtx m) (m 5000 9) p → c (hK (mtx m) (m 5000 9) p) < mostK (hK (mtx m) (m 5000 9) p) → ((hR (mtx m) (m 5000 9) p c v).1 = -1 → Q (6, 0) (hoN m (hR (mtx m) (m 5000 9) p c v).2.1 (-1) (upf c (hK (mtx m) (m 5000 9) p) (c (hK (mtx m) (m 5000 9) p) + 1)) (hR (mtx m) (m 5000 9) p c v).2.2)) ∧ ((hR (mtx m) (m 5000 9) p c v).1 ≠ -1 → (∀ q v', rowB v' → Q (6, 0) (hoN m q (hR (mtx m) (m 5000 9) p c v).1 (upf c (hK (mtx m) (m 5000 9) p) (c (hK (mtx m) (m 5000 9) p) + 1)) v')) ∧ (∀ v', rowB v' → mtx m (hR (mtx m) (m 5000 9) p c v).1 ≠ -1 → mtx m (hR (mtx m) (m 5000 9) p c v).1 ≠ 59 → sk (mtx m) (m 5000 9) (hR (mtx m) (m 5000 9) p c v).1 = (hR (mtx m) (m 5000 9) p c v).1 → Q (6, 0) (hoN m (hR (mtx m) (m 5000 9) p c v).1 (-1) (upf c (hK (mtx m) (m 5000 9) p) (c (hK (mtx m) (m 5000 9) p) + 1)) v'))))) := by
  apply propext; constructor
  · rintro ⟨h9, hb9⟩; cases h9; exact hb9
  · intro hb9; exact ⟨rfl, hb9⟩

set_option maxRecDepth 100000 in
set_option maxHeartbeats 4000000 in
theorem s_X12_readClause : ∀ av σ Q, w_X12_readClause av σ Q → amCall 6 0 0 TT yX12_readClause cX12_readClause 3 (none) av σ Q := by
  rintro av σ Q ⟨rfl, m, p, c, v, rfl, ht, p0, p1, hc, hc0, hvB, hq1, hq2⟩
  have n0 := ht.1
  have n1 := ht.2.1
  have hte := mtx_n ht
  have s1 := sk_b (mtx m) p1
  have b1 := mtx_b ht (sk (mtx m) (m 5000 9) p)
  have g0 := hc 0 (by decide) (by decide)
  have g1 := hc 1 (by decide) (by decide)
  have g2 := hc 2 (by decide) (by decide)
  have g3 := hc 3 (by decide) (by decide)
  have Mt : ∀ p f c v, mtx (hoN m p f c v) = mtx m := fun p f c v => (ho_tx ht p f c v).1
  have MtO : ∀ p f c v, txOk (hoN m p f c v) = True := fun p f c v => eq_true (ho_tx ht p f c v).2
  have r1 : ∀ p f c v, hoN m p f c v 5000 31 = c 1 := fun p f c v => ho_cc m p f c v (by decide)
  have r2 : ∀ p f c v, hoN m p f c v 5000 32 = c 2 := fun p f c v => ho_cc m p f c v (by decide)
  have r3 : ∀ p f c v, hoN m p f c v 5000 33 = c 3 := fun p f c v => ho_cc m p f c v (by decide)
  have u1 : ∀ p f c v x, up (hoN m p f c v) 5000 31 x = hoN m p f (upf c 1 x) v := fun p f c v x => ho_uc m p f x c v (by decide)
  have u2 : ∀ p f c v x, up (hoN m p f c v) 5000 32 x = hoN m p f (upf c 2 x) v := fun p f c v x => ho_uc m p f x c v (by decide)
  have u3 : ∀ p f c v x, up (hoN m p f c v) 5000 33 x = hoN m p f (upf c 3 x) v := fun p f c v x => ho_uc m p f x c v (by decide)
  have ek : hK (mtx m) (m 5000 9) p = kindF (mtx m (sk (mtx m) (m 5000 9) p)) := rfl
  have eR : hR (mtx m) (m 5000 9) p c v = hIt (mtx m) (m 5000 9) (hK (mtx m) (m 5000 9) p) (firstK (hK (mtx m) (m 5000 9) p) + c (hK (mtx m) (m 5000 9) p)) 5 0 (sk (mtx m) (m 5000 9) p + 1) (filv v (hK (mtx m) (m 5000 9) p) (c (hK (mtx m) (m 5000 9) p))) := rfl
  rw [kindF_e] at ek
  generalize hs : sk (mtx m) (m 5000 9) p = s at *
  generalize hS : mtx m s = S at *
  have m0 : mostK 0 = 1 := rfl
  have m1 : mostK 1 = 4 := rfl
  have m2 : mostK 2 = 6 := rfl
  have m3 : mostK 3 = 6 := rfl
  have lts : S ≠ -1 → s < m 5000 9 := fun e => sk_lt hte (q := s) (by omega)
  refine am_m0 (own := RX12) (A := look a_X12_readClause) (fun X e1 e2 hB => o_X12_readClause e1 e2 hB) rfl (by decide +kernel) rfl rfl 120 (w := 3) ?_
  change vcs _ _ _ _ 120 0 [(28, 5000), (6, 0), (6, 0)] [] (hoN m p (-1) c v)
  by_cases c0 : S = 115
  · rw [if_pos c0] at ek
    have l9 := lts (by omega)
    rw [ek] at hq1 hq2 eR
    rw [m0] at hq1 hq2
    by_cases z : c 0 < 1
    · have hq := hq2 (by decide) z
      rw [eR] at hq
      have z0 : c 0 = 0 := by omega
      rw [show c 0 + 1 = 1 by omega] at hq
      simp only [↓reduceIte, inR_0, inR_1, inR_m, vSw2_e, swP_n, swP_c, vI_e, vL_e, vNull_e, vIload_e, vLload_e, vAload_e, vIstore_e, vLstore_e, vAstore_e, vIinc_e, vIadd_e, vIsub_e, vImul_e, vIand_e, vIor_e, vIxor_e, vIshl_e, vIshr_e, vIushr_e, vIdiv_e, vIrem_e, vLadd_e, vLsub_e, vLmul_e, vLand_e, vLor_e, vLxor_e, vLdiv_e, vLrem_e, vLushr_e, vLshl_e, vLcmp_e, vIneg_e, vI2l_e, vL2i_e, vI2b_e, vI2c_e, vDup_e, vPop_e, vDup2_e, vGoto_e, vIcEq_e, vIfEq_e, vIcNe_e, vIfNe_e, vIcLt_e, vIfLt_e, vIcGe_e, vIfGe_e, vIcGt_e, vIfGt_e, vIcLe_e, vIfLe_e, vNonnull_e, vSw_e, vGetI_e, vGetL_e, vGetR_e, vPutI_e, vPutZ_e, vPutL_e, vPutR_e, vIald_e, vIald_s, vLald_e, vBald_e, vBald_s, vAald_e, vIast_e, vLast_e, vBast_e, vAast_e, vAlen_e8, vAlen_e9, vAlen_e10, vAlen_e11, vAlen_e5, vAlen_e3, vGets_e, vCompact_e, vLdcS_e, vIret_e, vZret_e, vCret_e, vBret_e, vLret_e, vVret_e, vAret_e, vCallM_e0, vCallMV_e0, vCallS_e0, vCallSV_e0, vCallM_e1, vCallMV_e1, vCallS_e1, vCallSV_e1, vCallM_e2, vCallMV_e2, vCallS_e2, vCallSV_e2, vCallM_e3, vCallMV_e3, vCallS_e3, vCallSV_e3, vCallM_e4, vCallMV_e4, vCallS_e4, vCallSV_e4, vCallM_e5, vCallMV_e5, vCallS_e5, vCallSV_e5, vCallM_e6, vCallMV_e6, vCallS_e6, vCallSV_e6, vCallM_e7, vCallMV_e7, vCallS_e7, vCallSV_e7, vBad_e, vStrVal_e, vStrCod_e, vForm_e, vCallT_e0, vCallT_e1, vCallT_e2, vCopy_e, rf_0_0, rf_0_1, rf_0_2, rf_0_3, rf_0_4, rf_0_7, rf_0_10, rf_0_11, rf_0_12, rf_0_13, rf_0_14, rf_0_15, rf_0_16, rf_1_0, rf_3_0, rf_3_1, rf_6_0, rf_6_1, rf_9_0, rf_9_1, rf_9_3, rf_13_0, rf_13_1, rf_13_2, rf_16_0, rf_16_1, rf_16_2, rf_16_3, rf_21_0, rf_21_1, rf_21_2, rf_21_3, rf_26_0, rf_26_1, rf_26_2, rf_26_3, rf_26_4, rf_26_5, rf_26_6, rf_31_0, rf_31_2, rf_31_5, rf_31_6, rf_36_0, rf_36_1, rf_36_2, rf_36_3, rf_39_0, rf_39_1, rf_39_2, rf_41_0, rf_41_1, rf_41_2, rf_41_3, rf_5000_1, rf_5000_2, rf_5000_3, rf_5000_4, rf_5000_5, rf_5000_15, rf_5000_16, rf_5000_18, rf_5000_19, rf_5000_20, rf_5000_21, rf_5000_22, rf_5000_23, rf_5000_24, rf_5000_25, rf_5000_26, rf_5000_27, rf_5000_36, rf_5000_37, rf_5000_40, rf_5000_41, rf_5000_42, rf_5000_43, rf_5000_44, rf_5000_45, rf_5000_47, rf_5000_52, rf_5000_54, rf_5000_55, rf_100_0, rf_100_1, rf_103_0, rf_103_1, rf_106_0, rf_106_1, rf_109_0, rf_109_1, al_2, al_4, al_5, al_7, al_8, al_10, al_11, al_12, al_14, al_15, al_17, al_18, al_19, al_20, al_22, al_23, al_24, al_25, al_27, al_28, al_29, al_30, al_32, al_33, al_34, al_35, al_37, al_38, al_40, al_42, al_5001, al_5002, al_5003, al_5004, al_5005, al_5006, al_5007, al_5008, al_5009, al_5010, al_5011, al_5012, al_5013, al_5014, al_5015, al_5016, al_5017, al_5018, al_5019, al_5020, al_5021, al_5022, al_5023, al_5024, al_5025, al_5026, al_9000, al_101, al_102, al_104, al_105, al_107, al_108, al_110, al_111, vcs_e, lg_c0, lg_cs, lg_nil, set_c0, set_cs, okst_0, okst_s, acok_n, acok_c, List.contains_nil, List.contains_cons, Bool.or_false, Bool.false_or, Bool.false_eq_true, if_false, if_true, ite_self, ne_eq, true_and, and_true, not_false_eq_true, not_true_eq_false, false_imp_iff, true_imp_iff, Nat.ble_eq, Bool.and_eq_true, reduceCtorEq, or_false, false_or, or_true, true_or, false_and, and_false, and_self, Int.reduceLE, Int.reduceAdd, Int.reduceSub, Int.reduceMul, Int.reduceNeg, Int.reduceLT, Int.reduceEq, Int.reduceNe, Nat.reduceBEq, Nat.reduceBNe, Nat.reduceEqDiff, amCmp_in, amCmp_lt, amCmp_le, amCmp_gt, amCmp_ge, amCmp_eq, amCmp_ne, Nat.reduceLeDiff, Nat.reduceSub, Bool.and_true, Bool.true_and, Bool.and_self, Bool.or_true, Bool.true_or, isRf_3, isRf_4, isRf_5, isRf_8, isRf_9, isRf_10, isRf_11, isRf_15, isRf_16, isRf_17, isRf_18, isRf_19, isRf_20, isRf_21, isRf_22, isRf_23, isRf_24, isRf_25, isRf_26, isRf_27, isRf_28, k_X12_readClause_0, k_X12_readClause_1, k_X12_readClause_4, k_X12_readClause_5, k_X12_readClause_6, k_X12_readClause_8, k_X12_readClause_11, k_X12_readClause_12, k_X12_readClause_15, k_X12_readClause_18, k_X12_readClause_19, k_X12_readClause_21, k_X12_readClause_24, k_X12_readClause_25, k_X12_readClause_28, k_X12_readClause_29, k_X12_readClause_32, k_X12_readClause_33, k_X12_readClause_35, k_X12_readClause_38, k_X12_readClause_39, k_X12_readClause_42, k_X12_readClause_44, k_X12_readClause_47, k_X12_readClause_48, k_X12_readClause_50, k_X12_readClause_53, k_X12_readClause_54, k_X12_readClause_57, k_X12_readClause_59, k_X12_readClause_62, k_X12_readClause_63, k_X12_readClause_66, k_X12_readClause_67, k_X12_readClause_68, k_X12_readClause_69, k_X12_readClause_72, k_X12_readClause_73, k_X12_readClause_76, k_X12_readClause_77, k_X12_readClause_78, k_X12_readClause_79, k_X12_readClause_80, k_X12_readClause_83, k_X12_readClause_84, k_X12_readClause_85, k_X12_readClause_88, k_X12_readClause_89, k_X12_readClause_91, k_X12_readClause_94, k_X12_readClause_95, k_X12_readClause_96, k_X12_readClause_99, k_X12_readClause_100, k_X12_readClause_101, k_X12_readClause_102, k_X12_readClause_105, k_X12_readClause_106, k_X12_readClause_109, k_X12_readClause_112, k_X12_readClause_115, k_X12_readClause_116, k_X12_readClause_118, k_X12_readClause_121, k_X12_readClause_122, k_X12_readClause_123, k_X12_readClause_126, k_X12_readClause_127, k_X12_readClause_128, k_X12_readClause_131, k_X12_readClause_132, k_X12_readClause_133, k_X12_readClause_134, k_X12_readClause_137, k_X12_readClause_138, k_X12_readClause_139, k_X12_readClause_142, k_X12_readClause_143, k_X12_readClause_144, k_X12_readClause_145, k_X12_readClause_148, k_X12_readClause_151, k_X12_readClause_154, k_X12_readClause_155, k_X12_readClause_157, k_X12_readClause_160, k_X12_readClause_161, k_X12_readClause_162, k_X12_readClause_165, k_X12_readClause_166, k_X12_readClause_167, k_X12_readClause_170, k_X12_readClause_171, k_X12_readClause_172, k_X12_readClause_173, k_X12_readClause_176, k_X12_readClause_177, k_X12_readClause_178, k_X12_readClause_181, k_X12_readClause_182, k_X12_readClause_183, k_X12_readClause_184, k_X12_readClause_187, k_X12_readClause_190, k_X12_readClause_193, k_X12_readClause_194, k_X12_readClause_195, k_X12_readClause_198, k_X12_readClause_199, k_X12_readClause_200, k_X12_readClause_203, k_X12_readClause_204, k_X12_readClause_205, k_X12_readClause_206, k_X12_readClause_209, k_X12_readClause_210, k_X12_readClause_213, k_X12_readClause_214, k_X12_readClause_215, k_X12_readClause_218, k_X12_readClause_221, w_X12_fails_e, w_X12_look_e, w_X12_readItems_e, msk, Mt, MtO, ho_10, ho_9, ho_11, ho_u10, ho_u11, hs, hS, c0, r1, r2, r3, u1, u2, u3, ho_c0, ho_u0, z0]
      repeat' (first | apply And.intro | intro _)
      all_goals first | omega | exact absurd trivial (by assumption) | exact ⟨by omega, by omega⟩ | skip
      all_goals (exact ⟨m, s + 1, upf c 0 1, v, 0, 0, rfl, rfl, rfl, rfl, rfl, by decide, by decide, by decide, by decide, ht, by omega, by omega, hvB, by rw [z0] at hq; exact hq.1, by rw [z0] at hq; exact hq.2⟩)
    · have hq := hq1 (by omega)
      have z1 : c 0 = 1 := by omega
      simp only [↓reduceIte, inR_0, inR_1, inR_m, vSw2_e, swP_n, swP_c, vI_e, vL_e, vNull_e, vIload_e, vLload_e, vAload_e, vIstore_e, vLstore_e, vAstore_e, vIinc_e, vIadd_e, vIsub_e, vImul_e, vIand_e, vIor_e, vIxor_e, vIshl_e, vIshr_e, vIushr_e, vIdiv_e, vIrem_e, vLadd_e, vLsub_e, vLmul_e, vLand_e, vLor_e, vLxor_e, vLdiv_e, vLrem_e, vLushr_e, vLshl_e, vLcmp_e, vIneg_e, vI2l_e, vL2i_e, vI2b_e, vI2c_e, vDup_e, vPop_e, vDup2_e, vGoto_e, vIcEq_e, vIfEq_e, vIcNe_e, vIfNe_e, vIcLt_e, vIfLt_e, vIcGe_e, vIfGe_e, vIcGt_e, vIfGt_e, vIcLe_e, vIfLe_e, vNonnull_e, vSw_e, vGetI_e, vGetL_e, vGetR_e, vPutI_e, vPutZ_e, vPutL_e, vPutR_e, vIald_e, vIald_s, vLald_e, vBald_e, vBald_s, vAald_e, vIast_e, vLast_e, vBast_e, vAast_e, vAlen_e8, vAlen_e9, vAlen_e10, vAlen_e11, vAlen_e5, vAlen_e3, vGets_e, vCompact_e, vLdcS_e, vIret_e, vZret_e, vCret_e, vBret_e, vLret_e, vVret_e, vAret_e, vCallM_e0, vCallMV_e0, vCallS_e0, vCallSV_e0, vCallM_e1, vCallMV_e1, vCallS_e1, vCallSV_e1, vCallM_e2, vCallMV_e2, vCallS_e2, vCallSV_e2, vCallM_e3, vCallMV_e3, vCallS_e3, vCallSV_e3, vCallM_e4, vCallMV_e4, vCallS_e4, vCallSV_e4, vCallM_e5, vCallMV_e5, vCallS_e5, vCallSV_e5, vCallM_e6, vCallMV_e6, vCallS_e6, vCallSV_e6, vCallM_e7, vCallMV_e7, vCallS_e7, vCallSV_e7, vBad_e, vStrVal_e, vStrCod_e, vForm_e, vCallT_e0, vCallT_e1, vCallT_e2, vCopy_e, rf_0_0, rf_0_1, rf_0_2, rf_0_3, rf_0_4, rf_0_7, rf_0_10, rf_0_11, rf_0_12, rf_0_13, rf_0_14, rf_0_15, rf_0_16, rf_1_0, rf_3_0, rf_3_1, rf_6_0, rf_6_1, rf_9_0, rf_9_1, rf_9_3, rf_13_0, rf_13_1, rf_13_2, rf_16_0, rf_16_1, rf_16_2, rf_16_3, rf_21_0, rf_21_1, rf_21_2, rf_21_3, rf_26_0, rf_26_1, rf_26_2, rf_26_3, rf_26_4, rf_26_5, rf_26_6, rf_31_0, rf_31_2, rf_31_5, rf_31_6, rf_36_0, rf_36_1, rf_36_2, rf_36_3, rf_39_0, rf_39_1, rf_39_2, rf_41_0, rf_41_1, rf_41_2, rf_41_3, rf_5000_1, rf_5000_2, rf_5000_3, rf_5000_4, rf_5000_5, rf_5000_15, rf_5000_16, rf_5000_18, rf_5000_19, rf_5000_20, rf_5000_21, rf_5000_22, rf_5000_23, rf_5000_24, rf_5000_25, rf_5000_26, rf_5000_27, rf_5000_36, rf_5000_37, rf_5000_40, rf_5000_41, rf_5000_42, rf_5000_43, rf_5000_44, rf_5000_45, rf_5000_47, rf_5000_52, rf_5000_54, rf_5000_55, rf_100_0, rf_100_1, rf_103_0, rf_103_1, rf_106_0, rf_106_1, rf_109_0, rf_109_1, al_2, al_4, al_5, al_7, al_8, al_10, al_11, al_12, al_14, al_15, al_17, al_18, al_19, al_20, al_22, al_23, al_24, al_25, al_27, al_28, al_29, al_30, al_32, al_33, al_34, al_35, al_37, al_38, al_40, al_42, al_5001, al_5002, al_5003, al_5004, al_5005, al_5006, al_5007, al_5008, al_5009, al_5010, al_5011, al_5012, al_5013, al_5014, al_5015, al_5016, al_5017, al_5018, al_5019, al_5020, al_5021, al_5022, al_5023, al_5024, al_5025, al_5026, al_9000, al_101, al_102, al_104, al_105, al_107, al_108, al_110, al_111, vcs_e, lg_c0, lg_cs, lg_nil, set_c0, set_cs, okst_0, okst_s, acok_n, acok_c, List.contains_nil, List.contains_cons, Bool.or_false, Bool.false_or, Bool.false_eq_true, if_false, if_true, ite_self, ne_eq, true_and, and_true, not_false_eq_true, not_true_eq_false, false_imp_iff, true_imp_iff, Nat.ble_eq, Bool.and_eq_true, reduceCtorEq, or_false, false_or, or_true, true_or, false_and, and_false, and_self, Int.reduceLE, Int.reduceAdd, Int.reduceSub, Int.reduceMul, Int.reduceNeg, Int.reduceLT, Int.reduceEq, Int.reduceNe, Nat.reduceBEq, Nat.reduceBNe, Nat.reduceEqDiff, amCmp_in, amCmp_lt, amCmp_le, amCmp_gt, amCmp_ge, amCmp_eq, amCmp_ne, Nat.reduceLeDiff, Nat.reduceSub, Bool.and_true, Bool.true_and, Bool.and_self, Bool.or_true, Bool.true_or, isRf_3, isRf_4, isRf_5, isRf_8, isRf_9, isRf_10, isRf_11, isRf_15, isRf_16, isRf_17, isRf_18, isRf_19, isRf_20, isRf_21, isRf_22, isRf_23, isRf_24, isRf_25, isRf_26, isRf_27, isRf_28, k_X12_readClause_0, k_X12_readClause_1, k_X12_readClause_4, k_X12_readClause_5, k_X12_readClause_6, k_X12_readClause_8, k_X12_readClause_11, k_X12_readClause_12, k_X12_readClause_15, k_X12_readClause_18, k_X12_readClause_19, k_X12_readClause_21, k_X12_readClause_24, k_X12_readClause_25, k_X12_readClause_28, k_X12_readClause_29, k_X12_readClause_32, k_X12_readClause_33, k_X12_readClause_35, k_X12_readClause_38, k_X12_readClause_39, k_X12_readClause_42, k_X12_readClause_44, k_X12_readClause_47, k_X12_readClause_48, k_X12_readClause_50, k_X12_readClause_53, k_X12_readClause_54, k_X12_readClause_57, k_X12_readClause_59, k_X12_readClause_62, k_X12_readClause_63, k_X12_readClause_66, k_X12_readClause_67, k_X12_readClause_68, k_X12_readClause_69, k_X12_readClause_72, k_X12_readClause_73, k_X12_readClause_76, k_X12_readClause_77, k_X12_readClause_78, k_X12_readClause_79, k_X12_readClause_80, k_X12_readClause_83, k_X12_readClause_84, k_X12_readClause_85, k_X12_readClause_88, k_X12_readClause_89, k_X12_readClause_91, k_X12_readClause_94, k_X12_readClause_95, k_X12_readClause_96, k_X12_readClause_99, k_X12_readClause_100, k_X12_readClause_101, k_X12_readClause_102, k_X12_readClause_105, k_X12_readClause_106, k_X12_readClause_109, k_X12_readClause_112, k_X12_readClause_115, k_X12_readClause_116, k_X12_readClause_118, k_X12_readClause_121, k_X12_readClause_122, k_X12_readClause_123, k_X12_readClause_126, k_X12_readClause_127, k_X12_readClause_128, k_X12_readClause_131, k_X12_readClause_132, k_X12_readClause_133, k_X12_readClause_134, k_X12_readClause_137, k_X12_readClause_138, k_X12_readClause_139, k_X12_readClause_142, k_X12_readClause_143, k_X12_readClause_144, k_X12_readClause_145, k_X12_readClause_148, k_X12_readClause_151, k_X12_readClause_154, k_X12_readClause_155, k_X12_readClause_157, k_X12_readClause_160, k_X12_readClause_161, k_X12_readClause_162, k_X12_readClause_165, k_X12_readClause_166, k_X12_readClause_167, k_X12_readClause_170, k_X12_readClause_171, k_X12_readClause_172, k_X12_readClause_173, k_X12_readClause_176, k_X12_readClause_177, k_X12_readClause_178, k_X12_readClause_181, k_X12_readClause_182, k_X12_readClause_183, k_X12_readClause_184, k_X12_readClause_187, k_X12_readClause_190, k_X12_readClause_193, k_X12_readClause_194, k_X12_readClause_195, k_X12_readClause_198, k_X12_readClause_199, k_X12_readClause_200, k_X12_readClause_203, k_X12_readClause_204, k_X12_readClause_205, k_X12_readClause_206, k_X12_readClause_209, k_X12_readClause_210, k_X12_readClause_213, k_X12_readClause_214, k_X12_readClause_215, k_X12_readClause_218, k_X12_readClause_221, w_X12_fails_e, w_X12_look_e, w_X12_readItems_e, msk, Mt, MtO, ho_10, ho_9, ho_11, ho_u10, ho_u11, hs, hS, c0, r1, r2, r3, ho_c0, ho_fa, z1]
      repeat' (first | apply And.intro | intro _)
      all_goals first | omega | exact absurd trivial (by assumption) | exact hq | exact ⟨by omega, by omega⟩
  · rw [if_neg c0] at ek
    by_cases c1 : S = 112
    · rw [if_pos c1] at ek
      have l9 := lts (by omega)
      rw [ek] at hq1 hq2 eR
      rw [m1] at hq1 hq2
      by_cases z : c 1 < 4
      · have hq := hq2 (by decide) z
        rw [eR] at hq
        have ux : ∀ x, upf c 1 x 1 = x := fun x => upf_s2 _ _ _
        simp only [↓reduceIte, inR_0, inR_1, inR_m, vSw2_e, swP_n, swP_c, vI_e, vL_e, vNull_e, vIload_e, vLload_e, vAload_e, vIstore_e, vLstore_e, vAstore_e, vIinc_e, vIadd_e, vIsub_e, vImul_e, vIand_e, vIor_e, vIxor_e, vIshl_e, vIshr_e, vIushr_e, vIdiv_e, vIrem_e, vLadd_e, vLsub_e, vLmul_e, vLand_e, vLor_e, vLxor_e, vLdiv_e, vLrem_e, vLushr_e, vLshl_e, vLcmp_e, vIneg_e, vI2l_e, vL2i_e, vI2b_e, vI2c_e, vDup_e, vPop_e, vDup2_e, vGoto_e, vIcEq_e, vIfEq_e, vIcNe_e, vIfNe_e, vIcLt_e, vIfLt_e, vIcGe_e, vIfGe_e, vIcGt_e, vIfGt_e, vIcLe_e, vIfLe_e, vNonnull_e, vSw_e, vGetI_e, vGetL_e, vGetR_e, vPutI_e, vPutZ_e, vPutL_e, vPutR_e, vIald_e, vIald_s, vLald_e, vBald_e, vBald_s, vAald_e, vIast_e, vLast_e, vBast_e, vAast_e, vAlen_e8, vAlen_e9, vAlen_e10, vAlen_e11, vAlen_e5, vAlen_e3, vGets_e, vCompact_e, vLdcS_e, vIret_e, vZret_e, vCret_e, vBret_e, vLret_e, vVret_e, vAret_e, vCallM_e0, vCallMV_e0, vCallS_e0, vCallSV_e0, vCallM_e1, vCallMV_e1, vCallS_e1, vCallSV_e1, vCallM_e2, vCallMV_e2, vCallS_e2, vCallSV_e2, vCallM_e3, vCallMV_e3, vCallS_e3, vCallSV_e3, vCallM_e4, vCallMV_e4, vCallS_e4, vCallSV_e4, vCallM_e5, vCallMV_e5, vCallS_e5, vCallSV_e5, vCallM_e6, vCallMV_e6, vCallS_e6, vCallSV_e6, vCallM_e7, vCallMV_e7, vCallS_e7, vCallSV_e7, vBad_e, vStrVal_e, vStrCod_e, vForm_e, vCallT_e0, vCallT_e1, vCallT_e2, vCopy_e, rf_0_0, rf_0_1, rf_0_2, rf_0_3, rf_0_4, rf_0_7, rf_0_10, rf_0_11, rf_0_12, rf_0_13, rf_0_14, rf_0_15, rf_0_16, rf_1_0, rf_3_0, rf_3_1, rf_6_0, rf_6_1, rf_9_0, rf_9_1, rf_9_3, rf_13_0, rf_13_1, rf_13_2, rf_16_0, rf_16_1, rf_16_2, rf_16_3, rf_21_0, rf_21_1, rf_21_2, rf_21_3, rf_26_0, rf_26_1, rf_26_2, rf_26_3, rf_26_4, rf_26_5, rf_26_6, rf_31_0, rf_31_2, rf_31_5, rf_31_6, rf_36_0, rf_36_1, rf_36_2, rf_36_3, rf_39_0, rf_39_1, rf_39_2, rf_41_0, rf_41_1, rf_41_2, rf_41_3, rf_5000_1, rf_5000_2, rf_5000_3, rf_5000_4, rf_5000_5, rf_5000_15, rf_5000_16, rf_5000_18, rf_5000_19, rf_5000_20, rf_5000_21, rf_5000_22, rf_5000_23, rf_5000_24, rf_5000_25, rf_5000_26, rf_5000_27, rf_5000_36, rf_5000_37, rf_5000_40, rf_5000_41, rf_5000_42, rf_5000_43, rf_5000_44, rf_5000_45, rf_5000_47, rf_5000_52, rf_5000_54, rf_5000_55, rf_100_0, rf_100_1, rf_103_0, rf_103_1, rf_106_0, rf_106_1, rf_109_0, rf_109_1, al_2, al_4, al_5, al_7, al_8, al_10, al_11, al_12, al_14, al_15, al_17, al_18, al_19, al_20, al_22, al_23, al_24, al_25, al_27, al_28, al_29, al_30, al_32, al_33, al_34, al_35, al_37, al_38, al_40, al_42, al_5001, al_5002, al_5003, al_5004, al_5005, al_5006, al_5007, al_5008, al_5009, al_5010, al_5011, al_5012, al_5013, al_5014, al_5015, al_5016, al_5017, al_5018, al_5019, al_5020, al_5021, al_5022, al_5023, al_5024, al_5025, al_5026, al_9000, al_101, al_102, al_104, al_105, al_107, al_108, al_110, al_111, vcs_e, lg_c0, lg_cs, lg_nil, set_c0, set_cs, okst_0, okst_s, acok_n, acok_c, List.contains_nil, List.contains_cons, Bool.or_false, Bool.false_or, Bool.false_eq_true, if_false, if_true, ite_self, ne_eq, true_and, and_true, not_false_eq_true, not_true_eq_false, false_imp_iff, true_imp_iff, Nat.ble_eq, Bool.and_eq_true, reduceCtorEq, or_false, false_or, or_true, true_or, false_and, and_false, and_self, Int.reduceLE, Int.reduceAdd, Int.reduceSub, Int.reduceMul, Int.reduceNeg, Int.reduceLT, Int.reduceEq, Int.reduceNe, Nat.reduceBEq, Nat.reduceBNe, Nat.reduceEqDiff, amCmp_in, amCmp_lt, amCmp_le, amCmp_gt, amCmp_ge, amCmp_eq, amCmp_ne, Nat.reduceLeDiff, Nat.reduceSub, Bool.and_true, Bool.true_and, Bool.and_self, Bool.or_true, Bool.true_or, isRf_3, isRf_4, isRf_5, isRf_8, isRf_9, isRf_10, isRf_11, isRf_15, isRf_16, isRf_17, isRf_18, isRf_19, isRf_20, isRf_21, isRf_22, isRf_23, isRf_24, isRf_25, isRf_26, isRf_27, isRf_28, k_X12_readClause_0, k_X12_readClause_1, k_X12_readClause_4, k_X12_readClause_5, k_X12_readClause_6, k_X12_readClause_8, k_X12_readClause_11, k_X12_readClause_12, k_X12_readClause_15, k_X12_readClause_18, k_X12_readClause_19, k_X12_readClause_21, k_X12_readClause_24, k_X12_readClause_25, k_X12_readClause_28, k_X12_readClause_29, k_X12_readClause_32, k_X12_readClause_33, k_X12_readClause_35, k_X12_readClause_38, k_X12_readClause_39, k_X12_readClause_42, k_X12_readClause_44, k_X12_readClause_47, k_X12_readClause_48, k_X12_readClause_50, k_X12_readClause_53, k_X12_readClause_54, k_X12_readClause_57, k_X12_readClause_59, k_X12_readClause_62, k_X12_readClause_63, k_X12_readClause_66, k_X12_readClause_67, k_X12_readClause_68, k_X12_readClause_69, k_X12_readClause_72, k_X12_readClause_73, k_X12_readClause_76, k_X12_readClause_77, k_X12_readClause_78, k_X12_readClause_79, k_X12_readClause_80, k_X12_readClause_83, k_X12_readClause_84, k_X12_readClause_85, k_X12_readClause_88, k_X12_readClause_89, k_X12_readClause_91, k_X12_readClause_94, k_X12_readClause_95, k_X12_readClause_96, k_X12_readClause_99, k_X12_readClause_100, k_X12_readClause_101, k_X12_readClause_102, k_X12_readClause_105, k_X12_readClause_106, k_X12_readClause_109, k_X12_readClause_112, k_X12_readClause_115, k_X12_readClause_116, k_X12_readClause_118, k_X12_readClause_121, k_X12_readClause_122, k_X12_readClause_123, k_X12_readClause_126, k_X12_readClause_127, k_X12_readClause_128, k_X12_readClause_131, k_X12_readClause_132, k_X12_readClause_133, k_X12_readClause_134, k_X12_readClause_137, k_X12_readClause_138, k_X12_readClause_139, k_X12_readClause_142, k_X12_readClause_143, k_X12_readClause_144, k_X12_readClause_145, k_X12_readClause_148, k_X12_readClause_151, k_X12_readClause_154, k_X12_readClause_155, k_X12_readClause_157, k_X12_readClause_160, k_X12_readClause_161, k_X12_readClause_162, k_X12_readClause_165, k_X12_readClause_166, k_X12_readClause_167, k_X12_readClause_170, k_X12_readClause_171, k_X12_readClause_172, k_X12_readClause_173, k_X12_readClause_176, k_X12_readClause_177, k_X12_readClause_178, k_X12_readClause_181, k_X12_readClause_182, k_X12_readClause_183, k_X12_readClause_184, k_X12_readClause_187, k_X12_readClause_190, k_X12_readClause_193, k_X12_readClause_194, k_X12_readClause_195, k_X12_readClause_198, k_X12_readClause_199, k_X12_readClause_200, k_X12_readClause_203, k_X12_readClause_204, k_X12_readClause_205, k_X12_readClause_206, k_X12_readClause_209, k_X12_readClause_210, k_X12_readClause_213, k_X12_readClause_214, k_X12_readClause_215, k_X12_readClause_218, k_X12_readClause_221, w_X12_fails_e, w_X12_look_e, w_X12_readItems_e, msk, Mt, MtO, ho_10, ho_9, ho_11, ho_u10, ho_u11, hs, hS, c1, r1, r2, r3, u1, u2, u3, ho_c0, ho_u0, ux]
        repeat' (first | apply And.intro | intro _)
        all_goals first | omega | exact absurd trivial (by assumption) | exact ⟨by omega, by omega⟩ | skip
        all_goals (exact ⟨m, s + 1, upf c 1 (c 1 + 1), v, 1, c 1, rfl, rfl, rfl, by rw [show kln 1 = 4 from rfl]; omega, rfl, by decide, by decide, by omega, by rw [m1]; exact z, ht, by omega, by omega, hvB, hq.1, hq.2⟩)
      · have hq := hq1 (by omega)
        simp only [↓reduceIte, inR_0, inR_1, inR_m, vSw2_e, swP_n, swP_c, vI_e, vL_e, vNull_e, vIload_e, vLload_e, vAload_e, vIstore_e, vLstore_e, vAstore_e, vIinc_e, vIadd_e, vIsub_e, vImul_e, vIand_e, vIor_e, vIxor_e, vIshl_e, vIshr_e, vIushr_e, vIdiv_e, vIrem_e, vLadd_e, vLsub_e, vLmul_e, vLand_e, vLor_e, vLxor_e, vLdiv_e, vLrem_e, vLushr_e, vLshl_e, vLcmp_e, vIneg_e, vI2l_e, vL2i_e, vI2b_e, vI2c_e, vDup_e, vPop_e, vDup2_e, vGoto_e, vIcEq_e, vIfEq_e, vIcNe_e, vIfNe_e, vIcLt_e, vIfLt_e, vIcGe_e, vIfGe_e, vIcGt_e, vIfGt_e, vIcLe_e, vIfLe_e, vNonnull_e, vSw_e, vGetI_e, vGetL_e, vGetR_e, vPutI_e, vPutZ_e, vPutL_e, vPutR_e, vIald_e, vIald_s, vLald_e, vBald_e, vBald_s, vAald_e, vIast_e, vLast_e, vBast_e, vAast_e, vAlen_e8, vAlen_e9, vAlen_e10, vAlen_e11, vAlen_e5, vAlen_e3, vGets_e, vCompact_e, vLdcS_e, vIret_e, vZret_e, vCret_e, vBret_e, vLret_e, vVret_e, vAret_e, vCallM_e0, vCallMV_e0, vCallS_e0, vCallSV_e0, vCallM_e1, vCallMV_e1, vCallS_e1, vCallSV_e1, vCallM_e2, vCallMV_e2, vCallS_e2, vCallSV_e2, vCallM_e3, vCallMV_e3, vCallS_e3, vCallSV_e3, vCallM_e4, vCallMV_e4, vCallS_e4, vCallSV_e4, vCallM_e5, vCallMV_e5, vCallS_e5, vCallSV_e5, vCallM_e6, vCallMV_e6, vCallS_e6, vCallSV_e6, vCallM_e7, vCallMV_e7, vCallS_e7, vCallSV_e7, vBad_e, vStrVal_e, vStrCod_e, vForm_e, vCallT_e0, vCallT_e1, vCallT_e2, vCopy_e, rf_0_0, rf_0_1, rf_0_2, rf_0_3, rf_0_4, rf_0_7, rf_0_10, rf_0_11, rf_0_12, rf_0_13, rf_0_14, rf_0_15, rf_0_16, rf_1_0, rf_3_0, rf_3_1, rf_6_0, rf_6_1, rf_9_0, rf_9_1, rf_9_3, rf_13_0, rf_13_1, rf_13_2, rf_16_0, rf_16_1, rf_16_2, rf_16_3, rf_21_0, rf_21_1, rf_21_2, rf_21_3, rf_26_0, rf_26_1, rf_26_2, rf_26_3, rf_26_4, rf_26_5, rf_26_6, rf_31_0, rf_31_2, rf_31_5, rf_31_6, rf_36_0, rf_36_1, rf_36_2, rf_36_3, rf_39_0, rf_39_1, rf_39_2, rf_41_0, rf_41_1, rf_41_2, rf_41_3, rf_5000_1, rf_5000_2, rf_5000_3, rf_5000_4, rf_5000_5, rf_5000_15, rf_5000_16, rf_5000_18, rf_5000_19, rf_5000_20, rf_5000_21, rf_5000_22, rf_5000_23, rf_5000_24, rf_5000_25, rf_5000_26, rf_5000_27, rf_5000_36, rf_5000_37, rf_5000_40, rf_5000_41, rf_5000_42, rf_5000_43, rf_5000_44, rf_5000_45, rf_5000_47, rf_5000_52, rf_5000_54, rf_5000_55, rf_100_0, rf_100_1, rf_103_0, rf_103_1, rf_106_0, rf_106_1, rf_109_0, rf_109_1, al_2, al_4, al_5, al_7, al_8, al_10, al_11, al_12, al_14, al_15, al_17, al_18, al_19, al_20, al_22, al_23, al_24, al_25, al_27, al_28, al_29, al_30, al_32, al_33, al_34, al_35, al_37, al_38, al_40, al_42, al_5001, al_5002, al_5003, al_5004, al_5005, al_5006, al_5007, al_5008, al_5009, al_5010, al_5011, al_5012, al_5013, al_5014, al_5015, al_5016, al_5017, al_5018, al_5019, al_5020, al_5021, al_5022, al_5023, al_5024, al_5025, al_5026, al_9000, al_101, al_102, al_104, al_105, al_107, al_108, al_110, al_111, vcs_e, lg_c0, lg_cs, lg_nil, set_c0, set_cs, okst_0, okst_s, acok_n, acok_c, List.contains_nil, List.contains_cons, Bool.or_false, Bool.false_or, Bool.false_eq_true, if_false, if_true, ite_self, ne_eq, true_and, and_true, not_false_eq_true, not_true_eq_false, false_imp_iff, true_imp_iff, Nat.ble_eq, Bool.and_eq_true, reduceCtorEq, or_false, false_or, or_true, true_or, false_and, and_false, and_self, Int.reduceLE, Int.reduceAdd, Int.reduceSub, Int.reduceMul, Int.reduceNeg, Int.reduceLT, Int.reduceEq, Int.reduceNe, Nat.reduceBEq, Nat.reduceBNe, Nat.reduceEqDiff, amCmp_in, amCmp_lt, amCmp_le, amCmp_gt, amCmp_ge, amCmp_eq, amCmp_ne, Nat.reduceLeDiff, Nat.reduceSub, Bool.and_true, Bool.true_and, Bool.and_self, Bool.or_true, Bool.true_or, isRf_3, isRf_4, isRf_5, isRf_8, isRf_9, isRf_10, isRf_11, isRf_15, isRf_16, isRf_17, isRf_18, isRf_19, isRf_20, isRf_21, isRf_22, isRf_23, isRf_24, isRf_25, isRf_26, isRf_27, isRf_28, k_X12_readClause_0, k_X12_readClause_1, k_X12_readClause_4, k_X12_readClause_5, k_X12_readClause_6, k_X12_readClause_8, k_X12_readClause_11, k_X12_readClause_12, k_X12_readClause_15, k_X12_readClause_18, k_X12_readClause_19, k_X12_readClause_21, k_X12_readClause_24, k_X12_readClause_25, k_X12_readClause_28, k_X12_readClause_29, k_X12_readClause_32, k_X12_readClause_33, k_X12_readClause_35, k_X12_readClause_38, k_X12_readClause_39, k_X12_readClause_42, k_X12_readClause_44, k_X12_readClause_47, k_X12_readClause_48, k_X12_readClause_50, k_X12_readClause_53, k_X12_readClause_54, k_X12_readClause_57, k_X12_readClause_59, k_X12_readClause_62, k_X12_readClause_63, k_X12_readClause_66, k_X12_readClause_67, k_X12_readClause_68, k_X12_readClause_69, k_X12_readClause_72, k_X12_readClause_73, k_X12_readClause_76, k_X12_readClause_77, k_X12_readClause_78, k_X12_readClause_79, k_X12_readClause_80, k_X12_readClause_83, k_X12_readClause_84, k_X12_readClause_85, k_X12_readClause_88, k_X12_readClause_89, k_X12_readClause_91, k_X12_readClause_94, k_X12_readClause_95, k_X12_readClause_96, k_X12_readClause_99, k_X12_readClause_100, k_X12_readClause_101, k_X12_readClause_102, k_X12_readClause_105, k_X12_readClause_106, k_X12_readClause_109, k_X12_readClause_112, k_X12_readClause_115, k_X12_readClause_116, k_X12_readClause_118, k_X12_readClause_121, k_X12_readClause_122, k_X12_readClause_123, k_X12_readClause_126, k_X12_readClause_127, k_X12_readClause_128, k_X12_readClause_131, k_X12_readClause_132, k_X12_readClause_133, k_X12_readClause_134, k_X12_readClause_137, k_X12_readClause_138, k_X12_readClause_139, k_X12_readClause_142, k_X12_readClause_143, k_X12_readClause_144, k_X12_readClause_145, k_X12_readClause_148, k_X12_readClause_151, k_X12_readClause_154, k_X12_readClause_155, k_X12_readClause_157, k_X12_readClause_160, k_X12_readClause_161, k_X12_readClause_162, k_X12_readClause_165, k_X12_readClause_166, k_X12_readClause_167, k_X12_readClause_170, k_X12_readClause_171, k_X12_readClause_172, k_X12_readClause_173, k_X12_readClause_176, k_X12_readClause_177, k_X12_readClause_178, k_X12_readClause_181, k_X12_readClause_182, k_X12_readClause_183, k_X12_readClause_184, k_X12_readClause_187, k_X12_readClause_190, k_X12_readClause_193, k_X12_readClause_194, k_X12_readClause_195, k_X12_readClause_198, k_X12_readClause_199, k_X12_readClause_200, k_X12_readClause_203, k_X12_readClause_204, k_X12_readClause_205, k_X12_readClause_206, k_X12_readClause_209, k_X12_readClause_210, k_X12_readClause_213, k_X12_readClause_214, k_X12_readClause_215, k_X12_readClause_218, k_X12_readClause_221, w_X12_fails_e, w_X12_look_e, w_X12_readItems_e, msk, Mt, MtO, ho_10, ho_9, ho_11, ho_u10, ho_u11, hs, hS, c1, r1, r2, r3, ho_c0, ho_fa]
        repeat' (first | apply And.intro | intro _)
        all_goals first | omega | exact absurd trivial (by assumption) | exact hq | exact ⟨by omega, by omega⟩
    · rw [if_neg c1] at ek
      by_cases c2 : S = 99
      · rw [if_pos c2] at ek
        have l9 := lts (by omega)
        rw [ek] at hq1 hq2 eR
        rw [m2] at hq1 hq2
        by_cases z : c 2 < 6
        · have hq := hq2 (by decide) z
          rw [eR] at hq
          have ux : ∀ x, upf c 2 x 2 = x := fun x => upf_s2 _ _ _
          simp only [↓reduceIte, inR_0, inR_1, inR_m, vSw2_e, swP_n, swP_c, vI_e, vL_e, vNull_e, vIload_e, vLload_e, vAload_e, vIstore_e, vLstore_e, vAstore_e, vIinc_e, vIadd_e, vIsub_e, vImul_e, vIand_e, vIor_e, vIxor_e, vIshl_e, vIshr_e, vIushr_e, vIdiv_e, vIrem_e, vLadd_e, vLsub_e, vLmul_e, vLand_e, vLor_e, vLxor_e, vLdiv_e, vLrem_e, vLushr_e, vLshl_e, vLcmp_e, vIneg_e, vI2l_e, vL2i_e, vI2b_e, vI2c_e, vDup_e, vPop_e, vDup2_e, vGoto_e, vIcEq_e, vIfEq_e, vIcNe_e, vIfNe_e, vIcLt_e, vIfLt_e, vIcGe_e, vIfGe_e, vIcGt_e, vIfGt_e, vIcLe_e, vIfLe_e, vNonnull_e, vSw_e, vGetI_e, vGetL_e, vGetR_e, vPutI_e, vPutZ_e, vPutL_e, vPutR_e, vIald_e, vIald_s, vLald_e, vBald_e, vBald_s, vAald_e, vIast_e, vLast_e, vBast_e, vAast_e, vAlen_e8, vAlen_e9, vAlen_e10, vAlen_e11, vAlen_e5, vAlen_e3, vGets_e, vCompact_e, vLdcS_e, vIret_e, vZret_e, vCret_e, vBret_e, vLret_e, vVret_e, vAret_e, vCallM_e0, vCallMV_e0, vCallS_e0, vCallSV_e0, vCallM_e1, vCallMV_e1, vCallS_e1, vCallSV_e1, vCallM_e2, vCallMV_e2, vCallS_e2, vCallSV_e2, vCallM_e3, vCallMV_e3, vCallS_e3, vCallSV_e3, vCallM_e4, vCallMV_e4, vCallS_e4, vCallSV_e4, vCallM_e5, vCallMV_e5, vCallS_e5, vCallSV_e5, vCallM_e6, vCallMV_e6, vCallS_e6, vCallSV_e6, vCallM_e7, vCallMV_e7, vCallS_e7, vCallSV_e7, vBad_e, vStrVal_e, vStrCod_e, vForm_e, vCallT_e0, vCallT_e1, vCallT_e2, vCopy_e, rf_0_0, rf_0_1, rf_0_2, rf_0_3, rf_0_4, rf_0_7, rf_0_10, rf_0_11, rf_0_12, rf_0_13, rf_0_14, rf_0_15, rf_0_16, rf_1_0, rf_3_0, rf_3_1, rf_6_0, rf_6_1, rf_9_0, rf_9_1, rf_9_3, rf_13_0, rf_13_1, rf_13_2, rf_16_0, rf_16_1, rf_16_2, rf_16_3, rf_21_0, rf_21_1, rf_21_2, rf_21_3, rf_26_0, rf_26_1, rf_26_2, rf_26_3, rf_26_4, rf_26_5, rf_26_6, rf_31_0, rf_31_2, rf_31_5, rf_31_6, rf_36_0, rf_36_1, rf_36_2, rf_36_3, rf_39_0, rf_39_1, rf_39_2, rf_41_0, rf_41_1, rf_41_2, rf_41_3, rf_5000_1, rf_5000_2, rf_5000_3, rf_5000_4, rf_5000_5, rf_5000_15, rf_5000_16, rf_5000_18, rf_5000_19, rf_5000_20, rf_5000_21, rf_5000_22, rf_5000_23, rf_5000_24, rf_5000_25, rf_5000_26, rf_5000_27, rf_5000_36, rf_5000_37, rf_5000_40, rf_5000_41, rf_5000_42, rf_5000_43, rf_5000_44, rf_5000_45, rf_5000_47, rf_5000_52, rf_5000_54, rf_5000_55, rf_100_0, rf_100_1, rf_103_0, rf_103_1, rf_106_0, rf_106_1, rf_109_0, rf_109_1, al_2, al_4, al_5, al_7, al_8, al_10, al_11, al_12, al_14, al_15, al_17, al_18, al_19, al_20, al_22, al_23, al_24, al_25, al_27, al_28, al_29, al_30, al_32, al_33, al_34, al_35, al_37, al_38, al_40, al_42, al_5001, al_5002, al_5003, al_5004, al_5005, al_5006, al_5007, al_5008, al_5009, al_5010, al_5011, al_5012, al_5013, al_5014, al_5015, al_5016, al_5017, al_5018, al_5019, al_5020, al_5021, al_5022, al_5023, al_5024, al_5025, al_5026, al_9000, al_101, al_102, al_104, al_105, al_107, al_108, al_110, al_111, vcs_e, lg_c0, lg_cs, lg_nil, set_c0, set_cs, okst_0, okst_s, acok_n, acok_c, List.contains_nil, List.contains_cons, Bool.or_false, Bool.false_or, Bool.false_eq_true, if_false, if_true, ite_self, ne_eq, true_and, and_true, not_false_eq_true, not_true_eq_false, false_imp_iff, true_imp_iff, Nat.ble_eq, Bool.and_eq_true, reduceCtorEq, or_false, false_or, or_true, true_or, false_and, and_false, and_self, Int.reduceLE, Int.reduceAdd, Int.reduceSub, Int.reduceMul, Int.reduceNeg, Int.reduceLT, Int.reduceEq, Int.reduceNe, Nat.reduceBEq, Nat.reduceBNe, Nat.reduceEqDiff, amCmp_in, amCmp_lt, amCmp_le, amCmp_gt, amCmp_ge, amCmp_eq, amCmp_ne, Nat.reduceLeDiff, Nat.reduceSub, Bool.and_true, Bool.true_and, Bool.and_self, Bool.or_true, Bool.true_or, isRf_3, isRf_4, isRf_5, isRf_8, isRf_9, isRf_10, isRf_11, isRf_15, isRf_16, isRf_17, isRf_18, isRf_19, isRf_20, isRf_21, isRf_22, isRf_23, isRf_24, isRf_25, isRf_26, isRf_27, isRf_28, k_X12_readClause_0, k_X12_readClause_1, k_X12_readClause_4, k_X12_readClause_5, k_X12_readClause_6, k_X12_readClause_8, k_X12_readClause_11, k_X12_readClause_12, k_X12_readClause_15, k_X12_readClause_18, k_X12_readClause_19, k_X12_readClause_21, k_X12_readClause_24, k_X12_readClause_25, k_X12_readClause_28, k_X12_readClause_29, k_X12_readClause_32, k_X12_readClause_33, k_X12_readClause_35, k_X12_readClause_38, k_X12_readClause_39, k_X12_readClause_42, k_X12_readClause_44, k_X12_readClause_47, k_X12_readClause_48, k_X12_readClause_50, k_X12_readClause_53, k_X12_readClause_54, k_X12_readClause_57, k_X12_readClause_59, k_X12_readClause_62, k_X12_readClause_63, k_X12_readClause_66, k_X12_readClause_67, k_X12_readClause_68, k_X12_readClause_69, k_X12_readClause_72, k_X12_readClause_73, k_X12_readClause_76, k_X12_readClause_77, k_X12_readClause_78, k_X12_readClause_79, k_X12_readClause_80, k_X12_readClause_83, k_X12_readClause_84, k_X12_readClause_85, k_X12_readClause_88, k_X12_readClause_89, k_X12_readClause_91, k_X12_readClause_94, k_X12_readClause_95, k_X12_readClause_96, k_X12_readClause_99, k_X12_readClause_100, k_X12_readClause_101, k_X12_readClause_102, k_X12_readClause_105, k_X12_readClause_106, k_X12_readClause_109, k_X12_readClause_112, k_X12_readClause_115, k_X12_readClause_116, k_X12_readClause_118, k_X12_readClause_121, k_X12_readClause_122, k_X12_readClause_123, k_X12_readClause_126, k_X12_readClause_127, k_X12_readClause_128, k_X12_readClause_131, k_X12_readClause_132, k_X12_readClause_133, k_X12_readClause_134, k_X12_readClause_137, k_X12_readClause_138, k_X12_readClause_139, k_X12_readClause_142, k_X12_readClause_143, k_X12_readClause_144, k_X12_readClause_145, k_X12_readClause_148, k_X12_readClause_151, k_X12_readClause_154, k_X12_readClause_155, k_X12_readClause_157, k_X12_readClause_160, k_X12_readClause_161, k_X12_readClause_162, k_X12_readClause_165, k_X12_readClause_166, k_X12_readClause_167, k_X12_readClause_170, k_X12_readClause_171, k_X12_readClause_172, k_X12_readClause_173, k_X12_readClause_176, k_X12_readClause_177, k_X12_readClause_178, k_X12_readClause_181, k_X12_readClause_182, k_X12_readClause_183, k_X12_readClause_184, k_X12_readClause_187, k_X12_readClause_190, k_X12_readClause_193, k_X12_readClause_194, k_X12_readClause_195, k_X12_readClause_198, k_X12_readClause_199, k_X12_readClause_200, k_X12_readClause_203, k_X12_readClause_204, k_X12_readClause_205, k_X12_readClause_206, k_X12_readClause_209, k_X12_readClause_210, k_X12_readClause_213, k_X12_readClause_214, k_X12_readClause_215, k_X12_readClause_218, k_X12_readClause_221, w_X12_fails_e, w_X12_look_e, w_X12_readItems_e, msk, Mt, MtO, ho_10, ho_9, ho_11, ho_u10, ho_u11, hs, hS, c2, r1, r2, r3, u1, u2, u3, ho_c0, ho_u0, ux]
          repeat' (first | apply And.intro | intro _)
          all_goals first | omega | exact absurd trivial (by assumption) | exact ⟨by omega, by omega⟩ | skip
          all_goals (exact ⟨m, s + 1, upf c 2 (c 2 + 1), v, 2, c 2, rfl, rfl, rfl, by rw [show kln 2 = 3 from rfl]; omega, rfl, by decide, by decide, by omega, by rw [m2]; exact z, ht, by omega, by omega, hvB, hq.1, hq.2⟩)
        · have hq := hq1 (by omega)
          simp only [↓reduceIte, inR_0, inR_1, inR_m, vSw2_e, swP_n, swP_c, vI_e, vL_e, vNull_e, vIload_e, vLload_e, vAload_e, vIstore_e, vLstore_e, vAstore_e, vIinc_e, vIadd_e, vIsub_e, vImul_e, vIand_e, vIor_e, vIxor_e, vIshl_e, vIshr_e, vIushr_e, vIdiv_e, vIrem_e, vLadd_e, vLsub_e, vLmul_e, vLand_e, vLor_e, vLxor_e, vLdiv_e, vLrem_e, vLushr_e, vLshl_e, vLcmp_e, vIneg_e, vI2l_e, vL2i_e, vI2b_e, vI2c_e, vDup_e, vPop_e, vDup2_e, vGoto_e, vIcEq_e, vIfEq_e, vIcNe_e, vIfNe_e, vIcLt_e, vIfLt_e, vIcGe_e, vIfGe_e, vIcGt_e, vIfGt_e, vIcLe_e, vIfLe_e, vNonnull_e, vSw_e, vGetI_e, vGetL_e, vGetR_e, vPutI_e, vPutZ_e, vPutL_e, vPutR_e, vIald_e, vIald_s, vLald_e, vBald_e, vBald_s, vAald_e, vIast_e, vLast_e, vBast_e, vAast_e, vAlen_e8, vAlen_e9, vAlen_e10, vAlen_e11, vAlen_e5, vAlen_e3, vGets_e, vCompact_e, vLdcS_e, vIret_e, vZret_e, vCret_e, vBret_e, vLret_e, vVret_e, vAret_e, vCallM_e0, vCallMV_e0, vCallS_e0, vCallSV_e0, vCallM_e1, vCallMV_e1, vCallS_e1, vCallSV_e1, vCallM_e2, vCallMV_e2, vCallS_e2, vCallSV_e2, vCallM_e3, vCallMV_e3, vCallS_e3, vCallSV_e3, vCallM_e4, vCallMV_e4, vCallS_e4, vCallSV_e4, vCallM_e5, vCallMV_e5, vCallS_e5, vCallSV_e5, vCallM_e6, vCallMV_e6, vCallS_e6, vCallSV_e6, vCallM_e7, vCallMV_e7, vCallS_e7, vCallSV_e7, vBad_e, vStrVal_e, vStrCod_e, vForm_e, vCallT_e0, vCallT_e1, vCallT_e2, vCopy_e, rf_0_0, rf_0_1, rf_0_2, rf_0_3, rf_0_4, rf_0_7, rf_0_10, rf_0_11, rf_0_12, rf_0_13, rf_0_14, rf_0_15, rf_0_16, rf_1_0, rf_3_0, rf_3_1, rf_6_0, rf_6_1, rf_9_0, rf_9_1, rf_9_3, rf_13_0, rf_13_1, rf_13_2, rf_16_0, rf_16_1, rf_16_2, rf_16_3, rf_21_0, rf_21_1, rf_21_2, rf_21_3, rf_26_0, rf_26_1, rf_26_2, rf_26_3, rf_26_4, rf_26_5, rf_26_6, rf_31_0, rf_31_2, rf_31_5, rf_31_6, rf_36_0, rf_36_1, rf_36_2, rf_36_3, rf_39_0, rf_39_1, rf_39_2, rf_41_0, rf_41_1, rf_41_2, rf_41_3, rf_5000_1, rf_5000_2, rf_5000_3, rf_5000_4, rf_5000_5, rf_5000_15, rf_5000_16, rf_5000_18, rf_5000_19, rf_5000_20, rf_5000_21, rf_5000_22, rf_5000_23, rf_5000_24, rf_5000_25, rf_5000_26, rf_5000_27, rf_5000_36, rf_5000_37, rf_5000_40, rf_5000_41, rf_5000_42, rf_5000_43, rf_5000_44, rf_5000_45, rf_5000_47, rf_5000_52, rf_5000_54, rf_5000_55, rf_100_0, rf_100_1, rf_103_0, rf_103_1, rf_106_0, rf_106_1, rf_109_0, rf_109_1, al_2, al_4, al_5, al_7, al_8, al_10, al_11, al_12, al_14, al_15, al_17, al_18, al_19, al_20, al_22, al_23, al_24, al_25, al_27, al_28, al_29, al_30, al_32, al_33, al_34, al_35, al_37, al_38, al_40, al_42, al_5001, al_5002, al_5003, al_5004, al_5005, al_5006, al_5007, al_5008, al_5009, al_5010, al_5011, al_5012, al_5013, al_5014, al_5015, al_5016, al_5017, al_5018, al_5019, al_5020, al_5021, al_5022, al_5023, al_5024, al_5025, al_5026, al_9000, al_101, al_102, al_104, al_105, al_107, al_108, al_110, al_111, vcs_e, lg_c0, lg_cs, lg_nil, set_c0, set_cs, okst_0, okst_s, acok_n, acok_c, List.contains_nil, List.contains_cons, Bool.or_false, Bool.false_or, Bool.false_eq_true, if_false, if_true, ite_self, ne_eq, true_and, and_true, not_false_eq_true, not_true_eq_false, false_imp_iff, true_imp_iff, Nat.ble_eq, Bool.and_eq_true, reduceCtorEq, or_false, false_or, or_true, true_or, false_and, and_false, and_self, Int.reduceLE, Int.reduceAdd, Int.reduceSub, Int.reduceMul, Int.reduceNeg, Int.reduceLT, Int.reduceEq, Int.reduceNe, Nat.reduceBEq, Nat.reduceBNe, Nat.reduceEqDiff, amCmp_in, amCmp_lt, amCmp_le, amCmp_gt, amCmp_ge, amCmp_eq, amCmp_ne, Nat.reduceLeDiff, Nat.reduceSub, Bool.and_true, Bool.true_and, Bool.and_self, Bool.or_true, Bool.true_or, isRf_3, isRf_4, isRf_5, isRf_8, isRf_9, isRf_10, isRf_11, isRf_15, isRf_16, isRf_17, isRf_18, isRf_19, isRf_20, isRf_21, isRf_22, isRf_23, isRf_24, isRf_25, isRf_26, isRf_27, isRf_28, k_X12_readClause_0, k_X12_readClause_1, k_X12_readClause_4, k_X12_readClause_5, k_X12_readClause_6, k_X12_readClause_8, k_X12_readClause_11, k_X12_readClause_12, k_X12_readClause_15, k_X12_readClause_18, k_X12_readClause_19, k_X12_readClause_21, k_X12_readClause_24, k_X12_readClause_25, k_X12_readClause_28, k_X12_readClause_29, k_X12_readClause_32, k_X12_readClause_33, k_X12_readClause_35, k_X12_readClause_38, k_X12_readClause_39, k_X12_readClause_42, k_X12_readClause_44, k_X12_readClause_47, k_X12_readClause_48, k_X12_readClause_50, k_X12_readClause_53, k_X12_readClause_54, k_X12_readClause_57, k_X12_readClause_59, k_X12_readClause_62, k_X12_readClause_63, k_X12_readClause_66, k_X12_readClause_67, k_X12_readClause_68, k_X12_readClause_69, k_X12_readClause_72, k_X12_readClause_73, k_X12_readClause_76, k_X12_readClause_77, k_X12_readClause_78, k_X12_readClause_79, k_X12_readClause_80, k_X12_readClause_83, k_X12_readClause_84, k_X12_readClause_85, k_X12_readClause_88, k_X12_readClause_89, k_X12_readClause_91, k_X12_readClause_94, k_X12_readClause_95, k_X12_readClause_96, k_X12_readClause_99, k_X12_readClause_100, k_X12_readClause_101, k_X12_readClause_102, k_X12_readClause_105, k_X12_readClause_106, k_X12_readClause_109, k_X12_readClause_112, k_X12_readClause_115, k_X12_readClause_116, k_X12_readClause_118, k_X12_readClause_121, k_X12_readClause_122, k_X12_readClause_123, k_X12_readClause_126, k_X12_readClause_127, k_X12_readClause_128, k_X12_readClause_131, k_X12_readClause_132, k_X12_readClause_133, k_X12_readClause_134, k_X12_readClause_137, k_X12_readClause_138, k_X12_readClause_139, k_X12_readClause_142, k_X12_readClause_143, k_X12_readClause_144, k_X12_readClause_145, k_X12_readClause_148, k_X12_readClause_151, k_X12_readClause_154, k_X12_readClause_155, k_X12_readClause_157, k_X12_readClause_160, k_X12_readClause_161, k_X12_readClause_162, k_X12_readClause_165, k_X12_readClause_166, k_X12_readClause_167, k_X12_readClause_170, k_X12_readClause_171, k_X12_readClause_172, k_X12_readClause_173, k_X12_readClause_176, k_X12_readClause_177, k_X12_readClause_178, k_X12_readClause_181, k_X12_readClause_182, k_X12_readClause_183, k_X12_readClause_184, k_X12_readClause_187, k_X12_readClause_190, k_X12_readClause_193, k_X12_readClause_194, k_X12_readClause_195, k_X12_readClause_198, k_X12_readClause_199, k_X12_readClause_200, k_X12_readClause_203, k_X12_readClause_204, k_X12_readClause_205, k_X12_readClause_206, k_X12_readClause_209, k_X12_readClause_210, k_X12_readClause_213, k_X12_readClause_214, k_X12_readClause_215, k_X12_readClause_218, k_X12_readClause_221, w_X12_fails_e, w_X12_look_e, w_X12_readItems_e, msk, Mt, MtO, ho_10, ho_9, ho_11, ho_u10, ho_u11, hs, hS, c2, r1, r2, r3, ho_c0, ho_fa]
          repeat' (first | apply And.intro | intro _)
          all_goals first | omega | exact absurd trivial (by assumption) | exact hq | exact ⟨by omega, by omega⟩
      · rw [if_neg c2] at ek
        by_cases c3 : S = 116
        · rw [if_pos c3] at ek
          have l9 := lts (by omega)
          rw [ek] at hq1 hq2 eR
          rw [m3] at hq1 hq2
          by_cases z : c 3 < 6
          · have hq := hq2 (by decide) z
            rw [eR] at hq
            have ux : ∀ x, upf c 3 x 3 = x := fun x => upf_s2 _ _ _
            simp only [↓reduceIte, inR_0, inR_1, inR_m, vSw2_e, swP_n, swP_c, vI_e, vL_e, vNull_e, vIload_e, vLload_e, vAload_e, vIstore_e, vLstore_e, vAstore_e, vIinc_e, vIadd_e, vIsub_e, vImul_e, vIand_e, vIor_e, vIxor_e, vIshl_e, vIshr_e, vIushr_e, vIdiv_e, vIrem_e, vLadd_e, vLsub_e, vLmul_e, vLand_e, vLor_e, vLxor_e, vLdiv_e, vLrem_e, vLushr_e, vLshl_e, vLcmp_e, vIneg_e, vI2l_e, vL2i_e, vI2b_e, vI2c_e, vDup_e, vPop_e, vDup2_e, vGoto_e, vIcEq_e, vIfEq_e, vIcNe_e, vIfNe_e, vIcLt_e, vIfLt_e, vIcGe_e, vIfGe_e, vIcGt_e, vIfGt_e, vIcLe_e, vIfLe_e, vNonnull_e, vSw_e, vGetI_e, vGetL_e, vGetR_e, vPutI_e, vPutZ_e, vPutL_e, vPutR_e, vIald_e, vIald_s, vLald_e, vBald_e, vBald_s, vAald_e, vIast_e, vLast_e, vBast_e, vAast_e, vAlen_e8, vAlen_e9, vAlen_e10, vAlen_e11, vAlen_e5, vAlen_e3, vGets_e, vCompact_e, vLdcS_e, vIret_e, vZret_e, vCret_e, vBret_e, vLret_e, vVret_e, vAret_e, vCallM_e0, vCallMV_e0, vCallS_e0, vCallSV_e0, vCallM_e1, vCallMV_e1, vCallS_e1, vCallSV_e1, vCallM_e2, vCallMV_e2, vCallS_e2, vCallSV_e2, vCallM_e3, vCallMV_e3, vCallS_e3, vCallSV_e3, vCallM_e4, vCallMV_e4, vCallS_e4, vCallSV_e4, vCallM_e5, vCallMV_e5, vCallS_e5, vCallSV_e5, vCallM_e6, vCallMV_e6, vCallS_e6, vCallSV_e6, vCallM_e7, vCallMV_e7, vCallS_e7, vCallSV_e7, vBad_e, vStrVal_e, vStrCod_e, vForm_e, vCallT_e0, vCallT_e1, vCallT_e2, vCopy_e, rf_0_0, rf_0_1, rf_0_2, rf_0_3, rf_0_4, rf_0_7, rf_0_10, rf_0_11, rf_0_12, rf_0_13, rf_0_14, rf_0_15, rf_0_16, rf_1_0, rf_3_0, rf_3_1, rf_6_0, rf_6_1, rf_9_0, rf_9_1, rf_9_3, rf_13_0, rf_13_1, rf_13_2, rf_16_0, rf_16_1, rf_16_2, rf_16_3, rf_21_0, rf_21_1, rf_21_2, rf_21_3, rf_26_0, rf_26_1, rf_26_2, rf_26_3, rf_26_4, rf_26_5, rf_26_6, rf_31_0, rf_31_2, rf_31_5, rf_31_6, rf_36_0, rf_36_1, rf_36_2, rf_36_3, rf_39_0, rf_39_1, rf_39_2, rf_41_0, rf_41_1, rf_41_2, rf_41_3, rf_5000_1, rf_5000_2, rf_5000_3, rf_5000_4, rf_5000_5, rf_5000_15, rf_5000_16, rf_5000_18, rf_5000_19, rf_5000_20, rf_5000_21, rf_5000_22, rf_5000_23, rf_5000_24, rf_5000_25, rf_5000_26, rf_5000_27, rf_5000_36, rf_5000_37, rf_5000_40, rf_5000_41, rf_5000_42, rf_5000_43, rf_5000_44, rf_5000_45, rf_5000_47, rf_5000_52, rf_5000_54, rf_5000_55, rf_100_0, rf_100_1, rf_103_0, rf_103_1, rf_106_0, rf_106_1, rf_109_0, rf_109_1, al_2, al_4, al_5, al_7, al_8, al_10, al_11, al_12, al_14, al_15, al_17, al_18, al_19, al_20, al_22, al_23, al_24, al_25, al_27, al_28, al_29, al_30, al_32, al_33, al_34, al_35, al_37, al_38, al_40, al_42, al_5001, al_5002, al_5003, al_5004, al_5005, al_5006, al_5007, al_5008, al_5009, al_5010, al_5011, al_5012, al_5013, al_5014, al_5015, al_5016, al_5017, al_5018, al_5019, al_5020, al_5021, al_5022, al_5023, al_5024, al_5025, al_5026, al_9000, al_101, al_102, al_104, al_105, al_107, al_108, al_110, al_111, vcs_e, lg_c0, lg_cs, lg_nil, set_c0, set_cs, okst_0, okst_s, acok_n, acok_c, List.contains_nil, List.contains_cons, Bool.or_false, Bool.false_or, Bool.false_eq_true, if_false, if_true, ite_self, ne_eq, true_and, and_true, not_false_eq_true, not_true_eq_false, false_imp_iff, true_imp_iff, Nat.ble_eq, Bool.and_eq_true, reduceCtorEq, or_false, false_or, or_true, true_or, false_and, and_false, and_self, Int.reduceLE, Int.reduceAdd, Int.reduceSub, Int.reduceMul, Int.reduceNeg, Int.reduceLT, Int.reduceEq, Int.reduceNe, Nat.reduceBEq, Nat.reduceBNe, Nat.reduceEqDiff, amCmp_in, amCmp_lt, amCmp_le, amCmp_gt, amCmp_ge, amCmp_eq, amCmp_ne, Nat.reduceLeDiff, Nat.reduceSub, Bool.and_true, Bool.true_and, Bool.and_self, Bool.or_true, Bool.true_or, isRf_3, isRf_4, isRf_5, isRf_8, isRf_9, isRf_10, isRf_11, isRf_15, isRf_16, isRf_17, isRf_18, isRf_19, isRf_20, isRf_21, isRf_22, isRf_23, isRf_24, isRf_25, isRf_26, isRf_27, isRf_28, k_X12_readClause_0, k_X12_readClause_1, k_X12_readClause_4, k_X12_readClause_5, k_X12_readClause_6, k_X12_readClause_8, k_X12_readClause_11, k_X12_readClause_12, k_X12_readClause_15, k_X12_readClause_18, k_X12_readClause_19, k_X12_readClause_21, k_X12_readClause_24, k_X12_readClause_25, k_X12_readClause_28, k_X12_readClause_29, k_X12_readClause_32, k_X12_readClause_33, k_X12_readClause_35, k_X12_readClause_38, k_X12_readClause_39, k_X12_readClause_42, k_X12_readClause_44, k_X12_readClause_47, k_X12_readClause_48, k_X12_readClause_50, k_X12_readClause_53, k_X12_readClause_54, k_X12_readClause_57, k_X12_readClause_59, k_X12_readClause_62, k_X12_readClause_63, k_X12_readClause_66, k_X12_readClause_67, k_X12_readClause_68, k_X12_readClause_69, k_X12_readClause_72, k_X12_readClause_73, k_X12_readClause_76, k_X12_readClause_77, k_X12_readClause_78, k_X12_readClause_79, k_X12_readClause_80, k_X12_readClause_83, k_X12_readClause_84, k_X12_readClause_85, k_X12_readClause_88, k_X12_readClause_89, k_X12_readClause_91, k_X12_readClause_94, k_X12_readClause_95, k_X12_readClause_96, k_X12_readClause_99, k_X12_readClause_100, k_X12_readClause_101, k_X12_readClause_102, k_X12_readClause_105, k_X12_readClause_106, k_X12_readClause_109, k_X12_readClause_112, k_X12_readClause_115, k_X12_readClause_116, k_X12_readClause_118, k_X12_readClause_121, k_X12_readClause_122, k_X12_readClause_123, k_X12_readClause_126, k_X12_readClause_127, k_X12_readClause_128, k_X12_readClause_131, k_X12_readClause_132, k_X12_readClause_133, k_X12_readClause_134, k_X12_readClause_137, k_X12_readClause_138, k_X12_readClause_139, k_X12_readClause_142, k_X12_readClause_143, k_X12_readClause_144, k_X12_readClause_145, k_X12_readClause_148, k_X12_readClause_151, k_X12_readClause_154, k_X12_readClause_155, k_X12_readClause_157, k_X12_readClause_160, k_X12_readClause_161, k_X12_readClause_162, k_X12_readClause_165, k_X12_readClause_166, k_X12_readClause_167, k_X12_readClause_170, k_X12_readClause_171, k_X12_readClause_172, k_X12_readClause_173, k_X12_readClause_176, k_X12_readClause_177, k_X12_readClause_178, k_X12_readClause_181, k_X12_readClause_182, k_X12_readClause_183, k_X12_readClause_184, k_X12_readClause_187, k_X12_readClause_190, k_X12_readClause_193, k_X12_readClause_194, k_X12_readClause_195, k_X12_readClause_198, k_X12_readClause_199, k_X12_readClause_200, k_X12_readClause_203, k_X12_readClause_204, k_X12_readClause_205, k_X12_readClause_206, k_X12_readClause_209, k_X12_readClause_210, k_X12_readClause_213, k_X12_readClause_214, k_X12_readClause_215, k_X12_readClause_218, k_X12_readClause_221, w_X12_fails_e, w_X12_look_e, w_X12_readItems_e, msk, Mt, MtO, ho_10, ho_9, ho_11, ho_u10, ho_u11, hs, hS, c3, r1, r2, r3, u1, u2, u3, ho_c0, ho_u0, ux]
            repeat' (first | apply And.intro | intro _)
            all_goals first | omega | exact absurd trivial (by assumption) | exact ⟨by omega, by omega⟩ | skip
            all_goals (exact ⟨m, s + 1, upf c 3 (c 3 + 1), v, 3, c 3, rfl, rfl, rfl, by rw [show kln 3 = 1 from rfl]; omega, rfl, by decide, by decide, by omega, by rw [m3]; exact z, ht, by omega, by omega, hvB, hq.1, hq.2⟩)
          · have hq := hq1 (by omega)
            simp only [↓reduceIte, inR_0, inR_1, inR_m, vSw2_e, swP_n, swP_c, vI_e, vL_e, vNull_e, vIload_e, vLload_e, vAload_e, vIstore_e, vLstore_e, vAstore_e, vIinc_e, vIadd_e, vIsub_e, vImul_e, vIand_e, vIor_e, vIxor_e, vIshl_e, vIshr_e, vIushr_e, vIdiv_e, vIrem_e, vLadd_e, vLsub_e, vLmul_e, vLand_e, vLor_e, vLxor_e, vLdiv_e, vLrem_e, vLushr_e, vLshl_e, vLcmp_e, vIneg_e, vI2l_e, vL2i_e, vI2b_e, vI2c_e, vDup_e, vPop_e, vDup2_e, vGoto_e, vIcEq_e, vIfEq_e, vIcNe_e, vIfNe_e, vIcLt_e, vIfLt_e, vIcGe_e, vIfGe_e, vIcGt_e, vIfGt_e, vIcLe_e, vIfLe_e, vNonnull_e, vSw_e, vGetI_e, vGetL_e, vGetR_e, vPutI_e, vPutZ_e, vPutL_e, vPutR_e, vIald_e, vIald_s, vLald_e, vBald_e, vBald_s, vAald_e, vIast_e, vLast_e, vBast_e, vAast_e, vAlen_e8, vAlen_e9, vAlen_e10, vAlen_e11, vAlen_e5, vAlen_e3, vGets_e, vCompact_e, vLdcS_e, vIret_e, vZret_e, vCret_e, vBret_e, vLret_e, vVret_e, vAret_e, vCallM_e0, vCallMV_e0, vCallS_e0, vCallSV_e0, vCallM_e1, vCallMV_e1, vCallS_e1, vCallSV_e1, vCallM_e2, vCallMV_e2, vCallS_e2, vCallSV_e2, vCallM_e3, vCallMV_e3, vCallS_e3, vCallSV_e3, vCallM_e4, vCallMV_e4, vCallS_e4, vCallSV_e4, vCallM_e5, vCallMV_e5, vCallS_e5, vCallSV_e5, vCallM_e6, vCallMV_e6, vCallS_e6, vCallSV_e6, vCallM_e7, vCallMV_e7, vCallS_e7, vCallSV_e7, vBad_e, vStrVal_e, vStrCod_e, vForm_e, vCallT_e0, vCallT_e1, vCallT_e2, vCopy_e, rf_0_0, rf_0_1, rf_0_2, rf_0_3, rf_0_4, rf_0_7, rf_0_10, rf_0_11, rf_0_12, rf_0_13, rf_0_14, rf_0_15, rf_0_16, rf_1_0, rf_3_0, rf_3_1, rf_6_0, rf_6_1, rf_9_0, rf_9_1, rf_9_3, rf_13_0, rf_13_1, rf_13_2, rf_16_0, rf_16_1, rf_16_2, rf_16_3, rf_21_0, rf_21_1, rf_21_2, rf_21_3, rf_26_0, rf_26_1, rf_26_2, rf_26_3, rf_26_4, rf_26_5, rf_26_6, rf_31_0, rf_31_2, rf_31_5, rf_31_6, rf_36_0, rf_36_1, rf_36_2, rf_36_3, rf_39_0, rf_39_1, rf_39_2, rf_41_0, rf_41_1, rf_41_2, rf_41_3, rf_5000_1, rf_5000_2, rf_5000_3, rf_5000_4, rf_5000_5, rf_5000_15, rf_5000_16, rf_5000_18, rf_5000_19, rf_5000_20, rf_5000_21, rf_5000_22, rf_5000_23, rf_5000_24, rf_5000_25, rf_5000_26, rf_5000_27, rf_5000_36, rf_5000_37, rf_5000_40, rf_5000_41, rf_5000_42, rf_5000_43, rf_5000_44, rf_5000_45, rf_5000_47, rf_5000_52, rf_5000_54, rf_5000_55, rf_100_0, rf_100_1, rf_103_0, rf_103_1, rf_106_0, rf_106_1, rf_109_0, rf_109_1, al_2, al_4, al_5, al_7, al_8, al_10, al_11, al_12, al_14, al_15, al_17, al_18, al_19, al_20, al_22, al_23, al_24, al_25, al_27, al_28, al_29, al_30, al_32, al_33, al_34, al_35, al_37, al_38, al_40, al_42, al_5001, al_5002, al_5003, al_5004, al_5005, al_5006, al_5007, al_5008, al_5009, al_5010, al_5011, al_5012, al_5013, al_5014, al_5015, al_5016, al_5017, al_5018, al_5019, al_5020, al_5021, al_5022, al_5023, al_5024, al_5025, al_5026, al_9000, al_101, al_102, al_104, al_105, al_107, al_108, al_110, al_111, vcs_e, lg_c0, lg_cs, lg_nil, set_c0, set_cs, okst_0, okst_s, acok_n, acok_c, List.contains_nil, List.contains_cons, Bool.or_false, Bool.false_or, Bool.false_eq_true, if_false, if_true, ite_self, ne_eq, true_and, and_true, not_false_eq_true, not_true_eq_false, false_imp_iff, true_imp_iff, Nat.ble_eq, Bool.and_eq_true, reduceCtorEq, or_false, false_or, or_true, true_or, false_and, and_false, and_self, Int.reduceLE, Int.reduceAdd, Int.reduceSub, Int.reduceMul, Int.reduceNeg, Int.reduceLT, Int.reduceEq, Int.reduceNe, Nat.reduceBEq, Nat.reduceBNe, Nat.reduceEqDiff, amCmp_in, amCmp_lt, amCmp_le, amCmp_gt, amCmp_ge, amCmp_eq, amCmp_ne, Nat.reduceLeDiff, Nat.reduceSub, Bool.and_true, Bool.true_and, Bool.and_self, Bool.or_true, Bool.true_or, isRf_3, isRf_4, isRf_5, isRf_8, isRf_9, isRf_10, isRf_11, isRf_15, isRf_16, isRf_17, isRf_18, isRf_19, isRf_20, isRf_21, isRf_22, isRf_23, isRf_24, isRf_25, isRf_26, isRf_27, isRf_28, k_X12_readClause_0, k_X12_readClause_1, k_X12_readClause_4, k_X12_readClause_5, k_X12_readClause_6, k_X12_readClause_8, k_X12_readClause_11, k_X12_readClause_12, k_X12_readClause_15, k_X12_readClause_18, k_X12_readClause_19, k_X12_readClause_21, k_X12_readClause_24, k_X12_readClause_25, k_X12_readClause_28, k_X12_readClause_29, k_X12_readClause_32, k_X12_readClause_33, k_X12_readClause_35, k_X12_readClause_38, k_X12_readClause_39, k_X12_readClause_42, k_X12_readClause_44, k_X12_readClause_47, k_X12_readClause_48, k_X12_readClause_50, k_X12_readClause_53, k_X12_readClause_54, k_X12_readClause_57, k_X12_readClause_59, k_X12_readClause_62, k_X12_readClause_63, k_X12_readClause_66, k_X12_readClause_67, k_X12_readClause_68, k_X12_readClause_69, k_X12_readClause_72, k_X12_readClause_73, k_X12_readClause_76, k_X12_readClause_77, k_X12_readClause_78, k_X12_readClause_79, k_X12_readClause_80, k_X12_readClause_83, k_X12_readClause_84, k_X12_readClause_85, k_X12_readClause_88, k_X12_readClause_89, k_X12_readClause_91, k_X12_readClause_94, k_X12_readClause_95, k_X12_readClause_96, k_X12_readClause_99, k_X12_readClause_100, k_X12_readClause_101, k_X12_readClause_102, k_X12_readClause_105, k_X12_readClause_106, k_X12_readClause_109, k_X12_readClause_112, k_X12_readClause_115, k_X12_readClause_116, k_X12_readClause_118, k_X12_readClause_121, k_X12_readClause_122, k_X12_readClause_123, k_X12_readClause_126, k_X12_readClause_127, k_X12_readClause_128, k_X12_readClause_131, k_X12_readClause_132, k_X12_readClause_133, k_X12_readClause_134, k_X12_readClause_137, k_X12_readClause_138, k_X12_readClause_139, k_X12_readClause_142, k_X12_readClause_143, k_X12_readClause_144, k_X12_readClause_145, k_X12_readClause_148, k_X12_readClause_151, k_X12_readClause_154, k_X12_readClause_155, k_X12_readClause_157, k_X12_readClause_160, k_X12_readClause_161, k_X12_readClause_162, k_X12_readClause_165, k_X12_readClause_166, k_X12_readClause_167, k_X12_readClause_170, k_X12_readClause_171, k_X12_readClause_172, k_X12_readClause_173, k_X12_readClause_176, k_X12_readClause_177, k_X12_readClause_178, k_X12_readClause_181, k_X12_readClause_182, k_X12_readClause_183, k_X12_readClause_184, k_X12_readClause_187, k_X12_readClause_190, k_X12_readClause_193, k_X12_readClause_194, k_X12_readClause_195, k_X12_readClause_198, k_X12_readClause_199, k_X12_readClause_200, k_X12_readClause_203, k_X12_readClause_204, k_X12_readClause_205, k_X12_readClause_206, k_X12_readClause_209, k_X12_readClause_210, k_X12_readClause_213, k_X12_readClause_214, k_X12_readClause_215, k_X12_readClause_218, k_X12_readClause_221, w_X12_fails_e, w_X12_look_e, w_X12_readItems_e, msk, Mt, MtO, ho_10, ho_9, ho_11, ho_u10, ho_u11, hs, hS, c3, r1, r2, r3, ho_c0, ho_fa]
            repeat' (first | apply And.intro | intro _)
            all_goals first | omega | exact absurd trivial (by assumption) | exact hq | exact ⟨by omega, by omega⟩
        · rw [if_neg c3] at ek
          have hq := hq1 (by rw [ek]; omega)
          simp only [↓reduceIte, inR_0, inR_1, inR_m, vSw2_e, swP_n, swP_c, vI_e, vL_e, vNull_e, vIload_e, vLload_e, vAload_e, vIstore_e, vLstore_e, vAstore_e, vIinc_e, vIadd_e, vIsub_e, vImul_e, vIand_e, vIor_e, vIxor_e, vIshl_e, vIshr_e, vIushr_e, vIdiv_e, vIrem_e, vLadd_e, vLsub_e, vLmul_e, vLand_e, vLor_e, vLxor_e, vLdiv_e, vLrem_e, vLushr_e, vLshl_e, vLcmp_e, vIneg_e, vI2l_e, vL2i_e, vI2b_e, vI2c_e, vDup_e, vPop_e, vDup2_e, vGoto_e, vIcEq_e, vIfEq_e, vIcNe_e, vIfNe_e, vIcLt_e, vIfLt_e, vIcGe_e, vIfGe_e, vIcGt_e, vIfGt_e, vIcLe_e, vIfLe_e, vNonnull_e, vSw_e, vGetI_e, vGetL_e, vGetR_e, vPutI_e, vPutZ_e, vPutL_e, vPutR_e, vIald_e, vIald_s, vLald_e, vBald_e, vBald_s, vAald_e, vIast_e, vLast_e, vBast_e, vAast_e, vAlen_e8, vAlen_e9, vAlen_e10, vAlen_e11, vAlen_e5, vAlen_e3, vGets_e, vCompact_e, vLdcS_e, vIret_e, vZret_e, vCret_e, vBret_e, vLret_e, vVret_e, vAret_e, vCallM_e0, vCallMV_e0, vCallS_e0, vCallSV_e0, vCallM_e1, vCallMV_e1, vCallS_e1, vCallSV_e1, vCallM_e2, vCallMV_e2, vCallS_e2, vCallSV_e2, vCallM_e3, vCallMV_e3, vCallS_e3, vCallSV_e3, vCallM_e4, vCallMV_e4, vCallS_e4, vCallSV_e4, vCallM_e5, vCallMV_e5, vCallS_e5, vCallSV_e5, vCallM_e6, vCallMV_e6, vCallS_e6, vCallSV_e6, vCallM_e7, vCallMV_e7, vCallS_e7, vCallSV_e7, vBad_e, vStrVal_e, vStrCod_e, vForm_e, vCallT_e0, vCallT_e1, vCallT_e2, vCopy_e, rf_0_0, rf_0_1, rf_0_2, rf_0_3, rf_0_4, rf_0_7, rf_0_10, rf_0_11, rf_0_12, rf_0_13, rf_0_14, rf_0_15, rf_0_16, rf_1_0, rf_3_0, rf_3_1, rf_6_0, rf_6_1, rf_9_0, rf_9_1, rf_9_3, rf_13_0, rf_13_1, rf_13_2, rf_16_0, rf_16_1, rf_16_2, rf_16_3, rf_21_0, rf_21_1, rf_21_2, rf_21_3, rf_26_0, rf_26_1, rf_26_2, rf_26_3, rf_26_4, rf_26_5, rf_26_6, rf_31_0, rf_31_2, rf_31_5, rf_31_6, rf_36_0, rf_36_1, rf_36_2, rf_36_3, rf_39_0, rf_39_1, rf_39_2, rf_41_0, rf_41_1, rf_41_2, rf_41_3, rf_5000_1, rf_5000_2, rf_5000_3, rf_5000_4, rf_5000_5, rf_5000_15, rf_5000_16, rf_5000_18, rf_5000_19, rf_5000_20, rf_5000_21, rf_5000_22, rf_5000_23, rf_5000_24, rf_5000_25, rf_5000_26, rf_5000_27, rf_5000_36, rf_5000_37, rf_5000_40, rf_5000_41, rf_5000_42, rf_5000_43, rf_5000_44, rf_5000_45, rf_5000_47, rf_5000_52, rf_5000_54, rf_5000_55, rf_100_0, rf_100_1, rf_103_0, rf_103_1, rf_106_0, rf_106_1, rf_109_0, rf_109_1, al_2, al_4, al_5, al_7, al_8, al_10, al_11, al_12, al_14, al_15, al_17, al_18, al_19, al_20, al_22, al_23, al_24, al_25, al_27, al_28, al_29, al_30, al_32, al_33, al_34, al_35, al_37, al_38, al_40, al_42, al_5001, al_5002, al_5003, al_5004, al_5005, al_5006, al_5007, al_5008, al_5009, al_5010, al_5011, al_5012, al_5013, al_5014, al_5015, al_5016, al_5017, al_5018, al_5019, al_5020, al_5021, al_5022, al_5023, al_5024, al_5025, al_5026, al_9000, al_101, al_102, al_104, al_105, al_107, al_108, al_110, al_111, vcs_e, lg_c0, lg_cs, lg_nil, set_c0, set_cs, okst_0, okst_s, acok_n, acok_c, List.contains_nil, List.contains_cons, Bool.or_false, Bool.false_or, Bool.false_eq_true, if_false, if_true, ite_self, ne_eq, true_and, and_true, not_false_eq_true, not_true_eq_false, false_imp_iff, true_imp_iff, Nat.ble_eq, Bool.and_eq_true, reduceCtorEq, or_false, false_or, or_true, true_or, false_and, and_false, and_self, Int.reduceLE, Int.reduceAdd, Int.reduceSub, Int.reduceMul, Int.reduceNeg, Int.reduceLT, Int.reduceEq, Int.reduceNe, Nat.reduceBEq, Nat.reduceBNe, Nat.reduceEqDiff, amCmp_in, amCmp_lt, amCmp_le, amCmp_gt, amCmp_ge, amCmp_eq, amCmp_ne, Nat.reduceLeDiff, Nat.reduceSub, Bool.and_true, Bool.true_and, Bool.and_self, Bool.or_true, Bool.true_or, isRf_3, isRf_4, isRf_5, isRf_8, isRf_9, isRf_10, isRf_11, isRf_15, isRf_16, isRf_17, isRf_18, isRf_19, isRf_20, isRf_21, isRf_22, isRf_23, isRf_24, isRf_25, isRf_26, isRf_27, isRf_28, k_X12_readClause_0, k_X12_readClause_1, k_X12_readClause_4, k_X12_readClause_5, k_X12_readClause_6, k_X12_readClause_8, k_X12_readClause_11, k_X12_readClause_12, k_X12_readClause_15, k_X12_readClause_18, k_X12_readClause_19, k_X12_readClause_21, k_X12_readClause_24, k_X12_readClause_25, k_X12_readClause_28, k_X12_readClause_29, k_X12_readClause_32, k_X12_readClause_33, k_X12_readClause_35, k_X12_readClause_38, k_X12_readClause_39, k_X12_readClause_42, k_X12_readClause_44, k_X12_readClause_47, k_X12_readClause_48, k_X12_readClause_50, k_X12_readClause_53, k_X12_readClause_54, k_X12_readClause_57, k_X12_readClause_59, k_X12_readClause_62, k_X12_readClause_63, k_X12_readClause_66, k_X12_readClause_67, k_X12_readClause_68, k_X12_readClause_69, k_X12_readClause_72, k_X12_readClause_73, k_X12_readClause_76, k_X12_readClause_77, k_X12_readClause_78, k_X12_readClause_79, k_X12_readClause_80, k_X12_readClause_83, k_X12_readClause_84, k_X12_readClause_85, k_X12_readClause_88, k_X12_readClause_89, k_X12_readClause_91, k_X12_readClause_94, k_X12_readClause_95, k_X12_readClause_96, k_X12_readClause_99, k_X12_readClause_100, k_X12_readClause_101, k_X12_readClause_102, k_X12_readClause_105, k_X12_readClause_106, k_X12_readClause_109, k_X12_readClause_112, k_X12_readClause_115, k_X12_readClause_116, k_X12_readClause_118, k_X12_readClause_121, k_X12_readClause_122, k_X12_readClause_123, k_X12_readClause_126, k_X12_readClause_127, k_X12_readClause_128, k_X12_readClause_131, k_X12_readClause_132, k_X12_readClause_133, k_X12_readClause_134, k_X12_readClause_137, k_X12_readClause_138, k_X12_readClause_139, k_X12_readClause_142, k_X12_readClause_143, k_X12_readClause_144, k_X12_readClause_145, k_X12_readClause_148, k_X12_readClause_151, k_X12_readClause_154, k_X12_readClause_155, k_X12_readClause_157, k_X12_readClause_160, k_X12_readClause_161, k_X12_readClause_162, k_X12_readClause_165, k_X12_readClause_166, k_X12_readClause_167, k_X12_readClause_170, k_X12_readClause_171, k_X12_readClause_172, k_X12_readClause_173, k_X12_readClause_176, k_X12_readClause_177, k_X12_readClause_178, k_X12_readClause_181, k_X12_readClause_182, k_X12_readClause_183, k_X12_readClause_184, k_X12_readClause_187, k_X12_readClause_190, k_X12_readClause_193, k_X12_readClause_194, k_X12_readClause_195, k_X12_readClause_198, k_X12_readClause_199, k_X12_readClause_200, k_X12_readClause_203, k_X12_readClause_204, k_X12_readClause_205, k_X12_readClause_206, k_X12_readClause_209, k_X12_readClause_210, k_X12_readClause_213, k_X12_readClause_214, k_X12_readClause_215, k_X12_readClause_218, k_X12_readClause_221, w_X12_fails_e, w_X12_look_e, w_X12_readItems_e, msk, Mt, MtO, ho_10, ho_9, ho_11, ho_u10, ho_u11, hs, hS, c0, c1, c2, c3, r1, r2, r3, ho_c0, ho_fa]
          repeat' (first | apply And.intro | intro _)
          all_goals first | omega | exact absurd trivial (by assumption) | exact hq | exact ⟨by omega, by omega⟩
def a_X12_isWhole : AC := [(0, vI 0 1), (1, vIstore 1 2), (2, vIload 1 3), (3, vAload 0 4), (4, vGetI 28 32 7), (7, vIcGe 35 10), (10, vAload 0 11), (11, vGetR TT 28 23 8 14), (14, vI 3 15), (15, vIload 1 16), (16, vImul 17), (17, vI 1 18), (18, vIadd 19), (19, vIald TT 20), (20, vAload 0 21), (21, vGetI 28 33 24), (24, vIcLt 29 27), (27, vI 0 28), (28, vZret), (29, vIinc 1 1 32), (32, vGoto 2), (35, vAload 0 36), (36, vGetI 28 31 39), (39, vIfLe 60 42), (42, vAload 0 43), (43, vGetI 28 32 46), (46, vIfLe 60 49), (49, vAload 0 50), (50, vGetI 28 33 53), (53, vIfLe 60 56), (56, vI 1 57), (57, vGoto 61), (60, vI 0 61), (61, vZret)]
theorem k_X12_isWhole_0 : look a_X12_isWhole 0 = vI 0 1 := rfl
theorem k_X12_isWhole_1 : look a_X12_isWhole 1 = vIstore 1 2 := rfl
theorem k_X12_isWhole_2 : look a_X12_isWhole 2 = vIload 1 3 := rfl
theorem k_X12_isWhole_3 : look a_X12_isWhole 3 = vAload 0 4 := rfl
theorem k_X12_isWhole_4 : look a_X12_isWhole 4 = vGetI 28 32 7 := rfl
theorem k_X12_isWhole_7 : look a_X12_isWhole 7 = vIcGe 35 10 := rfl
theorem k_X12_isWhole_10 : look a_X12_isWhole 10 = vAload 0 11 := rfl
theorem k_X12_isWhole_11 : look a_X12_isWhole 11 = vGetR TT 28 23 8 14 := rfl
theorem k_X12_isWhole_14 : look a_X12_isWhole 14 = vI 3 15 := rfl
theorem k_X12_isWhole_15 : look a_X12_isWhole 15 = vIload 1 16 := rfl
theorem k_X12_isWhole_16 : look a_X12_isWhole 16 = vImul 17 := rfl
theorem k_X12_isWhole_17 : look a_X12_isWhole 17 = vI 1 18 := rfl
theorem k_X12_isWhole_18 : look a_X12_isWhole 18 = vIadd 19 := rfl
theorem k_X12_isWhole_19 : look a_X12_isWhole 19 = vIald TT 20 := rfl
theorem k_X12_isWhole_20 : look a_X12_isWhole 20 = vAload 0 21 := rfl
theorem k_X12_isWhole_21 : look a_X12_isWhole 21 = vGetI 28 33 24 := rfl
theorem k_X12_isWhole_24 : look a_X12_isWhole 24 = vIcLt 29 27 := rfl
theorem k_X12_isWhole_27 : look a_X12_isWhole 27 = vI 0 28 := rfl
theorem k_X12_isWhole_28 : look a_X12_isWhole 28 = vZret := rfl
theorem k_X12_isWhole_29 : look a_X12_isWhole 29 = vIinc 1 1 32 := rfl
theorem k_X12_isWhole_32 : look a_X12_isWhole 32 = vGoto 2 := rfl
theorem k_X12_isWhole_35 : look a_X12_isWhole 35 = vAload 0 36 := rfl
theorem k_X12_isWhole_36 : look a_X12_isWhole 36 = vGetI 28 31 39 := rfl
theorem k_X12_isWhole_39 : look a_X12_isWhole 39 = vIfLe 60 42 := rfl
theorem k_X12_isWhole_42 : look a_X12_isWhole 42 = vAload 0 43 := rfl
theorem k_X12_isWhole_43 : look a_X12_isWhole 43 = vGetI 28 32 46 := rfl
theorem k_X12_isWhole_46 : look a_X12_isWhole 46 = vIfLe 60 49 := rfl
theorem k_X12_isWhole_49 : look a_X12_isWhole 49 = vAload 0 50 := rfl
theorem k_X12_isWhole_50 : look a_X12_isWhole 50 = vGetI 28 33 53 := rfl
theorem k_X12_isWhole_53 : look a_X12_isWhole 53 = vIfLe 60 56 := rfl
theorem k_X12_isWhole_56 : look a_X12_isWhole 56 = vI 1 57 := rfl
theorem k_X12_isWhole_57 : look a_X12_isWhole 57 = vGoto 61 := rfl
theorem k_X12_isWhole_60 : look a_X12_isWhole 60 = vI 0 61 := rfl
theorem k_X12_isWhole_61 : look a_X12_isWhole 61 = vZret := rfl
theorem o_X12_isWhole {X : amX} (e1 : XT X = TT) (e2 : XD X = 0) (hB : amB X RX12 cX12_isWhole (some .boolean) 2) : ∀ pc, amOK X pc (look a_X12_isWhole pc) := by
  have hT : amTok (XT X) := e1 ▸ TT_ok
  refine look_ok ?_
  unfold a_X12_isWhole
  refine fc (ok_iconst hB dX12_isWhole_0) ?_
  refine fc (ok_istore_n hB (by decide) dX12_isWhole_1) ?_
  refine fc (ok_iload_n hB dX12_isWhole_2) ?_
  refine fc (ok_aload_n hB dX12_isWhole_3) ?_
  refine fc (ok_getI hB hT fl_X12_263 rfl rfl (Or.inl af_12_32) dX12_isWhole_4) ?_
  refine fc (ok_icmp_ge hB (t := 35) (by decide) dX12_isWhole_7) ?_
  refine fc (ok_aload_n hB dX12_isWhole_10) ?_
  refine fc (okt_getR e1 hB hT fl_X12_52 rfl af_12_23 at_12_23 (by decide) dX12_isWhole_11) ?_
  refine fc (ok_iconst hB dX12_isWhole_14) ?_
  refine fc (ok_iload_n hB dX12_isWhole_15) ?_
  refine fc (ok_imul hB dX12_isWhole_16) ?_
  refine fc (ok_iconst hB dX12_isWhole_17) ?_
  refine fc (ok_iadd hB dX12_isWhole_18) ?_
  refine fc (okt_iaload e1 hB dX12_isWhole_19) ?_
  refine fc (ok_aload_n hB dX12_isWhole_20) ?_
  refine fc (ok_getI hB hT fl_X12_266 rfl rfl (Or.inl af_12_33) dX12_isWhole_21) ?_
  refine fc (ok_icmp_lt hB (t := 29) (by decide) dX12_isWhole_24) ?_
  refine fc (ok_iconst hB dX12_isWhole_27) ?_
  refine fc (ok_zret hB dX12_isWhole_28) ?_
  refine fc (ok_iinc hB (by decide) dX12_isWhole_29) ?_
  refine fc (ok_goto hB (t := 2) (by decide) dX12_isWhole_32) ?_
  refine fc (ok_aload_n hB dX12_isWhole_35) ?_
  refine fc (ok_getI hB hT fl_X12_260 rfl rfl (Or.inl af_12_31) dX12_isWhole_36) ?_
  refine fc (ok_if_le hB (t := 60) (by decide) dX12_isWhole_39) ?_
  refine fc (ok_aload_n hB dX12_isWhole_42) ?_
  refine fc (ok_getI hB hT fl_X12_263 rfl rfl (Or.inl af_12_32) dX12_isWhole_43) ?_
  refine fc (ok_if_le hB (t := 60) (by decide) dX12_isWhole_46) ?_
  refine fc (ok_aload_n hB dX12_isWhole_49) ?_
  refine fc (ok_getI hB hT fl_X12_266 rfl rfl (Or.inl af_12_33) dX12_isWhole_50) ?_
  refine fc (ok_if_le hB (t := 60) (by decide) dX12_isWhole_53) ?_
  refine fc (ok_iconst hB dX12_isWhole_56) ?_
  refine fc (ok_goto hB (t := 61) (by decide) dX12_isWhole_57) ?_
  refine fc (ok_iconst hB dX12_isWhole_60) ?_
  refine fc (ok_zret hB dX12_isWhole_61) ?_
  exact fn
def inv_mwh (σ : Mem) (c v : Int → Int) (n pc : Nat) (ls st : List AV) (σ' : Mem) : Prop := pc = 2 ∧ st = [] ∧ σ' = σ ∧ ∃ k : Nat, ls = [(28, 5000), (0, (k : Int))] ∧ (k : Int) + n = c 2 ∧ hTick v (c 3) k
def w_X12_isWhole : WP := fun av σ Q => av = [(28, 5000)] ∧ (∃ (m : Mem) (p f : Int) (c v : Int → Int), σ = hoN m p f c v ∧ cntB c ∧ rowB v ∧ (hWhole c v → Q (0, 1) σ) ∧ (¬ hWhole c v → Q (0, 0) σ))
theorem w_X12_isWhole_e  (σ : Mem) (Q : AV → Mem → Prop) : w_X12_isWhole [(28, 5000)] σ Q = (∃ (m : Mem) (p f : Int) (c v : Int → Int), σ = hoN m p f c v ∧ cntB c ∧ rowB v ∧ (hWhole c v → Q (0, 1) σ) ∧ (¬ hWhole c v → Q (0, 0) σ)) := by
  apply propext; constructor
  · rintro ⟨h9, hb9⟩; cases h9; exact hb9
  · intro hb9; exact ⟨rfl, hb9⟩

set_option maxRecDepth 100000 in
set_option maxHeartbeats 4000000 in
theorem s_X12_isWhole : ∀ av σ Q, w_X12_isWhole av σ Q → amCall 0 0 0 TT yX12_isWhole cX12_isWhole 2 (some .boolean) av σ Q := by
  rintro av σ Q ⟨rfl, m, p, f, c, v, hσ, hc, hv, h1, h2⟩
  have g1 := hc 1 (by decide) (by decide)
  have g2 := hc 2 (by decide) (by decide)
  have g3 := hc 3 (by decide) (by decide)
  have r1 : σ 5000 31 = c 1 := by rw [hσ]; exact ho_cc m p f c v (by decide)
  have r2 : σ 5000 32 = c 2 := by rw [hσ]; exact ho_cc m p f c v (by decide)
  have r3 : σ 5000 33 = c 3 := by rw [hσ]; exact ho_cc m p f c v (by decide)
  have rc : ∀ k : Int, 0 ≤ k → k < 6 → σ 5010 (3 * k + 1) = v ((5 + k) * 4 + 1) := fun k a b => by
    rw [hσ]; unfold hoN
    have e : slo 5010 (3 * k + 1) = (5 + k) * 4 + 1 := by
      unfold slo; rw [if_neg (by omega), if_neg (by omega), if_pos (by omega)]; omega
    rw [e, if_pos (by omega)]
  unfold hWhole at h1 h2
  refine am_m [2] (inv_mwh σ c v) (own := RX12) (A := look a_X12_isWhole) (fun X e1 e2 hB => o_X12_isWhole e1 e2 hB) rfl (by decide +kernel) rfl rfl ?_ ⟨60, ?_⟩ (w := 2)
  · rintro n pc ls st σ' ⟨rfl, rfl, rfl, k, rfl, hk, hh⟩
    refine ⟨60, ?_⟩
    by_cases cc : (k : Int) < c 2
    · have rk := rc k (by omega) (by omega)
      have vb := hv ((5 + (k : Int)) * 4 + 1) (by omega) (by omega)
      have i9 : v ((5 + (k : Int)) * 4 + 1) < c 3 → ∃ k', k' < n ∧ inv_mwh σ' c v k' 2 [(28, 5000), (0, (k : Int) + 1)] [] σ' := fun e => ⟨n - 1, by omega, rfl, rfl, rfl, k + 1, rfl, by omega, ⟨hh, e⟩⟩
      have q9 : ¬ v ((5 + (k : Int)) * 4 + 1) < c 3 → Q (0, 0) σ' := fun e => h2 (fun g => e (hTick_le _ _ _ (k + 1) (by omega) g.2.2.2).2)
      simp only [↓reduceIte, inR_0, inR_1, inR_m, vSw2_e, swP_n, swP_c, vI_e, vL_e, vNull_e, vIload_e, vLload_e, vAload_e, vIstore_e, vLstore_e, vAstore_e, vIinc_e, vIadd_e, vIsub_e, vImul_e, vIand_e, vIor_e, vIxor_e, vIshl_e, vIshr_e, vIushr_e, vIdiv_e, vIrem_e, vLadd_e, vLsub_e, vLmul_e, vLand_e, vLor_e, vLxor_e, vLdiv_e, vLrem_e, vLushr_e, vLshl_e, vLcmp_e, vIneg_e, vI2l_e, vL2i_e, vI2b_e, vI2c_e, vDup_e, vPop_e, vDup2_e, vGoto_e, vIcEq_e, vIfEq_e, vIcNe_e, vIfNe_e, vIcLt_e, vIfLt_e, vIcGe_e, vIfGe_e, vIcGt_e, vIfGt_e, vIcLe_e, vIfLe_e, vNonnull_e, vSw_e, vGetI_e, vGetL_e, vGetR_e, vPutI_e, vPutZ_e, vPutL_e, vPutR_e, vIald_e, vIald_s, vLald_e, vBald_e, vBald_s, vAald_e, vIast_e, vLast_e, vBast_e, vAast_e, vAlen_e8, vAlen_e9, vAlen_e10, vAlen_e11, vAlen_e5, vAlen_e3, vGets_e, vCompact_e, vLdcS_e, vIret_e, vZret_e, vCret_e, vBret_e, vLret_e, vVret_e, vAret_e, vCallM_e0, vCallMV_e0, vCallS_e0, vCallSV_e0, vCallM_e1, vCallMV_e1, vCallS_e1, vCallSV_e1, vCallM_e2, vCallMV_e2, vCallS_e2, vCallSV_e2, vCallM_e3, vCallMV_e3, vCallS_e3, vCallSV_e3, vCallM_e4, vCallMV_e4, vCallS_e4, vCallSV_e4, vCallM_e5, vCallMV_e5, vCallS_e5, vCallSV_e5, vCallM_e6, vCallMV_e6, vCallS_e6, vCallSV_e6, vCallM_e7, vCallMV_e7, vCallS_e7, vCallSV_e7, vBad_e, vStrVal_e, vStrCod_e, vForm_e, vCallT_e0, vCallT_e1, vCallT_e2, vCopy_e, rf_0_0, rf_0_1, rf_0_2, rf_0_3, rf_0_4, rf_0_7, rf_0_10, rf_0_11, rf_0_12, rf_0_13, rf_0_14, rf_0_15, rf_0_16, rf_1_0, rf_3_0, rf_3_1, rf_6_0, rf_6_1, rf_9_0, rf_9_1, rf_9_3, rf_13_0, rf_13_1, rf_13_2, rf_16_0, rf_16_1, rf_16_2, rf_16_3, rf_21_0, rf_21_1, rf_21_2, rf_21_3, rf_26_0, rf_26_1, rf_26_2, rf_26_3, rf_26_4, rf_26_5, rf_26_6, rf_31_0, rf_31_2, rf_31_5, rf_31_6, rf_36_0, rf_36_1, rf_36_2, rf_36_3, rf_39_0, rf_39_1, rf_39_2, rf_41_0, rf_41_1, rf_41_2, rf_41_3, rf_5000_1, rf_5000_2, rf_5000_3, rf_5000_4, rf_5000_5, rf_5000_15, rf_5000_16, rf_5000_18, rf_5000_19, rf_5000_20, rf_5000_21, rf_5000_22, rf_5000_23, rf_5000_24, rf_5000_25, rf_5000_26, rf_5000_27, rf_5000_36, rf_5000_37, rf_5000_40, rf_5000_41, rf_5000_42, rf_5000_43, rf_5000_44, rf_5000_45, rf_5000_47, rf_5000_52, rf_5000_54, rf_5000_55, rf_100_0, rf_100_1, rf_103_0, rf_103_1, rf_106_0, rf_106_1, rf_109_0, rf_109_1, al_2, al_4, al_5, al_7, al_8, al_10, al_11, al_12, al_14, al_15, al_17, al_18, al_19, al_20, al_22, al_23, al_24, al_25, al_27, al_28, al_29, al_30, al_32, al_33, al_34, al_35, al_37, al_38, al_40, al_42, al_5001, al_5002, al_5003, al_5004, al_5005, al_5006, al_5007, al_5008, al_5009, al_5010, al_5011, al_5012, al_5013, al_5014, al_5015, al_5016, al_5017, al_5018, al_5019, al_5020, al_5021, al_5022, al_5023, al_5024, al_5025, al_5026, al_9000, al_101, al_102, al_104, al_105, al_107, al_108, al_110, al_111, vcs_e, lg_c0, lg_cs, lg_nil, set_c0, set_cs, okst_0, okst_s, acok_n, acok_c, List.contains_nil, List.contains_cons, Bool.or_false, Bool.false_or, Bool.false_eq_true, if_false, if_true, ite_self, ne_eq, true_and, and_true, not_false_eq_true, not_true_eq_false, false_imp_iff, true_imp_iff, Nat.ble_eq, Bool.and_eq_true, reduceCtorEq, or_false, false_or, or_true, true_or, false_and, and_false, and_self, Int.reduceLE, Int.reduceAdd, Int.reduceSub, Int.reduceMul, Int.reduceNeg, Int.reduceLT, Int.reduceEq, Int.reduceNe, Nat.reduceBEq, Nat.reduceBNe, Nat.reduceEqDiff, amCmp_in, amCmp_lt, amCmp_le, amCmp_gt, amCmp_ge, amCmp_eq, amCmp_ne, Nat.reduceLeDiff, Nat.reduceSub, Bool.and_true, Bool.true_and, Bool.and_self, Bool.or_true, Bool.true_or, isRf_3, isRf_4, isRf_5, isRf_8, isRf_9, isRf_10, isRf_11, isRf_15, isRf_16, isRf_17, isRf_18, isRf_19, isRf_20, isRf_21, isRf_22, isRf_23, isRf_24, isRf_25, isRf_26, isRf_27, isRf_28, k_X12_isWhole_0, k_X12_isWhole_1, k_X12_isWhole_2, k_X12_isWhole_3, k_X12_isWhole_4, k_X12_isWhole_7, k_X12_isWhole_10, k_X12_isWhole_11, k_X12_isWhole_14, k_X12_isWhole_15, k_X12_isWhole_16, k_X12_isWhole_17, k_X12_isWhole_18, k_X12_isWhole_19, k_X12_isWhole_20, k_X12_isWhole_21, k_X12_isWhole_24, k_X12_isWhole_27, k_X12_isWhole_28, k_X12_isWhole_29, k_X12_isWhole_32, k_X12_isWhole_35, k_X12_isWhole_36, k_X12_isWhole_39, k_X12_isWhole_42, k_X12_isWhole_43, k_X12_isWhole_46, k_X12_isWhole_49, k_X12_isWhole_50, k_X12_isWhole_53, k_X12_isWhole_56, k_X12_isWhole_57, k_X12_isWhole_60, k_X12_isWhole_61, r2, r3, rk]
      repeat' (first | apply And.intro | intro _)
      all_goals first | omega | exact absurd trivial (by assumption) | exact i9 (by omega) | exact q9 (by omega)
    · have ek : (c 2).toNat = k := by omega
      rw [ek] at h1 h2
      have q8 : c 1 ≠ 0 → c 2 ≠ 0 → c 3 ≠ 0 → Q (0, 1) σ' := fun a b d => h1 ⟨a, b, d, hh⟩
      have q9 : ¬ (c 1 ≠ 0 ∧ c 2 ≠ 0 ∧ c 3 ≠ 0) → Q (0, 0) σ' := fun a => h2 (fun g => a ⟨g.1, g.2.1, g.2.2.1⟩)
      simp only [↓reduceIte, inR_0, inR_1, inR_m, vSw2_e, swP_n, swP_c, vI_e, vL_e, vNull_e, vIload_e, vLload_e, vAload_e, vIstore_e, vLstore_e, vAstore_e, vIinc_e, vIadd_e, vIsub_e, vImul_e, vIand_e, vIor_e, vIxor_e, vIshl_e, vIshr_e, vIushr_e, vIdiv_e, vIrem_e, vLadd_e, vLsub_e, vLmul_e, vLand_e, vLor_e, vLxor_e, vLdiv_e, vLrem_e, vLushr_e, vLshl_e, vLcmp_e, vIneg_e, vI2l_e, vL2i_e, vI2b_e, vI2c_e, vDup_e, vPop_e, vDup2_e, vGoto_e, vIcEq_e, vIfEq_e, vIcNe_e, vIfNe_e, vIcLt_e, vIfLt_e, vIcGe_e, vIfGe_e, vIcGt_e, vIfGt_e, vIcLe_e, vIfLe_e, vNonnull_e, vSw_e, vGetI_e, vGetL_e, vGetR_e, vPutI_e, vPutZ_e, vPutL_e, vPutR_e, vIald_e, vIald_s, vLald_e, vBald_e, vBald_s, vAald_e, vIast_e, vLast_e, vBast_e, vAast_e, vAlen_e8, vAlen_e9, vAlen_e10, vAlen_e11, vAlen_e5, vAlen_e3, vGets_e, vCompact_e, vLdcS_e, vIret_e, vZret_e, vCret_e, vBret_e, vLret_e, vVret_e, vAret_e, vCallM_e0, vCallMV_e0, vCallS_e0, vCallSV_e0, vCallM_e1, vCallMV_e1, vCallS_e1, vCallSV_e1, vCallM_e2, vCallMV_e2, vCallS_e2, vCallSV_e2, vCallM_e3, vCallMV_e3, vCallS_e3, vCallSV_e3, vCallM_e4, vCallMV_e4, vCallS_e4, vCallSV_e4, vCallM_e5, vCallMV_e5, vCallS_e5, vCallSV_e5, vCallM_e6, vCallMV_e6, vCallS_e6, vCallSV_e6, vCallM_e7, vCallMV_e7, vCallS_e7, vCallSV_e7, vBad_e, vStrVal_e, vStrCod_e, vForm_e, vCallT_e0, vCallT_e1, vCallT_e2, vCopy_e, rf_0_0, rf_0_1, rf_0_2, rf_0_3, rf_0_4, rf_0_7, rf_0_10, rf_0_11, rf_0_12, rf_0_13, rf_0_14, rf_0_15, rf_0_16, rf_1_0, rf_3_0, rf_3_1, rf_6_0, rf_6_1, rf_9_0, rf_9_1, rf_9_3, rf_13_0, rf_13_1, rf_13_2, rf_16_0, rf_16_1, rf_16_2, rf_16_3, rf_21_0, rf_21_1, rf_21_2, rf_21_3, rf_26_0, rf_26_1, rf_26_2, rf_26_3, rf_26_4, rf_26_5, rf_26_6, rf_31_0, rf_31_2, rf_31_5, rf_31_6, rf_36_0, rf_36_1, rf_36_2, rf_36_3, rf_39_0, rf_39_1, rf_39_2, rf_41_0, rf_41_1, rf_41_2, rf_41_3, rf_5000_1, rf_5000_2, rf_5000_3, rf_5000_4, rf_5000_5, rf_5000_15, rf_5000_16, rf_5000_18, rf_5000_19, rf_5000_20, rf_5000_21, rf_5000_22, rf_5000_23, rf_5000_24, rf_5000_25, rf_5000_26, rf_5000_27, rf_5000_36, rf_5000_37, rf_5000_40, rf_5000_41, rf_5000_42, rf_5000_43, rf_5000_44, rf_5000_45, rf_5000_47, rf_5000_52, rf_5000_54, rf_5000_55, rf_100_0, rf_100_1, rf_103_0, rf_103_1, rf_106_0, rf_106_1, rf_109_0, rf_109_1, al_2, al_4, al_5, al_7, al_8, al_10, al_11, al_12, al_14, al_15, al_17, al_18, al_19, al_20, al_22, al_23, al_24, al_25, al_27, al_28, al_29, al_30, al_32, al_33, al_34, al_35, al_37, al_38, al_40, al_42, al_5001, al_5002, al_5003, al_5004, al_5005, al_5006, al_5007, al_5008, al_5009, al_5010, al_5011, al_5012, al_5013, al_5014, al_5015, al_5016, al_5017, al_5018, al_5019, al_5020, al_5021, al_5022, al_5023, al_5024, al_5025, al_5026, al_9000, al_101, al_102, al_104, al_105, al_107, al_108, al_110, al_111, vcs_e, lg_c0, lg_cs, lg_nil, set_c0, set_cs, okst_0, okst_s, acok_n, acok_c, List.contains_nil, List.contains_cons, Bool.or_false, Bool.false_or, Bool.false_eq_true, if_false, if_true, ite_self, ne_eq, true_and, and_true, not_false_eq_true, not_true_eq_false, false_imp_iff, true_imp_iff, Nat.ble_eq, Bool.and_eq_true, reduceCtorEq, or_false, false_or, or_true, true_or, false_and, and_false, and_self, Int.reduceLE, Int.reduceAdd, Int.reduceSub, Int.reduceMul, Int.reduceNeg, Int.reduceLT, Int.reduceEq, Int.reduceNe, Nat.reduceBEq, Nat.reduceBNe, Nat.reduceEqDiff, amCmp_in, amCmp_lt, amCmp_le, amCmp_gt, amCmp_ge, amCmp_eq, amCmp_ne, Nat.reduceLeDiff, Nat.reduceSub, Bool.and_true, Bool.true_and, Bool.and_self, Bool.or_true, Bool.true_or, isRf_3, isRf_4, isRf_5, isRf_8, isRf_9, isRf_10, isRf_11, isRf_15, isRf_16, isRf_17, isRf_18, isRf_19, isRf_20, isRf_21, isRf_22, isRf_23, isRf_24, isRf_25, isRf_26, isRf_27, isRf_28, k_X12_isWhole_0, k_X12_isWhole_1, k_X12_isWhole_2, k_X12_isWhole_3, k_X12_isWhole_4, k_X12_isWhole_7, k_X12_isWhole_10, k_X12_isWhole_11, k_X12_isWhole_14, k_X12_isWhole_15, k_X12_isWhole_16, k_X12_isWhole_17, k_X12_isWhole_18, k_X12_isWhole_19, k_X12_isWhole_20, k_X12_isWhole_21, k_X12_isWhole_24, k_X12_isWhole_27, k_X12_isWhole_28, k_X12_isWhole_29, k_X12_isWhole_32, k_X12_isWhole_35, k_X12_isWhole_36, k_X12_isWhole_39, k_X12_isWhole_42, k_X12_isWhole_43, k_X12_isWhole_46, k_X12_isWhole_49, k_X12_isWhole_50, k_X12_isWhole_53, k_X12_isWhole_56, k_X12_isWhole_57, k_X12_isWhole_60, k_X12_isWhole_61, r1, r2, r3]
      repeat' (first | apply And.intro | intro _)
      all_goals first | omega | exact absurd trivial (by assumption) | exact q8 (by omega) (by omega) (by omega) | exact q9 (by omega)
  · change vcs _ _ _ _ 60 0 [(28, 5000), (6, 0)] [] σ
    simp only [↓reduceIte, inR_0, inR_1, inR_m, vSw2_e, swP_n, swP_c, vI_e, vL_e, vNull_e, vIload_e, vLload_e, vAload_e, vIstore_e, vLstore_e, vAstore_e, vIinc_e, vIadd_e, vIsub_e, vImul_e, vIand_e, vIor_e, vIxor_e, vIshl_e, vIshr_e, vIushr_e, vIdiv_e, vIrem_e, vLadd_e, vLsub_e, vLmul_e, vLand_e, vLor_e, vLxor_e, vLdiv_e, vLrem_e, vLushr_e, vLshl_e, vLcmp_e, vIneg_e, vI2l_e, vL2i_e, vI2b_e, vI2c_e, vDup_e, vPop_e, vDup2_e, vGoto_e, vIcEq_e, vIfEq_e, vIcNe_e, vIfNe_e, vIcLt_e, vIfLt_e, vIcGe_e, vIfGe_e, vIcGt_e, vIfGt_e, vIcLe_e, vIfLe_e, vNonnull_e, vSw_e, vGetI_e, vGetL_e, vGetR_e, vPutI_e, vPutZ_e, vPutL_e, vPutR_e, vIald_e, vIald_s, vLald_e, vBald_e, vBald_s, vAald_e, vIast_e, vLast_e, vBast_e, vAast_e, vAlen_e8, vAlen_e9, vAlen_e10, vAlen_e11, vAlen_e5, vAlen_e3, vGets_e, vCompact_e, vLdcS_e, vIret_e, vZret_e, vCret_e, vBret_e, vLret_e, vVret_e, vAret_e, vCallM_e0, vCallMV_e0, vCallS_e0, vCallSV_e0, vCallM_e1, vCallMV_e1, vCallS_e1, vCallSV_e1, vCallM_e2, vCallMV_e2, vCallS_e2, vCallSV_e2, vCallM_e3, vCallMV_e3, vCallS_e3, vCallSV_e3, vCallM_e4, vCallMV_e4, vCallS_e4, vCallSV_e4, vCallM_e5, vCallMV_e5, vCallS_e5, vCallSV_e5, vCallM_e6, vCallMV_e6, vCallS_e6, vCallSV_e6, vCallM_e7, vCallMV_e7, vCallS_e7, vCallSV_e7, vBad_e, vStrVal_e, vStrCod_e, vForm_e, vCallT_e0, vCallT_e1, vCallT_e2, vCopy_e, rf_0_0, rf_0_1, rf_0_2, rf_0_3, rf_0_4, rf_0_7, rf_0_10, rf_0_11, rf_0_12, rf_0_13, rf_0_14, rf_0_15, rf_0_16, rf_1_0, rf_3_0, rf_3_1, rf_6_0, rf_6_1, rf_9_0, rf_9_1, rf_9_3, rf_13_0, rf_13_1, rf_13_2, rf_16_0, rf_16_1, rf_16_2, rf_16_3, rf_21_0, rf_21_1, rf_21_2, rf_21_3, rf_26_0, rf_26_1, rf_26_2, rf_26_3, rf_26_4, rf_26_5, rf_26_6, rf_31_0, rf_31_2, rf_31_5, rf_31_6, rf_36_0, rf_36_1, rf_36_2, rf_36_3, rf_39_0, rf_39_1, rf_39_2, rf_41_0, rf_41_1, rf_41_2, rf_41_3, rf_5000_1, rf_5000_2, rf_5000_3, rf_5000_4, rf_5000_5, rf_5000_15, rf_5000_16, rf_5000_18, rf_5000_19, rf_5000_20, rf_5000_21, rf_5000_22, rf_5000_23, rf_5000_24, rf_5000_25, rf_5000_26, rf_5000_27, rf_5000_36, rf_5000_37, rf_5000_40, rf_5000_41, rf_5000_42, rf_5000_43, rf_5000_44, rf_5000_45, rf_5000_47, rf_5000_52, rf_5000_54, rf_5000_55, rf_100_0, rf_100_1, rf_103_0, rf_103_1, rf_106_0, rf_106_1, rf_109_0, rf_109_1, al_2, al_4, al_5, al_7, al_8, al_10, al_11, al_12, al_14, al_15, al_17, al_18, al_19, al_20, al_22, al_23, al_24, al_25, al_27, al_28, al_29, al_30, al_32, al_33, al_34, al_35, al_37, al_38, al_40, al_42, al_5001, al_5002, al_5003, al_5004, al_5005, al_5006, al_5007, al_5008, al_5009, al_5010, al_5011, al_5012, al_5013, al_5014, al_5015, al_5016, al_5017, al_5018, al_5019, al_5020, al_5021, al_5022, al_5023, al_5024, al_5025, al_5026, al_9000, al_101, al_102, al_104, al_105, al_107, al_108, al_110, al_111, vcs_e, lg_c0, lg_cs, lg_nil, set_c0, set_cs, okst_0, okst_s, acok_n, acok_c, List.contains_nil, List.contains_cons, Bool.or_false, Bool.false_or, Bool.false_eq_true, if_false, if_true, ite_self, ne_eq, true_and, and_true, not_false_eq_true, not_true_eq_false, false_imp_iff, true_imp_iff, Nat.ble_eq, Bool.and_eq_true, reduceCtorEq, or_false, false_or, or_true, true_or, false_and, and_false, and_self, Int.reduceLE, Int.reduceAdd, Int.reduceSub, Int.reduceMul, Int.reduceNeg, Int.reduceLT, Int.reduceEq, Int.reduceNe, Nat.reduceBEq, Nat.reduceBNe, Nat.reduceEqDiff, amCmp_in, amCmp_lt, amCmp_le, amCmp_gt, amCmp_ge, amCmp_eq, amCmp_ne, Nat.reduceLeDiff, Nat.reduceSub, Bool.and_true, Bool.true_and, Bool.and_self, Bool.or_true, Bool.true_or, isRf_3, isRf_4, isRf_5, isRf_8, isRf_9, isRf_10, isRf_11, isRf_15, isRf_16, isRf_17, isRf_18, isRf_19, isRf_20, isRf_21, isRf_22, isRf_23, isRf_24, isRf_25, isRf_26, isRf_27, isRf_28, k_X12_isWhole_0, k_X12_isWhole_1, k_X12_isWhole_2, k_X12_isWhole_3, k_X12_isWhole_4, k_X12_isWhole_7, k_X12_isWhole_10, k_X12_isWhole_11, k_X12_isWhole_14, k_X12_isWhole_15, k_X12_isWhole_16, k_X12_isWhole_17, k_X12_isWhole_18, k_X12_isWhole_19, k_X12_isWhole_20, k_X12_isWhole_21, k_X12_isWhole_24, k_X12_isWhole_27, k_X12_isWhole_28, k_X12_isWhole_29, k_X12_isWhole_32, k_X12_isWhole_35, k_X12_isWhole_36, k_X12_isWhole_39, k_X12_isWhole_42, k_X12_isWhole_43, k_X12_isWhole_46, k_X12_isWhole_49, k_X12_isWhole_50, k_X12_isWhole_53, k_X12_isWhole_56, k_X12_isWhole_57, k_X12_isWhole_60, k_X12_isWhole_61]
    exact ⟨(c 2).toNat, rfl, rfl, rfl, 0, rfl, by omega, trivial⟩
/-! the reference reads a HOUSE -/
def cof (m : Mem) (k : Int) : Int := if k = 0 then m 5000 35 else m 5000 (30 + k)
def vof (m : Mem) (s : Int) : Int := if s < 2 then m 5006 s else if s < 4 then 0 else if s < 20 then m 5008 (s - 4) else if s < 44 then (if s % 4 = 3 then 0 else m 5010 (3 * ((s - 20) / 4) + s % 4)) else if s % 4 = 0 then m 5012 ((s - 44) / 4) else 0
theorem vof_slo (m : Mem) {b j : Int} (h : 0 ≤ slo b j) : vof m (slo b j) = m b j := by
  by_cases h1 : b = 5006 ∧ 0 ≤ j ∧ j < 2
  · have e : slo b j = j := by unfold slo; rw [if_pos h1]
    rw [e, h1.1]; unfold vof; rw [if_pos (by omega)]
  · by_cases h2 : b = 5008 ∧ 0 ≤ j ∧ j < 16
    · have e : slo b j = 4 + j := by unfold slo; rw [if_neg h1, if_pos h2]
      rw [e, h2.1]; unfold vof; rw [if_neg (by omega), if_neg (by omega), if_pos (by omega)]; congr 1; omega
    · by_cases h3 : b = 5010 ∧ 0 ≤ j ∧ j < 18
      · have e : slo b j = (5 + j / 3) * 4 + j % 3 := by unfold slo; rw [if_neg h1, if_neg h2, if_pos h3]
        rw [e, h3.1]; unfold vof; rw [if_neg (by omega), if_neg (by omega), if_neg (by omega), if_pos (by omega), if_neg (by omega)]; congr 1; omega
      · by_cases h4 : b = 5012 ∧ 0 ≤ j ∧ j < 6
        · have e : slo b j = (11 + j) * 4 := by unfold slo; rw [if_neg h1, if_neg h2, if_neg h3, if_pos h4]
          rw [e, h4.1]; unfold vof; rw [if_neg (by omega), if_neg (by omega), if_neg (by omega), if_neg (by omega), if_pos (by omega)]; congr 1; omega
        · have e : slo b j = -1 := by unfold slo; rw [if_neg h1, if_neg h2, if_neg h3, if_neg h4]
          omega
theorem ho_id {m : Mem} {p f : Int} (h1 : m 5000 10 = p) (h2 : m 5000 11 = f) : hoN m p f (cof m) (vof m) = m := by
  funext b j; unfold hoN
  by_cases h : 0 ≤ slo b j
  · rw [if_pos h, vof_slo m h]
  · rw [if_neg h]
    by_cases h3 : b = 5000 ∧ 31 ≤ j ∧ j ≤ 33
    · rw [if_pos h3, h3.1]; unfold cof; rw [if_neg (by omega)]; congr 1; omega
    · rw [if_neg h3]
      by_cases h4 : b = 5000 ∧ j = 35
      · rw [if_pos h4, h4.1, h4.2]; unfold cof; rw [if_pos rfl]
      · rw [if_neg h4, ← h1, ← h2, rd_id]
theorem ho_cg {m : Mem} {p f : Int} {c c' v : Int → Int} (h : ∀ k, 0 ≤ k → k < 4 → c' k = c k) : hoN m p f c' v = hoN m p f c v := by
  funext b j; unfold hoN
  by_cases h1 : 0 ≤ slo b j
  · rw [if_pos h1, if_pos h1]
  · rw [if_neg h1, if_neg h1]
    by_cases h3 : b = 5000 ∧ 31 ≤ j ∧ j ≤ 33
    · rw [if_pos h3, if_pos h3, h _ (by omega) (by omega)]
    · rw [if_neg h3, if_neg h3, h 0 (by decide) (by decide)]
theorem vof_ho {m : Mem} {p f : Int} {c v : Int → Int} (h : rowB v) : rowB (vof (hoN m p f c v)) := by
  have key : ∀ b j, 0 ≤ slo b j → hoN m p f c v b j = v (slo b j) := fun b j g => by unfold hoN; rw [if_pos g]
  intro s s0 s1
  unfold vof
  by_cases h1 : s < 2
  · rw [if_pos h1]
    have e : slo 5006 s = s := by unfold slo; rw [if_pos ⟨rfl, s0, h1⟩]
    rw [key _ _ (by omega), e]; exact h s s0 s1
  · rw [if_neg h1]
    by_cases h2 : s < 4
    · rw [if_pos h2]; omega
    · rw [if_neg h2]
      by_cases h3 : s < 20
      · rw [if_pos h3]
        have e : slo 5008 (s - 4) = s := by unfold slo; rw [if_neg (by omega), if_pos ⟨rfl, by omega, by omega⟩]; omega
        rw [key _ _ (by omega), e]; exact h s s0 s1
      · rw [if_neg h3]
        by_cases h4 : s < 44
        · rw [if_pos h4]
          by_cases h5 : s % 4 = 3
          · rw [if_pos h5]; omega
          · rw [if_neg h5]
            have e : slo 5010 (3 * ((s - 20) / 4) + s % 4) = s := by unfold slo; rw [if_neg (by omega), if_neg (by omega), if_pos ⟨rfl, by omega, by omega⟩]; omega
            rw [key _ _ (by omega), e]; exact h s s0 s1
        · rw [if_neg h4]
          by_cases h5 : s % 4 = 0
          · rw [if_pos h5]
            have e : slo 5012 ((s - 44) / 4) = s := by unfold slo; rw [if_neg (by omega), if_neg (by omega), if_neg (by omega), if_pos ⟨rfl, by omega, by omega⟩]; omega
            rw [key _ _ (by omega), e]; exact h s s0 s1
          · rw [if_neg h5]; omega
/-- what reading a HOUSE may change -/
def HRF (σ τ : Mem) : Prop := (∀ b, b ≠ 5000 → b ≠ 5006 → b ≠ 5008 → b ≠ 5010 → b ≠ 5012 → τ b = σ b) ∧ ∀ k, k ≠ 5 → (k < 8 ∨ 12 < k) → (k < 31 ∨ 33 < k) → k ≠ 35 → τ 5000 k = σ 5000 k
theorem HRF_ho (σ : Mem) (a b n p f : Int) (c v : Int → Int) : HRF σ (hoN (stsM σ a b n) p f c v) := by
  have eo : ∀ c, c ≠ 5000 → stsM σ a b n c = σ c := fun c hc => by unfold stsM; simp only [up_na _ hc]
  refine ⟨fun x h1 h2 h3 h4 h5 => ?_, fun k h1 h2 h3 h4 => ?_⟩
  · rw [ho_o _ _ _ _ _ h1 h2 h3 h4 h5, eo x h1]
  · rw [ho_k _ _ _ _ _ ⟨h3, h4⟩, rd_o _ _ _ _ (by omega)]
    unfold stsM
    rw [up_nj _ (by omega), up_nj _ (by omega), up_nj _ (by omega), up_nj _ (by omega), up_nj _ (by omega)]
theorem mtx_nn {m : Mem} (h : txOk m) {i : Int} (h0 : 0 ≤ i) (h1 : i ≤ m 5000 9) (e : mtx m i = -1) : i = m 5000 9 := by
  by_cases c : i < m 5000 9
  · have := (mtx_in h h0 c).1; omega
  · omega
theorem vof_c {m m' : Mem} (h1 : m' 5006 = m 5006) (h2 : m' 5008 = m 5008) (h3 : m' 5010 = m 5010) (h4 : m' 5012 = m 5012) : vof m' = vof m := by
  funext s; unfold vof; rw [h1, h2, h3, h4]
theorem ho_sl (m : Mem) (p f : Int) (c v : Int → Int) {b j : Int} (h : 0 ≤ slo b j) : hoN m p f c v b j = v (slo b j) := by unfold hoN; rw [if_pos h]
theorem hIt_e {t : Int → Int} {n kind row : Int} (ht : ∀ i, n ≤ i → t i = -1) : ∀ (f : Nat) (told p : Int) (v : Int → Int), 0 ≤ p → p ≤ n → (hIt t n kind row f told p v).1 = -1 → (t (sk t n (hIt t n kind row f told p v).2.1) = -1 ∨ t (sk t n (hIt t n kind row f told p v).2.1) = 59) := by
  intro f
  induction f with
  | zero => intro told p v h0 h1 h; unfold hIt at h; dsimp only at h; omega
  | succ f ih =>
    intro told p v h0 h1 h
    have s1 := sk_b t h1
    have ss := sk_sk t h1
    unfold hIt at h ⊢
    by_cases c1 : t (sk t n p) = -1 ∨ t (sk t n p) = 59
    · rw [if_pos c1]; dsimp only; rw [ss]; exact c1
    · rw [if_neg c1] at h ⊢
      have s2 := sk_lt ht (q := sk t n p) (by omega)
      have s3 := sk_b t (n := n) (p := sk t n p + 1) (by omega)
      have s4 := ndig_le ht 2 (sk t n (sk t n p + 1)) (by omega)
      have s5 := ndig_bd t 2 (sk t n (sk t n p + 1))
      by_cases c2 : itemF kind (t (sk t n p)) = -1 ∨ told / (2 ^ (itemF kind (t (sk t n p))).toNat) % 2 = 1
      · rw [if_pos c2] at h; dsimp only at h; omega
      · rw [if_neg c2] at h ⊢
        by_cases c3 : ndig t (sk t n (sk t n p + 1)) 2 = 0 ∨ (48 ≤ t (sk t n (sk t n p + 1) + ndig t (sk t n (sk t n p + 1)) 2) ∧ t (sk t n (sk t n p + 1) + ndig t (sk t n (sk t n p + 1)) 2) ≤ 57)
        · rw [if_pos c3] at h; dsimp only at h; omega
        · rw [if_neg c3] at h ⊢
          by_cases c4 : fitF kind (itemF kind (t (sk t n p))) (nval t (sk t n (sk t n p + 1)) 0 2)
          · rw [if_pos c4] at h ⊢
            exact ih _ _ _ (by omega) (by omega) h
          · rw [if_neg c4] at h; dsimp only at h; omega

theorem wd_1515 : Cond.methodLink RX12 281 yX12_readClause ∈ TBL := tb_tab (List.mem_of_getElem? (i := 1515) (by decide +kernel)) rfl
theorem wd_1518 : Cond.code yX12_readClause cX12_readClause 3 (none) ∈ TBL := tb_tab (List.mem_of_getElem? (i := 1518) (by decide +kernel)) rfl
theorem lk_X12_281 : amLk RX12 281 yX12_readClause cX12_readClause 3 (none) 0 := ⟨wd_1515, wd_12, wd_1518, by decide +kernel, by decide +kernel, by decide⟩
theorem wd_1517 : Cond.instanceMethod yX12_readClause ∈ TBL := tb_tab (List.mem_of_getElem? (i := 1517) (by decide +kernel)) rfl
theorem sl_X12_readClause : Cond.selects RX12 yX12_readClause yX12_readClause ∈ TBL := tb_sel (List.mem_of_getElem? (i := 50) (by decide +kernel)) rfl
theorem wd_1561 : Cond.methodLink RX12 284 yX12_isWhole ∈ TBL := tb_tab (List.mem_of_getElem? (i := 1561) (by decide +kernel)) rfl
theorem wd_1564 : Cond.code yX12_isWhole cX12_isWhole 2 (some .boolean) ∈ TBL := tb_tab (List.mem_of_getElem? (i := 1564) (by decide +kernel)) rfl
theorem lk_X12_284 : amLk RX12 284 yX12_isWhole cX12_isWhole 2 (some .boolean) 0 := ⟨wd_1561, wd_12, wd_1564, by decide +kernel, by decide +kernel, by decide⟩
theorem wd_1563 : Cond.instanceMethod yX12_isWhole ∈ TBL := tb_tab (List.mem_of_getElem? (i := 1563) (by decide +kernel)) rfl
theorem sl_X12_isWhole : Cond.selects RX12 yX12_isWhole yX12_isWhole ∈ TBL := tb_sel (List.mem_of_getElem? (i := 57) (by decide +kernel)) rfl
def a_X12_readHouse : AC := [(0, vAload 0 1), (1, vAload 0 2), (2, vGetR TT 28 1 10 5), (5, vI 0 6), (6, vAload 0 7), (7, vGetI 28 6 10), (10, vCallMV w_X12_starts 28 3 13), (13, vAload 0 14), (14, vI 0 15), (15, vPutI 28 31 18), (18, vAload 0 19), (19, vI 0 20), (20, vPutI 28 32 23), (23, vAload 0 24), (24, vI 0 25), (25, vPutI 28 33 28), (28, vAload 0 29), (29, vI 0 30), (30, vPutZ 28 35 33), (33, vI 0 34), (34, vIstore 1 35), (35, vIload 1 36), (36, vI 2 37), (37, vIcGe 58 40), (40, vAload 0 41), (41, vGetR TT 28 19 8 44), (44, vIload 1 45), (45, vI 115 47), (47, vIload 1 48), (48, vCallS w_X12_usual 2 51), (51, vIast TT 52), (52, vIinc 1 1 55), (55, vGoto 35), (58, vI 1 59), (59, vIstore 1 60), (60, vIload 1 61), (61, vIfEq 116 64), (64, vAload 0 65), (65, vGetI 28 11 68), (68, vI (-1) 69), (69, vIcNe 116 72), (72, vAload 0 73), (73, vCallMV w_X12_readClause 28 0 76), (76, vAload 0 77), (77, vGetI 28 11 80), (80, vI (-1) 81), (81, vIcNe 97 84), (84, vAload 0 85), (85, vCallM w_X12_look 28 0 88), (88, vI 59 90), (90, vIcNe 97 93), (93, vI 1 94), (94, vGoto 98), (97, vI 0 98), (98, vIstore 1 99), (99, vIload 1 100), (100, vIfEq 60 103), (103, vAload 0 104), (104, vDup 105), (105, vGetI 28 10 108), (108, vI 1 109), (109, vIadd 110), (110, vPutI 28 10 113), (113, vGoto 60), (116, vAload 0 117), (117, vGetI 28 11 120), (120, vI (-1) 121), (121, vIcNe 144 124), (124, vAload 0 125), (125, vCallM w_X12_look 28 0 128), (128, vI (-1) 129), (129, vIcNe 139 132), (132, vAload 0 133), (133, vCallM w_X12_isWhole 28 0 136), (136, vIfNe 144 139), (139, vAload 0 140), (140, vCallM w_X12_fails 28 0 143), (143, vPop 144), (144, vVret)]
theorem k_X12_readHouse_0 : look a_X12_readHouse 0 = vAload 0 1 := rfl
theorem k_X12_readHouse_1 : look a_X12_readHouse 1 = vAload 0 2 := rfl
theorem k_X12_readHouse_2 : look a_X12_readHouse 2 = vGetR TT 28 1 10 5 := rfl
theorem k_X12_readHouse_5 : look a_X12_readHouse 5 = vI 0 6 := rfl
theorem k_X12_readHouse_6 : look a_X12_readHouse 6 = vAload 0 7 := rfl
theorem k_X12_readHouse_7 : look a_X12_readHouse 7 = vGetI 28 6 10 := rfl
theorem k_X12_readHouse_10 : look a_X12_readHouse 10 = vCallMV w_X12_starts 28 3 13 := rfl
theorem k_X12_readHouse_13 : look a_X12_readHouse 13 = vAload 0 14 := rfl
theorem k_X12_readHouse_14 : look a_X12_readHouse 14 = vI 0 15 := rfl
theorem k_X12_readHouse_15 : look a_X12_readHouse 15 = vPutI 28 31 18 := rfl
theorem k_X12_readHouse_18 : look a_X12_readHouse 18 = vAload 0 19 := rfl
theorem k_X12_readHouse_19 : look a_X12_readHouse 19 = vI 0 20 := rfl
theorem k_X12_readHouse_20 : look a_X12_readHouse 20 = vPutI 28 32 23 := rfl
theorem k_X12_readHouse_23 : look a_X12_readHouse 23 = vAload 0 24 := rfl
theorem k_X12_readHouse_24 : look a_X12_readHouse 24 = vI 0 25 := rfl
theorem k_X12_readHouse_25 : look a_X12_readHouse 25 = vPutI 28 33 28 := rfl
theorem k_X12_readHouse_28 : look a_X12_readHouse 28 = vAload 0 29 := rfl
theorem k_X12_readHouse_29 : look a_X12_readHouse 29 = vI 0 30 := rfl
theorem k_X12_readHouse_30 : look a_X12_readHouse 30 = vPutZ 28 35 33 := rfl
theorem k_X12_readHouse_33 : look a_X12_readHouse 33 = vI 0 34 := rfl
theorem k_X12_readHouse_34 : look a_X12_readHouse 34 = vIstore 1 35 := rfl
theorem k_X12_readHouse_35 : look a_X12_readHouse 35 = vIload 1 36 := rfl
theorem k_X12_readHouse_36 : look a_X12_readHouse 36 = vI 2 37 := rfl
theorem k_X12_readHouse_37 : look a_X12_readHouse 37 = vIcGe 58 40 := rfl
theorem k_X12_readHouse_40 : look a_X12_readHouse 40 = vAload 0 41 := rfl
theorem k_X12_readHouse_41 : look a_X12_readHouse 41 = vGetR TT 28 19 8 44 := rfl
theorem k_X12_readHouse_44 : look a_X12_readHouse 44 = vIload 1 45 := rfl
theorem k_X12_readHouse_45 : look a_X12_readHouse 45 = vI 115 47 := rfl
theorem k_X12_readHouse_47 : look a_X12_readHouse 47 = vIload 1 48 := rfl
theorem k_X12_readHouse_48 : look a_X12_readHouse 48 = vCallS w_X12_usual 2 51 := rfl
theorem k_X12_readHouse_51 : look a_X12_readHouse 51 = vIast TT 52 := rfl
theorem k_X12_readHouse_52 : look a_X12_readHouse 52 = vIinc 1 1 55 := rfl
theorem k_X12_readHouse_55 : look a_X12_readHouse 55 = vGoto 35 := rfl
theorem k_X12_readHouse_58 : look a_X12_readHouse 58 = vI 1 59 := rfl
theorem k_X12_readHouse_59 : look a_X12_readHouse 59 = vIstore 1 60 := rfl
theorem k_X12_readHouse_60 : look a_X12_readHouse 60 = vIload 1 61 := rfl
theorem k_X12_readHouse_61 : look a_X12_readHouse 61 = vIfEq 116 64 := rfl
theorem k_X12_readHouse_64 : look a_X12_readHouse 64 = vAload 0 65 := rfl
theorem k_X12_readHouse_65 : look a_X12_readHouse 65 = vGetI 28 11 68 := rfl
theorem k_X12_readHouse_68 : look a_X12_readHouse 68 = vI (-1) 69 := rfl
theorem k_X12_readHouse_69 : look a_X12_readHouse 69 = vIcNe 116 72 := rfl
theorem k_X12_readHouse_72 : look a_X12_readHouse 72 = vAload 0 73 := rfl
theorem k_X12_readHouse_73 : look a_X12_readHouse 73 = vCallMV w_X12_readClause 28 0 76 := rfl
theorem k_X12_readHouse_76 : look a_X12_readHouse 76 = vAload 0 77 := rfl
theorem k_X12_readHouse_77 : look a_X12_readHouse 77 = vGetI 28 11 80 := rfl
theorem k_X12_readHouse_80 : look a_X12_readHouse 80 = vI (-1) 81 := rfl
theorem k_X12_readHouse_81 : look a_X12_readHouse 81 = vIcNe 97 84 := rfl
theorem k_X12_readHouse_84 : look a_X12_readHouse 84 = vAload 0 85 := rfl
theorem k_X12_readHouse_85 : look a_X12_readHouse 85 = vCallM w_X12_look 28 0 88 := rfl
theorem k_X12_readHouse_88 : look a_X12_readHouse 88 = vI 59 90 := rfl
theorem k_X12_readHouse_90 : look a_X12_readHouse 90 = vIcNe 97 93 := rfl
theorem k_X12_readHouse_93 : look a_X12_readHouse 93 = vI 1 94 := rfl
theorem k_X12_readHouse_94 : look a_X12_readHouse 94 = vGoto 98 := rfl
theorem k_X12_readHouse_97 : look a_X12_readHouse 97 = vI 0 98 := rfl
theorem k_X12_readHouse_98 : look a_X12_readHouse 98 = vIstore 1 99 := rfl
theorem k_X12_readHouse_99 : look a_X12_readHouse 99 = vIload 1 100 := rfl
theorem k_X12_readHouse_100 : look a_X12_readHouse 100 = vIfEq 60 103 := rfl
theorem k_X12_readHouse_103 : look a_X12_readHouse 103 = vAload 0 104 := rfl
theorem k_X12_readHouse_104 : look a_X12_readHouse 104 = vDup 105 := rfl
theorem k_X12_readHouse_105 : look a_X12_readHouse 105 = vGetI 28 10 108 := rfl
theorem k_X12_readHouse_108 : look a_X12_readHouse 108 = vI 1 109 := rfl
theorem k_X12_readHouse_109 : look a_X12_readHouse 109 = vIadd 110 := rfl
theorem k_X12_readHouse_110 : look a_X12_readHouse 110 = vPutI 28 10 113 := rfl
theorem k_X12_readHouse_113 : look a_X12_readHouse 113 = vGoto 60 := rfl
theorem k_X12_readHouse_116 : look a_X12_readHouse 116 = vAload 0 117 := rfl
theorem k_X12_readHouse_117 : look a_X12_readHouse 117 = vGetI 28 11 120 := rfl
theorem k_X12_readHouse_120 : look a_X12_readHouse 120 = vI (-1) 121 := rfl
theorem k_X12_readHouse_121 : look a_X12_readHouse 121 = vIcNe 144 124 := rfl
theorem k_X12_readHouse_124 : look a_X12_readHouse 124 = vAload 0 125 := rfl
theorem k_X12_readHouse_125 : look a_X12_readHouse 125 = vCallM w_X12_look 28 0 128 := rfl
theorem k_X12_readHouse_128 : look a_X12_readHouse 128 = vI (-1) 129 := rfl
theorem k_X12_readHouse_129 : look a_X12_readHouse 129 = vIcNe 139 132 := rfl
theorem k_X12_readHouse_132 : look a_X12_readHouse 132 = vAload 0 133 := rfl
theorem k_X12_readHouse_133 : look a_X12_readHouse 133 = vCallM w_X12_isWhole 28 0 136 := rfl
theorem k_X12_readHouse_136 : look a_X12_readHouse 136 = vIfNe 144 139 := rfl
theorem k_X12_readHouse_139 : look a_X12_readHouse 139 = vAload 0 140 := rfl
theorem k_X12_readHouse_140 : look a_X12_readHouse 140 = vCallM w_X12_fails 28 0 143 := rfl
theorem k_X12_readHouse_143 : look a_X12_readHouse 143 = vPop 144 := rfl
theorem k_X12_readHouse_144 : look a_X12_readHouse 144 = vVret := rfl
theorem o_X12_readHouse {X : amX} (e1 : XT X = TT) (e2 : XD X = 7) (hB : amB X RX12 cX12_readHouse (none) 2) : ∀ pc, amOK X pc (look a_X12_readHouse pc) := by
  have hT : amTok (XT X) := e1 ▸ TT_ok
  refine look_ok ?_
  unfold a_X12_readHouse
  refine fc (ok_aload_n hB dX12_readHouse_0) ?_
  refine fc (ok_aload_n hB dX12_readHouse_1) ?_
  refine fc (okt_getR e1 hB hT fl_X12_9 rfl af_12_1 at_12_1 (by decide) dX12_readHouse_2) ?_
  refine fc (ok_iconst hB dX12_readHouse_5) ?_
  refine fc (ok_aload_n hB dX12_readHouse_6) ?_
  refine fc (ok_getI hB hT fl_X12_124 rfl rfl (Or.inl af_12_6) dX12_readHouse_7) ?_
  refine fc (ok_callMV hB hT (e1 ▸ s_X12_starts) lk_X12_222 (by rw [e2]; decide) (c := 12) rfl rfl rfl wd_1510 sl_X12_starts dX12_readHouse_10) ?_
  refine fc (ok_aload_n hB dX12_readHouse_13) ?_
  refine fc (ok_iconst hB dX12_readHouse_14) ?_
  refine fc (ok_putI hB hT fp_X12_260 rfl rfl rfl af_12_31 dX12_readHouse_15) ?_
  refine fc (ok_aload_n hB dX12_readHouse_18) ?_
  refine fc (ok_iconst hB dX12_readHouse_19) ?_
  refine fc (ok_putI hB hT fp_X12_263 rfl rfl rfl af_12_32 dX12_readHouse_20) ?_
  refine fc (ok_aload_n hB dX12_readHouse_23) ?_
  refine fc (ok_iconst hB dX12_readHouse_24) ?_
  refine fc (ok_putI hB hT fp_X12_266 rfl rfl rfl af_12_33 dX12_readHouse_25) ?_
  refine fc (ok_aload_n hB dX12_readHouse_28) ?_
  refine fc (ok_iconst hB dX12_readHouse_29) ?_
  refine fc (ok_putZ hB hT fp_X12_257 rfl rfl rfl af_12_35 dX12_readHouse_30) ?_
  refine fc (ok_iconst hB dX12_readHouse_33) ?_
  refine fc (ok_istore_n hB (by decide) dX12_readHouse_34) ?_
  refine fc (ok_iload_n hB dX12_readHouse_35) ?_
  refine fc (ok_iconst hB dX12_readHouse_36) ?_
  refine fc (ok_icmp_ge hB (t := 58) (by decide) dX12_readHouse_37) ?_
  refine fc (ok_aload_n hB dX12_readHouse_40) ?_
  refine fc (okt_getR e1 hB hT fl_X12_40 rfl af_12_19 at_12_19 (by decide) dX12_readHouse_41) ?_
  refine fc (ok_iload_n hB dX12_readHouse_44) ?_
  refine fc (ok_bipush hB dX12_readHouse_45 (by decide)) ?_
  refine fc (ok_iload_n hB dX12_readHouse_47) ?_
  refine fc (ok_callS hB (e1 ▸ s_X12_usual) lk_X12_236 (by rw [e2]; decide) wd_1513 dX12_readHouse_48) ?_
  refine fc (okt_iastore e1 hB dX12_readHouse_51) ?_
  refine fc (ok_iinc hB (by decide) dX12_readHouse_52) ?_
  refine fc (ok_goto hB (t := 35) (by decide) dX12_readHouse_55) ?_
  refine fc (ok_iconst hB dX12_readHouse_58) ?_
  refine fc (ok_istore_n hB (by decide) dX12_readHouse_59) ?_
  refine fc (ok_iload_n hB dX12_readHouse_60) ?_
  refine fc (ok_if_eq hB (t := 116) (by decide) dX12_readHouse_61) ?_
  refine fc (ok_aload_n hB dX12_readHouse_64) ?_
  refine fc (ok_getI hB hT fl_X12_143 rfl rfl (Or.inl af_12_11) dX12_readHouse_65) ?_
  refine fc (ok_iconst hB dX12_readHouse_68) ?_
  refine fc (ok_icmp_ne hB (t := 116) (by decide) dX12_readHouse_69) ?_
  refine fc (ok_aload_n hB dX12_readHouse_72) ?_
  refine fc (ok_callMV hB hT (e1 ▸ s_X12_readClause) lk_X12_281 (by rw [e2]; decide) (c := 12) rfl rfl rfl wd_1517 sl_X12_readClause dX12_readHouse_73) ?_
  refine fc (ok_aload_n hB dX12_readHouse_76) ?_
  refine fc (ok_getI hB hT fl_X12_143 rfl rfl (Or.inl af_12_11) dX12_readHouse_77) ?_
  refine fc (ok_iconst hB dX12_readHouse_80) ?_
  refine fc (ok_icmp_ne hB (t := 97) (by decide) dX12_readHouse_81) ?_
  refine fc (ok_aload_n hB dX12_readHouse_84) ?_
  refine fc (ok_callM hB hT (e1 ▸ s_X12_look) lk_X12_153 (by rw [e2]; decide) (c := 12) rfl rfl rfl wd_1521 sl_X12_look dX12_readHouse_85) ?_
  refine fc (ok_bipush hB dX12_readHouse_88 (by decide)) ?_
  refine fc (ok_icmp_ne hB (t := 97) (by decide) dX12_readHouse_90) ?_
  refine fc (ok_iconst hB dX12_readHouse_93) ?_
  refine fc (ok_goto hB (t := 98) (by decide) dX12_readHouse_94) ?_
  refine fc (ok_iconst hB dX12_readHouse_97) ?_
  refine fc (ok_istore_n hB (by decide) dX12_readHouse_98) ?_
  refine fc (ok_iload_n hB dX12_readHouse_99) ?_
  refine fc (ok_if_eq hB (t := 60) (by decide) dX12_readHouse_100) ?_
  refine fc (ok_aload_n hB dX12_readHouse_103) ?_
  refine fc (ok_dup hB dX12_readHouse_104) ?_
  refine fc (ok_getI hB hT fl_X12_134 rfl rfl (Or.inl af_12_10) dX12_readHouse_105) ?_
  refine fc (ok_iconst hB dX12_readHouse_108) ?_
  refine fc (ok_iadd hB dX12_readHouse_109) ?_
  refine fc (ok_putI hB hT fp_X12_134 rfl rfl rfl af_12_10 dX12_readHouse_110) ?_
  refine fc (ok_goto hB (t := 60) (by decide) dX12_readHouse_113) ?_
  refine fc (ok_aload_n hB dX12_readHouse_116) ?_
  refine fc (ok_getI hB hT fl_X12_143 rfl rfl (Or.inl af_12_11) dX12_readHouse_117) ?_
  refine fc (ok_iconst hB dX12_readHouse_120) ?_
  refine fc (ok_icmp_ne hB (t := 144) (by decide) dX12_readHouse_121) ?_
  refine fc (ok_aload_n hB dX12_readHouse_124) ?_
  refine fc (ok_callM hB hT (e1 ▸ s_X12_look) lk_X12_153 (by rw [e2]; decide) (c := 12) rfl rfl rfl wd_1521 sl_X12_look dX12_readHouse_125) ?_
  refine fc (ok_iconst hB dX12_readHouse_128) ?_
  refine fc (ok_icmp_ne hB (t := 139) (by decide) dX12_readHouse_129) ?_
  refine fc (ok_aload_n hB dX12_readHouse_132) ?_
  refine fc (ok_callM hB hT (e1 ▸ s_X12_isWhole) lk_X12_284 (by rw [e2]; decide) (c := 12) rfl rfl rfl wd_1563 sl_X12_isWhole dX12_readHouse_133) ?_
  refine fc (ok_if_ne hB (t := 144) (by decide) dX12_readHouse_136) ?_
  refine fc (ok_aload_n hB dX12_readHouse_139) ?_
  refine fc (ok_callM hB hT (e1 ▸ s_X12_fails) lk_X12_149 (by rw [e2]; decide) (c := 12) rfl rfl rfl wd_1525 sl_X12_fails dX12_readHouse_140) ?_
  refine fc (ok_pop hB dX12_readHouse_143) ?_
  refine fc (ok_vret hB dX12_readHouse_144) ?_
  exact fn
def inv_rho (m : Mem) (v0 : Int → Int) (R : Int × Int × (Int → Int) × (Int → Int)) (n pc : Nat) (ls st : List AV) (σ' : Mem) : Prop := st = [] ∧
  ((∃ j : Nat, pc = 35 ∧ ls = [(28, 5000), (0, (j : Int))] ∧ σ' = hoN m 0 (-1) (fun _ => 0) (flv v0 0 0 j) ∧ (j : Int) ≤ 2 ∧ (n : Int) = 2000 + 2 - j) ∨
   (∃ (f : Nat) (p : Int) (c v : Int → Int), pc = 60 ∧ n = 2 * f + 1 ∧ ls = [(28, 5000), (0, 1)] ∧ σ' = hoN m p (-1) c v ∧ 0 ≤ p ∧ p ≤ m 5000 9 ∧ m 5000 9 + 1 ≤ p + f ∧ cntB c ∧ c 0 ≤ 1 ∧ rowB v ∧ hCls (mtx m) (m 5000 9) f p c v = R) ∨
   (∃ (x q : Int) (c v : Int → Int), pc = 76 ∧ ls = [(28, 5000), (0, 1)] ∧ n = 1 ∧ σ' = hoN m q x c v ∧ 0 ≤ x ∧ x ≤ 250 ∧ rowB v ∧ R.1 = x) ∨
   (∃ (f : Nat) (p : Int) (c v : Int → Int), pc = 76 ∧ n = 2 * f + 2 ∧ ls = [(28, 5000), (0, 1)] ∧ σ' = hoN m p (-1) c v ∧ 0 ≤ p ∧ p ≤ m 5000 9 ∧ cntB c ∧ c 0 ≤ 1 ∧ rowB v ∧ (mtx m (sk (mtx m) (m 5000 9) p) = 59 → rowB v ∧ m 5000 9 ≤ sk (mtx m) (m 5000 9) p + f ∧ hCls (mtx m) (m 5000 9) f (sk (mtx m) (m 5000 9) p + 1) c v = R) ∧ (mtx m (sk (mtx m) (m 5000 9) p) = -1 → rowB v ∧ R.1 = hfin c v (m 5000 9) ∧ R.2.2 = (c, v)) ∧ (mtx m (sk (mtx m) (m 5000 9) p) ≠ 59 → mtx m (sk (mtx m) (m 5000 9) p) ≠ -1 → R.1 = sk (mtx m) (m 5000 9) p)) ∨
   (∃ (x q : Int) (c v : Int → Int), pc = 60 ∧ n = 0 ∧ ls = [(28, 5000), (0, 0)] ∧ σ' = hoN m q x c v ∧ 0 ≤ x ∧ x ≤ 250 ∧ rowB v ∧ R.1 = x) ∨
   (∃ (p : Int) (c v : Int → Int), pc = 60 ∧ n = 0 ∧ ls = [(28, 5000), (0, 0)] ∧ σ' = hoN m p (-1) c v ∧ 0 ≤ p ∧ p ≤ m 5000 9 ∧ cntB c ∧ rowB v ∧ sk (mtx m) (m 5000 9) p = p ∧ (mtx m p = -1 → rowB v ∧ R.1 = hfin c v (m 5000 9) ∧ R.2.2 = (c, v)) ∧ (mtx m p ≠ -1 → R.1 = p)))
def w_X12_readHouse : WP := fun av σ Q => av = [(28, 5000)] ∧ (txtOk σ 5001 0 (σ 5000 6) ∧ rowB (vof σ) ∧ (∀ τ, HRF σ τ → rowB (vof τ) → τ 5000 11 = (hCls (txt σ 5001 0 (σ 5000 6)) (σ 5000 6) 241 0 (fun _ => 0) (filv (vof σ) 0 0)).1 → ((hCls (txt σ 5001 0 (σ 5000 6)) (σ 5000 6) 241 0 (fun _ => 0) (filv (vof σ) 0 0)).1 = -1 → (∀ k, 1 ≤ k → k ≤ 3 → τ 5000 (30 + k) = (hCls (txt σ 5001 0 (σ 5000 6)) (σ 5000 6) 241 0 (fun _ => 0) (filv (vof σ) 0 0)).2.2.1 k) ∧ ∀ b j, 0 ≤ slo b j → τ b j = (hCls (txt σ 5001 0 (σ 5000 6)) (σ 5000 6) 241 0 (fun _ => 0) (filv (vof σ) 0 0)).2.2.2 (slo b j)) → Q (6, 0) τ))
theorem w_X12_readHouse_e  (σ : Mem) (Q : AV → Mem → Prop) : w_X12_readHouse [(28, 5000)] σ Q = (txtOk σ 5001 0 (σ 5000 6) ∧ rowB (vof σ) ∧ (∀ τ, HRF σ τ → rowB (vof τ) → τ 5000 11 = (hCls (txt σ 5001 0 (σ 5000 6)) (σ 5000 6) 241 0 (fun _ => 0) (filv (vof σ) 0 0)).1 → ((hCls (txt σ 5001 0 (σ 5000 6)) (σ 5000 6) 241 0 (fun _ => 0) (filv (vof σ) 0 0)).1 = -1 → (∀ k, 1 ≤ k → k ≤ 3 → τ 5000 (30 + k) = (hCls (txt σ 5001 0 (σ 5000 6)) (σ 5000 6) 241 0 (fun _ => 0) (filv (vof σ) 0 0)).2.2.1 k) ∧ ∀ b j, 0 ≤ slo b j → τ b j = (hCls (txt σ 5001 0 (σ 5000 6)) (σ 5000 6) 241 0 (fun _ => 0) (filv (vof σ) 0 0)).2.2.2 (slo b j)) → Q (6, 0) τ)) := by
  apply propext; constructor
  · rintro ⟨h9, hb9⟩; cases h9; exact hb9
  · intro hb9; exact ⟨rfl, hb9⟩

set_option maxRecDepth 100000 in
set_option maxHeartbeats 4000000 in
theorem s_X12_readHouse : ∀ av σ Q, w_X12_readHouse av σ Q → amCall 7 0 0 TT yX12_readHouse cX12_readHouse 2 (none) av σ Q := by
  rintro av σ Q ⟨rfl, htx, hv0, hq⟩
  obtain ⟨ht, em, e9⟩ := sts_tx htx
  have hH := HRF_ho σ 5001 0 (σ 5000 6)
  have eo : ∀ c, c ≠ 5000 → stsM σ 5001 0 (σ 5000 6) c = σ c := fun c hc => by unfold stsM; simp only [up_na _ hc]
  have ev : vof (stsM σ 5001 0 (σ 5000 6)) = vof σ := vof_c (eo _ (by decide)) (eo _ (by decide)) (eo _ (by decide)) (eo _ (by decide))
  generalize hR9 : hCls (txt σ 5001 0 (σ 5000 6)) (σ 5000 6) 241 0 (fun _ => 0) (filv (vof σ) 0 0) = R at hq
  have hid := ho_id (m := stsM σ 5001 0 (σ 5000 6)) (p := 0) (f := -1) rfl rfl
  rw [ev] at hid
  rw [← em] at hR9
  generalize hm : stsM σ 5001 0 (σ 5000 6) = m at *
  rw [← e9] at hR9
  generalize vof σ = v0 at *
  have n0 := ht.1
  have n1 := ht.2.1
  have hte := mtx_n ht
  have Mt : ∀ p f c v, mtx (hoN m p f c v) = mtx m := fun p f c v => (ho_tx ht p f c v).1
  have MtO : ∀ p f c v, txOk (hoN m p f c v) = True := fun p f c v => eq_true (ho_tx ht p f c v).2
  have u1 : ∀ p f c v x, up (hoN m p f c v) 5000 31 x = hoN m p f (upf c 1 x) v := fun p f c v x => ho_uc m p f x c v (by decide)
  have u2 : ∀ p f c v x, up (hoN m p f c v) 5000 32 x = hoN m p f (upf c 2 x) v := fun p f c v x => ho_uc m p f x c v (by decide)
  have u3 : ∀ p f c v x, up (hoN m p f c v) 5000 33 x = hoN m p f (upf c 3 x) v := fun p f c v x => ho_uc m p f x c v (by decide)
  have e0 : up (up (up (up m 5000 31 0) 5000 32 0) 5000 33 0) 5000 35 0 = hoN m 0 (-1) (fun _ => 0) v0 := by
    have := congrArg (fun x => up (up (up (up x 5000 31 0) 5000 32 0) 5000 33 0) 5000 35 0) hid
    try dsimp only at this
    rw [u1, u2, u3, ho_u0] at this
    rw [← this]
    refine ho_cg (fun k h0 h1 => ?_)
    unfold upf; (repeat' split) <;> first | rfl | omega
  have fF : ∀ x q c v, rowB v → R.1 = x → 0 ≤ x → Q (6, 0) (hoN m q x c v) := fun x q c v vB e e1 => hq _ (hH _ _ _ _) (vof_ho vB) (by rw [ho_11, e]) (fun z => by omega)
  refine am_m [35, 60, 76] (inv_rho m v0 R) (own := RX12) (A := look a_X12_readHouse) (fun X e1 e2 hB => o_X12_readHouse e1 e2 hB) rfl (by decide +kernel) rfl rfl ?_ ⟨60, ?_⟩ (w := 2)
  · rintro n pc ls st σ' ⟨rfl, ⟨j, rfl, rfl, rfl, hj, hn⟩ | ⟨f, p, c, v, rfl, rfl, rfl, rfl, p0, p1, hf, hc, hc0, hv, hC⟩ | ⟨x, q, c, v, rfl, rfl, rfl, rfl, x0, x1, vB, hx⟩ | ⟨f, p, c, v, rfl, rfl, rfl, rfl, p0, p1, hc, hc0, vB, hA, hB, hD⟩ | ⟨x, q, c, v, rfl, rfl, rfl, rfl, x0, x1, vB, hx⟩ | ⟨p, c, v, rfl, rfl, rfl, rfl, p0, p1, hc, vB, hs, hB, hD⟩⟩
    · by_cases cj : (j : Int) < 2
      · have e8 : up (hoN m 0 (-1) (fun _ => 0) (flv v0 0 0 j)) 5006 j (usuV 115 j) = hoN m 0 (-1) (fun _ => 0) (flv v0 0 0 ((j : Int) + 1)) := by
          have h1 := ho_w (m := m) (p := 0) (f := -1) (c := fun _ => 0) (v := flv v0 0 0 j) (k := 0) (i := 0) (w := j) (x := usuV 115 j) (by decide) (by decide) (by decide) (by decide) (by omega) cj
          have h2 := (kvals' (k := 0) (w := j) (by decide) (by decide) (by omega) cj).2.2
          rw [show (0 : Int) * kln 0 + j = j by rw [Int.zero_mul, Int.zero_add], show kid 0 = 5006 from rfl] at h1
          rw [show kch 0 = 115 from rfl] at h2
          rw [h1, h2, flv_s v0 0 0 (by omega)]
        have i9 : ∃ k', k' < n ∧ inv_rho m v0 R k' 35 [(28, 5000), (0, (j : Int) + 1)] [] (hoN m 0 (-1) (fun _ => 0) (flv v0 0 0 ((j : Int) + 1))) := ⟨n - 1, by omega, rfl, Or.inl ⟨j + 1, rfl, rfl, rfl, by omega, by omega⟩⟩
        refine ⟨60, ?_⟩
        simp only [↓reduceIte, inR_0, inR_1, inR_m, vSw2_e, swP_n, swP_c, vI_e, vL_e, vNull_e, vIload_e, vLload_e, vAload_e, vIstore_e, vLstore_e, vAstore_e, vIinc_e, vIadd_e, vIsub_e, vImul_e, vIand_e, vIor_e, vIxor_e, vIshl_e, vIshr_e, vIushr_e, vIdiv_e, vIrem_e, vLadd_e, vLsub_e, vLmul_e, vLand_e, vLor_e, vLxor_e, vLdiv_e, vLrem_e, vLushr_e, vLshl_e, vLcmp_e, vIneg_e, vI2l_e, vL2i_e, vI2b_e, vI2c_e, vDup_e, vPop_e, vDup2_e, vGoto_e, vIcEq_e, vIfEq_e, vIcNe_e, vIfNe_e, vIcLt_e, vIfLt_e, vIcGe_e, vIfGe_e, vIcGt_e, vIfGt_e, vIcLe_e, vIfLe_e, vNonnull_e, vSw_e, vGetI_e, vGetL_e, vGetR_e, vPutI_e, vPutZ_e, vPutL_e, vPutR_e, vIald_e, vIald_s, vLald_e, vBald_e, vBald_s, vAald_e, vIast_e, vLast_e, vBast_e, vAast_e, vAlen_e8, vAlen_e9, vAlen_e10, vAlen_e11, vAlen_e5, vAlen_e3, vGets_e, vCompact_e, vLdcS_e, vIret_e, vZret_e, vCret_e, vBret_e, vLret_e, vVret_e, vAret_e, vCallM_e0, vCallMV_e0, vCallS_e0, vCallSV_e0, vCallM_e1, vCallMV_e1, vCallS_e1, vCallSV_e1, vCallM_e2, vCallMV_e2, vCallS_e2, vCallSV_e2, vCallM_e3, vCallMV_e3, vCallS_e3, vCallSV_e3, vCallM_e4, vCallMV_e4, vCallS_e4, vCallSV_e4, vCallM_e5, vCallMV_e5, vCallS_e5, vCallSV_e5, vCallM_e6, vCallMV_e6, vCallS_e6, vCallSV_e6, vCallM_e7, vCallMV_e7, vCallS_e7, vCallSV_e7, vBad_e, vStrVal_e, vStrCod_e, vForm_e, vCallT_e0, vCallT_e1, vCallT_e2, vCopy_e, rf_0_0, rf_0_1, rf_0_2, rf_0_3, rf_0_4, rf_0_7, rf_0_10, rf_0_11, rf_0_12, rf_0_13, rf_0_14, rf_0_15, rf_0_16, rf_1_0, rf_3_0, rf_3_1, rf_6_0, rf_6_1, rf_9_0, rf_9_1, rf_9_3, rf_13_0, rf_13_1, rf_13_2, rf_16_0, rf_16_1, rf_16_2, rf_16_3, rf_21_0, rf_21_1, rf_21_2, rf_21_3, rf_26_0, rf_26_1, rf_26_2, rf_26_3, rf_26_4, rf_26_5, rf_26_6, rf_31_0, rf_31_2, rf_31_5, rf_31_6, rf_36_0, rf_36_1, rf_36_2, rf_36_3, rf_39_0, rf_39_1, rf_39_2, rf_41_0, rf_41_1, rf_41_2, rf_41_3, rf_5000_1, rf_5000_2, rf_5000_3, rf_5000_4, rf_5000_5, rf_5000_15, rf_5000_16, rf_5000_18, rf_5000_19, rf_5000_20, rf_5000_21, rf_5000_22, rf_5000_23, rf_5000_24, rf_5000_25, rf_5000_26, rf_5000_27, rf_5000_36, rf_5000_37, rf_5000_40, rf_5000_41, rf_5000_42, rf_5000_43, rf_5000_44, rf_5000_45, rf_5000_47, rf_5000_52, rf_5000_54, rf_5000_55, rf_100_0, rf_100_1, rf_103_0, rf_103_1, rf_106_0, rf_106_1, rf_109_0, rf_109_1, al_2, al_4, al_5, al_7, al_8, al_10, al_11, al_12, al_14, al_15, al_17, al_18, al_19, al_20, al_22, al_23, al_24, al_25, al_27, al_28, al_29, al_30, al_32, al_33, al_34, al_35, al_37, al_38, al_40, al_42, al_5001, al_5002, al_5003, al_5004, al_5005, al_5006, al_5007, al_5008, al_5009, al_5010, al_5011, al_5012, al_5013, al_5014, al_5015, al_5016, al_5017, al_5018, al_5019, al_5020, al_5021, al_5022, al_5023, al_5024, al_5025, al_5026, al_9000, al_101, al_102, al_104, al_105, al_107, al_108, al_110, al_111, vcs_e, lg_c0, lg_cs, lg_nil, set_c0, set_cs, okst_0, okst_s, acok_n, acok_c, List.contains_nil, List.contains_cons, Bool.or_false, Bool.false_or, Bool.false_eq_true, if_false, if_true, ite_self, ne_eq, true_and, and_true, not_false_eq_true, not_true_eq_false, false_imp_iff, true_imp_iff, Nat.ble_eq, Bool.and_eq_true, reduceCtorEq, or_false, false_or, or_true, true_or, false_and, and_false, and_self, Int.reduceLE, Int.reduceAdd, Int.reduceSub, Int.reduceMul, Int.reduceNeg, Int.reduceLT, Int.reduceEq, Int.reduceNe, Nat.reduceBEq, Nat.reduceBNe, Nat.reduceEqDiff, amCmp_in, amCmp_lt, amCmp_le, amCmp_gt, amCmp_ge, amCmp_eq, amCmp_ne, Nat.reduceLeDiff, Nat.reduceSub, Bool.and_true, Bool.true_and, Bool.and_self, Bool.or_true, Bool.true_or, isRf_3, isRf_4, isRf_5, isRf_8, isRf_9, isRf_10, isRf_11, isRf_15, isRf_16, isRf_17, isRf_18, isRf_19, isRf_20, isRf_21, isRf_22, isRf_23, isRf_24, isRf_25, isRf_26, isRf_27, isRf_28, k_X12_readHouse_0, k_X12_readHouse_1, k_X12_readHouse_2, k_X12_readHouse_5, k_X12_readHouse_6, k_X12_readHouse_7, k_X12_readHouse_10, k_X12_readHouse_13, k_X12_readHouse_14, k_X12_readHouse_15, k_X12_readHouse_18, k_X12_readHouse_19, k_X12_readHouse_20, k_X12_readHouse_23, k_X12_readHouse_24, k_X12_readHouse_25, k_X12_readHouse_28, k_X12_readHouse_29, k_X12_readHouse_30, k_X12_readHouse_33, k_X12_readHouse_34, k_X12_readHouse_35, k_X12_readHouse_36, k_X12_readHouse_37, k_X12_readHouse_40, k_X12_readHouse_41, k_X12_readHouse_44, k_X12_readHouse_45, k_X12_readHouse_47, k_X12_readHouse_48, k_X12_readHouse_51, k_X12_readHouse_52, k_X12_readHouse_55, k_X12_readHouse_58, k_X12_readHouse_59, k_X12_readHouse_60, k_X12_readHouse_61, k_X12_readHouse_64, k_X12_readHouse_65, k_X12_readHouse_68, k_X12_readHouse_69, k_X12_readHouse_72, k_X12_readHouse_73, k_X12_readHouse_76, k_X12_readHouse_77, k_X12_readHouse_80, k_X12_readHouse_81, k_X12_readHouse_84, k_X12_readHouse_85, k_X12_readHouse_88, k_X12_readHouse_90, k_X12_readHouse_93, k_X12_readHouse_94, k_X12_readHouse_97, k_X12_readHouse_98, k_X12_readHouse_99, k_X12_readHouse_100, k_X12_readHouse_103, k_X12_readHouse_104, k_X12_readHouse_105, k_X12_readHouse_108, k_X12_readHouse_109, k_X12_readHouse_110, k_X12_readHouse_113, k_X12_readHouse_116, k_X12_readHouse_117, k_X12_readHouse_120, k_X12_readHouse_121, k_X12_readHouse_124, k_X12_readHouse_125, k_X12_readHouse_128, k_X12_readHouse_129, k_X12_readHouse_132, k_X12_readHouse_133, k_X12_readHouse_136, k_X12_readHouse_139, k_X12_readHouse_140, k_X12_readHouse_143, k_X12_readHouse_144, w_X12_fails_e, w_X12_isWhole_e, w_X12_look_e, w_X12_readClause_e, w_X12_starts_e, w_X12_usual_e, e8]
        repeat' (first | apply And.intro | intro _)
        all_goals first | omega | exact absurd trivial (by assumption) | exact i9 | exact ⟨by omega, by omega⟩
      · have ej : (j : Int) = kln 0 := by rw [show kln 0 = 2 from rfl]; omega
        have e2 : hoN m 0 (-1) (fun _ => 0) (flv v0 0 0 j) = hoN m 0 (-1) (fun _ => 0) (filv v0 0 0) := by rw [ej]; exact ho_fl (by decide) (by decide) (by decide) (by decide)
        have i9 : ∃ k', k' < n ∧ inv_rho m v0 R k' 60 [(28, 5000), (0, 1)] [] (hoN m 0 (-1) (fun _ => 0) (filv v0 0 0)) := ⟨2 * 241 + 1, by omega, rfl, Or.inr (Or.inl ⟨241, 0, fun _ => 0, filv v0 0 0, rfl, rfl, rfl, rfl, by decide, n0, by omega, fun k _ _ => ⟨Int.le_refl (0 : Int), show (0 : Int) ≤ 6 by decide⟩, show (0 : Int) ≤ 1 by decide, filv_B hv0 _ _, hR9⟩)⟩
        rw [e2]
        refine ⟨60, ?_⟩
        simp only [↓reduceIte, inR_0, inR_1, inR_m, vSw2_e, swP_n, swP_c, vI_e, vL_e, vNull_e, vIload_e, vLload_e, vAload_e, vIstore_e, vLstore_e, vAstore_e, vIinc_e, vIadd_e, vIsub_e, vImul_e, vIand_e, vIor_e, vIxor_e, vIshl_e, vIshr_e, vIushr_e, vIdiv_e, vIrem_e, vLadd_e, vLsub_e, vLmul_e, vLand_e, vLor_e, vLxor_e, vLdiv_e, vLrem_e, vLushr_e, vLshl_e, vLcmp_e, vIneg_e, vI2l_e, vL2i_e, vI2b_e, vI2c_e, vDup_e, vPop_e, vDup2_e, vGoto_e, vIcEq_e, vIfEq_e, vIcNe_e, vIfNe_e, vIcLt_e, vIfLt_e, vIcGe_e, vIfGe_e, vIcGt_e, vIfGt_e, vIcLe_e, vIfLe_e, vNonnull_e, vSw_e, vGetI_e, vGetL_e, vGetR_e, vPutI_e, vPutZ_e, vPutL_e, vPutR_e, vIald_e, vIald_s, vLald_e, vBald_e, vBald_s, vAald_e, vIast_e, vLast_e, vBast_e, vAast_e, vAlen_e8, vAlen_e9, vAlen_e10, vAlen_e11, vAlen_e5, vAlen_e3, vGets_e, vCompact_e, vLdcS_e, vIret_e, vZret_e, vCret_e, vBret_e, vLret_e, vVret_e, vAret_e, vCallM_e0, vCallMV_e0, vCallS_e0, vCallSV_e0, vCallM_e1, vCallMV_e1, vCallS_e1, vCallSV_e1, vCallM_e2, vCallMV_e2, vCallS_e2, vCallSV_e2, vCallM_e3, vCallMV_e3, vCallS_e3, vCallSV_e3, vCallM_e4, vCallMV_e4, vCallS_e4, vCallSV_e4, vCallM_e5, vCallMV_e5, vCallS_e5, vCallSV_e5, vCallM_e6, vCallMV_e6, vCallS_e6, vCallSV_e6, vCallM_e7, vCallMV_e7, vCallS_e7, vCallSV_e7, vBad_e, vStrVal_e, vStrCod_e, vForm_e, vCallT_e0, vCallT_e1, vCallT_e2, vCopy_e, rf_0_0, rf_0_1, rf_0_2, rf_0_3, rf_0_4, rf_0_7, rf_0_10, rf_0_11, rf_0_12, rf_0_13, rf_0_14, rf_0_15, rf_0_16, rf_1_0, rf_3_0, rf_3_1, rf_6_0, rf_6_1, rf_9_0, rf_9_1, rf_9_3, rf_13_0, rf_13_1, rf_13_2, rf_16_0, rf_16_1, rf_16_2, rf_16_3, rf_21_0, rf_21_1, rf_21_2, rf_21_3, rf_26_0, rf_26_1, rf_26_2, rf_26_3, rf_26_4, rf_26_5, rf_26_6, rf_31_0, rf_31_2, rf_31_5, rf_31_6, rf_36_0, rf_36_1, rf_36_2, rf_36_3, rf_39_0, rf_39_1, rf_39_2, rf_41_0, rf_41_1, rf_41_2, rf_41_3, rf_5000_1, rf_5000_2, rf_5000_3, rf_5000_4, rf_5000_5, rf_5000_15, rf_5000_16, rf_5000_18, rf_5000_19, rf_5000_20, rf_5000_21, rf_5000_22, rf_5000_23, rf_5000_24, rf_5000_25, rf_5000_26, rf_5000_27, rf_5000_36, rf_5000_37, rf_5000_40, rf_5000_41, rf_5000_42, rf_5000_43, rf_5000_44, rf_5000_45, rf_5000_47, rf_5000_52, rf_5000_54, rf_5000_55, rf_100_0, rf_100_1, rf_103_0, rf_103_1, rf_106_0, rf_106_1, rf_109_0, rf_109_1, al_2, al_4, al_5, al_7, al_8, al_10, al_11, al_12, al_14, al_15, al_17, al_18, al_19, al_20, al_22, al_23, al_24, al_25, al_27, al_28, al_29, al_30, al_32, al_33, al_34, al_35, al_37, al_38, al_40, al_42, al_5001, al_5002, al_5003, al_5004, al_5005, al_5006, al_5007, al_5008, al_5009, al_5010, al_5011, al_5012, al_5013, al_5014, al_5015, al_5016, al_5017, al_5018, al_5019, al_5020, al_5021, al_5022, al_5023, al_5024, al_5025, al_5026, al_9000, al_101, al_102, al_104, al_105, al_107, al_108, al_110, al_111, vcs_e, lg_c0, lg_cs, lg_nil, set_c0, set_cs, okst_0, okst_s, acok_n, acok_c, List.contains_nil, List.contains_cons, Bool.or_false, Bool.false_or, Bool.false_eq_true, if_false, if_true, ite_self, ne_eq, true_and, and_true, not_false_eq_true, not_true_eq_false, false_imp_iff, true_imp_iff, Nat.ble_eq, Bool.and_eq_true, reduceCtorEq, or_false, false_or, or_true, true_or, false_and, and_false, and_self, Int.reduceLE, Int.reduceAdd, Int.reduceSub, Int.reduceMul, Int.reduceNeg, Int.reduceLT, Int.reduceEq, Int.reduceNe, Nat.reduceBEq, Nat.reduceBNe, Nat.reduceEqDiff, amCmp_in, amCmp_lt, amCmp_le, amCmp_gt, amCmp_ge, amCmp_eq, amCmp_ne, Nat.reduceLeDiff, Nat.reduceSub, Bool.and_true, Bool.true_and, Bool.and_self, Bool.or_true, Bool.true_or, isRf_3, isRf_4, isRf_5, isRf_8, isRf_9, isRf_10, isRf_11, isRf_15, isRf_16, isRf_17, isRf_18, isRf_19, isRf_20, isRf_21, isRf_22, isRf_23, isRf_24, isRf_25, isRf_26, isRf_27, isRf_28, k_X12_readHouse_0, k_X12_readHouse_1, k_X12_readHouse_2, k_X12_readHouse_5, k_X12_readHouse_6, k_X12_readHouse_7, k_X12_readHouse_10, k_X12_readHouse_13, k_X12_readHouse_14, k_X12_readHouse_15, k_X12_readHouse_18, k_X12_readHouse_19, k_X12_readHouse_20, k_X12_readHouse_23, k_X12_readHouse_24, k_X12_readHouse_25, k_X12_readHouse_28, k_X12_readHouse_29, k_X12_readHouse_30, k_X12_readHouse_33, k_X12_readHouse_34, k_X12_readHouse_35, k_X12_readHouse_36, k_X12_readHouse_37, k_X12_readHouse_40, k_X12_readHouse_41, k_X12_readHouse_44, k_X12_readHouse_45, k_X12_readHouse_47, k_X12_readHouse_48, k_X12_readHouse_51, k_X12_readHouse_52, k_X12_readHouse_55, k_X12_readHouse_58, k_X12_readHouse_59, k_X12_readHouse_60, k_X12_readHouse_61, k_X12_readHouse_64, k_X12_readHouse_65, k_X12_readHouse_68, k_X12_readHouse_69, k_X12_readHouse_72, k_X12_readHouse_73, k_X12_readHouse_76, k_X12_readHouse_77, k_X12_readHouse_80, k_X12_readHouse_81, k_X12_readHouse_84, k_X12_readHouse_85, k_X12_readHouse_88, k_X12_readHouse_90, k_X12_readHouse_93, k_X12_readHouse_94, k_X12_readHouse_97, k_X12_readHouse_98, k_X12_readHouse_99, k_X12_readHouse_100, k_X12_readHouse_103, k_X12_readHouse_104, k_X12_readHouse_105, k_X12_readHouse_108, k_X12_readHouse_109, k_X12_readHouse_110, k_X12_readHouse_113, k_X12_readHouse_116, k_X12_readHouse_117, k_X12_readHouse_120, k_X12_readHouse_121, k_X12_readHouse_124, k_X12_readHouse_125, k_X12_readHouse_128, k_X12_readHouse_129, k_X12_readHouse_132, k_X12_readHouse_133, k_X12_readHouse_136, k_X12_readHouse_139, k_X12_readHouse_140, k_X12_readHouse_143, k_X12_readHouse_144, w_X12_fails_e, w_X12_isWhole_e, w_X12_look_e, w_X12_readClause_e, w_X12_starts_e, w_X12_usual_e]
        repeat' (first | apply And.intro | intro _)
        all_goals first | omega | exact absurd trivial (by assumption) | exact i9
    · obtain ⟨f', rfl⟩ : ∃ f', f = f' + 1 := ⟨f - 1, by omega⟩
      have s1 := sk_b (mtx m) p1
      have kb := kindF_b (mtx m (sk (mtx m) (m 5000 9) p))
      have kn := kindF_n (s := mtx m (sk (mtx m) (m 5000 9) p))
      unfold hCls at hC
      have ek : kindF (mtx m (sk (mtx m) (m 5000 9) p)) = hK (mtx m) (m 5000 9) p := rfl
      rw [ek] at kb kn
      have hrb : 0 ≤ hK (mtx m) (m 5000 9) p → -1 ≤ (hR (mtx m) (m 5000 9) p c v).1 ∧ (hR (mtx m) (m 5000 9) p c v).1 ≤ m 5000 9 ∧ sk (mtx m) (m 5000 9) p + 1 ≤ (hR (mtx m) (m 5000 9) p c v).2.1 ∧ (hR (mtx m) (m 5000 9) p c v).2.1 ≤ m 5000 9 ∧ rowB (hR (mtx m) (m 5000 9) p c v).2.2 := fun g => by
        have := sk_lt hte (kn g)
        exact hIt_b hte n0 5 0 _ _ (by omega) (by omega) (filv_B hv _ _)
      have hre : 0 ≤ hK (mtx m) (m 5000 9) p → (hR (mtx m) (m 5000 9) p c v).1 = -1 → (mtx m (sk (mtx m) (m 5000 9) (hR (mtx m) (m 5000 9) p c v).2.1) = -1 ∨ mtx m (sk (mtx m) (m 5000 9) (hR (mtx m) (m 5000 9) p c v).2.1) = 59) := fun g => by
        have := sk_lt hte (kn g)
        exact hIt_e hte 5 0 _ _ (by omega) (by omega)
      have mk := mostK_b (hK (mtx m) (m 5000 9) p)
      have jA : ¬ (0 ≤ hK (mtx m) (m 5000 9) p ∧ c (hK (mtx m) (m 5000 9) p) < mostK (hK (mtx m) (m 5000 9) p)) → ∃ k', k' < 2 * (f' + 1) + 1 ∧ inv_rho m v0 R k' 76 [(28, 5000), (0, 1)] [] (hoN m (sk (mtx m) (m 5000 9) p) (sk (mtx m) (m 5000 9) p) c v) := fun g =>
        ⟨1, by omega, rfl, Or.inr (Or.inr (Or.inl ⟨_, _, c, v, rfl, rfl, rfl, rfl, by omega, by omega, hv, by rw [if_neg g] at hC; rw [← hC]⟩))⟩
      have jB : 0 ≤ hK (mtx m) (m 5000 9) p → c (hK (mtx m) (m 5000 9) p) < mostK (hK (mtx m) (m 5000 9) p) → ((hR (mtx m) (m 5000 9) p c v).1 = -1 → ∃ k', k' < 2 * (f' + 1) + 1 ∧ inv_rho m v0 R k' 76 [(28, 5000), (0, 1)] [] (hoN m (hR (mtx m) (m 5000 9) p c v).2.1 (-1) (upf c (hK (mtx m) (m 5000 9) p) (c (hK (mtx m) (m 5000 9) p) + 1)) (hR (mtx m) (m 5000 9) p c v).2.2)) ∧ ((hR (mtx m) (m 5000 9) p c v).1 ≠ -1 → (∀ q v', rowB v' → ∃ k', k' < 2 * (f' + 1) + 1 ∧ inv_rho m v0 R k' 76 [(28, 5000), (0, 1)] [] (hoN m q (hR (mtx m) (m 5000 9) p c v).1 (upf c (hK (mtx m) (m 5000 9) p) (c (hK (mtx m) (m 5000 9) p) + 1)) v')) ∧ (∀ v', rowB v' → mtx m (hR (mtx m) (m 5000 9) p c v).1 ≠ -1 → mtx m (hR (mtx m) (m 5000 9) p c v).1 ≠ 59 → sk (mtx m) (m 5000 9) (hR (mtx m) (m 5000 9) p c v).1 = (hR (mtx m) (m 5000 9) p c v).1 → ∃ k', k' < 2 * (f' + 1) + 1 ∧ inv_rho m v0 R k' 76 [(28, 5000), (0, 1)] [] (hoN m (hR (mtx m) (m 5000 9) p c v).1 (-1) (upf c (hK (mtx m) (m 5000 9) p) (c (hK (mtx m) (m 5000 9) p) + 1)) v'))) := fun g g2 => by
        obtain ⟨b1, b2, b3, b4, b5⟩ := hrb g
        have he := hre g
        rw [if_pos ⟨g, g2⟩] at hC
        have hcb := hc _ g kb.2
        have hc' : cntB (upf c (hK (mtx m) (m 5000 9) p) (c (hK (mtx m) (m 5000 9) p) + 1)) := fun k a b => by
          unfold upf; split
          · omega
          · exact hc k a b
        have hc0' : upf c (hK (mtx m) (m 5000 9) p) (c (hK (mtx m) (m 5000 9) p) + 1) 0 ≤ 1 := by
          unfold upf; split
          · rename_i e0
            rw [← e0] at g2 ⊢
            have : mostK 0 = 1 := rfl
            omega
          · exact hc0
        refine ⟨fun e => ?_, fun e => ?_⟩
        · have he' := he e
          have s2 := sk_b (mtx m) b4
          rw [if_neg (fun z => z e)] at hC
          refine ⟨2 * f' + 2, by omega, rfl, Or.inr (Or.inr (Or.inr (Or.inl ⟨f', _, _, _, rfl, rfl, rfl, rfl, by omega, b4, hc', hc0', b5, fun z => ?_, fun z => ?_, fun z z2 => by omega⟩)))⟩
          · rw [if_neg (by omega)] at hC; exact ⟨b5, by omega, hC⟩
          · rw [if_pos z] at hC; exact ⟨b5, by rw [← hC], by rw [← hC]⟩
        · rw [if_pos e] at hC
          have hR1 : R.1 = (hR (mtx m) (m 5000 9) p c v).1 := by rw [← hC]
          refine ⟨fun q v' vB => ?_, fun v' vB a b d => ?_⟩
          · exact ⟨1, by omega, rfl, Or.inr (Or.inr (Or.inl ⟨_, q, _, v', rfl, rfl, rfl, rfl, by omega, by omega, vB, hR1⟩))⟩
          · exact ⟨2 * f' + 2, by omega, rfl, Or.inr (Or.inr (Or.inr (Or.inl ⟨f', _, _, v', rfl, rfl, rfl, rfl, by omega, by omega, hc', hc0', vB, fun z => absurd (by rw [d] at z; exact z) b, fun z => absurd (by rw [d] at z; exact z) a, fun z z2 => by rw [d]; exact hR1⟩)))⟩
      refine ⟨60, ?_⟩
      simp only [↓reduceIte, inR_0, inR_1, inR_m, vSw2_e, swP_n, swP_c, vI_e, vL_e, vNull_e, vIload_e, vLload_e, vAload_e, vIstore_e, vLstore_e, vAstore_e, vIinc_e, vIadd_e, vIsub_e, vImul_e, vIand_e, vIor_e, vIxor_e, vIshl_e, vIshr_e, vIushr_e, vIdiv_e, vIrem_e, vLadd_e, vLsub_e, vLmul_e, vLand_e, vLor_e, vLxor_e, vLdiv_e, vLrem_e, vLushr_e, vLshl_e, vLcmp_e, vIneg_e, vI2l_e, vL2i_e, vI2b_e, vI2c_e, vDup_e, vPop_e, vDup2_e, vGoto_e, vIcEq_e, vIfEq_e, vIcNe_e, vIfNe_e, vIcLt_e, vIfLt_e, vIcGe_e, vIfGe_e, vIcGt_e, vIfGt_e, vIcLe_e, vIfLe_e, vNonnull_e, vSw_e, vGetI_e, vGetL_e, vGetR_e, vPutI_e, vPutZ_e, vPutL_e, vPutR_e, vIald_e, vIald_s, vLald_e, vBald_e, vBald_s, vAald_e, vIast_e, vLast_e, vBast_e, vAast_e, vAlen_e8, vAlen_e9, vAlen_e10, vAlen_e11, vAlen_e5, vAlen_e3, vGets_e, vCompact_e, vLdcS_e, vIret_e, vZret_e, vCret_e, vBret_e, vLret_e, vVret_e, vAret_e, vCallM_e0, vCallMV_e0, vCallS_e0, vCallSV_e0, vCallM_e1, vCallMV_e1, vCallS_e1, vCallSV_e1, vCallM_e2, vCallMV_e2, vCallS_e2, vCallSV_e2, vCallM_e3, vCallMV_e3, vCallS_e3, vCallSV_e3, vCallM_e4, vCallMV_e4, vCallS_e4, vCallSV_e4, vCallM_e5, vCallMV_e5, vCallS_e5, vCallSV_e5, vCallM_e6, vCallMV_e6, vCallS_e6, vCallSV_e6, vCallM_e7, vCallMV_e7, vCallS_e7, vCallSV_e7, vBad_e, vStrVal_e, vStrCod_e, vForm_e, vCallT_e0, vCallT_e1, vCallT_e2, vCopy_e, rf_0_0, rf_0_1, rf_0_2, rf_0_3, rf_0_4, rf_0_7, rf_0_10, rf_0_11, rf_0_12, rf_0_13, rf_0_14, rf_0_15, rf_0_16, rf_1_0, rf_3_0, rf_3_1, rf_6_0, rf_6_1, rf_9_0, rf_9_1, rf_9_3, rf_13_0, rf_13_1, rf_13_2, rf_16_0, rf_16_1, rf_16_2, rf_16_3, rf_21_0, rf_21_1, rf_21_2, rf_21_3, rf_26_0, rf_26_1, rf_26_2, rf_26_3, rf_26_4, rf_26_5, rf_26_6, rf_31_0, rf_31_2, rf_31_5, rf_31_6, rf_36_0, rf_36_1, rf_36_2, rf_36_3, rf_39_0, rf_39_1, rf_39_2, rf_41_0, rf_41_1, rf_41_2, rf_41_3, rf_5000_1, rf_5000_2, rf_5000_3, rf_5000_4, rf_5000_5, rf_5000_15, rf_5000_16, rf_5000_18, rf_5000_19, rf_5000_20, rf_5000_21, rf_5000_22, rf_5000_23, rf_5000_24, rf_5000_25, rf_5000_26, rf_5000_27, rf_5000_36, rf_5000_37, rf_5000_40, rf_5000_41, rf_5000_42, rf_5000_43, rf_5000_44, rf_5000_45, rf_5000_47, rf_5000_52, rf_5000_54, rf_5000_55, rf_100_0, rf_100_1, rf_103_0, rf_103_1, rf_106_0, rf_106_1, rf_109_0, rf_109_1, al_2, al_4, al_5, al_7, al_8, al_10, al_11, al_12, al_14, al_15, al_17, al_18, al_19, al_20, al_22, al_23, al_24, al_25, al_27, al_28, al_29, al_30, al_32, al_33, al_34, al_35, al_37, al_38, al_40, al_42, al_5001, al_5002, al_5003, al_5004, al_5005, al_5006, al_5007, al_5008, al_5009, al_5010, al_5011, al_5012, al_5013, al_5014, al_5015, al_5016, al_5017, al_5018, al_5019, al_5020, al_5021, al_5022, al_5023, al_5024, al_5025, al_5026, al_9000, al_101, al_102, al_104, al_105, al_107, al_108, al_110, al_111, vcs_e, lg_c0, lg_cs, lg_nil, set_c0, set_cs, okst_0, okst_s, acok_n, acok_c, List.contains_nil, List.contains_cons, Bool.or_false, Bool.false_or, Bool.false_eq_true, if_false, if_true, ite_self, ne_eq, true_and, and_true, not_false_eq_true, not_true_eq_false, false_imp_iff, true_imp_iff, Nat.ble_eq, Bool.and_eq_true, reduceCtorEq, or_false, false_or, or_true, true_or, false_and, and_false, and_self, Int.reduceLE, Int.reduceAdd, Int.reduceSub, Int.reduceMul, Int.reduceNeg, Int.reduceLT, Int.reduceEq, Int.reduceNe, Nat.reduceBEq, Nat.reduceBNe, Nat.reduceEqDiff, amCmp_in, amCmp_lt, amCmp_le, amCmp_gt, amCmp_ge, amCmp_eq, amCmp_ne, Nat.reduceLeDiff, Nat.reduceSub, Bool.and_true, Bool.true_and, Bool.and_self, Bool.or_true, Bool.true_or, isRf_3, isRf_4, isRf_5, isRf_8, isRf_9, isRf_10, isRf_11, isRf_15, isRf_16, isRf_17, isRf_18, isRf_19, isRf_20, isRf_21, isRf_22, isRf_23, isRf_24, isRf_25, isRf_26, isRf_27, isRf_28, k_X12_readHouse_0, k_X12_readHouse_1, k_X12_readHouse_2, k_X12_readHouse_5, k_X12_readHouse_6, k_X12_readHouse_7, k_X12_readHouse_10, k_X12_readHouse_13, k_X12_readHouse_14, k_X12_readHouse_15, k_X12_readHouse_18, k_X12_readHouse_19, k_X12_readHouse_20, k_X12_readHouse_23, k_X12_readHouse_24, k_X12_readHouse_25, k_X12_readHouse_28, k_X12_readHouse_29, k_X12_readHouse_30, k_X12_readHouse_33, k_X12_readHouse_34, k_X12_readHouse_35, k_X12_readHouse_36, k_X12_readHouse_37, k_X12_readHouse_40, k_X12_readHouse_41, k_X12_readHouse_44, k_X12_readHouse_45, k_X12_readHouse_47, k_X12_readHouse_48, k_X12_readHouse_51, k_X12_readHouse_52, k_X12_readHouse_55, k_X12_readHouse_58, k_X12_readHouse_59, k_X12_readHouse_60, k_X12_readHouse_61, k_X12_readHouse_64, k_X12_readHouse_65, k_X12_readHouse_68, k_X12_readHouse_69, k_X12_readHouse_72, k_X12_readHouse_73, k_X12_readHouse_76, k_X12_readHouse_77, k_X12_readHouse_80, k_X12_readHouse_81, k_X12_readHouse_84, k_X12_readHouse_85, k_X12_readHouse_88, k_X12_readHouse_90, k_X12_readHouse_93, k_X12_readHouse_94, k_X12_readHouse_97, k_X12_readHouse_98, k_X12_readHouse_99, k_X12_readHouse_100, k_X12_readHouse_103, k_X12_readHouse_104, k_X12_readHouse_105, k_X12_readHouse_108, k_X12_readHouse_109, k_X12_readHouse_110, k_X12_readHouse_113, k_X12_readHouse_116, k_X12_readHouse_117, k_X12_readHouse_120, k_X12_readHouse_121, k_X12_readHouse_124, k_X12_readHouse_125, k_X12_readHouse_128, k_X12_readHouse_129, k_X12_readHouse_132, k_X12_readHouse_133, k_X12_readHouse_136, k_X12_readHouse_139, k_X12_readHouse_140, k_X12_readHouse_143, k_X12_readHouse_144, w_X12_fails_e, w_X12_isWhole_e, w_X12_look_e, w_X12_readClause_e, w_X12_starts_e, w_X12_usual_e, ho_11]
      repeat' (first | apply And.intro | intro _)
      all_goals first | omega | exact absurd trivial (by assumption) | skip
      all_goals (exact ⟨m, p, c, v, rfl, ht, p0, p1, hc, hc0, hv, jA, jB⟩)
    · have i9 : ∃ k', k' < 1 ∧ inv_rho m v0 R k' 60 [(28, 5000), (0, 0)] [] (hoN m q x c v) := ⟨0, by omega, rfl, Or.inr (Or.inr (Or.inr (Or.inr (Or.inl ⟨x, q, c, v, rfl, rfl, rfl, rfl, x0, x1, vB, hx⟩))))⟩
      have xn : ¬ x = -1 := by omega
      refine ⟨60, ?_⟩
      simp only [↓reduceIte, inR_0, inR_1, inR_m, vSw2_e, swP_n, swP_c, vI_e, vL_e, vNull_e, vIload_e, vLload_e, vAload_e, vIstore_e, vLstore_e, vAstore_e, vIinc_e, vIadd_e, vIsub_e, vImul_e, vIand_e, vIor_e, vIxor_e, vIshl_e, vIshr_e, vIushr_e, vIdiv_e, vIrem_e, vLadd_e, vLsub_e, vLmul_e, vLand_e, vLor_e, vLxor_e, vLdiv_e, vLrem_e, vLushr_e, vLshl_e, vLcmp_e, vIneg_e, vI2l_e, vL2i_e, vI2b_e, vI2c_e, vDup_e, vPop_e, vDup2_e, vGoto_e, vIcEq_e, vIfEq_e, vIcNe_e, vIfNe_e, vIcLt_e, vIfLt_e, vIcGe_e, vIfGe_e, vIcGt_e, vIfGt_e, vIcLe_e, vIfLe_e, vNonnull_e, vSw_e, vGetI_e, vGetL_e, vGetR_e, vPutI_e, vPutZ_e, vPutL_e, vPutR_e, vIald_e, vIald_s, vLald_e, vBald_e, vBald_s, vAald_e, vIast_e, vLast_e, vBast_e, vAast_e, vAlen_e8, vAlen_e9, vAlen_e10, vAlen_e11, vAlen_e5, vAlen_e3, vGets_e, vCompact_e, vLdcS_e, vIret_e, vZret_e, vCret_e, vBret_e, vLret_e, vVret_e, vAret_e, vCallM_e0, vCallMV_e0, vCallS_e0, vCallSV_e0, vCallM_e1, vCallMV_e1, vCallS_e1, vCallSV_e1, vCallM_e2, vCallMV_e2, vCallS_e2, vCallSV_e2, vCallM_e3, vCallMV_e3, vCallS_e3, vCallSV_e3, vCallM_e4, vCallMV_e4, vCallS_e4, vCallSV_e4, vCallM_e5, vCallMV_e5, vCallS_e5, vCallSV_e5, vCallM_e6, vCallMV_e6, vCallS_e6, vCallSV_e6, vCallM_e7, vCallMV_e7, vCallS_e7, vCallSV_e7, vBad_e, vStrVal_e, vStrCod_e, vForm_e, vCallT_e0, vCallT_e1, vCallT_e2, vCopy_e, rf_0_0, rf_0_1, rf_0_2, rf_0_3, rf_0_4, rf_0_7, rf_0_10, rf_0_11, rf_0_12, rf_0_13, rf_0_14, rf_0_15, rf_0_16, rf_1_0, rf_3_0, rf_3_1, rf_6_0, rf_6_1, rf_9_0, rf_9_1, rf_9_3, rf_13_0, rf_13_1, rf_13_2, rf_16_0, rf_16_1, rf_16_2, rf_16_3, rf_21_0, rf_21_1, rf_21_2, rf_21_3, rf_26_0, rf_26_1, rf_26_2, rf_26_3, rf_26_4, rf_26_5, rf_26_6, rf_31_0, rf_31_2, rf_31_5, rf_31_6, rf_36_0, rf_36_1, rf_36_2, rf_36_3, rf_39_0, rf_39_1, rf_39_2, rf_41_0, rf_41_1, rf_41_2, rf_41_3, rf_5000_1, rf_5000_2, rf_5000_3, rf_5000_4, rf_5000_5, rf_5000_15, rf_5000_16, rf_5000_18, rf_5000_19, rf_5000_20, rf_5000_21, rf_5000_22, rf_5000_23, rf_5000_24, rf_5000_25, rf_5000_26, rf_5000_27, rf_5000_36, rf_5000_37, rf_5000_40, rf_5000_41, rf_5000_42, rf_5000_43, rf_5000_44, rf_5000_45, rf_5000_47, rf_5000_52, rf_5000_54, rf_5000_55, rf_100_0, rf_100_1, rf_103_0, rf_103_1, rf_106_0, rf_106_1, rf_109_0, rf_109_1, al_2, al_4, al_5, al_7, al_8, al_10, al_11, al_12, al_14, al_15, al_17, al_18, al_19, al_20, al_22, al_23, al_24, al_25, al_27, al_28, al_29, al_30, al_32, al_33, al_34, al_35, al_37, al_38, al_40, al_42, al_5001, al_5002, al_5003, al_5004, al_5005, al_5006, al_5007, al_5008, al_5009, al_5010, al_5011, al_5012, al_5013, al_5014, al_5015, al_5016, al_5017, al_5018, al_5019, al_5020, al_5021, al_5022, al_5023, al_5024, al_5025, al_5026, al_9000, al_101, al_102, al_104, al_105, al_107, al_108, al_110, al_111, vcs_e, lg_c0, lg_cs, lg_nil, set_c0, set_cs, okst_0, okst_s, acok_n, acok_c, List.contains_nil, List.contains_cons, Bool.or_false, Bool.false_or, Bool.false_eq_true, if_false, if_true, ite_self, ne_eq, true_and, and_true, not_false_eq_true, not_true_eq_false, false_imp_iff, true_imp_iff, Nat.ble_eq, Bool.and_eq_true, reduceCtorEq, or_false, false_or, or_true, true_or, false_and, and_false, and_self, Int.reduceLE, Int.reduceAdd, Int.reduceSub, Int.reduceMul, Int.reduceNeg, Int.reduceLT, Int.reduceEq, Int.reduceNe, Nat.reduceBEq, Nat.reduceBNe, Nat.reduceEqDiff, amCmp_in, amCmp_lt, amCmp_le, amCmp_gt, amCmp_ge, amCmp_eq, amCmp_ne, Nat.reduceLeDiff, Nat.reduceSub, Bool.and_true, Bool.true_and, Bool.and_self, Bool.or_true, Bool.true_or, isRf_3, isRf_4, isRf_5, isRf_8, isRf_9, isRf_10, isRf_11, isRf_15, isRf_16, isRf_17, isRf_18, isRf_19, isRf_20, isRf_21, isRf_22, isRf_23, isRf_24, isRf_25, isRf_26, isRf_27, isRf_28, k_X12_readHouse_0, k_X12_readHouse_1, k_X12_readHouse_2, k_X12_readHouse_5, k_X12_readHouse_6, k_X12_readHouse_7, k_X12_readHouse_10, k_X12_readHouse_13, k_X12_readHouse_14, k_X12_readHouse_15, k_X12_readHouse_18, k_X12_readHouse_19, k_X12_readHouse_20, k_X12_readHouse_23, k_X12_readHouse_24, k_X12_readHouse_25, k_X12_readHouse_28, k_X12_readHouse_29, k_X12_readHouse_30, k_X12_readHouse_33, k_X12_readHouse_34, k_X12_readHouse_35, k_X12_readHouse_36, k_X12_readHouse_37, k_X12_readHouse_40, k_X12_readHouse_41, k_X12_readHouse_44, k_X12_readHouse_45, k_X12_readHouse_47, k_X12_readHouse_48, k_X12_readHouse_51, k_X12_readHouse_52, k_X12_readHouse_55, k_X12_readHouse_58, k_X12_readHouse_59, k_X12_readHouse_60, k_X12_readHouse_61, k_X12_readHouse_64, k_X12_readHouse_65, k_X12_readHouse_68, k_X12_readHouse_69, k_X12_readHouse_72, k_X12_readHouse_73, k_X12_readHouse_76, k_X12_readHouse_77, k_X12_readHouse_80, k_X12_readHouse_81, k_X12_readHouse_84, k_X12_readHouse_85, k_X12_readHouse_88, k_X12_readHouse_90, k_X12_readHouse_93, k_X12_readHouse_94, k_X12_readHouse_97, k_X12_readHouse_98, k_X12_readHouse_99, k_X12_readHouse_100, k_X12_readHouse_103, k_X12_readHouse_104, k_X12_readHouse_105, k_X12_readHouse_108, k_X12_readHouse_109, k_X12_readHouse_110, k_X12_readHouse_113, k_X12_readHouse_116, k_X12_readHouse_117, k_X12_readHouse_120, k_X12_readHouse_121, k_X12_readHouse_124, k_X12_readHouse_125, k_X12_readHouse_128, k_X12_readHouse_129, k_X12_readHouse_132, k_X12_readHouse_133, k_X12_readHouse_136, k_X12_readHouse_139, k_X12_readHouse_140, k_X12_readHouse_143, k_X12_readHouse_144, w_X12_fails_e, w_X12_isWhole_e, w_X12_look_e, w_X12_readClause_e, w_X12_starts_e, w_X12_usual_e, ho_11, xn]
      repeat' (first | apply And.intro | intro _)
      all_goals first | omega | exact absurd trivial (by assumption) | exact i9
    · have s1 := sk_b (mtx m) p1
      have b1 := mtx_b ht (sk (mtx m) (m 5000 9) p)
      have ss := sk_sk (mtx m) p1
      have i9 : mtx m (sk (mtx m) (m 5000 9) p) = 59 → ∃ k', k' < 2 * f + 2 ∧ inv_rho m v0 R k' 60 [(28, 5000), (0, 1)] [] (hoN m (sk (mtx m) (m 5000 9) p + 1) (-1) c v) := fun e => by
        obtain ⟨a1, a2, a3⟩ := hA e
        have s2 := sk_lt hte (q := sk (mtx m) (m 5000 9) p) (by omega)
        exact ⟨2 * f + 1, by omega, rfl, Or.inr (Or.inl ⟨f, _, c, v, rfl, rfl, rfl, rfl, by omega, by omega, by omega, hc, hc0, a1, a3⟩)⟩
      have i8 : mtx m (sk (mtx m) (m 5000 9) p) ≠ 59 → ∃ k', k' < 2 * f + 2 ∧ inv_rho m v0 R k' 60 [(28, 5000), (0, 0)] [] (hoN m (sk (mtx m) (m 5000 9) p) (-1) c v) := fun e =>
        ⟨0, by omega, rfl, Or.inr (Or.inr (Or.inr (Or.inr (Or.inr ⟨_, c, v, rfl, rfl, rfl, rfl, by omega, by omega, hc, vB, ss, hB, fun z => hD e z⟩))))⟩
      refine ⟨60, ?_⟩
      simp only [↓reduceIte, inR_0, inR_1, inR_m, vSw2_e, swP_n, swP_c, vI_e, vL_e, vNull_e, vIload_e, vLload_e, vAload_e, vIstore_e, vLstore_e, vAstore_e, vIinc_e, vIadd_e, vIsub_e, vImul_e, vIand_e, vIor_e, vIxor_e, vIshl_e, vIshr_e, vIushr_e, vIdiv_e, vIrem_e, vLadd_e, vLsub_e, vLmul_e, vLand_e, vLor_e, vLxor_e, vLdiv_e, vLrem_e, vLushr_e, vLshl_e, vLcmp_e, vIneg_e, vI2l_e, vL2i_e, vI2b_e, vI2c_e, vDup_e, vPop_e, vDup2_e, vGoto_e, vIcEq_e, vIfEq_e, vIcNe_e, vIfNe_e, vIcLt_e, vIfLt_e, vIcGe_e, vIfGe_e, vIcGt_e, vIfGt_e, vIcLe_e, vIfLe_e, vNonnull_e, vSw_e, vGetI_e, vGetL_e, vGetR_e, vPutI_e, vPutZ_e, vPutL_e, vPutR_e, vIald_e, vIald_s, vLald_e, vBald_e, vBald_s, vAald_e, vIast_e, vLast_e, vBast_e, vAast_e, vAlen_e8, vAlen_e9, vAlen_e10, vAlen_e11, vAlen_e5, vAlen_e3, vGets_e, vCompact_e, vLdcS_e, vIret_e, vZret_e, vCret_e, vBret_e, vLret_e, vVret_e, vAret_e, vCallM_e0, vCallMV_e0, vCallS_e0, vCallSV_e0, vCallM_e1, vCallMV_e1, vCallS_e1, vCallSV_e1, vCallM_e2, vCallMV_e2, vCallS_e2, vCallSV_e2, vCallM_e3, vCallMV_e3, vCallS_e3, vCallSV_e3, vCallM_e4, vCallMV_e4, vCallS_e4, vCallSV_e4, vCallM_e5, vCallMV_e5, vCallS_e5, vCallSV_e5, vCallM_e6, vCallMV_e6, vCallS_e6, vCallSV_e6, vCallM_e7, vCallMV_e7, vCallS_e7, vCallSV_e7, vBad_e, vStrVal_e, vStrCod_e, vForm_e, vCallT_e0, vCallT_e1, vCallT_e2, vCopy_e, rf_0_0, rf_0_1, rf_0_2, rf_0_3, rf_0_4, rf_0_7, rf_0_10, rf_0_11, rf_0_12, rf_0_13, rf_0_14, rf_0_15, rf_0_16, rf_1_0, rf_3_0, rf_3_1, rf_6_0, rf_6_1, rf_9_0, rf_9_1, rf_9_3, rf_13_0, rf_13_1, rf_13_2, rf_16_0, rf_16_1, rf_16_2, rf_16_3, rf_21_0, rf_21_1, rf_21_2, rf_21_3, rf_26_0, rf_26_1, rf_26_2, rf_26_3, rf_26_4, rf_26_5, rf_26_6, rf_31_0, rf_31_2, rf_31_5, rf_31_6, rf_36_0, rf_36_1, rf_36_2, rf_36_3, rf_39_0, rf_39_1, rf_39_2, rf_41_0, rf_41_1, rf_41_2, rf_41_3, rf_5000_1, rf_5000_2, rf_5000_3, rf_5000_4, rf_5000_5, rf_5000_15, rf_5000_16, rf_5000_18, rf_5000_19, rf_5000_20, rf_5000_21, rf_5000_22, rf_5000_23, rf_5000_24, rf_5000_25, rf_5000_26, rf_5000_27, rf_5000_36, rf_5000_37, rf_5000_40, rf_5000_41, rf_5000_42, rf_5000_43, rf_5000_44, rf_5000_45, rf_5000_47, rf_5000_52, rf_5000_54, rf_5000_55, rf_100_0, rf_100_1, rf_103_0, rf_103_1, rf_106_0, rf_106_1, rf_109_0, rf_109_1, al_2, al_4, al_5, al_7, al_8, al_10, al_11, al_12, al_14, al_15, al_17, al_18, al_19, al_20, al_22, al_23, al_24, al_25, al_27, al_28, al_29, al_30, al_32, al_33, al_34, al_35, al_37, al_38, al_40, al_42, al_5001, al_5002, al_5003, al_5004, al_5005, al_5006, al_5007, al_5008, al_5009, al_5010, al_5011, al_5012, al_5013, al_5014, al_5015, al_5016, al_5017, al_5018, al_5019, al_5020, al_5021, al_5022, al_5023, al_5024, al_5025, al_5026, al_9000, al_101, al_102, al_104, al_105, al_107, al_108, al_110, al_111, vcs_e, lg_c0, lg_cs, lg_nil, set_c0, set_cs, okst_0, okst_s, acok_n, acok_c, List.contains_nil, List.contains_cons, Bool.or_false, Bool.false_or, Bool.false_eq_true, if_false, if_true, ite_self, ne_eq, true_and, and_true, not_false_eq_true, not_true_eq_false, false_imp_iff, true_imp_iff, Nat.ble_eq, Bool.and_eq_true, reduceCtorEq, or_false, false_or, or_true, true_or, false_and, and_false, and_self, Int.reduceLE, Int.reduceAdd, Int.reduceSub, Int.reduceMul, Int.reduceNeg, Int.reduceLT, Int.reduceEq, Int.reduceNe, Nat.reduceBEq, Nat.reduceBNe, Nat.reduceEqDiff, amCmp_in, amCmp_lt, amCmp_le, amCmp_gt, amCmp_ge, amCmp_eq, amCmp_ne, Nat.reduceLeDiff, Nat.reduceSub, Bool.and_true, Bool.true_and, Bool.and_self, Bool.or_true, Bool.true_or, isRf_3, isRf_4, isRf_5, isRf_8, isRf_9, isRf_10, isRf_11, isRf_15, isRf_16, isRf_17, isRf_18, isRf_19, isRf_20, isRf_21, isRf_22, isRf_23, isRf_24, isRf_25, isRf_26, isRf_27, isRf_28, k_X12_readHouse_0, k_X12_readHouse_1, k_X12_readHouse_2, k_X12_readHouse_5, k_X12_readHouse_6, k_X12_readHouse_7, k_X12_readHouse_10, k_X12_readHouse_13, k_X12_readHouse_14, k_X12_readHouse_15, k_X12_readHouse_18, k_X12_readHouse_19, k_X12_readHouse_20, k_X12_readHouse_23, k_X12_readHouse_24, k_X12_readHouse_25, k_X12_readHouse_28, k_X12_readHouse_29, k_X12_readHouse_30, k_X12_readHouse_33, k_X12_readHouse_34, k_X12_readHouse_35, k_X12_readHouse_36, k_X12_readHouse_37, k_X12_readHouse_40, k_X12_readHouse_41, k_X12_readHouse_44, k_X12_readHouse_45, k_X12_readHouse_47, k_X12_readHouse_48, k_X12_readHouse_51, k_X12_readHouse_52, k_X12_readHouse_55, k_X12_readHouse_58, k_X12_readHouse_59, k_X12_readHouse_60, k_X12_readHouse_61, k_X12_readHouse_64, k_X12_readHouse_65, k_X12_readHouse_68, k_X12_readHouse_69, k_X12_readHouse_72, k_X12_readHouse_73, k_X12_readHouse_76, k_X12_readHouse_77, k_X12_readHouse_80, k_X12_readHouse_81, k_X12_readHouse_84, k_X12_readHouse_85, k_X12_readHouse_88, k_X12_readHouse_90, k_X12_readHouse_93, k_X12_readHouse_94, k_X12_readHouse_97, k_X12_readHouse_98, k_X12_readHouse_99, k_X12_readHouse_100, k_X12_readHouse_103, k_X12_readHouse_104, k_X12_readHouse_105, k_X12_readHouse_108, k_X12_readHouse_109, k_X12_readHouse_110, k_X12_readHouse_113, k_X12_readHouse_116, k_X12_readHouse_117, k_X12_readHouse_120, k_X12_readHouse_121, k_X12_readHouse_124, k_X12_readHouse_125, k_X12_readHouse_128, k_X12_readHouse_129, k_X12_readHouse_132, k_X12_readHouse_133, k_X12_readHouse_136, k_X12_readHouse_139, k_X12_readHouse_140, k_X12_readHouse_143, k_X12_readHouse_144, w_X12_fails_e, w_X12_isWhole_e, w_X12_look_e, w_X12_readClause_e, w_X12_starts_e, w_X12_usual_e, msk, Mt, MtO, ho_10, ho_9, ho_11, ho_u10]
      repeat' (first | apply And.intro | intro _)
      all_goals first | omega | exact absurd trivial (by assumption) | exact i9 (by assumption) | exact i8 (by assumption) | exact i8 (by omega) | exact ⟨by omega, by omega⟩
    · have q9 := fF x q c v vB hx x0
      have xn : ¬ x = -1 := by omega
      refine ⟨60, ?_⟩
      simp only [↓reduceIte, inR_0, inR_1, inR_m, vSw2_e, swP_n, swP_c, vI_e, vL_e, vNull_e, vIload_e, vLload_e, vAload_e, vIstore_e, vLstore_e, vAstore_e, vIinc_e, vIadd_e, vIsub_e, vImul_e, vIand_e, vIor_e, vIxor_e, vIshl_e, vIshr_e, vIushr_e, vIdiv_e, vIrem_e, vLadd_e, vLsub_e, vLmul_e, vLand_e, vLor_e, vLxor_e, vLdiv_e, vLrem_e, vLushr_e, vLshl_e, vLcmp_e, vIneg_e, vI2l_e, vL2i_e, vI2b_e, vI2c_e, vDup_e, vPop_e, vDup2_e, vGoto_e, vIcEq_e, vIfEq_e, vIcNe_e, vIfNe_e, vIcLt_e, vIfLt_e, vIcGe_e, vIfGe_e, vIcGt_e, vIfGt_e, vIcLe_e, vIfLe_e, vNonnull_e, vSw_e, vGetI_e, vGetL_e, vGetR_e, vPutI_e, vPutZ_e, vPutL_e, vPutR_e, vIald_e, vIald_s, vLald_e, vBald_e, vBald_s, vAald_e, vIast_e, vLast_e, vBast_e, vAast_e, vAlen_e8, vAlen_e9, vAlen_e10, vAlen_e11, vAlen_e5, vAlen_e3, vGets_e, vCompact_e, vLdcS_e, vIret_e, vZret_e, vCret_e, vBret_e, vLret_e, vVret_e, vAret_e, vCallM_e0, vCallMV_e0, vCallS_e0, vCallSV_e0, vCallM_e1, vCallMV_e1, vCallS_e1, vCallSV_e1, vCallM_e2, vCallMV_e2, vCallS_e2, vCallSV_e2, vCallM_e3, vCallMV_e3, vCallS_e3, vCallSV_e3, vCallM_e4, vCallMV_e4, vCallS_e4, vCallSV_e4, vCallM_e5, vCallMV_e5, vCallS_e5, vCallSV_e5, vCallM_e6, vCallMV_e6, vCallS_e6, vCallSV_e6, vCallM_e7, vCallMV_e7, vCallS_e7, vCallSV_e7, vBad_e, vStrVal_e, vStrCod_e, vForm_e, vCallT_e0, vCallT_e1, vCallT_e2, vCopy_e, rf_0_0, rf_0_1, rf_0_2, rf_0_3, rf_0_4, rf_0_7, rf_0_10, rf_0_11, rf_0_12, rf_0_13, rf_0_14, rf_0_15, rf_0_16, rf_1_0, rf_3_0, rf_3_1, rf_6_0, rf_6_1, rf_9_0, rf_9_1, rf_9_3, rf_13_0, rf_13_1, rf_13_2, rf_16_0, rf_16_1, rf_16_2, rf_16_3, rf_21_0, rf_21_1, rf_21_2, rf_21_3, rf_26_0, rf_26_1, rf_26_2, rf_26_3, rf_26_4, rf_26_5, rf_26_6, rf_31_0, rf_31_2, rf_31_5, rf_31_6, rf_36_0, rf_36_1, rf_36_2, rf_36_3, rf_39_0, rf_39_1, rf_39_2, rf_41_0, rf_41_1, rf_41_2, rf_41_3, rf_5000_1, rf_5000_2, rf_5000_3, rf_5000_4, rf_5000_5, rf_5000_15, rf_5000_16, rf_5000_18, rf_5000_19, rf_5000_20, rf_5000_21, rf_5000_22, rf_5000_23, rf_5000_24, rf_5000_25, rf_5000_26, rf_5000_27, rf_5000_36, rf_5000_37, rf_5000_40, rf_5000_41, rf_5000_42, rf_5000_43, rf_5000_44, rf_5000_45, rf_5000_47, rf_5000_52, rf_5000_54, rf_5000_55, rf_100_0, rf_100_1, rf_103_0, rf_103_1, rf_106_0, rf_106_1, rf_109_0, rf_109_1, al_2, al_4, al_5, al_7, al_8, al_10, al_11, al_12, al_14, al_15, al_17, al_18, al_19, al_20, al_22, al_23, al_24, al_25, al_27, al_28, al_29, al_30, al_32, al_33, al_34, al_35, al_37, al_38, al_40, al_42, al_5001, al_5002, al_5003, al_5004, al_5005, al_5006, al_5007, al_5008, al_5009, al_5010, al_5011, al_5012, al_5013, al_5014, al_5015, al_5016, al_5017, al_5018, al_5019, al_5020, al_5021, al_5022, al_5023, al_5024, al_5025, al_5026, al_9000, al_101, al_102, al_104, al_105, al_107, al_108, al_110, al_111, vcs_e, lg_c0, lg_cs, lg_nil, set_c0, set_cs, okst_0, okst_s, acok_n, acok_c, List.contains_nil, List.contains_cons, Bool.or_false, Bool.false_or, Bool.false_eq_true, if_false, if_true, ite_self, ne_eq, true_and, and_true, not_false_eq_true, not_true_eq_false, false_imp_iff, true_imp_iff, Nat.ble_eq, Bool.and_eq_true, reduceCtorEq, or_false, false_or, or_true, true_or, false_and, and_false, and_self, Int.reduceLE, Int.reduceAdd, Int.reduceSub, Int.reduceMul, Int.reduceNeg, Int.reduceLT, Int.reduceEq, Int.reduceNe, Nat.reduceBEq, Nat.reduceBNe, Nat.reduceEqDiff, amCmp_in, amCmp_lt, amCmp_le, amCmp_gt, amCmp_ge, amCmp_eq, amCmp_ne, Nat.reduceLeDiff, Nat.reduceSub, Bool.and_true, Bool.true_and, Bool.and_self, Bool.or_true, Bool.true_or, isRf_3, isRf_4, isRf_5, isRf_8, isRf_9, isRf_10, isRf_11, isRf_15, isRf_16, isRf_17, isRf_18, isRf_19, isRf_20, isRf_21, isRf_22, isRf_23, isRf_24, isRf_25, isRf_26, isRf_27, isRf_28, k_X12_readHouse_0, k_X12_readHouse_1, k_X12_readHouse_2, k_X12_readHouse_5, k_X12_readHouse_6, k_X12_readHouse_7, k_X12_readHouse_10, k_X12_readHouse_13, k_X12_readHouse_14, k_X12_readHouse_15, k_X12_readHouse_18, k_X12_readHouse_19, k_X12_readHouse_20, k_X12_readHouse_23, k_X12_readHouse_24, k_X12_readHouse_25, k_X12_readHouse_28, k_X12_readHouse_29, k_X12_readHouse_30, k_X12_readHouse_33, k_X12_readHouse_34, k_X12_readHouse_35, k_X12_readHouse_36, k_X12_readHouse_37, k_X12_readHouse_40, k_X12_readHouse_41, k_X12_readHouse_44, k_X12_readHouse_45, k_X12_readHouse_47, k_X12_readHouse_48, k_X12_readHouse_51, k_X12_readHouse_52, k_X12_readHouse_55, k_X12_readHouse_58, k_X12_readHouse_59, k_X12_readHouse_60, k_X12_readHouse_61, k_X12_readHouse_64, k_X12_readHouse_65, k_X12_readHouse_68, k_X12_readHouse_69, k_X12_readHouse_72, k_X12_readHouse_73, k_X12_readHouse_76, k_X12_readHouse_77, k_X12_readHouse_80, k_X12_readHouse_81, k_X12_readHouse_84, k_X12_readHouse_85, k_X12_readHouse_88, k_X12_readHouse_90, k_X12_readHouse_93, k_X12_readHouse_94, k_X12_readHouse_97, k_X12_readHouse_98, k_X12_readHouse_99, k_X12_readHouse_100, k_X12_readHouse_103, k_X12_readHouse_104, k_X12_readHouse_105, k_X12_readHouse_108, k_X12_readHouse_109, k_X12_readHouse_110, k_X12_readHouse_113, k_X12_readHouse_116, k_X12_readHouse_117, k_X12_readHouse_120, k_X12_readHouse_121, k_X12_readHouse_124, k_X12_readHouse_125, k_X12_readHouse_128, k_X12_readHouse_129, k_X12_readHouse_132, k_X12_readHouse_133, k_X12_readHouse_136, k_X12_readHouse_139, k_X12_readHouse_140, k_X12_readHouse_143, k_X12_readHouse_144, w_X12_fails_e, w_X12_isWhole_e, w_X12_look_e, w_X12_readClause_e, w_X12_starts_e, w_X12_usual_e, ho_11, xn]
      repeat' (first | apply And.intro | intro _)
      all_goals first | omega | exact absurd trivial (by assumption) | exact q9
    · have b1 := mtx_b ht p
      refine ⟨60, ?_⟩
      by_cases e : mtx m p = -1
      · obtain ⟨a1, a2, a3⟩ := hB e
        have ep := mtx_nn ht p0 p1 e
        have q8 : hWhole c v → Q (6, 0) (hoN m p (-1) c v) := fun g => hq _ (hH _ _ _ _) (vof_ho a1) (by rw [ho_11, a2, hfin_t g]) (fun _ => ⟨fun k k0 k1 => by rw [a3, ho_cc _ _ _ _ _ (by omega)]; show c (30 + k - 30) = c k; congr 1; omega, fun b j h => by rw [a3, ho_sl _ _ _ _ _ h]⟩)
        have q9 : ¬ hWhole c v → Q (6, 0) (hoN m p p c v) := fun g => fF p p c v a1 (by rw [a2, hfin_f g, ep]) p0
        simp only [↓reduceIte, inR_0, inR_1, inR_m, vSw2_e, swP_n, swP_c, vI_e, vL_e, vNull_e, vIload_e, vLload_e, vAload_e, vIstore_e, vLstore_e, vAstore_e, vIinc_e, vIadd_e, vIsub_e, vImul_e, vIand_e, vIor_e, vIxor_e, vIshl_e, vIshr_e, vIushr_e, vIdiv_e, vIrem_e, vLadd_e, vLsub_e, vLmul_e, vLand_e, vLor_e, vLxor_e, vLdiv_e, vLrem_e, vLushr_e, vLshl_e, vLcmp_e, vIneg_e, vI2l_e, vL2i_e, vI2b_e, vI2c_e, vDup_e, vPop_e, vDup2_e, vGoto_e, vIcEq_e, vIfEq_e, vIcNe_e, vIfNe_e, vIcLt_e, vIfLt_e, vIcGe_e, vIfGe_e, vIcGt_e, vIfGt_e, vIcLe_e, vIfLe_e, vNonnull_e, vSw_e, vGetI_e, vGetL_e, vGetR_e, vPutI_e, vPutZ_e, vPutL_e, vPutR_e, vIald_e, vIald_s, vLald_e, vBald_e, vBald_s, vAald_e, vIast_e, vLast_e, vBast_e, vAast_e, vAlen_e8, vAlen_e9, vAlen_e10, vAlen_e11, vAlen_e5, vAlen_e3, vGets_e, vCompact_e, vLdcS_e, vIret_e, vZret_e, vCret_e, vBret_e, vLret_e, vVret_e, vAret_e, vCallM_e0, vCallMV_e0, vCallS_e0, vCallSV_e0, vCallM_e1, vCallMV_e1, vCallS_e1, vCallSV_e1, vCallM_e2, vCallMV_e2, vCallS_e2, vCallSV_e2, vCallM_e3, vCallMV_e3, vCallS_e3, vCallSV_e3, vCallM_e4, vCallMV_e4, vCallS_e4, vCallSV_e4, vCallM_e5, vCallMV_e5, vCallS_e5, vCallSV_e5, vCallM_e6, vCallMV_e6, vCallS_e6, vCallSV_e6, vCallM_e7, vCallMV_e7, vCallS_e7, vCallSV_e7, vBad_e, vStrVal_e, vStrCod_e, vForm_e, vCallT_e0, vCallT_e1, vCallT_e2, vCopy_e, rf_0_0, rf_0_1, rf_0_2, rf_0_3, rf_0_4, rf_0_7, rf_0_10, rf_0_11, rf_0_12, rf_0_13, rf_0_14, rf_0_15, rf_0_16, rf_1_0, rf_3_0, rf_3_1, rf_6_0, rf_6_1, rf_9_0, rf_9_1, rf_9_3, rf_13_0, rf_13_1, rf_13_2, rf_16_0, rf_16_1, rf_16_2, rf_16_3, rf_21_0, rf_21_1, rf_21_2, rf_21_3, rf_26_0, rf_26_1, rf_26_2, rf_26_3, rf_26_4, rf_26_5, rf_26_6, rf_31_0, rf_31_2, rf_31_5, rf_31_6, rf_36_0, rf_36_1, rf_36_2, rf_36_3, rf_39_0, rf_39_1, rf_39_2, rf_41_0, rf_41_1, rf_41_2, rf_41_3, rf_5000_1, rf_5000_2, rf_5000_3, rf_5000_4, rf_5000_5, rf_5000_15, rf_5000_16, rf_5000_18, rf_5000_19, rf_5000_20, rf_5000_21, rf_5000_22, rf_5000_23, rf_5000_24, rf_5000_25, rf_5000_26, rf_5000_27, rf_5000_36, rf_5000_37, rf_5000_40, rf_5000_41, rf_5000_42, rf_5000_43, rf_5000_44, rf_5000_45, rf_5000_47, rf_5000_52, rf_5000_54, rf_5000_55, rf_100_0, rf_100_1, rf_103_0, rf_103_1, rf_106_0, rf_106_1, rf_109_0, rf_109_1, al_2, al_4, al_5, al_7, al_8, al_10, al_11, al_12, al_14, al_15, al_17, al_18, al_19, al_20, al_22, al_23, al_24, al_25, al_27, al_28, al_29, al_30, al_32, al_33, al_34, al_35, al_37, al_38, al_40, al_42, al_5001, al_5002, al_5003, al_5004, al_5005, al_5006, al_5007, al_5008, al_5009, al_5010, al_5011, al_5012, al_5013, al_5014, al_5015, al_5016, al_5017, al_5018, al_5019, al_5020, al_5021, al_5022, al_5023, al_5024, al_5025, al_5026, al_9000, al_101, al_102, al_104, al_105, al_107, al_108, al_110, al_111, vcs_e, lg_c0, lg_cs, lg_nil, set_c0, set_cs, okst_0, okst_s, acok_n, acok_c, List.contains_nil, List.contains_cons, Bool.or_false, Bool.false_or, Bool.false_eq_true, if_false, if_true, ite_self, ne_eq, true_and, and_true, not_false_eq_true, not_true_eq_false, false_imp_iff, true_imp_iff, Nat.ble_eq, Bool.and_eq_true, reduceCtorEq, or_false, false_or, or_true, true_or, false_and, and_false, and_self, Int.reduceLE, Int.reduceAdd, Int.reduceSub, Int.reduceMul, Int.reduceNeg, Int.reduceLT, Int.reduceEq, Int.reduceNe, Nat.reduceBEq, Nat.reduceBNe, Nat.reduceEqDiff, amCmp_in, amCmp_lt, amCmp_le, amCmp_gt, amCmp_ge, amCmp_eq, amCmp_ne, Nat.reduceLeDiff, Nat.reduceSub, Bool.and_true, Bool.true_and, Bool.and_self, Bool.or_true, Bool.true_or, isRf_3, isRf_4, isRf_5, isRf_8, isRf_9, isRf_10, isRf_11, isRf_15, isRf_16, isRf_17, isRf_18, isRf_19, isRf_20, isRf_21, isRf_22, isRf_23, isRf_24, isRf_25, isRf_26, isRf_27, isRf_28, k_X12_readHouse_0, k_X12_readHouse_1, k_X12_readHouse_2, k_X12_readHouse_5, k_X12_readHouse_6, k_X12_readHouse_7, k_X12_readHouse_10, k_X12_readHouse_13, k_X12_readHouse_14, k_X12_readHouse_15, k_X12_readHouse_18, k_X12_readHouse_19, k_X12_readHouse_20, k_X12_readHouse_23, k_X12_readHouse_24, k_X12_readHouse_25, k_X12_readHouse_28, k_X12_readHouse_29, k_X12_readHouse_30, k_X12_readHouse_33, k_X12_readHouse_34, k_X12_readHouse_35, k_X12_readHouse_36, k_X12_readHouse_37, k_X12_readHouse_40, k_X12_readHouse_41, k_X12_readHouse_44, k_X12_readHouse_45, k_X12_readHouse_47, k_X12_readHouse_48, k_X12_readHouse_51, k_X12_readHouse_52, k_X12_readHouse_55, k_X12_readHouse_58, k_X12_readHouse_59, k_X12_readHouse_60, k_X12_readHouse_61, k_X12_readHouse_64, k_X12_readHouse_65, k_X12_readHouse_68, k_X12_readHouse_69, k_X12_readHouse_72, k_X12_readHouse_73, k_X12_readHouse_76, k_X12_readHouse_77, k_X12_readHouse_80, k_X12_readHouse_81, k_X12_readHouse_84, k_X12_readHouse_85, k_X12_readHouse_88, k_X12_readHouse_90, k_X12_readHouse_93, k_X12_readHouse_94, k_X12_readHouse_97, k_X12_readHouse_98, k_X12_readHouse_99, k_X12_readHouse_100, k_X12_readHouse_103, k_X12_readHouse_104, k_X12_readHouse_105, k_X12_readHouse_108, k_X12_readHouse_109, k_X12_readHouse_110, k_X12_readHouse_113, k_X12_readHouse_116, k_X12_readHouse_117, k_X12_readHouse_120, k_X12_readHouse_121, k_X12_readHouse_124, k_X12_readHouse_125, k_X12_readHouse_128, k_X12_readHouse_129, k_X12_readHouse_132, k_X12_readHouse_133, k_X12_readHouse_136, k_X12_readHouse_139, k_X12_readHouse_140, k_X12_readHouse_143, k_X12_readHouse_144, w_X12_fails_e, w_X12_isWhole_e, w_X12_look_e, w_X12_readClause_e, w_X12_starts_e, w_X12_usual_e, msk, Mt, MtO, ho_10, ho_9, ho_11, ho_u10, ho_fa, hs, e]
        repeat' (first | apply And.intro | intro _)
        all_goals first | omega | exact absurd trivial (by assumption) | exact ⟨by omega, by omega⟩ | skip
        all_goals (exact ⟨m, p, -1, c, v, rfl, hc, a1, q8, q9⟩)
      · have q9 := fF p p c v vB (hD e) p0
        simp only [↓reduceIte, inR_0, inR_1, inR_m, vSw2_e, swP_n, swP_c, vI_e, vL_e, vNull_e, vIload_e, vLload_e, vAload_e, vIstore_e, vLstore_e, vAstore_e, vIinc_e, vIadd_e, vIsub_e, vImul_e, vIand_e, vIor_e, vIxor_e, vIshl_e, vIshr_e, vIushr_e, vIdiv_e, vIrem_e, vLadd_e, vLsub_e, vLmul_e, vLand_e, vLor_e, vLxor_e, vLdiv_e, vLrem_e, vLushr_e, vLshl_e, vLcmp_e, vIneg_e, vI2l_e, vL2i_e, vI2b_e, vI2c_e, vDup_e, vPop_e, vDup2_e, vGoto_e, vIcEq_e, vIfEq_e, vIcNe_e, vIfNe_e, vIcLt_e, vIfLt_e, vIcGe_e, vIfGe_e, vIcGt_e, vIfGt_e, vIcLe_e, vIfLe_e, vNonnull_e, vSw_e, vGetI_e, vGetL_e, vGetR_e, vPutI_e, vPutZ_e, vPutL_e, vPutR_e, vIald_e, vIald_s, vLald_e, vBald_e, vBald_s, vAald_e, vIast_e, vLast_e, vBast_e, vAast_e, vAlen_e8, vAlen_e9, vAlen_e10, vAlen_e11, vAlen_e5, vAlen_e3, vGets_e, vCompact_e, vLdcS_e, vIret_e, vZret_e, vCret_e, vBret_e, vLret_e, vVret_e, vAret_e, vCallM_e0, vCallMV_e0, vCallS_e0, vCallSV_e0, vCallM_e1, vCallMV_e1, vCallS_e1, vCallSV_e1, vCallM_e2, vCallMV_e2, vCallS_e2, vCallSV_e2, vCallM_e3, vCallMV_e3, vCallS_e3, vCallSV_e3, vCallM_e4, vCallMV_e4, vCallS_e4, vCallSV_e4, vCallM_e5, vCallMV_e5, vCallS_e5, vCallSV_e5, vCallM_e6, vCallMV_e6, vCallS_e6, vCallSV_e6, vCallM_e7, vCallMV_e7, vCallS_e7, vCallSV_e7, vBad_e, vStrVal_e, vStrCod_e, vForm_e, vCallT_e0, vCallT_e1, vCallT_e2, vCopy_e, rf_0_0, rf_0_1, rf_0_2, rf_0_3, rf_0_4, rf_0_7, rf_0_10, rf_0_11, rf_0_12, rf_0_13, rf_0_14, rf_0_15, rf_0_16, rf_1_0, rf_3_0, rf_3_1, rf_6_0, rf_6_1, rf_9_0, rf_9_1, rf_9_3, rf_13_0, rf_13_1, rf_13_2, rf_16_0, rf_16_1, rf_16_2, rf_16_3, rf_21_0, rf_21_1, rf_21_2, rf_21_3, rf_26_0, rf_26_1, rf_26_2, rf_26_3, rf_26_4, rf_26_5, rf_26_6, rf_31_0, rf_31_2, rf_31_5, rf_31_6, rf_36_0, rf_36_1, rf_36_2, rf_36_3, rf_39_0, rf_39_1, rf_39_2, rf_41_0, rf_41_1, rf_41_2, rf_41_3, rf_5000_1, rf_5000_2, rf_5000_3, rf_5000_4, rf_5000_5, rf_5000_15, rf_5000_16, rf_5000_18, rf_5000_19, rf_5000_20, rf_5000_21, rf_5000_22, rf_5000_23, rf_5000_24, rf_5000_25, rf_5000_26, rf_5000_27, rf_5000_36, rf_5000_37, rf_5000_40, rf_5000_41, rf_5000_42, rf_5000_43, rf_5000_44, rf_5000_45, rf_5000_47, rf_5000_52, rf_5000_54, rf_5000_55, rf_100_0, rf_100_1, rf_103_0, rf_103_1, rf_106_0, rf_106_1, rf_109_0, rf_109_1, al_2, al_4, al_5, al_7, al_8, al_10, al_11, al_12, al_14, al_15, al_17, al_18, al_19, al_20, al_22, al_23, al_24, al_25, al_27, al_28, al_29, al_30, al_32, al_33, al_34, al_35, al_37, al_38, al_40, al_42, al_5001, al_5002, al_5003, al_5004, al_5005, al_5006, al_5007, al_5008, al_5009, al_5010, al_5011, al_5012, al_5013, al_5014, al_5015, al_5016, al_5017, al_5018, al_5019, al_5020, al_5021, al_5022, al_5023, al_5024, al_5025, al_5026, al_9000, al_101, al_102, al_104, al_105, al_107, al_108, al_110, al_111, vcs_e, lg_c0, lg_cs, lg_nil, set_c0, set_cs, okst_0, okst_s, acok_n, acok_c, List.contains_nil, List.contains_cons, Bool.or_false, Bool.false_or, Bool.false_eq_true, if_false, if_true, ite_self, ne_eq, true_and, and_true, not_false_eq_true, not_true_eq_false, false_imp_iff, true_imp_iff, Nat.ble_eq, Bool.and_eq_true, reduceCtorEq, or_false, false_or, or_true, true_or, false_and, and_false, and_self, Int.reduceLE, Int.reduceAdd, Int.reduceSub, Int.reduceMul, Int.reduceNeg, Int.reduceLT, Int.reduceEq, Int.reduceNe, Nat.reduceBEq, Nat.reduceBNe, Nat.reduceEqDiff, amCmp_in, amCmp_lt, amCmp_le, amCmp_gt, amCmp_ge, amCmp_eq, amCmp_ne, Nat.reduceLeDiff, Nat.reduceSub, Bool.and_true, Bool.true_and, Bool.and_self, Bool.or_true, Bool.true_or, isRf_3, isRf_4, isRf_5, isRf_8, isRf_9, isRf_10, isRf_11, isRf_15, isRf_16, isRf_17, isRf_18, isRf_19, isRf_20, isRf_21, isRf_22, isRf_23, isRf_24, isRf_25, isRf_26, isRf_27, isRf_28, k_X12_readHouse_0, k_X12_readHouse_1, k_X12_readHouse_2, k_X12_readHouse_5, k_X12_readHouse_6, k_X12_readHouse_7, k_X12_readHouse_10, k_X12_readHouse_13, k_X12_readHouse_14, k_X12_readHouse_15, k_X12_readHouse_18, k_X12_readHouse_19, k_X12_readHouse_20, k_X12_readHouse_23, k_X12_readHouse_24, k_X12_readHouse_25, k_X12_readHouse_28, k_X12_readHouse_29, k_X12_readHouse_30, k_X12_readHouse_33, k_X12_readHouse_34, k_X12_readHouse_35, k_X12_readHouse_36, k_X12_readHouse_37, k_X12_readHouse_40, k_X12_readHouse_41, k_X12_readHouse_44, k_X12_readHouse_45, k_X12_readHouse_47, k_X12_readHouse_48, k_X12_readHouse_51, k_X12_readHouse_52, k_X12_readHouse_55, k_X12_readHouse_58, k_X12_readHouse_59, k_X12_readHouse_60, k_X12_readHouse_61, k_X12_readHouse_64, k_X12_readHouse_65, k_X12_readHouse_68, k_X12_readHouse_69, k_X12_readHouse_72, k_X12_readHouse_73, k_X12_readHouse_76, k_X12_readHouse_77, k_X12_readHouse_80, k_X12_readHouse_81, k_X12_readHouse_84, k_X12_readHouse_85, k_X12_readHouse_88, k_X12_readHouse_90, k_X12_readHouse_93, k_X12_readHouse_94, k_X12_readHouse_97, k_X12_readHouse_98, k_X12_readHouse_99, k_X12_readHouse_100, k_X12_readHouse_103, k_X12_readHouse_104, k_X12_readHouse_105, k_X12_readHouse_108, k_X12_readHouse_109, k_X12_readHouse_110, k_X12_readHouse_113, k_X12_readHouse_116, k_X12_readHouse_117, k_X12_readHouse_120, k_X12_readHouse_121, k_X12_readHouse_124, k_X12_readHouse_125, k_X12_readHouse_128, k_X12_readHouse_129, k_X12_readHouse_132, k_X12_readHouse_133, k_X12_readHouse_136, k_X12_readHouse_139, k_X12_readHouse_140, k_X12_readHouse_143, k_X12_readHouse_144, w_X12_fails_e, w_X12_isWhole_e, w_X12_look_e, w_X12_readClause_e, w_X12_starts_e, w_X12_usual_e, msk, Mt, MtO, ho_10, ho_9, ho_11, ho_u10, ho_fa, hs, e]
        repeat' (first | apply And.intro | intro _)
        all_goals first | omega | exact absurd trivial (by assumption) | exact q9 | exact ⟨by omega, by omega⟩
  · change vcs _ _ _ _ 60 0 [(28, 5000), (6, 0)] [] σ
    have i9 : ∃ k', inv_rho m v0 R k' 35 [(28, 5000), (0, 0)] [] (hoN m 0 (-1) (fun _ => 0) v0) := ⟨2002, rfl, Or.inl ⟨0, rfl, rfl, by rw [show ((0 : Nat) : Int) = 0 from rfl, flv_0], by decide, by decide⟩⟩
    simp only [↓reduceIte, inR_0, inR_1, inR_m, vSw2_e, swP_n, swP_c, vI_e, vL_e, vNull_e, vIload_e, vLload_e, vAload_e, vIstore_e, vLstore_e, vAstore_e, vIinc_e, vIadd_e, vIsub_e, vImul_e, vIand_e, vIor_e, vIxor_e, vIshl_e, vIshr_e, vIushr_e, vIdiv_e, vIrem_e, vLadd_e, vLsub_e, vLmul_e, vLand_e, vLor_e, vLxor_e, vLdiv_e, vLrem_e, vLushr_e, vLshl_e, vLcmp_e, vIneg_e, vI2l_e, vL2i_e, vI2b_e, vI2c_e, vDup_e, vPop_e, vDup2_e, vGoto_e, vIcEq_e, vIfEq_e, vIcNe_e, vIfNe_e, vIcLt_e, vIfLt_e, vIcGe_e, vIfGe_e, vIcGt_e, vIfGt_e, vIcLe_e, vIfLe_e, vNonnull_e, vSw_e, vGetI_e, vGetL_e, vGetR_e, vPutI_e, vPutZ_e, vPutL_e, vPutR_e, vIald_e, vIald_s, vLald_e, vBald_e, vBald_s, vAald_e, vIast_e, vLast_e, vBast_e, vAast_e, vAlen_e8, vAlen_e9, vAlen_e10, vAlen_e11, vAlen_e5, vAlen_e3, vGets_e, vCompact_e, vLdcS_e, vIret_e, vZret_e, vCret_e, vBret_e, vLret_e, vVret_e, vAret_e, vCallM_e0, vCallMV_e0, vCallS_e0, vCallSV_e0, vCallM_e1, vCallMV_e1, vCallS_e1, vCallSV_e1, vCallM_e2, vCallMV_e2, vCallS_e2, vCallSV_e2, vCallM_e3, vCallMV_e3, vCallS_e3, vCallSV_e3, vCallM_e4, vCallMV_e4, vCallS_e4, vCallSV_e4, vCallM_e5, vCallMV_e5, vCallS_e5, vCallSV_e5, vCallM_e6, vCallMV_e6, vCallS_e6, vCallSV_e6, vCallM_e7, vCallMV_e7, vCallS_e7, vCallSV_e7, vBad_e, vStrVal_e, vStrCod_e, vForm_e, vCallT_e0, vCallT_e1, vCallT_e2, vCopy_e, rf_0_0, rf_0_1, rf_0_2, rf_0_3, rf_0_4, rf_0_7, rf_0_10, rf_0_11, rf_0_12, rf_0_13, rf_0_14, rf_0_15, rf_0_16, rf_1_0, rf_3_0, rf_3_1, rf_6_0, rf_6_1, rf_9_0, rf_9_1, rf_9_3, rf_13_0, rf_13_1, rf_13_2, rf_16_0, rf_16_1, rf_16_2, rf_16_3, rf_21_0, rf_21_1, rf_21_2, rf_21_3, rf_26_0, rf_26_1, rf_26_2, rf_26_3, rf_26_4, rf_26_5, rf_26_6, rf_31_0, rf_31_2, rf_31_5, rf_31_6, rf_36_0, rf_36_1, rf_36_2, rf_36_3, rf_39_0, rf_39_1, rf_39_2, rf_41_0, rf_41_1, rf_41_2, rf_41_3, rf_5000_1, rf_5000_2, rf_5000_3, rf_5000_4, rf_5000_5, rf_5000_15, rf_5000_16, rf_5000_18, rf_5000_19, rf_5000_20, rf_5000_21, rf_5000_22, rf_5000_23, rf_5000_24, rf_5000_25, rf_5000_26, rf_5000_27, rf_5000_36, rf_5000_37, rf_5000_40, rf_5000_41, rf_5000_42, rf_5000_43, rf_5000_44, rf_5000_45, rf_5000_47, rf_5000_52, rf_5000_54, rf_5000_55, rf_100_0, rf_100_1, rf_103_0, rf_103_1, rf_106_0, rf_106_1, rf_109_0, rf_109_1, al_2, al_4, al_5, al_7, al_8, al_10, al_11, al_12, al_14, al_15, al_17, al_18, al_19, al_20, al_22, al_23, al_24, al_25, al_27, al_28, al_29, al_30, al_32, al_33, al_34, al_35, al_37, al_38, al_40, al_42, al_5001, al_5002, al_5003, al_5004, al_5005, al_5006, al_5007, al_5008, al_5009, al_5010, al_5011, al_5012, al_5013, al_5014, al_5015, al_5016, al_5017, al_5018, al_5019, al_5020, al_5021, al_5022, al_5023, al_5024, al_5025, al_5026, al_9000, al_101, al_102, al_104, al_105, al_107, al_108, al_110, al_111, vcs_e, lg_c0, lg_cs, lg_nil, set_c0, set_cs, okst_0, okst_s, acok_n, acok_c, List.contains_nil, List.contains_cons, Bool.or_false, Bool.false_or, Bool.false_eq_true, if_false, if_true, ite_self, ne_eq, true_and, and_true, not_false_eq_true, not_true_eq_false, false_imp_iff, true_imp_iff, Nat.ble_eq, Bool.and_eq_true, reduceCtorEq, or_false, false_or, or_true, true_or, false_and, and_false, and_self, Int.reduceLE, Int.reduceAdd, Int.reduceSub, Int.reduceMul, Int.reduceNeg, Int.reduceLT, Int.reduceEq, Int.reduceNe, Nat.reduceBEq, Nat.reduceBNe, Nat.reduceEqDiff, amCmp_in, amCmp_lt, amCmp_le, amCmp_gt, amCmp_ge, amCmp_eq, amCmp_ne, Nat.reduceLeDiff, Nat.reduceSub, Bool.and_true, Bool.true_and, Bool.and_self, Bool.or_true, Bool.true_or, isRf_3, isRf_4, isRf_5, isRf_8, isRf_9, isRf_10, isRf_11, isRf_15, isRf_16, isRf_17, isRf_18, isRf_19, isRf_20, isRf_21, isRf_22, isRf_23, isRf_24, isRf_25, isRf_26, isRf_27, isRf_28, k_X12_readHouse_0, k_X12_readHouse_1, k_X12_readHouse_2, k_X12_readHouse_5, k_X12_readHouse_6, k_X12_readHouse_7, k_X12_readHouse_10, k_X12_readHouse_13, k_X12_readHouse_14, k_X12_readHouse_15, k_X12_readHouse_18, k_X12_readHouse_19, k_X12_readHouse_20, k_X12_readHouse_23, k_X12_readHouse_24, k_X12_readHouse_25, k_X12_readHouse_28, k_X12_readHouse_29, k_X12_readHouse_30, k_X12_readHouse_33, k_X12_readHouse_34, k_X12_readHouse_35, k_X12_readHouse_36, k_X12_readHouse_37, k_X12_readHouse_40, k_X12_readHouse_41, k_X12_readHouse_44, k_X12_readHouse_45, k_X12_readHouse_47, k_X12_readHouse_48, k_X12_readHouse_51, k_X12_readHouse_52, k_X12_readHouse_55, k_X12_readHouse_58, k_X12_readHouse_59, k_X12_readHouse_60, k_X12_readHouse_61, k_X12_readHouse_64, k_X12_readHouse_65, k_X12_readHouse_68, k_X12_readHouse_69, k_X12_readHouse_72, k_X12_readHouse_73, k_X12_readHouse_76, k_X12_readHouse_77, k_X12_readHouse_80, k_X12_readHouse_81, k_X12_readHouse_84, k_X12_readHouse_85, k_X12_readHouse_88, k_X12_readHouse_90, k_X12_readHouse_93, k_X12_readHouse_94, k_X12_readHouse_97, k_X12_readHouse_98, k_X12_readHouse_99, k_X12_readHouse_100, k_X12_readHouse_103, k_X12_readHouse_104, k_X12_readHouse_105, k_X12_readHouse_108, k_X12_readHouse_109, k_X12_readHouse_110, k_X12_readHouse_113, k_X12_readHouse_116, k_X12_readHouse_117, k_X12_readHouse_120, k_X12_readHouse_121, k_X12_readHouse_124, k_X12_readHouse_125, k_X12_readHouse_128, k_X12_readHouse_129, k_X12_readHouse_132, k_X12_readHouse_133, k_X12_readHouse_136, k_X12_readHouse_139, k_X12_readHouse_140, k_X12_readHouse_143, k_X12_readHouse_144, w_X12_fails_e, w_X12_isWhole_e, w_X12_look_e, w_X12_readClause_e, w_X12_starts_e, w_X12_usual_e, hm, e0]
    repeat' (first | apply And.intro | intro _)
    all_goals first | omega | exact absurd trivial (by assumption) | exact i9 | exact Or.inl rfl
/-! the reference: BORNE as asked -/
theorem tryB0 {σ : Mem} (hx : mX σ 5015) : tryB (th0 σ) (tr51 σ) := by
  have l27 := hx.2.2.2.2.2.2
  have h0 := try0 hx
  refine ⟨h0.1, h0.2.1, fun j j0 j1 _ _ => ?_, h0.2.2.2.1, h0.2.2.2.2⟩
  unfold tr51
  rw [up_na _ (by decide), up_na _ (by decide), trC_j l27.1 j0 j1, th_o σ (by decide)]
theorem wd_1884 : Cond.constantLong RX12 477 4 ∈ TBL := tb_tab (List.mem_of_getElem? (i := 1884) (by decide +kernel)) rfl
def a_X12_borne (d : Nat) : AC := [(0, vAload 0 1), (1, vI 0 2), (2, vPutI 28 0 5), (5, vAload 0 6), (6, vGetI 28 29 9), (9, vIfEq 34 12), (12, vIload 1 13), (13, vI2l 14), (14, vL 1 15), (15, vL 4 18), (18, vCallS w_X12_isIn 3 21), (21, vIfEq 34 24), (24, vIload 2 25), (25, vI2l 26), (26, vL 0 27), (27, vL 1 28), (28, vCallS w_X12_isIn 3 31), (31, vIfNe 36 34), (34, vI (-1) 35), (35, vIret), (36, vAload 0 37), (37, vGetR TT 28 36 8 40), (40, vAload 0 41), (41, vGetR TT 28 37 8 44), (44, vCallSV w_X12_copy 2 47), (47, vAload 0 48), (48, vI (-1) 49), (49, vPutI 28 51 52), (52, vAload 0 53), (53, vI (-1) 54), (54, vPutI 28 50 57), (57, vAload 0 58), (58, vIload 1 59), (59, vAload 0 60), (60, vGetR TT 28 36 8 63), (63, vI 24 65), (65, vIald TT 66), (66, vAload 0 67), (67, vGetR TT 28 36 8 70), (70, vI 26 72), (72, vIald TT 73), (73, vI 0 74), (74, vI 0 75), (75, vCallMV (w_X12_goBorne d) 28 5 78), (78, vIload 2 79), (79, vIfNe 89 82), (82, vAload 0 83), (83, vGetI 28 50 86), (86, vGoto 93), (89, vAload 0 90), (90, vGetI 28 51 93), (93, vIret)]
theorem k_X12_borne_0 (d : Nat) : look (a_X12_borne d) 0 = vAload 0 1 := rfl
theorem k_X12_borne_1 (d : Nat) : look (a_X12_borne d) 1 = vI 0 2 := rfl
theorem k_X12_borne_2 (d : Nat) : look (a_X12_borne d) 2 = vPutI 28 0 5 := rfl
theorem k_X12_borne_5 (d : Nat) : look (a_X12_borne d) 5 = vAload 0 6 := rfl
theorem k_X12_borne_6 (d : Nat) : look (a_X12_borne d) 6 = vGetI 28 29 9 := rfl
theorem k_X12_borne_9 (d : Nat) : look (a_X12_borne d) 9 = vIfEq 34 12 := rfl
theorem k_X12_borne_12 (d : Nat) : look (a_X12_borne d) 12 = vIload 1 13 := rfl
theorem k_X12_borne_13 (d : Nat) : look (a_X12_borne d) 13 = vI2l 14 := rfl
theorem k_X12_borne_14 (d : Nat) : look (a_X12_borne d) 14 = vL 1 15 := rfl
theorem k_X12_borne_15 (d : Nat) : look (a_X12_borne d) 15 = vL 4 18 := rfl
theorem k_X12_borne_18 (d : Nat) : look (a_X12_borne d) 18 = vCallS w_X12_isIn 3 21 := rfl
theorem k_X12_borne_21 (d : Nat) : look (a_X12_borne d) 21 = vIfEq 34 24 := rfl
theorem k_X12_borne_24 (d : Nat) : look (a_X12_borne d) 24 = vIload 2 25 := rfl
theorem k_X12_borne_25 (d : Nat) : look (a_X12_borne d) 25 = vI2l 26 := rfl
theorem k_X12_borne_26 (d : Nat) : look (a_X12_borne d) 26 = vL 0 27 := rfl
theorem k_X12_borne_27 (d : Nat) : look (a_X12_borne d) 27 = vL 1 28 := rfl
theorem k_X12_borne_28 (d : Nat) : look (a_X12_borne d) 28 = vCallS w_X12_isIn 3 31 := rfl
theorem k_X12_borne_31 (d : Nat) : look (a_X12_borne d) 31 = vIfNe 36 34 := rfl
theorem k_X12_borne_34 (d : Nat) : look (a_X12_borne d) 34 = vI (-1) 35 := rfl
theorem k_X12_borne_35 (d : Nat) : look (a_X12_borne d) 35 = vIret := rfl
theorem k_X12_borne_36 (d : Nat) : look (a_X12_borne d) 36 = vAload 0 37 := rfl
theorem k_X12_borne_37 (d : Nat) : look (a_X12_borne d) 37 = vGetR TT 28 36 8 40 := rfl
theorem k_X12_borne_40 (d : Nat) : look (a_X12_borne d) 40 = vAload 0 41 := rfl
theorem k_X12_borne_41 (d : Nat) : look (a_X12_borne d) 41 = vGetR TT 28 37 8 44 := rfl
theorem k_X12_borne_44 (d : Nat) : look (a_X12_borne d) 44 = vCallSV w_X12_copy 2 47 := rfl
theorem k_X12_borne_47 (d : Nat) : look (a_X12_borne d) 47 = vAload 0 48 := rfl
theorem k_X12_borne_48 (d : Nat) : look (a_X12_borne d) 48 = vI (-1) 49 := rfl
theorem k_X12_borne_49 (d : Nat) : look (a_X12_borne d) 49 = vPutI 28 51 52 := rfl
theorem k_X12_borne_52 (d : Nat) : look (a_X12_borne d) 52 = vAload 0 53 := rfl
theorem k_X12_borne_53 (d : Nat) : look (a_X12_borne d) 53 = vI (-1) 54 := rfl
theorem k_X12_borne_54 (d : Nat) : look (a_X12_borne d) 54 = vPutI 28 50 57 := rfl
theorem k_X12_borne_57 (d : Nat) : look (a_X12_borne d) 57 = vAload 0 58 := rfl
theorem k_X12_borne_58 (d : Nat) : look (a_X12_borne d) 58 = vIload 1 59 := rfl
theorem k_X12_borne_59 (d : Nat) : look (a_X12_borne d) 59 = vAload 0 60 := rfl
theorem k_X12_borne_60 (d : Nat) : look (a_X12_borne d) 60 = vGetR TT 28 36 8 63 := rfl
theorem k_X12_borne_63 (d : Nat) : look (a_X12_borne d) 63 = vI 24 65 := rfl
theorem k_X12_borne_65 (d : Nat) : look (a_X12_borne d) 65 = vIald TT 66 := rfl
theorem k_X12_borne_66 (d : Nat) : look (a_X12_borne d) 66 = vAload 0 67 := rfl
theorem k_X12_borne_67 (d : Nat) : look (a_X12_borne d) 67 = vGetR TT 28 36 8 70 := rfl
theorem k_X12_borne_70 (d : Nat) : look (a_X12_borne d) 70 = vI 26 72 := rfl
theorem k_X12_borne_72 (d : Nat) : look (a_X12_borne d) 72 = vIald TT 73 := rfl
theorem k_X12_borne_73 (d : Nat) : look (a_X12_borne d) 73 = vI 0 74 := rfl
theorem k_X12_borne_74 (d : Nat) : look (a_X12_borne d) 74 = vI 0 75 := rfl
theorem k_X12_borne_75 (d : Nat) : look (a_X12_borne d) 75 = vCallMV (w_X12_goBorne d) 28 5 78 := rfl
theorem k_X12_borne_78 (d : Nat) : look (a_X12_borne d) 78 = vIload 2 79 := rfl
theorem k_X12_borne_79 (d : Nat) : look (a_X12_borne d) 79 = vIfNe 89 82 := rfl
theorem k_X12_borne_82 (d : Nat) : look (a_X12_borne d) 82 = vAload 0 83 := rfl
theorem k_X12_borne_83 (d : Nat) : look (a_X12_borne d) 83 = vGetI 28 50 86 := rfl
theorem k_X12_borne_86 (d : Nat) : look (a_X12_borne d) 86 = vGoto 93 := rfl
theorem k_X12_borne_89 (d : Nat) : look (a_X12_borne d) 89 = vAload 0 90 := rfl
theorem k_X12_borne_90 (d : Nat) : look (a_X12_borne d) 90 = vGetI 28 51 93 := rfl
theorem k_X12_borne_93 (d : Nat) : look (a_X12_borne d) 93 = vIret := rfl
theorem o_X12_borne {X : amX} (d : Nat) (h6 : d ≤ 4) (e1 : XT X = TT) (e2 : XD X = 70) (hB : amB X RX12 cX12_borne (some .int) 3) : ∀ pc, amOK X pc (look (a_X12_borne d) pc) := by
  have hT : amTok (XT X) := e1 ▸ TT_ok
  refine look_ok ?_
  unfold a_X12_borne
  refine fc (ok_aload_n hB dX12_borne_0) ?_
  refine fc (ok_iconst hB dX12_borne_1) ?_
  refine fc (ok_putI hB hT fp_X12_111 rfl rfl rfl af_12_0 dX12_borne_2) ?_
  refine fc (ok_aload_n hB dX12_borne_5) ?_
  refine fc (ok_getI hB hT fl_X12_317 rfl rfl (Or.inl af_12_29) dX12_borne_6) ?_
  refine fc (ok_if_eq hB (t := 34) (by decide) dX12_borne_9) ?_
  refine fc (ok_iload_n hB dX12_borne_12) ?_
  refine fc (ok_i2l hB dX12_borne_13) ?_
  refine fc (ok_lconst hB (z := 1) (by decide) dX12_borne_14) ?_
  refine fc (ok_ldc2 hB wd_1884 rfl dX12_borne_15) ?_
  refine fc (ok_callS hB (e1 ▸ s_X12_isIn) lk_X12_232 (by rw [e2]; omega) wd_1502 dX12_borne_18) ?_
  refine fc (ok_if_eq hB (t := 34) (by decide) dX12_borne_21) ?_
  refine fc (ok_iload_n hB dX12_borne_24) ?_
  refine fc (ok_i2l hB dX12_borne_25) ?_
  refine fc (ok_lconst hB (z := 0) (by decide) dX12_borne_26) ?_
  refine fc (ok_lconst hB (z := 1) (by decide) dX12_borne_27) ?_
  refine fc (ok_callS hB (e1 ▸ s_X12_isIn) lk_X12_232 (by rw [e2]; omega) wd_1502 dX12_borne_28) ?_
  refine fc (ok_if_ne hB (t := 36) (by decide) dX12_borne_31) ?_
  refine fc (ok_iconst hB dX12_borne_34) ?_
  refine fc (ok_iret hB dX12_borne_35) ?_
  refine fc (ok_aload_n hB dX12_borne_36) ?_
  refine fc (okt_getR e1 hB hT fl_X12_67 rfl af_12_36 at_12_36 (by decide) dX12_borne_37) ?_
  refine fc (ok_aload_n hB dX12_borne_40) ?_
  refine fc (okt_getR e1 hB hT fl_X12_70 rfl af_12_37 at_12_37 (by decide) dX12_borne_41) ?_
  refine fc (ok_callSV hB (e1 ▸ s_X12_copy) lk_X12_419 (by rw [e2]; omega) wd_1790 dX12_borne_44) ?_
  refine fc (ok_aload_n hB dX12_borne_47) ?_
  refine fc (ok_iconst hB dX12_borne_48) ?_
  refine fc (ok_putI hB hT fp_X12_429 rfl rfl rfl af_12_51 dX12_borne_49) ?_
  refine fc (ok_aload_n hB dX12_borne_52) ?_
  refine fc (ok_iconst hB dX12_borne_53) ?_
  refine fc (ok_putI hB hT fp_X12_436 rfl rfl rfl af_12_50 dX12_borne_54) ?_
  refine fc (ok_aload_n hB dX12_borne_57) ?_
  refine fc (ok_iload_n hB dX12_borne_58) ?_
  refine fc (ok_aload_n hB dX12_borne_59) ?_
  refine fc (okt_getR e1 hB hT fl_X12_67 rfl af_12_36 at_12_36 (by decide) dX12_borne_60) ?_
  refine fc (ok_bipush hB dX12_borne_63 (by decide)) ?_
  refine fc (okt_iaload e1 hB dX12_borne_65) ?_
  refine fc (ok_aload_n hB dX12_borne_66) ?_
  refine fc (okt_getR e1 hB hT fl_X12_67 rfl af_12_36 at_12_36 (by decide) dX12_borne_67) ?_
  refine fc (ok_bipush hB dX12_borne_70 (by decide)) ?_
  refine fc (okt_iaload e1 hB dX12_borne_72) ?_
  refine fc (ok_iconst hB dX12_borne_73) ?_
  refine fc (ok_iconst hB dX12_borne_74) ?_
  refine fc (ok_callMV hB hT (fun av9 σ9 Q9 h9 => e1 ▸ (s_X12_goBorne d (boS d)) av9 σ9 Q9 h9) lk_X12_473 (by rw [e2]; omega) (c := 12) rfl rfl rfl wd_1887 sl_X12_goBorne dX12_borne_75) ?_
  refine fc (ok_iload_n hB dX12_borne_78) ?_
  refine fc (ok_if_ne hB (t := 89) (by decide) dX12_borne_79) ?_
  refine fc (ok_aload_n hB dX12_borne_82) ?_
  refine fc (ok_getI hB hT fl_X12_436 rfl rfl (Or.inl af_12_50) dX12_borne_83) ?_
  refine fc (ok_goto hB (t := 93) (by decide) dX12_borne_86) ?_
  refine fc (ok_aload_n hB dX12_borne_89) ?_
  refine fc (ok_getI hB hT fl_X12_429 rfl rfl (Or.inl af_12_51) dX12_borne_90) ?_
  refine fc (ok_iret hB dX12_borne_93) ?_
  exact fn

def w_X12_borne (d : Nat) : WP := fun av σ Q => ∃ (n : Int) (w : Int), av = [(28, 5000), (0, n), (0, w)] ∧ (InR n ∧ InR w ∧ mX σ 5015 ∧ σ 5015 26 ≤ 1000 ∧ (1 ≤ n → n ≤ 4 → n = d) ∧ (¬ (σ 5000 29 ≠ 0 ∧ (1 ≤ n ∧ n ≤ 4) ∧ 0 ≤ w ∧ w ≤ 1) → Q (0, -1) (th0 σ)) ∧ (σ 5000 29 ≠ 0 ∧ (1 ≤ n ∧ n ≤ 4) ∧ 0 ≤ w ∧ w ≤ 1 → ∀ τ, QF σ τ → mOk τ → Q (0, if w = 0 then (bnF (th0 σ) d (σ 5015 24) (σ 5015 26) 0 0 (-1, -1)).1 else (bnF (th0 σ) d (σ 5015 24) (σ 5015 26) 0 0 (-1, -1)).2) τ))
theorem w_X12_borne_e (d : Nat) (n : Int) (w : Int) (σ : Mem) (Q : AV → Mem → Prop) : w_X12_borne d [(28, 5000), (0, n), (0, w)] σ Q = (InR n ∧ InR w ∧ mX σ 5015 ∧ σ 5015 26 ≤ 1000 ∧ (1 ≤ n → n ≤ 4 → n = d) ∧ (¬ (σ 5000 29 ≠ 0 ∧ (1 ≤ n ∧ n ≤ 4) ∧ 0 ≤ w ∧ w ≤ 1) → Q (0, -1) (th0 σ)) ∧ (σ 5000 29 ≠ 0 ∧ (1 ≤ n ∧ n ≤ 4) ∧ 0 ≤ w ∧ w ≤ 1 → ∀ τ, QF σ τ → mOk τ → Q (0, if w = 0 then (bnF (th0 σ) d (σ 5015 24) (σ 5015 26) 0 0 (-1, -1)).1 else (bnF (th0 σ) d (σ 5015 24) (σ 5015 26) 0 0 (-1, -1)).2) τ)) := by
  apply propext; constructor
  · rintro ⟨n', w', h9, hb9⟩; cases h9; exact hb9
  · intro hb9; exact ⟨n, w, rfl, hb9⟩

set_option maxRecDepth 100000 in
set_option maxHeartbeats 4000000 in
theorem s_X12_borne (d : Nat) (h6 : d ≤ 4) : ∀ av σ Q, w_X12_borne d av σ Q → amCall (70) 0 0 TT yX12_borne cX12_borne 3 (some .int) av σ Q := by
  rintro av σ Q ⟨n, w, rfl, hn, hw, hx, he, hd, h1, h2⟩
  have e29 : th0 σ 5000 29 = σ 5000 29 := th_k σ (by decide)
  have t15 : th0 σ 5015 = σ 5015 := th_o σ (by decide)
  have n29 := hx.2.1.2.2.1
  have l27 := hx.2.2.2.2.2.2
  have r24 := hx.2.2.2.1
  have r26 := hx.2.2.2.2.2.1
  have hxt := mX_th hx
  have hT := tryB0 hx
  have et : cpy (th0 σ) 5015 0 5016 0 (28 + 3 * σ 5015 27) = trC σ := rfl
  have g15 : tr51 σ 5015 = σ 5015 := by unfold tr51; rw [up_na _ (by decide), up_na _ (by decide), trC_o σ (by decide)]; exact t15
  have i50 : tr51 σ 5000 50 = -1 := up_s _ _ _ _
  have i51 : tr51 σ 5000 51 = -1 := by unfold tr51; rw [up_nj _ (by decide), up_s]
  have j51 : InR (tr51 σ 5000 51) := by rw [i51]; exact ⟨by decide, by decide⟩
  by_cases d0 : σ 5000 29 = 0
  · have q8 := h1 (by omega)
    refine am_m [36] (fun _ _ _ _ _ => False) (own := RX12) (A := look (a_X12_borne d)) (fun X e1 e2 hB => o_X12_borne d h6 e1 e2 hB) rfl (by decide +kernel) rfl rfl (fun _ _ _ _ _ h => absurd h id) ⟨60, ?_⟩ (w := 3)
    change vcs _ _ _ _ 60 0 [(28, 5000), (0, n), (0, w)] [] σ
    simp only [↓reduceIte, inR_0, inR_1, inR_m, vSw2_e, swP_n, swP_c, vI_e, vL_e, vNull_e, vIload_e, vLload_e, vAload_e, vIstore_e, vLstore_e, vAstore_e, vIinc_e, vIadd_e, vIsub_e, vImul_e, vIand_e, vIor_e, vIxor_e, vIshl_e, vIshr_e, vIushr_e, vIdiv_e, vIrem_e, vLadd_e, vLsub_e, vLmul_e, vLand_e, vLor_e, vLxor_e, vLdiv_e, vLrem_e, vLushr_e, vLshl_e, vLcmp_e, vIneg_e, vI2l_e, vL2i_e, vI2b_e, vI2c_e, vDup_e, vPop_e, vDup2_e, vGoto_e, vIcEq_e, vIfEq_e, vIcNe_e, vIfNe_e, vIcLt_e, vIfLt_e, vIcGe_e, vIfGe_e, vIcGt_e, vIfGt_e, vIcLe_e, vIfLe_e, vNonnull_e, vSw_e, vGetI_e, vGetL_e, vGetR_e, vPutI_e, vPutZ_e, vPutL_e, vPutR_e, vIald_e, vIald_s, vLald_e, vBald_e, vBald_s, vAald_e, vIast_e, vLast_e, vBast_e, vAast_e, vAlen_e8, vAlen_e9, vAlen_e10, vAlen_e11, vAlen_e5, vAlen_e3, vGets_e, vCompact_e, vLdcS_e, vIret_e, vZret_e, vCret_e, vBret_e, vLret_e, vVret_e, vAret_e, vCallM_e0, vCallMV_e0, vCallS_e0, vCallSV_e0, vCallM_e1, vCallMV_e1, vCallS_e1, vCallSV_e1, vCallM_e2, vCallMV_e2, vCallS_e2, vCallSV_e2, vCallM_e3, vCallMV_e3, vCallS_e3, vCallSV_e3, vCallM_e4, vCallMV_e4, vCallS_e4, vCallSV_e4, vCallM_e5, vCallMV_e5, vCallS_e5, vCallSV_e5, vCallM_e6, vCallMV_e6, vCallS_e6, vCallSV_e6, vCallM_e7, vCallMV_e7, vCallS_e7, vCallSV_e7, vBad_e, vStrVal_e, vStrCod_e, vForm_e, vCallT_e0, vCallT_e1, vCallT_e2, vCopy_e, rf_0_0, rf_0_1, rf_0_2, rf_0_3, rf_0_4, rf_0_7, rf_0_10, rf_0_11, rf_0_12, rf_0_13, rf_0_14, rf_0_15, rf_0_16, rf_1_0, rf_3_0, rf_3_1, rf_6_0, rf_6_1, rf_9_0, rf_9_1, rf_9_3, rf_13_0, rf_13_1, rf_13_2, rf_16_0, rf_16_1, rf_16_2, rf_16_3, rf_21_0, rf_21_1, rf_21_2, rf_21_3, rf_26_0, rf_26_1, rf_26_2, rf_26_3, rf_26_4, rf_26_5, rf_26_6, rf_31_0, rf_31_2, rf_31_5, rf_31_6, rf_36_0, rf_36_1, rf_36_2, rf_36_3, rf_39_0, rf_39_1, rf_39_2, rf_41_0, rf_41_1, rf_41_2, rf_41_3, rf_5000_1, rf_5000_2, rf_5000_3, rf_5000_4, rf_5000_5, rf_5000_15, rf_5000_16, rf_5000_18, rf_5000_19, rf_5000_20, rf_5000_21, rf_5000_22, rf_5000_23, rf_5000_24, rf_5000_25, rf_5000_26, rf_5000_27, rf_5000_36, rf_5000_37, rf_5000_40, rf_5000_41, rf_5000_42, rf_5000_43, rf_5000_44, rf_5000_45, rf_5000_47, rf_5000_52, rf_5000_54, rf_5000_55, rf_100_0, rf_100_1, rf_103_0, rf_103_1, rf_106_0, rf_106_1, rf_109_0, rf_109_1, al_2, al_4, al_5, al_7, al_8, al_10, al_11, al_12, al_14, al_15, al_17, al_18, al_19, al_20, al_22, al_23, al_24, al_25, al_27, al_28, al_29, al_30, al_32, al_33, al_34, al_35, al_37, al_38, al_40, al_42, al_5001, al_5002, al_5003, al_5004, al_5005, al_5006, al_5007, al_5008, al_5009, al_5010, al_5011, al_5012, al_5013, al_5014, al_5015, al_5016, al_5017, al_5018, al_5019, al_5020, al_5021, al_5022, al_5023, al_5024, al_5025, al_5026, al_9000, al_101, al_102, al_104, al_105, al_107, al_108, al_110, al_111, vcs_e, lg_c0, lg_cs, lg_nil, set_c0, set_cs, okst_0, okst_s, acok_n, acok_c, List.contains_nil, List.contains_cons, Bool.or_false, Bool.false_or, Bool.false_eq_true, if_false, if_true, ite_self, ne_eq, true_and, and_true, not_false_eq_true, not_true_eq_false, false_imp_iff, true_imp_iff, Nat.ble_eq, Bool.and_eq_true, reduceCtorEq, or_false, false_or, or_true, true_or, false_and, and_false, and_self, Int.reduceLE, Int.reduceAdd, Int.reduceSub, Int.reduceMul, Int.reduceNeg, Int.reduceLT, Int.reduceEq, Int.reduceNe, Nat.reduceBEq, Nat.reduceBNe, Nat.reduceEqDiff, amCmp_in, amCmp_lt, amCmp_le, amCmp_gt, amCmp_ge, amCmp_eq, amCmp_ne, Nat.reduceLeDiff, Nat.reduceSub, Bool.and_true, Bool.true_and, Bool.and_self, Bool.or_true, Bool.true_or, isRf_3, isRf_4, isRf_5, isRf_8, isRf_9, isRf_10, isRf_11, isRf_15, isRf_16, isRf_17, isRf_18, isRf_19, isRf_20, isRf_21, isRf_22, isRf_23, isRf_24, isRf_25, isRf_26, isRf_27, isRf_28, k_X12_borne_0, k_X12_borne_1, k_X12_borne_2, k_X12_borne_5, k_X12_borne_6, k_X12_borne_9, k_X12_borne_12, k_X12_borne_13, k_X12_borne_14, k_X12_borne_15, k_X12_borne_18, k_X12_borne_21, k_X12_borne_24, k_X12_borne_25, k_X12_borne_26, k_X12_borne_27, k_X12_borne_28, k_X12_borne_31, k_X12_borne_34, k_X12_borne_35, k_X12_borne_36, k_X12_borne_37, k_X12_borne_40, k_X12_borne_41, k_X12_borne_44, k_X12_borne_47, k_X12_borne_48, k_X12_borne_49, k_X12_borne_52, k_X12_borne_53, k_X12_borne_54, k_X12_borne_57, k_X12_borne_58, k_X12_borne_59, k_X12_borne_60, k_X12_borne_63, k_X12_borne_65, k_X12_borne_66, k_X12_borne_67, k_X12_borne_70, k_X12_borne_72, k_X12_borne_73, k_X12_borne_74, k_X12_borne_75, k_X12_borne_78, k_X12_borne_79, k_X12_borne_82, k_X12_borne_83, k_X12_borne_86, k_X12_borne_89, k_X12_borne_90, k_X12_borne_93, w_X12_copy_e, w_X12_goBorne_e, w_X12_isIn_e, e29, d0]
    repeat' (first | apply And.intro | intro _)
    all_goals first | omega | exact absurd trivial (by assumption) | exact q8
  · by_cases d1 : 1 ≤ n ∧ n ≤ 4
    · by_cases d3 : 0 ≤ w ∧ w ≤ 1
      · have hq := h2 ⟨d0, d1, d3⟩
        have hd' := hd d1.1 d1.2
        have fin : ∀ τ, tryB (th0 σ) τ → (τ 5000 50, τ 5000 51) = bnF (th0 σ) d (σ 5015 24) (σ 5015 26) 0 0 (tr51 σ 5000 50, tr51 σ 5000 51) → (w = 0 → Q (0, τ 5000 50) τ) ∧ (¬ w = 0 → Q (0, τ 5000 51) τ) := fun τ a e => by
          rw [i50, i51] at e
          have := hq τ (QF_tr (QF_th σ) a.1) a.2.1
          rw [← e] at this
          exact ⟨fun q => by rw [if_pos q] at this; exact this, fun q => by rw [if_neg q] at this; exact this⟩
        refine am_m0 (own := RX12) (A := look (a_X12_borne d)) (fun X e1 e2 hB => o_X12_borne d h6 e1 e2 hB) rfl (by decide +kernel) rfl rfl 120 (w := 3) ?_
        change vcs _ _ _ _ 120 0 [(28, 5000), (0, n), (0, w)] [] σ
        simp only [↓reduceIte, inR_0, inR_1, inR_m, vSw2_e, swP_n, swP_c, vI_e, vL_e, vNull_e, vIload_e, vLload_e, vAload_e, vIstore_e, vLstore_e, vAstore_e, vIinc_e, vIadd_e, vIsub_e, vImul_e, vIand_e, vIor_e, vIxor_e, vIshl_e, vIshr_e, vIushr_e, vIdiv_e, vIrem_e, vLadd_e, vLsub_e, vLmul_e, vLand_e, vLor_e, vLxor_e, vLdiv_e, vLrem_e, vLushr_e, vLshl_e, vLcmp_e, vIneg_e, vI2l_e, vL2i_e, vI2b_e, vI2c_e, vDup_e, vPop_e, vDup2_e, vGoto_e, vIcEq_e, vIfEq_e, vIcNe_e, vIfNe_e, vIcLt_e, vIfLt_e, vIcGe_e, vIfGe_e, vIcGt_e, vIfGt_e, vIcLe_e, vIfLe_e, vNonnull_e, vSw_e, vGetI_e, vGetL_e, vGetR_e, vPutI_e, vPutZ_e, vPutL_e, vPutR_e, vIald_e, vIald_s, vLald_e, vBald_e, vBald_s, vAald_e, vIast_e, vLast_e, vBast_e, vAast_e, vAlen_e8, vAlen_e9, vAlen_e10, vAlen_e11, vAlen_e5, vAlen_e3, vGets_e, vCompact_e, vLdcS_e, vIret_e, vZret_e, vCret_e, vBret_e, vLret_e, vVret_e, vAret_e, vCallM_e0, vCallMV_e0, vCallS_e0, vCallSV_e0, vCallM_e1, vCallMV_e1, vCallS_e1, vCallSV_e1, vCallM_e2, vCallMV_e2, vCallS_e2, vCallSV_e2, vCallM_e3, vCallMV_e3, vCallS_e3, vCallSV_e3, vCallM_e4, vCallMV_e4, vCallS_e4, vCallSV_e4, vCallM_e5, vCallMV_e5, vCallS_e5, vCallSV_e5, vCallM_e6, vCallMV_e6, vCallS_e6, vCallSV_e6, vCallM_e7, vCallMV_e7, vCallS_e7, vCallSV_e7, vBad_e, vStrVal_e, vStrCod_e, vForm_e, vCallT_e0, vCallT_e1, vCallT_e2, vCopy_e, rf_0_0, rf_0_1, rf_0_2, rf_0_3, rf_0_4, rf_0_7, rf_0_10, rf_0_11, rf_0_12, rf_0_13, rf_0_14, rf_0_15, rf_0_16, rf_1_0, rf_3_0, rf_3_1, rf_6_0, rf_6_1, rf_9_0, rf_9_1, rf_9_3, rf_13_0, rf_13_1, rf_13_2, rf_16_0, rf_16_1, rf_16_2, rf_16_3, rf_21_0, rf_21_1, rf_21_2, rf_21_3, rf_26_0, rf_26_1, rf_26_2, rf_26_3, rf_26_4, rf_26_5, rf_26_6, rf_31_0, rf_31_2, rf_31_5, rf_31_6, rf_36_0, rf_36_1, rf_36_2, rf_36_3, rf_39_0, rf_39_1, rf_39_2, rf_41_0, rf_41_1, rf_41_2, rf_41_3, rf_5000_1, rf_5000_2, rf_5000_3, rf_5000_4, rf_5000_5, rf_5000_15, rf_5000_16, rf_5000_18, rf_5000_19, rf_5000_20, rf_5000_21, rf_5000_22, rf_5000_23, rf_5000_24, rf_5000_25, rf_5000_26, rf_5000_27, rf_5000_36, rf_5000_37, rf_5000_40, rf_5000_41, rf_5000_42, rf_5000_43, rf_5000_44, rf_5000_45, rf_5000_47, rf_5000_52, rf_5000_54, rf_5000_55, rf_100_0, rf_100_1, rf_103_0, rf_103_1, rf_106_0, rf_106_1, rf_109_0, rf_109_1, al_2, al_4, al_5, al_7, al_8, al_10, al_11, al_12, al_14, al_15, al_17, al_18, al_19, al_20, al_22, al_23, al_24, al_25, al_27, al_28, al_29, al_30, al_32, al_33, al_34, al_35, al_37, al_38, al_40, al_42, al_5001, al_5002, al_5003, al_5004, al_5005, al_5006, al_5007, al_5008, al_5009, al_5010, al_5011, al_5012, al_5013, al_5014, al_5015, al_5016, al_5017, al_5018, al_5019, al_5020, al_5021, al_5022, al_5023, al_5024, al_5025, al_5026, al_9000, al_101, al_102, al_104, al_105, al_107, al_108, al_110, al_111, vcs_e, lg_c0, lg_cs, lg_nil, set_c0, set_cs, okst_0, okst_s, acok_n, acok_c, List.contains_nil, List.contains_cons, Bool.or_false, Bool.false_or, Bool.false_eq_true, if_false, if_true, ite_self, ne_eq, true_and, and_true, not_false_eq_true, not_true_eq_false, false_imp_iff, true_imp_iff, Nat.ble_eq, Bool.and_eq_true, reduceCtorEq, or_false, false_or, or_true, true_or, false_and, and_false, and_self, Int.reduceLE, Int.reduceAdd, Int.reduceSub, Int.reduceMul, Int.reduceNeg, Int.reduceLT, Int.reduceEq, Int.reduceNe, Nat.reduceBEq, Nat.reduceBNe, Nat.reduceEqDiff, amCmp_in, amCmp_lt, amCmp_le, amCmp_gt, amCmp_ge, amCmp_eq, amCmp_ne, Nat.reduceLeDiff, Nat.reduceSub, Bool.and_true, Bool.true_and, Bool.and_self, Bool.or_true, Bool.true_or, isRf_3, isRf_4, isRf_5, isRf_8, isRf_9, isRf_10, isRf_11, isRf_15, isRf_16, isRf_17, isRf_18, isRf_19, isRf_20, isRf_21, isRf_22, isRf_23, isRf_24, isRf_25, isRf_26, isRf_27, isRf_28, k_X12_borne_0, k_X12_borne_1, k_X12_borne_2, k_X12_borne_5, k_X12_borne_6, k_X12_borne_9, k_X12_borne_12, k_X12_borne_13, k_X12_borne_14, k_X12_borne_15, k_X12_borne_18, k_X12_borne_21, k_X12_borne_24, k_X12_borne_25, k_X12_borne_26, k_X12_borne_27, k_X12_borne_28, k_X12_borne_31, k_X12_borne_34, k_X12_borne_35, k_X12_borne_36, k_X12_borne_37, k_X12_borne_40, k_X12_borne_41, k_X12_borne_44, k_X12_borne_47, k_X12_borne_48, k_X12_borne_49, k_X12_borne_52, k_X12_borne_53, k_X12_borne_54, k_X12_borne_57, k_X12_borne_58, k_X12_borne_59, k_X12_borne_60, k_X12_borne_63, k_X12_borne_65, k_X12_borne_66, k_X12_borne_67, k_X12_borne_70, k_X12_borne_72, k_X12_borne_73, k_X12_borne_74, k_X12_borne_75, k_X12_borne_78, k_X12_borne_79, k_X12_borne_82, k_X12_borne_83, k_X12_borne_86, k_X12_borne_89, k_X12_borne_90, k_X12_borne_93, w_X12_copy_e, w_X12_goBorne_e, w_X12_isIn_e, e29, t15, et, g15, d0, if_pos d1, if_pos d3]
        repeat' (first | assumption | exact hw | apply And.intro | intro _)
        all_goals first | omega | exact absurd trivial (by assumption) | skip
        all_goals refine ⟨th0 σ, ?_⟩
        repeat' (first | assumption | exact hxt | exact hT | exact j51 | exact hw | apply And.intro | intro _)
        all_goals first | omega | exact (fin _ (by assumption) (by assumption)).1 (by assumption) | exact (fin _ (by assumption) (by assumption)).2 (by assumption)
      · have q8 := h1 (by omega)
        refine am_m [36] (fun _ _ _ _ _ => False) (own := RX12) (A := look (a_X12_borne d)) (fun X e1 e2 hB => o_X12_borne d h6 e1 e2 hB) rfl (by decide +kernel) rfl rfl (fun _ _ _ _ _ h => absurd h id) ⟨60, ?_⟩ (w := 3)
        change vcs _ _ _ _ 60 0 [(28, 5000), (0, n), (0, w)] [] σ
        simp only [↓reduceIte, inR_0, inR_1, inR_m, vSw2_e, swP_n, swP_c, vI_e, vL_e, vNull_e, vIload_e, vLload_e, vAload_e, vIstore_e, vLstore_e, vAstore_e, vIinc_e, vIadd_e, vIsub_e, vImul_e, vIand_e, vIor_e, vIxor_e, vIshl_e, vIshr_e, vIushr_e, vIdiv_e, vIrem_e, vLadd_e, vLsub_e, vLmul_e, vLand_e, vLor_e, vLxor_e, vLdiv_e, vLrem_e, vLushr_e, vLshl_e, vLcmp_e, vIneg_e, vI2l_e, vL2i_e, vI2b_e, vI2c_e, vDup_e, vPop_e, vDup2_e, vGoto_e, vIcEq_e, vIfEq_e, vIcNe_e, vIfNe_e, vIcLt_e, vIfLt_e, vIcGe_e, vIfGe_e, vIcGt_e, vIfGt_e, vIcLe_e, vIfLe_e, vNonnull_e, vSw_e, vGetI_e, vGetL_e, vGetR_e, vPutI_e, vPutZ_e, vPutL_e, vPutR_e, vIald_e, vIald_s, vLald_e, vBald_e, vBald_s, vAald_e, vIast_e, vLast_e, vBast_e, vAast_e, vAlen_e8, vAlen_e9, vAlen_e10, vAlen_e11, vAlen_e5, vAlen_e3, vGets_e, vCompact_e, vLdcS_e, vIret_e, vZret_e, vCret_e, vBret_e, vLret_e, vVret_e, vAret_e, vCallM_e0, vCallMV_e0, vCallS_e0, vCallSV_e0, vCallM_e1, vCallMV_e1, vCallS_e1, vCallSV_e1, vCallM_e2, vCallMV_e2, vCallS_e2, vCallSV_e2, vCallM_e3, vCallMV_e3, vCallS_e3, vCallSV_e3, vCallM_e4, vCallMV_e4, vCallS_e4, vCallSV_e4, vCallM_e5, vCallMV_e5, vCallS_e5, vCallSV_e5, vCallM_e6, vCallMV_e6, vCallS_e6, vCallSV_e6, vCallM_e7, vCallMV_e7, vCallS_e7, vCallSV_e7, vBad_e, vStrVal_e, vStrCod_e, vForm_e, vCallT_e0, vCallT_e1, vCallT_e2, vCopy_e, rf_0_0, rf_0_1, rf_0_2, rf_0_3, rf_0_4, rf_0_7, rf_0_10, rf_0_11, rf_0_12, rf_0_13, rf_0_14, rf_0_15, rf_0_16, rf_1_0, rf_3_0, rf_3_1, rf_6_0, rf_6_1, rf_9_0, rf_9_1, rf_9_3, rf_13_0, rf_13_1, rf_13_2, rf_16_0, rf_16_1, rf_16_2, rf_16_3, rf_21_0, rf_21_1, rf_21_2, rf_21_3, rf_26_0, rf_26_1, rf_26_2, rf_26_3, rf_26_4, rf_26_5, rf_26_6, rf_31_0, rf_31_2, rf_31_5, rf_31_6, rf_36_0, rf_36_1, rf_36_2, rf_36_3, rf_39_0, rf_39_1, rf_39_2, rf_41_0, rf_41_1, rf_41_2, rf_41_3, rf_5000_1, rf_5000_2, rf_5000_3, rf_5000_4, rf_5000_5, rf_5000_15, rf_5000_16, rf_5000_18, rf_5000_19, rf_5000_20, rf_5000_21, rf_5000_22, rf_5000_23, rf_5000_24, rf_5000_25, rf_5000_26, rf_5000_27, rf_5000_36, rf_5000_37, rf_5000_40, rf_5000_41, rf_5000_42, rf_5000_43, rf_5000_44, rf_5000_45, rf_5000_47, rf_5000_52, rf_5000_54, rf_5000_55, rf_100_0, rf_100_1, rf_103_0, rf_103_1, rf_106_0, rf_106_1, rf_109_0, rf_109_1, al_2, al_4, al_5, al_7, al_8, al_10, al_11, al_12, al_14, al_15, al_17, al_18, al_19, al_20, al_22, al_23, al_24, al_25, al_27, al_28, al_29, al_30, al_32, al_33, al_34, al_35, al_37, al_38, al_40, al_42, al_5001, al_5002, al_5003, al_5004, al_5005, al_5006, al_5007, al_5008, al_5009, al_5010, al_5011, al_5012, al_5013, al_5014, al_5015, al_5016, al_5017, al_5018, al_5019, al_5020, al_5021, al_5022, al_5023, al_5024, al_5025, al_5026, al_9000, al_101, al_102, al_104, al_105, al_107, al_108, al_110, al_111, vcs_e, lg_c0, lg_cs, lg_nil, set_c0, set_cs, okst_0, okst_s, acok_n, acok_c, List.contains_nil, List.contains_cons, Bool.or_false, Bool.false_or, Bool.false_eq_true, if_false, if_true, ite_self, ne_eq, true_and, and_true, not_false_eq_true, not_true_eq_false, false_imp_iff, true_imp_iff, Nat.ble_eq, Bool.and_eq_true, reduceCtorEq, or_false, false_or, or_true, true_or, false_and, and_false, and_self, Int.reduceLE, Int.reduceAdd, Int.reduceSub, Int.reduceMul, Int.reduceNeg, Int.reduceLT, Int.reduceEq, Int.reduceNe, Nat.reduceBEq, Nat.reduceBNe, Nat.reduceEqDiff, amCmp_in, amCmp_lt, amCmp_le, amCmp_gt, amCmp_ge, amCmp_eq, amCmp_ne, Nat.reduceLeDiff, Nat.reduceSub, Bool.and_true, Bool.true_and, Bool.and_self, Bool.or_true, Bool.true_or, isRf_3, isRf_4, isRf_5, isRf_8, isRf_9, isRf_10, isRf_11, isRf_15, isRf_16, isRf_17, isRf_18, isRf_19, isRf_20, isRf_21, isRf_22, isRf_23, isRf_24, isRf_25, isRf_26, isRf_27, isRf_28, k_X12_borne_0, k_X12_borne_1, k_X12_borne_2, k_X12_borne_5, k_X12_borne_6, k_X12_borne_9, k_X12_borne_12, k_X12_borne_13, k_X12_borne_14, k_X12_borne_15, k_X12_borne_18, k_X12_borne_21, k_X12_borne_24, k_X12_borne_25, k_X12_borne_26, k_X12_borne_27, k_X12_borne_28, k_X12_borne_31, k_X12_borne_34, k_X12_borne_35, k_X12_borne_36, k_X12_borne_37, k_X12_borne_40, k_X12_borne_41, k_X12_borne_44, k_X12_borne_47, k_X12_borne_48, k_X12_borne_49, k_X12_borne_52, k_X12_borne_53, k_X12_borne_54, k_X12_borne_57, k_X12_borne_58, k_X12_borne_59, k_X12_borne_60, k_X12_borne_63, k_X12_borne_65, k_X12_borne_66, k_X12_borne_67, k_X12_borne_70, k_X12_borne_72, k_X12_borne_73, k_X12_borne_74, k_X12_borne_75, k_X12_borne_78, k_X12_borne_79, k_X12_borne_82, k_X12_borne_83, k_X12_borne_86, k_X12_borne_89, k_X12_borne_90, k_X12_borne_93, w_X12_copy_e, w_X12_goBorne_e, w_X12_isIn_e, e29, d0, if_pos d1, if_neg d3]
        repeat' (first | apply And.intro | intro _)
        all_goals first | omega | exact absurd trivial (by assumption) | exact q8
    · have q8 := h1 (by omega)
      refine am_m [36] (fun _ _ _ _ _ => False) (own := RX12) (A := look (a_X12_borne d)) (fun X e1 e2 hB => o_X12_borne d h6 e1 e2 hB) rfl (by decide +kernel) rfl rfl (fun _ _ _ _ _ h => absurd h id) ⟨60, ?_⟩ (w := 3)
      change vcs _ _ _ _ 60 0 [(28, 5000), (0, n), (0, w)] [] σ
      simp only [↓reduceIte, inR_0, inR_1, inR_m, vSw2_e, swP_n, swP_c, vI_e, vL_e, vNull_e, vIload_e, vLload_e, vAload_e, vIstore_e, vLstore_e, vAstore_e, vIinc_e, vIadd_e, vIsub_e, vImul_e, vIand_e, vIor_e, vIxor_e, vIshl_e, vIshr_e, vIushr_e, vIdiv_e, vIrem_e, vLadd_e, vLsub_e, vLmul_e, vLand_e, vLor_e, vLxor_e, vLdiv_e, vLrem_e, vLushr_e, vLshl_e, vLcmp_e, vIneg_e, vI2l_e, vL2i_e, vI2b_e, vI2c_e, vDup_e, vPop_e, vDup2_e, vGoto_e, vIcEq_e, vIfEq_e, vIcNe_e, vIfNe_e, vIcLt_e, vIfLt_e, vIcGe_e, vIfGe_e, vIcGt_e, vIfGt_e, vIcLe_e, vIfLe_e, vNonnull_e, vSw_e, vGetI_e, vGetL_e, vGetR_e, vPutI_e, vPutZ_e, vPutL_e, vPutR_e, vIald_e, vIald_s, vLald_e, vBald_e, vBald_s, vAald_e, vIast_e, vLast_e, vBast_e, vAast_e, vAlen_e8, vAlen_e9, vAlen_e10, vAlen_e11, vAlen_e5, vAlen_e3, vGets_e, vCompact_e, vLdcS_e, vIret_e, vZret_e, vCret_e, vBret_e, vLret_e, vVret_e, vAret_e, vCallM_e0, vCallMV_e0, vCallS_e0, vCallSV_e0, vCallM_e1, vCallMV_e1, vCallS_e1, vCallSV_e1, vCallM_e2, vCallMV_e2, vCallS_e2, vCallSV_e2, vCallM_e3, vCallMV_e3, vCallS_e3, vCallSV_e3, vCallM_e4, vCallMV_e4, vCallS_e4, vCallSV_e4, vCallM_e5, vCallMV_e5, vCallS_e5, vCallSV_e5, vCallM_e6, vCallMV_e6, vCallS_e6, vCallSV_e6, vCallM_e7, vCallMV_e7, vCallS_e7, vCallSV_e7, vBad_e, vStrVal_e, vStrCod_e, vForm_e, vCallT_e0, vCallT_e1, vCallT_e2, vCopy_e, rf_0_0, rf_0_1, rf_0_2, rf_0_3, rf_0_4, rf_0_7, rf_0_10, rf_0_11, rf_0_12, rf_0_13, rf_0_14, rf_0_15, rf_0_16, rf_1_0, rf_3_0, rf_3_1, rf_6_0, rf_6_1, rf_9_0, rf_9_1, rf_9_3, rf_13_0, rf_13_1, rf_13_2, rf_16_0, rf_16_1, rf_16_2, rf_16_3, rf_21_0, rf_21_1, rf_21_2, rf_21_3, rf_26_0, rf_26_1, rf_26_2, rf_26_3, rf_26_4, rf_26_5, rf_26_6, rf_31_0, rf_31_2, rf_31_5, rf_31_6, rf_36_0, rf_36_1, rf_36_2, rf_36_3, rf_39_0, rf_39_1, rf_39_2, rf_41_0, rf_41_1, rf_41_2, rf_41_3, rf_5000_1, rf_5000_2, rf_5000_3, rf_5000_4, rf_5000_5, rf_5000_15, rf_5000_16, rf_5000_18, rf_5000_19, rf_5000_20, rf_5000_21, rf_5000_22, rf_5000_23, rf_5000_24, rf_5000_25, rf_5000_26, rf_5000_27, rf_5000_36, rf_5000_37, rf_5000_40, rf_5000_41, rf_5000_42, rf_5000_43, rf_5000_44, rf_5000_45, rf_5000_47, rf_5000_52, rf_5000_54, rf_5000_55, rf_100_0, rf_100_1, rf_103_0, rf_103_1, rf_106_0, rf_106_1, rf_109_0, rf_109_1, al_2, al_4, al_5, al_7, al_8, al_10, al_11, al_12, al_14, al_15, al_17, al_18, al_19, al_20, al_22, al_23, al_24, al_25, al_27, al_28, al_29, al_30, al_32, al_33, al_34, al_35, al_37, al_38, al_40, al_42, al_5001, al_5002, al_5003, al_5004, al_5005, al_5006, al_5007, al_5008, al_5009, al_5010, al_5011, al_5012, al_5013, al_5014, al_5015, al_5016, al_5017, al_5018, al_5019, al_5020, al_5021, al_5022, al_5023, al_5024, al_5025, al_5026, al_9000, al_101, al_102, al_104, al_105, al_107, al_108, al_110, al_111, vcs_e, lg_c0, lg_cs, lg_nil, set_c0, set_cs, okst_0, okst_s, acok_n, acok_c, List.contains_nil, List.contains_cons, Bool.or_false, Bool.false_or, Bool.false_eq_true, if_false, if_true, ite_self, ne_eq, true_and, and_true, not_false_eq_true, not_true_eq_false, false_imp_iff, true_imp_iff, Nat.ble_eq, Bool.and_eq_true, reduceCtorEq, or_false, false_or, or_true, true_or, false_and, and_false, and_self, Int.reduceLE, Int.reduceAdd, Int.reduceSub, Int.reduceMul, Int.reduceNeg, Int.reduceLT, Int.reduceEq, Int.reduceNe, Nat.reduceBEq, Nat.reduceBNe, Nat.reduceEqDiff, amCmp_in, amCmp_lt, amCmp_le, amCmp_gt, amCmp_ge, amCmp_eq, amCmp_ne, Nat.reduceLeDiff, Nat.reduceSub, Bool.and_true, Bool.true_and, Bool.and_self, Bool.or_true, Bool.true_or, isRf_3, isRf_4, isRf_5, isRf_8, isRf_9, isRf_10, isRf_11, isRf_15, isRf_16, isRf_17, isRf_18, isRf_19, isRf_20, isRf_21, isRf_22, isRf_23, isRf_24, isRf_25, isRf_26, isRf_27, isRf_28, k_X12_borne_0, k_X12_borne_1, k_X12_borne_2, k_X12_borne_5, k_X12_borne_6, k_X12_borne_9, k_X12_borne_12, k_X12_borne_13, k_X12_borne_14, k_X12_borne_15, k_X12_borne_18, k_X12_borne_21, k_X12_borne_24, k_X12_borne_25, k_X12_borne_26, k_X12_borne_27, k_X12_borne_28, k_X12_borne_31, k_X12_borne_34, k_X12_borne_35, k_X12_borne_36, k_X12_borne_37, k_X12_borne_40, k_X12_borne_41, k_X12_borne_44, k_X12_borne_47, k_X12_borne_48, k_X12_borne_49, k_X12_borne_52, k_X12_borne_53, k_X12_borne_54, k_X12_borne_57, k_X12_borne_58, k_X12_borne_59, k_X12_borne_60, k_X12_borne_63, k_X12_borne_65, k_X12_borne_66, k_X12_borne_67, k_X12_borne_70, k_X12_borne_72, k_X12_borne_73, k_X12_borne_74, k_X12_borne_75, k_X12_borne_78, k_X12_borne_79, k_X12_borne_82, k_X12_borne_83, k_X12_borne_86, k_X12_borne_89, k_X12_borne_90, k_X12_borne_93, w_X12_copy_e, w_X12_goBorne_e, w_X12_isIn_e, e29, d0, if_neg d1]
      repeat' (first | apply And.intro | intro _)
      all_goals first | omega | exact absurd trivial (by assumption) | exact q8
/-! the reference: RESTS -/
theorem gix1 : ∀ n : Nat, n < 7 → ∀ a : Nat, a < n → ∀ b : Nat, b < n → (Int.tdiv (Int.tdiv (2 * ((n : Int) * a + b)) 2) n = a ∧ Int.tmod (Int.tdiv (2 * ((n : Int) * a + b)) 2) n = b ∧ Int.tmod (2 * ((n : Int) * a + b)) 2 = 0) := by decide +kernel
theorem gix2 : ∀ n : Nat, n < 7 → ∀ a : Nat, a < n → ∀ b : Nat, b < n → (Int.tdiv (Int.tdiv (2 * ((n : Int) * a + b) + 1) 2) n = a ∧ Int.tmod (Int.tdiv (2 * ((n : Int) * a + b) + 1) 2) n = b ∧ Int.tmod (2 * ((n : Int) * a + b) + 1) 2 = 1) := by decide +kernel
theorem gix3 : ∀ n : Nat, n < 7 → ∀ a : Nat, a < n → ∀ b : Nat, b < n → (0 ≤ (n : Int) * a + b ∧ 2 * ((n : Int) * a + b) + 1 < 2 * n * n ∧ (n : Int) * a ≤ 36 ∧ 0 ≤ (n : Int) * a) := by decide +kernel
theorem gix {n a b : Int} (n1 : n < 7) (a0 : 0 ≤ a) (a1 : a < n) (b0 : 0 ≤ b) (b1 : b < n) : (Int.tdiv (Int.tdiv (2 * (n * a + b)) 2) n = a ∧ Int.tmod (Int.tdiv (2 * (n * a + b)) 2) n = b ∧ Int.tmod (2 * (n * a + b)) 2 = 0) ∧ (Int.tdiv (Int.tdiv (2 * (n * a + b) + 1) 2) n = a ∧ Int.tmod (Int.tdiv (2 * (n * a + b) + 1) 2) n = b ∧ Int.tmod (2 * (n * a + b) + 1) 2 = 1) ∧ 0 ≤ n * a + b ∧ 2 * (n * a + b) + 1 < 2 * n * n ∧ n * a ≤ 36 ∧ 0 ≤ n * a := by
  obtain ⟨n, rfl⟩ : ∃ k : Nat, n = k := ⟨n.toNat, by omega⟩
  obtain ⟨a, rfl⟩ : ∃ k : Nat, a = k := ⟨a.toNat, by omega⟩
  obtain ⟨b, rfl⟩ : ∃ k : Nat, b = k := ⟨b.toNat, by omega⟩
  exact ⟨gix1 n (by omega) a (by omega) b (by omega), gix2 n (by omega) a (by omega) b (by omega), gix3 n (by omega) a (by omega) b (by omega)⟩
theorem gkx0 : ∀ n : Nat, n < 7 → ∀ k : Nat, k < 2 * n * n → (0 ≤ Int.tdiv (Int.tdiv (k : Int) 2) n ∧ Int.tdiv (Int.tdiv (k : Int) 2) n < n) ∧ (0 ≤ Int.tmod (Int.tdiv (k : Int) 2) n ∧ Int.tmod (Int.tdiv (k : Int) 2) n < n) ∧ (Int.tmod (k : Int) 2 = 0 ∨ Int.tmod (k : Int) 2 = 1) ∧ 0 ≤ Int.tdiv (k : Int) 2 ∧ Int.tdiv (k : Int) 2 ≤ 36 := by decide +kernel
theorem gsq0 : ∀ n : Nat, n < 7 → 2 * (n : Int) * n ≤ 72 ∧ 0 ≤ 2 * (n : Int) * n ∧ ((2 * (n : Int) * n).toNat = 2 * n * n) := by decide +kernel
theorem gsq {n : Int} (n0 : 0 ≤ n) (n1 : n < 7) : 2 * n * n ≤ 72 ∧ 0 ≤ 2 * n * n := by
  obtain ⟨n, rfl⟩ : ∃ k : Nat, n = k := ⟨n.toNat, by omega⟩
  exact ⟨(gsq0 n (by omega)).1, (gsq0 n (by omega)).2.1⟩
theorem gkx {n : Int} {k : Nat} (n0 : 0 ≤ n) (n1 : n < 7) (h : (k : Int) < 2 * n * n) : (0 ≤ Int.tdiv (Int.tdiv (k : Int) 2) n ∧ Int.tdiv (Int.tdiv (k : Int) 2) n < n) ∧ (0 ≤ Int.tmod (Int.tdiv (k : Int) 2) n ∧ Int.tmod (Int.tdiv (k : Int) 2) n < n) ∧ (Int.tmod (k : Int) 2 = 0 ∨ Int.tmod (k : Int) 2 = 1) ∧ 0 ≤ Int.tdiv (k : Int) 2 ∧ Int.tdiv (k : Int) 2 ≤ 36 := by
  obtain ⟨n, rfl⟩ : ∃ k : Nat, n = k := ⟨n.toNat, by omega⟩
  have := (gsq0 n (by omega)).2.2
  exact gkx0 n (by omega) k (by omega)
theorem mX15 {σ τ : Mem} (h : QF σ τ) (hm : mOk τ) (hx : mX σ 5015) : mX τ 5015 := by
  obtain ⟨-, hh, hr⟩ := hx
  have k := fun k (a1 : k ≠ 0) (a2 : k ≠ 5) (a3 : k < 8 ∨ 14 < k) (a4 : k ≠ 17) (a5 : k ≠ 46) (a6 : k ≠ 50) (a7 : k ≠ 51) => h.2 k a1 a2 a3 a4 a5 a6 a7
  have e29 := k 29 (by decide) (by decide) (by decide) (by decide) (by decide) (by decide) (by decide)
  have e30 := k 30 (by decide) (by decide) (by decide) (by decide) (by decide) (by decide) (by decide)
  refine ⟨Or.inl rfl, ?_, ?_⟩
  · obtain ⟨h1, h2, h3, h4, h5, h6, h7, h8, h9⟩ := hh
    refine ⟨hm, lwIs_c (k 7 (by decide) (by decide) (by decide) (by decide) (by decide) (by decide) (by decide)) (k 38 (by decide) (by decide) (by decide) (by decide) (by decide) (by decide) (by decide)) h2, ?_⟩
    rw [e29, e30, k 28 (by decide) (by decide) (by decide) (by decide) (by decide) (by decide) (by decide), k 48 (by decide) (by decide) (by decide) (by decide) (by decide) (by decide) (by decide), h.1 5007 (by decide) (by decide) (by decide) (by decide), h.1 5011 (by decide) (by decide) (by decide) (by decide), h.1 5005 (by decide) (by decide) (by decide) (by decide)]
    exact ⟨h3, h4, h5, h6, h7, h8, h9⟩
  · rw [e29, e30, h.1 5015 (by decide) (by decide) (by decide) (by decide)]; exact hr
theorem QF_gmV {σ τ : Mem} (h : QF σ τ) (hx : mX σ 5015) (o r p x y t : Int) {c : Int} (c0 : 0 ≤ c) (c1 : c < σ 5000 29) : gmV τ o r p x y c t = gmV σ o r p x y c t := by
  have e15 := h.1 5015 (by decide) (by decide) (by decide) (by decide)
  have e29 := h.2 29 (by decide) (by decide) (by decide) (by decide) (by decide) (by decide) (by decide)
  have n29 := hx.2.1.2.2.1
  have l27 := hx.2.2.2.2.2.2
  have g29 : gmM σ o r x y 5000 29 = σ 5000 29 := by rw [gmM_o σ o r x y (by decide)]
  have hs : sP (gmM σ o r x y) (gmM τ o r x y) 5016 5016 := by
    refine ⟨fun j j0 j1 => ?_, ?_, ?_, ?_, ?_, ?_, ?_, ?_⟩
    · unfold gmM
      rw [up_row, up_row, up_row, up_row]
      unfold upf
      rw [trK_j l27.1 j0 j1, trK_j (by rw [e15]; exact l27.1) j0 j1, e15]
    · rw [gmM_o τ o r x y (by decide), gmM_o σ o r x y (by decide)]; exact h.1 5007 (by decide) (by decide) (by decide) (by decide)
    · rw [gmM_o τ o r x y (by decide), gmM_o σ o r x y (by decide)]; exact h.1 5011 (by decide) (by decide) (by decide) (by decide)
    · rw [gmM_o τ o r x y (by decide), gmM_o σ o r x y (by decide)]; exact h.1 5005 (by decide) (by decide) (by decide) (by decide)
    · rw [gmM_o τ o r x y (by decide), gmM_o σ o r x y (by decide)]; exact h.1 5002 (by decide) (by decide) (by decide) (by decide)
    · rw [gmM_o τ o r x y (by decide), gmM_o σ o r x y (by decide)]; exact h.1 5003 (by decide) (by decide) (by decide) (by decide)
    · rw [gmM_o τ o r x y (by decide), gmM_o σ o r x y (by decide)]; exact e29
    · rw [gmM_o τ o r x y (by decide), gmM_o σ o r x y (by decide)]; exact h.2 38 (by decide) (by decide) (by decide) (by decide) (by decide) (by decide) (by decide)
  have em : mMi τ p = mMi σ p := by unfold mMi; rw [h.1 5007 (by decide) (by decide) (by decide) (by decide)]
  unfold gmV
  rw [em, sP_mOa hs (by rw [g29]; omega) p c0 (by rw [g29]; exact c1), sP_mFl hs (by rw [g29]; omega) p c0 (by rw [g29]; exact c1), e15]
/-- what the two have of a GAME, by number -/
def gnV (σ : Mem) (o r p n k : Int) : Int := if Int.tmod k 2 = 0 then gmV σ o r p (Int.tdiv (Int.tdiv k 2) n) (Int.tmod (Int.tdiv k 2) n) o (Int.tdiv (Int.tdiv k 2) n) else gmV σ o r p (Int.tdiv (Int.tdiv k 2) n) (Int.tmod (Int.tdiv k 2) n) r (Int.tmod (Int.tdiv k 2) n)
def mrP (G0 G1 : Int → Int → Int) (n x y : Int) : Prop := ∀ k, 0 ≤ k → k < n → G0 k y ≤ G0 x y ∧ G1 x k ≤ G1 x y

theorem wd_1359 : Cond.fieldLink RX12 105 "ArmchairHouseModel" "gains" "[I" ∈ TBL := tb_tab (List.mem_of_getElem? (i := 1359) (by decide +kernel)) rfl
theorem fl_X12_105 : amFl RX12 12 54 105 RX12 TX12 57 := ⟨rfl, inT_12, by decide, wd_1359⟩
def a_X12_rests : AC := [(0, vAload 0 1), (1, vI 0 2), (2, vPutI 28 0 5), (5, vAload 0 6), (6, vIload 1 7), (7, vIload 2 8), (8, vIload 3 9), (9, vCallM w_X12_isGame 28 3 12), (12, vIfEq 21 15), (15, vIload 4 17), (17, vI (-1) 18), (18, vIcGe 23 21), (21, vI (-1) 22), (22, vIret), (23, vAload 0 24), (24, vGetI 28 30 27), (27, vIstore 5 29), (29, vI 0 30), (30, vIstore 6 32), (32, vIload 6 34), (34, vI 2 35), (35, vIload 5 37), (37, vImul 38), (38, vIload 5 40), (40, vImul 41), (41, vIcGe 82 44), (44, vAload 0 45), (45, vGetR TT 28 54 8 48), (48, vIload 6 50), (50, vAload 0 51), (51, vIload 1 52), (52, vIload 2 53), (53, vIload 3 54), (54, vIload 6 56), (56, vI 2 57), (57, vIdiv 58), (58, vIload 5 60), (60, vIdiv 61), (61, vIload 6 63), (63, vI 2 64), (64, vIdiv 65), (65, vIload 5 67), (67, vIrem 68), (68, vIload 6 70), (70, vI 2 71), (71, vIrem 72), (72, vCallM w_X12_gameOf 28 6 75), (75, vIast TT 76), (76, vIinc 6 1 79), (79, vGoto 32), (82, vI 0 83), (83, vIstore 6 85), (85, vI 0 86), (86, vIstore 7 88), (88, vIload 7 90), (90, vIload 5 92), (92, vIcGe 245 95), (95, vI 0 96), (96, vIstore 8 98), (98, vIload 8 100), (100, vIload 5 102), (102, vIcGe 239 105), (105, vI 1 106), (106, vIstore 9 108), (108, vI 0 109), (109, vIstore 10 111), (111, vIload 10 113), (113, vIload 5 115), (115, vIcGe 206 118), (118, vIload 9 120), (120, vIfEq 197 123), (123, vAload 0 124), (124, vGetR TT 28 54 8 127), (127, vI 2 128), (128, vIload 5 130), (130, vIload 10 132), (132, vImul 133), (133, vIload 8 135), (135, vIadd 136), (136, vImul 137), (137, vIald TT 138), (138, vAload 0 139), (139, vGetR TT 28 54 8 142), (142, vI 2 143), (143, vIload 5 145), (145, vIload 7 147), (147, vImul 148), (148, vIload 8 150), (150, vIadd 151), (151, vImul 152), (152, vIald TT 153), (153, vIcGt 197 156), (156, vAload 0 157), (157, vGetR TT 28 54 8 160), (160, vI 2 161), (161, vIload 5 163), (163, vIload 7 165), (165, vImul 166), (166, vIload 10 168), (168, vIadd 169), (169, vImul 170), (170, vI 1 171), (171, vIadd 172), (172, vIald TT 173), (173, vAload 0 174), (174, vGetR TT 28 54 8 177), (177, vI 2 178), (178, vIload 5 180), (180, vIload 7 182), (182, vImul 183), (183, vIload 8 185), (185, vIadd 186), (186, vImul 187), (187, vI 1 188), (188, vIadd 189), (189, vIald TT 190), (190, vIcGt 197 193), (193, vI 1 194), (194, vGoto 198), (197, vI 0 198), (198, vIstore 9 200), (200, vIinc 10 1 203), (203, vGoto 111), (206, vIload 9 208), (208, vIfNe 214 211), (211, vGoto 233), (214, vIload 6 216), (216, vIload 4 218), (218, vIcNe 230 221), (221, vI 10 223), (223, vIload 7 225), (225, vImul 226), (226, vIload 8 228), (228, vIadd 229), (229, vIret), (230, vIinc 6 1 233), (233, vIinc 8 1 236), (236, vGoto 98), (239, vIinc 7 1 242), (242, vGoto 88), (245, vIload 4 247), (247, vI (-1) 248), (248, vIcNe 256 251), (251, vIload 6 253), (253, vGoto 257), (256, vI (-1) 257), (257, vIret)]
theorem k_X12_rests_0 : look a_X12_rests 0 = vAload 0 1 := rfl
theorem k_X12_rests_1 : look a_X12_rests 1 = vI 0 2 := rfl
theorem k_X12_rests_2 : look a_X12_rests 2 = vPutI 28 0 5 := rfl
theorem k_X12_rests_5 : look a_X12_rests 5 = vAload 0 6 := rfl
theorem k_X12_rests_6 : look a_X12_rests 6 = vIload 1 7 := rfl
theorem k_X12_rests_7 : look a_X12_rests 7 = vIload 2 8 := rfl
theorem k_X12_rests_8 : look a_X12_rests 8 = vIload 3 9 := rfl
theorem k_X12_rests_9 : look a_X12_rests 9 = vCallM w_X12_isGame 28 3 12 := rfl
theorem k_X12_rests_12 : look a_X12_rests 12 = vIfEq 21 15 := rfl
theorem k_X12_rests_15 : look a_X12_rests 15 = vIload 4 17 := rfl
theorem k_X12_rests_17 : look a_X12_rests 17 = vI (-1) 18 := rfl
theorem k_X12_rests_18 : look a_X12_rests 18 = vIcGe 23 21 := rfl
theorem k_X12_rests_21 : look a_X12_rests 21 = vI (-1) 22 := rfl
theorem k_X12_rests_22 : look a_X12_rests 22 = vIret := rfl
theorem k_X12_rests_23 : look a_X12_rests 23 = vAload 0 24 := rfl
theorem k_X12_rests_24 : look a_X12_rests 24 = vGetI 28 30 27 := rfl
theorem k_X12_rests_27 : look a_X12_rests 27 = vIstore 5 29 := rfl
theorem k_X12_rests_29 : look a_X12_rests 29 = vI 0 30 := rfl
theorem k_X12_rests_30 : look a_X12_rests 30 = vIstore 6 32 := rfl
theorem k_X12_rests_32 : look a_X12_rests 32 = vIload 6 34 := rfl
theorem k_X12_rests_34 : look a_X12_rests 34 = vI 2 35 := rfl
theorem k_X12_rests_35 : look a_X12_rests 35 = vIload 5 37 := rfl
theorem k_X12_rests_37 : look a_X12_rests 37 = vImul 38 := rfl
theorem k_X12_rests_38 : look a_X12_rests 38 = vIload 5 40 := rfl
theorem k_X12_rests_40 : look a_X12_rests 40 = vImul 41 := rfl
theorem k_X12_rests_41 : look a_X12_rests 41 = vIcGe 82 44 := rfl
theorem k_X12_rests_44 : look a_X12_rests 44 = vAload 0 45 := rfl
theorem k_X12_rests_45 : look a_X12_rests 45 = vGetR TT 28 54 8 48 := rfl
theorem k_X12_rests_48 : look a_X12_rests 48 = vIload 6 50 := rfl
theorem k_X12_rests_50 : look a_X12_rests 50 = vAload 0 51 := rfl
theorem k_X12_rests_51 : look a_X12_rests 51 = vIload 1 52 := rfl
theorem k_X12_rests_52 : look a_X12_rests 52 = vIload 2 53 := rfl
theorem k_X12_rests_53 : look a_X12_rests 53 = vIload 3 54 := rfl
theorem k_X12_rests_54 : look a_X12_rests 54 = vIload 6 56 := rfl
theorem k_X12_rests_56 : look a_X12_rests 56 = vI 2 57 := rfl
theorem k_X12_rests_57 : look a_X12_rests 57 = vIdiv 58 := rfl
theorem k_X12_rests_58 : look a_X12_rests 58 = vIload 5 60 := rfl
theorem k_X12_rests_60 : look a_X12_rests 60 = vIdiv 61 := rfl
theorem k_X12_rests_61 : look a_X12_rests 61 = vIload 6 63 := rfl
theorem k_X12_rests_63 : look a_X12_rests 63 = vI 2 64 := rfl
theorem k_X12_rests_64 : look a_X12_rests 64 = vIdiv 65 := rfl
theorem k_X12_rests_65 : look a_X12_rests 65 = vIload 5 67 := rfl
theorem k_X12_rests_67 : look a_X12_rests 67 = vIrem 68 := rfl
theorem k_X12_rests_68 : look a_X12_rests 68 = vIload 6 70 := rfl
theorem k_X12_rests_70 : look a_X12_rests 70 = vI 2 71 := rfl
theorem k_X12_rests_71 : look a_X12_rests 71 = vIrem 72 := rfl
theorem k_X12_rests_72 : look a_X12_rests 72 = vCallM w_X12_gameOf 28 6 75 := rfl
theorem k_X12_rests_75 : look a_X12_rests 75 = vIast TT 76 := rfl
theorem k_X12_rests_76 : look a_X12_rests 76 = vIinc 6 1 79 := rfl
theorem k_X12_rests_79 : look a_X12_rests 79 = vGoto 32 := rfl
theorem k_X12_rests_82 : look a_X12_rests 82 = vI 0 83 := rfl
theorem k_X12_rests_83 : look a_X12_rests 83 = vIstore 6 85 := rfl
theorem k_X12_rests_85 : look a_X12_rests 85 = vI 0 86 := rfl
theorem k_X12_rests_86 : look a_X12_rests 86 = vIstore 7 88 := rfl
theorem k_X12_rests_88 : look a_X12_rests 88 = vIload 7 90 := rfl
theorem k_X12_rests_90 : look a_X12_rests 90 = vIload 5 92 := rfl
theorem k_X12_rests_92 : look a_X12_rests 92 = vIcGe 245 95 := rfl
theorem k_X12_rests_95 : look a_X12_rests 95 = vI 0 96 := rfl
theorem k_X12_rests_96 : look a_X12_rests 96 = vIstore 8 98 := rfl
theorem k_X12_rests_98 : look a_X12_rests 98 = vIload 8 100 := rfl
theorem k_X12_rests_100 : look a_X12_rests 100 = vIload 5 102 := rfl
theorem k_X12_rests_102 : look a_X12_rests 102 = vIcGe 239 105 := rfl
theorem k_X12_rests_105 : look a_X12_rests 105 = vI 1 106 := rfl
theorem k_X12_rests_106 : look a_X12_rests 106 = vIstore 9 108 := rfl
theorem k_X12_rests_108 : look a_X12_rests 108 = vI 0 109 := rfl
theorem k_X12_rests_109 : look a_X12_rests 109 = vIstore 10 111 := rfl
theorem k_X12_rests_111 : look a_X12_rests 111 = vIload 10 113 := rfl
theorem k_X12_rests_113 : look a_X12_rests 113 = vIload 5 115 := rfl
theorem k_X12_rests_115 : look a_X12_rests 115 = vIcGe 206 118 := rfl
theorem k_X12_rests_118 : look a_X12_rests 118 = vIload 9 120 := rfl
theorem k_X12_rests_120 : look a_X12_rests 120 = vIfEq 197 123 := rfl
theorem k_X12_rests_123 : look a_X12_rests 123 = vAload 0 124 := rfl
theorem k_X12_rests_124 : look a_X12_rests 124 = vGetR TT 28 54 8 127 := rfl
theorem k_X12_rests_127 : look a_X12_rests 127 = vI 2 128 := rfl
theorem k_X12_rests_128 : look a_X12_rests 128 = vIload 5 130 := rfl
theorem k_X12_rests_130 : look a_X12_rests 130 = vIload 10 132 := rfl
theorem k_X12_rests_132 : look a_X12_rests 132 = vImul 133 := rfl
theorem k_X12_rests_133 : look a_X12_rests 133 = vIload 8 135 := rfl
theorem k_X12_rests_135 : look a_X12_rests 135 = vIadd 136 := rfl
theorem k_X12_rests_136 : look a_X12_rests 136 = vImul 137 := rfl
theorem k_X12_rests_137 : look a_X12_rests 137 = vIald TT 138 := rfl
theorem k_X12_rests_138 : look a_X12_rests 138 = vAload 0 139 := rfl
theorem k_X12_rests_139 : look a_X12_rests 139 = vGetR TT 28 54 8 142 := rfl
theorem k_X12_rests_142 : look a_X12_rests 142 = vI 2 143 := rfl
theorem k_X12_rests_143 : look a_X12_rests 143 = vIload 5 145 := rfl
theorem k_X12_rests_145 : look a_X12_rests 145 = vIload 7 147 := rfl
theorem k_X12_rests_147 : look a_X12_rests 147 = vImul 148 := rfl
theorem k_X12_rests_148 : look a_X12_rests 148 = vIload 8 150 := rfl
theorem k_X12_rests_150 : look a_X12_rests 150 = vIadd 151 := rfl
theorem k_X12_rests_151 : look a_X12_rests 151 = vImul 152 := rfl
theorem k_X12_rests_152 : look a_X12_rests 152 = vIald TT 153 := rfl
theorem k_X12_rests_153 : look a_X12_rests 153 = vIcGt 197 156 := rfl
theorem k_X12_rests_156 : look a_X12_rests 156 = vAload 0 157 := rfl
theorem k_X12_rests_157 : look a_X12_rests 157 = vGetR TT 28 54 8 160 := rfl
theorem k_X12_rests_160 : look a_X12_rests 160 = vI 2 161 := rfl
theorem k_X12_rests_161 : look a_X12_rests 161 = vIload 5 163 := rfl
theorem k_X12_rests_163 : look a_X12_rests 163 = vIload 7 165 := rfl
theorem k_X12_rests_165 : look a_X12_rests 165 = vImul 166 := rfl
theorem k_X12_rests_166 : look a_X12_rests 166 = vIload 10 168 := rfl
theorem k_X12_rests_168 : look a_X12_rests 168 = vIadd 169 := rfl
theorem k_X12_rests_169 : look a_X12_rests 169 = vImul 170 := rfl
theorem k_X12_rests_170 : look a_X12_rests 170 = vI 1 171 := rfl
theorem k_X12_rests_171 : look a_X12_rests 171 = vIadd 172 := rfl
theorem k_X12_rests_172 : look a_X12_rests 172 = vIald TT 173 := rfl
theorem k_X12_rests_173 : look a_X12_rests 173 = vAload 0 174 := rfl
theorem k_X12_rests_174 : look a_X12_rests 174 = vGetR TT 28 54 8 177 := rfl
theorem k_X12_rests_177 : look a_X12_rests 177 = vI 2 178 := rfl
theorem k_X12_rests_178 : look a_X12_rests 178 = vIload 5 180 := rfl
theorem k_X12_rests_180 : look a_X12_rests 180 = vIload 7 182 := rfl
theorem k_X12_rests_182 : look a_X12_rests 182 = vImul 183 := rfl
theorem k_X12_rests_183 : look a_X12_rests 183 = vIload 8 185 := rfl
theorem k_X12_rests_185 : look a_X12_rests 185 = vIadd 186 := rfl
theorem k_X12_rests_186 : look a_X12_rests 186 = vImul 187 := rfl
theorem k_X12_rests_187 : look a_X12_rests 187 = vI 1 188 := rfl
theorem k_X12_rests_188 : look a_X12_rests 188 = vIadd 189 := rfl
theorem k_X12_rests_189 : look a_X12_rests 189 = vIald TT 190 := rfl
theorem k_X12_rests_190 : look a_X12_rests 190 = vIcGt 197 193 := rfl
theorem k_X12_rests_193 : look a_X12_rests 193 = vI 1 194 := rfl
theorem k_X12_rests_194 : look a_X12_rests 194 = vGoto 198 := rfl
theorem k_X12_rests_197 : look a_X12_rests 197 = vI 0 198 := rfl
theorem k_X12_rests_198 : look a_X12_rests 198 = vIstore 9 200 := rfl
theorem k_X12_rests_200 : look a_X12_rests 200 = vIinc 10 1 203 := rfl
theorem k_X12_rests_203 : look a_X12_rests 203 = vGoto 111 := rfl
theorem k_X12_rests_206 : look a_X12_rests 206 = vIload 9 208 := rfl
theorem k_X12_rests_208 : look a_X12_rests 208 = vIfNe 214 211 := rfl
theorem k_X12_rests_211 : look a_X12_rests 211 = vGoto 233 := rfl
theorem k_X12_rests_214 : look a_X12_rests 214 = vIload 6 216 := rfl
theorem k_X12_rests_216 : look a_X12_rests 216 = vIload 4 218 := rfl
theorem k_X12_rests_218 : look a_X12_rests 218 = vIcNe 230 221 := rfl
theorem k_X12_rests_221 : look a_X12_rests 221 = vI 10 223 := rfl
theorem k_X12_rests_223 : look a_X12_rests 223 = vIload 7 225 := rfl
theorem k_X12_rests_225 : look a_X12_rests 225 = vImul 226 := rfl
theorem k_X12_rests_226 : look a_X12_rests 226 = vIload 8 228 := rfl
theorem k_X12_rests_228 : look a_X12_rests 228 = vIadd 229 := rfl
theorem k_X12_rests_229 : look a_X12_rests 229 = vIret := rfl
theorem k_X12_rests_230 : look a_X12_rests 230 = vIinc 6 1 233 := rfl
theorem k_X12_rests_233 : look a_X12_rests 233 = vIinc 8 1 236 := rfl
theorem k_X12_rests_236 : look a_X12_rests 236 = vGoto 98 := rfl
theorem k_X12_rests_239 : look a_X12_rests 239 = vIinc 7 1 242 := rfl
theorem k_X12_rests_242 : look a_X12_rests 242 = vGoto 88 := rfl
theorem k_X12_rests_245 : look a_X12_rests 245 = vIload 4 247 := rfl
theorem k_X12_rests_247 : look a_X12_rests 247 = vI (-1) 248 := rfl
theorem k_X12_rests_248 : look a_X12_rests 248 = vIcNe 256 251 := rfl
theorem k_X12_rests_251 : look a_X12_rests 251 = vIload 6 253 := rfl
theorem k_X12_rests_253 : look a_X12_rests 253 = vGoto 257 := rfl
theorem k_X12_rests_256 : look a_X12_rests 256 = vI (-1) 257 := rfl
theorem k_X12_rests_257 : look a_X12_rests 257 = vIret := rfl
theorem o_X12_rests {X : amX} (e1 : XT X = TT) (e2 : XD X = 61) (hB : amB X RX12 cX12_rests (some .int) 11) : ∀ pc, amOK X pc (look a_X12_rests pc) := by
  have hT : amTok (XT X) := e1 ▸ TT_ok
  refine look_ok ?_
  unfold a_X12_rests
  refine fc (ok_aload_n hB dX12_rests_0) ?_
  refine fc (ok_iconst hB dX12_rests_1) ?_
  refine fc (ok_putI hB hT fp_X12_111 rfl rfl rfl af_12_0 dX12_rests_2) ?_
  refine fc (ok_aload_n hB dX12_rests_5) ?_
  refine fc (ok_iload_n hB dX12_rests_6) ?_
  refine fc (ok_iload_n hB dX12_rests_7) ?_
  refine fc (ok_iload_n hB dX12_rests_8) ?_
  refine fc (ok_callM hB hT (e1 ▸ s_X12_isGame) lk_X12_466 (by rw [e2]; decide) (c := 12) rfl rfl rfl wd_1870 sl_X12_isGame dX12_rests_9) ?_
  refine fc (ok_if_eq hB (t := 21) (by decide) dX12_rests_12) ?_
  refine fc (ok_iload hB dX12_rests_15) ?_
  refine fc (ok_iconst hB dX12_rests_17) ?_
  refine fc (ok_icmp_ge hB (t := 23) (by decide) dX12_rests_18) ?_
  refine fc (ok_iconst hB dX12_rests_21) ?_
  refine fc (ok_iret hB dX12_rests_22) ?_
  refine fc (ok_aload_n hB dX12_rests_23) ?_
  refine fc (ok_getI hB hT fl_X12_320 rfl rfl (Or.inl af_12_30) dX12_rests_24) ?_
  refine fc (ok_istore hB (by decide) dX12_rests_27) ?_
  refine fc (ok_iconst hB dX12_rests_29) ?_
  refine fc (ok_istore hB (by decide) dX12_rests_30) ?_
  refine fc (ok_iload hB dX12_rests_32) ?_
  refine fc (ok_iconst hB dX12_rests_34) ?_
  refine fc (ok_iload hB dX12_rests_35) ?_
  refine fc (ok_imul hB dX12_rests_37) ?_
  refine fc (ok_iload hB dX12_rests_38) ?_
  refine fc (ok_imul hB dX12_rests_40) ?_
  refine fc (ok_icmp_ge hB (t := 82) (by decide) dX12_rests_41) ?_
  refine fc (ok_aload_n hB dX12_rests_44) ?_
  refine fc (okt_getR e1 hB hT fl_X12_105 rfl af_12_54 at_12_54 (by decide) dX12_rests_45) ?_
  refine fc (ok_iload hB dX12_rests_48) ?_
  refine fc (ok_aload_n hB dX12_rests_50) ?_
  refine fc (ok_iload_n hB dX12_rests_51) ?_
  refine fc (ok_iload_n hB dX12_rests_52) ?_
  refine fc (ok_iload_n hB dX12_rests_53) ?_
  refine fc (ok_iload hB dX12_rests_54) ?_
  refine fc (ok_iconst hB dX12_rests_56) ?_
  refine fc (ok_idiv hB dX12_rests_57) ?_
  refine fc (ok_iload hB dX12_rests_58) ?_
  refine fc (ok_idiv hB dX12_rests_60) ?_
  refine fc (ok_iload hB dX12_rests_61) ?_
  refine fc (ok_iconst hB dX12_rests_63) ?_
  refine fc (ok_idiv hB dX12_rests_64) ?_
  refine fc (ok_iload hB dX12_rests_65) ?_
  refine fc (ok_irem hB dX12_rests_67) ?_
  refine fc (ok_iload hB dX12_rests_68) ?_
  refine fc (ok_iconst hB dX12_rests_70) ?_
  refine fc (ok_irem hB dX12_rests_71) ?_
  refine fc (ok_callM hB hT (e1 ▸ s_X12_gameOf) lk_X12_470 (by rw [e2]; decide) (c := 12) rfl rfl rfl wd_1874 sl_X12_gameOf dX12_rests_72) ?_
  refine fc (okt_iastore e1 hB dX12_rests_75) ?_
  refine fc (ok_iinc hB (by decide) dX12_rests_76) ?_
  refine fc (ok_goto hB (t := 32) (by decide) dX12_rests_79) ?_
  refine fc (ok_iconst hB dX12_rests_82) ?_
  refine fc (ok_istore hB (by decide) dX12_rests_83) ?_
  refine fc (ok_iconst hB dX12_rests_85) ?_
  refine fc (ok_istore hB (by decide) dX12_rests_86) ?_
  refine fc (ok_iload hB dX12_rests_88) ?_
  refine fc (ok_iload hB dX12_rests_90) ?_
  refine fc (ok_icmp_ge hB (t := 245) (by decide) dX12_rests_92) ?_
  refine fc (ok_iconst hB dX12_rests_95) ?_
  refine fc (ok_istore hB (by decide) dX12_rests_96) ?_
  refine fc (ok_iload hB dX12_rests_98) ?_
  refine fc (ok_iload hB dX12_rests_100) ?_
  refine fc (ok_icmp_ge hB (t := 239) (by decide) dX12_rests_102) ?_
  refine fc (ok_iconst hB dX12_rests_105) ?_
  refine fc (ok_istore hB (by decide) dX12_rests_106) ?_
  refine fc (ok_iconst hB dX12_rests_108) ?_
  refine fc (ok_istore hB (by decide) dX12_rests_109) ?_
  refine fc (ok_iload hB dX12_rests_111) ?_
  refine fc (ok_iload hB dX12_rests_113) ?_
  refine fc (ok_icmp_ge hB (t := 206) (by decide) dX12_rests_115) ?_
  refine fc (ok_iload hB dX12_rests_118) ?_
  refine fc (ok_if_eq hB (t := 197) (by decide) dX12_rests_120) ?_
  refine fc (ok_aload_n hB dX12_rests_123) ?_
  refine fc (okt_getR e1 hB hT fl_X12_105 rfl af_12_54 at_12_54 (by decide) dX12_rests_124) ?_
  refine fc (ok_iconst hB dX12_rests_127) ?_
  refine fc (ok_iload hB dX12_rests_128) ?_
  refine fc (ok_iload hB dX12_rests_130) ?_
  refine fc (ok_imul hB dX12_rests_132) ?_
  refine fc (ok_iload hB dX12_rests_133) ?_
  refine fc (ok_iadd hB dX12_rests_135) ?_
  refine fc (ok_imul hB dX12_rests_136) ?_
  refine fc (okt_iaload e1 hB dX12_rests_137) ?_
  refine fc (ok_aload_n hB dX12_rests_138) ?_
  refine fc (okt_getR e1 hB hT fl_X12_105 rfl af_12_54 at_12_54 (by decide) dX12_rests_139) ?_
  refine fc (ok_iconst hB dX12_rests_142) ?_
  refine fc (ok_iload hB dX12_rests_143) ?_
  refine fc (ok_iload hB dX12_rests_145) ?_
  refine fc (ok_imul hB dX12_rests_147) ?_
  refine fc (ok_iload hB dX12_rests_148) ?_
  refine fc (ok_iadd hB dX12_rests_150) ?_
  refine fc (ok_imul hB dX12_rests_151) ?_
  refine fc (okt_iaload e1 hB dX12_rests_152) ?_
  refine fc (ok_icmp_gt hB (t := 197) (by decide) dX12_rests_153) ?_
  refine fc (ok_aload_n hB dX12_rests_156) ?_
  refine fc (okt_getR e1 hB hT fl_X12_105 rfl af_12_54 at_12_54 (by decide) dX12_rests_157) ?_
  refine fc (ok_iconst hB dX12_rests_160) ?_
  refine fc (ok_iload hB dX12_rests_161) ?_
  refine fc (ok_iload hB dX12_rests_163) ?_
  refine fc (ok_imul hB dX12_rests_165) ?_
  refine fc (ok_iload hB dX12_rests_166) ?_
  refine fc (ok_iadd hB dX12_rests_168) ?_
  refine fc (ok_imul hB dX12_rests_169) ?_
  refine fc (ok_iconst hB dX12_rests_170) ?_
  refine fc (ok_iadd hB dX12_rests_171) ?_
  refine fc (okt_iaload e1 hB dX12_rests_172) ?_
  refine fc (ok_aload_n hB dX12_rests_173) ?_
  refine fc (okt_getR e1 hB hT fl_X12_105 rfl af_12_54 at_12_54 (by decide) dX12_rests_174) ?_
  refine fc (ok_iconst hB dX12_rests_177) ?_
  refine fc (ok_iload hB dX12_rests_178) ?_
  refine fc (ok_iload hB dX12_rests_180) ?_
  refine fc (ok_imul hB dX12_rests_182) ?_
  refine fc (ok_iload hB dX12_rests_183) ?_
  refine fc (ok_iadd hB dX12_rests_185) ?_
  refine fc (ok_imul hB dX12_rests_186) ?_
  refine fc (ok_iconst hB dX12_rests_187) ?_
  refine fc (ok_iadd hB dX12_rests_188) ?_
  refine fc (okt_iaload e1 hB dX12_rests_189) ?_
  refine fc (ok_icmp_gt hB (t := 197) (by decide) dX12_rests_190) ?_
  refine fc (ok_iconst hB dX12_rests_193) ?_
  refine fc (ok_goto hB (t := 198) (by decide) dX12_rests_194) ?_
  refine fc (ok_iconst hB dX12_rests_197) ?_
  refine fc (ok_istore hB (by decide) dX12_rests_198) ?_
  refine fc (ok_iinc hB (by decide) dX12_rests_200) ?_
  refine fc (ok_goto hB (t := 111) (by decide) dX12_rests_203) ?_
  refine fc (ok_iload hB dX12_rests_206) ?_
  refine fc (ok_if_ne hB (t := 214) (by decide) dX12_rests_208) ?_
  refine fc (ok_goto hB (t := 233) (by decide) dX12_rests_211) ?_
  refine fc (ok_iload hB dX12_rests_214) ?_
  refine fc (ok_iload hB dX12_rests_216) ?_
  refine fc (ok_icmp_ne hB (t := 230) (by decide) dX12_rests_218) ?_
  refine fc (ok_bipush hB dX12_rests_221 (by decide)) ?_
  refine fc (ok_iload hB dX12_rests_223) ?_
  refine fc (ok_imul hB dX12_rests_225) ?_
  refine fc (ok_iload hB dX12_rests_226) ?_
  refine fc (ok_iadd hB dX12_rests_228) ?_
  refine fc (ok_iret hB dX12_rests_229) ?_
  refine fc (ok_iinc hB (by decide) dX12_rests_230) ?_
  refine fc (ok_iinc hB (by decide) dX12_rests_233) ?_
  refine fc (ok_goto hB (t := 98) (by decide) dX12_rests_236) ?_
  refine fc (ok_iinc hB (by decide) dX12_rests_239) ?_
  refine fc (ok_goto hB (t := 88) (by decide) dX12_rests_242) ?_
  refine fc (ok_iload hB dX12_rests_245) ?_
  refine fc (ok_iconst hB dX12_rests_247) ?_
  refine fc (ok_icmp_ne hB (t := 256) (by decide) dX12_rests_248) ?_
  refine fc (ok_iload hB dX12_rests_251) ?_
  refine fc (ok_goto hB (t := 257) (by decide) dX12_rests_253) ?_
  refine fc (ok_iconst hB dX12_rests_256) ?_
  refine fc (ok_iret hB dX12_rests_257) ?_
  exact fn
def inv_mrs (σ : Mem) (G0 G1 : Int → Int → Int) (o r p i S : Int) (n pc : Nat) (ls st : List AV) (σ' : Mem) : Prop := st = [] ∧ gmP σ o r p ∧ -1 ≤ i ∧ QF σ σ' ∧ mOk σ' ∧
  ((∃ k : Nat, pc = 32 ∧ ls = [(28, 5000), (0, o), (0, r), (0, p), (0, i), (0, S), (0, (k : Int)), (6, 0), (6, 0), (6, 0), (6, 0)] ∧ (k : Int) ≤ 2 * S * S ∧ (n : Int) = 100000 + 2 * S * S - k ∧ ∀ j, 0 ≤ j → j < k → σ' 5025 j = gnV σ o r p S j) ∨
   ((∀ a b, 0 ≤ a → a < S → 0 ≤ b → b < S → σ' 5025 (2 * (S * a + b)) = G0 a b ∧ σ' 5025 (2 * (S * a + b) + 1) = G1 a b) ∧ ∃ (c x : Int), 0 ≤ c ∧ 0 ≤ x ∧
    ((∃ v8 v9 v10 : AV, pc = 88 ∧ c ≤ 6 * x ∧ x ≤ S ∧ (n : Int) = (S - x) * 10000 ∧ ls = [(28, 5000), (0, o), (0, r), (0, p), (0, i), (0, S), (0, c), (0, x), v8, v9, v10] ∧ v8.1 ≠ 1 ∧ v9.1 ≠ 1 ∧ rsO (mrP G0 G1 S) i S.toNat (S - x).toNat x c = rsO (mrP G0 G1 S) i S.toNat S.toNat 0 0) ∨
     (∃ (y : Int) (v9 v10 : AV), pc = 98 ∧ x < S ∧ 0 ≤ y ∧ y ≤ S ∧ c ≤ 6 * x + y ∧ (n : Int) = (S - x) * 10000 - 1 - y * 100 ∧ ls = [(28, 5000), (0, o), (0, r), (0, p), (0, i), (0, S), (0, c), (0, x), (0, y), v9, v10] ∧ v9.1 ≠ 1 ∧ rsI (mrP G0 G1 S) i x (rsO (mrP G0 G1 S) i S.toNat (S - x - 1).toNat (x + 1)) (S - y).toNat y c = rsO (mrP G0 G1 S) i S.toNat S.toNat 0 0) ∨
     (∃ (y b k : Int), pc = 111 ∧ x < S ∧ 0 ≤ y ∧ y < S ∧ c ≤ 6 * x + y ∧ 0 ≤ k ∧ k ≤ S ∧ (n : Int) = (S - x) * 10000 - 2 - y * 100 - k ∧ ls = [(28, 5000), (0, o), (0, r), (0, p), (0, i), (0, S), (0, c), (0, x), (0, y), (0, b), (0, k)] ∧ ((b = 1 ∧ ∀ j, 0 ≤ j → j < k → G0 j y ≤ G0 x y ∧ G1 x j ≤ G1 x y) ∨ (b = 0 ∧ ¬ mrP G0 G1 S x y)) ∧ rsI (mrP G0 G1 S) i x (rsO (mrP G0 G1 S) i S.toNat (S - x - 1).toNat (x + 1)) (S - y).toNat y c = rsO (mrP G0 G1 S) i S.toNat S.toNat 0 0))))
def w_X12_rests : WP := fun av σ Q => ∃ (o : Int) (r : Int) (p : Int) (i : Int), av = [(28, 5000), (0, o), (0, r), (0, p), (0, i)] ∧ (InR o ∧ InR r ∧ InR p ∧ InR i ∧ mX σ 5015 ∧ (¬ (gmP σ o r p ∧ -1 ≤ i) → Q (0, -1) (th0 σ)) ∧ (gmP σ o r p ∧ -1 ≤ i → ∀ τ, QF σ τ → mOk τ → Q (0, rsO (mrP (fun a b => gmV σ o r p a b o a) (fun a b => gmV σ o r p a b r b) (σ 5000 30)) i (σ 5000 30).toNat (σ 5000 30).toNat 0 0) τ))
theorem w_X12_rests_e (o : Int) (r : Int) (p : Int) (i : Int) (σ : Mem) (Q : AV → Mem → Prop) : w_X12_rests [(28, 5000), (0, o), (0, r), (0, p), (0, i)] σ Q = (InR o ∧ InR r ∧ InR p ∧ InR i ∧ mX σ 5015 ∧ (¬ (gmP σ o r p ∧ -1 ≤ i) → Q (0, -1) (th0 σ)) ∧ (gmP σ o r p ∧ -1 ≤ i → ∀ τ, QF σ τ → mOk τ → Q (0, rsO (mrP (fun a b => gmV σ o r p a b o a) (fun a b => gmV σ o r p a b r b) (σ 5000 30)) i (σ 5000 30).toNat (σ 5000 30).toNat 0 0) τ)) := by
  apply propext; constructor
  · rintro ⟨o', r', p', i', h9, hb9⟩; cases h9; exact hb9
  · intro hb9; exact ⟨o, r, p, i, rfl, hb9⟩

set_option maxRecDepth 100000 in
set_option maxHeartbeats 4000000 in
theorem s_X12_rests : ∀ av σ Q, w_X12_rests av σ Q → amCall 61 0 0 TT yX12_rests cX12_rests 11 (some .int) av σ Q := by
  rintro av σ Q ⟨o, r, p, i, rfl, ho, hr, hp, hi, hx, h1, h2⟩
  have n29 := hx.2.1.2.2.1
  have n28 := hx.2.1.2.2.2.2.1
  have n30 := hx.2.1.2.2.2.1
  have e28 : th0 σ 5000 28 = σ 5000 28 := th_k σ (by decide)
  have e29 : th0 σ 5000 29 = σ 5000 29 := th_k σ (by decide)
  have e30 : th0 σ 5000 30 = σ 5000 30 := th_k σ (by decide)
  have eg : gmP (th0 σ) o r p = gmP σ o r p := by unfold gmP; rw [e29, e28]
  have hmt := (mX_th hx).2.1.1
  generalize hG0 : (fun a b => gmV σ o r p a b o a) = G0 at h2
  generalize hG1 : (fun a b => gmV σ o r p a b r b) = G1 at h2
  have g0 : ∀ a b, gmV σ o r p a b o a = G0 a b := fun a b => by rw [← hG0]
  have g1 : ∀ a b, gmV σ o r p a b r b = G1 a b := fun a b => by rw [← hG1]
  generalize hS : σ 5000 30 = S at *
  have sq := gsq n30.1 (by omega)
  have gb0 : gmP σ o r p → ∀ a b, -1000 ≤ G0 a b ∧ G0 a b ≤ 1000 := fun z a b => by rw [← g0]; exact gmV_b hx ⟨z.2.2.2.1, by have := z.2.2.2.2; omega⟩ z.1
  have gb1 : gmP σ o r p → ∀ a b, -1000 ≤ G1 a b ∧ G1 a b ≤ 1000 := fun z a b => by rw [← g1]; exact gmV_b hx ⟨z.2.2.2.1, by have := z.2.2.2.2; omega⟩ z.2.1
  refine am_m [32, 88, 98, 111] (inv_mrs σ G0 G1 o r p i S) (own := RX12) (A := look a_X12_rests) (fun X e1 e2 hB => o_X12_rests e1 e2 hB) rfl (by decide +kernel) rfl rfl ?_ ⟨60, ?_⟩ (w := 11)
  · rintro n pc ls st σ' ⟨rfl, hg, hi1, hQ, hm, ⟨k, rfl, rfl, hk, hn, hgn⟩ | ⟨hgn, c, x, c0, x0, ⟨v8, v9, v10, rfl, hcx, hxS, hn, rfl, h8, h9, hr9⟩ | ⟨y, v9, v10, rfl, hxS, y0, yS, hcy, hn, rfl, h9, hr9⟩ | ⟨y, b, k, rfl, hxS, y0, yS, hcy, k0, kS, hn, rfl, hb, hr9⟩⟩⟩
    · have hx' := mX15 hQ hm hx
      have s28 := hQ.2 28 (by decide) (by decide) (by decide) (by decide) (by decide) (by decide) (by decide)
      have s29 := hQ.2 29 (by decide) (by decide) (by decide) (by decide) (by decide) (by decide) (by decide)
      have s30 := hQ.2 30 (by decide) (by decide) (by decide) (by decide) (by decide) (by decide) (by decide)
      rw [hS] at s30
      have hg' : gmP σ' o r p := by unfold gmP; rw [s28, s29]; exact hg
      refine ⟨90, ?_⟩
      by_cases cc : (k : Int) < 2 * S * S
      · obtain ⟨⟨a0, a1⟩, ⟨b0, b1⟩, w01, d0, d1⟩ := gkx n30.1 (by omega) cc
        have ev : (if Int.tmod (k : Int) 2 = 0 then gmV σ' o r p (Int.tdiv (Int.tdiv (k : Int) 2) S) (Int.tmod (Int.tdiv (k : Int) 2) S) o (Int.tdiv (Int.tdiv (k : Int) 2) S) else gmV σ' o r p (Int.tdiv (Int.tdiv (k : Int) 2) S) (Int.tmod (Int.tdiv (k : Int) 2) S) r (Int.tmod (Int.tdiv (k : Int) 2) S)) = gnV σ o r p S k := by
          unfold gnV; rw [QF_gmV hQ hx _ _ _ _ _ _ hg.1.1 hg.1.2, QF_gmV hQ hx _ _ _ _ _ _ hg.2.1.1 hg.2.1.2]
        have i9 : ∀ τ, QF σ' τ → mOk τ → τ 5025 = σ' 5025 → ∃ k', k' < n ∧ inv_mrs σ G0 G1 o r p i S k' 32 [(28, 5000), (0, o), (0, r), (0, p), (0, i), (0, S), (0, (k : Int) + 1), (6, 0), (6, 0), (6, 0), (6, 0)] [] (up τ 5025 k (gnV σ o r p S k)) := fun τ a b e =>
          ⟨n - 1, by omega, rfl, hg, hi1, QF_up (QF_tr hQ a) (Or.inr rfl), mOk_c (by rw [up_na _ (by decide)]) (fun x hx => up_na _ (by omega)) b, Or.inl ⟨k + 1, rfl, rfl, by omega, by omega, fun j j0 j1 => by
            by_cases z : j = k
            · rw [z, up_s]
            · rw [up_nj _ (by omega), e]; exact hgn j j0 (by omega)⟩⟩
        simp only [↓reduceIte, inR_0, inR_1, inR_m, vSw2_e, swP_n, swP_c, vI_e, vL_e, vNull_e, vIload_e, vLload_e, vAload_e, vIstore_e, vLstore_e, vAstore_e, vIinc_e, vIadd_e, vIsub_e, vImul_e, vIand_e, vIor_e, vIxor_e, vIshl_e, vIshr_e, vIushr_e, vIdiv_e, vIrem_e, vLadd_e, vLsub_e, vLmul_e, vLand_e, vLor_e, vLxor_e, vLdiv_e, vLrem_e, vLushr_e, vLshl_e, vLcmp_e, vIneg_e, vI2l_e, vL2i_e, vI2b_e, vI2c_e, vDup_e, vPop_e, vDup2_e, vGoto_e, vIcEq_e, vIfEq_e, vIcNe_e, vIfNe_e, vIcLt_e, vIfLt_e, vIcGe_e, vIfGe_e, vIcGt_e, vIfGt_e, vIcLe_e, vIfLe_e, vNonnull_e, vSw_e, vGetI_e, vGetL_e, vGetR_e, vPutI_e, vPutZ_e, vPutL_e, vPutR_e, vIald_e, vIald_s, vLald_e, vBald_e, vBald_s, vAald_e, vIast_e, vLast_e, vBast_e, vAast_e, vAlen_e8, vAlen_e9, vAlen_e10, vAlen_e11, vAlen_e5, vAlen_e3, vGets_e, vCompact_e, vLdcS_e, vIret_e, vZret_e, vCret_e, vBret_e, vLret_e, vVret_e, vAret_e, vCallM_e0, vCallMV_e0, vCallS_e0, vCallSV_e0, vCallM_e1, vCallMV_e1, vCallS_e1, vCallSV_e1, vCallM_e2, vCallMV_e2, vCallS_e2, vCallSV_e2, vCallM_e3, vCallMV_e3, vCallS_e3, vCallSV_e3, vCallM_e4, vCallMV_e4, vCallS_e4, vCallSV_e4, vCallM_e5, vCallMV_e5, vCallS_e5, vCallSV_e5, vCallM_e6, vCallMV_e6, vCallS_e6, vCallSV_e6, vCallM_e7, vCallMV_e7, vCallS_e7, vCallSV_e7, vBad_e, vStrVal_e, vStrCod_e, vForm_e, vCallT_e0, vCallT_e1, vCallT_e2, vCopy_e, rf_0_0, rf_0_1, rf_0_2, rf_0_3, rf_0_4, rf_0_7, rf_0_10, rf_0_11, rf_0_12, rf_0_13, rf_0_14, rf_0_15, rf_0_16, rf_1_0, rf_3_0, rf_3_1, rf_6_0, rf_6_1, rf_9_0, rf_9_1, rf_9_3, rf_13_0, rf_13_1, rf_13_2, rf_16_0, rf_16_1, rf_16_2, rf_16_3, rf_21_0, rf_21_1, rf_21_2, rf_21_3, rf_26_0, rf_26_1, rf_26_2, rf_26_3, rf_26_4, rf_26_5, rf_26_6, rf_31_0, rf_31_2, rf_31_5, rf_31_6, rf_36_0, rf_36_1, rf_36_2, rf_36_3, rf_39_0, rf_39_1, rf_39_2, rf_41_0, rf_41_1, rf_41_2, rf_41_3, rf_5000_1, rf_5000_2, rf_5000_3, rf_5000_4, rf_5000_5, rf_5000_15, rf_5000_16, rf_5000_18, rf_5000_19, rf_5000_20, rf_5000_21, rf_5000_22, rf_5000_23, rf_5000_24, rf_5000_25, rf_5000_26, rf_5000_27, rf_5000_36, rf_5000_37, rf_5000_40, rf_5000_41, rf_5000_42, rf_5000_43, rf_5000_44, rf_5000_45, rf_5000_47, rf_5000_52, rf_5000_54, rf_5000_55, rf_100_0, rf_100_1, rf_103_0, rf_103_1, rf_106_0, rf_106_1, rf_109_0, rf_109_1, al_2, al_4, al_5, al_7, al_8, al_10, al_11, al_12, al_14, al_15, al_17, al_18, al_19, al_20, al_22, al_23, al_24, al_25, al_27, al_28, al_29, al_30, al_32, al_33, al_34, al_35, al_37, al_38, al_40, al_42, al_5001, al_5002, al_5003, al_5004, al_5005, al_5006, al_5007, al_5008, al_5009, al_5010, al_5011, al_5012, al_5013, al_5014, al_5015, al_5016, al_5017, al_5018, al_5019, al_5020, al_5021, al_5022, al_5023, al_5024, al_5025, al_5026, al_9000, al_101, al_102, al_104, al_105, al_107, al_108, al_110, al_111, vcs_e, lg_c0, lg_cs, lg_nil, set_c0, set_cs, okst_0, okst_s, acok_n, acok_c, List.contains_nil, List.contains_cons, Bool.or_false, Bool.false_or, Bool.false_eq_true, if_false, if_true, ite_self, ne_eq, true_and, and_true, not_false_eq_true, not_true_eq_false, false_imp_iff, true_imp_iff, Nat.ble_eq, Bool.and_eq_true, reduceCtorEq, or_false, false_or, or_true, true_or, false_and, and_false, and_self, Int.reduceLE, Int.reduceAdd, Int.reduceSub, Int.reduceMul, Int.reduceNeg, Int.reduceLT, Int.reduceEq, Int.reduceNe, Nat.reduceBEq, Nat.reduceBNe, Nat.reduceEqDiff, amCmp_in, amCmp_lt, amCmp_le, amCmp_gt, amCmp_ge, amCmp_eq, amCmp_ne, Nat.reduceLeDiff, Nat.reduceSub, Bool.and_true, Bool.true_and, Bool.and_self, Bool.or_true, Bool.true_or, isRf_3, isRf_4, isRf_5, isRf_8, isRf_9, isRf_10, isRf_11, isRf_15, isRf_16, isRf_17, isRf_18, isRf_19, isRf_20, isRf_21, isRf_22, isRf_23, isRf_24, isRf_25, isRf_26, isRf_27, isRf_28, k_X12_rests_0, k_X12_rests_1, k_X12_rests_2, k_X12_rests_5, k_X12_rests_6, k_X12_rests_7, k_X12_rests_8, k_X12_rests_9, k_X12_rests_12, k_X12_rests_15, k_X12_rests_17, k_X12_rests_18, k_X12_rests_21, k_X12_rests_22, k_X12_rests_23, k_X12_rests_24, k_X12_rests_27, k_X12_rests_29, k_X12_rests_30, k_X12_rests_32, k_X12_rests_34, k_X12_rests_35, k_X12_rests_37, k_X12_rests_38, k_X12_rests_40, k_X12_rests_41, k_X12_rests_44, k_X12_rests_45, k_X12_rests_48, k_X12_rests_50, k_X12_rests_51, k_X12_rests_52, k_X12_rests_53, k_X12_rests_54, k_X12_rests_56, k_X12_rests_57, k_X12_rests_58, k_X12_rests_60, k_X12_rests_61, k_X12_rests_63, k_X12_rests_64, k_X12_rests_65, k_X12_rests_67, k_X12_rests_68, k_X12_rests_70, k_X12_rests_71, k_X12_rests_72, k_X12_rests_75, k_X12_rests_76, k_X12_rests_79, k_X12_rests_82, k_X12_rests_83, k_X12_rests_85, k_X12_rests_86, k_X12_rests_88, k_X12_rests_90, k_X12_rests_92, k_X12_rests_95, k_X12_rests_96, k_X12_rests_98, k_X12_rests_100, k_X12_rests_102, k_X12_rests_105, k_X12_rests_106, k_X12_rests_108, k_X12_rests_109, k_X12_rests_111, k_X12_rests_113, k_X12_rests_115, k_X12_rests_118, k_X12_rests_120, k_X12_rests_123, k_X12_rests_124, k_X12_rests_127, k_X12_rests_128, k_X12_rests_130, k_X12_rests_132, k_X12_rests_133, k_X12_rests_135, k_X12_rests_136, k_X12_rests_137, k_X12_rests_138, k_X12_rests_139, k_X12_rests_142, k_X12_rests_143, k_X12_rests_145, k_X12_rests_147, k_X12_rests_148, k_X12_rests_150, k_X12_rests_151, k_X12_rests_152, k_X12_rests_153, k_X12_rests_156, k_X12_rests_157, k_X12_rests_160, k_X12_rests_161, k_X12_rests_163, k_X12_rests_165, k_X12_rests_166, k_X12_rests_168, k_X12_rests_169, k_X12_rests_170, k_X12_rests_171, k_X12_rests_172, k_X12_rests_173, k_X12_rests_174, k_X12_rests_177, k_X12_rests_178, k_X12_rests_180, k_X12_rests_182, k_X12_rests_183, k_X12_rests_185, k_X12_rests_186, k_X12_rests_187, k_X12_rests_188, k_X12_rests_189, k_X12_rests_190, k_X12_rests_193, k_X12_rests_194, k_X12_rests_197, k_X12_rests_198, k_X12_rests_200, k_X12_rests_203, k_X12_rests_206, k_X12_rests_208, k_X12_rests_211, k_X12_rests_214, k_X12_rests_216, k_X12_rests_218, k_X12_rests_221, k_X12_rests_223, k_X12_rests_225, k_X12_rests_226, k_X12_rests_228, k_X12_rests_229, k_X12_rests_230, k_X12_rests_233, k_X12_rests_236, k_X12_rests_239, k_X12_rests_242, k_X12_rests_245, k_X12_rests_247, k_X12_rests_248, k_X12_rests_251, k_X12_rests_253, k_X12_rests_256, k_X12_rests_257, w_X12_gameOf_e, w_X12_isGame_e, s30, ev]
        repeat' (first | assumption | exact hx' | exact hg' | apply And.intro | intro _)
        all_goals first | omega | exact absurd trivial (by assumption) | exact i9 _ (by assumption) (by assumption) (by assumption) | exact ⟨by omega, by omega⟩
      · have i9 : ∃ k', k' < n ∧ inv_mrs σ G0 G1 o r p i S k' 88 [(28, 5000), (0, o), (0, r), (0, p), (0, i), (0, S), (0, 0), (0, 0), (6, 0), (6, 0), (6, 0)] [] σ' :=
          ⟨(S * 10000).toNat, by omega, rfl, hg, hi1, hQ, hm, Or.inr ⟨fun a b a0 a1 b0 b1 => by
            obtain ⟨⟨q1, q2, q3⟩, ⟨q4, q5, q6⟩, q7, q8, -, -⟩ := gix (by omega) a0 a1 b0 b1
            have t1 : (((2 * (S * a + b)).toNat : Nat) : Int) = 2 * (S * a + b) := by omega
            have t2 : (((2 * (S * a + b) + 1).toNat : Nat) : Int) = 2 * (S * a + b) + 1 := by omega
            have u1 := hgn (2 * (S * a + b)).toNat (by omega) (by omega)
            have u2 := hgn (2 * (S * a + b) + 1).toNat (by omega) (by omega)
            rw [t1] at u1
            rw [t2] at u2
            rw [u1, u2]
            unfold gnV
            rw [q1, q2, q3, q4, q5, q6, if_pos rfl, if_neg (by decide), g0, g1]
            exact ⟨rfl, rfl⟩, 0, 0, by decide, by decide, Or.inl ⟨_, _, _, rfl, by decide, n30.1, by omega, rfl, by decide, by decide, by rw [Int.sub_zero]⟩⟩⟩
        simp only [↓reduceIte, inR_0, inR_1, inR_m, vSw2_e, swP_n, swP_c, vI_e, vL_e, vNull_e, vIload_e, vLload_e, vAload_e, vIstore_e, vLstore_e, vAstore_e, vIinc_e, vIadd_e, vIsub_e, vImul_e, vIand_e, vIor_e, vIxor_e, vIshl_e, vIshr_e, vIushr_e, vIdiv_e, vIrem_e, vLadd_e, vLsub_e, vLmul_e, vLand_e, vLor_e, vLxor_e, vLdiv_e, vLrem_e, vLushr_e, vLshl_e, vLcmp_e, vIneg_e, vI2l_e, vL2i_e, vI2b_e, vI2c_e, vDup_e, vPop_e, vDup2_e, vGoto_e, vIcEq_e, vIfEq_e, vIcNe_e, vIfNe_e, vIcLt_e, vIfLt_e, vIcGe_e, vIfGe_e, vIcGt_e, vIfGt_e, vIcLe_e, vIfLe_e, vNonnull_e, vSw_e, vGetI_e, vGetL_e, vGetR_e, vPutI_e, vPutZ_e, vPutL_e, vPutR_e, vIald_e, vIald_s, vLald_e, vBald_e, vBald_s, vAald_e, vIast_e, vLast_e, vBast_e, vAast_e, vAlen_e8, vAlen_e9, vAlen_e10, vAlen_e11, vAlen_e5, vAlen_e3, vGets_e, vCompact_e, vLdcS_e, vIret_e, vZret_e, vCret_e, vBret_e, vLret_e, vVret_e, vAret_e, vCallM_e0, vCallMV_e0, vCallS_e0, vCallSV_e0, vCallM_e1, vCallMV_e1, vCallS_e1, vCallSV_e1, vCallM_e2, vCallMV_e2, vCallS_e2, vCallSV_e2, vCallM_e3, vCallMV_e3, vCallS_e3, vCallSV_e3, vCallM_e4, vCallMV_e4, vCallS_e4, vCallSV_e4, vCallM_e5, vCallMV_e5, vCallS_e5, vCallSV_e5, vCallM_e6, vCallMV_e6, vCallS_e6, vCallSV_e6, vCallM_e7, vCallMV_e7, vCallS_e7, vCallSV_e7, vBad_e, vStrVal_e, vStrCod_e, vForm_e, vCallT_e0, vCallT_e1, vCallT_e2, vCopy_e, rf_0_0, rf_0_1, rf_0_2, rf_0_3, rf_0_4, rf_0_7, rf_0_10, rf_0_11, rf_0_12, rf_0_13, rf_0_14, rf_0_15, rf_0_16, rf_1_0, rf_3_0, rf_3_1, rf_6_0, rf_6_1, rf_9_0, rf_9_1, rf_9_3, rf_13_0, rf_13_1, rf_13_2, rf_16_0, rf_16_1, rf_16_2, rf_16_3, rf_21_0, rf_21_1, rf_21_2, rf_21_3, rf_26_0, rf_26_1, rf_26_2, rf_26_3, rf_26_4, rf_26_5, rf_26_6, rf_31_0, rf_31_2, rf_31_5, rf_31_6, rf_36_0, rf_36_1, rf_36_2, rf_36_3, rf_39_0, rf_39_1, rf_39_2, rf_41_0, rf_41_1, rf_41_2, rf_41_3, rf_5000_1, rf_5000_2, rf_5000_3, rf_5000_4, rf_5000_5, rf_5000_15, rf_5000_16, rf_5000_18, rf_5000_19, rf_5000_20, rf_5000_21, rf_5000_22, rf_5000_23, rf_5000_24, rf_5000_25, rf_5000_26, rf_5000_27, rf_5000_36, rf_5000_37, rf_5000_40, rf_5000_41, rf_5000_42, rf_5000_43, rf_5000_44, rf_5000_45, rf_5000_47, rf_5000_52, rf_5000_54, rf_5000_55, rf_100_0, rf_100_1, rf_103_0, rf_103_1, rf_106_0, rf_106_1, rf_109_0, rf_109_1, al_2, al_4, al_5, al_7, al_8, al_10, al_11, al_12, al_14, al_15, al_17, al_18, al_19, al_20, al_22, al_23, al_24, al_25, al_27, al_28, al_29, al_30, al_32, al_33, al_34, al_35, al_37, al_38, al_40, al_42, al_5001, al_5002, al_5003, al_5004, al_5005, al_5006, al_5007, al_5008, al_5009, al_5010, al_5011, al_5012, al_5013, al_5014, al_5015, al_5016, al_5017, al_5018, al_5019, al_5020, al_5021, al_5022, al_5023, al_5024, al_5025, al_5026, al_9000, al_101, al_102, al_104, al_105, al_107, al_108, al_110, al_111, vcs_e, lg_c0, lg_cs, lg_nil, set_c0, set_cs, okst_0, okst_s, acok_n, acok_c, List.contains_nil, List.contains_cons, Bool.or_false, Bool.false_or, Bool.false_eq_true, if_false, if_true, ite_self, ne_eq, true_and, and_true, not_false_eq_true, not_true_eq_false, false_imp_iff, true_imp_iff, Nat.ble_eq, Bool.and_eq_true, reduceCtorEq, or_false, false_or, or_true, true_or, false_and, and_false, and_self, Int.reduceLE, Int.reduceAdd, Int.reduceSub, Int.reduceMul, Int.reduceNeg, Int.reduceLT, Int.reduceEq, Int.reduceNe, Nat.reduceBEq, Nat.reduceBNe, Nat.reduceEqDiff, amCmp_in, amCmp_lt, amCmp_le, amCmp_gt, amCmp_ge, amCmp_eq, amCmp_ne, Nat.reduceLeDiff, Nat.reduceSub, Bool.and_true, Bool.true_and, Bool.and_self, Bool.or_true, Bool.true_or, isRf_3, isRf_4, isRf_5, isRf_8, isRf_9, isRf_10, isRf_11, isRf_15, isRf_16, isRf_17, isRf_18, isRf_19, isRf_20, isRf_21, isRf_22, isRf_23, isRf_24, isRf_25, isRf_26, isRf_27, isRf_28, k_X12_rests_0, k_X12_rests_1, k_X12_rests_2, k_X12_rests_5, k_X12_rests_6, k_X12_rests_7, k_X12_rests_8, k_X12_rests_9, k_X12_rests_12, k_X12_rests_15, k_X12_rests_17, k_X12_rests_18, k_X12_rests_21, k_X12_rests_22, k_X12_rests_23, k_X12_rests_24, k_X12_rests_27, k_X12_rests_29, k_X12_rests_30, k_X12_rests_32, k_X12_rests_34, k_X12_rests_35, k_X12_rests_37, k_X12_rests_38, k_X12_rests_40, k_X12_rests_41, k_X12_rests_44, k_X12_rests_45, k_X12_rests_48, k_X12_rests_50, k_X12_rests_51, k_X12_rests_52, k_X12_rests_53, k_X12_rests_54, k_X12_rests_56, k_X12_rests_57, k_X12_rests_58, k_X12_rests_60, k_X12_rests_61, k_X12_rests_63, k_X12_rests_64, k_X12_rests_65, k_X12_rests_67, k_X12_rests_68, k_X12_rests_70, k_X12_rests_71, k_X12_rests_72, k_X12_rests_75, k_X12_rests_76, k_X12_rests_79, k_X12_rests_82, k_X12_rests_83, k_X12_rests_85, k_X12_rests_86, k_X12_rests_88, k_X12_rests_90, k_X12_rests_92, k_X12_rests_95, k_X12_rests_96, k_X12_rests_98, k_X12_rests_100, k_X12_rests_102, k_X12_rests_105, k_X12_rests_106, k_X12_rests_108, k_X12_rests_109, k_X12_rests_111, k_X12_rests_113, k_X12_rests_115, k_X12_rests_118, k_X12_rests_120, k_X12_rests_123, k_X12_rests_124, k_X12_rests_127, k_X12_rests_128, k_X12_rests_130, k_X12_rests_132, k_X12_rests_133, k_X12_rests_135, k_X12_rests_136, k_X12_rests_137, k_X12_rests_138, k_X12_rests_139, k_X12_rests_142, k_X12_rests_143, k_X12_rests_145, k_X12_rests_147, k_X12_rests_148, k_X12_rests_150, k_X12_rests_151, k_X12_rests_152, k_X12_rests_153, k_X12_rests_156, k_X12_rests_157, k_X12_rests_160, k_X12_rests_161, k_X12_rests_163, k_X12_rests_165, k_X12_rests_166, k_X12_rests_168, k_X12_rests_169, k_X12_rests_170, k_X12_rests_171, k_X12_rests_172, k_X12_rests_173, k_X12_rests_174, k_X12_rests_177, k_X12_rests_178, k_X12_rests_180, k_X12_rests_182, k_X12_rests_183, k_X12_rests_185, k_X12_rests_186, k_X12_rests_187, k_X12_rests_188, k_X12_rests_189, k_X12_rests_190, k_X12_rests_193, k_X12_rests_194, k_X12_rests_197, k_X12_rests_198, k_X12_rests_200, k_X12_rests_203, k_X12_rests_206, k_X12_rests_208, k_X12_rests_211, k_X12_rests_214, k_X12_rests_216, k_X12_rests_218, k_X12_rests_221, k_X12_rests_223, k_X12_rests_225, k_X12_rests_226, k_X12_rests_228, k_X12_rests_229, k_X12_rests_230, k_X12_rests_233, k_X12_rests_236, k_X12_rests_239, k_X12_rests_242, k_X12_rests_245, k_X12_rests_247, k_X12_rests_248, k_X12_rests_251, k_X12_rests_253, k_X12_rests_256, k_X12_rests_257, w_X12_gameOf_e, w_X12_isGame_e]
        repeat' (first | apply And.intro | intro _)
        all_goals first | omega | exact absurd trivial (by assumption) | exact i9 | exact ⟨by omega, by omega⟩
    · have hq := h2 ⟨hg, hi1⟩ σ' hQ hm
      rw [← hr9] at hq
      refine ⟨60, ?_⟩
      by_cases hlt : x < S
      · rw [show (S - x).toNat = (S - x - 1).toNat + 1 by omega, rsO] at hr9
        have i9 : ∃ k', k' < n ∧ inv_mrs σ G0 G1 o r p i S k' 98 [(28, 5000), (0, o), (0, r), (0, p), (0, i), (0, S), (0, c), (0, x), (0, 0), v9, v10] [] σ' :=
          ⟨n - 1, by omega, rfl, hg, hi1, hQ, hm, Or.inr ⟨hgn, c, x, c0, x0, Or.inr (Or.inl ⟨0, v9, v10, rfl, hlt, by decide, n30.1, by omega, by omega, rfl, h9, by rw [Int.sub_zero]; exact hr9⟩)⟩⟩
        simp only [↓reduceIte, inR_0, inR_1, inR_m, vSw2_e, swP_n, swP_c, vI_e, vL_e, vNull_e, vIload_e, vLload_e, vAload_e, vIstore_e, vLstore_e, vAstore_e, vIinc_e, vIadd_e, vIsub_e, vImul_e, vIand_e, vIor_e, vIxor_e, vIshl_e, vIshr_e, vIushr_e, vIdiv_e, vIrem_e, vLadd_e, vLsub_e, vLmul_e, vLand_e, vLor_e, vLxor_e, vLdiv_e, vLrem_e, vLushr_e, vLshl_e, vLcmp_e, vIneg_e, vI2l_e, vL2i_e, vI2b_e, vI2c_e, vDup_e, vPop_e, vDup2_e, vGoto_e, vIcEq_e, vIfEq_e, vIcNe_e, vIfNe_e, vIcLt_e, vIfLt_e, vIcGe_e, vIfGe_e, vIcGt_e, vIfGt_e, vIcLe_e, vIfLe_e, vNonnull_e, vSw_e, vGetI_e, vGetL_e, vGetR_e, vPutI_e, vPutZ_e, vPutL_e, vPutR_e, vIald_e, vIald_s, vLald_e, vBald_e, vBald_s, vAald_e, vIast_e, vLast_e, vBast_e, vAast_e, vAlen_e8, vAlen_e9, vAlen_e10, vAlen_e11, vAlen_e5, vAlen_e3, vGets_e, vCompact_e, vLdcS_e, vIret_e, vZret_e, vCret_e, vBret_e, vLret_e, vVret_e, vAret_e, vCallM_e0, vCallMV_e0, vCallS_e0, vCallSV_e0, vCallM_e1, vCallMV_e1, vCallS_e1, vCallSV_e1, vCallM_e2, vCallMV_e2, vCallS_e2, vCallSV_e2, vCallM_e3, vCallMV_e3, vCallS_e3, vCallSV_e3, vCallM_e4, vCallMV_e4, vCallS_e4, vCallSV_e4, vCallM_e5, vCallMV_e5, vCallS_e5, vCallSV_e5, vCallM_e6, vCallMV_e6, vCallS_e6, vCallSV_e6, vCallM_e7, vCallMV_e7, vCallS_e7, vCallSV_e7, vBad_e, vStrVal_e, vStrCod_e, vForm_e, vCallT_e0, vCallT_e1, vCallT_e2, vCopy_e, rf_0_0, rf_0_1, rf_0_2, rf_0_3, rf_0_4, rf_0_7, rf_0_10, rf_0_11, rf_0_12, rf_0_13, rf_0_14, rf_0_15, rf_0_16, rf_1_0, rf_3_0, rf_3_1, rf_6_0, rf_6_1, rf_9_0, rf_9_1, rf_9_3, rf_13_0, rf_13_1, rf_13_2, rf_16_0, rf_16_1, rf_16_2, rf_16_3, rf_21_0, rf_21_1, rf_21_2, rf_21_3, rf_26_0, rf_26_1, rf_26_2, rf_26_3, rf_26_4, rf_26_5, rf_26_6, rf_31_0, rf_31_2, rf_31_5, rf_31_6, rf_36_0, rf_36_1, rf_36_2, rf_36_3, rf_39_0, rf_39_1, rf_39_2, rf_41_0, rf_41_1, rf_41_2, rf_41_3, rf_5000_1, rf_5000_2, rf_5000_3, rf_5000_4, rf_5000_5, rf_5000_15, rf_5000_16, rf_5000_18, rf_5000_19, rf_5000_20, rf_5000_21, rf_5000_22, rf_5000_23, rf_5000_24, rf_5000_25, rf_5000_26, rf_5000_27, rf_5000_36, rf_5000_37, rf_5000_40, rf_5000_41, rf_5000_42, rf_5000_43, rf_5000_44, rf_5000_45, rf_5000_47, rf_5000_52, rf_5000_54, rf_5000_55, rf_100_0, rf_100_1, rf_103_0, rf_103_1, rf_106_0, rf_106_1, rf_109_0, rf_109_1, al_2, al_4, al_5, al_7, al_8, al_10, al_11, al_12, al_14, al_15, al_17, al_18, al_19, al_20, al_22, al_23, al_24, al_25, al_27, al_28, al_29, al_30, al_32, al_33, al_34, al_35, al_37, al_38, al_40, al_42, al_5001, al_5002, al_5003, al_5004, al_5005, al_5006, al_5007, al_5008, al_5009, al_5010, al_5011, al_5012, al_5013, al_5014, al_5015, al_5016, al_5017, al_5018, al_5019, al_5020, al_5021, al_5022, al_5023, al_5024, al_5025, al_5026, al_9000, al_101, al_102, al_104, al_105, al_107, al_108, al_110, al_111, vcs_e, lg_c0, lg_cs, lg_nil, set_c0, set_cs, okst_0, okst_s, acok_n, acok_c, List.contains_nil, List.contains_cons, Bool.or_false, Bool.false_or, Bool.false_eq_true, if_false, if_true, ite_self, ne_eq, true_and, and_true, not_false_eq_true, not_true_eq_false, false_imp_iff, true_imp_iff, Nat.ble_eq, Bool.and_eq_true, reduceCtorEq, or_false, false_or, or_true, true_or, false_and, and_false, and_self, Int.reduceLE, Int.reduceAdd, Int.reduceSub, Int.reduceMul, Int.reduceNeg, Int.reduceLT, Int.reduceEq, Int.reduceNe, Nat.reduceBEq, Nat.reduceBNe, Nat.reduceEqDiff, amCmp_in, amCmp_lt, amCmp_le, amCmp_gt, amCmp_ge, amCmp_eq, amCmp_ne, Nat.reduceLeDiff, Nat.reduceSub, Bool.and_true, Bool.true_and, Bool.and_self, Bool.or_true, Bool.true_or, isRf_3, isRf_4, isRf_5, isRf_8, isRf_9, isRf_10, isRf_11, isRf_15, isRf_16, isRf_17, isRf_18, isRf_19, isRf_20, isRf_21, isRf_22, isRf_23, isRf_24, isRf_25, isRf_26, isRf_27, isRf_28, k_X12_rests_0, k_X12_rests_1, k_X12_rests_2, k_X12_rests_5, k_X12_rests_6, k_X12_rests_7, k_X12_rests_8, k_X12_rests_9, k_X12_rests_12, k_X12_rests_15, k_X12_rests_17, k_X12_rests_18, k_X12_rests_21, k_X12_rests_22, k_X12_rests_23, k_X12_rests_24, k_X12_rests_27, k_X12_rests_29, k_X12_rests_30, k_X12_rests_32, k_X12_rests_34, k_X12_rests_35, k_X12_rests_37, k_X12_rests_38, k_X12_rests_40, k_X12_rests_41, k_X12_rests_44, k_X12_rests_45, k_X12_rests_48, k_X12_rests_50, k_X12_rests_51, k_X12_rests_52, k_X12_rests_53, k_X12_rests_54, k_X12_rests_56, k_X12_rests_57, k_X12_rests_58, k_X12_rests_60, k_X12_rests_61, k_X12_rests_63, k_X12_rests_64, k_X12_rests_65, k_X12_rests_67, k_X12_rests_68, k_X12_rests_70, k_X12_rests_71, k_X12_rests_72, k_X12_rests_75, k_X12_rests_76, k_X12_rests_79, k_X12_rests_82, k_X12_rests_83, k_X12_rests_85, k_X12_rests_86, k_X12_rests_88, k_X12_rests_90, k_X12_rests_92, k_X12_rests_95, k_X12_rests_96, k_X12_rests_98, k_X12_rests_100, k_X12_rests_102, k_X12_rests_105, k_X12_rests_106, k_X12_rests_108, k_X12_rests_109, k_X12_rests_111, k_X12_rests_113, k_X12_rests_115, k_X12_rests_118, k_X12_rests_120, k_X12_rests_123, k_X12_rests_124, k_X12_rests_127, k_X12_rests_128, k_X12_rests_130, k_X12_rests_132, k_X12_rests_133, k_X12_rests_135, k_X12_rests_136, k_X12_rests_137, k_X12_rests_138, k_X12_rests_139, k_X12_rests_142, k_X12_rests_143, k_X12_rests_145, k_X12_rests_147, k_X12_rests_148, k_X12_rests_150, k_X12_rests_151, k_X12_rests_152, k_X12_rests_153, k_X12_rests_156, k_X12_rests_157, k_X12_rests_160, k_X12_rests_161, k_X12_rests_163, k_X12_rests_165, k_X12_rests_166, k_X12_rests_168, k_X12_rests_169, k_X12_rests_170, k_X12_rests_171, k_X12_rests_172, k_X12_rests_173, k_X12_rests_174, k_X12_rests_177, k_X12_rests_178, k_X12_rests_180, k_X12_rests_182, k_X12_rests_183, k_X12_rests_185, k_X12_rests_186, k_X12_rests_187, k_X12_rests_188, k_X12_rests_189, k_X12_rests_190, k_X12_rests_193, k_X12_rests_194, k_X12_rests_197, k_X12_rests_198, k_X12_rests_200, k_X12_rests_203, k_X12_rests_206, k_X12_rests_208, k_X12_rests_211, k_X12_rests_214, k_X12_rests_216, k_X12_rests_218, k_X12_rests_221, k_X12_rests_223, k_X12_rests_225, k_X12_rests_226, k_X12_rests_228, k_X12_rests_229, k_X12_rests_230, k_X12_rests_233, k_X12_rests_236, k_X12_rests_239, k_X12_rests_242, k_X12_rests_245, k_X12_rests_247, k_X12_rests_248, k_X12_rests_251, k_X12_rests_253, k_X12_rests_256, k_X12_rests_257]
        repeat' (first | apply And.intro | intro _)
        all_goals first | omega | exact absurd trivial (by assumption) | exact i9
      · rw [show (S - x).toNat = 0 by omega, rsO] at hq
        by_cases ci : i = -1
        · rw [if_pos ci] at hq
          simp only [↓reduceIte, inR_0, inR_1, inR_m, vSw2_e, swP_n, swP_c, vI_e, vL_e, vNull_e, vIload_e, vLload_e, vAload_e, vIstore_e, vLstore_e, vAstore_e, vIinc_e, vIadd_e, vIsub_e, vImul_e, vIand_e, vIor_e, vIxor_e, vIshl_e, vIshr_e, vIushr_e, vIdiv_e, vIrem_e, vLadd_e, vLsub_e, vLmul_e, vLand_e, vLor_e, vLxor_e, vLdiv_e, vLrem_e, vLushr_e, vLshl_e, vLcmp_e, vIneg_e, vI2l_e, vL2i_e, vI2b_e, vI2c_e, vDup_e, vPop_e, vDup2_e, vGoto_e, vIcEq_e, vIfEq_e, vIcNe_e, vIfNe_e, vIcLt_e, vIfLt_e, vIcGe_e, vIfGe_e, vIcGt_e, vIfGt_e, vIcLe_e, vIfLe_e, vNonnull_e, vSw_e, vGetI_e, vGetL_e, vGetR_e, vPutI_e, vPutZ_e, vPutL_e, vPutR_e, vIald_e, vIald_s, vLald_e, vBald_e, vBald_s, vAald_e, vIast_e, vLast_e, vBast_e, vAast_e, vAlen_e8, vAlen_e9, vAlen_e10, vAlen_e11, vAlen_e5, vAlen_e3, vGets_e, vCompact_e, vLdcS_e, vIret_e, vZret_e, vCret_e, vBret_e, vLret_e, vVret_e, vAret_e, vCallM_e0, vCallMV_e0, vCallS_e0, vCallSV_e0, vCallM_e1, vCallMV_e1, vCallS_e1, vCallSV_e1, vCallM_e2, vCallMV_e2, vCallS_e2, vCallSV_e2, vCallM_e3, vCallMV_e3, vCallS_e3, vCallSV_e3, vCallM_e4, vCallMV_e4, vCallS_e4, vCallSV_e4, vCallM_e5, vCallMV_e5, vCallS_e5, vCallSV_e5, vCallM_e6, vCallMV_e6, vCallS_e6, vCallSV_e6, vCallM_e7, vCallMV_e7, vCallS_e7, vCallSV_e7, vBad_e, vStrVal_e, vStrCod_e, vForm_e, vCallT_e0, vCallT_e1, vCallT_e2, vCopy_e, rf_0_0, rf_0_1, rf_0_2, rf_0_3, rf_0_4, rf_0_7, rf_0_10, rf_0_11, rf_0_12, rf_0_13, rf_0_14, rf_0_15, rf_0_16, rf_1_0, rf_3_0, rf_3_1, rf_6_0, rf_6_1, rf_9_0, rf_9_1, rf_9_3, rf_13_0, rf_13_1, rf_13_2, rf_16_0, rf_16_1, rf_16_2, rf_16_3, rf_21_0, rf_21_1, rf_21_2, rf_21_3, rf_26_0, rf_26_1, rf_26_2, rf_26_3, rf_26_4, rf_26_5, rf_26_6, rf_31_0, rf_31_2, rf_31_5, rf_31_6, rf_36_0, rf_36_1, rf_36_2, rf_36_3, rf_39_0, rf_39_1, rf_39_2, rf_41_0, rf_41_1, rf_41_2, rf_41_3, rf_5000_1, rf_5000_2, rf_5000_3, rf_5000_4, rf_5000_5, rf_5000_15, rf_5000_16, rf_5000_18, rf_5000_19, rf_5000_20, rf_5000_21, rf_5000_22, rf_5000_23, rf_5000_24, rf_5000_25, rf_5000_26, rf_5000_27, rf_5000_36, rf_5000_37, rf_5000_40, rf_5000_41, rf_5000_42, rf_5000_43, rf_5000_44, rf_5000_45, rf_5000_47, rf_5000_52, rf_5000_54, rf_5000_55, rf_100_0, rf_100_1, rf_103_0, rf_103_1, rf_106_0, rf_106_1, rf_109_0, rf_109_1, al_2, al_4, al_5, al_7, al_8, al_10, al_11, al_12, al_14, al_15, al_17, al_18, al_19, al_20, al_22, al_23, al_24, al_25, al_27, al_28, al_29, al_30, al_32, al_33, al_34, al_35, al_37, al_38, al_40, al_42, al_5001, al_5002, al_5003, al_5004, al_5005, al_5006, al_5007, al_5008, al_5009, al_5010, al_5011, al_5012, al_5013, al_5014, al_5015, al_5016, al_5017, al_5018, al_5019, al_5020, al_5021, al_5022, al_5023, al_5024, al_5025, al_5026, al_9000, al_101, al_102, al_104, al_105, al_107, al_108, al_110, al_111, vcs_e, lg_c0, lg_cs, lg_nil, set_c0, set_cs, okst_0, okst_s, acok_n, acok_c, List.contains_nil, List.contains_cons, Bool.or_false, Bool.false_or, Bool.false_eq_true, if_false, if_true, ite_self, ne_eq, true_and, and_true, not_false_eq_true, not_true_eq_false, false_imp_iff, true_imp_iff, Nat.ble_eq, Bool.and_eq_true, reduceCtorEq, or_false, false_or, or_true, true_or, false_and, and_false, and_self, Int.reduceLE, Int.reduceAdd, Int.reduceSub, Int.reduceMul, Int.reduceNeg, Int.reduceLT, Int.reduceEq, Int.reduceNe, Nat.reduceBEq, Nat.reduceBNe, Nat.reduceEqDiff, amCmp_in, amCmp_lt, amCmp_le, amCmp_gt, amCmp_ge, amCmp_eq, amCmp_ne, Nat.reduceLeDiff, Nat.reduceSub, Bool.and_true, Bool.true_and, Bool.and_self, Bool.or_true, Bool.true_or, isRf_3, isRf_4, isRf_5, isRf_8, isRf_9, isRf_10, isRf_11, isRf_15, isRf_16, isRf_17, isRf_18, isRf_19, isRf_20, isRf_21, isRf_22, isRf_23, isRf_24, isRf_25, isRf_26, isRf_27, isRf_28, k_X12_rests_0, k_X12_rests_1, k_X12_rests_2, k_X12_rests_5, k_X12_rests_6, k_X12_rests_7, k_X12_rests_8, k_X12_rests_9, k_X12_rests_12, k_X12_rests_15, k_X12_rests_17, k_X12_rests_18, k_X12_rests_21, k_X12_rests_22, k_X12_rests_23, k_X12_rests_24, k_X12_rests_27, k_X12_rests_29, k_X12_rests_30, k_X12_rests_32, k_X12_rests_34, k_X12_rests_35, k_X12_rests_37, k_X12_rests_38, k_X12_rests_40, k_X12_rests_41, k_X12_rests_44, k_X12_rests_45, k_X12_rests_48, k_X12_rests_50, k_X12_rests_51, k_X12_rests_52, k_X12_rests_53, k_X12_rests_54, k_X12_rests_56, k_X12_rests_57, k_X12_rests_58, k_X12_rests_60, k_X12_rests_61, k_X12_rests_63, k_X12_rests_64, k_X12_rests_65, k_X12_rests_67, k_X12_rests_68, k_X12_rests_70, k_X12_rests_71, k_X12_rests_72, k_X12_rests_75, k_X12_rests_76, k_X12_rests_79, k_X12_rests_82, k_X12_rests_83, k_X12_rests_85, k_X12_rests_86, k_X12_rests_88, k_X12_rests_90, k_X12_rests_92, k_X12_rests_95, k_X12_rests_96, k_X12_rests_98, k_X12_rests_100, k_X12_rests_102, k_X12_rests_105, k_X12_rests_106, k_X12_rests_108, k_X12_rests_109, k_X12_rests_111, k_X12_rests_113, k_X12_rests_115, k_X12_rests_118, k_X12_rests_120, k_X12_rests_123, k_X12_rests_124, k_X12_rests_127, k_X12_rests_128, k_X12_rests_130, k_X12_rests_132, k_X12_rests_133, k_X12_rests_135, k_X12_rests_136, k_X12_rests_137, k_X12_rests_138, k_X12_rests_139, k_X12_rests_142, k_X12_rests_143, k_X12_rests_145, k_X12_rests_147, k_X12_rests_148, k_X12_rests_150, k_X12_rests_151, k_X12_rests_152, k_X12_rests_153, k_X12_rests_156, k_X12_rests_157, k_X12_rests_160, k_X12_rests_161, k_X12_rests_163, k_X12_rests_165, k_X12_rests_166, k_X12_rests_168, k_X12_rests_169, k_X12_rests_170, k_X12_rests_171, k_X12_rests_172, k_X12_rests_173, k_X12_rests_174, k_X12_rests_177, k_X12_rests_178, k_X12_rests_180, k_X12_rests_182, k_X12_rests_183, k_X12_rests_185, k_X12_rests_186, k_X12_rests_187, k_X12_rests_188, k_X12_rests_189, k_X12_rests_190, k_X12_rests_193, k_X12_rests_194, k_X12_rests_197, k_X12_rests_198, k_X12_rests_200, k_X12_rests_203, k_X12_rests_206, k_X12_rests_208, k_X12_rests_211, k_X12_rests_214, k_X12_rests_216, k_X12_rests_218, k_X12_rests_221, k_X12_rests_223, k_X12_rests_225, k_X12_rests_226, k_X12_rests_228, k_X12_rests_229, k_X12_rests_230, k_X12_rests_233, k_X12_rests_236, k_X12_rests_239, k_X12_rests_242, k_X12_rests_245, k_X12_rests_247, k_X12_rests_248, k_X12_rests_251, k_X12_rests_253, k_X12_rests_256, k_X12_rests_257]
          repeat' (first | apply And.intro | intro _)
          all_goals first | omega | exact absurd trivial (by assumption) | exact hq
        · rw [if_neg ci] at hq
          simp only [↓reduceIte, inR_0, inR_1, inR_m, vSw2_e, swP_n, swP_c, vI_e, vL_e, vNull_e, vIload_e, vLload_e, vAload_e, vIstore_e, vLstore_e, vAstore_e, vIinc_e, vIadd_e, vIsub_e, vImul_e, vIand_e, vIor_e, vIxor_e, vIshl_e, vIshr_e, vIushr_e, vIdiv_e, vIrem_e, vLadd_e, vLsub_e, vLmul_e, vLand_e, vLor_e, vLxor_e, vLdiv_e, vLrem_e, vLushr_e, vLshl_e, vLcmp_e, vIneg_e, vI2l_e, vL2i_e, vI2b_e, vI2c_e, vDup_e, vPop_e, vDup2_e, vGoto_e, vIcEq_e, vIfEq_e, vIcNe_e, vIfNe_e, vIcLt_e, vIfLt_e, vIcGe_e, vIfGe_e, vIcGt_e, vIfGt_e, vIcLe_e, vIfLe_e, vNonnull_e, vSw_e, vGetI_e, vGetL_e, vGetR_e, vPutI_e, vPutZ_e, vPutL_e, vPutR_e, vIald_e, vIald_s, vLald_e, vBald_e, vBald_s, vAald_e, vIast_e, vLast_e, vBast_e, vAast_e, vAlen_e8, vAlen_e9, vAlen_e10, vAlen_e11, vAlen_e5, vAlen_e3, vGets_e, vCompact_e, vLdcS_e, vIret_e, vZret_e, vCret_e, vBret_e, vLret_e, vVret_e, vAret_e, vCallM_e0, vCallMV_e0, vCallS_e0, vCallSV_e0, vCallM_e1, vCallMV_e1, vCallS_e1, vCallSV_e1, vCallM_e2, vCallMV_e2, vCallS_e2, vCallSV_e2, vCallM_e3, vCallMV_e3, vCallS_e3, vCallSV_e3, vCallM_e4, vCallMV_e4, vCallS_e4, vCallSV_e4, vCallM_e5, vCallMV_e5, vCallS_e5, vCallSV_e5, vCallM_e6, vCallMV_e6, vCallS_e6, vCallSV_e6, vCallM_e7, vCallMV_e7, vCallS_e7, vCallSV_e7, vBad_e, vStrVal_e, vStrCod_e, vForm_e, vCallT_e0, vCallT_e1, vCallT_e2, vCopy_e, rf_0_0, rf_0_1, rf_0_2, rf_0_3, rf_0_4, rf_0_7, rf_0_10, rf_0_11, rf_0_12, rf_0_13, rf_0_14, rf_0_15, rf_0_16, rf_1_0, rf_3_0, rf_3_1, rf_6_0, rf_6_1, rf_9_0, rf_9_1, rf_9_3, rf_13_0, rf_13_1, rf_13_2, rf_16_0, rf_16_1, rf_16_2, rf_16_3, rf_21_0, rf_21_1, rf_21_2, rf_21_3, rf_26_0, rf_26_1, rf_26_2, rf_26_3, rf_26_4, rf_26_5, rf_26_6, rf_31_0, rf_31_2, rf_31_5, rf_31_6, rf_36_0, rf_36_1, rf_36_2, rf_36_3, rf_39_0, rf_39_1, rf_39_2, rf_41_0, rf_41_1, rf_41_2, rf_41_3, rf_5000_1, rf_5000_2, rf_5000_3, rf_5000_4, rf_5000_5, rf_5000_15, rf_5000_16, rf_5000_18, rf_5000_19, rf_5000_20, rf_5000_21, rf_5000_22, rf_5000_23, rf_5000_24, rf_5000_25, rf_5000_26, rf_5000_27, rf_5000_36, rf_5000_37, rf_5000_40, rf_5000_41, rf_5000_42, rf_5000_43, rf_5000_44, rf_5000_45, rf_5000_47, rf_5000_52, rf_5000_54, rf_5000_55, rf_100_0, rf_100_1, rf_103_0, rf_103_1, rf_106_0, rf_106_1, rf_109_0, rf_109_1, al_2, al_4, al_5, al_7, al_8, al_10, al_11, al_12, al_14, al_15, al_17, al_18, al_19, al_20, al_22, al_23, al_24, al_25, al_27, al_28, al_29, al_30, al_32, al_33, al_34, al_35, al_37, al_38, al_40, al_42, al_5001, al_5002, al_5003, al_5004, al_5005, al_5006, al_5007, al_5008, al_5009, al_5010, al_5011, al_5012, al_5013, al_5014, al_5015, al_5016, al_5017, al_5018, al_5019, al_5020, al_5021, al_5022, al_5023, al_5024, al_5025, al_5026, al_9000, al_101, al_102, al_104, al_105, al_107, al_108, al_110, al_111, vcs_e, lg_c0, lg_cs, lg_nil, set_c0, set_cs, okst_0, okst_s, acok_n, acok_c, List.contains_nil, List.contains_cons, Bool.or_false, Bool.false_or, Bool.false_eq_true, if_false, if_true, ite_self, ne_eq, true_and, and_true, not_false_eq_true, not_true_eq_false, false_imp_iff, true_imp_iff, Nat.ble_eq, Bool.and_eq_true, reduceCtorEq, or_false, false_or, or_true, true_or, false_and, and_false, and_self, Int.reduceLE, Int.reduceAdd, Int.reduceSub, Int.reduceMul, Int.reduceNeg, Int.reduceLT, Int.reduceEq, Int.reduceNe, Nat.reduceBEq, Nat.reduceBNe, Nat.reduceEqDiff, amCmp_in, amCmp_lt, amCmp_le, amCmp_gt, amCmp_ge, amCmp_eq, amCmp_ne, Nat.reduceLeDiff, Nat.reduceSub, Bool.and_true, Bool.true_and, Bool.and_self, Bool.or_true, Bool.true_or, isRf_3, isRf_4, isRf_5, isRf_8, isRf_9, isRf_10, isRf_11, isRf_15, isRf_16, isRf_17, isRf_18, isRf_19, isRf_20, isRf_21, isRf_22, isRf_23, isRf_24, isRf_25, isRf_26, isRf_27, isRf_28, k_X12_rests_0, k_X12_rests_1, k_X12_rests_2, k_X12_rests_5, k_X12_rests_6, k_X12_rests_7, k_X12_rests_8, k_X12_rests_9, k_X12_rests_12, k_X12_rests_15, k_X12_rests_17, k_X12_rests_18, k_X12_rests_21, k_X12_rests_22, k_X12_rests_23, k_X12_rests_24, k_X12_rests_27, k_X12_rests_29, k_X12_rests_30, k_X12_rests_32, k_X12_rests_34, k_X12_rests_35, k_X12_rests_37, k_X12_rests_38, k_X12_rests_40, k_X12_rests_41, k_X12_rests_44, k_X12_rests_45, k_X12_rests_48, k_X12_rests_50, k_X12_rests_51, k_X12_rests_52, k_X12_rests_53, k_X12_rests_54, k_X12_rests_56, k_X12_rests_57, k_X12_rests_58, k_X12_rests_60, k_X12_rests_61, k_X12_rests_63, k_X12_rests_64, k_X12_rests_65, k_X12_rests_67, k_X12_rests_68, k_X12_rests_70, k_X12_rests_71, k_X12_rests_72, k_X12_rests_75, k_X12_rests_76, k_X12_rests_79, k_X12_rests_82, k_X12_rests_83, k_X12_rests_85, k_X12_rests_86, k_X12_rests_88, k_X12_rests_90, k_X12_rests_92, k_X12_rests_95, k_X12_rests_96, k_X12_rests_98, k_X12_rests_100, k_X12_rests_102, k_X12_rests_105, k_X12_rests_106, k_X12_rests_108, k_X12_rests_109, k_X12_rests_111, k_X12_rests_113, k_X12_rests_115, k_X12_rests_118, k_X12_rests_120, k_X12_rests_123, k_X12_rests_124, k_X12_rests_127, k_X12_rests_128, k_X12_rests_130, k_X12_rests_132, k_X12_rests_133, k_X12_rests_135, k_X12_rests_136, k_X12_rests_137, k_X12_rests_138, k_X12_rests_139, k_X12_rests_142, k_X12_rests_143, k_X12_rests_145, k_X12_rests_147, k_X12_rests_148, k_X12_rests_150, k_X12_rests_151, k_X12_rests_152, k_X12_rests_153, k_X12_rests_156, k_X12_rests_157, k_X12_rests_160, k_X12_rests_161, k_X12_rests_163, k_X12_rests_165, k_X12_rests_166, k_X12_rests_168, k_X12_rests_169, k_X12_rests_170, k_X12_rests_171, k_X12_rests_172, k_X12_rests_173, k_X12_rests_174, k_X12_rests_177, k_X12_rests_178, k_X12_rests_180, k_X12_rests_182, k_X12_rests_183, k_X12_rests_185, k_X12_rests_186, k_X12_rests_187, k_X12_rests_188, k_X12_rests_189, k_X12_rests_190, k_X12_rests_193, k_X12_rests_194, k_X12_rests_197, k_X12_rests_198, k_X12_rests_200, k_X12_rests_203, k_X12_rests_206, k_X12_rests_208, k_X12_rests_211, k_X12_rests_214, k_X12_rests_216, k_X12_rests_218, k_X12_rests_221, k_X12_rests_223, k_X12_rests_225, k_X12_rests_226, k_X12_rests_228, k_X12_rests_229, k_X12_rests_230, k_X12_rests_233, k_X12_rests_236, k_X12_rests_239, k_X12_rests_242, k_X12_rests_245, k_X12_rests_247, k_X12_rests_248, k_X12_rests_251, k_X12_rests_253, k_X12_rests_256, k_X12_rests_257]
          repeat' (first | apply And.intro | intro _)
          all_goals first | omega | exact absurd trivial (by assumption) | exact hq
    · refine ⟨60, ?_⟩
      by_cases hlt : y < S
      · have i9 : ∃ k', k' < n ∧ inv_mrs σ G0 G1 o r p i S k' 111 [(28, 5000), (0, o), (0, r), (0, p), (0, i), (0, S), (0, c), (0, x), (0, y), (0, 1), (0, 0)] [] σ' :=
          ⟨n - 1, by omega, rfl, hg, hi1, hQ, hm, Or.inr ⟨hgn, c, x, c0, x0, Or.inr (Or.inr ⟨y, 1, 0, rfl, hxS, y0, hlt, hcy, by decide, n30.1, by omega, rfl, Or.inl ⟨rfl, fun j j0 j1 => by omega⟩, hr9⟩)⟩⟩
        simp only [↓reduceIte, inR_0, inR_1, inR_m, vSw2_e, swP_n, swP_c, vI_e, vL_e, vNull_e, vIload_e, vLload_e, vAload_e, vIstore_e, vLstore_e, vAstore_e, vIinc_e, vIadd_e, vIsub_e, vImul_e, vIand_e, vIor_e, vIxor_e, vIshl_e, vIshr_e, vIushr_e, vIdiv_e, vIrem_e, vLadd_e, vLsub_e, vLmul_e, vLand_e, vLor_e, vLxor_e, vLdiv_e, vLrem_e, vLushr_e, vLshl_e, vLcmp_e, vIneg_e, vI2l_e, vL2i_e, vI2b_e, vI2c_e, vDup_e, vPop_e, vDup2_e, vGoto_e, vIcEq_e, vIfEq_e, vIcNe_e, vIfNe_e, vIcLt_e, vIfLt_e, vIcGe_e, vIfGe_e, vIcGt_e, vIfGt_e, vIcLe_e, vIfLe_e, vNonnull_e, vSw_e, vGetI_e, vGetL_e, vGetR_e, vPutI_e, vPutZ_e, vPutL_e, vPutR_e, vIald_e, vIald_s, vLald_e, vBald_e, vBald_s, vAald_e, vIast_e, vLast_e, vBast_e, vAast_e, vAlen_e8, vAlen_e9, vAlen_e10, vAlen_e11, vAlen_e5, vAlen_e3, vGets_e, vCompact_e, vLdcS_e, vIret_e, vZret_e, vCret_e, vBret_e, vLret_e, vVret_e, vAret_e, vCallM_e0, vCallMV_e0, vCallS_e0, vCallSV_e0, vCallM_e1, vCallMV_e1, vCallS_e1, vCallSV_e1, vCallM_e2, vCallMV_e2, vCallS_e2, vCallSV_e2, vCallM_e3, vCallMV_e3, vCallS_e3, vCallSV_e3, vCallM_e4, vCallMV_e4, vCallS_e4, vCallSV_e4, vCallM_e5, vCallMV_e5, vCallS_e5, vCallSV_e5, vCallM_e6, vCallMV_e6, vCallS_e6, vCallSV_e6, vCallM_e7, vCallMV_e7, vCallS_e7, vCallSV_e7, vBad_e, vStrVal_e, vStrCod_e, vForm_e, vCallT_e0, vCallT_e1, vCallT_e2, vCopy_e, rf_0_0, rf_0_1, rf_0_2, rf_0_3, rf_0_4, rf_0_7, rf_0_10, rf_0_11, rf_0_12, rf_0_13, rf_0_14, rf_0_15, rf_0_16, rf_1_0, rf_3_0, rf_3_1, rf_6_0, rf_6_1, rf_9_0, rf_9_1, rf_9_3, rf_13_0, rf_13_1, rf_13_2, rf_16_0, rf_16_1, rf_16_2, rf_16_3, rf_21_0, rf_21_1, rf_21_2, rf_21_3, rf_26_0, rf_26_1, rf_26_2, rf_26_3, rf_26_4, rf_26_5, rf_26_6, rf_31_0, rf_31_2, rf_31_5, rf_31_6, rf_36_0, rf_36_1, rf_36_2, rf_36_3, rf_39_0, rf_39_1, rf_39_2, rf_41_0, rf_41_1, rf_41_2, rf_41_3, rf_5000_1, rf_5000_2, rf_5000_3, rf_5000_4, rf_5000_5, rf_5000_15, rf_5000_16, rf_5000_18, rf_5000_19, rf_5000_20, rf_5000_21, rf_5000_22, rf_5000_23, rf_5000_24, rf_5000_25, rf_5000_26, rf_5000_27, rf_5000_36, rf_5000_37, rf_5000_40, rf_5000_41, rf_5000_42, rf_5000_43, rf_5000_44, rf_5000_45, rf_5000_47, rf_5000_52, rf_5000_54, rf_5000_55, rf_100_0, rf_100_1, rf_103_0, rf_103_1, rf_106_0, rf_106_1, rf_109_0, rf_109_1, al_2, al_4, al_5, al_7, al_8, al_10, al_11, al_12, al_14, al_15, al_17, al_18, al_19, al_20, al_22, al_23, al_24, al_25, al_27, al_28, al_29, al_30, al_32, al_33, al_34, al_35, al_37, al_38, al_40, al_42, al_5001, al_5002, al_5003, al_5004, al_5005, al_5006, al_5007, al_5008, al_5009, al_5010, al_5011, al_5012, al_5013, al_5014, al_5015, al_5016, al_5017, al_5018, al_5019, al_5020, al_5021, al_5022, al_5023, al_5024, al_5025, al_5026, al_9000, al_101, al_102, al_104, al_105, al_107, al_108, al_110, al_111, vcs_e, lg_c0, lg_cs, lg_nil, set_c0, set_cs, okst_0, okst_s, acok_n, acok_c, List.contains_nil, List.contains_cons, Bool.or_false, Bool.false_or, Bool.false_eq_true, if_false, if_true, ite_self, ne_eq, true_and, and_true, not_false_eq_true, not_true_eq_false, false_imp_iff, true_imp_iff, Nat.ble_eq, Bool.and_eq_true, reduceCtorEq, or_false, false_or, or_true, true_or, false_and, and_false, and_self, Int.reduceLE, Int.reduceAdd, Int.reduceSub, Int.reduceMul, Int.reduceNeg, Int.reduceLT, Int.reduceEq, Int.reduceNe, Nat.reduceBEq, Nat.reduceBNe, Nat.reduceEqDiff, amCmp_in, amCmp_lt, amCmp_le, amCmp_gt, amCmp_ge, amCmp_eq, amCmp_ne, Nat.reduceLeDiff, Nat.reduceSub, Bool.and_true, Bool.true_and, Bool.and_self, Bool.or_true, Bool.true_or, isRf_3, isRf_4, isRf_5, isRf_8, isRf_9, isRf_10, isRf_11, isRf_15, isRf_16, isRf_17, isRf_18, isRf_19, isRf_20, isRf_21, isRf_22, isRf_23, isRf_24, isRf_25, isRf_26, isRf_27, isRf_28, k_X12_rests_0, k_X12_rests_1, k_X12_rests_2, k_X12_rests_5, k_X12_rests_6, k_X12_rests_7, k_X12_rests_8, k_X12_rests_9, k_X12_rests_12, k_X12_rests_15, k_X12_rests_17, k_X12_rests_18, k_X12_rests_21, k_X12_rests_22, k_X12_rests_23, k_X12_rests_24, k_X12_rests_27, k_X12_rests_29, k_X12_rests_30, k_X12_rests_32, k_X12_rests_34, k_X12_rests_35, k_X12_rests_37, k_X12_rests_38, k_X12_rests_40, k_X12_rests_41, k_X12_rests_44, k_X12_rests_45, k_X12_rests_48, k_X12_rests_50, k_X12_rests_51, k_X12_rests_52, k_X12_rests_53, k_X12_rests_54, k_X12_rests_56, k_X12_rests_57, k_X12_rests_58, k_X12_rests_60, k_X12_rests_61, k_X12_rests_63, k_X12_rests_64, k_X12_rests_65, k_X12_rests_67, k_X12_rests_68, k_X12_rests_70, k_X12_rests_71, k_X12_rests_72, k_X12_rests_75, k_X12_rests_76, k_X12_rests_79, k_X12_rests_82, k_X12_rests_83, k_X12_rests_85, k_X12_rests_86, k_X12_rests_88, k_X12_rests_90, k_X12_rests_92, k_X12_rests_95, k_X12_rests_96, k_X12_rests_98, k_X12_rests_100, k_X12_rests_102, k_X12_rests_105, k_X12_rests_106, k_X12_rests_108, k_X12_rests_109, k_X12_rests_111, k_X12_rests_113, k_X12_rests_115, k_X12_rests_118, k_X12_rests_120, k_X12_rests_123, k_X12_rests_124, k_X12_rests_127, k_X12_rests_128, k_X12_rests_130, k_X12_rests_132, k_X12_rests_133, k_X12_rests_135, k_X12_rests_136, k_X12_rests_137, k_X12_rests_138, k_X12_rests_139, k_X12_rests_142, k_X12_rests_143, k_X12_rests_145, k_X12_rests_147, k_X12_rests_148, k_X12_rests_150, k_X12_rests_151, k_X12_rests_152, k_X12_rests_153, k_X12_rests_156, k_X12_rests_157, k_X12_rests_160, k_X12_rests_161, k_X12_rests_163, k_X12_rests_165, k_X12_rests_166, k_X12_rests_168, k_X12_rests_169, k_X12_rests_170, k_X12_rests_171, k_X12_rests_172, k_X12_rests_173, k_X12_rests_174, k_X12_rests_177, k_X12_rests_178, k_X12_rests_180, k_X12_rests_182, k_X12_rests_183, k_X12_rests_185, k_X12_rests_186, k_X12_rests_187, k_X12_rests_188, k_X12_rests_189, k_X12_rests_190, k_X12_rests_193, k_X12_rests_194, k_X12_rests_197, k_X12_rests_198, k_X12_rests_200, k_X12_rests_203, k_X12_rests_206, k_X12_rests_208, k_X12_rests_211, k_X12_rests_214, k_X12_rests_216, k_X12_rests_218, k_X12_rests_221, k_X12_rests_223, k_X12_rests_225, k_X12_rests_226, k_X12_rests_228, k_X12_rests_229, k_X12_rests_230, k_X12_rests_233, k_X12_rests_236, k_X12_rests_239, k_X12_rests_242, k_X12_rests_245, k_X12_rests_247, k_X12_rests_248, k_X12_rests_251, k_X12_rests_253, k_X12_rests_256, k_X12_rests_257]
        repeat' (first | apply And.intro | intro _)
        all_goals first | omega | exact absurd trivial (by assumption) | exact i9
      · rw [show (S - y).toNat = 0 by omega, rsI] at hr9
        have i9 : ∃ k', k' < n ∧ inv_mrs σ G0 G1 o r p i S k' 88 [(28, 5000), (0, o), (0, r), (0, p), (0, i), (0, S), (0, c), (0, x + 1), (0, y), v9, v10] [] σ' :=
          ⟨((S - (x + 1)) * 10000).toNat, by omega, rfl, hg, hi1, hQ, hm, Or.inr ⟨hgn, c, x + 1, c0, by omega, Or.inl ⟨_, v9, v10, rfl, by omega, by omega, by omega, rfl, Nat.zero_ne_one, h9, by rw [show S - (x + 1) = S - x - 1 by omega]; exact hr9⟩⟩⟩
        simp only [↓reduceIte, inR_0, inR_1, inR_m, vSw2_e, swP_n, swP_c, vI_e, vL_e, vNull_e, vIload_e, vLload_e, vAload_e, vIstore_e, vLstore_e, vAstore_e, vIinc_e, vIadd_e, vIsub_e, vImul_e, vIand_e, vIor_e, vIxor_e, vIshl_e, vIshr_e, vIushr_e, vIdiv_e, vIrem_e, vLadd_e, vLsub_e, vLmul_e, vLand_e, vLor_e, vLxor_e, vLdiv_e, vLrem_e, vLushr_e, vLshl_e, vLcmp_e, vIneg_e, vI2l_e, vL2i_e, vI2b_e, vI2c_e, vDup_e, vPop_e, vDup2_e, vGoto_e, vIcEq_e, vIfEq_e, vIcNe_e, vIfNe_e, vIcLt_e, vIfLt_e, vIcGe_e, vIfGe_e, vIcGt_e, vIfGt_e, vIcLe_e, vIfLe_e, vNonnull_e, vSw_e, vGetI_e, vGetL_e, vGetR_e, vPutI_e, vPutZ_e, vPutL_e, vPutR_e, vIald_e, vIald_s, vLald_e, vBald_e, vBald_s, vAald_e, vIast_e, vLast_e, vBast_e, vAast_e, vAlen_e8, vAlen_e9, vAlen_e10, vAlen_e11, vAlen_e5, vAlen_e3, vGets_e, vCompact_e, vLdcS_e, vIret_e, vZret_e, vCret_e, vBret_e, vLret_e, vVret_e, vAret_e, vCallM_e0, vCallMV_e0, vCallS_e0, vCallSV_e0, vCallM_e1, vCallMV_e1, vCallS_e1, vCallSV_e1, vCallM_e2, vCallMV_e2, vCallS_e2, vCallSV_e2, vCallM_e3, vCallMV_e3, vCallS_e3, vCallSV_e3, vCallM_e4, vCallMV_e4, vCallS_e4, vCallSV_e4, vCallM_e5, vCallMV_e5, vCallS_e5, vCallSV_e5, vCallM_e6, vCallMV_e6, vCallS_e6, vCallSV_e6, vCallM_e7, vCallMV_e7, vCallS_e7, vCallSV_e7, vBad_e, vStrVal_e, vStrCod_e, vForm_e, vCallT_e0, vCallT_e1, vCallT_e2, vCopy_e, rf_0_0, rf_0_1, rf_0_2, rf_0_3, rf_0_4, rf_0_7, rf_0_10, rf_0_11, rf_0_12, rf_0_13, rf_0_14, rf_0_15, rf_0_16, rf_1_0, rf_3_0, rf_3_1, rf_6_0, rf_6_1, rf_9_0, rf_9_1, rf_9_3, rf_13_0, rf_13_1, rf_13_2, rf_16_0, rf_16_1, rf_16_2, rf_16_3, rf_21_0, rf_21_1, rf_21_2, rf_21_3, rf_26_0, rf_26_1, rf_26_2, rf_26_3, rf_26_4, rf_26_5, rf_26_6, rf_31_0, rf_31_2, rf_31_5, rf_31_6, rf_36_0, rf_36_1, rf_36_2, rf_36_3, rf_39_0, rf_39_1, rf_39_2, rf_41_0, rf_41_1, rf_41_2, rf_41_3, rf_5000_1, rf_5000_2, rf_5000_3, rf_5000_4, rf_5000_5, rf_5000_15, rf_5000_16, rf_5000_18, rf_5000_19, rf_5000_20, rf_5000_21, rf_5000_22, rf_5000_23, rf_5000_24, rf_5000_25, rf_5000_26, rf_5000_27, rf_5000_36, rf_5000_37, rf_5000_40, rf_5000_41, rf_5000_42, rf_5000_43, rf_5000_44, rf_5000_45, rf_5000_47, rf_5000_52, rf_5000_54, rf_5000_55, rf_100_0, rf_100_1, rf_103_0, rf_103_1, rf_106_0, rf_106_1, rf_109_0, rf_109_1, al_2, al_4, al_5, al_7, al_8, al_10, al_11, al_12, al_14, al_15, al_17, al_18, al_19, al_20, al_22, al_23, al_24, al_25, al_27, al_28, al_29, al_30, al_32, al_33, al_34, al_35, al_37, al_38, al_40, al_42, al_5001, al_5002, al_5003, al_5004, al_5005, al_5006, al_5007, al_5008, al_5009, al_5010, al_5011, al_5012, al_5013, al_5014, al_5015, al_5016, al_5017, al_5018, al_5019, al_5020, al_5021, al_5022, al_5023, al_5024, al_5025, al_5026, al_9000, al_101, al_102, al_104, al_105, al_107, al_108, al_110, al_111, vcs_e, lg_c0, lg_cs, lg_nil, set_c0, set_cs, okst_0, okst_s, acok_n, acok_c, List.contains_nil, List.contains_cons, Bool.or_false, Bool.false_or, Bool.false_eq_true, if_false, if_true, ite_self, ne_eq, true_and, and_true, not_false_eq_true, not_true_eq_false, false_imp_iff, true_imp_iff, Nat.ble_eq, Bool.and_eq_true, reduceCtorEq, or_false, false_or, or_true, true_or, false_and, and_false, and_self, Int.reduceLE, Int.reduceAdd, Int.reduceSub, Int.reduceMul, Int.reduceNeg, Int.reduceLT, Int.reduceEq, Int.reduceNe, Nat.reduceBEq, Nat.reduceBNe, Nat.reduceEqDiff, amCmp_in, amCmp_lt, amCmp_le, amCmp_gt, amCmp_ge, amCmp_eq, amCmp_ne, Nat.reduceLeDiff, Nat.reduceSub, Bool.and_true, Bool.true_and, Bool.and_self, Bool.or_true, Bool.true_or, isRf_3, isRf_4, isRf_5, isRf_8, isRf_9, isRf_10, isRf_11, isRf_15, isRf_16, isRf_17, isRf_18, isRf_19, isRf_20, isRf_21, isRf_22, isRf_23, isRf_24, isRf_25, isRf_26, isRf_27, isRf_28, k_X12_rests_0, k_X12_rests_1, k_X12_rests_2, k_X12_rests_5, k_X12_rests_6, k_X12_rests_7, k_X12_rests_8, k_X12_rests_9, k_X12_rests_12, k_X12_rests_15, k_X12_rests_17, k_X12_rests_18, k_X12_rests_21, k_X12_rests_22, k_X12_rests_23, k_X12_rests_24, k_X12_rests_27, k_X12_rests_29, k_X12_rests_30, k_X12_rests_32, k_X12_rests_34, k_X12_rests_35, k_X12_rests_37, k_X12_rests_38, k_X12_rests_40, k_X12_rests_41, k_X12_rests_44, k_X12_rests_45, k_X12_rests_48, k_X12_rests_50, k_X12_rests_51, k_X12_rests_52, k_X12_rests_53, k_X12_rests_54, k_X12_rests_56, k_X12_rests_57, k_X12_rests_58, k_X12_rests_60, k_X12_rests_61, k_X12_rests_63, k_X12_rests_64, k_X12_rests_65, k_X12_rests_67, k_X12_rests_68, k_X12_rests_70, k_X12_rests_71, k_X12_rests_72, k_X12_rests_75, k_X12_rests_76, k_X12_rests_79, k_X12_rests_82, k_X12_rests_83, k_X12_rests_85, k_X12_rests_86, k_X12_rests_88, k_X12_rests_90, k_X12_rests_92, k_X12_rests_95, k_X12_rests_96, k_X12_rests_98, k_X12_rests_100, k_X12_rests_102, k_X12_rests_105, k_X12_rests_106, k_X12_rests_108, k_X12_rests_109, k_X12_rests_111, k_X12_rests_113, k_X12_rests_115, k_X12_rests_118, k_X12_rests_120, k_X12_rests_123, k_X12_rests_124, k_X12_rests_127, k_X12_rests_128, k_X12_rests_130, k_X12_rests_132, k_X12_rests_133, k_X12_rests_135, k_X12_rests_136, k_X12_rests_137, k_X12_rests_138, k_X12_rests_139, k_X12_rests_142, k_X12_rests_143, k_X12_rests_145, k_X12_rests_147, k_X12_rests_148, k_X12_rests_150, k_X12_rests_151, k_X12_rests_152, k_X12_rests_153, k_X12_rests_156, k_X12_rests_157, k_X12_rests_160, k_X12_rests_161, k_X12_rests_163, k_X12_rests_165, k_X12_rests_166, k_X12_rests_168, k_X12_rests_169, k_X12_rests_170, k_X12_rests_171, k_X12_rests_172, k_X12_rests_173, k_X12_rests_174, k_X12_rests_177, k_X12_rests_178, k_X12_rests_180, k_X12_rests_182, k_X12_rests_183, k_X12_rests_185, k_X12_rests_186, k_X12_rests_187, k_X12_rests_188, k_X12_rests_189, k_X12_rests_190, k_X12_rests_193, k_X12_rests_194, k_X12_rests_197, k_X12_rests_198, k_X12_rests_200, k_X12_rests_203, k_X12_rests_206, k_X12_rests_208, k_X12_rests_211, k_X12_rests_214, k_X12_rests_216, k_X12_rests_218, k_X12_rests_221, k_X12_rests_223, k_X12_rests_225, k_X12_rests_226, k_X12_rests_228, k_X12_rests_229, k_X12_rests_230, k_X12_rests_233, k_X12_rests_236, k_X12_rests_239, k_X12_rests_242, k_X12_rests_245, k_X12_rests_247, k_X12_rests_248, k_X12_rests_251, k_X12_rests_253, k_X12_rests_256, k_X12_rests_257]
        repeat' (first | apply And.intro | intro _)
        all_goals first | omega | exact absurd trivial (by assumption) | exact i9
    · refine ⟨90, ?_⟩
      by_cases hlt : k < S
      · have nx : ∀ b', ((b' = 1 ∧ ∀ j, 0 ≤ j → j < k + 1 → G0 j y ≤ G0 x y ∧ G1 x j ≤ G1 x y) ∨ (b' = 0 ∧ ¬ mrP G0 G1 S x y)) → ∃ k', k' < n ∧ inv_mrs σ G0 G1 o r p i S k' 111 [(28, 5000), (0, o), (0, r), (0, p), (0, i), (0, S), (0, c), (0, x), (0, y), (0, b'), (0, k + 1)] [] σ' := fun b' hb' =>
          ⟨n - 1, by omega, rfl, hg, hi1, hQ, hm, Or.inr ⟨hgn, c, x, c0, x0, Or.inr (Or.inr ⟨y, b', k + 1, rfl, hxS, y0, yS, hcy, by omega, by omega, by omega, rfl, hb', hr9⟩)⟩⟩
        rcases hb with ⟨rfl, hal⟩ | ⟨rfl, hno⟩
        · obtain ⟨-, -, q1, q2, q3, q4⟩ := gix (n := S) (by omega) k0 hlt y0 yS
          obtain ⟨-, -, q5, q6, q7, q8⟩ := gix (n := S) (by omega) x0 hxS y0 yS
          obtain ⟨-, -, q9, q10, q11, q12⟩ := gix (n := S) (by omega) x0 hxS k0 hlt
          have r1 := hgn k y k0 hlt y0 yS
          have r2 := hgn x y x0 hxS y0 yS
          have r3 := hgn x k x0 hxS k0 hlt
          have m1 := gb0 hg k y
          have m2 := gb0 hg x y
          have m3 := gb1 hg x k
          have m4 := gb1 hg x y
          have iT : G0 k y ≤ G0 x y → G1 x k ≤ G1 x y → _ := fun a b => nx 1 (Or.inl ⟨rfl, fun j j0 j1 => by
            by_cases z : j = k
            · rw [z]; exact ⟨a, b⟩
            · exact hal j j0 (by omega)⟩)
          have iF : ¬ (G0 k y ≤ G0 x y ∧ G1 x k ≤ G1 x y) → _ := fun a => nx 0 (Or.inr ⟨rfl, fun z => a (z k k0 hlt)⟩)
          simp only [↓reduceIte, inR_0, inR_1, inR_m, vSw2_e, swP_n, swP_c, vI_e, vL_e, vNull_e, vIload_e, vLload_e, vAload_e, vIstore_e, vLstore_e, vAstore_e, vIinc_e, vIadd_e, vIsub_e, vImul_e, vIand_e, vIor_e, vIxor_e, vIshl_e, vIshr_e, vIushr_e, vIdiv_e, vIrem_e, vLadd_e, vLsub_e, vLmul_e, vLand_e, vLor_e, vLxor_e, vLdiv_e, vLrem_e, vLushr_e, vLshl_e, vLcmp_e, vIneg_e, vI2l_e, vL2i_e, vI2b_e, vI2c_e, vDup_e, vPop_e, vDup2_e, vGoto_e, vIcEq_e, vIfEq_e, vIcNe_e, vIfNe_e, vIcLt_e, vIfLt_e, vIcGe_e, vIfGe_e, vIcGt_e, vIfGt_e, vIcLe_e, vIfLe_e, vNonnull_e, vSw_e, vGetI_e, vGetL_e, vGetR_e, vPutI_e, vPutZ_e, vPutL_e, vPutR_e, vIald_e, vIald_s, vLald_e, vBald_e, vBald_s, vAald_e, vIast_e, vLast_e, vBast_e, vAast_e, vAlen_e8, vAlen_e9, vAlen_e10, vAlen_e11, vAlen_e5, vAlen_e3, vGets_e, vCompact_e, vLdcS_e, vIret_e, vZret_e, vCret_e, vBret_e, vLret_e, vVret_e, vAret_e, vCallM_e0, vCallMV_e0, vCallS_e0, vCallSV_e0, vCallM_e1, vCallMV_e1, vCallS_e1, vCallSV_e1, vCallM_e2, vCallMV_e2, vCallS_e2, vCallSV_e2, vCallM_e3, vCallMV_e3, vCallS_e3, vCallSV_e3, vCallM_e4, vCallMV_e4, vCallS_e4, vCallSV_e4, vCallM_e5, vCallMV_e5, vCallS_e5, vCallSV_e5, vCallM_e6, vCallMV_e6, vCallS_e6, vCallSV_e6, vCallM_e7, vCallMV_e7, vCallS_e7, vCallSV_e7, vBad_e, vStrVal_e, vStrCod_e, vForm_e, vCallT_e0, vCallT_e1, vCallT_e2, vCopy_e, rf_0_0, rf_0_1, rf_0_2, rf_0_3, rf_0_4, rf_0_7, rf_0_10, rf_0_11, rf_0_12, rf_0_13, rf_0_14, rf_0_15, rf_0_16, rf_1_0, rf_3_0, rf_3_1, rf_6_0, rf_6_1, rf_9_0, rf_9_1, rf_9_3, rf_13_0, rf_13_1, rf_13_2, rf_16_0, rf_16_1, rf_16_2, rf_16_3, rf_21_0, rf_21_1, rf_21_2, rf_21_3, rf_26_0, rf_26_1, rf_26_2, rf_26_3, rf_26_4, rf_26_5, rf_26_6, rf_31_0, rf_31_2, rf_31_5, rf_31_6, rf_36_0, rf_36_1, rf_36_2, rf_36_3, rf_39_0, rf_39_1, rf_39_2, rf_41_0, rf_41_1, rf_41_2, rf_41_3, rf_5000_1, rf_5000_2, rf_5000_3, rf_5000_4, rf_5000_5, rf_5000_15, rf_5000_16, rf_5000_18, rf_5000_19, rf_5000_20, rf_5000_21, rf_5000_22, rf_5000_23, rf_5000_24, rf_5000_25, rf_5000_26, rf_5000_27, rf_5000_36, rf_5000_37, rf_5000_40, rf_5000_41, rf_5000_42, rf_5000_43, rf_5000_44, rf_5000_45, rf_5000_47, rf_5000_52, rf_5000_54, rf_5000_55, rf_100_0, rf_100_1, rf_103_0, rf_103_1, rf_106_0, rf_106_1, rf_109_0, rf_109_1, al_2, al_4, al_5, al_7, al_8, al_10, al_11, al_12, al_14, al_15, al_17, al_18, al_19, al_20, al_22, al_23, al_24, al_25, al_27, al_28, al_29, al_30, al_32, al_33, al_34, al_35, al_37, al_38, al_40, al_42, al_5001, al_5002, al_5003, al_5004, al_5005, al_5006, al_5007, al_5008, al_5009, al_5010, al_5011, al_5012, al_5013, al_5014, al_5015, al_5016, al_5017, al_5018, al_5019, al_5020, al_5021, al_5022, al_5023, al_5024, al_5025, al_5026, al_9000, al_101, al_102, al_104, al_105, al_107, al_108, al_110, al_111, vcs_e, lg_c0, lg_cs, lg_nil, set_c0, set_cs, okst_0, okst_s, acok_n, acok_c, List.contains_nil, List.contains_cons, Bool.or_false, Bool.false_or, Bool.false_eq_true, if_false, if_true, ite_self, ne_eq, true_and, and_true, not_false_eq_true, not_true_eq_false, false_imp_iff, true_imp_iff, Nat.ble_eq, Bool.and_eq_true, reduceCtorEq, or_false, false_or, or_true, true_or, false_and, and_false, and_self, Int.reduceLE, Int.reduceAdd, Int.reduceSub, Int.reduceMul, Int.reduceNeg, Int.reduceLT, Int.reduceEq, Int.reduceNe, Nat.reduceBEq, Nat.reduceBNe, Nat.reduceEqDiff, amCmp_in, amCmp_lt, amCmp_le, amCmp_gt, amCmp_ge, amCmp_eq, amCmp_ne, Nat.reduceLeDiff, Nat.reduceSub, Bool.and_true, Bool.true_and, Bool.and_self, Bool.or_true, Bool.true_or, isRf_3, isRf_4, isRf_5, isRf_8, isRf_9, isRf_10, isRf_11, isRf_15, isRf_16, isRf_17, isRf_18, isRf_19, isRf_20, isRf_21, isRf_22, isRf_23, isRf_24, isRf_25, isRf_26, isRf_27, isRf_28, k_X12_rests_0, k_X12_rests_1, k_X12_rests_2, k_X12_rests_5, k_X12_rests_6, k_X12_rests_7, k_X12_rests_8, k_X12_rests_9, k_X12_rests_12, k_X12_rests_15, k_X12_rests_17, k_X12_rests_18, k_X12_rests_21, k_X12_rests_22, k_X12_rests_23, k_X12_rests_24, k_X12_rests_27, k_X12_rests_29, k_X12_rests_30, k_X12_rests_32, k_X12_rests_34, k_X12_rests_35, k_X12_rests_37, k_X12_rests_38, k_X12_rests_40, k_X12_rests_41, k_X12_rests_44, k_X12_rests_45, k_X12_rests_48, k_X12_rests_50, k_X12_rests_51, k_X12_rests_52, k_X12_rests_53, k_X12_rests_54, k_X12_rests_56, k_X12_rests_57, k_X12_rests_58, k_X12_rests_60, k_X12_rests_61, k_X12_rests_63, k_X12_rests_64, k_X12_rests_65, k_X12_rests_67, k_X12_rests_68, k_X12_rests_70, k_X12_rests_71, k_X12_rests_72, k_X12_rests_75, k_X12_rests_76, k_X12_rests_79, k_X12_rests_82, k_X12_rests_83, k_X12_rests_85, k_X12_rests_86, k_X12_rests_88, k_X12_rests_90, k_X12_rests_92, k_X12_rests_95, k_X12_rests_96, k_X12_rests_98, k_X12_rests_100, k_X12_rests_102, k_X12_rests_105, k_X12_rests_106, k_X12_rests_108, k_X12_rests_109, k_X12_rests_111, k_X12_rests_113, k_X12_rests_115, k_X12_rests_118, k_X12_rests_120, k_X12_rests_123, k_X12_rests_124, k_X12_rests_127, k_X12_rests_128, k_X12_rests_130, k_X12_rests_132, k_X12_rests_133, k_X12_rests_135, k_X12_rests_136, k_X12_rests_137, k_X12_rests_138, k_X12_rests_139, k_X12_rests_142, k_X12_rests_143, k_X12_rests_145, k_X12_rests_147, k_X12_rests_148, k_X12_rests_150, k_X12_rests_151, k_X12_rests_152, k_X12_rests_153, k_X12_rests_156, k_X12_rests_157, k_X12_rests_160, k_X12_rests_161, k_X12_rests_163, k_X12_rests_165, k_X12_rests_166, k_X12_rests_168, k_X12_rests_169, k_X12_rests_170, k_X12_rests_171, k_X12_rests_172, k_X12_rests_173, k_X12_rests_174, k_X12_rests_177, k_X12_rests_178, k_X12_rests_180, k_X12_rests_182, k_X12_rests_183, k_X12_rests_185, k_X12_rests_186, k_X12_rests_187, k_X12_rests_188, k_X12_rests_189, k_X12_rests_190, k_X12_rests_193, k_X12_rests_194, k_X12_rests_197, k_X12_rests_198, k_X12_rests_200, k_X12_rests_203, k_X12_rests_206, k_X12_rests_208, k_X12_rests_211, k_X12_rests_214, k_X12_rests_216, k_X12_rests_218, k_X12_rests_221, k_X12_rests_223, k_X12_rests_225, k_X12_rests_226, k_X12_rests_228, k_X12_rests_229, k_X12_rests_230, k_X12_rests_233, k_X12_rests_236, k_X12_rests_239, k_X12_rests_242, k_X12_rests_245, k_X12_rests_247, k_X12_rests_248, k_X12_rests_251, k_X12_rests_253, k_X12_rests_256, k_X12_rests_257, r1.1, r2.1, r2.2, r3.2]
          repeat' (first | apply And.intro | intro _)
          all_goals first | omega | exact absurd trivial (by assumption) | exact iT (by omega) (by omega) | exact iF (by omega) | exact ⟨by omega, by omega⟩
        · have i9 := nx 0 (Or.inr ⟨rfl, hno⟩)
          simp only [↓reduceIte, inR_0, inR_1, inR_m, vSw2_e, swP_n, swP_c, vI_e, vL_e, vNull_e, vIload_e, vLload_e, vAload_e, vIstore_e, vLstore_e, vAstore_e, vIinc_e, vIadd_e, vIsub_e, vImul_e, vIand_e, vIor_e, vIxor_e, vIshl_e, vIshr_e, vIushr_e, vIdiv_e, vIrem_e, vLadd_e, vLsub_e, vLmul_e, vLand_e, vLor_e, vLxor_e, vLdiv_e, vLrem_e, vLushr_e, vLshl_e, vLcmp_e, vIneg_e, vI2l_e, vL2i_e, vI2b_e, vI2c_e, vDup_e, vPop_e, vDup2_e, vGoto_e, vIcEq_e, vIfEq_e, vIcNe_e, vIfNe_e, vIcLt_e, vIfLt_e, vIcGe_e, vIfGe_e, vIcGt_e, vIfGt_e, vIcLe_e, vIfLe_e, vNonnull_e, vSw_e, vGetI_e, vGetL_e, vGetR_e, vPutI_e, vPutZ_e, vPutL_e, vPutR_e, vIald_e, vIald_s, vLald_e, vBald_e, vBald_s, vAald_e, vIast_e, vLast_e, vBast_e, vAast_e, vAlen_e8, vAlen_e9, vAlen_e10, vAlen_e11, vAlen_e5, vAlen_e3, vGets_e, vCompact_e, vLdcS_e, vIret_e, vZret_e, vCret_e, vBret_e, vLret_e, vVret_e, vAret_e, vCallM_e0, vCallMV_e0, vCallS_e0, vCallSV_e0, vCallM_e1, vCallMV_e1, vCallS_e1, vCallSV_e1, vCallM_e2, vCallMV_e2, vCallS_e2, vCallSV_e2, vCallM_e3, vCallMV_e3, vCallS_e3, vCallSV_e3, vCallM_e4, vCallMV_e4, vCallS_e4, vCallSV_e4, vCallM_e5, vCallMV_e5, vCallS_e5, vCallSV_e5, vCallM_e6, vCallMV_e6, vCallS_e6, vCallSV_e6, vCallM_e7, vCallMV_e7, vCallS_e7, vCallSV_e7, vBad_e, vStrVal_e, vStrCod_e, vForm_e, vCallT_e0, vCallT_e1, vCallT_e2, vCopy_e, rf_0_0, rf_0_1, rf_0_2, rf_0_3, rf_0_4, rf_0_7, rf_0_10, rf_0_11, rf_0_12, rf_0_13, rf_0_14, rf_0_15, rf_0_16, rf_1_0, rf_3_0, rf_3_1, rf_6_0, rf_6_1, rf_9_0, rf_9_1, rf_9_3, rf_13_0, rf_13_1, rf_13_2, rf_16_0, rf_16_1, rf_16_2, rf_16_3, rf_21_0, rf_21_1, rf_21_2, rf_21_3, rf_26_0, rf_26_1, rf_26_2, rf_26_3, rf_26_4, rf_26_5, rf_26_6, rf_31_0, rf_31_2, rf_31_5, rf_31_6, rf_36_0, rf_36_1, rf_36_2, rf_36_3, rf_39_0, rf_39_1, rf_39_2, rf_41_0, rf_41_1, rf_41_2, rf_41_3, rf_5000_1, rf_5000_2, rf_5000_3, rf_5000_4, rf_5000_5, rf_5000_15, rf_5000_16, rf_5000_18, rf_5000_19, rf_5000_20, rf_5000_21, rf_5000_22, rf_5000_23, rf_5000_24, rf_5000_25, rf_5000_26, rf_5000_27, rf_5000_36, rf_5000_37, rf_5000_40, rf_5000_41, rf_5000_42, rf_5000_43, rf_5000_44, rf_5000_45, rf_5000_47, rf_5000_52, rf_5000_54, rf_5000_55, rf_100_0, rf_100_1, rf_103_0, rf_103_1, rf_106_0, rf_106_1, rf_109_0, rf_109_1, al_2, al_4, al_5, al_7, al_8, al_10, al_11, al_12, al_14, al_15, al_17, al_18, al_19, al_20, al_22, al_23, al_24, al_25, al_27, al_28, al_29, al_30, al_32, al_33, al_34, al_35, al_37, al_38, al_40, al_42, al_5001, al_5002, al_5003, al_5004, al_5005, al_5006, al_5007, al_5008, al_5009, al_5010, al_5011, al_5012, al_5013, al_5014, al_5015, al_5016, al_5017, al_5018, al_5019, al_5020, al_5021, al_5022, al_5023, al_5024, al_5025, al_5026, al_9000, al_101, al_102, al_104, al_105, al_107, al_108, al_110, al_111, vcs_e, lg_c0, lg_cs, lg_nil, set_c0, set_cs, okst_0, okst_s, acok_n, acok_c, List.contains_nil, List.contains_cons, Bool.or_false, Bool.false_or, Bool.false_eq_true, if_false, if_true, ite_self, ne_eq, true_and, and_true, not_false_eq_true, not_true_eq_false, false_imp_iff, true_imp_iff, Nat.ble_eq, Bool.and_eq_true, reduceCtorEq, or_false, false_or, or_true, true_or, false_and, and_false, and_self, Int.reduceLE, Int.reduceAdd, Int.reduceSub, Int.reduceMul, Int.reduceNeg, Int.reduceLT, Int.reduceEq, Int.reduceNe, Nat.reduceBEq, Nat.reduceBNe, Nat.reduceEqDiff, amCmp_in, amCmp_lt, amCmp_le, amCmp_gt, amCmp_ge, amCmp_eq, amCmp_ne, Nat.reduceLeDiff, Nat.reduceSub, Bool.and_true, Bool.true_and, Bool.and_self, Bool.or_true, Bool.true_or, isRf_3, isRf_4, isRf_5, isRf_8, isRf_9, isRf_10, isRf_11, isRf_15, isRf_16, isRf_17, isRf_18, isRf_19, isRf_20, isRf_21, isRf_22, isRf_23, isRf_24, isRf_25, isRf_26, isRf_27, isRf_28, k_X12_rests_0, k_X12_rests_1, k_X12_rests_2, k_X12_rests_5, k_X12_rests_6, k_X12_rests_7, k_X12_rests_8, k_X12_rests_9, k_X12_rests_12, k_X12_rests_15, k_X12_rests_17, k_X12_rests_18, k_X12_rests_21, k_X12_rests_22, k_X12_rests_23, k_X12_rests_24, k_X12_rests_27, k_X12_rests_29, k_X12_rests_30, k_X12_rests_32, k_X12_rests_34, k_X12_rests_35, k_X12_rests_37, k_X12_rests_38, k_X12_rests_40, k_X12_rests_41, k_X12_rests_44, k_X12_rests_45, k_X12_rests_48, k_X12_rests_50, k_X12_rests_51, k_X12_rests_52, k_X12_rests_53, k_X12_rests_54, k_X12_rests_56, k_X12_rests_57, k_X12_rests_58, k_X12_rests_60, k_X12_rests_61, k_X12_rests_63, k_X12_rests_64, k_X12_rests_65, k_X12_rests_67, k_X12_rests_68, k_X12_rests_70, k_X12_rests_71, k_X12_rests_72, k_X12_rests_75, k_X12_rests_76, k_X12_rests_79, k_X12_rests_82, k_X12_rests_83, k_X12_rests_85, k_X12_rests_86, k_X12_rests_88, k_X12_rests_90, k_X12_rests_92, k_X12_rests_95, k_X12_rests_96, k_X12_rests_98, k_X12_rests_100, k_X12_rests_102, k_X12_rests_105, k_X12_rests_106, k_X12_rests_108, k_X12_rests_109, k_X12_rests_111, k_X12_rests_113, k_X12_rests_115, k_X12_rests_118, k_X12_rests_120, k_X12_rests_123, k_X12_rests_124, k_X12_rests_127, k_X12_rests_128, k_X12_rests_130, k_X12_rests_132, k_X12_rests_133, k_X12_rests_135, k_X12_rests_136, k_X12_rests_137, k_X12_rests_138, k_X12_rests_139, k_X12_rests_142, k_X12_rests_143, k_X12_rests_145, k_X12_rests_147, k_X12_rests_148, k_X12_rests_150, k_X12_rests_151, k_X12_rests_152, k_X12_rests_153, k_X12_rests_156, k_X12_rests_157, k_X12_rests_160, k_X12_rests_161, k_X12_rests_163, k_X12_rests_165, k_X12_rests_166, k_X12_rests_168, k_X12_rests_169, k_X12_rests_170, k_X12_rests_171, k_X12_rests_172, k_X12_rests_173, k_X12_rests_174, k_X12_rests_177, k_X12_rests_178, k_X12_rests_180, k_X12_rests_182, k_X12_rests_183, k_X12_rests_185, k_X12_rests_186, k_X12_rests_187, k_X12_rests_188, k_X12_rests_189, k_X12_rests_190, k_X12_rests_193, k_X12_rests_194, k_X12_rests_197, k_X12_rests_198, k_X12_rests_200, k_X12_rests_203, k_X12_rests_206, k_X12_rests_208, k_X12_rests_211, k_X12_rests_214, k_X12_rests_216, k_X12_rests_218, k_X12_rests_221, k_X12_rests_223, k_X12_rests_225, k_X12_rests_226, k_X12_rests_228, k_X12_rests_229, k_X12_rests_230, k_X12_rests_233, k_X12_rests_236, k_X12_rests_239, k_X12_rests_242, k_X12_rests_245, k_X12_rests_247, k_X12_rests_248, k_X12_rests_251, k_X12_rests_253, k_X12_rests_256, k_X12_rests_257]
          repeat' (first | apply And.intro | intro _)
          all_goals first | omega | exact absurd trivial (by assumption) | exact i9
      · have hq := h2 ⟨hg, hi1⟩ σ' hQ hm
        rw [← hr9] at hq
        have eb : (S - y).toNat = (S - (y + 1)).toNat + 1 := by omega
        rw [eb] at hr9 hq
        have nx : ∀ c' , 0 ≤ c' → c' ≤ 6 * x + (y + 1) → rsI (mrP G0 G1 S) i x (rsO (mrP G0 G1 S) i S.toNat (S - x - 1).toNat (x + 1)) (S - (y + 1)).toNat (y + 1) c' = rsO (mrP G0 G1 S) i S.toNat S.toNat 0 0 → ∃ k', k' < n ∧ inv_mrs σ G0 G1 o r p i S k' 98 [(28, 5000), (0, o), (0, r), (0, p), (0, i), (0, S), (0, c'), (0, x), (0, y + 1), (0, b), (0, k)] [] σ' := fun c' a1 a2 a3 =>
          ⟨((S - x) * 10000 - 1 - (y + 1) * 100).toNat, by omega, rfl, hg, hi1, hQ, hm, Or.inr ⟨hgn, c', x, a1, x0, Or.inr (Or.inl ⟨y + 1, (0, b), (0, k), rfl, hxS, by omega, by omega, a2, by omega, rfl, Nat.zero_ne_one, a3⟩)⟩⟩
        rcases hb with ⟨rfl, hal⟩ | ⟨rfl, hno⟩
        · have cp : mrP G0 G1 S x y := fun j j0 j1 => hal j j0 (by omega)
          rw [rsI_t (P := mrP G0 G1 S) (x := x) (y := y) cp] at hr9 hq
          by_cases ci : c = i
          · rw [if_pos ci] at hq
            simp only [↓reduceIte, inR_0, inR_1, inR_m, vSw2_e, swP_n, swP_c, vI_e, vL_e, vNull_e, vIload_e, vLload_e, vAload_e, vIstore_e, vLstore_e, vAstore_e, vIinc_e, vIadd_e, vIsub_e, vImul_e, vIand_e, vIor_e, vIxor_e, vIshl_e, vIshr_e, vIushr_e, vIdiv_e, vIrem_e, vLadd_e, vLsub_e, vLmul_e, vLand_e, vLor_e, vLxor_e, vLdiv_e, vLrem_e, vLushr_e, vLshl_e, vLcmp_e, vIneg_e, vI2l_e, vL2i_e, vI2b_e, vI2c_e, vDup_e, vPop_e, vDup2_e, vGoto_e, vIcEq_e, vIfEq_e, vIcNe_e, vIfNe_e, vIcLt_e, vIfLt_e, vIcGe_e, vIfGe_e, vIcGt_e, vIfGt_e, vIcLe_e, vIfLe_e, vNonnull_e, vSw_e, vGetI_e, vGetL_e, vGetR_e, vPutI_e, vPutZ_e, vPutL_e, vPutR_e, vIald_e, vIald_s, vLald_e, vBald_e, vBald_s, vAald_e, vIast_e, vLast_e, vBast_e, vAast_e, vAlen_e8, vAlen_e9, vAlen_e10, vAlen_e11, vAlen_e5, vAlen_e3, vGets_e, vCompact_e, vLdcS_e, vIret_e, vZret_e, vCret_e, vBret_e, vLret_e, vVret_e, vAret_e, vCallM_e0, vCallMV_e0, vCallS_e0, vCallSV_e0, vCallM_e1, vCallMV_e1, vCallS_e1, vCallSV_e1, vCallM_e2, vCallMV_e2, vCallS_e2, vCallSV_e2, vCallM_e3, vCallMV_e3, vCallS_e3, vCallSV_e3, vCallM_e4, vCallMV_e4, vCallS_e4, vCallSV_e4, vCallM_e5, vCallMV_e5, vCallS_e5, vCallSV_e5, vCallM_e6, vCallMV_e6, vCallS_e6, vCallSV_e6, vCallM_e7, vCallMV_e7, vCallS_e7, vCallSV_e7, vBad_e, vStrVal_e, vStrCod_e, vForm_e, vCallT_e0, vCallT_e1, vCallT_e2, vCopy_e, rf_0_0, rf_0_1, rf_0_2, rf_0_3, rf_0_4, rf_0_7, rf_0_10, rf_0_11, rf_0_12, rf_0_13, rf_0_14, rf_0_15, rf_0_16, rf_1_0, rf_3_0, rf_3_1, rf_6_0, rf_6_1, rf_9_0, rf_9_1, rf_9_3, rf_13_0, rf_13_1, rf_13_2, rf_16_0, rf_16_1, rf_16_2, rf_16_3, rf_21_0, rf_21_1, rf_21_2, rf_21_3, rf_26_0, rf_26_1, rf_26_2, rf_26_3, rf_26_4, rf_26_5, rf_26_6, rf_31_0, rf_31_2, rf_31_5, rf_31_6, rf_36_0, rf_36_1, rf_36_2, rf_36_3, rf_39_0, rf_39_1, rf_39_2, rf_41_0, rf_41_1, rf_41_2, rf_41_3, rf_5000_1, rf_5000_2, rf_5000_3, rf_5000_4, rf_5000_5, rf_5000_15, rf_5000_16, rf_5000_18, rf_5000_19, rf_5000_20, rf_5000_21, rf_5000_22, rf_5000_23, rf_5000_24, rf_5000_25, rf_5000_26, rf_5000_27, rf_5000_36, rf_5000_37, rf_5000_40, rf_5000_41, rf_5000_42, rf_5000_43, rf_5000_44, rf_5000_45, rf_5000_47, rf_5000_52, rf_5000_54, rf_5000_55, rf_100_0, rf_100_1, rf_103_0, rf_103_1, rf_106_0, rf_106_1, rf_109_0, rf_109_1, al_2, al_4, al_5, al_7, al_8, al_10, al_11, al_12, al_14, al_15, al_17, al_18, al_19, al_20, al_22, al_23, al_24, al_25, al_27, al_28, al_29, al_30, al_32, al_33, al_34, al_35, al_37, al_38, al_40, al_42, al_5001, al_5002, al_5003, al_5004, al_5005, al_5006, al_5007, al_5008, al_5009, al_5010, al_5011, al_5012, al_5013, al_5014, al_5015, al_5016, al_5017, al_5018, al_5019, al_5020, al_5021, al_5022, al_5023, al_5024, al_5025, al_5026, al_9000, al_101, al_102, al_104, al_105, al_107, al_108, al_110, al_111, vcs_e, lg_c0, lg_cs, lg_nil, set_c0, set_cs, okst_0, okst_s, acok_n, acok_c, List.contains_nil, List.contains_cons, Bool.or_false, Bool.false_or, Bool.false_eq_true, if_false, if_true, ite_self, ne_eq, true_and, and_true, not_false_eq_true, not_true_eq_false, false_imp_iff, true_imp_iff, Nat.ble_eq, Bool.and_eq_true, reduceCtorEq, or_false, false_or, or_true, true_or, false_and, and_false, and_self, Int.reduceLE, Int.reduceAdd, Int.reduceSub, Int.reduceMul, Int.reduceNeg, Int.reduceLT, Int.reduceEq, Int.reduceNe, Nat.reduceBEq, Nat.reduceBNe, Nat.reduceEqDiff, amCmp_in, amCmp_lt, amCmp_le, amCmp_gt, amCmp_ge, amCmp_eq, amCmp_ne, Nat.reduceLeDiff, Nat.reduceSub, Bool.and_true, Bool.true_and, Bool.and_self, Bool.or_true, Bool.true_or, isRf_3, isRf_4, isRf_5, isRf_8, isRf_9, isRf_10, isRf_11, isRf_15, isRf_16, isRf_17, isRf_18, isRf_19, isRf_20, isRf_21, isRf_22, isRf_23, isRf_24, isRf_25, isRf_26, isRf_27, isRf_28, k_X12_rests_0, k_X12_rests_1, k_X12_rests_2, k_X12_rests_5, k_X12_rests_6, k_X12_rests_7, k_X12_rests_8, k_X12_rests_9, k_X12_rests_12, k_X12_rests_15, k_X12_rests_17, k_X12_rests_18, k_X12_rests_21, k_X12_rests_22, k_X12_rests_23, k_X12_rests_24, k_X12_rests_27, k_X12_rests_29, k_X12_rests_30, k_X12_rests_32, k_X12_rests_34, k_X12_rests_35, k_X12_rests_37, k_X12_rests_38, k_X12_rests_40, k_X12_rests_41, k_X12_rests_44, k_X12_rests_45, k_X12_rests_48, k_X12_rests_50, k_X12_rests_51, k_X12_rests_52, k_X12_rests_53, k_X12_rests_54, k_X12_rests_56, k_X12_rests_57, k_X12_rests_58, k_X12_rests_60, k_X12_rests_61, k_X12_rests_63, k_X12_rests_64, k_X12_rests_65, k_X12_rests_67, k_X12_rests_68, k_X12_rests_70, k_X12_rests_71, k_X12_rests_72, k_X12_rests_75, k_X12_rests_76, k_X12_rests_79, k_X12_rests_82, k_X12_rests_83, k_X12_rests_85, k_X12_rests_86, k_X12_rests_88, k_X12_rests_90, k_X12_rests_92, k_X12_rests_95, k_X12_rests_96, k_X12_rests_98, k_X12_rests_100, k_X12_rests_102, k_X12_rests_105, k_X12_rests_106, k_X12_rests_108, k_X12_rests_109, k_X12_rests_111, k_X12_rests_113, k_X12_rests_115, k_X12_rests_118, k_X12_rests_120, k_X12_rests_123, k_X12_rests_124, k_X12_rests_127, k_X12_rests_128, k_X12_rests_130, k_X12_rests_132, k_X12_rests_133, k_X12_rests_135, k_X12_rests_136, k_X12_rests_137, k_X12_rests_138, k_X12_rests_139, k_X12_rests_142, k_X12_rests_143, k_X12_rests_145, k_X12_rests_147, k_X12_rests_148, k_X12_rests_150, k_X12_rests_151, k_X12_rests_152, k_X12_rests_153, k_X12_rests_156, k_X12_rests_157, k_X12_rests_160, k_X12_rests_161, k_X12_rests_163, k_X12_rests_165, k_X12_rests_166, k_X12_rests_168, k_X12_rests_169, k_X12_rests_170, k_X12_rests_171, k_X12_rests_172, k_X12_rests_173, k_X12_rests_174, k_X12_rests_177, k_X12_rests_178, k_X12_rests_180, k_X12_rests_182, k_X12_rests_183, k_X12_rests_185, k_X12_rests_186, k_X12_rests_187, k_X12_rests_188, k_X12_rests_189, k_X12_rests_190, k_X12_rests_193, k_X12_rests_194, k_X12_rests_197, k_X12_rests_198, k_X12_rests_200, k_X12_rests_203, k_X12_rests_206, k_X12_rests_208, k_X12_rests_211, k_X12_rests_214, k_X12_rests_216, k_X12_rests_218, k_X12_rests_221, k_X12_rests_223, k_X12_rests_225, k_X12_rests_226, k_X12_rests_228, k_X12_rests_229, k_X12_rests_230, k_X12_rests_233, k_X12_rests_236, k_X12_rests_239, k_X12_rests_242, k_X12_rests_245, k_X12_rests_247, k_X12_rests_248, k_X12_rests_251, k_X12_rests_253, k_X12_rests_256, k_X12_rests_257]
            repeat' (first | apply And.intro | intro _)
            all_goals first | omega | exact absurd trivial (by assumption) | exact hq
          · rw [if_neg ci] at hr9
            have i9 := nx (c + 1) (by omega) (by omega) hr9
            simp only [↓reduceIte, inR_0, inR_1, inR_m, vSw2_e, swP_n, swP_c, vI_e, vL_e, vNull_e, vIload_e, vLload_e, vAload_e, vIstore_e, vLstore_e, vAstore_e, vIinc_e, vIadd_e, vIsub_e, vImul_e, vIand_e, vIor_e, vIxor_e, vIshl_e, vIshr_e, vIushr_e, vIdiv_e, vIrem_e, vLadd_e, vLsub_e, vLmul_e, vLand_e, vLor_e, vLxor_e, vLdiv_e, vLrem_e, vLushr_e, vLshl_e, vLcmp_e, vIneg_e, vI2l_e, vL2i_e, vI2b_e, vI2c_e, vDup_e, vPop_e, vDup2_e, vGoto_e, vIcEq_e, vIfEq_e, vIcNe_e, vIfNe_e, vIcLt_e, vIfLt_e, vIcGe_e, vIfGe_e, vIcGt_e, vIfGt_e, vIcLe_e, vIfLe_e, vNonnull_e, vSw_e, vGetI_e, vGetL_e, vGetR_e, vPutI_e, vPutZ_e, vPutL_e, vPutR_e, vIald_e, vIald_s, vLald_e, vBald_e, vBald_s, vAald_e, vIast_e, vLast_e, vBast_e, vAast_e, vAlen_e8, vAlen_e9, vAlen_e10, vAlen_e11, vAlen_e5, vAlen_e3, vGets_e, vCompact_e, vLdcS_e, vIret_e, vZret_e, vCret_e, vBret_e, vLret_e, vVret_e, vAret_e, vCallM_e0, vCallMV_e0, vCallS_e0, vCallSV_e0, vCallM_e1, vCallMV_e1, vCallS_e1, vCallSV_e1, vCallM_e2, vCallMV_e2, vCallS_e2, vCallSV_e2, vCallM_e3, vCallMV_e3, vCallS_e3, vCallSV_e3, vCallM_e4, vCallMV_e4, vCallS_e4, vCallSV_e4, vCallM_e5, vCallMV_e5, vCallS_e5, vCallSV_e5, vCallM_e6, vCallMV_e6, vCallS_e6, vCallSV_e6, vCallM_e7, vCallMV_e7, vCallS_e7, vCallSV_e7, vBad_e, vStrVal_e, vStrCod_e, vForm_e, vCallT_e0, vCallT_e1, vCallT_e2, vCopy_e, rf_0_0, rf_0_1, rf_0_2, rf_0_3, rf_0_4, rf_0_7, rf_0_10, rf_0_11, rf_0_12, rf_0_13, rf_0_14, rf_0_15, rf_0_16, rf_1_0, rf_3_0, rf_3_1, rf_6_0, rf_6_1, rf_9_0, rf_9_1, rf_9_3, rf_13_0, rf_13_1, rf_13_2, rf_16_0, rf_16_1, rf_16_2, rf_16_3, rf_21_0, rf_21_1, rf_21_2, rf_21_3, rf_26_0, rf_26_1, rf_26_2, rf_26_3, rf_26_4, rf_26_5, rf_26_6, rf_31_0, rf_31_2, rf_31_5, rf_31_6, rf_36_0, rf_36_1, rf_36_2, rf_36_3, rf_39_0, rf_39_1, rf_39_2, rf_41_0, rf_41_1, rf_41_2, rf_41_3, rf_5000_1, rf_5000_2, rf_5000_3, rf_5000_4, rf_5000_5, rf_5000_15, rf_5000_16, rf_5000_18, rf_5000_19, rf_5000_20, rf_5000_21, rf_5000_22, rf_5000_23, rf_5000_24, rf_5000_25, rf_5000_26, rf_5000_27, rf_5000_36, rf_5000_37, rf_5000_40, rf_5000_41, rf_5000_42, rf_5000_43, rf_5000_44, rf_5000_45, rf_5000_47, rf_5000_52, rf_5000_54, rf_5000_55, rf_100_0, rf_100_1, rf_103_0, rf_103_1, rf_106_0, rf_106_1, rf_109_0, rf_109_1, al_2, al_4, al_5, al_7, al_8, al_10, al_11, al_12, al_14, al_15, al_17, al_18, al_19, al_20, al_22, al_23, al_24, al_25, al_27, al_28, al_29, al_30, al_32, al_33, al_34, al_35, al_37, al_38, al_40, al_42, al_5001, al_5002, al_5003, al_5004, al_5005, al_5006, al_5007, al_5008, al_5009, al_5010, al_5011, al_5012, al_5013, al_5014, al_5015, al_5016, al_5017, al_5018, al_5019, al_5020, al_5021, al_5022, al_5023, al_5024, al_5025, al_5026, al_9000, al_101, al_102, al_104, al_105, al_107, al_108, al_110, al_111, vcs_e, lg_c0, lg_cs, lg_nil, set_c0, set_cs, okst_0, okst_s, acok_n, acok_c, List.contains_nil, List.contains_cons, Bool.or_false, Bool.false_or, Bool.false_eq_true, if_false, if_true, ite_self, ne_eq, true_and, and_true, not_false_eq_true, not_true_eq_false, false_imp_iff, true_imp_iff, Nat.ble_eq, Bool.and_eq_true, reduceCtorEq, or_false, false_or, or_true, true_or, false_and, and_false, and_self, Int.reduceLE, Int.reduceAdd, Int.reduceSub, Int.reduceMul, Int.reduceNeg, Int.reduceLT, Int.reduceEq, Int.reduceNe, Nat.reduceBEq, Nat.reduceBNe, Nat.reduceEqDiff, amCmp_in, amCmp_lt, amCmp_le, amCmp_gt, amCmp_ge, amCmp_eq, amCmp_ne, Nat.reduceLeDiff, Nat.reduceSub, Bool.and_true, Bool.true_and, Bool.and_self, Bool.or_true, Bool.true_or, isRf_3, isRf_4, isRf_5, isRf_8, isRf_9, isRf_10, isRf_11, isRf_15, isRf_16, isRf_17, isRf_18, isRf_19, isRf_20, isRf_21, isRf_22, isRf_23, isRf_24, isRf_25, isRf_26, isRf_27, isRf_28, k_X12_rests_0, k_X12_rests_1, k_X12_rests_2, k_X12_rests_5, k_X12_rests_6, k_X12_rests_7, k_X12_rests_8, k_X12_rests_9, k_X12_rests_12, k_X12_rests_15, k_X12_rests_17, k_X12_rests_18, k_X12_rests_21, k_X12_rests_22, k_X12_rests_23, k_X12_rests_24, k_X12_rests_27, k_X12_rests_29, k_X12_rests_30, k_X12_rests_32, k_X12_rests_34, k_X12_rests_35, k_X12_rests_37, k_X12_rests_38, k_X12_rests_40, k_X12_rests_41, k_X12_rests_44, k_X12_rests_45, k_X12_rests_48, k_X12_rests_50, k_X12_rests_51, k_X12_rests_52, k_X12_rests_53, k_X12_rests_54, k_X12_rests_56, k_X12_rests_57, k_X12_rests_58, k_X12_rests_60, k_X12_rests_61, k_X12_rests_63, k_X12_rests_64, k_X12_rests_65, k_X12_rests_67, k_X12_rests_68, k_X12_rests_70, k_X12_rests_71, k_X12_rests_72, k_X12_rests_75, k_X12_rests_76, k_X12_rests_79, k_X12_rests_82, k_X12_rests_83, k_X12_rests_85, k_X12_rests_86, k_X12_rests_88, k_X12_rests_90, k_X12_rests_92, k_X12_rests_95, k_X12_rests_96, k_X12_rests_98, k_X12_rests_100, k_X12_rests_102, k_X12_rests_105, k_X12_rests_106, k_X12_rests_108, k_X12_rests_109, k_X12_rests_111, k_X12_rests_113, k_X12_rests_115, k_X12_rests_118, k_X12_rests_120, k_X12_rests_123, k_X12_rests_124, k_X12_rests_127, k_X12_rests_128, k_X12_rests_130, k_X12_rests_132, k_X12_rests_133, k_X12_rests_135, k_X12_rests_136, k_X12_rests_137, k_X12_rests_138, k_X12_rests_139, k_X12_rests_142, k_X12_rests_143, k_X12_rests_145, k_X12_rests_147, k_X12_rests_148, k_X12_rests_150, k_X12_rests_151, k_X12_rests_152, k_X12_rests_153, k_X12_rests_156, k_X12_rests_157, k_X12_rests_160, k_X12_rests_161, k_X12_rests_163, k_X12_rests_165, k_X12_rests_166, k_X12_rests_168, k_X12_rests_169, k_X12_rests_170, k_X12_rests_171, k_X12_rests_172, k_X12_rests_173, k_X12_rests_174, k_X12_rests_177, k_X12_rests_178, k_X12_rests_180, k_X12_rests_182, k_X12_rests_183, k_X12_rests_185, k_X12_rests_186, k_X12_rests_187, k_X12_rests_188, k_X12_rests_189, k_X12_rests_190, k_X12_rests_193, k_X12_rests_194, k_X12_rests_197, k_X12_rests_198, k_X12_rests_200, k_X12_rests_203, k_X12_rests_206, k_X12_rests_208, k_X12_rests_211, k_X12_rests_214, k_X12_rests_216, k_X12_rests_218, k_X12_rests_221, k_X12_rests_223, k_X12_rests_225, k_X12_rests_226, k_X12_rests_228, k_X12_rests_229, k_X12_rests_230, k_X12_rests_233, k_X12_rests_236, k_X12_rests_239, k_X12_rests_242, k_X12_rests_245, k_X12_rests_247, k_X12_rests_248, k_X12_rests_251, k_X12_rests_253, k_X12_rests_256, k_X12_rests_257]
            repeat' (first | apply And.intro | intro _)
            all_goals first | omega | exact absurd trivial (by assumption) | exact i9
        · rw [rsI_f (P := mrP G0 G1 S) (x := x) (y := y) hno] at hr9
          have i9 := nx c (by omega) (by omega) hr9
          simp only [↓reduceIte, inR_0, inR_1, inR_m, vSw2_e, swP_n, swP_c, vI_e, vL_e, vNull_e, vIload_e, vLload_e, vAload_e, vIstore_e, vLstore_e, vAstore_e, vIinc_e, vIadd_e, vIsub_e, vImul_e, vIand_e, vIor_e, vIxor_e, vIshl_e, vIshr_e, vIushr_e, vIdiv_e, vIrem_e, vLadd_e, vLsub_e, vLmul_e, vLand_e, vLor_e, vLxor_e, vLdiv_e, vLrem_e, vLushr_e, vLshl_e, vLcmp_e, vIneg_e, vI2l_e, vL2i_e, vI2b_e, vI2c_e, vDup_e, vPop_e, vDup2_e, vGoto_e, vIcEq_e, vIfEq_e, vIcNe_e, vIfNe_e, vIcLt_e, vIfLt_e, vIcGe_e, vIfGe_e, vIcGt_e, vIfGt_e, vIcLe_e, vIfLe_e, vNonnull_e, vSw_e, vGetI_e, vGetL_e, vGetR_e, vPutI_e, vPutZ_e, vPutL_e, vPutR_e, vIald_e, vIald_s, vLald_e, vBald_e, vBald_s, vAald_e, vIast_e, vLast_e, vBast_e, vAast_e, vAlen_e8, vAlen_e9, vAlen_e10, vAlen_e11, vAlen_e5, vAlen_e3, vGets_e, vCompact_e, vLdcS_e, vIret_e, vZret_e, vCret_e, vBret_e, vLret_e, vVret_e, vAret_e, vCallM_e0, vCallMV_e0, vCallS_e0, vCallSV_e0, vCallM_e1, vCallMV_e1, vCallS_e1, vCallSV_e1, vCallM_e2, vCallMV_e2, vCallS_e2, vCallSV_e2, vCallM_e3, vCallMV_e3, vCallS_e3, vCallSV_e3, vCallM_e4, vCallMV_e4, vCallS_e4, vCallSV_e4, vCallM_e5, vCallMV_e5, vCallS_e5, vCallSV_e5, vCallM_e6, vCallMV_e6, vCallS_e6, vCallSV_e6, vCallM_e7, vCallMV_e7, vCallS_e7, vCallSV_e7, vBad_e, vStrVal_e, vStrCod_e, vForm_e, vCallT_e0, vCallT_e1, vCallT_e2, vCopy_e, rf_0_0, rf_0_1, rf_0_2, rf_0_3, rf_0_4, rf_0_7, rf_0_10, rf_0_11, rf_0_12, rf_0_13, rf_0_14, rf_0_15, rf_0_16, rf_1_0, rf_3_0, rf_3_1, rf_6_0, rf_6_1, rf_9_0, rf_9_1, rf_9_3, rf_13_0, rf_13_1, rf_13_2, rf_16_0, rf_16_1, rf_16_2, rf_16_3, rf_21_0, rf_21_1, rf_21_2, rf_21_3, rf_26_0, rf_26_1, rf_26_2, rf_26_3, rf_26_4, rf_26_5, rf_26_6, rf_31_0, rf_31_2, rf_31_5, rf_31_6, rf_36_0, rf_36_1, rf_36_2, rf_36_3, rf_39_0, rf_39_1, rf_39_2, rf_41_0, rf_41_1, rf_41_2, rf_41_3, rf_5000_1, rf_5000_2, rf_5000_3, rf_5000_4, rf_5000_5, rf_5000_15, rf_5000_16, rf_5000_18, rf_5000_19, rf_5000_20, rf_5000_21, rf_5000_22, rf_5000_23, rf_5000_24, rf_5000_25, rf_5000_26, rf_5000_27, rf_5000_36, rf_5000_37, rf_5000_40, rf_5000_41, rf_5000_42, rf_5000_43, rf_5000_44, rf_5000_45, rf_5000_47, rf_5000_52, rf_5000_54, rf_5000_55, rf_100_0, rf_100_1, rf_103_0, rf_103_1, rf_106_0, rf_106_1, rf_109_0, rf_109_1, al_2, al_4, al_5, al_7, al_8, al_10, al_11, al_12, al_14, al_15, al_17, al_18, al_19, al_20, al_22, al_23, al_24, al_25, al_27, al_28, al_29, al_30, al_32, al_33, al_34, al_35, al_37, al_38, al_40, al_42, al_5001, al_5002, al_5003, al_5004, al_5005, al_5006, al_5007, al_5008, al_5009, al_5010, al_5011, al_5012, al_5013, al_5014, al_5015, al_5016, al_5017, al_5018, al_5019, al_5020, al_5021, al_5022, al_5023, al_5024, al_5025, al_5026, al_9000, al_101, al_102, al_104, al_105, al_107, al_108, al_110, al_111, vcs_e, lg_c0, lg_cs, lg_nil, set_c0, set_cs, okst_0, okst_s, acok_n, acok_c, List.contains_nil, List.contains_cons, Bool.or_false, Bool.false_or, Bool.false_eq_true, if_false, if_true, ite_self, ne_eq, true_and, and_true, not_false_eq_true, not_true_eq_false, false_imp_iff, true_imp_iff, Nat.ble_eq, Bool.and_eq_true, reduceCtorEq, or_false, false_or, or_true, true_or, false_and, and_false, and_self, Int.reduceLE, Int.reduceAdd, Int.reduceSub, Int.reduceMul, Int.reduceNeg, Int.reduceLT, Int.reduceEq, Int.reduceNe, Nat.reduceBEq, Nat.reduceBNe, Nat.reduceEqDiff, amCmp_in, amCmp_lt, amCmp_le, amCmp_gt, amCmp_ge, amCmp_eq, amCmp_ne, Nat.reduceLeDiff, Nat.reduceSub, Bool.and_true, Bool.true_and, Bool.and_self, Bool.or_true, Bool.true_or, isRf_3, isRf_4, isRf_5, isRf_8, isRf_9, isRf_10, isRf_11, isRf_15, isRf_16, isRf_17, isRf_18, isRf_19, isRf_20, isRf_21, isRf_22, isRf_23, isRf_24, isRf_25, isRf_26, isRf_27, isRf_28, k_X12_rests_0, k_X12_rests_1, k_X12_rests_2, k_X12_rests_5, k_X12_rests_6, k_X12_rests_7, k_X12_rests_8, k_X12_rests_9, k_X12_rests_12, k_X12_rests_15, k_X12_rests_17, k_X12_rests_18, k_X12_rests_21, k_X12_rests_22, k_X12_rests_23, k_X12_rests_24, k_X12_rests_27, k_X12_rests_29, k_X12_rests_30, k_X12_rests_32, k_X12_rests_34, k_X12_rests_35, k_X12_rests_37, k_X12_rests_38, k_X12_rests_40, k_X12_rests_41, k_X12_rests_44, k_X12_rests_45, k_X12_rests_48, k_X12_rests_50, k_X12_rests_51, k_X12_rests_52, k_X12_rests_53, k_X12_rests_54, k_X12_rests_56, k_X12_rests_57, k_X12_rests_58, k_X12_rests_60, k_X12_rests_61, k_X12_rests_63, k_X12_rests_64, k_X12_rests_65, k_X12_rests_67, k_X12_rests_68, k_X12_rests_70, k_X12_rests_71, k_X12_rests_72, k_X12_rests_75, k_X12_rests_76, k_X12_rests_79, k_X12_rests_82, k_X12_rests_83, k_X12_rests_85, k_X12_rests_86, k_X12_rests_88, k_X12_rests_90, k_X12_rests_92, k_X12_rests_95, k_X12_rests_96, k_X12_rests_98, k_X12_rests_100, k_X12_rests_102, k_X12_rests_105, k_X12_rests_106, k_X12_rests_108, k_X12_rests_109, k_X12_rests_111, k_X12_rests_113, k_X12_rests_115, k_X12_rests_118, k_X12_rests_120, k_X12_rests_123, k_X12_rests_124, k_X12_rests_127, k_X12_rests_128, k_X12_rests_130, k_X12_rests_132, k_X12_rests_133, k_X12_rests_135, k_X12_rests_136, k_X12_rests_137, k_X12_rests_138, k_X12_rests_139, k_X12_rests_142, k_X12_rests_143, k_X12_rests_145, k_X12_rests_147, k_X12_rests_148, k_X12_rests_150, k_X12_rests_151, k_X12_rests_152, k_X12_rests_153, k_X12_rests_156, k_X12_rests_157, k_X12_rests_160, k_X12_rests_161, k_X12_rests_163, k_X12_rests_165, k_X12_rests_166, k_X12_rests_168, k_X12_rests_169, k_X12_rests_170, k_X12_rests_171, k_X12_rests_172, k_X12_rests_173, k_X12_rests_174, k_X12_rests_177, k_X12_rests_178, k_X12_rests_180, k_X12_rests_182, k_X12_rests_183, k_X12_rests_185, k_X12_rests_186, k_X12_rests_187, k_X12_rests_188, k_X12_rests_189, k_X12_rests_190, k_X12_rests_193, k_X12_rests_194, k_X12_rests_197, k_X12_rests_198, k_X12_rests_200, k_X12_rests_203, k_X12_rests_206, k_X12_rests_208, k_X12_rests_211, k_X12_rests_214, k_X12_rests_216, k_X12_rests_218, k_X12_rests_221, k_X12_rests_223, k_X12_rests_225, k_X12_rests_226, k_X12_rests_228, k_X12_rests_229, k_X12_rests_230, k_X12_rests_233, k_X12_rests_236, k_X12_rests_239, k_X12_rests_242, k_X12_rests_245, k_X12_rests_247, k_X12_rests_248, k_X12_rests_251, k_X12_rests_253, k_X12_rests_256, k_X12_rests_257]
          repeat' (first | apply And.intro | intro _)
          all_goals first | omega | exact absurd trivial (by assumption) | exact i9
  · change vcs _ _ _ _ 60 0 [(28, 5000), (0, o), (0, r), (0, p), (0, i), (6, 0), (6, 0), (6, 0), (6, 0), (6, 0), (6, 0)] [] σ
    have i9 : gmP σ o r p → -1 ≤ i → ∃ k', inv_mrs σ G0 G1 o r p i S k' 32 [(28, 5000), (0, o), (0, r), (0, p), (0, i), (0, S), (0, 0), (6, 0), (6, 0), (6, 0), (6, 0)] [] (th0 σ) := fun a b =>
      ⟨(100000 + 2 * S * S).toNat, rfl, a, b, QF_th σ, hmt, Or.inl ⟨0, rfl, rfl, by omega, by omega, fun j j0 j1 => by omega⟩⟩
    have q8 : ¬ (gmP σ o r p ∧ -1 ≤ i) → Q (0, -1) (th0 σ) := h1
    simp only [↓reduceIte, inR_0, inR_1, inR_m, vSw2_e, swP_n, swP_c, vI_e, vL_e, vNull_e, vIload_e, vLload_e, vAload_e, vIstore_e, vLstore_e, vAstore_e, vIinc_e, vIadd_e, vIsub_e, vImul_e, vIand_e, vIor_e, vIxor_e, vIshl_e, vIshr_e, vIushr_e, vIdiv_e, vIrem_e, vLadd_e, vLsub_e, vLmul_e, vLand_e, vLor_e, vLxor_e, vLdiv_e, vLrem_e, vLushr_e, vLshl_e, vLcmp_e, vIneg_e, vI2l_e, vL2i_e, vI2b_e, vI2c_e, vDup_e, vPop_e, vDup2_e, vGoto_e, vIcEq_e, vIfEq_e, vIcNe_e, vIfNe_e, vIcLt_e, vIfLt_e, vIcGe_e, vIfGe_e, vIcGt_e, vIfGt_e, vIcLe_e, vIfLe_e, vNonnull_e, vSw_e, vGetI_e, vGetL_e, vGetR_e, vPutI_e, vPutZ_e, vPutL_e, vPutR_e, vIald_e, vIald_s, vLald_e, vBald_e, vBald_s, vAald_e, vIast_e, vLast_e, vBast_e, vAast_e, vAlen_e8, vAlen_e9, vAlen_e10, vAlen_e11, vAlen_e5, vAlen_e3, vGets_e, vCompact_e, vLdcS_e, vIret_e, vZret_e, vCret_e, vBret_e, vLret_e, vVret_e, vAret_e, vCallM_e0, vCallMV_e0, vCallS_e0, vCallSV_e0, vCallM_e1, vCallMV_e1, vCallS_e1, vCallSV_e1, vCallM_e2, vCallMV_e2, vCallS_e2, vCallSV_e2, vCallM_e3, vCallMV_e3, vCallS_e3, vCallSV_e3, vCallM_e4, vCallMV_e4, vCallS_e4, vCallSV_e4, vCallM_e5, vCallMV_e5, vCallS_e5, vCallSV_e5, vCallM_e6, vCallMV_e6, vCallS_e6, vCallSV_e6, vCallM_e7, vCallMV_e7, vCallS_e7, vCallSV_e7, vBad_e, vStrVal_e, vStrCod_e, vForm_e, vCallT_e0, vCallT_e1, vCallT_e2, vCopy_e, rf_0_0, rf_0_1, rf_0_2, rf_0_3, rf_0_4, rf_0_7, rf_0_10, rf_0_11, rf_0_12, rf_0_13, rf_0_14, rf_0_15, rf_0_16, rf_1_0, rf_3_0, rf_3_1, rf_6_0, rf_6_1, rf_9_0, rf_9_1, rf_9_3, rf_13_0, rf_13_1, rf_13_2, rf_16_0, rf_16_1, rf_16_2, rf_16_3, rf_21_0, rf_21_1, rf_21_2, rf_21_3, rf_26_0, rf_26_1, rf_26_2, rf_26_3, rf_26_4, rf_26_5, rf_26_6, rf_31_0, rf_31_2, rf_31_5, rf_31_6, rf_36_0, rf_36_1, rf_36_2, rf_36_3, rf_39_0, rf_39_1, rf_39_2, rf_41_0, rf_41_1, rf_41_2, rf_41_3, rf_5000_1, rf_5000_2, rf_5000_3, rf_5000_4, rf_5000_5, rf_5000_15, rf_5000_16, rf_5000_18, rf_5000_19, rf_5000_20, rf_5000_21, rf_5000_22, rf_5000_23, rf_5000_24, rf_5000_25, rf_5000_26, rf_5000_27, rf_5000_36, rf_5000_37, rf_5000_40, rf_5000_41, rf_5000_42, rf_5000_43, rf_5000_44, rf_5000_45, rf_5000_47, rf_5000_52, rf_5000_54, rf_5000_55, rf_100_0, rf_100_1, rf_103_0, rf_103_1, rf_106_0, rf_106_1, rf_109_0, rf_109_1, al_2, al_4, al_5, al_7, al_8, al_10, al_11, al_12, al_14, al_15, al_17, al_18, al_19, al_20, al_22, al_23, al_24, al_25, al_27, al_28, al_29, al_30, al_32, al_33, al_34, al_35, al_37, al_38, al_40, al_42, al_5001, al_5002, al_5003, al_5004, al_5005, al_5006, al_5007, al_5008, al_5009, al_5010, al_5011, al_5012, al_5013, al_5014, al_5015, al_5016, al_5017, al_5018, al_5019, al_5020, al_5021, al_5022, al_5023, al_5024, al_5025, al_5026, al_9000, al_101, al_102, al_104, al_105, al_107, al_108, al_110, al_111, vcs_e, lg_c0, lg_cs, lg_nil, set_c0, set_cs, okst_0, okst_s, acok_n, acok_c, List.contains_nil, List.contains_cons, Bool.or_false, Bool.false_or, Bool.false_eq_true, if_false, if_true, ite_self, ne_eq, true_and, and_true, not_false_eq_true, not_true_eq_false, false_imp_iff, true_imp_iff, Nat.ble_eq, Bool.and_eq_true, reduceCtorEq, or_false, false_or, or_true, true_or, false_and, and_false, and_self, Int.reduceLE, Int.reduceAdd, Int.reduceSub, Int.reduceMul, Int.reduceNeg, Int.reduceLT, Int.reduceEq, Int.reduceNe, Nat.reduceBEq, Nat.reduceBNe, Nat.reduceEqDiff, amCmp_in, amCmp_lt, amCmp_le, amCmp_gt, amCmp_ge, amCmp_eq, amCmp_ne, Nat.reduceLeDiff, Nat.reduceSub, Bool.and_true, Bool.true_and, Bool.and_self, Bool.or_true, Bool.true_or, isRf_3, isRf_4, isRf_5, isRf_8, isRf_9, isRf_10, isRf_11, isRf_15, isRf_16, isRf_17, isRf_18, isRf_19, isRf_20, isRf_21, isRf_22, isRf_23, isRf_24, isRf_25, isRf_26, isRf_27, isRf_28, k_X12_rests_0, k_X12_rests_1, k_X12_rests_2, k_X12_rests_5, k_X12_rests_6, k_X12_rests_7, k_X12_rests_8, k_X12_rests_9, k_X12_rests_12, k_X12_rests_15, k_X12_rests_17, k_X12_rests_18, k_X12_rests_21, k_X12_rests_22, k_X12_rests_23, k_X12_rests_24, k_X12_rests_27, k_X12_rests_29, k_X12_rests_30, k_X12_rests_32, k_X12_rests_34, k_X12_rests_35, k_X12_rests_37, k_X12_rests_38, k_X12_rests_40, k_X12_rests_41, k_X12_rests_44, k_X12_rests_45, k_X12_rests_48, k_X12_rests_50, k_X12_rests_51, k_X12_rests_52, k_X12_rests_53, k_X12_rests_54, k_X12_rests_56, k_X12_rests_57, k_X12_rests_58, k_X12_rests_60, k_X12_rests_61, k_X12_rests_63, k_X12_rests_64, k_X12_rests_65, k_X12_rests_67, k_X12_rests_68, k_X12_rests_70, k_X12_rests_71, k_X12_rests_72, k_X12_rests_75, k_X12_rests_76, k_X12_rests_79, k_X12_rests_82, k_X12_rests_83, k_X12_rests_85, k_X12_rests_86, k_X12_rests_88, k_X12_rests_90, k_X12_rests_92, k_X12_rests_95, k_X12_rests_96, k_X12_rests_98, k_X12_rests_100, k_X12_rests_102, k_X12_rests_105, k_X12_rests_106, k_X12_rests_108, k_X12_rests_109, k_X12_rests_111, k_X12_rests_113, k_X12_rests_115, k_X12_rests_118, k_X12_rests_120, k_X12_rests_123, k_X12_rests_124, k_X12_rests_127, k_X12_rests_128, k_X12_rests_130, k_X12_rests_132, k_X12_rests_133, k_X12_rests_135, k_X12_rests_136, k_X12_rests_137, k_X12_rests_138, k_X12_rests_139, k_X12_rests_142, k_X12_rests_143, k_X12_rests_145, k_X12_rests_147, k_X12_rests_148, k_X12_rests_150, k_X12_rests_151, k_X12_rests_152, k_X12_rests_153, k_X12_rests_156, k_X12_rests_157, k_X12_rests_160, k_X12_rests_161, k_X12_rests_163, k_X12_rests_165, k_X12_rests_166, k_X12_rests_168, k_X12_rests_169, k_X12_rests_170, k_X12_rests_171, k_X12_rests_172, k_X12_rests_173, k_X12_rests_174, k_X12_rests_177, k_X12_rests_178, k_X12_rests_180, k_X12_rests_182, k_X12_rests_183, k_X12_rests_185, k_X12_rests_186, k_X12_rests_187, k_X12_rests_188, k_X12_rests_189, k_X12_rests_190, k_X12_rests_193, k_X12_rests_194, k_X12_rests_197, k_X12_rests_198, k_X12_rests_200, k_X12_rests_203, k_X12_rests_206, k_X12_rests_208, k_X12_rests_211, k_X12_rests_214, k_X12_rests_216, k_X12_rests_218, k_X12_rests_221, k_X12_rests_223, k_X12_rests_225, k_X12_rests_226, k_X12_rests_228, k_X12_rests_229, k_X12_rests_230, k_X12_rests_233, k_X12_rests_236, k_X12_rests_239, k_X12_rests_242, k_X12_rests_245, k_X12_rests_247, k_X12_rests_248, k_X12_rests_251, k_X12_rests_253, k_X12_rests_256, k_X12_rests_257, w_X12_gameOf_e, w_X12_isGame_e, e28, e29, e30, eg]
    repeat' (first | apply And.intro | intro _)
    all_goals first | omega | exact absurd trivial (by assumption) | exact q8 (fun z => absurd z.1 (by assumption)) | exact q8 (fun z => by omega) | exact i9 (by assumption) (by omega) | exact ⟨by omega, by omega⟩
/-! the reference: FAULT -/
noncomputable abbrev hRd (σ : Mem) : Int × Int × (Int → Int) × (Int → Int) := hCls (txt σ 5001 0 (σ 5000 6)) (σ 5000 6) 241 0 (fun _ => 0) (filv (vof σ) 0 0)
abbrev sRd (σ : Mem) : Int × Int × (Int → Int) := seasF (txt σ 5001 0 (σ 5000 6)) (σ 5000 6) 16 0 0 (fun _ => 0)
/-- a HOUSE stands read -/
def hRok (R : Int × Int × (Int → Int) × (Int → Int)) (τ : Mem) : Prop := (∀ k, 1 ≤ k → k ≤ 3 → τ 5000 (30 + k) = R.2.2.1 k) ∧ ∀ b j, 0 ≤ slo b j → τ b j = R.2.2.2 (slo b j)
/-- a SEASON stands read -/
def sRok (R : Int × Int × (Int → Int)) (τ : Mem) : Prop := τ 5014 4 = R.2.1 ∧ ∀ k, 0 ≤ k → k < R.2.1 * 3 → τ 5013 (192 + k) = R.2.2 k
theorem wd_1504 : Cond.methodLink RX12 297 yX12_readHouse ∈ TBL := tb_tab (List.mem_of_getElem? (i := 1504) (by decide +kernel)) rfl
theorem wd_1507 : Cond.code yX12_readHouse cX12_readHouse 2 (none) ∈ TBL := tb_tab (List.mem_of_getElem? (i := 1507) (by decide +kernel)) rfl
theorem lk_X12_297 : amLk RX12 297 yX12_readHouse cX12_readHouse 2 (none) 0 := ⟨wd_1504, wd_12, wd_1507, by decide +kernel, by decide +kernel, by decide⟩
theorem wd_1506 : Cond.instanceMethod yX12_readHouse ∈ TBL := tb_tab (List.mem_of_getElem? (i := 1506) (by decide +kernel)) rfl
theorem sl_X12_readHouse : Cond.selects RX12 yX12_readHouse yX12_readHouse ∈ TBL := tb_sel (List.mem_of_getElem? (i := 48) (by decide +kernel)) rfl
theorem wd_1624 : Cond.methodLink RX12 303 yX12_readSeason ∈ TBL := tb_tab (List.mem_of_getElem? (i := 1624) (by decide +kernel)) rfl
theorem wd_1627 : Cond.code yX12_readSeason cX12_readSeason 3 (none) ∈ TBL := tb_tab (List.mem_of_getElem? (i := 1627) (by decide +kernel)) rfl
theorem lk_X12_303 : amLk RX12 303 yX12_readSeason cX12_readSeason 3 (none) 0 := ⟨wd_1624, wd_12, wd_1627, by decide +kernel, by decide +kernel, by decide⟩
theorem wd_1626 : Cond.instanceMethod yX12_readSeason ∈ TBL := tb_tab (List.mem_of_getElem? (i := 1626) (by decide +kernel)) rfl
theorem sl_X12_readSeason : Cond.selects RX12 yX12_readSeason yX12_readSeason ∈ TBL := tb_sel (List.mem_of_getElem? (i := 69) (by decide +kernel)) rfl
def a_X12_fault : AC := [(0, vAload 0 1), (1, vI 0 2), (2, vPutI 28 0 5), (5, vIload 1 6), (6, vI2l 7), (7, vL 0 8), (8, vL 2 11), (11, vCallS w_X12_isIn 3 14), (14, vIfNe 20 17), (17, vI (-2) 19), (19, vIret), (20, vIload 1 21), (21, vIfNe 28 24), (24, vAload 0 25), (25, vCallMV w_X12_readHouse 28 0 28), (28, vIload 1 29), (29, vI 1 30), (30, vIcNe 46 33), (33, vAload 0 34), (34, vAload 0 35), (35, vGetR TT 28 1 10 38), (38, vI 0 39), (39, vAload 0 40), (40, vGetI 28 6 43), (43, vCallMV w_X12_goThrough 28 3 46), (46, vIload 1 47), (47, vI 2 48), (48, vIcNe 55 51), (51, vAload 0 52), (52, vCallMV w_X12_readSeason 28 0 55), (55, vAload 0 56), (56, vGetI 28 11 59), (59, vIret)]
theorem k_X12_fault_0 : look a_X12_fault 0 = vAload 0 1 := rfl
theorem k_X12_fault_1 : look a_X12_fault 1 = vI 0 2 := rfl
theorem k_X12_fault_2 : look a_X12_fault 2 = vPutI 28 0 5 := rfl
theorem k_X12_fault_5 : look a_X12_fault 5 = vIload 1 6 := rfl
theorem k_X12_fault_6 : look a_X12_fault 6 = vI2l 7 := rfl
theorem k_X12_fault_7 : look a_X12_fault 7 = vL 0 8 := rfl
theorem k_X12_fault_8 : look a_X12_fault 8 = vL 2 11 := rfl
theorem k_X12_fault_11 : look a_X12_fault 11 = vCallS w_X12_isIn 3 14 := rfl
theorem k_X12_fault_14 : look a_X12_fault 14 = vIfNe 20 17 := rfl
theorem k_X12_fault_17 : look a_X12_fault 17 = vI (-2) 19 := rfl
theorem k_X12_fault_19 : look a_X12_fault 19 = vIret := rfl
theorem k_X12_fault_20 : look a_X12_fault 20 = vIload 1 21 := rfl
theorem k_X12_fault_21 : look a_X12_fault 21 = vIfNe 28 24 := rfl
theorem k_X12_fault_24 : look a_X12_fault 24 = vAload 0 25 := rfl
theorem k_X12_fault_25 : look a_X12_fault 25 = vCallMV w_X12_readHouse 28 0 28 := rfl
theorem k_X12_fault_28 : look a_X12_fault 28 = vIload 1 29 := rfl
theorem k_X12_fault_29 : look a_X12_fault 29 = vI 1 30 := rfl
theorem k_X12_fault_30 : look a_X12_fault 30 = vIcNe 46 33 := rfl
theorem k_X12_fault_33 : look a_X12_fault 33 = vAload 0 34 := rfl
theorem k_X12_fault_34 : look a_X12_fault 34 = vAload 0 35 := rfl
theorem k_X12_fault_35 : look a_X12_fault 35 = vGetR TT 28 1 10 38 := rfl
theorem k_X12_fault_38 : look a_X12_fault 38 = vI 0 39 := rfl
theorem k_X12_fault_39 : look a_X12_fault 39 = vAload 0 40 := rfl
theorem k_X12_fault_40 : look a_X12_fault 40 = vGetI 28 6 43 := rfl
theorem k_X12_fault_43 : look a_X12_fault 43 = vCallMV w_X12_goThrough 28 3 46 := rfl
theorem k_X12_fault_46 : look a_X12_fault 46 = vIload 1 47 := rfl
theorem k_X12_fault_47 : look a_X12_fault 47 = vI 2 48 := rfl
theorem k_X12_fault_48 : look a_X12_fault 48 = vIcNe 55 51 := rfl
theorem k_X12_fault_51 : look a_X12_fault 51 = vAload 0 52 := rfl
theorem k_X12_fault_52 : look a_X12_fault 52 = vCallMV w_X12_readSeason 28 0 55 := rfl
theorem k_X12_fault_55 : look a_X12_fault 55 = vAload 0 56 := rfl
theorem k_X12_fault_56 : look a_X12_fault 56 = vGetI 28 11 59 := rfl
theorem k_X12_fault_59 : look a_X12_fault 59 = vIret := rfl
theorem o_X12_fault {X : amX} (e1 : XT X = TT) (e2 : XD X = 56) (hB : amB X RX12 cX12_fault (some .int) 2) : ∀ pc, amOK X pc (look a_X12_fault pc) := by
  have hT : amTok (XT X) := e1 ▸ TT_ok
  refine look_ok ?_
  unfold a_X12_fault
  refine fc (ok_aload_n hB dX12_fault_0) ?_
  refine fc (ok_iconst hB dX12_fault_1) ?_
  refine fc (ok_putI hB hT fp_X12_111 rfl rfl rfl af_12_0 dX12_fault_2) ?_
  refine fc (ok_iload_n hB dX12_fault_5) ?_
  refine fc (ok_i2l hB dX12_fault_6) ?_
  refine fc (ok_lconst hB (z := 0) (by decide) dX12_fault_7) ?_
  refine fc (ok_ldc2 hB wd_1500 rfl dX12_fault_8) ?_
  refine fc (ok_callS hB (e1 ▸ s_X12_isIn) lk_X12_232 (by rw [e2]; decide) wd_1502 dX12_fault_11) ?_
  refine fc (ok_if_ne hB (t := 20) (by decide) dX12_fault_14) ?_
  refine fc (ok_bipush hB dX12_fault_17 (by decide)) ?_
  refine fc (ok_iret hB dX12_fault_19) ?_
  refine fc (ok_iload_n hB dX12_fault_20) ?_
  refine fc (ok_if_ne hB (t := 28) (by decide) dX12_fault_21) ?_
  refine fc (ok_aload_n hB dX12_fault_24) ?_
  refine fc (ok_callMV hB hT (e1 ▸ s_X12_readHouse) lk_X12_297 (by rw [e2]; decide) (c := 12) rfl rfl rfl wd_1506 sl_X12_readHouse dX12_fault_25) ?_
  refine fc (ok_iload_n hB dX12_fault_28) ?_
  refine fc (ok_iconst hB dX12_fault_29) ?_
  refine fc (ok_icmp_ne hB (t := 46) (by decide) dX12_fault_30) ?_
  refine fc (ok_aload_n hB dX12_fault_33) ?_
  refine fc (ok_aload_n hB dX12_fault_34) ?_
  refine fc (okt_getR e1 hB hT fl_X12_9 rfl af_12_1 at_12_1 (by decide) dX12_fault_35) ?_
  refine fc (ok_iconst hB dX12_fault_38) ?_
  refine fc (ok_aload_n hB dX12_fault_39) ?_
  refine fc (ok_getI hB hT fl_X12_124 rfl rfl (Or.inl af_12_6) dX12_fault_40) ?_
  refine fc (ok_callMV hB hT (e1 ▸ s_X12_goThrough) lk_X12_300 (by rw [e2]; decide) (c := 12) rfl rfl rfl wd_1567 sl_X12_goThrough dX12_fault_43) ?_
  refine fc (ok_iload_n hB dX12_fault_46) ?_
  refine fc (ok_iconst hB dX12_fault_47) ?_
  refine fc (ok_icmp_ne hB (t := 55) (by decide) dX12_fault_48) ?_
  refine fc (ok_aload_n hB dX12_fault_51) ?_
  refine fc (ok_callMV hB hT (e1 ▸ s_X12_readSeason) lk_X12_303 (by rw [e2]; decide) (c := 12) rfl rfl rfl wd_1626 sl_X12_readSeason dX12_fault_52) ?_
  refine fc (ok_aload_n hB dX12_fault_55) ?_
  refine fc (ok_getI hB hT fl_X12_143 rfl rfl (Or.inl af_12_11) dX12_fault_56) ?_
  refine fc (ok_iret hB dX12_fault_59) ?_
  exact fn

def w_X12_fault : WP := fun av σ Q => ∃ (s : Int), av = [(28, 5000), (0, s)] ∧ (InR s ∧ txtOk (th0 σ) 5001 0 (th0 σ 5000 6) ∧ rowB (vof (th0 σ)) ∧ lbd (mL (th0 σ)) ∧ (¬ (0 ≤ s ∧ s ≤ 2) → Q (0, -2) (th0 σ)) ∧ (s = 0 → ∀ τ, HRF (th0 σ) τ → rowB (vof τ) → ((hRd (th0 σ)).1 = -1 → hRok (hRd (th0 σ)) τ) → Q (0, (hRd (th0 σ)).1) τ) ∧ (s = 1 → (∀ τ f, gLw (txt (th0 σ) 5001 0 (th0 σ 5000 6)) (th0 σ 5000 6) 241 0 = .inl f → 0 ≤ f → f ≤ 240 → GF (th0 σ) τ → Q (0, f) τ) ∧ (∀ τ K, gLw (txt (th0 σ) 5001 0 (th0 σ 5000 6)) (th0 σ 5000 6) 241 0 = .inr K → GF (th0 σ) τ → Q (0, -1) τ)) ∧ (s = 2 → ∀ τ, SEF (th0 σ) τ → ((sRd (th0 σ)).1 = -1 → sRok (sRd (th0 σ)) τ) → Q (0, (sRd (th0 σ)).1) τ))
theorem w_X12_fault_e (s : Int) (σ : Mem) (Q : AV → Mem → Prop) : w_X12_fault [(28, 5000), (0, s)] σ Q = (InR s ∧ txtOk (th0 σ) 5001 0 (th0 σ 5000 6) ∧ rowB (vof (th0 σ)) ∧ lbd (mL (th0 σ)) ∧ (¬ (0 ≤ s ∧ s ≤ 2) → Q (0, -2) (th0 σ)) ∧ (s = 0 → ∀ τ, HRF (th0 σ) τ → rowB (vof τ) → ((hRd (th0 σ)).1 = -1 → hRok (hRd (th0 σ)) τ) → Q (0, (hRd (th0 σ)).1) τ) ∧ (s = 1 → (∀ τ f, gLw (txt (th0 σ) 5001 0 (th0 σ 5000 6)) (th0 σ 5000 6) 241 0 = .inl f → 0 ≤ f → f ≤ 240 → GF (th0 σ) τ → Q (0, f) τ) ∧ (∀ τ K, gLw (txt (th0 σ) 5001 0 (th0 σ 5000 6)) (th0 σ 5000 6) 241 0 = .inr K → GF (th0 σ) τ → Q (0, -1) τ)) ∧ (s = 2 → ∀ τ, SEF (th0 σ) τ → ((sRd (th0 σ)).1 = -1 → sRok (sRd (th0 σ)) τ) → Q (0, (sRd (th0 σ)).1) τ)) := by
  apply propext; constructor
  · rintro ⟨s', h9, hb9⟩; cases h9; exact hb9
  · intro hb9; exact ⟨s, rfl, hb9⟩

set_option maxRecDepth 100000 in
set_option maxHeartbeats 4000000 in
theorem s_X12_fault : ∀ av σ Q, w_X12_fault av σ Q → amCall 56 0 0 TT yX12_fault cX12_fault 2 (some .int) av σ Q := by
  rintro av σ Q ⟨s, rfl, hs, ht, hv, hL, h1, h2, h3, h4⟩
  by_cases d : 0 ≤ s ∧ s ≤ 2
  · have e : s = 0 ∨ s = 1 ∨ s = 2 := by omega
    rcases e with rfl | rfl | rfl
    · have q9 : ∀ τ, HRF (th0 σ) τ → rowB (vof τ) → τ 5000 11 = (hRd (th0 σ)).1 → ((hRd (th0 σ)).1 = -1 → (∀ k, 1 ≤ k → k ≤ 3 → τ 5000 (30 + k) = (hRd (th0 σ)).2.2.1 k) ∧ ∀ b j, 0 ≤ slo b j → τ b j = (hRd (th0 σ)).2.2.2 (slo b j)) → Q (0, τ 5000 11) τ := fun τ a a' b c => by rw [b]; exact h2 rfl τ a a' c
      refine am_m0 (own := RX12) (A := look a_X12_fault) (fun X e1 e2 hB => o_X12_fault e1 e2 hB) rfl (by decide +kernel) rfl rfl 190 (w := 2) ?_
      change vcs _ _ _ _ 190 0 [(28, 5000), (0, 0)] [] σ
      simp only [↓reduceIte, inR_0, inR_1, inR_m, vSw2_e, swP_n, swP_c, vI_e, vL_e, vNull_e, vIload_e, vLload_e, vAload_e, vIstore_e, vLstore_e, vAstore_e, vIinc_e, vIadd_e, vIsub_e, vImul_e, vIand_e, vIor_e, vIxor_e, vIshl_e, vIshr_e, vIushr_e, vIdiv_e, vIrem_e, vLadd_e, vLsub_e, vLmul_e, vLand_e, vLor_e, vLxor_e, vLdiv_e, vLrem_e, vLushr_e, vLshl_e, vLcmp_e, vIneg_e, vI2l_e, vL2i_e, vI2b_e, vI2c_e, vDup_e, vPop_e, vDup2_e, vGoto_e, vIcEq_e, vIfEq_e, vIcNe_e, vIfNe_e, vIcLt_e, vIfLt_e, vIcGe_e, vIfGe_e, vIcGt_e, vIfGt_e, vIcLe_e, vIfLe_e, vNonnull_e, vSw_e, vGetI_e, vGetL_e, vGetR_e, vPutI_e, vPutZ_e, vPutL_e, vPutR_e, vIald_e, vIald_s, vLald_e, vBald_e, vBald_s, vAald_e, vIast_e, vLast_e, vBast_e, vAast_e, vAlen_e8, vAlen_e9, vAlen_e10, vAlen_e11, vAlen_e5, vAlen_e3, vGets_e, vCompact_e, vLdcS_e, vIret_e, vZret_e, vCret_e, vBret_e, vLret_e, vVret_e, vAret_e, vCallM_e0, vCallMV_e0, vCallS_e0, vCallSV_e0, vCallM_e1, vCallMV_e1, vCallS_e1, vCallSV_e1, vCallM_e2, vCallMV_e2, vCallS_e2, vCallSV_e2, vCallM_e3, vCallMV_e3, vCallS_e3, vCallSV_e3, vCallM_e4, vCallMV_e4, vCallS_e4, vCallSV_e4, vCallM_e5, vCallMV_e5, vCallS_e5, vCallSV_e5, vCallM_e6, vCallMV_e6, vCallS_e6, vCallSV_e6, vCallM_e7, vCallMV_e7, vCallS_e7, vCallSV_e7, vBad_e, vStrVal_e, vStrCod_e, vForm_e, vCallT_e0, vCallT_e1, vCallT_e2, vCopy_e, rf_0_0, rf_0_1, rf_0_2, rf_0_3, rf_0_4, rf_0_7, rf_0_10, rf_0_11, rf_0_12, rf_0_13, rf_0_14, rf_0_15, rf_0_16, rf_1_0, rf_3_0, rf_3_1, rf_6_0, rf_6_1, rf_9_0, rf_9_1, rf_9_3, rf_13_0, rf_13_1, rf_13_2, rf_16_0, rf_16_1, rf_16_2, rf_16_3, rf_21_0, rf_21_1, rf_21_2, rf_21_3, rf_26_0, rf_26_1, rf_26_2, rf_26_3, rf_26_4, rf_26_5, rf_26_6, rf_31_0, rf_31_2, rf_31_5, rf_31_6, rf_36_0, rf_36_1, rf_36_2, rf_36_3, rf_39_0, rf_39_1, rf_39_2, rf_41_0, rf_41_1, rf_41_2, rf_41_3, rf_5000_1, rf_5000_2, rf_5000_3, rf_5000_4, rf_5000_5, rf_5000_15, rf_5000_16, rf_5000_18, rf_5000_19, rf_5000_20, rf_5000_21, rf_5000_22, rf_5000_23, rf_5000_24, rf_5000_25, rf_5000_26, rf_5000_27, rf_5000_36, rf_5000_37, rf_5000_40, rf_5000_41, rf_5000_42, rf_5000_43, rf_5000_44, rf_5000_45, rf_5000_47, rf_5000_52, rf_5000_54, rf_5000_55, rf_100_0, rf_100_1, rf_103_0, rf_103_1, rf_106_0, rf_106_1, rf_109_0, rf_109_1, al_2, al_4, al_5, al_7, al_8, al_10, al_11, al_12, al_14, al_15, al_17, al_18, al_19, al_20, al_22, al_23, al_24, al_25, al_27, al_28, al_29, al_30, al_32, al_33, al_34, al_35, al_37, al_38, al_40, al_42, al_5001, al_5002, al_5003, al_5004, al_5005, al_5006, al_5007, al_5008, al_5009, al_5010, al_5011, al_5012, al_5013, al_5014, al_5015, al_5016, al_5017, al_5018, al_5019, al_5020, al_5021, al_5022, al_5023, al_5024, al_5025, al_5026, al_9000, al_101, al_102, al_104, al_105, al_107, al_108, al_110, al_111, vcs_e, lg_c0, lg_cs, lg_nil, set_c0, set_cs, okst_0, okst_s, acok_n, acok_c, List.contains_nil, List.contains_cons, Bool.or_false, Bool.false_or, Bool.false_eq_true, if_false, if_true, ite_self, ne_eq, true_and, and_true, not_false_eq_true, not_true_eq_false, false_imp_iff, true_imp_iff, Nat.ble_eq, Bool.and_eq_true, reduceCtorEq, or_false, false_or, or_true, true_or, false_and, and_false, and_self, Int.reduceLE, Int.reduceAdd, Int.reduceSub, Int.reduceMul, Int.reduceNeg, Int.reduceLT, Int.reduceEq, Int.reduceNe, Nat.reduceBEq, Nat.reduceBNe, Nat.reduceEqDiff, amCmp_in, amCmp_lt, amCmp_le, amCmp_gt, amCmp_ge, amCmp_eq, amCmp_ne, Nat.reduceLeDiff, Nat.reduceSub, Bool.and_true, Bool.true_and, Bool.and_self, Bool.or_true, Bool.true_or, isRf_3, isRf_4, isRf_5, isRf_8, isRf_9, isRf_10, isRf_11, isRf_15, isRf_16, isRf_17, isRf_18, isRf_19, isRf_20, isRf_21, isRf_22, isRf_23, isRf_24, isRf_25, isRf_26, isRf_27, isRf_28, k_X12_fault_0, k_X12_fault_1, k_X12_fault_2, k_X12_fault_5, k_X12_fault_6, k_X12_fault_7, k_X12_fault_8, k_X12_fault_11, k_X12_fault_14, k_X12_fault_17, k_X12_fault_19, k_X12_fault_20, k_X12_fault_21, k_X12_fault_24, k_X12_fault_25, k_X12_fault_28, k_X12_fault_29, k_X12_fault_30, k_X12_fault_33, k_X12_fault_34, k_X12_fault_35, k_X12_fault_38, k_X12_fault_39, k_X12_fault_40, k_X12_fault_43, k_X12_fault_46, k_X12_fault_47, k_X12_fault_48, k_X12_fault_51, k_X12_fault_52, k_X12_fault_55, k_X12_fault_56, k_X12_fault_59, w_X12_goThrough_e, w_X12_isIn_e, w_X12_readHouse_e, w_X12_readSeason_e, up_s, up_nj, up_na, up_up, savR_o, cpy_o, fillm_o, setAud_o, setv_o, setv_s, Int.reduceNe, Int.reduceEq, Int.reduceLT, Int.reduceAdd, not_false_eq_true, ne_eq, or_true, true_or, if_pos d]
      repeat' (first | assumption | exact ht | exact hv | apply And.intro | intro _)
      all_goals first | omega | exact absurd trivial (by assumption) | exact q9 _ (by assumption) (by assumption) (by assumption) (by assumption)
    · obtain ⟨h5, h6⟩ := h3 rfl
      have q8 : ∀ τ f, gLw (txt (th0 σ) 5001 0 (th0 σ 5000 6)) (th0 σ 5000 6) 241 0 = .inl f → 0 ≤ f → f ≤ 240 → GF (th0 σ) τ → τ 5000 11 = f → Q (0, τ 5000 11) τ := fun τ f a b c e g => by rw [g]; exact h5 τ f a b c e
      have q9 : ∀ τ K, gLw (txt (th0 σ) 5001 0 (th0 σ 5000 6)) (th0 σ 5000 6) 241 0 = .inr K → GF (th0 σ) τ → τ 5000 11 = -1 → Q (0, τ 5000 11) τ := fun τ K a b c => by rw [c]; exact h6 τ K a b
      refine am_m0 (own := RX12) (A := look a_X12_fault) (fun X e1 e2 hB => o_X12_fault e1 e2 hB) rfl (by decide +kernel) rfl rfl 190 (w := 2) ?_
      change vcs _ _ _ _ 190 0 [(28, 5000), (0, 1)] [] σ
      simp only [↓reduceIte, inR_0, inR_1, inR_m, vSw2_e, swP_n, swP_c, vI_e, vL_e, vNull_e, vIload_e, vLload_e, vAload_e, vIstore_e, vLstore_e, vAstore_e, vIinc_e, vIadd_e, vIsub_e, vImul_e, vIand_e, vIor_e, vIxor_e, vIshl_e, vIshr_e, vIushr_e, vIdiv_e, vIrem_e, vLadd_e, vLsub_e, vLmul_e, vLand_e, vLor_e, vLxor_e, vLdiv_e, vLrem_e, vLushr_e, vLshl_e, vLcmp_e, vIneg_e, vI2l_e, vL2i_e, vI2b_e, vI2c_e, vDup_e, vPop_e, vDup2_e, vGoto_e, vIcEq_e, vIfEq_e, vIcNe_e, vIfNe_e, vIcLt_e, vIfLt_e, vIcGe_e, vIfGe_e, vIcGt_e, vIfGt_e, vIcLe_e, vIfLe_e, vNonnull_e, vSw_e, vGetI_e, vGetL_e, vGetR_e, vPutI_e, vPutZ_e, vPutL_e, vPutR_e, vIald_e, vIald_s, vLald_e, vBald_e, vBald_s, vAald_e, vIast_e, vLast_e, vBast_e, vAast_e, vAlen_e8, vAlen_e9, vAlen_e10, vAlen_e11, vAlen_e5, vAlen_e3, vGets_e, vCompact_e, vLdcS_e, vIret_e, vZret_e, vCret_e, vBret_e, vLret_e, vVret_e, vAret_e, vCallM_e0, vCallMV_e0, vCallS_e0, vCallSV_e0, vCallM_e1, vCallMV_e1, vCallS_e1, vCallSV_e1, vCallM_e2, vCallMV_e2, vCallS_e2, vCallSV_e2, vCallM_e3, vCallMV_e3, vCallS_e3, vCallSV_e3, vCallM_e4, vCallMV_e4, vCallS_e4, vCallSV_e4, vCallM_e5, vCallMV_e5, vCallS_e5, vCallSV_e5, vCallM_e6, vCallMV_e6, vCallS_e6, vCallSV_e6, vCallM_e7, vCallMV_e7, vCallS_e7, vCallSV_e7, vBad_e, vStrVal_e, vStrCod_e, vForm_e, vCallT_e0, vCallT_e1, vCallT_e2, vCopy_e, rf_0_0, rf_0_1, rf_0_2, rf_0_3, rf_0_4, rf_0_7, rf_0_10, rf_0_11, rf_0_12, rf_0_13, rf_0_14, rf_0_15, rf_0_16, rf_1_0, rf_3_0, rf_3_1, rf_6_0, rf_6_1, rf_9_0, rf_9_1, rf_9_3, rf_13_0, rf_13_1, rf_13_2, rf_16_0, rf_16_1, rf_16_2, rf_16_3, rf_21_0, rf_21_1, rf_21_2, rf_21_3, rf_26_0, rf_26_1, rf_26_2, rf_26_3, rf_26_4, rf_26_5, rf_26_6, rf_31_0, rf_31_2, rf_31_5, rf_31_6, rf_36_0, rf_36_1, rf_36_2, rf_36_3, rf_39_0, rf_39_1, rf_39_2, rf_41_0, rf_41_1, rf_41_2, rf_41_3, rf_5000_1, rf_5000_2, rf_5000_3, rf_5000_4, rf_5000_5, rf_5000_15, rf_5000_16, rf_5000_18, rf_5000_19, rf_5000_20, rf_5000_21, rf_5000_22, rf_5000_23, rf_5000_24, rf_5000_25, rf_5000_26, rf_5000_27, rf_5000_36, rf_5000_37, rf_5000_40, rf_5000_41, rf_5000_42, rf_5000_43, rf_5000_44, rf_5000_45, rf_5000_47, rf_5000_52, rf_5000_54, rf_5000_55, rf_100_0, rf_100_1, rf_103_0, rf_103_1, rf_106_0, rf_106_1, rf_109_0, rf_109_1, al_2, al_4, al_5, al_7, al_8, al_10, al_11, al_12, al_14, al_15, al_17, al_18, al_19, al_20, al_22, al_23, al_24, al_25, al_27, al_28, al_29, al_30, al_32, al_33, al_34, al_35, al_37, al_38, al_40, al_42, al_5001, al_5002, al_5003, al_5004, al_5005, al_5006, al_5007, al_5008, al_5009, al_5010, al_5011, al_5012, al_5013, al_5014, al_5015, al_5016, al_5017, al_5018, al_5019, al_5020, al_5021, al_5022, al_5023, al_5024, al_5025, al_5026, al_9000, al_101, al_102, al_104, al_105, al_107, al_108, al_110, al_111, vcs_e, lg_c0, lg_cs, lg_nil, set_c0, set_cs, okst_0, okst_s, acok_n, acok_c, List.contains_nil, List.contains_cons, Bool.or_false, Bool.false_or, Bool.false_eq_true, if_false, if_true, ite_self, ne_eq, true_and, and_true, not_false_eq_true, not_true_eq_false, false_imp_iff, true_imp_iff, Nat.ble_eq, Bool.and_eq_true, reduceCtorEq, or_false, false_or, or_true, true_or, false_and, and_false, and_self, Int.reduceLE, Int.reduceAdd, Int.reduceSub, Int.reduceMul, Int.reduceNeg, Int.reduceLT, Int.reduceEq, Int.reduceNe, Nat.reduceBEq, Nat.reduceBNe, Nat.reduceEqDiff, amCmp_in, amCmp_lt, amCmp_le, amCmp_gt, amCmp_ge, amCmp_eq, amCmp_ne, Nat.reduceLeDiff, Nat.reduceSub, Bool.and_true, Bool.true_and, Bool.and_self, Bool.or_true, Bool.true_or, isRf_3, isRf_4, isRf_5, isRf_8, isRf_9, isRf_10, isRf_11, isRf_15, isRf_16, isRf_17, isRf_18, isRf_19, isRf_20, isRf_21, isRf_22, isRf_23, isRf_24, isRf_25, isRf_26, isRf_27, isRf_28, k_X12_fault_0, k_X12_fault_1, k_X12_fault_2, k_X12_fault_5, k_X12_fault_6, k_X12_fault_7, k_X12_fault_8, k_X12_fault_11, k_X12_fault_14, k_X12_fault_17, k_X12_fault_19, k_X12_fault_20, k_X12_fault_21, k_X12_fault_24, k_X12_fault_25, k_X12_fault_28, k_X12_fault_29, k_X12_fault_30, k_X12_fault_33, k_X12_fault_34, k_X12_fault_35, k_X12_fault_38, k_X12_fault_39, k_X12_fault_40, k_X12_fault_43, k_X12_fault_46, k_X12_fault_47, k_X12_fault_48, k_X12_fault_51, k_X12_fault_52, k_X12_fault_55, k_X12_fault_56, k_X12_fault_59, w_X12_goThrough_e, w_X12_isIn_e, w_X12_readHouse_e, w_X12_readSeason_e, up_s, up_nj, up_na, up_up, savR_o, cpy_o, fillm_o, setAud_o, setv_o, setv_s, Int.reduceNe, Int.reduceEq, Int.reduceLT, Int.reduceAdd, not_false_eq_true, ne_eq, or_true, true_or, if_pos d]
      repeat' (first | assumption | exact ht | exact hL | apply And.intro | intro _)
      all_goals first | omega | exact absurd trivial (by assumption) | exact q8 _ _ (by assumption) (by assumption) (by assumption) (by assumption) (by assumption) | exact q9 _ _ (by assumption) (by assumption) (by assumption)
    · have q8 : (sRd (th0 σ)).1 ≠ -1 → ∀ τ, SEF (th0 σ) τ → τ 5000 11 = (sRd (th0 σ)).1 → Q (0, τ 5000 11) τ := fun z τ a b => by rw [b]; exact h4 rfl τ a (fun y => absurd y z)
      have q9 : (sRd (th0 σ)).1 = -1 → ∀ τ, SEF (th0 σ) τ → τ 5000 11 = -1 → τ 5014 4 = (sRd (th0 σ)).2.1 → (∀ k, 0 ≤ k → k < (sRd (th0 σ)).2.1 * 3 → τ 5013 (192 + k) = (sRd (th0 σ)).2.2 k) → Q (0, τ 5000 11) τ := fun z τ a b c e => by
        rw [b, ← z]; exact h4 rfl τ a (fun _ => ⟨c, e⟩)
      refine am_m0 (own := RX12) (A := look a_X12_fault) (fun X e1 e2 hB => o_X12_fault e1 e2 hB) rfl (by decide +kernel) rfl rfl 190 (w := 2) ?_
      change vcs _ _ _ _ 190 0 [(28, 5000), (0, 2)] [] σ
      simp only [↓reduceIte, inR_0, inR_1, inR_m, vSw2_e, swP_n, swP_c, vI_e, vL_e, vNull_e, vIload_e, vLload_e, vAload_e, vIstore_e, vLstore_e, vAstore_e, vIinc_e, vIadd_e, vIsub_e, vImul_e, vIand_e, vIor_e, vIxor_e, vIshl_e, vIshr_e, vIushr_e, vIdiv_e, vIrem_e, vLadd_e, vLsub_e, vLmul_e, vLand_e, vLor_e, vLxor_e, vLdiv_e, vLrem_e, vLushr_e, vLshl_e, vLcmp_e, vIneg_e, vI2l_e, vL2i_e, vI2b_e, vI2c_e, vDup_e, vPop_e, vDup2_e, vGoto_e, vIcEq_e, vIfEq_e, vIcNe_e, vIfNe_e, vIcLt_e, vIfLt_e, vIcGe_e, vIfGe_e, vIcGt_e, vIfGt_e, vIcLe_e, vIfLe_e, vNonnull_e, vSw_e, vGetI_e, vGetL_e, vGetR_e, vPutI_e, vPutZ_e, vPutL_e, vPutR_e, vIald_e, vIald_s, vLald_e, vBald_e, vBald_s, vAald_e, vIast_e, vLast_e, vBast_e, vAast_e, vAlen_e8, vAlen_e9, vAlen_e10, vAlen_e11, vAlen_e5, vAlen_e3, vGets_e, vCompact_e, vLdcS_e, vIret_e, vZret_e, vCret_e, vBret_e, vLret_e, vVret_e, vAret_e, vCallM_e0, vCallMV_e0, vCallS_e0, vCallSV_e0, vCallM_e1, vCallMV_e1, vCallS_e1, vCallSV_e1, vCallM_e2, vCallMV_e2, vCallS_e2, vCallSV_e2, vCallM_e3, vCallMV_e3, vCallS_e3, vCallSV_e3, vCallM_e4, vCallMV_e4, vCallS_e4, vCallSV_e4, vCallM_e5, vCallMV_e5, vCallS_e5, vCallSV_e5, vCallM_e6, vCallMV_e6, vCallS_e6, vCallSV_e6, vCallM_e7, vCallMV_e7, vCallS_e7, vCallSV_e7, vBad_e, vStrVal_e, vStrCod_e, vForm_e, vCallT_e0, vCallT_e1, vCallT_e2, vCopy_e, rf_0_0, rf_0_1, rf_0_2, rf_0_3, rf_0_4, rf_0_7, rf_0_10, rf_0_11, rf_0_12, rf_0_13, rf_0_14, rf_0_15, rf_0_16, rf_1_0, rf_3_0, rf_3_1, rf_6_0, rf_6_1, rf_9_0, rf_9_1, rf_9_3, rf_13_0, rf_13_1, rf_13_2, rf_16_0, rf_16_1, rf_16_2, rf_16_3, rf_21_0, rf_21_1, rf_21_2, rf_21_3, rf_26_0, rf_26_1, rf_26_2, rf_26_3, rf_26_4, rf_26_5, rf_26_6, rf_31_0, rf_31_2, rf_31_5, rf_31_6, rf_36_0, rf_36_1, rf_36_2, rf_36_3, rf_39_0, rf_39_1, rf_39_2, rf_41_0, rf_41_1, rf_41_2, rf_41_3, rf_5000_1, rf_5000_2, rf_5000_3, rf_5000_4, rf_5000_5, rf_5000_15, rf_5000_16, rf_5000_18, rf_5000_19, rf_5000_20, rf_5000_21, rf_5000_22, rf_5000_23, rf_5000_24, rf_5000_25, rf_5000_26, rf_5000_27, rf_5000_36, rf_5000_37, rf_5000_40, rf_5000_41, rf_5000_42, rf_5000_43, rf_5000_44, rf_5000_45, rf_5000_47, rf_5000_52, rf_5000_54, rf_5000_55, rf_100_0, rf_100_1, rf_103_0, rf_103_1, rf_106_0, rf_106_1, rf_109_0, rf_109_1, al_2, al_4, al_5, al_7, al_8, al_10, al_11, al_12, al_14, al_15, al_17, al_18, al_19, al_20, al_22, al_23, al_24, al_25, al_27, al_28, al_29, al_30, al_32, al_33, al_34, al_35, al_37, al_38, al_40, al_42, al_5001, al_5002, al_5003, al_5004, al_5005, al_5006, al_5007, al_5008, al_5009, al_5010, al_5011, al_5012, al_5013, al_5014, al_5015, al_5016, al_5017, al_5018, al_5019, al_5020, al_5021, al_5022, al_5023, al_5024, al_5025, al_5026, al_9000, al_101, al_102, al_104, al_105, al_107, al_108, al_110, al_111, vcs_e, lg_c0, lg_cs, lg_nil, set_c0, set_cs, okst_0, okst_s, acok_n, acok_c, List.contains_nil, List.contains_cons, Bool.or_false, Bool.false_or, Bool.false_eq_true, if_false, if_true, ite_self, ne_eq, true_and, and_true, not_false_eq_true, not_true_eq_false, false_imp_iff, true_imp_iff, Nat.ble_eq, Bool.and_eq_true, reduceCtorEq, or_false, false_or, or_true, true_or, false_and, and_false, and_self, Int.reduceLE, Int.reduceAdd, Int.reduceSub, Int.reduceMul, Int.reduceNeg, Int.reduceLT, Int.reduceEq, Int.reduceNe, Nat.reduceBEq, Nat.reduceBNe, Nat.reduceEqDiff, amCmp_in, amCmp_lt, amCmp_le, amCmp_gt, amCmp_ge, amCmp_eq, amCmp_ne, Nat.reduceLeDiff, Nat.reduceSub, Bool.and_true, Bool.true_and, Bool.and_self, Bool.or_true, Bool.true_or, isRf_3, isRf_4, isRf_5, isRf_8, isRf_9, isRf_10, isRf_11, isRf_15, isRf_16, isRf_17, isRf_18, isRf_19, isRf_20, isRf_21, isRf_22, isRf_23, isRf_24, isRf_25, isRf_26, isRf_27, isRf_28, k_X12_fault_0, k_X12_fault_1, k_X12_fault_2, k_X12_fault_5, k_X12_fault_6, k_X12_fault_7, k_X12_fault_8, k_X12_fault_11, k_X12_fault_14, k_X12_fault_17, k_X12_fault_19, k_X12_fault_20, k_X12_fault_21, k_X12_fault_24, k_X12_fault_25, k_X12_fault_28, k_X12_fault_29, k_X12_fault_30, k_X12_fault_33, k_X12_fault_34, k_X12_fault_35, k_X12_fault_38, k_X12_fault_39, k_X12_fault_40, k_X12_fault_43, k_X12_fault_46, k_X12_fault_47, k_X12_fault_48, k_X12_fault_51, k_X12_fault_52, k_X12_fault_55, k_X12_fault_56, k_X12_fault_59, w_X12_goThrough_e, w_X12_isIn_e, w_X12_readHouse_e, w_X12_readSeason_e, up_s, up_nj, up_na, up_up, savR_o, cpy_o, fillm_o, setAud_o, setv_o, setv_s, Int.reduceNe, Int.reduceEq, Int.reduceLT, Int.reduceAdd, not_false_eq_true, ne_eq, or_true, true_or, if_pos d]
      repeat' (first | assumption | exact ht | apply And.intro | intro _)
      all_goals first | omega | exact absurd trivial (by assumption) | exact q8 (by assumption) _ (by assumption) (by assumption) | exact q9 (by assumption) _ (by assumption) (by assumption) (by assumption) (by assumption)
  · have q8 := h1 d
    refine am_m0 (own := RX12) (A := look a_X12_fault) (fun X e1 e2 hB => o_X12_fault e1 e2 hB) rfl (by decide +kernel) rfl rfl 190 (w := 2) ?_
    change vcs _ _ _ _ 190 0 [(28, 5000), (0, s)] [] σ
    simp only [↓reduceIte, inR_0, inR_1, inR_m, vSw2_e, swP_n, swP_c, vI_e, vL_e, vNull_e, vIload_e, vLload_e, vAload_e, vIstore_e, vLstore_e, vAstore_e, vIinc_e, vIadd_e, vIsub_e, vImul_e, vIand_e, vIor_e, vIxor_e, vIshl_e, vIshr_e, vIushr_e, vIdiv_e, vIrem_e, vLadd_e, vLsub_e, vLmul_e, vLand_e, vLor_e, vLxor_e, vLdiv_e, vLrem_e, vLushr_e, vLshl_e, vLcmp_e, vIneg_e, vI2l_e, vL2i_e, vI2b_e, vI2c_e, vDup_e, vPop_e, vDup2_e, vGoto_e, vIcEq_e, vIfEq_e, vIcNe_e, vIfNe_e, vIcLt_e, vIfLt_e, vIcGe_e, vIfGe_e, vIcGt_e, vIfGt_e, vIcLe_e, vIfLe_e, vNonnull_e, vSw_e, vGetI_e, vGetL_e, vGetR_e, vPutI_e, vPutZ_e, vPutL_e, vPutR_e, vIald_e, vIald_s, vLald_e, vBald_e, vBald_s, vAald_e, vIast_e, vLast_e, vBast_e, vAast_e, vAlen_e8, vAlen_e9, vAlen_e10, vAlen_e11, vAlen_e5, vAlen_e3, vGets_e, vCompact_e, vLdcS_e, vIret_e, vZret_e, vCret_e, vBret_e, vLret_e, vVret_e, vAret_e, vCallM_e0, vCallMV_e0, vCallS_e0, vCallSV_e0, vCallM_e1, vCallMV_e1, vCallS_e1, vCallSV_e1, vCallM_e2, vCallMV_e2, vCallS_e2, vCallSV_e2, vCallM_e3, vCallMV_e3, vCallS_e3, vCallSV_e3, vCallM_e4, vCallMV_e4, vCallS_e4, vCallSV_e4, vCallM_e5, vCallMV_e5, vCallS_e5, vCallSV_e5, vCallM_e6, vCallMV_e6, vCallS_e6, vCallSV_e6, vCallM_e7, vCallMV_e7, vCallS_e7, vCallSV_e7, vBad_e, vStrVal_e, vStrCod_e, vForm_e, vCallT_e0, vCallT_e1, vCallT_e2, vCopy_e, rf_0_0, rf_0_1, rf_0_2, rf_0_3, rf_0_4, rf_0_7, rf_0_10, rf_0_11, rf_0_12, rf_0_13, rf_0_14, rf_0_15, rf_0_16, rf_1_0, rf_3_0, rf_3_1, rf_6_0, rf_6_1, rf_9_0, rf_9_1, rf_9_3, rf_13_0, rf_13_1, rf_13_2, rf_16_0, rf_16_1, rf_16_2, rf_16_3, rf_21_0, rf_21_1, rf_21_2, rf_21_3, rf_26_0, rf_26_1, rf_26_2, rf_26_3, rf_26_4, rf_26_5, rf_26_6, rf_31_0, rf_31_2, rf_31_5, rf_31_6, rf_36_0, rf_36_1, rf_36_2, rf_36_3, rf_39_0, rf_39_1, rf_39_2, rf_41_0, rf_41_1, rf_41_2, rf_41_3, rf_5000_1, rf_5000_2, rf_5000_3, rf_5000_4, rf_5000_5, rf_5000_15, rf_5000_16, rf_5000_18, rf_5000_19, rf_5000_20, rf_5000_21, rf_5000_22, rf_5000_23, rf_5000_24, rf_5000_25, rf_5000_26, rf_5000_27, rf_5000_36, rf_5000_37, rf_5000_40, rf_5000_41, rf_5000_42, rf_5000_43, rf_5000_44, rf_5000_45, rf_5000_47, rf_5000_52, rf_5000_54, rf_5000_55, rf_100_0, rf_100_1, rf_103_0, rf_103_1, rf_106_0, rf_106_1, rf_109_0, rf_109_1, al_2, al_4, al_5, al_7, al_8, al_10, al_11, al_12, al_14, al_15, al_17, al_18, al_19, al_20, al_22, al_23, al_24, al_25, al_27, al_28, al_29, al_30, al_32, al_33, al_34, al_35, al_37, al_38, al_40, al_42, al_5001, al_5002, al_5003, al_5004, al_5005, al_5006, al_5007, al_5008, al_5009, al_5010, al_5011, al_5012, al_5013, al_5014, al_5015, al_5016, al_5017, al_5018, al_5019, al_5020, al_5021, al_5022, al_5023, al_5024, al_5025, al_5026, al_9000, al_101, al_102, al_104, al_105, al_107, al_108, al_110, al_111, vcs_e, lg_c0, lg_cs, lg_nil, set_c0, set_cs, okst_0, okst_s, acok_n, acok_c, List.contains_nil, List.contains_cons, Bool.or_false, Bool.false_or, Bool.false_eq_true, if_false, if_true, ite_self, ne_eq, true_and, and_true, not_false_eq_true, not_true_eq_false, false_imp_iff, true_imp_iff, Nat.ble_eq, Bool.and_eq_true, reduceCtorEq, or_false, false_or, or_true, true_or, false_and, and_false, and_self, Int.reduceLE, Int.reduceAdd, Int.reduceSub, Int.reduceMul, Int.reduceNeg, Int.reduceLT, Int.reduceEq, Int.reduceNe, Nat.reduceBEq, Nat.reduceBNe, Nat.reduceEqDiff, amCmp_in, amCmp_lt, amCmp_le, amCmp_gt, amCmp_ge, amCmp_eq, amCmp_ne, Nat.reduceLeDiff, Nat.reduceSub, Bool.and_true, Bool.true_and, Bool.and_self, Bool.or_true, Bool.true_or, isRf_3, isRf_4, isRf_5, isRf_8, isRf_9, isRf_10, isRf_11, isRf_15, isRf_16, isRf_17, isRf_18, isRf_19, isRf_20, isRf_21, isRf_22, isRf_23, isRf_24, isRf_25, isRf_26, isRf_27, isRf_28, k_X12_fault_0, k_X12_fault_1, k_X12_fault_2, k_X12_fault_5, k_X12_fault_6, k_X12_fault_7, k_X12_fault_8, k_X12_fault_11, k_X12_fault_14, k_X12_fault_17, k_X12_fault_19, k_X12_fault_20, k_X12_fault_21, k_X12_fault_24, k_X12_fault_25, k_X12_fault_28, k_X12_fault_29, k_X12_fault_30, k_X12_fault_33, k_X12_fault_34, k_X12_fault_35, k_X12_fault_38, k_X12_fault_39, k_X12_fault_40, k_X12_fault_43, k_X12_fault_46, k_X12_fault_47, k_X12_fault_48, k_X12_fault_51, k_X12_fault_52, k_X12_fault_55, k_X12_fault_56, k_X12_fault_59, w_X12_goThrough_e, w_X12_isIn_e, w_X12_readHouse_e, w_X12_readSeason_e, up_s, up_nj, up_na, up_up, savR_o, cpy_o, fillm_o, setAud_o, setv_o, setv_s, Int.reduceNe, Int.reduceEq, Int.reduceLT, Int.reduceAdd, not_false_eq_true, ne_eq, or_true, true_or, if_neg d]
    repeat' (first | apply And.intro | intro _)
    all_goals first | omega | exact absurd trivial (by assumption) | exact q8
/-! the reference: TEXT -/
theorem i2b_id {z : Int} (h0 : -128 ≤ z) (h1 : z ≤ 127) : amI2b z = z := by
  rw [i2b_m ⟨by omega, by omega⟩]; unfold sby; split <;> omega
def txL (τ : Mem) : Mem := up (up (cpy (up τ 5000 6 0) 5001 0 5002 (240 * τ 5000 7) (τ 5000 6)) 5003 (τ 5000 7) (τ 5000 6)) 5000 7 (τ 5000 7 + 1)
def txS (τ : Mem) : Mem := up (up (cpy (up τ 5000 6 0) 5013 192 5013 (48 * τ 5000 34) 48) 5014 (τ 5000 34) (τ 5014 4)) 5000 34 (τ 5000 34 + 1)
def tx1 (τ : Mem) : Mem := up (up (up (up τ 5000 6 0) 5000 28 (τ 5000 31)) 5000 29 (τ 5000 32)) 5000 30 (τ 5000 33)
def tx2 (τ : Mem) : Mem := cpy (tx1 τ) 5006 0 5005 0 2
def tx3 (τ : Mem) : Mem := cpy (tx2 τ) 5008 0 5007 0 16
def tx4 (τ : Mem) : Mem := cpy (tx3 τ) 5010 0 5009 0 18
def tx5 (τ : Mem) : Mem := cpy (tx4 τ) 5012 0 5011 0 6
def tx6 (τ : Mem) : Mem := fillm (tx5 τ) 5015 208 0
/-- the row now, as far as place x told by the CHAIRS -/
def chN (m : Mem) (x : Int) : Mem := fun b j => if b = 5015 ∧ 0 ≤ j ∧ j < x ∧ j % 4 ≠ 3 then m 5009 (3 * (j / 4) + j % 4) else m b j
def txH (τ : Mem) : Mem := up (up (up (up (chN (tx6 τ) (4 * τ 5000 32)) 5015 25 (τ 5006 1)) 5000 53 0) 5000 48 0) 5000 56 0
theorem chN_0 (m : Mem) : chN m 0 = m := by funext b j; unfold chN; rw [if_neg (by omega)]
theorem chN_o (m : Mem) (x : Int) {b : Int} (h : b ≠ 5015) : chN m x b = m b := by funext j; unfold chN; rw [if_neg (fun q => h q.1)]
theorem chN_3 (m : Mem) (c : Int) : chN m (4 * c + 3) = chN m (4 * (c + 1)) := by
  funext b j
  unfold chN
  by_cases q : b = 5015 ∧ 0 ≤ j ∧ j < 4 * c + 3 ∧ j % 4 ≠ 3
  · rw [if_pos q, if_pos ⟨q.1, q.2.1, by omega, q.2.2.2⟩]
  · rw [if_neg q, if_neg (fun z => q ⟨z.1, z.2.1, by omega, z.2.2.2⟩)]
theorem chN_s (m : Mem) {c k : Int} (c0 : 0 ≤ c) (k0 : 0 ≤ k) (k3 : k < 3) : up (chN m (4 * c + k)) 5015 (4 * c + k) (m 5009 (3 * c + k)) = chN m (4 * c + (k + 1)) := by
  funext b j
  unfold up chN
  by_cases q : b = 5015 ∧ j = 4 * c + k
  · rw [if_pos q, if_pos ⟨q.1, by omega, by omega, by omega⟩]
    congr 1
    omega
  · rw [if_neg q]
    by_cases q2 : b = 5015 ∧ 0 ≤ j ∧ j < 4 * c + k ∧ j % 4 ≠ 3
    · rw [if_pos q2, if_pos ⟨q2.1, q2.2.1, by omega, q2.2.2.2⟩]
    · rw [if_neg q2, if_neg (fun z => q2 ⟨z.1, z.2.1, by
        have : j ≠ 4 * c + k := fun e => q ⟨z.1, e⟩
        omega, z.2.2.2⟩)]
theorem tx6_o (τ : Mem) {b : Int} (h1 : b < 5005 ∨ 5015 < b ∨ b = 5006 ∨ b = 5008 ∨ b = 5010 ∨ b = 5012 ∨ b = 5013 ∨ b = 5014) : tx6 τ b = tx1 τ b := by
  unfold tx6 tx5 tx4 tx3 tx2
  rw [fillm_o _ (by omega), cpy_oo _ _ _ _ _ _ (by omega), cpy_oo _ _ _ _ _ _ (by omega), cpy_oo _ _ _ _ _ _ (by omega), cpy_oo _ _ _ _ _ _ (by omega)]
theorem tx1_o (τ : Mem) {b : Int} (h : b ≠ 5000) : tx1 τ b = τ b := by unfold tx1; rw [up_na _ h, up_na _ h, up_na _ h, up_na _ h]
theorem tx1_29 (τ : Mem) : tx1 τ 5000 29 = τ 5000 32 := by unfold tx1; rw [up_nj _ (by decide), up_s]
theorem tx6_51 (τ : Mem) : tx6 τ 5005 1 = τ 5006 1 := by
  unfold tx6 tx5 tx4 tx3 tx2
  rw [fillm_o _ (by decide), cpy_oo _ _ _ _ _ _ (by decide), cpy_oo _ _ _ _ _ _ (by decide), cpy_oo _ _ _ _ _ _ (by decide), cpy_in _ _ _ _ _ _ ⟨by decide, by decide⟩, tx1_o τ (by decide)]
  rfl
abbrev txI (m : Mem) (l a b d n : Int) (k0 : Nat) (L : Int → List AV) (n' : Nat) (ls : List AV) (σ' : Mem) : Prop := ∃ k : Nat, ls = L k ∧ (k : Int) ≤ n ∧ (n' : Int) = k0 + n - k ∧ σ' = cpy m l a b d k

theorem wd_1641 : Cond.methodLink RX12 312 yX12_fault ∈ TBL := tb_tab (List.mem_of_getElem? (i := 1641) (by decide +kernel)) rfl
theorem wd_1499 : Cond.code yX12_fault cX12_fault 2 (some .int) ∈ TBL := tb_tab (List.mem_of_getElem? (i := 1499) (by decide +kernel)) rfl
theorem lk_X12_312 : amLk RX12 312 yX12_fault cX12_fault 2 (some .int) 1 := ⟨wd_1641, wd_12, wd_1499, by decide +kernel, by decide +kernel, by decide⟩
theorem wd_1497 : Cond.instanceMethod yX12_fault ∈ TBL := tb_tab (List.mem_of_getElem? (i := 1497) (by decide +kernel)) rfl
theorem wd_1498 : Cond.selects RX12 yX12_fault yX12_fault ∈ TBL := tb_tab (List.mem_of_getElem? (i := 1498) (by decide +kernel)) rfl
theorem fp_X12_306 : amFp RX12 12 7 306 RX12 TX12 57 tyX12 .int := ⟨fl_X12_306, tyX12_ok, nmX12, by decide +kernel⟩
theorem fp_X12_309 : amFp RX12 12 34 309 RX12 TX12 57 tyX12 .int := ⟨fl_X12_309, tyX12_ok, nmX12, by decide +kernel⟩
theorem fp_X12_314 : amFp RX12 12 28 314 RX12 TX12 57 tyX12 .int := ⟨fl_X12_314, tyX12_ok, nmX12, by decide +kernel⟩
theorem fp_X12_317 : amFp RX12 12 29 317 RX12 TX12 57 tyX12 .int := ⟨fl_X12_317, tyX12_ok, nmX12, by decide +kernel⟩
theorem fp_X12_320 : amFp RX12 12 30 320 RX12 TX12 57 tyX12 .int := ⟨fl_X12_320, tyX12_ok, nmX12, by decide +kernel⟩
theorem wd_1327 : Cond.fieldLink RX12 49 "ArmchairHouseModel" "chair" "[I" ∈ TBL := tb_tab (List.mem_of_getElem? (i := 1327) (by decide +kernel)) rfl
theorem fl_X12_49 : amFl RX12 12 22 49 RX12 TX12 57 := ⟨rfl, inT_12, by decide, wd_1327⟩
def a_X12_text : AC := [(0, vAload 0 1), (1, vI 0 2), (2, vPutI 28 0 5), (5, vIload 1 6), (6, vI2l 7), (7, vL 0 8), (8, vL 2 11), (11, vCallS w_X12_isIn 3 14), (14, vIfEq 52 17), (17, vIload 1 18), (18, vI 1 19), (19, vIcNe 30 22), (22, vAload 0 23), (23, vGetI 28 7 26), (26, vI 4 27), (27, vIcEq 52 30), (30, vIload 1 31), (31, vI 2 32), (32, vIcNe 43 35), (35, vAload 0 36), (36, vGetI 28 34 39), (39, vI 4 40), (40, vIcEq 52 43), (43, vAload 0 44), (44, vIload 1 45), (45, vCallM w_X12_fault 28 1 48), (48, vI (-1) 49), (49, vIcEq 54 52), (52, vI (-1) 53), (53, vIret), (54, vAload 0 55), (55, vGetI 28 6 58), (58, vIstore 2 59), (59, vAload 0 60), (60, vI 0 61), (61, vPutI 28 6 64), (64, vIload 1 65), (65, vI 1 66), (66, vIcNe 130 69), (69, vI 0 70), (70, vIstore 3 71), (71, vIload 3 72), (72, vIload 2 73), (73, vIcGe 103 76), (76, vAload 0 77), (77, vGetR TT 28 2 10 80), (80, vI 240 83), (83, vAload 0 84), (84, vGetI 28 7 87), (87, vImul 88), (88, vIload 3 89), (89, vIadd 90), (90, vAload 0 91), (91, vGetR TT 28 1 10 94), (94, vIload 3 95), (95, vBald TT 96), (96, vBast TT 97), (97, vIinc 3 1 100), (100, vGoto 71), (103, vAload 0 104), (104, vGetR TT 28 3 8 107), (107, vAload 0 108), (108, vGetI 28 7 111), (111, vIload 2 112), (112, vIast TT 113), (113, vAload 0 114), (114, vDup 115), (115, vGetI 28 7 118), (118, vI 1 119), (119, vIadd 120), (120, vPutI 28 7 123), (123, vAload 0 124), (124, vGetI 28 7 127), (127, vI 1 128), (128, vIsub 129), (129, vIret), (130, vIload 1 131), (131, vI 2 132), (132, vIcNe 205 135), (135, vI 0 136), (136, vIstore 3 137), (137, vIload 3 138), (138, vI 48 140), (140, vIcGe 173 143), (143, vAload 0 144), (144, vGetR TT 28 26 8 147), (147, vI 48 149), (149, vAload 0 150), (150, vGetI 28 34 153), (153, vImul 154), (154, vIload 3 155), (155, vIadd 156), (156, vAload 0 157), (157, vGetR TT 28 26 8 160), (160, vI 192 163), (163, vIload 3 164), (164, vIadd 165), (165, vIald TT 166), (166, vIast TT 167), (167, vIinc 3 1 170), (170, vGoto 137), (173, vAload 0 174), (174, vGetR TT 28 27 8 177), (177, vAload 0 178), (178, vGetI 28 34 181), (181, vAload 0 182), (182, vGetR TT 28 27 8 185), (185, vI 4 186), (186, vIald TT 187), (187, vIast TT 188), (188, vAload 0 189), (189, vDup 190), (190, vGetI 28 34 193), (193, vI 1 194), (194, vIadd 195), (195, vPutI 28 34 198), (198, vAload 0 199), (199, vGetI 28 34 202), (202, vI 1 203), (203, vIsub 204), (204, vIret), (205, vAload 0 206), (206, vAload 0 207), (207, vGetI 28 31 210), (210, vPutI 28 28 213), (213, vAload 0 214), (214, vAload 0 215), (215, vGetI 28 32 218), (218, vPutI 28 29 221), (221, vAload 0 222), (222, vAload 0 223), (223, vGetI 28 33 226), (226, vPutI 28 30 229), (229, vI 0 230), (230, vIstore 3 231), (231, vIload 3 232), (232, vI 2 233), (233, vIcGe 254 236), (236, vAload 0 237), (237, vGetR TT 28 18 8 240), (240, vIload 3 241), (241, vAload 0 242), (242, vGetR TT 28 19 8 245), (245, vIload 3 246), (246, vIald TT 247), (247, vIast TT 248), (248, vIinc 3 1 251), (251, vGoto 231), (254, vI 0 255), (255, vIstore 3 256), (256, vIload 3 257), (257, vI 16 259), (259, vIcGe 280 262), (262, vAload 0 263), (263, vGetR TT 28 20 8 266), (266, vIload 3 267), (267, vAload 0 268), (268, vGetR TT 28 21 8 271), (271, vIload 3 272), (272, vIald TT 273), (273, vIast TT 274), (274, vIinc 3 1 277), (277, vGoto 256), (280, vI 0 281), (281, vIstore 3 282), (282, vIload 3 283), (283, vI 18 285), (285, vIcGe 306 288), (288, vAload 0 289), (289, vGetR TT 28 22 8 292), (292, vIload 3 293), (293, vAload 0 294), (294, vGetR TT 28 23 8 297), (297, vIload 3 298), (298, vIald TT 299), (299, vIast TT 300), (300, vIinc 3 1 303), (303, vGoto 282), (306, vI 0 307), (307, vIstore 3 308), (308, vIload 3 309), (309, vI 6 311), (311, vIcGe 332 314), (314, vAload 0 315), (315, vGetR TT 28 24 8 318), (318, vIload 3 319), (319, vAload 0 320), (320, vGetR TT 28 25 8 323), (323, vIload 3 324), (324, vIald TT 325), (325, vIast TT 326), (326, vIinc 3 1 329), (329, vGoto 308), (332, vI 0 333), (333, vIstore 3 334), (334, vIload 3 335), (335, vI 208 338), (338, vIcGe 354 341), (341, vAload 0 342), (342, vGetR TT 28 36 8 345), (345, vIload 3 346), (346, vI 0 347), (347, vIast TT 348), (348, vIinc 3 1 351), (351, vGoto 334), (354, vI 0 355), (355, vIstore 3 356), (356, vIload 3 357), (357, vAload 0 358), (358, vGetI 28 29 361), (361, vIcGe 407 364), (364, vI 0 365), (365, vIstore 4 367), (367, vIload 4 369), (369, vI 3 370), (370, vIcGe 401 373), (373, vAload 0 374), (374, vGetR TT 28 36 8 377), (377, vI 4 378), (378, vIload 3 379), (379, vImul 380), (380, vIload 4 382), (382, vIadd 383), (383, vAload 0 384), (384, vGetR TT 28 22 8 387), (387, vI 3 388), (388, vIload 3 389), (389, vImul 390), (390, vIload 4 392), (392, vIadd 393), (393, vIald TT 394), (394, vIast TT 395), (395, vIinc 4 1 398), (398, vGoto 367), (401, vIinc 3 1 404), (404, vGoto 356), (407, vAload 0 408), (408, vGetR TT 28 36 8 411), (411, vI 25 413), (413, vAload 0 414), (414, vGetR TT 28 18 8 417), (417, vI 1 418), (418, vIald TT 419), (419, vIast TT 420), (420, vAload 0 421), (421, vI 0 422), (422, vPutI 28 53 425), (425, vAload 0 426), (426, vI 0 427), (427, vPutI 28 48 430), (430, vAload 0 431), (431, vI 0 432), (432, vPutZ 28 56 435), (435, vAload 0 436), (436, vGetI 28 29 439), (439, vIret)]
theorem k_X12_text_0 : look a_X12_text 0 = vAload 0 1 := rfl
theorem k_X12_text_1 : look a_X12_text 1 = vI 0 2 := rfl
theorem k_X12_text_2 : look a_X12_text 2 = vPutI 28 0 5 := rfl
theorem k_X12_text_5 : look a_X12_text 5 = vIload 1 6 := rfl
theorem k_X12_text_6 : look a_X12_text 6 = vI2l 7 := rfl
theorem k_X12_text_7 : look a_X12_text 7 = vL 0 8 := rfl
theorem k_X12_text_8 : look a_X12_text 8 = vL 2 11 := rfl
theorem k_X12_text_11 : look a_X12_text 11 = vCallS w_X12_isIn 3 14 := rfl
theorem k_X12_text_14 : look a_X12_text 14 = vIfEq 52 17 := rfl
theorem k_X12_text_17 : look a_X12_text 17 = vIload 1 18 := rfl
theorem k_X12_text_18 : look a_X12_text 18 = vI 1 19 := rfl
theorem k_X12_text_19 : look a_X12_text 19 = vIcNe 30 22 := rfl
theorem k_X12_text_22 : look a_X12_text 22 = vAload 0 23 := rfl
theorem k_X12_text_23 : look a_X12_text 23 = vGetI 28 7 26 := rfl
theorem k_X12_text_26 : look a_X12_text 26 = vI 4 27 := rfl
theorem k_X12_text_27 : look a_X12_text 27 = vIcEq 52 30 := rfl
theorem k_X12_text_30 : look a_X12_text 30 = vIload 1 31 := rfl
theorem k_X12_text_31 : look a_X12_text 31 = vI 2 32 := rfl
theorem k_X12_text_32 : look a_X12_text 32 = vIcNe 43 35 := rfl
theorem k_X12_text_35 : look a_X12_text 35 = vAload 0 36 := rfl
theorem k_X12_text_36 : look a_X12_text 36 = vGetI 28 34 39 := rfl
theorem k_X12_text_39 : look a_X12_text 39 = vI 4 40 := rfl
theorem k_X12_text_40 : look a_X12_text 40 = vIcEq 52 43 := rfl
theorem k_X12_text_43 : look a_X12_text 43 = vAload 0 44 := rfl
theorem k_X12_text_44 : look a_X12_text 44 = vIload 1 45 := rfl
theorem k_X12_text_45 : look a_X12_text 45 = vCallM w_X12_fault 28 1 48 := rfl
theorem k_X12_text_48 : look a_X12_text 48 = vI (-1) 49 := rfl
theorem k_X12_text_49 : look a_X12_text 49 = vIcEq 54 52 := rfl
theorem k_X12_text_52 : look a_X12_text 52 = vI (-1) 53 := rfl
theorem k_X12_text_53 : look a_X12_text 53 = vIret := rfl
theorem k_X12_text_54 : look a_X12_text 54 = vAload 0 55 := rfl
theorem k_X12_text_55 : look a_X12_text 55 = vGetI 28 6 58 := rfl
theorem k_X12_text_58 : look a_X12_text 58 = vIstore 2 59 := rfl
theorem k_X12_text_59 : look a_X12_text 59 = vAload 0 60 := rfl
theorem k_X12_text_60 : look a_X12_text 60 = vI 0 61 := rfl
theorem k_X12_text_61 : look a_X12_text 61 = vPutI 28 6 64 := rfl
theorem k_X12_text_64 : look a_X12_text 64 = vIload 1 65 := rfl
theorem k_X12_text_65 : look a_X12_text 65 = vI 1 66 := rfl
theorem k_X12_text_66 : look a_X12_text 66 = vIcNe 130 69 := rfl
theorem k_X12_text_69 : look a_X12_text 69 = vI 0 70 := rfl
theorem k_X12_text_70 : look a_X12_text 70 = vIstore 3 71 := rfl
theorem k_X12_text_71 : look a_X12_text 71 = vIload 3 72 := rfl
theorem k_X12_text_72 : look a_X12_text 72 = vIload 2 73 := rfl
theorem k_X12_text_73 : look a_X12_text 73 = vIcGe 103 76 := rfl
theorem k_X12_text_76 : look a_X12_text 76 = vAload 0 77 := rfl
theorem k_X12_text_77 : look a_X12_text 77 = vGetR TT 28 2 10 80 := rfl
theorem k_X12_text_80 : look a_X12_text 80 = vI 240 83 := rfl
theorem k_X12_text_83 : look a_X12_text 83 = vAload 0 84 := rfl
theorem k_X12_text_84 : look a_X12_text 84 = vGetI 28 7 87 := rfl
theorem k_X12_text_87 : look a_X12_text 87 = vImul 88 := rfl
theorem k_X12_text_88 : look a_X12_text 88 = vIload 3 89 := rfl
theorem k_X12_text_89 : look a_X12_text 89 = vIadd 90 := rfl
theorem k_X12_text_90 : look a_X12_text 90 = vAload 0 91 := rfl
theorem k_X12_text_91 : look a_X12_text 91 = vGetR TT 28 1 10 94 := rfl
theorem k_X12_text_94 : look a_X12_text 94 = vIload 3 95 := rfl
theorem k_X12_text_95 : look a_X12_text 95 = vBald TT 96 := rfl
theorem k_X12_text_96 : look a_X12_text 96 = vBast TT 97 := rfl
theorem k_X12_text_97 : look a_X12_text 97 = vIinc 3 1 100 := rfl
theorem k_X12_text_100 : look a_X12_text 100 = vGoto 71 := rfl
theorem k_X12_text_103 : look a_X12_text 103 = vAload 0 104 := rfl
theorem k_X12_text_104 : look a_X12_text 104 = vGetR TT 28 3 8 107 := rfl
theorem k_X12_text_107 : look a_X12_text 107 = vAload 0 108 := rfl
theorem k_X12_text_108 : look a_X12_text 108 = vGetI 28 7 111 := rfl
theorem k_X12_text_111 : look a_X12_text 111 = vIload 2 112 := rfl
theorem k_X12_text_112 : look a_X12_text 112 = vIast TT 113 := rfl
theorem k_X12_text_113 : look a_X12_text 113 = vAload 0 114 := rfl
theorem k_X12_text_114 : look a_X12_text 114 = vDup 115 := rfl
theorem k_X12_text_115 : look a_X12_text 115 = vGetI 28 7 118 := rfl
theorem k_X12_text_118 : look a_X12_text 118 = vI 1 119 := rfl
theorem k_X12_text_119 : look a_X12_text 119 = vIadd 120 := rfl
theorem k_X12_text_120 : look a_X12_text 120 = vPutI 28 7 123 := rfl
theorem k_X12_text_123 : look a_X12_text 123 = vAload 0 124 := rfl
theorem k_X12_text_124 : look a_X12_text 124 = vGetI 28 7 127 := rfl
theorem k_X12_text_127 : look a_X12_text 127 = vI 1 128 := rfl
theorem k_X12_text_128 : look a_X12_text 128 = vIsub 129 := rfl
theorem k_X12_text_129 : look a_X12_text 129 = vIret := rfl
theorem k_X12_text_130 : look a_X12_text 130 = vIload 1 131 := rfl
theorem k_X12_text_131 : look a_X12_text 131 = vI 2 132 := rfl
theorem k_X12_text_132 : look a_X12_text 132 = vIcNe 205 135 := rfl
theorem k_X12_text_135 : look a_X12_text 135 = vI 0 136 := rfl
theorem k_X12_text_136 : look a_X12_text 136 = vIstore 3 137 := rfl
theorem k_X12_text_137 : look a_X12_text 137 = vIload 3 138 := rfl
theorem k_X12_text_138 : look a_X12_text 138 = vI 48 140 := rfl
theorem k_X12_text_140 : look a_X12_text 140 = vIcGe 173 143 := rfl
theorem k_X12_text_143 : look a_X12_text 143 = vAload 0 144 := rfl
theorem k_X12_text_144 : look a_X12_text 144 = vGetR TT 28 26 8 147 := rfl
theorem k_X12_text_147 : look a_X12_text 147 = vI 48 149 := rfl
theorem k_X12_text_149 : look a_X12_text 149 = vAload 0 150 := rfl
theorem k_X12_text_150 : look a_X12_text 150 = vGetI 28 34 153 := rfl
theorem k_X12_text_153 : look a_X12_text 153 = vImul 154 := rfl
theorem k_X12_text_154 : look a_X12_text 154 = vIload 3 155 := rfl
theorem k_X12_text_155 : look a_X12_text 155 = vIadd 156 := rfl
theorem k_X12_text_156 : look a_X12_text 156 = vAload 0 157 := rfl
theorem k_X12_text_157 : look a_X12_text 157 = vGetR TT 28 26 8 160 := rfl
theorem k_X12_text_160 : look a_X12_text 160 = vI 192 163 := rfl
theorem k_X12_text_163 : look a_X12_text 163 = vIload 3 164 := rfl
theorem k_X12_text_164 : look a_X12_text 164 = vIadd 165 := rfl
theorem k_X12_text_165 : look a_X12_text 165 = vIald TT 166 := rfl
theorem k_X12_text_166 : look a_X12_text 166 = vIast TT 167 := rfl
theorem k_X12_text_167 : look a_X12_text 167 = vIinc 3 1 170 := rfl
theorem k_X12_text_170 : look a_X12_text 170 = vGoto 137 := rfl
theorem k_X12_text_173 : look a_X12_text 173 = vAload 0 174 := rfl
theorem k_X12_text_174 : look a_X12_text 174 = vGetR TT 28 27 8 177 := rfl
theorem k_X12_text_177 : look a_X12_text 177 = vAload 0 178 := rfl
theorem k_X12_text_178 : look a_X12_text 178 = vGetI 28 34 181 := rfl
theorem k_X12_text_181 : look a_X12_text 181 = vAload 0 182 := rfl
theorem k_X12_text_182 : look a_X12_text 182 = vGetR TT 28 27 8 185 := rfl
theorem k_X12_text_185 : look a_X12_text 185 = vI 4 186 := rfl
theorem k_X12_text_186 : look a_X12_text 186 = vIald TT 187 := rfl
theorem k_X12_text_187 : look a_X12_text 187 = vIast TT 188 := rfl
theorem k_X12_text_188 : look a_X12_text 188 = vAload 0 189 := rfl
theorem k_X12_text_189 : look a_X12_text 189 = vDup 190 := rfl
theorem k_X12_text_190 : look a_X12_text 190 = vGetI 28 34 193 := rfl
theorem k_X12_text_193 : look a_X12_text 193 = vI 1 194 := rfl
theorem k_X12_text_194 : look a_X12_text 194 = vIadd 195 := rfl
theorem k_X12_text_195 : look a_X12_text 195 = vPutI 28 34 198 := rfl
theorem k_X12_text_198 : look a_X12_text 198 = vAload 0 199 := rfl
theorem k_X12_text_199 : look a_X12_text 199 = vGetI 28 34 202 := rfl
theorem k_X12_text_202 : look a_X12_text 202 = vI 1 203 := rfl
theorem k_X12_text_203 : look a_X12_text 203 = vIsub 204 := rfl
theorem k_X12_text_204 : look a_X12_text 204 = vIret := rfl
theorem k_X12_text_205 : look a_X12_text 205 = vAload 0 206 := rfl
theorem k_X12_text_206 : look a_X12_text 206 = vAload 0 207 := rfl
theorem k_X12_text_207 : look a_X12_text 207 = vGetI 28 31 210 := rfl
theorem k_X12_text_210 : look a_X12_text 210 = vPutI 28 28 213 := rfl
theorem k_X12_text_213 : look a_X12_text 213 = vAload 0 214 := rfl
theorem k_X12_text_214 : look a_X12_text 214 = vAload 0 215 := rfl
theorem k_X12_text_215 : look a_X12_text 215 = vGetI 28 32 218 := rfl
theorem k_X12_text_218 : look a_X12_text 218 = vPutI 28 29 221 := rfl
theorem k_X12_text_221 : look a_X12_text 221 = vAload 0 222 := rfl
theorem k_X12_text_222 : look a_X12_text 222 = vAload 0 223 := rfl
theorem k_X12_text_223 : look a_X12_text 223 = vGetI 28 33 226 := rfl
theorem k_X12_text_226 : look a_X12_text 226 = vPutI 28 30 229 := rfl
theorem k_X12_text_229 : look a_X12_text 229 = vI 0 230 := rfl
theorem k_X12_text_230 : look a_X12_text 230 = vIstore 3 231 := rfl
theorem k_X12_text_231 : look a_X12_text 231 = vIload 3 232 := rfl
theorem k_X12_text_232 : look a_X12_text 232 = vI 2 233 := rfl
theorem k_X12_text_233 : look a_X12_text 233 = vIcGe 254 236 := rfl
theorem k_X12_text_236 : look a_X12_text 236 = vAload 0 237 := rfl
theorem k_X12_text_237 : look a_X12_text 237 = vGetR TT 28 18 8 240 := rfl
theorem k_X12_text_240 : look a_X12_text 240 = vIload 3 241 := rfl
theorem k_X12_text_241 : look a_X12_text 241 = vAload 0 242 := rfl
theorem k_X12_text_242 : look a_X12_text 242 = vGetR TT 28 19 8 245 := rfl
theorem k_X12_text_245 : look a_X12_text 245 = vIload 3 246 := rfl
theorem k_X12_text_246 : look a_X12_text 246 = vIald TT 247 := rfl
theorem k_X12_text_247 : look a_X12_text 247 = vIast TT 248 := rfl
theorem k_X12_text_248 : look a_X12_text 248 = vIinc 3 1 251 := rfl
theorem k_X12_text_251 : look a_X12_text 251 = vGoto 231 := rfl
theorem k_X12_text_254 : look a_X12_text 254 = vI 0 255 := rfl
theorem k_X12_text_255 : look a_X12_text 255 = vIstore 3 256 := rfl
theorem k_X12_text_256 : look a_X12_text 256 = vIload 3 257 := rfl
theorem k_X12_text_257 : look a_X12_text 257 = vI 16 259 := rfl
theorem k_X12_text_259 : look a_X12_text 259 = vIcGe 280 262 := rfl
theorem k_X12_text_262 : look a_X12_text 262 = vAload 0 263 := rfl
theorem k_X12_text_263 : look a_X12_text 263 = vGetR TT 28 20 8 266 := rfl
theorem k_X12_text_266 : look a_X12_text 266 = vIload 3 267 := rfl
theorem k_X12_text_267 : look a_X12_text 267 = vAload 0 268 := rfl
theorem k_X12_text_268 : look a_X12_text 268 = vGetR TT 28 21 8 271 := rfl
theorem k_X12_text_271 : look a_X12_text 271 = vIload 3 272 := rfl
theorem k_X12_text_272 : look a_X12_text 272 = vIald TT 273 := rfl
theorem k_X12_text_273 : look a_X12_text 273 = vIast TT 274 := rfl
theorem k_X12_text_274 : look a_X12_text 274 = vIinc 3 1 277 := rfl
theorem k_X12_text_277 : look a_X12_text 277 = vGoto 256 := rfl
theorem k_X12_text_280 : look a_X12_text 280 = vI 0 281 := rfl
theorem k_X12_text_281 : look a_X12_text 281 = vIstore 3 282 := rfl
theorem k_X12_text_282 : look a_X12_text 282 = vIload 3 283 := rfl
theorem k_X12_text_283 : look a_X12_text 283 = vI 18 285 := rfl
theorem k_X12_text_285 : look a_X12_text 285 = vIcGe 306 288 := rfl
theorem k_X12_text_288 : look a_X12_text 288 = vAload 0 289 := rfl
theorem k_X12_text_289 : look a_X12_text 289 = vGetR TT 28 22 8 292 := rfl
theorem k_X12_text_292 : look a_X12_text 292 = vIload 3 293 := rfl
theorem k_X12_text_293 : look a_X12_text 293 = vAload 0 294 := rfl
theorem k_X12_text_294 : look a_X12_text 294 = vGetR TT 28 23 8 297 := rfl
theorem k_X12_text_297 : look a_X12_text 297 = vIload 3 298 := rfl
theorem k_X12_text_298 : look a_X12_text 298 = vIald TT 299 := rfl
theorem k_X12_text_299 : look a_X12_text 299 = vIast TT 300 := rfl
theorem k_X12_text_300 : look a_X12_text 300 = vIinc 3 1 303 := rfl
theorem k_X12_text_303 : look a_X12_text 303 = vGoto 282 := rfl
theorem k_X12_text_306 : look a_X12_text 306 = vI 0 307 := rfl
theorem k_X12_text_307 : look a_X12_text 307 = vIstore 3 308 := rfl
theorem k_X12_text_308 : look a_X12_text 308 = vIload 3 309 := rfl
theorem k_X12_text_309 : look a_X12_text 309 = vI 6 311 := rfl
theorem k_X12_text_311 : look a_X12_text 311 = vIcGe 332 314 := rfl
theorem k_X12_text_314 : look a_X12_text 314 = vAload 0 315 := rfl
theorem k_X12_text_315 : look a_X12_text 315 = vGetR TT 28 24 8 318 := rfl
theorem k_X12_text_318 : look a_X12_text 318 = vIload 3 319 := rfl
theorem k_X12_text_319 : look a_X12_text 319 = vAload 0 320 := rfl
theorem k_X12_text_320 : look a_X12_text 320 = vGetR TT 28 25 8 323 := rfl
theorem k_X12_text_323 : look a_X12_text 323 = vIload 3 324 := rfl
theorem k_X12_text_324 : look a_X12_text 324 = vIald TT 325 := rfl
theorem k_X12_text_325 : look a_X12_text 325 = vIast TT 326 := rfl
theorem k_X12_text_326 : look a_X12_text 326 = vIinc 3 1 329 := rfl
theorem k_X12_text_329 : look a_X12_text 329 = vGoto 308 := rfl
theorem k_X12_text_332 : look a_X12_text 332 = vI 0 333 := rfl
theorem k_X12_text_333 : look a_X12_text 333 = vIstore 3 334 := rfl
theorem k_X12_text_334 : look a_X12_text 334 = vIload 3 335 := rfl
theorem k_X12_text_335 : look a_X12_text 335 = vI 208 338 := rfl
theorem k_X12_text_338 : look a_X12_text 338 = vIcGe 354 341 := rfl
theorem k_X12_text_341 : look a_X12_text 341 = vAload 0 342 := rfl
theorem k_X12_text_342 : look a_X12_text 342 = vGetR TT 28 36 8 345 := rfl
theorem k_X12_text_345 : look a_X12_text 345 = vIload 3 346 := rfl
theorem k_X12_text_346 : look a_X12_text 346 = vI 0 347 := rfl
theorem k_X12_text_347 : look a_X12_text 347 = vIast TT 348 := rfl
theorem k_X12_text_348 : look a_X12_text 348 = vIinc 3 1 351 := rfl
theorem k_X12_text_351 : look a_X12_text 351 = vGoto 334 := rfl
theorem k_X12_text_354 : look a_X12_text 354 = vI 0 355 := rfl
theorem k_X12_text_355 : look a_X12_text 355 = vIstore 3 356 := rfl
theorem k_X12_text_356 : look a_X12_text 356 = vIload 3 357 := rfl
theorem k_X12_text_357 : look a_X12_text 357 = vAload 0 358 := rfl
theorem k_X12_text_358 : look a_X12_text 358 = vGetI 28 29 361 := rfl
theorem k_X12_text_361 : look a_X12_text 361 = vIcGe 407 364 := rfl
theorem k_X12_text_364 : look a_X12_text 364 = vI 0 365 := rfl
theorem k_X12_text_365 : look a_X12_text 365 = vIstore 4 367 := rfl
theorem k_X12_text_367 : look a_X12_text 367 = vIload 4 369 := rfl
theorem k_X12_text_369 : look a_X12_text 369 = vI 3 370 := rfl
theorem k_X12_text_370 : look a_X12_text 370 = vIcGe 401 373 := rfl
theorem k_X12_text_373 : look a_X12_text 373 = vAload 0 374 := rfl
theorem k_X12_text_374 : look a_X12_text 374 = vGetR TT 28 36 8 377 := rfl
theorem k_X12_text_377 : look a_X12_text 377 = vI 4 378 := rfl
theorem k_X12_text_378 : look a_X12_text 378 = vIload 3 379 := rfl
theorem k_X12_text_379 : look a_X12_text 379 = vImul 380 := rfl
theorem k_X12_text_380 : look a_X12_text 380 = vIload 4 382 := rfl
theorem k_X12_text_382 : look a_X12_text 382 = vIadd 383 := rfl
theorem k_X12_text_383 : look a_X12_text 383 = vAload 0 384 := rfl
theorem k_X12_text_384 : look a_X12_text 384 = vGetR TT 28 22 8 387 := rfl
theorem k_X12_text_387 : look a_X12_text 387 = vI 3 388 := rfl
theorem k_X12_text_388 : look a_X12_text 388 = vIload 3 389 := rfl
theorem k_X12_text_389 : look a_X12_text 389 = vImul 390 := rfl
theorem k_X12_text_390 : look a_X12_text 390 = vIload 4 392 := rfl
theorem k_X12_text_392 : look a_X12_text 392 = vIadd 393 := rfl
theorem k_X12_text_393 : look a_X12_text 393 = vIald TT 394 := rfl
theorem k_X12_text_394 : look a_X12_text 394 = vIast TT 395 := rfl
theorem k_X12_text_395 : look a_X12_text 395 = vIinc 4 1 398 := rfl
theorem k_X12_text_398 : look a_X12_text 398 = vGoto 367 := rfl
theorem k_X12_text_401 : look a_X12_text 401 = vIinc 3 1 404 := rfl
theorem k_X12_text_404 : look a_X12_text 404 = vGoto 356 := rfl
theorem k_X12_text_407 : look a_X12_text 407 = vAload 0 408 := rfl
theorem k_X12_text_408 : look a_X12_text 408 = vGetR TT 28 36 8 411 := rfl
theorem k_X12_text_411 : look a_X12_text 411 = vI 25 413 := rfl
theorem k_X12_text_413 : look a_X12_text 413 = vAload 0 414 := rfl
theorem k_X12_text_414 : look a_X12_text 414 = vGetR TT 28 18 8 417 := rfl
theorem k_X12_text_417 : look a_X12_text 417 = vI 1 418 := rfl
theorem k_X12_text_418 : look a_X12_text 418 = vIald TT 419 := rfl
theorem k_X12_text_419 : look a_X12_text 419 = vIast TT 420 := rfl
theorem k_X12_text_420 : look a_X12_text 420 = vAload 0 421 := rfl
theorem k_X12_text_421 : look a_X12_text 421 = vI 0 422 := rfl
theorem k_X12_text_422 : look a_X12_text 422 = vPutI 28 53 425 := rfl
theorem k_X12_text_425 : look a_X12_text 425 = vAload 0 426 := rfl
theorem k_X12_text_426 : look a_X12_text 426 = vI 0 427 := rfl
theorem k_X12_text_427 : look a_X12_text 427 = vPutI 28 48 430 := rfl
theorem k_X12_text_430 : look a_X12_text 430 = vAload 0 431 := rfl
theorem k_X12_text_431 : look a_X12_text 431 = vI 0 432 := rfl
theorem k_X12_text_432 : look a_X12_text 432 = vPutZ 28 56 435 := rfl
theorem k_X12_text_435 : look a_X12_text 435 = vAload 0 436 := rfl
theorem k_X12_text_436 : look a_X12_text 436 = vGetI 28 29 439 := rfl
theorem k_X12_text_439 : look a_X12_text 439 = vIret := rfl
theorem o_X12_text {X : amX} (e1 : XT X = TT) (e2 : XD X = 57) (hB : amB X RX12 cX12_text (some .int) 5) : ∀ pc, amOK X pc (look a_X12_text pc) := by
  have hT : amTok (XT X) := e1 ▸ TT_ok
  refine look_ok ?_
  unfold a_X12_text
  refine fc (ok_aload_n hB dX12_text_0) ?_
  refine fc (ok_iconst hB dX12_text_1) ?_
  refine fc (ok_putI hB hT fp_X12_111 rfl rfl rfl af_12_0 dX12_text_2) ?_
  refine fc (ok_iload_n hB dX12_text_5) ?_
  refine fc (ok_i2l hB dX12_text_6) ?_
  refine fc (ok_lconst hB (z := 0) (by decide) dX12_text_7) ?_
  refine fc (ok_ldc2 hB wd_1500 rfl dX12_text_8) ?_
  refine fc (ok_callS hB (e1 ▸ s_X12_isIn) lk_X12_232 (by rw [e2]; decide) wd_1502 dX12_text_11) ?_
  refine fc (ok_if_eq hB (t := 52) (by decide) dX12_text_14) ?_
  refine fc (ok_iload_n hB dX12_text_17) ?_
  refine fc (ok_iconst hB dX12_text_18) ?_
  refine fc (ok_icmp_ne hB (t := 30) (by decide) dX12_text_19) ?_
  refine fc (ok_aload_n hB dX12_text_22) ?_
  refine fc (ok_getI hB hT fl_X12_306 rfl rfl (Or.inl af_12_7) dX12_text_23) ?_
  refine fc (ok_iconst hB dX12_text_26) ?_
  refine fc (ok_icmp_eq hB (t := 52) (by decide) dX12_text_27) ?_
  refine fc (ok_iload_n hB dX12_text_30) ?_
  refine fc (ok_iconst hB dX12_text_31) ?_
  refine fc (ok_icmp_ne hB (t := 43) (by decide) dX12_text_32) ?_
  refine fc (ok_aload_n hB dX12_text_35) ?_
  refine fc (ok_getI hB hT fl_X12_309 rfl rfl (Or.inl af_12_34) dX12_text_36) ?_
  refine fc (ok_iconst hB dX12_text_39) ?_
  refine fc (ok_icmp_eq hB (t := 52) (by decide) dX12_text_40) ?_
  refine fc (ok_aload_n hB dX12_text_43) ?_
  refine fc (ok_iload_n hB dX12_text_44) ?_
  refine fc (ok_callM hB hT (e1 ▸ s_X12_fault) lk_X12_312 (by rw [e2]; decide) (c := 12) rfl rfl rfl wd_1497 wd_1498 dX12_text_45) ?_
  refine fc (ok_iconst hB dX12_text_48) ?_
  refine fc (ok_icmp_eq hB (t := 54) (by decide) dX12_text_49) ?_
  refine fc (ok_iconst hB dX12_text_52) ?_
  refine fc (ok_iret hB dX12_text_53) ?_
  refine fc (ok_aload_n hB dX12_text_54) ?_
  refine fc (ok_getI hB hT fl_X12_124 rfl rfl (Or.inl af_12_6) dX12_text_55) ?_
  refine fc (ok_istore_n hB (by decide) dX12_text_58) ?_
  refine fc (ok_aload_n hB dX12_text_59) ?_
  refine fc (ok_iconst hB dX12_text_60) ?_
  refine fc (ok_putI hB hT fp_X12_124 rfl rfl rfl af_12_6 dX12_text_61) ?_
  refine fc (ok_iload_n hB dX12_text_64) ?_
  refine fc (ok_iconst hB dX12_text_65) ?_
  refine fc (ok_icmp_ne hB (t := 130) (by decide) dX12_text_66) ?_
  refine fc (ok_iconst hB dX12_text_69) ?_
  refine fc (ok_istore_n hB (by decide) dX12_text_70) ?_
  refine fc (ok_iload_n hB dX12_text_71) ?_
  refine fc (ok_iload_n hB dX12_text_72) ?_
  refine fc (ok_icmp_ge hB (t := 103) (by decide) dX12_text_73) ?_
  refine fc (ok_aload_n hB dX12_text_76) ?_
  refine fc (okt_getR e1 hB hT fl_X12_13 rfl af_12_2 at_12_2 (by decide) dX12_text_77) ?_
  refine fc (ok_sipush hB dX12_text_80 (by decide)) ?_
  refine fc (ok_aload_n hB dX12_text_83) ?_
  refine fc (ok_getI hB hT fl_X12_306 rfl rfl (Or.inl af_12_7) dX12_text_84) ?_
  refine fc (ok_imul hB dX12_text_87) ?_
  refine fc (ok_iload_n hB dX12_text_88) ?_
  refine fc (ok_iadd hB dX12_text_89) ?_
  refine fc (ok_aload_n hB dX12_text_90) ?_
  refine fc (okt_getR e1 hB hT fl_X12_9 rfl af_12_1 at_12_1 (by decide) dX12_text_91) ?_
  refine fc (ok_iload_n hB dX12_text_94) ?_
  refine fc (okt_baload e1 hB dX12_text_95) ?_
  refine fc (okt_bastore e1 hB dX12_text_96) ?_
  refine fc (ok_iinc hB (by decide) dX12_text_97) ?_
  refine fc (ok_goto hB (t := 71) (by decide) dX12_text_100) ?_
  refine fc (ok_aload_n hB dX12_text_103) ?_
  refine fc (okt_getR e1 hB hT fl_X12_16 rfl af_12_3 at_12_3 (by decide) dX12_text_104) ?_
  refine fc (ok_aload_n hB dX12_text_107) ?_
  refine fc (ok_getI hB hT fl_X12_306 rfl rfl (Or.inl af_12_7) dX12_text_108) ?_
  refine fc (ok_iload_n hB dX12_text_111) ?_
  refine fc (okt_iastore e1 hB dX12_text_112) ?_
  refine fc (ok_aload_n hB dX12_text_113) ?_
  refine fc (ok_dup hB dX12_text_114) ?_
  refine fc (ok_getI hB hT fl_X12_306 rfl rfl (Or.inl af_12_7) dX12_text_115) ?_
  refine fc (ok_iconst hB dX12_text_118) ?_
  refine fc (ok_iadd hB dX12_text_119) ?_
  refine fc (ok_putI hB hT fp_X12_306 rfl rfl rfl af_12_7 dX12_text_120) ?_
  refine fc (ok_aload_n hB dX12_text_123) ?_
  refine fc (ok_getI hB hT fl_X12_306 rfl rfl (Or.inl af_12_7) dX12_text_124) ?_
  refine fc (ok_iconst hB dX12_text_127) ?_
  refine fc (ok_isub hB dX12_text_128) ?_
  refine fc (ok_iret hB dX12_text_129) ?_
  refine fc (ok_iload_n hB dX12_text_130) ?_
  refine fc (ok_iconst hB dX12_text_131) ?_
  refine fc (ok_icmp_ne hB (t := 205) (by decide) dX12_text_132) ?_
  refine fc (ok_iconst hB dX12_text_135) ?_
  refine fc (ok_istore_n hB (by decide) dX12_text_136) ?_
  refine fc (ok_iload_n hB dX12_text_137) ?_
  refine fc (ok_bipush hB dX12_text_138 (by decide)) ?_
  refine fc (ok_icmp_ge hB (t := 173) (by decide) dX12_text_140) ?_
  refine fc (ok_aload_n hB dX12_text_143) ?_
  refine fc (okt_getR e1 hB hT fl_X12_61 rfl af_12_26 at_12_26 (by decide) dX12_text_144) ?_
  refine fc (ok_bipush hB dX12_text_147 (by decide)) ?_
  refine fc (ok_aload_n hB dX12_text_149) ?_
  refine fc (ok_getI hB hT fl_X12_309 rfl rfl (Or.inl af_12_34) dX12_text_150) ?_
  refine fc (ok_imul hB dX12_text_153) ?_
  refine fc (ok_iload_n hB dX12_text_154) ?_
  refine fc (ok_iadd hB dX12_text_155) ?_
  refine fc (ok_aload_n hB dX12_text_156) ?_
  refine fc (okt_getR e1 hB hT fl_X12_61 rfl af_12_26 at_12_26 (by decide) dX12_text_157) ?_
  refine fc (ok_sipush hB dX12_text_160 (by decide)) ?_
  refine fc (ok_iload_n hB dX12_text_163) ?_
  refine fc (ok_iadd hB dX12_text_164) ?_
  refine fc (okt_iaload e1 hB dX12_text_165) ?_
  refine fc (okt_iastore e1 hB dX12_text_166) ?_
  refine fc (ok_iinc hB (by decide) dX12_text_167) ?_
  refine fc (ok_goto hB (t := 137) (by decide) dX12_text_170) ?_
  refine fc (ok_aload_n hB dX12_text_173) ?_
  refine fc (okt_getR e1 hB hT fl_X12_64 rfl af_12_27 at_12_27 (by decide) dX12_text_174) ?_
  refine fc (ok_aload_n hB dX12_text_177) ?_
  refine fc (ok_getI hB hT fl_X12_309 rfl rfl (Or.inl af_12_34) dX12_text_178) ?_
  refine fc (ok_aload_n hB dX12_text_181) ?_
  refine fc (okt_getR e1 hB hT fl_X12_64 rfl af_12_27 at_12_27 (by decide) dX12_text_182) ?_
  refine fc (ok_iconst hB dX12_text_185) ?_
  refine fc (okt_iaload e1 hB dX12_text_186) ?_
  refine fc (okt_iastore e1 hB dX12_text_187) ?_
  refine fc (ok_aload_n hB dX12_text_188) ?_
  refine fc (ok_dup hB dX12_text_189) ?_
  refine fc (ok_getI hB hT fl_X12_309 rfl rfl (Or.inl af_12_34) dX12_text_190) ?_
  refine fc (ok_iconst hB dX12_text_193) ?_
  refine fc (ok_iadd hB dX12_text_194) ?_
  refine fc (ok_putI hB hT fp_X12_309 rfl rfl rfl af_12_34 dX12_text_195) ?_
  refine fc (ok_aload_n hB dX12_text_198) ?_
  refine fc (ok_getI hB hT fl_X12_309 rfl rfl (Or.inl af_12_34) dX12_text_199) ?_
  refine fc (ok_iconst hB dX12_text_202) ?_
  refine fc (ok_isub hB dX12_text_203) ?_
  refine fc (ok_iret hB dX12_text_204) ?_
  refine fc (ok_aload_n hB dX12_text_205) ?_
  refine fc (ok_aload_n hB dX12_text_206) ?_
  refine fc (ok_getI hB hT fl_X12_260 rfl rfl (Or.inl af_12_31) dX12_text_207) ?_
  refine fc (ok_putI hB hT fp_X12_314 rfl rfl rfl af_12_28 dX12_text_210) ?_
  refine fc (ok_aload_n hB dX12_text_213) ?_
  refine fc (ok_aload_n hB dX12_text_214) ?_
  refine fc (ok_getI hB hT fl_X12_263 rfl rfl (Or.inl af_12_32) dX12_text_215) ?_
  refine fc (ok_putI hB hT fp_X12_317 rfl rfl rfl af_12_29 dX12_text_218) ?_
  refine fc (ok_aload_n hB dX12_text_221) ?_
  refine fc (ok_aload_n hB dX12_text_222) ?_
  refine fc (ok_getI hB hT fl_X12_266 rfl rfl (Or.inl af_12_33) dX12_text_223) ?_
  refine fc (ok_putI hB hT fp_X12_320 rfl rfl rfl af_12_30 dX12_text_226) ?_
  refine fc (ok_iconst hB dX12_text_229) ?_
  refine fc (ok_istore_n hB (by decide) dX12_text_230) ?_
  refine fc (ok_iload_n hB dX12_text_231) ?_
  refine fc (ok_iconst hB dX12_text_232) ?_
  refine fc (ok_icmp_ge hB (t := 254) (by decide) dX12_text_233) ?_
  refine fc (ok_aload_n hB dX12_text_236) ?_
  refine fc (okt_getR e1 hB hT fl_X12_37 rfl af_12_18 at_12_18 (by decide) dX12_text_237) ?_
  refine fc (ok_iload_n hB dX12_text_240) ?_
  refine fc (ok_aload_n hB dX12_text_241) ?_
  refine fc (okt_getR e1 hB hT fl_X12_40 rfl af_12_19 at_12_19 (by decide) dX12_text_242) ?_
  refine fc (ok_iload_n hB dX12_text_245) ?_
  refine fc (okt_iaload e1 hB dX12_text_246) ?_
  refine fc (okt_iastore e1 hB dX12_text_247) ?_
  refine fc (ok_iinc hB (by decide) dX12_text_248) ?_
  refine fc (ok_goto hB (t := 231) (by decide) dX12_text_251) ?_
  refine fc (ok_iconst hB dX12_text_254) ?_
  refine fc (ok_istore_n hB (by decide) dX12_text_255) ?_
  refine fc (ok_iload_n hB dX12_text_256) ?_
  refine fc (ok_bipush hB dX12_text_257 (by decide)) ?_
  refine fc (ok_icmp_ge hB (t := 280) (by decide) dX12_text_259) ?_
  refine fc (ok_aload_n hB dX12_text_262) ?_
  refine fc (okt_getR e1 hB hT fl_X12_43 rfl af_12_20 at_12_20 (by decide) dX12_text_263) ?_
  refine fc (ok_iload_n hB dX12_text_266) ?_
  refine fc (ok_aload_n hB dX12_text_267) ?_
  refine fc (okt_getR e1 hB hT fl_X12_46 rfl af_12_21 at_12_21 (by decide) dX12_text_268) ?_
  refine fc (ok_iload_n hB dX12_text_271) ?_
  refine fc (okt_iaload e1 hB dX12_text_272) ?_
  refine fc (okt_iastore e1 hB dX12_text_273) ?_
  refine fc (ok_iinc hB (by decide) dX12_text_274) ?_
  refine fc (ok_goto hB (t := 256) (by decide) dX12_text_277) ?_
  refine fc (ok_iconst hB dX12_text_280) ?_
  refine fc (ok_istore_n hB (by decide) dX12_text_281) ?_
  refine fc (ok_iload_n hB dX12_text_282) ?_
  refine fc (ok_bipush hB dX12_text_283 (by decide)) ?_
  refine fc (ok_icmp_ge hB (t := 306) (by decide) dX12_text_285) ?_
  refine fc (ok_aload_n hB dX12_text_288) ?_
  refine fc (okt_getR e1 hB hT fl_X12_49 rfl af_12_22 at_12_22 (by decide) dX12_text_289) ?_
  refine fc (ok_iload_n hB dX12_text_292) ?_
  refine fc (ok_aload_n hB dX12_text_293) ?_
  refine fc (okt_getR e1 hB hT fl_X12_52 rfl af_12_23 at_12_23 (by decide) dX12_text_294) ?_
  refine fc (ok_iload_n hB dX12_text_297) ?_
  refine fc (okt_iaload e1 hB dX12_text_298) ?_
  refine fc (okt_iastore e1 hB dX12_text_299) ?_
  refine fc (ok_iinc hB (by decide) dX12_text_300) ?_
  refine fc (ok_goto hB (t := 282) (by decide) dX12_text_303) ?_
  refine fc (ok_iconst hB dX12_text_306) ?_
  refine fc (ok_istore_n hB (by decide) dX12_text_307) ?_
  refine fc (ok_iload_n hB dX12_text_308) ?_
  refine fc (ok_bipush hB dX12_text_309 (by decide)) ?_
  refine fc (ok_icmp_ge hB (t := 332) (by decide) dX12_text_311) ?_
  refine fc (ok_aload_n hB dX12_text_314) ?_
  refine fc (okt_getR e1 hB hT fl_X12_55 rfl af_12_24 at_12_24 (by decide) dX12_text_315) ?_
  refine fc (ok_iload_n hB dX12_text_318) ?_
  refine fc (ok_aload_n hB dX12_text_319) ?_
  refine fc (okt_getR e1 hB hT fl_X12_58 rfl af_12_25 at_12_25 (by decide) dX12_text_320) ?_
  refine fc (ok_iload_n hB dX12_text_323) ?_
  refine fc (okt_iaload e1 hB dX12_text_324) ?_
  refine fc (okt_iastore e1 hB dX12_text_325) ?_
  refine fc (ok_iinc hB (by decide) dX12_text_326) ?_
  refine fc (ok_goto hB (t := 308) (by decide) dX12_text_329) ?_
  refine fc (ok_iconst hB dX12_text_332) ?_
  refine fc (ok_istore_n hB (by decide) dX12_text_333) ?_
  refine fc (ok_iload_n hB dX12_text_334) ?_
  refine fc (ok_sipush hB dX12_text_335 (by decide)) ?_
  refine fc (ok_icmp_ge hB (t := 354) (by decide) dX12_text_338) ?_
  refine fc (ok_aload_n hB dX12_text_341) ?_
  refine fc (okt_getR e1 hB hT fl_X12_67 rfl af_12_36 at_12_36 (by decide) dX12_text_342) ?_
  refine fc (ok_iload_n hB dX12_text_345) ?_
  refine fc (ok_iconst hB dX12_text_346) ?_
  refine fc (okt_iastore e1 hB dX12_text_347) ?_
  refine fc (ok_iinc hB (by decide) dX12_text_348) ?_
  refine fc (ok_goto hB (t := 334) (by decide) dX12_text_351) ?_
  refine fc (ok_iconst hB dX12_text_354) ?_
  refine fc (ok_istore_n hB (by decide) dX12_text_355) ?_
  refine fc (ok_iload_n hB dX12_text_356) ?_
  refine fc (ok_aload_n hB dX12_text_357) ?_
  refine fc (ok_getI hB hT fl_X12_317 rfl rfl (Or.inl af_12_29) dX12_text_358) ?_
  refine fc (ok_icmp_ge hB (t := 407) (by decide) dX12_text_361) ?_
  refine fc (ok_iconst hB dX12_text_364) ?_
  refine fc (ok_istore hB (by decide) dX12_text_365) ?_
  refine fc (ok_iload hB dX12_text_367) ?_
  refine fc (ok_iconst hB dX12_text_369) ?_
  refine fc (ok_icmp_ge hB (t := 401) (by decide) dX12_text_370) ?_
  refine fc (ok_aload_n hB dX12_text_373) ?_
  refine fc (okt_getR e1 hB hT fl_X12_67 rfl af_12_36 at_12_36 (by decide) dX12_text_374) ?_
  refine fc (ok_iconst hB dX12_text_377) ?_
  refine fc (ok_iload_n hB dX12_text_378) ?_
  refine fc (ok_imul hB dX12_text_379) ?_
  refine fc (ok_iload hB dX12_text_380) ?_
  refine fc (ok_iadd hB dX12_text_382) ?_
  refine fc (ok_aload_n hB dX12_text_383) ?_
  refine fc (okt_getR e1 hB hT fl_X12_49 rfl af_12_22 at_12_22 (by decide) dX12_text_384) ?_
  refine fc (ok_iconst hB dX12_text_387) ?_
  refine fc (ok_iload_n hB dX12_text_388) ?_
  refine fc (ok_imul hB dX12_text_389) ?_
  refine fc (ok_iload hB dX12_text_390) ?_
  refine fc (ok_iadd hB dX12_text_392) ?_
  refine fc (okt_iaload e1 hB dX12_text_393) ?_
  refine fc (okt_iastore e1 hB dX12_text_394) ?_
  refine fc (ok_iinc hB (by decide) dX12_text_395) ?_
  refine fc (ok_goto hB (t := 367) (by decide) dX12_text_398) ?_
  refine fc (ok_iinc hB (by decide) dX12_text_401) ?_
  refine fc (ok_goto hB (t := 356) (by decide) dX12_text_404) ?_
  refine fc (ok_aload_n hB dX12_text_407) ?_
  refine fc (okt_getR e1 hB hT fl_X12_67 rfl af_12_36 at_12_36 (by decide) dX12_text_408) ?_
  refine fc (ok_bipush hB dX12_text_411 (by decide)) ?_
  refine fc (ok_aload_n hB dX12_text_413) ?_
  refine fc (okt_getR e1 hB hT fl_X12_37 rfl af_12_18 at_12_18 (by decide) dX12_text_414) ?_
  refine fc (ok_iconst hB dX12_text_417) ?_
  refine fc (okt_iaload e1 hB dX12_text_418) ?_
  refine fc (okt_iastore e1 hB dX12_text_419) ?_
  refine fc (ok_aload_n hB dX12_text_420) ?_
  refine fc (ok_iconst hB dX12_text_421) ?_
  refine fc (ok_putI hB hT fp_X12_323 rfl rfl rfl af_12_53 dX12_text_422) ?_
  refine fc (ok_aload_n hB dX12_text_425) ?_
  refine fc (ok_iconst hB dX12_text_426) ?_
  refine fc (ok_putI hB hT fp_X12_326 rfl rfl rfl af_12_48 dX12_text_427) ?_
  refine fc (ok_aload_n hB dX12_text_430) ?_
  refine fc (ok_iconst hB dX12_text_431) ?_
  refine fc (ok_putZ hB hT fp_X12_329 rfl rfl rfl af_12_56 dX12_text_432) ?_
  refine fc (ok_aload_n hB dX12_text_435) ?_
  refine fc (ok_getI hB hT fl_X12_317 rfl rfl (Or.inl af_12_29) dX12_text_436) ?_
  refine fc (ok_iret hB dX12_text_439) ?_
  exact fn
def inv_txt (Q : AV → Mem → Prop) (s : Int) (n pc : Nat) (ls st : List AV) (σ' : Mem) : Prop := st = [] ∧ ∃ (τ : Mem) (v4 : AV),
  ((pc = 71 ∧ s = 1 ∧ (0 ≤ τ 5000 7 ∧ τ 5000 7 < 4) ∧ (0 ≤ τ 5000 6 ∧ τ 5000 6 ≤ 240) ∧ (∀ i, 0 ≤ i → i < τ 5000 6 → -128 ≤ τ 5001 i ∧ τ 5001 i ≤ 127) ∧ Q (0, τ 5000 7) (txL τ) ∧ txI (up τ 5000 6 0) 5001 0 5002 (240 * τ 5000 7) (τ 5000 6) 0 (fun k => [(28, 5000), (0, 1), (0, τ 5000 6), (0, k), v4]) n ls σ') ∨
   (pc = 137 ∧ s = 2 ∧ (0 ≤ τ 5000 34 ∧ τ 5000 34 < 4) ∧ Q (0, τ 5000 34) (txS τ) ∧ txI (up τ 5000 6 0) 5013 192 5013 (48 * τ 5000 34) 48 0 (fun k => [(28, 5000), (0, 2), (0, τ 5000 6), (0, k), v4]) n ls σ') ∨
   (s = 0 ∧ (0 ≤ τ 5000 32 ∧ τ 5000 32 ≤ 6) ∧ Q (0, τ 5000 32) (txH τ) ∧
     ((pc = 231 ∧ txI (tx1 τ) 5006 0 5005 0 2 2000 (fun k => [(28, 5000), (0, 0), (0, τ 5000 6), (0, k), v4]) n ls σ') ∨
      (pc = 256 ∧ txI (tx2 τ) 5008 0 5007 0 16 1900 (fun k => [(28, 5000), (0, 0), (0, τ 5000 6), (0, k), v4]) n ls σ') ∨
      (pc = 282 ∧ txI (tx3 τ) 5010 0 5009 0 18 1800 (fun k => [(28, 5000), (0, 0), (0, τ 5000 6), (0, k), v4]) n ls σ') ∨
      (pc = 308 ∧ txI (tx4 τ) 5012 0 5011 0 6 1700 (fun k => [(28, 5000), (0, 0), (0, τ 5000 6), (0, k), v4]) n ls σ') ∨
      (pc = 334 ∧ ∃ k : Nat, ls = [(28, 5000), (0, 0), (0, τ 5000 6), (0, (k : Int)), v4] ∧ (k : Int) ≤ 208 ∧ (n : Int) = 1400 + 208 - k ∧ σ' = fillm (tx5 τ) 5015 k 0) ∨
      (pc = 356 ∧ ∃ k : Nat, ls = [(28, 5000), (0, 0), (0, τ 5000 6), (0, (k : Int)), v4] ∧ (k : Int) ≤ τ 5000 32 ∧ (n : Int) = 1000 + 10 * (6 - k) ∧ σ' = chN (tx6 τ) (4 * k)) ∨
      (pc = 367 ∧ ∃ k i : Nat, ls = [(28, 5000), (0, 0), (0, τ 5000 6), (0, (k : Int)), (0, (i : Int))] ∧ (k : Int) < τ 5000 32 ∧ (i : Int) ≤ 3 ∧ (n : Int) = 1000 + 10 * (6 - k) - 1 - i ∧ σ' = chN (tx6 τ) (4 * k + i)))))
def w_X12_text : WP := fun av σ Q => ∃ (s : Int), av = [(28, 5000), (0, s)] ∧ (InR s ∧ txtOk (th0 σ) 5001 0 (th0 σ 5000 6) ∧ rowB (vof (th0 σ)) ∧ lbd (mL (th0 σ)) ∧ (0 ≤ σ 5000 7 ∧ σ 5000 7 ≤ 4) ∧ (0 ≤ σ 5000 34 ∧ σ 5000 34 ≤ 4) ∧ (0 ≤ (hRd (th0 σ)).2.2.1 2 ∧ (hRd (th0 σ)).2.2.1 2 ≤ 6) ∧ (¬ (0 ≤ s ∧ s ≤ 2) ∨ (s = 1 ∧ σ 5000 7 = 4) ∨ (s = 2 ∧ σ 5000 34 = 4) → Q (0, -1) (th0 σ)) ∧
(s = 0 → ((hRd (th0 σ)).1 ≠ -1 → ∀ τ, HRF (th0 σ) τ → rowB (vof τ) → Q (0, -1) τ) ∧ ((hRd (th0 σ)).1 = -1 → ∀ τ, HRF (th0 σ) τ → rowB (vof τ) → hRok (hRd (th0 σ)) τ → Q (0, τ 5000 32) (txH τ))) ∧
(s = 1 → σ 5000 7 < 4 → (∀ τ f, gLw (txt (th0 σ) 5001 0 (th0 σ 5000 6)) (th0 σ 5000 6) 241 0 = .inl f → GF (th0 σ) τ → Q (0, -1) τ) ∧ (∀ τ K, gLw (txt (th0 σ) 5001 0 (th0 σ 5000 6)) (th0 σ 5000 6) 241 0 = .inr K → GF (th0 σ) τ → Q (0, τ 5000 7) (txL τ))) ∧
(s = 2 → σ 5000 34 < 4 → ((sRd (th0 σ)).1 ≠ -1 → ∀ τ, SEF (th0 σ) τ → Q (0, -1) τ) ∧ ((sRd (th0 σ)).1 = -1 → ∀ τ, SEF (th0 σ) τ → sRok (sRd (th0 σ)) τ → Q (0, τ 5000 34) (txS τ))))
theorem w_X12_text_e (s : Int) (σ : Mem) (Q : AV → Mem → Prop) : w_X12_text [(28, 5000), (0, s)] σ Q = (InR s ∧ txtOk (th0 σ) 5001 0 (th0 σ 5000 6) ∧ rowB (vof (th0 σ)) ∧ lbd (mL (th0 σ)) ∧ (0 ≤ σ 5000 7 ∧ σ 5000 7 ≤ 4) ∧ (0 ≤ σ 5000 34 ∧ σ 5000 34 ≤ 4) ∧ (0 ≤ (hRd (th0 σ)).2.2.1 2 ∧ (hRd (th0 σ)).2.2.1 2 ≤ 6) ∧ (¬ (0 ≤ s ∧ s ≤ 2) ∨ (s = 1 ∧ σ 5000 7 = 4) ∨ (s = 2 ∧ σ 5000 34 = 4) → Q (0, -1) (th0 σ)) ∧
(s = 0 → ((hRd (th0 σ)).1 ≠ -1 → ∀ τ, HRF (th0 σ) τ → rowB (vof τ) → Q (0, -1) τ) ∧ ((hRd (th0 σ)).1 = -1 → ∀ τ, HRF (th0 σ) τ → rowB (vof τ) → hRok (hRd (th0 σ)) τ → Q (0, τ 5000 32) (txH τ))) ∧
(s = 1 → σ 5000 7 < 4 → (∀ τ f, gLw (txt (th0 σ) 5001 0 (th0 σ 5000 6)) (th0 σ 5000 6) 241 0 = .inl f → GF (th0 σ) τ → Q (0, -1) τ) ∧ (∀ τ K, gLw (txt (th0 σ) 5001 0 (th0 σ 5000 6)) (th0 σ 5000 6) 241 0 = .inr K → GF (th0 σ) τ → Q (0, τ 5000 7) (txL τ))) ∧
(s = 2 → σ 5000 34 < 4 → ((sRd (th0 σ)).1 ≠ -1 → ∀ τ, SEF (th0 σ) τ → Q (0, -1) τ) ∧ ((sRd (th0 σ)).1 = -1 → ∀ τ, SEF (th0 σ) τ → sRok (sRd (th0 σ)) τ → Q (0, τ 5000 34) (txS τ)))) := by
  apply propext; constructor
  · rintro ⟨s', h9, hb9⟩; cases h9; exact hb9
  · intro hb9; exact ⟨s, rfl, hb9⟩

set_option maxRecDepth 100000 in
set_option maxHeartbeats 4000000 in
theorem s_X12_text : ∀ av σ Q, w_X12_text av σ Q → amCall 57 0 0 TT yX12_text cX12_text 5 (some .int) av σ Q := by
  rintro av σ Q ⟨s, rfl, hs, ht, hv, hL, b7, b34, hc, h1, h2, h3, h4⟩
  have eth : th0 (th0 σ) = th0 σ := up_up σ 5000 0 0 0
  have e6 : th0 σ 5000 6 = σ 5000 6 := th_k σ (by decide)
  have e7 : th0 σ 5000 7 = σ 5000 7 := th_k σ (by decide)
  have e34 : th0 σ 5000 34 = σ 5000 34 := th_k σ (by decide)
  refine am_m [71, 137, 231, 256, 282, 308, 334, 356, 367] (inv_txt Q s) (own := RX12) (A := look a_X12_text) (fun X e1 e2 hB => o_X12_text e1 e2 hB) rfl (by decide +kernel) rfl rfl ?_ ⟨300, ?_⟩ (w := 5)
  · rintro n pc ls st σ' ⟨rfl, τ, v4, ⟨rfl, rfl, t7, t6, tb, hq, k, rfl, hk, hn, rfl⟩ | ⟨rfl, rfl, t34, hq, k, rfl, hk, hn, rfl⟩ | ⟨rfl, t32, hq, ⟨rfl, k, rfl, hk, hn, rfl⟩ | ⟨rfl, k, rfl, hk, hn, rfl⟩ | ⟨rfl, k, rfl, hk, hn, rfl⟩ | ⟨rfl, k, rfl, hk, hn, rfl⟩ | ⟨rfl, k, rfl, hk, hn, rfl⟩ | ⟨rfl, k, rfl, hk, hn, rfl⟩ | ⟨rfl, k, i, rfl, hk, hi, hn, rfl⟩⟩⟩
    · have c50 : cpy (up τ 5000 6 0) 5001 0 5002 (240 * τ 5000 7) k 5000 7 = τ 5000 7 := by rw [cpy_oo _ _ _ _ _ _ (by decide), up_nj _ (by decide)]
      have c01 : cpy (up τ 5000 6 0) 5001 0 5002 (240 * τ 5000 7) k 5001 = τ 5001 := by rw [cpy_oo _ _ _ _ _ _ (by decide), up_na _ (by decide)]
      refine ⟨60, ?_⟩
      by_cases cc : (k : Int) < τ 5000 6
      · have tk := tb k (by omega) cc
        have ib := i2b_id tk.1 tk.2
        have i9 : ∃ k', k' < n ∧ inv_txt Q 1 k' 71 [(28, 5000), (0, 1), (0, τ 5000 6), (0, (k : Int) + 1), v4] [] (up (cpy (up τ 5000 6 0) 5001 0 5002 (240 * τ 5000 7) k) 5002 (240 * τ 5000 7 + k) (τ 5001 k)) := by
          refine ⟨n - 1, by omega, rfl, τ, v4, Or.inl ⟨rfl, rfl, t7, t6, tb, hq, k + 1, rfl, by omega, by omega, ?_⟩⟩
          have := cpyS (up τ 5000 6 0) 5001 0 5002 (240 * τ 5000 7) (k := k) (by omega)
          rw [Int.zero_add, up_na τ (show (5001 : Int) ≠ 5000 by decide)] at this
          rw [this]; rfl
        simp only [↓reduceIte, inR_0, inR_1, inR_m, vSw2_e, swP_n, swP_c, vI_e, vL_e, vNull_e, vIload_e, vLload_e, vAload_e, vIstore_e, vLstore_e, vAstore_e, vIinc_e, vIadd_e, vIsub_e, vImul_e, vIand_e, vIor_e, vIxor_e, vIshl_e, vIshr_e, vIushr_e, vIdiv_e, vIrem_e, vLadd_e, vLsub_e, vLmul_e, vLand_e, vLor_e, vLxor_e, vLdiv_e, vLrem_e, vLushr_e, vLshl_e, vLcmp_e, vIneg_e, vI2l_e, vL2i_e, vI2b_e, vI2c_e, vDup_e, vPop_e, vDup2_e, vGoto_e, vIcEq_e, vIfEq_e, vIcNe_e, vIfNe_e, vIcLt_e, vIfLt_e, vIcGe_e, vIfGe_e, vIcGt_e, vIfGt_e, vIcLe_e, vIfLe_e, vNonnull_e, vSw_e, vGetI_e, vGetL_e, vGetR_e, vPutI_e, vPutZ_e, vPutL_e, vPutR_e, vIald_e, vIald_s, vLald_e, vBald_e, vBald_s, vAald_e, vIast_e, vLast_e, vBast_e, vAast_e, vAlen_e8, vAlen_e9, vAlen_e10, vAlen_e11, vAlen_e5, vAlen_e3, vGets_e, vCompact_e, vLdcS_e, vIret_e, vZret_e, vCret_e, vBret_e, vLret_e, vVret_e, vAret_e, vCallM_e0, vCallMV_e0, vCallS_e0, vCallSV_e0, vCallM_e1, vCallMV_e1, vCallS_e1, vCallSV_e1, vCallM_e2, vCallMV_e2, vCallS_e2, vCallSV_e2, vCallM_e3, vCallMV_e3, vCallS_e3, vCallSV_e3, vCallM_e4, vCallMV_e4, vCallS_e4, vCallSV_e4, vCallM_e5, vCallMV_e5, vCallS_e5, vCallSV_e5, vCallM_e6, vCallMV_e6, vCallS_e6, vCallSV_e6, vCallM_e7, vCallMV_e7, vCallS_e7, vCallSV_e7, vBad_e, vStrVal_e, vStrCod_e, vForm_e, vCallT_e0, vCallT_e1, vCallT_e2, vCopy_e, rf_0_0, rf_0_1, rf_0_2, rf_0_3, rf_0_4, rf_0_7, rf_0_10, rf_0_11, rf_0_12, rf_0_13, rf_0_14, rf_0_15, rf_0_16, rf_1_0, rf_3_0, rf_3_1, rf_6_0, rf_6_1, rf_9_0, rf_9_1, rf_9_3, rf_13_0, rf_13_1, rf_13_2, rf_16_0, rf_16_1, rf_16_2, rf_16_3, rf_21_0, rf_21_1, rf_21_2, rf_21_3, rf_26_0, rf_26_1, rf_26_2, rf_26_3, rf_26_4, rf_26_5, rf_26_6, rf_31_0, rf_31_2, rf_31_5, rf_31_6, rf_36_0, rf_36_1, rf_36_2, rf_36_3, rf_39_0, rf_39_1, rf_39_2, rf_41_0, rf_41_1, rf_41_2, rf_41_3, rf_5000_1, rf_5000_2, rf_5000_3, rf_5000_4, rf_5000_5, rf_5000_15, rf_5000_16, rf_5000_18, rf_5000_19, rf_5000_20, rf_5000_21, rf_5000_22, rf_5000_23, rf_5000_24, rf_5000_25, rf_5000_26, rf_5000_27, rf_5000_36, rf_5000_37, rf_5000_40, rf_5000_41, rf_5000_42, rf_5000_43, rf_5000_44, rf_5000_45, rf_5000_47, rf_5000_52, rf_5000_54, rf_5000_55, rf_100_0, rf_100_1, rf_103_0, rf_103_1, rf_106_0, rf_106_1, rf_109_0, rf_109_1, al_2, al_4, al_5, al_7, al_8, al_10, al_11, al_12, al_14, al_15, al_17, al_18, al_19, al_20, al_22, al_23, al_24, al_25, al_27, al_28, al_29, al_30, al_32, al_33, al_34, al_35, al_37, al_38, al_40, al_42, al_5001, al_5002, al_5003, al_5004, al_5005, al_5006, al_5007, al_5008, al_5009, al_5010, al_5011, al_5012, al_5013, al_5014, al_5015, al_5016, al_5017, al_5018, al_5019, al_5020, al_5021, al_5022, al_5023, al_5024, al_5025, al_5026, al_9000, al_101, al_102, al_104, al_105, al_107, al_108, al_110, al_111, vcs_e, lg_c0, lg_cs, lg_nil, set_c0, set_cs, okst_0, okst_s, acok_n, acok_c, List.contains_nil, List.contains_cons, Bool.or_false, Bool.false_or, Bool.false_eq_true, if_false, if_true, ite_self, ne_eq, true_and, and_true, not_false_eq_true, not_true_eq_false, false_imp_iff, true_imp_iff, Nat.ble_eq, Bool.and_eq_true, reduceCtorEq, or_false, false_or, or_true, true_or, false_and, and_false, and_self, Int.reduceLE, Int.reduceAdd, Int.reduceSub, Int.reduceMul, Int.reduceNeg, Int.reduceLT, Int.reduceEq, Int.reduceNe, Nat.reduceBEq, Nat.reduceBNe, Nat.reduceEqDiff, amCmp_in, amCmp_lt, amCmp_le, amCmp_gt, amCmp_ge, amCmp_eq, amCmp_ne, Nat.reduceLeDiff, Nat.reduceSub, Bool.and_true, Bool.true_and, Bool.and_self, Bool.or_true, Bool.true_or, isRf_3, isRf_4, isRf_5, isRf_8, isRf_9, isRf_10, isRf_11, isRf_15, isRf_16, isRf_17, isRf_18, isRf_19, isRf_20, isRf_21, isRf_22, isRf_23, isRf_24, isRf_25, isRf_26, isRf_27, isRf_28, k_X12_text_0, k_X12_text_1, k_X12_text_2, k_X12_text_5, k_X12_text_6, k_X12_text_7, k_X12_text_8, k_X12_text_11, k_X12_text_14, k_X12_text_17, k_X12_text_18, k_X12_text_19, k_X12_text_22, k_X12_text_23, k_X12_text_26, k_X12_text_27, k_X12_text_30, k_X12_text_31, k_X12_text_32, k_X12_text_35, k_X12_text_36, k_X12_text_39, k_X12_text_40, k_X12_text_43, k_X12_text_44, k_X12_text_45, k_X12_text_48, k_X12_text_49, k_X12_text_52, k_X12_text_53, k_X12_text_54, k_X12_text_55, k_X12_text_58, k_X12_text_59, k_X12_text_60, k_X12_text_61, k_X12_text_64, k_X12_text_65, k_X12_text_66, k_X12_text_69, k_X12_text_70, k_X12_text_71, k_X12_text_72, k_X12_text_73, k_X12_text_76, k_X12_text_77, k_X12_text_80, k_X12_text_83, k_X12_text_84, k_X12_text_87, k_X12_text_88, k_X12_text_89, k_X12_text_90, k_X12_text_91, k_X12_text_94, k_X12_text_95, k_X12_text_96, k_X12_text_97, k_X12_text_100, k_X12_text_103, k_X12_text_104, k_X12_text_107, k_X12_text_108, k_X12_text_111, k_X12_text_112, k_X12_text_113, k_X12_text_114, k_X12_text_115, k_X12_text_118, k_X12_text_119, k_X12_text_120, k_X12_text_123, k_X12_text_124, k_X12_text_127, k_X12_text_128, k_X12_text_129, k_X12_text_130, k_X12_text_131, k_X12_text_132, k_X12_text_135, k_X12_text_136, k_X12_text_137, k_X12_text_138, k_X12_text_140, k_X12_text_143, k_X12_text_144, k_X12_text_147, k_X12_text_149, k_X12_text_150, k_X12_text_153, k_X12_text_154, k_X12_text_155, k_X12_text_156, k_X12_text_157, k_X12_text_160, k_X12_text_163, k_X12_text_164, k_X12_text_165, k_X12_text_166, k_X12_text_167, k_X12_text_170, k_X12_text_173, k_X12_text_174, k_X12_text_177, k_X12_text_178, k_X12_text_181, k_X12_text_182, k_X12_text_185, k_X12_text_186, k_X12_text_187, k_X12_text_188, k_X12_text_189, k_X12_text_190, k_X12_text_193, k_X12_text_194, k_X12_text_195, k_X12_text_198, k_X12_text_199, k_X12_text_202, k_X12_text_203, k_X12_text_204, k_X12_text_205, k_X12_text_206, k_X12_text_207, k_X12_text_210, k_X12_text_213, k_X12_text_214, k_X12_text_215, k_X12_text_218, k_X12_text_221, k_X12_text_222, k_X12_text_223, k_X12_text_226, k_X12_text_229, k_X12_text_230, k_X12_text_231, k_X12_text_232, k_X12_text_233, k_X12_text_236, k_X12_text_237, k_X12_text_240, k_X12_text_241, k_X12_text_242, k_X12_text_245, k_X12_text_246, k_X12_text_247, k_X12_text_248, k_X12_text_251, k_X12_text_254, k_X12_text_255, k_X12_text_256, k_X12_text_257, k_X12_text_259, k_X12_text_262, k_X12_text_263, k_X12_text_266, k_X12_text_267, k_X12_text_268, k_X12_text_271, k_X12_text_272, k_X12_text_273, k_X12_text_274, k_X12_text_277, k_X12_text_280, k_X12_text_281, k_X12_text_282, k_X12_text_283, k_X12_text_285, k_X12_text_288, k_X12_text_289, k_X12_text_292, k_X12_text_293, k_X12_text_294, k_X12_text_297, k_X12_text_298, k_X12_text_299, k_X12_text_300, k_X12_text_303, k_X12_text_306, k_X12_text_307, k_X12_text_308, k_X12_text_309, k_X12_text_311, k_X12_text_314, k_X12_text_315, k_X12_text_318, k_X12_text_319, k_X12_text_320, k_X12_text_323, k_X12_text_324, k_X12_text_325, k_X12_text_326, k_X12_text_329, k_X12_text_332, k_X12_text_333, k_X12_text_334, k_X12_text_335, k_X12_text_338, k_X12_text_341, k_X12_text_342, k_X12_text_345, k_X12_text_346, k_X12_text_347, k_X12_text_348, k_X12_text_351, k_X12_text_354, k_X12_text_355, k_X12_text_356, k_X12_text_357, k_X12_text_358, k_X12_text_361, k_X12_text_364, k_X12_text_365, k_X12_text_367, k_X12_text_369, k_X12_text_370, k_X12_text_373, k_X12_text_374, k_X12_text_377, k_X12_text_378, k_X12_text_379, k_X12_text_380, k_X12_text_382, k_X12_text_383, k_X12_text_384, k_X12_text_387, k_X12_text_388, k_X12_text_389, k_X12_text_390, k_X12_text_392, k_X12_text_393, k_X12_text_394, k_X12_text_395, k_X12_text_398, k_X12_text_401, k_X12_text_404, k_X12_text_407, k_X12_text_408, k_X12_text_411, k_X12_text_413, k_X12_text_414, k_X12_text_417, k_X12_text_418, k_X12_text_419, k_X12_text_420, k_X12_text_421, k_X12_text_422, k_X12_text_425, k_X12_text_426, k_X12_text_427, k_X12_text_430, k_X12_text_431, k_X12_text_432, k_X12_text_435, k_X12_text_436, k_X12_text_439, c50, c01, ib]
        repeat' (first | apply And.intro | intro _)
        all_goals first | omega | exact absurd trivial (by assumption) | exact i9
      · have ek : (k : Int) = τ 5000 6 := by omega
        have q9 : Q (0, τ 5000 7) (up (up (cpy (up τ 5000 6 0) 5001 0 5002 (240 * τ 5000 7) k) 5003 (τ 5000 7) (τ 5000 6)) 5000 7 (τ 5000 7 + 1)) := by rw [ek]; exact hq
        have e1 : τ 5000 7 + 1 - 1 = τ 5000 7 := by omega
        simp only [↓reduceIte, inR_0, inR_1, inR_m, vSw2_e, swP_n, swP_c, vI_e, vL_e, vNull_e, vIload_e, vLload_e, vAload_e, vIstore_e, vLstore_e, vAstore_e, vIinc_e, vIadd_e, vIsub_e, vImul_e, vIand_e, vIor_e, vIxor_e, vIshl_e, vIshr_e, vIushr_e, vIdiv_e, vIrem_e, vLadd_e, vLsub_e, vLmul_e, vLand_e, vLor_e, vLxor_e, vLdiv_e, vLrem_e, vLushr_e, vLshl_e, vLcmp_e, vIneg_e, vI2l_e, vL2i_e, vI2b_e, vI2c_e, vDup_e, vPop_e, vDup2_e, vGoto_e, vIcEq_e, vIfEq_e, vIcNe_e, vIfNe_e, vIcLt_e, vIfLt_e, vIcGe_e, vIfGe_e, vIcGt_e, vIfGt_e, vIcLe_e, vIfLe_e, vNonnull_e, vSw_e, vGetI_e, vGetL_e, vGetR_e, vPutI_e, vPutZ_e, vPutL_e, vPutR_e, vIald_e, vIald_s, vLald_e, vBald_e, vBald_s, vAald_e, vIast_e, vLast_e, vBast_e, vAast_e, vAlen_e8, vAlen_e9, vAlen_e10, vAlen_e11, vAlen_e5, vAlen_e3, vGets_e, vCompact_e, vLdcS_e, vIret_e, vZret_e, vCret_e, vBret_e, vLret_e, vVret_e, vAret_e, vCallM_e0, vCallMV_e0, vCallS_e0, vCallSV_e0, vCallM_e1, vCallMV_e1, vCallS_e1, vCallSV_e1, vCallM_e2, vCallMV_e2, vCallS_e2, vCallSV_e2, vCallM_e3, vCallMV_e3, vCallS_e3, vCallSV_e3, vCallM_e4, vCallMV_e4, vCallS_e4, vCallSV_e4, vCallM_e5, vCallMV_e5, vCallS_e5, vCallSV_e5, vCallM_e6, vCallMV_e6, vCallS_e6, vCallSV_e6, vCallM_e7, vCallMV_e7, vCallS_e7, vCallSV_e7, vBad_e, vStrVal_e, vStrCod_e, vForm_e, vCallT_e0, vCallT_e1, vCallT_e2, vCopy_e, rf_0_0, rf_0_1, rf_0_2, rf_0_3, rf_0_4, rf_0_7, rf_0_10, rf_0_11, rf_0_12, rf_0_13, rf_0_14, rf_0_15, rf_0_16, rf_1_0, rf_3_0, rf_3_1, rf_6_0, rf_6_1, rf_9_0, rf_9_1, rf_9_3, rf_13_0, rf_13_1, rf_13_2, rf_16_0, rf_16_1, rf_16_2, rf_16_3, rf_21_0, rf_21_1, rf_21_2, rf_21_3, rf_26_0, rf_26_1, rf_26_2, rf_26_3, rf_26_4, rf_26_5, rf_26_6, rf_31_0, rf_31_2, rf_31_5, rf_31_6, rf_36_0, rf_36_1, rf_36_2, rf_36_3, rf_39_0, rf_39_1, rf_39_2, rf_41_0, rf_41_1, rf_41_2, rf_41_3, rf_5000_1, rf_5000_2, rf_5000_3, rf_5000_4, rf_5000_5, rf_5000_15, rf_5000_16, rf_5000_18, rf_5000_19, rf_5000_20, rf_5000_21, rf_5000_22, rf_5000_23, rf_5000_24, rf_5000_25, rf_5000_26, rf_5000_27, rf_5000_36, rf_5000_37, rf_5000_40, rf_5000_41, rf_5000_42, rf_5000_43, rf_5000_44, rf_5000_45, rf_5000_47, rf_5000_52, rf_5000_54, rf_5000_55, rf_100_0, rf_100_1, rf_103_0, rf_103_1, rf_106_0, rf_106_1, rf_109_0, rf_109_1, al_2, al_4, al_5, al_7, al_8, al_10, al_11, al_12, al_14, al_15, al_17, al_18, al_19, al_20, al_22, al_23, al_24, al_25, al_27, al_28, al_29, al_30, al_32, al_33, al_34, al_35, al_37, al_38, al_40, al_42, al_5001, al_5002, al_5003, al_5004, al_5005, al_5006, al_5007, al_5008, al_5009, al_5010, al_5011, al_5012, al_5013, al_5014, al_5015, al_5016, al_5017, al_5018, al_5019, al_5020, al_5021, al_5022, al_5023, al_5024, al_5025, al_5026, al_9000, al_101, al_102, al_104, al_105, al_107, al_108, al_110, al_111, vcs_e, lg_c0, lg_cs, lg_nil, set_c0, set_cs, okst_0, okst_s, acok_n, acok_c, List.contains_nil, List.contains_cons, Bool.or_false, Bool.false_or, Bool.false_eq_true, if_false, if_true, ite_self, ne_eq, true_and, and_true, not_false_eq_true, not_true_eq_false, false_imp_iff, true_imp_iff, Nat.ble_eq, Bool.and_eq_true, reduceCtorEq, or_false, false_or, or_true, true_or, false_and, and_false, and_self, Int.reduceLE, Int.reduceAdd, Int.reduceSub, Int.reduceMul, Int.reduceNeg, Int.reduceLT, Int.reduceEq, Int.reduceNe, Nat.reduceBEq, Nat.reduceBNe, Nat.reduceEqDiff, amCmp_in, amCmp_lt, amCmp_le, amCmp_gt, amCmp_ge, amCmp_eq, amCmp_ne, Nat.reduceLeDiff, Nat.reduceSub, Bool.and_true, Bool.true_and, Bool.and_self, Bool.or_true, Bool.true_or, isRf_3, isRf_4, isRf_5, isRf_8, isRf_9, isRf_10, isRf_11, isRf_15, isRf_16, isRf_17, isRf_18, isRf_19, isRf_20, isRf_21, isRf_22, isRf_23, isRf_24, isRf_25, isRf_26, isRf_27, isRf_28, k_X12_text_0, k_X12_text_1, k_X12_text_2, k_X12_text_5, k_X12_text_6, k_X12_text_7, k_X12_text_8, k_X12_text_11, k_X12_text_14, k_X12_text_17, k_X12_text_18, k_X12_text_19, k_X12_text_22, k_X12_text_23, k_X12_text_26, k_X12_text_27, k_X12_text_30, k_X12_text_31, k_X12_text_32, k_X12_text_35, k_X12_text_36, k_X12_text_39, k_X12_text_40, k_X12_text_43, k_X12_text_44, k_X12_text_45, k_X12_text_48, k_X12_text_49, k_X12_text_52, k_X12_text_53, k_X12_text_54, k_X12_text_55, k_X12_text_58, k_X12_text_59, k_X12_text_60, k_X12_text_61, k_X12_text_64, k_X12_text_65, k_X12_text_66, k_X12_text_69, k_X12_text_70, k_X12_text_71, k_X12_text_72, k_X12_text_73, k_X12_text_76, k_X12_text_77, k_X12_text_80, k_X12_text_83, k_X12_text_84, k_X12_text_87, k_X12_text_88, k_X12_text_89, k_X12_text_90, k_X12_text_91, k_X12_text_94, k_X12_text_95, k_X12_text_96, k_X12_text_97, k_X12_text_100, k_X12_text_103, k_X12_text_104, k_X12_text_107, k_X12_text_108, k_X12_text_111, k_X12_text_112, k_X12_text_113, k_X12_text_114, k_X12_text_115, k_X12_text_118, k_X12_text_119, k_X12_text_120, k_X12_text_123, k_X12_text_124, k_X12_text_127, k_X12_text_128, k_X12_text_129, k_X12_text_130, k_X12_text_131, k_X12_text_132, k_X12_text_135, k_X12_text_136, k_X12_text_137, k_X12_text_138, k_X12_text_140, k_X12_text_143, k_X12_text_144, k_X12_text_147, k_X12_text_149, k_X12_text_150, k_X12_text_153, k_X12_text_154, k_X12_text_155, k_X12_text_156, k_X12_text_157, k_X12_text_160, k_X12_text_163, k_X12_text_164, k_X12_text_165, k_X12_text_166, k_X12_text_167, k_X12_text_170, k_X12_text_173, k_X12_text_174, k_X12_text_177, k_X12_text_178, k_X12_text_181, k_X12_text_182, k_X12_text_185, k_X12_text_186, k_X12_text_187, k_X12_text_188, k_X12_text_189, k_X12_text_190, k_X12_text_193, k_X12_text_194, k_X12_text_195, k_X12_text_198, k_X12_text_199, k_X12_text_202, k_X12_text_203, k_X12_text_204, k_X12_text_205, k_X12_text_206, k_X12_text_207, k_X12_text_210, k_X12_text_213, k_X12_text_214, k_X12_text_215, k_X12_text_218, k_X12_text_221, k_X12_text_222, k_X12_text_223, k_X12_text_226, k_X12_text_229, k_X12_text_230, k_X12_text_231, k_X12_text_232, k_X12_text_233, k_X12_text_236, k_X12_text_237, k_X12_text_240, k_X12_text_241, k_X12_text_242, k_X12_text_245, k_X12_text_246, k_X12_text_247, k_X12_text_248, k_X12_text_251, k_X12_text_254, k_X12_text_255, k_X12_text_256, k_X12_text_257, k_X12_text_259, k_X12_text_262, k_X12_text_263, k_X12_text_266, k_X12_text_267, k_X12_text_268, k_X12_text_271, k_X12_text_272, k_X12_text_273, k_X12_text_274, k_X12_text_277, k_X12_text_280, k_X12_text_281, k_X12_text_282, k_X12_text_283, k_X12_text_285, k_X12_text_288, k_X12_text_289, k_X12_text_292, k_X12_text_293, k_X12_text_294, k_X12_text_297, k_X12_text_298, k_X12_text_299, k_X12_text_300, k_X12_text_303, k_X12_text_306, k_X12_text_307, k_X12_text_308, k_X12_text_309, k_X12_text_311, k_X12_text_314, k_X12_text_315, k_X12_text_318, k_X12_text_319, k_X12_text_320, k_X12_text_323, k_X12_text_324, k_X12_text_325, k_X12_text_326, k_X12_text_329, k_X12_text_332, k_X12_text_333, k_X12_text_334, k_X12_text_335, k_X12_text_338, k_X12_text_341, k_X12_text_342, k_X12_text_345, k_X12_text_346, k_X12_text_347, k_X12_text_348, k_X12_text_351, k_X12_text_354, k_X12_text_355, k_X12_text_356, k_X12_text_357, k_X12_text_358, k_X12_text_361, k_X12_text_364, k_X12_text_365, k_X12_text_367, k_X12_text_369, k_X12_text_370, k_X12_text_373, k_X12_text_374, k_X12_text_377, k_X12_text_378, k_X12_text_379, k_X12_text_380, k_X12_text_382, k_X12_text_383, k_X12_text_384, k_X12_text_387, k_X12_text_388, k_X12_text_389, k_X12_text_390, k_X12_text_392, k_X12_text_393, k_X12_text_394, k_X12_text_395, k_X12_text_398, k_X12_text_401, k_X12_text_404, k_X12_text_407, k_X12_text_408, k_X12_text_411, k_X12_text_413, k_X12_text_414, k_X12_text_417, k_X12_text_418, k_X12_text_419, k_X12_text_420, k_X12_text_421, k_X12_text_422, k_X12_text_425, k_X12_text_426, k_X12_text_427, k_X12_text_430, k_X12_text_431, k_X12_text_432, k_X12_text_435, k_X12_text_436, k_X12_text_439, c50, up_s, up_na _ (show (5000 : Int) ≠ 5003 by decide), e1]
        repeat' (first | apply And.intro | intro _)
        all_goals first | omega | exact absurd trivial (by assumption) | exact q9
    · have c50 : ∀ x, x ≠ 6 → cpy (up τ 5000 6 0) 5013 192 5013 (48 * τ 5000 34) k 5000 x = τ 5000 x := fun x hx => by rw [cpy_oo _ _ _ _ _ _ (by decide), up_nj _ hx]
      have c14 : cpy (up τ 5000 6 0) 5013 192 5013 (48 * τ 5000 34) k 5014 = τ 5014 := by rw [cpy_oo _ _ _ _ _ _ (by decide), up_na _ (by decide)]
      refine ⟨60, ?_⟩
      by_cases cc : (k : Int) < 48
      · have c13 : cpy (up τ 5000 6 0) 5013 192 5013 (48 * τ 5000 34) k 5013 (192 + k) = τ 5013 (192 + k) := by rw [cpy_at _ _ _ _ _ _ (by omega), up_na _ (by decide)]
        have i9 : ∃ k', k' < n ∧ inv_txt Q 2 k' 137 [(28, 5000), (0, 2), (0, τ 5000 6), (0, (k : Int) + 1), v4] [] (up (cpy (up τ 5000 6 0) 5013 192 5013 (48 * τ 5000 34) k) 5013 (48 * τ 5000 34 + k) (τ 5013 (192 + k))) := by
          refine ⟨n - 1, by omega, rfl, τ, v4, Or.inr (Or.inl ⟨rfl, rfl, t34, hq, k + 1, rfl, by omega, by omega, ?_⟩)⟩
          have := cpyS (up τ 5000 6 0) 5013 192 5013 (48 * τ 5000 34) (k := k) (by omega)
          rw [up_na τ (show (5013 : Int) ≠ 5000 by decide)] at this
          rw [this]; rfl
        simp only [↓reduceIte, inR_0, inR_1, inR_m, vSw2_e, swP_n, swP_c, vI_e, vL_e, vNull_e, vIload_e, vLload_e, vAload_e, vIstore_e, vLstore_e, vAstore_e, vIinc_e, vIadd_e, vIsub_e, vImul_e, vIand_e, vIor_e, vIxor_e, vIshl_e, vIshr_e, vIushr_e, vIdiv_e, vIrem_e, vLadd_e, vLsub_e, vLmul_e, vLand_e, vLor_e, vLxor_e, vLdiv_e, vLrem_e, vLushr_e, vLshl_e, vLcmp_e, vIneg_e, vI2l_e, vL2i_e, vI2b_e, vI2c_e, vDup_e, vPop_e, vDup2_e, vGoto_e, vIcEq_e, vIfEq_e, vIcNe_e, vIfNe_e, vIcLt_e, vIfLt_e, vIcGe_e, vIfGe_e, vIcGt_e, vIfGt_e, vIcLe_e, vIfLe_e, vNonnull_e, vSw_e, vGetI_e, vGetL_e, vGetR_e, vPutI_e, vPutZ_e, vPutL_e, vPutR_e, vIald_e, vIald_s, vLald_e, vBald_e, vBald_s, vAald_e, vIast_e, vLast_e, vBast_e, vAast_e, vAlen_e8, vAlen_e9, vAlen_e10, vAlen_e11, vAlen_e5, vAlen_e3, vGets_e, vCompact_e, vLdcS_e, vIret_e, vZret_e, vCret_e, vBret_e, vLret_e, vVret_e, vAret_e, vCallM_e0, vCallMV_e0, vCallS_e0, vCallSV_e0, vCallM_e1, vCallMV_e1, vCallS_e1, vCallSV_e1, vCallM_e2, vCallMV_e2, vCallS_e2, vCallSV_e2, vCallM_e3, vCallMV_e3, vCallS_e3, vCallSV_e3, vCallM_e4, vCallMV_e4, vCallS_e4, vCallSV_e4, vCallM_e5, vCallMV_e5, vCallS_e5, vCallSV_e5, vCallM_e6, vCallMV_e6, vCallS_e6, vCallSV_e6, vCallM_e7, vCallMV_e7, vCallS_e7, vCallSV_e7, vBad_e, vStrVal_e, vStrCod_e, vForm_e, vCallT_e0, vCallT_e1, vCallT_e2, vCopy_e, rf_0_0, rf_0_1, rf_0_2, rf_0_3, rf_0_4, rf_0_7, rf_0_10, rf_0_11, rf_0_12, rf_0_13, rf_0_14, rf_0_15, rf_0_16, rf_1_0, rf_3_0, rf_3_1, rf_6_0, rf_6_1, rf_9_0, rf_9_1, rf_9_3, rf_13_0, rf_13_1, rf_13_2, rf_16_0, rf_16_1, rf_16_2, rf_16_3, rf_21_0, rf_21_1, rf_21_2, rf_21_3, rf_26_0, rf_26_1, rf_26_2, rf_26_3, rf_26_4, rf_26_5, rf_26_6, rf_31_0, rf_31_2, rf_31_5, rf_31_6, rf_36_0, rf_36_1, rf_36_2, rf_36_3, rf_39_0, rf_39_1, rf_39_2, rf_41_0, rf_41_1, rf_41_2, rf_41_3, rf_5000_1, rf_5000_2, rf_5000_3, rf_5000_4, rf_5000_5, rf_5000_15, rf_5000_16, rf_5000_18, rf_5000_19, rf_5000_20, rf_5000_21, rf_5000_22, rf_5000_23, rf_5000_24, rf_5000_25, rf_5000_26, rf_5000_27, rf_5000_36, rf_5000_37, rf_5000_40, rf_5000_41, rf_5000_42, rf_5000_43, rf_5000_44, rf_5000_45, rf_5000_47, rf_5000_52, rf_5000_54, rf_5000_55, rf_100_0, rf_100_1, rf_103_0, rf_103_1, rf_106_0, rf_106_1, rf_109_0, rf_109_1, al_2, al_4, al_5, al_7, al_8, al_10, al_11, al_12, al_14, al_15, al_17, al_18, al_19, al_20, al_22, al_23, al_24, al_25, al_27, al_28, al_29, al_30, al_32, al_33, al_34, al_35, al_37, al_38, al_40, al_42, al_5001, al_5002, al_5003, al_5004, al_5005, al_5006, al_5007, al_5008, al_5009, al_5010, al_5011, al_5012, al_5013, al_5014, al_5015, al_5016, al_5017, al_5018, al_5019, al_5020, al_5021, al_5022, al_5023, al_5024, al_5025, al_5026, al_9000, al_101, al_102, al_104, al_105, al_107, al_108, al_110, al_111, vcs_e, lg_c0, lg_cs, lg_nil, set_c0, set_cs, okst_0, okst_s, acok_n, acok_c, List.contains_nil, List.contains_cons, Bool.or_false, Bool.false_or, Bool.false_eq_true, if_false, if_true, ite_self, ne_eq, true_and, and_true, not_false_eq_true, not_true_eq_false, false_imp_iff, true_imp_iff, Nat.ble_eq, Bool.and_eq_true, reduceCtorEq, or_false, false_or, or_true, true_or, false_and, and_false, and_self, Int.reduceLE, Int.reduceAdd, Int.reduceSub, Int.reduceMul, Int.reduceNeg, Int.reduceLT, Int.reduceEq, Int.reduceNe, Nat.reduceBEq, Nat.reduceBNe, Nat.reduceEqDiff, amCmp_in, amCmp_lt, amCmp_le, amCmp_gt, amCmp_ge, amCmp_eq, amCmp_ne, Nat.reduceLeDiff, Nat.reduceSub, Bool.and_true, Bool.true_and, Bool.and_self, Bool.or_true, Bool.true_or, isRf_3, isRf_4, isRf_5, isRf_8, isRf_9, isRf_10, isRf_11, isRf_15, isRf_16, isRf_17, isRf_18, isRf_19, isRf_20, isRf_21, isRf_22, isRf_23, isRf_24, isRf_25, isRf_26, isRf_27, isRf_28, k_X12_text_0, k_X12_text_1, k_X12_text_2, k_X12_text_5, k_X12_text_6, k_X12_text_7, k_X12_text_8, k_X12_text_11, k_X12_text_14, k_X12_text_17, k_X12_text_18, k_X12_text_19, k_X12_text_22, k_X12_text_23, k_X12_text_26, k_X12_text_27, k_X12_text_30, k_X12_text_31, k_X12_text_32, k_X12_text_35, k_X12_text_36, k_X12_text_39, k_X12_text_40, k_X12_text_43, k_X12_text_44, k_X12_text_45, k_X12_text_48, k_X12_text_49, k_X12_text_52, k_X12_text_53, k_X12_text_54, k_X12_text_55, k_X12_text_58, k_X12_text_59, k_X12_text_60, k_X12_text_61, k_X12_text_64, k_X12_text_65, k_X12_text_66, k_X12_text_69, k_X12_text_70, k_X12_text_71, k_X12_text_72, k_X12_text_73, k_X12_text_76, k_X12_text_77, k_X12_text_80, k_X12_text_83, k_X12_text_84, k_X12_text_87, k_X12_text_88, k_X12_text_89, k_X12_text_90, k_X12_text_91, k_X12_text_94, k_X12_text_95, k_X12_text_96, k_X12_text_97, k_X12_text_100, k_X12_text_103, k_X12_text_104, k_X12_text_107, k_X12_text_108, k_X12_text_111, k_X12_text_112, k_X12_text_113, k_X12_text_114, k_X12_text_115, k_X12_text_118, k_X12_text_119, k_X12_text_120, k_X12_text_123, k_X12_text_124, k_X12_text_127, k_X12_text_128, k_X12_text_129, k_X12_text_130, k_X12_text_131, k_X12_text_132, k_X12_text_135, k_X12_text_136, k_X12_text_137, k_X12_text_138, k_X12_text_140, k_X12_text_143, k_X12_text_144, k_X12_text_147, k_X12_text_149, k_X12_text_150, k_X12_text_153, k_X12_text_154, k_X12_text_155, k_X12_text_156, k_X12_text_157, k_X12_text_160, k_X12_text_163, k_X12_text_164, k_X12_text_165, k_X12_text_166, k_X12_text_167, k_X12_text_170, k_X12_text_173, k_X12_text_174, k_X12_text_177, k_X12_text_178, k_X12_text_181, k_X12_text_182, k_X12_text_185, k_X12_text_186, k_X12_text_187, k_X12_text_188, k_X12_text_189, k_X12_text_190, k_X12_text_193, k_X12_text_194, k_X12_text_195, k_X12_text_198, k_X12_text_199, k_X12_text_202, k_X12_text_203, k_X12_text_204, k_X12_text_205, k_X12_text_206, k_X12_text_207, k_X12_text_210, k_X12_text_213, k_X12_text_214, k_X12_text_215, k_X12_text_218, k_X12_text_221, k_X12_text_222, k_X12_text_223, k_X12_text_226, k_X12_text_229, k_X12_text_230, k_X12_text_231, k_X12_text_232, k_X12_text_233, k_X12_text_236, k_X12_text_237, k_X12_text_240, k_X12_text_241, k_X12_text_242, k_X12_text_245, k_X12_text_246, k_X12_text_247, k_X12_text_248, k_X12_text_251, k_X12_text_254, k_X12_text_255, k_X12_text_256, k_X12_text_257, k_X12_text_259, k_X12_text_262, k_X12_text_263, k_X12_text_266, k_X12_text_267, k_X12_text_268, k_X12_text_271, k_X12_text_272, k_X12_text_273, k_X12_text_274, k_X12_text_277, k_X12_text_280, k_X12_text_281, k_X12_text_282, k_X12_text_283, k_X12_text_285, k_X12_text_288, k_X12_text_289, k_X12_text_292, k_X12_text_293, k_X12_text_294, k_X12_text_297, k_X12_text_298, k_X12_text_299, k_X12_text_300, k_X12_text_303, k_X12_text_306, k_X12_text_307, k_X12_text_308, k_X12_text_309, k_X12_text_311, k_X12_text_314, k_X12_text_315, k_X12_text_318, k_X12_text_319, k_X12_text_320, k_X12_text_323, k_X12_text_324, k_X12_text_325, k_X12_text_326, k_X12_text_329, k_X12_text_332, k_X12_text_333, k_X12_text_334, k_X12_text_335, k_X12_text_338, k_X12_text_341, k_X12_text_342, k_X12_text_345, k_X12_text_346, k_X12_text_347, k_X12_text_348, k_X12_text_351, k_X12_text_354, k_X12_text_355, k_X12_text_356, k_X12_text_357, k_X12_text_358, k_X12_text_361, k_X12_text_364, k_X12_text_365, k_X12_text_367, k_X12_text_369, k_X12_text_370, k_X12_text_373, k_X12_text_374, k_X12_text_377, k_X12_text_378, k_X12_text_379, k_X12_text_380, k_X12_text_382, k_X12_text_383, k_X12_text_384, k_X12_text_387, k_X12_text_388, k_X12_text_389, k_X12_text_390, k_X12_text_392, k_X12_text_393, k_X12_text_394, k_X12_text_395, k_X12_text_398, k_X12_text_401, k_X12_text_404, k_X12_text_407, k_X12_text_408, k_X12_text_411, k_X12_text_413, k_X12_text_414, k_X12_text_417, k_X12_text_418, k_X12_text_419, k_X12_text_420, k_X12_text_421, k_X12_text_422, k_X12_text_425, k_X12_text_426, k_X12_text_427, k_X12_text_430, k_X12_text_431, k_X12_text_432, k_X12_text_435, k_X12_text_436, k_X12_text_439, c50 34 (by decide), c13]
        repeat' (first | apply And.intro | intro _)
        all_goals first | omega | exact absurd trivial (by assumption) | exact i9
      · have ek : (k : Int) = 48 := by omega
        have q9 : Q (0, τ 5000 34) (up (up (cpy (up τ 5000 6 0) 5013 192 5013 (48 * τ 5000 34) k) 5014 (τ 5000 34) (τ 5014 4)) 5000 34 (τ 5000 34 + 1)) := by rw [ek]; exact hq
        have e1 : τ 5000 34 + 1 - 1 = τ 5000 34 := by omega
        simp only [↓reduceIte, inR_0, inR_1, inR_m, vSw2_e, swP_n, swP_c, vI_e, vL_e, vNull_e, vIload_e, vLload_e, vAload_e, vIstore_e, vLstore_e, vAstore_e, vIinc_e, vIadd_e, vIsub_e, vImul_e, vIand_e, vIor_e, vIxor_e, vIshl_e, vIshr_e, vIushr_e, vIdiv_e, vIrem_e, vLadd_e, vLsub_e, vLmul_e, vLand_e, vLor_e, vLxor_e, vLdiv_e, vLrem_e, vLushr_e, vLshl_e, vLcmp_e, vIneg_e, vI2l_e, vL2i_e, vI2b_e, vI2c_e, vDup_e, vPop_e, vDup2_e, vGoto_e, vIcEq_e, vIfEq_e, vIcNe_e, vIfNe_e, vIcLt_e, vIfLt_e, vIcGe_e, vIfGe_e, vIcGt_e, vIfGt_e, vIcLe_e, vIfLe_e, vNonnull_e, vSw_e, vGetI_e, vGetL_e, vGetR_e, vPutI_e, vPutZ_e, vPutL_e, vPutR_e, vIald_e, vIald_s, vLald_e, vBald_e, vBald_s, vAald_e, vIast_e, vLast_e, vBast_e, vAast_e, vAlen_e8, vAlen_e9, vAlen_e10, vAlen_e11, vAlen_e5, vAlen_e3, vGets_e, vCompact_e, vLdcS_e, vIret_e, vZret_e, vCret_e, vBret_e, vLret_e, vVret_e, vAret_e, vCallM_e0, vCallMV_e0, vCallS_e0, vCallSV_e0, vCallM_e1, vCallMV_e1, vCallS_e1, vCallSV_e1, vCallM_e2, vCallMV_e2, vCallS_e2, vCallSV_e2, vCallM_e3, vCallMV_e3, vCallS_e3, vCallSV_e3, vCallM_e4, vCallMV_e4, vCallS_e4, vCallSV_e4, vCallM_e5, vCallMV_e5, vCallS_e5, vCallSV_e5, vCallM_e6, vCallMV_e6, vCallS_e6, vCallSV_e6, vCallM_e7, vCallMV_e7, vCallS_e7, vCallSV_e7, vBad_e, vStrVal_e, vStrCod_e, vForm_e, vCallT_e0, vCallT_e1, vCallT_e2, vCopy_e, rf_0_0, rf_0_1, rf_0_2, rf_0_3, rf_0_4, rf_0_7, rf_0_10, rf_0_11, rf_0_12, rf_0_13, rf_0_14, rf_0_15, rf_0_16, rf_1_0, rf_3_0, rf_3_1, rf_6_0, rf_6_1, rf_9_0, rf_9_1, rf_9_3, rf_13_0, rf_13_1, rf_13_2, rf_16_0, rf_16_1, rf_16_2, rf_16_3, rf_21_0, rf_21_1, rf_21_2, rf_21_3, rf_26_0, rf_26_1, rf_26_2, rf_26_3, rf_26_4, rf_26_5, rf_26_6, rf_31_0, rf_31_2, rf_31_5, rf_31_6, rf_36_0, rf_36_1, rf_36_2, rf_36_3, rf_39_0, rf_39_1, rf_39_2, rf_41_0, rf_41_1, rf_41_2, rf_41_3, rf_5000_1, rf_5000_2, rf_5000_3, rf_5000_4, rf_5000_5, rf_5000_15, rf_5000_16, rf_5000_18, rf_5000_19, rf_5000_20, rf_5000_21, rf_5000_22, rf_5000_23, rf_5000_24, rf_5000_25, rf_5000_26, rf_5000_27, rf_5000_36, rf_5000_37, rf_5000_40, rf_5000_41, rf_5000_42, rf_5000_43, rf_5000_44, rf_5000_45, rf_5000_47, rf_5000_52, rf_5000_54, rf_5000_55, rf_100_0, rf_100_1, rf_103_0, rf_103_1, rf_106_0, rf_106_1, rf_109_0, rf_109_1, al_2, al_4, al_5, al_7, al_8, al_10, al_11, al_12, al_14, al_15, al_17, al_18, al_19, al_20, al_22, al_23, al_24, al_25, al_27, al_28, al_29, al_30, al_32, al_33, al_34, al_35, al_37, al_38, al_40, al_42, al_5001, al_5002, al_5003, al_5004, al_5005, al_5006, al_5007, al_5008, al_5009, al_5010, al_5011, al_5012, al_5013, al_5014, al_5015, al_5016, al_5017, al_5018, al_5019, al_5020, al_5021, al_5022, al_5023, al_5024, al_5025, al_5026, al_9000, al_101, al_102, al_104, al_105, al_107, al_108, al_110, al_111, vcs_e, lg_c0, lg_cs, lg_nil, set_c0, set_cs, okst_0, okst_s, acok_n, acok_c, List.contains_nil, List.contains_cons, Bool.or_false, Bool.false_or, Bool.false_eq_true, if_false, if_true, ite_self, ne_eq, true_and, and_true, not_false_eq_true, not_true_eq_false, false_imp_iff, true_imp_iff, Nat.ble_eq, Bool.and_eq_true, reduceCtorEq, or_false, false_or, or_true, true_or, false_and, and_false, and_self, Int.reduceLE, Int.reduceAdd, Int.reduceSub, Int.reduceMul, Int.reduceNeg, Int.reduceLT, Int.reduceEq, Int.reduceNe, Nat.reduceBEq, Nat.reduceBNe, Nat.reduceEqDiff, amCmp_in, amCmp_lt, amCmp_le, amCmp_gt, amCmp_ge, amCmp_eq, amCmp_ne, Nat.reduceLeDiff, Nat.reduceSub, Bool.and_true, Bool.true_and, Bool.and_self, Bool.or_true, Bool.true_or, isRf_3, isRf_4, isRf_5, isRf_8, isRf_9, isRf_10, isRf_11, isRf_15, isRf_16, isRf_17, isRf_18, isRf_19, isRf_20, isRf_21, isRf_22, isRf_23, isRf_24, isRf_25, isRf_26, isRf_27, isRf_28, k_X12_text_0, k_X12_text_1, k_X12_text_2, k_X12_text_5, k_X12_text_6, k_X12_text_7, k_X12_text_8, k_X12_text_11, k_X12_text_14, k_X12_text_17, k_X12_text_18, k_X12_text_19, k_X12_text_22, k_X12_text_23, k_X12_text_26, k_X12_text_27, k_X12_text_30, k_X12_text_31, k_X12_text_32, k_X12_text_35, k_X12_text_36, k_X12_text_39, k_X12_text_40, k_X12_text_43, k_X12_text_44, k_X12_text_45, k_X12_text_48, k_X12_text_49, k_X12_text_52, k_X12_text_53, k_X12_text_54, k_X12_text_55, k_X12_text_58, k_X12_text_59, k_X12_text_60, k_X12_text_61, k_X12_text_64, k_X12_text_65, k_X12_text_66, k_X12_text_69, k_X12_text_70, k_X12_text_71, k_X12_text_72, k_X12_text_73, k_X12_text_76, k_X12_text_77, k_X12_text_80, k_X12_text_83, k_X12_text_84, k_X12_text_87, k_X12_text_88, k_X12_text_89, k_X12_text_90, k_X12_text_91, k_X12_text_94, k_X12_text_95, k_X12_text_96, k_X12_text_97, k_X12_text_100, k_X12_text_103, k_X12_text_104, k_X12_text_107, k_X12_text_108, k_X12_text_111, k_X12_text_112, k_X12_text_113, k_X12_text_114, k_X12_text_115, k_X12_text_118, k_X12_text_119, k_X12_text_120, k_X12_text_123, k_X12_text_124, k_X12_text_127, k_X12_text_128, k_X12_text_129, k_X12_text_130, k_X12_text_131, k_X12_text_132, k_X12_text_135, k_X12_text_136, k_X12_text_137, k_X12_text_138, k_X12_text_140, k_X12_text_143, k_X12_text_144, k_X12_text_147, k_X12_text_149, k_X12_text_150, k_X12_text_153, k_X12_text_154, k_X12_text_155, k_X12_text_156, k_X12_text_157, k_X12_text_160, k_X12_text_163, k_X12_text_164, k_X12_text_165, k_X12_text_166, k_X12_text_167, k_X12_text_170, k_X12_text_173, k_X12_text_174, k_X12_text_177, k_X12_text_178, k_X12_text_181, k_X12_text_182, k_X12_text_185, k_X12_text_186, k_X12_text_187, k_X12_text_188, k_X12_text_189, k_X12_text_190, k_X12_text_193, k_X12_text_194, k_X12_text_195, k_X12_text_198, k_X12_text_199, k_X12_text_202, k_X12_text_203, k_X12_text_204, k_X12_text_205, k_X12_text_206, k_X12_text_207, k_X12_text_210, k_X12_text_213, k_X12_text_214, k_X12_text_215, k_X12_text_218, k_X12_text_221, k_X12_text_222, k_X12_text_223, k_X12_text_226, k_X12_text_229, k_X12_text_230, k_X12_text_231, k_X12_text_232, k_X12_text_233, k_X12_text_236, k_X12_text_237, k_X12_text_240, k_X12_text_241, k_X12_text_242, k_X12_text_245, k_X12_text_246, k_X12_text_247, k_X12_text_248, k_X12_text_251, k_X12_text_254, k_X12_text_255, k_X12_text_256, k_X12_text_257, k_X12_text_259, k_X12_text_262, k_X12_text_263, k_X12_text_266, k_X12_text_267, k_X12_text_268, k_X12_text_271, k_X12_text_272, k_X12_text_273, k_X12_text_274, k_X12_text_277, k_X12_text_280, k_X12_text_281, k_X12_text_282, k_X12_text_283, k_X12_text_285, k_X12_text_288, k_X12_text_289, k_X12_text_292, k_X12_text_293, k_X12_text_294, k_X12_text_297, k_X12_text_298, k_X12_text_299, k_X12_text_300, k_X12_text_303, k_X12_text_306, k_X12_text_307, k_X12_text_308, k_X12_text_309, k_X12_text_311, k_X12_text_314, k_X12_text_315, k_X12_text_318, k_X12_text_319, k_X12_text_320, k_X12_text_323, k_X12_text_324, k_X12_text_325, k_X12_text_326, k_X12_text_329, k_X12_text_332, k_X12_text_333, k_X12_text_334, k_X12_text_335, k_X12_text_338, k_X12_text_341, k_X12_text_342, k_X12_text_345, k_X12_text_346, k_X12_text_347, k_X12_text_348, k_X12_text_351, k_X12_text_354, k_X12_text_355, k_X12_text_356, k_X12_text_357, k_X12_text_358, k_X12_text_361, k_X12_text_364, k_X12_text_365, k_X12_text_367, k_X12_text_369, k_X12_text_370, k_X12_text_373, k_X12_text_374, k_X12_text_377, k_X12_text_378, k_X12_text_379, k_X12_text_380, k_X12_text_382, k_X12_text_383, k_X12_text_384, k_X12_text_387, k_X12_text_388, k_X12_text_389, k_X12_text_390, k_X12_text_392, k_X12_text_393, k_X12_text_394, k_X12_text_395, k_X12_text_398, k_X12_text_401, k_X12_text_404, k_X12_text_407, k_X12_text_408, k_X12_text_411, k_X12_text_413, k_X12_text_414, k_X12_text_417, k_X12_text_418, k_X12_text_419, k_X12_text_420, k_X12_text_421, k_X12_text_422, k_X12_text_425, k_X12_text_426, k_X12_text_427, k_X12_text_430, k_X12_text_431, k_X12_text_432, k_X12_text_435, k_X12_text_436, k_X12_text_439, c50 34 (by decide), c14, up_s, up_na _ (show (5000 : Int) ≠ 5014 by decide), e1]
        repeat' (first | apply And.intro | intro _)
        all_goals first | omega | exact absurd trivial (by assumption) | exact q9
    · have c6 : cpy (tx1 τ) 5006 0 5005 0 k 5006 = tx1 τ 5006 := cpy_oo _ _ _ _ _ _ (by decide)
      refine ⟨60, ?_⟩
      by_cases cc : (k : Int) < 2
      · have i9 : ∃ k', k' < n ∧ inv_txt Q 0 k' 231 [(28, 5000), (0, 0), (0, τ 5000 6), (0, (k : Int) + 1), v4] [] (up (cpy (tx1 τ) 5006 0 5005 0 k) 5005 k (tx1 τ 5006 k)) := by
          refine ⟨n - 1, by omega, rfl, τ, v4, Or.inr (Or.inr ⟨rfl, t32, hq, Or.inl ⟨rfl, k + 1, rfl, by omega, by omega, ?_⟩⟩)⟩
          have := cpyS (tx1 τ) 5006 0 5005 0 (k := k) (by omega)
          rw [Int.zero_add] at this
          rw [this]; rfl
        simp only [↓reduceIte, inR_0, inR_1, inR_m, vSw2_e, swP_n, swP_c, vI_e, vL_e, vNull_e, vIload_e, vLload_e, vAload_e, vIstore_e, vLstore_e, vAstore_e, vIinc_e, vIadd_e, vIsub_e, vImul_e, vIand_e, vIor_e, vIxor_e, vIshl_e, vIshr_e, vIushr_e, vIdiv_e, vIrem_e, vLadd_e, vLsub_e, vLmul_e, vLand_e, vLor_e, vLxor_e, vLdiv_e, vLrem_e, vLushr_e, vLshl_e, vLcmp_e, vIneg_e, vI2l_e, vL2i_e, vI2b_e, vI2c_e, vDup_e, vPop_e, vDup2_e, vGoto_e, vIcEq_e, vIfEq_e, vIcNe_e, vIfNe_e, vIcLt_e, vIfLt_e, vIcGe_e, vIfGe_e, vIcGt_e, vIfGt_e, vIcLe_e, vIfLe_e, vNonnull_e, vSw_e, vGetI_e, vGetL_e, vGetR_e, vPutI_e, vPutZ_e, vPutL_e, vPutR_e, vIald_e, vIald_s, vLald_e, vBald_e, vBald_s, vAald_e, vIast_e, vLast_e, vBast_e, vAast_e, vAlen_e8, vAlen_e9, vAlen_e10, vAlen_e11, vAlen_e5, vAlen_e3, vGets_e, vCompact_e, vLdcS_e, vIret_e, vZret_e, vCret_e, vBret_e, vLret_e, vVret_e, vAret_e, vCallM_e0, vCallMV_e0, vCallS_e0, vCallSV_e0, vCallM_e1, vCallMV_e1, vCallS_e1, vCallSV_e1, vCallM_e2, vCallMV_e2, vCallS_e2, vCallSV_e2, vCallM_e3, vCallMV_e3, vCallS_e3, vCallSV_e3, vCallM_e4, vCallMV_e4, vCallS_e4, vCallSV_e4, vCallM_e5, vCallMV_e5, vCallS_e5, vCallSV_e5, vCallM_e6, vCallMV_e6, vCallS_e6, vCallSV_e6, vCallM_e7, vCallMV_e7, vCallS_e7, vCallSV_e7, vBad_e, vStrVal_e, vStrCod_e, vForm_e, vCallT_e0, vCallT_e1, vCallT_e2, vCopy_e, rf_0_0, rf_0_1, rf_0_2, rf_0_3, rf_0_4, rf_0_7, rf_0_10, rf_0_11, rf_0_12, rf_0_13, rf_0_14, rf_0_15, rf_0_16, rf_1_0, rf_3_0, rf_3_1, rf_6_0, rf_6_1, rf_9_0, rf_9_1, rf_9_3, rf_13_0, rf_13_1, rf_13_2, rf_16_0, rf_16_1, rf_16_2, rf_16_3, rf_21_0, rf_21_1, rf_21_2, rf_21_3, rf_26_0, rf_26_1, rf_26_2, rf_26_3, rf_26_4, rf_26_5, rf_26_6, rf_31_0, rf_31_2, rf_31_5, rf_31_6, rf_36_0, rf_36_1, rf_36_2, rf_36_3, rf_39_0, rf_39_1, rf_39_2, rf_41_0, rf_41_1, rf_41_2, rf_41_3, rf_5000_1, rf_5000_2, rf_5000_3, rf_5000_4, rf_5000_5, rf_5000_15, rf_5000_16, rf_5000_18, rf_5000_19, rf_5000_20, rf_5000_21, rf_5000_22, rf_5000_23, rf_5000_24, rf_5000_25, rf_5000_26, rf_5000_27, rf_5000_36, rf_5000_37, rf_5000_40, rf_5000_41, rf_5000_42, rf_5000_43, rf_5000_44, rf_5000_45, rf_5000_47, rf_5000_52, rf_5000_54, rf_5000_55, rf_100_0, rf_100_1, rf_103_0, rf_103_1, rf_106_0, rf_106_1, rf_109_0, rf_109_1, al_2, al_4, al_5, al_7, al_8, al_10, al_11, al_12, al_14, al_15, al_17, al_18, al_19, al_20, al_22, al_23, al_24, al_25, al_27, al_28, al_29, al_30, al_32, al_33, al_34, al_35, al_37, al_38, al_40, al_42, al_5001, al_5002, al_5003, al_5004, al_5005, al_5006, al_5007, al_5008, al_5009, al_5010, al_5011, al_5012, al_5013, al_5014, al_5015, al_5016, al_5017, al_5018, al_5019, al_5020, al_5021, al_5022, al_5023, al_5024, al_5025, al_5026, al_9000, al_101, al_102, al_104, al_105, al_107, al_108, al_110, al_111, vcs_e, lg_c0, lg_cs, lg_nil, set_c0, set_cs, okst_0, okst_s, acok_n, acok_c, List.contains_nil, List.contains_cons, Bool.or_false, Bool.false_or, Bool.false_eq_true, if_false, if_true, ite_self, ne_eq, true_and, and_true, not_false_eq_true, not_true_eq_false, false_imp_iff, true_imp_iff, Nat.ble_eq, Bool.and_eq_true, reduceCtorEq, or_false, false_or, or_true, true_or, false_and, and_false, and_self, Int.reduceLE, Int.reduceAdd, Int.reduceSub, Int.reduceMul, Int.reduceNeg, Int.reduceLT, Int.reduceEq, Int.reduceNe, Nat.reduceBEq, Nat.reduceBNe, Nat.reduceEqDiff, amCmp_in, amCmp_lt, amCmp_le, amCmp_gt, amCmp_ge, amCmp_eq, amCmp_ne, Nat.reduceLeDiff, Nat.reduceSub, Bool.and_true, Bool.true_and, Bool.and_self, Bool.or_true, Bool.true_or, isRf_3, isRf_4, isRf_5, isRf_8, isRf_9, isRf_10, isRf_11, isRf_15, isRf_16, isRf_17, isRf_18, isRf_19, isRf_20, isRf_21, isRf_22, isRf_23, isRf_24, isRf_25, isRf_26, isRf_27, isRf_28, k_X12_text_0, k_X12_text_1, k_X12_text_2, k_X12_text_5, k_X12_text_6, k_X12_text_7, k_X12_text_8, k_X12_text_11, k_X12_text_14, k_X12_text_17, k_X12_text_18, k_X12_text_19, k_X12_text_22, k_X12_text_23, k_X12_text_26, k_X12_text_27, k_X12_text_30, k_X12_text_31, k_X12_text_32, k_X12_text_35, k_X12_text_36, k_X12_text_39, k_X12_text_40, k_X12_text_43, k_X12_text_44, k_X12_text_45, k_X12_text_48, k_X12_text_49, k_X12_text_52, k_X12_text_53, k_X12_text_54, k_X12_text_55, k_X12_text_58, k_X12_text_59, k_X12_text_60, k_X12_text_61, k_X12_text_64, k_X12_text_65, k_X12_text_66, k_X12_text_69, k_X12_text_70, k_X12_text_71, k_X12_text_72, k_X12_text_73, k_X12_text_76, k_X12_text_77, k_X12_text_80, k_X12_text_83, k_X12_text_84, k_X12_text_87, k_X12_text_88, k_X12_text_89, k_X12_text_90, k_X12_text_91, k_X12_text_94, k_X12_text_95, k_X12_text_96, k_X12_text_97, k_X12_text_100, k_X12_text_103, k_X12_text_104, k_X12_text_107, k_X12_text_108, k_X12_text_111, k_X12_text_112, k_X12_text_113, k_X12_text_114, k_X12_text_115, k_X12_text_118, k_X12_text_119, k_X12_text_120, k_X12_text_123, k_X12_text_124, k_X12_text_127, k_X12_text_128, k_X12_text_129, k_X12_text_130, k_X12_text_131, k_X12_text_132, k_X12_text_135, k_X12_text_136, k_X12_text_137, k_X12_text_138, k_X12_text_140, k_X12_text_143, k_X12_text_144, k_X12_text_147, k_X12_text_149, k_X12_text_150, k_X12_text_153, k_X12_text_154, k_X12_text_155, k_X12_text_156, k_X12_text_157, k_X12_text_160, k_X12_text_163, k_X12_text_164, k_X12_text_165, k_X12_text_166, k_X12_text_167, k_X12_text_170, k_X12_text_173, k_X12_text_174, k_X12_text_177, k_X12_text_178, k_X12_text_181, k_X12_text_182, k_X12_text_185, k_X12_text_186, k_X12_text_187, k_X12_text_188, k_X12_text_189, k_X12_text_190, k_X12_text_193, k_X12_text_194, k_X12_text_195, k_X12_text_198, k_X12_text_199, k_X12_text_202, k_X12_text_203, k_X12_text_204, k_X12_text_205, k_X12_text_206, k_X12_text_207, k_X12_text_210, k_X12_text_213, k_X12_text_214, k_X12_text_215, k_X12_text_218, k_X12_text_221, k_X12_text_222, k_X12_text_223, k_X12_text_226, k_X12_text_229, k_X12_text_230, k_X12_text_231, k_X12_text_232, k_X12_text_233, k_X12_text_236, k_X12_text_237, k_X12_text_240, k_X12_text_241, k_X12_text_242, k_X12_text_245, k_X12_text_246, k_X12_text_247, k_X12_text_248, k_X12_text_251, k_X12_text_254, k_X12_text_255, k_X12_text_256, k_X12_text_257, k_X12_text_259, k_X12_text_262, k_X12_text_263, k_X12_text_266, k_X12_text_267, k_X12_text_268, k_X12_text_271, k_X12_text_272, k_X12_text_273, k_X12_text_274, k_X12_text_277, k_X12_text_280, k_X12_text_281, k_X12_text_282, k_X12_text_283, k_X12_text_285, k_X12_text_288, k_X12_text_289, k_X12_text_292, k_X12_text_293, k_X12_text_294, k_X12_text_297, k_X12_text_298, k_X12_text_299, k_X12_text_300, k_X12_text_303, k_X12_text_306, k_X12_text_307, k_X12_text_308, k_X12_text_309, k_X12_text_311, k_X12_text_314, k_X12_text_315, k_X12_text_318, k_X12_text_319, k_X12_text_320, k_X12_text_323, k_X12_text_324, k_X12_text_325, k_X12_text_326, k_X12_text_329, k_X12_text_332, k_X12_text_333, k_X12_text_334, k_X12_text_335, k_X12_text_338, k_X12_text_341, k_X12_text_342, k_X12_text_345, k_X12_text_346, k_X12_text_347, k_X12_text_348, k_X12_text_351, k_X12_text_354, k_X12_text_355, k_X12_text_356, k_X12_text_357, k_X12_text_358, k_X12_text_361, k_X12_text_364, k_X12_text_365, k_X12_text_367, k_X12_text_369, k_X12_text_370, k_X12_text_373, k_X12_text_374, k_X12_text_377, k_X12_text_378, k_X12_text_379, k_X12_text_380, k_X12_text_382, k_X12_text_383, k_X12_text_384, k_X12_text_387, k_X12_text_388, k_X12_text_389, k_X12_text_390, k_X12_text_392, k_X12_text_393, k_X12_text_394, k_X12_text_395, k_X12_text_398, k_X12_text_401, k_X12_text_404, k_X12_text_407, k_X12_text_408, k_X12_text_411, k_X12_text_413, k_X12_text_414, k_X12_text_417, k_X12_text_418, k_X12_text_419, k_X12_text_420, k_X12_text_421, k_X12_text_422, k_X12_text_425, k_X12_text_426, k_X12_text_427, k_X12_text_430, k_X12_text_431, k_X12_text_432, k_X12_text_435, k_X12_text_436, k_X12_text_439, c6]
        repeat' (first | apply And.intro | intro _)
        all_goals first | omega | exact absurd trivial (by assumption) | exact i9
      · have ek : (k : Int) = 2 := by omega
        have i9 : ∃ k', k' < n ∧ inv_txt Q 0 k' 256 [(28, 5000), (0, 0), (0, τ 5000 6), (0, 0), v4] [] (cpy (tx1 τ) 5006 0 5005 0 k) := by
          refine ⟨1916, by omega, rfl, τ, v4, Or.inr (Or.inr ⟨rfl, t32, hq, Or.inr (Or.inl ⟨rfl, 0, rfl, by omega, by omega, ?_⟩)⟩)⟩
          rw [ek]; exact (cpy_0 (tx2 τ) 5008 0 5007 0).symm
        simp only [↓reduceIte, inR_0, inR_1, inR_m, vSw2_e, swP_n, swP_c, vI_e, vL_e, vNull_e, vIload_e, vLload_e, vAload_e, vIstore_e, vLstore_e, vAstore_e, vIinc_e, vIadd_e, vIsub_e, vImul_e, vIand_e, vIor_e, vIxor_e, vIshl_e, vIshr_e, vIushr_e, vIdiv_e, vIrem_e, vLadd_e, vLsub_e, vLmul_e, vLand_e, vLor_e, vLxor_e, vLdiv_e, vLrem_e, vLushr_e, vLshl_e, vLcmp_e, vIneg_e, vI2l_e, vL2i_e, vI2b_e, vI2c_e, vDup_e, vPop_e, vDup2_e, vGoto_e, vIcEq_e, vIfEq_e, vIcNe_e, vIfNe_e, vIcLt_e, vIfLt_e, vIcGe_e, vIfGe_e, vIcGt_e, vIfGt_e, vIcLe_e, vIfLe_e, vNonnull_e, vSw_e, vGetI_e, vGetL_e, vGetR_e, vPutI_e, vPutZ_e, vPutL_e, vPutR_e, vIald_e, vIald_s, vLald_e, vBald_e, vBald_s, vAald_e, vIast_e, vLast_e, vBast_e, vAast_e, vAlen_e8, vAlen_e9, vAlen_e10, vAlen_e11, vAlen_e5, vAlen_e3, vGets_e, vCompact_e, vLdcS_e, vIret_e, vZret_e, vCret_e, vBret_e, vLret_e, vVret_e, vAret_e, vCallM_e0, vCallMV_e0, vCallS_e0, vCallSV_e0, vCallM_e1, vCallMV_e1, vCallS_e1, vCallSV_e1, vCallM_e2, vCallMV_e2, vCallS_e2, vCallSV_e2, vCallM_e3, vCallMV_e3, vCallS_e3, vCallSV_e3, vCallM_e4, vCallMV_e4, vCallS_e4, vCallSV_e4, vCallM_e5, vCallMV_e5, vCallS_e5, vCallSV_e5, vCallM_e6, vCallMV_e6, vCallS_e6, vCallSV_e6, vCallM_e7, vCallMV_e7, vCallS_e7, vCallSV_e7, vBad_e, vStrVal_e, vStrCod_e, vForm_e, vCallT_e0, vCallT_e1, vCallT_e2, vCopy_e, rf_0_0, rf_0_1, rf_0_2, rf_0_3, rf_0_4, rf_0_7, rf_0_10, rf_0_11, rf_0_12, rf_0_13, rf_0_14, rf_0_15, rf_0_16, rf_1_0, rf_3_0, rf_3_1, rf_6_0, rf_6_1, rf_9_0, rf_9_1, rf_9_3, rf_13_0, rf_13_1, rf_13_2, rf_16_0, rf_16_1, rf_16_2, rf_16_3, rf_21_0, rf_21_1, rf_21_2, rf_21_3, rf_26_0, rf_26_1, rf_26_2, rf_26_3, rf_26_4, rf_26_5, rf_26_6, rf_31_0, rf_31_2, rf_31_5, rf_31_6, rf_36_0, rf_36_1, rf_36_2, rf_36_3, rf_39_0, rf_39_1, rf_39_2, rf_41_0, rf_41_1, rf_41_2, rf_41_3, rf_5000_1, rf_5000_2, rf_5000_3, rf_5000_4, rf_5000_5, rf_5000_15, rf_5000_16, rf_5000_18, rf_5000_19, rf_5000_20, rf_5000_21, rf_5000_22, rf_5000_23, rf_5000_24, rf_5000_25, rf_5000_26, rf_5000_27, rf_5000_36, rf_5000_37, rf_5000_40, rf_5000_41, rf_5000_42, rf_5000_43, rf_5000_44, rf_5000_45, rf_5000_47, rf_5000_52, rf_5000_54, rf_5000_55, rf_100_0, rf_100_1, rf_103_0, rf_103_1, rf_106_0, rf_106_1, rf_109_0, rf_109_1, al_2, al_4, al_5, al_7, al_8, al_10, al_11, al_12, al_14, al_15, al_17, al_18, al_19, al_20, al_22, al_23, al_24, al_25, al_27, al_28, al_29, al_30, al_32, al_33, al_34, al_35, al_37, al_38, al_40, al_42, al_5001, al_5002, al_5003, al_5004, al_5005, al_5006, al_5007, al_5008, al_5009, al_5010, al_5011, al_5012, al_5013, al_5014, al_5015, al_5016, al_5017, al_5018, al_5019, al_5020, al_5021, al_5022, al_5023, al_5024, al_5025, al_5026, al_9000, al_101, al_102, al_104, al_105, al_107, al_108, al_110, al_111, vcs_e, lg_c0, lg_cs, lg_nil, set_c0, set_cs, okst_0, okst_s, acok_n, acok_c, List.contains_nil, List.contains_cons, Bool.or_false, Bool.false_or, Bool.false_eq_true, if_false, if_true, ite_self, ne_eq, true_and, and_true, not_false_eq_true, not_true_eq_false, false_imp_iff, true_imp_iff, Nat.ble_eq, Bool.and_eq_true, reduceCtorEq, or_false, false_or, or_true, true_or, false_and, and_false, and_self, Int.reduceLE, Int.reduceAdd, Int.reduceSub, Int.reduceMul, Int.reduceNeg, Int.reduceLT, Int.reduceEq, Int.reduceNe, Nat.reduceBEq, Nat.reduceBNe, Nat.reduceEqDiff, amCmp_in, amCmp_lt, amCmp_le, amCmp_gt, amCmp_ge, amCmp_eq, amCmp_ne, Nat.reduceLeDiff, Nat.reduceSub, Bool.and_true, Bool.true_and, Bool.and_self, Bool.or_true, Bool.true_or, isRf_3, isRf_4, isRf_5, isRf_8, isRf_9, isRf_10, isRf_11, isRf_15, isRf_16, isRf_17, isRf_18, isRf_19, isRf_20, isRf_21, isRf_22, isRf_23, isRf_24, isRf_25, isRf_26, isRf_27, isRf_28, k_X12_text_0, k_X12_text_1, k_X12_text_2, k_X12_text_5, k_X12_text_6, k_X12_text_7, k_X12_text_8, k_X12_text_11, k_X12_text_14, k_X12_text_17, k_X12_text_18, k_X12_text_19, k_X12_text_22, k_X12_text_23, k_X12_text_26, k_X12_text_27, k_X12_text_30, k_X12_text_31, k_X12_text_32, k_X12_text_35, k_X12_text_36, k_X12_text_39, k_X12_text_40, k_X12_text_43, k_X12_text_44, k_X12_text_45, k_X12_text_48, k_X12_text_49, k_X12_text_52, k_X12_text_53, k_X12_text_54, k_X12_text_55, k_X12_text_58, k_X12_text_59, k_X12_text_60, k_X12_text_61, k_X12_text_64, k_X12_text_65, k_X12_text_66, k_X12_text_69, k_X12_text_70, k_X12_text_71, k_X12_text_72, k_X12_text_73, k_X12_text_76, k_X12_text_77, k_X12_text_80, k_X12_text_83, k_X12_text_84, k_X12_text_87, k_X12_text_88, k_X12_text_89, k_X12_text_90, k_X12_text_91, k_X12_text_94, k_X12_text_95, k_X12_text_96, k_X12_text_97, k_X12_text_100, k_X12_text_103, k_X12_text_104, k_X12_text_107, k_X12_text_108, k_X12_text_111, k_X12_text_112, k_X12_text_113, k_X12_text_114, k_X12_text_115, k_X12_text_118, k_X12_text_119, k_X12_text_120, k_X12_text_123, k_X12_text_124, k_X12_text_127, k_X12_text_128, k_X12_text_129, k_X12_text_130, k_X12_text_131, k_X12_text_132, k_X12_text_135, k_X12_text_136, k_X12_text_137, k_X12_text_138, k_X12_text_140, k_X12_text_143, k_X12_text_144, k_X12_text_147, k_X12_text_149, k_X12_text_150, k_X12_text_153, k_X12_text_154, k_X12_text_155, k_X12_text_156, k_X12_text_157, k_X12_text_160, k_X12_text_163, k_X12_text_164, k_X12_text_165, k_X12_text_166, k_X12_text_167, k_X12_text_170, k_X12_text_173, k_X12_text_174, k_X12_text_177, k_X12_text_178, k_X12_text_181, k_X12_text_182, k_X12_text_185, k_X12_text_186, k_X12_text_187, k_X12_text_188, k_X12_text_189, k_X12_text_190, k_X12_text_193, k_X12_text_194, k_X12_text_195, k_X12_text_198, k_X12_text_199, k_X12_text_202, k_X12_text_203, k_X12_text_204, k_X12_text_205, k_X12_text_206, k_X12_text_207, k_X12_text_210, k_X12_text_213, k_X12_text_214, k_X12_text_215, k_X12_text_218, k_X12_text_221, k_X12_text_222, k_X12_text_223, k_X12_text_226, k_X12_text_229, k_X12_text_230, k_X12_text_231, k_X12_text_232, k_X12_text_233, k_X12_text_236, k_X12_text_237, k_X12_text_240, k_X12_text_241, k_X12_text_242, k_X12_text_245, k_X12_text_246, k_X12_text_247, k_X12_text_248, k_X12_text_251, k_X12_text_254, k_X12_text_255, k_X12_text_256, k_X12_text_257, k_X12_text_259, k_X12_text_262, k_X12_text_263, k_X12_text_266, k_X12_text_267, k_X12_text_268, k_X12_text_271, k_X12_text_272, k_X12_text_273, k_X12_text_274, k_X12_text_277, k_X12_text_280, k_X12_text_281, k_X12_text_282, k_X12_text_283, k_X12_text_285, k_X12_text_288, k_X12_text_289, k_X12_text_292, k_X12_text_293, k_X12_text_294, k_X12_text_297, k_X12_text_298, k_X12_text_299, k_X12_text_300, k_X12_text_303, k_X12_text_306, k_X12_text_307, k_X12_text_308, k_X12_text_309, k_X12_text_311, k_X12_text_314, k_X12_text_315, k_X12_text_318, k_X12_text_319, k_X12_text_320, k_X12_text_323, k_X12_text_324, k_X12_text_325, k_X12_text_326, k_X12_text_329, k_X12_text_332, k_X12_text_333, k_X12_text_334, k_X12_text_335, k_X12_text_338, k_X12_text_341, k_X12_text_342, k_X12_text_345, k_X12_text_346, k_X12_text_347, k_X12_text_348, k_X12_text_351, k_X12_text_354, k_X12_text_355, k_X12_text_356, k_X12_text_357, k_X12_text_358, k_X12_text_361, k_X12_text_364, k_X12_text_365, k_X12_text_367, k_X12_text_369, k_X12_text_370, k_X12_text_373, k_X12_text_374, k_X12_text_377, k_X12_text_378, k_X12_text_379, k_X12_text_380, k_X12_text_382, k_X12_text_383, k_X12_text_384, k_X12_text_387, k_X12_text_388, k_X12_text_389, k_X12_text_390, k_X12_text_392, k_X12_text_393, k_X12_text_394, k_X12_text_395, k_X12_text_398, k_X12_text_401, k_X12_text_404, k_X12_text_407, k_X12_text_408, k_X12_text_411, k_X12_text_413, k_X12_text_414, k_X12_text_417, k_X12_text_418, k_X12_text_419, k_X12_text_420, k_X12_text_421, k_X12_text_422, k_X12_text_425, k_X12_text_426, k_X12_text_427, k_X12_text_430, k_X12_text_431, k_X12_text_432, k_X12_text_435, k_X12_text_436, k_X12_text_439]
        repeat' (first | apply And.intro | intro _)
        all_goals first | omega | exact absurd trivial (by assumption) | exact i9
    · have c6 : cpy (tx2 τ) 5008 0 5007 0 k 5008 = tx2 τ 5008 := cpy_oo _ _ _ _ _ _ (by decide)
      refine ⟨60, ?_⟩
      by_cases cc : (k : Int) < 16
      · have i9 : ∃ k', k' < n ∧ inv_txt Q 0 k' 256 [(28, 5000), (0, 0), (0, τ 5000 6), (0, (k : Int) + 1), v4] [] (up (cpy (tx2 τ) 5008 0 5007 0 k) 5007 k (tx2 τ 5008 k)) := by
          refine ⟨n - 1, by omega, rfl, τ, v4, Or.inr (Or.inr ⟨rfl, t32, hq, Or.inr (Or.inl ⟨rfl, k + 1, rfl, by omega, by omega, ?_⟩)⟩)⟩
          have := cpyS (tx2 τ) 5008 0 5007 0 (k := k) (by omega)
          rw [Int.zero_add] at this
          rw [this]; rfl
        simp only [↓reduceIte, inR_0, inR_1, inR_m, vSw2_e, swP_n, swP_c, vI_e, vL_e, vNull_e, vIload_e, vLload_e, vAload_e, vIstore_e, vLstore_e, vAstore_e, vIinc_e, vIadd_e, vIsub_e, vImul_e, vIand_e, vIor_e, vIxor_e, vIshl_e, vIshr_e, vIushr_e, vIdiv_e, vIrem_e, vLadd_e, vLsub_e, vLmul_e, vLand_e, vLor_e, vLxor_e, vLdiv_e, vLrem_e, vLushr_e, vLshl_e, vLcmp_e, vIneg_e, vI2l_e, vL2i_e, vI2b_e, vI2c_e, vDup_e, vPop_e, vDup2_e, vGoto_e, vIcEq_e, vIfEq_e, vIcNe_e, vIfNe_e, vIcLt_e, vIfLt_e, vIcGe_e, vIfGe_e, vIcGt_e, vIfGt_e, vIcLe_e, vIfLe_e, vNonnull_e, vSw_e, vGetI_e, vGetL_e, vGetR_e, vPutI_e, vPutZ_e, vPutL_e, vPutR_e, vIald_e, vIald_s, vLald_e, vBald_e, vBald_s, vAald_e, vIast_e, vLast_e, vBast_e, vAast_e, vAlen_e8, vAlen_e9, vAlen_e10, vAlen_e11, vAlen_e5, vAlen_e3, vGets_e, vCompact_e, vLdcS_e, vIret_e, vZret_e, vCret_e, vBret_e, vLret_e, vVret_e, vAret_e, vCallM_e0, vCallMV_e0, vCallS_e0, vCallSV_e0, vCallM_e1, vCallMV_e1, vCallS_e1, vCallSV_e1, vCallM_e2, vCallMV_e2, vCallS_e2, vCallSV_e2, vCallM_e3, vCallMV_e3, vCallS_e3, vCallSV_e3, vCallM_e4, vCallMV_e4, vCallS_e4, vCallSV_e4, vCallM_e5, vCallMV_e5, vCallS_e5, vCallSV_e5, vCallM_e6, vCallMV_e6, vCallS_e6, vCallSV_e6, vCallM_e7, vCallMV_e7, vCallS_e7, vCallSV_e7, vBad_e, vStrVal_e, vStrCod_e, vForm_e, vCallT_e0, vCallT_e1, vCallT_e2, vCopy_e, rf_0_0, rf_0_1, rf_0_2, rf_0_3, rf_0_4, rf_0_7, rf_0_10, rf_0_11, rf_0_12, rf_0_13, rf_0_14, rf_0_15, rf_0_16, rf_1_0, rf_3_0, rf_3_1, rf_6_0, rf_6_1, rf_9_0, rf_9_1, rf_9_3, rf_13_0, rf_13_1, rf_13_2, rf_16_0, rf_16_1, rf_16_2, rf_16_3, rf_21_0, rf_21_1, rf_21_2, rf_21_3, rf_26_0, rf_26_1, rf_26_2, rf_26_3, rf_26_4, rf_26_5, rf_26_6, rf_31_0, rf_31_2, rf_31_5, rf_31_6, rf_36_0, rf_36_1, rf_36_2, rf_36_3, rf_39_0, rf_39_1, rf_39_2, rf_41_0, rf_41_1, rf_41_2, rf_41_3, rf_5000_1, rf_5000_2, rf_5000_3, rf_5000_4, rf_5000_5, rf_5000_15, rf_5000_16, rf_5000_18, rf_5000_19, rf_5000_20, rf_5000_21, rf_5000_22, rf_5000_23, rf_5000_24, rf_5000_25, rf_5000_26, rf_5000_27, rf_5000_36, rf_5000_37, rf_5000_40, rf_5000_41, rf_5000_42, rf_5000_43, rf_5000_44, rf_5000_45, rf_5000_47, rf_5000_52, rf_5000_54, rf_5000_55, rf_100_0, rf_100_1, rf_103_0, rf_103_1, rf_106_0, rf_106_1, rf_109_0, rf_109_1, al_2, al_4, al_5, al_7, al_8, al_10, al_11, al_12, al_14, al_15, al_17, al_18, al_19, al_20, al_22, al_23, al_24, al_25, al_27, al_28, al_29, al_30, al_32, al_33, al_34, al_35, al_37, al_38, al_40, al_42, al_5001, al_5002, al_5003, al_5004, al_5005, al_5006, al_5007, al_5008, al_5009, al_5010, al_5011, al_5012, al_5013, al_5014, al_5015, al_5016, al_5017, al_5018, al_5019, al_5020, al_5021, al_5022, al_5023, al_5024, al_5025, al_5026, al_9000, al_101, al_102, al_104, al_105, al_107, al_108, al_110, al_111, vcs_e, lg_c0, lg_cs, lg_nil, set_c0, set_cs, okst_0, okst_s, acok_n, acok_c, List.contains_nil, List.contains_cons, Bool.or_false, Bool.false_or, Bool.false_eq_true, if_false, if_true, ite_self, ne_eq, true_and, and_true, not_false_eq_true, not_true_eq_false, false_imp_iff, true_imp_iff, Nat.ble_eq, Bool.and_eq_true, reduceCtorEq, or_false, false_or, or_true, true_or, false_and, and_false, and_self, Int.reduceLE, Int.reduceAdd, Int.reduceSub, Int.reduceMul, Int.reduceNeg, Int.reduceLT, Int.reduceEq, Int.reduceNe, Nat.reduceBEq, Nat.reduceBNe, Nat.reduceEqDiff, amCmp_in, amCmp_lt, amCmp_le, amCmp_gt, amCmp_ge, amCmp_eq, amCmp_ne, Nat.reduceLeDiff, Nat.reduceSub, Bool.and_true, Bool.true_and, Bool.and_self, Bool.or_true, Bool.true_or, isRf_3, isRf_4, isRf_5, isRf_8, isRf_9, isRf_10, isRf_11, isRf_15, isRf_16, isRf_17, isRf_18, isRf_19, isRf_20, isRf_21, isRf_22, isRf_23, isRf_24, isRf_25, isRf_26, isRf_27, isRf_28, k_X12_text_0, k_X12_text_1, k_X12_text_2, k_X12_text_5, k_X12_text_6, k_X12_text_7, k_X12_text_8, k_X12_text_11, k_X12_text_14, k_X12_text_17, k_X12_text_18, k_X12_text_19, k_X12_text_22, k_X12_text_23, k_X12_text_26, k_X12_text_27, k_X12_text_30, k_X12_text_31, k_X12_text_32, k_X12_text_35, k_X12_text_36, k_X12_text_39, k_X12_text_40, k_X12_text_43, k_X12_text_44, k_X12_text_45, k_X12_text_48, k_X12_text_49, k_X12_text_52, k_X12_text_53, k_X12_text_54, k_X12_text_55, k_X12_text_58, k_X12_text_59, k_X12_text_60, k_X12_text_61, k_X12_text_64, k_X12_text_65, k_X12_text_66, k_X12_text_69, k_X12_text_70, k_X12_text_71, k_X12_text_72, k_X12_text_73, k_X12_text_76, k_X12_text_77, k_X12_text_80, k_X12_text_83, k_X12_text_84, k_X12_text_87, k_X12_text_88, k_X12_text_89, k_X12_text_90, k_X12_text_91, k_X12_text_94, k_X12_text_95, k_X12_text_96, k_X12_text_97, k_X12_text_100, k_X12_text_103, k_X12_text_104, k_X12_text_107, k_X12_text_108, k_X12_text_111, k_X12_text_112, k_X12_text_113, k_X12_text_114, k_X12_text_115, k_X12_text_118, k_X12_text_119, k_X12_text_120, k_X12_text_123, k_X12_text_124, k_X12_text_127, k_X12_text_128, k_X12_text_129, k_X12_text_130, k_X12_text_131, k_X12_text_132, k_X12_text_135, k_X12_text_136, k_X12_text_137, k_X12_text_138, k_X12_text_140, k_X12_text_143, k_X12_text_144, k_X12_text_147, k_X12_text_149, k_X12_text_150, k_X12_text_153, k_X12_text_154, k_X12_text_155, k_X12_text_156, k_X12_text_157, k_X12_text_160, k_X12_text_163, k_X12_text_164, k_X12_text_165, k_X12_text_166, k_X12_text_167, k_X12_text_170, k_X12_text_173, k_X12_text_174, k_X12_text_177, k_X12_text_178, k_X12_text_181, k_X12_text_182, k_X12_text_185, k_X12_text_186, k_X12_text_187, k_X12_text_188, k_X12_text_189, k_X12_text_190, k_X12_text_193, k_X12_text_194, k_X12_text_195, k_X12_text_198, k_X12_text_199, k_X12_text_202, k_X12_text_203, k_X12_text_204, k_X12_text_205, k_X12_text_206, k_X12_text_207, k_X12_text_210, k_X12_text_213, k_X12_text_214, k_X12_text_215, k_X12_text_218, k_X12_text_221, k_X12_text_222, k_X12_text_223, k_X12_text_226, k_X12_text_229, k_X12_text_230, k_X12_text_231, k_X12_text_232, k_X12_text_233, k_X12_text_236, k_X12_text_237, k_X12_text_240, k_X12_text_241, k_X12_text_242, k_X12_text_245, k_X12_text_246, k_X12_text_247, k_X12_text_248, k_X12_text_251, k_X12_text_254, k_X12_text_255, k_X12_text_256, k_X12_text_257, k_X12_text_259, k_X12_text_262, k_X12_text_263, k_X12_text_266, k_X12_text_267, k_X12_text_268, k_X12_text_271, k_X12_text_272, k_X12_text_273, k_X12_text_274, k_X12_text_277, k_X12_text_280, k_X12_text_281, k_X12_text_282, k_X12_text_283, k_X12_text_285, k_X12_text_288, k_X12_text_289, k_X12_text_292, k_X12_text_293, k_X12_text_294, k_X12_text_297, k_X12_text_298, k_X12_text_299, k_X12_text_300, k_X12_text_303, k_X12_text_306, k_X12_text_307, k_X12_text_308, k_X12_text_309, k_X12_text_311, k_X12_text_314, k_X12_text_315, k_X12_text_318, k_X12_text_319, k_X12_text_320, k_X12_text_323, k_X12_text_324, k_X12_text_325, k_X12_text_326, k_X12_text_329, k_X12_text_332, k_X12_text_333, k_X12_text_334, k_X12_text_335, k_X12_text_338, k_X12_text_341, k_X12_text_342, k_X12_text_345, k_X12_text_346, k_X12_text_347, k_X12_text_348, k_X12_text_351, k_X12_text_354, k_X12_text_355, k_X12_text_356, k_X12_text_357, k_X12_text_358, k_X12_text_361, k_X12_text_364, k_X12_text_365, k_X12_text_367, k_X12_text_369, k_X12_text_370, k_X12_text_373, k_X12_text_374, k_X12_text_377, k_X12_text_378, k_X12_text_379, k_X12_text_380, k_X12_text_382, k_X12_text_383, k_X12_text_384, k_X12_text_387, k_X12_text_388, k_X12_text_389, k_X12_text_390, k_X12_text_392, k_X12_text_393, k_X12_text_394, k_X12_text_395, k_X12_text_398, k_X12_text_401, k_X12_text_404, k_X12_text_407, k_X12_text_408, k_X12_text_411, k_X12_text_413, k_X12_text_414, k_X12_text_417, k_X12_text_418, k_X12_text_419, k_X12_text_420, k_X12_text_421, k_X12_text_422, k_X12_text_425, k_X12_text_426, k_X12_text_427, k_X12_text_430, k_X12_text_431, k_X12_text_432, k_X12_text_435, k_X12_text_436, k_X12_text_439, c6]
        repeat' (first | apply And.intro | intro _)
        all_goals first | omega | exact absurd trivial (by assumption) | exact i9
      · have ek : (k : Int) = 16 := by omega
        have i9 : ∃ k', k' < n ∧ inv_txt Q 0 k' 282 [(28, 5000), (0, 0), (0, τ 5000 6), (0, 0), v4] [] (cpy (tx2 τ) 5008 0 5007 0 k) := by
          refine ⟨1818, by omega, rfl, τ, v4, Or.inr (Or.inr ⟨rfl, t32, hq, Or.inr (Or.inr (Or.inl ⟨rfl, 0, rfl, by omega, by omega, ?_⟩))⟩)⟩
          rw [ek]; exact (cpy_0 (tx3 τ) 5010 0 5009 0).symm
        simp only [↓reduceIte, inR_0, inR_1, inR_m, vSw2_e, swP_n, swP_c, vI_e, vL_e, vNull_e, vIload_e, vLload_e, vAload_e, vIstore_e, vLstore_e, vAstore_e, vIinc_e, vIadd_e, vIsub_e, vImul_e, vIand_e, vIor_e, vIxor_e, vIshl_e, vIshr_e, vIushr_e, vIdiv_e, vIrem_e, vLadd_e, vLsub_e, vLmul_e, vLand_e, vLor_e, vLxor_e, vLdiv_e, vLrem_e, vLushr_e, vLshl_e, vLcmp_e, vIneg_e, vI2l_e, vL2i_e, vI2b_e, vI2c_e, vDup_e, vPop_e, vDup2_e, vGoto_e, vIcEq_e, vIfEq_e, vIcNe_e, vIfNe_e, vIcLt_e, vIfLt_e, vIcGe_e, vIfGe_e, vIcGt_e, vIfGt_e, vIcLe_e, vIfLe_e, vNonnull_e, vSw_e, vGetI_e, vGetL_e, vGetR_e, vPutI_e, vPutZ_e, vPutL_e, vPutR_e, vIald_e, vIald_s, vLald_e, vBald_e, vBald_s, vAald_e, vIast_e, vLast_e, vBast_e, vAast_e, vAlen_e8, vAlen_e9, vAlen_e10, vAlen_e11, vAlen_e5, vAlen_e3, vGets_e, vCompact_e, vLdcS_e, vIret_e, vZret_e, vCret_e, vBret_e, vLret_e, vVret_e, vAret_e, vCallM_e0, vCallMV_e0, vCallS_e0, vCallSV_e0, vCallM_e1, vCallMV_e1, vCallS_e1, vCallSV_e1, vCallM_e2, vCallMV_e2, vCallS_e2, vCallSV_e2, vCallM_e3, vCallMV_e3, vCallS_e3, vCallSV_e3, vCallM_e4, vCallMV_e4, vCallS_e4, vCallSV_e4, vCallM_e5, vCallMV_e5, vCallS_e5, vCallSV_e5, vCallM_e6, vCallMV_e6, vCallS_e6, vCallSV_e6, vCallM_e7, vCallMV_e7, vCallS_e7, vCallSV_e7, vBad_e, vStrVal_e, vStrCod_e, vForm_e, vCallT_e0, vCallT_e1, vCallT_e2, vCopy_e, rf_0_0, rf_0_1, rf_0_2, rf_0_3, rf_0_4, rf_0_7, rf_0_10, rf_0_11, rf_0_12, rf_0_13, rf_0_14, rf_0_15, rf_0_16, rf_1_0, rf_3_0, rf_3_1, rf_6_0, rf_6_1, rf_9_0, rf_9_1, rf_9_3, rf_13_0, rf_13_1, rf_13_2, rf_16_0, rf_16_1, rf_16_2, rf_16_3, rf_21_0, rf_21_1, rf_21_2, rf_21_3, rf_26_0, rf_26_1, rf_26_2, rf_26_3, rf_26_4, rf_26_5, rf_26_6, rf_31_0, rf_31_2, rf_31_5, rf_31_6, rf_36_0, rf_36_1, rf_36_2, rf_36_3, rf_39_0, rf_39_1, rf_39_2, rf_41_0, rf_41_1, rf_41_2, rf_41_3, rf_5000_1, rf_5000_2, rf_5000_3, rf_5000_4, rf_5000_5, rf_5000_15, rf_5000_16, rf_5000_18, rf_5000_19, rf_5000_20, rf_5000_21, rf_5000_22, rf_5000_23, rf_5000_24, rf_5000_25, rf_5000_26, rf_5000_27, rf_5000_36, rf_5000_37, rf_5000_40, rf_5000_41, rf_5000_42, rf_5000_43, rf_5000_44, rf_5000_45, rf_5000_47, rf_5000_52, rf_5000_54, rf_5000_55, rf_100_0, rf_100_1, rf_103_0, rf_103_1, rf_106_0, rf_106_1, rf_109_0, rf_109_1, al_2, al_4, al_5, al_7, al_8, al_10, al_11, al_12, al_14, al_15, al_17, al_18, al_19, al_20, al_22, al_23, al_24, al_25, al_27, al_28, al_29, al_30, al_32, al_33, al_34, al_35, al_37, al_38, al_40, al_42, al_5001, al_5002, al_5003, al_5004, al_5005, al_5006, al_5007, al_5008, al_5009, al_5010, al_5011, al_5012, al_5013, al_5014, al_5015, al_5016, al_5017, al_5018, al_5019, al_5020, al_5021, al_5022, al_5023, al_5024, al_5025, al_5026, al_9000, al_101, al_102, al_104, al_105, al_107, al_108, al_110, al_111, vcs_e, lg_c0, lg_cs, lg_nil, set_c0, set_cs, okst_0, okst_s, acok_n, acok_c, List.contains_nil, List.contains_cons, Bool.or_false, Bool.false_or, Bool.false_eq_true, if_false, if_true, ite_self, ne_eq, true_and, and_true, not_false_eq_true, not_true_eq_false, false_imp_iff, true_imp_iff, Nat.ble_eq, Bool.and_eq_true, reduceCtorEq, or_false, false_or, or_true, true_or, false_and, and_false, and_self, Int.reduceLE, Int.reduceAdd, Int.reduceSub, Int.reduceMul, Int.reduceNeg, Int.reduceLT, Int.reduceEq, Int.reduceNe, Nat.reduceBEq, Nat.reduceBNe, Nat.reduceEqDiff, amCmp_in, amCmp_lt, amCmp_le, amCmp_gt, amCmp_ge, amCmp_eq, amCmp_ne, Nat.reduceLeDiff, Nat.reduceSub, Bool.and_true, Bool.true_and, Bool.and_self, Bool.or_true, Bool.true_or, isRf_3, isRf_4, isRf_5, isRf_8, isRf_9, isRf_10, isRf_11, isRf_15, isRf_16, isRf_17, isRf_18, isRf_19, isRf_20, isRf_21, isRf_22, isRf_23, isRf_24, isRf_25, isRf_26, isRf_27, isRf_28, k_X12_text_0, k_X12_text_1, k_X12_text_2, k_X12_text_5, k_X12_text_6, k_X12_text_7, k_X12_text_8, k_X12_text_11, k_X12_text_14, k_X12_text_17, k_X12_text_18, k_X12_text_19, k_X12_text_22, k_X12_text_23, k_X12_text_26, k_X12_text_27, k_X12_text_30, k_X12_text_31, k_X12_text_32, k_X12_text_35, k_X12_text_36, k_X12_text_39, k_X12_text_40, k_X12_text_43, k_X12_text_44, k_X12_text_45, k_X12_text_48, k_X12_text_49, k_X12_text_52, k_X12_text_53, k_X12_text_54, k_X12_text_55, k_X12_text_58, k_X12_text_59, k_X12_text_60, k_X12_text_61, k_X12_text_64, k_X12_text_65, k_X12_text_66, k_X12_text_69, k_X12_text_70, k_X12_text_71, k_X12_text_72, k_X12_text_73, k_X12_text_76, k_X12_text_77, k_X12_text_80, k_X12_text_83, k_X12_text_84, k_X12_text_87, k_X12_text_88, k_X12_text_89, k_X12_text_90, k_X12_text_91, k_X12_text_94, k_X12_text_95, k_X12_text_96, k_X12_text_97, k_X12_text_100, k_X12_text_103, k_X12_text_104, k_X12_text_107, k_X12_text_108, k_X12_text_111, k_X12_text_112, k_X12_text_113, k_X12_text_114, k_X12_text_115, k_X12_text_118, k_X12_text_119, k_X12_text_120, k_X12_text_123, k_X12_text_124, k_X12_text_127, k_X12_text_128, k_X12_text_129, k_X12_text_130, k_X12_text_131, k_X12_text_132, k_X12_text_135, k_X12_text_136, k_X12_text_137, k_X12_text_138, k_X12_text_140, k_X12_text_143, k_X12_text_144, k_X12_text_147, k_X12_text_149, k_X12_text_150, k_X12_text_153, k_X12_text_154, k_X12_text_155, k_X12_text_156, k_X12_text_157, k_X12_text_160, k_X12_text_163, k_X12_text_164, k_X12_text_165, k_X12_text_166, k_X12_text_167, k_X12_text_170, k_X12_text_173, k_X12_text_174, k_X12_text_177, k_X12_text_178, k_X12_text_181, k_X12_text_182, k_X12_text_185, k_X12_text_186, k_X12_text_187, k_X12_text_188, k_X12_text_189, k_X12_text_190, k_X12_text_193, k_X12_text_194, k_X12_text_195, k_X12_text_198, k_X12_text_199, k_X12_text_202, k_X12_text_203, k_X12_text_204, k_X12_text_205, k_X12_text_206, k_X12_text_207, k_X12_text_210, k_X12_text_213, k_X12_text_214, k_X12_text_215, k_X12_text_218, k_X12_text_221, k_X12_text_222, k_X12_text_223, k_X12_text_226, k_X12_text_229, k_X12_text_230, k_X12_text_231, k_X12_text_232, k_X12_text_233, k_X12_text_236, k_X12_text_237, k_X12_text_240, k_X12_text_241, k_X12_text_242, k_X12_text_245, k_X12_text_246, k_X12_text_247, k_X12_text_248, k_X12_text_251, k_X12_text_254, k_X12_text_255, k_X12_text_256, k_X12_text_257, k_X12_text_259, k_X12_text_262, k_X12_text_263, k_X12_text_266, k_X12_text_267, k_X12_text_268, k_X12_text_271, k_X12_text_272, k_X12_text_273, k_X12_text_274, k_X12_text_277, k_X12_text_280, k_X12_text_281, k_X12_text_282, k_X12_text_283, k_X12_text_285, k_X12_text_288, k_X12_text_289, k_X12_text_292, k_X12_text_293, k_X12_text_294, k_X12_text_297, k_X12_text_298, k_X12_text_299, k_X12_text_300, k_X12_text_303, k_X12_text_306, k_X12_text_307, k_X12_text_308, k_X12_text_309, k_X12_text_311, k_X12_text_314, k_X12_text_315, k_X12_text_318, k_X12_text_319, k_X12_text_320, k_X12_text_323, k_X12_text_324, k_X12_text_325, k_X12_text_326, k_X12_text_329, k_X12_text_332, k_X12_text_333, k_X12_text_334, k_X12_text_335, k_X12_text_338, k_X12_text_341, k_X12_text_342, k_X12_text_345, k_X12_text_346, k_X12_text_347, k_X12_text_348, k_X12_text_351, k_X12_text_354, k_X12_text_355, k_X12_text_356, k_X12_text_357, k_X12_text_358, k_X12_text_361, k_X12_text_364, k_X12_text_365, k_X12_text_367, k_X12_text_369, k_X12_text_370, k_X12_text_373, k_X12_text_374, k_X12_text_377, k_X12_text_378, k_X12_text_379, k_X12_text_380, k_X12_text_382, k_X12_text_383, k_X12_text_384, k_X12_text_387, k_X12_text_388, k_X12_text_389, k_X12_text_390, k_X12_text_392, k_X12_text_393, k_X12_text_394, k_X12_text_395, k_X12_text_398, k_X12_text_401, k_X12_text_404, k_X12_text_407, k_X12_text_408, k_X12_text_411, k_X12_text_413, k_X12_text_414, k_X12_text_417, k_X12_text_418, k_X12_text_419, k_X12_text_420, k_X12_text_421, k_X12_text_422, k_X12_text_425, k_X12_text_426, k_X12_text_427, k_X12_text_430, k_X12_text_431, k_X12_text_432, k_X12_text_435, k_X12_text_436, k_X12_text_439]
        repeat' (first | apply And.intro | intro _)
        all_goals first | omega | exact absurd trivial (by assumption) | exact i9
    · have c6 : cpy (tx3 τ) 5010 0 5009 0 k 5010 = tx3 τ 5010 := cpy_oo _ _ _ _ _ _ (by decide)
      refine ⟨60, ?_⟩
      by_cases cc : (k : Int) < 18
      · have i9 : ∃ k', k' < n ∧ inv_txt Q 0 k' 282 [(28, 5000), (0, 0), (0, τ 5000 6), (0, (k : Int) + 1), v4] [] (up (cpy (tx3 τ) 5010 0 5009 0 k) 5009 k (tx3 τ 5010 k)) := by
          refine ⟨n - 1, by omega, rfl, τ, v4, Or.inr (Or.inr ⟨rfl, t32, hq, Or.inr (Or.inr (Or.inl ⟨rfl, k + 1, rfl, by omega, by omega, ?_⟩))⟩)⟩
          have := cpyS (tx3 τ) 5010 0 5009 0 (k := k) (by omega)
          rw [Int.zero_add] at this
          rw [this]; rfl
        simp only [↓reduceIte, inR_0, inR_1, inR_m, vSw2_e, swP_n, swP_c, vI_e, vL_e, vNull_e, vIload_e, vLload_e, vAload_e, vIstore_e, vLstore_e, vAstore_e, vIinc_e, vIadd_e, vIsub_e, vImul_e, vIand_e, vIor_e, vIxor_e, vIshl_e, vIshr_e, vIushr_e, vIdiv_e, vIrem_e, vLadd_e, vLsub_e, vLmul_e, vLand_e, vLor_e, vLxor_e, vLdiv_e, vLrem_e, vLushr_e, vLshl_e, vLcmp_e, vIneg_e, vI2l_e, vL2i_e, vI2b_e, vI2c_e, vDup_e, vPop_e, vDup2_e, vGoto_e, vIcEq_e, vIfEq_e, vIcNe_e, vIfNe_e, vIcLt_e, vIfLt_e, vIcGe_e, vIfGe_e, vIcGt_e, vIfGt_e, vIcLe_e, vIfLe_e, vNonnull_e, vSw_e, vGetI_e, vGetL_e, vGetR_e, vPutI_e, vPutZ_e, vPutL_e, vPutR_e, vIald_e, vIald_s, vLald_e, vBald_e, vBald_s, vAald_e, vIast_e, vLast_e, vBast_e, vAast_e, vAlen_e8, vAlen_e9, vAlen_e10, vAlen_e11, vAlen_e5, vAlen_e3, vGets_e, vCompact_e, vLdcS_e, vIret_e, vZret_e, vCret_e, vBret_e, vLret_e, vVret_e, vAret_e, vCallM_e0, vCallMV_e0, vCallS_e0, vCallSV_e0, vCallM_e1, vCallMV_e1, vCallS_e1, vCallSV_e1, vCallM_e2, vCallMV_e2, vCallS_e2, vCallSV_e2, vCallM_e3, vCallMV_e3, vCallS_e3, vCallSV_e3, vCallM_e4, vCallMV_e4, vCallS_e4, vCallSV_e4, vCallM_e5, vCallMV_e5, vCallS_e5, vCallSV_e5, vCallM_e6, vCallMV_e6, vCallS_e6, vCallSV_e6, vCallM_e7, vCallMV_e7, vCallS_e7, vCallSV_e7, vBad_e, vStrVal_e, vStrCod_e, vForm_e, vCallT_e0, vCallT_e1, vCallT_e2, vCopy_e, rf_0_0, rf_0_1, rf_0_2, rf_0_3, rf_0_4, rf_0_7, rf_0_10, rf_0_11, rf_0_12, rf_0_13, rf_0_14, rf_0_15, rf_0_16, rf_1_0, rf_3_0, rf_3_1, rf_6_0, rf_6_1, rf_9_0, rf_9_1, rf_9_3, rf_13_0, rf_13_1, rf_13_2, rf_16_0, rf_16_1, rf_16_2, rf_16_3, rf_21_0, rf_21_1, rf_21_2, rf_21_3, rf_26_0, rf_26_1, rf_26_2, rf_26_3, rf_26_4, rf_26_5, rf_26_6, rf_31_0, rf_31_2, rf_31_5, rf_31_6, rf_36_0, rf_36_1, rf_36_2, rf_36_3, rf_39_0, rf_39_1, rf_39_2, rf_41_0, rf_41_1, rf_41_2, rf_41_3, rf_5000_1, rf_5000_2, rf_5000_3, rf_5000_4, rf_5000_5, rf_5000_15, rf_5000_16, rf_5000_18, rf_5000_19, rf_5000_20, rf_5000_21, rf_5000_22, rf_5000_23, rf_5000_24, rf_5000_25, rf_5000_26, rf_5000_27, rf_5000_36, rf_5000_37, rf_5000_40, rf_5000_41, rf_5000_42, rf_5000_43, rf_5000_44, rf_5000_45, rf_5000_47, rf_5000_52, rf_5000_54, rf_5000_55, rf_100_0, rf_100_1, rf_103_0, rf_103_1, rf_106_0, rf_106_1, rf_109_0, rf_109_1, al_2, al_4, al_5, al_7, al_8, al_10, al_11, al_12, al_14, al_15, al_17, al_18, al_19, al_20, al_22, al_23, al_24, al_25, al_27, al_28, al_29, al_30, al_32, al_33, al_34, al_35, al_37, al_38, al_40, al_42, al_5001, al_5002, al_5003, al_5004, al_5005, al_5006, al_5007, al_5008, al_5009, al_5010, al_5011, al_5012, al_5013, al_5014, al_5015, al_5016, al_5017, al_5018, al_5019, al_5020, al_5021, al_5022, al_5023, al_5024, al_5025, al_5026, al_9000, al_101, al_102, al_104, al_105, al_107, al_108, al_110, al_111, vcs_e, lg_c0, lg_cs, lg_nil, set_c0, set_cs, okst_0, okst_s, acok_n, acok_c, List.contains_nil, List.contains_cons, Bool.or_false, Bool.false_or, Bool.false_eq_true, if_false, if_true, ite_self, ne_eq, true_and, and_true, not_false_eq_true, not_true_eq_false, false_imp_iff, true_imp_iff, Nat.ble_eq, Bool.and_eq_true, reduceCtorEq, or_false, false_or, or_true, true_or, false_and, and_false, and_self, Int.reduceLE, Int.reduceAdd, Int.reduceSub, Int.reduceMul, Int.reduceNeg, Int.reduceLT, Int.reduceEq, Int.reduceNe, Nat.reduceBEq, Nat.reduceBNe, Nat.reduceEqDiff, amCmp_in, amCmp_lt, amCmp_le, amCmp_gt, amCmp_ge, amCmp_eq, amCmp_ne, Nat.reduceLeDiff, Nat.reduceSub, Bool.and_true, Bool.true_and, Bool.and_self, Bool.or_true, Bool.true_or, isRf_3, isRf_4, isRf_5, isRf_8, isRf_9, isRf_10, isRf_11, isRf_15, isRf_16, isRf_17, isRf_18, isRf_19, isRf_20, isRf_21, isRf_22, isRf_23, isRf_24, isRf_25, isRf_26, isRf_27, isRf_28, k_X12_text_0, k_X12_text_1, k_X12_text_2, k_X12_text_5, k_X12_text_6, k_X12_text_7, k_X12_text_8, k_X12_text_11, k_X12_text_14, k_X12_text_17, k_X12_text_18, k_X12_text_19, k_X12_text_22, k_X12_text_23, k_X12_text_26, k_X12_text_27, k_X12_text_30, k_X12_text_31, k_X12_text_32, k_X12_text_35, k_X12_text_36, k_X12_text_39, k_X12_text_40, k_X12_text_43, k_X12_text_44, k_X12_text_45, k_X12_text_48, k_X12_text_49, k_X12_text_52, k_X12_text_53, k_X12_text_54, k_X12_text_55, k_X12_text_58, k_X12_text_59, k_X12_text_60, k_X12_text_61, k_X12_text_64, k_X12_text_65, k_X12_text_66, k_X12_text_69, k_X12_text_70, k_X12_text_71, k_X12_text_72, k_X12_text_73, k_X12_text_76, k_X12_text_77, k_X12_text_80, k_X12_text_83, k_X12_text_84, k_X12_text_87, k_X12_text_88, k_X12_text_89, k_X12_text_90, k_X12_text_91, k_X12_text_94, k_X12_text_95, k_X12_text_96, k_X12_text_97, k_X12_text_100, k_X12_text_103, k_X12_text_104, k_X12_text_107, k_X12_text_108, k_X12_text_111, k_X12_text_112, k_X12_text_113, k_X12_text_114, k_X12_text_115, k_X12_text_118, k_X12_text_119, k_X12_text_120, k_X12_text_123, k_X12_text_124, k_X12_text_127, k_X12_text_128, k_X12_text_129, k_X12_text_130, k_X12_text_131, k_X12_text_132, k_X12_text_135, k_X12_text_136, k_X12_text_137, k_X12_text_138, k_X12_text_140, k_X12_text_143, k_X12_text_144, k_X12_text_147, k_X12_text_149, k_X12_text_150, k_X12_text_153, k_X12_text_154, k_X12_text_155, k_X12_text_156, k_X12_text_157, k_X12_text_160, k_X12_text_163, k_X12_text_164, k_X12_text_165, k_X12_text_166, k_X12_text_167, k_X12_text_170, k_X12_text_173, k_X12_text_174, k_X12_text_177, k_X12_text_178, k_X12_text_181, k_X12_text_182, k_X12_text_185, k_X12_text_186, k_X12_text_187, k_X12_text_188, k_X12_text_189, k_X12_text_190, k_X12_text_193, k_X12_text_194, k_X12_text_195, k_X12_text_198, k_X12_text_199, k_X12_text_202, k_X12_text_203, k_X12_text_204, k_X12_text_205, k_X12_text_206, k_X12_text_207, k_X12_text_210, k_X12_text_213, k_X12_text_214, k_X12_text_215, k_X12_text_218, k_X12_text_221, k_X12_text_222, k_X12_text_223, k_X12_text_226, k_X12_text_229, k_X12_text_230, k_X12_text_231, k_X12_text_232, k_X12_text_233, k_X12_text_236, k_X12_text_237, k_X12_text_240, k_X12_text_241, k_X12_text_242, k_X12_text_245, k_X12_text_246, k_X12_text_247, k_X12_text_248, k_X12_text_251, k_X12_text_254, k_X12_text_255, k_X12_text_256, k_X12_text_257, k_X12_text_259, k_X12_text_262, k_X12_text_263, k_X12_text_266, k_X12_text_267, k_X12_text_268, k_X12_text_271, k_X12_text_272, k_X12_text_273, k_X12_text_274, k_X12_text_277, k_X12_text_280, k_X12_text_281, k_X12_text_282, k_X12_text_283, k_X12_text_285, k_X12_text_288, k_X12_text_289, k_X12_text_292, k_X12_text_293, k_X12_text_294, k_X12_text_297, k_X12_text_298, k_X12_text_299, k_X12_text_300, k_X12_text_303, k_X12_text_306, k_X12_text_307, k_X12_text_308, k_X12_text_309, k_X12_text_311, k_X12_text_314, k_X12_text_315, k_X12_text_318, k_X12_text_319, k_X12_text_320, k_X12_text_323, k_X12_text_324, k_X12_text_325, k_X12_text_326, k_X12_text_329, k_X12_text_332, k_X12_text_333, k_X12_text_334, k_X12_text_335, k_X12_text_338, k_X12_text_341, k_X12_text_342, k_X12_text_345, k_X12_text_346, k_X12_text_347, k_X12_text_348, k_X12_text_351, k_X12_text_354, k_X12_text_355, k_X12_text_356, k_X12_text_357, k_X12_text_358, k_X12_text_361, k_X12_text_364, k_X12_text_365, k_X12_text_367, k_X12_text_369, k_X12_text_370, k_X12_text_373, k_X12_text_374, k_X12_text_377, k_X12_text_378, k_X12_text_379, k_X12_text_380, k_X12_text_382, k_X12_text_383, k_X12_text_384, k_X12_text_387, k_X12_text_388, k_X12_text_389, k_X12_text_390, k_X12_text_392, k_X12_text_393, k_X12_text_394, k_X12_text_395, k_X12_text_398, k_X12_text_401, k_X12_text_404, k_X12_text_407, k_X12_text_408, k_X12_text_411, k_X12_text_413, k_X12_text_414, k_X12_text_417, k_X12_text_418, k_X12_text_419, k_X12_text_420, k_X12_text_421, k_X12_text_422, k_X12_text_425, k_X12_text_426, k_X12_text_427, k_X12_text_430, k_X12_text_431, k_X12_text_432, k_X12_text_435, k_X12_text_436, k_X12_text_439, c6]
        repeat' (first | apply And.intro | intro _)
        all_goals first | omega | exact absurd trivial (by assumption) | exact i9
      · have ek : (k : Int) = 18 := by omega
        have i9 : ∃ k', k' < n ∧ inv_txt Q 0 k' 308 [(28, 5000), (0, 0), (0, τ 5000 6), (0, 0), v4] [] (cpy (tx3 τ) 5010 0 5009 0 k) := by
          refine ⟨1706, by omega, rfl, τ, v4, Or.inr (Or.inr ⟨rfl, t32, hq, Or.inr (Or.inr (Or.inr (Or.inl ⟨rfl, 0, rfl, by omega, by omega, ?_⟩)))⟩)⟩
          rw [ek]; exact (cpy_0 (tx4 τ) 5012 0 5011 0).symm
        simp only [↓reduceIte, inR_0, inR_1, inR_m, vSw2_e, swP_n, swP_c, vI_e, vL_e, vNull_e, vIload_e, vLload_e, vAload_e, vIstore_e, vLstore_e, vAstore_e, vIinc_e, vIadd_e, vIsub_e, vImul_e, vIand_e, vIor_e, vIxor_e, vIshl_e, vIshr_e, vIushr_e, vIdiv_e, vIrem_e, vLadd_e, vLsub_e, vLmul_e, vLand_e, vLor_e, vLxor_e, vLdiv_e, vLrem_e, vLushr_e, vLshl_e, vLcmp_e, vIneg_e, vI2l_e, vL2i_e, vI2b_e, vI2c_e, vDup_e, vPop_e, vDup2_e, vGoto_e, vIcEq_e, vIfEq_e, vIcNe_e, vIfNe_e, vIcLt_e, vIfLt_e, vIcGe_e, vIfGe_e, vIcGt_e, vIfGt_e, vIcLe_e, vIfLe_e, vNonnull_e, vSw_e, vGetI_e, vGetL_e, vGetR_e, vPutI_e, vPutZ_e, vPutL_e, vPutR_e, vIald_e, vIald_s, vLald_e, vBald_e, vBald_s, vAald_e, vIast_e, vLast_e, vBast_e, vAast_e, vAlen_e8, vAlen_e9, vAlen_e10, vAlen_e11, vAlen_e5, vAlen_e3, vGets_e, vCompact_e, vLdcS_e, vIret_e, vZret_e, vCret_e, vBret_e, vLret_e, vVret_e, vAret_e, vCallM_e0, vCallMV_e0, vCallS_e0, vCallSV_e0, vCallM_e1, vCallMV_e1, vCallS_e1, vCallSV_e1, vCallM_e2, vCallMV_e2, vCallS_e2, vCallSV_e2, vCallM_e3, vCallMV_e3, vCallS_e3, vCallSV_e3, vCallM_e4, vCallMV_e4, vCallS_e4, vCallSV_e4, vCallM_e5, vCallMV_e5, vCallS_e5, vCallSV_e5, vCallM_e6, vCallMV_e6, vCallS_e6, vCallSV_e6, vCallM_e7, vCallMV_e7, vCallS_e7, vCallSV_e7, vBad_e, vStrVal_e, vStrCod_e, vForm_e, vCallT_e0, vCallT_e1, vCallT_e2, vCopy_e, rf_0_0, rf_0_1, rf_0_2, rf_0_3, rf_0_4, rf_0_7, rf_0_10, rf_0_11, rf_0_12, rf_0_13, rf_0_14, rf_0_15, rf_0_16, rf_1_0, rf_3_0, rf_3_1, rf_6_0, rf_6_1, rf_9_0, rf_9_1, rf_9_3, rf_13_0, rf_13_1, rf_13_2, rf_16_0, rf_16_1, rf_16_2, rf_16_3, rf_21_0, rf_21_1, rf_21_2, rf_21_3, rf_26_0, rf_26_1, rf_26_2, rf_26_3, rf_26_4, rf_26_5, rf_26_6, rf_31_0, rf_31_2, rf_31_5, rf_31_6, rf_36_0, rf_36_1, rf_36_2, rf_36_3, rf_39_0, rf_39_1, rf_39_2, rf_41_0, rf_41_1, rf_41_2, rf_41_3, rf_5000_1, rf_5000_2, rf_5000_3, rf_5000_4, rf_5000_5, rf_5000_15, rf_5000_16, rf_5000_18, rf_5000_19, rf_5000_20, rf_5000_21, rf_5000_22, rf_5000_23, rf_5000_24, rf_5000_25, rf_5000_26, rf_5000_27, rf_5000_36, rf_5000_37, rf_5000_40, rf_5000_41, rf_5000_42, rf_5000_43, rf_5000_44, rf_5000_45, rf_5000_47, rf_5000_52, rf_5000_54, rf_5000_55, rf_100_0, rf_100_1, rf_103_0, rf_103_1, rf_106_0, rf_106_1, rf_109_0, rf_109_1, al_2, al_4, al_5, al_7, al_8, al_10, al_11, al_12, al_14, al_15, al_17, al_18, al_19, al_20, al_22, al_23, al_24, al_25, al_27, al_28, al_29, al_30, al_32, al_33, al_34, al_35, al_37, al_38, al_40, al_42, al_5001, al_5002, al_5003, al_5004, al_5005, al_5006, al_5007, al_5008, al_5009, al_5010, al_5011, al_5012, al_5013, al_5014, al_5015, al_5016, al_5017, al_5018, al_5019, al_5020, al_5021, al_5022, al_5023, al_5024, al_5025, al_5026, al_9000, al_101, al_102, al_104, al_105, al_107, al_108, al_110, al_111, vcs_e, lg_c0, lg_cs, lg_nil, set_c0, set_cs, okst_0, okst_s, acok_n, acok_c, List.contains_nil, List.contains_cons, Bool.or_false, Bool.false_or, Bool.false_eq_true, if_false, if_true, ite_self, ne_eq, true_and, and_true, not_false_eq_true, not_true_eq_false, false_imp_iff, true_imp_iff, Nat.ble_eq, Bool.and_eq_true, reduceCtorEq, or_false, false_or, or_true, true_or, false_and, and_false, and_self, Int.reduceLE, Int.reduceAdd, Int.reduceSub, Int.reduceMul, Int.reduceNeg, Int.reduceLT, Int.reduceEq, Int.reduceNe, Nat.reduceBEq, Nat.reduceBNe, Nat.reduceEqDiff, amCmp_in, amCmp_lt, amCmp_le, amCmp_gt, amCmp_ge, amCmp_eq, amCmp_ne, Nat.reduceLeDiff, Nat.reduceSub, Bool.and_true, Bool.true_and, Bool.and_self, Bool.or_true, Bool.true_or, isRf_3, isRf_4, isRf_5, isRf_8, isRf_9, isRf_10, isRf_11, isRf_15, isRf_16, isRf_17, isRf_18, isRf_19, isRf_20, isRf_21, isRf_22, isRf_23, isRf_24, isRf_25, isRf_26, isRf_27, isRf_28, k_X12_text_0, k_X12_text_1, k_X12_text_2, k_X12_text_5, k_X12_text_6, k_X12_text_7, k_X12_text_8, k_X12_text_11, k_X12_text_14, k_X12_text_17, k_X12_text_18, k_X12_text_19, k_X12_text_22, k_X12_text_23, k_X12_text_26, k_X12_text_27, k_X12_text_30, k_X12_text_31, k_X12_text_32, k_X12_text_35, k_X12_text_36, k_X12_text_39, k_X12_text_40, k_X12_text_43, k_X12_text_44, k_X12_text_45, k_X12_text_48, k_X12_text_49, k_X12_text_52, k_X12_text_53, k_X12_text_54, k_X12_text_55, k_X12_text_58, k_X12_text_59, k_X12_text_60, k_X12_text_61, k_X12_text_64, k_X12_text_65, k_X12_text_66, k_X12_text_69, k_X12_text_70, k_X12_text_71, k_X12_text_72, k_X12_text_73, k_X12_text_76, k_X12_text_77, k_X12_text_80, k_X12_text_83, k_X12_text_84, k_X12_text_87, k_X12_text_88, k_X12_text_89, k_X12_text_90, k_X12_text_91, k_X12_text_94, k_X12_text_95, k_X12_text_96, k_X12_text_97, k_X12_text_100, k_X12_text_103, k_X12_text_104, k_X12_text_107, k_X12_text_108, k_X12_text_111, k_X12_text_112, k_X12_text_113, k_X12_text_114, k_X12_text_115, k_X12_text_118, k_X12_text_119, k_X12_text_120, k_X12_text_123, k_X12_text_124, k_X12_text_127, k_X12_text_128, k_X12_text_129, k_X12_text_130, k_X12_text_131, k_X12_text_132, k_X12_text_135, k_X12_text_136, k_X12_text_137, k_X12_text_138, k_X12_text_140, k_X12_text_143, k_X12_text_144, k_X12_text_147, k_X12_text_149, k_X12_text_150, k_X12_text_153, k_X12_text_154, k_X12_text_155, k_X12_text_156, k_X12_text_157, k_X12_text_160, k_X12_text_163, k_X12_text_164, k_X12_text_165, k_X12_text_166, k_X12_text_167, k_X12_text_170, k_X12_text_173, k_X12_text_174, k_X12_text_177, k_X12_text_178, k_X12_text_181, k_X12_text_182, k_X12_text_185, k_X12_text_186, k_X12_text_187, k_X12_text_188, k_X12_text_189, k_X12_text_190, k_X12_text_193, k_X12_text_194, k_X12_text_195, k_X12_text_198, k_X12_text_199, k_X12_text_202, k_X12_text_203, k_X12_text_204, k_X12_text_205, k_X12_text_206, k_X12_text_207, k_X12_text_210, k_X12_text_213, k_X12_text_214, k_X12_text_215, k_X12_text_218, k_X12_text_221, k_X12_text_222, k_X12_text_223, k_X12_text_226, k_X12_text_229, k_X12_text_230, k_X12_text_231, k_X12_text_232, k_X12_text_233, k_X12_text_236, k_X12_text_237, k_X12_text_240, k_X12_text_241, k_X12_text_242, k_X12_text_245, k_X12_text_246, k_X12_text_247, k_X12_text_248, k_X12_text_251, k_X12_text_254, k_X12_text_255, k_X12_text_256, k_X12_text_257, k_X12_text_259, k_X12_text_262, k_X12_text_263, k_X12_text_266, k_X12_text_267, k_X12_text_268, k_X12_text_271, k_X12_text_272, k_X12_text_273, k_X12_text_274, k_X12_text_277, k_X12_text_280, k_X12_text_281, k_X12_text_282, k_X12_text_283, k_X12_text_285, k_X12_text_288, k_X12_text_289, k_X12_text_292, k_X12_text_293, k_X12_text_294, k_X12_text_297, k_X12_text_298, k_X12_text_299, k_X12_text_300, k_X12_text_303, k_X12_text_306, k_X12_text_307, k_X12_text_308, k_X12_text_309, k_X12_text_311, k_X12_text_314, k_X12_text_315, k_X12_text_318, k_X12_text_319, k_X12_text_320, k_X12_text_323, k_X12_text_324, k_X12_text_325, k_X12_text_326, k_X12_text_329, k_X12_text_332, k_X12_text_333, k_X12_text_334, k_X12_text_335, k_X12_text_338, k_X12_text_341, k_X12_text_342, k_X12_text_345, k_X12_text_346, k_X12_text_347, k_X12_text_348, k_X12_text_351, k_X12_text_354, k_X12_text_355, k_X12_text_356, k_X12_text_357, k_X12_text_358, k_X12_text_361, k_X12_text_364, k_X12_text_365, k_X12_text_367, k_X12_text_369, k_X12_text_370, k_X12_text_373, k_X12_text_374, k_X12_text_377, k_X12_text_378, k_X12_text_379, k_X12_text_380, k_X12_text_382, k_X12_text_383, k_X12_text_384, k_X12_text_387, k_X12_text_388, k_X12_text_389, k_X12_text_390, k_X12_text_392, k_X12_text_393, k_X12_text_394, k_X12_text_395, k_X12_text_398, k_X12_text_401, k_X12_text_404, k_X12_text_407, k_X12_text_408, k_X12_text_411, k_X12_text_413, k_X12_text_414, k_X12_text_417, k_X12_text_418, k_X12_text_419, k_X12_text_420, k_X12_text_421, k_X12_text_422, k_X12_text_425, k_X12_text_426, k_X12_text_427, k_X12_text_430, k_X12_text_431, k_X12_text_432, k_X12_text_435, k_X12_text_436, k_X12_text_439]
        repeat' (first | apply And.intro | intro _)
        all_goals first | omega | exact absurd trivial (by assumption) | exact i9
    · have c6 : cpy (tx4 τ) 5012 0 5011 0 k 5012 = tx4 τ 5012 := cpy_oo _ _ _ _ _ _ (by decide)
      refine ⟨60, ?_⟩
      by_cases cc : (k : Int) < 6
      · have i9 : ∃ k', k' < n ∧ inv_txt Q 0 k' 308 [(28, 5000), (0, 0), (0, τ 5000 6), (0, (k : Int) + 1), v4] [] (up (cpy (tx4 τ) 5012 0 5011 0 k) 5011 k (tx4 τ 5012 k)) := by
          refine ⟨n - 1, by omega, rfl, τ, v4, Or.inr (Or.inr ⟨rfl, t32, hq, Or.inr (Or.inr (Or.inr (Or.inl ⟨rfl, k + 1, rfl, by omega, by omega, ?_⟩)))⟩)⟩
          have := cpyS (tx4 τ) 5012 0 5011 0 (k := k) (by omega)
          rw [Int.zero_add] at this
          rw [this]; rfl
        simp only [↓reduceIte, inR_0, inR_1, inR_m, vSw2_e, swP_n, swP_c, vI_e, vL_e, vNull_e, vIload_e, vLload_e, vAload_e, vIstore_e, vLstore_e, vAstore_e, vIinc_e, vIadd_e, vIsub_e, vImul_e, vIand_e, vIor_e, vIxor_e, vIshl_e, vIshr_e, vIushr_e, vIdiv_e, vIrem_e, vLadd_e, vLsub_e, vLmul_e, vLand_e, vLor_e, vLxor_e, vLdiv_e, vLrem_e, vLushr_e, vLshl_e, vLcmp_e, vIneg_e, vI2l_e, vL2i_e, vI2b_e, vI2c_e, vDup_e, vPop_e, vDup2_e, vGoto_e, vIcEq_e, vIfEq_e, vIcNe_e, vIfNe_e, vIcLt_e, vIfLt_e, vIcGe_e, vIfGe_e, vIcGt_e, vIfGt_e, vIcLe_e, vIfLe_e, vNonnull_e, vSw_e, vGetI_e, vGetL_e, vGetR_e, vPutI_e, vPutZ_e, vPutL_e, vPutR_e, vIald_e, vIald_s, vLald_e, vBald_e, vBald_s, vAald_e, vIast_e, vLast_e, vBast_e, vAast_e, vAlen_e8, vAlen_e9, vAlen_e10, vAlen_e11, vAlen_e5, vAlen_e3, vGets_e, vCompact_e, vLdcS_e, vIret_e, vZret_e, vCret_e, vBret_e, vLret_e, vVret_e, vAret_e, vCallM_e0, vCallMV_e0, vCallS_e0, vCallSV_e0, vCallM_e1, vCallMV_e1, vCallS_e1, vCallSV_e1, vCallM_e2, vCallMV_e2, vCallS_e2, vCallSV_e2, vCallM_e3, vCallMV_e3, vCallS_e3, vCallSV_e3, vCallM_e4, vCallMV_e4, vCallS_e4, vCallSV_e4, vCallM_e5, vCallMV_e5, vCallS_e5, vCallSV_e5, vCallM_e6, vCallMV_e6, vCallS_e6, vCallSV_e6, vCallM_e7, vCallMV_e7, vCallS_e7, vCallSV_e7, vBad_e, vStrVal_e, vStrCod_e, vForm_e, vCallT_e0, vCallT_e1, vCallT_e2, vCopy_e, rf_0_0, rf_0_1, rf_0_2, rf_0_3, rf_0_4, rf_0_7, rf_0_10, rf_0_11, rf_0_12, rf_0_13, rf_0_14, rf_0_15, rf_0_16, rf_1_0, rf_3_0, rf_3_1, rf_6_0, rf_6_1, rf_9_0, rf_9_1, rf_9_3, rf_13_0, rf_13_1, rf_13_2, rf_16_0, rf_16_1, rf_16_2, rf_16_3, rf_21_0, rf_21_1, rf_21_2, rf_21_3, rf_26_0, rf_26_1, rf_26_2, rf_26_3, rf_26_4, rf_26_5, rf_26_6, rf_31_0, rf_31_2, rf_31_5, rf_31_6, rf_36_0, rf_36_1, rf_36_2, rf_36_3, rf_39_0, rf_39_1, rf_39_2, rf_41_0, rf_41_1, rf_41_2, rf_41_3, rf_5000_1, rf_5000_2, rf_5000_3, rf_5000_4, rf_5000_5, rf_5000_15, rf_5000_16, rf_5000_18, rf_5000_19, rf_5000_20, rf_5000_21, rf_5000_22, rf_5000_23, rf_5000_24, rf_5000_25, rf_5000_26, rf_5000_27, rf_5000_36, rf_5000_37, rf_5000_40, rf_5000_41, rf_5000_42, rf_5000_43, rf_5000_44, rf_5000_45, rf_5000_47, rf_5000_52, rf_5000_54, rf_5000_55, rf_100_0, rf_100_1, rf_103_0, rf_103_1, rf_106_0, rf_106_1, rf_109_0, rf_109_1, al_2, al_4, al_5, al_7, al_8, al_10, al_11, al_12, al_14, al_15, al_17, al_18, al_19, al_20, al_22, al_23, al_24, al_25, al_27, al_28, al_29, al_30, al_32, al_33, al_34, al_35, al_37, al_38, al_40, al_42, al_5001, al_5002, al_5003, al_5004, al_5005, al_5006, al_5007, al_5008, al_5009, al_5010, al_5011, al_5012, al_5013, al_5014, al_5015, al_5016, al_5017, al_5018, al_5019, al_5020, al_5021, al_5022, al_5023, al_5024, al_5025, al_5026, al_9000, al_101, al_102, al_104, al_105, al_107, al_108, al_110, al_111, vcs_e, lg_c0, lg_cs, lg_nil, set_c0, set_cs, okst_0, okst_s, acok_n, acok_c, List.contains_nil, List.contains_cons, Bool.or_false, Bool.false_or, Bool.false_eq_true, if_false, if_true, ite_self, ne_eq, true_and, and_true, not_false_eq_true, not_true_eq_false, false_imp_iff, true_imp_iff, Nat.ble_eq, Bool.and_eq_true, reduceCtorEq, or_false, false_or, or_true, true_or, false_and, and_false, and_self, Int.reduceLE, Int.reduceAdd, Int.reduceSub, Int.reduceMul, Int.reduceNeg, Int.reduceLT, Int.reduceEq, Int.reduceNe, Nat.reduceBEq, Nat.reduceBNe, Nat.reduceEqDiff, amCmp_in, amCmp_lt, amCmp_le, amCmp_gt, amCmp_ge, amCmp_eq, amCmp_ne, Nat.reduceLeDiff, Nat.reduceSub, Bool.and_true, Bool.true_and, Bool.and_self, Bool.or_true, Bool.true_or, isRf_3, isRf_4, isRf_5, isRf_8, isRf_9, isRf_10, isRf_11, isRf_15, isRf_16, isRf_17, isRf_18, isRf_19, isRf_20, isRf_21, isRf_22, isRf_23, isRf_24, isRf_25, isRf_26, isRf_27, isRf_28, k_X12_text_0, k_X12_text_1, k_X12_text_2, k_X12_text_5, k_X12_text_6, k_X12_text_7, k_X12_text_8, k_X12_text_11, k_X12_text_14, k_X12_text_17, k_X12_text_18, k_X12_text_19, k_X12_text_22, k_X12_text_23, k_X12_text_26, k_X12_text_27, k_X12_text_30, k_X12_text_31, k_X12_text_32, k_X12_text_35, k_X12_text_36, k_X12_text_39, k_X12_text_40, k_X12_text_43, k_X12_text_44, k_X12_text_45, k_X12_text_48, k_X12_text_49, k_X12_text_52, k_X12_text_53, k_X12_text_54, k_X12_text_55, k_X12_text_58, k_X12_text_59, k_X12_text_60, k_X12_text_61, k_X12_text_64, k_X12_text_65, k_X12_text_66, k_X12_text_69, k_X12_text_70, k_X12_text_71, k_X12_text_72, k_X12_text_73, k_X12_text_76, k_X12_text_77, k_X12_text_80, k_X12_text_83, k_X12_text_84, k_X12_text_87, k_X12_text_88, k_X12_text_89, k_X12_text_90, k_X12_text_91, k_X12_text_94, k_X12_text_95, k_X12_text_96, k_X12_text_97, k_X12_text_100, k_X12_text_103, k_X12_text_104, k_X12_text_107, k_X12_text_108, k_X12_text_111, k_X12_text_112, k_X12_text_113, k_X12_text_114, k_X12_text_115, k_X12_text_118, k_X12_text_119, k_X12_text_120, k_X12_text_123, k_X12_text_124, k_X12_text_127, k_X12_text_128, k_X12_text_129, k_X12_text_130, k_X12_text_131, k_X12_text_132, k_X12_text_135, k_X12_text_136, k_X12_text_137, k_X12_text_138, k_X12_text_140, k_X12_text_143, k_X12_text_144, k_X12_text_147, k_X12_text_149, k_X12_text_150, k_X12_text_153, k_X12_text_154, k_X12_text_155, k_X12_text_156, k_X12_text_157, k_X12_text_160, k_X12_text_163, k_X12_text_164, k_X12_text_165, k_X12_text_166, k_X12_text_167, k_X12_text_170, k_X12_text_173, k_X12_text_174, k_X12_text_177, k_X12_text_178, k_X12_text_181, k_X12_text_182, k_X12_text_185, k_X12_text_186, k_X12_text_187, k_X12_text_188, k_X12_text_189, k_X12_text_190, k_X12_text_193, k_X12_text_194, k_X12_text_195, k_X12_text_198, k_X12_text_199, k_X12_text_202, k_X12_text_203, k_X12_text_204, k_X12_text_205, k_X12_text_206, k_X12_text_207, k_X12_text_210, k_X12_text_213, k_X12_text_214, k_X12_text_215, k_X12_text_218, k_X12_text_221, k_X12_text_222, k_X12_text_223, k_X12_text_226, k_X12_text_229, k_X12_text_230, k_X12_text_231, k_X12_text_232, k_X12_text_233, k_X12_text_236, k_X12_text_237, k_X12_text_240, k_X12_text_241, k_X12_text_242, k_X12_text_245, k_X12_text_246, k_X12_text_247, k_X12_text_248, k_X12_text_251, k_X12_text_254, k_X12_text_255, k_X12_text_256, k_X12_text_257, k_X12_text_259, k_X12_text_262, k_X12_text_263, k_X12_text_266, k_X12_text_267, k_X12_text_268, k_X12_text_271, k_X12_text_272, k_X12_text_273, k_X12_text_274, k_X12_text_277, k_X12_text_280, k_X12_text_281, k_X12_text_282, k_X12_text_283, k_X12_text_285, k_X12_text_288, k_X12_text_289, k_X12_text_292, k_X12_text_293, k_X12_text_294, k_X12_text_297, k_X12_text_298, k_X12_text_299, k_X12_text_300, k_X12_text_303, k_X12_text_306, k_X12_text_307, k_X12_text_308, k_X12_text_309, k_X12_text_311, k_X12_text_314, k_X12_text_315, k_X12_text_318, k_X12_text_319, k_X12_text_320, k_X12_text_323, k_X12_text_324, k_X12_text_325, k_X12_text_326, k_X12_text_329, k_X12_text_332, k_X12_text_333, k_X12_text_334, k_X12_text_335, k_X12_text_338, k_X12_text_341, k_X12_text_342, k_X12_text_345, k_X12_text_346, k_X12_text_347, k_X12_text_348, k_X12_text_351, k_X12_text_354, k_X12_text_355, k_X12_text_356, k_X12_text_357, k_X12_text_358, k_X12_text_361, k_X12_text_364, k_X12_text_365, k_X12_text_367, k_X12_text_369, k_X12_text_370, k_X12_text_373, k_X12_text_374, k_X12_text_377, k_X12_text_378, k_X12_text_379, k_X12_text_380, k_X12_text_382, k_X12_text_383, k_X12_text_384, k_X12_text_387, k_X12_text_388, k_X12_text_389, k_X12_text_390, k_X12_text_392, k_X12_text_393, k_X12_text_394, k_X12_text_395, k_X12_text_398, k_X12_text_401, k_X12_text_404, k_X12_text_407, k_X12_text_408, k_X12_text_411, k_X12_text_413, k_X12_text_414, k_X12_text_417, k_X12_text_418, k_X12_text_419, k_X12_text_420, k_X12_text_421, k_X12_text_422, k_X12_text_425, k_X12_text_426, k_X12_text_427, k_X12_text_430, k_X12_text_431, k_X12_text_432, k_X12_text_435, k_X12_text_436, k_X12_text_439, c6]
        repeat' (first | apply And.intro | intro _)
        all_goals first | omega | exact absurd trivial (by assumption) | exact i9
      · have ek : (k : Int) = 6 := by omega
        have i9 : ∃ k', k' < n ∧ inv_txt Q 0 k' 334 [(28, 5000), (0, 0), (0, τ 5000 6), (0, 0), v4] [] (cpy (tx4 τ) 5012 0 5011 0 k) := by
          refine ⟨1608, by omega, rfl, τ, v4, Or.inr (Or.inr ⟨rfl, t32, hq, Or.inr (Or.inr (Or.inr (Or.inr (Or.inl ⟨rfl, 0, rfl, by omega, by omega, ?_⟩))))⟩)⟩
          rw [ek]; exact (fillm_0 (tx5 τ) 5015 0).symm
        simp only [↓reduceIte, inR_0, inR_1, inR_m, vSw2_e, swP_n, swP_c, vI_e, vL_e, vNull_e, vIload_e, vLload_e, vAload_e, vIstore_e, vLstore_e, vAstore_e, vIinc_e, vIadd_e, vIsub_e, vImul_e, vIand_e, vIor_e, vIxor_e, vIshl_e, vIshr_e, vIushr_e, vIdiv_e, vIrem_e, vLadd_e, vLsub_e, vLmul_e, vLand_e, vLor_e, vLxor_e, vLdiv_e, vLrem_e, vLushr_e, vLshl_e, vLcmp_e, vIneg_e, vI2l_e, vL2i_e, vI2b_e, vI2c_e, vDup_e, vPop_e, vDup2_e, vGoto_e, vIcEq_e, vIfEq_e, vIcNe_e, vIfNe_e, vIcLt_e, vIfLt_e, vIcGe_e, vIfGe_e, vIcGt_e, vIfGt_e, vIcLe_e, vIfLe_e, vNonnull_e, vSw_e, vGetI_e, vGetL_e, vGetR_e, vPutI_e, vPutZ_e, vPutL_e, vPutR_e, vIald_e, vIald_s, vLald_e, vBald_e, vBald_s, vAald_e, vIast_e, vLast_e, vBast_e, vAast_e, vAlen_e8, vAlen_e9, vAlen_e10, vAlen_e11, vAlen_e5, vAlen_e3, vGets_e, vCompact_e, vLdcS_e, vIret_e, vZret_e, vCret_e, vBret_e, vLret_e, vVret_e, vAret_e, vCallM_e0, vCallMV_e0, vCallS_e0, vCallSV_e0, vCallM_e1, vCallMV_e1, vCallS_e1, vCallSV_e1, vCallM_e2, vCallMV_e2, vCallS_e2, vCallSV_e2, vCallM_e3, vCallMV_e3, vCallS_e3, vCallSV_e3, vCallM_e4, vCallMV_e4, vCallS_e4, vCallSV_e4, vCallM_e5, vCallMV_e5, vCallS_e5, vCallSV_e5, vCallM_e6, vCallMV_e6, vCallS_e6, vCallSV_e6, vCallM_e7, vCallMV_e7, vCallS_e7, vCallSV_e7, vBad_e, vStrVal_e, vStrCod_e, vForm_e, vCallT_e0, vCallT_e1, vCallT_e2, vCopy_e, rf_0_0, rf_0_1, rf_0_2, rf_0_3, rf_0_4, rf_0_7, rf_0_10, rf_0_11, rf_0_12, rf_0_13, rf_0_14, rf_0_15, rf_0_16, rf_1_0, rf_3_0, rf_3_1, rf_6_0, rf_6_1, rf_9_0, rf_9_1, rf_9_3, rf_13_0, rf_13_1, rf_13_2, rf_16_0, rf_16_1, rf_16_2, rf_16_3, rf_21_0, rf_21_1, rf_21_2, rf_21_3, rf_26_0, rf_26_1, rf_26_2, rf_26_3, rf_26_4, rf_26_5, rf_26_6, rf_31_0, rf_31_2, rf_31_5, rf_31_6, rf_36_0, rf_36_1, rf_36_2, rf_36_3, rf_39_0, rf_39_1, rf_39_2, rf_41_0, rf_41_1, rf_41_2, rf_41_3, rf_5000_1, rf_5000_2, rf_5000_3, rf_5000_4, rf_5000_5, rf_5000_15, rf_5000_16, rf_5000_18, rf_5000_19, rf_5000_20, rf_5000_21, rf_5000_22, rf_5000_23, rf_5000_24, rf_5000_25, rf_5000_26, rf_5000_27, rf_5000_36, rf_5000_37, rf_5000_40, rf_5000_41, rf_5000_42, rf_5000_43, rf_5000_44, rf_5000_45, rf_5000_47, rf_5000_52, rf_5000_54, rf_5000_55, rf_100_0, rf_100_1, rf_103_0, rf_103_1, rf_106_0, rf_106_1, rf_109_0, rf_109_1, al_2, al_4, al_5, al_7, al_8, al_10, al_11, al_12, al_14, al_15, al_17, al_18, al_19, al_20, al_22, al_23, al_24, al_25, al_27, al_28, al_29, al_30, al_32, al_33, al_34, al_35, al_37, al_38, al_40, al_42, al_5001, al_5002, al_5003, al_5004, al_5005, al_5006, al_5007, al_5008, al_5009, al_5010, al_5011, al_5012, al_5013, al_5014, al_5015, al_5016, al_5017, al_5018, al_5019, al_5020, al_5021, al_5022, al_5023, al_5024, al_5025, al_5026, al_9000, al_101, al_102, al_104, al_105, al_107, al_108, al_110, al_111, vcs_e, lg_c0, lg_cs, lg_nil, set_c0, set_cs, okst_0, okst_s, acok_n, acok_c, List.contains_nil, List.contains_cons, Bool.or_false, Bool.false_or, Bool.false_eq_true, if_false, if_true, ite_self, ne_eq, true_and, and_true, not_false_eq_true, not_true_eq_false, false_imp_iff, true_imp_iff, Nat.ble_eq, Bool.and_eq_true, reduceCtorEq, or_false, false_or, or_true, true_or, false_and, and_false, and_self, Int.reduceLE, Int.reduceAdd, Int.reduceSub, Int.reduceMul, Int.reduceNeg, Int.reduceLT, Int.reduceEq, Int.reduceNe, Nat.reduceBEq, Nat.reduceBNe, Nat.reduceEqDiff, amCmp_in, amCmp_lt, amCmp_le, amCmp_gt, amCmp_ge, amCmp_eq, amCmp_ne, Nat.reduceLeDiff, Nat.reduceSub, Bool.and_true, Bool.true_and, Bool.and_self, Bool.or_true, Bool.true_or, isRf_3, isRf_4, isRf_5, isRf_8, isRf_9, isRf_10, isRf_11, isRf_15, isRf_16, isRf_17, isRf_18, isRf_19, isRf_20, isRf_21, isRf_22, isRf_23, isRf_24, isRf_25, isRf_26, isRf_27, isRf_28, k_X12_text_0, k_X12_text_1, k_X12_text_2, k_X12_text_5, k_X12_text_6, k_X12_text_7, k_X12_text_8, k_X12_text_11, k_X12_text_14, k_X12_text_17, k_X12_text_18, k_X12_text_19, k_X12_text_22, k_X12_text_23, k_X12_text_26, k_X12_text_27, k_X12_text_30, k_X12_text_31, k_X12_text_32, k_X12_text_35, k_X12_text_36, k_X12_text_39, k_X12_text_40, k_X12_text_43, k_X12_text_44, k_X12_text_45, k_X12_text_48, k_X12_text_49, k_X12_text_52, k_X12_text_53, k_X12_text_54, k_X12_text_55, k_X12_text_58, k_X12_text_59, k_X12_text_60, k_X12_text_61, k_X12_text_64, k_X12_text_65, k_X12_text_66, k_X12_text_69, k_X12_text_70, k_X12_text_71, k_X12_text_72, k_X12_text_73, k_X12_text_76, k_X12_text_77, k_X12_text_80, k_X12_text_83, k_X12_text_84, k_X12_text_87, k_X12_text_88, k_X12_text_89, k_X12_text_90, k_X12_text_91, k_X12_text_94, k_X12_text_95, k_X12_text_96, k_X12_text_97, k_X12_text_100, k_X12_text_103, k_X12_text_104, k_X12_text_107, k_X12_text_108, k_X12_text_111, k_X12_text_112, k_X12_text_113, k_X12_text_114, k_X12_text_115, k_X12_text_118, k_X12_text_119, k_X12_text_120, k_X12_text_123, k_X12_text_124, k_X12_text_127, k_X12_text_128, k_X12_text_129, k_X12_text_130, k_X12_text_131, k_X12_text_132, k_X12_text_135, k_X12_text_136, k_X12_text_137, k_X12_text_138, k_X12_text_140, k_X12_text_143, k_X12_text_144, k_X12_text_147, k_X12_text_149, k_X12_text_150, k_X12_text_153, k_X12_text_154, k_X12_text_155, k_X12_text_156, k_X12_text_157, k_X12_text_160, k_X12_text_163, k_X12_text_164, k_X12_text_165, k_X12_text_166, k_X12_text_167, k_X12_text_170, k_X12_text_173, k_X12_text_174, k_X12_text_177, k_X12_text_178, k_X12_text_181, k_X12_text_182, k_X12_text_185, k_X12_text_186, k_X12_text_187, k_X12_text_188, k_X12_text_189, k_X12_text_190, k_X12_text_193, k_X12_text_194, k_X12_text_195, k_X12_text_198, k_X12_text_199, k_X12_text_202, k_X12_text_203, k_X12_text_204, k_X12_text_205, k_X12_text_206, k_X12_text_207, k_X12_text_210, k_X12_text_213, k_X12_text_214, k_X12_text_215, k_X12_text_218, k_X12_text_221, k_X12_text_222, k_X12_text_223, k_X12_text_226, k_X12_text_229, k_X12_text_230, k_X12_text_231, k_X12_text_232, k_X12_text_233, k_X12_text_236, k_X12_text_237, k_X12_text_240, k_X12_text_241, k_X12_text_242, k_X12_text_245, k_X12_text_246, k_X12_text_247, k_X12_text_248, k_X12_text_251, k_X12_text_254, k_X12_text_255, k_X12_text_256, k_X12_text_257, k_X12_text_259, k_X12_text_262, k_X12_text_263, k_X12_text_266, k_X12_text_267, k_X12_text_268, k_X12_text_271, k_X12_text_272, k_X12_text_273, k_X12_text_274, k_X12_text_277, k_X12_text_280, k_X12_text_281, k_X12_text_282, k_X12_text_283, k_X12_text_285, k_X12_text_288, k_X12_text_289, k_X12_text_292, k_X12_text_293, k_X12_text_294, k_X12_text_297, k_X12_text_298, k_X12_text_299, k_X12_text_300, k_X12_text_303, k_X12_text_306, k_X12_text_307, k_X12_text_308, k_X12_text_309, k_X12_text_311, k_X12_text_314, k_X12_text_315, k_X12_text_318, k_X12_text_319, k_X12_text_320, k_X12_text_323, k_X12_text_324, k_X12_text_325, k_X12_text_326, k_X12_text_329, k_X12_text_332, k_X12_text_333, k_X12_text_334, k_X12_text_335, k_X12_text_338, k_X12_text_341, k_X12_text_342, k_X12_text_345, k_X12_text_346, k_X12_text_347, k_X12_text_348, k_X12_text_351, k_X12_text_354, k_X12_text_355, k_X12_text_356, k_X12_text_357, k_X12_text_358, k_X12_text_361, k_X12_text_364, k_X12_text_365, k_X12_text_367, k_X12_text_369, k_X12_text_370, k_X12_text_373, k_X12_text_374, k_X12_text_377, k_X12_text_378, k_X12_text_379, k_X12_text_380, k_X12_text_382, k_X12_text_383, k_X12_text_384, k_X12_text_387, k_X12_text_388, k_X12_text_389, k_X12_text_390, k_X12_text_392, k_X12_text_393, k_X12_text_394, k_X12_text_395, k_X12_text_398, k_X12_text_401, k_X12_text_404, k_X12_text_407, k_X12_text_408, k_X12_text_411, k_X12_text_413, k_X12_text_414, k_X12_text_417, k_X12_text_418, k_X12_text_419, k_X12_text_420, k_X12_text_421, k_X12_text_422, k_X12_text_425, k_X12_text_426, k_X12_text_427, k_X12_text_430, k_X12_text_431, k_X12_text_432, k_X12_text_435, k_X12_text_436, k_X12_text_439]
        repeat' (first | apply And.intro | intro _)
        all_goals first | omega | exact absurd trivial (by assumption) | exact i9
    · refine ⟨60, ?_⟩
      by_cases cc : (k : Int) < 208
      · have i9 : ∃ k', k' < n ∧ inv_txt Q 0 k' 334 [(28, 5000), (0, 0), (0, τ 5000 6), (0, (k : Int) + 1), v4] [] (up (fillm (tx5 τ) 5015 k 0) 5015 k 0) := by
          refine ⟨n - 1, by omega, rfl, τ, v4, Or.inr (Or.inr ⟨rfl, t32, hq, Or.inr (Or.inr (Or.inr (Or.inr (Or.inl ⟨rfl, k + 1, rfl, by omega, by omega, ?_⟩))))⟩)⟩
          rw [fillm_s (tx5 τ) (by omega)]; rfl
        simp only [↓reduceIte, inR_0, inR_1, inR_m, vSw2_e, swP_n, swP_c, vI_e, vL_e, vNull_e, vIload_e, vLload_e, vAload_e, vIstore_e, vLstore_e, vAstore_e, vIinc_e, vIadd_e, vIsub_e, vImul_e, vIand_e, vIor_e, vIxor_e, vIshl_e, vIshr_e, vIushr_e, vIdiv_e, vIrem_e, vLadd_e, vLsub_e, vLmul_e, vLand_e, vLor_e, vLxor_e, vLdiv_e, vLrem_e, vLushr_e, vLshl_e, vLcmp_e, vIneg_e, vI2l_e, vL2i_e, vI2b_e, vI2c_e, vDup_e, vPop_e, vDup2_e, vGoto_e, vIcEq_e, vIfEq_e, vIcNe_e, vIfNe_e, vIcLt_e, vIfLt_e, vIcGe_e, vIfGe_e, vIcGt_e, vIfGt_e, vIcLe_e, vIfLe_e, vNonnull_e, vSw_e, vGetI_e, vGetL_e, vGetR_e, vPutI_e, vPutZ_e, vPutL_e, vPutR_e, vIald_e, vIald_s, vLald_e, vBald_e, vBald_s, vAald_e, vIast_e, vLast_e, vBast_e, vAast_e, vAlen_e8, vAlen_e9, vAlen_e10, vAlen_e11, vAlen_e5, vAlen_e3, vGets_e, vCompact_e, vLdcS_e, vIret_e, vZret_e, vCret_e, vBret_e, vLret_e, vVret_e, vAret_e, vCallM_e0, vCallMV_e0, vCallS_e0, vCallSV_e0, vCallM_e1, vCallMV_e1, vCallS_e1, vCallSV_e1, vCallM_e2, vCallMV_e2, vCallS_e2, vCallSV_e2, vCallM_e3, vCallMV_e3, vCallS_e3, vCallSV_e3, vCallM_e4, vCallMV_e4, vCallS_e4, vCallSV_e4, vCallM_e5, vCallMV_e5, vCallS_e5, vCallSV_e5, vCallM_e6, vCallMV_e6, vCallS_e6, vCallSV_e6, vCallM_e7, vCallMV_e7, vCallS_e7, vCallSV_e7, vBad_e, vStrVal_e, vStrCod_e, vForm_e, vCallT_e0, vCallT_e1, vCallT_e2, vCopy_e, rf_0_0, rf_0_1, rf_0_2, rf_0_3, rf_0_4, rf_0_7, rf_0_10, rf_0_11, rf_0_12, rf_0_13, rf_0_14, rf_0_15, rf_0_16, rf_1_0, rf_3_0, rf_3_1, rf_6_0, rf_6_1, rf_9_0, rf_9_1, rf_9_3, rf_13_0, rf_13_1, rf_13_2, rf_16_0, rf_16_1, rf_16_2, rf_16_3, rf_21_0, rf_21_1, rf_21_2, rf_21_3, rf_26_0, rf_26_1, rf_26_2, rf_26_3, rf_26_4, rf_26_5, rf_26_6, rf_31_0, rf_31_2, rf_31_5, rf_31_6, rf_36_0, rf_36_1, rf_36_2, rf_36_3, rf_39_0, rf_39_1, rf_39_2, rf_41_0, rf_41_1, rf_41_2, rf_41_3, rf_5000_1, rf_5000_2, rf_5000_3, rf_5000_4, rf_5000_5, rf_5000_15, rf_5000_16, rf_5000_18, rf_5000_19, rf_5000_20, rf_5000_21, rf_5000_22, rf_5000_23, rf_5000_24, rf_5000_25, rf_5000_26, rf_5000_27, rf_5000_36, rf_5000_37, rf_5000_40, rf_5000_41, rf_5000_42, rf_5000_43, rf_5000_44, rf_5000_45, rf_5000_47, rf_5000_52, rf_5000_54, rf_5000_55, rf_100_0, rf_100_1, rf_103_0, rf_103_1, rf_106_0, rf_106_1, rf_109_0, rf_109_1, al_2, al_4, al_5, al_7, al_8, al_10, al_11, al_12, al_14, al_15, al_17, al_18, al_19, al_20, al_22, al_23, al_24, al_25, al_27, al_28, al_29, al_30, al_32, al_33, al_34, al_35, al_37, al_38, al_40, al_42, al_5001, al_5002, al_5003, al_5004, al_5005, al_5006, al_5007, al_5008, al_5009, al_5010, al_5011, al_5012, al_5013, al_5014, al_5015, al_5016, al_5017, al_5018, al_5019, al_5020, al_5021, al_5022, al_5023, al_5024, al_5025, al_5026, al_9000, al_101, al_102, al_104, al_105, al_107, al_108, al_110, al_111, vcs_e, lg_c0, lg_cs, lg_nil, set_c0, set_cs, okst_0, okst_s, acok_n, acok_c, List.contains_nil, List.contains_cons, Bool.or_false, Bool.false_or, Bool.false_eq_true, if_false, if_true, ite_self, ne_eq, true_and, and_true, not_false_eq_true, not_true_eq_false, false_imp_iff, true_imp_iff, Nat.ble_eq, Bool.and_eq_true, reduceCtorEq, or_false, false_or, or_true, true_or, false_and, and_false, and_self, Int.reduceLE, Int.reduceAdd, Int.reduceSub, Int.reduceMul, Int.reduceNeg, Int.reduceLT, Int.reduceEq, Int.reduceNe, Nat.reduceBEq, Nat.reduceBNe, Nat.reduceEqDiff, amCmp_in, amCmp_lt, amCmp_le, amCmp_gt, amCmp_ge, amCmp_eq, amCmp_ne, Nat.reduceLeDiff, Nat.reduceSub, Bool.and_true, Bool.true_and, Bool.and_self, Bool.or_true, Bool.true_or, isRf_3, isRf_4, isRf_5, isRf_8, isRf_9, isRf_10, isRf_11, isRf_15, isRf_16, isRf_17, isRf_18, isRf_19, isRf_20, isRf_21, isRf_22, isRf_23, isRf_24, isRf_25, isRf_26, isRf_27, isRf_28, k_X12_text_0, k_X12_text_1, k_X12_text_2, k_X12_text_5, k_X12_text_6, k_X12_text_7, k_X12_text_8, k_X12_text_11, k_X12_text_14, k_X12_text_17, k_X12_text_18, k_X12_text_19, k_X12_text_22, k_X12_text_23, k_X12_text_26, k_X12_text_27, k_X12_text_30, k_X12_text_31, k_X12_text_32, k_X12_text_35, k_X12_text_36, k_X12_text_39, k_X12_text_40, k_X12_text_43, k_X12_text_44, k_X12_text_45, k_X12_text_48, k_X12_text_49, k_X12_text_52, k_X12_text_53, k_X12_text_54, k_X12_text_55, k_X12_text_58, k_X12_text_59, k_X12_text_60, k_X12_text_61, k_X12_text_64, k_X12_text_65, k_X12_text_66, k_X12_text_69, k_X12_text_70, k_X12_text_71, k_X12_text_72, k_X12_text_73, k_X12_text_76, k_X12_text_77, k_X12_text_80, k_X12_text_83, k_X12_text_84, k_X12_text_87, k_X12_text_88, k_X12_text_89, k_X12_text_90, k_X12_text_91, k_X12_text_94, k_X12_text_95, k_X12_text_96, k_X12_text_97, k_X12_text_100, k_X12_text_103, k_X12_text_104, k_X12_text_107, k_X12_text_108, k_X12_text_111, k_X12_text_112, k_X12_text_113, k_X12_text_114, k_X12_text_115, k_X12_text_118, k_X12_text_119, k_X12_text_120, k_X12_text_123, k_X12_text_124, k_X12_text_127, k_X12_text_128, k_X12_text_129, k_X12_text_130, k_X12_text_131, k_X12_text_132, k_X12_text_135, k_X12_text_136, k_X12_text_137, k_X12_text_138, k_X12_text_140, k_X12_text_143, k_X12_text_144, k_X12_text_147, k_X12_text_149, k_X12_text_150, k_X12_text_153, k_X12_text_154, k_X12_text_155, k_X12_text_156, k_X12_text_157, k_X12_text_160, k_X12_text_163, k_X12_text_164, k_X12_text_165, k_X12_text_166, k_X12_text_167, k_X12_text_170, k_X12_text_173, k_X12_text_174, k_X12_text_177, k_X12_text_178, k_X12_text_181, k_X12_text_182, k_X12_text_185, k_X12_text_186, k_X12_text_187, k_X12_text_188, k_X12_text_189, k_X12_text_190, k_X12_text_193, k_X12_text_194, k_X12_text_195, k_X12_text_198, k_X12_text_199, k_X12_text_202, k_X12_text_203, k_X12_text_204, k_X12_text_205, k_X12_text_206, k_X12_text_207, k_X12_text_210, k_X12_text_213, k_X12_text_214, k_X12_text_215, k_X12_text_218, k_X12_text_221, k_X12_text_222, k_X12_text_223, k_X12_text_226, k_X12_text_229, k_X12_text_230, k_X12_text_231, k_X12_text_232, k_X12_text_233, k_X12_text_236, k_X12_text_237, k_X12_text_240, k_X12_text_241, k_X12_text_242, k_X12_text_245, k_X12_text_246, k_X12_text_247, k_X12_text_248, k_X12_text_251, k_X12_text_254, k_X12_text_255, k_X12_text_256, k_X12_text_257, k_X12_text_259, k_X12_text_262, k_X12_text_263, k_X12_text_266, k_X12_text_267, k_X12_text_268, k_X12_text_271, k_X12_text_272, k_X12_text_273, k_X12_text_274, k_X12_text_277, k_X12_text_280, k_X12_text_281, k_X12_text_282, k_X12_text_283, k_X12_text_285, k_X12_text_288, k_X12_text_289, k_X12_text_292, k_X12_text_293, k_X12_text_294, k_X12_text_297, k_X12_text_298, k_X12_text_299, k_X12_text_300, k_X12_text_303, k_X12_text_306, k_X12_text_307, k_X12_text_308, k_X12_text_309, k_X12_text_311, k_X12_text_314, k_X12_text_315, k_X12_text_318, k_X12_text_319, k_X12_text_320, k_X12_text_323, k_X12_text_324, k_X12_text_325, k_X12_text_326, k_X12_text_329, k_X12_text_332, k_X12_text_333, k_X12_text_334, k_X12_text_335, k_X12_text_338, k_X12_text_341, k_X12_text_342, k_X12_text_345, k_X12_text_346, k_X12_text_347, k_X12_text_348, k_X12_text_351, k_X12_text_354, k_X12_text_355, k_X12_text_356, k_X12_text_357, k_X12_text_358, k_X12_text_361, k_X12_text_364, k_X12_text_365, k_X12_text_367, k_X12_text_369, k_X12_text_370, k_X12_text_373, k_X12_text_374, k_X12_text_377, k_X12_text_378, k_X12_text_379, k_X12_text_380, k_X12_text_382, k_X12_text_383, k_X12_text_384, k_X12_text_387, k_X12_text_388, k_X12_text_389, k_X12_text_390, k_X12_text_392, k_X12_text_393, k_X12_text_394, k_X12_text_395, k_X12_text_398, k_X12_text_401, k_X12_text_404, k_X12_text_407, k_X12_text_408, k_X12_text_411, k_X12_text_413, k_X12_text_414, k_X12_text_417, k_X12_text_418, k_X12_text_419, k_X12_text_420, k_X12_text_421, k_X12_text_422, k_X12_text_425, k_X12_text_426, k_X12_text_427, k_X12_text_430, k_X12_text_431, k_X12_text_432, k_X12_text_435, k_X12_text_436, k_X12_text_439]
        repeat' (first | apply And.intro | intro _)
        all_goals first | omega | exact absurd trivial (by assumption) | exact i9
      · have ek : (k : Int) = 208 := by omega
        have i9 : ∃ k', k' < n ∧ inv_txt Q 0 k' 356 [(28, 5000), (0, 0), (0, τ 5000 6), (0, 0), v4] [] (fillm (tx5 τ) 5015 k 0) := by
          refine ⟨1060, by omega, rfl, τ, v4, Or.inr (Or.inr ⟨rfl, t32, hq, Or.inr (Or.inr (Or.inr (Or.inr (Or.inr (Or.inl ⟨rfl, 0, rfl, by omega, by omega, ?_⟩)))))⟩)⟩
          rw [ek]; exact (chN_0 (tx6 τ)).symm
        simp only [↓reduceIte, inR_0, inR_1, inR_m, vSw2_e, swP_n, swP_c, vI_e, vL_e, vNull_e, vIload_e, vLload_e, vAload_e, vIstore_e, vLstore_e, vAstore_e, vIinc_e, vIadd_e, vIsub_e, vImul_e, vIand_e, vIor_e, vIxor_e, vIshl_e, vIshr_e, vIushr_e, vIdiv_e, vIrem_e, vLadd_e, vLsub_e, vLmul_e, vLand_e, vLor_e, vLxor_e, vLdiv_e, vLrem_e, vLushr_e, vLshl_e, vLcmp_e, vIneg_e, vI2l_e, vL2i_e, vI2b_e, vI2c_e, vDup_e, vPop_e, vDup2_e, vGoto_e, vIcEq_e, vIfEq_e, vIcNe_e, vIfNe_e, vIcLt_e, vIfLt_e, vIcGe_e, vIfGe_e, vIcGt_e, vIfGt_e, vIcLe_e, vIfLe_e, vNonnull_e, vSw_e, vGetI_e, vGetL_e, vGetR_e, vPutI_e, vPutZ_e, vPutL_e, vPutR_e, vIald_e, vIald_s, vLald_e, vBald_e, vBald_s, vAald_e, vIast_e, vLast_e, vBast_e, vAast_e, vAlen_e8, vAlen_e9, vAlen_e10, vAlen_e11, vAlen_e5, vAlen_e3, vGets_e, vCompact_e, vLdcS_e, vIret_e, vZret_e, vCret_e, vBret_e, vLret_e, vVret_e, vAret_e, vCallM_e0, vCallMV_e0, vCallS_e0, vCallSV_e0, vCallM_e1, vCallMV_e1, vCallS_e1, vCallSV_e1, vCallM_e2, vCallMV_e2, vCallS_e2, vCallSV_e2, vCallM_e3, vCallMV_e3, vCallS_e3, vCallSV_e3, vCallM_e4, vCallMV_e4, vCallS_e4, vCallSV_e4, vCallM_e5, vCallMV_e5, vCallS_e5, vCallSV_e5, vCallM_e6, vCallMV_e6, vCallS_e6, vCallSV_e6, vCallM_e7, vCallMV_e7, vCallS_e7, vCallSV_e7, vBad_e, vStrVal_e, vStrCod_e, vForm_e, vCallT_e0, vCallT_e1, vCallT_e2, vCopy_e, rf_0_0, rf_0_1, rf_0_2, rf_0_3, rf_0_4, rf_0_7, rf_0_10, rf_0_11, rf_0_12, rf_0_13, rf_0_14, rf_0_15, rf_0_16, rf_1_0, rf_3_0, rf_3_1, rf_6_0, rf_6_1, rf_9_0, rf_9_1, rf_9_3, rf_13_0, rf_13_1, rf_13_2, rf_16_0, rf_16_1, rf_16_2, rf_16_3, rf_21_0, rf_21_1, rf_21_2, rf_21_3, rf_26_0, rf_26_1, rf_26_2, rf_26_3, rf_26_4, rf_26_5, rf_26_6, rf_31_0, rf_31_2, rf_31_5, rf_31_6, rf_36_0, rf_36_1, rf_36_2, rf_36_3, rf_39_0, rf_39_1, rf_39_2, rf_41_0, rf_41_1, rf_41_2, rf_41_3, rf_5000_1, rf_5000_2, rf_5000_3, rf_5000_4, rf_5000_5, rf_5000_15, rf_5000_16, rf_5000_18, rf_5000_19, rf_5000_20, rf_5000_21, rf_5000_22, rf_5000_23, rf_5000_24, rf_5000_25, rf_5000_26, rf_5000_27, rf_5000_36, rf_5000_37, rf_5000_40, rf_5000_41, rf_5000_42, rf_5000_43, rf_5000_44, rf_5000_45, rf_5000_47, rf_5000_52, rf_5000_54, rf_5000_55, rf_100_0, rf_100_1, rf_103_0, rf_103_1, rf_106_0, rf_106_1, rf_109_0, rf_109_1, al_2, al_4, al_5, al_7, al_8, al_10, al_11, al_12, al_14, al_15, al_17, al_18, al_19, al_20, al_22, al_23, al_24, al_25, al_27, al_28, al_29, al_30, al_32, al_33, al_34, al_35, al_37, al_38, al_40, al_42, al_5001, al_5002, al_5003, al_5004, al_5005, al_5006, al_5007, al_5008, al_5009, al_5010, al_5011, al_5012, al_5013, al_5014, al_5015, al_5016, al_5017, al_5018, al_5019, al_5020, al_5021, al_5022, al_5023, al_5024, al_5025, al_5026, al_9000, al_101, al_102, al_104, al_105, al_107, al_108, al_110, al_111, vcs_e, lg_c0, lg_cs, lg_nil, set_c0, set_cs, okst_0, okst_s, acok_n, acok_c, List.contains_nil, List.contains_cons, Bool.or_false, Bool.false_or, Bool.false_eq_true, if_false, if_true, ite_self, ne_eq, true_and, and_true, not_false_eq_true, not_true_eq_false, false_imp_iff, true_imp_iff, Nat.ble_eq, Bool.and_eq_true, reduceCtorEq, or_false, false_or, or_true, true_or, false_and, and_false, and_self, Int.reduceLE, Int.reduceAdd, Int.reduceSub, Int.reduceMul, Int.reduceNeg, Int.reduceLT, Int.reduceEq, Int.reduceNe, Nat.reduceBEq, Nat.reduceBNe, Nat.reduceEqDiff, amCmp_in, amCmp_lt, amCmp_le, amCmp_gt, amCmp_ge, amCmp_eq, amCmp_ne, Nat.reduceLeDiff, Nat.reduceSub, Bool.and_true, Bool.true_and, Bool.and_self, Bool.or_true, Bool.true_or, isRf_3, isRf_4, isRf_5, isRf_8, isRf_9, isRf_10, isRf_11, isRf_15, isRf_16, isRf_17, isRf_18, isRf_19, isRf_20, isRf_21, isRf_22, isRf_23, isRf_24, isRf_25, isRf_26, isRf_27, isRf_28, k_X12_text_0, k_X12_text_1, k_X12_text_2, k_X12_text_5, k_X12_text_6, k_X12_text_7, k_X12_text_8, k_X12_text_11, k_X12_text_14, k_X12_text_17, k_X12_text_18, k_X12_text_19, k_X12_text_22, k_X12_text_23, k_X12_text_26, k_X12_text_27, k_X12_text_30, k_X12_text_31, k_X12_text_32, k_X12_text_35, k_X12_text_36, k_X12_text_39, k_X12_text_40, k_X12_text_43, k_X12_text_44, k_X12_text_45, k_X12_text_48, k_X12_text_49, k_X12_text_52, k_X12_text_53, k_X12_text_54, k_X12_text_55, k_X12_text_58, k_X12_text_59, k_X12_text_60, k_X12_text_61, k_X12_text_64, k_X12_text_65, k_X12_text_66, k_X12_text_69, k_X12_text_70, k_X12_text_71, k_X12_text_72, k_X12_text_73, k_X12_text_76, k_X12_text_77, k_X12_text_80, k_X12_text_83, k_X12_text_84, k_X12_text_87, k_X12_text_88, k_X12_text_89, k_X12_text_90, k_X12_text_91, k_X12_text_94, k_X12_text_95, k_X12_text_96, k_X12_text_97, k_X12_text_100, k_X12_text_103, k_X12_text_104, k_X12_text_107, k_X12_text_108, k_X12_text_111, k_X12_text_112, k_X12_text_113, k_X12_text_114, k_X12_text_115, k_X12_text_118, k_X12_text_119, k_X12_text_120, k_X12_text_123, k_X12_text_124, k_X12_text_127, k_X12_text_128, k_X12_text_129, k_X12_text_130, k_X12_text_131, k_X12_text_132, k_X12_text_135, k_X12_text_136, k_X12_text_137, k_X12_text_138, k_X12_text_140, k_X12_text_143, k_X12_text_144, k_X12_text_147, k_X12_text_149, k_X12_text_150, k_X12_text_153, k_X12_text_154, k_X12_text_155, k_X12_text_156, k_X12_text_157, k_X12_text_160, k_X12_text_163, k_X12_text_164, k_X12_text_165, k_X12_text_166, k_X12_text_167, k_X12_text_170, k_X12_text_173, k_X12_text_174, k_X12_text_177, k_X12_text_178, k_X12_text_181, k_X12_text_182, k_X12_text_185, k_X12_text_186, k_X12_text_187, k_X12_text_188, k_X12_text_189, k_X12_text_190, k_X12_text_193, k_X12_text_194, k_X12_text_195, k_X12_text_198, k_X12_text_199, k_X12_text_202, k_X12_text_203, k_X12_text_204, k_X12_text_205, k_X12_text_206, k_X12_text_207, k_X12_text_210, k_X12_text_213, k_X12_text_214, k_X12_text_215, k_X12_text_218, k_X12_text_221, k_X12_text_222, k_X12_text_223, k_X12_text_226, k_X12_text_229, k_X12_text_230, k_X12_text_231, k_X12_text_232, k_X12_text_233, k_X12_text_236, k_X12_text_237, k_X12_text_240, k_X12_text_241, k_X12_text_242, k_X12_text_245, k_X12_text_246, k_X12_text_247, k_X12_text_248, k_X12_text_251, k_X12_text_254, k_X12_text_255, k_X12_text_256, k_X12_text_257, k_X12_text_259, k_X12_text_262, k_X12_text_263, k_X12_text_266, k_X12_text_267, k_X12_text_268, k_X12_text_271, k_X12_text_272, k_X12_text_273, k_X12_text_274, k_X12_text_277, k_X12_text_280, k_X12_text_281, k_X12_text_282, k_X12_text_283, k_X12_text_285, k_X12_text_288, k_X12_text_289, k_X12_text_292, k_X12_text_293, k_X12_text_294, k_X12_text_297, k_X12_text_298, k_X12_text_299, k_X12_text_300, k_X12_text_303, k_X12_text_306, k_X12_text_307, k_X12_text_308, k_X12_text_309, k_X12_text_311, k_X12_text_314, k_X12_text_315, k_X12_text_318, k_X12_text_319, k_X12_text_320, k_X12_text_323, k_X12_text_324, k_X12_text_325, k_X12_text_326, k_X12_text_329, k_X12_text_332, k_X12_text_333, k_X12_text_334, k_X12_text_335, k_X12_text_338, k_X12_text_341, k_X12_text_342, k_X12_text_345, k_X12_text_346, k_X12_text_347, k_X12_text_348, k_X12_text_351, k_X12_text_354, k_X12_text_355, k_X12_text_356, k_X12_text_357, k_X12_text_358, k_X12_text_361, k_X12_text_364, k_X12_text_365, k_X12_text_367, k_X12_text_369, k_X12_text_370, k_X12_text_373, k_X12_text_374, k_X12_text_377, k_X12_text_378, k_X12_text_379, k_X12_text_380, k_X12_text_382, k_X12_text_383, k_X12_text_384, k_X12_text_387, k_X12_text_388, k_X12_text_389, k_X12_text_390, k_X12_text_392, k_X12_text_393, k_X12_text_394, k_X12_text_395, k_X12_text_398, k_X12_text_401, k_X12_text_404, k_X12_text_407, k_X12_text_408, k_X12_text_411, k_X12_text_413, k_X12_text_414, k_X12_text_417, k_X12_text_418, k_X12_text_419, k_X12_text_420, k_X12_text_421, k_X12_text_422, k_X12_text_425, k_X12_text_426, k_X12_text_427, k_X12_text_430, k_X12_text_431, k_X12_text_432, k_X12_text_435, k_X12_text_436, k_X12_text_439]
        repeat' (first | apply And.intro | intro _)
        all_goals first | omega | exact absurd trivial (by assumption) | exact i9
    · have c29 : chN (tx6 τ) (4 * (k : Int)) 5000 29 = τ 5000 32 := by rw [chN_o _ _ (by decide), tx6_o τ (by decide)]; exact tx1_29 τ
      have c51 : chN (tx6 τ) (4 * (k : Int)) 5005 1 = τ 5006 1 := by rw [chN_o _ _ (by decide)]; exact tx6_51 τ
      refine ⟨60, ?_⟩
      by_cases cc : (k : Int) < τ 5000 32
      · have i9 : ∃ k', k' < n ∧ inv_txt Q 0 k' 367 [(28, 5000), (0, 0), (0, τ 5000 6), (0, (k : Int)), (0, 0)] [] (chN (tx6 τ) (4 * (k : Int))) := by
          refine ⟨n - 1, by omega, rfl, τ, v4, Or.inr (Or.inr ⟨rfl, t32, hq, Or.inr (Or.inr (Or.inr (Or.inr (Or.inr (Or.inr ⟨rfl, k, 0, rfl, cc, by omega, by omega, ?_⟩)))))⟩)⟩
          rw [show 4 * (k : Int) + ((0 : Nat) : Int) = 4 * k by omega]
        simp only [↓reduceIte, inR_0, inR_1, inR_m, vSw2_e, swP_n, swP_c, vI_e, vL_e, vNull_e, vIload_e, vLload_e, vAload_e, vIstore_e, vLstore_e, vAstore_e, vIinc_e, vIadd_e, vIsub_e, vImul_e, vIand_e, vIor_e, vIxor_e, vIshl_e, vIshr_e, vIushr_e, vIdiv_e, vIrem_e, vLadd_e, vLsub_e, vLmul_e, vLand_e, vLor_e, vLxor_e, vLdiv_e, vLrem_e, vLushr_e, vLshl_e, vLcmp_e, vIneg_e, vI2l_e, vL2i_e, vI2b_e, vI2c_e, vDup_e, vPop_e, vDup2_e, vGoto_e, vIcEq_e, vIfEq_e, vIcNe_e, vIfNe_e, vIcLt_e, vIfLt_e, vIcGe_e, vIfGe_e, vIcGt_e, vIfGt_e, vIcLe_e, vIfLe_e, vNonnull_e, vSw_e, vGetI_e, vGetL_e, vGetR_e, vPutI_e, vPutZ_e, vPutL_e, vPutR_e, vIald_e, vIald_s, vLald_e, vBald_e, vBald_s, vAald_e, vIast_e, vLast_e, vBast_e, vAast_e, vAlen_e8, vAlen_e9, vAlen_e10, vAlen_e11, vAlen_e5, vAlen_e3, vGets_e, vCompact_e, vLdcS_e, vIret_e, vZret_e, vCret_e, vBret_e, vLret_e, vVret_e, vAret_e, vCallM_e0, vCallMV_e0, vCallS_e0, vCallSV_e0, vCallM_e1, vCallMV_e1, vCallS_e1, vCallSV_e1, vCallM_e2, vCallMV_e2, vCallS_e2, vCallSV_e2, vCallM_e3, vCallMV_e3, vCallS_e3, vCallSV_e3, vCallM_e4, vCallMV_e4, vCallS_e4, vCallSV_e4, vCallM_e5, vCallMV_e5, vCallS_e5, vCallSV_e5, vCallM_e6, vCallMV_e6, vCallS_e6, vCallSV_e6, vCallM_e7, vCallMV_e7, vCallS_e7, vCallSV_e7, vBad_e, vStrVal_e, vStrCod_e, vForm_e, vCallT_e0, vCallT_e1, vCallT_e2, vCopy_e, rf_0_0, rf_0_1, rf_0_2, rf_0_3, rf_0_4, rf_0_7, rf_0_10, rf_0_11, rf_0_12, rf_0_13, rf_0_14, rf_0_15, rf_0_16, rf_1_0, rf_3_0, rf_3_1, rf_6_0, rf_6_1, rf_9_0, rf_9_1, rf_9_3, rf_13_0, rf_13_1, rf_13_2, rf_16_0, rf_16_1, rf_16_2, rf_16_3, rf_21_0, rf_21_1, rf_21_2, rf_21_3, rf_26_0, rf_26_1, rf_26_2, rf_26_3, rf_26_4, rf_26_5, rf_26_6, rf_31_0, rf_31_2, rf_31_5, rf_31_6, rf_36_0, rf_36_1, rf_36_2, rf_36_3, rf_39_0, rf_39_1, rf_39_2, rf_41_0, rf_41_1, rf_41_2, rf_41_3, rf_5000_1, rf_5000_2, rf_5000_3, rf_5000_4, rf_5000_5, rf_5000_15, rf_5000_16, rf_5000_18, rf_5000_19, rf_5000_20, rf_5000_21, rf_5000_22, rf_5000_23, rf_5000_24, rf_5000_25, rf_5000_26, rf_5000_27, rf_5000_36, rf_5000_37, rf_5000_40, rf_5000_41, rf_5000_42, rf_5000_43, rf_5000_44, rf_5000_45, rf_5000_47, rf_5000_52, rf_5000_54, rf_5000_55, rf_100_0, rf_100_1, rf_103_0, rf_103_1, rf_106_0, rf_106_1, rf_109_0, rf_109_1, al_2, al_4, al_5, al_7, al_8, al_10, al_11, al_12, al_14, al_15, al_17, al_18, al_19, al_20, al_22, al_23, al_24, al_25, al_27, al_28, al_29, al_30, al_32, al_33, al_34, al_35, al_37, al_38, al_40, al_42, al_5001, al_5002, al_5003, al_5004, al_5005, al_5006, al_5007, al_5008, al_5009, al_5010, al_5011, al_5012, al_5013, al_5014, al_5015, al_5016, al_5017, al_5018, al_5019, al_5020, al_5021, al_5022, al_5023, al_5024, al_5025, al_5026, al_9000, al_101, al_102, al_104, al_105, al_107, al_108, al_110, al_111, vcs_e, lg_c0, lg_cs, lg_nil, set_c0, set_cs, okst_0, okst_s, acok_n, acok_c, List.contains_nil, List.contains_cons, Bool.or_false, Bool.false_or, Bool.false_eq_true, if_false, if_true, ite_self, ne_eq, true_and, and_true, not_false_eq_true, not_true_eq_false, false_imp_iff, true_imp_iff, Nat.ble_eq, Bool.and_eq_true, reduceCtorEq, or_false, false_or, or_true, true_or, false_and, and_false, and_self, Int.reduceLE, Int.reduceAdd, Int.reduceSub, Int.reduceMul, Int.reduceNeg, Int.reduceLT, Int.reduceEq, Int.reduceNe, Nat.reduceBEq, Nat.reduceBNe, Nat.reduceEqDiff, amCmp_in, amCmp_lt, amCmp_le, amCmp_gt, amCmp_ge, amCmp_eq, amCmp_ne, Nat.reduceLeDiff, Nat.reduceSub, Bool.and_true, Bool.true_and, Bool.and_self, Bool.or_true, Bool.true_or, isRf_3, isRf_4, isRf_5, isRf_8, isRf_9, isRf_10, isRf_11, isRf_15, isRf_16, isRf_17, isRf_18, isRf_19, isRf_20, isRf_21, isRf_22, isRf_23, isRf_24, isRf_25, isRf_26, isRf_27, isRf_28, k_X12_text_0, k_X12_text_1, k_X12_text_2, k_X12_text_5, k_X12_text_6, k_X12_text_7, k_X12_text_8, k_X12_text_11, k_X12_text_14, k_X12_text_17, k_X12_text_18, k_X12_text_19, k_X12_text_22, k_X12_text_23, k_X12_text_26, k_X12_text_27, k_X12_text_30, k_X12_text_31, k_X12_text_32, k_X12_text_35, k_X12_text_36, k_X12_text_39, k_X12_text_40, k_X12_text_43, k_X12_text_44, k_X12_text_45, k_X12_text_48, k_X12_text_49, k_X12_text_52, k_X12_text_53, k_X12_text_54, k_X12_text_55, k_X12_text_58, k_X12_text_59, k_X12_text_60, k_X12_text_61, k_X12_text_64, k_X12_text_65, k_X12_text_66, k_X12_text_69, k_X12_text_70, k_X12_text_71, k_X12_text_72, k_X12_text_73, k_X12_text_76, k_X12_text_77, k_X12_text_80, k_X12_text_83, k_X12_text_84, k_X12_text_87, k_X12_text_88, k_X12_text_89, k_X12_text_90, k_X12_text_91, k_X12_text_94, k_X12_text_95, k_X12_text_96, k_X12_text_97, k_X12_text_100, k_X12_text_103, k_X12_text_104, k_X12_text_107, k_X12_text_108, k_X12_text_111, k_X12_text_112, k_X12_text_113, k_X12_text_114, k_X12_text_115, k_X12_text_118, k_X12_text_119, k_X12_text_120, k_X12_text_123, k_X12_text_124, k_X12_text_127, k_X12_text_128, k_X12_text_129, k_X12_text_130, k_X12_text_131, k_X12_text_132, k_X12_text_135, k_X12_text_136, k_X12_text_137, k_X12_text_138, k_X12_text_140, k_X12_text_143, k_X12_text_144, k_X12_text_147, k_X12_text_149, k_X12_text_150, k_X12_text_153, k_X12_text_154, k_X12_text_155, k_X12_text_156, k_X12_text_157, k_X12_text_160, k_X12_text_163, k_X12_text_164, k_X12_text_165, k_X12_text_166, k_X12_text_167, k_X12_text_170, k_X12_text_173, k_X12_text_174, k_X12_text_177, k_X12_text_178, k_X12_text_181, k_X12_text_182, k_X12_text_185, k_X12_text_186, k_X12_text_187, k_X12_text_188, k_X12_text_189, k_X12_text_190, k_X12_text_193, k_X12_text_194, k_X12_text_195, k_X12_text_198, k_X12_text_199, k_X12_text_202, k_X12_text_203, k_X12_text_204, k_X12_text_205, k_X12_text_206, k_X12_text_207, k_X12_text_210, k_X12_text_213, k_X12_text_214, k_X12_text_215, k_X12_text_218, k_X12_text_221, k_X12_text_222, k_X12_text_223, k_X12_text_226, k_X12_text_229, k_X12_text_230, k_X12_text_231, k_X12_text_232, k_X12_text_233, k_X12_text_236, k_X12_text_237, k_X12_text_240, k_X12_text_241, k_X12_text_242, k_X12_text_245, k_X12_text_246, k_X12_text_247, k_X12_text_248, k_X12_text_251, k_X12_text_254, k_X12_text_255, k_X12_text_256, k_X12_text_257, k_X12_text_259, k_X12_text_262, k_X12_text_263, k_X12_text_266, k_X12_text_267, k_X12_text_268, k_X12_text_271, k_X12_text_272, k_X12_text_273, k_X12_text_274, k_X12_text_277, k_X12_text_280, k_X12_text_281, k_X12_text_282, k_X12_text_283, k_X12_text_285, k_X12_text_288, k_X12_text_289, k_X12_text_292, k_X12_text_293, k_X12_text_294, k_X12_text_297, k_X12_text_298, k_X12_text_299, k_X12_text_300, k_X12_text_303, k_X12_text_306, k_X12_text_307, k_X12_text_308, k_X12_text_309, k_X12_text_311, k_X12_text_314, k_X12_text_315, k_X12_text_318, k_X12_text_319, k_X12_text_320, k_X12_text_323, k_X12_text_324, k_X12_text_325, k_X12_text_326, k_X12_text_329, k_X12_text_332, k_X12_text_333, k_X12_text_334, k_X12_text_335, k_X12_text_338, k_X12_text_341, k_X12_text_342, k_X12_text_345, k_X12_text_346, k_X12_text_347, k_X12_text_348, k_X12_text_351, k_X12_text_354, k_X12_text_355, k_X12_text_356, k_X12_text_357, k_X12_text_358, k_X12_text_361, k_X12_text_364, k_X12_text_365, k_X12_text_367, k_X12_text_369, k_X12_text_370, k_X12_text_373, k_X12_text_374, k_X12_text_377, k_X12_text_378, k_X12_text_379, k_X12_text_380, k_X12_text_382, k_X12_text_383, k_X12_text_384, k_X12_text_387, k_X12_text_388, k_X12_text_389, k_X12_text_390, k_X12_text_392, k_X12_text_393, k_X12_text_394, k_X12_text_395, k_X12_text_398, k_X12_text_401, k_X12_text_404, k_X12_text_407, k_X12_text_408, k_X12_text_411, k_X12_text_413, k_X12_text_414, k_X12_text_417, k_X12_text_418, k_X12_text_419, k_X12_text_420, k_X12_text_421, k_X12_text_422, k_X12_text_425, k_X12_text_426, k_X12_text_427, k_X12_text_430, k_X12_text_431, k_X12_text_432, k_X12_text_435, k_X12_text_436, k_X12_text_439, c29]
        repeat' (first | apply And.intro | intro _)
        all_goals first | omega | exact absurd trivial (by assumption) | exact i9
      · have ek : (k : Int) = τ 5000 32 := by omega
        have q9 : Q (0, τ 5000 32) (up (up (up (up (chN (tx6 τ) (4 * (k : Int))) 5015 25 (τ 5006 1)) 5000 53 0) 5000 48 0) 5000 56 0) := by rw [ek]; exact hq
        have f29 : up (up (up (up (chN (tx6 τ) (4 * (k : Int))) 5015 25 (τ 5006 1)) 5000 53 0) 5000 48 0) 5000 56 0 5000 29 = τ 5000 32 := by rw [up_nj _ (by decide), up_nj _ (by decide), up_nj _ (by decide), up_na _ (by decide)]; exact c29
        simp only [↓reduceIte, inR_0, inR_1, inR_m, vSw2_e, swP_n, swP_c, vI_e, vL_e, vNull_e, vIload_e, vLload_e, vAload_e, vIstore_e, vLstore_e, vAstore_e, vIinc_e, vIadd_e, vIsub_e, vImul_e, vIand_e, vIor_e, vIxor_e, vIshl_e, vIshr_e, vIushr_e, vIdiv_e, vIrem_e, vLadd_e, vLsub_e, vLmul_e, vLand_e, vLor_e, vLxor_e, vLdiv_e, vLrem_e, vLushr_e, vLshl_e, vLcmp_e, vIneg_e, vI2l_e, vL2i_e, vI2b_e, vI2c_e, vDup_e, vPop_e, vDup2_e, vGoto_e, vIcEq_e, vIfEq_e, vIcNe_e, vIfNe_e, vIcLt_e, vIfLt_e, vIcGe_e, vIfGe_e, vIcGt_e, vIfGt_e, vIcLe_e, vIfLe_e, vNonnull_e, vSw_e, vGetI_e, vGetL_e, vGetR_e, vPutI_e, vPutZ_e, vPutL_e, vPutR_e, vIald_e, vIald_s, vLald_e, vBald_e, vBald_s, vAald_e, vIast_e, vLast_e, vBast_e, vAast_e, vAlen_e8, vAlen_e9, vAlen_e10, vAlen_e11, vAlen_e5, vAlen_e3, vGets_e, vCompact_e, vLdcS_e, vIret_e, vZret_e, vCret_e, vBret_e, vLret_e, vVret_e, vAret_e, vCallM_e0, vCallMV_e0, vCallS_e0, vCallSV_e0, vCallM_e1, vCallMV_e1, vCallS_e1, vCallSV_e1, vCallM_e2, vCallMV_e2, vCallS_e2, vCallSV_e2, vCallM_e3, vCallMV_e3, vCallS_e3, vCallSV_e3, vCallM_e4, vCallMV_e4, vCallS_e4, vCallSV_e4, vCallM_e5, vCallMV_e5, vCallS_e5, vCallSV_e5, vCallM_e6, vCallMV_e6, vCallS_e6, vCallSV_e6, vCallM_e7, vCallMV_e7, vCallS_e7, vCallSV_e7, vBad_e, vStrVal_e, vStrCod_e, vForm_e, vCallT_e0, vCallT_e1, vCallT_e2, vCopy_e, rf_0_0, rf_0_1, rf_0_2, rf_0_3, rf_0_4, rf_0_7, rf_0_10, rf_0_11, rf_0_12, rf_0_13, rf_0_14, rf_0_15, rf_0_16, rf_1_0, rf_3_0, rf_3_1, rf_6_0, rf_6_1, rf_9_0, rf_9_1, rf_9_3, rf_13_0, rf_13_1, rf_13_2, rf_16_0, rf_16_1, rf_16_2, rf_16_3, rf_21_0, rf_21_1, rf_21_2, rf_21_3, rf_26_0, rf_26_1, rf_26_2, rf_26_3, rf_26_4, rf_26_5, rf_26_6, rf_31_0, rf_31_2, rf_31_5, rf_31_6, rf_36_0, rf_36_1, rf_36_2, rf_36_3, rf_39_0, rf_39_1, rf_39_2, rf_41_0, rf_41_1, rf_41_2, rf_41_3, rf_5000_1, rf_5000_2, rf_5000_3, rf_5000_4, rf_5000_5, rf_5000_15, rf_5000_16, rf_5000_18, rf_5000_19, rf_5000_20, rf_5000_21, rf_5000_22, rf_5000_23, rf_5000_24, rf_5000_25, rf_5000_26, rf_5000_27, rf_5000_36, rf_5000_37, rf_5000_40, rf_5000_41, rf_5000_42, rf_5000_43, rf_5000_44, rf_5000_45, rf_5000_47, rf_5000_52, rf_5000_54, rf_5000_55, rf_100_0, rf_100_1, rf_103_0, rf_103_1, rf_106_0, rf_106_1, rf_109_0, rf_109_1, al_2, al_4, al_5, al_7, al_8, al_10, al_11, al_12, al_14, al_15, al_17, al_18, al_19, al_20, al_22, al_23, al_24, al_25, al_27, al_28, al_29, al_30, al_32, al_33, al_34, al_35, al_37, al_38, al_40, al_42, al_5001, al_5002, al_5003, al_5004, al_5005, al_5006, al_5007, al_5008, al_5009, al_5010, al_5011, al_5012, al_5013, al_5014, al_5015, al_5016, al_5017, al_5018, al_5019, al_5020, al_5021, al_5022, al_5023, al_5024, al_5025, al_5026, al_9000, al_101, al_102, al_104, al_105, al_107, al_108, al_110, al_111, vcs_e, lg_c0, lg_cs, lg_nil, set_c0, set_cs, okst_0, okst_s, acok_n, acok_c, List.contains_nil, List.contains_cons, Bool.or_false, Bool.false_or, Bool.false_eq_true, if_false, if_true, ite_self, ne_eq, true_and, and_true, not_false_eq_true, not_true_eq_false, false_imp_iff, true_imp_iff, Nat.ble_eq, Bool.and_eq_true, reduceCtorEq, or_false, false_or, or_true, true_or, false_and, and_false, and_self, Int.reduceLE, Int.reduceAdd, Int.reduceSub, Int.reduceMul, Int.reduceNeg, Int.reduceLT, Int.reduceEq, Int.reduceNe, Nat.reduceBEq, Nat.reduceBNe, Nat.reduceEqDiff, amCmp_in, amCmp_lt, amCmp_le, amCmp_gt, amCmp_ge, amCmp_eq, amCmp_ne, Nat.reduceLeDiff, Nat.reduceSub, Bool.and_true, Bool.true_and, Bool.and_self, Bool.or_true, Bool.true_or, isRf_3, isRf_4, isRf_5, isRf_8, isRf_9, isRf_10, isRf_11, isRf_15, isRf_16, isRf_17, isRf_18, isRf_19, isRf_20, isRf_21, isRf_22, isRf_23, isRf_24, isRf_25, isRf_26, isRf_27, isRf_28, k_X12_text_0, k_X12_text_1, k_X12_text_2, k_X12_text_5, k_X12_text_6, k_X12_text_7, k_X12_text_8, k_X12_text_11, k_X12_text_14, k_X12_text_17, k_X12_text_18, k_X12_text_19, k_X12_text_22, k_X12_text_23, k_X12_text_26, k_X12_text_27, k_X12_text_30, k_X12_text_31, k_X12_text_32, k_X12_text_35, k_X12_text_36, k_X12_text_39, k_X12_text_40, k_X12_text_43, k_X12_text_44, k_X12_text_45, k_X12_text_48, k_X12_text_49, k_X12_text_52, k_X12_text_53, k_X12_text_54, k_X12_text_55, k_X12_text_58, k_X12_text_59, k_X12_text_60, k_X12_text_61, k_X12_text_64, k_X12_text_65, k_X12_text_66, k_X12_text_69, k_X12_text_70, k_X12_text_71, k_X12_text_72, k_X12_text_73, k_X12_text_76, k_X12_text_77, k_X12_text_80, k_X12_text_83, k_X12_text_84, k_X12_text_87, k_X12_text_88, k_X12_text_89, k_X12_text_90, k_X12_text_91, k_X12_text_94, k_X12_text_95, k_X12_text_96, k_X12_text_97, k_X12_text_100, k_X12_text_103, k_X12_text_104, k_X12_text_107, k_X12_text_108, k_X12_text_111, k_X12_text_112, k_X12_text_113, k_X12_text_114, k_X12_text_115, k_X12_text_118, k_X12_text_119, k_X12_text_120, k_X12_text_123, k_X12_text_124, k_X12_text_127, k_X12_text_128, k_X12_text_129, k_X12_text_130, k_X12_text_131, k_X12_text_132, k_X12_text_135, k_X12_text_136, k_X12_text_137, k_X12_text_138, k_X12_text_140, k_X12_text_143, k_X12_text_144, k_X12_text_147, k_X12_text_149, k_X12_text_150, k_X12_text_153, k_X12_text_154, k_X12_text_155, k_X12_text_156, k_X12_text_157, k_X12_text_160, k_X12_text_163, k_X12_text_164, k_X12_text_165, k_X12_text_166, k_X12_text_167, k_X12_text_170, k_X12_text_173, k_X12_text_174, k_X12_text_177, k_X12_text_178, k_X12_text_181, k_X12_text_182, k_X12_text_185, k_X12_text_186, k_X12_text_187, k_X12_text_188, k_X12_text_189, k_X12_text_190, k_X12_text_193, k_X12_text_194, k_X12_text_195, k_X12_text_198, k_X12_text_199, k_X12_text_202, k_X12_text_203, k_X12_text_204, k_X12_text_205, k_X12_text_206, k_X12_text_207, k_X12_text_210, k_X12_text_213, k_X12_text_214, k_X12_text_215, k_X12_text_218, k_X12_text_221, k_X12_text_222, k_X12_text_223, k_X12_text_226, k_X12_text_229, k_X12_text_230, k_X12_text_231, k_X12_text_232, k_X12_text_233, k_X12_text_236, k_X12_text_237, k_X12_text_240, k_X12_text_241, k_X12_text_242, k_X12_text_245, k_X12_text_246, k_X12_text_247, k_X12_text_248, k_X12_text_251, k_X12_text_254, k_X12_text_255, k_X12_text_256, k_X12_text_257, k_X12_text_259, k_X12_text_262, k_X12_text_263, k_X12_text_266, k_X12_text_267, k_X12_text_268, k_X12_text_271, k_X12_text_272, k_X12_text_273, k_X12_text_274, k_X12_text_277, k_X12_text_280, k_X12_text_281, k_X12_text_282, k_X12_text_283, k_X12_text_285, k_X12_text_288, k_X12_text_289, k_X12_text_292, k_X12_text_293, k_X12_text_294, k_X12_text_297, k_X12_text_298, k_X12_text_299, k_X12_text_300, k_X12_text_303, k_X12_text_306, k_X12_text_307, k_X12_text_308, k_X12_text_309, k_X12_text_311, k_X12_text_314, k_X12_text_315, k_X12_text_318, k_X12_text_319, k_X12_text_320, k_X12_text_323, k_X12_text_324, k_X12_text_325, k_X12_text_326, k_X12_text_329, k_X12_text_332, k_X12_text_333, k_X12_text_334, k_X12_text_335, k_X12_text_338, k_X12_text_341, k_X12_text_342, k_X12_text_345, k_X12_text_346, k_X12_text_347, k_X12_text_348, k_X12_text_351, k_X12_text_354, k_X12_text_355, k_X12_text_356, k_X12_text_357, k_X12_text_358, k_X12_text_361, k_X12_text_364, k_X12_text_365, k_X12_text_367, k_X12_text_369, k_X12_text_370, k_X12_text_373, k_X12_text_374, k_X12_text_377, k_X12_text_378, k_X12_text_379, k_X12_text_380, k_X12_text_382, k_X12_text_383, k_X12_text_384, k_X12_text_387, k_X12_text_388, k_X12_text_389, k_X12_text_390, k_X12_text_392, k_X12_text_393, k_X12_text_394, k_X12_text_395, k_X12_text_398, k_X12_text_401, k_X12_text_404, k_X12_text_407, k_X12_text_408, k_X12_text_411, k_X12_text_413, k_X12_text_414, k_X12_text_417, k_X12_text_418, k_X12_text_419, k_X12_text_420, k_X12_text_421, k_X12_text_422, k_X12_text_425, k_X12_text_426, k_X12_text_427, k_X12_text_430, k_X12_text_431, k_X12_text_432, k_X12_text_435, k_X12_text_436, k_X12_text_439, c29, c51, f29]
        repeat' (first | apply And.intro | intro _)
        all_goals first | omega | exact absurd trivial (by assumption) | exact q9
    · have c9 : chN (tx6 τ) (4 * (k : Int) + i) 5009 = tx6 τ 5009 := chN_o _ _ (by decide)
      refine ⟨60, ?_⟩
      by_cases cc : (i : Int) < 3
      · have i9 : ∃ k', k' < n ∧ inv_txt Q 0 k' 367 [(28, 5000), (0, 0), (0, τ 5000 6), (0, (k : Int)), (0, (i : Int) + 1)] [] (up (chN (tx6 τ) (4 * (k : Int) + i)) 5015 (4 * (k : Int) + i) (tx6 τ 5009 (3 * (k : Int) + i))) := by
          refine ⟨n - 1, by omega, rfl, τ, v4, Or.inr (Or.inr ⟨rfl, t32, hq, Or.inr (Or.inr (Or.inr (Or.inr (Or.inr (Or.inr ⟨rfl, k, i + 1, rfl, hk, by omega, by omega, ?_⟩)))))⟩)⟩
          rw [chN_s (tx6 τ) (by omega) (by omega) cc]; rfl
        simp only [↓reduceIte, inR_0, inR_1, inR_m, vSw2_e, swP_n, swP_c, vI_e, vL_e, vNull_e, vIload_e, vLload_e, vAload_e, vIstore_e, vLstore_e, vAstore_e, vIinc_e, vIadd_e, vIsub_e, vImul_e, vIand_e, vIor_e, vIxor_e, vIshl_e, vIshr_e, vIushr_e, vIdiv_e, vIrem_e, vLadd_e, vLsub_e, vLmul_e, vLand_e, vLor_e, vLxor_e, vLdiv_e, vLrem_e, vLushr_e, vLshl_e, vLcmp_e, vIneg_e, vI2l_e, vL2i_e, vI2b_e, vI2c_e, vDup_e, vPop_e, vDup2_e, vGoto_e, vIcEq_e, vIfEq_e, vIcNe_e, vIfNe_e, vIcLt_e, vIfLt_e, vIcGe_e, vIfGe_e, vIcGt_e, vIfGt_e, vIcLe_e, vIfLe_e, vNonnull_e, vSw_e, vGetI_e, vGetL_e, vGetR_e, vPutI_e, vPutZ_e, vPutL_e, vPutR_e, vIald_e, vIald_s, vLald_e, vBald_e, vBald_s, vAald_e, vIast_e, vLast_e, vBast_e, vAast_e, vAlen_e8, vAlen_e9, vAlen_e10, vAlen_e11, vAlen_e5, vAlen_e3, vGets_e, vCompact_e, vLdcS_e, vIret_e, vZret_e, vCret_e, vBret_e, vLret_e, vVret_e, vAret_e, vCallM_e0, vCallMV_e0, vCallS_e0, vCallSV_e0, vCallM_e1, vCallMV_e1, vCallS_e1, vCallSV_e1, vCallM_e2, vCallMV_e2, vCallS_e2, vCallSV_e2, vCallM_e3, vCallMV_e3, vCallS_e3, vCallSV_e3, vCallM_e4, vCallMV_e4, vCallS_e4, vCallSV_e4, vCallM_e5, vCallMV_e5, vCallS_e5, vCallSV_e5, vCallM_e6, vCallMV_e6, vCallS_e6, vCallSV_e6, vCallM_e7, vCallMV_e7, vCallS_e7, vCallSV_e7, vBad_e, vStrVal_e, vStrCod_e, vForm_e, vCallT_e0, vCallT_e1, vCallT_e2, vCopy_e, rf_0_0, rf_0_1, rf_0_2, rf_0_3, rf_0_4, rf_0_7, rf_0_10, rf_0_11, rf_0_12, rf_0_13, rf_0_14, rf_0_15, rf_0_16, rf_1_0, rf_3_0, rf_3_1, rf_6_0, rf_6_1, rf_9_0, rf_9_1, rf_9_3, rf_13_0, rf_13_1, rf_13_2, rf_16_0, rf_16_1, rf_16_2, rf_16_3, rf_21_0, rf_21_1, rf_21_2, rf_21_3, rf_26_0, rf_26_1, rf_26_2, rf_26_3, rf_26_4, rf_26_5, rf_26_6, rf_31_0, rf_31_2, rf_31_5, rf_31_6, rf_36_0, rf_36_1, rf_36_2, rf_36_3, rf_39_0, rf_39_1, rf_39_2, rf_41_0, rf_41_1, rf_41_2, rf_41_3, rf_5000_1, rf_5000_2, rf_5000_3, rf_5000_4, rf_5000_5, rf_5000_15, rf_5000_16, rf_5000_18, rf_5000_19, rf_5000_20, rf_5000_21, rf_5000_22, rf_5000_23, rf_5000_24, rf_5000_25, rf_5000_26, rf_5000_27, rf_5000_36, rf_5000_37, rf_5000_40, rf_5000_41, rf_5000_42, rf_5000_43, rf_5000_44, rf_5000_45, rf_5000_47, rf_5000_52, rf_5000_54, rf_5000_55, rf_100_0, rf_100_1, rf_103_0, rf_103_1, rf_106_0, rf_106_1, rf_109_0, rf_109_1, al_2, al_4, al_5, al_7, al_8, al_10, al_11, al_12, al_14, al_15, al_17, al_18, al_19, al_20, al_22, al_23, al_24, al_25, al_27, al_28, al_29, al_30, al_32, al_33, al_34, al_35, al_37, al_38, al_40, al_42, al_5001, al_5002, al_5003, al_5004, al_5005, al_5006, al_5007, al_5008, al_5009, al_5010, al_5011, al_5012, al_5013, al_5014, al_5015, al_5016, al_5017, al_5018, al_5019, al_5020, al_5021, al_5022, al_5023, al_5024, al_5025, al_5026, al_9000, al_101, al_102, al_104, al_105, al_107, al_108, al_110, al_111, vcs_e, lg_c0, lg_cs, lg_nil, set_c0, set_cs, okst_0, okst_s, acok_n, acok_c, List.contains_nil, List.contains_cons, Bool.or_false, Bool.false_or, Bool.false_eq_true, if_false, if_true, ite_self, ne_eq, true_and, and_true, not_false_eq_true, not_true_eq_false, false_imp_iff, true_imp_iff, Nat.ble_eq, Bool.and_eq_true, reduceCtorEq, or_false, false_or, or_true, true_or, false_and, and_false, and_self, Int.reduceLE, Int.reduceAdd, Int.reduceSub, Int.reduceMul, Int.reduceNeg, Int.reduceLT, Int.reduceEq, Int.reduceNe, Nat.reduceBEq, Nat.reduceBNe, Nat.reduceEqDiff, amCmp_in, amCmp_lt, amCmp_le, amCmp_gt, amCmp_ge, amCmp_eq, amCmp_ne, Nat.reduceLeDiff, Nat.reduceSub, Bool.and_true, Bool.true_and, Bool.and_self, Bool.or_true, Bool.true_or, isRf_3, isRf_4, isRf_5, isRf_8, isRf_9, isRf_10, isRf_11, isRf_15, isRf_16, isRf_17, isRf_18, isRf_19, isRf_20, isRf_21, isRf_22, isRf_23, isRf_24, isRf_25, isRf_26, isRf_27, isRf_28, k_X12_text_0, k_X12_text_1, k_X12_text_2, k_X12_text_5, k_X12_text_6, k_X12_text_7, k_X12_text_8, k_X12_text_11, k_X12_text_14, k_X12_text_17, k_X12_text_18, k_X12_text_19, k_X12_text_22, k_X12_text_23, k_X12_text_26, k_X12_text_27, k_X12_text_30, k_X12_text_31, k_X12_text_32, k_X12_text_35, k_X12_text_36, k_X12_text_39, k_X12_text_40, k_X12_text_43, k_X12_text_44, k_X12_text_45, k_X12_text_48, k_X12_text_49, k_X12_text_52, k_X12_text_53, k_X12_text_54, k_X12_text_55, k_X12_text_58, k_X12_text_59, k_X12_text_60, k_X12_text_61, k_X12_text_64, k_X12_text_65, k_X12_text_66, k_X12_text_69, k_X12_text_70, k_X12_text_71, k_X12_text_72, k_X12_text_73, k_X12_text_76, k_X12_text_77, k_X12_text_80, k_X12_text_83, k_X12_text_84, k_X12_text_87, k_X12_text_88, k_X12_text_89, k_X12_text_90, k_X12_text_91, k_X12_text_94, k_X12_text_95, k_X12_text_96, k_X12_text_97, k_X12_text_100, k_X12_text_103, k_X12_text_104, k_X12_text_107, k_X12_text_108, k_X12_text_111, k_X12_text_112, k_X12_text_113, k_X12_text_114, k_X12_text_115, k_X12_text_118, k_X12_text_119, k_X12_text_120, k_X12_text_123, k_X12_text_124, k_X12_text_127, k_X12_text_128, k_X12_text_129, k_X12_text_130, k_X12_text_131, k_X12_text_132, k_X12_text_135, k_X12_text_136, k_X12_text_137, k_X12_text_138, k_X12_text_140, k_X12_text_143, k_X12_text_144, k_X12_text_147, k_X12_text_149, k_X12_text_150, k_X12_text_153, k_X12_text_154, k_X12_text_155, k_X12_text_156, k_X12_text_157, k_X12_text_160, k_X12_text_163, k_X12_text_164, k_X12_text_165, k_X12_text_166, k_X12_text_167, k_X12_text_170, k_X12_text_173, k_X12_text_174, k_X12_text_177, k_X12_text_178, k_X12_text_181, k_X12_text_182, k_X12_text_185, k_X12_text_186, k_X12_text_187, k_X12_text_188, k_X12_text_189, k_X12_text_190, k_X12_text_193, k_X12_text_194, k_X12_text_195, k_X12_text_198, k_X12_text_199, k_X12_text_202, k_X12_text_203, k_X12_text_204, k_X12_text_205, k_X12_text_206, k_X12_text_207, k_X12_text_210, k_X12_text_213, k_X12_text_214, k_X12_text_215, k_X12_text_218, k_X12_text_221, k_X12_text_222, k_X12_text_223, k_X12_text_226, k_X12_text_229, k_X12_text_230, k_X12_text_231, k_X12_text_232, k_X12_text_233, k_X12_text_236, k_X12_text_237, k_X12_text_240, k_X12_text_241, k_X12_text_242, k_X12_text_245, k_X12_text_246, k_X12_text_247, k_X12_text_248, k_X12_text_251, k_X12_text_254, k_X12_text_255, k_X12_text_256, k_X12_text_257, k_X12_text_259, k_X12_text_262, k_X12_text_263, k_X12_text_266, k_X12_text_267, k_X12_text_268, k_X12_text_271, k_X12_text_272, k_X12_text_273, k_X12_text_274, k_X12_text_277, k_X12_text_280, k_X12_text_281, k_X12_text_282, k_X12_text_283, k_X12_text_285, k_X12_text_288, k_X12_text_289, k_X12_text_292, k_X12_text_293, k_X12_text_294, k_X12_text_297, k_X12_text_298, k_X12_text_299, k_X12_text_300, k_X12_text_303, k_X12_text_306, k_X12_text_307, k_X12_text_308, k_X12_text_309, k_X12_text_311, k_X12_text_314, k_X12_text_315, k_X12_text_318, k_X12_text_319, k_X12_text_320, k_X12_text_323, k_X12_text_324, k_X12_text_325, k_X12_text_326, k_X12_text_329, k_X12_text_332, k_X12_text_333, k_X12_text_334, k_X12_text_335, k_X12_text_338, k_X12_text_341, k_X12_text_342, k_X12_text_345, k_X12_text_346, k_X12_text_347, k_X12_text_348, k_X12_text_351, k_X12_text_354, k_X12_text_355, k_X12_text_356, k_X12_text_357, k_X12_text_358, k_X12_text_361, k_X12_text_364, k_X12_text_365, k_X12_text_367, k_X12_text_369, k_X12_text_370, k_X12_text_373, k_X12_text_374, k_X12_text_377, k_X12_text_378, k_X12_text_379, k_X12_text_380, k_X12_text_382, k_X12_text_383, k_X12_text_384, k_X12_text_387, k_X12_text_388, k_X12_text_389, k_X12_text_390, k_X12_text_392, k_X12_text_393, k_X12_text_394, k_X12_text_395, k_X12_text_398, k_X12_text_401, k_X12_text_404, k_X12_text_407, k_X12_text_408, k_X12_text_411, k_X12_text_413, k_X12_text_414, k_X12_text_417, k_X12_text_418, k_X12_text_419, k_X12_text_420, k_X12_text_421, k_X12_text_422, k_X12_text_425, k_X12_text_426, k_X12_text_427, k_X12_text_430, k_X12_text_431, k_X12_text_432, k_X12_text_435, k_X12_text_436, k_X12_text_439, c9]
        repeat' (first | apply And.intro | intro _)
        all_goals first | omega | exact absurd trivial (by assumption) | exact i9
      · have ei : (i : Int) = 3 := by omega
        have i9 : ∃ k', k' < n ∧ inv_txt Q 0 k' 356 [(28, 5000), (0, 0), (0, τ 5000 6), (0, (k : Int) + 1), (0, (i : Int))] [] (chN (tx6 τ) (4 * (k : Int) + i)) := by
          refine ⟨n - 6, by omega, rfl, τ, (0, (i : Int)), Or.inr (Or.inr ⟨rfl, t32, hq, Or.inr (Or.inr (Or.inr (Or.inr (Or.inr (Or.inl ⟨rfl, k + 1, rfl, by omega, by omega, ?_⟩)))))⟩)⟩
          rw [ei, chN_3]; rfl
        simp only [↓reduceIte, inR_0, inR_1, inR_m, vSw2_e, swP_n, swP_c, vI_e, vL_e, vNull_e, vIload_e, vLload_e, vAload_e, vIstore_e, vLstore_e, vAstore_e, vIinc_e, vIadd_e, vIsub_e, vImul_e, vIand_e, vIor_e, vIxor_e, vIshl_e, vIshr_e, vIushr_e, vIdiv_e, vIrem_e, vLadd_e, vLsub_e, vLmul_e, vLand_e, vLor_e, vLxor_e, vLdiv_e, vLrem_e, vLushr_e, vLshl_e, vLcmp_e, vIneg_e, vI2l_e, vL2i_e, vI2b_e, vI2c_e, vDup_e, vPop_e, vDup2_e, vGoto_e, vIcEq_e, vIfEq_e, vIcNe_e, vIfNe_e, vIcLt_e, vIfLt_e, vIcGe_e, vIfGe_e, vIcGt_e, vIfGt_e, vIcLe_e, vIfLe_e, vNonnull_e, vSw_e, vGetI_e, vGetL_e, vGetR_e, vPutI_e, vPutZ_e, vPutL_e, vPutR_e, vIald_e, vIald_s, vLald_e, vBald_e, vBald_s, vAald_e, vIast_e, vLast_e, vBast_e, vAast_e, vAlen_e8, vAlen_e9, vAlen_e10, vAlen_e11, vAlen_e5, vAlen_e3, vGets_e, vCompact_e, vLdcS_e, vIret_e, vZret_e, vCret_e, vBret_e, vLret_e, vVret_e, vAret_e, vCallM_e0, vCallMV_e0, vCallS_e0, vCallSV_e0, vCallM_e1, vCallMV_e1, vCallS_e1, vCallSV_e1, vCallM_e2, vCallMV_e2, vCallS_e2, vCallSV_e2, vCallM_e3, vCallMV_e3, vCallS_e3, vCallSV_e3, vCallM_e4, vCallMV_e4, vCallS_e4, vCallSV_e4, vCallM_e5, vCallMV_e5, vCallS_e5, vCallSV_e5, vCallM_e6, vCallMV_e6, vCallS_e6, vCallSV_e6, vCallM_e7, vCallMV_e7, vCallS_e7, vCallSV_e7, vBad_e, vStrVal_e, vStrCod_e, vForm_e, vCallT_e0, vCallT_e1, vCallT_e2, vCopy_e, rf_0_0, rf_0_1, rf_0_2, rf_0_3, rf_0_4, rf_0_7, rf_0_10, rf_0_11, rf_0_12, rf_0_13, rf_0_14, rf_0_15, rf_0_16, rf_1_0, rf_3_0, rf_3_1, rf_6_0, rf_6_1, rf_9_0, rf_9_1, rf_9_3, rf_13_0, rf_13_1, rf_13_2, rf_16_0, rf_16_1, rf_16_2, rf_16_3, rf_21_0, rf_21_1, rf_21_2, rf_21_3, rf_26_0, rf_26_1, rf_26_2, rf_26_3, rf_26_4, rf_26_5, rf_26_6, rf_31_0, rf_31_2, rf_31_5, rf_31_6, rf_36_0, rf_36_1, rf_36_2, rf_36_3, rf_39_0, rf_39_1, rf_39_2, rf_41_0, rf_41_1, rf_41_2, rf_41_3, rf_5000_1, rf_5000_2, rf_5000_3, rf_5000_4, rf_5000_5, rf_5000_15, rf_5000_16, rf_5000_18, rf_5000_19, rf_5000_20, rf_5000_21, rf_5000_22, rf_5000_23, rf_5000_24, rf_5000_25, rf_5000_26, rf_5000_27, rf_5000_36, rf_5000_37, rf_5000_40, rf_5000_41, rf_5000_42, rf_5000_43, rf_5000_44, rf_5000_45, rf_5000_47, rf_5000_52, rf_5000_54, rf_5000_55, rf_100_0, rf_100_1, rf_103_0, rf_103_1, rf_106_0, rf_106_1, rf_109_0, rf_109_1, al_2, al_4, al_5, al_7, al_8, al_10, al_11, al_12, al_14, al_15, al_17, al_18, al_19, al_20, al_22, al_23, al_24, al_25, al_27, al_28, al_29, al_30, al_32, al_33, al_34, al_35, al_37, al_38, al_40, al_42, al_5001, al_5002, al_5003, al_5004, al_5005, al_5006, al_5007, al_5008, al_5009, al_5010, al_5011, al_5012, al_5013, al_5014, al_5015, al_5016, al_5017, al_5018, al_5019, al_5020, al_5021, al_5022, al_5023, al_5024, al_5025, al_5026, al_9000, al_101, al_102, al_104, al_105, al_107, al_108, al_110, al_111, vcs_e, lg_c0, lg_cs, lg_nil, set_c0, set_cs, okst_0, okst_s, acok_n, acok_c, List.contains_nil, List.contains_cons, Bool.or_false, Bool.false_or, Bool.false_eq_true, if_false, if_true, ite_self, ne_eq, true_and, and_true, not_false_eq_true, not_true_eq_false, false_imp_iff, true_imp_iff, Nat.ble_eq, Bool.and_eq_true, reduceCtorEq, or_false, false_or, or_true, true_or, false_and, and_false, and_self, Int.reduceLE, Int.reduceAdd, Int.reduceSub, Int.reduceMul, Int.reduceNeg, Int.reduceLT, Int.reduceEq, Int.reduceNe, Nat.reduceBEq, Nat.reduceBNe, Nat.reduceEqDiff, amCmp_in, amCmp_lt, amCmp_le, amCmp_gt, amCmp_ge, amCmp_eq, amCmp_ne, Nat.reduceLeDiff, Nat.reduceSub, Bool.and_true, Bool.true_and, Bool.and_self, Bool.or_true, Bool.true_or, isRf_3, isRf_4, isRf_5, isRf_8, isRf_9, isRf_10, isRf_11, isRf_15, isRf_16, isRf_17, isRf_18, isRf_19, isRf_20, isRf_21, isRf_22, isRf_23, isRf_24, isRf_25, isRf_26, isRf_27, isRf_28, k_X12_text_0, k_X12_text_1, k_X12_text_2, k_X12_text_5, k_X12_text_6, k_X12_text_7, k_X12_text_8, k_X12_text_11, k_X12_text_14, k_X12_text_17, k_X12_text_18, k_X12_text_19, k_X12_text_22, k_X12_text_23, k_X12_text_26, k_X12_text_27, k_X12_text_30, k_X12_text_31, k_X12_text_32, k_X12_text_35, k_X12_text_36, k_X12_text_39, k_X12_text_40, k_X12_text_43, k_X12_text_44, k_X12_text_45, k_X12_text_48, k_X12_text_49, k_X12_text_52, k_X12_text_53, k_X12_text_54, k_X12_text_55, k_X12_text_58, k_X12_text_59, k_X12_text_60, k_X12_text_61, k_X12_text_64, k_X12_text_65, k_X12_text_66, k_X12_text_69, k_X12_text_70, k_X12_text_71, k_X12_text_72, k_X12_text_73, k_X12_text_76, k_X12_text_77, k_X12_text_80, k_X12_text_83, k_X12_text_84, k_X12_text_87, k_X12_text_88, k_X12_text_89, k_X12_text_90, k_X12_text_91, k_X12_text_94, k_X12_text_95, k_X12_text_96, k_X12_text_97, k_X12_text_100, k_X12_text_103, k_X12_text_104, k_X12_text_107, k_X12_text_108, k_X12_text_111, k_X12_text_112, k_X12_text_113, k_X12_text_114, k_X12_text_115, k_X12_text_118, k_X12_text_119, k_X12_text_120, k_X12_text_123, k_X12_text_124, k_X12_text_127, k_X12_text_128, k_X12_text_129, k_X12_text_130, k_X12_text_131, k_X12_text_132, k_X12_text_135, k_X12_text_136, k_X12_text_137, k_X12_text_138, k_X12_text_140, k_X12_text_143, k_X12_text_144, k_X12_text_147, k_X12_text_149, k_X12_text_150, k_X12_text_153, k_X12_text_154, k_X12_text_155, k_X12_text_156, k_X12_text_157, k_X12_text_160, k_X12_text_163, k_X12_text_164, k_X12_text_165, k_X12_text_166, k_X12_text_167, k_X12_text_170, k_X12_text_173, k_X12_text_174, k_X12_text_177, k_X12_text_178, k_X12_text_181, k_X12_text_182, k_X12_text_185, k_X12_text_186, k_X12_text_187, k_X12_text_188, k_X12_text_189, k_X12_text_190, k_X12_text_193, k_X12_text_194, k_X12_text_195, k_X12_text_198, k_X12_text_199, k_X12_text_202, k_X12_text_203, k_X12_text_204, k_X12_text_205, k_X12_text_206, k_X12_text_207, k_X12_text_210, k_X12_text_213, k_X12_text_214, k_X12_text_215, k_X12_text_218, k_X12_text_221, k_X12_text_222, k_X12_text_223, k_X12_text_226, k_X12_text_229, k_X12_text_230, k_X12_text_231, k_X12_text_232, k_X12_text_233, k_X12_text_236, k_X12_text_237, k_X12_text_240, k_X12_text_241, k_X12_text_242, k_X12_text_245, k_X12_text_246, k_X12_text_247, k_X12_text_248, k_X12_text_251, k_X12_text_254, k_X12_text_255, k_X12_text_256, k_X12_text_257, k_X12_text_259, k_X12_text_262, k_X12_text_263, k_X12_text_266, k_X12_text_267, k_X12_text_268, k_X12_text_271, k_X12_text_272, k_X12_text_273, k_X12_text_274, k_X12_text_277, k_X12_text_280, k_X12_text_281, k_X12_text_282, k_X12_text_283, k_X12_text_285, k_X12_text_288, k_X12_text_289, k_X12_text_292, k_X12_text_293, k_X12_text_294, k_X12_text_297, k_X12_text_298, k_X12_text_299, k_X12_text_300, k_X12_text_303, k_X12_text_306, k_X12_text_307, k_X12_text_308, k_X12_text_309, k_X12_text_311, k_X12_text_314, k_X12_text_315, k_X12_text_318, k_X12_text_319, k_X12_text_320, k_X12_text_323, k_X12_text_324, k_X12_text_325, k_X12_text_326, k_X12_text_329, k_X12_text_332, k_X12_text_333, k_X12_text_334, k_X12_text_335, k_X12_text_338, k_X12_text_341, k_X12_text_342, k_X12_text_345, k_X12_text_346, k_X12_text_347, k_X12_text_348, k_X12_text_351, k_X12_text_354, k_X12_text_355, k_X12_text_356, k_X12_text_357, k_X12_text_358, k_X12_text_361, k_X12_text_364, k_X12_text_365, k_X12_text_367, k_X12_text_369, k_X12_text_370, k_X12_text_373, k_X12_text_374, k_X12_text_377, k_X12_text_378, k_X12_text_379, k_X12_text_380, k_X12_text_382, k_X12_text_383, k_X12_text_384, k_X12_text_387, k_X12_text_388, k_X12_text_389, k_X12_text_390, k_X12_text_392, k_X12_text_393, k_X12_text_394, k_X12_text_395, k_X12_text_398, k_X12_text_401, k_X12_text_404, k_X12_text_407, k_X12_text_408, k_X12_text_411, k_X12_text_413, k_X12_text_414, k_X12_text_417, k_X12_text_418, k_X12_text_419, k_X12_text_420, k_X12_text_421, k_X12_text_422, k_X12_text_425, k_X12_text_426, k_X12_text_427, k_X12_text_430, k_X12_text_431, k_X12_text_432, k_X12_text_435, k_X12_text_436, k_X12_text_439]
        repeat' (first | apply And.intro | intro _)
        all_goals first | omega | exact absurd trivial (by assumption) | exact i9
  · change vcs _ _ _ _ 300 0 [(28, 5000), (0, s), (6, 0), (6, 0), (6, 0)] [] σ
    by_cases d : 0 ≤ s ∧ s ≤ 2
    · have e : s = 0 ∨ s = 1 ∨ s = 2 := by omega
      rcases e with rfl | rfl | rfl
      · obtain ⟨g1, g2⟩ := h2 rfl
        have i9 : ∀ τ, (hRd (th0 σ)).1 = -1 → HRF (th0 σ) τ → rowB (vof τ) → ((hRd (th0 σ)).1 = -1 → hRok (hRd (th0 σ)) τ) → ∃ k', inv_txt Q 0 k' 231 [(28, 5000), (0, 0), (0, τ 5000 6), (0, 0), (6, 0)] [] (up (up (up (up τ 5000 6 0) 5000 28 (τ 5000 31)) 5000 29 (τ 5000 32)) 5000 30 (τ 5000 33)) := fun τ z a a' b => by
          have ok := b z
          have e32 : τ 5000 32 = (hRd (th0 σ)).2.2.1 2 := ok.1 2 (by decide) (by decide)
          refine ⟨2002, rfl, τ, (6, 0), Or.inr (Or.inr ⟨rfl, by rw [e32]; exact hc, g2 z τ a a' ok, Or.inl ⟨rfl, 0, rfl, by omega, by omega, ?_⟩⟩)⟩
          exact (cpy_0 (tx1 τ) 5006 0 5005 0).symm
        have i8 : ∀ τ, ¬ (hRd (th0 σ)).1 = -1 → HRF (th0 σ) τ → rowB (vof τ) → Q (0, -1) τ := fun τ z a a' => g1 z τ a a'
        by_cases z : (hRd (th0 σ)).1 = -1
        · have i9z := fun τ => i9 τ z
          have i9y : ∀ τ, HRF (th0 σ) τ → rowB (vof τ) → hRok (hRd (th0 σ)) τ → _ := fun τ a a' b => i9 τ z a a' (fun _ => b)
          simp only [↓reduceIte, inR_0, inR_1, inR_m, vSw2_e, swP_n, swP_c, vI_e, vL_e, vNull_e, vIload_e, vLload_e, vAload_e, vIstore_e, vLstore_e, vAstore_e, vIinc_e, vIadd_e, vIsub_e, vImul_e, vIand_e, vIor_e, vIxor_e, vIshl_e, vIshr_e, vIushr_e, vIdiv_e, vIrem_e, vLadd_e, vLsub_e, vLmul_e, vLand_e, vLor_e, vLxor_e, vLdiv_e, vLrem_e, vLushr_e, vLshl_e, vLcmp_e, vIneg_e, vI2l_e, vL2i_e, vI2b_e, vI2c_e, vDup_e, vPop_e, vDup2_e, vGoto_e, vIcEq_e, vIfEq_e, vIcNe_e, vIfNe_e, vIcLt_e, vIfLt_e, vIcGe_e, vIfGe_e, vIcGt_e, vIfGt_e, vIcLe_e, vIfLe_e, vNonnull_e, vSw_e, vGetI_e, vGetL_e, vGetR_e, vPutI_e, vPutZ_e, vPutL_e, vPutR_e, vIald_e, vIald_s, vLald_e, vBald_e, vBald_s, vAald_e, vIast_e, vLast_e, vBast_e, vAast_e, vAlen_e8, vAlen_e9, vAlen_e10, vAlen_e11, vAlen_e5, vAlen_e3, vGets_e, vCompact_e, vLdcS_e, vIret_e, vZret_e, vCret_e, vBret_e, vLret_e, vVret_e, vAret_e, vCallM_e0, vCallMV_e0, vCallS_e0, vCallSV_e0, vCallM_e1, vCallMV_e1, vCallS_e1, vCallSV_e1, vCallM_e2, vCallMV_e2, vCallS_e2, vCallSV_e2, vCallM_e3, vCallMV_e3, vCallS_e3, vCallSV_e3, vCallM_e4, vCallMV_e4, vCallS_e4, vCallSV_e4, vCallM_e5, vCallMV_e5, vCallS_e5, vCallSV_e5, vCallM_e6, vCallMV_e6, vCallS_e6, vCallSV_e6, vCallM_e7, vCallMV_e7, vCallS_e7, vCallSV_e7, vBad_e, vStrVal_e, vStrCod_e, vForm_e, vCallT_e0, vCallT_e1, vCallT_e2, vCopy_e, rf_0_0, rf_0_1, rf_0_2, rf_0_3, rf_0_4, rf_0_7, rf_0_10, rf_0_11, rf_0_12, rf_0_13, rf_0_14, rf_0_15, rf_0_16, rf_1_0, rf_3_0, rf_3_1, rf_6_0, rf_6_1, rf_9_0, rf_9_1, rf_9_3, rf_13_0, rf_13_1, rf_13_2, rf_16_0, rf_16_1, rf_16_2, rf_16_3, rf_21_0, rf_21_1, rf_21_2, rf_21_3, rf_26_0, rf_26_1, rf_26_2, rf_26_3, rf_26_4, rf_26_5, rf_26_6, rf_31_0, rf_31_2, rf_31_5, rf_31_6, rf_36_0, rf_36_1, rf_36_2, rf_36_3, rf_39_0, rf_39_1, rf_39_2, rf_41_0, rf_41_1, rf_41_2, rf_41_3, rf_5000_1, rf_5000_2, rf_5000_3, rf_5000_4, rf_5000_5, rf_5000_15, rf_5000_16, rf_5000_18, rf_5000_19, rf_5000_20, rf_5000_21, rf_5000_22, rf_5000_23, rf_5000_24, rf_5000_25, rf_5000_26, rf_5000_27, rf_5000_36, rf_5000_37, rf_5000_40, rf_5000_41, rf_5000_42, rf_5000_43, rf_5000_44, rf_5000_45, rf_5000_47, rf_5000_52, rf_5000_54, rf_5000_55, rf_100_0, rf_100_1, rf_103_0, rf_103_1, rf_106_0, rf_106_1, rf_109_0, rf_109_1, al_2, al_4, al_5, al_7, al_8, al_10, al_11, al_12, al_14, al_15, al_17, al_18, al_19, al_20, al_22, al_23, al_24, al_25, al_27, al_28, al_29, al_30, al_32, al_33, al_34, al_35, al_37, al_38, al_40, al_42, al_5001, al_5002, al_5003, al_5004, al_5005, al_5006, al_5007, al_5008, al_5009, al_5010, al_5011, al_5012, al_5013, al_5014, al_5015, al_5016, al_5017, al_5018, al_5019, al_5020, al_5021, al_5022, al_5023, al_5024, al_5025, al_5026, al_9000, al_101, al_102, al_104, al_105, al_107, al_108, al_110, al_111, vcs_e, lg_c0, lg_cs, lg_nil, set_c0, set_cs, okst_0, okst_s, acok_n, acok_c, List.contains_nil, List.contains_cons, Bool.or_false, Bool.false_or, Bool.false_eq_true, if_false, if_true, ite_self, ne_eq, true_and, and_true, not_false_eq_true, not_true_eq_false, false_imp_iff, true_imp_iff, Nat.ble_eq, Bool.and_eq_true, reduceCtorEq, or_false, false_or, or_true, true_or, false_and, and_false, and_self, Int.reduceLE, Int.reduceAdd, Int.reduceSub, Int.reduceMul, Int.reduceNeg, Int.reduceLT, Int.reduceEq, Int.reduceNe, Nat.reduceBEq, Nat.reduceBNe, Nat.reduceEqDiff, amCmp_in, amCmp_lt, amCmp_le, amCmp_gt, amCmp_ge, amCmp_eq, amCmp_ne, Nat.reduceLeDiff, Nat.reduceSub, Bool.and_true, Bool.true_and, Bool.and_self, Bool.or_true, Bool.true_or, isRf_3, isRf_4, isRf_5, isRf_8, isRf_9, isRf_10, isRf_11, isRf_15, isRf_16, isRf_17, isRf_18, isRf_19, isRf_20, isRf_21, isRf_22, isRf_23, isRf_24, isRf_25, isRf_26, isRf_27, isRf_28, k_X12_text_0, k_X12_text_1, k_X12_text_2, k_X12_text_5, k_X12_text_6, k_X12_text_7, k_X12_text_8, k_X12_text_11, k_X12_text_14, k_X12_text_17, k_X12_text_18, k_X12_text_19, k_X12_text_22, k_X12_text_23, k_X12_text_26, k_X12_text_27, k_X12_text_30, k_X12_text_31, k_X12_text_32, k_X12_text_35, k_X12_text_36, k_X12_text_39, k_X12_text_40, k_X12_text_43, k_X12_text_44, k_X12_text_45, k_X12_text_48, k_X12_text_49, k_X12_text_52, k_X12_text_53, k_X12_text_54, k_X12_text_55, k_X12_text_58, k_X12_text_59, k_X12_text_60, k_X12_text_61, k_X12_text_64, k_X12_text_65, k_X12_text_66, k_X12_text_69, k_X12_text_70, k_X12_text_71, k_X12_text_72, k_X12_text_73, k_X12_text_76, k_X12_text_77, k_X12_text_80, k_X12_text_83, k_X12_text_84, k_X12_text_87, k_X12_text_88, k_X12_text_89, k_X12_text_90, k_X12_text_91, k_X12_text_94, k_X12_text_95, k_X12_text_96, k_X12_text_97, k_X12_text_100, k_X12_text_103, k_X12_text_104, k_X12_text_107, k_X12_text_108, k_X12_text_111, k_X12_text_112, k_X12_text_113, k_X12_text_114, k_X12_text_115, k_X12_text_118, k_X12_text_119, k_X12_text_120, k_X12_text_123, k_X12_text_124, k_X12_text_127, k_X12_text_128, k_X12_text_129, k_X12_text_130, k_X12_text_131, k_X12_text_132, k_X12_text_135, k_X12_text_136, k_X12_text_137, k_X12_text_138, k_X12_text_140, k_X12_text_143, k_X12_text_144, k_X12_text_147, k_X12_text_149, k_X12_text_150, k_X12_text_153, k_X12_text_154, k_X12_text_155, k_X12_text_156, k_X12_text_157, k_X12_text_160, k_X12_text_163, k_X12_text_164, k_X12_text_165, k_X12_text_166, k_X12_text_167, k_X12_text_170, k_X12_text_173, k_X12_text_174, k_X12_text_177, k_X12_text_178, k_X12_text_181, k_X12_text_182, k_X12_text_185, k_X12_text_186, k_X12_text_187, k_X12_text_188, k_X12_text_189, k_X12_text_190, k_X12_text_193, k_X12_text_194, k_X12_text_195, k_X12_text_198, k_X12_text_199, k_X12_text_202, k_X12_text_203, k_X12_text_204, k_X12_text_205, k_X12_text_206, k_X12_text_207, k_X12_text_210, k_X12_text_213, k_X12_text_214, k_X12_text_215, k_X12_text_218, k_X12_text_221, k_X12_text_222, k_X12_text_223, k_X12_text_226, k_X12_text_229, k_X12_text_230, k_X12_text_231, k_X12_text_232, k_X12_text_233, k_X12_text_236, k_X12_text_237, k_X12_text_240, k_X12_text_241, k_X12_text_242, k_X12_text_245, k_X12_text_246, k_X12_text_247, k_X12_text_248, k_X12_text_251, k_X12_text_254, k_X12_text_255, k_X12_text_256, k_X12_text_257, k_X12_text_259, k_X12_text_262, k_X12_text_263, k_X12_text_266, k_X12_text_267, k_X12_text_268, k_X12_text_271, k_X12_text_272, k_X12_text_273, k_X12_text_274, k_X12_text_277, k_X12_text_280, k_X12_text_281, k_X12_text_282, k_X12_text_283, k_X12_text_285, k_X12_text_288, k_X12_text_289, k_X12_text_292, k_X12_text_293, k_X12_text_294, k_X12_text_297, k_X12_text_298, k_X12_text_299, k_X12_text_300, k_X12_text_303, k_X12_text_306, k_X12_text_307, k_X12_text_308, k_X12_text_309, k_X12_text_311, k_X12_text_314, k_X12_text_315, k_X12_text_318, k_X12_text_319, k_X12_text_320, k_X12_text_323, k_X12_text_324, k_X12_text_325, k_X12_text_326, k_X12_text_329, k_X12_text_332, k_X12_text_333, k_X12_text_334, k_X12_text_335, k_X12_text_338, k_X12_text_341, k_X12_text_342, k_X12_text_345, k_X12_text_346, k_X12_text_347, k_X12_text_348, k_X12_text_351, k_X12_text_354, k_X12_text_355, k_X12_text_356, k_X12_text_357, k_X12_text_358, k_X12_text_361, k_X12_text_364, k_X12_text_365, k_X12_text_367, k_X12_text_369, k_X12_text_370, k_X12_text_373, k_X12_text_374, k_X12_text_377, k_X12_text_378, k_X12_text_379, k_X12_text_380, k_X12_text_382, k_X12_text_383, k_X12_text_384, k_X12_text_387, k_X12_text_388, k_X12_text_389, k_X12_text_390, k_X12_text_392, k_X12_text_393, k_X12_text_394, k_X12_text_395, k_X12_text_398, k_X12_text_401, k_X12_text_404, k_X12_text_407, k_X12_text_408, k_X12_text_411, k_X12_text_413, k_X12_text_414, k_X12_text_417, k_X12_text_418, k_X12_text_419, k_X12_text_420, k_X12_text_421, k_X12_text_422, k_X12_text_425, k_X12_text_426, k_X12_text_427, k_X12_text_430, k_X12_text_431, k_X12_text_432, k_X12_text_435, k_X12_text_436, k_X12_text_439, w_X12_fault_e, w_X12_isIn_e, up_s, up_nj, up_na, up_up, savR_o, cpy_o, fillm_o, setAud_o, setv_o, setv_s, Int.reduceNe, Int.reduceEq, Int.reduceLT, Int.reduceAdd, not_false_eq_true, ne_eq, or_true, true_or, if_pos d, z]
          repeat' (first | assumption | exact ht | exact hv | exact hL | exact i9z _ (by assumption) (by assumption) (by assumption) | exact i9y _ (by assumption) (by assumption) (by assumption) | exact absurd z (by assumption) | trivial | apply And.intro | intro _)
          all_goals first | omega | exact absurd trivial (by assumption) | exact i9z _ (by assumption) (by assumption) (by assumption) | exact i9y _ (by assumption) (by assumption) (by assumption) | trivial | skip
        · simp only [↓reduceIte, inR_0, inR_1, inR_m, vSw2_e, swP_n, swP_c, vI_e, vL_e, vNull_e, vIload_e, vLload_e, vAload_e, vIstore_e, vLstore_e, vAstore_e, vIinc_e, vIadd_e, vIsub_e, vImul_e, vIand_e, vIor_e, vIxor_e, vIshl_e, vIshr_e, vIushr_e, vIdiv_e, vIrem_e, vLadd_e, vLsub_e, vLmul_e, vLand_e, vLor_e, vLxor_e, vLdiv_e, vLrem_e, vLushr_e, vLshl_e, vLcmp_e, vIneg_e, vI2l_e, vL2i_e, vI2b_e, vI2c_e, vDup_e, vPop_e, vDup2_e, vGoto_e, vIcEq_e, vIfEq_e, vIcNe_e, vIfNe_e, vIcLt_e, vIfLt_e, vIcGe_e, vIfGe_e, vIcGt_e, vIfGt_e, vIcLe_e, vIfLe_e, vNonnull_e, vSw_e, vGetI_e, vGetL_e, vGetR_e, vPutI_e, vPutZ_e, vPutL_e, vPutR_e, vIald_e, vIald_s, vLald_e, vBald_e, vBald_s, vAald_e, vIast_e, vLast_e, vBast_e, vAast_e, vAlen_e8, vAlen_e9, vAlen_e10, vAlen_e11, vAlen_e5, vAlen_e3, vGets_e, vCompact_e, vLdcS_e, vIret_e, vZret_e, vCret_e, vBret_e, vLret_e, vVret_e, vAret_e, vCallM_e0, vCallMV_e0, vCallS_e0, vCallSV_e0, vCallM_e1, vCallMV_e1, vCallS_e1, vCallSV_e1, vCallM_e2, vCallMV_e2, vCallS_e2, vCallSV_e2, vCallM_e3, vCallMV_e3, vCallS_e3, vCallSV_e3, vCallM_e4, vCallMV_e4, vCallS_e4, vCallSV_e4, vCallM_e5, vCallMV_e5, vCallS_e5, vCallSV_e5, vCallM_e6, vCallMV_e6, vCallS_e6, vCallSV_e6, vCallM_e7, vCallMV_e7, vCallS_e7, vCallSV_e7, vBad_e, vStrVal_e, vStrCod_e, vForm_e, vCallT_e0, vCallT_e1, vCallT_e2, vCopy_e, rf_0_0, rf_0_1, rf_0_2, rf_0_3, rf_0_4, rf_0_7, rf_0_10, rf_0_11, rf_0_12, rf_0_13, rf_0_14, rf_0_15, rf_0_16, rf_1_0, rf_3_0, rf_3_1, rf_6_0, rf_6_1, rf_9_0, rf_9_1, rf_9_3, rf_13_0, rf_13_1, rf_13_2, rf_16_0, rf_16_1, rf_16_2, rf_16_3, rf_21_0, rf_21_1, rf_21_2, rf_21_3, rf_26_0, rf_26_1, rf_26_2, rf_26_3, rf_26_4, rf_26_5, rf_26_6, rf_31_0, rf_31_2, rf_31_5, rf_31_6, rf_36_0, rf_36_1, rf_36_2, rf_36_3, rf_39_0, rf_39_1, rf_39_2, rf_41_0, rf_41_1, rf_41_2, rf_41_3, rf_5000_1, rf_5000_2, rf_5000_3, rf_5000_4, rf_5000_5, rf_5000_15, rf_5000_16, rf_5000_18, rf_5000_19, rf_5000_20, rf_5000_21, rf_5000_22, rf_5000_23, rf_5000_24, rf_5000_25, rf_5000_26, rf_5000_27, rf_5000_36, rf_5000_37, rf_5000_40, rf_5000_41, rf_5000_42, rf_5000_43, rf_5000_44, rf_5000_45, rf_5000_47, rf_5000_52, rf_5000_54, rf_5000_55, rf_100_0, rf_100_1, rf_103_0, rf_103_1, rf_106_0, rf_106_1, rf_109_0, rf_109_1, al_2, al_4, al_5, al_7, al_8, al_10, al_11, al_12, al_14, al_15, al_17, al_18, al_19, al_20, al_22, al_23, al_24, al_25, al_27, al_28, al_29, al_30, al_32, al_33, al_34, al_35, al_37, al_38, al_40, al_42, al_5001, al_5002, al_5003, al_5004, al_5005, al_5006, al_5007, al_5008, al_5009, al_5010, al_5011, al_5012, al_5013, al_5014, al_5015, al_5016, al_5017, al_5018, al_5019, al_5020, al_5021, al_5022, al_5023, al_5024, al_5025, al_5026, al_9000, al_101, al_102, al_104, al_105, al_107, al_108, al_110, al_111, vcs_e, lg_c0, lg_cs, lg_nil, set_c0, set_cs, okst_0, okst_s, acok_n, acok_c, List.contains_nil, List.contains_cons, Bool.or_false, Bool.false_or, Bool.false_eq_true, if_false, if_true, ite_self, ne_eq, true_and, and_true, not_false_eq_true, not_true_eq_false, false_imp_iff, true_imp_iff, Nat.ble_eq, Bool.and_eq_true, reduceCtorEq, or_false, false_or, or_true, true_or, false_and, and_false, and_self, Int.reduceLE, Int.reduceAdd, Int.reduceSub, Int.reduceMul, Int.reduceNeg, Int.reduceLT, Int.reduceEq, Int.reduceNe, Nat.reduceBEq, Nat.reduceBNe, Nat.reduceEqDiff, amCmp_in, amCmp_lt, amCmp_le, amCmp_gt, amCmp_ge, amCmp_eq, amCmp_ne, Nat.reduceLeDiff, Nat.reduceSub, Bool.and_true, Bool.true_and, Bool.and_self, Bool.or_true, Bool.true_or, isRf_3, isRf_4, isRf_5, isRf_8, isRf_9, isRf_10, isRf_11, isRf_15, isRf_16, isRf_17, isRf_18, isRf_19, isRf_20, isRf_21, isRf_22, isRf_23, isRf_24, isRf_25, isRf_26, isRf_27, isRf_28, k_X12_text_0, k_X12_text_1, k_X12_text_2, k_X12_text_5, k_X12_text_6, k_X12_text_7, k_X12_text_8, k_X12_text_11, k_X12_text_14, k_X12_text_17, k_X12_text_18, k_X12_text_19, k_X12_text_22, k_X12_text_23, k_X12_text_26, k_X12_text_27, k_X12_text_30, k_X12_text_31, k_X12_text_32, k_X12_text_35, k_X12_text_36, k_X12_text_39, k_X12_text_40, k_X12_text_43, k_X12_text_44, k_X12_text_45, k_X12_text_48, k_X12_text_49, k_X12_text_52, k_X12_text_53, k_X12_text_54, k_X12_text_55, k_X12_text_58, k_X12_text_59, k_X12_text_60, k_X12_text_61, k_X12_text_64, k_X12_text_65, k_X12_text_66, k_X12_text_69, k_X12_text_70, k_X12_text_71, k_X12_text_72, k_X12_text_73, k_X12_text_76, k_X12_text_77, k_X12_text_80, k_X12_text_83, k_X12_text_84, k_X12_text_87, k_X12_text_88, k_X12_text_89, k_X12_text_90, k_X12_text_91, k_X12_text_94, k_X12_text_95, k_X12_text_96, k_X12_text_97, k_X12_text_100, k_X12_text_103, k_X12_text_104, k_X12_text_107, k_X12_text_108, k_X12_text_111, k_X12_text_112, k_X12_text_113, k_X12_text_114, k_X12_text_115, k_X12_text_118, k_X12_text_119, k_X12_text_120, k_X12_text_123, k_X12_text_124, k_X12_text_127, k_X12_text_128, k_X12_text_129, k_X12_text_130, k_X12_text_131, k_X12_text_132, k_X12_text_135, k_X12_text_136, k_X12_text_137, k_X12_text_138, k_X12_text_140, k_X12_text_143, k_X12_text_144, k_X12_text_147, k_X12_text_149, k_X12_text_150, k_X12_text_153, k_X12_text_154, k_X12_text_155, k_X12_text_156, k_X12_text_157, k_X12_text_160, k_X12_text_163, k_X12_text_164, k_X12_text_165, k_X12_text_166, k_X12_text_167, k_X12_text_170, k_X12_text_173, k_X12_text_174, k_X12_text_177, k_X12_text_178, k_X12_text_181, k_X12_text_182, k_X12_text_185, k_X12_text_186, k_X12_text_187, k_X12_text_188, k_X12_text_189, k_X12_text_190, k_X12_text_193, k_X12_text_194, k_X12_text_195, k_X12_text_198, k_X12_text_199, k_X12_text_202, k_X12_text_203, k_X12_text_204, k_X12_text_205, k_X12_text_206, k_X12_text_207, k_X12_text_210, k_X12_text_213, k_X12_text_214, k_X12_text_215, k_X12_text_218, k_X12_text_221, k_X12_text_222, k_X12_text_223, k_X12_text_226, k_X12_text_229, k_X12_text_230, k_X12_text_231, k_X12_text_232, k_X12_text_233, k_X12_text_236, k_X12_text_237, k_X12_text_240, k_X12_text_241, k_X12_text_242, k_X12_text_245, k_X12_text_246, k_X12_text_247, k_X12_text_248, k_X12_text_251, k_X12_text_254, k_X12_text_255, k_X12_text_256, k_X12_text_257, k_X12_text_259, k_X12_text_262, k_X12_text_263, k_X12_text_266, k_X12_text_267, k_X12_text_268, k_X12_text_271, k_X12_text_272, k_X12_text_273, k_X12_text_274, k_X12_text_277, k_X12_text_280, k_X12_text_281, k_X12_text_282, k_X12_text_283, k_X12_text_285, k_X12_text_288, k_X12_text_289, k_X12_text_292, k_X12_text_293, k_X12_text_294, k_X12_text_297, k_X12_text_298, k_X12_text_299, k_X12_text_300, k_X12_text_303, k_X12_text_306, k_X12_text_307, k_X12_text_308, k_X12_text_309, k_X12_text_311, k_X12_text_314, k_X12_text_315, k_X12_text_318, k_X12_text_319, k_X12_text_320, k_X12_text_323, k_X12_text_324, k_X12_text_325, k_X12_text_326, k_X12_text_329, k_X12_text_332, k_X12_text_333, k_X12_text_334, k_X12_text_335, k_X12_text_338, k_X12_text_341, k_X12_text_342, k_X12_text_345, k_X12_text_346, k_X12_text_347, k_X12_text_348, k_X12_text_351, k_X12_text_354, k_X12_text_355, k_X12_text_356, k_X12_text_357, k_X12_text_358, k_X12_text_361, k_X12_text_364, k_X12_text_365, k_X12_text_367, k_X12_text_369, k_X12_text_370, k_X12_text_373, k_X12_text_374, k_X12_text_377, k_X12_text_378, k_X12_text_379, k_X12_text_380, k_X12_text_382, k_X12_text_383, k_X12_text_384, k_X12_text_387, k_X12_text_388, k_X12_text_389, k_X12_text_390, k_X12_text_392, k_X12_text_393, k_X12_text_394, k_X12_text_395, k_X12_text_398, k_X12_text_401, k_X12_text_404, k_X12_text_407, k_X12_text_408, k_X12_text_411, k_X12_text_413, k_X12_text_414, k_X12_text_417, k_X12_text_418, k_X12_text_419, k_X12_text_420, k_X12_text_421, k_X12_text_422, k_X12_text_425, k_X12_text_426, k_X12_text_427, k_X12_text_430, k_X12_text_431, k_X12_text_432, k_X12_text_435, k_X12_text_436, k_X12_text_439, w_X12_fault_e, w_X12_isIn_e, up_s, up_nj, up_na, up_up, savR_o, cpy_o, fillm_o, setAud_o, setv_o, setv_s, Int.reduceNe, Int.reduceEq, Int.reduceLT, Int.reduceAdd, not_false_eq_true, ne_eq, or_true, true_or, if_pos d, z]
          repeat' (first | assumption | exact ht | exact hv | exact hL | exact i8 _ z (by assumption) (by assumption) | trivial | apply And.intro | intro _)
          all_goals first | omega | exact absurd trivial (by assumption) | exact i8 _ z (by assumption) (by assumption) | trivial | skip
      · by_cases l : σ 5000 7 = 4
        · have q8 := h1 (Or.inr (Or.inl ⟨rfl, l⟩))
          simp only [↓reduceIte, inR_0, inR_1, inR_m, vSw2_e, swP_n, swP_c, vI_e, vL_e, vNull_e, vIload_e, vLload_e, vAload_e, vIstore_e, vLstore_e, vAstore_e, vIinc_e, vIadd_e, vIsub_e, vImul_e, vIand_e, vIor_e, vIxor_e, vIshl_e, vIshr_e, vIushr_e, vIdiv_e, vIrem_e, vLadd_e, vLsub_e, vLmul_e, vLand_e, vLor_e, vLxor_e, vLdiv_e, vLrem_e, vLushr_e, vLshl_e, vLcmp_e, vIneg_e, vI2l_e, vL2i_e, vI2b_e, vI2c_e, vDup_e, vPop_e, vDup2_e, vGoto_e, vIcEq_e, vIfEq_e, vIcNe_e, vIfNe_e, vIcLt_e, vIfLt_e, vIcGe_e, vIfGe_e, vIcGt_e, vIfGt_e, vIcLe_e, vIfLe_e, vNonnull_e, vSw_e, vGetI_e, vGetL_e, vGetR_e, vPutI_e, vPutZ_e, vPutL_e, vPutR_e, vIald_e, vIald_s, vLald_e, vBald_e, vBald_s, vAald_e, vIast_e, vLast_e, vBast_e, vAast_e, vAlen_e8, vAlen_e9, vAlen_e10, vAlen_e11, vAlen_e5, vAlen_e3, vGets_e, vCompact_e, vLdcS_e, vIret_e, vZret_e, vCret_e, vBret_e, vLret_e, vVret_e, vAret_e, vCallM_e0, vCallMV_e0, vCallS_e0, vCallSV_e0, vCallM_e1, vCallMV_e1, vCallS_e1, vCallSV_e1, vCallM_e2, vCallMV_e2, vCallS_e2, vCallSV_e2, vCallM_e3, vCallMV_e3, vCallS_e3, vCallSV_e3, vCallM_e4, vCallMV_e4, vCallS_e4, vCallSV_e4, vCallM_e5, vCallMV_e5, vCallS_e5, vCallSV_e5, vCallM_e6, vCallMV_e6, vCallS_e6, vCallSV_e6, vCallM_e7, vCallMV_e7, vCallS_e7, vCallSV_e7, vBad_e, vStrVal_e, vStrCod_e, vForm_e, vCallT_e0, vCallT_e1, vCallT_e2, vCopy_e, rf_0_0, rf_0_1, rf_0_2, rf_0_3, rf_0_4, rf_0_7, rf_0_10, rf_0_11, rf_0_12, rf_0_13, rf_0_14, rf_0_15, rf_0_16, rf_1_0, rf_3_0, rf_3_1, rf_6_0, rf_6_1, rf_9_0, rf_9_1, rf_9_3, rf_13_0, rf_13_1, rf_13_2, rf_16_0, rf_16_1, rf_16_2, rf_16_3, rf_21_0, rf_21_1, rf_21_2, rf_21_3, rf_26_0, rf_26_1, rf_26_2, rf_26_3, rf_26_4, rf_26_5, rf_26_6, rf_31_0, rf_31_2, rf_31_5, rf_31_6, rf_36_0, rf_36_1, rf_36_2, rf_36_3, rf_39_0, rf_39_1, rf_39_2, rf_41_0, rf_41_1, rf_41_2, rf_41_3, rf_5000_1, rf_5000_2, rf_5000_3, rf_5000_4, rf_5000_5, rf_5000_15, rf_5000_16, rf_5000_18, rf_5000_19, rf_5000_20, rf_5000_21, rf_5000_22, rf_5000_23, rf_5000_24, rf_5000_25, rf_5000_26, rf_5000_27, rf_5000_36, rf_5000_37, rf_5000_40, rf_5000_41, rf_5000_42, rf_5000_43, rf_5000_44, rf_5000_45, rf_5000_47, rf_5000_52, rf_5000_54, rf_5000_55, rf_100_0, rf_100_1, rf_103_0, rf_103_1, rf_106_0, rf_106_1, rf_109_0, rf_109_1, al_2, al_4, al_5, al_7, al_8, al_10, al_11, al_12, al_14, al_15, al_17, al_18, al_19, al_20, al_22, al_23, al_24, al_25, al_27, al_28, al_29, al_30, al_32, al_33, al_34, al_35, al_37, al_38, al_40, al_42, al_5001, al_5002, al_5003, al_5004, al_5005, al_5006, al_5007, al_5008, al_5009, al_5010, al_5011, al_5012, al_5013, al_5014, al_5015, al_5016, al_5017, al_5018, al_5019, al_5020, al_5021, al_5022, al_5023, al_5024, al_5025, al_5026, al_9000, al_101, al_102, al_104, al_105, al_107, al_108, al_110, al_111, vcs_e, lg_c0, lg_cs, lg_nil, set_c0, set_cs, okst_0, okst_s, acok_n, acok_c, List.contains_nil, List.contains_cons, Bool.or_false, Bool.false_or, Bool.false_eq_true, if_false, if_true, ite_self, ne_eq, true_and, and_true, not_false_eq_true, not_true_eq_false, false_imp_iff, true_imp_iff, Nat.ble_eq, Bool.and_eq_true, reduceCtorEq, or_false, false_or, or_true, true_or, false_and, and_false, and_self, Int.reduceLE, Int.reduceAdd, Int.reduceSub, Int.reduceMul, Int.reduceNeg, Int.reduceLT, Int.reduceEq, Int.reduceNe, Nat.reduceBEq, Nat.reduceBNe, Nat.reduceEqDiff, amCmp_in, amCmp_lt, amCmp_le, amCmp_gt, amCmp_ge, amCmp_eq, amCmp_ne, Nat.reduceLeDiff, Nat.reduceSub, Bool.and_true, Bool.true_and, Bool.and_self, Bool.or_true, Bool.true_or, isRf_3, isRf_4, isRf_5, isRf_8, isRf_9, isRf_10, isRf_11, isRf_15, isRf_16, isRf_17, isRf_18, isRf_19, isRf_20, isRf_21, isRf_22, isRf_23, isRf_24, isRf_25, isRf_26, isRf_27, isRf_28, k_X12_text_0, k_X12_text_1, k_X12_text_2, k_X12_text_5, k_X12_text_6, k_X12_text_7, k_X12_text_8, k_X12_text_11, k_X12_text_14, k_X12_text_17, k_X12_text_18, k_X12_text_19, k_X12_text_22, k_X12_text_23, k_X12_text_26, k_X12_text_27, k_X12_text_30, k_X12_text_31, k_X12_text_32, k_X12_text_35, k_X12_text_36, k_X12_text_39, k_X12_text_40, k_X12_text_43, k_X12_text_44, k_X12_text_45, k_X12_text_48, k_X12_text_49, k_X12_text_52, k_X12_text_53, k_X12_text_54, k_X12_text_55, k_X12_text_58, k_X12_text_59, k_X12_text_60, k_X12_text_61, k_X12_text_64, k_X12_text_65, k_X12_text_66, k_X12_text_69, k_X12_text_70, k_X12_text_71, k_X12_text_72, k_X12_text_73, k_X12_text_76, k_X12_text_77, k_X12_text_80, k_X12_text_83, k_X12_text_84, k_X12_text_87, k_X12_text_88, k_X12_text_89, k_X12_text_90, k_X12_text_91, k_X12_text_94, k_X12_text_95, k_X12_text_96, k_X12_text_97, k_X12_text_100, k_X12_text_103, k_X12_text_104, k_X12_text_107, k_X12_text_108, k_X12_text_111, k_X12_text_112, k_X12_text_113, k_X12_text_114, k_X12_text_115, k_X12_text_118, k_X12_text_119, k_X12_text_120, k_X12_text_123, k_X12_text_124, k_X12_text_127, k_X12_text_128, k_X12_text_129, k_X12_text_130, k_X12_text_131, k_X12_text_132, k_X12_text_135, k_X12_text_136, k_X12_text_137, k_X12_text_138, k_X12_text_140, k_X12_text_143, k_X12_text_144, k_X12_text_147, k_X12_text_149, k_X12_text_150, k_X12_text_153, k_X12_text_154, k_X12_text_155, k_X12_text_156, k_X12_text_157, k_X12_text_160, k_X12_text_163, k_X12_text_164, k_X12_text_165, k_X12_text_166, k_X12_text_167, k_X12_text_170, k_X12_text_173, k_X12_text_174, k_X12_text_177, k_X12_text_178, k_X12_text_181, k_X12_text_182, k_X12_text_185, k_X12_text_186, k_X12_text_187, k_X12_text_188, k_X12_text_189, k_X12_text_190, k_X12_text_193, k_X12_text_194, k_X12_text_195, k_X12_text_198, k_X12_text_199, k_X12_text_202, k_X12_text_203, k_X12_text_204, k_X12_text_205, k_X12_text_206, k_X12_text_207, k_X12_text_210, k_X12_text_213, k_X12_text_214, k_X12_text_215, k_X12_text_218, k_X12_text_221, k_X12_text_222, k_X12_text_223, k_X12_text_226, k_X12_text_229, k_X12_text_230, k_X12_text_231, k_X12_text_232, k_X12_text_233, k_X12_text_236, k_X12_text_237, k_X12_text_240, k_X12_text_241, k_X12_text_242, k_X12_text_245, k_X12_text_246, k_X12_text_247, k_X12_text_248, k_X12_text_251, k_X12_text_254, k_X12_text_255, k_X12_text_256, k_X12_text_257, k_X12_text_259, k_X12_text_262, k_X12_text_263, k_X12_text_266, k_X12_text_267, k_X12_text_268, k_X12_text_271, k_X12_text_272, k_X12_text_273, k_X12_text_274, k_X12_text_277, k_X12_text_280, k_X12_text_281, k_X12_text_282, k_X12_text_283, k_X12_text_285, k_X12_text_288, k_X12_text_289, k_X12_text_292, k_X12_text_293, k_X12_text_294, k_X12_text_297, k_X12_text_298, k_X12_text_299, k_X12_text_300, k_X12_text_303, k_X12_text_306, k_X12_text_307, k_X12_text_308, k_X12_text_309, k_X12_text_311, k_X12_text_314, k_X12_text_315, k_X12_text_318, k_X12_text_319, k_X12_text_320, k_X12_text_323, k_X12_text_324, k_X12_text_325, k_X12_text_326, k_X12_text_329, k_X12_text_332, k_X12_text_333, k_X12_text_334, k_X12_text_335, k_X12_text_338, k_X12_text_341, k_X12_text_342, k_X12_text_345, k_X12_text_346, k_X12_text_347, k_X12_text_348, k_X12_text_351, k_X12_text_354, k_X12_text_355, k_X12_text_356, k_X12_text_357, k_X12_text_358, k_X12_text_361, k_X12_text_364, k_X12_text_365, k_X12_text_367, k_X12_text_369, k_X12_text_370, k_X12_text_373, k_X12_text_374, k_X12_text_377, k_X12_text_378, k_X12_text_379, k_X12_text_380, k_X12_text_382, k_X12_text_383, k_X12_text_384, k_X12_text_387, k_X12_text_388, k_X12_text_389, k_X12_text_390, k_X12_text_392, k_X12_text_393, k_X12_text_394, k_X12_text_395, k_X12_text_398, k_X12_text_401, k_X12_text_404, k_X12_text_407, k_X12_text_408, k_X12_text_411, k_X12_text_413, k_X12_text_414, k_X12_text_417, k_X12_text_418, k_X12_text_419, k_X12_text_420, k_X12_text_421, k_X12_text_422, k_X12_text_425, k_X12_text_426, k_X12_text_427, k_X12_text_430, k_X12_text_431, k_X12_text_432, k_X12_text_435, k_X12_text_436, k_X12_text_439, w_X12_fault_e, w_X12_isIn_e, up_s, up_nj, up_na, up_up, savR_o, cpy_o, fillm_o, setAud_o, setv_o, setv_s, Int.reduceNe, Int.reduceEq, Int.reduceLT, Int.reduceAdd, not_false_eq_true, ne_eq, or_true, true_or, if_pos d, l]
          repeat' (first | apply And.intro | intro _)
          all_goals first | omega | exact absurd trivial (by assumption) | exact q8
        · obtain ⟨g1, g2⟩ := h3 rfl (by omega)
          have i9 : ∀ τ K, gLw (txt (th0 σ) 5001 0 (th0 σ 5000 6)) (th0 σ 5000 6) 241 0 = .inr K → GF (th0 σ) τ → ∃ k', inv_txt Q 1 k' 71 [(28, 5000), (0, 1), (0, τ 5000 6), (0, 0), (6, 0)] [] (up τ 5000 6 0) := fun τ K a b => by
            have k6 : τ 5000 6 = σ 5000 6 := by rw [b.2 6 (by decide) (by decide) (by decide)]; exact e6
            have k7 : τ 5000 7 = σ 5000 7 := by rw [b.2 7 (by decide) (by decide) (by decide)]; exact e7
            have k01 : τ 5001 = σ 5001 := by rw [b.1 5001 (by decide)]; exact th_o σ (by decide)
            have t01 : ∀ i, 0 ≤ i → i < σ 5000 6 → -128 ≤ σ 5001 i ∧ σ 5001 i ≤ 127 := fun i i0 i1 => by
              have := ht.2.2.2 i i0 (by rw [e6]; exact i1)
              rw [th_o σ (show (5001 : Int) ≠ 5000 by decide), Int.zero_add] at this
              exact this
            have l0 : 0 ≤ σ 5000 6 ∧ σ 5000 6 ≤ 240 := ⟨by rw [← e6]; exact ht.1, by rw [← e6]; exact ht.2.1⟩
            refine ⟨(τ 5000 6).toNat, rfl, τ, (6, 0), Or.inl ⟨rfl, rfl, by omega, by omega, by rw [k6, k01]; exact t01, g2 τ K a b, 0, rfl, by omega, by omega, ?_⟩⟩
            exact (cpy_0 (up τ 5000 6 0) 5001 0 5002 (240 * τ 5000 7)).symm
          have i8 : ∀ τ f, gLw (txt (th0 σ) 5001 0 (th0 σ 5000 6)) (th0 σ 5000 6) 241 0 = .inl f → GF (th0 σ) τ → Q (0, -1) τ := fun τ f a b => g1 τ f a b
          simp only [↓reduceIte, inR_0, inR_1, inR_m, vSw2_e, swP_n, swP_c, vI_e, vL_e, vNull_e, vIload_e, vLload_e, vAload_e, vIstore_e, vLstore_e, vAstore_e, vIinc_e, vIadd_e, vIsub_e, vImul_e, vIand_e, vIor_e, vIxor_e, vIshl_e, vIshr_e, vIushr_e, vIdiv_e, vIrem_e, vLadd_e, vLsub_e, vLmul_e, vLand_e, vLor_e, vLxor_e, vLdiv_e, vLrem_e, vLushr_e, vLshl_e, vLcmp_e, vIneg_e, vI2l_e, vL2i_e, vI2b_e, vI2c_e, vDup_e, vPop_e, vDup2_e, vGoto_e, vIcEq_e, vIfEq_e, vIcNe_e, vIfNe_e, vIcLt_e, vIfLt_e, vIcGe_e, vIfGe_e, vIcGt_e, vIfGt_e, vIcLe_e, vIfLe_e, vNonnull_e, vSw_e, vGetI_e, vGetL_e, vGetR_e, vPutI_e, vPutZ_e, vPutL_e, vPutR_e, vIald_e, vIald_s, vLald_e, vBald_e, vBald_s, vAald_e, vIast_e, vLast_e, vBast_e, vAast_e, vAlen_e8, vAlen_e9, vAlen_e10, vAlen_e11, vAlen_e5, vAlen_e3, vGets_e, vCompact_e, vLdcS_e, vIret_e, vZret_e, vCret_e, vBret_e, vLret_e, vVret_e, vAret_e, vCallM_e0, vCallMV_e0, vCallS_e0, vCallSV_e0, vCallM_e1, vCallMV_e1, vCallS_e1, vCallSV_e1, vCallM_e2, vCallMV_e2, vCallS_e2, vCallSV_e2, vCallM_e3, vCallMV_e3, vCallS_e3, vCallSV_e3, vCallM_e4, vCallMV_e4, vCallS_e4, vCallSV_e4, vCallM_e5, vCallMV_e5, vCallS_e5, vCallSV_e5, vCallM_e6, vCallMV_e6, vCallS_e6, vCallSV_e6, vCallM_e7, vCallMV_e7, vCallS_e7, vCallSV_e7, vBad_e, vStrVal_e, vStrCod_e, vForm_e, vCallT_e0, vCallT_e1, vCallT_e2, vCopy_e, rf_0_0, rf_0_1, rf_0_2, rf_0_3, rf_0_4, rf_0_7, rf_0_10, rf_0_11, rf_0_12, rf_0_13, rf_0_14, rf_0_15, rf_0_16, rf_1_0, rf_3_0, rf_3_1, rf_6_0, rf_6_1, rf_9_0, rf_9_1, rf_9_3, rf_13_0, rf_13_1, rf_13_2, rf_16_0, rf_16_1, rf_16_2, rf_16_3, rf_21_0, rf_21_1, rf_21_2, rf_21_3, rf_26_0, rf_26_1, rf_26_2, rf_26_3, rf_26_4, rf_26_5, rf_26_6, rf_31_0, rf_31_2, rf_31_5, rf_31_6, rf_36_0, rf_36_1, rf_36_2, rf_36_3, rf_39_0, rf_39_1, rf_39_2, rf_41_0, rf_41_1, rf_41_2, rf_41_3, rf_5000_1, rf_5000_2, rf_5000_3, rf_5000_4, rf_5000_5, rf_5000_15, rf_5000_16, rf_5000_18, rf_5000_19, rf_5000_20, rf_5000_21, rf_5000_22, rf_5000_23, rf_5000_24, rf_5000_25, rf_5000_26, rf_5000_27, rf_5000_36, rf_5000_37, rf_5000_40, rf_5000_41, rf_5000_42, rf_5000_43, rf_5000_44, rf_5000_45, rf_5000_47, rf_5000_52, rf_5000_54, rf_5000_55, rf_100_0, rf_100_1, rf_103_0, rf_103_1, rf_106_0, rf_106_1, rf_109_0, rf_109_1, al_2, al_4, al_5, al_7, al_8, al_10, al_11, al_12, al_14, al_15, al_17, al_18, al_19, al_20, al_22, al_23, al_24, al_25, al_27, al_28, al_29, al_30, al_32, al_33, al_34, al_35, al_37, al_38, al_40, al_42, al_5001, al_5002, al_5003, al_5004, al_5005, al_5006, al_5007, al_5008, al_5009, al_5010, al_5011, al_5012, al_5013, al_5014, al_5015, al_5016, al_5017, al_5018, al_5019, al_5020, al_5021, al_5022, al_5023, al_5024, al_5025, al_5026, al_9000, al_101, al_102, al_104, al_105, al_107, al_108, al_110, al_111, vcs_e, lg_c0, lg_cs, lg_nil, set_c0, set_cs, okst_0, okst_s, acok_n, acok_c, List.contains_nil, List.contains_cons, Bool.or_false, Bool.false_or, Bool.false_eq_true, if_false, if_true, ite_self, ne_eq, true_and, and_true, not_false_eq_true, not_true_eq_false, false_imp_iff, true_imp_iff, Nat.ble_eq, Bool.and_eq_true, reduceCtorEq, or_false, false_or, or_true, true_or, false_and, and_false, and_self, Int.reduceLE, Int.reduceAdd, Int.reduceSub, Int.reduceMul, Int.reduceNeg, Int.reduceLT, Int.reduceEq, Int.reduceNe, Nat.reduceBEq, Nat.reduceBNe, Nat.reduceEqDiff, amCmp_in, amCmp_lt, amCmp_le, amCmp_gt, amCmp_ge, amCmp_eq, amCmp_ne, Nat.reduceLeDiff, Nat.reduceSub, Bool.and_true, Bool.true_and, Bool.and_self, Bool.or_true, Bool.true_or, isRf_3, isRf_4, isRf_5, isRf_8, isRf_9, isRf_10, isRf_11, isRf_15, isRf_16, isRf_17, isRf_18, isRf_19, isRf_20, isRf_21, isRf_22, isRf_23, isRf_24, isRf_25, isRf_26, isRf_27, isRf_28, k_X12_text_0, k_X12_text_1, k_X12_text_2, k_X12_text_5, k_X12_text_6, k_X12_text_7, k_X12_text_8, k_X12_text_11, k_X12_text_14, k_X12_text_17, k_X12_text_18, k_X12_text_19, k_X12_text_22, k_X12_text_23, k_X12_text_26, k_X12_text_27, k_X12_text_30, k_X12_text_31, k_X12_text_32, k_X12_text_35, k_X12_text_36, k_X12_text_39, k_X12_text_40, k_X12_text_43, k_X12_text_44, k_X12_text_45, k_X12_text_48, k_X12_text_49, k_X12_text_52, k_X12_text_53, k_X12_text_54, k_X12_text_55, k_X12_text_58, k_X12_text_59, k_X12_text_60, k_X12_text_61, k_X12_text_64, k_X12_text_65, k_X12_text_66, k_X12_text_69, k_X12_text_70, k_X12_text_71, k_X12_text_72, k_X12_text_73, k_X12_text_76, k_X12_text_77, k_X12_text_80, k_X12_text_83, k_X12_text_84, k_X12_text_87, k_X12_text_88, k_X12_text_89, k_X12_text_90, k_X12_text_91, k_X12_text_94, k_X12_text_95, k_X12_text_96, k_X12_text_97, k_X12_text_100, k_X12_text_103, k_X12_text_104, k_X12_text_107, k_X12_text_108, k_X12_text_111, k_X12_text_112, k_X12_text_113, k_X12_text_114, k_X12_text_115, k_X12_text_118, k_X12_text_119, k_X12_text_120, k_X12_text_123, k_X12_text_124, k_X12_text_127, k_X12_text_128, k_X12_text_129, k_X12_text_130, k_X12_text_131, k_X12_text_132, k_X12_text_135, k_X12_text_136, k_X12_text_137, k_X12_text_138, k_X12_text_140, k_X12_text_143, k_X12_text_144, k_X12_text_147, k_X12_text_149, k_X12_text_150, k_X12_text_153, k_X12_text_154, k_X12_text_155, k_X12_text_156, k_X12_text_157, k_X12_text_160, k_X12_text_163, k_X12_text_164, k_X12_text_165, k_X12_text_166, k_X12_text_167, k_X12_text_170, k_X12_text_173, k_X12_text_174, k_X12_text_177, k_X12_text_178, k_X12_text_181, k_X12_text_182, k_X12_text_185, k_X12_text_186, k_X12_text_187, k_X12_text_188, k_X12_text_189, k_X12_text_190, k_X12_text_193, k_X12_text_194, k_X12_text_195, k_X12_text_198, k_X12_text_199, k_X12_text_202, k_X12_text_203, k_X12_text_204, k_X12_text_205, k_X12_text_206, k_X12_text_207, k_X12_text_210, k_X12_text_213, k_X12_text_214, k_X12_text_215, k_X12_text_218, k_X12_text_221, k_X12_text_222, k_X12_text_223, k_X12_text_226, k_X12_text_229, k_X12_text_230, k_X12_text_231, k_X12_text_232, k_X12_text_233, k_X12_text_236, k_X12_text_237, k_X12_text_240, k_X12_text_241, k_X12_text_242, k_X12_text_245, k_X12_text_246, k_X12_text_247, k_X12_text_248, k_X12_text_251, k_X12_text_254, k_X12_text_255, k_X12_text_256, k_X12_text_257, k_X12_text_259, k_X12_text_262, k_X12_text_263, k_X12_text_266, k_X12_text_267, k_X12_text_268, k_X12_text_271, k_X12_text_272, k_X12_text_273, k_X12_text_274, k_X12_text_277, k_X12_text_280, k_X12_text_281, k_X12_text_282, k_X12_text_283, k_X12_text_285, k_X12_text_288, k_X12_text_289, k_X12_text_292, k_X12_text_293, k_X12_text_294, k_X12_text_297, k_X12_text_298, k_X12_text_299, k_X12_text_300, k_X12_text_303, k_X12_text_306, k_X12_text_307, k_X12_text_308, k_X12_text_309, k_X12_text_311, k_X12_text_314, k_X12_text_315, k_X12_text_318, k_X12_text_319, k_X12_text_320, k_X12_text_323, k_X12_text_324, k_X12_text_325, k_X12_text_326, k_X12_text_329, k_X12_text_332, k_X12_text_333, k_X12_text_334, k_X12_text_335, k_X12_text_338, k_X12_text_341, k_X12_text_342, k_X12_text_345, k_X12_text_346, k_X12_text_347, k_X12_text_348, k_X12_text_351, k_X12_text_354, k_X12_text_355, k_X12_text_356, k_X12_text_357, k_X12_text_358, k_X12_text_361, k_X12_text_364, k_X12_text_365, k_X12_text_367, k_X12_text_369, k_X12_text_370, k_X12_text_373, k_X12_text_374, k_X12_text_377, k_X12_text_378, k_X12_text_379, k_X12_text_380, k_X12_text_382, k_X12_text_383, k_X12_text_384, k_X12_text_387, k_X12_text_388, k_X12_text_389, k_X12_text_390, k_X12_text_392, k_X12_text_393, k_X12_text_394, k_X12_text_395, k_X12_text_398, k_X12_text_401, k_X12_text_404, k_X12_text_407, k_X12_text_408, k_X12_text_411, k_X12_text_413, k_X12_text_414, k_X12_text_417, k_X12_text_418, k_X12_text_419, k_X12_text_420, k_X12_text_421, k_X12_text_422, k_X12_text_425, k_X12_text_426, k_X12_text_427, k_X12_text_430, k_X12_text_431, k_X12_text_432, k_X12_text_435, k_X12_text_436, k_X12_text_439, w_X12_fault_e, w_X12_isIn_e, up_s, up_nj, up_na, up_up, savR_o, cpy_o, fillm_o, setAud_o, setv_o, setv_s, Int.reduceNe, Int.reduceEq, Int.reduceLT, Int.reduceAdd, not_false_eq_true, ne_eq, or_true, true_or, if_pos d, l]
          repeat' (first | assumption | exact ht | exact hv | exact hL | exact i9 _ _ (by assumption) (by assumption) | exact i8 _ _ (by assumption) (by assumption) | apply And.intro | intro _)
          all_goals first | omega | exact absurd trivial (by assumption) | exact i9 _ _ (by assumption) (by assumption) | exact i8 _ _ (by assumption) (by assumption)
      · by_cases l : σ 5000 34 = 4
        · have q8 := h1 (Or.inr (Or.inr ⟨rfl, l⟩))
          simp only [↓reduceIte, inR_0, inR_1, inR_m, vSw2_e, swP_n, swP_c, vI_e, vL_e, vNull_e, vIload_e, vLload_e, vAload_e, vIstore_e, vLstore_e, vAstore_e, vIinc_e, vIadd_e, vIsub_e, vImul_e, vIand_e, vIor_e, vIxor_e, vIshl_e, vIshr_e, vIushr_e, vIdiv_e, vIrem_e, vLadd_e, vLsub_e, vLmul_e, vLand_e, vLor_e, vLxor_e, vLdiv_e, vLrem_e, vLushr_e, vLshl_e, vLcmp_e, vIneg_e, vI2l_e, vL2i_e, vI2b_e, vI2c_e, vDup_e, vPop_e, vDup2_e, vGoto_e, vIcEq_e, vIfEq_e, vIcNe_e, vIfNe_e, vIcLt_e, vIfLt_e, vIcGe_e, vIfGe_e, vIcGt_e, vIfGt_e, vIcLe_e, vIfLe_e, vNonnull_e, vSw_e, vGetI_e, vGetL_e, vGetR_e, vPutI_e, vPutZ_e, vPutL_e, vPutR_e, vIald_e, vIald_s, vLald_e, vBald_e, vBald_s, vAald_e, vIast_e, vLast_e, vBast_e, vAast_e, vAlen_e8, vAlen_e9, vAlen_e10, vAlen_e11, vAlen_e5, vAlen_e3, vGets_e, vCompact_e, vLdcS_e, vIret_e, vZret_e, vCret_e, vBret_e, vLret_e, vVret_e, vAret_e, vCallM_e0, vCallMV_e0, vCallS_e0, vCallSV_e0, vCallM_e1, vCallMV_e1, vCallS_e1, vCallSV_e1, vCallM_e2, vCallMV_e2, vCallS_e2, vCallSV_e2, vCallM_e3, vCallMV_e3, vCallS_e3, vCallSV_e3, vCallM_e4, vCallMV_e4, vCallS_e4, vCallSV_e4, vCallM_e5, vCallMV_e5, vCallS_e5, vCallSV_e5, vCallM_e6, vCallMV_e6, vCallS_e6, vCallSV_e6, vCallM_e7, vCallMV_e7, vCallS_e7, vCallSV_e7, vBad_e, vStrVal_e, vStrCod_e, vForm_e, vCallT_e0, vCallT_e1, vCallT_e2, vCopy_e, rf_0_0, rf_0_1, rf_0_2, rf_0_3, rf_0_4, rf_0_7, rf_0_10, rf_0_11, rf_0_12, rf_0_13, rf_0_14, rf_0_15, rf_0_16, rf_1_0, rf_3_0, rf_3_1, rf_6_0, rf_6_1, rf_9_0, rf_9_1, rf_9_3, rf_13_0, rf_13_1, rf_13_2, rf_16_0, rf_16_1, rf_16_2, rf_16_3, rf_21_0, rf_21_1, rf_21_2, rf_21_3, rf_26_0, rf_26_1, rf_26_2, rf_26_3, rf_26_4, rf_26_5, rf_26_6, rf_31_0, rf_31_2, rf_31_5, rf_31_6, rf_36_0, rf_36_1, rf_36_2, rf_36_3, rf_39_0, rf_39_1, rf_39_2, rf_41_0, rf_41_1, rf_41_2, rf_41_3, rf_5000_1, rf_5000_2, rf_5000_3, rf_5000_4, rf_5000_5, rf_5000_15, rf_5000_16, rf_5000_18, rf_5000_19, rf_5000_20, rf_5000_21, rf_5000_22, rf_5000_23, rf_5000_24, rf_5000_25, rf_5000_26, rf_5000_27, rf_5000_36, rf_5000_37, rf_5000_40, rf_5000_41, rf_5000_42, rf_5000_43, rf_5000_44, rf_5000_45, rf_5000_47, rf_5000_52, rf_5000_54, rf_5000_55, rf_100_0, rf_100_1, rf_103_0, rf_103_1, rf_106_0, rf_106_1, rf_109_0, rf_109_1, al_2, al_4, al_5, al_7, al_8, al_10, al_11, al_12, al_14, al_15, al_17, al_18, al_19, al_20, al_22, al_23, al_24, al_25, al_27, al_28, al_29, al_30, al_32, al_33, al_34, al_35, al_37, al_38, al_40, al_42, al_5001, al_5002, al_5003, al_5004, al_5005, al_5006, al_5007, al_5008, al_5009, al_5010, al_5011, al_5012, al_5013, al_5014, al_5015, al_5016, al_5017, al_5018, al_5019, al_5020, al_5021, al_5022, al_5023, al_5024, al_5025, al_5026, al_9000, al_101, al_102, al_104, al_105, al_107, al_108, al_110, al_111, vcs_e, lg_c0, lg_cs, lg_nil, set_c0, set_cs, okst_0, okst_s, acok_n, acok_c, List.contains_nil, List.contains_cons, Bool.or_false, Bool.false_or, Bool.false_eq_true, if_false, if_true, ite_self, ne_eq, true_and, and_true, not_false_eq_true, not_true_eq_false, false_imp_iff, true_imp_iff, Nat.ble_eq, Bool.and_eq_true, reduceCtorEq, or_false, false_or, or_true, true_or, false_and, and_false, and_self, Int.reduceLE, Int.reduceAdd, Int.reduceSub, Int.reduceMul, Int.reduceNeg, Int.reduceLT, Int.reduceEq, Int.reduceNe, Nat.reduceBEq, Nat.reduceBNe, Nat.reduceEqDiff, amCmp_in, amCmp_lt, amCmp_le, amCmp_gt, amCmp_ge, amCmp_eq, amCmp_ne, Nat.reduceLeDiff, Nat.reduceSub, Bool.and_true, Bool.true_and, Bool.and_self, Bool.or_true, Bool.true_or, isRf_3, isRf_4, isRf_5, isRf_8, isRf_9, isRf_10, isRf_11, isRf_15, isRf_16, isRf_17, isRf_18, isRf_19, isRf_20, isRf_21, isRf_22, isRf_23, isRf_24, isRf_25, isRf_26, isRf_27, isRf_28, k_X12_text_0, k_X12_text_1, k_X12_text_2, k_X12_text_5, k_X12_text_6, k_X12_text_7, k_X12_text_8, k_X12_text_11, k_X12_text_14, k_X12_text_17, k_X12_text_18, k_X12_text_19, k_X12_text_22, k_X12_text_23, k_X12_text_26, k_X12_text_27, k_X12_text_30, k_X12_text_31, k_X12_text_32, k_X12_text_35, k_X12_text_36, k_X12_text_39, k_X12_text_40, k_X12_text_43, k_X12_text_44, k_X12_text_45, k_X12_text_48, k_X12_text_49, k_X12_text_52, k_X12_text_53, k_X12_text_54, k_X12_text_55, k_X12_text_58, k_X12_text_59, k_X12_text_60, k_X12_text_61, k_X12_text_64, k_X12_text_65, k_X12_text_66, k_X12_text_69, k_X12_text_70, k_X12_text_71, k_X12_text_72, k_X12_text_73, k_X12_text_76, k_X12_text_77, k_X12_text_80, k_X12_text_83, k_X12_text_84, k_X12_text_87, k_X12_text_88, k_X12_text_89, k_X12_text_90, k_X12_text_91, k_X12_text_94, k_X12_text_95, k_X12_text_96, k_X12_text_97, k_X12_text_100, k_X12_text_103, k_X12_text_104, k_X12_text_107, k_X12_text_108, k_X12_text_111, k_X12_text_112, k_X12_text_113, k_X12_text_114, k_X12_text_115, k_X12_text_118, k_X12_text_119, k_X12_text_120, k_X12_text_123, k_X12_text_124, k_X12_text_127, k_X12_text_128, k_X12_text_129, k_X12_text_130, k_X12_text_131, k_X12_text_132, k_X12_text_135, k_X12_text_136, k_X12_text_137, k_X12_text_138, k_X12_text_140, k_X12_text_143, k_X12_text_144, k_X12_text_147, k_X12_text_149, k_X12_text_150, k_X12_text_153, k_X12_text_154, k_X12_text_155, k_X12_text_156, k_X12_text_157, k_X12_text_160, k_X12_text_163, k_X12_text_164, k_X12_text_165, k_X12_text_166, k_X12_text_167, k_X12_text_170, k_X12_text_173, k_X12_text_174, k_X12_text_177, k_X12_text_178, k_X12_text_181, k_X12_text_182, k_X12_text_185, k_X12_text_186, k_X12_text_187, k_X12_text_188, k_X12_text_189, k_X12_text_190, k_X12_text_193, k_X12_text_194, k_X12_text_195, k_X12_text_198, k_X12_text_199, k_X12_text_202, k_X12_text_203, k_X12_text_204, k_X12_text_205, k_X12_text_206, k_X12_text_207, k_X12_text_210, k_X12_text_213, k_X12_text_214, k_X12_text_215, k_X12_text_218, k_X12_text_221, k_X12_text_222, k_X12_text_223, k_X12_text_226, k_X12_text_229, k_X12_text_230, k_X12_text_231, k_X12_text_232, k_X12_text_233, k_X12_text_236, k_X12_text_237, k_X12_text_240, k_X12_text_241, k_X12_text_242, k_X12_text_245, k_X12_text_246, k_X12_text_247, k_X12_text_248, k_X12_text_251, k_X12_text_254, k_X12_text_255, k_X12_text_256, k_X12_text_257, k_X12_text_259, k_X12_text_262, k_X12_text_263, k_X12_text_266, k_X12_text_267, k_X12_text_268, k_X12_text_271, k_X12_text_272, k_X12_text_273, k_X12_text_274, k_X12_text_277, k_X12_text_280, k_X12_text_281, k_X12_text_282, k_X12_text_283, k_X12_text_285, k_X12_text_288, k_X12_text_289, k_X12_text_292, k_X12_text_293, k_X12_text_294, k_X12_text_297, k_X12_text_298, k_X12_text_299, k_X12_text_300, k_X12_text_303, k_X12_text_306, k_X12_text_307, k_X12_text_308, k_X12_text_309, k_X12_text_311, k_X12_text_314, k_X12_text_315, k_X12_text_318, k_X12_text_319, k_X12_text_320, k_X12_text_323, k_X12_text_324, k_X12_text_325, k_X12_text_326, k_X12_text_329, k_X12_text_332, k_X12_text_333, k_X12_text_334, k_X12_text_335, k_X12_text_338, k_X12_text_341, k_X12_text_342, k_X12_text_345, k_X12_text_346, k_X12_text_347, k_X12_text_348, k_X12_text_351, k_X12_text_354, k_X12_text_355, k_X12_text_356, k_X12_text_357, k_X12_text_358, k_X12_text_361, k_X12_text_364, k_X12_text_365, k_X12_text_367, k_X12_text_369, k_X12_text_370, k_X12_text_373, k_X12_text_374, k_X12_text_377, k_X12_text_378, k_X12_text_379, k_X12_text_380, k_X12_text_382, k_X12_text_383, k_X12_text_384, k_X12_text_387, k_X12_text_388, k_X12_text_389, k_X12_text_390, k_X12_text_392, k_X12_text_393, k_X12_text_394, k_X12_text_395, k_X12_text_398, k_X12_text_401, k_X12_text_404, k_X12_text_407, k_X12_text_408, k_X12_text_411, k_X12_text_413, k_X12_text_414, k_X12_text_417, k_X12_text_418, k_X12_text_419, k_X12_text_420, k_X12_text_421, k_X12_text_422, k_X12_text_425, k_X12_text_426, k_X12_text_427, k_X12_text_430, k_X12_text_431, k_X12_text_432, k_X12_text_435, k_X12_text_436, k_X12_text_439, w_X12_fault_e, w_X12_isIn_e, up_s, up_nj, up_na, up_up, savR_o, cpy_o, fillm_o, setAud_o, setv_o, setv_s, Int.reduceNe, Int.reduceEq, Int.reduceLT, Int.reduceAdd, not_false_eq_true, ne_eq, or_true, true_or, if_pos d, l]
          repeat' (first | apply And.intro | intro _)
          all_goals first | omega | exact absurd trivial (by assumption) | exact q8
        · obtain ⟨g1, g2⟩ := h4 rfl (by omega)
          have i9 : ∀ τ, (sRd (th0 σ)).1 = -1 → SEF (th0 σ) τ → ((sRd (th0 σ)).1 = -1 → sRok (sRd (th0 σ)) τ) → ∃ k', inv_txt Q 2 k' 137 [(28, 5000), (0, 2), (0, τ 5000 6), (0, 0), (6, 0)] [] (up τ 5000 6 0) := fun τ z a b => by
            have k34 : τ 5000 34 = σ 5000 34 := by rw [a.2.2.2 34 (by decide) (by decide)]; exact e34
            refine ⟨48, rfl, τ, (6, 0), Or.inr (Or.inl ⟨rfl, rfl, by omega, g2 z τ a (b z), 0, rfl, by omega, by omega, ?_⟩)⟩
            exact (cpy_0 (up τ 5000 6 0) 5013 192 5013 (48 * τ 5000 34)).symm
          have i8 : ∀ τ, ¬ (sRd (th0 σ)).1 = -1 → SEF (th0 σ) τ → Q (0, -1) τ := fun τ z a => g1 z τ a
          by_cases z : (sRd (th0 σ)).1 = -1
          · have i9y : ∀ τ, SEF (th0 σ) τ → sRok (sRd (th0 σ)) τ → _ := fun τ a b => i9 τ z a (fun _ => b)
            simp only [↓reduceIte, inR_0, inR_1, inR_m, vSw2_e, swP_n, swP_c, vI_e, vL_e, vNull_e, vIload_e, vLload_e, vAload_e, vIstore_e, vLstore_e, vAstore_e, vIinc_e, vIadd_e, vIsub_e, vImul_e, vIand_e, vIor_e, vIxor_e, vIshl_e, vIshr_e, vIushr_e, vIdiv_e, vIrem_e, vLadd_e, vLsub_e, vLmul_e, vLand_e, vLor_e, vLxor_e, vLdiv_e, vLrem_e, vLushr_e, vLshl_e, vLcmp_e, vIneg_e, vI2l_e, vL2i_e, vI2b_e, vI2c_e, vDup_e, vPop_e, vDup2_e, vGoto_e, vIcEq_e, vIfEq_e, vIcNe_e, vIfNe_e, vIcLt_e, vIfLt_e, vIcGe_e, vIfGe_e, vIcGt_e, vIfGt_e, vIcLe_e, vIfLe_e, vNonnull_e, vSw_e, vGetI_e, vGetL_e, vGetR_e, vPutI_e, vPutZ_e, vPutL_e, vPutR_e, vIald_e, vIald_s, vLald_e, vBald_e, vBald_s, vAald_e, vIast_e, vLast_e, vBast_e, vAast_e, vAlen_e8, vAlen_e9, vAlen_e10, vAlen_e11, vAlen_e5, vAlen_e3, vGets_e, vCompact_e, vLdcS_e, vIret_e, vZret_e, vCret_e, vBret_e, vLret_e, vVret_e, vAret_e, vCallM_e0, vCallMV_e0, vCallS_e0, vCallSV_e0, vCallM_e1, vCallMV_e1, vCallS_e1, vCallSV_e1, vCallM_e2, vCallMV_e2, vCallS_e2, vCallSV_e2, vCallM_e3, vCallMV_e3, vCallS_e3, vCallSV_e3, vCallM_e4, vCallMV_e4, vCallS_e4, vCallSV_e4, vCallM_e5, vCallMV_e5, vCallS_e5, vCallSV_e5, vCallM_e6, vCallMV_e6, vCallS_e6, vCallSV_e6, vCallM_e7, vCallMV_e7, vCallS_e7, vCallSV_e7, vBad_e, vStrVal_e, vStrCod_e, vForm_e, vCallT_e0, vCallT_e1, vCallT_e2, vCopy_e, rf_0_0, rf_0_1, rf_0_2, rf_0_3, rf_0_4, rf_0_7, rf_0_10, rf_0_11, rf_0_12, rf_0_13, rf_0_14, rf_0_15, rf_0_16, rf_1_0, rf_3_0, rf_3_1, rf_6_0, rf_6_1, rf_9_0, rf_9_1, rf_9_3, rf_13_0, rf_13_1, rf_13_2, rf_16_0, rf_16_1, rf_16_2, rf_16_3, rf_21_0, rf_21_1, rf_21_2, rf_21_3, rf_26_0, rf_26_1, rf_26_2, rf_26_3, rf_26_4, rf_26_5, rf_26_6, rf_31_0, rf_31_2, rf_31_5, rf_31_6, rf_36_0, rf_36_1, rf_36_2, rf_36_3, rf_39_0, rf_39_1, rf_39_2, rf_41_0, rf_41_1, rf_41_2, rf_41_3, rf_5000_1, rf_5000_2, rf_5000_3, rf_5000_4, rf_5000_5, rf_5000_15, rf_5000_16, rf_5000_18, rf_5000_19, rf_5000_20, rf_5000_21, rf_5000_22, rf_5000_23, rf_5000_24, rf_5000_25, rf_5000_26, rf_5000_27, rf_5000_36, rf_5000_37, rf_5000_40, rf_5000_41, rf_5000_42, rf_5000_43, rf_5000_44, rf_5000_45, rf_5000_47, rf_5000_52, rf_5000_54, rf_5000_55, rf_100_0, rf_100_1, rf_103_0, rf_103_1, rf_106_0, rf_106_1, rf_109_0, rf_109_1, al_2, al_4, al_5, al_7, al_8, al_10, al_11, al_12, al_14, al_15, al_17, al_18, al_19, al_20, al_22, al_23, al_24, al_25, al_27, al_28, al_29, al_30, al_32, al_33, al_34, al_35, al_37, al_38, al_40, al_42, al_5001, al_5002, al_5003, al_5004, al_5005, al_5006, al_5007, al_5008, al_5009, al_5010, al_5011, al_5012, al_5013, al_5014, al_5015, al_5016, al_5017, al_5018, al_5019, al_5020, al_5021, al_5022, al_5023, al_5024, al_5025, al_5026, al_9000, al_101, al_102, al_104, al_105, al_107, al_108, al_110, al_111, vcs_e, lg_c0, lg_cs, lg_nil, set_c0, set_cs, okst_0, okst_s, acok_n, acok_c, List.contains_nil, List.contains_cons, Bool.or_false, Bool.false_or, Bool.false_eq_true, if_false, if_true, ite_self, ne_eq, true_and, and_true, not_false_eq_true, not_true_eq_false, false_imp_iff, true_imp_iff, Nat.ble_eq, Bool.and_eq_true, reduceCtorEq, or_false, false_or, or_true, true_or, false_and, and_false, and_self, Int.reduceLE, Int.reduceAdd, Int.reduceSub, Int.reduceMul, Int.reduceNeg, Int.reduceLT, Int.reduceEq, Int.reduceNe, Nat.reduceBEq, Nat.reduceBNe, Nat.reduceEqDiff, amCmp_in, amCmp_lt, amCmp_le, amCmp_gt, amCmp_ge, amCmp_eq, amCmp_ne, Nat.reduceLeDiff, Nat.reduceSub, Bool.and_true, Bool.true_and, Bool.and_self, Bool.or_true, Bool.true_or, isRf_3, isRf_4, isRf_5, isRf_8, isRf_9, isRf_10, isRf_11, isRf_15, isRf_16, isRf_17, isRf_18, isRf_19, isRf_20, isRf_21, isRf_22, isRf_23, isRf_24, isRf_25, isRf_26, isRf_27, isRf_28, k_X12_text_0, k_X12_text_1, k_X12_text_2, k_X12_text_5, k_X12_text_6, k_X12_text_7, k_X12_text_8, k_X12_text_11, k_X12_text_14, k_X12_text_17, k_X12_text_18, k_X12_text_19, k_X12_text_22, k_X12_text_23, k_X12_text_26, k_X12_text_27, k_X12_text_30, k_X12_text_31, k_X12_text_32, k_X12_text_35, k_X12_text_36, k_X12_text_39, k_X12_text_40, k_X12_text_43, k_X12_text_44, k_X12_text_45, k_X12_text_48, k_X12_text_49, k_X12_text_52, k_X12_text_53, k_X12_text_54, k_X12_text_55, k_X12_text_58, k_X12_text_59, k_X12_text_60, k_X12_text_61, k_X12_text_64, k_X12_text_65, k_X12_text_66, k_X12_text_69, k_X12_text_70, k_X12_text_71, k_X12_text_72, k_X12_text_73, k_X12_text_76, k_X12_text_77, k_X12_text_80, k_X12_text_83, k_X12_text_84, k_X12_text_87, k_X12_text_88, k_X12_text_89, k_X12_text_90, k_X12_text_91, k_X12_text_94, k_X12_text_95, k_X12_text_96, k_X12_text_97, k_X12_text_100, k_X12_text_103, k_X12_text_104, k_X12_text_107, k_X12_text_108, k_X12_text_111, k_X12_text_112, k_X12_text_113, k_X12_text_114, k_X12_text_115, k_X12_text_118, k_X12_text_119, k_X12_text_120, k_X12_text_123, k_X12_text_124, k_X12_text_127, k_X12_text_128, k_X12_text_129, k_X12_text_130, k_X12_text_131, k_X12_text_132, k_X12_text_135, k_X12_text_136, k_X12_text_137, k_X12_text_138, k_X12_text_140, k_X12_text_143, k_X12_text_144, k_X12_text_147, k_X12_text_149, k_X12_text_150, k_X12_text_153, k_X12_text_154, k_X12_text_155, k_X12_text_156, k_X12_text_157, k_X12_text_160, k_X12_text_163, k_X12_text_164, k_X12_text_165, k_X12_text_166, k_X12_text_167, k_X12_text_170, k_X12_text_173, k_X12_text_174, k_X12_text_177, k_X12_text_178, k_X12_text_181, k_X12_text_182, k_X12_text_185, k_X12_text_186, k_X12_text_187, k_X12_text_188, k_X12_text_189, k_X12_text_190, k_X12_text_193, k_X12_text_194, k_X12_text_195, k_X12_text_198, k_X12_text_199, k_X12_text_202, k_X12_text_203, k_X12_text_204, k_X12_text_205, k_X12_text_206, k_X12_text_207, k_X12_text_210, k_X12_text_213, k_X12_text_214, k_X12_text_215, k_X12_text_218, k_X12_text_221, k_X12_text_222, k_X12_text_223, k_X12_text_226, k_X12_text_229, k_X12_text_230, k_X12_text_231, k_X12_text_232, k_X12_text_233, k_X12_text_236, k_X12_text_237, k_X12_text_240, k_X12_text_241, k_X12_text_242, k_X12_text_245, k_X12_text_246, k_X12_text_247, k_X12_text_248, k_X12_text_251, k_X12_text_254, k_X12_text_255, k_X12_text_256, k_X12_text_257, k_X12_text_259, k_X12_text_262, k_X12_text_263, k_X12_text_266, k_X12_text_267, k_X12_text_268, k_X12_text_271, k_X12_text_272, k_X12_text_273, k_X12_text_274, k_X12_text_277, k_X12_text_280, k_X12_text_281, k_X12_text_282, k_X12_text_283, k_X12_text_285, k_X12_text_288, k_X12_text_289, k_X12_text_292, k_X12_text_293, k_X12_text_294, k_X12_text_297, k_X12_text_298, k_X12_text_299, k_X12_text_300, k_X12_text_303, k_X12_text_306, k_X12_text_307, k_X12_text_308, k_X12_text_309, k_X12_text_311, k_X12_text_314, k_X12_text_315, k_X12_text_318, k_X12_text_319, k_X12_text_320, k_X12_text_323, k_X12_text_324, k_X12_text_325, k_X12_text_326, k_X12_text_329, k_X12_text_332, k_X12_text_333, k_X12_text_334, k_X12_text_335, k_X12_text_338, k_X12_text_341, k_X12_text_342, k_X12_text_345, k_X12_text_346, k_X12_text_347, k_X12_text_348, k_X12_text_351, k_X12_text_354, k_X12_text_355, k_X12_text_356, k_X12_text_357, k_X12_text_358, k_X12_text_361, k_X12_text_364, k_X12_text_365, k_X12_text_367, k_X12_text_369, k_X12_text_370, k_X12_text_373, k_X12_text_374, k_X12_text_377, k_X12_text_378, k_X12_text_379, k_X12_text_380, k_X12_text_382, k_X12_text_383, k_X12_text_384, k_X12_text_387, k_X12_text_388, k_X12_text_389, k_X12_text_390, k_X12_text_392, k_X12_text_393, k_X12_text_394, k_X12_text_395, k_X12_text_398, k_X12_text_401, k_X12_text_404, k_X12_text_407, k_X12_text_408, k_X12_text_411, k_X12_text_413, k_X12_text_414, k_X12_text_417, k_X12_text_418, k_X12_text_419, k_X12_text_420, k_X12_text_421, k_X12_text_422, k_X12_text_425, k_X12_text_426, k_X12_text_427, k_X12_text_430, k_X12_text_431, k_X12_text_432, k_X12_text_435, k_X12_text_436, k_X12_text_439, w_X12_fault_e, w_X12_isIn_e, up_s, up_nj, up_na, up_up, savR_o, cpy_o, fillm_o, setAud_o, setv_o, setv_s, Int.reduceNe, Int.reduceEq, Int.reduceLT, Int.reduceAdd, not_false_eq_true, ne_eq, or_true, true_or, if_pos d, l, z]
            repeat' (first | assumption | exact ht | exact hv | exact hL | exact i9 _ z (by assumption) (by assumption) | exact i9y _ (by assumption) (by assumption) | trivial | apply And.intro | intro _)
            all_goals first | omega | exact absurd trivial (by assumption) | exact i9 _ z (by assumption) (by assumption) | exact i9y _ (by assumption) (by assumption) | trivial | skip
          · simp only [↓reduceIte, inR_0, inR_1, inR_m, vSw2_e, swP_n, swP_c, vI_e, vL_e, vNull_e, vIload_e, vLload_e, vAload_e, vIstore_e, vLstore_e, vAstore_e, vIinc_e, vIadd_e, vIsub_e, vImul_e, vIand_e, vIor_e, vIxor_e, vIshl_e, vIshr_e, vIushr_e, vIdiv_e, vIrem_e, vLadd_e, vLsub_e, vLmul_e, vLand_e, vLor_e, vLxor_e, vLdiv_e, vLrem_e, vLushr_e, vLshl_e, vLcmp_e, vIneg_e, vI2l_e, vL2i_e, vI2b_e, vI2c_e, vDup_e, vPop_e, vDup2_e, vGoto_e, vIcEq_e, vIfEq_e, vIcNe_e, vIfNe_e, vIcLt_e, vIfLt_e, vIcGe_e, vIfGe_e, vIcGt_e, vIfGt_e, vIcLe_e, vIfLe_e, vNonnull_e, vSw_e, vGetI_e, vGetL_e, vGetR_e, vPutI_e, vPutZ_e, vPutL_e, vPutR_e, vIald_e, vIald_s, vLald_e, vBald_e, vBald_s, vAald_e, vIast_e, vLast_e, vBast_e, vAast_e, vAlen_e8, vAlen_e9, vAlen_e10, vAlen_e11, vAlen_e5, vAlen_e3, vGets_e, vCompact_e, vLdcS_e, vIret_e, vZret_e, vCret_e, vBret_e, vLret_e, vVret_e, vAret_e, vCallM_e0, vCallMV_e0, vCallS_e0, vCallSV_e0, vCallM_e1, vCallMV_e1, vCallS_e1, vCallSV_e1, vCallM_e2, vCallMV_e2, vCallS_e2, vCallSV_e2, vCallM_e3, vCallMV_e3, vCallS_e3, vCallSV_e3, vCallM_e4, vCallMV_e4, vCallS_e4, vCallSV_e4, vCallM_e5, vCallMV_e5, vCallS_e5, vCallSV_e5, vCallM_e6, vCallMV_e6, vCallS_e6, vCallSV_e6, vCallM_e7, vCallMV_e7, vCallS_e7, vCallSV_e7, vBad_e, vStrVal_e, vStrCod_e, vForm_e, vCallT_e0, vCallT_e1, vCallT_e2, vCopy_e, rf_0_0, rf_0_1, rf_0_2, rf_0_3, rf_0_4, rf_0_7, rf_0_10, rf_0_11, rf_0_12, rf_0_13, rf_0_14, rf_0_15, rf_0_16, rf_1_0, rf_3_0, rf_3_1, rf_6_0, rf_6_1, rf_9_0, rf_9_1, rf_9_3, rf_13_0, rf_13_1, rf_13_2, rf_16_0, rf_16_1, rf_16_2, rf_16_3, rf_21_0, rf_21_1, rf_21_2, rf_21_3, rf_26_0, rf_26_1, rf_26_2, rf_26_3, rf_26_4, rf_26_5, rf_26_6, rf_31_0, rf_31_2, rf_31_5, rf_31_6, rf_36_0, rf_36_1, rf_36_2, rf_36_3, rf_39_0, rf_39_1, rf_39_2, rf_41_0, rf_41_1, rf_41_2, rf_41_3, rf_5000_1, rf_5000_2, rf_5000_3, rf_5000_4, rf_5000_5, rf_5000_15, rf_5000_16, rf_5000_18, rf_5000_19, rf_5000_20, rf_5000_21, rf_5000_22, rf_5000_23, rf_5000_24, rf_5000_25, rf_5000_26, rf_5000_27, rf_5000_36, rf_5000_37, rf_5000_40, rf_5000_41, rf_5000_42, rf_5000_43, rf_5000_44, rf_5000_45, rf_5000_47, rf_5000_52, rf_5000_54, rf_5000_55, rf_100_0, rf_100_1, rf_103_0, rf_103_1, rf_106_0, rf_106_1, rf_109_0, rf_109_1, al_2, al_4, al_5, al_7, al_8, al_10, al_11, al_12, al_14, al_15, al_17, al_18, al_19, al_20, al_22, al_23, al_24, al_25, al_27, al_28, al_29, al_30, al_32, al_33, al_34, al_35, al_37, al_38, al_40, al_42, al_5001, al_5002, al_5003, al_5004, al_5005, al_5006, al_5007, al_5008, al_5009, al_5010, al_5011, al_5012, al_5013, al_5014, al_5015, al_5016, al_5017, al_5018, al_5019, al_5020, al_5021, al_5022, al_5023, al_5024, al_5025, al_5026, al_9000, al_101, al_102, al_104, al_105, al_107, al_108, al_110, al_111, vcs_e, lg_c0, lg_cs, lg_nil, set_c0, set_cs, okst_0, okst_s, acok_n, acok_c, List.contains_nil, List.contains_cons, Bool.or_false, Bool.false_or, Bool.false_eq_true, if_false, if_true, ite_self, ne_eq, true_and, and_true, not_false_eq_true, not_true_eq_false, false_imp_iff, true_imp_iff, Nat.ble_eq, Bool.and_eq_true, reduceCtorEq, or_false, false_or, or_true, true_or, false_and, and_false, and_self, Int.reduceLE, Int.reduceAdd, Int.reduceSub, Int.reduceMul, Int.reduceNeg, Int.reduceLT, Int.reduceEq, Int.reduceNe, Nat.reduceBEq, Nat.reduceBNe, Nat.reduceEqDiff, amCmp_in, amCmp_lt, amCmp_le, amCmp_gt, amCmp_ge, amCmp_eq, amCmp_ne, Nat.reduceLeDiff, Nat.reduceSub, Bool.and_true, Bool.true_and, Bool.and_self, Bool.or_true, Bool.true_or, isRf_3, isRf_4, isRf_5, isRf_8, isRf_9, isRf_10, isRf_11, isRf_15, isRf_16, isRf_17, isRf_18, isRf_19, isRf_20, isRf_21, isRf_22, isRf_23, isRf_24, isRf_25, isRf_26, isRf_27, isRf_28, k_X12_text_0, k_X12_text_1, k_X12_text_2, k_X12_text_5, k_X12_text_6, k_X12_text_7, k_X12_text_8, k_X12_text_11, k_X12_text_14, k_X12_text_17, k_X12_text_18, k_X12_text_19, k_X12_text_22, k_X12_text_23, k_X12_text_26, k_X12_text_27, k_X12_text_30, k_X12_text_31, k_X12_text_32, k_X12_text_35, k_X12_text_36, k_X12_text_39, k_X12_text_40, k_X12_text_43, k_X12_text_44, k_X12_text_45, k_X12_text_48, k_X12_text_49, k_X12_text_52, k_X12_text_53, k_X12_text_54, k_X12_text_55, k_X12_text_58, k_X12_text_59, k_X12_text_60, k_X12_text_61, k_X12_text_64, k_X12_text_65, k_X12_text_66, k_X12_text_69, k_X12_text_70, k_X12_text_71, k_X12_text_72, k_X12_text_73, k_X12_text_76, k_X12_text_77, k_X12_text_80, k_X12_text_83, k_X12_text_84, k_X12_text_87, k_X12_text_88, k_X12_text_89, k_X12_text_90, k_X12_text_91, k_X12_text_94, k_X12_text_95, k_X12_text_96, k_X12_text_97, k_X12_text_100, k_X12_text_103, k_X12_text_104, k_X12_text_107, k_X12_text_108, k_X12_text_111, k_X12_text_112, k_X12_text_113, k_X12_text_114, k_X12_text_115, k_X12_text_118, k_X12_text_119, k_X12_text_120, k_X12_text_123, k_X12_text_124, k_X12_text_127, k_X12_text_128, k_X12_text_129, k_X12_text_130, k_X12_text_131, k_X12_text_132, k_X12_text_135, k_X12_text_136, k_X12_text_137, k_X12_text_138, k_X12_text_140, k_X12_text_143, k_X12_text_144, k_X12_text_147, k_X12_text_149, k_X12_text_150, k_X12_text_153, k_X12_text_154, k_X12_text_155, k_X12_text_156, k_X12_text_157, k_X12_text_160, k_X12_text_163, k_X12_text_164, k_X12_text_165, k_X12_text_166, k_X12_text_167, k_X12_text_170, k_X12_text_173, k_X12_text_174, k_X12_text_177, k_X12_text_178, k_X12_text_181, k_X12_text_182, k_X12_text_185, k_X12_text_186, k_X12_text_187, k_X12_text_188, k_X12_text_189, k_X12_text_190, k_X12_text_193, k_X12_text_194, k_X12_text_195, k_X12_text_198, k_X12_text_199, k_X12_text_202, k_X12_text_203, k_X12_text_204, k_X12_text_205, k_X12_text_206, k_X12_text_207, k_X12_text_210, k_X12_text_213, k_X12_text_214, k_X12_text_215, k_X12_text_218, k_X12_text_221, k_X12_text_222, k_X12_text_223, k_X12_text_226, k_X12_text_229, k_X12_text_230, k_X12_text_231, k_X12_text_232, k_X12_text_233, k_X12_text_236, k_X12_text_237, k_X12_text_240, k_X12_text_241, k_X12_text_242, k_X12_text_245, k_X12_text_246, k_X12_text_247, k_X12_text_248, k_X12_text_251, k_X12_text_254, k_X12_text_255, k_X12_text_256, k_X12_text_257, k_X12_text_259, k_X12_text_262, k_X12_text_263, k_X12_text_266, k_X12_text_267, k_X12_text_268, k_X12_text_271, k_X12_text_272, k_X12_text_273, k_X12_text_274, k_X12_text_277, k_X12_text_280, k_X12_text_281, k_X12_text_282, k_X12_text_283, k_X12_text_285, k_X12_text_288, k_X12_text_289, k_X12_text_292, k_X12_text_293, k_X12_text_294, k_X12_text_297, k_X12_text_298, k_X12_text_299, k_X12_text_300, k_X12_text_303, k_X12_text_306, k_X12_text_307, k_X12_text_308, k_X12_text_309, k_X12_text_311, k_X12_text_314, k_X12_text_315, k_X12_text_318, k_X12_text_319, k_X12_text_320, k_X12_text_323, k_X12_text_324, k_X12_text_325, k_X12_text_326, k_X12_text_329, k_X12_text_332, k_X12_text_333, k_X12_text_334, k_X12_text_335, k_X12_text_338, k_X12_text_341, k_X12_text_342, k_X12_text_345, k_X12_text_346, k_X12_text_347, k_X12_text_348, k_X12_text_351, k_X12_text_354, k_X12_text_355, k_X12_text_356, k_X12_text_357, k_X12_text_358, k_X12_text_361, k_X12_text_364, k_X12_text_365, k_X12_text_367, k_X12_text_369, k_X12_text_370, k_X12_text_373, k_X12_text_374, k_X12_text_377, k_X12_text_378, k_X12_text_379, k_X12_text_380, k_X12_text_382, k_X12_text_383, k_X12_text_384, k_X12_text_387, k_X12_text_388, k_X12_text_389, k_X12_text_390, k_X12_text_392, k_X12_text_393, k_X12_text_394, k_X12_text_395, k_X12_text_398, k_X12_text_401, k_X12_text_404, k_X12_text_407, k_X12_text_408, k_X12_text_411, k_X12_text_413, k_X12_text_414, k_X12_text_417, k_X12_text_418, k_X12_text_419, k_X12_text_420, k_X12_text_421, k_X12_text_422, k_X12_text_425, k_X12_text_426, k_X12_text_427, k_X12_text_430, k_X12_text_431, k_X12_text_432, k_X12_text_435, k_X12_text_436, k_X12_text_439, w_X12_fault_e, w_X12_isIn_e, up_s, up_nj, up_na, up_up, savR_o, cpy_o, fillm_o, setAud_o, setv_o, setv_s, Int.reduceNe, Int.reduceEq, Int.reduceLT, Int.reduceAdd, not_false_eq_true, ne_eq, or_true, true_or, if_pos d, l, z]
            repeat' (first | assumption | exact ht | exact hv | exact hL | exact i8 _ z (by assumption) | trivial | apply And.intro | intro _)
            all_goals first | omega | exact absurd trivial (by assumption) | exact i8 _ z (by assumption) | trivial | skip
    · have q8 := h1 (Or.inl d)
      simp only [↓reduceIte, inR_0, inR_1, inR_m, vSw2_e, swP_n, swP_c, vI_e, vL_e, vNull_e, vIload_e, vLload_e, vAload_e, vIstore_e, vLstore_e, vAstore_e, vIinc_e, vIadd_e, vIsub_e, vImul_e, vIand_e, vIor_e, vIxor_e, vIshl_e, vIshr_e, vIushr_e, vIdiv_e, vIrem_e, vLadd_e, vLsub_e, vLmul_e, vLand_e, vLor_e, vLxor_e, vLdiv_e, vLrem_e, vLushr_e, vLshl_e, vLcmp_e, vIneg_e, vI2l_e, vL2i_e, vI2b_e, vI2c_e, vDup_e, vPop_e, vDup2_e, vGoto_e, vIcEq_e, vIfEq_e, vIcNe_e, vIfNe_e, vIcLt_e, vIfLt_e, vIcGe_e, vIfGe_e, vIcGt_e, vIfGt_e, vIcLe_e, vIfLe_e, vNonnull_e, vSw_e, vGetI_e, vGetL_e, vGetR_e, vPutI_e, vPutZ_e, vPutL_e, vPutR_e, vIald_e, vIald_s, vLald_e, vBald_e, vBald_s, vAald_e, vIast_e, vLast_e, vBast_e, vAast_e, vAlen_e8, vAlen_e9, vAlen_e10, vAlen_e11, vAlen_e5, vAlen_e3, vGets_e, vCompact_e, vLdcS_e, vIret_e, vZret_e, vCret_e, vBret_e, vLret_e, vVret_e, vAret_e, vCallM_e0, vCallMV_e0, vCallS_e0, vCallSV_e0, vCallM_e1, vCallMV_e1, vCallS_e1, vCallSV_e1, vCallM_e2, vCallMV_e2, vCallS_e2, vCallSV_e2, vCallM_e3, vCallMV_e3, vCallS_e3, vCallSV_e3, vCallM_e4, vCallMV_e4, vCallS_e4, vCallSV_e4, vCallM_e5, vCallMV_e5, vCallS_e5, vCallSV_e5, vCallM_e6, vCallMV_e6, vCallS_e6, vCallSV_e6, vCallM_e7, vCallMV_e7, vCallS_e7, vCallSV_e7, vBad_e, vStrVal_e, vStrCod_e, vForm_e, vCallT_e0, vCallT_e1, vCallT_e2, vCopy_e, rf_0_0, rf_0_1, rf_0_2, rf_0_3, rf_0_4, rf_0_7, rf_0_10, rf_0_11, rf_0_12, rf_0_13, rf_0_14, rf_0_15, rf_0_16, rf_1_0, rf_3_0, rf_3_1, rf_6_0, rf_6_1, rf_9_0, rf_9_1, rf_9_3, rf_13_0, rf_13_1, rf_13_2, rf_16_0, rf_16_1, rf_16_2, rf_16_3, rf_21_0, rf_21_1, rf_21_2, rf_21_3, rf_26_0, rf_26_1, rf_26_2, rf_26_3, rf_26_4, rf_26_5, rf_26_6, rf_31_0, rf_31_2, rf_31_5, rf_31_6, rf_36_0, rf_36_1, rf_36_2, rf_36_3, rf_39_0, rf_39_1, rf_39_2, rf_41_0, rf_41_1, rf_41_2, rf_41_3, rf_5000_1, rf_5000_2, rf_5000_3, rf_5000_4, rf_5000_5, rf_5000_15, rf_5000_16, rf_5000_18, rf_5000_19, rf_5000_20, rf_5000_21, rf_5000_22, rf_5000_23, rf_5000_24, rf_5000_25, rf_5000_26, rf_5000_27, rf_5000_36, rf_5000_37, rf_5000_40, rf_5000_41, rf_5000_42, rf_5000_43, rf_5000_44, rf_5000_45, rf_5000_47, rf_5000_52, rf_5000_54, rf_5000_55, rf_100_0, rf_100_1, rf_103_0, rf_103_1, rf_106_0, rf_106_1, rf_109_0, rf_109_1, al_2, al_4, al_5, al_7, al_8, al_10, al_11, al_12, al_14, al_15, al_17, al_18, al_19, al_20, al_22, al_23, al_24, al_25, al_27, al_28, al_29, al_30, al_32, al_33, al_34, al_35, al_37, al_38, al_40, al_42, al_5001, al_5002, al_5003, al_5004, al_5005, al_5006, al_5007, al_5008, al_5009, al_5010, al_5011, al_5012, al_5013, al_5014, al_5015, al_5016, al_5017, al_5018, al_5019, al_5020, al_5021, al_5022, al_5023, al_5024, al_5025, al_5026, al_9000, al_101, al_102, al_104, al_105, al_107, al_108, al_110, al_111, vcs_e, lg_c0, lg_cs, lg_nil, set_c0, set_cs, okst_0, okst_s, acok_n, acok_c, List.contains_nil, List.contains_cons, Bool.or_false, Bool.false_or, Bool.false_eq_true, if_false, if_true, ite_self, ne_eq, true_and, and_true, not_false_eq_true, not_true_eq_false, false_imp_iff, true_imp_iff, Nat.ble_eq, Bool.and_eq_true, reduceCtorEq, or_false, false_or, or_true, true_or, false_and, and_false, and_self, Int.reduceLE, Int.reduceAdd, Int.reduceSub, Int.reduceMul, Int.reduceNeg, Int.reduceLT, Int.reduceEq, Int.reduceNe, Nat.reduceBEq, Nat.reduceBNe, Nat.reduceEqDiff, amCmp_in, amCmp_lt, amCmp_le, amCmp_gt, amCmp_ge, amCmp_eq, amCmp_ne, Nat.reduceLeDiff, Nat.reduceSub, Bool.and_true, Bool.true_and, Bool.and_self, Bool.or_true, Bool.true_or, isRf_3, isRf_4, isRf_5, isRf_8, isRf_9, isRf_10, isRf_11, isRf_15, isRf_16, isRf_17, isRf_18, isRf_19, isRf_20, isRf_21, isRf_22, isRf_23, isRf_24, isRf_25, isRf_26, isRf_27, isRf_28, k_X12_text_0, k_X12_text_1, k_X12_text_2, k_X12_text_5, k_X12_text_6, k_X12_text_7, k_X12_text_8, k_X12_text_11, k_X12_text_14, k_X12_text_17, k_X12_text_18, k_X12_text_19, k_X12_text_22, k_X12_text_23, k_X12_text_26, k_X12_text_27, k_X12_text_30, k_X12_text_31, k_X12_text_32, k_X12_text_35, k_X12_text_36, k_X12_text_39, k_X12_text_40, k_X12_text_43, k_X12_text_44, k_X12_text_45, k_X12_text_48, k_X12_text_49, k_X12_text_52, k_X12_text_53, k_X12_text_54, k_X12_text_55, k_X12_text_58, k_X12_text_59, k_X12_text_60, k_X12_text_61, k_X12_text_64, k_X12_text_65, k_X12_text_66, k_X12_text_69, k_X12_text_70, k_X12_text_71, k_X12_text_72, k_X12_text_73, k_X12_text_76, k_X12_text_77, k_X12_text_80, k_X12_text_83, k_X12_text_84, k_X12_text_87, k_X12_text_88, k_X12_text_89, k_X12_text_90, k_X12_text_91, k_X12_text_94, k_X12_text_95, k_X12_text_96, k_X12_text_97, k_X12_text_100, k_X12_text_103, k_X12_text_104, k_X12_text_107, k_X12_text_108, k_X12_text_111, k_X12_text_112, k_X12_text_113, k_X12_text_114, k_X12_text_115, k_X12_text_118, k_X12_text_119, k_X12_text_120, k_X12_text_123, k_X12_text_124, k_X12_text_127, k_X12_text_128, k_X12_text_129, k_X12_text_130, k_X12_text_131, k_X12_text_132, k_X12_text_135, k_X12_text_136, k_X12_text_137, k_X12_text_138, k_X12_text_140, k_X12_text_143, k_X12_text_144, k_X12_text_147, k_X12_text_149, k_X12_text_150, k_X12_text_153, k_X12_text_154, k_X12_text_155, k_X12_text_156, k_X12_text_157, k_X12_text_160, k_X12_text_163, k_X12_text_164, k_X12_text_165, k_X12_text_166, k_X12_text_167, k_X12_text_170, k_X12_text_173, k_X12_text_174, k_X12_text_177, k_X12_text_178, k_X12_text_181, k_X12_text_182, k_X12_text_185, k_X12_text_186, k_X12_text_187, k_X12_text_188, k_X12_text_189, k_X12_text_190, k_X12_text_193, k_X12_text_194, k_X12_text_195, k_X12_text_198, k_X12_text_199, k_X12_text_202, k_X12_text_203, k_X12_text_204, k_X12_text_205, k_X12_text_206, k_X12_text_207, k_X12_text_210, k_X12_text_213, k_X12_text_214, k_X12_text_215, k_X12_text_218, k_X12_text_221, k_X12_text_222, k_X12_text_223, k_X12_text_226, k_X12_text_229, k_X12_text_230, k_X12_text_231, k_X12_text_232, k_X12_text_233, k_X12_text_236, k_X12_text_237, k_X12_text_240, k_X12_text_241, k_X12_text_242, k_X12_text_245, k_X12_text_246, k_X12_text_247, k_X12_text_248, k_X12_text_251, k_X12_text_254, k_X12_text_255, k_X12_text_256, k_X12_text_257, k_X12_text_259, k_X12_text_262, k_X12_text_263, k_X12_text_266, k_X12_text_267, k_X12_text_268, k_X12_text_271, k_X12_text_272, k_X12_text_273, k_X12_text_274, k_X12_text_277, k_X12_text_280, k_X12_text_281, k_X12_text_282, k_X12_text_283, k_X12_text_285, k_X12_text_288, k_X12_text_289, k_X12_text_292, k_X12_text_293, k_X12_text_294, k_X12_text_297, k_X12_text_298, k_X12_text_299, k_X12_text_300, k_X12_text_303, k_X12_text_306, k_X12_text_307, k_X12_text_308, k_X12_text_309, k_X12_text_311, k_X12_text_314, k_X12_text_315, k_X12_text_318, k_X12_text_319, k_X12_text_320, k_X12_text_323, k_X12_text_324, k_X12_text_325, k_X12_text_326, k_X12_text_329, k_X12_text_332, k_X12_text_333, k_X12_text_334, k_X12_text_335, k_X12_text_338, k_X12_text_341, k_X12_text_342, k_X12_text_345, k_X12_text_346, k_X12_text_347, k_X12_text_348, k_X12_text_351, k_X12_text_354, k_X12_text_355, k_X12_text_356, k_X12_text_357, k_X12_text_358, k_X12_text_361, k_X12_text_364, k_X12_text_365, k_X12_text_367, k_X12_text_369, k_X12_text_370, k_X12_text_373, k_X12_text_374, k_X12_text_377, k_X12_text_378, k_X12_text_379, k_X12_text_380, k_X12_text_382, k_X12_text_383, k_X12_text_384, k_X12_text_387, k_X12_text_388, k_X12_text_389, k_X12_text_390, k_X12_text_392, k_X12_text_393, k_X12_text_394, k_X12_text_395, k_X12_text_398, k_X12_text_401, k_X12_text_404, k_X12_text_407, k_X12_text_408, k_X12_text_411, k_X12_text_413, k_X12_text_414, k_X12_text_417, k_X12_text_418, k_X12_text_419, k_X12_text_420, k_X12_text_421, k_X12_text_422, k_X12_text_425, k_X12_text_426, k_X12_text_427, k_X12_text_430, k_X12_text_431, k_X12_text_432, k_X12_text_435, k_X12_text_436, k_X12_text_439, w_X12_fault_e, w_X12_isIn_e, up_s, up_nj, up_na, up_up, savR_o, cpy_o, fillm_o, setAud_o, setv_o, setv_s, Int.reduceNe, Int.reduceEq, Int.reduceLT, Int.reduceAdd, not_false_eq_true, ne_eq, or_true, true_or, if_neg d]
      repeat' (first | apply And.intro | intro _)
      all_goals first | omega | exact absurd trivial (by assumption) | exact q8
/-! reading a HOUSE: the same from any old rows -/
theorem hIt_cg {t : Int → Int} {n kind row : Int} : ∀ (f : Nat) (told p : Int) (v v' : Int → Int), (hIt t n kind row f told p v').1 = (hIt t n kind row f told p v).1 ∧ (hIt t n kind row f told p v').2.1 = (hIt t n kind row f told p v).2.1 ∧ ∀ s, v' s = v s → (hIt t n kind row f told p v').2.2 s = (hIt t n kind row f told p v).2.2 s := by
  intro f
  induction f with
  | zero => intro told p v v'; unfold hIt; exact ⟨rfl, rfl, fun s h => h⟩
  | succ f ih =>
    intro told p v v'
    unfold hIt
    by_cases c1 : t (sk t n p) = -1 ∨ t (sk t n p) = 59
    · rw [if_pos c1, if_pos c1]; exact ⟨rfl, rfl, fun s h => h⟩
    · rw [if_neg c1, if_neg c1]
      by_cases c2 : itemF kind (t (sk t n p)) = -1 ∨ told / (2 ^ (itemF kind (t (sk t n p))).toNat) % 2 = 1
      · rw [if_pos c2, if_pos c2]; exact ⟨rfl, rfl, fun s h => h⟩
      · rw [if_neg c2, if_neg c2]
        by_cases c3 : ndig t (sk t n (sk t n p + 1)) 2 = 0 ∨ (48 ≤ t (sk t n (sk t n p + 1) + ndig t (sk t n (sk t n p + 1)) 2) ∧ t (sk t n (sk t n p + 1) + ndig t (sk t n (sk t n p + 1)) 2) ≤ 57)
        · rw [if_pos c3, if_pos c3]; exact ⟨rfl, rfl, fun s h => h⟩
        · rw [if_neg c3, if_neg c3]
          by_cases c4 : fitF kind (itemF kind (t (sk t n p))) (nval t (sk t n (sk t n p + 1)) 0 2)
          · rw [if_pos c4, if_pos c4]
            obtain ⟨a, b, d⟩ := ih (told + 2 ^ (itemF kind (t (sk t n p))).toNat) (sk t n (sk t n p + 1) + ndig t (sk t n (sk t n p + 1)) 2) (upf v (row * 4 + itemF kind (t (sk t n p))) (nval t (sk t n (sk t n p + 1)) 0 2)) (upf v' (row * 4 + itemF kind (t (sk t n p))) (nval t (sk t n (sk t n p + 1)) 0 2))
            exact ⟨a, b, fun s h => d s (by unfold upf; rw [h])⟩
          · rw [if_neg c4, if_neg c4]; exact ⟨rfl, rfl, fun s h => h⟩
/-- the rows told agree -/
def agR (c v v' : Int → Int) : Prop := (∀ s, 0 ≤ s → s < 4 → v' s = v s) ∧ ∀ k i, 1 ≤ k → k < 4 → 0 ≤ i → i < c k → ∀ w, 0 ≤ w → w < 4 → v' ((firstK k + i) * 4 + w) = v ((firstK k + i) * 4 + w)
theorem hTick_cg {v v' : Int → Int} {m : Int} : ∀ {n : Nat}, (∀ i : Int, 0 ≤ i → i < n → v' ((5 + i) * 4 + 1) = v ((5 + i) * 4 + 1)) → hTick v' m n = hTick v m n := by
  intro n
  induction n with
  | zero => intro _; rfl
  | succ n ih =>
    intro h
    unfold hTick
    rw [ih (fun i a b => h i a (by omega)), h n (by omega) (by omega)]
theorem hfin_cg {c v v' : Int → Int} {n : Int} (h : agR c v v') : hfin c v' n = hfin c v n := by
  have e : hWhole c v' = hWhole c v := by
    unfold hWhole
    rw [hTick_cg (fun i a b => h.2 2 i (by decide) (by decide) a (by omega) 1 (by decide) (by decide))]
  by_cases w : hWhole c v
  · rw [hfin_t w, hfin_t (by rw [e]; exact w)]
  · rw [hfin_f w, hfin_f (by rw [e]; exact w)]
theorem agR_f {c v v' : Int → Int} {k : Int} (k0 : 0 ≤ k) (k1 : k < 4) (ck0 : 0 ≤ c k) (ck : c k < mostK k) (h : agR c v v') : agR (upf c k (c k + 1)) (filv v k (c k)) (filv v' k (c k)) := by
  refine ⟨fun s s0 s1 => ?_, fun k' i a1 a2 i0 i1 w w0 w1 => ?_⟩
  · unfold filv
    split
    · rfl
    · exact h.1 s s0 s1
  · unfold filv
    split
    · rfl
    · rename_i z
      refine h.2 k' i a1 a2 i0 ?_ w w0 w1
      unfold upf at i1
      split at i1
      · rename_i e
        subst e
        by_cases q : i = c k'
        · exact absurd ⟨by omega, by omega, ck0, ck, by rw [q]; omega, by rw [q]; omega⟩ z
        · omega
      · exact i1
theorem hCls_cg {t : Int → Int} {n : Int} : ∀ (f : Nat) (p : Int) (c v v' : Int → Int), (∀ k, 0 ≤ k → k < 4 → 0 ≤ c k) → agR c v v' → (hCls t n f p c v').1 = (hCls t n f p c v).1 ∧ (hCls t n f p c v').2.1 = (hCls t n f p c v).2.1 ∧ (hCls t n f p c v').2.2.1 = (hCls t n f p c v).2.2.1 ∧ ((hCls t n f p c v).1 = -1 → agR (hCls t n f p c v).2.2.1 (hCls t n f p c v).2.2.2 (hCls t n f p c v').2.2.2) := by
  intro f
  induction f with
  | zero => intro p c v v' hc h; unfold hCls; exact ⟨rfl, rfl, rfl, fun _ => h⟩
  | succ f ih =>
    intro p c v v' hc h
    unfold hCls
    by_cases m : 0 ≤ hK t n p ∧ c (hK t n p) < mostK (hK t n p)
    · rw [if_pos m, if_pos m]
      have kb : hK t n p < 4 := (kindF_b (t (sk t n p))).2
      have ck0 := hc _ m.1 kb
      have hf := agR_f m.1 kb ck0 m.2 h
      obtain ⟨e1, e2, e3⟩ := hIt_cg (t := t) (n := n) (kind := hK t n p) (row := firstK (hK t n p) + c (hK t n p)) 5 0 (sk t n p + 1) (filv v (hK t n p) (c (hK t n p))) (filv v' (hK t n p) (c (hK t n p)))
      have q1 : (hR t n p c v').1 = (hR t n p c v).1 := e1
      have q2 : (hR t n p c v').2.1 = (hR t n p c v).2.1 := e2
      have q3 : agR (upf c (hK t n p) (c (hK t n p) + 1)) (hR t n p c v).2.2 (hR t n p c v').2.2 := ⟨fun s s0 s1 => e3 s (hf.1 s s0 s1), fun k i a1 a2 i0 i1 w w0 w1 => e3 _ (hf.2 k i a1 a2 i0 i1 w w0 w1)⟩
      rw [q1, q2]
      by_cases m2 : (hR t n p c v).1 ≠ -1
      · rw [if_pos m2, if_pos m2]; exact ⟨rfl, rfl, rfl, fun z => absurd z m2⟩
      · rw [if_neg m2, if_neg m2]
        by_cases m3 : t (sk t n (hR t n p c v).2.1) = -1
        · rw [if_pos m3, if_pos m3]; exact ⟨hfin_cg q3, rfl, rfl, fun _ => q3⟩
        · rw [if_neg m3, if_neg m3]
          exact ih _ _ _ _ (fun k a b => by
            unfold upf; split
            · omega
            · exact hc k a b) q3
    · rw [if_neg m, if_neg m]; exact ⟨rfl, rfl, rfl, fun _ => h⟩
/-! the class's PLAYS against the reference's -/
theorem popc_sum {x : Int} (h0 : 0 ≤ x) (h1 : x < 64) : popc x = sumC (bt x) 6 := by
  have key : ∀ y : Nat, y < 64 → popc (y : Int) = sumC (bt (y : Int)) 6 := by decide +kernel
  have h := key x.toNat (by omega)
  rw [show ((x.toNat : Nat) : Int) = x by omega] at h; exact h
theorem sumC_s (f : Int → Int) (n : Nat) : sumC f (n + 1) = sumC f n + f n := rfl
theorem sumC_tail {f : Int → Int} {n : Nat} : ∀ d : Nat, (∀ i : Int, n ≤ i → i < n + d → f i = 0) → sumC f (n + d) = sumC f n := by
  intro d
  induction d with
  | zero => intro _; rfl
  | succ d ih =>
    intro h
    rw [← Nat.add_assoc, sumC_s, ih (fun i a b => h i a (by omega)), h _ (by omega) (by omega)]; omega
theorem shC_sum (s : Int → Int) (o t : Int) : ∀ n : Nat, shC s o t n = sumC (fun c => if bt o c = 0 ∧ s (4 * c + 1) = t then 1 else 0) n := by
  intro n
  induction n with
  | zero => rfl
  | succ n ih => rw [sumC_s, ← ih]; rfl
theorem pop_shC {x : Int} (h0 : 0 ≤ x) (h1 : x < 64) {s : Int → Int} {o t : Int} {n : Nat} (hn : n ≤ 6) (hb : ∀ c : Int, 0 ≤ c → c < 6 → bt x c = if c < n ∧ s (4 * c + 1) = t ∧ bt o c = 0 then 1 else 0) : popc x = shC s o t n := by
  obtain ⟨d, hd⟩ : ∃ d, n + d = 6 := ⟨6 - n, by omega⟩
  have e1 := sumC_tail (f := bt x) (n := n) d (fun i a b => by rw [hb i (by omega) (by omega), if_neg (by omega)])
  rw [hd] at e1
  rw [popc_sum h0 h1, e1, shC_sum]
  refine sumC_cong (fun i i0 i1 => ?_)
  rw [hb i i0 (by omega)]
  by_cases c : bt o i = 0 ∧ s (4 * i + 1) = t
  · rw [if_pos c, if_pos ⟨i1, c.2, c.1⟩]
  · rw [if_neg c, if_neg (fun q => c ⟨q.2.2, q.2.1⟩)]
theorem mOu_bit {m : Mem} {w p : Int} {n : Nat} (hn : m 5000 29 = n) (n6 : n ≤ 6) (k : Nat) {c : Int} (c0 : 0 ≤ c) (c1 : c < 6) : bt (mOu m w p (k + 1)) c = if c < n ∧ (bt (mOu m w p k) c = 1 ∨ m 5005 0 ≤ mMn m w p k (mOu m w p k) c) then 1 else 0 := by
  have := gb_bit (fun c => decide (bt (mOu m w p k) c = 1 ∨ m 5005 0 ≤ mMn m w p k (mOu m w p k) c)) c0 c1 (m 5000 29).toNat (by omega)
  rw [show mOu m w p (k + 1) = gb (fun c => decide (bt (mOu m w p k) c = 1 ∨ m 5005 0 ≤ mMn m w p k (mOu m w p k) c)) (m 5000 29).toNat from rfl, this]
  simp only [decide_eq_true_eq, hn, Int.toNat_natCast]
/-- a group of CHAIRS with the TICKET t, MINUTE by MINUTE -/
theorem grp {g : GM} {S : Int} {m : Mem} {w p t : Int} {n K : Nat} (hn : m 5000 29 = n) (n6 : n ≤ 6) (S0 : 0 ≤ S) (S1 : S < 64) (hS : ∀ c : Int, 0 ≤ c → c < 6 → bt S c = if c < n ∧ m w (4 * c + 1) = t then 1 else 0)
    (hg : ∀ (c N : Int) (k : Nat), 0 ≤ c → c < n → m w (4 * c + 1) = t → 1 ≤ N → N ≤ 6 → k < K → g c N k = if bt (m w 24) t = 1 then 0 else mRk m (m 5007 (4 * p + (k : Int) % 3)) (m w (4 * c)) (m 5011 t) N k (m w 26)) :
    ∀ k : Nat, k ≤ K → (∀ c : Int, 0 ≤ c → c < 6 → bt (stM g (m 5005 0) S k) c = if c < n ∧ m w (4 * c + 1) = t ∧ bt (mOu m w p k) c = 0 then 1 else 0) ∧ ∀ c : Int, 0 ≤ c → c < n → m w (4 * c + 1) = t → flM g (m 5005 0) S k c = mFl m w p k c ∧ oaM g (m 5005 0) S k c = mOa m w p k c := by
  intro k
  induction k with
  | zero =>
    intro _
    refine ⟨fun c c0 c1 => ?_, fun c c0 c1 ht => ⟨rfl, rfl⟩⟩
    show bt S c = if c < n ∧ m w (4 * c + 1) = t ∧ bt 0 c = 0 then 1 else 0
    rw [hS c c0 c1]
    by_cases q : c < n ∧ m w (4 * c + 1) = t
    · rw [if_pos q, if_pos ⟨q.1, q.2, bt_0 c⟩]
    · rw [if_neg q, if_neg (fun z => q ⟨z.1, z.2.1⟩)]
  | succ k ih =>
    intro hk
    obtain ⟨hb, hf⟩ := ih (by omega)
    have sb := stM_b g (m 5005 0) S0 S1 k
    have hp : popc (stM g (m 5005 0) S k) = shC (m w) (mOu m w p k) t n := pop_shC sb.1 sb.2 n6 hb
    have key : ∀ c : Int, 0 ≤ c → c < n → m w (4 * c + 1) = t → bt (mOu m w p k) c = 0 → g c (popc (stM g (m 5005 0) S k)) k = mMn m w p k (mOu m w p k) c := by
      intro c c0 c1 ht hz
      have hc1 : bt (stM g (m 5005 0) S k) c = 1 := by rw [hb c c0 (by omega), if_pos ⟨c1, ht, hz⟩]
      have p1 := popc_bit sb.1 sb.2 c0 (by omega) hc1
      have p6 := (popc_b (stM g (m 5005 0) S k)).2
      rw [hg c _ k c0 c1 ht p1 p6 (by omega), hp]
      unfold mMn
      rw [ht, hn, Int.toNat_natCast]
      by_cases q : bt (m w 24) t = 1
      · rw [if_pos q, if_pos (Or.inr q)]
      · rw [if_neg q, if_neg (fun z => z.elim (fun z => by omega) q)]
    refine ⟨fun c c0 c1 => ?_, fun c c0 c1 ht => ?_⟩
    · have em := mOu_bit (w := w) (p := p) hn n6 k c0 c1
      have hbc := hb c c0 c1
      have b01 := bt_b (mOu m w p k) c
      rw [stM_bit g (m 5005 0) S0 S1 k c0 c1]
      by_cases q1 : c < n ∧ m w (4 * c + 1) = t
      · by_cases q2 : bt (mOu m w p k) c = 0
        · rw [if_pos ⟨q1.1, q1.2, q2⟩] at hbc
          rw [hbc, key c c0 q1.1 q1.2 q2]
          by_cases q3 : m 5005 0 ≤ mMn m w p k (mOu m w p k) c
          · rw [if_pos ⟨q1.1, Or.inr q3⟩] at em
            rw [if_pos ⟨rfl, q3⟩, em, if_neg (fun z => absurd z.2.2 (by decide))]
          · rw [if_neg (fun z => z.2.elim (fun z => by omega) q3)] at em
            rw [if_neg (fun z => q3 z.2), em, if_pos ⟨q1.1, q1.2, rfl⟩]
        · rw [if_neg (fun z => q2 z.2.2)] at hbc
          rw [if_pos ⟨q1.1, Or.inl (by omega)⟩] at em
          rw [hbc, em, if_neg (fun z => absurd z.1 (by decide)), if_neg (fun z => absurd z.2.2 (by decide))]
      · rw [if_neg (fun z => q1 ⟨z.1, z.2.1⟩)] at hbc
        rw [hbc, if_neg (fun z => absurd z.1 (by decide)), if_neg (fun z => q1 ⟨z.1, z.2.1⟩)]
    · obtain ⟨f1, f2⟩ := hf c c0 c1 ht
      have hbc := hb c c0 (by omega)
      have b01 := bt_b (mOu m w p k) c
      show flM g (m 5005 0) S k c + (if bt (stM g (m 5005 0) S k) c = 1 then g c (popc (stM g (m 5005 0) S k)) k else 0) = mFl m w p k c + mMn m w p k (mOu m w p k) c ∧ (if bt (stM g (m 5005 0) S k) c = 1 ∧ m 5005 0 ≤ g c (popc (stM g (m 5005 0) S k)) k then (k : Int) else oaM g (m 5005 0) S k c) = (if bt (mOu m w p k) c = 0 ∧ m 5005 0 ≤ mMn m w p k (mOu m w p k) c then (k : Int) else mOa m w p k c)
      rw [f1, f2]
      by_cases q2 : bt (mOu m w p k) c = 0
      · have e1 : bt (stM g (m 5005 0) S k) c = 1 := by rw [hbc, if_pos ⟨c1, ht, q2⟩]
        rw [e1, q2, key c c0 c1 ht q2, if_pos rfl]
        refine ⟨rfl, ?_⟩
        by_cases q3 : m 5005 0 ≤ mMn m w p k (mOu m w p k) c
        · rw [if_pos ⟨rfl, q3⟩, if_pos ⟨rfl, q3⟩]
        · rw [if_neg (fun z => q3 z.2), if_neg (fun z => q3 z.2)]
      · have e1 : bt (stM g (m 5005 0) S k) c = 0 := by rw [hbc, if_neg (fun z => q2 z.2.2)]
        rw [e1, mMn_out (show bt (mOu m w p k) c = 1 by omega), if_neg (by decide), if_neg (fun z => absurd z.1 (by decide)), if_neg (fun z => q2 z.1)]
        exact ⟨rfl, rfl⟩
/-- the same HOUSE and the same LAW -/
def eqH (σ m : Mem) : Prop := pcnt σ 6 2 = m 5000 29 ∧ pcnt σ 6 1 = m 5000 28 ∧ pcnt σ 6 3 = m 5000 30 ∧ pval σ 6 0 0 0 = m 5005 0 ∧ (∀ p k, 0 ≤ p → p < m 5000 28 → 0 ≤ k → k < 4 → pval σ 6 1 p k = m 5007 (4 * p + k)) ∧ (∀ t, 0 ≤ t → t < m 5000 30 → pval σ 6 3 t 0 = m 5011 t) ∧ ∀ f h d n k e, mdg f h d n k e → 1 ≤ n → rkV σ f h d n k e = mRk m f h d n k e
/-- the same audience, as far as PLAYS ask -/
def eqA (σ m : Mem) (a w : Int) : Prop := (∀ c, 0 ≤ c → c < m 5000 29 → σ (a + 1) c = m w (4 * c) ∧ σ (a + 2) c = m w (4 * c + 1)) ∧ σ a 4 = m w 24 ∧ σ a 6 = m w 26
theorem gmv_mR {σ m : Mem} {a w p : Int} (hH : eqH σ m) (hI : σ a 4 = m w 24) (hE : σ a 6 = m w 26) (hx : mX m w) (p0 : 0 ≤ p) (p1 : p < m 5000 28) {t : Int} (t0 : 0 ≤ t) (t1 : t < m 5000 30) {c N : Int} {k : Nat} (c0 : 0 ≤ c) (c1 : c < m 5000 29) (hc : σ (a + 1) c = m w (4 * c)) (N1 : 1 ≤ N) (N6 : N ≤ 6) (hk : (k : Int) ≤ 9) : gmv σ a t p c N k = if bt (m w 24) t = 1 then 0 else mRk m (m 5007 (4 * p + (k : Int) % 3)) (m w (4 * c)) (m 5011 t) N k (m w 26) := by
  obtain ⟨e2, e1, e3, eL, eP, eD, eR⟩ := hH
  obtain ⟨hw, ⟨hmo, hlw, n29, n30, n28, b7, b11, b5, -⟩, r1, r24, r25, r26, r27⟩ := hx
  have rd := r1 c c0 c1
  have k3 : 0 ≤ (k : Int) % 3 ∧ (k : Int) % 3 < 3 := by omega
  have f9 := b7 (4 * p + (k : Int) % 3) (by omega) (by omega)
  have d9 := b11 t t0 (by omega)
  unfold gmv
  rw [hI, hE, hc]
  by_cases q : bt (m w 24) t = 1
  · rw [if_pos ⟨t0, by omega, q⟩, if_pos q]
  · rw [if_neg (fun z => q z.2.2), if_neg q, eP p _ p0 p1 k3.1 (by omega), eD _ t0 t1]
    exact eR _ _ _ _ _ _ ⟨f9.1, f9.2, rd.1.1, rd.1.2, d9.1, d9.2, by omega, by omega, by omega, by omega, by omega, by omega⟩ N1
theorem mMi_9 {m : Mem} {w p : Int} (hx : mX m w) (p0 : 0 ≤ p) (p1 : p < m 5000 28) : 0 ≤ m 5007 (4 * p + 3) ∧ m 5007 (4 * p + 3) ≤ 9 := by
  obtain ⟨hw, ⟨hmo, hlw, n29, n30, n28, b7, b11, b5, -⟩, -⟩ := hx
  exact b7 (4 * p + 3) (by omega) (by omega)
theorem play_eq {σ m : Mem} {a w p : Int} (hH : eqH σ m) (hA : eqA σ m a w) (hx : mX m w) (p0 : 0 ≤ p) (p1 : p < m 5000 28) {c : Int} (c0 : 0 ≤ c) (c1 : c < m 5000 29) : pFl σ a p c = mFl m w p (mMi m p) c ∧ pOa σ a p c = mOa m w p (mMi m p) c := by
  obtain ⟨e2, e1, e3, eL, eP, eD, eR⟩ := id hH
  obtain ⟨aC, aI, aE⟩ := hA
  have m9 := mMi_9 hx p0 p1
  obtain ⟨hw, ⟨hmo, hlw, n29, n30, n28, b7, b11, b5, -⟩, r1, r24, r25, r26, r27⟩ := id hx
  have hs : σ (a + 2) c = m w (4 * c + 1) := (aC c c0 c1).2
  have rc := r1 c c0 c1
  obtain ⟨n, hn⟩ : ∃ n : Nat, m 5000 29 = n := ⟨(m 5000 29).toNat, by omega⟩
  have eMi : pval σ 6 1 p 3 = m 5007 (4 * p + 3) := eP p 3 p0 p1 (by decide) (by decide)
  have hb := hbits_64 (σ (a + 2)) (σ (a + 2) c) (n := n) (by omega)
  have hS : ∀ d : Int, 0 ≤ d → d < 6 → bt (hbits (σ (a + 2)) (σ (a + 2) c) n) d = if d < n ∧ m w (4 * d + 1) = m w (4 * c + 1) then 1 else 0 := by
    intro d d0 d1
    rw [hbits_bit _ _ d0 d1 (by omega)]
    by_cases q : d < n
    · rw [(aC d d0 (by omega)).2, hs]
    · rw [if_neg (fun z => q z.1), if_neg (fun z => q z.1)]
  have hg : ∀ (d N : Int) (k : Nat), 0 ≤ d → d < n → m w (4 * d + 1) = m w (4 * c + 1) → 1 ≤ N → N ≤ 6 → k < mMi m p → gmv σ a (σ (a + 2) c) p d N k = if bt (m w 24) (m w (4 * c + 1)) = 1 then 0 else mRk m (m 5007 (4 * p + (k : Int) % 3)) (m w (4 * d)) (m 5011 (m w (4 * c + 1))) N k (m w 26) := by
    intro d N k d0 d1 dt N1 N6 hk
    have hk' : (k : Int) < m 5007 (4 * p + 3) := by unfold mMi at hk; omega
    rw [hs]
    exact gmv_mR hH aI aE hx p0 p1 (by omega) (by omega) d0 (by omega) (aC d d0 (by omega)).1 N1 N6 (by omega)
  have G := grp (g := gmv σ a (σ (a + 2) c) p) (S := hbits (σ (a + 2)) (σ (a + 2) c) n) (p := p) (K := mMi m p) hn (by omega) hb.1 hb.2 hS hg (mMi m p) (Nat.le_refl _)
  unfold pFl pOa
  rw [e2, hn, eMi, eL, Int.toNat_natCast]
  exact G.2 c c0 (by omega) rfl
theorem play_sum {σ m : Mem} {a w p : Int} (hH : eqH σ m) (hA : eqA σ m a w) (hx : mX m w) (p0 : 0 ≤ p) (p1 : p < m 5000 28) : sumC (pFl σ a p) (pcnt σ 6 2).toNat = sumC (mFl m w p (mMi m p)) (m 5000 29).toNat := by
  rw [hH.1]
  refine sumC_cong (fun i i0 i1 => (play_eq hH hA hx p0 p1 i0 (by omega)).1)
theorem mOu_gb {m : Mem} {w p : Int} (h0 : 0 ≤ m 5000 29) (h6 : m 5000 29 ≤ 6) (k : Nat) : outB (mOa m w p k) (m 5000 29).toNat = mOu m w p k := by
  obtain ⟨n, hn⟩ : ∃ n : Nat, m 5000 29 = n := ⟨(m 5000 29).toNat, by omega⟩
  have ob := mOu_b m w p h6 k
  have e1 := gb_all0 (mOu m w p k).toNat (by omega)
  rw [show (((mOu m w p k).toNat : Nat) : Int) = mOu m w p k by omega] at e1
  have z : ∀ i : Int, n ≤ i → i < 6 → bt (mOu m w p k) i = 0 := by
    intro i i0 i1
    cases k with
    | zero => exact bt_0 i
    | succ k => rw [mOu_bit hn (by omega) k (by omega) i1, if_neg (by omega)]
  have e2 : ∀ d : Nat, n + d ≤ 6 → gb (fun c => decide (bt (mOu m w p k) c = 1)) (n + d) = gb (fun c => decide (bt (mOu m w p k) c = 1)) n := by
    intro d
    induction d with
    | zero => intro _; rfl
    | succ d ih =>
      intro hd
      show gb (fun c => decide (bt (mOu m w p k) c = 1)) (n + d) + (if decide (bt (mOu m w p k) ((n + d : Nat) : Int) = 1) = true then 2 ^ (n + d) else 0) = _
      rw [ih (by omega), z _ (by omega) (by omega), if_neg (by decide), Int.add_zero]
  obtain ⟨d, hd⟩ : ∃ d, n + d = 6 := ⟨6 - n, by omega⟩
  have e3 := e2 d (by omega)
  rw [hd, e1] at e3
  unfold outB
  rw [hn, Int.toNat_natCast, e3]
  refine gb_cong (fun i i0 i1 => ?_)
  have := mOu_oa (w := w) (p := p) h6 i0 (by omega) k
  exact decide_eq_decide.mpr this.symm
theorem play_out {σ m : Mem} {a w p : Int} (hH : eqH σ m) (hA : eqA σ m a w) (hx : mX m w) (p0 : 0 ≤ p) (p1 : p < m 5000 28) : outB (pOa σ a p) (pcnt σ 6 2).toNat = mOu m w p (mMi m p) := by
  have n29 := hx.2.1.2.2.1
  rw [hH.1, ← mOu_gb n29.1 n29.2]
  unfold outB
  refine gb_cong (fun i i0 i1 => ?_)
  rw [(play_eq hH hA hx p0 p1 i0 (by omega)).2]
/-! TICKETS and MOST: rows tried one by one against sets of CHAIRS, SITTER by SITTER -/
theorem bt_and0 : ∀ x : Nat, x < 64 → ∀ y : Nat, y < 64 → ∀ i : Nat, i < 6 → bt ((x &&& y : Nat) : Int) (i : Int) = bt (x : Int) (i : Int) * bt (y : Int) (i : Int) := by decide +kernel
theorem bt_xor0 : ∀ x : Nat, x < 64 → ∀ y : Nat, y < 64 → ∀ i : Nat, i < 6 → bt ((x ^^^ y : Nat) : Int) (i : Int) = (bt (x : Int) (i : Int) + bt (y : Int) (i : Int)) % 2 := by decide +kernel
theorem bt_ext0 : ∀ x : Nat, x < 64 → ∀ y : Nat, y < 64 → (∀ i : Nat, i < 6 → bt (x : Int) (i : Int) = bt (y : Int) (i : Int)) → x = y := by decide +kernel
theorem bt_ext {x y : Int} (x0 : 0 ≤ x) (x1 : x < 64) (y0 : 0 ≤ y) (y1 : y < 64) (h : ∀ i : Int, 0 ≤ i → i < 6 → bt x i = bt y i) : x = y := by
  have := bt_ext0 x.toNat (by omega) y.toNat (by omega) (fun i hi => by
    rw [show ((x.toNat : Nat) : Int) = x by omega, show ((y.toNat : Nat) : Int) = y by omega]
    exact h i (by omega) (by omega))
  omega
theorem xor_64 {x y : Nat} (hx : x < 64) (hy : y < 64) : x ^^^ y < 64 := Nat.xor_lt_two_pow (n := 6) hx hy
theorem gb_n1 (P : Int → Bool) (n : Nat) : gb P n ≤ 2 ^ n - 1 := by
  have := gb_b P n
  omega
theorem p2_64 {n : Nat} (h : n ≤ 6) : (2 : Int) ^ n - 1 < 64 := (full_64 h).2
/-- a search: what comes out is what was there or one that is found, and none that can be found is better -/
def srch (cd : Int × Int → Int) (ok : (Int → Int) → Prop) (vl : (Int → Int) → Int × Int) (X : (Int → Int) → Prop) (s s' : Int × Int) : Prop := (s' = s ∨ ∃ r, X r ∧ ok r ∧ s' = vl r) ∧ (∀ r, X r → ok r → cd s' ≤ cd (vl r)) ∧ cd s' ≤ cd s
theorem mstI_s (g : Int → Int × Int → Int × Int) (t : Nat) (s : Int × Int) : mstI g (t + 1) s = g t (mstI g t s) := rfl
theorem srch_I {cd : Int × Int → Int} {ok : (Int → Int) → Prop} {vl : (Int → Int) → Int × Int} {X : Nat → (Int → Int) → Prop} {g : Int → Int × Int → Int × Int} {s : Int × Int} : ∀ S : Nat, (∀ t : Nat, t < S → ∀ s0, (s0 = s ∨ ∃ t' : Nat, t' < t ∧ ∃ r, X t' r ∧ ok r ∧ s0 = vl r) → srch cd ok vl (X t) s0 (g t s0)) → srch cd ok vl (fun r => ∃ t : Nat, t < S ∧ X t r) s (mstI g S s) := by
  intro S
  induction S with
  | zero =>
    intro _
    exact ⟨Or.inl rfl, fun r h => by obtain ⟨t, ht, _⟩ := h; omega, Int.le_refl _⟩
  | succ S ih =>
    intro h
    obtain ⟨a1, a2, a3⟩ := ih (fun t ht => h t (by omega))
    have hs : mstI g S s = s ∨ ∃ t' : Nat, t' < S ∧ ∃ r, X t' r ∧ ok r ∧ mstI g S s = vl r := by
      rcases a1 with e | ⟨r, ⟨t', ht', hX⟩, hk, e⟩
      · exact Or.inl e
      · exact Or.inr ⟨t', ht', r, hX, hk, e⟩
    obtain ⟨b1, b2, b3⟩ := h S (by omega) _ hs
    rw [mstI_s]
    refine ⟨?_, ?_, by omega⟩
    · rcases b1 with e | ⟨r, hX, hk, e⟩
      · rw [e]
        rcases hs with e' | ⟨t', ht', r, hX, hk, e'⟩
        · exact Or.inl e'
        · exact Or.inr ⟨r, ⟨t', by omega, hX⟩, hk, e'⟩
      · exact Or.inr ⟨r, ⟨S, by omega, hX⟩, hk, e⟩
    · rintro r ⟨t, ht, hX⟩ hk
      by_cases e : t = S
      · rw [e] at hX; exact b2 r hX hk
      · have := a2 r ⟨t, by omega, hX⟩ hk
        omega
/-- the rows with d TICKETS from CHAIR c on as one likes -/
def xt (S : Nat) : Nat → Int → (Int → Int) → (Int → Int) → Prop
  | 0, _, r, r' => r' = r
  | d + 1, c, r, r' => ∃ t : Nat, t < S ∧ xt S d (c + 1) (upf r (4 * c + 1) t) r'
theorem xt_s (S d : Nat) (c : Int) (r : Int → Int) : xt S (d + 1) c r = fun r' => ∃ t : Nat, t < S ∧ xt S d (c + 1) (upf r (4 * c + 1) t) r' := rfl
theorem xt_pre {S : Nat} : ∀ {d : Nat} {c : Int} {r r' : Int → Int}, xt S d c r r' → ∀ j, (∀ e, c ≤ e → e < c + d → j ≠ 4 * e + 1) → r' j = r j := by
  intro d
  induction d with
  | zero => intro c r r' h j _; rw [show r' = r from h]
  | succ d ih =>
    intro c r r' h j hj
    obtain ⟨t, ht, h⟩ := h
    rw [ih h j (fun e e0 e1 => hj e (by omega) (by omega)), upf_n2 _ (hj c (by omega) (by omega))]
theorem xt_in {S : Nat} : ∀ {d : Nat} {c : Int} {r r' : Int → Int}, xt S d c r r' → ∀ e, c ≤ e → e < c + d → 0 ≤ r' (4 * e + 1) ∧ r' (4 * e + 1) < S := by
  intro d
  induction d with
  | zero => intro c r r' _ e e0 e1; omega
  | succ d ih =>
    intro c r r' h e e0 e1
    obtain ⟨t, ht, h⟩ := h
    by_cases q : e = c
    · rw [xt_pre h (4 * e + 1) (fun e' a b => by omega), q, upf_s2]; omega
    · exact ih h e (by omega) (by omega)
theorem xt_mk {S : Nat} (f : Int → Int) : ∀ (d : Nat) (c : Int) (r : Int → Int), (∀ e, c ≤ e → e < c + d → 0 ≤ f e ∧ f e < S) → ∃ r', xt S d c r r' ∧ ∀ e, c ≤ e → e < c + d → r' (4 * e + 1) = f e := by
  intro d
  induction d with
  | zero => intro c r _; exact ⟨r, rfl, fun e a b => by omega⟩
  | succ d ih =>
    intro c r h
    have hc := h c (by omega) (by omega)
    obtain ⟨r', h1, h2⟩ := ih (c + 1) (upf r (4 * c + 1) (f c)) (fun e a b => h e (by omega) (by omega))
    refine ⟨r', ⟨(f c).toNat, by omega, ?_⟩, fun e a b => ?_⟩
    · rw [show (((f c).toNat : Nat) : Int) = f c by omega]; exact h1
    · by_cases q : e = c
      · rw [xt_pre h1 (4 * e + 1) (fun e' a b => by omega), q, upf_s2]
      · exact h2 e (by omega) (by omega)
theorem rwF_s (r : Int → Int) (c : Nat) : rwF r (c + 1) = 10 * rwF r c + r (4 * c + 1) := rfl
theorem rwF_u (r : Int → Int) (c : Nat) (t : Int) : rwF (upf r (4 * c + 1) t) (c + 1) = 10 * rwF r c + t := by
  rw [rwF_s, upf_s2, rwF_c (r := r) (r' := upf r (4 * c + 1) t) (fun e e0 e1 => upf_n2 _ (by omega))]
theorem xt_row {S : Nat} (hS : S ≤ 10) : ∀ (d c : Nat) (r r' : Int → Int), xt S d c r r' → rwF r c * 10 ^ d ≤ rwF r' (c + d) ∧ rwF r' (c + d) ≤ rwF r c * 10 ^ d + (10 ^ d - 1) := by
  intro d
  induction d with
  | zero => intro c r r' h; rw [show r' = r from h]; simp
  | succ d ih =>
    intro c r r' h
    obtain ⟨t, ht, h⟩ := h
    have := ih (c + 1) (upf r (4 * c + 1) t) r' (by
      rw [show ((c + 1 : Nat) : Int) = (c : Int) + 1 by omega]; exact h)
    rw [rwF_u, show c + 1 + d = c + (d + 1) by omega] at this
    have p0 : (0 : Int) < 10 ^ d := Int.pow_pos (by decide)
    rw [Int.pow_succ]
    generalize (10 : Int) ^ d = P at *
    generalize rwF r c = a at *
    have e1 : (10 * a + (t : Int)) * P = 10 * (a * P) + t * P := by rw [Int.add_mul, Int.mul_assoc]
    have e2 : a * (P * 10) = 10 * (a * P) := by rw [← Int.mul_assoc, Int.mul_comm]
    have e3 : 0 ≤ (t : Int) * P := Int.mul_nonneg (by omega) (by omega)
    have e4 : (t : Int) * P ≤ 9 * P := Int.mul_le_mul_of_nonneg_right (by omega) (by omega)
    rw [e1] at this
    rw [e2]
    omega
theorem xt_lt {S : Nat} (hS : S ≤ 10) {d c t1 t2 : Nat} {r r1 r2 : Int → Int} (h : t1 < t2) (h1 : xt S d ((c : Int) + 1) (upf r (4 * c + 1) t1) r1) (h2 : xt S d ((c : Int) + 1) (upf r (4 * c + 1) t2) r2) : rwF r1 (c + 1 + d) < rwF r2 (c + 1 + d) := by
  have a1 := xt_row hS d (c + 1) _ r1 (by rw [show ((c + 1 : Nat) : Int) = (c : Int) + 1 by omega]; exact h1)
  have a2 := xt_row hS d (c + 1) _ r2 (by rw [show ((c + 1 : Nat) : Int) = (c : Int) + 1 by omega]; exact h2)
  rw [rwF_u] at a1 a2
  have p0 : (0 : Int) < 10 ^ d := Int.pow_pos (by decide)
  generalize (10 : Int) ^ d = P at *
  generalize rwF r c = a at *
  have e1 : (10 * a + (t1 : Int)) * P = 10 * (a * P) + t1 * P := by rw [Int.add_mul, Int.mul_assoc]
  have e2 : (10 * a + (t2 : Int)) * P = 10 * (a * P) + t2 * P := by rw [Int.add_mul, Int.mul_assoc]
  have e4 : ((t1 : Int) + 1) * P ≤ t2 * P := Int.mul_le_mul_of_nonneg_right (by omega) (by omega)
  rw [Int.add_mul] at e4
  omega
theorem xt_6 {S : Nat} (hS : S ≤ 10) {N : Nat} (hN : N ≤ 6) {r r' : Int → Int} (h : xt S N 0 r r') : 0 ≤ rwF r' N ∧ rwF r' N < 1000000 := by
  have := xt_row hS N 0 r r' h
  have p := p10_6 hN
  rw [show rwF r 0 = 0 from rfl, Int.zero_mul, Nat.zero_add] at this
  omega
/-- how many of the first CHAIRS have another TICKET -/
def oc (q r : Int → Int) : Nat → Int
  | 0 => 0
  | k + 1 => oc q r k + if r (4 * k + 1) = q (4 * k + 1) then 0 else 1
theorem oc_b (q r : Int → Int) : ∀ k : Nat, 0 ≤ oc q r k ∧ oc q r k ≤ k := by
  intro k
  induction k with
  | zero => unfold oc; omega
  | succ k ih => unfold oc; split <;> omega
theorem oc_c (q : Int → Int) {r r' : Int → Int} : ∀ {k : Nat}, (∀ e : Int, 0 ≤ e → e < k → r' (4 * e + 1) = r (4 * e + 1)) → oc q r' k = oc q r k := by
  intro k
  induction k with
  | zero => intro _; rfl
  | succ k ih =>
    intro h
    unfold oc
    rw [ih (fun e a b => h e a (by omega)), h k (by omega) (by omega)]
theorem oc_m (q r : Int → Int) {c : Nat} : ∀ d : Nat, oc q r c ≤ oc q r (c + d) := by
  intro d
  induction d with
  | zero => exact Int.le_refl _
  | succ d ih =>
    rw [← Nat.add_assoc]
    show _ ≤ oc q r (c + d) + _
    split <;> omega
def tcd (s : Int × Int) : Int := if s.2 = -1 then 1000000000000000 else 1000000 * s.2 + s.1
theorem tcd_n {s : Int × Int} (h : s.2 ≠ -1) : tcd s = 1000000 * s.2 + s.1 := if_neg h
theorem tkG_ok {m : Mem} {p w : Int} {N S : Nat} (hN : m 5000 29 = N) (N6 : N ≤ 6) (hS : m 5000 30 = S) (S9 : S ≤ 10) : ∀ (d c : Nat) (r : Int → Int) (o : Int) (s : Int × Int), c + d = N → o = oc (m 5015) r c → (∀ r', xt S d c r r' → 0 ≤ rwF r' N ∧ rwF r' N < 1000000) → (s.2 = -1 ∨ (0 ≤ s.2 ∧ 0 ≤ s.1 ∧ ∀ r', xt S d c r r' → s.1 < rwF r' N)) → srch tcd (tkO m p w) (fun r' => (rwF r' N, oc (m 5015) r' N)) (xt S d c r) s (tkG m p w d r c o s) := by
  intro d
  induction d with
  | zero =>
    intro c r o s hc ho hb hs
    have cN : c = N := by omega
    subst cN
    have ob := oc_b (m 5015) r c
    have rb := hb r rfl
    have e2 : tcd (rwF r c, oc (m 5015) r c) = 1000000 * oc (m 5015) r c + rwF r c := tcd_n (show oc (m 5015) r c ≠ -1 by omega)
    rw [tkG_0]
    by_cases z : s.2 ≠ -1 ∧ s.2 ≤ o
    · rw [if_pos z]
      refine ⟨Or.inl rfl, fun r' h _ => ?_, Int.le_refl _⟩
      rw [show r' = r from h, tcd_n z.1, e2]
      rcases hs with h | ⟨h1, h2, h3⟩
      · exact absurd h z.1
      · have := h3 r rfl
        omega
    · rw [if_neg z]
      by_cases k : tkO m p w r
      · rw [tkL_t k, hN, Int.toNat_natCast, ho]
        refine ⟨Or.inr ⟨r, rfl, k, rfl⟩, fun r' h _ => by rw [show r' = r from h]; exact Int.le_refl _, ?_⟩
        rw [e2]
        rcases hs with h | ⟨h1, h2, h3⟩
        · unfold tcd; rw [if_pos h]; omega
        · have : s.2 ≠ -1 := by omega
          rw [tcd_n this]
          have : ¬ s.2 ≤ o := fun q => z ⟨this, q⟩
          omega
      · rw [tkL_f k]
        exact ⟨Or.inl rfl, fun r' h h' => absurd (show tkO m p w r from (show r' = r from h) ▸ h') k, Int.le_refl _⟩
  | succ d ih =>
    intro c r o s hc ho hb hs
    rw [tkG_s]
    by_cases z : s.2 ≠ -1 ∧ s.2 ≤ o
    · rw [if_pos z]
      refine ⟨Or.inl rfl, fun r' h _ => ?_, Int.le_refl _⟩
      have o1 : oc (m 5015) r' c = oc (m 5015) r c := oc_c _ (fun e e0 e1 => xt_pre h _ (fun e' a b => by omega))
      have o2 := oc_m (m 5015) r' (c := c) (d + 1)
      rw [hc] at o2
      have ob := oc_b (m 5015) r' N
      rw [tcd_n z.1, tcd_n (show ((rwF r' N, oc (m 5015) r' N) : Int × Int).2 ≠ -1 by show oc (m 5015) r' N ≠ -1; omega)]
      show 1000000 * s.2 + s.1 ≤ 1000000 * oc (m 5015) r' N + rwF r' N
      rcases hs with h0 | ⟨h1, h2, h3⟩
      · exact absurd h0 z.1
      · have := h3 r' h
        omega
    · rw [if_neg z, hS, Int.toNat_natCast, xt_s]
      refine srch_I (X := fun t => xt S d ((c : Int) + 1) (upf r (4 * c + 1) t)) S (fun t ht s0 h0 => ?_)
      have := ih (c + 1) (upf r (4 * c + 1) t) (tkN1 m c t o) s0 (by omega) ?_ ?_ ?_
      · rw [show ((c + 1 : Nat) : Int) = (c : Int) + 1 by omega] at this; exact this
      · unfold tkN1
        have e : oc (m 5015) (upf r (4 * c + 1) t) (c + 1) = oc (m 5015) (upf r (4 * c + 1) t) c + if upf r (4 * c + 1) t (4 * c + 1) = m 5015 (4 * c + 1) then 0 else 1 := rfl
        rw [e, upf_s2, oc_c (m 5015) (r := r) (fun e e0 e1 => upf_n2 _ (by omega)), ← ho]
        split <;> omega
      · intro r' h'
        exact hb r' ⟨t, ht, by rw [show ((c + 1 : Nat) : Int) = (c : Int) + 1 by omega] at h'; exact h'⟩
      · rw [show ((c + 1 : Nat) : Int) = (c : Int) + 1 by omega]
        rcases h0 with e | ⟨t', ht', r1, hX, hk, e⟩
        · rw [e]
          rcases hs with h | ⟨h1, h2, h3⟩
          · exact Or.inl h
          · exact Or.inr ⟨h1, h2, fun r' h' => h3 r' ⟨t, ht, h'⟩⟩
        · rw [e]
          have ob := oc_b (m 5015) r1 N
          have rb := hb r1 ⟨t', by omega, hX⟩
          refine Or.inr ⟨ob.1, rb.1, fun r' h' => ?_⟩
          have := xt_lt S9 ht' hX h'
          rw [show c + 1 + d = N by omega] at this
          exact this
/-- MOST: the greater is better, then the first -/
def ycd (s : Int × Int) : Int := -1000000 * s.2 + s.1
theorem mstF_s (m : Mem) (p : Int) (d : Nat) (r : Int → Int) (c : Int) (s : Int × Int) : mstF m p (d + 1) r c s = mstI (fun t s => mstF m p d (upf r (4 * c + 1) t) (c + 1) s) (m 5000 30).toNat s := rfl
theorem mstF_ok {m : Mem} {p : Int} {N S : Nat} (hN : m 5000 29 = N) (hS : m 5000 30 = S) (S9 : S ≤ 10) : ∀ (d c : Nat) (r : Int → Int) (s : Int × Int), c + d = N → (∀ r', xt S d c r r' → 0 ≤ rwF r' N ∧ rwF r' N < 1000000) → -1 ≤ s.1 → (∀ r', xt S d c r r' → s.1 < rwF r' N) → srch ycd (fun _ => True) (fun r' => (rwF r' N, rMv m p r')) (xt S d c r) s (mstF m p d r c s) := by
  intro d
  induction d with
  | zero =>
    intro c r s hc hb h1 hs
    have rb := hb r rfl
    have h3 := hs r rfl
    show srch _ _ _ _ s (mstL m p r s)
    unfold mstL
    by_cases z : rMv m p r ≤ s.2
    · rw [if_pos z]
      refine ⟨Or.inl rfl, fun r' h _ => ?_, Int.le_refl _⟩
      rw [show r' = r from h]
      unfold ycd
      show -1000000 * s.2 + s.1 ≤ -1000000 * rMv m p r + rwF r N
      omega
    · rw [if_neg z, hN, Int.toNat_natCast]
      refine ⟨Or.inr ⟨r, rfl, trivial, rfl⟩, fun r' h _ => by rw [show r' = r from h]; exact Int.le_refl _, ?_⟩
      unfold ycd
      show -1000000 * rMv m p r + rwF r N ≤ -1000000 * s.2 + s.1
      omega
  | succ d ih =>
    intro c r s hc hb h1 hs
    rw [mstF_s, hS, Int.toNat_natCast, xt_s]
    refine srch_I (X := fun t => xt S d ((c : Int) + 1) (upf r (4 * c + 1) t)) S (fun t ht s0 h0 => ?_)
    have := ih (c + 1) (upf r (4 * c + 1) t) s0 (by omega) ?_ ?_ ?_
    · rw [show ((c + 1 : Nat) : Int) = (c : Int) + 1 by omega] at this; exact this
    · intro r' h'
      exact hb r' ⟨t, ht, by rw [show ((c + 1 : Nat) : Int) = (c : Int) + 1 by omega] at h'; exact h'⟩
    · rcases h0 with e | ⟨t', ht', r1, hX, hk, e⟩
      · rw [e]; exact h1
      · rw [e]
        have rb := hb r1 ⟨t', by omega, hX⟩
        show -1 ≤ rwF r1 N
        omega
    · rw [show ((c + 1 : Nat) : Int) = (c : Int) + 1 by omega]
      rcases h0 with e | ⟨t', ht', r1, hX, hk, e⟩
      · rw [e]; exact fun r' h' => hs r' ⟨t, ht, h'⟩
      · rw [e]
        intro r' h'
        have := xt_lt S9 ht' hX h'
        rw [show c + 1 + d = N by omega] at this
        exact this
/-! sets of CHAIRS, SITTER by SITTER: no row is cheaper than the best, and the best is some row's -/
theorem sumC_add (f g : Int → Int) : ∀ n : Nat, sumC (fun i => f i + g i) n = sumC f n + sumC g n := by
  intro n
  induction n with
  | zero => rfl
  | succ n ih => rw [sumC_s, sumC_s, sumC_s, ih]; omega
theorem sumC_mul (a : Int) (f : Int → Int) : ∀ n : Nat, sumC (fun i => a * f i) n = a * sumC f n := by
  intro n
  induction n with
  | zero => show (0 : Int) = a * 0; rw [Int.mul_zero]
  | succ n ih => rw [sumC_s, sumC_s, ih, Int.mul_add]
theorem sumC_0 {f : Int → Int} : ∀ n : Nat, (∀ i : Int, 0 ≤ i → i < n → f i = 0) → sumC f n = 0 := by
  intro n
  induction n with
  | zero => intro _; rfl
  | succ n ih => intro h; rw [sumC_s, ih (fun i a b => h i a (by omega)), h n (by omega) (by omega)]; rfl
theorem sumC_swap (X : Int → Int → Int) (K : Nat) : ∀ n : Nat, sumC (fun t => sumC (fun c => X t c) n) K = sumC (fun c => sumC (fun t => X t c) K) n := by
  intro n
  induction n with
  | zero => exact sumC_0 K (fun _ _ _ => rfl)
  | succ n ih =>
    rw [sumC_s, ← ih, ← sumC_add]
    exact sumC_cong (fun i _ _ => rfl)
theorem sumC_pick (h : Int → Int) {a : Int} (a0 : 0 ≤ a) : ∀ K : Nat, sumC (fun t => if a = t then h t else 0) K = if a < K then h a else 0 := by
  intro K
  induction K with
  | zero => rw [if_neg (by omega)]; rfl
  | succ K ih =>
    rw [sumC_s, ih]
    by_cases e : a = K
    · rw [if_neg (by omega), if_pos e, if_pos (by omega), e]; omega
    · by_cases l : a < K
      · rw [if_pos l, if_neg e, if_pos (by omega)]; omega
      · rw [if_neg l, if_neg e, if_neg (by omega)]; rfl
theorem sumC_ge {f : Int → Int} {M : Int} {a : Int} (M0 : 0 ≤ M) (a0 : 0 ≤ a) (ha : M ≤ f a) : ∀ K : Nat, (∀ i : Int, 0 ≤ i → i < K → 0 ≤ f i) → 0 ≤ sumC f K ∧ (a < K → M ≤ sumC f K) := by
  intro K
  induction K with
  | zero => intro _; exact ⟨Int.le_refl _, fun h => by omega⟩
  | succ K ih =>
    intro h
    obtain ⟨h1, h2⟩ := ih (fun i x y => h i x (by omega))
    have h3 := h K (by omega) (by omega)
    rw [sumC_s]
    refine ⟨by omega, fun hl => ?_⟩
    by_cases e : a = K
    · rw [e] at ha; omega
    · have := h2 (by omega); omega
theorem hbits_c {f g : Int → Int} {t : Int} {n : Nat} (h : ∀ c : Int, 0 ≤ c → c < n → (f c = t ↔ g c = t)) : hbits f t n = hbits g t n := by
  rw [hbits_gb, hbits_gb]
  exact gb_cong (fun i a b => decide_eq_decide.mpr (h i a b))
theorem dp_lb {σ : Mem} {p w : Int} {n : Nat} (n6 : n ≤ 6) {f : Int → Int} : ∀ (k : Nat) (B : Int → Int), dpC σ p w (2 ^ n - 1) k B → (∀ c : Int, 0 ≤ c → c < n → 0 ≤ f c) → B (gb (fun c => decide (f c < (k : Int))) n) ≤ sumC (fun t => if hbits f t n = 0 then 0 else tkF σ p w t (hbits f t n)) k := by
  intro k
  induction k with
  | zero =>
    intro B hB hf
    have e : gb (fun c => decide (f c < ((0 : Nat) : Int))) n = 0 := by
      have g6 := gb_64 (fun c => decide (f c < ((0 : Nat) : Int))) n6
      refine bt_ext g6.1 g6.2 (by decide) (by decide) (fun i i0 i1 => ?_)
      rw [gb_bit _ i0 i1 n n6, bt_0, if_neg (fun q => by
        have := of_decide_eq_true q.2
        have := hf i i0 q.1
        omega)]
    rw [e, hB 0 (by decide) (by decide), if_pos rfl]
    exact Int.le_refl _
  | succ k ih =>
    rintro B ⟨B1, T, h1, h2, h3, h4⟩ hf
    have i1 := ih B1 h1 hf
    have hp := p2_64 n6
    have g1 := gb_64 (fun c => decide (f c < ((k + 1 : Nat) : Int))) n6
    have g1n := gb_n1 (fun c => decide (f c < ((k + 1 : Nat) : Int))) n
    have g2 := gb_64 (fun c => decide (f c < (k : Int))) n6
    have g3 := hbits_64 f k n6
    have b1 := fun (i : Int) (i0 : 0 ≤ i) (i1 : i < 6) => gb_bit (fun c => decide (f c < ((k + 1 : Nat) : Int))) i0 i1 n n6
    have b2 := fun (i : Int) (i0 : 0 ≤ i) (i1 : i < 6) => gb_bit (fun c => decide (f c < (k : Int))) i0 i1 n n6
    have b3 := fun (i : Int) (i0 : 0 ≤ i) (i1 : i < 6) => hbits_bit f k i0 i1 n6
    have g3n : hbits f k n ≤ 2 ^ n - 1 := by have := hbits_b f k n; omega
    simp only [decide_eq_true_eq] at b1 b2
    generalize gb (fun c => decide (f c < ((k + 1 : Nat) : Int))) n = x at *
    generalize gb (fun c => decide (f c < (k : Int))) n = y at *
    rw [sumC_s]
    generalize hbits f k n = q at *
    by_cases z : q = 0
    · rw [if_pos z]
      have e : x = y := bt_ext g1.1 g1.2 g2.1 g2.2 (fun i i0 i1 => by
        rw [b1 i i0 i1, b2 i i0 i1]
        have := b3 i i0 i1
        rw [z, bt_0] at this
        by_cases c : i < n ∧ f i < k
        · rw [if_pos c, if_pos ⟨c.1, by omega⟩]
        · rw [if_neg c, if_neg (fun d => by
            by_cases e : f i = k
            · rw [if_pos ⟨d.1, e⟩] at this; omega
            · exact c ⟨d.1, by omega⟩)])
      have : B x ≤ B1 x := by
        by_cases x0 : x = 0
        · rw [h4 x (Or.inl (by omega))]; exact Int.le_refl _
        · have := (h3 x.toNat (by omega) (by omega)).1
          rw [show ((x.toNat : Nat) : Int) = x by omega] at this; exact this
      rw [e] at this ⊢; omega
    · rw [if_neg z]
      have hq : q.toNat &&& x.toNat = q.toNat := by
        refine bt_ext0 _ (by have := Nat.and_le_left (n := q.toNat) (m := x.toNat); omega) _ (by omega) (fun i hi => ?_)
        rw [bt_and0 _ (by omega) _ (by omega) i hi, show ((q.toNat : Nat) : Int) = q by omega, show ((x.toNat : Nat) : Int) = x by omega, b3 i (by omega) (by omega), b1 i (by omega) (by omega)]
        by_cases c : (i : Int) < n ∧ f i = k
        · rw [if_pos c, if_pos ⟨c.1, by omega⟩]; rfl
        · rw [if_neg c, Int.zero_mul]
      have hx : x.toNat ^^^ q.toNat = y.toNat := by
        refine bt_ext0 _ (xor_64 (by omega) (by omega)) _ (by omega) (fun i hi => ?_)
        rw [bt_xor0 _ (by omega) _ (by omega) i hi, show ((q.toNat : Nat) : Int) = q by omega, show ((x.toNat : Nat) : Int) = x by omega, show ((y.toNat : Nat) : Int) = y by omega, b3 i (by omega) (by omega), b1 i (by omega) (by omega), b2 i (by omega) (by omega)]
        by_cases cn : (i : Int) < n
        · by_cases c : f i = k
          · rw [if_pos ⟨cn, by omega⟩, if_pos ⟨cn, c⟩, if_neg (by omega)]; rfl
          · by_cases c2 : f i < k
            · rw [if_pos ⟨cn, by omega⟩, if_neg (fun d => c d.2), if_pos ⟨cn, c2⟩]; rfl
            · rw [if_neg (by omega), if_neg (fun d => c d.2), if_neg (by omega)]; rfl
        · rw [if_neg (fun d => cn d.1), if_neg (fun d => cn d.1), if_neg (fun d => cn d.1)]; rfl
      have x1 : 1 ≤ x.toNat := by
        have := Nat.and_le_right (n := q.toNat) (m := x.toNat)
        omega
      have h5 := (h3 x.toNat x1 (by omega)).2.1 q.toNat (by omega) hq
      rw [hx, h2 q.toNat (by omega) (by omega), show ((q.toNat : Nat) : Int) = q by omega, show ((x.toNat : Nat) : Int) = x by omega, show ((y.toNat : Nat) : Int) = y by omega] at h5
      omega
theorem dp_att {σ : Mem} {p w : Int} {n : Nat} (n6 : n ≤ 6) {lo : Int} (lo0 : 0 ≤ lo) {K : Nat} (K9 : K ≤ 9) (hlo : ∀ t S : Nat, t < K → 1 ≤ S → (S : Int) ≤ 2 ^ n - 1 → -lo ≤ tkF σ p w t S) : ∀ (k : Nat) (B : Int → Int), k ≤ K → dpC σ p w (2 ^ n - 1) k B → ∀ S : Nat, (S : Int) ≤ 2 ^ n - 1 → 1152921504606846976 - lo * k ≤ B S ∨ ∃ f : Int → Int, (∀ c : Int, 0 ≤ c → c < n → (0 ≤ f c ∧ f c < k ∧ bt S c = 1) ∨ (f c = 99 ∧ bt S c = 0)) ∧ B S = sumC (fun t => if hbits f t n = 0 then 0 else tkF σ p w t (hbits f t n)) k := by
  have hp := p2_64 n6
  intro k
  induction k with
  | zero =>
    intro B _ hB S hS
    have hb := hB S (by omega) (by omega)
    by_cases z : (S : Int) = 0
    · rw [if_pos z] at hb
      exact Or.inr ⟨fun _ => 99, fun c _ _ => Or.inr ⟨rfl, by rw [z]; exact bt_0 c⟩, by rw [hb]; rfl⟩
    · rw [if_neg z] at hb
      left; rw [hb]; simp
  | succ k ih =>
    rintro B hk ⟨B1, T, h1, h2, h3, h4⟩ S hS
    have ek : lo * ((k + 1 : Nat) : Int) = lo * k + lo := by rw [show ((k + 1 : Nat) : Int) = (k : Int) + 1 by omega, Int.mul_add, Int.mul_one]
    have same : B S = B1 S → 1152921504606846976 - lo * ((k + 1 : Nat) : Int) ≤ B S ∨ ∃ f : Int → Int, (∀ c : Int, 0 ≤ c → c < n → (0 ≤ f c ∧ f c < ((k + 1 : Nat) : Int) ∧ bt S c = 1) ∨ (f c = 99 ∧ bt S c = 0)) ∧ B S = sumC (fun t => if hbits f t n = 0 then 0 else tkF σ p w t (hbits f t n)) (k + 1) := by
      intro e
      rcases ih B1 (by omega) h1 S hS with h | ⟨f, hf, hv⟩
      · left; omega
      · refine Or.inr ⟨f, fun c c0 c1 => ?_, ?_⟩
        · rcases hf c c0 c1 with h | h
          · exact Or.inl ⟨h.1, by omega, h.2.2⟩
          · exact Or.inr h
        · have z : hbits f k n = 0 := by
            have g3 := hbits_64 f k n6
            refine bt_ext g3.1 g3.2 (by decide) (by decide) (fun i i0 i1 => ?_)
            rw [hbits_bit f k i0 i1 n6, bt_0, if_neg (fun q => by
              rcases hf i i0 q.1 with h | h <;> omega)]
          rw [sumC_s, z, if_pos rfl, e, hv]; omega
    by_cases s0 : S = 0
    · exact same (h4 S (Or.inl (by omega)))
    · rcases (h3 S (by omega) hS).2.2 with e | ⟨q, q0, hq, e⟩
      · exact same e
      · have qS : q ≤ S := by
          have := Nat.and_le_right (n := q) (m := S)
          omega
        have x64 : S ^^^ q < 2 ^ n := Nat.xor_lt_two_pow (by
          have : ((S : Nat) : Int) < ((2 ^ n : Nat) : Int) := by rw [Int.natCast_pow]; show (S : Int) < 2 ^ n; omega
          omega) (by
          have : ((q : Nat) : Int) < ((2 ^ n : Nat) : Int) := by rw [Int.natCast_pow]; show (q : Int) < 2 ^ n; omega
          omega)
        have xi : ((S ^^^ q : Nat) : Int) ≤ 2 ^ n - 1 := by
          have : ((S ^^^ q : Nat) : Int) < ((2 ^ n : Nat) : Int) := by omega
          rw [Int.natCast_pow] at this
          have : ((S ^^^ q : Nat) : Int) < 2 ^ n := this
          omega
        have hT := h2 q (by omega) (by omega)
        have hl := hlo k q (by omega) (by omega) (by omega)
        have bq : ∀ c : Int, 0 ≤ c → c < 6 → bt q c = 1 → bt S c = 1 := by
          intro c c0 c1 hc
          have := bt_and0 q (by omega) S (by omega) c.toNat (by omega)
          rw [hq, show ((c.toNat : Nat) : Int) = c by omega, hc] at this
          omega
        have bx : ∀ c : Int, 0 ≤ c → c < 6 → bt ((S ^^^ q : Nat) : Int) c = (bt S c + bt q c) % 2 := by
          intro c c0 c1
          have := bt_xor0 S (by omega) q (by omega) c.toNat (by omega)
          rw [show ((c.toNat : Nat) : Int) = c by omega] at this
          exact this
        rcases ih B1 (by omega) h1 (S ^^^ q) xi with h | ⟨f, hf, hv⟩
        · left; rw [e, hT]; omega
        · right
          have key : ∀ c : Int, 0 ≤ c → c < n → bt q c = 1 → f c = 99 := by
            intro c c0 c1 hc
            rcases hf c c0 c1 with h | h
            · have := bx c c0 (by omega)
              rw [hc, bq c c0 (by omega) hc] at this
              omega
            · exact h.1
          refine ⟨fun c => if bt q c = 1 then (k : Int) else f c, fun c c0 c1 => ?_, ?_⟩
          · by_cases hc : bt q c = 1
            · simp only [if_pos hc]
              exact Or.inl ⟨by omega, by omega, bq c c0 (by omega) hc⟩
            · simp only [if_neg hc]
              have b0 := bt_b q c
              have b1 := bt_b S c
              have := bx c c0 (by omega)
              rcases hf c c0 c1 with h | h
              · exact Or.inl ⟨h.1, by omega, by omega⟩
              · exact Or.inr ⟨h.1, by omega⟩
          · have eq : hbits (fun c => if bt q c = 1 then (k : Int) else f c) k n = q := by
              have g3 := hbits_64 (fun c => if bt q c = 1 then (k : Int) else f c) k n6
              refine bt_ext g3.1 g3.2 (by omega) (by omega) (fun i i0 i1 => ?_)
              rw [hbits_bit _ _ i0 i1 n6]
              have b0 := bt_b q i
              by_cases hc : bt q i = 1
              · have hin : i < n := by
                  have l := bt_lt n6 (show (0 : Int) ≤ q by omega) (show (q : Int) < 2 ^ n by omega) i0 i1 hc
                  exact l
                rw [if_pos ⟨hin, if_pos hc⟩, hc]
              · rw [if_neg (fun d => by
                  obtain ⟨d1, d2⟩ := d
                  rw [if_neg hc] at d2
                  rcases hf i i0 d1 with h | h <;> omega)]
                omega
            rw [sumC_s, eq, if_neg (by omega), e, hT, hv]
            congr 1
            refine sumC_cong (fun t t0 t1 => ?_)
            have et : hbits (fun c => if bt q c = 1 then (k : Int) else f c) t n = hbits f t n := by
              refine hbits_c (fun c c0 c1 => ?_)
              by_cases hc : bt q c = 1
              · have := key c c0 c1 hc
                constructor
                · intro d; simp only [if_pos hc] at d; omega
                · intro d; omega
              · simp only [if_neg hc]
            rw [et]
/-! what a row of TICKETS costs, by sets and by CHAIRS; TICKETS and MOST are the same -/
theorem sOv_sum (g : Int → Int) (S : Int) : ∀ k : Nat, sOv g S k = sumC (fun c => if bt S c = 1 then g c else 0) k := by
  intro k
  induction k with
  | zero => rfl
  | succ k ih => rw [sumC_s, ← ih]; rfl
theorem csF_sum (s : Int → Int) (t S : Int) : ∀ k : Nat, csF s t S k = sumC (fun c => if bt S c = 1 then (if s c = t then 0 else 1000000) else 0) k := by
  intro k
  induction k with
  | zero => rfl
  | succ k ih => rw [sumC_s, ← ih]; rfl
theorem G_sum (h f : Int → Int) (t : Int) {n : Nat} (n6 : n ≤ 6) : sumC (fun c => if bt (hbits f t n) c = 1 then h c else 0) 6 = sumC (fun c => if f c = t then h c else 0) n := by
  obtain ⟨d, hd⟩ : ∃ d, n + d = 6 := ⟨6 - n, by omega⟩
  have e := sumC_tail (f := fun c => if bt (hbits f t n) c = 1 then h c else 0) (n := n) d (fun i a b => by
    show (if bt (hbits f t n) i = 1 then h i else 0) = 0
    have hb := hbits_bit f t (i := i) (by omega) (by omega) n6
    rw [if_neg (fun q => by omega)] at hb
    rw [hb, if_neg (by decide)])
  rw [hd] at e
  rw [e]
  refine sumC_cong (fun i i0 i1 => ?_)
  have hb := hbits_bit f t i0 (show i < 6 by omega) n6
  by_cases q : f i = t
  · rw [if_pos ⟨i1, q⟩] at hb
    rw [hb, if_pos rfl, if_pos q]
  · rw [if_neg (fun z => q z.2)] at hb
    rw [hb, if_neg (by decide), if_neg q]
theorem rpF_s (t S : Int) (i : Nat) : rpF t S (i + 1) = 10 * rpF t S i + if bt S i = 1 then t else 0 := rfl
theorem rpF_z (t : Int) : ∀ i : Nat, rpF t 0 i = 0 := by
  intro i
  induction i with
  | zero => rfl
  | succ i ih => rw [rpF_s, ih, bt_0, if_neg (by decide)]; rfl
theorem rp_sum {r : Int → Int} {n K : Nat} (n6 : n ≤ 6) (hf : ∀ c : Int, 0 ≤ c → c < n → 0 ≤ r (4 * c + 1) ∧ r (4 * c + 1) < K) : ∀ i : Nat, i ≤ n → sumC (fun t => rpF t (hbits (fun c => r (4 * c + 1)) t n) i) K = rwF r i := by
  intro i
  induction i with
  | zero => intro _; exact sumC_0 K (fun _ _ _ => rfl)
  | succ i ih =>
    intro hi
    have hc := hf i (by omega) (by omega)
    have e : sumC (fun t => rpF t (hbits (fun c => r (4 * c + 1)) t n) (i + 1)) K = sumC (fun t => 10 * rpF t (hbits (fun c => r (4 * c + 1)) t n) i + if r (4 * (i : Int) + 1) = t then t else 0) K := by
      refine sumC_cong (fun t _ _ => ?_)
      have hb := hbits_bit (fun c => r (4 * c + 1)) t (i := (i : Int)) (by omega) (by omega) n6
      rw [rpF_s]
      by_cases q : r (4 * (i : Int) + 1) = t
      · rw [if_pos ⟨by omega, q⟩] at hb
        rw [hb, if_pos rfl, if_pos q]
      · rw [if_neg (fun z => q z.2)] at hb
        rw [hb, if_neg (by decide), if_neg q]
    rw [e, sumC_add (fun t => 10 * rpF t (hbits (fun c => r (4 * c + 1)) t n) i) (fun t => if r (4 * (i : Int) + 1) = t then t else 0), sumC_mul, ih (by omega), sumC_pick (fun t => t) hc.1, if_pos hc.2, rwF_s]
theorem G_no {f : Int → Int} {t : Int} {n : Nat} (n6 : n ≤ 6) (z : hbits f t n = 0) {c : Int} (c0 : 0 ≤ c) (c1 : c < n) : f c ≠ t := by
  intro e
  have := hbits_bit f t c0 (by omega) n6
  rw [z, bt_0, if_pos ⟨c1, e⟩] at this
  omega
/-- a sum over groups, CHAIR by CHAIR -/
theorem tot_G {f : Int → Int} {n K : Nat} {V : Int → Int → Int} (hf : ∀ c : Int, 0 ≤ c → c < n → 0 ≤ f c ∧ f c < K) : sumC (fun t => sumC (fun c => if f c = t then V t c else 0) n) K = sumC (fun c => V (f c) c) n := by
  rw [sumC_swap (fun t c => if f c = t then V t c else 0)]
  refine sumC_cong (fun c c0 c1 => ?_)
  have h := hf c c0 c1
  rw [sumC_pick (fun t => V t c) h.1, if_pos h.2]
theorem tot_most {σ : Mem} {p : Int} {r : Int → Int} {n K : Nat} (n6 : n ≤ 6) (hn : (pcnt σ 6 2).toNat = n) (hf : ∀ c : Int, 0 ≤ c → c < n → 0 ≤ r (4 * c + 1) ∧ r (4 * c + 1) < K) : sumC (fun t => if hbits (fun c => r (4 * c + 1)) t n = 0 then 0 else tkF σ p (-1) t (hbits (fun c => r (4 * c + 1)) t n)) K = -1000000 * sumC (fun c => sFl σ p (r (4 * c + 1)) (hbits (fun c => r (4 * c + 1)) (r (4 * c + 1)) n) c) n + rwF r n := by
  have e : sumC (fun t => if hbits (fun c => r (4 * c + 1)) t n = 0 then 0 else tkF σ p (-1) t (hbits (fun c => r (4 * c + 1)) t n)) K = sumC (fun t => -1000000 * sumC (fun c => if r (4 * c + 1) = t then sFl σ p t (hbits (fun c => r (4 * c + 1)) t n) c else 0) n + rpF t (hbits (fun c => r (4 * c + 1)) t n) n) K := by
    refine sumC_cong (fun t _ _ => ?_)
    by_cases z : hbits (fun c => r (4 * c + 1)) t n = 0
    · rw [if_pos z, sumC_0 n (fun c c0 c1 => if_neg (G_no n6 z c0 c1)), z, rpF_z]; rfl
    · rw [if_neg z]
      unfold tkF
      rw [if_pos rfl, hn, sOv_sum, G_sum (sFl σ p t (hbits (fun c => r (4 * c + 1)) t n)) (fun c => r (4 * c + 1)) t n6]
  rw [e, sumC_add (fun t => -1000000 * sumC (fun c => if r (4 * c + 1) = t then sFl σ p t (hbits (fun c => r (4 * c + 1)) t n) c else 0) n) (fun t => rpF t (hbits (fun c => r (4 * c + 1)) t n) n), sumC_mul, rp_sum n6 hf n (Nat.le_refl _), tot_G (f := fun c => r (4 * c + 1)) (V := fun t c => sFl σ p t (hbits (fun c => r (4 * c + 1)) t n) c) hf]
theorem oc_sum (q r : Int → Int) : ∀ n : Nat, oc q r n = sumC (fun c => if r (4 * c + 1) = q (4 * c + 1) then 0 else 1) n := by
  intro n
  induction n with
  | zero => rfl
  | succ n ih => rw [sumC_s, ← ih]; rfl
theorem tot_tick {σ : Mem} {p w : Int} {q r : Int → Int} {n K : Nat} (hw : w ≠ -1) (n6 : n ≤ 6) (hn : (pcnt σ 6 2).toNat = n) (hf : ∀ c : Int, 0 ≤ c → c < n → 0 ≤ r (4 * c + 1) ∧ r (4 * c + 1) < K) (hq : ∀ c : Int, 0 ≤ c → c < n → σ 18 c = q (4 * c + 1))
    (hok : ∀ c : Int, 0 ≤ c → c < n → w ≤ sFl σ p (r (4 * c + 1)) (hbits (fun c => r (4 * c + 1)) (r (4 * c + 1)) n) c ∧ sOa σ p (r (4 * c + 1)) (hbits (fun c => r (4 * c + 1)) (r (4 * c + 1)) n) c = -1) :
    sumC (fun t => if hbits (fun c => r (4 * c + 1)) t n = 0 then 0 else tkF σ p w t (hbits (fun c => r (4 * c + 1)) t n)) K = 1000000 * oc q r n + rwF r n := by
  have e : sumC (fun t => if hbits (fun c => r (4 * c + 1)) t n = 0 then 0 else tkF σ p w t (hbits (fun c => r (4 * c + 1)) t n)) K = sumC (fun t => sumC (fun c => if r (4 * c + 1) = t then (if σ 18 c = t then 0 else 1000000) else 0) n + rpF t (hbits (fun c => r (4 * c + 1)) t n) n) K := by
    refine sumC_cong (fun t _ _ => ?_)
    by_cases z : hbits (fun c => r (4 * c + 1)) t n = 0
    · rw [if_pos z, sumC_0 n (fun c c0 c1 => if_neg (G_no n6 z c0 c1)), z, rpF_z]; rfl
    · rw [if_neg z]
      have nb : ¬ badP (sFl σ p t (hbits (fun c => r (4 * c + 1)) t n)) (sOa σ p t (hbits (fun c => r (4 * c + 1)) t n)) w (hbits (fun c => r (4 * c + 1)) t n) 6 := by
        rintro ⟨i, i0, i1, hb, h⟩
        rw [hbits_bit _ _ i0 i1 n6] at hb
        by_cases y : i < n ∧ r (4 * i + 1) = t
        · have := hok i i0 y.1
          rw [y.2] at this
          rcases h with h | h
          · omega
          · exact h this.2
        · rw [if_neg y] at hb; omega
      unfold tkF
      rw [if_neg hw, chF_f nb, hn, csF_sum, G_sum (fun c => if σ 18 c = t then 0 else 1000000) (fun c => r (4 * c + 1)) t n6]
  rw [e, sumC_add (fun t => sumC (fun c => if r (4 * c + 1) = t then (if σ 18 c = t then 0 else 1000000) else 0) n) (fun t => rpF t (hbits (fun c => r (4 * c + 1)) t n) n), rp_sum n6 hf n (Nat.le_refl _), tot_G (f := fun c => r (4 * c + 1)) (V := fun t c => if σ 18 c = t then 0 else 1000000) hf, oc_sum, ← sumC_mul]
  congr 1
  refine sumC_cong (fun c c0 c1 => ?_)
  rw [hq c c0 c1]
  by_cases y : q (4 * c + 1) = r (4 * c + 1)
  · rw [if_pos y, if_pos y.symm]; rfl
  · rw [if_neg y, if_neg (fun z => y z.symm)]; rfl
theorem tot_bad {σ : Mem} {p w : Int} {r : Int → Int} {n K : Nat} (hB : planB σ 6) (h9 : pval σ 6 1 p 3 ≤ 9) (hw : w ≠ -1) (n6 : n ≤ 6) (hn : (pcnt σ 6 2).toNat = n) (K6 : K ≤ 6) (hf : ∀ c : Int, 0 ≤ c → c < n → 0 ≤ r (4 * c + 1) ∧ r (4 * c + 1) < K)
    {c : Int} (c0 : 0 ≤ c) (c1 : c < n) (hbad : sFl σ p (r (4 * c + 1)) (hbits (fun c => r (4 * c + 1)) (r (4 * c + 1)) n) c < w ∨ sOa σ p (r (4 * c + 1)) (hbits (fun c => r (4 * c + 1)) (r (4 * c + 1)) n) c ≠ -1) :
    1152921504606846976 ≤ sumC (fun t => if hbits (fun c => r (4 * c + 1)) t n = 0 then 0 else tkF σ p w t (hbits (fun c => r (4 * c + 1)) t n)) K := by
  have hc := hf c c0 c1
  have hbit : bt (hbits (fun c => r (4 * c + 1)) (r (4 * c + 1)) n) c = 1 := by rw [hbits_bit _ _ c0 (by omega) n6, if_pos ⟨c1, rfl⟩]
  refine (sumC_ge (a := r (4 * c + 1)) (by decide) hc.1 ?_ K (fun t t0 t1 => ?_)).2 hc.2
  · have g := hbits_64 (fun c => r (4 * c + 1)) (r (4 * c + 1)) n6
    have nz : hbits (fun c => r (4 * c + 1)) (r (4 * c + 1)) n ≠ 0 := fun z => by rw [z, bt_0] at hbit; omega
    show _ ≤ if hbits (fun c => r (4 * c + 1)) (r (4 * c + 1)) n = 0 then 0 else _
    rw [if_neg nz]
    have bd : badP (sFl σ p (r (4 * c + 1)) (hbits (fun c => r (4 * c + 1)) (r (4 * c + 1)) n)) (sOa σ p (r (4 * c + 1)) (hbits (fun c => r (4 * c + 1)) (r (4 * c + 1)) n)) w (hbits (fun c => r (4 * c + 1)) (r (4 * c + 1)) n) 6 := ⟨c, c0, by omega, hbit, hbad⟩
    have rb := rpF_b (t := r (4 * c + 1)) (hbits (fun c => r (4 * c + 1)) (r (4 * c + 1)) n) hc.1 (by omega) n
    unfold tkF
    rw [if_neg hw, chF_t bd, hn]
    omega
  · by_cases z : hbits (fun c => r (4 * c + 1)) t n = 0
    · rw [if_pos z]; exact Int.le_refl _
    · rw [if_neg z]
      have g := hbits_64 (fun c => r (4 * c + 1)) t n6
      have := tkF_b (w := w) hB h9 g.1 g.2 t0 (by omega)
      rw [if_neg hw] at this
      exact this.1
/-- a row of TICKETS apart: what a CHAIR feels in the reference and in its group -/
theorem grp_row {σ m : Mem} {p : Int} (hH : eqH σ m) (hA : eqA σ m 16 5015) (hx : mX m 5015) (p0 : 0 ≤ p) (p1 : p < m 5000 28) {r : Int → Int} {n : Nat} (hn : m 5000 29 = n) (hr : ∀ j, (∀ d, 0 ≤ d → d < (n : Int) → j ≠ 4 * d + 1) → r j = m 5015 j) (hf : ∀ c : Int, 0 ≤ c → c < n → 0 ≤ r (4 * c + 1) ∧ r (4 * c + 1) < m 5000 30) {c : Int} (c0 : 0 ≤ c) (c1 : c < n) :
    sFl σ p (r (4 * c + 1)) (hbits (fun c => r (4 * c + 1)) (r (4 * c + 1)) n) c = mFl (setv m 5016 r) 5016 p (mMi m p) c ∧ sOa σ p (r (4 * c + 1)) (hbits (fun c => r (4 * c + 1)) (r (4 * c + 1)) n) c = mOa (setv m 5016 r) 5016 p (mMi m p) c := by
  obtain ⟨e2, e1, e3, eL, eP, eD, eR⟩ := id hH
  obtain ⟨aC, aI, aE⟩ := hA
  have m9 := mMi_9 hx p0 p1
  have n29 := hx.2.1.2.2.1
  have s16 : setv m 5016 r 5016 = r := setv_s _ _ _
  have so : ∀ b, b ≠ 5016 → setv m 5016 r b = m b := fun b h => setv_o _ _ h
  have hc := hf c c0 c1
  have eMi : pval σ 6 1 p 3 = m 5007 (4 * p + 3) := eP p 3 p0 p1 (by decide) (by decide)
  have hb := hbits_64 (fun c => r (4 * c + 1)) (r (4 * c + 1)) (n := n) (by omega)
  have hS : ∀ d : Int, 0 ≤ d → d < 6 → bt (hbits (fun c => r (4 * c + 1)) (r (4 * c + 1)) n) d = if d < n ∧ setv m 5016 r 5016 (4 * d + 1) = r (4 * c + 1) then 1 else 0 := by
    intro d d0 d1
    rw [hbits_bit _ _ d0 d1 (by omega), s16]
  have r24 : r 24 = m 5015 24 := hr 24 (fun d _ _ => by omega)
  have r26 : r 26 = m 5015 26 := hr 26 (fun d _ _ => by omega)
  have hg : ∀ (d N : Int) (k : Nat), 0 ≤ d → d < n → setv m 5016 r 5016 (4 * d + 1) = r (4 * c + 1) → 1 ≤ N → N ≤ 6 → k < mMi m p → gmv σ 16 (r (4 * c + 1)) p d N k = if bt (setv m 5016 r 5016 24) (r (4 * c + 1)) = 1 then 0 else mRk (setv m 5016 r) (setv m 5016 r 5007 (4 * p + (k : Int) % 3)) (setv m 5016 r 5016 (4 * d)) (setv m 5016 r 5011 (r (4 * c + 1))) N k (setv m 5016 r 5016 26) := by
    intro d N k d0 d1 dt N1 N6 hk
    have hk' : (k : Int) < m 5007 (4 * p + 3) := by unfold mMi at hk; omega
    have eK : mRk (setv m 5016 r) (m 5007 (4 * p + (k : Int) % 3)) (m 5015 (4 * d)) (m 5011 (r (4 * c + 1))) N k (m 5015 26) = mRk m (m 5007 (4 * p + (k : Int) % 3)) (m 5015 (4 * d)) (m 5011 (r (4 * c + 1))) N k (m 5015 26) := by
      unfold mRk
      rw [mwo_c (so 5002 (by decide)) (so 5003 (by decide)), so 5000 (by decide)]
    rw [s16, so 5007 (by decide), so 5011 (by decide), r24, r26, hr (4 * d) (fun e _ _ => by omega), eK]
    exact gmv_mR hH aI aE hx p0 p1 hc.1 hc.2 d0 (by omega) (aC d d0 (by omega)).1 N1 N6 (by omega)
  have G := grp (g := gmv σ 16 (r (4 * c + 1)) p) (S := hbits (fun c => r (4 * c + 1)) (r (4 * c + 1)) n) (m := setv m 5016 r) (w := 5016) (t := r (4 * c + 1)) (p := p) (K := mMi m p) (by rw [so 5000 (by decide)]; exact hn) (by omega) hb.1 hb.2 hS hg (mMi m p) (Nat.le_refl _)
  have := G.2 c c0 c1 (by rw [s16])
  rw [so 5005 (by decide)] at this
  unfold sFl sOa
  rw [eMi, eL]
  exact this
theorem xt_5 {S : Nat} (hS : S ≤ 6) {d : Nat} (hd : d ≤ 5) {r r' : Int → Int} (h : xt S (d + 1) 0 r r') : rwF r' (d + 1) < 600000 := by
  obtain ⟨t, ht, h⟩ := h
  have a := xt_row (show S ≤ 10 by omega) d 1 (upf r (4 * ((0 : Nat) : Int) + 1) t) r' h
  rw [rwF_u, show rwF r 0 = 0 from rfl, show 1 + d = d + 1 by omega] at a
  have p5 : (10 : Int) ^ d ≤ 100000 := by
    have key : ∀ n : Nat, n < 6 → (10 : Int) ^ n ≤ 100000 := by decide +kernel
    exact key d (by omega)
  have p0 : (0 : Int) < 10 ^ d := Int.pow_pos (by decide)
  generalize (10 : Int) ^ d = P at *
  have e4 : (10 * 0 + (t : Int)) * P ≤ 5 * P := Int.mul_le_mul_of_nonneg_right (by omega) (by omega)
  omega
theorem xt_all {m : Mem} {n S : Nat} (hn : m 5000 29 = n) {r : Int → Int} (h : xt S n 0 (m 5015) r) : (∀ j, (∀ d, 0 ≤ d → d < (n : Int) → j ≠ 4 * d + 1) → r j = m 5015 j) ∧ ∀ c : Int, 0 ≤ c → c < n → 0 ≤ r (4 * c + 1) ∧ r (4 * c + 1) < S :=
  ⟨fun j hj => xt_pre h j (fun e a b => hj e a (by omega)), fun c c0 c1 => xt_in h c c0 (by omega)⟩
theorem tick_eq {σ m : Mem} {p w : Int} (hH : eqH σ m) (hA : eqA σ m 16 5015) (hx : mX m 5015) (hB : planB σ 6) (p0 : 0 ≤ p) (p1 : p < m 5000 28) (w0 : 0 ≤ w) {n : Nat} (hn : m 5000 29 = n) (n1 : 1 ≤ n) {B : Int → Int} (hD : dpC σ p w (2 ^ n - 1) (m 5000 30).toNat B) :
    (tkG m p w n (m 5015) 0 0 (-1, -1) = if 1152921504606846976 ≤ B (2 ^ n - 1) then (-1, -1) else (B (2 ^ n - 1) % 1000000, B (2 ^ n - 1) / 1000000)) ∧ (B (2 ^ n - 1) < 1152921504606846976 → 0 ≤ B (2 ^ n - 1) ∧ B (2 ^ n - 1) ≤ 1000000000000) := by
  have n29 := hx.2.1.2.2.1
  have n30 := hx.2.1.2.2.2.1
  have m9 := mMi_9 hx p0 p1
  obtain ⟨S, hS⟩ : ∃ S : Nat, m 5000 30 = S := ⟨(m 5000 30).toNat, by omega⟩
  rw [hS, Int.toNat_natCast] at hD
  have e2 : (pcnt σ 6 2).toNat = n := by rw [hH.1, hn, Int.toNat_natCast]
  have e9 : pval σ 6 1 p 3 ≤ 9 := by rw [hH.2.2.2.2.1 p 3 p0 p1 (by decide) (by decide)]; exact m9.2
  have hw : w ≠ -1 := by omega
  have n6 : n ≤ 6 := by omega
  have hq : ∀ c : Int, 0 ≤ c → c < n → σ 18 c = m 5015 (4 * c + 1) := fun c c0 c1 => (hA.1 c c0 (by omega)).2
  have cost : ∀ r, xt S n 0 (m 5015) r → (tkO m p w r → sumC (fun t => if hbits (fun c => r (4 * c + 1)) t n = 0 then 0 else tkF σ p w t (hbits (fun c => r (4 * c + 1)) t n)) S = 1000000 * oc (m 5015) r n + rwF r n) ∧ (¬ tkO m p w r → 1152921504606846976 ≤ sumC (fun t => if hbits (fun c => r (4 * c + 1)) t n = 0 then 0 else tkF σ p w t (hbits (fun c => r (4 * c + 1)) t n)) S) := by
    intro r hr
    obtain ⟨a1, a2⟩ := xt_all hn hr
    have a3 : ∀ c : Int, 0 ≤ c → c < n → 0 ≤ r (4 * c + 1) ∧ r (4 * c + 1) < m 5000 30 := by rw [hS]; exact a2
    have g := fun (c : Int) (c0 : 0 ≤ c) (c1 : c < n) => grp_row hH hA hx p0 p1 hn a1 a3 c0 c1
    have so5 : setv m 5016 r 5000 = m 5000 := setv_o _ _ (by decide)
    have ob := mOu_b (setv m 5016 r) 5016 p (by rw [so5]; omega) (mMi m p)
    refine ⟨fun hk => tot_tick hw n6 e2 a2 hq (fun c c0 c1 => ?_), fun hk => ?_⟩
    · rw [(g c c0 c1).1, (g c c0 c1).2]
      refine ⟨hk.2 c c0 (by omega), ?_⟩
      have := mOu_oa (σ := setv m 5016 r) (w := 5016) (p := p) (by rw [so5]; omega) c0 (by rw [so5]; omega) (mMi m p)
      rw [hk.1, bt_0] at this
      exact Classical.byContradiction (fun q => absurd (this.mpr q) (by decide))
    · have ex : ∃ c : Int, 0 ≤ c ∧ c < n ∧ (mFl (setv m 5016 r) 5016 p (mMi m p) c < w ∨ mOa (setv m 5016 r) 5016 p (mMi m p) c ≠ -1) := by
        refine Classical.byContradiction (fun q => hk ⟨?_, fun c c0 c1 => ?_⟩)
        · refine bt_ext ob.1 ob.2 (by decide) (by decide) (fun i i0 i1 => ?_)
          rw [bt_0]
          have b01 := bt_b (mOu (setv m 5016 r) 5016 p (mMi m p)) i
          by_cases l : i < n
          · have := mOu_oa (σ := setv m 5016 r) (w := 5016) (p := p) (by rw [so5]; omega) i0 (by rw [so5]; omega) (mMi m p)
            by_cases y : bt (mOu (setv m 5016 r) 5016 p (mMi m p)) i = 1
            · exact absurd ⟨i, i0, l, Or.inr (this.mp y)⟩ q
            · omega
          · rw [← mOu_gb (by rw [so5]; omega) (by rw [so5]; omega)]
            unfold outB
            rw [gb_bit _ i0 i1 _ (by rw [so5]; omega), if_neg (fun y => by rw [so5] at y; omega)]
        · refine Classical.byContradiction (fun y => q ⟨c, c0, by omega, Or.inl (by omega)⟩)
      obtain ⟨c, c0, c1, hc⟩ := ex
      rw [← (g c c0 c1).1, ← (g c c0 c1).2] at hc
      exact tot_bad hB e9 hw n6 e2 (by omega) a2 c0 c1 hc
  have sr := tkG_ok (p := p) (w := w) hn n6 hS (by omega) n 0 (m 5015) 0 (-1, -1) (by omega) rfl (fun r' h => xt_6 (by omega) n6 h) (Or.inl rfl)
  rw [show ((0 : Nat) : Int) = 0 from rfl] at sr
  have lb : ∀ r, xt S n 0 (m 5015) r → B (2 ^ n - 1) ≤ sumC (fun t => if hbits (fun c => r (4 * c + 1)) t n = 0 then 0 else tkF σ p w t (hbits (fun c => r (4 * c + 1)) t n)) S := by
    intro r hr
    obtain ⟨a1, a2⟩ := xt_all hn hr
    have := dp_lb (f := fun c => r (4 * c + 1)) n6 S B hD (fun c c0 c1 => (a2 c c0 c1).1)
    have g := gb_64 (fun c => decide (r (4 * c + 1) < (S : Int))) n6
    have f6 := full_64 n6
    have e : gb (fun c => decide (r (4 * c + 1) < (S : Int))) n = 2 ^ n - 1 := by
      refine bt_ext g.1 g.2 f6.1 f6.2 (fun i i0 i1 => ?_)
      rw [gb_bit _ i0 i1 n n6]
      have bf := bt_full0 n n6 i.toNat (by omega)
      rw [show ((i.toNat : Nat) : Int) = i by omega] at bf
      rw [bf]
      by_cases l : i < n
      · rw [if_pos ⟨l, decide_eq_true (a2 i i0 l).2⟩, if_pos (by omega)]
      · rw [if_neg (fun y => l y.1), if_neg (by omega)]
    rw [e] at this
    exact this
  have att : B (2 ^ n - 1) < 1152921504606846976 → ∃ r, xt S n 0 (m 5015) r ∧ B (2 ^ n - 1) = sumC (fun t => if hbits (fun c => r (4 * c + 1)) t n = 0 then 0 else tkF σ p w t (hbits (fun c => r (4 * c + 1)) t n)) S := by
    intro hlt
    have f6 := full_64 n6
    have hat := dp_att (σ := σ) (p := p) (w := w) n6 (lo := 0) (by decide) (K := S) (by omega) (fun t T ht T1 T2 => by
      have := tkF_b (w := w) hB e9 (show (0 : Int) ≤ T by omega) (show (T : Int) < 64 by omega) (show (0 : Int) ≤ t by omega) (by omega)
      rw [if_neg hw] at this
      omega) S B (Nat.le_refl _) hD ((2 : Int) ^ n - 1).toNat (by omega)
    rw [show ((((2 : Int) ^ n - 1).toNat : Nat) : Int) = 2 ^ n - 1 by omega] at hat
    rcases hat with h | ⟨f, hf, hv⟩
    · rw [Int.zero_mul] at h; omega
    · have hin : ∀ e : Int, 0 ≤ e → e < 0 + (n : Int) → 0 ≤ f e ∧ f e < S := by
        intro e e0 e1
        rcases hf e e0 (by omega) with h | h
        · exact ⟨h.1, h.2.1⟩
        · have bf := bt_full0 n n6 e.toNat (by omega)
          rw [show ((e.toNat : Nat) : Int) = e by omega, if_pos (by omega)] at bf
          omega
      obtain ⟨r, hr, hrf⟩ := xt_mk f n 0 (m 5015) hin
      refine ⟨r, hr, ?_⟩
      rw [hv]
      refine sumC_cong (fun t _ _ => ?_)
      rw [hbits_c (f := f) (g := fun c => r (4 * c + 1)) (fun c c0 c1 => by rw [hrf c c0 (by omega)])]
  obtain ⟨s1, s2, s3⟩ := sr
  have vb : ∀ r, xt S n 0 (m 5015) r → tcd (rwF r n, oc (m 5015) r n) = 1000000 * oc (m 5015) r n + rwF r n := fun r _ => by
    have := oc_b (m 5015) r n
    exact tcd_n (show oc (m 5015) r n ≠ -1 by omega)
  rcases s1 with e | ⟨r, hr, hk, e⟩
  · have hnone : ∀ r, xt S n 0 (m 5015) r → ¬ tkO m p w r := by
      intro r hr hk
      have := s2 r hr hk
      have v := vb r hr
      have b1 := oc_b (m 5015) r n
      have b2 := xt_6 (by omega) n6 hr
      rw [e] at this
      have t0 : tcd (-1, -1) = 1000000000000000 := rfl
      rw [t0] at this
      have : (1000000000000000 : Int) ≤ 1000000 * oc (m 5015) r n + rwF r n := by rw [← v]; exact this
      omega
    have : 1152921504606846976 ≤ B (2 ^ n - 1) := by
      refine Classical.byContradiction (fun q => ?_)
      obtain ⟨r, hr, hv⟩ := att (by omega)
      have := (cost r hr).2 (hnone r hr)
      omega
    exact ⟨by rw [e, if_pos this], fun q => by omega⟩
  · have v := vb r hr
    have b1 := oc_b (m 5015) r n
    have b2 := xt_6 (by omega) n6 hr
    have l1 := lb r hr
    rw [(cost r hr).1 hk] at l1
    have hlt : B (2 ^ n - 1) < 1152921504606846976 := by omega
    obtain ⟨r2, hr2, hv⟩ := att hlt
    have hk2 : tkO m p w r2 := Classical.byContradiction (fun q => by have := (cost r2 hr2).2 q; omega)
    rw [(cost r2 hr2).1 hk2] at hv
    have l2 := s2 r2 hr2 hk2
    rw [e] at l2
    have l2 : tcd (rwF r n, oc (m 5015) r n) ≤ tcd (rwF r2 n, oc (m 5015) r2 n) := l2
    rw [v, vb r2 hr2] at l2
    have eB : B (2 ^ n - 1) = 1000000 * oc (m 5015) r n + rwF r n := by omega
    refine ⟨?_, fun _ => by omega⟩
    rw [e, if_neg (by omega), eB]
    show (rwF r n, oc (m 5015) r n) = _
    rw [show (1000000 * oc (m 5015) r n + rwF r n) % 1000000 = rwF r n by omega, show (1000000 * oc (m 5015) r n + rwF r n) / 1000000 = oc (m 5015) r n by omega]
theorem most_eq {σ m : Mem} {p : Int} (hH : eqH σ m) (hA : eqA σ m 16 5015) (hx : mX m 5015) (hB : planB σ 6) (p0 : 0 ≤ p) (p1 : p < m 5000 28) {n : Nat} (hn : m 5000 29 = n) (n1 : 1 ≤ n) (s1 : 1 ≤ m 5000 30) {B : Int → Int} (hD : dpC σ p (-1) (2 ^ n - 1) (m 5000 30).toNat B) :
    mstF m p n (m 5015) 0 (-1, -1) = (B (2 ^ n - 1) % 1000000, -(B (2 ^ n - 1) / 1000000)) ∧ -1000000000000 ≤ B (2 ^ n - 1) ∧ B (2 ^ n - 1) ≤ 1000000000000 := by
  have n29 := hx.2.1.2.2.1
  have n30 := hx.2.1.2.2.2.1
  have n28 := hx.2.1.2.2.2.2.1
  have m9 := mMi_9 hx p0 p1
  obtain ⟨S, hS⟩ : ∃ S : Nat, m 5000 30 = S := ⟨(m 5000 30).toNat, by omega⟩
  rw [hS, Int.toNat_natCast] at hD
  have e2 : (pcnt σ 6 2).toNat = n := by rw [hH.1, hn, Int.toNat_natCast]
  have e9 : pval σ 6 1 p 3 ≤ 9 := by rw [hH.2.2.2.2.1 p 3 p0 p1 (by decide) (by decide)]; exact m9.2
  have n6 : n ≤ 6 := by omega
  have cost : ∀ r, xt S n 0 (m 5015) r → sumC (fun t => if hbits (fun c => r (4 * c + 1)) t n = 0 then 0 else tkF σ p (-1) t (hbits (fun c => r (4 * c + 1)) t n)) S = -1000000 * rMv m p r + rwF r n := by
    intro r hr
    obtain ⟨a1, a2⟩ := xt_all hn hr
    have a3 : ∀ c : Int, 0 ≤ c → c < n → 0 ≤ r (4 * c + 1) ∧ r (4 * c + 1) < m 5000 30 := by rw [hS]; exact a2
    rw [tot_most n6 e2 a2]
    unfold rMv
    rw [hn, Int.toNat_natCast, sumC_cong (fun c c0 c1 => (grp_row hH hA hx p0 p1 hn a1 a3 c0 c1).1)]
  have mvb : ∀ r, 0 ≤ rMv m p r ∧ rMv m p r ≤ 10000 := fun r => rMv_b hx ⟨by omega, by omega⟩
  have sr := mstF_ok (p := p) hn hS (by omega) n 0 (m 5015) (-1, -1) (by omega) (fun r' h => xt_6 (by omega) n6 h) (by decide) (fun r' h => by
    have := xt_6 (by omega) n6 h
    show (-1 : Int) < _
    omega)
  rw [show ((0 : Nat) : Int) = 0 from rfl] at sr
  have lb : ∀ r, xt S n 0 (m 5015) r → B (2 ^ n - 1) ≤ sumC (fun t => if hbits (fun c => r (4 * c + 1)) t n = 0 then 0 else tkF σ p (-1) t (hbits (fun c => r (4 * c + 1)) t n)) S := by
    intro r hr
    obtain ⟨a1, a2⟩ := xt_all hn hr
    have := dp_lb (f := fun c => r (4 * c + 1)) n6 S B hD (fun c c0 c1 => (a2 c c0 c1).1)
    have g := gb_64 (fun c => decide (r (4 * c + 1) < (S : Int))) n6
    have f6 := full_64 n6
    have e : gb (fun c => decide (r (4 * c + 1) < (S : Int))) n = 2 ^ n - 1 := by
      refine bt_ext g.1 g.2 f6.1 f6.2 (fun i i0 i1 => ?_)
      rw [gb_bit _ i0 i1 n n6]
      have bf := bt_full0 n n6 i.toNat (by omega)
      rw [show ((i.toNat : Nat) : Int) = i by omega] at bf
      rw [bf]
      by_cases l : i < n
      · rw [if_pos ⟨l, decide_eq_true (a2 i i0 l).2⟩, if_pos (by omega)]
      · rw [if_neg (fun y => l y.1), if_neg (by omega)]
    rw [e] at this
    exact this
  obtain ⟨r0, hr0, -⟩ := xt_mk (S := S) (fun _ => 0) n 0 (m 5015) (fun e _ _ => ⟨Int.le_refl _, by omega⟩)
  have l0 := lb r0 hr0
  rw [cost r0 hr0] at l0
  have b0 := xt_6 (by omega) n6 hr0
  have v0 := mvb r0
  have att : ∃ r, xt S n 0 (m 5015) r ∧ B (2 ^ n - 1) = sumC (fun t => if hbits (fun c => r (4 * c + 1)) t n = 0 then 0 else tkF σ p (-1) t (hbits (fun c => r (4 * c + 1)) t n)) S := by
    have f6 := full_64 n6
    have hat := dp_att (σ := σ) (p := p) (w := -1) n6 (lo := 6000000000) (by decide) (K := S) (by omega) (fun t T ht T1 T2 => by
      have := tkF_b (w := -1) hB e9 (show (0 : Int) ≤ T by omega) (show (T : Int) < 64 by omega) (show (0 : Int) ≤ t by omega) (by omega)
      rw [if_pos rfl] at this
      omega) S B (Nat.le_refl _) hD ((2 : Int) ^ n - 1).toNat (by omega)
    rw [show ((((2 : Int) ^ n - 1).toNat : Nat) : Int) = 2 ^ n - 1 by omega] at hat
    rcases hat with h | ⟨f, hf, hv⟩
    · omega
    · have hin : ∀ e : Int, 0 ≤ e → e < 0 + (n : Int) → 0 ≤ f e ∧ f e < S := by
        intro e e0 e1
        rcases hf e e0 (by omega) with h | h
        · exact ⟨h.1, h.2.1⟩
        · have bf := bt_full0 n n6 e.toNat (by omega)
          rw [show ((e.toNat : Nat) : Int) = e by omega, if_pos (by omega)] at bf
          omega
      obtain ⟨r, hr, hrf⟩ := xt_mk f n 0 (m 5015) hin
      refine ⟨r, hr, ?_⟩
      rw [hv]
      refine sumC_cong (fun t _ _ => ?_)
      rw [hbits_c (f := f) (g := fun c => r (4 * c + 1)) (fun c c0 c1 => by rw [hrf c c0 (by omega)])]
  obtain ⟨s1', s2, s3⟩ := sr
  have found : ∃ r, xt S n 0 (m 5015) r ∧ mstF m p n (m 5015) 0 (-1, -1) = (rwF r n, rMv m p r) := by
    rcases s1' with e | ⟨r, hr, _, e⟩
    · have := s2 r0 hr0 trivial
      have : ycd (mstF m p n (m 5015) 0 (-1, -1)) ≤ ycd (rwF r0 n, rMv m p r0) := this
      rw [e] at this
      unfold ycd at this
      have : (-1000000 * (-1) + (-1) : Int) ≤ -1000000 * rMv m p r0 + rwF r0 n := this
      obtain ⟨d, hd⟩ : ∃ d, n = d + 1 := ⟨n - 1, by omega⟩
      rw [hd] at hr0 this
      have := xt_5 (by omega) (by omega) hr0
      omega
    · exact ⟨r, hr, e⟩
  obtain ⟨r, hr, e⟩ := found
  obtain ⟨r2, hr2, hv⟩ := att
  have l1 := lb r hr
  rw [cost r hr] at l1
  rw [cost r2 hr2] at hv
  have l2 := s2 r2 hr2 trivial
  have l2 : ycd (mstF m p n (m 5015) 0 (-1, -1)) ≤ ycd (rwF r2 n, rMv m p r2) := l2
  rw [e] at l2
  unfold ycd at l2
  have l2 : -1000000 * rMv m p r + rwF r n ≤ -1000000 * rMv m p r2 + rwF r2 n := l2
  have b2 := xt_6 (by omega) n6 hr
  have eB : B (2 ^ n - 1) = -1000000 * rMv m p r + rwF r n := by omega
  have v9 := mvb r
  refine ⟨?_, by omega, by omega⟩
  rw [e, eB, show (-1000000 * rMv m p r + rwF r n) % 1000000 = rwF r n by omega, show (-1000000 * rMv m p r + rwF r n) / 1000000 = -rMv m p r by omega, Int.neg_neg]
/-! BORNE: rows of PLAYS tried one by one against the best of each EVENING -/
abbrev bMV (m : Mem) (i e p : Int) : Int := rMv m p (bnR m i e)
abbrev bOB (m : Mem) (i e p : Int) : Int := mOu (setv m 5016 (bnR m i e)) 5016 p (mMi m p)
/-- the best PLAY of each of k EVENINGS: the row and how much all are moved -/
def grd (mv ob : Int → Int → Int → Int) (P : Nat) : Nat → Int → Int → Option (Int × Int)
  | 0, _, _ => some (0, 0)
  | k + 1, i, e => if (bbR (mv i e) (ob i e) P).1 = -1 then none else match grd mv ob P k 0 (e + 1) with
    | none => none
    | some x => some ((bbR (mv i e) (ob i e) P).1 * 10 ^ k + x.1, (bbR (mv i e) (ob i e) P).2 + x.2)
theorem grd_n {mv ob : Int → Int → Int → Int} {P k : Nat} {i e : Int} (h : (bbR (mv i e) (ob i e) P).1 = -1) : grd mv ob P (k + 1) i e = none := by
  show (if (bbR (mv i e) (ob i e) P).1 = -1 then none else _) = none
  rw [if_pos h]
theorem grd_m {mv ob : Int → Int → Int → Int} {P k : Nat} {i e : Int} (h : grd mv ob P k 0 (e + 1) = none) : grd mv ob P (k + 1) i e = none := by
  unfold grd
  rw [h]
  split <;> rfl
theorem grd_y {mv ob : Int → Int → Int → Int} {P k : Nat} {i e : Int} {x : Int × Int} (h : (bbR (mv i e) (ob i e) P).1 ≠ -1) (hx : grd mv ob P k 0 (e + 1) = some x) : grd mv ob P (k + 1) i e = some ((bbR (mv i e) (ob i e) P).1 * 10 ^ k + x.1, (bbR (mv i e) (ob i e) P).2 + x.2) := by
  unfold grd
  rw [hx, if_neg h]
def grA (w u : Int) (k : Nat) (s : Int × Int) (o : Option (Int × Int)) : Int × Int := match o with
  | none => s
  | some x => if u + x.2 ≤ s.2 then s else (w * 10 ^ k + x.1, u + x.2)
theorem grA_s (w u : Int) (k : Nat) (s x : Int × Int) : grA w u k s (some x) = if u + x.2 ≤ s.2 then s else (w * 10 ^ k + x.1, u + x.2) := rfl
theorem bbR_s (mv ob : Int → Int) (t : Nat) : bbR mv ob (t + 1) = if ob t = 0 ∧ (bbR mv ob t).2 < mv t then ((t : Int), mv t) else bbR mv ob t := rfl
theorem bbR_n {mv ob : Int → Int} : ∀ t : Nat, (∀ p : Int, 0 ≤ p → p < t → 0 ≤ mv p) → ((bbR mv ob t).1 = -1 ∧ (bbR mv ob t).2 = -1) ∨ (0 ≤ (bbR mv ob t).1 ∧ (bbR mv ob t).1 < t ∧ ob (bbR mv ob t).1 = 0 ∧ (bbR mv ob t).2 = mv (bbR mv ob t).1 ∧ 0 ≤ (bbR mv ob t).2) := by
  intro t
  induction t with
  | zero => intro _; exact Or.inl ⟨rfl, rfl⟩
  | succ t ih =>
    intro h
    have i9 := ih (fun p a b => h p a (by omega))
    have v0 := h t (by omega) (by omega)
    rw [bbR_s]
    by_cases c : ob t = 0 ∧ (bbR mv ob t).2 < mv t
    · rw [if_pos c]
      exact Or.inr ⟨by show (0 : Int) ≤ t; omega, by show (t : Int) < ((t + 1 : Nat) : Int); omega, c.1, rfl, v0⟩
    · rw [if_neg c]
      rcases i9 with i9 | i9
      · exact Or.inl i9
      · exact Or.inr ⟨i9.1, by omega, i9.2.2⟩
theorem bbR_cong {mv ob mv' ob' : Int → Int} : ∀ t : Nat, (∀ p : Int, 0 ≤ p → p < t → mv p = mv' p ∧ ob p = ob' p) → bbR mv ob t = bbR mv' ob' t := by
  intro t
  induction t with
  | zero => intro _; rfl
  | succ t ih =>
    intro h
    rw [bbR_s, bbR_s, ih (fun p a b => h p a (by omega)), (h t (by omega) (by omega)).1, (h t (by omega) (by omega)).2]
theorem bnF_s (m : Mem) (k : Nat) (i e u w : Int) (s : Int × Int) : bnF m (k + 1) i e u w s = mstI (fun p s => if bOB m i e p = 0 then bnF m k 0 (e + 1) (u + bMV m i e p) (10 * w + p) s else s) (m 5000 28).toNat s := rfl
theorem bnF_gr {m : Mem} (hx : mX m 5015) : ∀ (k : Nat) (i e u w : Int) (s : Int × Int), bnF m k i e u w s = grA w u k s (grd (bMV m) (bOB m) (m 5000 28).toNat k i e) := by
  have n28 := hx.2.1.2.2.2.2.1
  intro k
  induction k with
  | zero =>
    intro i e u w s
    show (if u ≤ s.2 then s else (w, u)) = if u + 0 ≤ s.2 then s else (w * 10 ^ 0 + 0, u + 0)
    simp
  | succ k ih =>
    intro i e u w s
    have mv0 : ∀ p : Int, 0 ≤ p → p < m 5000 28 → 0 ≤ bMV m i e p := fun p a b => (rMv_b hx ⟨a, by omega⟩).1
    have fe : (fun (p : Int) (s : Int × Int) => if bOB m i e p = 0 then bnF m k 0 (e + 1) (u + bMV m i e p) (10 * w + p) s else s) = fun p s => if bOB m i e p = 0 then grA (10 * w + p) (u + bMV m i e p) k s (grd (bMV m) (bOB m) (m 5000 28).toNat k 0 (e + 1)) else s := by
      funext p s
      rw [ih]
    rw [bnF_s, fe]
    cases hg : grd (bMV m) (bOB m) (m 5000 28).toNat k 0 (e + 1) with
    | none =>
      have idl : ∀ t : Nat, mstI (fun p s => if bOB m i e p = 0 then grA (10 * w + p) (u + bMV m i e p) k s none else s) t s = s := by
        intro t
        induction t with
        | zero => rfl
        | succ t iht => rw [mstI_s, iht]; split <;> rfl
      rw [idl, grd_m hg]
      rfl
    | some x =>
      have lp : ∀ t : Nat, (t : Int) ≤ m 5000 28 → mstI (fun p s => if bOB m i e p = 0 then grA (10 * w + p) (u + bMV m i e p) k s (some x) else s) t s = if (bbR (bMV m i e) (bOB m i e) t).1 = -1 then s else grA (10 * w + (bbR (bMV m i e) (bOB m i e) t).1) (u + (bbR (bMV m i e) (bOB m i e) t).2) k s (some x) := by
        intro t
        induction t with
        | zero => intro _; exact (if_pos rfl).symm
        | succ t iht =>
          intro ht
          have b := bbR_n (mv := bMV m i e) (ob := bOB m i e) t (fun p a c => mv0 p a (by omega))
          have v0 := mv0 t (by omega) (by omega)
          rw [mstI_s, iht (by omega), bbR_s]
          generalize hb : bbR (bMV m i e) (bOB m i e) t = B at *
          generalize hv : bMV m i e t = V at *
          by_cases o : bOB m i e t = 0
          · rw [if_pos o]
            by_cases l : B.2 < V
            · have eb : (if bOB m i e t = 0 ∧ B.2 < V then ((t : Int), V) else B) = ((t : Int), V) := if_pos ⟨o, l⟩
              rw [eb, if_neg (show ¬ ((t : Int), V).1 = -1 by show ¬ (t : Int) = -1; omega)]
              by_cases z : B.1 = -1
              · rw [if_pos z]
              · rw [if_neg z, grA_s, grA_s, grA_s]
                show (if u + V + x.2 ≤ (if u + B.2 + x.2 ≤ s.2 then s else ((10 * w + B.1) * 10 ^ k + x.1, u + B.2 + x.2)).2 then (if u + B.2 + x.2 ≤ s.2 then s else ((10 * w + B.1) * 10 ^ k + x.1, u + B.2 + x.2)) else ((10 * w + (t : Int)) * 10 ^ k + x.1, u + V + x.2)) = (if u + V + x.2 ≤ s.2 then s else ((10 * w + (t : Int)) * 10 ^ k + x.1, u + V + x.2))
                by_cases y : u + B.2 + x.2 ≤ s.2
                · rw [if_pos y]
                · rw [if_neg y, if_neg (show ¬ u + V + x.2 ≤ u + B.2 + x.2 by omega), if_neg (by omega)]
            · have eb : (if bOB m i e t = 0 ∧ B.2 < V then ((t : Int), V) else B) = B := if_neg (fun q => l q.2)
              rw [eb]
              have z : B.1 ≠ -1 := by omega
              rw [if_neg z, grA_s, grA_s]
              by_cases y : u + B.2 + x.2 ≤ s.2
              · rw [if_pos y, if_pos (by omega)]
              · rw [if_neg y, if_pos (show u + V + x.2 ≤ u + B.2 + x.2 by omega)]
          · have eb : (if bOB m i e t = 0 ∧ B.2 < V then ((t : Int), V) else B) = B := if_neg (fun q => o q.1)
            rw [if_neg o, eb]
      rw [lp _ (by omega)]
      by_cases z : (bbR (bMV m i e) (bOB m i e) (m 5000 28).toNat).1 = -1
      · rw [if_pos z, grd_n z]; rfl
      · rw [if_neg z, grd_y z hg, grA_s, grA_s]
        generalize bbR (bMV m i e) (bOB m i e) (m 5000 28).toNat = B
        show (if u + B.2 + x.2 ≤ s.2 then s else ((10 * w + B.1) * 10 ^ k + x.1, u + B.2 + x.2)) = if u + (B.2 + x.2) ≤ s.2 then s else (w * 10 ^ (k + 1) + (B.1 * 10 ^ k + x.1), u + (B.2 + x.2))
        have e1 : (10 * w + B.1) * 10 ^ k + x.1 = w * 10 ^ (k + 1) + (B.1 * 10 ^ k + x.1) := by
          rw [Int.pow_succ]
          generalize (10 : Int) ^ k = P
          have a1 : (10 * w + B.1) * P = 10 * (w * P) + B.1 * P := by rw [Int.add_mul, Int.mul_assoc]
          have a2 : w * (P * 10) = 10 * (w * P) := by rw [← Int.mul_assoc, Int.mul_comm]
          omega
        rw [e1, Int.add_assoc u]
theorem SA_rkV {σ τ : Mem} (h : SA σ τ) (hl : lawOk σ) (a b c d e f : Int) : rkV τ a b c d e f = rkV σ a b c d e f := by
  have hS : SP σ τ 16 := ⟨SA_r h (by omega), SA_r h (by omega), SA_r h (by omega), SA_r h (by omega), SA_r h (by omega), h.2, fun hw => h.1 _ (by unfold isLw at hw; omega) (by unfold isLw at hw; omega) (by unfold isLw at hw; omega) (by unfold isLw at hw; omega) (by unfold isLw at hw; omega) (by unfold isLw at hw; omega) (by unfold isLw at hw; omega) (by unfold isLw at hw; omega)⟩
  exact SP_rkV hS hl a b c d e f
theorem eqH_c {σ τ m : Mem} (h1 : ∀ k, pcnt τ 6 k = pcnt σ 6 k) (h2 : ∀ x y z, pval τ 6 x y z = pval σ 6 x y z) (h3 : ∀ a b c d e f, rkV τ a b c d e f = rkV σ a b c d e f) (h : eqH σ m) : eqH τ m := by
  obtain ⟨a1, a2, a3, a4, a5, a6, a7⟩ := h
  exact ⟨by rw [h1]; exact a1, by rw [h1]; exact a2, by rw [h1]; exact a3, by rw [h2]; exact a4, fun p k p0 p1 k0 k1 => by rw [h2]; exact a5 p k p0 p1 k0 k1, fun t t0 t1 => by rw [h2]; exact a6 t t0 t1, fun f g d n k e hd hn => by rw [h3]; exact a7 f g d n k e hd hn⟩
theorem eqH_m {σ m m' : Mem} (h5 : ∀ k, k = 28 ∨ k = 29 ∨ k = 30 ∨ k = 38 → m' 5000 k = m 5000 k) (h0 : ∀ b, b = 5002 ∨ b = 5003 ∨ b = 5005 ∨ b = 5007 ∨ b = 5011 → m' b = m b) (h : eqH σ m) : eqH σ m' := by
  obtain ⟨a1, a2, a3, a4, a5, a6, a7⟩ := h
  unfold eqH
  rw [h5 28 (by decide), h5 29 (by decide), h5 30 (by decide), h0 5005 (by decide), h0 5007 (by decide), h0 5011 (by decide)]
  refine ⟨a1, a2, a3, a4, a5, a6, fun f g d n k e hd hn => ?_⟩
  rw [a7 f g d n k e hd hn]
  unfold mRk
  rw [mwo_c (h0 5002 (by decide)) (h0 5003 (by decide)), h5 38 (by decide)]
theorem eqH_SA {σ τ m : Mem} (h : SA σ τ) (hl : lawOk σ) (hH : eqH σ m) : eqH τ m := eqH_c (SA_pcnt h) (SA_pval h) (SA_rkV h hl) hH
theorem mX_sv {m : Mem} (hx : mX m 5015) {r : Int → Int} (hr : aR (m 5000 29) (m 5000 30) r) : mX (setv m 5016 r) 5016 := by
  have hQ : QF m (setv m 5016 r) := ⟨fun b h1 h2 h3 h4 => setv_o _ _ (by omega), fun k _ _ _ _ _ _ _ => by rw [setv_o _ _ (by decide)]⟩
  exact QF_mX hQ (mOk_sv hx.2.1.1 (Or.inr rfl) r) hx hr (fun j _ _ => by rw [setv_s])
/-- who is ILL before EVENING k -/
def illA (i : Int) (k : Nat) : Int := if k = 0 then i else 0
theorem SF_SA {σ τ : Mem} (h : SF σ τ) : SA σ τ := SW_SA (SF_SW h)
theorem shP_SA {σ τ : Mem} {p : Int} (h : shP σ τ 21 p) : SA σ τ := ⟨fun b h0 h1 h2 h3 h4 h5 h6 h7 => h.1 b (by omega) (by omega) (by omega) (by omega) (by omega) (by omega) (by omega) (by omega) h4 h5 h6 h7, h.2.1⟩
/-- the audience apart is the reference's row with i and e -/
def eqB (τ m : Mem) (i e : Int) : Prop := (∀ c, 0 ≤ c → c < m 5000 29 → τ 22 c = m 5015 (4 * c) ∧ τ 23 c = m 5015 (4 * c + 1)) ∧ τ 21 4 = i ∧ τ 21 6 = e
theorem eqB_A {τ m : Mem} {i e : Int} (n6 : m 5000 29 ≤ 6) (h : eqB τ m i e) : eqA τ (setv m 5016 (bnR m i e)) 21 5016 := by
  have so5 : setv m 5016 (bnR m i e) 5000 = m 5000 := setv_o _ _ (by decide)
  unfold eqA
  rw [so5, setv_s]
  refine ⟨fun c c0 c1 => ?_, ?_, ?_⟩
  · unfold bnR
    rw [upf_n2 _ (by omega), upf_n2 _ (by omega), upf_n2 _ (by omega), upf_n2 _ (by omega)]
    exact h.1 c c0 c1
  · unfold bnR; rw [upf_n2 _ (by decide), upf_s2]; exact h.2.1
  · unfold bnR; rw [upf_s2]; exact h.2.2
theorem eqB_bb {τ m : Mem} {i e : Int} (hx : mX m 5015) (hH : eqH τ m) (h : eqB τ m i e) (i0 : 0 ≤ i) (i1 : i < 64) (e0 : 0 ≤ e) (e1 : e ≤ 2000) {p : Int} (p0 : 0 ≤ p) (p1 : p < m 5000 28) : bMv τ p = bMV m i e p ∧ bOb τ p = bOB m i e p := by
  have n29 := hx.2.1.2.2.1
  have so : ∀ b, b ≠ 5016 → setv m 5016 (bnR m i e) b = m b := fun b hb => setv_o _ _ hb
  have hA := eqB_A n29.2 h
  have hH' : eqH τ (setv m 5016 (bnR m i e)) := eqH_m (fun k _ => by rw [so 5000 (by decide)]) (fun b hb => so b (by omega)) hH
  have hx' := mX_sv hx (aR_bn n29.2 hx.2.2 i0 i1 e0 e1)
  have p1' : p < setv m 5016 (bnR m i e) 5000 28 := by rw [so 5000 (by decide)]; exact p1
  have s1 := play_sum hH' hA hx' p0 p1'
  have s2 := play_out hH' hA hx' p0 p1'
  unfold mMi at s1 s2
  rw [so 5007 (by decide)] at s1 s2
  rw [so 5000 (by decide)] at s1
  exact ⟨s1, s2⟩
theorem bn_fwd {σ m : Mem} (hH : eqH σ m) (hA : eqA σ m 16 5015) (hx : mX m 5015) (hl : lawOk σ) (he : m 5015 26 ≤ 1000) : ∀ (k : Nat) (r q : Int) (τ : Mem), k ≤ 4 → bnX k σ r q τ → SA σ τ ∧ eqB τ m (illA (m 5015 24) k) (m 5015 26 + k) ∧ 0 ≤ q ∧ ∀ K : Nat, grd (bMV m) (bOB m) (m 5000 28).toNat (k + K) (m 5015 24) (m 5015 26) = match grd (bMV m) (bOB m) (m 5000 28).toNat K (illA (m 5015 24) k) (m 5015 26 + k) with
      | none => none
      | some x => some (r * 10 ^ K + x.1, q + x.2) := by
  have n29 := hx.2.1.2.2.1
  have n28 := hx.2.1.2.2.2.2.1
  have r24 := hx.2.2.2.1
  have r26 := hx.2.2.2.2.2.1
  intro k
  induction k with
  | zero =>
    rintro r q τ _ ⟨rfl, rfl, rfl⟩
    have ha := apM_r σ
    refine ⟨SA_set _ _, ⟨fun c c0 c1 => ?_, ?_, ?_⟩, Int.le_refl _, fun K => ?_⟩
    · have h1 := ha.1 c c0 (by omega)
      rw [h1.1, h1.2.1]; exact hA.1 c c0 c1
    · rw [ha.2.1]; exact hA.2.1
    · rw [ha.2.2.2]
      have := hA.2.2
      show σ 16 6 = m 5015 26 + ((0 : Nat) : Int)
      omega
    · rw [Nat.zero_add]
      show _ = match grd (bMV m) (bOB m) (m 5000 28).toNat K (m 5015 24) (m 5015 26 + ((0 : Nat) : Int)) with
        | none => none
        | some x => some (0 * 10 ^ K + x.1, 0 + x.2)
      rw [show m 5015 26 + ((0 : Nat) : Int) = m 5015 26 by omega]
      cases grd (bMV m) (bOB m) (m 5000 28).toNat K (m 5015 24) (m 5015 26) with
      | none => rfl
      | some x => simp
  | succ k ih =>
    rintro r q τ hk ⟨υ, r0, q0, β, h1, h2, h3, h4, rfl, rfl⟩
    obtain ⟨g1, g2, g3, g4⟩ := ih r0 q0 υ (by omega) h1
    have hHu := eqH_SA g1 hl hH
    have ib : 0 ≤ illA (m 5015 24) k ∧ illA (m 5015 24) k < 64 := by unfold illA; split <;> omega
    have bb := fun (p : Int) (p0 : 0 ≤ p) (p1 : p < m 5000 28) => eqB_bb hx hHu g2 ib.1 ib.2 (by omega) (by omega) p0 p1
    have ebb : bbR (bMv υ) (bOb υ) (pcnt υ 6 1).toNat = bbR (bMV m (illA (m 5015 24) k) (m 5015 26 + k)) (bOB m (illA (m 5015 24) k) (m 5015 26 + k)) (m 5000 28).toNat := by
      rw [hHu.2.1]
      exact bbR_cong _ (fun p a b => bb p a (by omega))
    have bn := bbR_n (mv := bMv υ) (ob := bOb υ) (pcnt υ 6 1).toNat (fun p a b => by
      rw [hHu.2.1] at b
      rw [(bb p a (by omega)).1]
      exact (rMv_b hx ⟨a, by omega⟩).1)
    have h3' : (bbR (bMv υ) (bOb υ) (pcnt υ 6 1).toNat).1 ≠ -1 := h3
    rcases bn with bn | ⟨b0, b1, b2, b3, b4⟩
    · exact absurd bn.1 h3'
    rw [hHu.2.1] at b1
    have hlu : lawOk υ := SA_lawOk g1 hl
    have pe : ∀ i, pFl β 21 (bst υ) i = pFl υ 21 (bst υ) i ∧ pOa β 21 (bst υ) i = pOa υ 21 (bst υ) i := fun i => by
      have e1 := SF_a h2 (a := 21) (Or.inr rfl)
      have gm : gmv β 21 = gmv υ 21 := by
        funext t p i n k
        unfold gmv
        rw [e1.1, e1.2.1, SF_pval h2, SF_pval h2, SF_rkV h2 hlu]
      unfold pFl pOa
      rw [gm, e1.2.2.1, SF_pval h2, SF_pval h2, SF_pcnt h2]
      exact ⟨rfl, rfl⟩
    have qe : sumC (pFl β 21 (bst υ)) (pcnt β 6 2).toNat = (bbR (bMv υ) (bOb υ) (pcnt υ 6 1).toNat).2 := by
      rw [b3, SF_pcnt h2]
      exact sumC_cong (fun i _ _ => (pe i).1)
    have hSA : SA σ τ := SA_tr g1 (SA_tr (SF_SA h2) (shP_SA h4))
    have c2 : pcnt υ 6 2 = m 5000 29 := hHu.1
    refine ⟨hSA, ⟨fun c c0 c1 => ?_, ?_, ?_⟩, by rw [qe]; omega, fun K => ?_⟩
    · have e1 := SF_a h2 (a := 21) (Or.inr rfl)
      have oa : pOa β 21 (bst υ) c = -1 := by
        rw [(pe c).2]
        have b2' : outB (pOa υ 21 (bst υ)) (pcnt υ 6 2).toNat = 0 := b2
        have gbt := gb_bit (fun i => decide (pOa υ 21 (bst υ) i ≠ -1)) c0 (by omega) (pcnt υ 6 2).toNat (by omega)
        rw [show gb (fun i => decide (pOa υ 21 (bst υ) i ≠ -1)) (pcnt υ 6 2).toNat = 0 from b2', bt_0] at gbt
        refine Classical.byContradiction (fun y => ?_)
        rw [if_pos ⟨by omega, decide_eq_true y⟩] at gbt
        omega
      have t22 := h4.2.2.2.1 c
      rw [if_neg (fun y => y.2.2 oa)] at t22
      have t23 : τ 23 = β 23 := h4.1 23 (by decide) (by decide) (by decide) (by decide) (by decide) (by decide) (by decide) (by decide) (by decide) (by decide) (by decide) (by decide)
      have e22 : β 22 = υ 22 := e1.2.1
      have e23 : β 23 = υ 23 := e1.2.2.1
      have t22' : τ 22 c = β 22 c := t22
      rw [t22', t23, e22, e23]
      exact g2.1 c c0 c1
    · have := h4.2.2.1 4
      rw [if_pos rfl] at this
      rw [this]; rfl
    · have := h4.2.2.1 6
      rw [if_neg (by decide), if_pos rfl] at this
      have e1 := SF_a h2 (a := 21) (Or.inr rfl)
      rw [this, e1.1, g2.2.2]
      omega
    · have g9 := g4 (K + 1)
      rw [show k + (K + 1) = k + 1 + K by omega] at g9
      have ez : illA (m 5015 24) (k + 1) = 0 := rfl
      rw [g9, ez, show m 5015 26 + ((k + 1 : Nat) : Int) = m 5015 26 + k + 1 by omega]
      cases hg : grd (bMV m) (bOB m) (m 5000 28).toNat K 0 (m 5015 26 + k + 1) with
      | none => rw [grd_m hg]
      | some x =>
        rw [ebb] at h3'
        rw [grd_y h3' hg, qe]
        have ebs : bst υ = (bbR (bMV m (illA (m 5015 24) k) (m 5015 26 + k)) (bOB m (illA (m 5015 24) k) (m 5015 26 + k)) (m 5000 28).toNat).1 := by
          show (bbR (bMv υ) (bOb υ) (pcnt υ 6 1).toNat).1 = _
          rw [ebb]
        rw [ebs, ebb]
        generalize bbR (bMV m (illA (m 5015 24) k) (m 5015 26 + k)) (bOB m (illA (m 5015 24) k) (m 5015 26 + k)) (m 5000 28).toNat = Y
        show some (r0 * 10 ^ (K + 1) + (Y.1 * 10 ^ K + x.1), q0 + (Y.2 + x.2)) = some ((10 * r0 + Y.1) * 10 ^ K + x.1, q0 + Y.2 + x.2)
        have a1 : (10 * r0 + Y.1) * 10 ^ K + x.1 = r0 * 10 ^ (K + 1) + (Y.1 * 10 ^ K + x.1) := by
          rw [Int.pow_succ]
          generalize (10 : Int) ^ K = P
          have a1 : (10 * r0 + Y.1) * P = 10 * (r0 * P) + Y.1 * P := by rw [Int.add_mul, Int.mul_assoc]
          have a2 : r0 * (P * 10) = 10 * (r0 * P) := by rw [← Int.mul_assoc, Int.mul_comm]
          omega
        rw [a1, Int.add_assoc q0]
/-- BORNE, when a PLAY is found for each EVENING -/
theorem borne_y {σ m : Mem} (hH : eqH σ m) (hA : eqA σ m 16 5015) (hx : mX m 5015) (hl : lawOk σ) (he : m 5015 26 ≤ 1000) {N : Nat} (N4 : N ≤ 4) {r q : Int} {τ : Mem} (h : bnX N σ r q τ) : bnF m N (m 5015 24) (m 5015 26) 0 0 (-1, -1) = (r, q) := by
  obtain ⟨g1, g2, g3, g4⟩ := bn_fwd hH hA hx hl he N r q τ N4 h
  have g5 := g4 0
  rw [Nat.add_zero] at g5
  have : grd (bMV m) (bOB m) (m 5000 28).toNat N (m 5015 24) (m 5015 26) = some (r, q) := by
    rw [g5]
    show some (r * 10 ^ 0 + 0, q + 0) = some (r, q)
    simp
  rw [bnF_gr hx, this, grA_s, if_neg (show ¬ (0 : Int) + q ≤ -1 by omega)]
  simp
/-- BORNE, when none is found for some EVENING -/
theorem borne_n {σ m : Mem} (hH : eqH σ m) (hA : eqA σ m 16 5015) (hx : mX m 5015) (hl : lawOk σ) (he : m 5015 26 ≤ 1000) {N k : Nat} (N4 : N ≤ 4) (hk : k < N) {r q : Int} {υ : Mem} (h : bnX k σ r q υ) (hb : bst υ = -1) : bnF m N (m 5015 24) (m 5015 26) 0 0 (-1, -1) = (-1, -1) := by
  obtain ⟨g1, g2, g3, g4⟩ := bn_fwd hH hA hx hl he k r q υ (by omega) h
  have n28 := hx.2.1.2.2.2.2.1
  have r24 := hx.2.2.2.1
  have r26 := hx.2.2.2.2.2.1
  have hHu := eqH_SA g1 hl hH
  have ib : 0 ≤ illA (m 5015 24) k ∧ illA (m 5015 24) k < 64 := by unfold illA; split <;> omega
  have ebb : bbR (bMv υ) (bOb υ) (pcnt υ 6 1).toNat = bbR (bMV m (illA (m 5015 24) k) (m 5015 26 + k)) (bOB m (illA (m 5015 24) k) (m 5015 26 + k)) (m 5000 28).toNat := by
    rw [hHu.2.1]
    exact bbR_cong _ (fun p a b => eqB_bb hx hHu g2 ib.1 ib.2 (by omega) (by omega) a (by omega))
  have hb' : (bbR (bMv υ) (bOb υ) (pcnt υ 6 1).toNat).1 = -1 := hb
  rw [ebb] at hb'
  have g5 := g4 (N - k - 1 + 1)
  rw [show k + (N - k - 1 + 1) = N by omega, grd_n hb'] at g5
  rw [bnF_gr hx, g5]
  rfl
/-! HALVES, MEANT, HARDENS, WHOSE, FOLLOWING, GAME, RESTS are the same -/
theorem srR_c {P P' : Int → Prop} {val : Int → Int} {i : Int} : ∀ (n : Nat) (k c : Int), (∀ x, k ≤ x → x < k + n → (P x ↔ P' x)) → srR P val i n k c = srR P' val i n k c := by
  intro n
  induction n with
  | zero => intro k c _; rw [srR, srR]
  | succ n ih =>
    intro k c h
    have hk := h k (by omega) (by omega)
    by_cases q : P k
    · rw [srR_t q, srR_t (hk.mp q), ih (k + 1) (c + 1) (fun x a b => h x (by omega) (by omega))]
    · rw [srR_f q, srR_f (fun y => q (hk.mpr y)), ih (k + 1) c (fun x a b => h x (by omega) (by omega))]
theorem sOv_n {f g : Int → Int} {x : Int} {n : Nat} (n6 : n ≤ 6) (x0 : 0 ≤ x) (x1 : x < 2 ^ n) (h : ∀ c : Int, 0 ≤ c → c < n → f c = g c) : sOv f x 6 = sOv g x n := by
  obtain ⟨d, hd⟩ : ∃ d, n + d = 6 := ⟨6 - n, by omega⟩
  have e := sumC_tail (f := fun c => if bt x c = 1 then f c else 0) (n := n) d (fun i a b => by
    show (if bt x i = 1 then f i else 0) = 0
    rw [if_neg (fun q => by have := bt_lt n6 x0 x1 (by omega) (by omega) q; omega)])
  rw [hd] at e
  rw [sOv_sum, sOv_sum, e]
  refine sumC_cong (fun i i0 i1 => ?_)
  rw [h i i0 i1]
theorem halves_eq {f g : Int → Int} {n : Nat} (n6 : n ≤ 6) (h : ∀ c : Int, 0 ≤ c → c < n → f c = g c) (s i : Int) : srR (fun k => sOv f k 6 = s) id i (2 ^ n) 0 0 = srR (fun x => sOv g x n = s) id i (2 ^ n) 0 0 := by
  refine srR_c _ _ _ (fun x x0 x1 => ?_)
  have x2 : x < 2 ^ n := by
    have : ((2 ^ n : Nat) : Int) = (2 : Int) ^ n := Int.natCast_pow 2 n
    omega
  rw [sOv_n n6 x0 x2 h]
theorem mnU_s (f : Int → Int) (h : Int) (n k : Nat) : mnU f h n (k + 1) = if h ≤ sOv f k n ∧ (mnU f h n k = -1 ∨ popc k < popc (mnU f h n k)) then (k : Int) else mnU f h n k := rfl
theorem mnR_s (f : Int → Int) (h : Int) (k : Nat) (b : Int) : mnR f h (k + 1) b = mnR f h k (if h ≤ sOv f k 6 ∧ popc k ≤ popc b then k else b) := rfl
theorem mnU_c {f : Int → Int} {h : Int} {n : Nat} : ∀ K : Nat, (mnU f h n K = -1 ∧ ∀ x : Int, 0 ≤ x → x < K → ¬ h ≤ sOv f x n) ∨ (0 ≤ mnU f h n K ∧ mnU f h n K < K ∧ h ≤ sOv f (mnU f h n K) n ∧ ∀ x : Int, 0 ≤ x → x < K → h ≤ sOv f x n → popc (mnU f h n K) ≤ popc x ∧ (popc x = popc (mnU f h n K) → mnU f h n K ≤ x)) := by
  intro K
  induction K with
  | zero => exact Or.inl ⟨rfl, fun x a b => by omega⟩
  | succ K ih =>
    rw [mnU_s]
    by_cases c : h ≤ sOv f K n ∧ (mnU f h n K = -1 ∨ popc K < popc (mnU f h n K))
    · rw [if_pos c]
      refine Or.inr ⟨by omega, by omega, c.1, fun x x0 x1 hx => ?_⟩
      by_cases e : x = K
      · rw [e]; exact ⟨Int.le_refl _, fun _ => Int.le_refl _⟩
      · rcases ih with ⟨a1, a2⟩ | ⟨a1, a2, a3, a4⟩
        · exact absurd hx (a2 x x0 (by omega))
        · have := a4 x x0 (by omega) hx
          rcases c.2 with c2 | c2
          · omega
          · exact ⟨by omega, fun q => by omega⟩
    · rw [if_neg c]
      rcases ih with ⟨a1, a2⟩ | ⟨a1, a2, a3, a4⟩
      · refine Or.inl ⟨a1, fun x x0 x1 hx => ?_⟩
        by_cases e : x = K
        · rw [e] at hx; exact c ⟨hx, Or.inl a1⟩
        · exact a2 x x0 (by omega) hx
      · refine Or.inr ⟨a1, by omega, a3, fun x x0 x1 hx => ?_⟩
        by_cases e : x = K
        · rw [e] at hx ⊢
          have : ¬ popc K < popc (mnU f h n K) := fun q => c ⟨hx, Or.inr q⟩
          exact ⟨by omega, fun _ => by omega⟩
        · exact a4 x x0 (by omega) hx
theorem mnR_c {f : Int → Int} {h : Int} : ∀ (K : Nat) (b : Int), (K : Int) ≤ b → h ≤ sOv f b 6 → h ≤ sOv f (mnR f h K b) 6 ∧ (mnR f h K b = b ∨ (0 ≤ mnR f h K b ∧ mnR f h K b < K)) ∧ popc (mnR f h K b) ≤ popc b ∧ ∀ x : Int, 0 ≤ x → x < K → h ≤ sOv f x 6 → popc (mnR f h K b) ≤ popc x ∧ (popc x = popc (mnR f h K b) → mnR f h K b ≤ x) := by
  intro K
  induction K with
  | zero => intro b hb hv; exact ⟨hv, Or.inl rfl, Int.le_refl _, fun x a b => by omega⟩
  | succ K ih =>
    intro b hb hv
    rw [mnR_s]
    by_cases c : h ≤ sOv f K 6 ∧ popc K ≤ popc b
    · rw [if_pos c]
      obtain ⟨a1, a2, a3, a4⟩ := ih K (Int.le_refl _) c.1
      refine ⟨a1, ?_, by omega, fun x x0 x1 hx => ?_⟩
      · rcases a2 with e | e
        · exact Or.inr ⟨by omega, by omega⟩
        · exact Or.inr ⟨e.1, by omega⟩
      · by_cases e : x = K
        · rw [e]; exact ⟨a3, fun _ => by rcases a2 with e | e <;> omega⟩
        · exact a4 x x0 (by omega) hx
    · rw [if_neg c]
      obtain ⟨a1, a2, a3, a4⟩ := ih b (by omega) hv
      refine ⟨a1, ?_, a3, fun x x0 x1 hx => ?_⟩
      · rcases a2 with e | e
        · exact Or.inl e
        · exact Or.inr ⟨e.1, by omega⟩
      · by_cases e : x = K
        · rw [e] at hx ⊢
          have : ¬ popc K ≤ popc b := fun q => c ⟨hx, q⟩
          exact ⟨by omega, fun _ => by omega⟩
        · exact a4 x x0 (by omega) hx
theorem meant_eq {f g : Int → Int} {n : Nat} (n6 : n ≤ 6) (h : ∀ c : Int, 0 ≤ c → c < n → f c = g c) {v : Int} (hv : v ≤ sumC f n) : mnR f v (2 ^ n) (2 ^ n - 1) = mnU g v n (2 ^ n) := by
  have pn : ((2 ^ n : Nat) : Int) = (2 : Int) ^ n := Int.natCast_pow 2 n
  have f6 := full_64 n6
  have es : ∀ x : Int, 0 ≤ x → x < 2 ^ n → sOv f x 6 = sOv g x n := fun x x0 x1 => sOv_n n6 x0 x1 h
  have hf : v ≤ sOv f (2 ^ n - 1) 6 := by
    rw [sOv_full f n6 6 (Nat.le_refl _), show min 6 n = n by omega]; exact hv
  have p1 : (0 : Int) < 2 ^ n := Int.pow_pos (by decide)
  obtain ⟨k, hk⟩ : ∃ k : Nat, 2 ^ n = k + 1 := ⟨2 ^ n - 1, by omega⟩
  have ek : (2 : Int) ^ n - 1 = k := by omega
  have r1 : mnR f v (2 ^ n) (2 ^ n - 1) = mnR f v k k := by
    rw [hk, mnR_s, ek, if_pos ⟨by rw [← ek]; exact hf, Int.le_refl _⟩]
  obtain ⟨a1, a2, a3, a4⟩ := mnR_c (f := f) (h := v) k k (Int.le_refl _) (by rw [← ek]; exact hf)
  rw [r1]
  have ay : 0 ≤ mnR f v k k ∧ mnR f v k k < 2 ^ n := by rcases a2 with e | e <;> omega
  rcases mnU_c (f := g) (h := v) (n := n) (2 ^ n) with ⟨b1, b2⟩ | ⟨b1, b2, b3, b4⟩
  · exact absurd (by rw [← es _ (by omega) (by omega)]; rw [← ek]; exact hf) (b2 k (by omega) (by omega))
  · have c1 := b4 (mnR f v k k) ay.1 (by omega) (by rw [← es _ ay.1 ay.2]; exact a1)
    have b3' : v ≤ sOv f (mnU g v n (2 ^ n)) 6 := by rw [es _ b1 (by omega)]; exact b3
    have c2 : popc (mnR f v k k) ≤ popc (mnU g v n (2 ^ n)) ∧ (popc (mnU g v n (2 ^ n)) = popc (mnR f v k k) → mnR f v k k ≤ mnU g v n (2 ^ n)) := by
      by_cases e : mnU g v n (2 ^ n) = k
      · rw [e]; exact ⟨a3, fun _ => by omega⟩
      · exact a4 _ b1 (by omega) b3'
    have e1 := c1.2 (by omega)
    have e2 := c2.2 (by omega)
    omega
theorem hdR_c {f g : Int → Int} : ∀ n : Nat, (∀ v : Int, 0 ≤ v → v < n → f v = g v) → hdR f n = hdR g n := by
  intro n
  induction n with
  | zero => intro _; rfl
  | succ n ih =>
    intro h
    show (if f n = -1 then (n : Int) else hdR f n) = if g n = -1 then (n : Int) else hdR g n
    rw [ih (fun v a b => h v a (by omega)), h n (by omega) (by omega)]
theorem hard_eq {σ m : Mem} (hH : eqH σ m) (hA : eqA σ m 16 5015) (hx : mX m 5015) (hl : lawOk σ) {c p : Int} (c0 : 0 ≤ c) (c1 : c < m 5000 29) (p0 : 0 ≤ p) (p1 : p < m 5000 28) : hdR (hdO σ c p) 10 = hdR (hdM m c p) 10 := by
  have n29 := hx.2.1.2.2.1
  have l27 := hx.2.2.2.2.2.2
  refine hdR_c 10 (fun v v0 v1 => ?_)
  have hxt := mX_trC hx
  have k5 : ∀ k, k ≠ 0 → trC m 5000 k = m 5000 k := fun k hk => by rw [trC_o m (by decide)]; exact th_k m hk
  have so : ∀ b, b ≠ 5016 → b ≠ 5000 → up (trC m) 5016 (4 * c) v b = m b := fun b h1 h2 => by rw [up_na _ h1, trC_o m h1]; exact th_o m h2
  have so5 : ∀ k, k ≠ 0 → up (trC m) 5016 (4 * c) v 5000 k = m 5000 k := fun k hk => by rw [up_na _ (by decide)]; exact k5 k hk
  have hx' : mX (up (trC m) 5016 (4 * c) v) 5016 := mX_r16 hxt (by
    have hrr := hxt.2.2
    rw [k5 29 (by decide), k5 30 (by decide)] at hrr ⊢
    exact aR_he n29.2 hrr c0 c1 v0 (by omega))
  have hS : SA σ (up (apM σ) 22 c v) := SA_up (SA_set _ _) ⟨by decide, by decide⟩
  have hH' : eqH (up (apM σ) 22 c v) (up (trC m) 5016 (4 * c) v) := eqH_m (fun k hk => so5 k (by omega)) (fun b hb => so b (by omega) (by omega)) (eqH_SA hS hl hH)
  have ha := apM_r σ
  have hA' : eqA (up (apM σ) 22 c v) (up (trC m) 5016 (4 * c) v) 21 5016 := by
    unfold eqA
    rw [so5 29 (by decide)]
    refine ⟨fun d d0 d1 => ?_, ?_, ?_⟩
    · have h1 := ha.1 d d0 (by omega)
      have h2 := hA.1 d d0 d1
      have t1 : trC m 5016 (4 * d) = m 5015 (4 * d) := trC_j l27.1 (by omega) (by omega)
      have t2 : trC m 5016 (4 * d + 1) = m 5015 (4 * d + 1) := trC_j l27.1 (by omega) (by omega)
      refine ⟨?_, ?_⟩
      · show up (apM σ) 22 c v 22 d = _
        by_cases e : d = c
        · rw [e, up_s, up_s]
        · rw [up_nj _ e, up_nj _ (by omega), h1.1, t1]; exact h2.1
      · show up (apM σ) 22 c v 23 d = _
        rw [up_na _ (by decide), up_nj _ (by omega), h1.2.1, t2]; exact h2.2
    · rw [up_na _ (by decide), up_nj _ (by omega), ha.2.1, trC_j l27.1 (by decide) (by decide)]; exact hA.2.1
    · rw [up_na _ (by decide), up_nj _ (by omega), ha.2.2.2, trC_j l27.1 (by decide) (by decide)]; exact hA.2.2
  have e := (play_eq hH' hA' hx' p0 (by rw [so5 28 (by decide)]; exact p1) c0 (by rw [so5 29 (by decide)]; exact c1)).2
  unfold mMi at e
  rw [so 5007 (by decide) (by decide)] at e
  exact e
theorem cn_eq {s r : Int → Int} {c t : Int} {n : Nat} (n6 : n ≤ 6) (hs : ∀ d : Int, 0 ≤ d → d < n → s d = r (4 * d + 1)) (c0 : 0 ≤ c) (c1 : c < n) : popc (hbits s t n) - bt (hbits s t n) c + 1 = cnR r c t n := by
  have g := hbits_64 s t n6
  have e1 : popc (hbits s t n) = sumC (fun d => if s d = t then 1 else 0) n := by
    rw [popc_sum g.1 g.2]
    have := G_sum (fun _ => 1) s t n6
    rw [← this]
    refine sumC_cong (fun i i0 i1 => ?_)
    have := bt_b (hbits s t n) i
    by_cases y : bt (hbits s t n) i = 1
    · rw [if_pos y, y]
    · rw [if_neg y]; omega
  have e2 : bt (hbits s t n) c = if s c = t then 1 else 0 := by
    rw [hbits_bit s t c0 (by omega) n6]
    by_cases y : s c = t
    · rw [if_pos ⟨c1, y⟩, if_pos y]
    · rw [if_neg (fun z => y z.2), if_neg y]
  have e3 : ∀ k : Nat, k ≤ n → cnR r c t k = 1 + sumC (fun d => if s d = t then 1 else 0) k - if c < k ∧ s c = t then 1 else 0 := by
    intro k
    induction k with
    | zero => intro _; rw [if_neg (by omega)]; rfl
    | succ k ih =>
      intro hk
      have hsk := hs k (by omega) (by omega)
      show cnR r c t k + (if (k : Int) ≠ c ∧ r (4 * k + 1) = t then 1 else 0) = _
      rw [ih (by omega), sumC_s, ← hsk]
      by_cases e : (k : Int) = c
      · rw [if_neg (fun z => z.1 e), if_neg (show ¬ (c < (k : Int) ∧ s c = t) by omega)]
        by_cases y : s c = t
        · rw [e, if_pos y, if_pos ⟨by omega, y⟩]; omega
        · rw [e, if_neg y, if_neg (fun z => y z.2)]; omega
      · have : (c < ((k + 1 : Nat) : Int) ∧ s c = t) ↔ (c < (k : Int) ∧ s c = t) := by constructor <;> (intro z; exact ⟨by omega, z.2⟩)
        by_cases y : s k = t
        · rw [if_pos ⟨e, y⟩, if_pos y]
          by_cases q : c < (k : Int) ∧ s c = t
          · rw [if_pos q, if_pos (this.mpr q)]; omega
          · rw [if_neg q, if_neg (fun z => q (this.mp z))]; omega
        · rw [if_neg (fun z => y z.2), if_neg y]
          by_cases q : c < (k : Int) ∧ s c = t
          · rw [if_pos q, if_pos (this.mpr q)]; omega
          · rw [if_neg q, if_neg (fun z => q (this.mp z))]; omega
  rw [e1, e2, e3 n (Nat.le_refl _)]
  by_cases y : s c = t
  · rw [if_pos y, if_pos ⟨c1, y⟩]; omega
  · rw [if_neg y, if_neg (fun z => y z.2)]; omega
theorem whF_eq {σ m : Mem} (hH : eqH σ m) (hA : eqA σ m 16 5015) (hx : mX m 5015) {c t p k v : Int} (c0 : 0 ≤ c) (c1 : c < m 5000 29) (t0 : 0 ≤ t) (t1 : t < m 5000 30) (p0 : 0 ≤ p) (p1 : p < m 5000 28) (k0 : 0 ≤ k) (k8 : k ≤ 8) : whF σ c t p k v = if v ≤ mvW m c t p k then 1 else 0 := by
  obtain ⟨e2, e1, e3, eL, eP, eD, eR⟩ := hH
  obtain ⟨hw, ⟨hmo, hlw, n29, n30, n28, b7, b11, b5, -⟩, r1, r24, r25, r26, r27⟩ := hx
  obtain ⟨n, hn⟩ : ∃ n : Nat, m 5000 29 = n := ⟨(m 5000 29).toNat, by omega⟩
  have rd := r1 c c0 c1
  have f9 := b7 (4 * p + k % 3) (by omega) (by omega)
  have d9 := b11 t t0 (by omega)
  have ec : cnO σ c t = cnR (m 5015) c t n := by
    unfold cnO
    rw [e2, hn, Int.toNat_natCast]
    exact cn_eq (by omega) (fun d d0 d1 => (hA.1 d d0 (by omega)).2) c0 (by omega)
  have cb := cnR_b (m 5015) c t n
  unfold whF mvW
  rw [eP p 3 p0 p1 (by decide) (by decide), hn, Int.toNat_natCast]
  by_cases q : m 5007 (4 * p + 3) ≤ k
  · rw [if_pos q, if_pos q]
  · rw [if_neg q, if_neg q, eP p (k % 3) p0 p1 (by omega) (by omega), eD t t0 t1, (show σ 17 c = m 5015 (4 * c) from (hA.1 c c0 c1).1), ec, eR _ _ _ _ _ _ ⟨f9.1, f9.2, rd.1.1, rd.1.2, d9.1, d9.2, by omega, by omega, k0, by omega, by decide, by decide⟩ cb.1]
/-- the same howls -/
def eqW (σ m : Mem) : Prop := σ 41 4 = m 5000 53 ∧ (∀ j, 0 ≤ j → j < 5 * m 5000 53 → σ 42 j = m 5024 j) ∧ ∀ j, 0 ≤ j → j < m 5000 53 → (0 ≤ m 5024 (5 * j) ∧ m 5024 (5 * j) < m 5000 29) ∧ (0 ≤ m 5024 (5 * j + 1) ∧ m 5024 (5 * j + 1) < m 5000 28)
theorem fit_eq {σ m : Mem} (hH : eqH σ m) (hA : eqA σ m 16 5015) (hx : mX m 5015) (hW : eqW σ m) (hw : hwO m) {c t : Int} (c0 : 0 ≤ c) (c1 : c < m 5000 29) (t0 : 0 ≤ t) (t1 : t < m 5000 30) : fitP σ c t (σ 41 4) ↔ fiP m c t (m 5000 53) := by
  obtain ⟨w1, w2, w3⟩ := hW
  unfold fitP fiP
  rw [w1]
  have key : ∀ j : Int, 0 ≤ j → j < m 5000 53 → ((whF σ c t (m 5024 (5 * j + 1)) (m 5024 (5 * j + 2)) (m 5024 (5 * j + 3)) = if m 5024 (5 * j + 4) = 1 then 1 else 0) ↔ (m 5024 (5 * j + 3) ≤ mvW m c t (m 5024 (5 * j + 1)) (m 5024 (5 * j + 2)) ↔ m 5024 (5 * j + 4) = 1)) := by
    intro j j0 j1
    have b := hw.2 j j0 j1
    have b2 := w3 j j0 j1
    rw [whF_eq hH hA hx c0 c1 t0 t1 b2.2.1 b2.2.2 b.2.2.1.1 b.2.2.1.2]
    by_cases q : m 5024 (5 * j + 3) ≤ mvW m c t (m 5024 (5 * j + 1)) (m 5024 (5 * j + 2))
    · rw [if_pos q]
      by_cases y : m 5024 (5 * j + 4) = 1
      · rw [if_pos y]; exact ⟨fun _ => ⟨fun _ => y, fun _ => q⟩, fun _ => rfl⟩
      · rw [if_neg y]; exact ⟨fun z => absurd z (by decide), fun z => absurd (z.mp q) y⟩
    · rw [if_neg q]
      by_cases y : m 5024 (5 * j + 4) = 1
      · rw [if_pos y]; exact ⟨fun z => absurd z (by decide), fun z => absurd (z.mpr y) q⟩
      · rw [if_neg y]; exact ⟨fun _ => ⟨fun z => absurd z q, fun z => absurd z y⟩, fun _ => rfl⟩
  constructor
  · intro h j j0 j1 hc
    have := h j j0 j1 (by rw [w2 _ (by omega) (by omega)]; exact hc)
    rw [w2 _ (by omega) (by omega), w2 _ (by omega) (by omega), w2 _ (by omega) (by omega), w2 _ (by omega) (by omega)] at this
    exact (key j j0 j1).mp this
  · intro h j j0 j1 hc
    rw [w2 _ (by omega) (by omega)] at hc
    rw [w2 _ (by omega) (by omega), w2 _ (by omega) (by omega), w2 _ (by omega) (by omega), w2 _ (by omega) (by omega)]
    exact (key j j0 j1).mpr (h j j0 j1 hc)
theorem sus_eq {σ m : Mem} (hH : eqH σ m) (hA : eqA σ m 16 5015) (hx : mX m 5015) (hW : eqW σ m) (hw : hwO m) {c : Int} (c0 : 0 ≤ c) (c1 : c < m 5000 29) : susS σ c = gb (fiB m c) (m 5000 30).toNat := by
  unfold susS
  rw [hH.2.2.1]
  refine gb_cong (fun t t0 t1 => ?_)
  have k := fit_eq hH hA hx hW hw c0 c1 t0 (show t < m 5000 30 by omega)
  by_cases q : fitP σ c t (σ 41 4)
  · rw [fitB_t.mpr q, fiB_t (k.mp q)]
  · rw [fiB_f (fun z => q (k.mpr z))]
    cases hh : fitB σ c t with
    | false => rfl
    | true => exact absurd (fitB_t.mp hh) q
theorem gap_eq {σ m : Mem} (hH : eqH σ m) (hA : eqA σ m 16 5015) (hx : mX m 5015) {c S p k v : Int} (c0 : 0 ≤ c) (c1 : c < m 5000 29) (p0 : 0 ≤ p) (p1 : p < m 5000 28) (k0 : 0 ≤ k) (k8 : k ≤ 8) (hS : ∀ i : Int, m 5000 30 ≤ i → i < 6 → bt S i = 0) : gpA σ c S p k v = lnA m c S p k v := by
  have n30 := hx.2.1.2.2.2.1
  have e1 : ∀ j : Nat, (j : Int) ≤ m 5000 30 → gpF σ c S p k v j = lnG m c S p k v j := by
    intro j
    induction j with
    | zero => intro _; rfl
    | succ j ih =>
      intro hj
      show gpF σ c S p k v j + (if bt S j = 1 then (if whF σ c j p k v = 1 then 1 else -1) else 0) = lnG m c S p k v j + (if bt S j = 1 then (if v ≤ mvW m c j p k then 1 else -1) else 0)
      rw [ih (by omega), whF_eq hH hA hx c0 c1 (by omega) (by omega) p0 p1 k0 k8]
      by_cases q : v ≤ mvW m c j p k
      · rw [if_pos q, if_pos rfl, if_pos q]
      · rw [if_neg q, if_neg (show ¬ (0 : Int) = 1 by decide), if_neg q]
  have e2 : ∀ d : Nat, (m 5000 30).toNat + d ≤ 6 → gpF σ c S p k v ((m 5000 30).toNat + d) = gpF σ c S p k v (m 5000 30).toNat := by
    intro d
    induction d with
    | zero => intro _; rfl
    | succ d ih =>
      intro hd
      rw [← Nat.add_assoc]
      show gpF σ c S p k v ((m 5000 30).toNat + d) + (if bt S (((m 5000 30).toNat + d : Nat) : Int) = 1 then _ else 0) = _
      rw [ih (by omega), hS _ (by omega) (by omega), if_neg (by decide), Int.add_zero]
  have e3 := e2 (6 - (m 5000 30).toNat) (by omega)
  rw [show (m 5000 30).toNat + (6 - (m 5000 30).toNat) = 6 by omega, e1 _ (by omega)] at e3
  unfold gpA lnA
  rw [e3]
/-- the questions: the same so far -/
def qSt (s u : Int × Int) : Prop := s.1 = u.1 ∧ ((s.1 = -1 ∧ s.2 = 7) ∨ (s.1 ≠ -1 ∧ s.2 = u.2))
theorem qSt_s {s u : Int × Int} {g x : Int} (h : qSt s u) (g0 : g ≤ 6) (x0 : 0 ≤ x) : qSt (nqS g x s) (msS g x u) := by
  obtain ⟨h1, h2⟩ := h
  unfold nqS msS
  rcases h2 with h2 | h2
  · rw [if_pos (by omega), if_pos (Or.inl (by omega))]
    exact ⟨rfl, Or.inr ⟨by show x ≠ -1; omega, rfl⟩⟩
  · by_cases c : g < s.2
    · rw [if_pos c, if_pos (Or.inr (by omega))]
      exact ⟨rfl, Or.inr ⟨by show x ≠ -1; omega, rfl⟩⟩
    · rw [if_neg c, if_neg (by omega)]
      exact ⟨h1, Or.inr h2⟩
theorem foll_eq {σ m : Mem} (hH : eqH σ m) (hA : eqA σ m 16 5015) (hx : mX m 5015) {c S v : Int} (c0 : 0 ≤ c) (c1 : c < m 5000 29) (hS : ∀ i : Int, m 5000 30 ≤ i → i < 6 → bt S i = 0) : (nqO σ c S v (pcnt σ 6 1).toNat).1 = (msO m c S v (m 5000 28).toNat).1 := by
  have n30 := hx.2.1.2.2.2.1
  have key : ∀ p : Nat, (p : Int) ≤ m 5000 28 → qSt (nqO σ c S v p) (msO m c S v p) := by
    intro p
    induction p with
    | zero => intro _; exact ⟨rfl, Or.inl ⟨rfl, rfl⟩⟩
    | succ p ih =>
      intro hp
      have m9 := mMi_9 hx (p := p) (by omega) (by omega)
      have em : pval σ 6 1 p 3 = m 5007 (4 * p + 3) := hH.2.2.2.2.1 p 3 (by omega) (by omega) (by decide) (by decide)
      have inn : ∀ k : Nat, (k : Int) ≤ m 5007 (4 * p + 3) → qSt (nqI σ c S v p (nqO σ c S v p) k) (msI m c S v p (msO m c S v p) k) := by
        intro k
        induction k with
        | zero => intro _; exact ih (by omega)
        | succ k ihk =>
          intro hk
          show qSt (nqS (gpA σ c S p k v) (10 * p + k) (nqI σ c S v p (nqO σ c S v p) k)) (msS (lnA m c S p k v) (10 * p + k) (msI m c S v p (msO m c S v p) k))
          rw [gap_eq hH hA hx c0 c1 (by omega) (by omega) (by omega) (by omega) hS]
          exact qSt_s (ihk (by omega)) (lnA_b m c S p k v n30.2).2 (by omega)
      show qSt (nqI σ c S v p (nqO σ c S v p) (pval σ 6 1 p 3).toNat) (msI m c S v p (msO m c S v p) (mMi m p))
      rw [em]
      exact inn _ (by omega)
  rw [hH.2.1]
  exact (key _ (by have := hx.2.1.2.2.2.2.1; omega)).1
/-- GAMES -/
theorem game_eq {σ m : Mem} (hH : eqH σ m) (hA : eqA σ m 16 5015) (h5 : σ 16 5 = m 5015 25) (hx : mX m 5015) {o r p x y c t X Y : Int} (ho : 0 ≤ o ∧ o < m 5000 29) (hr : 0 ≤ r ∧ r < m 5000 29) (hor : o ≠ r) (p0 : 0 ≤ p) (p1 : p < m 5000 28) (hX : 0 ≤ x ∧ x < m 5000 30) (hY : 0 ≤ y ∧ y < m 5000 30) (hc : (c = o ∧ t = x) ∨ (c = r ∧ t = y)) (eX : X = t ↔ x = t) (eY : Y = t ↔ y = t) : gvF σ o r p c t X Y = gmV m o r p x y c t := by
  obtain ⟨e2, e1, e3, eL, eP, eD, eR⟩ := id hH
  have n29 := hx.2.1.2.2.1
  have l27 := hx.2.2.2.2.2.2
  have m9 := mMi_9 hx p0 p1
  have hx' := gmM_x hx ho hr hX hY
  have so : ∀ b, b ≠ 5016 → gmM m o r x y b = m b := fun b h => gmM_o m o r x y h
  obtain ⟨n, hn⟩ : ∃ n : Nat, m 5000 29 = n := ⟨(m 5000 29).toNat, by omega⟩
  have cb : 0 ≤ c ∧ c < n := by omega
  have tb : 0 ≤ t ∧ t < m 5000 30 := by omega
  have row : ∀ j, 0 ≤ j → j < 28 → gmM m o r x y 5016 j = if j = 4 * r + 1 then y else if j = 4 * o + 1 then x else m 5015 j := by
    intro j j0 j1
    unfold gmM
    by_cases q : j = 4 * r + 1
    · rw [if_pos q, q, up_s]
    · rw [if_neg q, up_nj _ q]
      by_cases q2 : j = 4 * o + 1
      · rw [if_pos q2, q2, up_s]
      · rw [if_neg q2, up_nj _ q2, trK_j l27.1 j0 j1]
  have hS : ∀ d : Int, 0 ≤ d → d < 6 → bt (hbits (sXY (σ 18) o r X Y) t n) d = if d < n ∧ gmM m o r x y 5016 (4 * d + 1) = t then 1 else 0 := by
    intro d d0 d1
    rw [hbits_bit _ _ d0 d1 (by omega)]
    by_cases q : d < n
    · have : (sXY (σ 18) o r X Y d = t) ↔ (gmM m o r x y 5016 (4 * d + 1) = t) := by
        rw [row _ (by omega) (by omega)]
        unfold sXY
        by_cases q1 : d = o
        · rw [if_pos q1, if_neg (by omega), if_pos (by omega)]; exact eX
        · rw [if_neg q1]
          by_cases q2 : d = r
          · rw [if_pos q2, if_pos (by omega)]; exact eY
          · rw [if_neg q2, if_neg (by omega), if_neg (by omega), (show σ 18 d = m 5015 (4 * d + 1) from (hA.1 d d0 (by omega)).2)]
      by_cases z : sXY (σ 18) o r X Y d = t
      · rw [if_pos ⟨q, z⟩, if_pos ⟨q, this.mp z⟩]
      · rw [if_neg (fun u => z u.2), if_neg (fun u => z (this.mpr u.2))]
    · rw [if_neg (fun z => q z.1), if_neg (fun z => q z.1)]
  have hb := hbits_64 (sXY (σ 18) o r X Y) t (n := n) (by omega)
  have hg : ∀ (d N : Int) (k : Nat), 0 ≤ d → d < n → gmM m o r x y 5016 (4 * d + 1) = t → 1 ≤ N → N ≤ 6 → k < mMi m p → gmv σ 16 t p d N k = if bt (gmM m o r x y 5016 24) t = 1 then 0 else mRk (gmM m o r x y) (gmM m o r x y 5007 (4 * p + (k : Int) % 3)) (gmM m o r x y 5016 (4 * d)) (gmM m o r x y 5011 t) N k (gmM m o r x y 5016 26) := by
    intro d N k d0 d1 dt N1 N6 hk
    have hk' : (k : Int) < m 5007 (4 * p + 3) := by unfold mMi at hk; omega
    have eK : ∀ a b c d e f, mRk (gmM m o r x y) a b c d e f = mRk m a b c d e f := by
      intro a b c d e f
      unfold mRk
      rw [mwo_c (so 5002 (by decide)) (so 5003 (by decide)), so 5000 (by decide)]
    rw [so 5007 (by decide), so 5011 (by decide), row 24 (by decide) (by decide), row 26 (by decide) (by decide), row (4 * d) (by omega) (by omega), if_neg (by omega), if_neg (by omega), if_neg (by omega), if_neg (by omega), if_neg (by omega), if_neg (by omega), eK]
    exact gmv_mR hH hA.2.1 hA.2.2 hx p0 p1 tb.1 tb.2 d0 (by omega) (hA.1 d d0 (by omega)).1 N1 N6 (by omega)
  have G := grp (g := gmv σ 16 t p) (S := hbits (sXY (σ 18) o r X Y) t n) (m := gmM m o r x y) (w := 5016) (t := t) (p := p) (K := mMi m p) (by rw [so 5000 (by decide)]; exact hn) (by omega) hb.1 hb.2 hS hg (mMi m p) (Nat.le_refl _)
  have ht : gmM m o r x y 5016 (4 * c + 1) = t := by
    rw [row _ (by omega) (by omega)]
    rcases hc with ⟨h1, h2⟩ | ⟨h1, h2⟩
    · rw [if_neg (by omega), if_pos (by omega), h2]
    · rw [if_pos (by omega), h2]
  have G2 := G.2 c cb.1 cb.2 ht
  rw [so 5005 (by decide)] at G2
  have eMi : pval σ 6 1 p 3 = m 5007 (4 * p + 3) := eP p 3 p0 p1 (by decide) (by decide)
  unfold gvF gmV
  rw [e2, hn, Int.toNat_natCast, eMi, eL, show (m 5007 (4 * p + 3)).toNat = mMi m p from rfl, G2.1, G2.2, (show σ 18 c = m 5015 (4 * c + 1) from (hA.1 c cb.1 (by omega)).2), h5]
  by_cases q : m 5015 (4 * c + 1) = t
  · rw [if_pos q, if_pos q.symm]
  · rw [if_neg q, if_neg (fun z => q z.symm)]
theorem gnF_eq {σ m : Mem} (hH : eqH σ m) (hA : eqA σ m 16 5015) (h5 : σ 16 5 = m 5015 25) (hx : mX m 5015) {o r p : Int} {g : Int → Int} (ho : 0 ≤ o ∧ o < m 5000 29) (hr : 0 ≤ r ∧ r < m 5000 29) (hor : o ≠ r) (p0 : 0 ≤ p) (p1 : p < m 5000 28) (hg : gnOk σ g o r p (m 5000 30)) {x y : Int} (hX : 0 ≤ x ∧ x < m 5000 30) (hY : 0 ≤ y ∧ y < m 5000 30) : gnF g 0 x y = gmV m o r p x y o x ∧ gnF g 1 x y = gmV m o r p x y r y := by
  obtain ⟨a1, a2, -, -⟩ := hg x hX.1 hX.2
  obtain ⟨-, -, b3, b4⟩ := hg y hY.1 hY.2
  unfold gnF
  rw [if_pos rfl, if_neg (show ¬ (1 : Int) = 0 by decide)]
  by_cases q : x = y
  · rw [if_pos q, show 4 * x + 2 * 0 + 1 = 4 * x + 1 by omega, show 4 * y + 2 * 1 + 1 = 4 * y + 3 by omega, a2, b4]
    exact ⟨game_eq hH hA h5 hx ho hr hor p0 p1 hX hY (Or.inl ⟨rfl, rfl⟩) Iff.rfl (by rw [q]), game_eq hH hA h5 hx ho hr hor p0 p1 hX hY (Or.inr ⟨rfl, rfl⟩) (by rw [q]) Iff.rfl⟩
  · rw [if_neg q, show 4 * x + 2 * 0 + 0 = 4 * x by omega, show 4 * y + 2 * 1 + 0 = 4 * y + 2 by omega, a1, b3]
    exact ⟨game_eq hH hA h5 hx ho hr hor p0 p1 hX hY (Or.inl ⟨rfl, rfl⟩) Iff.rfl ⟨fun z => by omega, fun z => absurd z.symm q⟩, game_eq hH hA h5 hx ho hr hor p0 p1 hX hY (Or.inr ⟨rfl, rfl⟩) ⟨fun z => by omega, fun z => absurd z q⟩ Iff.rfl⟩
theorem rsO_c {P P' : Int → Int → Prop} {i : Int} {S : Nat} (h : ∀ x y : Int, 0 ≤ x → x < S → 0 ≤ y → y < S → (P x y ↔ P' x y)) : ∀ (a : Nat) (x c : Int), 0 ≤ x → x + a ≤ S → rsO P i S a x c = rsO P' i S a x c := by
  intro a
  induction a with
  | zero => intro x c _ _; rw [rsO, rsO]
  | succ a ih =>
    intro x c x0 x1
    have inn : ∀ (b : Nat) (y c : Int), 0 ≤ y → y + b ≤ S → rsI P i x (rsO P i S a (x + 1)) b y c = rsI P' i x (rsO P' i S a (x + 1)) b y c := by
      intro b
      induction b with
      | zero => intro y c _ _; rw [rsI, rsI]; exact ih (x + 1) c (by omega) (by omega)
      | succ b ihb =>
        intro y c y0 y1
        have hk := h x y x0 (by omega) y0 (by omega)
        by_cases q : P x y
        · rw [rsI_t q, rsI_t (hk.mp q), ihb (y + 1) (c + 1) (by omega) (by omega)]
        · rw [rsI_f q, rsI_f (fun z => q (hk.mpr z)), ihb (y + 1) c (by omega) (by omega)]
    rw [rsO, rsO]
    exact inn S 0 c (by omega) (by omega)
theorem rests_eq {σ m : Mem} (hH : eqH σ m) (hA : eqA σ m 16 5015) (h5 : σ 16 5 = m 5015 25) (hx : mX m 5015) {o r p : Int} {g : Int → Int} (ho : 0 ≤ o ∧ o < m 5000 29) (hr : 0 ≤ r ∧ r < m 5000 29) (hor : o ≠ r) (p0 : 0 ≤ p) (p1 : p < m 5000 28) (hg : gnOk σ g o r p (m 5000 30)) (i : Int) : rsV g (m 5000 30) i = rsO (mrP (fun a b => gmV m o r p a b o a) (fun a b => gmV m o r p a b r b) (m 5000 30)) i (m 5000 30).toNat (m 5000 30).toNat 0 0 := by
  have n30 := hx.2.1.2.2.2.1
  unfold rsV
  refine rsO_c (fun x y x0 x1 y0 y1 => ?_) _ 0 0 (by omega) (by omega)
  have X1 : 0 ≤ x ∧ x < m 5000 30 := ⟨x0, by omega⟩
  have Y1 : 0 ≤ y ∧ y < m 5000 30 := ⟨y0, by omega⟩
  have e := gnF_eq hH hA h5 hx ho hr hor p0 p1 hg X1 Y1
  unfold rsP rstP mrP
  constructor
  · intro h k k0 k1
    have := h k k0 k1
    rw [(gnF_eq hH hA h5 hx ho hr hor p0 p1 hg ⟨k0, k1⟩ Y1).1, (gnF_eq hH hA h5 hx ho hr hor p0 p1 hg X1 ⟨k0, k1⟩).2, e.1, e.2] at this
    exact this
  · intro h k k0 k1
    have := h k k0 k1
    rw [(gnF_eq hH hA h5 hx ho hr hor p0 p1 hg ⟨k0, k1⟩ Y1).1, (gnF_eq hH hA h5 hx ho hr hor p0 p1 hg X1 ⟨k0, k1⟩).2, e.1, e.2]
    exact this
