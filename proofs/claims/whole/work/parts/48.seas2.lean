/-! Seasons: reading -/
theorem stl_20103 : stl 20103 = 3 := rfl
theorem tsg_14 (τ : Mem) (k v : Int) : tsg (up τ 14 k v) = tsg τ := tsg_cong (up_n τ (Or.inl (by decide))) (up_na τ (by decide))
theorem tok_14 (τ : Mem) (k v : Int) : tapeOk (up τ 14 k v) = tapeOk τ := by
  unfold tapeOk; rw [up_na τ (by decide), up_na τ (by decide)]
theorem tsk_14 (τ : Mem) (k v : Int) : tsk (up τ 14 k v) = tsk τ := by
  rw [tsk_sk, tsk_sk, tsg_14, up_na τ (by decide)]
theorem tsg_12 (τ : Mem) (v : Int) : tsg (up τ 1 2 v) = tsg τ := tsg_cong (up_n τ (Or.inr (by decide))) (up_na τ (by decide))
theorem tok_12 (τ : Mem) (v : Int) : tapeOk (up τ 1 2 v) = tapeOk τ := by
  unfold tapeOk; rw [up_n τ (Or.inr (by decide)), up_na τ (by decide)]
theorem tsk_12 (τ : Mem) (v : Int) : tsk (up τ 1 2 v) = sk (tsg τ) (τ 1 1) v := by
  rw [tsk_sk, tsg_12, up_s, up_n τ (Or.inr (by decide))]
theorem upc_14 (τ : Mem) (k v y : Int) : up (up τ 14 k v) 1 2 y = up (up τ 1 2 y) 14 k v := by
  funext b j; unfold up
  by_cases h1 : b = 1 ∧ j = 2
  · rw [if_pos h1, if_neg (by omega), if_pos h1]
  · rw [if_neg h1]
    by_cases h2 : b = 14 ∧ j = k
    · rw [if_pos h2, if_pos h2]
    · rw [if_neg h2, if_neg h2, if_neg h1]
def spw (σ : Mem) (q to v0 v1 v2 : Int) : Mem := up (up (up (up σ 1 2 q) 14 to v0) 14 (to + 1) v1) 14 (to + 2) v2
theorem spw_id (σ : Mem) (q to : Int) : spw σ q to (σ 14 to) (σ 14 (to + 1)) (σ 14 (to + 2)) = up σ 1 2 q := by
  unfold spw
  have e : ∀ k, up (up σ 1 2 q) 14 k (σ 14 k) = up σ 1 2 q := fun k => by
    have := up_id (up σ 1 2 q) 14 k
    rwa [up_na σ (show (14 : Int) ≠ 1 by decide)] at this
  rw [e, e, e]
theorem up14_re (τ : Mem) (k v w : Int) : up (up τ 14 k v) 14 k w = up τ 14 k w := up_up τ 14 k v w
theorem stepF_b {t : Int → Int} {n p : Int} (ht : ∀ i, n ≤ i → t i = -1) (hp : 0 ≤ p ∧ p ≤ n) : p ≤ (stepF t n p).2.1 ∧ (stepF t n p).2.1 ≤ n ∧ -1 ≤ (stepF t n p).1 ∧ (stepF t n p).1 < 3 := by
  have s1 := sk_b t hp.2
  have fb := fidx_b (stv 20103) (t (sk t n p)) 3 0 (by omega)
  unfold stepF
  split
  · dsimp only; omega
  · rename_i c1
    have s2 := sk_lt ht (q := sk t n p) (by omega)
    have s3 := sk_b t (n := n) (p := sk t n p + 1) (by omega)
    split
    · dsimp only; omega
    · rename_i c2
      have s4 := sk_lt ht (q := sk t n (sk t n p + 1)) (by omega)
      split
      · dsimp only; omega
      · have s5 := sk_b t (n := n) (p := sk t n (sk t n p + 1) + 1) (by omega)
        split
        · dsimp only; omega
        · rename_i c4
          have s6 := sk_lt ht (q := sk t n (sk t n (sk t n p + 1) + 1)) (by omega)
          dsimp only; omega

theorem wd_122 : Cond.fieldLink RX7 22 "ArmchairHouse$Seasons" "tape" "LArmchairHouse$Tape;" ∈ TBL := tb_tab (List.mem_of_getElem? (i := 122) (by decide +kernel)) rfl
theorem fl_X7_22 : amFl RX7 7 0 22 RX7 TX7 4 := ⟨rfl, inT_7, by decide, wd_122⟩
theorem wd_641 : Cond.methodLink RX7 35 yX10_ahead ∈ TBL := tb_tab (List.mem_of_getElem? (i := 641) (by decide +kernel)) rfl
theorem lk_X7_35 : amLk RX7 35 yX10_ahead cX10_ahead 1 (some .int) 0 := ⟨wd_641, wd_2, wd_411, by decide +kernel, by decide +kernel, by decide⟩
theorem wd_643 : Cond.methodLink RX7 41 yX10_place ∈ TBL := tb_tab (List.mem_of_getElem? (i := 643) (by decide +kernel)) rfl
theorem lk_X7_41 : amLk RX7 41 yX10_place cX10_place 2 (some .int) 2 := ⟨wd_643, wd_2, wd_419, by decide +kernel, by decide +kernel, by decide⟩
theorem wd_48 : Cond.fieldLink RX7 26 "ArmchairHouse$Tape" "at" "I" ∈ TBL := tb_tab (List.mem_of_getElem? (i := 48) (by decide +kernel)) rfl
theorem fl_X7_26 : amFl RX7 10 2 26 RX10 TX10 3 := ⟨rfl, inT_10, by decide, wd_48⟩
theorem fp_X7_26 : amFp RX7 10 2 26 RX10 TX10 3 tyX10 .int := ⟨fl_X7_26, tyX10_ok, nmX10, by decide +kernel⟩
theorem wd_644 : Cond.methodLink RX7 45 yX10_digit ∈ TBL := tb_tab (List.mem_of_getElem? (i := 644) (by decide +kernel)) rfl
theorem wd_647 : Cond.code yX10_digit cX10_digit 2 (some .int) ∈ TBL := tb_tab (List.mem_of_getElem? (i := 647) (by decide +kernel)) rfl
theorem lk_X7_45 : amLk RX7 45 yX10_digit cX10_digit 2 (some .int) 0 := ⟨wd_644, wd_2, wd_647, by decide +kernel, by decide +kernel, by decide⟩
theorem wd_645 : Cond.instanceMethod yX10_digit ∈ TBL := tb_tab (List.mem_of_getElem? (i := 645) (by decide +kernel)) rfl
theorem wd_646 : Cond.selects RX10 yX10_digit yX10_digit ∈ TBL := tb_tab (List.mem_of_getElem? (i := 646) (by decide +kernel)) rfl
def a_X7_readStep : AC := [(0, vAload 0 1), (1, vGetR TT 23 0 26 4), (4, vCallM w_X10_ahead 26 0 7), (7, vLdcS 20003 9), (9, vCallS w_X10_place 2 12), (12, vIstore 2 13), (13, vIload 2 14), (14, vI (-1) 15), (15, vIcEq 33 18), (18, vIload 1 19), (19, vIfLt 33 22), (22, vIload 1 23), (23, vAload 0 24), (24, vGetR TT 23 1 8 27), (27, vAlen TT 28), (28, vI 3 29), (29, vIsub 30), (30, vIcLe 35 33), (33, vI 0 34), (34, vZret), (35, vAload 0 36), (36, vGetR TT 23 0 26 39), (39, vDup 40), (40, vGetI 26 2 43), (43, vI 1 44), (44, vIadd 45), (45, vPutI 26 2 48), (48, vAload 0 49), (49, vGetR TT 23 1 8 52), (52, vIload 1 53), (53, vIload 2 54), (54, vIast TT 55), (55, vAload 0 56), (56, vGetR TT 23 1 8 59), (59, vIload 1 60), (60, vI 1 61), (61, vIadd 62), (62, vAload 0 63), (63, vGetR TT 23 0 26 66), (66, vCallM w_X10_digit 26 0 69), (69, vIast TT 70), (70, vAload 0 71), (71, vGetR TT 23 1 8 74), (74, vIload 1 75), (75, vI 2 76), (76, vIadd 77), (77, vI (-1) 78), (78, vIast TT 79), (79, vAload 0 80), (80, vGetR TT 23 1 8 83), (83, vIload 1 84), (84, vI 1 85), (85, vIadd 86), (86, vIald TT 87), (87, vI (-1) 88), (88, vIcEq 96 91), (91, vIload 2 92), (92, vI 1 93), (93, vIcEq 114 96), (96, vAload 0 97), (97, vGetR TT 23 1 8 100), (100, vIload 1 101), (101, vI 1 102), (102, vIadd 103), (103, vIald TT 104), (104, vI (-1) 105), (105, vIcEq 112 108), (108, vI 1 109), (109, vGoto 113), (112, vI 0 113), (113, vZret), (114, vAload 0 115), (115, vGetR TT 23 1 8 118), (118, vIload 1 119), (119, vI 2 120), (120, vIadd 121), (121, vAload 0 122), (122, vGetR TT 23 0 26 125), (125, vCallM w_X10_digit 26 0 128), (128, vIast TT 129), (129, vAload 0 130), (130, vGetR TT 23 1 8 133), (133, vIload 1 134), (134, vI 2 135), (135, vIadd 136), (136, vIald TT 137), (137, vI (-1) 138), (138, vIcEq 145 141), (141, vI 1 142), (142, vGoto 146), (145, vI 0 146), (146, vZret)]
theorem k_X7_readStep_0 : look a_X7_readStep 0 = vAload 0 1 := rfl
theorem k_X7_readStep_1 : look a_X7_readStep 1 = vGetR TT 23 0 26 4 := rfl
theorem k_X7_readStep_4 : look a_X7_readStep 4 = vCallM w_X10_ahead 26 0 7 := rfl
theorem k_X7_readStep_7 : look a_X7_readStep 7 = vLdcS 20003 9 := rfl
theorem k_X7_readStep_9 : look a_X7_readStep 9 = vCallS w_X10_place 2 12 := rfl
theorem k_X7_readStep_12 : look a_X7_readStep 12 = vIstore 2 13 := rfl
theorem k_X7_readStep_13 : look a_X7_readStep 13 = vIload 2 14 := rfl
theorem k_X7_readStep_14 : look a_X7_readStep 14 = vI (-1) 15 := rfl
theorem k_X7_readStep_15 : look a_X7_readStep 15 = vIcEq 33 18 := rfl
theorem k_X7_readStep_18 : look a_X7_readStep 18 = vIload 1 19 := rfl
theorem k_X7_readStep_19 : look a_X7_readStep 19 = vIfLt 33 22 := rfl
theorem k_X7_readStep_22 : look a_X7_readStep 22 = vIload 1 23 := rfl
theorem k_X7_readStep_23 : look a_X7_readStep 23 = vAload 0 24 := rfl
theorem k_X7_readStep_24 : look a_X7_readStep 24 = vGetR TT 23 1 8 27 := rfl
theorem k_X7_readStep_27 : look a_X7_readStep 27 = vAlen TT 28 := rfl
theorem k_X7_readStep_28 : look a_X7_readStep 28 = vI 3 29 := rfl
theorem k_X7_readStep_29 : look a_X7_readStep 29 = vIsub 30 := rfl
theorem k_X7_readStep_30 : look a_X7_readStep 30 = vIcLe 35 33 := rfl
theorem k_X7_readStep_33 : look a_X7_readStep 33 = vI 0 34 := rfl
theorem k_X7_readStep_34 : look a_X7_readStep 34 = vZret := rfl
theorem k_X7_readStep_35 : look a_X7_readStep 35 = vAload 0 36 := rfl
theorem k_X7_readStep_36 : look a_X7_readStep 36 = vGetR TT 23 0 26 39 := rfl
theorem k_X7_readStep_39 : look a_X7_readStep 39 = vDup 40 := rfl
theorem k_X7_readStep_40 : look a_X7_readStep 40 = vGetI 26 2 43 := rfl
theorem k_X7_readStep_43 : look a_X7_readStep 43 = vI 1 44 := rfl
theorem k_X7_readStep_44 : look a_X7_readStep 44 = vIadd 45 := rfl
theorem k_X7_readStep_45 : look a_X7_readStep 45 = vPutI 26 2 48 := rfl
theorem k_X7_readStep_48 : look a_X7_readStep 48 = vAload 0 49 := rfl
theorem k_X7_readStep_49 : look a_X7_readStep 49 = vGetR TT 23 1 8 52 := rfl
theorem k_X7_readStep_52 : look a_X7_readStep 52 = vIload 1 53 := rfl
theorem k_X7_readStep_53 : look a_X7_readStep 53 = vIload 2 54 := rfl
theorem k_X7_readStep_54 : look a_X7_readStep 54 = vIast TT 55 := rfl
theorem k_X7_readStep_55 : look a_X7_readStep 55 = vAload 0 56 := rfl
theorem k_X7_readStep_56 : look a_X7_readStep 56 = vGetR TT 23 1 8 59 := rfl
theorem k_X7_readStep_59 : look a_X7_readStep 59 = vIload 1 60 := rfl
theorem k_X7_readStep_60 : look a_X7_readStep 60 = vI 1 61 := rfl
theorem k_X7_readStep_61 : look a_X7_readStep 61 = vIadd 62 := rfl
theorem k_X7_readStep_62 : look a_X7_readStep 62 = vAload 0 63 := rfl
theorem k_X7_readStep_63 : look a_X7_readStep 63 = vGetR TT 23 0 26 66 := rfl
theorem k_X7_readStep_66 : look a_X7_readStep 66 = vCallM w_X10_digit 26 0 69 := rfl
theorem k_X7_readStep_69 : look a_X7_readStep 69 = vIast TT 70 := rfl
theorem k_X7_readStep_70 : look a_X7_readStep 70 = vAload 0 71 := rfl
theorem k_X7_readStep_71 : look a_X7_readStep 71 = vGetR TT 23 1 8 74 := rfl
theorem k_X7_readStep_74 : look a_X7_readStep 74 = vIload 1 75 := rfl
theorem k_X7_readStep_75 : look a_X7_readStep 75 = vI 2 76 := rfl
theorem k_X7_readStep_76 : look a_X7_readStep 76 = vIadd 77 := rfl
theorem k_X7_readStep_77 : look a_X7_readStep 77 = vI (-1) 78 := rfl
theorem k_X7_readStep_78 : look a_X7_readStep 78 = vIast TT 79 := rfl
theorem k_X7_readStep_79 : look a_X7_readStep 79 = vAload 0 80 := rfl
theorem k_X7_readStep_80 : look a_X7_readStep 80 = vGetR TT 23 1 8 83 := rfl
theorem k_X7_readStep_83 : look a_X7_readStep 83 = vIload 1 84 := rfl
theorem k_X7_readStep_84 : look a_X7_readStep 84 = vI 1 85 := rfl
theorem k_X7_readStep_85 : look a_X7_readStep 85 = vIadd 86 := rfl
theorem k_X7_readStep_86 : look a_X7_readStep 86 = vIald TT 87 := rfl
theorem k_X7_readStep_87 : look a_X7_readStep 87 = vI (-1) 88 := rfl
theorem k_X7_readStep_88 : look a_X7_readStep 88 = vIcEq 96 91 := rfl
theorem k_X7_readStep_91 : look a_X7_readStep 91 = vIload 2 92 := rfl
theorem k_X7_readStep_92 : look a_X7_readStep 92 = vI 1 93 := rfl
theorem k_X7_readStep_93 : look a_X7_readStep 93 = vIcEq 114 96 := rfl
theorem k_X7_readStep_96 : look a_X7_readStep 96 = vAload 0 97 := rfl
theorem k_X7_readStep_97 : look a_X7_readStep 97 = vGetR TT 23 1 8 100 := rfl
theorem k_X7_readStep_100 : look a_X7_readStep 100 = vIload 1 101 := rfl
theorem k_X7_readStep_101 : look a_X7_readStep 101 = vI 1 102 := rfl
theorem k_X7_readStep_102 : look a_X7_readStep 102 = vIadd 103 := rfl
theorem k_X7_readStep_103 : look a_X7_readStep 103 = vIald TT 104 := rfl
theorem k_X7_readStep_104 : look a_X7_readStep 104 = vI (-1) 105 := rfl
theorem k_X7_readStep_105 : look a_X7_readStep 105 = vIcEq 112 108 := rfl
theorem k_X7_readStep_108 : look a_X7_readStep 108 = vI 1 109 := rfl
theorem k_X7_readStep_109 : look a_X7_readStep 109 = vGoto 113 := rfl
theorem k_X7_readStep_112 : look a_X7_readStep 112 = vI 0 113 := rfl
theorem k_X7_readStep_113 : look a_X7_readStep 113 = vZret := rfl
theorem k_X7_readStep_114 : look a_X7_readStep 114 = vAload 0 115 := rfl
theorem k_X7_readStep_115 : look a_X7_readStep 115 = vGetR TT 23 1 8 118 := rfl
theorem k_X7_readStep_118 : look a_X7_readStep 118 = vIload 1 119 := rfl
theorem k_X7_readStep_119 : look a_X7_readStep 119 = vI 2 120 := rfl
theorem k_X7_readStep_120 : look a_X7_readStep 120 = vIadd 121 := rfl
theorem k_X7_readStep_121 : look a_X7_readStep 121 = vAload 0 122 := rfl
theorem k_X7_readStep_122 : look a_X7_readStep 122 = vGetR TT 23 0 26 125 := rfl
theorem k_X7_readStep_125 : look a_X7_readStep 125 = vCallM w_X10_digit 26 0 128 := rfl
theorem k_X7_readStep_128 : look a_X7_readStep 128 = vIast TT 129 := rfl
theorem k_X7_readStep_129 : look a_X7_readStep 129 = vAload 0 130 := rfl
theorem k_X7_readStep_130 : look a_X7_readStep 130 = vGetR TT 23 1 8 133 := rfl
theorem k_X7_readStep_133 : look a_X7_readStep 133 = vIload 1 134 := rfl
theorem k_X7_readStep_134 : look a_X7_readStep 134 = vI 2 135 := rfl
theorem k_X7_readStep_135 : look a_X7_readStep 135 = vIadd 136 := rfl
theorem k_X7_readStep_136 : look a_X7_readStep 136 = vIald TT 137 := rfl
theorem k_X7_readStep_137 : look a_X7_readStep 137 = vI (-1) 138 := rfl
theorem k_X7_readStep_138 : look a_X7_readStep 138 = vIcEq 145 141 := rfl
theorem k_X7_readStep_141 : look a_X7_readStep 141 = vI 1 142 := rfl
theorem k_X7_readStep_142 : look a_X7_readStep 142 = vGoto 146 := rfl
theorem k_X7_readStep_145 : look a_X7_readStep 145 = vI 0 146 := rfl
theorem k_X7_readStep_146 : look a_X7_readStep 146 = vZret := rfl
theorem o_X7_readStep {X : amX} (e1 : XT X = TT) (e2 : XD X = 5) (hB : amB X RX7 cX7_readStep (some .boolean) 3) : ∀ pc, amOK X pc (look a_X7_readStep pc) := by
  have hT : amTok (XT X) := e1 ▸ TT_ok
  refine look_ok ?_
  unfold a_X7_readStep
  refine fc (ok_aload_n hB dX7_readStep_0) ?_
  refine fc (okt_getR e1 hB hT fl_X7_22 rfl af_7_0 at_7_0 (by decide) dX7_readStep_1) ?_
  refine fc (ok_callM hB hT (e1 ▸ s_X10_ahead) lk_X7_35 (by rw [e2]; decide) (c := 10) rfl rfl rfl wd_409 wd_410 dX7_readStep_4) ?_
  refine fc (ok_ldcS hB (k := 3) rfl rfl rfl rfl dX7_readStep_7) ?_
  refine fc (ok_callS hB (e1 ▸ s_X10_place) lk_X7_41 (by rw [e2]; decide) wd_418 dX7_readStep_9) ?_
  refine fc (ok_istore_n hB (by decide) dX7_readStep_12) ?_
  refine fc (ok_iload_n hB dX7_readStep_13) ?_
  refine fc (ok_iconst hB dX7_readStep_14) ?_
  refine fc (ok_icmp_eq hB (t := 33) (by decide) dX7_readStep_15) ?_
  refine fc (ok_iload_n hB dX7_readStep_18) ?_
  refine fc (ok_if_lt hB (t := 33) (by decide) dX7_readStep_19) ?_
  refine fc (ok_iload_n hB dX7_readStep_22) ?_
  refine fc (ok_aload_n hB dX7_readStep_23) ?_
  refine fc (okt_getR e1 hB hT fl_X7_11 rfl af_7_1 at_7_1 (by decide) dX7_readStep_24) ?_
  refine fc (okt_arraylength e1 hB dX7_readStep_27) ?_
  refine fc (ok_iconst hB dX7_readStep_28) ?_
  refine fc (ok_isub hB dX7_readStep_29) ?_
  refine fc (ok_icmp_le hB (t := 35) (by decide) dX7_readStep_30) ?_
  refine fc (ok_iconst hB dX7_readStep_33) ?_
  refine fc (ok_zret hB dX7_readStep_34) ?_
  refine fc (ok_aload_n hB dX7_readStep_35) ?_
  refine fc (okt_getR e1 hB hT fl_X7_22 rfl af_7_0 at_7_0 (by decide) dX7_readStep_36) ?_
  refine fc (ok_dup hB dX7_readStep_39) ?_
  refine fc (ok_getI hB hT fl_X7_26 rfl rfl (Or.inl af_10_2) dX7_readStep_40) ?_
  refine fc (ok_iconst hB dX7_readStep_43) ?_
  refine fc (ok_iadd hB dX7_readStep_44) ?_
  refine fc (ok_putI hB hT fp_X7_26 rfl rfl rfl af_10_2 dX7_readStep_45) ?_
  refine fc (ok_aload_n hB dX7_readStep_48) ?_
  refine fc (okt_getR e1 hB hT fl_X7_11 rfl af_7_1 at_7_1 (by decide) dX7_readStep_49) ?_
  refine fc (ok_iload_n hB dX7_readStep_52) ?_
  refine fc (ok_iload_n hB dX7_readStep_53) ?_
  refine fc (okt_iastore e1 hB dX7_readStep_54) ?_
  refine fc (ok_aload_n hB dX7_readStep_55) ?_
  refine fc (okt_getR e1 hB hT fl_X7_11 rfl af_7_1 at_7_1 (by decide) dX7_readStep_56) ?_
  refine fc (ok_iload_n hB dX7_readStep_59) ?_
  refine fc (ok_iconst hB dX7_readStep_60) ?_
  refine fc (ok_iadd hB dX7_readStep_61) ?_
  refine fc (ok_aload_n hB dX7_readStep_62) ?_
  refine fc (okt_getR e1 hB hT fl_X7_22 rfl af_7_0 at_7_0 (by decide) dX7_readStep_63) ?_
  refine fc (ok_callM hB hT (e1 ▸ s_X10_digit) lk_X7_45 (by rw [e2]; decide) (c := 10) rfl rfl rfl wd_645 wd_646 dX7_readStep_66) ?_
  refine fc (okt_iastore e1 hB dX7_readStep_69) ?_
  refine fc (ok_aload_n hB dX7_readStep_70) ?_
  refine fc (okt_getR e1 hB hT fl_X7_11 rfl af_7_1 at_7_1 (by decide) dX7_readStep_71) ?_
  refine fc (ok_iload_n hB dX7_readStep_74) ?_
  refine fc (ok_iconst hB dX7_readStep_75) ?_
  refine fc (ok_iadd hB dX7_readStep_76) ?_
  refine fc (ok_iconst hB dX7_readStep_77) ?_
  refine fc (okt_iastore e1 hB dX7_readStep_78) ?_
  refine fc (ok_aload_n hB dX7_readStep_79) ?_
  refine fc (okt_getR e1 hB hT fl_X7_11 rfl af_7_1 at_7_1 (by decide) dX7_readStep_80) ?_
  refine fc (ok_iload_n hB dX7_readStep_83) ?_
  refine fc (ok_iconst hB dX7_readStep_84) ?_
  refine fc (ok_iadd hB dX7_readStep_85) ?_
  refine fc (okt_iaload e1 hB dX7_readStep_86) ?_
  refine fc (ok_iconst hB dX7_readStep_87) ?_
  refine fc (ok_icmp_eq hB (t := 96) (by decide) dX7_readStep_88) ?_
  refine fc (ok_iload_n hB dX7_readStep_91) ?_
  refine fc (ok_iconst hB dX7_readStep_92) ?_
  refine fc (ok_icmp_eq hB (t := 114) (by decide) dX7_readStep_93) ?_
  refine fc (ok_aload_n hB dX7_readStep_96) ?_
  refine fc (okt_getR e1 hB hT fl_X7_11 rfl af_7_1 at_7_1 (by decide) dX7_readStep_97) ?_
  refine fc (ok_iload_n hB dX7_readStep_100) ?_
  refine fc (ok_iconst hB dX7_readStep_101) ?_
  refine fc (ok_iadd hB dX7_readStep_102) ?_
  refine fc (okt_iaload e1 hB dX7_readStep_103) ?_
  refine fc (ok_iconst hB dX7_readStep_104) ?_
  refine fc (ok_icmp_eq hB (t := 112) (by decide) dX7_readStep_105) ?_
  refine fc (ok_iconst hB dX7_readStep_108) ?_
  refine fc (ok_goto hB (t := 113) (by decide) dX7_readStep_109) ?_
  refine fc (ok_iconst hB dX7_readStep_112) ?_
  refine fc (ok_zret hB dX7_readStep_113) ?_
  refine fc (ok_aload_n hB dX7_readStep_114) ?_
  refine fc (okt_getR e1 hB hT fl_X7_11 rfl af_7_1 at_7_1 (by decide) dX7_readStep_115) ?_
  refine fc (ok_iload_n hB dX7_readStep_118) ?_
  refine fc (ok_iconst hB dX7_readStep_119) ?_
  refine fc (ok_iadd hB dX7_readStep_120) ?_
  refine fc (ok_aload_n hB dX7_readStep_121) ?_
  refine fc (okt_getR e1 hB hT fl_X7_22 rfl af_7_0 at_7_0 (by decide) dX7_readStep_122) ?_
  refine fc (ok_callM hB hT (e1 ▸ s_X10_digit) lk_X7_45 (by rw [e2]; decide) (c := 10) rfl rfl rfl wd_645 wd_646 dX7_readStep_125) ?_
  refine fc (okt_iastore e1 hB dX7_readStep_128) ?_
  refine fc (ok_aload_n hB dX7_readStep_129) ?_
  refine fc (okt_getR e1 hB hT fl_X7_11 rfl af_7_1 at_7_1 (by decide) dX7_readStep_130) ?_
  refine fc (ok_iload_n hB dX7_readStep_133) ?_
  refine fc (ok_iconst hB dX7_readStep_134) ?_
  refine fc (ok_iadd hB dX7_readStep_135) ?_
  refine fc (okt_iaload e1 hB dX7_readStep_136) ?_
  refine fc (ok_iconst hB dX7_readStep_137) ?_
  refine fc (ok_icmp_eq hB (t := 145) (by decide) dX7_readStep_138) ?_
  refine fc (ok_iconst hB dX7_readStep_141) ?_
  refine fc (ok_goto hB (t := 146) (by decide) dX7_readStep_142) ?_
  refine fc (ok_iconst hB dX7_readStep_145) ?_
  refine fc (ok_zret hB dX7_readStep_146) ?_
  exact fn

def w_X7_readStep : WP := fun av σ Q => ∃ (to : Int), av = [(23, 13), (0, to)] ∧ (tapeOk σ ∧ 0 ≤ σ 1 2 ∧ σ 1 2 ≤ σ 1 1 ∧ 0 ≤ to ∧ to ≤ 237 ∧ (∀ v0 v1 v2, ((stepF (tsg σ) (σ 1 1) (σ 1 2)).1 ≠ -1 → v0 = (stepF (tsg σ) (σ 1 1) (σ 1 2)).1 ∧ v1 = (stepF (tsg σ) (σ 1 1) (σ 1 2)).2.2.1 ∧ v2 = (stepF (tsg σ) (σ 1 1) (σ 1 2)).2.2.2) → Q (0, if (stepF (tsg σ) (σ 1 1) (σ 1 2)).1 = -1 then 0 else 1) (spw σ (stepF (tsg σ) (σ 1 1) (σ 1 2)).2.1 to v0 v1 v2)))
theorem w_X7_readStep_e (to : Int) (σ : Mem) (Q : AV → Mem → Prop) : w_X7_readStep [(23, 13), (0, to)] σ Q = (tapeOk σ ∧ 0 ≤ σ 1 2 ∧ σ 1 2 ≤ σ 1 1 ∧ 0 ≤ to ∧ to ≤ 237 ∧ (∀ v0 v1 v2, ((stepF (tsg σ) (σ 1 1) (σ 1 2)).1 ≠ -1 → v0 = (stepF (tsg σ) (σ 1 1) (σ 1 2)).1 ∧ v1 = (stepF (tsg σ) (σ 1 1) (σ 1 2)).2.2.1 ∧ v2 = (stepF (tsg σ) (σ 1 1) (σ 1 2)).2.2.2) → Q (0, if (stepF (tsg σ) (σ 1 1) (σ 1 2)).1 = -1 then 0 else 1) (spw σ (stepF (tsg σ) (σ 1 1) (σ 1 2)).2.1 to v0 v1 v2))) := by
  apply propext; constructor
  · rintro ⟨to', h9, hb9⟩; cases h9; exact hb9
  · intro hb9; exact ⟨to, rfl, hb9⟩

set_option maxRecDepth 100000 in
set_option maxHeartbeats 4000000 in
theorem s_X7_readStep : ∀ av σ Q, w_X7_readStep av σ Q → amCall 5 0 0 TT yX7_readStep cX7_readStep 3 (some .boolean) av σ Q := by
  rintro av σ Q ⟨to, rfl, ht, h0, h1, h2, h3, h⟩
  have ht0 := ht.1
  have ht1 := ht.2.1
  have hte : ∀ i, σ 1 1 ≤ i → tsg σ i = -1 := fun i hi => (tsg_bd ht i).2.2.2 hi
  have htA : tapeOk σ = True := eq_true ht
  have s1 := sk_b (tsg σ) h1
  have b1 := tsg_bd ht (sk (tsg σ) (σ 1 1) (σ 1 2))
  have fb := fidx_b (stv 20103) (tsg σ (sk (tsg σ) (σ 1 1) (σ 1 2))) 3 0 (by omega)
  have t3 : (3 : Int).toNat = 3 := rfl
  refine am_m0 (own := RX7) (A := look a_X7_readStep) (fun X e1 e2 hB => o_X7_readStep e1 e2 hB) rfl (by decide +kernel) rfl rfl 120 (w := 3) ?_
  change vcs _ _ _ _ 120 0 [(23, 13), (0, to), (6, 0)] [] σ
  simp only [vSw2_e, swP_n, swP_c, vI_e, vL_e, vNull_e, vIload_e, vLload_e, vAload_e, vIstore_e, vLstore_e, vAstore_e, vIinc_e, vIadd_e, vIsub_e, vImul_e, vIand_e, vIor_e, vIxor_e, vIshl_e, vIshr_e, vIushr_e, vIdiv_e, vIrem_e, vLadd_e, vLsub_e, vLmul_e, vLand_e, vLor_e, vLxor_e, vLdiv_e, vLrem_e, vLushr_e, vLshl_e, vLcmp_e, vIneg_e, vI2l_e, vL2i_e, vI2b_e, vI2c_e, vDup_e, vPop_e, vDup2_e, vGoto_e, vIcEq_e, vIfEq_e, vIcNe_e, vIfNe_e, vIcLt_e, vIfLt_e, vIcGe_e, vIfGe_e, vIcGt_e, vIfGt_e, vIcLe_e, vIfLe_e, vNonnull_e, vSw_e, vGetI_e, vGetL_e, vGetR_e, vPutI_e, vPutZ_e, vPutL_e, vPutR_e, vIald_e, vIald_s, vLald_e, vBald_e, vBald_s, vAald_e, vIast_e, vLast_e, vBast_e, vAast_e, vAlen_e8, vAlen_e9, vAlen_e10, vAlen_e11, vAlen_e5, vAlen_e3, vGets_e, vCompact_e, vLdcS_e, vIret_e, vZret_e, vCret_e, vBret_e, vLret_e, vVret_e, vAret_e, vCallM_e0, vCallMV_e0, vCallS_e0, vCallSV_e0, vCallM_e1, vCallMV_e1, vCallS_e1, vCallSV_e1, vCallM_e2, vCallMV_e2, vCallS_e2, vCallSV_e2, vCallM_e3, vCallMV_e3, vCallS_e3, vCallSV_e3, vCallM_e4, vCallMV_e4, vCallS_e4, vCallSV_e4, vCallM_e5, vCallMV_e5, vCallS_e5, vCallSV_e5, vCallM_e6, vCallMV_e6, vCallS_e6, vCallSV_e6, vCallM_e7, vCallMV_e7, vCallS_e7, vCallSV_e7, vBad_e, vStrVal_e, vStrCod_e, vForm_e, vCallT_e0, vCallT_e1, vCallT_e2, vCopy_e, rf_0_0, rf_0_1, rf_0_2, rf_0_3, rf_0_4, rf_0_7, rf_0_10, rf_0_11, rf_0_12, rf_0_13, rf_0_14, rf_0_15, rf_0_16, rf_1_0, rf_3_0, rf_3_1, rf_6_0, rf_6_1, rf_9_0, rf_9_1, rf_9_3, rf_13_0, rf_13_1, rf_13_2, rf_16_0, rf_16_1, rf_16_2, rf_16_3, rf_21_0, rf_21_1, rf_21_2, rf_21_3, rf_26_0, rf_26_1, rf_26_2, rf_26_3, rf_26_4, rf_26_5, rf_26_6, rf_31_0, rf_31_2, rf_31_5, rf_31_6, rf_36_0, rf_36_1, rf_36_2, rf_36_3, rf_39_0, rf_39_1, rf_39_2, rf_41_0, rf_41_1, rf_41_2, rf_41_3, rf_5000_1, rf_5000_2, rf_5000_3, rf_5000_4, rf_5000_5, rf_5000_15, rf_5000_16, rf_5000_18, rf_5000_19, rf_5000_20, rf_5000_21, rf_5000_22, rf_5000_23, rf_5000_24, rf_5000_25, rf_5000_26, rf_5000_27, rf_5000_36, rf_5000_37, rf_5000_40, rf_5000_41, rf_5000_42, rf_5000_43, rf_5000_44, rf_5000_45, rf_5000_47, rf_5000_52, rf_5000_54, rf_5000_55, rf_100_0, rf_100_1, rf_103_0, rf_103_1, rf_106_0, rf_106_1, rf_109_0, rf_109_1, al_2, al_4, al_5, al_7, al_8, al_10, al_11, al_12, al_14, al_15, al_17, al_18, al_19, al_20, al_22, al_23, al_24, al_25, al_27, al_28, al_29, al_30, al_32, al_33, al_34, al_35, al_37, al_38, al_40, al_42, al_5001, al_5002, al_5003, al_5004, al_5005, al_5006, al_5007, al_5008, al_5009, al_5010, al_5011, al_5012, al_5013, al_5014, al_5015, al_5016, al_5017, al_5018, al_5019, al_5020, al_5021, al_5022, al_5023, al_5024, al_5025, al_5026, al_9000, al_101, al_102, al_104, al_105, al_107, al_108, al_110, al_111, vcs_e, lg_c0, lg_cs, lg_nil, set_c0, set_cs, okst_0, okst_s, acok_n, acok_c, List.contains_nil, List.contains_cons, Bool.or_false, Bool.false_or, Bool.false_eq_true, if_false, if_true, ite_self, ne_eq, true_and, and_true, not_false_eq_true, not_true_eq_false, false_imp_iff, true_imp_iff, Nat.ble_eq, Bool.and_eq_true, reduceCtorEq, or_false, false_or, or_true, true_or, false_and, and_false, and_self, Int.reduceLE, Int.reduceAdd, Int.reduceSub, Int.reduceMul, Int.reduceNeg, Int.reduceLT, Int.reduceEq, Int.reduceNe, Nat.reduceBEq, Nat.reduceBNe, Nat.reduceEqDiff, amCmp_in, amCmp_lt, amCmp_le, amCmp_gt, amCmp_ge, amCmp_eq, amCmp_ne, Nat.reduceLeDiff, Nat.reduceSub, Bool.and_true, Bool.true_and, Bool.and_self, Bool.or_true, Bool.true_or, isRf_3, isRf_4, isRf_5, isRf_8, isRf_9, isRf_10, isRf_11, isRf_15, isRf_16, isRf_17, isRf_18, isRf_19, isRf_20, isRf_21, isRf_22, isRf_23, isRf_24, isRf_25, isRf_26, isRf_27, isRf_28, k_X7_readStep_0, k_X7_readStep_1, k_X7_readStep_4, k_X7_readStep_7, k_X7_readStep_9, k_X7_readStep_12, k_X7_readStep_13, k_X7_readStep_14, k_X7_readStep_15, k_X7_readStep_18, k_X7_readStep_19, k_X7_readStep_22, k_X7_readStep_23, k_X7_readStep_24, k_X7_readStep_27, k_X7_readStep_28, k_X7_readStep_29, k_X7_readStep_30, k_X7_readStep_33, k_X7_readStep_34, k_X7_readStep_35, k_X7_readStep_36, k_X7_readStep_39, k_X7_readStep_40, k_X7_readStep_43, k_X7_readStep_44, k_X7_readStep_45, k_X7_readStep_48, k_X7_readStep_49, k_X7_readStep_52, k_X7_readStep_53, k_X7_readStep_54, k_X7_readStep_55, k_X7_readStep_56, k_X7_readStep_59, k_X7_readStep_60, k_X7_readStep_61, k_X7_readStep_62, k_X7_readStep_63, k_X7_readStep_66, k_X7_readStep_69, k_X7_readStep_70, k_X7_readStep_71, k_X7_readStep_74, k_X7_readStep_75, k_X7_readStep_76, k_X7_readStep_77, k_X7_readStep_78, k_X7_readStep_79, k_X7_readStep_80, k_X7_readStep_83, k_X7_readStep_84, k_X7_readStep_85, k_X7_readStep_86, k_X7_readStep_87, k_X7_readStep_88, k_X7_readStep_91, k_X7_readStep_92, k_X7_readStep_93, k_X7_readStep_96, k_X7_readStep_97, k_X7_readStep_100, k_X7_readStep_101, k_X7_readStep_102, k_X7_readStep_103, k_X7_readStep_104, k_X7_readStep_105, k_X7_readStep_108, k_X7_readStep_109, k_X7_readStep_112, k_X7_readStep_113, k_X7_readStep_114, k_X7_readStep_115, k_X7_readStep_118, k_X7_readStep_119, k_X7_readStep_120, k_X7_readStep_121, k_X7_readStep_122, k_X7_readStep_125, k_X7_readStep_128, k_X7_readStep_129, k_X7_readStep_130, k_X7_readStep_133, k_X7_readStep_134, k_X7_readStep_135, k_X7_readStep_136, k_X7_readStep_137, k_X7_readStep_138, k_X7_readStep_141, k_X7_readStep_142, k_X7_readStep_145, k_X7_readStep_146, w_X10_ahead_e, w_X10_digit_e, w_X10_place_e, tok_14, tok_12, htA, tsg_14, tsg_12, tsk_14, tsk_12, upc_14, up_s, up_nj, up_na, up_up, savR_o, cpy_o, fillm_o, setAud_o, setv_o, setv_s, Int.reduceNe, Int.reduceEq, Int.reduceLT, Int.reduceAdd, not_false_eq_true, ne_eq, or_true, true_or, stl_20103, t3, skp_fold]
  unfold stepF at h
  by_cases c1 : tsg σ (sk (tsg σ) (σ 1 1) (σ 1 2)) = -1 ∨ fidx (stv 20103) (tsg σ (sk (tsg σ) (σ 1 1) (σ 1 2))) 0 3 = -1
  · rw [if_pos c1] at h
    have h9 := h (σ 14 to) (σ 14 (to + 1)) (σ 14 (to + 2)) (fun g => absurd rfl g)
    rw [spw_id, if_pos rfl] at h9
    rcases c1 with c1 | c1
    · rw [if_pos c1]
      repeat' (first | assumption | apply And.intro | intro _)
      all_goals first | omega | exact h9
    · by_cases c0 : tsg σ (sk (tsg σ) (σ 1 1) (σ 1 2)) = -1
      · rw [if_pos c0]
        repeat' (first | assumption | apply And.intro | intro _)
        all_goals first | omega | exact h9
      · rw [if_neg c0, c1]
        repeat' (first | assumption | apply And.intro | intro _)
        all_goals first | omega | exact h9
  · rw [if_neg c1] at h
    rw [if_neg (by omega)]
    have s2 := sk_lt hte (q := sk (tsg σ) (σ 1 1) (σ 1 2)) (by omega)
    have s3 := sk_b (tsg σ) (n := σ 1 1) (p := sk (tsg σ) (σ 1 1) (σ 1 2) + 1) (by omega)
    have b2 := tsg_bd ht (sk (tsg σ) (σ 1 1) (sk (tsg σ) (σ 1 1) (σ 1 2) + 1))
    generalize fidx (stv 20103) (tsg σ (sk (tsg σ) (σ 1 1) (σ 1 2))) 0 3 = kd at *
    have r1 : ∀ τ d w, up (up τ 14 (to + 1) d) 14 (to + 2) w 14 (to + 1) = d := fun τ d w => by
      rw [up_n _ (Or.inr (by omega)), up_s]
    simp only [r1]
    by_cases c2 : 48 ≤ tsg σ (sk (tsg σ) (σ 1 1) (sk (tsg σ) (σ 1 1) (σ 1 2) + 1)) ∧ tsg σ (sk (tsg σ) (σ 1 1) (sk (tsg σ) (σ 1 1) (σ 1 2) + 1)) ≤ 57
    · rw [if_neg (fun g => g c2)] at h
      rw [if_pos c2]
      have s4 := sk_lt hte (q := sk (tsg σ) (σ 1 1) (sk (tsg σ) (σ 1 1) (σ 1 2) + 1)) (by omega)
      by_cases c3 : kd = 1
      · rw [if_neg (fun g => g c3)] at h
        subst c3
        have s5 := sk_b (tsg σ) (n := σ 1 1) (p := sk (tsg σ) (σ 1 1) (sk (tsg σ) (σ 1 1) (σ 1 2) + 1) + 1) (by omega)
        have b3 := tsg_bd ht (sk (tsg σ) (σ 1 1) (sk (tsg σ) (σ 1 1) (sk (tsg σ) (σ 1 1) (σ 1 2) + 1) + 1))
        by_cases c4 : 48 ≤ tsg σ (sk (tsg σ) (σ 1 1) (sk (tsg σ) (σ 1 1) (sk (tsg σ) (σ 1 1) (σ 1 2) + 1) + 1)) ∧ tsg σ (sk (tsg σ) (σ 1 1) (sk (tsg σ) (σ 1 1) (sk (tsg σ) (σ 1 1) (σ 1 2) + 1) + 1)) ≤ 57
        · rw [if_neg (fun g => g c4)] at h
          simp only [if_pos c4]
          have h9 := h _ _ _ (fun _ => ⟨rfl, rfl, rfl⟩)
          dsimp only at h9
          rw [if_neg (by decide)] at h9
          unfold spw at h9
          simp only [eq_self, not_true_eq_false, true_imp_iff, false_imp_iff, Int.reduceNeg, Int.reduceEq, and_true, true_and, not_false_eq_true]
          repeat' (first | assumption | apply And.intro | intro _)
          all_goals first | omega | exact h9
        · rw [if_pos c4] at h
          simp only [if_neg c4]
          have h9 := h 1 (tsg σ (sk (tsg σ) (σ 1 1) (sk (tsg σ) (σ 1 1) (σ 1 2) + 1)) - 48) (-1) (fun g => absurd rfl g)
          dsimp only at h9
          rw [if_pos rfl] at h9
          unfold spw at h9
          simp only [eq_self, not_true_eq_false, true_imp_iff, false_imp_iff, Int.reduceNeg, Int.reduceEq, and_true, true_and, not_false_eq_true]
          repeat' (first | assumption | apply And.intro | intro _)
          all_goals first | omega | exact h9
      · rw [if_pos c3] at h
        have h9 := h _ _ _ (fun _ => ⟨rfl, rfl, rfl⟩)
        dsimp only at h9
        rw [if_neg (by omega)] at h9
        unfold spw at h9
        repeat' (first | assumption | apply And.intro | intro _)
        all_goals first | omega | exact h9
    · rw [if_pos c2] at h
      rw [if_neg c2]
      have h9 := h kd (-1) (-1) (fun g => absurd rfl g)
      dsimp only at h9
      rw [if_pos rfl] at h9
      unfold spw at h9
      simp only [eq_self, not_true_eq_false, true_imp_iff, false_imp_iff, Int.reduceNeg, Int.reduceEq, and_true, true_and, not_false_eq_true]
      repeat' (first | assumption | apply And.intro | intro _)
      all_goals first | omega | exact h9
/-- the steps of a season, from step i on: fault; how many steps; the numbers -/
def seasF (t : Int → Int) (n : Int) : Nat → Int → Int → (Int → Int) → Int × Int × (Int → Int)
  | 0, i, p, v => (p, i, v)
  | f + 1, i, p, v =>
    if (stepF t n p).1 = -1 then ((stepF t n p).2.1, i, v)
    else if t (sk t n (stepF t n p).2.1) = -1 then (-1, i + 1, upf (upf (upf v (i * 3) (stepF t n p).1) (i * 3 + 1) (stepF t n p).2.2.1) (i * 3 + 2) (stepF t n p).2.2.2)
    else if t (sk t n (stepF t n p).2.1) ≠ 59 ∨ i + 1 = 16 then (sk t n (stepF t n p).2.1, i, v)
    else seasF t n f (i + 1) (sk t n (stepF t n p).2.1 + 1) (upf (upf (upf v (i * 3) (stepF t n p).1) (i * 3 + 1) (stepF t n p).2.2.1) (i * 3 + 2) (stepF t n p).2.2.2)
/-- the season that is read, behind the c that are kept -/
def setP (σ : Mem) (c : Int) (v : Int → Int) : Mem := fun b j => if b = 14 ∧ c * 48 ≤ j ∧ j < c * 48 + 48 then v (j - c * 48) else σ b j
theorem setP_o (σ : Mem) {c b : Int} (v : Int → Int) (h : b ≠ 14) : setP σ c v b = σ b := by
  funext j; unfold setP; rw [if_neg (fun q => h q.1)]
theorem setP_id (σ : Mem) (c : Int) : setP σ c (fun k => σ 14 (c * 48 + k)) = σ := by
  funext b j; unfold setP; split
  · rename_i h
    show σ 14 (c * 48 + (j - c * 48)) = σ b j
    rw [h.1, show c * 48 + (j - c * 48) = j by omega]
  · rfl
theorem setP_up (σ : Mem) (c y : Int) (v : Int → Int) : up (setP σ c v) 1 2 y = setP (up σ 1 2 y) c v := by
  funext b j; unfold up setP
  dsimp only
  by_cases h1 : b = 1 ∧ j = 2
  · rw [if_pos h1, if_neg (by omega), if_pos h1]
  · rw [if_neg h1]
    by_cases h2 : b = 14 ∧ c * 48 ≤ j ∧ j < c * 48 + 48
    · rw [if_pos h2, if_pos h2]
    · rw [if_neg h2, if_neg h2, if_neg h1]
theorem setP_w (σ : Mem) (c k x : Int) (v : Int → Int) (h0 : 0 ≤ k) (h1 : k < 48) : up (setP σ c v) 14 (c * 48 + k) x = setP σ c (upf v k x) := by
  funext b j; unfold up setP upf
  by_cases h2 : b = 14 ∧ j = c * 48 + k
  · rw [if_pos h2, if_pos (by omega), if_pos (by omega)]
  · rw [if_neg h2]
    by_cases h3 : b = 14 ∧ c * 48 ≤ j ∧ j < c * 48 + 48
    · rw [if_pos h3, if_pos h3, if_neg (by omega)]
    · rw [if_neg h3, if_neg h3]
theorem spw_setP (σ : Mem) (c i q p v0 v1 v2 : Int) (v : Int → Int) (h0 : 0 ≤ i) (h1 : i < 16) : spw (setP (up σ 1 2 p) c v) q (c * 48 + i * 3) v0 v1 v2 = setP (up σ 1 2 q) c (upf (upf (upf v (i * 3) v0) (i * 3 + 1) v1) (i * 3 + 2) v2) := by
  unfold spw
  rw [setP_up, up_up, setP_w _ _ _ _ _ (by omega) (by omega), show c * 48 + i * 3 + 1 = c * 48 + (i * 3 + 1) by omega, setP_w _ _ _ _ _ (by omega) (by omega), show c * 48 + i * 3 + 2 = c * 48 + (i * 3 + 2) by omega, setP_w _ _ _ _ _ (by omega) (by omega)]

theorem wd_637 : Cond.methodLink RX7 31 yX7_readStep ∈ TBL := tb_tab (List.mem_of_getElem? (i := 637) (by decide +kernel)) rfl
theorem wd_5 : Cond.initialized RX7 ∈ TBL := tb_tab (List.mem_of_getElem? (i := 5) (by decide +kernel)) rfl
theorem wd_640 : Cond.code yX7_readStep cX7_readStep 3 (some .boolean) ∈ TBL := tb_tab (List.mem_of_getElem? (i := 640) (by decide +kernel)) rfl
theorem lk_X7_31 : amLk RX7 31 yX7_readStep cX7_readStep 3 (some .boolean) 1 := ⟨wd_637, wd_5, wd_640, by decide +kernel, by decide +kernel, by decide⟩
theorem wd_639 : Cond.instanceMethod yX7_readStep ∈ TBL := tb_tab (List.mem_of_getElem? (i := 639) (by decide +kernel)) rfl
theorem sl_X7_readStep : Cond.selects RX7 yX7_readStep yX7_readStep ∈ TBL := tb_sel (List.mem_of_getElem? (i := 18) (by decide +kernel)) rfl
def a_X7_read : AC := [(0, vAload 0 1), (1, vGetR TT 23 0 26 4), (4, vI 0 5), (5, vPutI 26 2 8), (8, vI 0 9), (9, vIstore 1 10), (10, vIload 1 11), (11, vI 16 13), (13, vIcGe 129 16), (16, vAload 0 17), (17, vAload 0 18), (18, vGetI 23 3 21), (21, vI 48 23), (23, vImul 24), (24, vIload 1 25), (25, vI 3 26), (26, vImul 27), (27, vIadd 28), (28, vCallM w_X7_readStep 23 1 31), (31, vIfNe 42 34), (34, vAload 0 35), (35, vGetR TT 23 0 26 38), (38, vGetI 26 2 41), (41, vIret), (42, vAload 0 43), (43, vGetR TT 23 0 26 46), (46, vCallM w_X10_ahead 26 0 49), (49, vIstore 2 50), (50, vIload 2 51), (51, vI (-1) 52), (52, vIcNe 88 55), (55, vAload 0 56), (56, vGetI 23 3 59), (59, vIfLt 88 62), (62, vAload 0 63), (63, vGetI 23 3 66), (66, vAload 0 67), (67, vGetR TT 23 2 8 70), (70, vAlen TT 71), (71, vIcGe 88 74), (74, vAload 0 75), (75, vGetR TT 23 2 8 78), (78, vAload 0 79), (79, vGetI 23 3 82), (82, vIload 1 83), (83, vI 1 84), (84, vIadd 85), (85, vIast TT 86), (86, vI (-1) 87), (87, vIret), (88, vIload 2 89), (89, vI 59 91), (91, vIcNe 102 94), (94, vIload 1 95), (95, vI 1 96), (96, vIadd 97), (97, vI 16 99), (99, vIcNe 110 102), (102, vAload 0 103), (103, vGetR TT 23 0 26 106), (106, vGetI 26 2 109), (109, vIret), (110, vAload 0 111), (111, vGetR TT 23 0 26 114), (114, vDup 115), (115, vGetI 26 2 118), (118, vI 1 119), (119, vIadd 120), (120, vPutI 26 2 123), (123, vIinc 1 1 126), (126, vGoto 10), (129, vAload 0 130), (130, vGetR TT 23 0 26 133), (133, vGetI 26 2 136), (136, vIret)]
theorem k_X7_read_0 : look a_X7_read 0 = vAload 0 1 := rfl
theorem k_X7_read_1 : look a_X7_read 1 = vGetR TT 23 0 26 4 := rfl
theorem k_X7_read_4 : look a_X7_read 4 = vI 0 5 := rfl
theorem k_X7_read_5 : look a_X7_read 5 = vPutI 26 2 8 := rfl
theorem k_X7_read_8 : look a_X7_read 8 = vI 0 9 := rfl
theorem k_X7_read_9 : look a_X7_read 9 = vIstore 1 10 := rfl
theorem k_X7_read_10 : look a_X7_read 10 = vIload 1 11 := rfl
theorem k_X7_read_11 : look a_X7_read 11 = vI 16 13 := rfl
theorem k_X7_read_13 : look a_X7_read 13 = vIcGe 129 16 := rfl
theorem k_X7_read_16 : look a_X7_read 16 = vAload 0 17 := rfl
theorem k_X7_read_17 : look a_X7_read 17 = vAload 0 18 := rfl
theorem k_X7_read_18 : look a_X7_read 18 = vGetI 23 3 21 := rfl
theorem k_X7_read_21 : look a_X7_read 21 = vI 48 23 := rfl
theorem k_X7_read_23 : look a_X7_read 23 = vImul 24 := rfl
theorem k_X7_read_24 : look a_X7_read 24 = vIload 1 25 := rfl
theorem k_X7_read_25 : look a_X7_read 25 = vI 3 26 := rfl
theorem k_X7_read_26 : look a_X7_read 26 = vImul 27 := rfl
theorem k_X7_read_27 : look a_X7_read 27 = vIadd 28 := rfl
theorem k_X7_read_28 : look a_X7_read 28 = vCallM w_X7_readStep 23 1 31 := rfl
theorem k_X7_read_31 : look a_X7_read 31 = vIfNe 42 34 := rfl
theorem k_X7_read_34 : look a_X7_read 34 = vAload 0 35 := rfl
theorem k_X7_read_35 : look a_X7_read 35 = vGetR TT 23 0 26 38 := rfl
theorem k_X7_read_38 : look a_X7_read 38 = vGetI 26 2 41 := rfl
theorem k_X7_read_41 : look a_X7_read 41 = vIret := rfl
theorem k_X7_read_42 : look a_X7_read 42 = vAload 0 43 := rfl
theorem k_X7_read_43 : look a_X7_read 43 = vGetR TT 23 0 26 46 := rfl
theorem k_X7_read_46 : look a_X7_read 46 = vCallM w_X10_ahead 26 0 49 := rfl
theorem k_X7_read_49 : look a_X7_read 49 = vIstore 2 50 := rfl
theorem k_X7_read_50 : look a_X7_read 50 = vIload 2 51 := rfl
theorem k_X7_read_51 : look a_X7_read 51 = vI (-1) 52 := rfl
theorem k_X7_read_52 : look a_X7_read 52 = vIcNe 88 55 := rfl
theorem k_X7_read_55 : look a_X7_read 55 = vAload 0 56 := rfl
theorem k_X7_read_56 : look a_X7_read 56 = vGetI 23 3 59 := rfl
theorem k_X7_read_59 : look a_X7_read 59 = vIfLt 88 62 := rfl
theorem k_X7_read_62 : look a_X7_read 62 = vAload 0 63 := rfl
theorem k_X7_read_63 : look a_X7_read 63 = vGetI 23 3 66 := rfl
theorem k_X7_read_66 : look a_X7_read 66 = vAload 0 67 := rfl
theorem k_X7_read_67 : look a_X7_read 67 = vGetR TT 23 2 8 70 := rfl
theorem k_X7_read_70 : look a_X7_read 70 = vAlen TT 71 := rfl
theorem k_X7_read_71 : look a_X7_read 71 = vIcGe 88 74 := rfl
theorem k_X7_read_74 : look a_X7_read 74 = vAload 0 75 := rfl
theorem k_X7_read_75 : look a_X7_read 75 = vGetR TT 23 2 8 78 := rfl
theorem k_X7_read_78 : look a_X7_read 78 = vAload 0 79 := rfl
theorem k_X7_read_79 : look a_X7_read 79 = vGetI 23 3 82 := rfl
theorem k_X7_read_82 : look a_X7_read 82 = vIload 1 83 := rfl
theorem k_X7_read_83 : look a_X7_read 83 = vI 1 84 := rfl
theorem k_X7_read_84 : look a_X7_read 84 = vIadd 85 := rfl
theorem k_X7_read_85 : look a_X7_read 85 = vIast TT 86 := rfl
theorem k_X7_read_86 : look a_X7_read 86 = vI (-1) 87 := rfl
theorem k_X7_read_87 : look a_X7_read 87 = vIret := rfl
theorem k_X7_read_88 : look a_X7_read 88 = vIload 2 89 := rfl
theorem k_X7_read_89 : look a_X7_read 89 = vI 59 91 := rfl
theorem k_X7_read_91 : look a_X7_read 91 = vIcNe 102 94 := rfl
theorem k_X7_read_94 : look a_X7_read 94 = vIload 1 95 := rfl
theorem k_X7_read_95 : look a_X7_read 95 = vI 1 96 := rfl
theorem k_X7_read_96 : look a_X7_read 96 = vIadd 97 := rfl
theorem k_X7_read_97 : look a_X7_read 97 = vI 16 99 := rfl
theorem k_X7_read_99 : look a_X7_read 99 = vIcNe 110 102 := rfl
theorem k_X7_read_102 : look a_X7_read 102 = vAload 0 103 := rfl
theorem k_X7_read_103 : look a_X7_read 103 = vGetR TT 23 0 26 106 := rfl
theorem k_X7_read_106 : look a_X7_read 106 = vGetI 26 2 109 := rfl
theorem k_X7_read_109 : look a_X7_read 109 = vIret := rfl
theorem k_X7_read_110 : look a_X7_read 110 = vAload 0 111 := rfl
theorem k_X7_read_111 : look a_X7_read 111 = vGetR TT 23 0 26 114 := rfl
theorem k_X7_read_114 : look a_X7_read 114 = vDup 115 := rfl
theorem k_X7_read_115 : look a_X7_read 115 = vGetI 26 2 118 := rfl
theorem k_X7_read_118 : look a_X7_read 118 = vI 1 119 := rfl
theorem k_X7_read_119 : look a_X7_read 119 = vIadd 120 := rfl
theorem k_X7_read_120 : look a_X7_read 120 = vPutI 26 2 123 := rfl
theorem k_X7_read_123 : look a_X7_read 123 = vIinc 1 1 126 := rfl
theorem k_X7_read_126 : look a_X7_read 126 = vGoto 10 := rfl
theorem k_X7_read_129 : look a_X7_read 129 = vAload 0 130 := rfl
theorem k_X7_read_130 : look a_X7_read 130 = vGetR TT 23 0 26 133 := rfl
theorem k_X7_read_133 : look a_X7_read 133 = vGetI 26 2 136 := rfl
theorem k_X7_read_136 : look a_X7_read 136 = vIret := rfl
theorem o_X7_read {X : amX} (e1 : XT X = TT) (e2 : XD X = 6) (hB : amB X RX7 cX7_read (some .int) 3) : ∀ pc, amOK X pc (look a_X7_read pc) := by
  have hT : amTok (XT X) := e1 ▸ TT_ok
  refine look_ok ?_
  unfold a_X7_read
  refine fc (ok_aload_n hB dX7_read_0) ?_
  refine fc (okt_getR e1 hB hT fl_X7_22 rfl af_7_0 at_7_0 (by decide) dX7_read_1) ?_
  refine fc (ok_iconst hB dX7_read_4) ?_
  refine fc (ok_putI hB hT fp_X7_26 rfl rfl rfl af_10_2 dX7_read_5) ?_
  refine fc (ok_iconst hB dX7_read_8) ?_
  refine fc (ok_istore_n hB (by decide) dX7_read_9) ?_
  refine fc (ok_iload_n hB dX7_read_10) ?_
  refine fc (ok_bipush hB dX7_read_11 (by decide)) ?_
  refine fc (ok_icmp_ge hB (t := 129) (by decide) dX7_read_13) ?_
  refine fc (ok_aload_n hB dX7_read_16) ?_
  refine fc (ok_aload_n hB dX7_read_17) ?_
  refine fc (ok_getI hB hT fl_X7_18 rfl rfl (Or.inl af_7_3) dX7_read_18) ?_
  refine fc (ok_bipush hB dX7_read_21 (by decide)) ?_
  refine fc (ok_imul hB dX7_read_23) ?_
  refine fc (ok_iload_n hB dX7_read_24) ?_
  refine fc (ok_iconst hB dX7_read_25) ?_
  refine fc (ok_imul hB dX7_read_26) ?_
  refine fc (ok_iadd hB dX7_read_27) ?_
  refine fc (ok_callM hB hT (e1 ▸ s_X7_readStep) lk_X7_31 (by rw [e2]; decide) (c := 7) rfl rfl rfl wd_639 sl_X7_readStep dX7_read_28) ?_
  refine fc (ok_if_ne hB (t := 42) (by decide) dX7_read_31) ?_
  refine fc (ok_aload_n hB dX7_read_34) ?_
  refine fc (okt_getR e1 hB hT fl_X7_22 rfl af_7_0 at_7_0 (by decide) dX7_read_35) ?_
  refine fc (ok_getI hB hT fl_X7_26 rfl rfl (Or.inl af_10_2) dX7_read_38) ?_
  refine fc (ok_iret hB dX7_read_41) ?_
  refine fc (ok_aload_n hB dX7_read_42) ?_
  refine fc (okt_getR e1 hB hT fl_X7_22 rfl af_7_0 at_7_0 (by decide) dX7_read_43) ?_
  refine fc (ok_callM hB hT (e1 ▸ s_X10_ahead) lk_X7_35 (by rw [e2]; decide) (c := 10) rfl rfl rfl wd_409 wd_410 dX7_read_46) ?_
  refine fc (ok_istore_n hB (by decide) dX7_read_49) ?_
  refine fc (ok_iload_n hB dX7_read_50) ?_
  refine fc (ok_iconst hB dX7_read_51) ?_
  refine fc (ok_icmp_ne hB (t := 88) (by decide) dX7_read_52) ?_
  refine fc (ok_aload_n hB dX7_read_55) ?_
  refine fc (ok_getI hB hT fl_X7_18 rfl rfl (Or.inl af_7_3) dX7_read_56) ?_
  refine fc (ok_if_lt hB (t := 88) (by decide) dX7_read_59) ?_
  refine fc (ok_aload_n hB dX7_read_62) ?_
  refine fc (ok_getI hB hT fl_X7_18 rfl rfl (Or.inl af_7_3) dX7_read_63) ?_
  refine fc (ok_aload_n hB dX7_read_66) ?_
  refine fc (okt_getR e1 hB hT fl_X7_15 rfl af_7_2 at_7_2 (by decide) dX7_read_67) ?_
  refine fc (okt_arraylength e1 hB dX7_read_70) ?_
  refine fc (ok_icmp_ge hB (t := 88) (by decide) dX7_read_71) ?_
  refine fc (ok_aload_n hB dX7_read_74) ?_
  refine fc (okt_getR e1 hB hT fl_X7_15 rfl af_7_2 at_7_2 (by decide) dX7_read_75) ?_
  refine fc (ok_aload_n hB dX7_read_78) ?_
  refine fc (ok_getI hB hT fl_X7_18 rfl rfl (Or.inl af_7_3) dX7_read_79) ?_
  refine fc (ok_iload_n hB dX7_read_82) ?_
  refine fc (ok_iconst hB dX7_read_83) ?_
  refine fc (ok_iadd hB dX7_read_84) ?_
  refine fc (okt_iastore e1 hB dX7_read_85) ?_
  refine fc (ok_iconst hB dX7_read_86) ?_
  refine fc (ok_iret hB dX7_read_87) ?_
  refine fc (ok_iload_n hB dX7_read_88) ?_
  refine fc (ok_bipush hB dX7_read_89 (by decide)) ?_
  refine fc (ok_icmp_ne hB (t := 102) (by decide) dX7_read_91) ?_
  refine fc (ok_iload_n hB dX7_read_94) ?_
  refine fc (ok_iconst hB dX7_read_95) ?_
  refine fc (ok_iadd hB dX7_read_96) ?_
  refine fc (ok_bipush hB dX7_read_97 (by decide)) ?_
  refine fc (ok_icmp_ne hB (t := 110) (by decide) dX7_read_99) ?_
  refine fc (ok_aload_n hB dX7_read_102) ?_
  refine fc (okt_getR e1 hB hT fl_X7_22 rfl af_7_0 at_7_0 (by decide) dX7_read_103) ?_
  refine fc (ok_getI hB hT fl_X7_26 rfl rfl (Or.inl af_10_2) dX7_read_106) ?_
  refine fc (ok_iret hB dX7_read_109) ?_
  refine fc (ok_aload_n hB dX7_read_110) ?_
  refine fc (okt_getR e1 hB hT fl_X7_22 rfl af_7_0 at_7_0 (by decide) dX7_read_111) ?_
  refine fc (ok_dup hB dX7_read_114) ?_
  refine fc (ok_getI hB hT fl_X7_26 rfl rfl (Or.inl af_10_2) dX7_read_115) ?_
  refine fc (ok_iconst hB dX7_read_118) ?_
  refine fc (ok_iadd hB dX7_read_119) ?_
  refine fc (ok_putI hB hT fp_X7_26 rfl rfl rfl af_10_2 dX7_read_120) ?_
  refine fc (ok_iinc hB (by decide) dX7_read_123) ?_
  refine fc (ok_goto hB (t := 10) (by decide) dX7_read_126) ?_
  refine fc (ok_aload_n hB dX7_read_129) ?_
  refine fc (okt_getR e1 hB hT fl_X7_22 rfl af_7_0 at_7_0 (by decide) dX7_read_130) ?_
  refine fc (ok_getI hB hT fl_X7_26 rfl rfl (Or.inl af_10_2) dX7_read_133) ?_
  refine fc (ok_iret hB dX7_read_136) ?_
  exact fn
def inv_sread (σ : Mem) (R : Int × Int × (Int → Int)) (n pc : Nat) (ls st : List AV) (σ' : Mem) : Prop := pc = 10 ∧ st = [] ∧ ∃ (i pos : Int) (v vF : Int → Int) (v2 : AV), ls = [(23, 13), (0, i), v2] ∧ σ' = setP (up σ 1 2 pos) (σ 13 3) v ∧ 0 ≤ i ∧ i + n = 16 ∧ 0 ≤ pos ∧ pos ≤ σ 1 1 ∧ (∀ k, 0 ≤ k → k < i * 3 → v k = vF k) ∧ seasF (tsg σ) (σ 1 1) n i pos vF = R
def w_X7_read : WP := fun av σ Q => av = [(23, 13)] ∧ (tapeOk σ ∧ 0 ≤ σ 13 3 ∧ σ 13 3 ≤ 4 ∧ (∀ p v, ((seasF (tsg σ) (σ 1 1) 16 0 0 (fun _ => 0)).1 = -1 → ∀ k, 0 ≤ k → k < (seasF (tsg σ) (σ 1 1) 16 0 0 (fun _ => 0)).2.1 * 3 → v k = (seasF (tsg σ) (σ 1 1) 16 0 0 (fun _ => 0)).2.2 k) → Q (0, (seasF (tsg σ) (σ 1 1) 16 0 0 (fun _ => 0)).1) (if (seasF (tsg σ) (σ 1 1) 16 0 0 (fun _ => 0)).1 = -1 then up (setP (up σ 1 2 p) (σ 13 3) v) 15 (σ 13 3) (seasF (tsg σ) (σ 1 1) 16 0 0 (fun _ => 0)).2.1 else setP (up σ 1 2 p) (σ 13 3) v)))
theorem w_X7_read_e  (σ : Mem) (Q : AV → Mem → Prop) : w_X7_read [(23, 13)] σ Q = (tapeOk σ ∧ 0 ≤ σ 13 3 ∧ σ 13 3 ≤ 4 ∧ (∀ p v, ((seasF (tsg σ) (σ 1 1) 16 0 0 (fun _ => 0)).1 = -1 → ∀ k, 0 ≤ k → k < (seasF (tsg σ) (σ 1 1) 16 0 0 (fun _ => 0)).2.1 * 3 → v k = (seasF (tsg σ) (σ 1 1) 16 0 0 (fun _ => 0)).2.2 k) → Q (0, (seasF (tsg σ) (σ 1 1) 16 0 0 (fun _ => 0)).1) (if (seasF (tsg σ) (σ 1 1) 16 0 0 (fun _ => 0)).1 = -1 then up (setP (up σ 1 2 p) (σ 13 3) v) 15 (σ 13 3) (seasF (tsg σ) (σ 1 1) 16 0 0 (fun _ => 0)).2.1 else setP (up σ 1 2 p) (σ 13 3) v))) := by
  apply propext; constructor
  · rintro ⟨h9, hb9⟩; cases h9; exact hb9
  · intro hb9; exact ⟨rfl, hb9⟩

set_option maxRecDepth 100000 in
set_option maxHeartbeats 4000000 in
theorem s_X7_read : ∀ av σ Q, w_X7_read av σ Q → amCall 6 0 0 TT yX7_read cX7_read 3 (some .int) av σ Q := by
  rintro av σ Q ⟨rfl, ht, hc0, hc1, h⟩
  have ht0 := ht.1
  have ht1 := ht.2.1
  have hte : ∀ i, σ 1 1 ≤ i → tsg σ i = -1 := fun i hi => (tsg_bd ht i).2.2.2 hi
  generalize hR : seasF (tsg σ) (σ 1 1) 16 0 0 (fun _ => 0) = R at h
  refine am_m [10] (inv_sread σ R) (own := RX7) (A := look a_X7_read) (fun X e1 e2 hB => o_X7_read e1 e2 hB) rfl (by decide +kernel) rfl rfl ?_ ⟨90, ?_⟩ (w := 3)
  · rintro n pc ls st σ' ⟨rfl, rfl, i, pos, v, vF, v2, rfl, rfl, hi0, hin, hp0, hp1, hv, hr⟩
    have m1 : ∀ x v, setP (up σ 1 2 x) (σ 13 3) v 1 = up σ 1 2 x 1 := fun x v => setP_o _ _ (by decide)
    have m2 : ∀ x v, setP (up σ 1 2 x) (σ 13 3) v 2 = σ 2 := fun x v => (setP_o _ _ (by decide)).trans (up_na _ (by decide))
    have m13 : ∀ x v, setP (up σ 1 2 x) (σ 13 3) v 13 = σ 13 := fun x v => (setP_o _ _ (by decide)).trans (up_na _ (by decide))
    have e11 : ∀ x, up σ 1 2 x 1 1 = σ 1 1 := fun x => up_n _ (Or.inr (by decide))
    have Mt : ∀ x v, tsg (setP (up σ 1 2 x) (σ 13 3) v) = tsg σ := fun x v => tsg_cong (by rw [m1, e11]) (m2 x v)
    have MtO : ∀ x v, tapeOk (setP (up σ 1 2 x) (σ 13 3) v) = True := fun x v => eq_true (by
      unfold tapeOk; rw [m1, m2, e11]; exact ht)
    have sb := stepF_b hte ⟨hp0, hp1⟩
    refine ⟨110, ?_⟩
    simp only [vSw2_e, swP_n, swP_c, vI_e, vL_e, vNull_e, vIload_e, vLload_e, vAload_e, vIstore_e, vLstore_e, vAstore_e, vIinc_e, vIadd_e, vIsub_e, vImul_e, vIand_e, vIor_e, vIxor_e, vIshl_e, vIshr_e, vIushr_e, vIdiv_e, vIrem_e, vLadd_e, vLsub_e, vLmul_e, vLand_e, vLor_e, vLxor_e, vLdiv_e, vLrem_e, vLushr_e, vLshl_e, vLcmp_e, vIneg_e, vI2l_e, vL2i_e, vI2b_e, vI2c_e, vDup_e, vPop_e, vDup2_e, vGoto_e, vIcEq_e, vIfEq_e, vIcNe_e, vIfNe_e, vIcLt_e, vIfLt_e, vIcGe_e, vIfGe_e, vIcGt_e, vIfGt_e, vIcLe_e, vIfLe_e, vNonnull_e, vSw_e, vGetI_e, vGetL_e, vGetR_e, vPutI_e, vPutZ_e, vPutL_e, vPutR_e, vIald_e, vIald_s, vLald_e, vBald_e, vBald_s, vAald_e, vIast_e, vLast_e, vBast_e, vAast_e, vAlen_e8, vAlen_e9, vAlen_e10, vAlen_e11, vAlen_e5, vAlen_e3, vGets_e, vCompact_e, vLdcS_e, vIret_e, vZret_e, vCret_e, vBret_e, vLret_e, vVret_e, vAret_e, vCallM_e0, vCallMV_e0, vCallS_e0, vCallSV_e0, vCallM_e1, vCallMV_e1, vCallS_e1, vCallSV_e1, vCallM_e2, vCallMV_e2, vCallS_e2, vCallSV_e2, vCallM_e3, vCallMV_e3, vCallS_e3, vCallSV_e3, vCallM_e4, vCallMV_e4, vCallS_e4, vCallSV_e4, vCallM_e5, vCallMV_e5, vCallS_e5, vCallSV_e5, vCallM_e6, vCallMV_e6, vCallS_e6, vCallSV_e6, vCallM_e7, vCallMV_e7, vCallS_e7, vCallSV_e7, vBad_e, vStrVal_e, vStrCod_e, vForm_e, vCallT_e0, vCallT_e1, vCallT_e2, vCopy_e, rf_0_0, rf_0_1, rf_0_2, rf_0_3, rf_0_4, rf_0_7, rf_0_10, rf_0_11, rf_0_12, rf_0_13, rf_0_14, rf_0_15, rf_0_16, rf_1_0, rf_3_0, rf_3_1, rf_6_0, rf_6_1, rf_9_0, rf_9_1, rf_9_3, rf_13_0, rf_13_1, rf_13_2, rf_16_0, rf_16_1, rf_16_2, rf_16_3, rf_21_0, rf_21_1, rf_21_2, rf_21_3, rf_26_0, rf_26_1, rf_26_2, rf_26_3, rf_26_4, rf_26_5, rf_26_6, rf_31_0, rf_31_2, rf_31_5, rf_31_6, rf_36_0, rf_36_1, rf_36_2, rf_36_3, rf_39_0, rf_39_1, rf_39_2, rf_41_0, rf_41_1, rf_41_2, rf_41_3, rf_5000_1, rf_5000_2, rf_5000_3, rf_5000_4, rf_5000_5, rf_5000_15, rf_5000_16, rf_5000_18, rf_5000_19, rf_5000_20, rf_5000_21, rf_5000_22, rf_5000_23, rf_5000_24, rf_5000_25, rf_5000_26, rf_5000_27, rf_5000_36, rf_5000_37, rf_5000_40, rf_5000_41, rf_5000_42, rf_5000_43, rf_5000_44, rf_5000_45, rf_5000_47, rf_5000_52, rf_5000_54, rf_5000_55, rf_100_0, rf_100_1, rf_103_0, rf_103_1, rf_106_0, rf_106_1, rf_109_0, rf_109_1, al_2, al_4, al_5, al_7, al_8, al_10, al_11, al_12, al_14, al_15, al_17, al_18, al_19, al_20, al_22, al_23, al_24, al_25, al_27, al_28, al_29, al_30, al_32, al_33, al_34, al_35, al_37, al_38, al_40, al_42, al_5001, al_5002, al_5003, al_5004, al_5005, al_5006, al_5007, al_5008, al_5009, al_5010, al_5011, al_5012, al_5013, al_5014, al_5015, al_5016, al_5017, al_5018, al_5019, al_5020, al_5021, al_5022, al_5023, al_5024, al_5025, al_5026, al_9000, al_101, al_102, al_104, al_105, al_107, al_108, al_110, al_111, vcs_e, lg_c0, lg_cs, lg_nil, set_c0, set_cs, okst_0, okst_s, acok_n, acok_c, List.contains_nil, List.contains_cons, Bool.or_false, Bool.false_or, Bool.false_eq_true, if_false, if_true, ite_self, ne_eq, true_and, and_true, not_false_eq_true, not_true_eq_false, false_imp_iff, true_imp_iff, Nat.ble_eq, Bool.and_eq_true, reduceCtorEq, or_false, false_or, or_true, true_or, false_and, and_false, and_self, Int.reduceLE, Int.reduceAdd, Int.reduceSub, Int.reduceMul, Int.reduceNeg, Int.reduceLT, Int.reduceEq, Int.reduceNe, Nat.reduceBEq, Nat.reduceBNe, Nat.reduceEqDiff, amCmp_in, amCmp_lt, amCmp_le, amCmp_gt, amCmp_ge, amCmp_eq, amCmp_ne, Nat.reduceLeDiff, Nat.reduceSub, Bool.and_true, Bool.true_and, Bool.and_self, Bool.or_true, Bool.true_or, isRf_3, isRf_4, isRf_5, isRf_8, isRf_9, isRf_10, isRf_11, isRf_15, isRf_16, isRf_17, isRf_18, isRf_19, isRf_20, isRf_21, isRf_22, isRf_23, isRf_24, isRf_25, isRf_26, isRf_27, isRf_28, k_X7_read_0, k_X7_read_1, k_X7_read_4, k_X7_read_5, k_X7_read_8, k_X7_read_9, k_X7_read_10, k_X7_read_11, k_X7_read_13, k_X7_read_16, k_X7_read_17, k_X7_read_18, k_X7_read_21, k_X7_read_23, k_X7_read_24, k_X7_read_25, k_X7_read_26, k_X7_read_27, k_X7_read_28, k_X7_read_31, k_X7_read_34, k_X7_read_35, k_X7_read_38, k_X7_read_41, k_X7_read_42, k_X7_read_43, k_X7_read_46, k_X7_read_49, k_X7_read_50, k_X7_read_51, k_X7_read_52, k_X7_read_55, k_X7_read_56, k_X7_read_59, k_X7_read_62, k_X7_read_63, k_X7_read_66, k_X7_read_67, k_X7_read_70, k_X7_read_71, k_X7_read_74, k_X7_read_75, k_X7_read_78, k_X7_read_79, k_X7_read_82, k_X7_read_83, k_X7_read_84, k_X7_read_85, k_X7_read_86, k_X7_read_87, k_X7_read_88, k_X7_read_89, k_X7_read_91, k_X7_read_94, k_X7_read_95, k_X7_read_96, k_X7_read_97, k_X7_read_99, k_X7_read_102, k_X7_read_103, k_X7_read_106, k_X7_read_109, k_X7_read_110, k_X7_read_111, k_X7_read_114, k_X7_read_115, k_X7_read_118, k_X7_read_119, k_X7_read_120, k_X7_read_123, k_X7_read_126, k_X7_read_129, k_X7_read_130, k_X7_read_133, k_X7_read_136, w_X10_ahead_e, w_X7_readStep_e, m1, m13, e11, up_s, Mt, MtO, skp_fold, setP_up, up_up]
    cases n with
    | zero =>
      unfold seasF at hr
      have hR1 : R.1 = pos := by rw [← hr]
      have h9 := h pos v (fun g => absurd g (by omega))
      rw [if_neg (by omega), hR1] at h9
      repeat' (first | assumption | apply And.intro | intro _)
      all_goals first | omega | exact h9
    | succ n =>
      unfold seasF at hr
      generalize stepF (tsg σ) (σ 1 1) pos = S at *
      have hi16 : i < 16 := by omega
      by_cases c1 : S.1 = -1
      · rw [if_pos c1] at hr
        have hR1 : R.1 = S.2.1 := by rw [← hr]
        have hRn : ¬ R.1 = -1 := by omega
        have h9 : ∀ v', Q (0, S.2.1) (setP (up σ 1 2 S.2.1) (σ 13 3) v') := fun v' => by
          have := h S.2.1 v' (fun g => absurd g hRn)
          rw [if_neg hRn, hR1] at this
          exact this
        simp only [c1, if_true, eq_self, Int.reduceEq, Int.reduceNeg, ne_eq, not_true_eq_false, false_imp_iff, true_imp_iff, spw_setP σ _ i _ _ _ _ _ _ hi0 hi16, m1, up_s]
        repeat' (first | assumption | apply And.intro | intro _)
        all_goals first | omega | trivial | exact h9 _
      · rw [if_neg c1] at hr
        have s2 := sk_b (tsg σ) (n := σ 1 1) (p := S.2.1) (by omega)
        have b2 := tsg_bd ht (sk (tsg σ) (σ 1 1) S.2.1)
        simp only [if_neg c1, spw_setP σ _ i _ _ _ _ _ _ hi0 hi16, m1, m13, e11, up_s, Mt, MtO, skp_fold, setP_up, up_up]
        have hvn : ∀ k, 0 ≤ k → k < (i + 1) * 3 → upf (upf (upf v (i * 3) S.1) (i * 3 + 1) S.2.2.1) (i * 3 + 2) S.2.2.2 k = upf (upf (upf vF (i * 3) S.1) (i * 3 + 1) S.2.2.1) (i * 3 + 2) S.2.2.2 k := fun k g0 g1 => by
          unfold upf
          by_cases e2 : k = i * 3 + 2
          · rw [if_pos e2, if_pos e2]
          · rw [if_neg e2, if_neg e2]
            by_cases e1 : k = i * 3 + 1
            · rw [if_pos e1, if_pos e1]
            · rw [if_neg e1, if_neg e1]
              by_cases e0 : k = i * 3
              · rw [if_pos e0, if_pos e0]
              · rw [if_neg e0, if_neg e0]; exact hv k g0 (by omega)
        refine ⟨by omega, by omega, fun c => absurd c (by omega), fun _ => ⟨by omega, by omega, by omega, by omega, fun v0 v1 v2 hvv => ?_⟩⟩
        obtain ⟨rfl, rfl, rfl⟩ := hvv c1
        have m15 : ∀ x v, setP (up σ 1 2 x) (σ 13 3) v 15 = σ 15 := fun x v => (setP_o _ _ (by decide)).trans (up_na _ (by decide))
        by_cases c2 : tsg σ (sk (tsg σ) (σ 1 1) S.2.1) = -1
        · rw [if_pos c2] at hr
          have hR1 : R.1 = -1 := by rw [← hr]
          have h9 := h (sk (tsg σ) (σ 1 1) S.2.1) (upf (upf (upf v (i * 3) S.1) (i * 3 + 1) S.2.2.1) (i * 3 + 2) S.2.2.2) (fun _ k g0 g1 => by rw [← hr] at g1 ⊢; exact hvn k g0 g1)
          rw [if_pos hR1, hR1, ← hr] at h9
          repeat' (first | assumption | apply And.intro | intro _)
          all_goals first | omega | trivial | exact h9
        · rw [if_neg c2] at hr
          have s3 := sk_lt hte (q := sk (tsg σ) (σ 1 1) S.2.1) c2
          by_cases c3 : tsg σ (sk (tsg σ) (σ 1 1) S.2.1) ≠ 59 ∨ i + 1 = 16
          · rw [if_pos c3] at hr
            have hR1 : R.1 = sk (tsg σ) (σ 1 1) S.2.1 := by rw [← hr]
            have hRn : ¬ R.1 = -1 := by omega
            have h9 := h (sk (tsg σ) (σ 1 1) S.2.1) (upf (upf (upf v (i * 3) S.1) (i * 3 + 1) S.2.2.1) (i * 3 + 2) S.2.2.2) (fun g => absurd g hRn)
            rw [if_neg hRn, hR1] at h9
            repeat' (first | assumption | apply And.intro | intro _)
            all_goals first | omega | trivial | exact h9
          · rw [if_neg c3] at hr
            repeat' (first | assumption | apply And.intro | intro _)
            all_goals first | omega | trivial | exact ⟨n, by omega, rfl, rfl, _, _, _, _, _, rfl, rfl, by omega, by omega, by omega, by omega, hvn, hr⟩
  · change vcs _ _ _ _ 90 0 [(23, 13), (6, 0), (6, 0)] [] σ
    simp only [vSw2_e, swP_n, swP_c, vI_e, vL_e, vNull_e, vIload_e, vLload_e, vAload_e, vIstore_e, vLstore_e, vAstore_e, vIinc_e, vIadd_e, vIsub_e, vImul_e, vIand_e, vIor_e, vIxor_e, vIshl_e, vIshr_e, vIushr_e, vIdiv_e, vIrem_e, vLadd_e, vLsub_e, vLmul_e, vLand_e, vLor_e, vLxor_e, vLdiv_e, vLrem_e, vLushr_e, vLshl_e, vLcmp_e, vIneg_e, vI2l_e, vL2i_e, vI2b_e, vI2c_e, vDup_e, vPop_e, vDup2_e, vGoto_e, vIcEq_e, vIfEq_e, vIcNe_e, vIfNe_e, vIcLt_e, vIfLt_e, vIcGe_e, vIfGe_e, vIcGt_e, vIfGt_e, vIcLe_e, vIfLe_e, vNonnull_e, vSw_e, vGetI_e, vGetL_e, vGetR_e, vPutI_e, vPutZ_e, vPutL_e, vPutR_e, vIald_e, vIald_s, vLald_e, vBald_e, vBald_s, vAald_e, vIast_e, vLast_e, vBast_e, vAast_e, vAlen_e8, vAlen_e9, vAlen_e10, vAlen_e11, vAlen_e5, vAlen_e3, vGets_e, vCompact_e, vLdcS_e, vIret_e, vZret_e, vCret_e, vBret_e, vLret_e, vVret_e, vAret_e, vCallM_e0, vCallMV_e0, vCallS_e0, vCallSV_e0, vCallM_e1, vCallMV_e1, vCallS_e1, vCallSV_e1, vCallM_e2, vCallMV_e2, vCallS_e2, vCallSV_e2, vCallM_e3, vCallMV_e3, vCallS_e3, vCallSV_e3, vCallM_e4, vCallMV_e4, vCallS_e4, vCallSV_e4, vCallM_e5, vCallMV_e5, vCallS_e5, vCallSV_e5, vCallM_e6, vCallMV_e6, vCallS_e6, vCallSV_e6, vCallM_e7, vCallMV_e7, vCallS_e7, vCallSV_e7, vBad_e, vStrVal_e, vStrCod_e, vForm_e, vCallT_e0, vCallT_e1, vCallT_e2, vCopy_e, rf_0_0, rf_0_1, rf_0_2, rf_0_3, rf_0_4, rf_0_7, rf_0_10, rf_0_11, rf_0_12, rf_0_13, rf_0_14, rf_0_15, rf_0_16, rf_1_0, rf_3_0, rf_3_1, rf_6_0, rf_6_1, rf_9_0, rf_9_1, rf_9_3, rf_13_0, rf_13_1, rf_13_2, rf_16_0, rf_16_1, rf_16_2, rf_16_3, rf_21_0, rf_21_1, rf_21_2, rf_21_3, rf_26_0, rf_26_1, rf_26_2, rf_26_3, rf_26_4, rf_26_5, rf_26_6, rf_31_0, rf_31_2, rf_31_5, rf_31_6, rf_36_0, rf_36_1, rf_36_2, rf_36_3, rf_39_0, rf_39_1, rf_39_2, rf_41_0, rf_41_1, rf_41_2, rf_41_3, rf_5000_1, rf_5000_2, rf_5000_3, rf_5000_4, rf_5000_5, rf_5000_15, rf_5000_16, rf_5000_18, rf_5000_19, rf_5000_20, rf_5000_21, rf_5000_22, rf_5000_23, rf_5000_24, rf_5000_25, rf_5000_26, rf_5000_27, rf_5000_36, rf_5000_37, rf_5000_40, rf_5000_41, rf_5000_42, rf_5000_43, rf_5000_44, rf_5000_45, rf_5000_47, rf_5000_52, rf_5000_54, rf_5000_55, rf_100_0, rf_100_1, rf_103_0, rf_103_1, rf_106_0, rf_106_1, rf_109_0, rf_109_1, al_2, al_4, al_5, al_7, al_8, al_10, al_11, al_12, al_14, al_15, al_17, al_18, al_19, al_20, al_22, al_23, al_24, al_25, al_27, al_28, al_29, al_30, al_32, al_33, al_34, al_35, al_37, al_38, al_40, al_42, al_5001, al_5002, al_5003, al_5004, al_5005, al_5006, al_5007, al_5008, al_5009, al_5010, al_5011, al_5012, al_5013, al_5014, al_5015, al_5016, al_5017, al_5018, al_5019, al_5020, al_5021, al_5022, al_5023, al_5024, al_5025, al_5026, al_9000, al_101, al_102, al_104, al_105, al_107, al_108, al_110, al_111, vcs_e, lg_c0, lg_cs, lg_nil, set_c0, set_cs, okst_0, okst_s, acok_n, acok_c, List.contains_nil, List.contains_cons, Bool.or_false, Bool.false_or, Bool.false_eq_true, if_false, if_true, ite_self, ne_eq, true_and, and_true, not_false_eq_true, not_true_eq_false, false_imp_iff, true_imp_iff, Nat.ble_eq, Bool.and_eq_true, reduceCtorEq, or_false, false_or, or_true, true_or, false_and, and_false, and_self, Int.reduceLE, Int.reduceAdd, Int.reduceSub, Int.reduceMul, Int.reduceNeg, Int.reduceLT, Int.reduceEq, Int.reduceNe, Nat.reduceBEq, Nat.reduceBNe, Nat.reduceEqDiff, amCmp_in, amCmp_lt, amCmp_le, amCmp_gt, amCmp_ge, amCmp_eq, amCmp_ne, Nat.reduceLeDiff, Nat.reduceSub, Bool.and_true, Bool.true_and, Bool.and_self, Bool.or_true, Bool.true_or, isRf_3, isRf_4, isRf_5, isRf_8, isRf_9, isRf_10, isRf_11, isRf_15, isRf_16, isRf_17, isRf_18, isRf_19, isRf_20, isRf_21, isRf_22, isRf_23, isRf_24, isRf_25, isRf_26, isRf_27, isRf_28, k_X7_read_0, k_X7_read_1, k_X7_read_4, k_X7_read_5, k_X7_read_8, k_X7_read_9, k_X7_read_10, k_X7_read_11, k_X7_read_13, k_X7_read_16, k_X7_read_17, k_X7_read_18, k_X7_read_21, k_X7_read_23, k_X7_read_24, k_X7_read_25, k_X7_read_26, k_X7_read_27, k_X7_read_28, k_X7_read_31, k_X7_read_34, k_X7_read_35, k_X7_read_38, k_X7_read_41, k_X7_read_42, k_X7_read_43, k_X7_read_46, k_X7_read_49, k_X7_read_50, k_X7_read_51, k_X7_read_52, k_X7_read_55, k_X7_read_56, k_X7_read_59, k_X7_read_62, k_X7_read_63, k_X7_read_66, k_X7_read_67, k_X7_read_70, k_X7_read_71, k_X7_read_74, k_X7_read_75, k_X7_read_78, k_X7_read_79, k_X7_read_82, k_X7_read_83, k_X7_read_84, k_X7_read_85, k_X7_read_86, k_X7_read_87, k_X7_read_88, k_X7_read_89, k_X7_read_91, k_X7_read_94, k_X7_read_95, k_X7_read_96, k_X7_read_97, k_X7_read_99, k_X7_read_102, k_X7_read_103, k_X7_read_106, k_X7_read_109, k_X7_read_110, k_X7_read_111, k_X7_read_114, k_X7_read_115, k_X7_read_118, k_X7_read_119, k_X7_read_120, k_X7_read_123, k_X7_read_126, k_X7_read_129, k_X7_read_130, k_X7_read_133, k_X7_read_136]
    exact ⟨16, rfl, rfl, 0, 0, fun k => up σ 1 2 0 14 (σ 13 3 * 48 + k), fun _ => 0, _, rfl, (setP_id _ _).symm, by omega, by omega, by omega, by omega, fun k g0 g1 => absurd g1 (by omega), hR⟩
