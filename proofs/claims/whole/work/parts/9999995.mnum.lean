/-! the reference reads numbers of a HOUSE -/
abbrev dg (x : Int) : Prop := 48 ≤ x ∧ x ≤ 57
theorem fa_u {σ : Mem} (hf : σ 5000 11 = -1) (x : Int) : faM (up σ 5000 10 x) = up (up σ 5000 10 x) 5000 11 x := by
  unfold faM; rw [if_pos (by rw [up_nj _ (by decide)]; exact hf), up_s]
theorem wd_1554 : Cond.methodLink RX12 229 yX12_here ∈ TBL := tb_tab (List.mem_of_getElem? (i := 1554) (by decide +kernel)) rfl
theorem wd_1557 : Cond.code yX12_here cX12_here 1 (some .int) ∈ TBL := tb_tab (List.mem_of_getElem? (i := 1557) (by decide +kernel)) rfl
theorem lk_X12_229 : amLk RX12 229 yX12_here cX12_here 1 (some .int) 0 := ⟨wd_1554, wd_12, wd_1557, by decide +kernel, by decide +kernel, by decide⟩
theorem wd_1556 : Cond.instanceMethod yX12_here ∈ TBL := tb_tab (List.mem_of_getElem? (i := 1556) (by decide +kernel)) rfl
theorem sl_X12_here : Cond.selects RX12 yX12_here yX12_here ∈ TBL := tb_sel (List.mem_of_getElem? (i := 56) (by decide +kernel)) rfl
def a_X12_number : AC := [(0, vAload 0 1), (1, vCallM w_X12_look 28 0 4), (4, vIstore 3 5), (5, vAload 0 6), (6, vCallM w_X12_isDigit 28 0 9), (9, vIfNe 19 12), (12, vAload 0 13), (13, vCallM w_X12_fails 28 0 16), (16, vPop 17), (17, vI 0 18), (18, vIret), (19, vIload 3 20), (20, vI 48 22), (22, vIsub 23), (23, vIstore 4 25), (25, vAload 0 26), (26, vDup 27), (27, vGetI 28 10 30), (30, vI 1 31), (31, vIadd 32), (32, vPutI 28 10 35), (35, vAload 0 36), (36, vCallM w_X12_isDigit 28 0 39), (39, vIfEq 67 42), (42, vI 10 44), (44, vIload 4 46), (46, vImul 47), (47, vAload 0 48), (48, vCallM w_X12_here 28 0 51), (51, vIadd 52), (52, vI 48 54), (54, vIsub 55), (55, vIstore 4 57), (57, vAload 0 58), (58, vDup 59), (59, vGetI 28 10 62), (62, vI 1 63), (63, vIadd 64), (64, vPutI 28 10 67), (67, vAload 0 68), (68, vCallM w_X12_isDigit 28 0 71), (71, vIfEq 81 74), (74, vAload 0 75), (75, vCallM w_X12_fails 28 0 78), (78, vPop 79), (79, vI 0 80), (80, vIret), (81, vIload 4 83), (83, vI2l 84), (84, vIload 1 85), (85, vI2l 86), (86, vIload 2 87), (87, vI2l 88), (88, vCallS w_X12_isIn 3 91), (91, vIfNe 109 94), (94, vAload 0 95), (95, vDup 96), (96, vGetI 28 10 99), (99, vI 1 100), (100, vIsub 101), (101, vPutI 28 10 104), (104, vAload 0 105), (105, vCallM w_X12_fails 28 0 108), (108, vPop 109), (109, vIload 4 111), (111, vIret)]
theorem k_X12_number_0 : look a_X12_number 0 = vAload 0 1 := rfl
theorem k_X12_number_1 : look a_X12_number 1 = vCallM w_X12_look 28 0 4 := rfl
theorem k_X12_number_4 : look a_X12_number 4 = vIstore 3 5 := rfl
theorem k_X12_number_5 : look a_X12_number 5 = vAload 0 6 := rfl
theorem k_X12_number_6 : look a_X12_number 6 = vCallM w_X12_isDigit 28 0 9 := rfl
theorem k_X12_number_9 : look a_X12_number 9 = vIfNe 19 12 := rfl
theorem k_X12_number_12 : look a_X12_number 12 = vAload 0 13 := rfl
theorem k_X12_number_13 : look a_X12_number 13 = vCallM w_X12_fails 28 0 16 := rfl
theorem k_X12_number_16 : look a_X12_number 16 = vPop 17 := rfl
theorem k_X12_number_17 : look a_X12_number 17 = vI 0 18 := rfl
theorem k_X12_number_18 : look a_X12_number 18 = vIret := rfl
theorem k_X12_number_19 : look a_X12_number 19 = vIload 3 20 := rfl
theorem k_X12_number_20 : look a_X12_number 20 = vI 48 22 := rfl
theorem k_X12_number_22 : look a_X12_number 22 = vIsub 23 := rfl
theorem k_X12_number_23 : look a_X12_number 23 = vIstore 4 25 := rfl
theorem k_X12_number_25 : look a_X12_number 25 = vAload 0 26 := rfl
theorem k_X12_number_26 : look a_X12_number 26 = vDup 27 := rfl
theorem k_X12_number_27 : look a_X12_number 27 = vGetI 28 10 30 := rfl
theorem k_X12_number_30 : look a_X12_number 30 = vI 1 31 := rfl
theorem k_X12_number_31 : look a_X12_number 31 = vIadd 32 := rfl
theorem k_X12_number_32 : look a_X12_number 32 = vPutI 28 10 35 := rfl
theorem k_X12_number_35 : look a_X12_number 35 = vAload 0 36 := rfl
theorem k_X12_number_36 : look a_X12_number 36 = vCallM w_X12_isDigit 28 0 39 := rfl
theorem k_X12_number_39 : look a_X12_number 39 = vIfEq 67 42 := rfl
theorem k_X12_number_42 : look a_X12_number 42 = vI 10 44 := rfl
theorem k_X12_number_44 : look a_X12_number 44 = vIload 4 46 := rfl
theorem k_X12_number_46 : look a_X12_number 46 = vImul 47 := rfl
theorem k_X12_number_47 : look a_X12_number 47 = vAload 0 48 := rfl
theorem k_X12_number_48 : look a_X12_number 48 = vCallM w_X12_here 28 0 51 := rfl
theorem k_X12_number_51 : look a_X12_number 51 = vIadd 52 := rfl
theorem k_X12_number_52 : look a_X12_number 52 = vI 48 54 := rfl
theorem k_X12_number_54 : look a_X12_number 54 = vIsub 55 := rfl
theorem k_X12_number_55 : look a_X12_number 55 = vIstore 4 57 := rfl
theorem k_X12_number_57 : look a_X12_number 57 = vAload 0 58 := rfl
theorem k_X12_number_58 : look a_X12_number 58 = vDup 59 := rfl
theorem k_X12_number_59 : look a_X12_number 59 = vGetI 28 10 62 := rfl
theorem k_X12_number_62 : look a_X12_number 62 = vI 1 63 := rfl
theorem k_X12_number_63 : look a_X12_number 63 = vIadd 64 := rfl
theorem k_X12_number_64 : look a_X12_number 64 = vPutI 28 10 67 := rfl
theorem k_X12_number_67 : look a_X12_number 67 = vAload 0 68 := rfl
theorem k_X12_number_68 : look a_X12_number 68 = vCallM w_X12_isDigit 28 0 71 := rfl
theorem k_X12_number_71 : look a_X12_number 71 = vIfEq 81 74 := rfl
theorem k_X12_number_74 : look a_X12_number 74 = vAload 0 75 := rfl
theorem k_X12_number_75 : look a_X12_number 75 = vCallM w_X12_fails 28 0 78 := rfl
theorem k_X12_number_78 : look a_X12_number 78 = vPop 79 := rfl
theorem k_X12_number_79 : look a_X12_number 79 = vI 0 80 := rfl
theorem k_X12_number_80 : look a_X12_number 80 = vIret := rfl
theorem k_X12_number_81 : look a_X12_number 81 = vIload 4 83 := rfl
theorem k_X12_number_83 : look a_X12_number 83 = vI2l 84 := rfl
theorem k_X12_number_84 : look a_X12_number 84 = vIload 1 85 := rfl
theorem k_X12_number_85 : look a_X12_number 85 = vI2l 86 := rfl
theorem k_X12_number_86 : look a_X12_number 86 = vIload 2 87 := rfl
theorem k_X12_number_87 : look a_X12_number 87 = vI2l 88 := rfl
theorem k_X12_number_88 : look a_X12_number 88 = vCallS w_X12_isIn 3 91 := rfl
theorem k_X12_number_91 : look a_X12_number 91 = vIfNe 109 94 := rfl
theorem k_X12_number_94 : look a_X12_number 94 = vAload 0 95 := rfl
theorem k_X12_number_95 : look a_X12_number 95 = vDup 96 := rfl
theorem k_X12_number_96 : look a_X12_number 96 = vGetI 28 10 99 := rfl
theorem k_X12_number_99 : look a_X12_number 99 = vI 1 100 := rfl
theorem k_X12_number_100 : look a_X12_number 100 = vIsub 101 := rfl
theorem k_X12_number_101 : look a_X12_number 101 = vPutI 28 10 104 := rfl
theorem k_X12_number_104 : look a_X12_number 104 = vAload 0 105 := rfl
theorem k_X12_number_105 : look a_X12_number 105 = vCallM w_X12_fails 28 0 108 := rfl
theorem k_X12_number_108 : look a_X12_number 108 = vPop 109 := rfl
theorem k_X12_number_109 : look a_X12_number 109 = vIload 4 111 := rfl
theorem k_X12_number_111 : look a_X12_number 111 = vIret := rfl
theorem o_X12_number {X : amX} (e1 : XT X = TT) (e2 : XD X = 1) (hB : amB X RX12 cX12_number (some .int) 5) : ∀ pc, amOK X pc (look a_X12_number pc) := by
  have hT : amTok (XT X) := e1 ▸ TT_ok
  refine look_ok ?_
  unfold a_X12_number
  refine fc (ok_aload_n hB dX12_number_0) ?_
  refine fc (ok_callM hB hT (e1 ▸ s_X12_look) lk_X12_153 (by rw [e2]; decide) (c := 12) rfl rfl rfl wd_1521 sl_X12_look dX12_number_1) ?_
  refine fc (ok_istore_n hB (by decide) dX12_number_4) ?_
  refine fc (ok_aload_n hB dX12_number_5) ?_
  refine fc (ok_callM hB hT (e1 ▸ s_X12_isDigit) lk_X12_183 (by rw [e2]; decide) (c := 12) rfl rfl rfl wd_1552 sl_X12_isDigit dX12_number_6) ?_
  refine fc (ok_if_ne hB (t := 19) (by decide) dX12_number_9) ?_
  refine fc (ok_aload_n hB dX12_number_12) ?_
  refine fc (ok_callM hB hT (e1 ▸ s_X12_fails) lk_X12_149 (by rw [e2]; decide) (c := 12) rfl rfl rfl wd_1525 sl_X12_fails dX12_number_13) ?_
  refine fc (ok_pop hB dX12_number_16) ?_
  refine fc (ok_iconst hB dX12_number_17) ?_
  refine fc (ok_iret hB dX12_number_18) ?_
  refine fc (ok_iload_n hB dX12_number_19) ?_
  refine fc (ok_bipush hB dX12_number_20 (by decide)) ?_
  refine fc (ok_isub hB dX12_number_22) ?_
  refine fc (ok_istore hB (by decide) dX12_number_23) ?_
  refine fc (ok_aload_n hB dX12_number_25) ?_
  refine fc (ok_dup hB dX12_number_26) ?_
  refine fc (ok_getI hB hT fl_X12_134 rfl rfl (Or.inl af_12_10) dX12_number_27) ?_
  refine fc (ok_iconst hB dX12_number_30) ?_
  refine fc (ok_iadd hB dX12_number_31) ?_
  refine fc (ok_putI hB hT fp_X12_134 rfl rfl rfl af_12_10 dX12_number_32) ?_
  refine fc (ok_aload_n hB dX12_number_35) ?_
  refine fc (ok_callM hB hT (e1 ▸ s_X12_isDigit) lk_X12_183 (by rw [e2]; decide) (c := 12) rfl rfl rfl wd_1552 sl_X12_isDigit dX12_number_36) ?_
  refine fc (ok_if_eq hB (t := 67) (by decide) dX12_number_39) ?_
  refine fc (ok_bipush hB dX12_number_42 (by decide)) ?_
  refine fc (ok_iload hB dX12_number_44) ?_
  refine fc (ok_imul hB dX12_number_46) ?_
  refine fc (ok_aload_n hB dX12_number_47) ?_
  refine fc (ok_callM hB hT (e1 ▸ s_X12_here) lk_X12_229 (by rw [e2]; decide) (c := 12) rfl rfl rfl wd_1556 sl_X12_here dX12_number_48) ?_
  refine fc (ok_iadd hB dX12_number_51) ?_
  refine fc (ok_bipush hB dX12_number_52 (by decide)) ?_
  refine fc (ok_isub hB dX12_number_54) ?_
  refine fc (ok_istore hB (by decide) dX12_number_55) ?_
  refine fc (ok_aload_n hB dX12_number_57) ?_
  refine fc (ok_dup hB dX12_number_58) ?_
  refine fc (ok_getI hB hT fl_X12_134 rfl rfl (Or.inl af_12_10) dX12_number_59) ?_
  refine fc (ok_iconst hB dX12_number_62) ?_
  refine fc (ok_iadd hB dX12_number_63) ?_
  refine fc (ok_putI hB hT fp_X12_134 rfl rfl rfl af_12_10 dX12_number_64) ?_
  refine fc (ok_aload_n hB dX12_number_67) ?_
  refine fc (ok_callM hB hT (e1 ▸ s_X12_isDigit) lk_X12_183 (by rw [e2]; decide) (c := 12) rfl rfl rfl wd_1552 sl_X12_isDigit dX12_number_68) ?_
  refine fc (ok_if_eq hB (t := 81) (by decide) dX12_number_71) ?_
  refine fc (ok_aload_n hB dX12_number_74) ?_
  refine fc (ok_callM hB hT (e1 ▸ s_X12_fails) lk_X12_149 (by rw [e2]; decide) (c := 12) rfl rfl rfl wd_1525 sl_X12_fails dX12_number_75) ?_
  refine fc (ok_pop hB dX12_number_78) ?_
  refine fc (ok_iconst hB dX12_number_79) ?_
  refine fc (ok_iret hB dX12_number_80) ?_
  refine fc (ok_iload hB dX12_number_81) ?_
  refine fc (ok_i2l hB dX12_number_83) ?_
  refine fc (ok_iload_n hB dX12_number_84) ?_
  refine fc (ok_i2l hB dX12_number_85) ?_
  refine fc (ok_iload_n hB dX12_number_86) ?_
  refine fc (ok_i2l hB dX12_number_87) ?_
  refine fc (ok_callS hB (e1 ▸ s_X12_isIn) lk_X12_232 (by rw [e2]; decide) wd_1502 dX12_number_88) ?_
  refine fc (ok_if_ne hB (t := 109) (by decide) dX12_number_91) ?_
  refine fc (ok_aload_n hB dX12_number_94) ?_
  refine fc (ok_dup hB dX12_number_95) ?_
  refine fc (ok_getI hB hT fl_X12_134 rfl rfl (Or.inl af_12_10) dX12_number_96) ?_
  refine fc (ok_iconst hB dX12_number_99) ?_
  refine fc (ok_isub hB dX12_number_100) ?_
  refine fc (ok_putI hB hT fp_X12_134 rfl rfl rfl af_12_10 dX12_number_101) ?_
  refine fc (ok_aload_n hB dX12_number_104) ?_
  refine fc (ok_callM hB hT (e1 ▸ s_X12_fails) lk_X12_149 (by rw [e2]; decide) (c := 12) rfl rfl rfl wd_1525 sl_X12_fails dX12_number_105) ?_
  refine fc (ok_pop hB dX12_number_108) ?_
  refine fc (ok_iload hB dX12_number_109) ?_
  refine fc (ok_iret hB dX12_number_111) ?_
  exact fn

def w_X12_number : WP := fun av σ Q => ∃ (a : Int) (b : Int), av = [(28, 5000), (0, a), (0, b)] ∧ (txOk σ ∧ 0 ≤ σ 5000 10 ∧ σ 5000 10 ≤ σ 5000 9 ∧ σ 5000 11 = -1 ∧ 0 ≤ a ∧ a ≤ 99 ∧ 0 ≤ b ∧ b ≤ 99 ∧ (¬ dg (mtx σ (msk σ)) → Q (0, 0) (up (up σ 5000 10 (msk σ)) 5000 11 (msk σ))) ∧
(dg (mtx σ (msk σ)) → ¬ dg (mtx σ (msk σ + 1)) → (a ≤ mtx σ (msk σ) - 48 ∧ mtx σ (msk σ) - 48 ≤ b → Q (0, mtx σ (msk σ) - 48) (up σ 5000 10 (msk σ + 1))) ∧ (¬ (a ≤ mtx σ (msk σ) - 48 ∧ mtx σ (msk σ) - 48 ≤ b) → Q (0, mtx σ (msk σ) - 48) (up (up σ 5000 10 (msk σ)) 5000 11 (msk σ)))) ∧
(dg (mtx σ (msk σ)) → dg (mtx σ (msk σ + 1)) → dg (mtx σ (msk σ + 2)) → Q (0, 0) (up (up σ 5000 10 (msk σ + 2)) 5000 11 (msk σ + 2))) ∧
(dg (mtx σ (msk σ)) → dg (mtx σ (msk σ + 1)) → ¬ dg (mtx σ (msk σ + 2)) → (a ≤ 10 * (mtx σ (msk σ) - 48) + mtx σ (msk σ + 1) - 48 ∧ 10 * (mtx σ (msk σ) - 48) + mtx σ (msk σ + 1) - 48 ≤ b → Q (0, 10 * (mtx σ (msk σ) - 48) + mtx σ (msk σ + 1) - 48) (up σ 5000 10 (msk σ + 2))) ∧ (¬ (a ≤ 10 * (mtx σ (msk σ) - 48) + mtx σ (msk σ + 1) - 48 ∧ 10 * (mtx σ (msk σ) - 48) + mtx σ (msk σ + 1) - 48 ≤ b) → Q (0, 10 * (mtx σ (msk σ) - 48) + mtx σ (msk σ + 1) - 48) (up (up σ 5000 10 (msk σ + 1)) 5000 11 (msk σ + 1)))))
theorem w_X12_number_e (a : Int) (b : Int) (σ : Mem) (Q : AV → Mem → Prop) : w_X12_number [(28, 5000), (0, a), (0, b)] σ Q = (txOk σ ∧ 0 ≤ σ 5000 10 ∧ σ 5000 10 ≤ σ 5000 9 ∧ σ 5000 11 = -1 ∧ 0 ≤ a ∧ a ≤ 99 ∧ 0 ≤ b ∧ b ≤ 99 ∧ (¬ dg (mtx σ (msk σ)) → Q (0, 0) (up (up σ 5000 10 (msk σ)) 5000 11 (msk σ))) ∧
(dg (mtx σ (msk σ)) → ¬ dg (mtx σ (msk σ + 1)) → (a ≤ mtx σ (msk σ) - 48 ∧ mtx σ (msk σ) - 48 ≤ b → Q (0, mtx σ (msk σ) - 48) (up σ 5000 10 (msk σ + 1))) ∧ (¬ (a ≤ mtx σ (msk σ) - 48 ∧ mtx σ (msk σ) - 48 ≤ b) → Q (0, mtx σ (msk σ) - 48) (up (up σ 5000 10 (msk σ)) 5000 11 (msk σ)))) ∧
(dg (mtx σ (msk σ)) → dg (mtx σ (msk σ + 1)) → dg (mtx σ (msk σ + 2)) → Q (0, 0) (up (up σ 5000 10 (msk σ + 2)) 5000 11 (msk σ + 2))) ∧
(dg (mtx σ (msk σ)) → dg (mtx σ (msk σ + 1)) → ¬ dg (mtx σ (msk σ + 2)) → (a ≤ 10 * (mtx σ (msk σ) - 48) + mtx σ (msk σ + 1) - 48 ∧ 10 * (mtx σ (msk σ) - 48) + mtx σ (msk σ + 1) - 48 ≤ b → Q (0, 10 * (mtx σ (msk σ) - 48) + mtx σ (msk σ + 1) - 48) (up σ 5000 10 (msk σ + 2))) ∧ (¬ (a ≤ 10 * (mtx σ (msk σ) - 48) + mtx σ (msk σ + 1) - 48 ∧ 10 * (mtx σ (msk σ) - 48) + mtx σ (msk σ + 1) - 48 ≤ b) → Q (0, 10 * (mtx σ (msk σ) - 48) + mtx σ (msk σ + 1) - 48) (up (up σ 5000 10 (msk σ + 1)) 5000 11 (msk σ + 1))))) := by
  apply propext; constructor
  · rintro ⟨a', b', h9, hb9⟩; cases h9; exact hb9
  · intro hb9; exact ⟨a, b, rfl, hb9⟩

set_option maxRecDepth 100000 in
set_option maxHeartbeats 4000000 in
theorem s_X12_number : ∀ av σ Q, w_X12_number av σ Q → amCall 1 0 0 TT yX12_number cX12_number 5 (some .int) av σ Q := by
  rintro av σ Q ⟨a, b, rfl, ht, h0, h1, hf, a0, a1, b0, b1, hq1, hq2, hq3, hq4⟩
  have hsb : σ 5000 10 ≤ msk σ ∧ msk σ ≤ σ 5000 9 := sk_b (mtx σ) h1
  have tb := mtx_b ht (msk σ)
  have n1 := ht.2.1
  have et : ∀ v, mtx (up σ 5000 10 v) = mtx σ := fun v => mtx_u10 ht v
  have hto : ∀ v, txOk (up σ 5000 10 v) = True := fun v => eq_true (txOk_u10 ht v)
  have hte := mtx_n ht
  have u9 : ∀ v, up σ 5000 10 v 5000 9 = σ 5000 9 := fun v => up_nj _ (by decide)
  have u11 : ∀ v, up σ 5000 10 v 5000 11 = -1 := fun v => by rw [up_nj _ (by decide)]; exact hf
  have ff := fun x => fa_u hf x
  generalize hg : msk σ = p at *
  by_cases c0 : dg (mtx σ p)
  · have s2 := sk_lt hte (q := p) (by omega)
    have tb1 := mtx_b ht (p + 1)
    have tb2 := mtx_b ht (p + 2)
    have e2 : p + 1 + 1 = p + 2 := by omega
    by_cases c1 : dg (mtx σ (p + 1))
    · have s3 := sk_lt hte (q := p + 1) (by omega)
      by_cases c2 : dg (mtx σ (p + 2))
      · have q8 := hq3 c0 c1 c2
        refine am_m0 (own := RX12) (A := look a_X12_number) (fun X e1 e2 hB => o_X12_number e1 e2 hB) rfl (by decide +kernel) rfl rfl 300 (w := 5) ?_
        change vcs _ _ _ _ 300 0 [(28, 5000), (0, a), (0, b), (6, 0), (6, 0)] [] σ
        simp only [↓reduceIte, inR_0, inR_1, inR_m, vSw2_e, swP_n, swP_c, vI_e, vL_e, vNull_e, vIload_e, vLload_e, vAload_e, vIstore_e, vLstore_e, vAstore_e, vIinc_e, vIadd_e, vIsub_e, vImul_e, vIand_e, vIor_e, vIxor_e, vIshl_e, vIshr_e, vIushr_e, vIdiv_e, vIrem_e, vLadd_e, vLsub_e, vLmul_e, vLand_e, vLor_e, vLxor_e, vLdiv_e, vLrem_e, vLushr_e, vLshl_e, vLcmp_e, vIneg_e, vI2l_e, vL2i_e, vI2b_e, vI2c_e, vDup_e, vPop_e, vDup2_e, vGoto_e, vIcEq_e, vIfEq_e, vIcNe_e, vIfNe_e, vIcLt_e, vIfLt_e, vIcGe_e, vIfGe_e, vIcGt_e, vIfGt_e, vIcLe_e, vIfLe_e, vNonnull_e, vSw_e, vGetI_e, vGetL_e, vGetR_e, vPutI_e, vPutZ_e, vPutL_e, vPutR_e, vIald_e, vIald_s, vLald_e, vBald_e, vBald_s, vAald_e, vIast_e, vLast_e, vBast_e, vAast_e, vAlen_e8, vAlen_e9, vAlen_e10, vAlen_e11, vAlen_e5, vAlen_e3, vGets_e, vCompact_e, vLdcS_e, vIret_e, vZret_e, vCret_e, vBret_e, vLret_e, vVret_e, vAret_e, vCallM_e0, vCallMV_e0, vCallS_e0, vCallSV_e0, vCallM_e1, vCallMV_e1, vCallS_e1, vCallSV_e1, vCallM_e2, vCallMV_e2, vCallS_e2, vCallSV_e2, vCallM_e3, vCallMV_e3, vCallS_e3, vCallSV_e3, vCallM_e4, vCallMV_e4, vCallS_e4, vCallSV_e4, vCallM_e5, vCallMV_e5, vCallS_e5, vCallSV_e5, vCallM_e6, vCallMV_e6, vCallS_e6, vCallSV_e6, vCallM_e7, vCallMV_e7, vCallS_e7, vCallSV_e7, vBad_e, vStrVal_e, vStrCod_e, vForm_e, vCallT_e0, vCallT_e1, vCallT_e2, vCopy_e, rf_0_0, rf_0_1, rf_0_2, rf_0_3, rf_0_4, rf_0_7, rf_0_10, rf_0_11, rf_0_12, rf_0_13, rf_0_14, rf_0_15, rf_0_16, rf_1_0, rf_3_0, rf_3_1, rf_6_0, rf_6_1, rf_9_0, rf_9_1, rf_9_3, rf_13_0, rf_13_1, rf_13_2, rf_16_0, rf_16_1, rf_16_2, rf_16_3, rf_21_0, rf_21_1, rf_21_2, rf_21_3, rf_26_0, rf_26_1, rf_26_2, rf_26_3, rf_26_4, rf_26_5, rf_26_6, rf_31_0, rf_31_2, rf_31_5, rf_31_6, rf_36_0, rf_36_1, rf_36_2, rf_36_3, rf_39_0, rf_39_1, rf_39_2, rf_41_0, rf_41_1, rf_41_2, rf_41_3, rf_5000_1, rf_5000_2, rf_5000_3, rf_5000_4, rf_5000_5, rf_5000_15, rf_5000_16, rf_5000_18, rf_5000_19, rf_5000_20, rf_5000_21, rf_5000_22, rf_5000_23, rf_5000_24, rf_5000_25, rf_5000_26, rf_5000_27, rf_5000_36, rf_5000_37, rf_5000_40, rf_5000_41, rf_5000_42, rf_5000_43, rf_5000_44, rf_5000_45, rf_5000_47, rf_5000_52, rf_5000_54, rf_5000_55, rf_100_0, rf_100_1, rf_103_0, rf_103_1, rf_106_0, rf_106_1, rf_109_0, rf_109_1, al_2, al_4, al_5, al_7, al_8, al_10, al_11, al_12, al_14, al_15, al_17, al_18, al_19, al_20, al_22, al_23, al_24, al_25, al_27, al_28, al_29, al_30, al_32, al_33, al_34, al_35, al_37, al_38, al_40, al_42, al_5001, al_5002, al_5003, al_5004, al_5005, al_5006, al_5007, al_5008, al_5009, al_5010, al_5011, al_5012, al_5013, al_5014, al_5015, al_5016, al_5017, al_5018, al_5019, al_5020, al_5021, al_5022, al_5023, al_5024, al_5025, al_5026, al_9000, al_101, al_102, al_104, al_105, al_107, al_108, al_110, al_111, vcs_e, lg_c0, lg_cs, lg_nil, set_c0, set_cs, okst_0, okst_s, acok_n, acok_c, List.contains_nil, List.contains_cons, Bool.or_false, Bool.false_or, Bool.false_eq_true, if_false, if_true, ite_self, ne_eq, true_and, and_true, not_false_eq_true, not_true_eq_false, false_imp_iff, true_imp_iff, Nat.ble_eq, Bool.and_eq_true, reduceCtorEq, or_false, false_or, or_true, true_or, false_and, and_false, and_self, Int.reduceLE, Int.reduceAdd, Int.reduceSub, Int.reduceMul, Int.reduceNeg, Int.reduceLT, Int.reduceEq, Int.reduceNe, Nat.reduceBEq, Nat.reduceBNe, Nat.reduceEqDiff, amCmp_in, amCmp_lt, amCmp_le, amCmp_gt, amCmp_ge, amCmp_eq, amCmp_ne, Nat.reduceLeDiff, Nat.reduceSub, Bool.and_true, Bool.true_and, Bool.and_self, Bool.or_true, Bool.true_or, isRf_3, isRf_4, isRf_5, isRf_8, isRf_9, isRf_10, isRf_11, isRf_15, isRf_16, isRf_17, isRf_18, isRf_19, isRf_20, isRf_21, isRf_22, isRf_23, isRf_24, isRf_25, isRf_26, isRf_27, isRf_28, k_X12_number_0, k_X12_number_1, k_X12_number_4, k_X12_number_5, k_X12_number_6, k_X12_number_9, k_X12_number_12, k_X12_number_13, k_X12_number_16, k_X12_number_17, k_X12_number_18, k_X12_number_19, k_X12_number_20, k_X12_number_22, k_X12_number_23, k_X12_number_25, k_X12_number_26, k_X12_number_27, k_X12_number_30, k_X12_number_31, k_X12_number_32, k_X12_number_35, k_X12_number_36, k_X12_number_39, k_X12_number_42, k_X12_number_44, k_X12_number_46, k_X12_number_47, k_X12_number_48, k_X12_number_51, k_X12_number_52, k_X12_number_54, k_X12_number_55, k_X12_number_57, k_X12_number_58, k_X12_number_59, k_X12_number_62, k_X12_number_63, k_X12_number_64, k_X12_number_67, k_X12_number_68, k_X12_number_71, k_X12_number_74, k_X12_number_75, k_X12_number_78, k_X12_number_79, k_X12_number_80, k_X12_number_81, k_X12_number_83, k_X12_number_84, k_X12_number_85, k_X12_number_86, k_X12_number_87, k_X12_number_88, k_X12_number_91, k_X12_number_94, k_X12_number_95, k_X12_number_96, k_X12_number_99, k_X12_number_100, k_X12_number_101, k_X12_number_104, k_X12_number_105, k_X12_number_108, k_X12_number_109, k_X12_number_111, w_X12_fails_e, w_X12_here_e, w_X12_isDigit_e, w_X12_isIn_e, w_X12_look_e, up_s, up_nj, up_na, up_up, savR_o, cpy_o, fillm_o, setAud_o, setv_o, setv_s, Int.reduceNe, Int.reduceEq, Int.reduceLT, Int.reduceAdd, not_false_eq_true, ne_eq, or_true, true_or, hg, et, hto, u9, u11, up_s, up_up, ff, e2, if_pos c0, if_pos c1, if_pos c2]
        repeat' (first | assumption | exact ht | apply And.intro | intro _)
        all_goals first | omega | exact absurd trivial (by assumption) | exact q8
      · obtain ⟨q8, q9⟩ := hq4 c0 c1 c2
        have e3 : p + 2 - 1 = p + 1 := by omega
        by_cases c3 : a ≤ 10 * (mtx σ p - 48) + mtx σ (p + 1) - 48 ∧ 10 * (mtx σ p - 48) + mtx σ (p + 1) - 48 ≤ b
        · have q7 := q8 c3
          refine am_m0 (own := RX12) (A := look a_X12_number) (fun X e1 e2 hB => o_X12_number e1 e2 hB) rfl (by decide +kernel) rfl rfl 300 (w := 5) ?_
          change vcs _ _ _ _ 300 0 [(28, 5000), (0, a), (0, b), (6, 0), (6, 0)] [] σ
          simp only [↓reduceIte, inR_0, inR_1, inR_m, vSw2_e, swP_n, swP_c, vI_e, vL_e, vNull_e, vIload_e, vLload_e, vAload_e, vIstore_e, vLstore_e, vAstore_e, vIinc_e, vIadd_e, vIsub_e, vImul_e, vIand_e, vIor_e, vIxor_e, vIshl_e, vIshr_e, vIushr_e, vIdiv_e, vIrem_e, vLadd_e, vLsub_e, vLmul_e, vLand_e, vLor_e, vLxor_e, vLdiv_e, vLrem_e, vLushr_e, vLshl_e, vLcmp_e, vIneg_e, vI2l_e, vL2i_e, vI2b_e, vI2c_e, vDup_e, vPop_e, vDup2_e, vGoto_e, vIcEq_e, vIfEq_e, vIcNe_e, vIfNe_e, vIcLt_e, vIfLt_e, vIcGe_e, vIfGe_e, vIcGt_e, vIfGt_e, vIcLe_e, vIfLe_e, vNonnull_e, vSw_e, vGetI_e, vGetL_e, vGetR_e, vPutI_e, vPutZ_e, vPutL_e, vPutR_e, vIald_e, vIald_s, vLald_e, vBald_e, vBald_s, vAald_e, vIast_e, vLast_e, vBast_e, vAast_e, vAlen_e8, vAlen_e9, vAlen_e10, vAlen_e11, vAlen_e5, vAlen_e3, vGets_e, vCompact_e, vLdcS_e, vIret_e, vZret_e, vCret_e, vBret_e, vLret_e, vVret_e, vAret_e, vCallM_e0, vCallMV_e0, vCallS_e0, vCallSV_e0, vCallM_e1, vCallMV_e1, vCallS_e1, vCallSV_e1, vCallM_e2, vCallMV_e2, vCallS_e2, vCallSV_e2, vCallM_e3, vCallMV_e3, vCallS_e3, vCallSV_e3, vCallM_e4, vCallMV_e4, vCallS_e4, vCallSV_e4, vCallM_e5, vCallMV_e5, vCallS_e5, vCallSV_e5, vCallM_e6, vCallMV_e6, vCallS_e6, vCallSV_e6, vCallM_e7, vCallMV_e7, vCallS_e7, vCallSV_e7, vBad_e, vStrVal_e, vStrCod_e, vForm_e, vCallT_e0, vCallT_e1, vCallT_e2, vCopy_e, rf_0_0, rf_0_1, rf_0_2, rf_0_3, rf_0_4, rf_0_7, rf_0_10, rf_0_11, rf_0_12, rf_0_13, rf_0_14, rf_0_15, rf_0_16, rf_1_0, rf_3_0, rf_3_1, rf_6_0, rf_6_1, rf_9_0, rf_9_1, rf_9_3, rf_13_0, rf_13_1, rf_13_2, rf_16_0, rf_16_1, rf_16_2, rf_16_3, rf_21_0, rf_21_1, rf_21_2, rf_21_3, rf_26_0, rf_26_1, rf_26_2, rf_26_3, rf_26_4, rf_26_5, rf_26_6, rf_31_0, rf_31_2, rf_31_5, rf_31_6, rf_36_0, rf_36_1, rf_36_2, rf_36_3, rf_39_0, rf_39_1, rf_39_2, rf_41_0, rf_41_1, rf_41_2, rf_41_3, rf_5000_1, rf_5000_2, rf_5000_3, rf_5000_4, rf_5000_5, rf_5000_15, rf_5000_16, rf_5000_18, rf_5000_19, rf_5000_20, rf_5000_21, rf_5000_22, rf_5000_23, rf_5000_24, rf_5000_25, rf_5000_26, rf_5000_27, rf_5000_36, rf_5000_37, rf_5000_40, rf_5000_41, rf_5000_42, rf_5000_43, rf_5000_44, rf_5000_45, rf_5000_47, rf_5000_52, rf_5000_54, rf_5000_55, rf_100_0, rf_100_1, rf_103_0, rf_103_1, rf_106_0, rf_106_1, rf_109_0, rf_109_1, al_2, al_4, al_5, al_7, al_8, al_10, al_11, al_12, al_14, al_15, al_17, al_18, al_19, al_20, al_22, al_23, al_24, al_25, al_27, al_28, al_29, al_30, al_32, al_33, al_34, al_35, al_37, al_38, al_40, al_42, al_5001, al_5002, al_5003, al_5004, al_5005, al_5006, al_5007, al_5008, al_5009, al_5010, al_5011, al_5012, al_5013, al_5014, al_5015, al_5016, al_5017, al_5018, al_5019, al_5020, al_5021, al_5022, al_5023, al_5024, al_5025, al_5026, al_9000, al_101, al_102, al_104, al_105, al_107, al_108, al_110, al_111, vcs_e, lg_c0, lg_cs, lg_nil, set_c0, set_cs, okst_0, okst_s, acok_n, acok_c, List.contains_nil, List.contains_cons, Bool.or_false, Bool.false_or, Bool.false_eq_true, if_false, if_true, ite_self, ne_eq, true_and, and_true, not_false_eq_true, not_true_eq_false, false_imp_iff, true_imp_iff, Nat.ble_eq, Bool.and_eq_true, reduceCtorEq, or_false, false_or, or_true, true_or, false_and, and_false, and_self, Int.reduceLE, Int.reduceAdd, Int.reduceSub, Int.reduceMul, Int.reduceNeg, Int.reduceLT, Int.reduceEq, Int.reduceNe, Nat.reduceBEq, Nat.reduceBNe, Nat.reduceEqDiff, amCmp_in, amCmp_lt, amCmp_le, amCmp_gt, amCmp_ge, amCmp_eq, amCmp_ne, Nat.reduceLeDiff, Nat.reduceSub, Bool.and_true, Bool.true_and, Bool.and_self, Bool.or_true, Bool.true_or, isRf_3, isRf_4, isRf_5, isRf_8, isRf_9, isRf_10, isRf_11, isRf_15, isRf_16, isRf_17, isRf_18, isRf_19, isRf_20, isRf_21, isRf_22, isRf_23, isRf_24, isRf_25, isRf_26, isRf_27, isRf_28, k_X12_number_0, k_X12_number_1, k_X12_number_4, k_X12_number_5, k_X12_number_6, k_X12_number_9, k_X12_number_12, k_X12_number_13, k_X12_number_16, k_X12_number_17, k_X12_number_18, k_X12_number_19, k_X12_number_20, k_X12_number_22, k_X12_number_23, k_X12_number_25, k_X12_number_26, k_X12_number_27, k_X12_number_30, k_X12_number_31, k_X12_number_32, k_X12_number_35, k_X12_number_36, k_X12_number_39, k_X12_number_42, k_X12_number_44, k_X12_number_46, k_X12_number_47, k_X12_number_48, k_X12_number_51, k_X12_number_52, k_X12_number_54, k_X12_number_55, k_X12_number_57, k_X12_number_58, k_X12_number_59, k_X12_number_62, k_X12_number_63, k_X12_number_64, k_X12_number_67, k_X12_number_68, k_X12_number_71, k_X12_number_74, k_X12_number_75, k_X12_number_78, k_X12_number_79, k_X12_number_80, k_X12_number_81, k_X12_number_83, k_X12_number_84, k_X12_number_85, k_X12_number_86, k_X12_number_87, k_X12_number_88, k_X12_number_91, k_X12_number_94, k_X12_number_95, k_X12_number_96, k_X12_number_99, k_X12_number_100, k_X12_number_101, k_X12_number_104, k_X12_number_105, k_X12_number_108, k_X12_number_109, k_X12_number_111, w_X12_fails_e, w_X12_here_e, w_X12_isDigit_e, w_X12_isIn_e, w_X12_look_e, up_s, up_nj, up_na, up_up, savR_o, cpy_o, fillm_o, setAud_o, setv_o, setv_s, Int.reduceNe, Int.reduceEq, Int.reduceLT, Int.reduceAdd, not_false_eq_true, ne_eq, or_true, true_or, hg, et, hto, u9, u11, up_s, up_up, ff, e2, e3, if_pos c0, if_pos c1, if_neg c2, if_pos c3]
          repeat' (first | assumption | exact ht | apply And.intro | intro _)
          all_goals first | omega | exact absurd trivial (by assumption) | exact q7
        · have q7 := q9 c3
          refine am_m0 (own := RX12) (A := look a_X12_number) (fun X e1 e2 hB => o_X12_number e1 e2 hB) rfl (by decide +kernel) rfl rfl 300 (w := 5) ?_
          change vcs _ _ _ _ 300 0 [(28, 5000), (0, a), (0, b), (6, 0), (6, 0)] [] σ
          simp only [↓reduceIte, inR_0, inR_1, inR_m, vSw2_e, swP_n, swP_c, vI_e, vL_e, vNull_e, vIload_e, vLload_e, vAload_e, vIstore_e, vLstore_e, vAstore_e, vIinc_e, vIadd_e, vIsub_e, vImul_e, vIand_e, vIor_e, vIxor_e, vIshl_e, vIshr_e, vIushr_e, vIdiv_e, vIrem_e, vLadd_e, vLsub_e, vLmul_e, vLand_e, vLor_e, vLxor_e, vLdiv_e, vLrem_e, vLushr_e, vLshl_e, vLcmp_e, vIneg_e, vI2l_e, vL2i_e, vI2b_e, vI2c_e, vDup_e, vPop_e, vDup2_e, vGoto_e, vIcEq_e, vIfEq_e, vIcNe_e, vIfNe_e, vIcLt_e, vIfLt_e, vIcGe_e, vIfGe_e, vIcGt_e, vIfGt_e, vIcLe_e, vIfLe_e, vNonnull_e, vSw_e, vGetI_e, vGetL_e, vGetR_e, vPutI_e, vPutZ_e, vPutL_e, vPutR_e, vIald_e, vIald_s, vLald_e, vBald_e, vBald_s, vAald_e, vIast_e, vLast_e, vBast_e, vAast_e, vAlen_e8, vAlen_e9, vAlen_e10, vAlen_e11, vAlen_e5, vAlen_e3, vGets_e, vCompact_e, vLdcS_e, vIret_e, vZret_e, vCret_e, vBret_e, vLret_e, vVret_e, vAret_e, vCallM_e0, vCallMV_e0, vCallS_e0, vCallSV_e0, vCallM_e1, vCallMV_e1, vCallS_e1, vCallSV_e1, vCallM_e2, vCallMV_e2, vCallS_e2, vCallSV_e2, vCallM_e3, vCallMV_e3, vCallS_e3, vCallSV_e3, vCallM_e4, vCallMV_e4, vCallS_e4, vCallSV_e4, vCallM_e5, vCallMV_e5, vCallS_e5, vCallSV_e5, vCallM_e6, vCallMV_e6, vCallS_e6, vCallSV_e6, vCallM_e7, vCallMV_e7, vCallS_e7, vCallSV_e7, vBad_e, vStrVal_e, vStrCod_e, vForm_e, vCallT_e0, vCallT_e1, vCallT_e2, vCopy_e, rf_0_0, rf_0_1, rf_0_2, rf_0_3, rf_0_4, rf_0_7, rf_0_10, rf_0_11, rf_0_12, rf_0_13, rf_0_14, rf_0_15, rf_0_16, rf_1_0, rf_3_0, rf_3_1, rf_6_0, rf_6_1, rf_9_0, rf_9_1, rf_9_3, rf_13_0, rf_13_1, rf_13_2, rf_16_0, rf_16_1, rf_16_2, rf_16_3, rf_21_0, rf_21_1, rf_21_2, rf_21_3, rf_26_0, rf_26_1, rf_26_2, rf_26_3, rf_26_4, rf_26_5, rf_26_6, rf_31_0, rf_31_2, rf_31_5, rf_31_6, rf_36_0, rf_36_1, rf_36_2, rf_36_3, rf_39_0, rf_39_1, rf_39_2, rf_41_0, rf_41_1, rf_41_2, rf_41_3, rf_5000_1, rf_5000_2, rf_5000_3, rf_5000_4, rf_5000_5, rf_5000_15, rf_5000_16, rf_5000_18, rf_5000_19, rf_5000_20, rf_5000_21, rf_5000_22, rf_5000_23, rf_5000_24, rf_5000_25, rf_5000_26, rf_5000_27, rf_5000_36, rf_5000_37, rf_5000_40, rf_5000_41, rf_5000_42, rf_5000_43, rf_5000_44, rf_5000_45, rf_5000_47, rf_5000_52, rf_5000_54, rf_5000_55, rf_100_0, rf_100_1, rf_103_0, rf_103_1, rf_106_0, rf_106_1, rf_109_0, rf_109_1, al_2, al_4, al_5, al_7, al_8, al_10, al_11, al_12, al_14, al_15, al_17, al_18, al_19, al_20, al_22, al_23, al_24, al_25, al_27, al_28, al_29, al_30, al_32, al_33, al_34, al_35, al_37, al_38, al_40, al_42, al_5001, al_5002, al_5003, al_5004, al_5005, al_5006, al_5007, al_5008, al_5009, al_5010, al_5011, al_5012, al_5013, al_5014, al_5015, al_5016, al_5017, al_5018, al_5019, al_5020, al_5021, al_5022, al_5023, al_5024, al_5025, al_5026, al_9000, al_101, al_102, al_104, al_105, al_107, al_108, al_110, al_111, vcs_e, lg_c0, lg_cs, lg_nil, set_c0, set_cs, okst_0, okst_s, acok_n, acok_c, List.contains_nil, List.contains_cons, Bool.or_false, Bool.false_or, Bool.false_eq_true, if_false, if_true, ite_self, ne_eq, true_and, and_true, not_false_eq_true, not_true_eq_false, false_imp_iff, true_imp_iff, Nat.ble_eq, Bool.and_eq_true, reduceCtorEq, or_false, false_or, or_true, true_or, false_and, and_false, and_self, Int.reduceLE, Int.reduceAdd, Int.reduceSub, Int.reduceMul, Int.reduceNeg, Int.reduceLT, Int.reduceEq, Int.reduceNe, Nat.reduceBEq, Nat.reduceBNe, Nat.reduceEqDiff, amCmp_in, amCmp_lt, amCmp_le, amCmp_gt, amCmp_ge, amCmp_eq, amCmp_ne, Nat.reduceLeDiff, Nat.reduceSub, Bool.and_true, Bool.true_and, Bool.and_self, Bool.or_true, Bool.true_or, isRf_3, isRf_4, isRf_5, isRf_8, isRf_9, isRf_10, isRf_11, isRf_15, isRf_16, isRf_17, isRf_18, isRf_19, isRf_20, isRf_21, isRf_22, isRf_23, isRf_24, isRf_25, isRf_26, isRf_27, isRf_28, k_X12_number_0, k_X12_number_1, k_X12_number_4, k_X12_number_5, k_X12_number_6, k_X12_number_9, k_X12_number_12, k_X12_number_13, k_X12_number_16, k_X12_number_17, k_X12_number_18, k_X12_number_19, k_X12_number_20, k_X12_number_22, k_X12_number_23, k_X12_number_25, k_X12_number_26, k_X12_number_27, k_X12_number_30, k_X12_number_31, k_X12_number_32, k_X12_number_35, k_X12_number_36, k_X12_number_39, k_X12_number_42, k_X12_number_44, k_X12_number_46, k_X12_number_47, k_X12_number_48, k_X12_number_51, k_X12_number_52, k_X12_number_54, k_X12_number_55, k_X12_number_57, k_X12_number_58, k_X12_number_59, k_X12_number_62, k_X12_number_63, k_X12_number_64, k_X12_number_67, k_X12_number_68, k_X12_number_71, k_X12_number_74, k_X12_number_75, k_X12_number_78, k_X12_number_79, k_X12_number_80, k_X12_number_81, k_X12_number_83, k_X12_number_84, k_X12_number_85, k_X12_number_86, k_X12_number_87, k_X12_number_88, k_X12_number_91, k_X12_number_94, k_X12_number_95, k_X12_number_96, k_X12_number_99, k_X12_number_100, k_X12_number_101, k_X12_number_104, k_X12_number_105, k_X12_number_108, k_X12_number_109, k_X12_number_111, w_X12_fails_e, w_X12_here_e, w_X12_isDigit_e, w_X12_isIn_e, w_X12_look_e, up_s, up_nj, up_na, up_up, savR_o, cpy_o, fillm_o, setAud_o, setv_o, setv_s, Int.reduceNe, Int.reduceEq, Int.reduceLT, Int.reduceAdd, not_false_eq_true, ne_eq, or_true, true_or, hg, et, hto, u9, u11, up_s, up_up, ff, e2, e3, if_pos c0, if_pos c1, if_neg c2, if_neg c3]
          repeat' (first | assumption | exact ht | apply And.intro | intro _)
          all_goals first | omega | exact absurd trivial (by assumption) | exact q7
    · obtain ⟨q8, q9⟩ := hq2 c0 c1
      have e3 : p + 1 - 1 = p := by omega
      by_cases c3 : a ≤ mtx σ p - 48 ∧ mtx σ p - 48 ≤ b
      · have q7 := q8 c3
        refine am_m0 (own := RX12) (A := look a_X12_number) (fun X e1 e2 hB => o_X12_number e1 e2 hB) rfl (by decide +kernel) rfl rfl 300 (w := 5) ?_
        change vcs _ _ _ _ 300 0 [(28, 5000), (0, a), (0, b), (6, 0), (6, 0)] [] σ
        simp only [↓reduceIte, inR_0, inR_1, inR_m, vSw2_e, swP_n, swP_c, vI_e, vL_e, vNull_e, vIload_e, vLload_e, vAload_e, vIstore_e, vLstore_e, vAstore_e, vIinc_e, vIadd_e, vIsub_e, vImul_e, vIand_e, vIor_e, vIxor_e, vIshl_e, vIshr_e, vIushr_e, vIdiv_e, vIrem_e, vLadd_e, vLsub_e, vLmul_e, vLand_e, vLor_e, vLxor_e, vLdiv_e, vLrem_e, vLushr_e, vLshl_e, vLcmp_e, vIneg_e, vI2l_e, vL2i_e, vI2b_e, vI2c_e, vDup_e, vPop_e, vDup2_e, vGoto_e, vIcEq_e, vIfEq_e, vIcNe_e, vIfNe_e, vIcLt_e, vIfLt_e, vIcGe_e, vIfGe_e, vIcGt_e, vIfGt_e, vIcLe_e, vIfLe_e, vNonnull_e, vSw_e, vGetI_e, vGetL_e, vGetR_e, vPutI_e, vPutZ_e, vPutL_e, vPutR_e, vIald_e, vIald_s, vLald_e, vBald_e, vBald_s, vAald_e, vIast_e, vLast_e, vBast_e, vAast_e, vAlen_e8, vAlen_e9, vAlen_e10, vAlen_e11, vAlen_e5, vAlen_e3, vGets_e, vCompact_e, vLdcS_e, vIret_e, vZret_e, vCret_e, vBret_e, vLret_e, vVret_e, vAret_e, vCallM_e0, vCallMV_e0, vCallS_e0, vCallSV_e0, vCallM_e1, vCallMV_e1, vCallS_e1, vCallSV_e1, vCallM_e2, vCallMV_e2, vCallS_e2, vCallSV_e2, vCallM_e3, vCallMV_e3, vCallS_e3, vCallSV_e3, vCallM_e4, vCallMV_e4, vCallS_e4, vCallSV_e4, vCallM_e5, vCallMV_e5, vCallS_e5, vCallSV_e5, vCallM_e6, vCallMV_e6, vCallS_e6, vCallSV_e6, vCallM_e7, vCallMV_e7, vCallS_e7, vCallSV_e7, vBad_e, vStrVal_e, vStrCod_e, vForm_e, vCallT_e0, vCallT_e1, vCallT_e2, vCopy_e, rf_0_0, rf_0_1, rf_0_2, rf_0_3, rf_0_4, rf_0_7, rf_0_10, rf_0_11, rf_0_12, rf_0_13, rf_0_14, rf_0_15, rf_0_16, rf_1_0, rf_3_0, rf_3_1, rf_6_0, rf_6_1, rf_9_0, rf_9_1, rf_9_3, rf_13_0, rf_13_1, rf_13_2, rf_16_0, rf_16_1, rf_16_2, rf_16_3, rf_21_0, rf_21_1, rf_21_2, rf_21_3, rf_26_0, rf_26_1, rf_26_2, rf_26_3, rf_26_4, rf_26_5, rf_26_6, rf_31_0, rf_31_2, rf_31_5, rf_31_6, rf_36_0, rf_36_1, rf_36_2, rf_36_3, rf_39_0, rf_39_1, rf_39_2, rf_41_0, rf_41_1, rf_41_2, rf_41_3, rf_5000_1, rf_5000_2, rf_5000_3, rf_5000_4, rf_5000_5, rf_5000_15, rf_5000_16, rf_5000_18, rf_5000_19, rf_5000_20, rf_5000_21, rf_5000_22, rf_5000_23, rf_5000_24, rf_5000_25, rf_5000_26, rf_5000_27, rf_5000_36, rf_5000_37, rf_5000_40, rf_5000_41, rf_5000_42, rf_5000_43, rf_5000_44, rf_5000_45, rf_5000_47, rf_5000_52, rf_5000_54, rf_5000_55, rf_100_0, rf_100_1, rf_103_0, rf_103_1, rf_106_0, rf_106_1, rf_109_0, rf_109_1, al_2, al_4, al_5, al_7, al_8, al_10, al_11, al_12, al_14, al_15, al_17, al_18, al_19, al_20, al_22, al_23, al_24, al_25, al_27, al_28, al_29, al_30, al_32, al_33, al_34, al_35, al_37, al_38, al_40, al_42, al_5001, al_5002, al_5003, al_5004, al_5005, al_5006, al_5007, al_5008, al_5009, al_5010, al_5011, al_5012, al_5013, al_5014, al_5015, al_5016, al_5017, al_5018, al_5019, al_5020, al_5021, al_5022, al_5023, al_5024, al_5025, al_5026, al_9000, al_101, al_102, al_104, al_105, al_107, al_108, al_110, al_111, vcs_e, lg_c0, lg_cs, lg_nil, set_c0, set_cs, okst_0, okst_s, acok_n, acok_c, List.contains_nil, List.contains_cons, Bool.or_false, Bool.false_or, Bool.false_eq_true, if_false, if_true, ite_self, ne_eq, true_and, and_true, not_false_eq_true, not_true_eq_false, false_imp_iff, true_imp_iff, Nat.ble_eq, Bool.and_eq_true, reduceCtorEq, or_false, false_or, or_true, true_or, false_and, and_false, and_self, Int.reduceLE, Int.reduceAdd, Int.reduceSub, Int.reduceMul, Int.reduceNeg, Int.reduceLT, Int.reduceEq, Int.reduceNe, Nat.reduceBEq, Nat.reduceBNe, Nat.reduceEqDiff, amCmp_in, amCmp_lt, amCmp_le, amCmp_gt, amCmp_ge, amCmp_eq, amCmp_ne, Nat.reduceLeDiff, Nat.reduceSub, Bool.and_true, Bool.true_and, Bool.and_self, Bool.or_true, Bool.true_or, isRf_3, isRf_4, isRf_5, isRf_8, isRf_9, isRf_10, isRf_11, isRf_15, isRf_16, isRf_17, isRf_18, isRf_19, isRf_20, isRf_21, isRf_22, isRf_23, isRf_24, isRf_25, isRf_26, isRf_27, isRf_28, k_X12_number_0, k_X12_number_1, k_X12_number_4, k_X12_number_5, k_X12_number_6, k_X12_number_9, k_X12_number_12, k_X12_number_13, k_X12_number_16, k_X12_number_17, k_X12_number_18, k_X12_number_19, k_X12_number_20, k_X12_number_22, k_X12_number_23, k_X12_number_25, k_X12_number_26, k_X12_number_27, k_X12_number_30, k_X12_number_31, k_X12_number_32, k_X12_number_35, k_X12_number_36, k_X12_number_39, k_X12_number_42, k_X12_number_44, k_X12_number_46, k_X12_number_47, k_X12_number_48, k_X12_number_51, k_X12_number_52, k_X12_number_54, k_X12_number_55, k_X12_number_57, k_X12_number_58, k_X12_number_59, k_X12_number_62, k_X12_number_63, k_X12_number_64, k_X12_number_67, k_X12_number_68, k_X12_number_71, k_X12_number_74, k_X12_number_75, k_X12_number_78, k_X12_number_79, k_X12_number_80, k_X12_number_81, k_X12_number_83, k_X12_number_84, k_X12_number_85, k_X12_number_86, k_X12_number_87, k_X12_number_88, k_X12_number_91, k_X12_number_94, k_X12_number_95, k_X12_number_96, k_X12_number_99, k_X12_number_100, k_X12_number_101, k_X12_number_104, k_X12_number_105, k_X12_number_108, k_X12_number_109, k_X12_number_111, w_X12_fails_e, w_X12_here_e, w_X12_isDigit_e, w_X12_isIn_e, w_X12_look_e, up_s, up_nj, up_na, up_up, savR_o, cpy_o, fillm_o, setAud_o, setv_o, setv_s, Int.reduceNe, Int.reduceEq, Int.reduceLT, Int.reduceAdd, not_false_eq_true, ne_eq, or_true, true_or, hg, et, hto, u9, u11, up_s, up_up, ff, e2, e3, if_pos c0, if_neg c1, if_pos c3]
        repeat' (first | assumption | exact ht | apply And.intro | intro _)
        all_goals first | omega | exact absurd trivial (by assumption) | exact q7
      · have q7 := q9 c3
        refine am_m0 (own := RX12) (A := look a_X12_number) (fun X e1 e2 hB => o_X12_number e1 e2 hB) rfl (by decide +kernel) rfl rfl 300 (w := 5) ?_
        change vcs _ _ _ _ 300 0 [(28, 5000), (0, a), (0, b), (6, 0), (6, 0)] [] σ
        simp only [↓reduceIte, inR_0, inR_1, inR_m, vSw2_e, swP_n, swP_c, vI_e, vL_e, vNull_e, vIload_e, vLload_e, vAload_e, vIstore_e, vLstore_e, vAstore_e, vIinc_e, vIadd_e, vIsub_e, vImul_e, vIand_e, vIor_e, vIxor_e, vIshl_e, vIshr_e, vIushr_e, vIdiv_e, vIrem_e, vLadd_e, vLsub_e, vLmul_e, vLand_e, vLor_e, vLxor_e, vLdiv_e, vLrem_e, vLushr_e, vLshl_e, vLcmp_e, vIneg_e, vI2l_e, vL2i_e, vI2b_e, vI2c_e, vDup_e, vPop_e, vDup2_e, vGoto_e, vIcEq_e, vIfEq_e, vIcNe_e, vIfNe_e, vIcLt_e, vIfLt_e, vIcGe_e, vIfGe_e, vIcGt_e, vIfGt_e, vIcLe_e, vIfLe_e, vNonnull_e, vSw_e, vGetI_e, vGetL_e, vGetR_e, vPutI_e, vPutZ_e, vPutL_e, vPutR_e, vIald_e, vIald_s, vLald_e, vBald_e, vBald_s, vAald_e, vIast_e, vLast_e, vBast_e, vAast_e, vAlen_e8, vAlen_e9, vAlen_e10, vAlen_e11, vAlen_e5, vAlen_e3, vGets_e, vCompact_e, vLdcS_e, vIret_e, vZret_e, vCret_e, vBret_e, vLret_e, vVret_e, vAret_e, vCallM_e0, vCallMV_e0, vCallS_e0, vCallSV_e0, vCallM_e1, vCallMV_e1, vCallS_e1, vCallSV_e1, vCallM_e2, vCallMV_e2, vCallS_e2, vCallSV_e2, vCallM_e3, vCallMV_e3, vCallS_e3, vCallSV_e3, vCallM_e4, vCallMV_e4, vCallS_e4, vCallSV_e4, vCallM_e5, vCallMV_e5, vCallS_e5, vCallSV_e5, vCallM_e6, vCallMV_e6, vCallS_e6, vCallSV_e6, vCallM_e7, vCallMV_e7, vCallS_e7, vCallSV_e7, vBad_e, vStrVal_e, vStrCod_e, vForm_e, vCallT_e0, vCallT_e1, vCallT_e2, vCopy_e, rf_0_0, rf_0_1, rf_0_2, rf_0_3, rf_0_4, rf_0_7, rf_0_10, rf_0_11, rf_0_12, rf_0_13, rf_0_14, rf_0_15, rf_0_16, rf_1_0, rf_3_0, rf_3_1, rf_6_0, rf_6_1, rf_9_0, rf_9_1, rf_9_3, rf_13_0, rf_13_1, rf_13_2, rf_16_0, rf_16_1, rf_16_2, rf_16_3, rf_21_0, rf_21_1, rf_21_2, rf_21_3, rf_26_0, rf_26_1, rf_26_2, rf_26_3, rf_26_4, rf_26_5, rf_26_6, rf_31_0, rf_31_2, rf_31_5, rf_31_6, rf_36_0, rf_36_1, rf_36_2, rf_36_3, rf_39_0, rf_39_1, rf_39_2, rf_41_0, rf_41_1, rf_41_2, rf_41_3, rf_5000_1, rf_5000_2, rf_5000_3, rf_5000_4, rf_5000_5, rf_5000_15, rf_5000_16, rf_5000_18, rf_5000_19, rf_5000_20, rf_5000_21, rf_5000_22, rf_5000_23, rf_5000_24, rf_5000_25, rf_5000_26, rf_5000_27, rf_5000_36, rf_5000_37, rf_5000_40, rf_5000_41, rf_5000_42, rf_5000_43, rf_5000_44, rf_5000_45, rf_5000_47, rf_5000_52, rf_5000_54, rf_5000_55, rf_100_0, rf_100_1, rf_103_0, rf_103_1, rf_106_0, rf_106_1, rf_109_0, rf_109_1, al_2, al_4, al_5, al_7, al_8, al_10, al_11, al_12, al_14, al_15, al_17, al_18, al_19, al_20, al_22, al_23, al_24, al_25, al_27, al_28, al_29, al_30, al_32, al_33, al_34, al_35, al_37, al_38, al_40, al_42, al_5001, al_5002, al_5003, al_5004, al_5005, al_5006, al_5007, al_5008, al_5009, al_5010, al_5011, al_5012, al_5013, al_5014, al_5015, al_5016, al_5017, al_5018, al_5019, al_5020, al_5021, al_5022, al_5023, al_5024, al_5025, al_5026, al_9000, al_101, al_102, al_104, al_105, al_107, al_108, al_110, al_111, vcs_e, lg_c0, lg_cs, lg_nil, set_c0, set_cs, okst_0, okst_s, acok_n, acok_c, List.contains_nil, List.contains_cons, Bool.or_false, Bool.false_or, Bool.false_eq_true, if_false, if_true, ite_self, ne_eq, true_and, and_true, not_false_eq_true, not_true_eq_false, false_imp_iff, true_imp_iff, Nat.ble_eq, Bool.and_eq_true, reduceCtorEq, or_false, false_or, or_true, true_or, false_and, and_false, and_self, Int.reduceLE, Int.reduceAdd, Int.reduceSub, Int.reduceMul, Int.reduceNeg, Int.reduceLT, Int.reduceEq, Int.reduceNe, Nat.reduceBEq, Nat.reduceBNe, Nat.reduceEqDiff, amCmp_in, amCmp_lt, amCmp_le, amCmp_gt, amCmp_ge, amCmp_eq, amCmp_ne, Nat.reduceLeDiff, Nat.reduceSub, Bool.and_true, Bool.true_and, Bool.and_self, Bool.or_true, Bool.true_or, isRf_3, isRf_4, isRf_5, isRf_8, isRf_9, isRf_10, isRf_11, isRf_15, isRf_16, isRf_17, isRf_18, isRf_19, isRf_20, isRf_21, isRf_22, isRf_23, isRf_24, isRf_25, isRf_26, isRf_27, isRf_28, k_X12_number_0, k_X12_number_1, k_X12_number_4, k_X12_number_5, k_X12_number_6, k_X12_number_9, k_X12_number_12, k_X12_number_13, k_X12_number_16, k_X12_number_17, k_X12_number_18, k_X12_number_19, k_X12_number_20, k_X12_number_22, k_X12_number_23, k_X12_number_25, k_X12_number_26, k_X12_number_27, k_X12_number_30, k_X12_number_31, k_X12_number_32, k_X12_number_35, k_X12_number_36, k_X12_number_39, k_X12_number_42, k_X12_number_44, k_X12_number_46, k_X12_number_47, k_X12_number_48, k_X12_number_51, k_X12_number_52, k_X12_number_54, k_X12_number_55, k_X12_number_57, k_X12_number_58, k_X12_number_59, k_X12_number_62, k_X12_number_63, k_X12_number_64, k_X12_number_67, k_X12_number_68, k_X12_number_71, k_X12_number_74, k_X12_number_75, k_X12_number_78, k_X12_number_79, k_X12_number_80, k_X12_number_81, k_X12_number_83, k_X12_number_84, k_X12_number_85, k_X12_number_86, k_X12_number_87, k_X12_number_88, k_X12_number_91, k_X12_number_94, k_X12_number_95, k_X12_number_96, k_X12_number_99, k_X12_number_100, k_X12_number_101, k_X12_number_104, k_X12_number_105, k_X12_number_108, k_X12_number_109, k_X12_number_111, w_X12_fails_e, w_X12_here_e, w_X12_isDigit_e, w_X12_isIn_e, w_X12_look_e, up_s, up_nj, up_na, up_up, savR_o, cpy_o, fillm_o, setAud_o, setv_o, setv_s, Int.reduceNe, Int.reduceEq, Int.reduceLT, Int.reduceAdd, not_false_eq_true, ne_eq, or_true, true_or, hg, et, hto, u9, u11, up_s, up_up, ff, e2, e3, if_pos c0, if_neg c1, if_neg c3]
        repeat' (first | assumption | exact ht | apply And.intro | intro _)
        all_goals first | omega | exact absurd trivial (by assumption) | exact q7
  · have q8 := hq1 c0
    refine am_m0 (own := RX12) (A := look a_X12_number) (fun X e1 e2 hB => o_X12_number e1 e2 hB) rfl (by decide +kernel) rfl rfl 300 (w := 5) ?_
    change vcs _ _ _ _ 300 0 [(28, 5000), (0, a), (0, b), (6, 0), (6, 0)] [] σ
    simp only [↓reduceIte, inR_0, inR_1, inR_m, vSw2_e, swP_n, swP_c, vI_e, vL_e, vNull_e, vIload_e, vLload_e, vAload_e, vIstore_e, vLstore_e, vAstore_e, vIinc_e, vIadd_e, vIsub_e, vImul_e, vIand_e, vIor_e, vIxor_e, vIshl_e, vIshr_e, vIushr_e, vIdiv_e, vIrem_e, vLadd_e, vLsub_e, vLmul_e, vLand_e, vLor_e, vLxor_e, vLdiv_e, vLrem_e, vLushr_e, vLshl_e, vLcmp_e, vIneg_e, vI2l_e, vL2i_e, vI2b_e, vI2c_e, vDup_e, vPop_e, vDup2_e, vGoto_e, vIcEq_e, vIfEq_e, vIcNe_e, vIfNe_e, vIcLt_e, vIfLt_e, vIcGe_e, vIfGe_e, vIcGt_e, vIfGt_e, vIcLe_e, vIfLe_e, vNonnull_e, vSw_e, vGetI_e, vGetL_e, vGetR_e, vPutI_e, vPutZ_e, vPutL_e, vPutR_e, vIald_e, vIald_s, vLald_e, vBald_e, vBald_s, vAald_e, vIast_e, vLast_e, vBast_e, vAast_e, vAlen_e8, vAlen_e9, vAlen_e10, vAlen_e11, vAlen_e5, vAlen_e3, vGets_e, vCompact_e, vLdcS_e, vIret_e, vZret_e, vCret_e, vBret_e, vLret_e, vVret_e, vAret_e, vCallM_e0, vCallMV_e0, vCallS_e0, vCallSV_e0, vCallM_e1, vCallMV_e1, vCallS_e1, vCallSV_e1, vCallM_e2, vCallMV_e2, vCallS_e2, vCallSV_e2, vCallM_e3, vCallMV_e3, vCallS_e3, vCallSV_e3, vCallM_e4, vCallMV_e4, vCallS_e4, vCallSV_e4, vCallM_e5, vCallMV_e5, vCallS_e5, vCallSV_e5, vCallM_e6, vCallMV_e6, vCallS_e6, vCallSV_e6, vCallM_e7, vCallMV_e7, vCallS_e7, vCallSV_e7, vBad_e, vStrVal_e, vStrCod_e, vForm_e, vCallT_e0, vCallT_e1, vCallT_e2, vCopy_e, rf_0_0, rf_0_1, rf_0_2, rf_0_3, rf_0_4, rf_0_7, rf_0_10, rf_0_11, rf_0_12, rf_0_13, rf_0_14, rf_0_15, rf_0_16, rf_1_0, rf_3_0, rf_3_1, rf_6_0, rf_6_1, rf_9_0, rf_9_1, rf_9_3, rf_13_0, rf_13_1, rf_13_2, rf_16_0, rf_16_1, rf_16_2, rf_16_3, rf_21_0, rf_21_1, rf_21_2, rf_21_3, rf_26_0, rf_26_1, rf_26_2, rf_26_3, rf_26_4, rf_26_5, rf_26_6, rf_31_0, rf_31_2, rf_31_5, rf_31_6, rf_36_0, rf_36_1, rf_36_2, rf_36_3, rf_39_0, rf_39_1, rf_39_2, rf_41_0, rf_41_1, rf_41_2, rf_41_3, rf_5000_1, rf_5000_2, rf_5000_3, rf_5000_4, rf_5000_5, rf_5000_15, rf_5000_16, rf_5000_18, rf_5000_19, rf_5000_20, rf_5000_21, rf_5000_22, rf_5000_23, rf_5000_24, rf_5000_25, rf_5000_26, rf_5000_27, rf_5000_36, rf_5000_37, rf_5000_40, rf_5000_41, rf_5000_42, rf_5000_43, rf_5000_44, rf_5000_45, rf_5000_47, rf_5000_52, rf_5000_54, rf_5000_55, rf_100_0, rf_100_1, rf_103_0, rf_103_1, rf_106_0, rf_106_1, rf_109_0, rf_109_1, al_2, al_4, al_5, al_7, al_8, al_10, al_11, al_12, al_14, al_15, al_17, al_18, al_19, al_20, al_22, al_23, al_24, al_25, al_27, al_28, al_29, al_30, al_32, al_33, al_34, al_35, al_37, al_38, al_40, al_42, al_5001, al_5002, al_5003, al_5004, al_5005, al_5006, al_5007, al_5008, al_5009, al_5010, al_5011, al_5012, al_5013, al_5014, al_5015, al_5016, al_5017, al_5018, al_5019, al_5020, al_5021, al_5022, al_5023, al_5024, al_5025, al_5026, al_9000, al_101, al_102, al_104, al_105, al_107, al_108, al_110, al_111, vcs_e, lg_c0, lg_cs, lg_nil, set_c0, set_cs, okst_0, okst_s, acok_n, acok_c, List.contains_nil, List.contains_cons, Bool.or_false, Bool.false_or, Bool.false_eq_true, if_false, if_true, ite_self, ne_eq, true_and, and_true, not_false_eq_true, not_true_eq_false, false_imp_iff, true_imp_iff, Nat.ble_eq, Bool.and_eq_true, reduceCtorEq, or_false, false_or, or_true, true_or, false_and, and_false, and_self, Int.reduceLE, Int.reduceAdd, Int.reduceSub, Int.reduceMul, Int.reduceNeg, Int.reduceLT, Int.reduceEq, Int.reduceNe, Nat.reduceBEq, Nat.reduceBNe, Nat.reduceEqDiff, amCmp_in, amCmp_lt, amCmp_le, amCmp_gt, amCmp_ge, amCmp_eq, amCmp_ne, Nat.reduceLeDiff, Nat.reduceSub, Bool.and_true, Bool.true_and, Bool.and_self, Bool.or_true, Bool.true_or, isRf_3, isRf_4, isRf_5, isRf_8, isRf_9, isRf_10, isRf_11, isRf_15, isRf_16, isRf_17, isRf_18, isRf_19, isRf_20, isRf_21, isRf_22, isRf_23, isRf_24, isRf_25, isRf_26, isRf_27, isRf_28, k_X12_number_0, k_X12_number_1, k_X12_number_4, k_X12_number_5, k_X12_number_6, k_X12_number_9, k_X12_number_12, k_X12_number_13, k_X12_number_16, k_X12_number_17, k_X12_number_18, k_X12_number_19, k_X12_number_20, k_X12_number_22, k_X12_number_23, k_X12_number_25, k_X12_number_26, k_X12_number_27, k_X12_number_30, k_X12_number_31, k_X12_number_32, k_X12_number_35, k_X12_number_36, k_X12_number_39, k_X12_number_42, k_X12_number_44, k_X12_number_46, k_X12_number_47, k_X12_number_48, k_X12_number_51, k_X12_number_52, k_X12_number_54, k_X12_number_55, k_X12_number_57, k_X12_number_58, k_X12_number_59, k_X12_number_62, k_X12_number_63, k_X12_number_64, k_X12_number_67, k_X12_number_68, k_X12_number_71, k_X12_number_74, k_X12_number_75, k_X12_number_78, k_X12_number_79, k_X12_number_80, k_X12_number_81, k_X12_number_83, k_X12_number_84, k_X12_number_85, k_X12_number_86, k_X12_number_87, k_X12_number_88, k_X12_number_91, k_X12_number_94, k_X12_number_95, k_X12_number_96, k_X12_number_99, k_X12_number_100, k_X12_number_101, k_X12_number_104, k_X12_number_105, k_X12_number_108, k_X12_number_109, k_X12_number_111, w_X12_fails_e, w_X12_here_e, w_X12_isDigit_e, w_X12_isIn_e, w_X12_look_e, up_s, up_nj, up_na, up_up, savR_o, cpy_o, fillm_o, setAud_o, setv_o, setv_s, Int.reduceNe, Int.reduceEq, Int.reduceLT, Int.reduceAdd, not_false_eq_true, ne_eq, or_true, true_or, hg, et, hto, u9, u11, up_s, up_up, ff, if_neg c0]
    repeat' (first | assumption | exact ht | apply And.intro | intro _)
    all_goals first | omega | exact absurd trivial (by assumption) | exact q8
def mosV (c w : Int) : Int := if c = 115 then (if w = 0 then 99 else 30) else if c = 99 then (if w = 1 then 5 else if w = 2 then 99 else 9) else 9
def leaV (c w : Int) : Int := if (c = 115 ∧ w = 0) ∨ (c = 112 ∧ w = 3) then 1 else 0
def usuV (c w : Int) : Int := if c = 115 then (if w = 0 then 12 else 5) else if c = 112 then 3 else if c = 116 then 2 else if w = 0 then 5 else if w = 1 then 0 else 20
def a_X12_mostOf : AC := [(0, vIload 0 1), (1, vI 115 3), (3, vIcNe 18 6), (6, vIload 1 7), (7, vIfNe 15 10), (10, vI 99 12), (12, vGoto 17), (15, vI 30 17), (17, vIret), (18, vIload 0 19), (19, vI 99 21), (21, vIcNe 46 24), (24, vIload 1 25), (25, vI 1 26), (26, vIcNe 33 29), (29, vI 5 30), (30, vGoto 45), (33, vIload 1 34), (34, vI 2 35), (35, vIcNe 43 38), (38, vI 99 40), (40, vGoto 45), (43, vI 9 45), (45, vIret), (46, vI 9 48), (48, vIret)]
theorem k_X12_mostOf_0 : look a_X12_mostOf 0 = vIload 0 1 := rfl
theorem k_X12_mostOf_1 : look a_X12_mostOf 1 = vI 115 3 := rfl
theorem k_X12_mostOf_3 : look a_X12_mostOf 3 = vIcNe 18 6 := rfl
theorem k_X12_mostOf_6 : look a_X12_mostOf 6 = vIload 1 7 := rfl
theorem k_X12_mostOf_7 : look a_X12_mostOf 7 = vIfNe 15 10 := rfl
theorem k_X12_mostOf_10 : look a_X12_mostOf 10 = vI 99 12 := rfl
theorem k_X12_mostOf_12 : look a_X12_mostOf 12 = vGoto 17 := rfl
theorem k_X12_mostOf_15 : look a_X12_mostOf 15 = vI 30 17 := rfl
theorem k_X12_mostOf_17 : look a_X12_mostOf 17 = vIret := rfl
theorem k_X12_mostOf_18 : look a_X12_mostOf 18 = vIload 0 19 := rfl
theorem k_X12_mostOf_19 : look a_X12_mostOf 19 = vI 99 21 := rfl
theorem k_X12_mostOf_21 : look a_X12_mostOf 21 = vIcNe 46 24 := rfl
theorem k_X12_mostOf_24 : look a_X12_mostOf 24 = vIload 1 25 := rfl
theorem k_X12_mostOf_25 : look a_X12_mostOf 25 = vI 1 26 := rfl
theorem k_X12_mostOf_26 : look a_X12_mostOf 26 = vIcNe 33 29 := rfl
theorem k_X12_mostOf_29 : look a_X12_mostOf 29 = vI 5 30 := rfl
theorem k_X12_mostOf_30 : look a_X12_mostOf 30 = vGoto 45 := rfl
theorem k_X12_mostOf_33 : look a_X12_mostOf 33 = vIload 1 34 := rfl
theorem k_X12_mostOf_34 : look a_X12_mostOf 34 = vI 2 35 := rfl
theorem k_X12_mostOf_35 : look a_X12_mostOf 35 = vIcNe 43 38 := rfl
theorem k_X12_mostOf_38 : look a_X12_mostOf 38 = vI 99 40 := rfl
theorem k_X12_mostOf_40 : look a_X12_mostOf 40 = vGoto 45 := rfl
theorem k_X12_mostOf_43 : look a_X12_mostOf 43 = vI 9 45 := rfl
theorem k_X12_mostOf_45 : look a_X12_mostOf 45 = vIret := rfl
theorem k_X12_mostOf_46 : look a_X12_mostOf 46 = vI 9 48 := rfl
theorem k_X12_mostOf_48 : look a_X12_mostOf 48 = vIret := rfl
theorem o_X12_mostOf {X : amX} (e1 : XT X = TT) (e2 : XD X = 0) (hB : amB X RX12 cX12_mostOf (some .int) 2) : ∀ pc, amOK X pc (look a_X12_mostOf pc) := by
  have hT : amTok (XT X) := e1 ▸ TT_ok
  refine look_ok ?_
  unfold a_X12_mostOf
  refine fc (ok_iload_n hB dX12_mostOf_0) ?_
  refine fc (ok_bipush hB dX12_mostOf_1 (by decide)) ?_
  refine fc (ok_icmp_ne hB (t := 18) (by decide) dX12_mostOf_3) ?_
  refine fc (ok_iload_n hB dX12_mostOf_6) ?_
  refine fc (ok_if_ne hB (t := 15) (by decide) dX12_mostOf_7) ?_
  refine fc (ok_bipush hB dX12_mostOf_10 (by decide)) ?_
  refine fc (ok_goto hB (t := 17) (by decide) dX12_mostOf_12) ?_
  refine fc (ok_bipush hB dX12_mostOf_15 (by decide)) ?_
  refine fc (ok_iret hB dX12_mostOf_17) ?_
  refine fc (ok_iload_n hB dX12_mostOf_18) ?_
  refine fc (ok_bipush hB dX12_mostOf_19 (by decide)) ?_
  refine fc (ok_icmp_ne hB (t := 46) (by decide) dX12_mostOf_21) ?_
  refine fc (ok_iload_n hB dX12_mostOf_24) ?_
  refine fc (ok_iconst hB dX12_mostOf_25) ?_
  refine fc (ok_icmp_ne hB (t := 33) (by decide) dX12_mostOf_26) ?_
  refine fc (ok_iconst hB dX12_mostOf_29) ?_
  refine fc (ok_goto hB (t := 45) (by decide) dX12_mostOf_30) ?_
  refine fc (ok_iload_n hB dX12_mostOf_33) ?_
  refine fc (ok_iconst hB dX12_mostOf_34) ?_
  refine fc (ok_icmp_ne hB (t := 43) (by decide) dX12_mostOf_35) ?_
  refine fc (ok_bipush hB dX12_mostOf_38 (by decide)) ?_
  refine fc (ok_goto hB (t := 45) (by decide) dX12_mostOf_40) ?_
  refine fc (ok_bipush hB dX12_mostOf_43 (by decide)) ?_
  refine fc (ok_iret hB dX12_mostOf_45) ?_
  refine fc (ok_bipush hB dX12_mostOf_46 (by decide)) ?_
  refine fc (ok_iret hB dX12_mostOf_48) ?_
  exact fn

def w_X12_mostOf : WP := fun av σ Q => ∃ (c : Int) (w : Int), av = [(0, c), (0, w)] ∧ (InR c ∧ InR w ∧ Q (0, mosV c w) σ)
theorem w_X12_mostOf_e (c : Int) (w : Int) (σ : Mem) (Q : AV → Mem → Prop) : w_X12_mostOf [(0, c), (0, w)] σ Q = (InR c ∧ InR w ∧ Q (0, mosV c w) σ) := by
  apply propext; constructor
  · rintro ⟨c', w', h9, hb9⟩; cases h9; exact hb9
  · intro hb9; exact ⟨c, w, rfl, hb9⟩

set_option maxRecDepth 100000 in
set_option maxHeartbeats 4000000 in
theorem s_X12_mostOf : ∀ av σ Q, w_X12_mostOf av σ Q → amCall 0 0 0 TT yX12_mostOf cX12_mostOf 2 (some .int) av σ Q := by
  rintro av σ Q ⟨c, w, rfl, hc, hw, h⟩
  unfold mosV at h
  refine am_m0 (own := RX12) (A := look a_X12_mostOf) (fun X e1 e2 hB => o_X12_mostOf e1 e2 hB) rfl (by decide +kernel) rfl rfl 190 (w := 2) ?_
  change vcs _ _ _ _ 190 0 [(0, c), (0, w)] [] σ
  simp only [↓reduceIte, inR_0, inR_1, inR_m, vSw2_e, swP_n, swP_c, vI_e, vL_e, vNull_e, vIload_e, vLload_e, vAload_e, vIstore_e, vLstore_e, vAstore_e, vIinc_e, vIadd_e, vIsub_e, vImul_e, vIand_e, vIor_e, vIxor_e, vIshl_e, vIshr_e, vIushr_e, vIdiv_e, vIrem_e, vLadd_e, vLsub_e, vLmul_e, vLand_e, vLor_e, vLxor_e, vLdiv_e, vLrem_e, vLushr_e, vLshl_e, vLcmp_e, vIneg_e, vI2l_e, vL2i_e, vI2b_e, vI2c_e, vDup_e, vPop_e, vDup2_e, vGoto_e, vIcEq_e, vIfEq_e, vIcNe_e, vIfNe_e, vIcLt_e, vIfLt_e, vIcGe_e, vIfGe_e, vIcGt_e, vIfGt_e, vIcLe_e, vIfLe_e, vNonnull_e, vSw_e, vGetI_e, vGetL_e, vGetR_e, vPutI_e, vPutZ_e, vPutL_e, vPutR_e, vIald_e, vIald_s, vLald_e, vBald_e, vBald_s, vAald_e, vIast_e, vLast_e, vBast_e, vAast_e, vAlen_e8, vAlen_e9, vAlen_e10, vAlen_e11, vAlen_e5, vAlen_e3, vGets_e, vCompact_e, vLdcS_e, vIret_e, vZret_e, vCret_e, vBret_e, vLret_e, vVret_e, vAret_e, vCallM_e0, vCallMV_e0, vCallS_e0, vCallSV_e0, vCallM_e1, vCallMV_e1, vCallS_e1, vCallSV_e1, vCallM_e2, vCallMV_e2, vCallS_e2, vCallSV_e2, vCallM_e3, vCallMV_e3, vCallS_e3, vCallSV_e3, vCallM_e4, vCallMV_e4, vCallS_e4, vCallSV_e4, vCallM_e5, vCallMV_e5, vCallS_e5, vCallSV_e5, vCallM_e6, vCallMV_e6, vCallS_e6, vCallSV_e6, vCallM_e7, vCallMV_e7, vCallS_e7, vCallSV_e7, vBad_e, vStrVal_e, vStrCod_e, vForm_e, vCallT_e0, vCallT_e1, vCallT_e2, vCopy_e, rf_0_0, rf_0_1, rf_0_2, rf_0_3, rf_0_4, rf_0_7, rf_0_10, rf_0_11, rf_0_12, rf_0_13, rf_0_14, rf_0_15, rf_0_16, rf_1_0, rf_3_0, rf_3_1, rf_6_0, rf_6_1, rf_9_0, rf_9_1, rf_9_3, rf_13_0, rf_13_1, rf_13_2, rf_16_0, rf_16_1, rf_16_2, rf_16_3, rf_21_0, rf_21_1, rf_21_2, rf_21_3, rf_26_0, rf_26_1, rf_26_2, rf_26_3, rf_26_4, rf_26_5, rf_26_6, rf_31_0, rf_31_2, rf_31_5, rf_31_6, rf_36_0, rf_36_1, rf_36_2, rf_36_3, rf_39_0, rf_39_1, rf_39_2, rf_41_0, rf_41_1, rf_41_2, rf_41_3, rf_5000_1, rf_5000_2, rf_5000_3, rf_5000_4, rf_5000_5, rf_5000_15, rf_5000_16, rf_5000_18, rf_5000_19, rf_5000_20, rf_5000_21, rf_5000_22, rf_5000_23, rf_5000_24, rf_5000_25, rf_5000_26, rf_5000_27, rf_5000_36, rf_5000_37, rf_5000_40, rf_5000_41, rf_5000_42, rf_5000_43, rf_5000_44, rf_5000_45, rf_5000_47, rf_5000_52, rf_5000_54, rf_5000_55, rf_100_0, rf_100_1, rf_103_0, rf_103_1, rf_106_0, rf_106_1, rf_109_0, rf_109_1, al_2, al_4, al_5, al_7, al_8, al_10, al_11, al_12, al_14, al_15, al_17, al_18, al_19, al_20, al_22, al_23, al_24, al_25, al_27, al_28, al_29, al_30, al_32, al_33, al_34, al_35, al_37, al_38, al_40, al_42, al_5001, al_5002, al_5003, al_5004, al_5005, al_5006, al_5007, al_5008, al_5009, al_5010, al_5011, al_5012, al_5013, al_5014, al_5015, al_5016, al_5017, al_5018, al_5019, al_5020, al_5021, al_5022, al_5023, al_5024, al_5025, al_5026, al_9000, al_101, al_102, al_104, al_105, al_107, al_108, al_110, al_111, vcs_e, lg_c0, lg_cs, lg_nil, set_c0, set_cs, okst_0, okst_s, acok_n, acok_c, List.contains_nil, List.contains_cons, Bool.or_false, Bool.false_or, Bool.false_eq_true, if_false, if_true, ite_self, ne_eq, true_and, and_true, not_false_eq_true, not_true_eq_false, false_imp_iff, true_imp_iff, Nat.ble_eq, Bool.and_eq_true, reduceCtorEq, or_false, false_or, or_true, true_or, false_and, and_false, and_self, Int.reduceLE, Int.reduceAdd, Int.reduceSub, Int.reduceMul, Int.reduceNeg, Int.reduceLT, Int.reduceEq, Int.reduceNe, Nat.reduceBEq, Nat.reduceBNe, Nat.reduceEqDiff, amCmp_in, amCmp_lt, amCmp_le, amCmp_gt, amCmp_ge, amCmp_eq, amCmp_ne, Nat.reduceLeDiff, Nat.reduceSub, Bool.and_true, Bool.true_and, Bool.and_self, Bool.or_true, Bool.true_or, isRf_3, isRf_4, isRf_5, isRf_8, isRf_9, isRf_10, isRf_11, isRf_15, isRf_16, isRf_17, isRf_18, isRf_19, isRf_20, isRf_21, isRf_22, isRf_23, isRf_24, isRf_25, isRf_26, isRf_27, isRf_28, k_X12_mostOf_0, k_X12_mostOf_1, k_X12_mostOf_3, k_X12_mostOf_6, k_X12_mostOf_7, k_X12_mostOf_10, k_X12_mostOf_12, k_X12_mostOf_15, k_X12_mostOf_17, k_X12_mostOf_18, k_X12_mostOf_19, k_X12_mostOf_21, k_X12_mostOf_24, k_X12_mostOf_25, k_X12_mostOf_26, k_X12_mostOf_29, k_X12_mostOf_30, k_X12_mostOf_33, k_X12_mostOf_34, k_X12_mostOf_35, k_X12_mostOf_38, k_X12_mostOf_40, k_X12_mostOf_43, k_X12_mostOf_45, k_X12_mostOf_46, k_X12_mostOf_48, up_s, up_nj, up_na, up_up, savR_o, cpy_o, fillm_o, setAud_o, setv_o, setv_s, Int.reduceNe, Int.reduceEq, Int.reduceLT, Int.reduceAdd, not_false_eq_true, ne_eq, or_true, true_or]
  repeat' (first | apply And.intro | intro _)
  all_goals first | omega | exact absurd trivial (by assumption) | exact Qe h (by (repeat' split) <;> omega)
def a_X12_leastOf : AC := [(0, vIload 0 1), (1, vI 115 3), (3, vIcNe 10 6), (6, vIload 1 7), (7, vIfEq 21 10), (10, vIload 0 11), (11, vI 112 13), (13, vIcNe 25 16), (16, vIload 1 17), (17, vI 3 18), (18, vIcNe 25 21), (21, vI 1 22), (22, vGoto 26), (25, vI 0 26), (26, vIret)]
theorem k_X12_leastOf_0 : look a_X12_leastOf 0 = vIload 0 1 := rfl
theorem k_X12_leastOf_1 : look a_X12_leastOf 1 = vI 115 3 := rfl
theorem k_X12_leastOf_3 : look a_X12_leastOf 3 = vIcNe 10 6 := rfl
theorem k_X12_leastOf_6 : look a_X12_leastOf 6 = vIload 1 7 := rfl
theorem k_X12_leastOf_7 : look a_X12_leastOf 7 = vIfEq 21 10 := rfl
theorem k_X12_leastOf_10 : look a_X12_leastOf 10 = vIload 0 11 := rfl
theorem k_X12_leastOf_11 : look a_X12_leastOf 11 = vI 112 13 := rfl
theorem k_X12_leastOf_13 : look a_X12_leastOf 13 = vIcNe 25 16 := rfl
theorem k_X12_leastOf_16 : look a_X12_leastOf 16 = vIload 1 17 := rfl
theorem k_X12_leastOf_17 : look a_X12_leastOf 17 = vI 3 18 := rfl
theorem k_X12_leastOf_18 : look a_X12_leastOf 18 = vIcNe 25 21 := rfl
theorem k_X12_leastOf_21 : look a_X12_leastOf 21 = vI 1 22 := rfl
theorem k_X12_leastOf_22 : look a_X12_leastOf 22 = vGoto 26 := rfl
theorem k_X12_leastOf_25 : look a_X12_leastOf 25 = vI 0 26 := rfl
theorem k_X12_leastOf_26 : look a_X12_leastOf 26 = vIret := rfl
theorem o_X12_leastOf {X : amX} (e1 : XT X = TT) (e2 : XD X = 0) (hB : amB X RX12 cX12_leastOf (some .int) 2) : ∀ pc, amOK X pc (look a_X12_leastOf pc) := by
  have hT : amTok (XT X) := e1 ▸ TT_ok
  refine look_ok ?_
  unfold a_X12_leastOf
  refine fc (ok_iload_n hB dX12_leastOf_0) ?_
  refine fc (ok_bipush hB dX12_leastOf_1 (by decide)) ?_
  refine fc (ok_icmp_ne hB (t := 10) (by decide) dX12_leastOf_3) ?_
  refine fc (ok_iload_n hB dX12_leastOf_6) ?_
  refine fc (ok_if_eq hB (t := 21) (by decide) dX12_leastOf_7) ?_
  refine fc (ok_iload_n hB dX12_leastOf_10) ?_
  refine fc (ok_bipush hB dX12_leastOf_11 (by decide)) ?_
  refine fc (ok_icmp_ne hB (t := 25) (by decide) dX12_leastOf_13) ?_
  refine fc (ok_iload_n hB dX12_leastOf_16) ?_
  refine fc (ok_iconst hB dX12_leastOf_17) ?_
  refine fc (ok_icmp_ne hB (t := 25) (by decide) dX12_leastOf_18) ?_
  refine fc (ok_iconst hB dX12_leastOf_21) ?_
  refine fc (ok_goto hB (t := 26) (by decide) dX12_leastOf_22) ?_
  refine fc (ok_iconst hB dX12_leastOf_25) ?_
  refine fc (ok_iret hB dX12_leastOf_26) ?_
  exact fn

def w_X12_leastOf : WP := fun av σ Q => ∃ (c : Int) (w : Int), av = [(0, c), (0, w)] ∧ (InR c ∧ InR w ∧ Q (0, leaV c w) σ)
theorem w_X12_leastOf_e (c : Int) (w : Int) (σ : Mem) (Q : AV → Mem → Prop) : w_X12_leastOf [(0, c), (0, w)] σ Q = (InR c ∧ InR w ∧ Q (0, leaV c w) σ) := by
  apply propext; constructor
  · rintro ⟨c', w', h9, hb9⟩; cases h9; exact hb9
  · intro hb9; exact ⟨c, w, rfl, hb9⟩

set_option maxRecDepth 100000 in
set_option maxHeartbeats 4000000 in
theorem s_X12_leastOf : ∀ av σ Q, w_X12_leastOf av σ Q → amCall 0 0 0 TT yX12_leastOf cX12_leastOf 2 (some .int) av σ Q := by
  rintro av σ Q ⟨c, w, rfl, hc, hw, h⟩
  unfold leaV at h
  refine am_m0 (own := RX12) (A := look a_X12_leastOf) (fun X e1 e2 hB => o_X12_leastOf e1 e2 hB) rfl (by decide +kernel) rfl rfl 190 (w := 2) ?_
  change vcs _ _ _ _ 190 0 [(0, c), (0, w)] [] σ
  simp only [↓reduceIte, inR_0, inR_1, inR_m, vSw2_e, swP_n, swP_c, vI_e, vL_e, vNull_e, vIload_e, vLload_e, vAload_e, vIstore_e, vLstore_e, vAstore_e, vIinc_e, vIadd_e, vIsub_e, vImul_e, vIand_e, vIor_e, vIxor_e, vIshl_e, vIshr_e, vIushr_e, vIdiv_e, vIrem_e, vLadd_e, vLsub_e, vLmul_e, vLand_e, vLor_e, vLxor_e, vLdiv_e, vLrem_e, vLushr_e, vLshl_e, vLcmp_e, vIneg_e, vI2l_e, vL2i_e, vI2b_e, vI2c_e, vDup_e, vPop_e, vDup2_e, vGoto_e, vIcEq_e, vIfEq_e, vIcNe_e, vIfNe_e, vIcLt_e, vIfLt_e, vIcGe_e, vIfGe_e, vIcGt_e, vIfGt_e, vIcLe_e, vIfLe_e, vNonnull_e, vSw_e, vGetI_e, vGetL_e, vGetR_e, vPutI_e, vPutZ_e, vPutL_e, vPutR_e, vIald_e, vIald_s, vLald_e, vBald_e, vBald_s, vAald_e, vIast_e, vLast_e, vBast_e, vAast_e, vAlen_e8, vAlen_e9, vAlen_e10, vAlen_e11, vAlen_e5, vAlen_e3, vGets_e, vCompact_e, vLdcS_e, vIret_e, vZret_e, vCret_e, vBret_e, vLret_e, vVret_e, vAret_e, vCallM_e0, vCallMV_e0, vCallS_e0, vCallSV_e0, vCallM_e1, vCallMV_e1, vCallS_e1, vCallSV_e1, vCallM_e2, vCallMV_e2, vCallS_e2, vCallSV_e2, vCallM_e3, vCallMV_e3, vCallS_e3, vCallSV_e3, vCallM_e4, vCallMV_e4, vCallS_e4, vCallSV_e4, vCallM_e5, vCallMV_e5, vCallS_e5, vCallSV_e5, vCallM_e6, vCallMV_e6, vCallS_e6, vCallSV_e6, vCallM_e7, vCallMV_e7, vCallS_e7, vCallSV_e7, vBad_e, vStrVal_e, vStrCod_e, vForm_e, vCallT_e0, vCallT_e1, vCallT_e2, vCopy_e, rf_0_0, rf_0_1, rf_0_2, rf_0_3, rf_0_4, rf_0_7, rf_0_10, rf_0_11, rf_0_12, rf_0_13, rf_0_14, rf_0_15, rf_0_16, rf_1_0, rf_3_0, rf_3_1, rf_6_0, rf_6_1, rf_9_0, rf_9_1, rf_9_3, rf_13_0, rf_13_1, rf_13_2, rf_16_0, rf_16_1, rf_16_2, rf_16_3, rf_21_0, rf_21_1, rf_21_2, rf_21_3, rf_26_0, rf_26_1, rf_26_2, rf_26_3, rf_26_4, rf_26_5, rf_26_6, rf_31_0, rf_31_2, rf_31_5, rf_31_6, rf_36_0, rf_36_1, rf_36_2, rf_36_3, rf_39_0, rf_39_1, rf_39_2, rf_41_0, rf_41_1, rf_41_2, rf_41_3, rf_5000_1, rf_5000_2, rf_5000_3, rf_5000_4, rf_5000_5, rf_5000_15, rf_5000_16, rf_5000_18, rf_5000_19, rf_5000_20, rf_5000_21, rf_5000_22, rf_5000_23, rf_5000_24, rf_5000_25, rf_5000_26, rf_5000_27, rf_5000_36, rf_5000_37, rf_5000_40, rf_5000_41, rf_5000_42, rf_5000_43, rf_5000_44, rf_5000_45, rf_5000_47, rf_5000_52, rf_5000_54, rf_5000_55, rf_100_0, rf_100_1, rf_103_0, rf_103_1, rf_106_0, rf_106_1, rf_109_0, rf_109_1, al_2, al_4, al_5, al_7, al_8, al_10, al_11, al_12, al_14, al_15, al_17, al_18, al_19, al_20, al_22, al_23, al_24, al_25, al_27, al_28, al_29, al_30, al_32, al_33, al_34, al_35, al_37, al_38, al_40, al_42, al_5001, al_5002, al_5003, al_5004, al_5005, al_5006, al_5007, al_5008, al_5009, al_5010, al_5011, al_5012, al_5013, al_5014, al_5015, al_5016, al_5017, al_5018, al_5019, al_5020, al_5021, al_5022, al_5023, al_5024, al_5025, al_5026, al_9000, al_101, al_102, al_104, al_105, al_107, al_108, al_110, al_111, vcs_e, lg_c0, lg_cs, lg_nil, set_c0, set_cs, okst_0, okst_s, acok_n, acok_c, List.contains_nil, List.contains_cons, Bool.or_false, Bool.false_or, Bool.false_eq_true, if_false, if_true, ite_self, ne_eq, true_and, and_true, not_false_eq_true, not_true_eq_false, false_imp_iff, true_imp_iff, Nat.ble_eq, Bool.and_eq_true, reduceCtorEq, or_false, false_or, or_true, true_or, false_and, and_false, and_self, Int.reduceLE, Int.reduceAdd, Int.reduceSub, Int.reduceMul, Int.reduceNeg, Int.reduceLT, Int.reduceEq, Int.reduceNe, Nat.reduceBEq, Nat.reduceBNe, Nat.reduceEqDiff, amCmp_in, amCmp_lt, amCmp_le, amCmp_gt, amCmp_ge, amCmp_eq, amCmp_ne, Nat.reduceLeDiff, Nat.reduceSub, Bool.and_true, Bool.true_and, Bool.and_self, Bool.or_true, Bool.true_or, isRf_3, isRf_4, isRf_5, isRf_8, isRf_9, isRf_10, isRf_11, isRf_15, isRf_16, isRf_17, isRf_18, isRf_19, isRf_20, isRf_21, isRf_22, isRf_23, isRf_24, isRf_25, isRf_26, isRf_27, isRf_28, k_X12_leastOf_0, k_X12_leastOf_1, k_X12_leastOf_3, k_X12_leastOf_6, k_X12_leastOf_7, k_X12_leastOf_10, k_X12_leastOf_11, k_X12_leastOf_13, k_X12_leastOf_16, k_X12_leastOf_17, k_X12_leastOf_18, k_X12_leastOf_21, k_X12_leastOf_22, k_X12_leastOf_25, k_X12_leastOf_26, up_s, up_nj, up_na, up_up, savR_o, cpy_o, fillm_o, setAud_o, setv_o, setv_s, Int.reduceNe, Int.reduceEq, Int.reduceLT, Int.reduceAdd, not_false_eq_true, ne_eq, or_true, true_or]
  repeat' (first | apply And.intro | intro _)
  all_goals first | omega | exact absurd trivial (by assumption) | exact Qe h (by (repeat' split) <;> omega)
def a_X12_usual : AC := [(0, vIload 0 1), (1, vI 115 3), (3, vIcNe 17 6), (6, vIload 1 7), (7, vIfNe 15 10), (10, vI 12 12), (12, vGoto 16), (15, vI 5 16), (16, vIret), (17, vIload 0 18), (18, vI 112 20), (20, vIcNe 25 23), (23, vI 3 24), (24, vIret), (25, vIload 0 26), (26, vI 116 28), (28, vIcNe 33 31), (31, vI 2 32), (32, vIret), (33, vIload 1 34), (34, vIfNe 41 37), (37, vI 5 38), (38, vGoto 52), (41, vIload 1 42), (42, vI 1 43), (43, vIcNe 50 46), (46, vI 0 47), (47, vGoto 52), (50, vI 20 52), (52, vIret)]
theorem k_X12_usual_0 : look a_X12_usual 0 = vIload 0 1 := rfl
theorem k_X12_usual_1 : look a_X12_usual 1 = vI 115 3 := rfl
theorem k_X12_usual_3 : look a_X12_usual 3 = vIcNe 17 6 := rfl
theorem k_X12_usual_6 : look a_X12_usual 6 = vIload 1 7 := rfl
theorem k_X12_usual_7 : look a_X12_usual 7 = vIfNe 15 10 := rfl
theorem k_X12_usual_10 : look a_X12_usual 10 = vI 12 12 := rfl
theorem k_X12_usual_12 : look a_X12_usual 12 = vGoto 16 := rfl
theorem k_X12_usual_15 : look a_X12_usual 15 = vI 5 16 := rfl
theorem k_X12_usual_16 : look a_X12_usual 16 = vIret := rfl
theorem k_X12_usual_17 : look a_X12_usual 17 = vIload 0 18 := rfl
theorem k_X12_usual_18 : look a_X12_usual 18 = vI 112 20 := rfl
theorem k_X12_usual_20 : look a_X12_usual 20 = vIcNe 25 23 := rfl
theorem k_X12_usual_23 : look a_X12_usual 23 = vI 3 24 := rfl
theorem k_X12_usual_24 : look a_X12_usual 24 = vIret := rfl
theorem k_X12_usual_25 : look a_X12_usual 25 = vIload 0 26 := rfl
theorem k_X12_usual_26 : look a_X12_usual 26 = vI 116 28 := rfl
theorem k_X12_usual_28 : look a_X12_usual 28 = vIcNe 33 31 := rfl
theorem k_X12_usual_31 : look a_X12_usual 31 = vI 2 32 := rfl
theorem k_X12_usual_32 : look a_X12_usual 32 = vIret := rfl
theorem k_X12_usual_33 : look a_X12_usual 33 = vIload 1 34 := rfl
theorem k_X12_usual_34 : look a_X12_usual 34 = vIfNe 41 37 := rfl
theorem k_X12_usual_37 : look a_X12_usual 37 = vI 5 38 := rfl
theorem k_X12_usual_38 : look a_X12_usual 38 = vGoto 52 := rfl
theorem k_X12_usual_41 : look a_X12_usual 41 = vIload 1 42 := rfl
theorem k_X12_usual_42 : look a_X12_usual 42 = vI 1 43 := rfl
theorem k_X12_usual_43 : look a_X12_usual 43 = vIcNe 50 46 := rfl
theorem k_X12_usual_46 : look a_X12_usual 46 = vI 0 47 := rfl
theorem k_X12_usual_47 : look a_X12_usual 47 = vGoto 52 := rfl
theorem k_X12_usual_50 : look a_X12_usual 50 = vI 20 52 := rfl
theorem k_X12_usual_52 : look a_X12_usual 52 = vIret := rfl
theorem o_X12_usual {X : amX} (e1 : XT X = TT) (e2 : XD X = 0) (hB : amB X RX12 cX12_usual (some .int) 2) : ∀ pc, amOK X pc (look a_X12_usual pc) := by
  have hT : amTok (XT X) := e1 ▸ TT_ok
  refine look_ok ?_
  unfold a_X12_usual
  refine fc (ok_iload_n hB dX12_usual_0) ?_
  refine fc (ok_bipush hB dX12_usual_1 (by decide)) ?_
  refine fc (ok_icmp_ne hB (t := 17) (by decide) dX12_usual_3) ?_
  refine fc (ok_iload_n hB dX12_usual_6) ?_
  refine fc (ok_if_ne hB (t := 15) (by decide) dX12_usual_7) ?_
  refine fc (ok_bipush hB dX12_usual_10 (by decide)) ?_
  refine fc (ok_goto hB (t := 16) (by decide) dX12_usual_12) ?_
  refine fc (ok_iconst hB dX12_usual_15) ?_
  refine fc (ok_iret hB dX12_usual_16) ?_
  refine fc (ok_iload_n hB dX12_usual_17) ?_
  refine fc (ok_bipush hB dX12_usual_18 (by decide)) ?_
  refine fc (ok_icmp_ne hB (t := 25) (by decide) dX12_usual_20) ?_
  refine fc (ok_iconst hB dX12_usual_23) ?_
  refine fc (ok_iret hB dX12_usual_24) ?_
  refine fc (ok_iload_n hB dX12_usual_25) ?_
  refine fc (ok_bipush hB dX12_usual_26 (by decide)) ?_
  refine fc (ok_icmp_ne hB (t := 33) (by decide) dX12_usual_28) ?_
  refine fc (ok_iconst hB dX12_usual_31) ?_
  refine fc (ok_iret hB dX12_usual_32) ?_
  refine fc (ok_iload_n hB dX12_usual_33) ?_
  refine fc (ok_if_ne hB (t := 41) (by decide) dX12_usual_34) ?_
  refine fc (ok_iconst hB dX12_usual_37) ?_
  refine fc (ok_goto hB (t := 52) (by decide) dX12_usual_38) ?_
  refine fc (ok_iload_n hB dX12_usual_41) ?_
  refine fc (ok_iconst hB dX12_usual_42) ?_
  refine fc (ok_icmp_ne hB (t := 50) (by decide) dX12_usual_43) ?_
  refine fc (ok_iconst hB dX12_usual_46) ?_
  refine fc (ok_goto hB (t := 52) (by decide) dX12_usual_47) ?_
  refine fc (ok_bipush hB dX12_usual_50 (by decide)) ?_
  refine fc (ok_iret hB dX12_usual_52) ?_
  exact fn

def w_X12_usual : WP := fun av σ Q => ∃ (c : Int) (w : Int), av = [(0, c), (0, w)] ∧ (InR c ∧ InR w ∧ Q (0, usuV c w) σ)
theorem w_X12_usual_e (c : Int) (w : Int) (σ : Mem) (Q : AV → Mem → Prop) : w_X12_usual [(0, c), (0, w)] σ Q = (InR c ∧ InR w ∧ Q (0, usuV c w) σ) := by
  apply propext; constructor
  · rintro ⟨c', w', h9, hb9⟩; cases h9; exact hb9
  · intro hb9; exact ⟨c, w, rfl, hb9⟩

set_option maxRecDepth 100000 in
set_option maxHeartbeats 4000000 in
theorem s_X12_usual : ∀ av σ Q, w_X12_usual av σ Q → amCall 0 0 0 TT yX12_usual cX12_usual 2 (some .int) av σ Q := by
  rintro av σ Q ⟨c, w, rfl, hc, hw, h⟩
  unfold usuV at h
  refine am_m0 (own := RX12) (A := look a_X12_usual) (fun X e1 e2 hB => o_X12_usual e1 e2 hB) rfl (by decide +kernel) rfl rfl 190 (w := 2) ?_
  change vcs _ _ _ _ 190 0 [(0, c), (0, w)] [] σ
  simp only [↓reduceIte, inR_0, inR_1, inR_m, vSw2_e, swP_n, swP_c, vI_e, vL_e, vNull_e, vIload_e, vLload_e, vAload_e, vIstore_e, vLstore_e, vAstore_e, vIinc_e, vIadd_e, vIsub_e, vImul_e, vIand_e, vIor_e, vIxor_e, vIshl_e, vIshr_e, vIushr_e, vIdiv_e, vIrem_e, vLadd_e, vLsub_e, vLmul_e, vLand_e, vLor_e, vLxor_e, vLdiv_e, vLrem_e, vLushr_e, vLshl_e, vLcmp_e, vIneg_e, vI2l_e, vL2i_e, vI2b_e, vI2c_e, vDup_e, vPop_e, vDup2_e, vGoto_e, vIcEq_e, vIfEq_e, vIcNe_e, vIfNe_e, vIcLt_e, vIfLt_e, vIcGe_e, vIfGe_e, vIcGt_e, vIfGt_e, vIcLe_e, vIfLe_e, vNonnull_e, vSw_e, vGetI_e, vGetL_e, vGetR_e, vPutI_e, vPutZ_e, vPutL_e, vPutR_e, vIald_e, vIald_s, vLald_e, vBald_e, vBald_s, vAald_e, vIast_e, vLast_e, vBast_e, vAast_e, vAlen_e8, vAlen_e9, vAlen_e10, vAlen_e11, vAlen_e5, vAlen_e3, vGets_e, vCompact_e, vLdcS_e, vIret_e, vZret_e, vCret_e, vBret_e, vLret_e, vVret_e, vAret_e, vCallM_e0, vCallMV_e0, vCallS_e0, vCallSV_e0, vCallM_e1, vCallMV_e1, vCallS_e1, vCallSV_e1, vCallM_e2, vCallMV_e2, vCallS_e2, vCallSV_e2, vCallM_e3, vCallMV_e3, vCallS_e3, vCallSV_e3, vCallM_e4, vCallMV_e4, vCallS_e4, vCallSV_e4, vCallM_e5, vCallMV_e5, vCallS_e5, vCallSV_e5, vCallM_e6, vCallMV_e6, vCallS_e6, vCallSV_e6, vCallM_e7, vCallMV_e7, vCallS_e7, vCallSV_e7, vBad_e, vStrVal_e, vStrCod_e, vForm_e, vCallT_e0, vCallT_e1, vCallT_e2, vCopy_e, rf_0_0, rf_0_1, rf_0_2, rf_0_3, rf_0_4, rf_0_7, rf_0_10, rf_0_11, rf_0_12, rf_0_13, rf_0_14, rf_0_15, rf_0_16, rf_1_0, rf_3_0, rf_3_1, rf_6_0, rf_6_1, rf_9_0, rf_9_1, rf_9_3, rf_13_0, rf_13_1, rf_13_2, rf_16_0, rf_16_1, rf_16_2, rf_16_3, rf_21_0, rf_21_1, rf_21_2, rf_21_3, rf_26_0, rf_26_1, rf_26_2, rf_26_3, rf_26_4, rf_26_5, rf_26_6, rf_31_0, rf_31_2, rf_31_5, rf_31_6, rf_36_0, rf_36_1, rf_36_2, rf_36_3, rf_39_0, rf_39_1, rf_39_2, rf_41_0, rf_41_1, rf_41_2, rf_41_3, rf_5000_1, rf_5000_2, rf_5000_3, rf_5000_4, rf_5000_5, rf_5000_15, rf_5000_16, rf_5000_18, rf_5000_19, rf_5000_20, rf_5000_21, rf_5000_22, rf_5000_23, rf_5000_24, rf_5000_25, rf_5000_26, rf_5000_27, rf_5000_36, rf_5000_37, rf_5000_40, rf_5000_41, rf_5000_42, rf_5000_43, rf_5000_44, rf_5000_45, rf_5000_47, rf_5000_52, rf_5000_54, rf_5000_55, rf_100_0, rf_100_1, rf_103_0, rf_103_1, rf_106_0, rf_106_1, rf_109_0, rf_109_1, al_2, al_4, al_5, al_7, al_8, al_10, al_11, al_12, al_14, al_15, al_17, al_18, al_19, al_20, al_22, al_23, al_24, al_25, al_27, al_28, al_29, al_30, al_32, al_33, al_34, al_35, al_37, al_38, al_40, al_42, al_5001, al_5002, al_5003, al_5004, al_5005, al_5006, al_5007, al_5008, al_5009, al_5010, al_5011, al_5012, al_5013, al_5014, al_5015, al_5016, al_5017, al_5018, al_5019, al_5020, al_5021, al_5022, al_5023, al_5024, al_5025, al_5026, al_9000, al_101, al_102, al_104, al_105, al_107, al_108, al_110, al_111, vcs_e, lg_c0, lg_cs, lg_nil, set_c0, set_cs, okst_0, okst_s, acok_n, acok_c, List.contains_nil, List.contains_cons, Bool.or_false, Bool.false_or, Bool.false_eq_true, if_false, if_true, ite_self, ne_eq, true_and, and_true, not_false_eq_true, not_true_eq_false, false_imp_iff, true_imp_iff, Nat.ble_eq, Bool.and_eq_true, reduceCtorEq, or_false, false_or, or_true, true_or, false_and, and_false, and_self, Int.reduceLE, Int.reduceAdd, Int.reduceSub, Int.reduceMul, Int.reduceNeg, Int.reduceLT, Int.reduceEq, Int.reduceNe, Nat.reduceBEq, Nat.reduceBNe, Nat.reduceEqDiff, amCmp_in, amCmp_lt, amCmp_le, amCmp_gt, amCmp_ge, amCmp_eq, amCmp_ne, Nat.reduceLeDiff, Nat.reduceSub, Bool.and_true, Bool.true_and, Bool.and_self, Bool.or_true, Bool.true_or, isRf_3, isRf_4, isRf_5, isRf_8, isRf_9, isRf_10, isRf_11, isRf_15, isRf_16, isRf_17, isRf_18, isRf_19, isRf_20, isRf_21, isRf_22, isRf_23, isRf_24, isRf_25, isRf_26, isRf_27, isRf_28, k_X12_usual_0, k_X12_usual_1, k_X12_usual_3, k_X12_usual_6, k_X12_usual_7, k_X12_usual_10, k_X12_usual_12, k_X12_usual_15, k_X12_usual_16, k_X12_usual_17, k_X12_usual_18, k_X12_usual_20, k_X12_usual_23, k_X12_usual_24, k_X12_usual_25, k_X12_usual_26, k_X12_usual_28, k_X12_usual_31, k_X12_usual_32, k_X12_usual_33, k_X12_usual_34, k_X12_usual_37, k_X12_usual_38, k_X12_usual_41, k_X12_usual_42, k_X12_usual_43, k_X12_usual_46, k_X12_usual_47, k_X12_usual_50, k_X12_usual_52, up_s, up_nj, up_na, up_up, savR_o, cpy_o, fillm_o, setAud_o, setv_o, setv_s, Int.reduceNe, Int.reduceEq, Int.reduceLT, Int.reduceAdd, not_false_eq_true, ne_eq, or_true, true_or]
  repeat' (first | apply And.intro | intro _)
  all_goals first | omega | exact absurd trivial (by assumption) | exact Qe h (by (repeat' split) <;> omega)
/-- the kinds of clauses: their sign, how many items each has, its row of items, and where a row stands -/
def kch (k : Int) : Int := if k = 0 then 115 else if k = 1 then 112 else if k = 2 then 99 else 116
def kln (k : Int) : Int := if k = 0 then 2 else if k = 1 then 4 else if k = 2 then 3 else 1
def kid (k : Int) : Int := if k = 0 then 5006 else if k = 1 then 5008 else if k = 2 then 5010 else 5012
theorem kln_b (k : Int) : 1 ≤ kln k ∧ kln k ≤ 4 := by unfold kln; (repeat' split) <;> omega
theorem kvals : ∀ k : Nat, k < 4 → ∀ w : Nat, w < 4 → (w : Int) < kln k → mosV (kch k) w = sav 21001 ((k : Int) * 4 + w) ∧ leaV (kch k) w = sav 21000 ((k : Int) * 4 + w) ∧ usuV (kch k) w = sav 21002 ((k : Int) * 4 + w) := by decide +kernel
theorem kvals' {k w : Int} (k0 : 0 ≤ k) (k1 : k < 4) (w0 : 0 ≤ w) (w1 : w < kln k) : mosV (kch k) w = sav 21001 (k * 4 + w) ∧ leaV (kch k) w = sav 21000 (k * 4 + w) ∧ usuV (kch k) w = sav 21002 (k * 4 + w) := by
  have kb := kln_b k
  obtain ⟨a, rfl⟩ : ∃ a : Nat, k = a := ⟨k.toNat, by omega⟩
  obtain ⟨b, rfl⟩ : ∃ b : Nat, w = b := ⟨w.toNat, by omega⟩
  exact kvals a (by omega) b (by omega) w1
