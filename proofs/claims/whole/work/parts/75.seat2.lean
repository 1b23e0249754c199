/-! Seating: one more SITTER -/
def nbP (T B : Int → Int) (S : Nat) (v : Int) : Prop := v ≤ B S ∧ (∀ q : Nat, 0 < q → q &&& S = q → v ≤ B ((S ^^^ q : Nat) : Int) + T q) ∧ (v = B S ∨ ∃ q : Nat, 0 < q ∧ q &&& S = q ∧ v = B ((S ^^^ q : Nat) : Int) + T q)
def adP (T B : Int → Int) (e : Int) (B' : Int → Int) : Prop := (∀ S : Nat, 1 ≤ S → (S : Int) ≤ e → nbP T B S (B' S)) ∧ ∀ j : Int, (j < 1 ∨ e < j) → B' j = B j
theorem sub_le : ∀ s : Nat, s < 64 → ∀ q : Nat, q < 64 → q &&& s = q → q ≤ s ∧ s ^^^ q ≤ s := by decide +kernel
theorem and_self6 : ∀ s : Nat, s < 64 → s &&& s = s := by decide +kernel
theorem sub_lt {s q : Nat} (hs : s < 64) (h : q &&& s = q) : q < 64 := by
  have : q &&& s ≤ s := Nat.and_le_right
  omega

theorem wd_263 : Cond.fieldLink RX8 15 "ArmchairHouse$Seating" "bests" "[J" ∈ TBL := tb_tab (List.mem_of_getElem? (i := 263) (by decide +kernel)) rfl
theorem fl_X8_15 : amFl RX8 8 3 15 RX8 TX8 4 := ⟨rfl, inT_8, by decide, wd_263⟩
theorem wd_262 : Cond.fieldLink RX8 11 "ArmchairHouse$Seating" "taken" "[J" ∈ TBL := tb_tab (List.mem_of_getElem? (i := 262) (by decide +kernel)) rfl
theorem fl_X8_11 : amFl RX8 8 2 11 RX8 TX8 4 := ⟨rfl, inT_8, by decide, wd_262⟩
theorem wd_1021 : Cond.methodLink RX8 90 yJ9_min_f86c9 ∈ TBL := tb_tab (List.mem_of_getElem? (i := 1021) (by decide +kernel)) rfl
theorem wd_1023 : Cond.code yJ9_min_f86c9 cJ9_min_f86c9 4 (some .long) ∈ TBL := tb_tab (List.mem_of_getElem? (i := 1023) (by decide +kernel)) rfl
theorem lk_X8_90 : amLk RX8 90 yJ9_min_f86c9 cJ9_min_f86c9 4 (some .long) 2 := ⟨wd_1021, wd_16, wd_1023, by decide +kernel, by decide +kernel, by decide⟩
theorem wd_1022 : Cond.static yJ9_min_f86c9 ∈ TBL := tb_tab (List.mem_of_getElem? (i := 1022) (by decide +kernel)) rfl
def a_X8_addSitter : AC := [(0, vIload 1 1), (1, vIstore 2 2), (2, vIload 2 3), (3, vIfLe 63 6), (6, vIload 2 7), (7, vI 64 9), (9, vIcGe 63 12), (12, vIload 2 13), (13, vIstore 3 14), (14, vIload 3 15), (15, vIfLe 57 18), (18, vAload 0 19), (19, vGetR TT 24 3 9 22), (22, vIload 2 23), (23, vAload 0 24), (24, vGetR TT 24 3 9 27), (27, vIload 2 28), (28, vLald TT 29), (29, vAload 0 30), (30, vGetR TT 24 3 9 33), (33, vIload 2 34), (34, vIload 3 35), (35, vIxor 36), (36, vLald TT 37), (37, vAload 0 38), (38, vGetR TT 24 2 9 41), (41, vIload 3 42), (42, vLald TT 43), (43, vLadd 44), (44, vCallS w_J9_min_f86c9 2 47), (47, vLast TT 48), (48, vIload 3 49), (49, vI 1 50), (50, vIsub 51), (51, vIload 2 52), (52, vIand 53), (53, vIstore 3 54), (54, vGoto 14), (57, vIinc 2 (-1) 60), (60, vGoto 2), (63, vVret)]
theorem k_X8_addSitter_0 : look a_X8_addSitter 0 = vIload 1 1 := rfl
theorem k_X8_addSitter_1 : look a_X8_addSitter 1 = vIstore 2 2 := rfl
theorem k_X8_addSitter_2 : look a_X8_addSitter 2 = vIload 2 3 := rfl
theorem k_X8_addSitter_3 : look a_X8_addSitter 3 = vIfLe 63 6 := rfl
theorem k_X8_addSitter_6 : look a_X8_addSitter 6 = vIload 2 7 := rfl
theorem k_X8_addSitter_7 : look a_X8_addSitter 7 = vI 64 9 := rfl
theorem k_X8_addSitter_9 : look a_X8_addSitter 9 = vIcGe 63 12 := rfl
theorem k_X8_addSitter_12 : look a_X8_addSitter 12 = vIload 2 13 := rfl
theorem k_X8_addSitter_13 : look a_X8_addSitter 13 = vIstore 3 14 := rfl
theorem k_X8_addSitter_14 : look a_X8_addSitter 14 = vIload 3 15 := rfl
theorem k_X8_addSitter_15 : look a_X8_addSitter 15 = vIfLe 57 18 := rfl
theorem k_X8_addSitter_18 : look a_X8_addSitter 18 = vAload 0 19 := rfl
theorem k_X8_addSitter_19 : look a_X8_addSitter 19 = vGetR TT 24 3 9 22 := rfl
theorem k_X8_addSitter_22 : look a_X8_addSitter 22 = vIload 2 23 := rfl
theorem k_X8_addSitter_23 : look a_X8_addSitter 23 = vAload 0 24 := rfl
theorem k_X8_addSitter_24 : look a_X8_addSitter 24 = vGetR TT 24 3 9 27 := rfl
theorem k_X8_addSitter_27 : look a_X8_addSitter 27 = vIload 2 28 := rfl
theorem k_X8_addSitter_28 : look a_X8_addSitter 28 = vLald TT 29 := rfl
theorem k_X8_addSitter_29 : look a_X8_addSitter 29 = vAload 0 30 := rfl
theorem k_X8_addSitter_30 : look a_X8_addSitter 30 = vGetR TT 24 3 9 33 := rfl
theorem k_X8_addSitter_33 : look a_X8_addSitter 33 = vIload 2 34 := rfl
theorem k_X8_addSitter_34 : look a_X8_addSitter 34 = vIload 3 35 := rfl
theorem k_X8_addSitter_35 : look a_X8_addSitter 35 = vIxor 36 := rfl
theorem k_X8_addSitter_36 : look a_X8_addSitter 36 = vLald TT 37 := rfl
theorem k_X8_addSitter_37 : look a_X8_addSitter 37 = vAload 0 38 := rfl
theorem k_X8_addSitter_38 : look a_X8_addSitter 38 = vGetR TT 24 2 9 41 := rfl
theorem k_X8_addSitter_41 : look a_X8_addSitter 41 = vIload 3 42 := rfl
theorem k_X8_addSitter_42 : look a_X8_addSitter 42 = vLald TT 43 := rfl
theorem k_X8_addSitter_43 : look a_X8_addSitter 43 = vLadd 44 := rfl
theorem k_X8_addSitter_44 : look a_X8_addSitter 44 = vCallS w_J9_min_f86c9 2 47 := rfl
theorem k_X8_addSitter_47 : look a_X8_addSitter 47 = vLast TT 48 := rfl
theorem k_X8_addSitter_48 : look a_X8_addSitter 48 = vIload 3 49 := rfl
theorem k_X8_addSitter_49 : look a_X8_addSitter 49 = vI 1 50 := rfl
theorem k_X8_addSitter_50 : look a_X8_addSitter 50 = vIsub 51 := rfl
theorem k_X8_addSitter_51 : look a_X8_addSitter 51 = vIload 2 52 := rfl
theorem k_X8_addSitter_52 : look a_X8_addSitter 52 = vIand 53 := rfl
theorem k_X8_addSitter_53 : look a_X8_addSitter 53 = vIstore 3 54 := rfl
theorem k_X8_addSitter_54 : look a_X8_addSitter 54 = vGoto 14 := rfl
theorem k_X8_addSitter_57 : look a_X8_addSitter 57 = vIinc 2 (-1) 60 := rfl
theorem k_X8_addSitter_60 : look a_X8_addSitter 60 = vGoto 2 := rfl
theorem k_X8_addSitter_63 : look a_X8_addSitter 63 = vVret := rfl
theorem o_X8_addSitter {X : amX} (e1 : XT X = TT) (e2 : XD X = 1) (hB : amB X RX8 cX8_addSitter (none) 4) : ∀ pc, amOK X pc (look a_X8_addSitter pc) := by
  have hT : amTok (XT X) := e1 ▸ TT_ok
  refine look_ok ?_
  unfold a_X8_addSitter
  refine fc (ok_iload_n hB dX8_addSitter_0) ?_
  refine fc (ok_istore_n hB (by decide) dX8_addSitter_1) ?_
  refine fc (ok_iload_n hB dX8_addSitter_2) ?_
  refine fc (ok_if_le hB (t := 63) (by decide) dX8_addSitter_3) ?_
  refine fc (ok_iload_n hB dX8_addSitter_6) ?_
  refine fc (ok_bipush hB dX8_addSitter_7 (by decide)) ?_
  refine fc (ok_icmp_ge hB (t := 63) (by decide) dX8_addSitter_9) ?_
  refine fc (ok_iload_n hB dX8_addSitter_12) ?_
  refine fc (ok_istore_n hB (by decide) dX8_addSitter_13) ?_
  refine fc (ok_iload_n hB dX8_addSitter_14) ?_
  refine fc (ok_if_le hB (t := 57) (by decide) dX8_addSitter_15) ?_
  refine fc (ok_aload_n hB dX8_addSitter_18) ?_
  refine fc (okt_getR e1 hB hT fl_X8_15 rfl af_8_3 at_8_3 (by decide) dX8_addSitter_19) ?_
  refine fc (ok_iload_n hB dX8_addSitter_22) ?_
  refine fc (ok_aload_n hB dX8_addSitter_23) ?_
  refine fc (okt_getR e1 hB hT fl_X8_15 rfl af_8_3 at_8_3 (by decide) dX8_addSitter_24) ?_
  refine fc (ok_iload_n hB dX8_addSitter_27) ?_
  refine fc (okt_laload e1 hB dX8_addSitter_28) ?_
  refine fc (ok_aload_n hB dX8_addSitter_29) ?_
  refine fc (okt_getR e1 hB hT fl_X8_15 rfl af_8_3 at_8_3 (by decide) dX8_addSitter_30) ?_
  refine fc (ok_iload_n hB dX8_addSitter_33) ?_
  refine fc (ok_iload_n hB dX8_addSitter_34) ?_
  refine fc (ok_ixor hB dX8_addSitter_35) ?_
  refine fc (okt_laload e1 hB dX8_addSitter_36) ?_
  refine fc (ok_aload_n hB dX8_addSitter_37) ?_
  refine fc (okt_getR e1 hB hT fl_X8_11 rfl af_8_2 at_8_2 (by decide) dX8_addSitter_38) ?_
  refine fc (ok_iload_n hB dX8_addSitter_41) ?_
  refine fc (okt_laload e1 hB dX8_addSitter_42) ?_
  refine fc (ok_ladd hB dX8_addSitter_43) ?_
  refine fc (ok_callS hB (e1 ▸ s_J9_min_f86c9) lk_X8_90 (by rw [e2]; decide) wd_1022 dX8_addSitter_44) ?_
  refine fc (okt_lastore e1 hB dX8_addSitter_47) ?_
  refine fc (ok_iload_n hB dX8_addSitter_48) ?_
  refine fc (ok_iconst hB dX8_addSitter_49) ?_
  refine fc (ok_isub hB dX8_addSitter_50) ?_
  refine fc (ok_iload_n hB dX8_addSitter_51) ?_
  refine fc (ok_iand hB dX8_addSitter_52) ?_
  refine fc (ok_istore_n hB (by decide) dX8_addSitter_53) ?_
  refine fc (ok_goto hB (t := 14) (by decide) dX8_addSitter_54) ?_
  refine fc (ok_iinc hB (by decide) dX8_addSitter_57) ?_
  refine fc (ok_goto hB (t := 2) (by decide) dX8_addSitter_60) ?_
  refine fc (ok_vret hB dX8_addSitter_63) ?_
  exact fn
def inv_add (σ : Mem) (e : Int) (n pc : Nat) (ls st : List AV) (σ' : Mem) : Prop := st = [] ∧ ∃ (s : Nat) (B' : Int → Int), (s : Int) ≤ e ∧ σ' = setv σ 38 B' ∧ (∀ S : Nat, s < S → (S : Int) ≤ e → nbP (σ 37) (σ 38) S (B' S)) ∧ (∀ j : Int, (j < s ∨ e < j) → B' j = σ 38 j) ∧
  ((pc = 2 ∧ n = 100 * s + 99 ∧ B' s = σ 38 s ∧ ∃ v3 : AV, ls = [(24, 36), (0, e), (0, (s : Int)), v3]) ∨
   (pc = 14 ∧ 0 < s ∧ ∃ q : Nat, q &&& s = q ∧ n = 100 * s + q ∧ ls = [(24, 36), (0, e), (0, (s : Int)), (0, (q : Int))] ∧ B' s ≤ σ 38 s ∧ (∀ r : Nat, q < r → r &&& s = r → B' s ≤ σ 38 ((s ^^^ r : Nat) : Int) + σ 37 r) ∧ (B' s = σ 38 s ∨ ∃ r : Nat, q < r ∧ r &&& s = r ∧ B' s = σ 38 ((s ^^^ r : Nat) : Int) + σ 37 r)))
def w_X8_addSitter : WP := fun av σ Q => ∃ (e : Int), av = [(24, 36), (0, e)] ∧ (0 ≤ e ∧ e < 64 ∧ (∀ j, 0 ≤ j → j < 64 → -1200000000000000000 ≤ σ 38 j ∧ σ 38 j ≤ 1200000000000000000) ∧ (∀ j, 1 ≤ j → j ≤ e → -1200000000000000000 ≤ σ 37 j ∧ σ 37 j ≤ 1200000000000000000) ∧ (∀ B', adP (σ 37) (σ 38) e B' → Q (6, 0) (setv σ 38 B')))
theorem w_X8_addSitter_e (e : Int) (σ : Mem) (Q : AV → Mem → Prop) : w_X8_addSitter [(24, 36), (0, e)] σ Q = (0 ≤ e ∧ e < 64 ∧ (∀ j, 0 ≤ j → j < 64 → -1200000000000000000 ≤ σ 38 j ∧ σ 38 j ≤ 1200000000000000000) ∧ (∀ j, 1 ≤ j → j ≤ e → -1200000000000000000 ≤ σ 37 j ∧ σ 37 j ≤ 1200000000000000000) ∧ (∀ B', adP (σ 37) (σ 38) e B' → Q (6, 0) (setv σ 38 B'))) := by
  apply propext; constructor
  · rintro ⟨e', h9, hb9⟩; cases h9; exact hb9
  · intro hb9; exact ⟨e, rfl, hb9⟩

set_option maxRecDepth 100000 in
set_option maxHeartbeats 4000000 in
theorem s_X8_addSitter : ∀ av σ Q, w_X8_addSitter av σ Q → amCall 1 0 0 TT yX8_addSitter cX8_addSitter 4 (none) av σ Q := by
  rintro av σ Q ⟨e, rfl, he0, he1, hb, ht, h⟩
  refine am_m [2, 14] (inv_add σ e) (own := RX8) (A := look a_X8_addSitter) (fun X e1 e2 hB => o_X8_addSitter e1 e2 hB) rfl (by decide +kernel) rfl rfl ?_ ⟨60, ?_⟩ (w := 4)
  · rintro n pc ls st σ' ⟨rfl, s, B', hs, rfl, hG, hU, ⟨rfl, hn, hBs, v3, rfl⟩ | ⟨rfl, hs0, q, hq, hn, rfl, hv1, hv2, hv3⟩⟩
    · refine ⟨60, ?_⟩
      simp only [↓reduceIte, inR_0, inR_1, inR_m, vSw2_e, swP_n, swP_c, vI_e, vL_e, vNull_e, vIload_e, vLload_e, vAload_e, vIstore_e, vLstore_e, vAstore_e, vIinc_e, vIadd_e, vIsub_e, vImul_e, vIand_e, vIor_e, vIxor_e, vIshl_e, vIshr_e, vIushr_e, vIdiv_e, vIrem_e, vLadd_e, vLsub_e, vLmul_e, vLand_e, vLor_e, vLxor_e, vLdiv_e, vLrem_e, vLushr_e, vLshl_e, vLcmp_e, vIneg_e, vI2l_e, vL2i_e, vI2b_e, vI2c_e, vDup_e, vPop_e, vDup2_e, vGoto_e, vIcEq_e, vIfEq_e, vIcNe_e, vIfNe_e, vIcLt_e, vIfLt_e, vIcGe_e, vIfGe_e, vIcGt_e, vIfGt_e, vIcLe_e, vIfLe_e, vNonnull_e, vSw_e, vGetI_e, vGetL_e, vGetR_e, vPutI_e, vPutZ_e, vPutL_e, vPutR_e, vIald_e, vIald_s, vLald_e, vBald_e, vBald_s, vAald_e, vIast_e, vLast_e, vBast_e, vAast_e, vAlen_e8, vAlen_e9, vAlen_e10, vAlen_e11, vAlen_e5, vAlen_e3, vGets_e, vCompact_e, vLdcS_e, vIret_e, vZret_e, vCret_e, vBret_e, vLret_e, vVret_e, vAret_e, vCallM_e0, vCallMV_e0, vCallS_e0, vCallSV_e0, vCallM_e1, vCallMV_e1, vCallS_e1, vCallSV_e1, vCallM_e2, vCallMV_e2, vCallS_e2, vCallSV_e2, vCallM_e3, vCallMV_e3, vCallS_e3, vCallSV_e3, vCallM_e4, vCallMV_e4, vCallS_e4, vCallSV_e4, vCallM_e5, vCallMV_e5, vCallS_e5, vCallSV_e5, vCallM_e6, vCallMV_e6, vCallS_e6, vCallSV_e6, vCallM_e7, vCallMV_e7, vCallS_e7, vCallSV_e7, vBad_e, vStrVal_e, vStrCod_e, vForm_e, vCallT_e0, vCallT_e1, vCallT_e2, vCopy_e, rf_0_0, rf_0_1, rf_0_2, rf_0_3, rf_0_4, rf_0_7, rf_0_10, rf_0_11, rf_0_12, rf_0_13, rf_0_14, rf_0_15, rf_0_16, rf_1_0, rf_3_0, rf_3_1, rf_6_0, rf_6_1, rf_9_0, rf_9_1, rf_9_3, rf_13_0, rf_13_1, rf_13_2, rf_16_0, rf_16_1, rf_16_2, rf_16_3, rf_21_0, rf_21_1, rf_21_2, rf_21_3, rf_26_0, rf_26_1, rf_26_2, rf_26_3, rf_26_4, rf_26_5, rf_26_6, rf_31_0, rf_31_2, rf_31_5, rf_31_6, rf_36_0, rf_36_1, rf_36_2, rf_36_3, rf_39_0, rf_39_1, rf_39_2, rf_41_0, rf_41_1, rf_41_2, rf_41_3, rf_5000_1, rf_5000_2, rf_5000_3, rf_5000_4, rf_5000_5, rf_5000_15, rf_5000_16, rf_5000_18, rf_5000_19, rf_5000_20, rf_5000_21, rf_5000_22, rf_5000_23, rf_5000_24, rf_5000_25, rf_5000_26, rf_5000_27, rf_5000_36, rf_5000_37, rf_5000_40, rf_5000_41, rf_5000_42, rf_5000_43, rf_5000_44, rf_5000_45, rf_5000_47, rf_5000_52, rf_5000_54, rf_5000_55, rf_100_0, rf_100_1, rf_103_0, rf_103_1, rf_106_0, rf_106_1, rf_109_0, rf_109_1, al_2, al_4, al_5, al_7, al_8, al_10, al_11, al_12, al_14, al_15, al_17, al_18, al_19, al_20, al_22, al_23, al_24, al_25, al_27, al_28, al_29, al_30, al_32, al_33, al_34, al_35, al_37, al_38, al_40, al_42, al_5001, al_5002, al_5003, al_5004, al_5005, al_5006, al_5007, al_5008, al_5009, al_5010, al_5011, al_5012, al_5013, al_5014, al_5015, al_5016, al_5017, al_5018, al_5019, al_5020, al_5021, al_5022, al_5023, al_5024, al_5025, al_5026, al_9000, al_101, al_102, al_104, al_105, al_107, al_108, al_110, al_111, vcs_e, lg_c0, lg_cs, lg_nil, set_c0, set_cs, okst_0, okst_s, acok_n, acok_c, List.contains_nil, List.contains_cons, Bool.or_false, Bool.false_or, Bool.false_eq_true, if_false, if_true, ite_self, ne_eq, true_and, and_true, not_false_eq_true, not_true_eq_false, false_imp_iff, true_imp_iff, Nat.ble_eq, Bool.and_eq_true, reduceCtorEq, or_false, false_or, or_true, true_or, false_and, and_false, and_self, Int.reduceLE, Int.reduceAdd, Int.reduceSub, Int.reduceMul, Int.reduceNeg, Int.reduceLT, Int.reduceEq, Int.reduceNe, Nat.reduceBEq, Nat.reduceBNe, Nat.reduceEqDiff, amCmp_in, amCmp_lt, amCmp_le, amCmp_gt, amCmp_ge, amCmp_eq, amCmp_ne, Nat.reduceLeDiff, Nat.reduceSub, Bool.and_true, Bool.true_and, Bool.and_self, Bool.or_true, Bool.true_or, isRf_3, isRf_4, isRf_5, isRf_8, isRf_9, isRf_10, isRf_11, isRf_15, isRf_16, isRf_17, isRf_18, isRf_19, isRf_20, isRf_21, isRf_22, isRf_23, isRf_24, isRf_25, isRf_26, isRf_27, isRf_28, k_X8_addSitter_0, k_X8_addSitter_1, k_X8_addSitter_2, k_X8_addSitter_3, k_X8_addSitter_6, k_X8_addSitter_7, k_X8_addSitter_9, k_X8_addSitter_12, k_X8_addSitter_13, k_X8_addSitter_14, k_X8_addSitter_15, k_X8_addSitter_18, k_X8_addSitter_19, k_X8_addSitter_22, k_X8_addSitter_23, k_X8_addSitter_24, k_X8_addSitter_27, k_X8_addSitter_28, k_X8_addSitter_29, k_X8_addSitter_30, k_X8_addSitter_33, k_X8_addSitter_34, k_X8_addSitter_35, k_X8_addSitter_36, k_X8_addSitter_37, k_X8_addSitter_38, k_X8_addSitter_41, k_X8_addSitter_42, k_X8_addSitter_43, k_X8_addSitter_44, k_X8_addSitter_47, k_X8_addSitter_48, k_X8_addSitter_49, k_X8_addSitter_50, k_X8_addSitter_51, k_X8_addSitter_52, k_X8_addSitter_53, k_X8_addSitter_54, k_X8_addSitter_57, k_X8_addSitter_60, k_X8_addSitter_63, setv_s]
      by_cases c : s = 0
      · subst c
        have hh := h B' ⟨fun S S0 S1 => hG S (by omega) S1, fun j hj => by
          by_cases e0 : j = 0
          · rw [e0]; exact hBs
          · exact hU j (by omega)⟩
        repeat' (first | assumption | apply And.intro | intro _)
        all_goals first | omega | exact absurd trivial (by assumption) | exact hh
      · have i9 : ∃ k', k' < n ∧ inv_add σ e k' 14 [(24, 36), (0, e), (0, (s : Int)), (0, (s : Int))] [] (setv σ 38 B') :=
          ⟨100 * s + s, by omega, rfl, s, B', hs, rfl, hG, hU, Or.inr ⟨rfl, by omega, s, and_self6 s (by omega), rfl, rfl, by rw [hBs]; exact Int.le_refl _, fun r r0 r1 => by
            have r2 := sub_lt (by omega) r1
            have := (sub_le s (by omega) r r2 r1).1
            omega, Or.inl hBs⟩⟩
        repeat' (first | assumption | apply And.intro | intro _)
        all_goals first | omega | exact absurd trivial (by assumption) | exact i9
    · have hq6 := sub_lt (by omega) hq
      have hqs := sub_le s (by omega) q hq6 hq
      have hbs := hb s (by omega) (by omega)
      have vlo : -2400000000000000000 ≤ B' s := by
        rcases hv3 with g | ⟨r, r0, r1, r2⟩
        · omega
        · have r3 := sub_lt (by omega) r1
          have r4 := sub_le s (by omega) r r3 r1
          have := hb ((s ^^^ r : Nat) : Int) (by omega) (by omega)
          have := ht r (by omega) (by omega)
          omega
      by_cases c : q = 0
      · subst c
        have i9 : ∃ k', k' < n ∧ inv_add σ e k' 2 [(24, 36), (0, e), (0, (s : Int) + -1), (0, ((0 : Nat) : Int))] [] (setv σ 38 B') := by
          refine ⟨100 * (s - 1) + 99, by omega, rfl, s - 1, B', by omega, rfl, fun S S0 S1 => ?_, fun j hj => hU j (by omega), Or.inl ⟨rfl, rfl, hU _ (by omega), (0, ((0 : Nat) : Int)), by rw [show (((s - 1 : Nat) : Int)) = (s : Int) + -1 by omega]⟩⟩
          by_cases e1 : S = s
          · subst e1
            exact ⟨hv1, fun r r0 r1 => hv2 r r0 r1, hv3⟩
          · exact hG S (by omega) S1
        refine ⟨60, ?_⟩
        simp only [↓reduceIte, inR_0, inR_1, inR_m, vSw2_e, swP_n, swP_c, vI_e, vL_e, vNull_e, vIload_e, vLload_e, vAload_e, vIstore_e, vLstore_e, vAstore_e, vIinc_e, vIadd_e, vIsub_e, vImul_e, vIand_e, vIor_e, vIxor_e, vIshl_e, vIshr_e, vIushr_e, vIdiv_e, vIrem_e, vLadd_e, vLsub_e, vLmul_e, vLand_e, vLor_e, vLxor_e, vLdiv_e, vLrem_e, vLushr_e, vLshl_e, vLcmp_e, vIneg_e, vI2l_e, vL2i_e, vI2b_e, vI2c_e, vDup_e, vPop_e, vDup2_e, vGoto_e, vIcEq_e, vIfEq_e, vIcNe_e, vIfNe_e, vIcLt_e, vIfLt_e, vIcGe_e, vIfGe_e, vIcGt_e, vIfGt_e, vIcLe_e, vIfLe_e, vNonnull_e, vSw_e, vGetI_e, vGetL_e, vGetR_e, vPutI_e, vPutZ_e, vPutL_e, vPutR_e, vIald_e, vIald_s, vLald_e, vBald_e, vBald_s, vAald_e, vIast_e, vLast_e, vBast_e, vAast_e, vAlen_e8, vAlen_e9, vAlen_e10, vAlen_e11, vAlen_e5, vAlen_e3, vGets_e, vCompact_e, vLdcS_e, vIret_e, vZret_e, vCret_e, vBret_e, vLret_e, vVret_e, vAret_e, vCallM_e0, vCallMV_e0, vCallS_e0, vCallSV_e0, vCallM_e1, vCallMV_e1, vCallS_e1, vCallSV_e1, vCallM_e2, vCallMV_e2, vCallS_e2, vCallSV_e2, vCallM_e3, vCallMV_e3, vCallS_e3, vCallSV_e3, vCallM_e4, vCallMV_e4, vCallS_e4, vCallSV_e4, vCallM_e5, vCallMV_e5, vCallS_e5, vCallSV_e5, vCallM_e6, vCallMV_e6, vCallS_e6, vCallSV_e6, vCallM_e7, vCallMV_e7, vCallS_e7, vCallSV_e7, vBad_e, vStrVal_e, vStrCod_e, vForm_e, vCallT_e0, vCallT_e1, vCallT_e2, vCopy_e, rf_0_0, rf_0_1, rf_0_2, rf_0_3, rf_0_4, rf_0_7, rf_0_10, rf_0_11, rf_0_12, rf_0_13, rf_0_14, rf_0_15, rf_0_16, rf_1_0, rf_3_0, rf_3_1, rf_6_0, rf_6_1, rf_9_0, rf_9_1, rf_9_3, rf_13_0, rf_13_1, rf_13_2, rf_16_0, rf_16_1, rf_16_2, rf_16_3, rf_21_0, rf_21_1, rf_21_2, rf_21_3, rf_26_0, rf_26_1, rf_26_2, rf_26_3, rf_26_4, rf_26_5, rf_26_6, rf_31_0, rf_31_2, rf_31_5, rf_31_6, rf_36_0, rf_36_1, rf_36_2, rf_36_3, rf_39_0, rf_39_1, rf_39_2, rf_41_0, rf_41_1, rf_41_2, rf_41_3, rf_5000_1, rf_5000_2, rf_5000_3, rf_5000_4, rf_5000_5, rf_5000_15, rf_5000_16, rf_5000_18, rf_5000_19, rf_5000_20, rf_5000_21, rf_5000_22, rf_5000_23, rf_5000_24, rf_5000_25, rf_5000_26, rf_5000_27, rf_5000_36, rf_5000_37, rf_5000_40, rf_5000_41, rf_5000_42, rf_5000_43, rf_5000_44, rf_5000_45, rf_5000_47, rf_5000_52, rf_5000_54, rf_5000_55, rf_100_0, rf_100_1, rf_103_0, rf_103_1, rf_106_0, rf_106_1, rf_109_0, rf_109_1, al_2, al_4, al_5, al_7, al_8, al_10, al_11, al_12, al_14, al_15, al_17, al_18, al_19, al_20, al_22, al_23, al_24, al_25, al_27, al_28, al_29, al_30, al_32, al_33, al_34, al_35, al_37, al_38, al_40, al_42, al_5001, al_5002, al_5003, al_5004, al_5005, al_5006, al_5007, al_5008, al_5009, al_5010, al_5011, al_5012, al_5013, al_5014, al_5015, al_5016, al_5017, al_5018, al_5019, al_5020, al_5021, al_5022, al_5023, al_5024, al_5025, al_5026, al_9000, al_101, al_102, al_104, al_105, al_107, al_108, al_110, al_111, vcs_e, lg_c0, lg_cs, lg_nil, set_c0, set_cs, okst_0, okst_s, acok_n, acok_c, List.contains_nil, List.contains_cons, Bool.or_false, Bool.false_or, Bool.false_eq_true, if_false, if_true, ite_self, ne_eq, true_and, and_true, not_false_eq_true, not_true_eq_false, false_imp_iff, true_imp_iff, Nat.ble_eq, Bool.and_eq_true, reduceCtorEq, or_false, false_or, or_true, true_or, false_and, and_false, and_self, Int.reduceLE, Int.reduceAdd, Int.reduceSub, Int.reduceMul, Int.reduceNeg, Int.reduceLT, Int.reduceEq, Int.reduceNe, Nat.reduceBEq, Nat.reduceBNe, Nat.reduceEqDiff, amCmp_in, amCmp_lt, amCmp_le, amCmp_gt, amCmp_ge, amCmp_eq, amCmp_ne, Nat.reduceLeDiff, Nat.reduceSub, Bool.and_true, Bool.true_and, Bool.and_self, Bool.or_true, Bool.true_or, isRf_3, isRf_4, isRf_5, isRf_8, isRf_9, isRf_10, isRf_11, isRf_15, isRf_16, isRf_17, isRf_18, isRf_19, isRf_20, isRf_21, isRf_22, isRf_23, isRf_24, isRf_25, isRf_26, isRf_27, isRf_28, k_X8_addSitter_0, k_X8_addSitter_1, k_X8_addSitter_2, k_X8_addSitter_3, k_X8_addSitter_6, k_X8_addSitter_7, k_X8_addSitter_9, k_X8_addSitter_12, k_X8_addSitter_13, k_X8_addSitter_14, k_X8_addSitter_15, k_X8_addSitter_18, k_X8_addSitter_19, k_X8_addSitter_22, k_X8_addSitter_23, k_X8_addSitter_24, k_X8_addSitter_27, k_X8_addSitter_28, k_X8_addSitter_29, k_X8_addSitter_30, k_X8_addSitter_33, k_X8_addSitter_34, k_X8_addSitter_35, k_X8_addSitter_36, k_X8_addSitter_37, k_X8_addSitter_38, k_X8_addSitter_41, k_X8_addSitter_42, k_X8_addSitter_43, k_X8_addSitter_44, k_X8_addSitter_47, k_X8_addSitter_48, k_X8_addSitter_49, k_X8_addSitter_50, k_X8_addSitter_51, k_X8_addSitter_52, k_X8_addSitter_53, k_X8_addSitter_54, k_X8_addSitter_57, k_X8_addSitter_60, k_X8_addSitter_63, setv_s]
        repeat' (first | assumption | apply And.intro | intro _)
        all_goals first | omega | exact absurd trivial (by assumption) | exact i9
      · obtain ⟨n1, n2⟩ := sub_nx1 s (by omega) q hq6 hq (by omega)
        have n3 := sub_nx2 s (by omega) q hq6 hq
        have ex : amIxor (s : Int) (q : Int) = ((s ^^^ q : Nat) : Int) := (bt_eb s (by omega) q hq6).2
        have ea : amIand ((q : Int) - 1) (s : Int) = (((q - 1) &&& s : Nat) : Int) := by
          rw [show (q : Int) - 1 = ((q - 1 : Nat) : Int) by omega]; exact (bt_eb (q - 1) (by omega) s (by omega)).1
        have o1 : B' ((s ^^^ q : Nat) : Int) = σ 38 ((s ^^^ q : Nat) : Int) := hU _ (by have := (sub_bit s (by omega) q hq6 hq).2.1 (by omega); omega)
        have hbq := hb ((s ^^^ q : Nat) : Int) (by omega) (by omega)
        have htq := ht q (by omega) (by omega)
        have r37 : setv σ 38 B' 37 = σ 37 := setv_o _ _ (by decide)
        refine ⟨60, ?_⟩
        simp only [↓reduceIte, inR_0, inR_1, inR_m, vSw2_e, swP_n, swP_c, vI_e, vL_e, vNull_e, vIload_e, vLload_e, vAload_e, vIstore_e, vLstore_e, vAstore_e, vIinc_e, vIadd_e, vIsub_e, vImul_e, vIand_e, vIor_e, vIxor_e, vIshl_e, vIshr_e, vIushr_e, vIdiv_e, vIrem_e, vLadd_e, vLsub_e, vLmul_e, vLand_e, vLor_e, vLxor_e, vLdiv_e, vLrem_e, vLushr_e, vLshl_e, vLcmp_e, vIneg_e, vI2l_e, vL2i_e, vI2b_e, vI2c_e, vDup_e, vPop_e, vDup2_e, vGoto_e, vIcEq_e, vIfEq_e, vIcNe_e, vIfNe_e, vIcLt_e, vIfLt_e, vIcGe_e, vIfGe_e, vIcGt_e, vIfGt_e, vIcLe_e, vIfLe_e, vNonnull_e, vSw_e, vGetI_e, vGetL_e, vGetR_e, vPutI_e, vPutZ_e, vPutL_e, vPutR_e, vIald_e, vIald_s, vLald_e, vBald_e, vBald_s, vAald_e, vIast_e, vLast_e, vBast_e, vAast_e, vAlen_e8, vAlen_e9, vAlen_e10, vAlen_e11, vAlen_e5, vAlen_e3, vGets_e, vCompact_e, vLdcS_e, vIret_e, vZret_e, vCret_e, vBret_e, vLret_e, vVret_e, vAret_e, vCallM_e0, vCallMV_e0, vCallS_e0, vCallSV_e0, vCallM_e1, vCallMV_e1, vCallS_e1, vCallSV_e1, vCallM_e2, vCallMV_e2, vCallS_e2, vCallSV_e2, vCallM_e3, vCallMV_e3, vCallS_e3, vCallSV_e3, vCallM_e4, vCallMV_e4, vCallS_e4, vCallSV_e4, vCallM_e5, vCallMV_e5, vCallS_e5, vCallSV_e5, vCallM_e6, vCallMV_e6, vCallS_e6, vCallSV_e6, vCallM_e7, vCallMV_e7, vCallS_e7, vCallSV_e7, vBad_e, vStrVal_e, vStrCod_e, vForm_e, vCallT_e0, vCallT_e1, vCallT_e2, vCopy_e, rf_0_0, rf_0_1, rf_0_2, rf_0_3, rf_0_4, rf_0_7, rf_0_10, rf_0_11, rf_0_12, rf_0_13, rf_0_14, rf_0_15, rf_0_16, rf_1_0, rf_3_0, rf_3_1, rf_6_0, rf_6_1, rf_9_0, rf_9_1, rf_9_3, rf_13_0, rf_13_1, rf_13_2, rf_16_0, rf_16_1, rf_16_2, rf_16_3, rf_21_0, rf_21_1, rf_21_2, rf_21_3, rf_26_0, rf_26_1, rf_26_2, rf_26_3, rf_26_4, rf_26_5, rf_26_6, rf_31_0, rf_31_2, rf_31_5, rf_31_6, rf_36_0, rf_36_1, rf_36_2, rf_36_3, rf_39_0, rf_39_1, rf_39_2, rf_41_0, rf_41_1, rf_41_2, rf_41_3, rf_5000_1, rf_5000_2, rf_5000_3, rf_5000_4, rf_5000_5, rf_5000_15, rf_5000_16, rf_5000_18, rf_5000_19, rf_5000_20, rf_5000_21, rf_5000_22, rf_5000_23, rf_5000_24, rf_5000_25, rf_5000_26, rf_5000_27, rf_5000_36, rf_5000_37, rf_5000_40, rf_5000_41, rf_5000_42, rf_5000_43, rf_5000_44, rf_5000_45, rf_5000_47, rf_5000_52, rf_5000_54, rf_5000_55, rf_100_0, rf_100_1, rf_103_0, rf_103_1, rf_106_0, rf_106_1, rf_109_0, rf_109_1, al_2, al_4, al_5, al_7, al_8, al_10, al_11, al_12, al_14, al_15, al_17, al_18, al_19, al_20, al_22, al_23, al_24, al_25, al_27, al_28, al_29, al_30, al_32, al_33, al_34, al_35, al_37, al_38, al_40, al_42, al_5001, al_5002, al_5003, al_5004, al_5005, al_5006, al_5007, al_5008, al_5009, al_5010, al_5011, al_5012, al_5013, al_5014, al_5015, al_5016, al_5017, al_5018, al_5019, al_5020, al_5021, al_5022, al_5023, al_5024, al_5025, al_5026, al_9000, al_101, al_102, al_104, al_105, al_107, al_108, al_110, al_111, vcs_e, lg_c0, lg_cs, lg_nil, set_c0, set_cs, okst_0, okst_s, acok_n, acok_c, List.contains_nil, List.contains_cons, Bool.or_false, Bool.false_or, Bool.false_eq_true, if_false, if_true, ite_self, ne_eq, true_and, and_true, not_false_eq_true, not_true_eq_false, false_imp_iff, true_imp_iff, Nat.ble_eq, Bool.and_eq_true, reduceCtorEq, or_false, false_or, or_true, true_or, false_and, and_false, and_self, Int.reduceLE, Int.reduceAdd, Int.reduceSub, Int.reduceMul, Int.reduceNeg, Int.reduceLT, Int.reduceEq, Int.reduceNe, Nat.reduceBEq, Nat.reduceBNe, Nat.reduceEqDiff, amCmp_in, amCmp_lt, amCmp_le, amCmp_gt, amCmp_ge, amCmp_eq, amCmp_ne, Nat.reduceLeDiff, Nat.reduceSub, Bool.and_true, Bool.true_and, Bool.and_self, Bool.or_true, Bool.true_or, isRf_3, isRf_4, isRf_5, isRf_8, isRf_9, isRf_10, isRf_11, isRf_15, isRf_16, isRf_17, isRf_18, isRf_19, isRf_20, isRf_21, isRf_22, isRf_23, isRf_24, isRf_25, isRf_26, isRf_27, isRf_28, k_X8_addSitter_0, k_X8_addSitter_1, k_X8_addSitter_2, k_X8_addSitter_3, k_X8_addSitter_6, k_X8_addSitter_7, k_X8_addSitter_9, k_X8_addSitter_12, k_X8_addSitter_13, k_X8_addSitter_14, k_X8_addSitter_15, k_X8_addSitter_18, k_X8_addSitter_19, k_X8_addSitter_22, k_X8_addSitter_23, k_X8_addSitter_24, k_X8_addSitter_27, k_X8_addSitter_28, k_X8_addSitter_29, k_X8_addSitter_30, k_X8_addSitter_33, k_X8_addSitter_34, k_X8_addSitter_35, k_X8_addSitter_36, k_X8_addSitter_37, k_X8_addSitter_38, k_X8_addSitter_41, k_X8_addSitter_42, k_X8_addSitter_43, k_X8_addSitter_44, k_X8_addSitter_47, k_X8_addSitter_48, k_X8_addSitter_49, k_X8_addSitter_50, k_X8_addSitter_51, k_X8_addSitter_52, k_X8_addSitter_53, k_X8_addSitter_54, k_X8_addSitter_57, k_X8_addSitter_60, k_X8_addSitter_63, w_J9_min_f86c9_e, setv_s, ex, ea, o1, r37, up_setv]
        have nx : ∀ v : Int, v ≤ B' s → v ≤ σ 38 ((s ^^^ q : Nat) : Int) + σ 37 q → (v = B' s ∨ v = σ 38 ((s ^^^ q : Nat) : Int) + σ 37 q) → ∃ k', k' < n ∧ inv_add σ e k' 14 [(24, 36), (0, e), (0, (s : Int)), (0, (((q - 1) &&& s : Nat) : Int))] [] (setv σ 38 (upf B' s v)) := fun v g1 g2 g3 => by
          have us : upf B' s v s = v := upf_s _ _ _
          have uo : ∀ j : Int, j ≠ s → upf B' s v j = B' j := fun j hj => by unfold upf; rw [if_neg hj]
          refine ⟨100 * s + ((q - 1) &&& s), by omega, rfl, s, upf B' s v, hs, rfl, fun S S0 S1 => by rw [uo S (by omega)]; exact hG S S0 S1, fun j hj => by rw [uo j (by omega)]; exact hU j hj, Or.inr ⟨rfl, hs0, (q - 1) &&& s, n1, rfl, rfl, by rw [us]; omega, fun r r0 r1 => ?_, ?_⟩⟩
          · rw [us]
            by_cases e1 : r = q
            · rw [e1]; exact g2
            · have r2 : q < r := by
                rcases Nat.lt_or_ge r q with g | g
                · have := n3 r g r1; omega
                · omega
              have := hv2 r r2 r1
              omega
          · rw [us]
            rcases g3 with g | g
            · rcases hv3 with g' | ⟨r, r0, r1, r2⟩
              · left; omega
              · right; exact ⟨r, by omega, r1, by omega⟩
            · right; exact ⟨q, by omega, hq, g⟩
        by_cases cm : σ 38 ((s ^^^ q : Nat) : Int) + σ 37 q < B' s
        · have i9 := nx _ (by omega) (Int.le_refl _) (Or.inr rfl)
          rw [if_pos cm]
          repeat' (first | assumption | apply And.intro | intro _)
          all_goals first | omega | exact absurd trivial (by assumption) | exact i9
        · have i9 := nx (B' s) (Int.le_refl _) (by omega) (Or.inl rfl)
          rw [if_neg cm]
          repeat' (first | assumption | apply And.intro | intro _)
          all_goals first | omega | exact absurd trivial (by assumption) | exact i9
  · change vcs _ _ _ _ 60 0 [(24, 36), (0, e), (6, 0), (6, 0)] [] σ
    simp only [↓reduceIte, inR_0, inR_1, inR_m, vI_e, vL_e, vNull_e, vIload_e, vLload_e, vAload_e, vIstore_e, vLstore_e, vAstore_e, vIinc_e, vIadd_e, vIsub_e, vImul_e, vIand_e, vIor_e, vIxor_e, vIshl_e, vIshr_e, vIushr_e, vIdiv_e, vIrem_e, vLadd_e, vLsub_e, vLmul_e, vLand_e, vLor_e, vLxor_e, vLdiv_e, vLrem_e, vLushr_e, vLshl_e, vLcmp_e, vIneg_e, vI2l_e, vL2i_e, vI2b_e, vI2c_e, vDup_e, vPop_e, vDup2_e, vGoto_e, vIcEq_e, vIfEq_e, vIcNe_e, vIfNe_e, vIcLt_e, vIfLt_e, vIcGe_e, vIfGe_e, vIcGt_e, vIfGt_e, vIcLe_e, vIfLe_e, vNonnull_e, vSw_e, vGetI_e, vGetL_e, vGetR_e, vPutI_e, vPutZ_e, vPutL_e, vPutR_e, vIald_e, vIald_s, vLald_e, vBald_e, vBald_s, vAald_e, vIast_e, vLast_e, vBast_e, vAast_e, vAlen_e8, vAlen_e9, vAlen_e10, vAlen_e11, vAlen_e5, vAlen_e3, vGets_e, vCompact_e, vLdcS_e, vIret_e, vZret_e, vCret_e, vBret_e, vLret_e, vVret_e, vAret_e, vCallM_e0, vCallMV_e0, vCallS_e0, vCallSV_e0, vCallM_e1, vCallMV_e1, vCallS_e1, vCallSV_e1, vCallM_e2, vCallMV_e2, vCallS_e2, vCallSV_e2, vCallM_e3, vCallMV_e3, vCallS_e3, vCallSV_e3, vCallM_e4, vCallMV_e4, vCallS_e4, vCallSV_e4, vCallM_e5, vCallMV_e5, vCallS_e5, vCallSV_e5, vCallM_e6, vCallMV_e6, vCallS_e6, vCallSV_e6, vCallM_e7, vCallMV_e7, vCallS_e7, vCallSV_e7, vBad_e, vStrVal_e, vStrCod_e, vForm_e, vCallT_e0, vCallT_e1, vCallT_e2, vCopy_e, rf_0_0, rf_0_1, rf_0_2, rf_0_3, rf_0_4, rf_0_7, rf_0_10, rf_0_11, rf_0_12, rf_0_13, rf_0_14, rf_0_15, rf_0_16, rf_1_0, rf_3_0, rf_3_1, rf_6_0, rf_6_1, rf_9_0, rf_9_1, rf_9_3, rf_13_0, rf_13_1, rf_13_2, rf_16_0, rf_16_1, rf_16_2, rf_16_3, rf_21_0, rf_21_1, rf_21_2, rf_21_3, rf_26_0, rf_26_1, rf_26_2, rf_26_3, rf_26_4, rf_26_5, rf_26_6, rf_31_0, rf_31_2, rf_31_5, rf_31_6, rf_36_0, rf_36_1, rf_36_2, rf_36_3, rf_39_0, rf_39_1, rf_39_2, rf_41_0, rf_41_1, rf_41_2, rf_41_3, rf_5000_1, rf_5000_2, rf_5000_3, rf_5000_4, rf_5000_5, rf_5000_15, rf_5000_16, rf_5000_18, rf_5000_19, rf_5000_20, rf_5000_21, rf_5000_22, rf_5000_23, rf_5000_24, rf_5000_25, rf_5000_26, rf_5000_27, rf_5000_36, rf_5000_37, rf_5000_40, rf_5000_41, rf_5000_42, rf_5000_43, rf_5000_44, rf_5000_45, rf_5000_47, rf_5000_52, rf_5000_54, rf_5000_55, rf_100_0, rf_100_1, rf_103_0, rf_103_1, rf_106_0, rf_106_1, rf_109_0, rf_109_1, al_2, al_4, al_5, al_7, al_8, al_10, al_11, al_12, al_14, al_15, al_17, al_18, al_19, al_20, al_22, al_23, al_24, al_25, al_27, al_28, al_29, al_30, al_32, al_33, al_34, al_35, al_37, al_38, al_40, al_42, al_5001, al_5002, al_5003, al_5004, al_5005, al_5006, al_5007, al_5008, al_5009, al_5010, al_5011, al_5012, al_5013, al_5014, al_5015, al_5016, al_5017, al_5018, al_5019, al_5020, al_5021, al_5022, al_5023, al_5024, al_5025, al_5026, al_9000, al_101, al_102, al_104, al_105, al_107, al_108, al_110, al_111, vcs_e, lg_c0, lg_cs, lg_nil, set_c0, set_cs, okst_0, okst_s, acok_n, acok_c, List.contains_nil, List.contains_cons, Bool.or_false, Bool.false_or, Bool.false_eq_true, if_false, if_true, ite_self, ne_eq, true_and, and_true, not_false_eq_true, not_true_eq_false, false_imp_iff, true_imp_iff, Nat.ble_eq, Bool.and_eq_true, reduceCtorEq, or_false, false_or, or_true, true_or, false_and, and_false, and_self, Int.reduceLE, Int.reduceAdd, Int.reduceSub, Int.reduceMul, Int.reduceNeg, Int.reduceLT, Int.reduceEq, Int.reduceNe, Nat.reduceBEq, Nat.reduceBNe, Nat.reduceEqDiff, amCmp_in, amCmp_lt, amCmp_le, amCmp_gt, amCmp_ge, amCmp_eq, amCmp_ne, Nat.reduceLeDiff, Nat.reduceSub, Bool.and_true, Bool.true_and, Bool.and_self, Bool.or_true, Bool.true_or, isRf_3, isRf_4, isRf_5, isRf_8, isRf_9, isRf_10, isRf_11, isRf_15, isRf_16, isRf_17, isRf_18, isRf_19, isRf_20, isRf_21, isRf_22, isRf_23, isRf_24, isRf_25, isRf_26, isRf_27, isRf_28, k_X8_addSitter_0, k_X8_addSitter_1, k_X8_addSitter_2, k_X8_addSitter_3, k_X8_addSitter_6, k_X8_addSitter_7, k_X8_addSitter_9, k_X8_addSitter_12, k_X8_addSitter_13, k_X8_addSitter_14, k_X8_addSitter_15, k_X8_addSitter_18, k_X8_addSitter_19, k_X8_addSitter_22, k_X8_addSitter_23, k_X8_addSitter_24, k_X8_addSitter_27, k_X8_addSitter_28, k_X8_addSitter_29, k_X8_addSitter_30, k_X8_addSitter_33, k_X8_addSitter_34, k_X8_addSitter_35, k_X8_addSitter_36, k_X8_addSitter_37, k_X8_addSitter_38, k_X8_addSitter_41, k_X8_addSitter_42, k_X8_addSitter_43, k_X8_addSitter_44, k_X8_addSitter_47, k_X8_addSitter_48, k_X8_addSitter_49, k_X8_addSitter_50, k_X8_addSitter_51, k_X8_addSitter_52, k_X8_addSitter_53, k_X8_addSitter_54, k_X8_addSitter_57, k_X8_addSitter_60, k_X8_addSitter_63]
    have ee : ((e.toNat : Nat) : Int) = e := by omega
    exact ⟨100 * e.toNat + 99, rfl, e.toNat, σ 38, by omega, (setv_id _ _).symm, fun S S0 S1 => by omega, fun j hj => rfl, Or.inl ⟨rfl, rfl, rfl, (6, 0), by rw [ee]⟩⟩
