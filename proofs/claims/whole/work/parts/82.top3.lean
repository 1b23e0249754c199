/-! ArmchairHouse: what would be -/
theorem fstO_cong {f g : Int → Int} : ∀ {n : Nat}, (∀ i : Int, 0 ≤ i → i < n → f i = g i) → fstO f n = fstO g n := by
  intro n
  induction n with
  | zero => intro _; rfl
  | succ n ih =>
    intro h
    have e := ih (fun i a b => h i a (by omega))
    have b := fstO_b g n
    unfold fstO
    rw [e, h n (by omega) (by omega)]
    by_cases c : fstO g n = -1
    · simp only [c, true_or, and_true]
    · rw [h (fstO g n) (by omega) (by omega)]
/-- what the class needs for PLAYS -/
def xS (σ : Mem) : Prop := stOk σ 16 ∧ (∀ i, 0 ≤ i → i < 6 → InR (σ 18 i)) ∧ (∀ p, pval σ 6 1 p 3 ≤ 9) ∧ ∀ i, 0 ≤ i → i < pcnt σ 6 2 → 0 ≤ σ 18 i ∧ σ 18 i < pcnt σ 6 3

theorem wd_975 : Cond.methodLink RX11 287 yX9_playAround ∈ TBL := tb_tab (List.mem_of_getElem? (i := 975) (by decide +kernel)) rfl
theorem wd_978 : Cond.code yX9_playAround cX9_playAround 5 (none) ∈ TBL := tb_tab (List.mem_of_getElem? (i := 978) (by decide +kernel)) rfl
theorem lk_X11_287 : amLk RX11 287 yX9_playAround cX9_playAround 5 (none) 3 := ⟨wd_975, wd_7, wd_978, by decide +kernel, by decide +kernel, by decide⟩
theorem wd_976 : Cond.instanceMethod yX9_playAround ∈ TBL := tb_tab (List.mem_of_getElem? (i := 976) (by decide +kernel)) rfl
theorem wd_977 : Cond.selects RX9 yX9_playAround yX9_playAround ∈ TBL := tb_tab (List.mem_of_getElem? (i := 977) (by decide +kernel)) rfl
theorem wd_192 : Cond.fieldLink RX11 291 "ArmchairHouse$Stage" "felt" "[I" ∈ TBL := tb_tab (List.mem_of_getElem? (i := 192) (by decide +kernel)) rfl
theorem fl_X11_291 : amFl RX11 9 4 291 RX9 TX9 9 := ⟨rfl, inT_9, by decide, wd_192⟩
theorem wd_196 : Cond.fieldLink RX11 294 "ArmchairHouse$Stage" "ledOut" "[I" ∈ TBL := tb_tab (List.mem_of_getElem? (i := 196) (by decide +kernel)) rfl
theorem fl_X11_294 : amFl RX11 9 5 294 RX9 TX9 9 := ⟨rfl, inT_9, by decide, wd_196⟩
def a_X11_feels : AC := [(0, vAload 0 1), (1, vGetR TT 27 2 22 4), (4, vI 2 5), (5, vIload 1 6), (6, vCallM w_X6_has 22 2 9), (9, vIfEq 33 12), (12, vAload 0 13), (13, vGetR TT 27 2 22 16), (16, vI 1 17), (17, vIload 2 18), (18, vCallM w_X6_has 22 2 21), (21, vIfEq 33 24), (24, vIload 3 25), (25, vIfLt 33 28), (28, vIload 3 29), (29, vI 1 30), (30, vIcLe 37 33), (33, vI (-1000000) 36), (36, vIret), (37, vAload 0 38), (38, vGetR TT 27 12 25 41), (41, vAload 0 42), (42, vGetR TT 27 10 16 45), (45, vIload 1 46), (46, vIload 2 47), (47, vCallMV w_X9_playAround 25 3 50), (50, vIload 3 51), (51, vIfNe 66 54), (54, vAload 0 55), (55, vGetR TT 27 12 25 58), (58, vGetR TT 25 4 8 61), (61, vIload 1 62), (62, vIald TT 63), (63, vGoto 75), (66, vAload 0 67), (67, vGetR TT 27 12 25 70), (70, vGetR TT 25 5 8 73), (73, vIload 1 74), (74, vIald TT 75), (75, vIret)]
theorem k_X11_feels_0 : look a_X11_feels 0 = vAload 0 1 := rfl
theorem k_X11_feels_1 : look a_X11_feels 1 = vGetR TT 27 2 22 4 := rfl
theorem k_X11_feels_4 : look a_X11_feels 4 = vI 2 5 := rfl
theorem k_X11_feels_5 : look a_X11_feels 5 = vIload 1 6 := rfl
theorem k_X11_feels_6 : look a_X11_feels 6 = vCallM w_X6_has 22 2 9 := rfl
theorem k_X11_feels_9 : look a_X11_feels 9 = vIfEq 33 12 := rfl
theorem k_X11_feels_12 : look a_X11_feels 12 = vAload 0 13 := rfl
theorem k_X11_feels_13 : look a_X11_feels 13 = vGetR TT 27 2 22 16 := rfl
theorem k_X11_feels_16 : look a_X11_feels 16 = vI 1 17 := rfl
theorem k_X11_feels_17 : look a_X11_feels 17 = vIload 2 18 := rfl
theorem k_X11_feels_18 : look a_X11_feels 18 = vCallM w_X6_has 22 2 21 := rfl
theorem k_X11_feels_21 : look a_X11_feels 21 = vIfEq 33 24 := rfl
theorem k_X11_feels_24 : look a_X11_feels 24 = vIload 3 25 := rfl
theorem k_X11_feels_25 : look a_X11_feels 25 = vIfLt 33 28 := rfl
theorem k_X11_feels_28 : look a_X11_feels 28 = vIload 3 29 := rfl
theorem k_X11_feels_29 : look a_X11_feels 29 = vI 1 30 := rfl
theorem k_X11_feels_30 : look a_X11_feels 30 = vIcLe 37 33 := rfl
theorem k_X11_feels_33 : look a_X11_feels 33 = vI (-1000000) 36 := rfl
theorem k_X11_feels_36 : look a_X11_feels 36 = vIret := rfl
theorem k_X11_feels_37 : look a_X11_feels 37 = vAload 0 38 := rfl
theorem k_X11_feels_38 : look a_X11_feels 38 = vGetR TT 27 12 25 41 := rfl
theorem k_X11_feels_41 : look a_X11_feels 41 = vAload 0 42 := rfl
theorem k_X11_feels_42 : look a_X11_feels 42 = vGetR TT 27 10 16 45 := rfl
theorem k_X11_feels_45 : look a_X11_feels 45 = vIload 1 46 := rfl
theorem k_X11_feels_46 : look a_X11_feels 46 = vIload 2 47 := rfl
theorem k_X11_feels_47 : look a_X11_feels 47 = vCallMV w_X9_playAround 25 3 50 := rfl
theorem k_X11_feels_50 : look a_X11_feels 50 = vIload 3 51 := rfl
theorem k_X11_feels_51 : look a_X11_feels 51 = vIfNe 66 54 := rfl
theorem k_X11_feels_54 : look a_X11_feels 54 = vAload 0 55 := rfl
theorem k_X11_feels_55 : look a_X11_feels 55 = vGetR TT 27 12 25 58 := rfl
theorem k_X11_feels_58 : look a_X11_feels 58 = vGetR TT 25 4 8 61 := rfl
theorem k_X11_feels_61 : look a_X11_feels 61 = vIload 1 62 := rfl
theorem k_X11_feels_62 : look a_X11_feels 62 = vIald TT 63 := rfl
theorem k_X11_feels_63 : look a_X11_feels 63 = vGoto 75 := rfl
theorem k_X11_feels_66 : look a_X11_feels 66 = vAload 0 67 := rfl
theorem k_X11_feels_67 : look a_X11_feels 67 = vGetR TT 27 12 25 70 := rfl
theorem k_X11_feels_70 : look a_X11_feels 70 = vGetR TT 25 5 8 73 := rfl
theorem k_X11_feels_73 : look a_X11_feels 73 = vIload 1 74 := rfl
theorem k_X11_feels_74 : look a_X11_feels 74 = vIald TT 75 := rfl
theorem k_X11_feels_75 : look a_X11_feels 75 = vIret := rfl
theorem o_X11_feels {X : amX} (e1 : XT X = TT) (e2 : XD X = 6) (hB : amB X RX11 cX11_feels (some .int) 4) : ∀ pc, amOK X pc (look a_X11_feels pc) := by
  have hT : amTok (XT X) := e1 ▸ TT_ok
  refine look_ok ?_
  unfold a_X11_feels
  refine fc (ok_aload_n hB dX11_feels_0) ?_
  refine fc (okt_getR e1 hB hT fl_X11_23 rfl af_11_2 at_11_2 (by decide) dX11_feels_1) ?_
  refine fc (ok_iconst hB dX11_feels_4) ?_
  refine fc (ok_iload_n hB dX11_feels_5) ?_
  refine fc (ok_callM hB hT (e1 ▸ s_X6_has) lk_X11_174 (by rw [e2]; decide) (c := 6) rfl rfl rfl wd_729 wd_730 dX11_feels_6) ?_
  refine fc (ok_if_eq hB (t := 33) (by decide) dX11_feels_9) ?_
  refine fc (ok_aload_n hB dX11_feels_12) ?_
  refine fc (okt_getR e1 hB hT fl_X11_23 rfl af_11_2 at_11_2 (by decide) dX11_feels_13) ?_
  refine fc (ok_iconst hB dX11_feels_16) ?_
  refine fc (ok_iload_n hB dX11_feels_17) ?_
  refine fc (ok_callM hB hT (e1 ▸ s_X6_has) lk_X11_174 (by rw [e2]; decide) (c := 6) rfl rfl rfl wd_729 wd_730 dX11_feels_18) ?_
  refine fc (ok_if_eq hB (t := 33) (by decide) dX11_feels_21) ?_
  refine fc (ok_iload_n hB dX11_feels_24) ?_
  refine fc (ok_if_lt hB (t := 33) (by decide) dX11_feels_25) ?_
  refine fc (ok_iload_n hB dX11_feels_28) ?_
  refine fc (ok_iconst hB dX11_feels_29) ?_
  refine fc (ok_icmp_le hB (t := 37) (by decide) dX11_feels_30) ?_
  refine fc (ok_ldcw hB wd_946 rfl dX11_feels_33) ?_
  refine fc (ok_iret hB dX11_feels_36) ?_
  refine fc (ok_aload_n hB dX11_feels_37) ?_
  refine fc (okt_getR e1 hB hT fl_X11_77 rfl af_11_12 at_11_12 (by decide) dX11_feels_38) ?_
  refine fc (ok_aload_n hB dX11_feels_41) ?_
  refine fc (okt_getR e1 hB hT fl_X11_65 rfl af_11_10 at_11_10 (by decide) dX11_feels_42) ?_
  refine fc (ok_iload_n hB dX11_feels_45) ?_
  refine fc (ok_iload_n hB dX11_feels_46) ?_
  refine fc (ok_callMV hB hT (e1 ▸ s_X9_playAround) lk_X11_287 (by rw [e2]; decide) (c := 9) rfl rfl rfl wd_976 wd_977 dX11_feels_47) ?_
  refine fc (ok_iload_n hB dX11_feels_50) ?_
  refine fc (ok_if_ne hB (t := 66) (by decide) dX11_feels_51) ?_
  refine fc (ok_aload_n hB dX11_feels_54) ?_
  refine fc (okt_getR e1 hB hT fl_X11_77 rfl af_11_12 at_11_12 (by decide) dX11_feels_55) ?_
  refine fc (okt_getR e1 hB hT fl_X11_291 rfl af_9_4 at_9_4 (by decide) dX11_feels_58) ?_
  refine fc (ok_iload_n hB dX11_feels_61) ?_
  refine fc (okt_iaload e1 hB dX11_feels_62) ?_
  refine fc (ok_goto hB (t := 75) (by decide) dX11_feels_63) ?_
  refine fc (ok_aload_n hB dX11_feels_66) ?_
  refine fc (okt_getR e1 hB hT fl_X11_77 rfl af_11_12 at_11_12 (by decide) dX11_feels_67) ?_
  refine fc (okt_getR e1 hB hT fl_X11_294 rfl af_9_5 at_9_5 (by decide) dX11_feels_70) ?_
  refine fc (ok_iload_n hB dX11_feels_73) ?_
  refine fc (okt_iaload e1 hB dX11_feels_74) ?_
  refine fc (ok_iret hB dX11_feels_75) ?_
  exact fn

def w_X11_feels : WP := fun av σ Q => ∃ (c : Int) (p : Int) (w : Int), av = [(27, 0), (0, c), (0, p), (0, w)] ∧ (InR c ∧ InR p ∧ InR w ∧ xS σ ∧ (¬ (0 ≤ c ∧ c < pcnt σ 6 2 ∧ 0 ≤ p ∧ p < pcnt σ 6 1 ∧ 0 ≤ w ∧ w ≤ 1) → Q (0, -1000000) σ) ∧ (0 ≤ c ∧ c < pcnt σ 6 2 ∧ 0 ≤ p ∧ p < pcnt σ 6 1 ∧ 0 ≤ w ∧ w ≤ 1 → ∀ τ, SW σ τ → Q (0, if w = 0 then pFl σ 16 p c else pOa σ 16 p c) τ))
theorem w_X11_feels_e (c : Int) (p : Int) (w : Int) (σ : Mem) (Q : AV → Mem → Prop) : w_X11_feels [(27, 0), (0, c), (0, p), (0, w)] σ Q = (InR c ∧ InR p ∧ InR w ∧ xS σ ∧ (¬ (0 ≤ c ∧ c < pcnt σ 6 2 ∧ 0 ≤ p ∧ p < pcnt σ 6 1 ∧ 0 ≤ w ∧ w ≤ 1) → Q (0, -1000000) σ) ∧ (0 ≤ c ∧ c < pcnt σ 6 2 ∧ 0 ≤ p ∧ p < pcnt σ 6 1 ∧ 0 ≤ w ∧ w ≤ 1 → ∀ τ, SW σ τ → Q (0, if w = 0 then pFl σ 16 p c else pOa σ 16 p c) τ)) := by
  apply propext; constructor
  · rintro ⟨c', p', w', h9, hb9⟩; cases h9; exact hb9
  · intro hb9; exact ⟨c, p, w, rfl, hb9⟩

set_option maxRecDepth 100000 in
set_option maxHeartbeats 4000000 in
theorem s_X11_feels : ∀ av σ Q, w_X11_feels av σ Q → amCall 6 0 0 TT yX11_feels cX11_feels 4 (some .int) av σ Q := by
  rintro av σ Q ⟨c, p, w, rfl, hc, hp, hw, ⟨hst, hse, h9, hsi⟩, h1, h2⟩
  have hB := hst.2.1
  have c1 := pcnt_b hB 1
  have c2 := pcnt_b hB 2
  have e1 : (16 : Int) + 2 = 18 := rfl
  have h9p := h9 p
  refine am_m0 (own := RX11) (A := look a_X11_feels) (fun X e1 e2 hB => o_X11_feels e1 e2 hB) rfl (by decide +kernel) rfl rfl 190 (w := 4) ?_
  change vcs _ _ _ _ 190 0 [(27, 0), (0, c), (0, p), (0, w)] [] σ
  simp only [↓reduceIte, inR_0, inR_1, inR_m, vSw2_e, swP_n, swP_c, vI_e, vL_e, vNull_e, vIload_e, vLload_e, vAload_e, vIstore_e, vLstore_e, vAstore_e, vIinc_e, vIadd_e, vIsub_e, vImul_e, vIand_e, vIor_e, vIxor_e, vIshl_e, vIshr_e, vIushr_e, vIdiv_e, vIrem_e, vLadd_e, vLsub_e, vLmul_e, vLand_e, vLor_e, vLxor_e, vLdiv_e, vLrem_e, vLushr_e, vLshl_e, vLcmp_e, vIneg_e, vI2l_e, vL2i_e, vI2b_e, vI2c_e, vDup_e, vPop_e, vDup2_e, vGoto_e, vIcEq_e, vIfEq_e, vIcNe_e, vIfNe_e, vIcLt_e, vIfLt_e, vIcGe_e, vIfGe_e, vIcGt_e, vIfGt_e, vIcLe_e, vIfLe_e, vNonnull_e, vSw_e, vGetI_e, vGetL_e, vGetR_e, vPutI_e, vPutZ_e, vPutL_e, vPutR_e, vIald_e, vIald_s, vLald_e, vBald_e, vBald_s, vAald_e, vIast_e, vLast_e, vBast_e, vAast_e, vAlen_e8, vAlen_e9, vAlen_e10, vAlen_e11, vAlen_e5, vAlen_e3, vGets_e, vCompact_e, vLdcS_e, vIret_e, vZret_e, vCret_e, vBret_e, vLret_e, vVret_e, vAret_e, vCallM_e0, vCallMV_e0, vCallS_e0, vCallSV_e0, vCallM_e1, vCallMV_e1, vCallS_e1, vCallSV_e1, vCallM_e2, vCallMV_e2, vCallS_e2, vCallSV_e2, vCallM_e3, vCallMV_e3, vCallS_e3, vCallSV_e3, vCallM_e4, vCallMV_e4, vCallS_e4, vCallSV_e4, vCallM_e5, vCallMV_e5, vCallS_e5, vCallSV_e5, vCallM_e6, vCallMV_e6, vCallS_e6, vCallSV_e6, vCallM_e7, vCallMV_e7, vCallS_e7, vCallSV_e7, vBad_e, vStrVal_e, vStrCod_e, vForm_e, vCallT_e0, vCallT_e1, vCallT_e2, vCopy_e, rf_0_0, rf_0_1, rf_0_2, rf_0_3, rf_0_4, rf_0_7, rf_0_10, rf_0_11, rf_0_12, rf_0_13, rf_0_14, rf_0_15, rf_0_16, rf_1_0, rf_3_0, rf_3_1, rf_6_0, rf_6_1, rf_9_0, rf_9_1, rf_9_3, rf_13_0, rf_13_1, rf_13_2, rf_16_0, rf_16_1, rf_16_2, rf_16_3, rf_21_0, rf_21_1, rf_21_2, rf_21_3, rf_26_0, rf_26_1, rf_26_2, rf_26_3, rf_26_4, rf_26_5, rf_26_6, rf_31_0, rf_31_2, rf_31_5, rf_31_6, rf_36_0, rf_36_1, rf_36_2, rf_36_3, rf_39_0, rf_39_1, rf_39_2, rf_41_0, rf_41_1, rf_41_2, rf_41_3, rf_5000_1, rf_5000_2, rf_5000_3, rf_5000_4, rf_5000_5, rf_5000_15, rf_5000_16, rf_5000_18, rf_5000_19, rf_5000_20, rf_5000_21, rf_5000_22, rf_5000_23, rf_5000_24, rf_5000_25, rf_5000_26, rf_5000_27, rf_5000_36, rf_5000_37, rf_5000_40, rf_5000_41, rf_5000_42, rf_5000_43, rf_5000_44, rf_5000_45, rf_5000_47, rf_5000_52, rf_5000_54, rf_5000_55, rf_100_0, rf_100_1, rf_103_0, rf_103_1, rf_106_0, rf_106_1, rf_109_0, rf_109_1, al_2, al_4, al_5, al_7, al_8, al_10, al_11, al_12, al_14, al_15, al_17, al_18, al_19, al_20, al_22, al_23, al_24, al_25, al_27, al_28, al_29, al_30, al_32, al_33, al_34, al_35, al_37, al_38, al_40, al_42, al_5001, al_5002, al_5003, al_5004, al_5005, al_5006, al_5007, al_5008, al_5009, al_5010, al_5011, al_5012, al_5013, al_5014, al_5015, al_5016, al_5017, al_5018, al_5019, al_5020, al_5021, al_5022, al_5023, al_5024, al_5025, al_5026, al_9000, al_101, al_102, al_104, al_105, al_107, al_108, al_110, al_111, vcs_e, lg_c0, lg_cs, lg_nil, set_c0, set_cs, okst_0, okst_s, acok_n, acok_c, List.contains_nil, List.contains_cons, Bool.or_false, Bool.false_or, Bool.false_eq_true, if_false, if_true, ite_self, ne_eq, true_and, and_true, not_false_eq_true, not_true_eq_false, false_imp_iff, true_imp_iff, Nat.ble_eq, Bool.and_eq_true, reduceCtorEq, or_false, false_or, or_true, true_or, false_and, and_false, and_self, Int.reduceLE, Int.reduceAdd, Int.reduceSub, Int.reduceMul, Int.reduceNeg, Int.reduceLT, Int.reduceEq, Int.reduceNe, Nat.reduceBEq, Nat.reduceBNe, Nat.reduceEqDiff, amCmp_in, amCmp_lt, amCmp_le, amCmp_gt, amCmp_ge, amCmp_eq, amCmp_ne, Nat.reduceLeDiff, Nat.reduceSub, Bool.and_true, Bool.true_and, Bool.and_self, Bool.or_true, Bool.true_or, isRf_3, isRf_4, isRf_5, isRf_8, isRf_9, isRf_10, isRf_11, isRf_15, isRf_16, isRf_17, isRf_18, isRf_19, isRf_20, isRf_21, isRf_22, isRf_23, isRf_24, isRf_25, isRf_26, isRf_27, isRf_28, k_X11_feels_0, k_X11_feels_1, k_X11_feels_4, k_X11_feels_5, k_X11_feels_6, k_X11_feels_9, k_X11_feels_12, k_X11_feels_13, k_X11_feels_16, k_X11_feels_17, k_X11_feels_18, k_X11_feels_21, k_X11_feels_24, k_X11_feels_25, k_X11_feels_28, k_X11_feels_29, k_X11_feels_30, k_X11_feels_33, k_X11_feels_36, k_X11_feels_37, k_X11_feels_38, k_X11_feels_41, k_X11_feels_42, k_X11_feels_45, k_X11_feels_46, k_X11_feels_47, k_X11_feels_50, k_X11_feels_51, k_X11_feels_54, k_X11_feels_55, k_X11_feels_58, k_X11_feels_61, k_X11_feels_62, k_X11_feels_63, k_X11_feels_66, k_X11_feels_67, k_X11_feels_70, k_X11_feels_73, k_X11_feels_74, k_X11_feels_75, w_X6_has_e, w_X9_playAround_e, up_s, up_nj, up_na, up_up, savR_o, cpy_o, fillm_o, setAud_o, setv_o, setv_s, Int.reduceNe, Int.reduceEq, Int.reduceLT, Int.reduceAdd, not_false_eq_true, ne_eq, or_true, true_or, e1]
  by_cases d : 0 ≤ c ∧ c < pcnt σ 6 2
  · rw [if_pos d]
    by_cases d2 : 0 ≤ p ∧ p < pcnt σ 6 1
    · rw [if_pos d2]
      by_cases d3 : w = 0
      · subst d3
        have hh := fun τ (q1 : SF σ τ) (q2 : τ 29 c = pFl σ 16 p c) => (Qe (h2 (by omega) τ (SF_SW q1)) (show (if (0 : Int) = 0 then pFl σ 16 p c else pOa σ 16 p c) = τ 29 c by rw [if_pos rfl, q2]))
        repeat' (first | assumption | apply And.intro | intro _)
        all_goals first | omega | exact absurd trivial (by assumption) | exact isP6 | exact h1 (by omega) | exact hh _ (by assumption) (by assumption)
      · have hh := fun (q0 : w = 1) τ (q1 : SF σ τ) (q2 : τ 30 c = pOa σ 16 p c) => (Qe (h2 (by omega) τ (SF_SW q1)) (show (if w = 0 then pFl σ 16 p c else pOa σ 16 p c) = τ 30 c by rw [if_neg d3, q2]))
        repeat' (first | assumption | apply And.intro | intro _)
        all_goals first | omega | exact absurd trivial (by assumption) | exact isP6 | exact h1 (by omega) | exact hh (by omega) _ (by assumption) (by assumption)
    · rw [if_neg d2]
      repeat' (first | assumption | apply And.intro | intro _)
      all_goals first | omega | exact absurd trivial (by assumption) | exact isP6 | exact h1 (by omega)
  · rw [if_neg d]
    repeat' (first | assumption | apply And.intro | intro _)
    all_goals first | omega | exact absurd trivial (by assumption) | exact isP6 | exact h1 (by omega)
theorem wd_983 : Cond.methodLink RX11 297 yX9_playAll ∈ TBL := tb_tab (List.mem_of_getElem? (i := 983) (by decide +kernel)) rfl
theorem lk_X11_297 : amLk RX11 297 yX9_playAll cX9_playAll 4 (none) 2 := ⟨wd_983, wd_7, wd_778, by decide +kernel, by decide +kernel, by decide⟩
theorem wd_984 : Cond.methodLink RX11 301 yX9_firstOut ∈ TBL := tb_tab (List.mem_of_getElem? (i := 984) (by decide +kernel)) rfl
theorem wd_987 : Cond.code yX9_firstOut cX9_firstOut 3 (some .int) ∈ TBL := tb_tab (List.mem_of_getElem? (i := 987) (by decide +kernel)) rfl
theorem lk_X11_301 : amLk RX11 301 yX9_firstOut cX9_firstOut 3 (some .int) 0 := ⟨wd_984, wd_7, wd_987, by decide +kernel, by decide +kernel, by decide⟩
theorem wd_985 : Cond.instanceMethod yX9_firstOut ∈ TBL := tb_tab (List.mem_of_getElem? (i := 985) (by decide +kernel)) rfl
theorem wd_986 : Cond.selects RX9 yX9_firstOut yX9_firstOut ∈ TBL := tb_tab (List.mem_of_getElem? (i := 986) (by decide +kernel)) rfl
def a_X11_first : AC := [(0, vAload 0 1), (1, vGetR TT 27 2 22 4), (4, vI 1 5), (5, vIload 1 6), (6, vCallM w_X6_has 22 2 9), (9, vIfNe 14 12), (12, vI (-1) 13), (13, vIret), (14, vAload 0 15), (15, vGetR TT 27 12 25 18), (18, vAload 0 19), (19, vGetR TT 27 10 16 22), (22, vIload 1 23), (23, vCallMV w_X9_playAll 25 2 26), (26, vAload 0 27), (27, vGetR TT 27 12 25 30), (30, vCallM w_X9_firstOut 25 0 33), (33, vIret)]
theorem k_X11_first_0 : look a_X11_first 0 = vAload 0 1 := rfl
theorem k_X11_first_1 : look a_X11_first 1 = vGetR TT 27 2 22 4 := rfl
theorem k_X11_first_4 : look a_X11_first 4 = vI 1 5 := rfl
theorem k_X11_first_5 : look a_X11_first 5 = vIload 1 6 := rfl
theorem k_X11_first_6 : look a_X11_first 6 = vCallM w_X6_has 22 2 9 := rfl
theorem k_X11_first_9 : look a_X11_first 9 = vIfNe 14 12 := rfl
theorem k_X11_first_12 : look a_X11_first 12 = vI (-1) 13 := rfl
theorem k_X11_first_13 : look a_X11_first 13 = vIret := rfl
theorem k_X11_first_14 : look a_X11_first 14 = vAload 0 15 := rfl
theorem k_X11_first_15 : look a_X11_first 15 = vGetR TT 27 12 25 18 := rfl
theorem k_X11_first_18 : look a_X11_first 18 = vAload 0 19 := rfl
theorem k_X11_first_19 : look a_X11_first 19 = vGetR TT 27 10 16 22 := rfl
theorem k_X11_first_22 : look a_X11_first 22 = vIload 1 23 := rfl
theorem k_X11_first_23 : look a_X11_first 23 = vCallMV w_X9_playAll 25 2 26 := rfl
theorem k_X11_first_26 : look a_X11_first 26 = vAload 0 27 := rfl
theorem k_X11_first_27 : look a_X11_first 27 = vGetR TT 27 12 25 30 := rfl
theorem k_X11_first_30 : look a_X11_first 30 = vCallM w_X9_firstOut 25 0 33 := rfl
theorem k_X11_first_33 : look a_X11_first 33 = vIret := rfl
theorem o_X11_first {X : amX} (e1 : XT X = TT) (e2 : XD X = 6) (hB : amB X RX11 cX11_first (some .int) 2) : ∀ pc, amOK X pc (look a_X11_first pc) := by
  have hT : amTok (XT X) := e1 ▸ TT_ok
  refine look_ok ?_
  unfold a_X11_first
  refine fc (ok_aload_n hB dX11_first_0) ?_
  refine fc (okt_getR e1 hB hT fl_X11_23 rfl af_11_2 at_11_2 (by decide) dX11_first_1) ?_
  refine fc (ok_iconst hB dX11_first_4) ?_
  refine fc (ok_iload_n hB dX11_first_5) ?_
  refine fc (ok_callM hB hT (e1 ▸ s_X6_has) lk_X11_174 (by rw [e2]; decide) (c := 6) rfl rfl rfl wd_729 wd_730 dX11_first_6) ?_
  refine fc (ok_if_ne hB (t := 14) (by decide) dX11_first_9) ?_
  refine fc (ok_iconst hB dX11_first_12) ?_
  refine fc (ok_iret hB dX11_first_13) ?_
  refine fc (ok_aload_n hB dX11_first_14) ?_
  refine fc (okt_getR e1 hB hT fl_X11_77 rfl af_11_12 at_11_12 (by decide) dX11_first_15) ?_
  refine fc (ok_aload_n hB dX11_first_18) ?_
  refine fc (okt_getR e1 hB hT fl_X11_65 rfl af_11_10 at_11_10 (by decide) dX11_first_19) ?_
  refine fc (ok_iload_n hB dX11_first_22) ?_
  refine fc (ok_callMV hB hT (e1 ▸ s_X9_playAll) lk_X11_297 (by rw [e2]; decide) (c := 9) rfl rfl rfl wd_776 wd_777 dX11_first_23) ?_
  refine fc (ok_aload_n hB dX11_first_26) ?_
  refine fc (okt_getR e1 hB hT fl_X11_77 rfl af_11_12 at_11_12 (by decide) dX11_first_27) ?_
  refine fc (ok_callM hB hT (e1 ▸ s_X9_firstOut) lk_X11_301 (by rw [e2]; decide) (c := 9) rfl rfl rfl wd_985 wd_986 dX11_first_30) ?_
  refine fc (ok_iret hB dX11_first_33) ?_
  exact fn

def w_X11_first : WP := fun av σ Q => ∃ (p : Int), av = [(27, 0), (0, p)] ∧ (InR p ∧ xS σ ∧ (¬ (0 ≤ p ∧ p < pcnt σ 6 1) → Q (0, -1) σ) ∧ (0 ≤ p ∧ p < pcnt σ 6 1 → ∀ τ, SW σ τ → Q (0, fstO (pOa σ 16 p) (pcnt σ 6 2).toNat) τ))
theorem w_X11_first_e (p : Int) (σ : Mem) (Q : AV → Mem → Prop) : w_X11_first [(27, 0), (0, p)] σ Q = (InR p ∧ xS σ ∧ (¬ (0 ≤ p ∧ p < pcnt σ 6 1) → Q (0, -1) σ) ∧ (0 ≤ p ∧ p < pcnt σ 6 1 → ∀ τ, SW σ τ → Q (0, fstO (pOa σ 16 p) (pcnt σ 6 2).toNat) τ)) := by
  apply propext; constructor
  · rintro ⟨p', h9, hb9⟩; cases h9; exact hb9
  · intro hb9; exact ⟨p, rfl, hb9⟩

set_option maxRecDepth 100000 in
set_option maxHeartbeats 4000000 in
theorem s_X11_first : ∀ av σ Q, w_X11_first av σ Q → amCall 6 0 0 TT yX11_first cX11_first 2 (some .int) av σ Q := by
  rintro av σ Q ⟨p, rfl, hp, ⟨hst, hse, h9, hsi⟩, h1, h2⟩
  have hB := hst.2.1
  have c1 := pcnt_b hB 1
  have c2 := pcnt_b hB 2
  have e1 : (16 : Int) + 2 = 18 := rfl
  have h9p := h9 p
  refine am_m0 (own := RX11) (A := look a_X11_first) (fun X e1 e2 hB => o_X11_first e1 e2 hB) rfl (by decide +kernel) rfl rfl 190 (w := 2) ?_
  change vcs _ _ _ _ 190 0 [(27, 0), (0, p)] [] σ
  simp only [↓reduceIte, inR_0, inR_1, inR_m, vSw2_e, swP_n, swP_c, vI_e, vL_e, vNull_e, vIload_e, vLload_e, vAload_e, vIstore_e, vLstore_e, vAstore_e, vIinc_e, vIadd_e, vIsub_e, vImul_e, vIand_e, vIor_e, vIxor_e, vIshl_e, vIshr_e, vIushr_e, vIdiv_e, vIrem_e, vLadd_e, vLsub_e, vLmul_e, vLand_e, vLor_e, vLxor_e, vLdiv_e, vLrem_e, vLushr_e, vLshl_e, vLcmp_e, vIneg_e, vI2l_e, vL2i_e, vI2b_e, vI2c_e, vDup_e, vPop_e, vDup2_e, vGoto_e, vIcEq_e, vIfEq_e, vIcNe_e, vIfNe_e, vIcLt_e, vIfLt_e, vIcGe_e, vIfGe_e, vIcGt_e, vIfGt_e, vIcLe_e, vIfLe_e, vNonnull_e, vSw_e, vGetI_e, vGetL_e, vGetR_e, vPutI_e, vPutZ_e, vPutL_e, vPutR_e, vIald_e, vIald_s, vLald_e, vBald_e, vBald_s, vAald_e, vIast_e, vLast_e, vBast_e, vAast_e, vAlen_e8, vAlen_e9, vAlen_e10, vAlen_e11, vAlen_e5, vAlen_e3, vGets_e, vCompact_e, vLdcS_e, vIret_e, vZret_e, vCret_e, vBret_e, vLret_e, vVret_e, vAret_e, vCallM_e0, vCallMV_e0, vCallS_e0, vCallSV_e0, vCallM_e1, vCallMV_e1, vCallS_e1, vCallSV_e1, vCallM_e2, vCallMV_e2, vCallS_e2, vCallSV_e2, vCallM_e3, vCallMV_e3, vCallS_e3, vCallSV_e3, vCallM_e4, vCallMV_e4, vCallS_e4, vCallSV_e4, vCallM_e5, vCallMV_e5, vCallS_e5, vCallSV_e5, vCallM_e6, vCallMV_e6, vCallS_e6, vCallSV_e6, vCallM_e7, vCallMV_e7, vCallS_e7, vCallSV_e7, vBad_e, vStrVal_e, vStrCod_e, vForm_e, vCallT_e0, vCallT_e1, vCallT_e2, vCopy_e, rf_0_0, rf_0_1, rf_0_2, rf_0_3, rf_0_4, rf_0_7, rf_0_10, rf_0_11, rf_0_12, rf_0_13, rf_0_14, rf_0_15, rf_0_16, rf_1_0, rf_3_0, rf_3_1, rf_6_0, rf_6_1, rf_9_0, rf_9_1, rf_9_3, rf_13_0, rf_13_1, rf_13_2, rf_16_0, rf_16_1, rf_16_2, rf_16_3, rf_21_0, rf_21_1, rf_21_2, rf_21_3, rf_26_0, rf_26_1, rf_26_2, rf_26_3, rf_26_4, rf_26_5, rf_26_6, rf_31_0, rf_31_2, rf_31_5, rf_31_6, rf_36_0, rf_36_1, rf_36_2, rf_36_3, rf_39_0, rf_39_1, rf_39_2, rf_41_0, rf_41_1, rf_41_2, rf_41_3, rf_5000_1, rf_5000_2, rf_5000_3, rf_5000_4, rf_5000_5, rf_5000_15, rf_5000_16, rf_5000_18, rf_5000_19, rf_5000_20, rf_5000_21, rf_5000_22, rf_5000_23, rf_5000_24, rf_5000_25, rf_5000_26, rf_5000_27, rf_5000_36, rf_5000_37, rf_5000_40, rf_5000_41, rf_5000_42, rf_5000_43, rf_5000_44, rf_5000_45, rf_5000_47, rf_5000_52, rf_5000_54, rf_5000_55, rf_100_0, rf_100_1, rf_103_0, rf_103_1, rf_106_0, rf_106_1, rf_109_0, rf_109_1, al_2, al_4, al_5, al_7, al_8, al_10, al_11, al_12, al_14, al_15, al_17, al_18, al_19, al_20, al_22, al_23, al_24, al_25, al_27, al_28, al_29, al_30, al_32, al_33, al_34, al_35, al_37, al_38, al_40, al_42, al_5001, al_5002, al_5003, al_5004, al_5005, al_5006, al_5007, al_5008, al_5009, al_5010, al_5011, al_5012, al_5013, al_5014, al_5015, al_5016, al_5017, al_5018, al_5019, al_5020, al_5021, al_5022, al_5023, al_5024, al_5025, al_5026, al_9000, al_101, al_102, al_104, al_105, al_107, al_108, al_110, al_111, vcs_e, lg_c0, lg_cs, lg_nil, set_c0, set_cs, okst_0, okst_s, acok_n, acok_c, List.contains_nil, List.contains_cons, Bool.or_false, Bool.false_or, Bool.false_eq_true, if_false, if_true, ite_self, ne_eq, true_and, and_true, not_false_eq_true, not_true_eq_false, false_imp_iff, true_imp_iff, Nat.ble_eq, Bool.and_eq_true, reduceCtorEq, or_false, false_or, or_true, true_or, false_and, and_false, and_self, Int.reduceLE, Int.reduceAdd, Int.reduceSub, Int.reduceMul, Int.reduceNeg, Int.reduceLT, Int.reduceEq, Int.reduceNe, Nat.reduceBEq, Nat.reduceBNe, Nat.reduceEqDiff, amCmp_in, amCmp_lt, amCmp_le, amCmp_gt, amCmp_ge, amCmp_eq, amCmp_ne, Nat.reduceLeDiff, Nat.reduceSub, Bool.and_true, Bool.true_and, Bool.and_self, Bool.or_true, Bool.true_or, isRf_3, isRf_4, isRf_5, isRf_8, isRf_9, isRf_10, isRf_11, isRf_15, isRf_16, isRf_17, isRf_18, isRf_19, isRf_20, isRf_21, isRf_22, isRf_23, isRf_24, isRf_25, isRf_26, isRf_27, isRf_28, k_X11_first_0, k_X11_first_1, k_X11_first_4, k_X11_first_5, k_X11_first_6, k_X11_first_9, k_X11_first_12, k_X11_first_13, k_X11_first_14, k_X11_first_15, k_X11_first_18, k_X11_first_19, k_X11_first_22, k_X11_first_23, k_X11_first_26, k_X11_first_27, k_X11_first_30, k_X11_first_33, w_X6_has_e, w_X9_firstOut_e, w_X9_playAll_e, up_s, up_nj, up_na, up_up, savR_o, cpy_o, fillm_o, setAud_o, setv_o, setv_s, Int.reduceNe, Int.reduceEq, Int.reduceLT, Int.reduceAdd, not_false_eq_true, ne_eq, or_true, true_or, e1]
  by_cases d : 0 ≤ p ∧ p < pcnt σ 6 1
  · rw [if_pos d]
    have hh := fun τ (q1 : SF σ τ) (q2 : ∀ i, 0 ≤ i → i < 6 → τ 30 i = if i < pcnt σ 6 2 ∧ 0 ≤ σ 18 i ∧ σ 18 i < pcnt σ 6 3 then pOa σ 16 p i else σ 30 i) => show (0 ≤ pcnt τ 6 2 ∧ pcnt τ 6 2 ≤ 6) ∧ (∀ i, 0 ≤ i → i < pcnt τ 6 2 → InR (τ 30 i)) ∧ Q (0, fstO (τ 30) (pcnt τ 6 2).toNat) τ by
      rw [SF_pcnt q1]
      have q3 : ∀ i, 0 ≤ i → i < pcnt σ 6 2 → τ 30 i = pOa σ 16 p i := fun i i0 i1 => by rw [q2 i i0 (by omega), if_pos ⟨i1, hsi i i0 i1⟩]
      refine ⟨c2, fun i i0 i1 => ?_, ?_⟩
      · rw [q3 i i0 i1]; have := pOa_b (a := 16) (i := i) hB h9p; exact ⟨by omega, by omega⟩
      · rw [fstO_cong (f := τ 30) (g := pOa σ 16 p) (fun i i0 i1 => q3 i i0 (by omega))]
        exact h2 d τ (SF_SW q1)
    repeat' (first | assumption | apply And.intro | intro _)
    all_goals first | omega | exact absurd trivial (by assumption) | exact isP6 | exact (hh _ (by assumption) (by assumption)).1.1 | exact (hh _ (by assumption) (by assumption)).1.2 | exact ((hh _ (by assumption) (by assumption)).2.1 _ (by assumption) (by assumption)).1 | exact ((hh _ (by assumption) (by assumption)).2.1 _ (by assumption) (by assumption)).2 | exact (hh _ (by assumption) (by assumption)).2.2
  · rw [if_neg d]
    repeat' (first | assumption | apply And.intro | intro _)
    all_goals first | omega | exact absurd trivial (by assumption) | exact isP6 | exact h1 (by omega)
theorem wd_329 : Cond.fieldLink RX11 109 "ArmchairHouse" "clues" "LArmchairHouse$Clues;" ∈ TBL := tb_tab (List.mem_of_getElem? (i := 329) (by decide +kernel)) rfl
theorem fl_X11_109 : amFl RX11 11 16 109 RX11 TX11 17 := ⟨rfl, inT_11, by decide, wd_329⟩
theorem wd_1045 : Cond.methodLink RX11 317 yX1_keep ∈ TBL := tb_tab (List.mem_of_getElem? (i := 1045) (by decide +kernel)) rfl
theorem wd_1048 : Cond.code yX1_keep cX1_keep 7 (some .int) ∈ TBL := tb_tab (List.mem_of_getElem? (i := 1048) (by decide +kernel)) rfl
theorem lk_X11_317 : amLk RX11 317 yX1_keep cX1_keep 7 (some .int) 5 := ⟨wd_1045, wd_11, wd_1048, by decide +kernel, by decide +kernel, by decide⟩
theorem wd_1046 : Cond.instanceMethod yX1_keep ∈ TBL := tb_tab (List.mem_of_getElem? (i := 1046) (by decide +kernel)) rfl
theorem wd_1047 : Cond.selects RX1 yX1_keep yX1_keep ∈ TBL := tb_tab (List.mem_of_getElem? (i := 1047) (by decide +kernel)) rfl
def a_X11_howled : AC := [(0, vAload 0 1), (1, vGetR TT 27 2 22 4), (4, vI 2 5), (5, vIload 1 6), (6, vCallM w_X6_has 22 2 9), (9, vIfEq 46 12), (12, vAload 0 13), (13, vGetR TT 27 2 22 16), (16, vI 1 17), (17, vIload 2 18), (18, vCallM w_X6_has 22 2 21), (21, vIfEq 46 24), (24, vIload 3 25), (25, vIfLt 46 28), (28, vIload 3 29), (29, vI 9 31), (31, vIcGe 46 34), (34, vIload 4 36), (36, vIfLt 46 39), (39, vIload 4 41), (41, vI 99 43), (43, vIcLe 48 46), (46, vI (-1) 47), (47, vIret), (48, vAload 0 49), (49, vGetR TT 27 16 17 52), (52, vIload 1 53), (53, vIload 2 54), (54, vIload 3 55), (55, vIload 4 57), (57, vIload 5 59), (59, vCallM w_X1_keep 17 5 62), (62, vIret)]
theorem k_X11_howled_0 : look a_X11_howled 0 = vAload 0 1 := rfl
theorem k_X11_howled_1 : look a_X11_howled 1 = vGetR TT 27 2 22 4 := rfl
theorem k_X11_howled_4 : look a_X11_howled 4 = vI 2 5 := rfl
theorem k_X11_howled_5 : look a_X11_howled 5 = vIload 1 6 := rfl
theorem k_X11_howled_6 : look a_X11_howled 6 = vCallM w_X6_has 22 2 9 := rfl
theorem k_X11_howled_9 : look a_X11_howled 9 = vIfEq 46 12 := rfl
theorem k_X11_howled_12 : look a_X11_howled 12 = vAload 0 13 := rfl
theorem k_X11_howled_13 : look a_X11_howled 13 = vGetR TT 27 2 22 16 := rfl
theorem k_X11_howled_16 : look a_X11_howled 16 = vI 1 17 := rfl
theorem k_X11_howled_17 : look a_X11_howled 17 = vIload 2 18 := rfl
theorem k_X11_howled_18 : look a_X11_howled 18 = vCallM w_X6_has 22 2 21 := rfl
theorem k_X11_howled_21 : look a_X11_howled 21 = vIfEq 46 24 := rfl
theorem k_X11_howled_24 : look a_X11_howled 24 = vIload 3 25 := rfl
theorem k_X11_howled_25 : look a_X11_howled 25 = vIfLt 46 28 := rfl
theorem k_X11_howled_28 : look a_X11_howled 28 = vIload 3 29 := rfl
theorem k_X11_howled_29 : look a_X11_howled 29 = vI 9 31 := rfl
theorem k_X11_howled_31 : look a_X11_howled 31 = vIcGe 46 34 := rfl
theorem k_X11_howled_34 : look a_X11_howled 34 = vIload 4 36 := rfl
theorem k_X11_howled_36 : look a_X11_howled 36 = vIfLt 46 39 := rfl
theorem k_X11_howled_39 : look a_X11_howled 39 = vIload 4 41 := rfl
theorem k_X11_howled_41 : look a_X11_howled 41 = vI 99 43 := rfl
theorem k_X11_howled_43 : look a_X11_howled 43 = vIcLe 48 46 := rfl
theorem k_X11_howled_46 : look a_X11_howled 46 = vI (-1) 47 := rfl
theorem k_X11_howled_47 : look a_X11_howled 47 = vIret := rfl
theorem k_X11_howled_48 : look a_X11_howled 48 = vAload 0 49 := rfl
theorem k_X11_howled_49 : look a_X11_howled 49 = vGetR TT 27 16 17 52 := rfl
theorem k_X11_howled_52 : look a_X11_howled 52 = vIload 1 53 := rfl
theorem k_X11_howled_53 : look a_X11_howled 53 = vIload 2 54 := rfl
theorem k_X11_howled_54 : look a_X11_howled 54 = vIload 3 55 := rfl
theorem k_X11_howled_55 : look a_X11_howled 55 = vIload 4 57 := rfl
theorem k_X11_howled_57 : look a_X11_howled 57 = vIload 5 59 := rfl
theorem k_X11_howled_59 : look a_X11_howled 59 = vCallM w_X1_keep 17 5 62 := rfl
theorem k_X11_howled_62 : look a_X11_howled 62 = vIret := rfl
theorem o_X11_howled {X : amX} (e1 : XT X = TT) (e2 : XD X = 3) (hB : amB X RX11 cX11_howled (some .int) 6) : ∀ pc, amOK X pc (look a_X11_howled pc) := by
  have hT : amTok (XT X) := e1 ▸ TT_ok
  refine look_ok ?_
  unfold a_X11_howled
  refine fc (ok_aload_n hB dX11_howled_0) ?_
  refine fc (okt_getR e1 hB hT fl_X11_23 rfl af_11_2 at_11_2 (by decide) dX11_howled_1) ?_
  refine fc (ok_iconst hB dX11_howled_4) ?_
  refine fc (ok_iload_n hB dX11_howled_5) ?_
  refine fc (ok_callM hB hT (e1 ▸ s_X6_has) lk_X11_174 (by rw [e2]; decide) (c := 6) rfl rfl rfl wd_729 wd_730 dX11_howled_6) ?_
  refine fc (ok_if_eq hB (t := 46) (by decide) dX11_howled_9) ?_
  refine fc (ok_aload_n hB dX11_howled_12) ?_
  refine fc (okt_getR e1 hB hT fl_X11_23 rfl af_11_2 at_11_2 (by decide) dX11_howled_13) ?_
  refine fc (ok_iconst hB dX11_howled_16) ?_
  refine fc (ok_iload_n hB dX11_howled_17) ?_
  refine fc (ok_callM hB hT (e1 ▸ s_X6_has) lk_X11_174 (by rw [e2]; decide) (c := 6) rfl rfl rfl wd_729 wd_730 dX11_howled_18) ?_
  refine fc (ok_if_eq hB (t := 46) (by decide) dX11_howled_21) ?_
  refine fc (ok_iload_n hB dX11_howled_24) ?_
  refine fc (ok_if_lt hB (t := 46) (by decide) dX11_howled_25) ?_
  refine fc (ok_iload_n hB dX11_howled_28) ?_
  refine fc (ok_bipush hB dX11_howled_29 (by decide)) ?_
  refine fc (ok_icmp_ge hB (t := 46) (by decide) dX11_howled_31) ?_
  refine fc (ok_iload hB dX11_howled_34) ?_
  refine fc (ok_if_lt hB (t := 46) (by decide) dX11_howled_36) ?_
  refine fc (ok_iload hB dX11_howled_39) ?_
  refine fc (ok_bipush hB dX11_howled_41 (by decide)) ?_
  refine fc (ok_icmp_le hB (t := 48) (by decide) dX11_howled_43) ?_
  refine fc (ok_iconst hB dX11_howled_46) ?_
  refine fc (ok_iret hB dX11_howled_47) ?_
  refine fc (ok_aload_n hB dX11_howled_48) ?_
  refine fc (okt_getR e1 hB hT fl_X11_109 rfl af_11_16 at_11_16 (by decide) dX11_howled_49) ?_
  refine fc (ok_iload_n hB dX11_howled_52) ?_
  refine fc (ok_iload_n hB dX11_howled_53) ?_
  refine fc (ok_iload_n hB dX11_howled_54) ?_
  refine fc (ok_iload hB dX11_howled_55) ?_
  refine fc (ok_iload hB dX11_howled_57) ?_
  refine fc (ok_callM hB hT (e1 ▸ s_X1_keep) lk_X11_317 (by rw [e2]; decide) (c := 1) rfl rfl rfl wd_1046 wd_1047 dX11_howled_59) ?_
  refine fc (ok_iret hB dX11_howled_62) ?_
  exact fn

def w_X11_howled : WP := fun av σ Q => ∃ (c : Int) (p : Int) (k : Int) (v : Int) (u : Int), av = [(27, 0), (0, c), (0, p), (0, k), (0, v), (0, u)] ∧ (InR c ∧ InR p ∧ InR k ∧ InR v ∧ (u = 0 ∨ u = 1) ∧ planB σ 6 ∧ 0 ≤ σ 41 4 ∧ σ 41 4 ≤ 10 ∧ (¬ (0 ≤ c ∧ c < pcnt σ 6 2 ∧ 0 ≤ p ∧ p < pcnt σ 6 1 ∧ 0 ≤ k ∧ k ≤ 8 ∧ 0 ≤ v ∧ v ≤ 99 ∧ σ 41 4 ≠ 10) → Q (0, -1) σ) ∧ (0 ≤ c ∧ c < pcnt σ 6 2 ∧ 0 ≤ p ∧ p < pcnt σ 6 1 ∧ 0 ≤ k ∧ k ≤ 8 ∧ 0 ≤ v ∧ v ≤ 99 ∧ σ 41 4 ≠ 10 → Q (0, σ 41 4 + 1) (up (up (up (up (up (up σ 42 (σ 41 4 * 5) c) 42 (σ 41 4 * 5 + 1) p) 42 (σ 41 4 * 5 + 2) k) 42 (σ 41 4 * 5 + 3) v) 42 (σ 41 4 * 5 + 4) u) 41 4 (σ 41 4 + 1))))
theorem w_X11_howled_e (c : Int) (p : Int) (k : Int) (v : Int) (u : Int) (σ : Mem) (Q : AV → Mem → Prop) : w_X11_howled [(27, 0), (0, c), (0, p), (0, k), (0, v), (0, u)] σ Q = (InR c ∧ InR p ∧ InR k ∧ InR v ∧ (u = 0 ∨ u = 1) ∧ planB σ 6 ∧ 0 ≤ σ 41 4 ∧ σ 41 4 ≤ 10 ∧ (¬ (0 ≤ c ∧ c < pcnt σ 6 2 ∧ 0 ≤ p ∧ p < pcnt σ 6 1 ∧ 0 ≤ k ∧ k ≤ 8 ∧ 0 ≤ v ∧ v ≤ 99 ∧ σ 41 4 ≠ 10) → Q (0, -1) σ) ∧ (0 ≤ c ∧ c < pcnt σ 6 2 ∧ 0 ≤ p ∧ p < pcnt σ 6 1 ∧ 0 ≤ k ∧ k ≤ 8 ∧ 0 ≤ v ∧ v ≤ 99 ∧ σ 41 4 ≠ 10 → Q (0, σ 41 4 + 1) (up (up (up (up (up (up σ 42 (σ 41 4 * 5) c) 42 (σ 41 4 * 5 + 1) p) 42 (σ 41 4 * 5 + 2) k) 42 (σ 41 4 * 5 + 3) v) 42 (σ 41 4 * 5 + 4) u) 41 4 (σ 41 4 + 1)))) := by
  apply propext; constructor
  · rintro ⟨c', p', k', v', u', h9, hb9⟩; cases h9; exact hb9
  · intro hb9; exact ⟨c, p, k, v, u, rfl, hb9⟩

set_option maxRecDepth 100000 in
set_option maxHeartbeats 4000000 in
theorem s_X11_howled : ∀ av σ Q, w_X11_howled av σ Q → amCall 3 0 0 TT yX11_howled cX11_howled 6 (some .int) av σ Q := by
  rintro av σ Q ⟨c, p, k, v, u, rfl, hc, hp, hk, hv, hu, hB, f0, f1, h1, h2⟩
  have c1 := pcnt_b hB 1
  have c2 := pcnt_b hB 2
  refine am_m0 (own := RX11) (A := look a_X11_howled) (fun X e1 e2 hB => o_X11_howled e1 e2 hB) rfl (by decide +kernel) rfl rfl 190 (w := 6) ?_
  change vcs _ _ _ _ 190 0 [(27, 0), (0, c), (0, p), (0, k), (0, v), (0, u)] [] σ
  simp only [↓reduceIte, inR_0, inR_1, inR_m, vSw2_e, swP_n, swP_c, vI_e, vL_e, vNull_e, vIload_e, vLload_e, vAload_e, vIstore_e, vLstore_e, vAstore_e, vIinc_e, vIadd_e, vIsub_e, vImul_e, vIand_e, vIor_e, vIxor_e, vIshl_e, vIshr_e, vIushr_e, vIdiv_e, vIrem_e, vLadd_e, vLsub_e, vLmul_e, vLand_e, vLor_e, vLxor_e, vLdiv_e, vLrem_e, vLushr_e, vLshl_e, vLcmp_e, vIneg_e, vI2l_e, vL2i_e, vI2b_e, vI2c_e, vDup_e, vPop_e, vDup2_e, vGoto_e, vIcEq_e, vIfEq_e, vIcNe_e, vIfNe_e, vIcLt_e, vIfLt_e, vIcGe_e, vIfGe_e, vIcGt_e, vIfGt_e, vIcLe_e, vIfLe_e, vNonnull_e, vSw_e, vGetI_e, vGetL_e, vGetR_e, vPutI_e, vPutZ_e, vPutL_e, vPutR_e, vIald_e, vIald_s, vLald_e, vBald_e, vBald_s, vAald_e, vIast_e, vLast_e, vBast_e, vAast_e, vAlen_e8, vAlen_e9, vAlen_e10, vAlen_e11, vAlen_e5, vAlen_e3, vGets_e, vCompact_e, vLdcS_e, vIret_e, vZret_e, vCret_e, vBret_e, vLret_e, vVret_e, vAret_e, vCallM_e0, vCallMV_e0, vCallS_e0, vCallSV_e0, vCallM_e1, vCallMV_e1, vCallS_e1, vCallSV_e1, vCallM_e2, vCallMV_e2, vCallS_e2, vCallSV_e2, vCallM_e3, vCallMV_e3, vCallS_e3, vCallSV_e3, vCallM_e4, vCallMV_e4, vCallS_e4, vCallSV_e4, vCallM_e5, vCallMV_e5, vCallS_e5, vCallSV_e5, vCallM_e6, vCallMV_e6, vCallS_e6, vCallSV_e6, vCallM_e7, vCallMV_e7, vCallS_e7, vCallSV_e7, vBad_e, vStrVal_e, vStrCod_e, vForm_e, vCallT_e0, vCallT_e1, vCallT_e2, vCopy_e, rf_0_0, rf_0_1, rf_0_2, rf_0_3, rf_0_4, rf_0_7, rf_0_10, rf_0_11, rf_0_12, rf_0_13, rf_0_14, rf_0_15, rf_0_16, rf_1_0, rf_3_0, rf_3_1, rf_6_0, rf_6_1, rf_9_0, rf_9_1, rf_9_3, rf_13_0, rf_13_1, rf_13_2, rf_16_0, rf_16_1, rf_16_2, rf_16_3, rf_21_0, rf_21_1, rf_21_2, rf_21_3, rf_26_0, rf_26_1, rf_26_2, rf_26_3, rf_26_4, rf_26_5, rf_26_6, rf_31_0, rf_31_2, rf_31_5, rf_31_6, rf_36_0, rf_36_1, rf_36_2, rf_36_3, rf_39_0, rf_39_1, rf_39_2, rf_41_0, rf_41_1, rf_41_2, rf_41_3, rf_5000_1, rf_5000_2, rf_5000_3, rf_5000_4, rf_5000_5, rf_5000_15, rf_5000_16, rf_5000_18, rf_5000_19, rf_5000_20, rf_5000_21, rf_5000_22, rf_5000_23, rf_5000_24, rf_5000_25, rf_5000_26, rf_5000_27, rf_5000_36, rf_5000_37, rf_5000_40, rf_5000_41, rf_5000_42, rf_5000_43, rf_5000_44, rf_5000_45, rf_5000_47, rf_5000_52, rf_5000_54, rf_5000_55, rf_100_0, rf_100_1, rf_103_0, rf_103_1, rf_106_0, rf_106_1, rf_109_0, rf_109_1, al_2, al_4, al_5, al_7, al_8, al_10, al_11, al_12, al_14, al_15, al_17, al_18, al_19, al_20, al_22, al_23, al_24, al_25, al_27, al_28, al_29, al_30, al_32, al_33, al_34, al_35, al_37, al_38, al_40, al_42, al_5001, al_5002, al_5003, al_5004, al_5005, al_5006, al_5007, al_5008, al_5009, al_5010, al_5011, al_5012, al_5013, al_5014, al_5015, al_5016, al_5017, al_5018, al_5019, al_5020, al_5021, al_5022, al_5023, al_5024, al_5025, al_5026, al_9000, al_101, al_102, al_104, al_105, al_107, al_108, al_110, al_111, vcs_e, lg_c0, lg_cs, lg_nil, set_c0, set_cs, okst_0, okst_s, acok_n, acok_c, List.contains_nil, List.contains_cons, Bool.or_false, Bool.false_or, Bool.false_eq_true, if_false, if_true, ite_self, ne_eq, true_and, and_true, not_false_eq_true, not_true_eq_false, false_imp_iff, true_imp_iff, Nat.ble_eq, Bool.and_eq_true, reduceCtorEq, or_false, false_or, or_true, true_or, false_and, and_false, and_self, Int.reduceLE, Int.reduceAdd, Int.reduceSub, Int.reduceMul, Int.reduceNeg, Int.reduceLT, Int.reduceEq, Int.reduceNe, Nat.reduceBEq, Nat.reduceBNe, Nat.reduceEqDiff, amCmp_in, amCmp_lt, amCmp_le, amCmp_gt, amCmp_ge, amCmp_eq, amCmp_ne, Nat.reduceLeDiff, Nat.reduceSub, Bool.and_true, Bool.true_and, Bool.and_self, Bool.or_true, Bool.true_or, isRf_3, isRf_4, isRf_5, isRf_8, isRf_9, isRf_10, isRf_11, isRf_15, isRf_16, isRf_17, isRf_18, isRf_19, isRf_20, isRf_21, isRf_22, isRf_23, isRf_24, isRf_25, isRf_26, isRf_27, isRf_28, k_X11_howled_0, k_X11_howled_1, k_X11_howled_4, k_X11_howled_5, k_X11_howled_6, k_X11_howled_9, k_X11_howled_12, k_X11_howled_13, k_X11_howled_16, k_X11_howled_17, k_X11_howled_18, k_X11_howled_21, k_X11_howled_24, k_X11_howled_25, k_X11_howled_28, k_X11_howled_29, k_X11_howled_31, k_X11_howled_34, k_X11_howled_36, k_X11_howled_39, k_X11_howled_41, k_X11_howled_43, k_X11_howled_46, k_X11_howled_47, k_X11_howled_48, k_X11_howled_49, k_X11_howled_52, k_X11_howled_53, k_X11_howled_54, k_X11_howled_55, k_X11_howled_57, k_X11_howled_59, k_X11_howled_62, w_X1_keep_e, w_X6_has_e, up_s, up_nj, up_na, up_up, savR_o, cpy_o, fillm_o, setAud_o, setv_o, setv_s, Int.reduceNe, Int.reduceEq, Int.reduceLT, Int.reduceAdd, not_false_eq_true, ne_eq, or_true, true_or]
  by_cases d : 0 ≤ c ∧ c < pcnt σ 6 2
  · rw [if_pos d]
    by_cases d2 : 0 ≤ p ∧ p < pcnt σ 6 1
    · rw [if_pos d2]
      by_cases d3 : σ 41 4 = 10
      · rw [if_pos d3]
        repeat' (first | assumption | apply And.intro | intro _)
        all_goals first | omega | exact absurd trivial (by assumption) | exact isP6 | exact h1 (by omega)
      · rw [if_neg d3]
        repeat' (first | assumption | apply And.intro | intro _)
        all_goals first | omega | exact absurd trivial (by assumption) | exact isP6 | exact h1 (by omega) | exact h2 (by omega)
    · rw [if_neg d2]
      repeat' (first | assumption | apply And.intro | intro _)
      all_goals first | omega | exact absurd trivial (by assumption) | exact isP6 | exact h1 (by omega)
  · rw [if_neg d]
    repeat' (first | assumption | apply And.intro | intro _)
    all_goals first | omega | exact absurd trivial (by assumption) | exact isP6 | exact h1 (by omega)
theorem wd_1053 : Cond.methodLink RX11 321 yX1_suspects ∈ TBL := tb_tab (List.mem_of_getElem? (i := 1053) (by decide +kernel)) rfl
theorem lk_X11_321 : amLk RX11 321 yX1_suspects cX1_suspects 4 (some .int) 1 := ⟨wd_1053, wd_11, wd_1056, by decide +kernel, by decide +kernel, by decide⟩
def a_X11_whose : AC := [(0, vAload 0 1), (1, vGetR TT 27 2 22 4), (4, vI 2 5), (5, vIload 1 6), (6, vCallM w_X6_has 22 2 9), (9, vIfEq 23 12), (12, vAload 0 13), (13, vGetR TT 27 16 17 16), (16, vIload 1 17), (17, vCallM w_X1_suspects 17 1 20), (20, vGoto 24), (23, vI (-1) 24), (24, vIret)]
theorem k_X11_whose_0 : look a_X11_whose 0 = vAload 0 1 := rfl
theorem k_X11_whose_1 : look a_X11_whose 1 = vGetR TT 27 2 22 4 := rfl
theorem k_X11_whose_4 : look a_X11_whose 4 = vI 2 5 := rfl
theorem k_X11_whose_5 : look a_X11_whose 5 = vIload 1 6 := rfl
theorem k_X11_whose_6 : look a_X11_whose 6 = vCallM w_X6_has 22 2 9 := rfl
theorem k_X11_whose_9 : look a_X11_whose 9 = vIfEq 23 12 := rfl
theorem k_X11_whose_12 : look a_X11_whose 12 = vAload 0 13 := rfl
theorem k_X11_whose_13 : look a_X11_whose 13 = vGetR TT 27 16 17 16 := rfl
theorem k_X11_whose_16 : look a_X11_whose 16 = vIload 1 17 := rfl
theorem k_X11_whose_17 : look a_X11_whose 17 = vCallM w_X1_suspects 17 1 20 := rfl
theorem k_X11_whose_20 : look a_X11_whose 20 = vGoto 24 := rfl
theorem k_X11_whose_23 : look a_X11_whose 23 = vI (-1) 24 := rfl
theorem k_X11_whose_24 : look a_X11_whose 24 = vIret := rfl
theorem o_X11_whose {X : amX} (e1 : XT X = TT) (e2 : XD X = 6) (hB : amB X RX11 cX11_whose (some .int) 2) : ∀ pc, amOK X pc (look a_X11_whose pc) := by
  have hT : amTok (XT X) := e1 ▸ TT_ok
  refine look_ok ?_
  unfold a_X11_whose
  refine fc (ok_aload_n hB dX11_whose_0) ?_
  refine fc (okt_getR e1 hB hT fl_X11_23 rfl af_11_2 at_11_2 (by decide) dX11_whose_1) ?_
  refine fc (ok_iconst hB dX11_whose_4) ?_
  refine fc (ok_iload_n hB dX11_whose_5) ?_
  refine fc (ok_callM hB hT (e1 ▸ s_X6_has) lk_X11_174 (by rw [e2]; decide) (c := 6) rfl rfl rfl wd_729 wd_730 dX11_whose_6) ?_
  refine fc (ok_if_eq hB (t := 23) (by decide) dX11_whose_9) ?_
  refine fc (ok_aload_n hB dX11_whose_12) ?_
  refine fc (okt_getR e1 hB hT fl_X11_109 rfl af_11_16 at_11_16 (by decide) dX11_whose_13) ?_
  refine fc (ok_iload_n hB dX11_whose_16) ?_
  refine fc (ok_callM hB hT (e1 ▸ s_X1_suspects) lk_X11_321 (by rw [e2]; decide) (c := 1) rfl rfl rfl wd_1054 wd_1055 dX11_whose_17) ?_
  refine fc (ok_goto hB (t := 24) (by decide) dX11_whose_20) ?_
  refine fc (ok_iconst hB dX11_whose_23) ?_
  refine fc (ok_iret hB dX11_whose_24) ?_
  exact fn

def w_X11_whose : WP := fun av σ Q => ∃ (c : Int), av = [(27, 0), (0, c)] ∧ (InR c ∧ xS σ ∧ cluOk σ ∧ (¬ (0 ≤ c ∧ c < pcnt σ 6 2) → Q (0, -1) σ) ∧ (0 ≤ c ∧ c < pcnt σ 6 2 → ∀ τ, SW σ τ → Q (0, susS σ c) τ))
theorem w_X11_whose_e (c : Int) (σ : Mem) (Q : AV → Mem → Prop) : w_X11_whose [(27, 0), (0, c)] σ Q = (InR c ∧ xS σ ∧ cluOk σ ∧ (¬ (0 ≤ c ∧ c < pcnt σ 6 2) → Q (0, -1) σ) ∧ (0 ≤ c ∧ c < pcnt σ 6 2 → ∀ τ, SW σ τ → Q (0, susS σ c) τ)) := by
  apply propext; constructor
  · rintro ⟨c', h9, hb9⟩; cases h9; exact hb9
  · intro hb9; exact ⟨c, rfl, hb9⟩

set_option maxRecDepth 100000 in
set_option maxHeartbeats 4000000 in
theorem s_X11_whose : ∀ av σ Q, w_X11_whose av σ Q → amCall 6 0 0 TT yX11_whose cX11_whose 2 (some .int) av σ Q := by
  rintro av σ Q ⟨c, rfl, hc, ⟨hst, hse, h9, hsi⟩, hcl, h1, h2⟩
  have hB := hst.2.1
  have c2 := pcnt_b hB 2
  refine am_m0 (own := RX11) (A := look a_X11_whose) (fun X e1 e2 hB => o_X11_whose e1 e2 hB) rfl (by decide +kernel) rfl rfl 190 (w := 2) ?_
  change vcs _ _ _ _ 190 0 [(27, 0), (0, c)] [] σ
  simp only [↓reduceIte, inR_0, inR_1, inR_m, vSw2_e, swP_n, swP_c, vI_e, vL_e, vNull_e, vIload_e, vLload_e, vAload_e, vIstore_e, vLstore_e, vAstore_e, vIinc_e, vIadd_e, vIsub_e, vImul_e, vIand_e, vIor_e, vIxor_e, vIshl_e, vIshr_e, vIushr_e, vIdiv_e, vIrem_e, vLadd_e, vLsub_e, vLmul_e, vLand_e, vLor_e, vLxor_e, vLdiv_e, vLrem_e, vLushr_e, vLshl_e, vLcmp_e, vIneg_e, vI2l_e, vL2i_e, vI2b_e, vI2c_e, vDup_e, vPop_e, vDup2_e, vGoto_e, vIcEq_e, vIfEq_e, vIcNe_e, vIfNe_e, vIcLt_e, vIfLt_e, vIcGe_e, vIfGe_e, vIcGt_e, vIfGt_e, vIcLe_e, vIfLe_e, vNonnull_e, vSw_e, vGetI_e, vGetL_e, vGetR_e, vPutI_e, vPutZ_e, vPutL_e, vPutR_e, vIald_e, vIald_s, vLald_e, vBald_e, vBald_s, vAald_e, vIast_e, vLast_e, vBast_e, vAast_e, vAlen_e8, vAlen_e9, vAlen_e10, vAlen_e11, vAlen_e5, vAlen_e3, vGets_e, vCompact_e, vLdcS_e, vIret_e, vZret_e, vCret_e, vBret_e, vLret_e, vVret_e, vAret_e, vCallM_e0, vCallMV_e0, vCallS_e0, vCallSV_e0, vCallM_e1, vCallMV_e1, vCallS_e1, vCallSV_e1, vCallM_e2, vCallMV_e2, vCallS_e2, vCallSV_e2, vCallM_e3, vCallMV_e3, vCallS_e3, vCallSV_e3, vCallM_e4, vCallMV_e4, vCallS_e4, vCallSV_e4, vCallM_e5, vCallMV_e5, vCallS_e5, vCallSV_e5, vCallM_e6, vCallMV_e6, vCallS_e6, vCallSV_e6, vCallM_e7, vCallMV_e7, vCallS_e7, vCallSV_e7, vBad_e, vStrVal_e, vStrCod_e, vForm_e, vCallT_e0, vCallT_e1, vCallT_e2, vCopy_e, rf_0_0, rf_0_1, rf_0_2, rf_0_3, rf_0_4, rf_0_7, rf_0_10, rf_0_11, rf_0_12, rf_0_13, rf_0_14, rf_0_15, rf_0_16, rf_1_0, rf_3_0, rf_3_1, rf_6_0, rf_6_1, rf_9_0, rf_9_1, rf_9_3, rf_13_0, rf_13_1, rf_13_2, rf_16_0, rf_16_1, rf_16_2, rf_16_3, rf_21_0, rf_21_1, rf_21_2, rf_21_3, rf_26_0, rf_26_1, rf_26_2, rf_26_3, rf_26_4, rf_26_5, rf_26_6, rf_31_0, rf_31_2, rf_31_5, rf_31_6, rf_36_0, rf_36_1, rf_36_2, rf_36_3, rf_39_0, rf_39_1, rf_39_2, rf_41_0, rf_41_1, rf_41_2, rf_41_3, rf_5000_1, rf_5000_2, rf_5000_3, rf_5000_4, rf_5000_5, rf_5000_15, rf_5000_16, rf_5000_18, rf_5000_19, rf_5000_20, rf_5000_21, rf_5000_22, rf_5000_23, rf_5000_24, rf_5000_25, rf_5000_26, rf_5000_27, rf_5000_36, rf_5000_37, rf_5000_40, rf_5000_41, rf_5000_42, rf_5000_43, rf_5000_44, rf_5000_45, rf_5000_47, rf_5000_52, rf_5000_54, rf_5000_55, rf_100_0, rf_100_1, rf_103_0, rf_103_1, rf_106_0, rf_106_1, rf_109_0, rf_109_1, al_2, al_4, al_5, al_7, al_8, al_10, al_11, al_12, al_14, al_15, al_17, al_18, al_19, al_20, al_22, al_23, al_24, al_25, al_27, al_28, al_29, al_30, al_32, al_33, al_34, al_35, al_37, al_38, al_40, al_42, al_5001, al_5002, al_5003, al_5004, al_5005, al_5006, al_5007, al_5008, al_5009, al_5010, al_5011, al_5012, al_5013, al_5014, al_5015, al_5016, al_5017, al_5018, al_5019, al_5020, al_5021, al_5022, al_5023, al_5024, al_5025, al_5026, al_9000, al_101, al_102, al_104, al_105, al_107, al_108, al_110, al_111, vcs_e, lg_c0, lg_cs, lg_nil, set_c0, set_cs, okst_0, okst_s, acok_n, acok_c, List.contains_nil, List.contains_cons, Bool.or_false, Bool.false_or, Bool.false_eq_true, if_false, if_true, ite_self, ne_eq, true_and, and_true, not_false_eq_true, not_true_eq_false, false_imp_iff, true_imp_iff, Nat.ble_eq, Bool.and_eq_true, reduceCtorEq, or_false, false_or, or_true, true_or, false_and, and_false, and_self, Int.reduceLE, Int.reduceAdd, Int.reduceSub, Int.reduceMul, Int.reduceNeg, Int.reduceLT, Int.reduceEq, Int.reduceNe, Nat.reduceBEq, Nat.reduceBNe, Nat.reduceEqDiff, amCmp_in, amCmp_lt, amCmp_le, amCmp_gt, amCmp_ge, amCmp_eq, amCmp_ne, Nat.reduceLeDiff, Nat.reduceSub, Bool.and_true, Bool.true_and, Bool.and_self, Bool.or_true, Bool.true_or, isRf_3, isRf_4, isRf_5, isRf_8, isRf_9, isRf_10, isRf_11, isRf_15, isRf_16, isRf_17, isRf_18, isRf_19, isRf_20, isRf_21, isRf_22, isRf_23, isRf_24, isRf_25, isRf_26, isRf_27, isRf_28, k_X11_whose_0, k_X11_whose_1, k_X11_whose_4, k_X11_whose_5, k_X11_whose_6, k_X11_whose_9, k_X11_whose_12, k_X11_whose_13, k_X11_whose_16, k_X11_whose_17, k_X11_whose_20, k_X11_whose_23, k_X11_whose_24, w_X1_suspects_e, w_X6_has_e, up_s, up_nj, up_na, up_up, savR_o, cpy_o, fillm_o, setAud_o, setv_o, setv_s, Int.reduceNe, Int.reduceEq, Int.reduceLT, Int.reduceAdd, not_false_eq_true, ne_eq, or_true, true_or]
  by_cases d : 0 ≤ c ∧ c < pcnt σ 6 2
  · rw [if_pos d]
    have hh := fun τ (q : LF σ τ) => h2 d τ (SF_SW (LF_SF q))
    unfold susS at hh
    repeat' (first | assumption | apply And.intro | intro _)
    all_goals first | omega | exact absurd trivial (by assumption) | exact isP6 | exact hh _ (by assumption)
  · rw [if_neg d]
    repeat' (first | assumption | apply And.intro | intro _)
    all_goals first | omega | exact absurd trivial (by assumption) | exact isP6 | exact h1 (by omega)
theorem wd_1074 : Cond.methodLink RX11 324 yX1_nextQuestion ∈ TBL := tb_tab (List.mem_of_getElem? (i := 1074) (by decide +kernel)) rfl
theorem wd_1077 : Cond.code yX1_nextQuestion cX1_nextQuestion 9 (some .int) ∈ TBL := tb_tab (List.mem_of_getElem? (i := 1077) (by decide +kernel)) rfl
theorem lk_X11_324 : amLk RX11 324 yX1_nextQuestion cX1_nextQuestion 9 (some .int) 2 := ⟨wd_1074, wd_11, wd_1077, by decide +kernel, by decide +kernel, by decide⟩
theorem wd_1075 : Cond.instanceMethod yX1_nextQuestion ∈ TBL := tb_tab (List.mem_of_getElem? (i := 1075) (by decide +kernel)) rfl
theorem wd_1076 : Cond.selects RX1 yX1_nextQuestion yX1_nextQuestion ∈ TBL := tb_tab (List.mem_of_getElem? (i := 1076) (by decide +kernel)) rfl
def a_X11_following : AC := [(0, vAload 0 1), (1, vGetR TT 27 2 22 4), (4, vI 2 5), (5, vIload 1 6), (6, vCallM w_X6_has 22 2 9), (9, vIfEq 22 12), (12, vIload 2 13), (13, vIfLt 22 16), (16, vIload 2 17), (17, vI 99 19), (19, vIcLe 24 22), (22, vI (-1) 23), (23, vIret), (24, vAload 0 25), (25, vGetR TT 27 16 17 28), (28, vIload 1 29), (29, vIload 2 30), (30, vCallM w_X1_nextQuestion 17 2 33), (33, vIret)]
theorem k_X11_following_0 : look a_X11_following 0 = vAload 0 1 := rfl
theorem k_X11_following_1 : look a_X11_following 1 = vGetR TT 27 2 22 4 := rfl
theorem k_X11_following_4 : look a_X11_following 4 = vI 2 5 := rfl
theorem k_X11_following_5 : look a_X11_following 5 = vIload 1 6 := rfl
theorem k_X11_following_6 : look a_X11_following 6 = vCallM w_X6_has 22 2 9 := rfl
theorem k_X11_following_9 : look a_X11_following 9 = vIfEq 22 12 := rfl
theorem k_X11_following_12 : look a_X11_following 12 = vIload 2 13 := rfl
theorem k_X11_following_13 : look a_X11_following 13 = vIfLt 22 16 := rfl
theorem k_X11_following_16 : look a_X11_following 16 = vIload 2 17 := rfl
theorem k_X11_following_17 : look a_X11_following 17 = vI 99 19 := rfl
theorem k_X11_following_19 : look a_X11_following 19 = vIcLe 24 22 := rfl
theorem k_X11_following_22 : look a_X11_following 22 = vI (-1) 23 := rfl
theorem k_X11_following_23 : look a_X11_following 23 = vIret := rfl
theorem k_X11_following_24 : look a_X11_following 24 = vAload 0 25 := rfl
theorem k_X11_following_25 : look a_X11_following 25 = vGetR TT 27 16 17 28 := rfl
theorem k_X11_following_28 : look a_X11_following 28 = vIload 1 29 := rfl
theorem k_X11_following_29 : look a_X11_following 29 = vIload 2 30 := rfl
theorem k_X11_following_30 : look a_X11_following 30 = vCallM w_X1_nextQuestion 17 2 33 := rfl
theorem k_X11_following_33 : look a_X11_following 33 = vIret := rfl
theorem o_X11_following {X : amX} (e1 : XT X = TT) (e2 : XD X = 7) (hB : amB X RX11 cX11_following (some .int) 3) : ∀ pc, amOK X pc (look a_X11_following pc) := by
  have hT : amTok (XT X) := e1 ▸ TT_ok
  refine look_ok ?_
  unfold a_X11_following
  refine fc (ok_aload_n hB dX11_following_0) ?_
  refine fc (okt_getR e1 hB hT fl_X11_23 rfl af_11_2 at_11_2 (by decide) dX11_following_1) ?_
  refine fc (ok_iconst hB dX11_following_4) ?_
  refine fc (ok_iload_n hB dX11_following_5) ?_
  refine fc (ok_callM hB hT (e1 ▸ s_X6_has) lk_X11_174 (by rw [e2]; decide) (c := 6) rfl rfl rfl wd_729 wd_730 dX11_following_6) ?_
  refine fc (ok_if_eq hB (t := 22) (by decide) dX11_following_9) ?_
  refine fc (ok_iload_n hB dX11_following_12) ?_
  refine fc (ok_if_lt hB (t := 22) (by decide) dX11_following_13) ?_
  refine fc (ok_iload_n hB dX11_following_16) ?_
  refine fc (ok_bipush hB dX11_following_17 (by decide)) ?_
  refine fc (ok_icmp_le hB (t := 24) (by decide) dX11_following_19) ?_
  refine fc (ok_iconst hB dX11_following_22) ?_
  refine fc (ok_iret hB dX11_following_23) ?_
  refine fc (ok_aload_n hB dX11_following_24) ?_
  refine fc (okt_getR e1 hB hT fl_X11_109 rfl af_11_16 at_11_16 (by decide) dX11_following_25) ?_
  refine fc (ok_iload_n hB dX11_following_28) ?_
  refine fc (ok_iload_n hB dX11_following_29) ?_
  refine fc (ok_callM hB hT (e1 ▸ s_X1_nextQuestion) lk_X11_324 (by rw [e2]; decide) (c := 1) rfl rfl rfl wd_1075 wd_1076 dX11_following_30) ?_
  refine fc (ok_iret hB dX11_following_33) ?_
  exact fn

def w_X11_following : WP := fun av σ Q => ∃ (c : Int) (v : Int), av = [(27, 0), (0, c), (0, v)] ∧ (InR c ∧ InR v ∧ xS σ ∧ cluOk σ ∧ (¬ (0 ≤ c ∧ c < pcnt σ 6 2 ∧ 0 ≤ v ∧ v ≤ 99) → Q (0, -1) σ) ∧ (0 ≤ c ∧ c < pcnt σ 6 2 ∧ 0 ≤ v ∧ v ≤ 99 → ∀ τ, SW σ τ → Q (0, if susS σ c = 0 then -1 else (nqO σ c (susS σ c) v (pcnt σ 6 1).toNat).1) τ))
theorem w_X11_following_e (c : Int) (v : Int) (σ : Mem) (Q : AV → Mem → Prop) : w_X11_following [(27, 0), (0, c), (0, v)] σ Q = (InR c ∧ InR v ∧ xS σ ∧ cluOk σ ∧ (¬ (0 ≤ c ∧ c < pcnt σ 6 2 ∧ 0 ≤ v ∧ v ≤ 99) → Q (0, -1) σ) ∧ (0 ≤ c ∧ c < pcnt σ 6 2 ∧ 0 ≤ v ∧ v ≤ 99 → ∀ τ, SW σ τ → Q (0, if susS σ c = 0 then -1 else (nqO σ c (susS σ c) v (pcnt σ 6 1).toNat).1) τ)) := by
  apply propext; constructor
  · rintro ⟨c', v', h9, hb9⟩; cases h9; exact hb9
  · intro hb9; exact ⟨c, v, rfl, hb9⟩

set_option maxRecDepth 100000 in
set_option maxHeartbeats 4000000 in
theorem s_X11_following : ∀ av σ Q, w_X11_following av σ Q → amCall 7 0 0 TT yX11_following cX11_following 3 (some .int) av σ Q := by
  rintro av σ Q ⟨c, v, rfl, hc, hv, ⟨hst, hse, h9, hsi⟩, hcl, h1, h2⟩
  have hB := hst.2.1
  have c2 := pcnt_b hB 2
  refine am_m0 (own := RX11) (A := look a_X11_following) (fun X e1 e2 hB => o_X11_following e1 e2 hB) rfl (by decide +kernel) rfl rfl 190 (w := 3) ?_
  change vcs _ _ _ _ 190 0 [(27, 0), (0, c), (0, v)] [] σ
  simp only [↓reduceIte, inR_0, inR_1, inR_m, vSw2_e, swP_n, swP_c, vI_e, vL_e, vNull_e, vIload_e, vLload_e, vAload_e, vIstore_e, vLstore_e, vAstore_e, vIinc_e, vIadd_e, vIsub_e, vImul_e, vIand_e, vIor_e, vIxor_e, vIshl_e, vIshr_e, vIushr_e, vIdiv_e, vIrem_e, vLadd_e, vLsub_e, vLmul_e, vLand_e, vLor_e, vLxor_e, vLdiv_e, vLrem_e, vLushr_e, vLshl_e, vLcmp_e, vIneg_e, vI2l_e, vL2i_e, vI2b_e, vI2c_e, vDup_e, vPop_e, vDup2_e, vGoto_e, vIcEq_e, vIfEq_e, vIcNe_e, vIfNe_e, vIcLt_e, vIfLt_e, vIcGe_e, vIfGe_e, vIcGt_e, vIfGt_e, vIcLe_e, vIfLe_e, vNonnull_e, vSw_e, vGetI_e, vGetL_e, vGetR_e, vPutI_e, vPutZ_e, vPutL_e, vPutR_e, vIald_e, vIald_s, vLald_e, vBald_e, vBald_s, vAald_e, vIast_e, vLast_e, vBast_e, vAast_e, vAlen_e8, vAlen_e9, vAlen_e10, vAlen_e11, vAlen_e5, vAlen_e3, vGets_e, vCompact_e, vLdcS_e, vIret_e, vZret_e, vCret_e, vBret_e, vLret_e, vVret_e, vAret_e, vCallM_e0, vCallMV_e0, vCallS_e0, vCallSV_e0, vCallM_e1, vCallMV_e1, vCallS_e1, vCallSV_e1, vCallM_e2, vCallMV_e2, vCallS_e2, vCallSV_e2, vCallM_e3, vCallMV_e3, vCallS_e3, vCallSV_e3, vCallM_e4, vCallMV_e4, vCallS_e4, vCallSV_e4, vCallM_e5, vCallMV_e5, vCallS_e5, vCallSV_e5, vCallM_e6, vCallMV_e6, vCallS_e6, vCallSV_e6, vCallM_e7, vCallMV_e7, vCallS_e7, vCallSV_e7, vBad_e, vStrVal_e, vStrCod_e, vForm_e, vCallT_e0, vCallT_e1, vCallT_e2, vCopy_e, rf_0_0, rf_0_1, rf_0_2, rf_0_3, rf_0_4, rf_0_7, rf_0_10, rf_0_11, rf_0_12, rf_0_13, rf_0_14, rf_0_15, rf_0_16, rf_1_0, rf_3_0, rf_3_1, rf_6_0, rf_6_1, rf_9_0, rf_9_1, rf_9_3, rf_13_0, rf_13_1, rf_13_2, rf_16_0, rf_16_1, rf_16_2, rf_16_3, rf_21_0, rf_21_1, rf_21_2, rf_21_3, rf_26_0, rf_26_1, rf_26_2, rf_26_3, rf_26_4, rf_26_5, rf_26_6, rf_31_0, rf_31_2, rf_31_5, rf_31_6, rf_36_0, rf_36_1, rf_36_2, rf_36_3, rf_39_0, rf_39_1, rf_39_2, rf_41_0, rf_41_1, rf_41_2, rf_41_3, rf_5000_1, rf_5000_2, rf_5000_3, rf_5000_4, rf_5000_5, rf_5000_15, rf_5000_16, rf_5000_18, rf_5000_19, rf_5000_20, rf_5000_21, rf_5000_22, rf_5000_23, rf_5000_24, rf_5000_25, rf_5000_26, rf_5000_27, rf_5000_36, rf_5000_37, rf_5000_40, rf_5000_41, rf_5000_42, rf_5000_43, rf_5000_44, rf_5000_45, rf_5000_47, rf_5000_52, rf_5000_54, rf_5000_55, rf_100_0, rf_100_1, rf_103_0, rf_103_1, rf_106_0, rf_106_1, rf_109_0, rf_109_1, al_2, al_4, al_5, al_7, al_8, al_10, al_11, al_12, al_14, al_15, al_17, al_18, al_19, al_20, al_22, al_23, al_24, al_25, al_27, al_28, al_29, al_30, al_32, al_33, al_34, al_35, al_37, al_38, al_40, al_42, al_5001, al_5002, al_5003, al_5004, al_5005, al_5006, al_5007, al_5008, al_5009, al_5010, al_5011, al_5012, al_5013, al_5014, al_5015, al_5016, al_5017, al_5018, al_5019, al_5020, al_5021, al_5022, al_5023, al_5024, al_5025, al_5026, al_9000, al_101, al_102, al_104, al_105, al_107, al_108, al_110, al_111, vcs_e, lg_c0, lg_cs, lg_nil, set_c0, set_cs, okst_0, okst_s, acok_n, acok_c, List.contains_nil, List.contains_cons, Bool.or_false, Bool.false_or, Bool.false_eq_true, if_false, if_true, ite_self, ne_eq, true_and, and_true, not_false_eq_true, not_true_eq_false, false_imp_iff, true_imp_iff, Nat.ble_eq, Bool.and_eq_true, reduceCtorEq, or_false, false_or, or_true, true_or, false_and, and_false, and_self, Int.reduceLE, Int.reduceAdd, Int.reduceSub, Int.reduceMul, Int.reduceNeg, Int.reduceLT, Int.reduceEq, Int.reduceNe, Nat.reduceBEq, Nat.reduceBNe, Nat.reduceEqDiff, amCmp_in, amCmp_lt, amCmp_le, amCmp_gt, amCmp_ge, amCmp_eq, amCmp_ne, Nat.reduceLeDiff, Nat.reduceSub, Bool.and_true, Bool.true_and, Bool.and_self, Bool.or_true, Bool.true_or, isRf_3, isRf_4, isRf_5, isRf_8, isRf_9, isRf_10, isRf_11, isRf_15, isRf_16, isRf_17, isRf_18, isRf_19, isRf_20, isRf_21, isRf_22, isRf_23, isRf_24, isRf_25, isRf_26, isRf_27, isRf_28, k_X11_following_0, k_X11_following_1, k_X11_following_4, k_X11_following_5, k_X11_following_6, k_X11_following_9, k_X11_following_12, k_X11_following_13, k_X11_following_16, k_X11_following_17, k_X11_following_19, k_X11_following_22, k_X11_following_23, k_X11_following_24, k_X11_following_25, k_X11_following_28, k_X11_following_29, k_X11_following_30, k_X11_following_33, w_X1_nextQuestion_e, w_X6_has_e, up_s, up_nj, up_na, up_up, savR_o, cpy_o, fillm_o, setAud_o, setv_o, setv_s, Int.reduceNe, Int.reduceEq, Int.reduceLT, Int.reduceAdd, not_false_eq_true, ne_eq, or_true, true_or]
  by_cases d : 0 ≤ c ∧ c < pcnt σ 6 2
  · rw [if_pos d]
    have hh := fun (g : 0 ≤ v ∧ v ≤ 99) τ (q : LF σ τ) => h2 ⟨d.1, d.2, g⟩ τ (SF_SW (LF_SF q))
    repeat' (first | assumption | apply And.intro | intro _)
    all_goals first | omega | exact absurd trivial (by assumption) | exact isP6 | exact h1 (by omega) | exact hh (by omega) _ (by assumption)
  · rw [if_neg d]
    repeat' (first | assumption | apply And.intro | intro _)
    all_goals first | omega | exact absurd trivial (by assumption) | exact isP6 | exact h1 (by omega)
def a_X11_odds : AC := [(0, vAload 0 1), (1, vGetR TT 27 2 22 4), (4, vI 2 5), (5, vIload 1 6), (6, vCallM w_X6_has 22 2 9), (9, vIfEq 34 12), (12, vAload 0 13), (13, vGetR TT 27 2 22 16), (16, vI 1 17), (17, vIload 2 18), (18, vCallM w_X6_has 22 2 21), (21, vIfEq 34 24), (24, vIload 3 25), (25, vIfLt 34 28), (28, vIload 3 29), (29, vI 100 31), (31, vIcLe 36 34), (34, vI (-1) 35), (35, vIret), (36, vAload 0 37), (37, vGetR TT 27 12 25 40), (40, vAload 0 41), (41, vGetR TT 27 10 16 44), (44, vIload 1 45), (45, vIload 2 46), (46, vCallMV w_X9_playAround 25 3 49), (49, vAload 0 50), (50, vGetR TT 27 12 25 53), (53, vGetR TT 25 4 8 56), (56, vIload 1 57), (57, vIald TT 58), (58, vIfLe 81 61), (61, vAload 0 62), (62, vGetR TT 27 12 25 65), (65, vGetR TT 25 5 8 68), (68, vIload 1 69), (69, vIald TT 70), (70, vI (-1) 71), (71, vIcNe 81 74), (74, vI 100 76), (76, vIload 3 77), (77, vIsub 78), (78, vGoto 82), (81, vI 0 82), (82, vIret)]
theorem k_X11_odds_0 : look a_X11_odds 0 = vAload 0 1 := rfl
theorem k_X11_odds_1 : look a_X11_odds 1 = vGetR TT 27 2 22 4 := rfl
theorem k_X11_odds_4 : look a_X11_odds 4 = vI 2 5 := rfl
theorem k_X11_odds_5 : look a_X11_odds 5 = vIload 1 6 := rfl
theorem k_X11_odds_6 : look a_X11_odds 6 = vCallM w_X6_has 22 2 9 := rfl
theorem k_X11_odds_9 : look a_X11_odds 9 = vIfEq 34 12 := rfl
theorem k_X11_odds_12 : look a_X11_odds 12 = vAload 0 13 := rfl
theorem k_X11_odds_13 : look a_X11_odds 13 = vGetR TT 27 2 22 16 := rfl
theorem k_X11_odds_16 : look a_X11_odds 16 = vI 1 17 := rfl
theorem k_X11_odds_17 : look a_X11_odds 17 = vIload 2 18 := rfl
theorem k_X11_odds_18 : look a_X11_odds 18 = vCallM w_X6_has 22 2 21 := rfl
theorem k_X11_odds_21 : look a_X11_odds 21 = vIfEq 34 24 := rfl
theorem k_X11_odds_24 : look a_X11_odds 24 = vIload 3 25 := rfl
theorem k_X11_odds_25 : look a_X11_odds 25 = vIfLt 34 28 := rfl
theorem k_X11_odds_28 : look a_X11_odds 28 = vIload 3 29 := rfl
theorem k_X11_odds_29 : look a_X11_odds 29 = vI 100 31 := rfl
theorem k_X11_odds_31 : look a_X11_odds 31 = vIcLe 36 34 := rfl
theorem k_X11_odds_34 : look a_X11_odds 34 = vI (-1) 35 := rfl
theorem k_X11_odds_35 : look a_X11_odds 35 = vIret := rfl
theorem k_X11_odds_36 : look a_X11_odds 36 = vAload 0 37 := rfl
theorem k_X11_odds_37 : look a_X11_odds 37 = vGetR TT 27 12 25 40 := rfl
theorem k_X11_odds_40 : look a_X11_odds 40 = vAload 0 41 := rfl
theorem k_X11_odds_41 : look a_X11_odds 41 = vGetR TT 27 10 16 44 := rfl
theorem k_X11_odds_44 : look a_X11_odds 44 = vIload 1 45 := rfl
theorem k_X11_odds_45 : look a_X11_odds 45 = vIload 2 46 := rfl
theorem k_X11_odds_46 : look a_X11_odds 46 = vCallMV w_X9_playAround 25 3 49 := rfl
theorem k_X11_odds_49 : look a_X11_odds 49 = vAload 0 50 := rfl
theorem k_X11_odds_50 : look a_X11_odds 50 = vGetR TT 27 12 25 53 := rfl
theorem k_X11_odds_53 : look a_X11_odds 53 = vGetR TT 25 4 8 56 := rfl
theorem k_X11_odds_56 : look a_X11_odds 56 = vIload 1 57 := rfl
theorem k_X11_odds_57 : look a_X11_odds 57 = vIald TT 58 := rfl
theorem k_X11_odds_58 : look a_X11_odds 58 = vIfLe 81 61 := rfl
theorem k_X11_odds_61 : look a_X11_odds 61 = vAload 0 62 := rfl
theorem k_X11_odds_62 : look a_X11_odds 62 = vGetR TT 27 12 25 65 := rfl
theorem k_X11_odds_65 : look a_X11_odds 65 = vGetR TT 25 5 8 68 := rfl
theorem k_X11_odds_68 : look a_X11_odds 68 = vIload 1 69 := rfl
theorem k_X11_odds_69 : look a_X11_odds 69 = vIald TT 70 := rfl
theorem k_X11_odds_70 : look a_X11_odds 70 = vI (-1) 71 := rfl
theorem k_X11_odds_71 : look a_X11_odds 71 = vIcNe 81 74 := rfl
theorem k_X11_odds_74 : look a_X11_odds 74 = vI 100 76 := rfl
theorem k_X11_odds_76 : look a_X11_odds 76 = vIload 3 77 := rfl
theorem k_X11_odds_77 : look a_X11_odds 77 = vIsub 78 := rfl
theorem k_X11_odds_78 : look a_X11_odds 78 = vGoto 82 := rfl
theorem k_X11_odds_81 : look a_X11_odds 81 = vI 0 82 := rfl
theorem k_X11_odds_82 : look a_X11_odds 82 = vIret := rfl
theorem o_X11_odds {X : amX} (e1 : XT X = TT) (e2 : XD X = 6) (hB : amB X RX11 cX11_odds (some .int) 4) : ∀ pc, amOK X pc (look a_X11_odds pc) := by
  have hT : amTok (XT X) := e1 ▸ TT_ok
  refine look_ok ?_
  unfold a_X11_odds
  refine fc (ok_aload_n hB dX11_odds_0) ?_
  refine fc (okt_getR e1 hB hT fl_X11_23 rfl af_11_2 at_11_2 (by decide) dX11_odds_1) ?_
  refine fc (ok_iconst hB dX11_odds_4) ?_
  refine fc (ok_iload_n hB dX11_odds_5) ?_
  refine fc (ok_callM hB hT (e1 ▸ s_X6_has) lk_X11_174 (by rw [e2]; decide) (c := 6) rfl rfl rfl wd_729 wd_730 dX11_odds_6) ?_
  refine fc (ok_if_eq hB (t := 34) (by decide) dX11_odds_9) ?_
  refine fc (ok_aload_n hB dX11_odds_12) ?_
  refine fc (okt_getR e1 hB hT fl_X11_23 rfl af_11_2 at_11_2 (by decide) dX11_odds_13) ?_
  refine fc (ok_iconst hB dX11_odds_16) ?_
  refine fc (ok_iload_n hB dX11_odds_17) ?_
  refine fc (ok_callM hB hT (e1 ▸ s_X6_has) lk_X11_174 (by rw [e2]; decide) (c := 6) rfl rfl rfl wd_729 wd_730 dX11_odds_18) ?_
  refine fc (ok_if_eq hB (t := 34) (by decide) dX11_odds_21) ?_
  refine fc (ok_iload_n hB dX11_odds_24) ?_
  refine fc (ok_if_lt hB (t := 34) (by decide) dX11_odds_25) ?_
  refine fc (ok_iload_n hB dX11_odds_28) ?_
  refine fc (ok_bipush hB dX11_odds_29 (by decide)) ?_
  refine fc (ok_icmp_le hB (t := 36) (by decide) dX11_odds_31) ?_
  refine fc (ok_iconst hB dX11_odds_34) ?_
  refine fc (ok_iret hB dX11_odds_35) ?_
  refine fc (ok_aload_n hB dX11_odds_36) ?_
  refine fc (okt_getR e1 hB hT fl_X11_77 rfl af_11_12 at_11_12 (by decide) dX11_odds_37) ?_
  refine fc (ok_aload_n hB dX11_odds_40) ?_
  refine fc (okt_getR e1 hB hT fl_X11_65 rfl af_11_10 at_11_10 (by decide) dX11_odds_41) ?_
  refine fc (ok_iload_n hB dX11_odds_44) ?_
  refine fc (ok_iload_n hB dX11_odds_45) ?_
  refine fc (ok_callMV hB hT (e1 ▸ s_X9_playAround) lk_X11_287 (by rw [e2]; decide) (c := 9) rfl rfl rfl wd_976 wd_977 dX11_odds_46) ?_
  refine fc (ok_aload_n hB dX11_odds_49) ?_
  refine fc (okt_getR e1 hB hT fl_X11_77 rfl af_11_12 at_11_12 (by decide) dX11_odds_50) ?_
  refine fc (okt_getR e1 hB hT fl_X11_291 rfl af_9_4 at_9_4 (by decide) dX11_odds_53) ?_
  refine fc (ok_iload_n hB dX11_odds_56) ?_
  refine fc (okt_iaload e1 hB dX11_odds_57) ?_
  refine fc (ok_if_le hB (t := 81) (by decide) dX11_odds_58) ?_
  refine fc (ok_aload_n hB dX11_odds_61) ?_
  refine fc (okt_getR e1 hB hT fl_X11_77 rfl af_11_12 at_11_12 (by decide) dX11_odds_62) ?_
  refine fc (okt_getR e1 hB hT fl_X11_294 rfl af_9_5 at_9_5 (by decide) dX11_odds_65) ?_
  refine fc (ok_iload_n hB dX11_odds_68) ?_
  refine fc (okt_iaload e1 hB dX11_odds_69) ?_
  refine fc (ok_iconst hB dX11_odds_70) ?_
  refine fc (ok_icmp_ne hB (t := 81) (by decide) dX11_odds_71) ?_
  refine fc (ok_bipush hB dX11_odds_74 (by decide)) ?_
  refine fc (ok_iload_n hB dX11_odds_76) ?_
  refine fc (ok_isub hB dX11_odds_77) ?_
  refine fc (ok_goto hB (t := 82) (by decide) dX11_odds_78) ?_
  refine fc (ok_iconst hB dX11_odds_81) ?_
  refine fc (ok_iret hB dX11_odds_82) ?_
  exact fn

def w_X11_odds : WP := fun av σ Q => ∃ (c : Int) (p : Int) (w : Int), av = [(27, 0), (0, c), (0, p), (0, w)] ∧ (InR c ∧ InR p ∧ InR w ∧ xS σ ∧ (¬ (0 ≤ c ∧ c < pcnt σ 6 2 ∧ 0 ≤ p ∧ p < pcnt σ 6 1 ∧ 0 ≤ w ∧ w ≤ 100) → Q (0, -1) σ) ∧ (0 ≤ c ∧ c < pcnt σ 6 2 ∧ 0 ≤ p ∧ p < pcnt σ 6 1 ∧ 0 ≤ w ∧ w ≤ 100 → ∀ τ, SW σ τ → Q (0, if 0 < pFl σ 16 p c ∧ pOa σ 16 p c = -1 then 100 - w else 0) τ))
theorem w_X11_odds_e (c : Int) (p : Int) (w : Int) (σ : Mem) (Q : AV → Mem → Prop) : w_X11_odds [(27, 0), (0, c), (0, p), (0, w)] σ Q = (InR c ∧ InR p ∧ InR w ∧ xS σ ∧ (¬ (0 ≤ c ∧ c < pcnt σ 6 2 ∧ 0 ≤ p ∧ p < pcnt σ 6 1 ∧ 0 ≤ w ∧ w ≤ 100) → Q (0, -1) σ) ∧ (0 ≤ c ∧ c < pcnt σ 6 2 ∧ 0 ≤ p ∧ p < pcnt σ 6 1 ∧ 0 ≤ w ∧ w ≤ 100 → ∀ τ, SW σ τ → Q (0, if 0 < pFl σ 16 p c ∧ pOa σ 16 p c = -1 then 100 - w else 0) τ)) := by
  apply propext; constructor
  · rintro ⟨c', p', w', h9, hb9⟩; cases h9; exact hb9
  · intro hb9; exact ⟨c, p, w, rfl, hb9⟩

set_option maxRecDepth 100000 in
set_option maxHeartbeats 4000000 in
theorem s_X11_odds : ∀ av σ Q, w_X11_odds av σ Q → amCall 6 0 0 TT yX11_odds cX11_odds 4 (some .int) av σ Q := by
  rintro av σ Q ⟨c, p, w, rfl, hc, hp, hw, ⟨hst, hse, h9, hsi⟩, h1, h2⟩
  have hB := hst.2.1
  have c1 := pcnt_b hB 1
  have c2 := pcnt_b hB 2
  have e1 : (16 : Int) + 2 = 18 := rfl
  have h9p := h9 p
  refine am_m0 (own := RX11) (A := look a_X11_odds) (fun X e1 e2 hB => o_X11_odds e1 e2 hB) rfl (by decide +kernel) rfl rfl 190 (w := 4) ?_
  change vcs _ _ _ _ 190 0 [(27, 0), (0, c), (0, p), (0, w)] [] σ
  simp only [↓reduceIte, inR_0, inR_1, inR_m, vSw2_e, swP_n, swP_c, vI_e, vL_e, vNull_e, vIload_e, vLload_e, vAload_e, vIstore_e, vLstore_e, vAstore_e, vIinc_e, vIadd_e, vIsub_e, vImul_e, vIand_e, vIor_e, vIxor_e, vIshl_e, vIshr_e, vIushr_e, vIdiv_e, vIrem_e, vLadd_e, vLsub_e, vLmul_e, vLand_e, vLor_e, vLxor_e, vLdiv_e, vLrem_e, vLushr_e, vLshl_e, vLcmp_e, vIneg_e, vI2l_e, vL2i_e, vI2b_e, vI2c_e, vDup_e, vPop_e, vDup2_e, vGoto_e, vIcEq_e, vIfEq_e, vIcNe_e, vIfNe_e, vIcLt_e, vIfLt_e, vIcGe_e, vIfGe_e, vIcGt_e, vIfGt_e, vIcLe_e, vIfLe_e, vNonnull_e, vSw_e, vGetI_e, vGetL_e, vGetR_e, vPutI_e, vPutZ_e, vPutL_e, vPutR_e, vIald_e, vIald_s, vLald_e, vBald_e, vBald_s, vAald_e, vIast_e, vLast_e, vBast_e, vAast_e, vAlen_e8, vAlen_e9, vAlen_e10, vAlen_e11, vAlen_e5, vAlen_e3, vGets_e, vCompact_e, vLdcS_e, vIret_e, vZret_e, vCret_e, vBret_e, vLret_e, vVret_e, vAret_e, vCallM_e0, vCallMV_e0, vCallS_e0, vCallSV_e0, vCallM_e1, vCallMV_e1, vCallS_e1, vCallSV_e1, vCallM_e2, vCallMV_e2, vCallS_e2, vCallSV_e2, vCallM_e3, vCallMV_e3, vCallS_e3, vCallSV_e3, vCallM_e4, vCallMV_e4, vCallS_e4, vCallSV_e4, vCallM_e5, vCallMV_e5, vCallS_e5, vCallSV_e5, vCallM_e6, vCallMV_e6, vCallS_e6, vCallSV_e6, vCallM_e7, vCallMV_e7, vCallS_e7, vCallSV_e7, vBad_e, vStrVal_e, vStrCod_e, vForm_e, vCallT_e0, vCallT_e1, vCallT_e2, vCopy_e, rf_0_0, rf_0_1, rf_0_2, rf_0_3, rf_0_4, rf_0_7, rf_0_10, rf_0_11, rf_0_12, rf_0_13, rf_0_14, rf_0_15, rf_0_16, rf_1_0, rf_3_0, rf_3_1, rf_6_0, rf_6_1, rf_9_0, rf_9_1, rf_9_3, rf_13_0, rf_13_1, rf_13_2, rf_16_0, rf_16_1, rf_16_2, rf_16_3, rf_21_0, rf_21_1, rf_21_2, rf_21_3, rf_26_0, rf_26_1, rf_26_2, rf_26_3, rf_26_4, rf_26_5, rf_26_6, rf_31_0, rf_31_2, rf_31_5, rf_31_6, rf_36_0, rf_36_1, rf_36_2, rf_36_3, rf_39_0, rf_39_1, rf_39_2, rf_41_0, rf_41_1, rf_41_2, rf_41_3, rf_5000_1, rf_5000_2, rf_5000_3, rf_5000_4, rf_5000_5, rf_5000_15, rf_5000_16, rf_5000_18, rf_5000_19, rf_5000_20, rf_5000_21, rf_5000_22, rf_5000_23, rf_5000_24, rf_5000_25, rf_5000_26, rf_5000_27, rf_5000_36, rf_5000_37, rf_5000_40, rf_5000_41, rf_5000_42, rf_5000_43, rf_5000_44, rf_5000_45, rf_5000_47, rf_5000_52, rf_5000_54, rf_5000_55, rf_100_0, rf_100_1, rf_103_0, rf_103_1, rf_106_0, rf_106_1, rf_109_0, rf_109_1, al_2, al_4, al_5, al_7, al_8, al_10, al_11, al_12, al_14, al_15, al_17, al_18, al_19, al_20, al_22, al_23, al_24, al_25, al_27, al_28, al_29, al_30, al_32, al_33, al_34, al_35, al_37, al_38, al_40, al_42, al_5001, al_5002, al_5003, al_5004, al_5005, al_5006, al_5007, al_5008, al_5009, al_5010, al_5011, al_5012, al_5013, al_5014, al_5015, al_5016, al_5017, al_5018, al_5019, al_5020, al_5021, al_5022, al_5023, al_5024, al_5025, al_5026, al_9000, al_101, al_102, al_104, al_105, al_107, al_108, al_110, al_111, vcs_e, lg_c0, lg_cs, lg_nil, set_c0, set_cs, okst_0, okst_s, acok_n, acok_c, List.contains_nil, List.contains_cons, Bool.or_false, Bool.false_or, Bool.false_eq_true, if_false, if_true, ite_self, ne_eq, true_and, and_true, not_false_eq_true, not_true_eq_false, false_imp_iff, true_imp_iff, Nat.ble_eq, Bool.and_eq_true, reduceCtorEq, or_false, false_or, or_true, true_or, false_and, and_false, and_self, Int.reduceLE, Int.reduceAdd, Int.reduceSub, Int.reduceMul, Int.reduceNeg, Int.reduceLT, Int.reduceEq, Int.reduceNe, Nat.reduceBEq, Nat.reduceBNe, Nat.reduceEqDiff, amCmp_in, amCmp_lt, amCmp_le, amCmp_gt, amCmp_ge, amCmp_eq, amCmp_ne, Nat.reduceLeDiff, Nat.reduceSub, Bool.and_true, Bool.true_and, Bool.and_self, Bool.or_true, Bool.true_or, isRf_3, isRf_4, isRf_5, isRf_8, isRf_9, isRf_10, isRf_11, isRf_15, isRf_16, isRf_17, isRf_18, isRf_19, isRf_20, isRf_21, isRf_22, isRf_23, isRf_24, isRf_25, isRf_26, isRf_27, isRf_28, k_X11_odds_0, k_X11_odds_1, k_X11_odds_4, k_X11_odds_5, k_X11_odds_6, k_X11_odds_9, k_X11_odds_12, k_X11_odds_13, k_X11_odds_16, k_X11_odds_17, k_X11_odds_18, k_X11_odds_21, k_X11_odds_24, k_X11_odds_25, k_X11_odds_28, k_X11_odds_29, k_X11_odds_31, k_X11_odds_34, k_X11_odds_35, k_X11_odds_36, k_X11_odds_37, k_X11_odds_40, k_X11_odds_41, k_X11_odds_44, k_X11_odds_45, k_X11_odds_46, k_X11_odds_49, k_X11_odds_50, k_X11_odds_53, k_X11_odds_56, k_X11_odds_57, k_X11_odds_58, k_X11_odds_61, k_X11_odds_62, k_X11_odds_65, k_X11_odds_68, k_X11_odds_69, k_X11_odds_70, k_X11_odds_71, k_X11_odds_74, k_X11_odds_76, k_X11_odds_77, k_X11_odds_78, k_X11_odds_81, k_X11_odds_82, w_X6_has_e, w_X9_playAround_e, up_s, up_nj, up_na, up_up, savR_o, cpy_o, fillm_o, setAud_o, setv_o, setv_s, Int.reduceNe, Int.reduceEq, Int.reduceLT, Int.reduceAdd, not_false_eq_true, ne_eq, or_true, true_or, e1]
  by_cases d : 0 ≤ c ∧ c < pcnt σ 6 2
  · rw [if_pos d]
    by_cases d2 : 0 ≤ p ∧ p < pcnt σ 6 1
    · rw [if_pos d2]
      have fb := pFl_b (a := 16) hB h9p (i := c) d.1 (by omega)
      have ob := pOa_b (a := 16) (i := c) hB h9p
      have y1 := fun (g : 0 ≤ w ∧ w ≤ 100) τ (q1 : SF σ τ) (q2 : τ 29 c = pFl σ 16 p c) (q3 : τ 30 c = pOa σ 16 p c) (q4 : 0 < τ 29 c ∧ τ 30 c = -1) => Qe (h2 ⟨d.1, d.2, d2.1, d2.2, g⟩ τ (SF_SW q1)) (show (if 0 < pFl σ 16 p c ∧ pOa σ 16 p c = -1 then 100 - w else 0) = 100 - w by rw [← q2, ← q3, if_pos q4])
      have y2 := fun (g : 0 ≤ w ∧ w ≤ 100) τ (q1 : SF σ τ) (q2 : τ 29 c = pFl σ 16 p c) (q3 : τ 30 c = pOa σ 16 p c) (q4 : ¬ (0 < τ 29 c ∧ τ 30 c = -1)) => Qe (h2 ⟨d.1, d.2, d2.1, d2.2, g⟩ τ (SF_SW q1)) (show (if 0 < pFl σ 16 p c ∧ pOa σ 16 p c = -1 then 100 - w else 0) = 0 by rw [← q2, ← q3, if_neg q4])
      repeat' (first | assumption | apply And.intro | intro _)
      all_goals first | omega | exact absurd trivial (by assumption) | exact isP6 | exact h1 (by omega) | exact y1 (by omega) _ (by assumption) (by assumption) (by assumption) (by omega) | exact y2 (by omega) _ (by assumption) (by assumption) (by assumption) (by omega)
    · rw [if_neg d2]
      repeat' (first | assumption | apply And.intro | intro _)
      all_goals first | omega | exact absurd trivial (by assumption) | exact isP6 | exact h1 (by omega)
  · rw [if_neg d]
    repeat' (first | assumption | apply And.intro | intro _)
    all_goals first | omega | exact absurd trivial (by assumption) | exact isP6 | exact h1 (by omega)
theorem wd_1186 : Cond.methodLink RX11 386 yX6_strongestMinute ∈ TBL := tb_tab (List.mem_of_getElem? (i := 1186) (by decide +kernel)) rfl
theorem wd_1189 : Cond.code yX6_strongestMinute cX6_strongestMinute 4 (some .int) ∈ TBL := tb_tab (List.mem_of_getElem? (i := 1189) (by decide +kernel)) rfl
theorem lk_X11_386 : amLk RX11 386 yX6_strongestMinute cX6_strongestMinute 4 (some .int) 1 := ⟨wd_1186, wd_3, wd_1189, by decide +kernel, by decide +kernel, by decide⟩
theorem wd_1187 : Cond.instanceMethod yX6_strongestMinute ∈ TBL := tb_tab (List.mem_of_getElem? (i := 1187) (by decide +kernel)) rfl
theorem wd_1188 : Cond.selects RX6 yX6_strongestMinute yX6_strongestMinute ∈ TBL := tb_tab (List.mem_of_getElem? (i := 1188) (by decide +kernel)) rfl
theorem wd_1169 : Cond.methodLink RX11 380 yX6_allFeeling ∈ TBL := tb_tab (List.mem_of_getElem? (i := 1169) (by decide +kernel)) rfl
theorem wd_1172 : Cond.code yX6_allFeeling cX6_allFeeling 4 (some .int) ∈ TBL := tb_tab (List.mem_of_getElem? (i := 1172) (by decide +kernel)) rfl
theorem lk_X11_380 : amLk RX11 380 yX6_allFeeling cX6_allFeeling 4 (some .int) 1 := ⟨wd_1169, wd_3, wd_1172, by decide +kernel, by decide +kernel, by decide⟩
theorem wd_1170 : Cond.instanceMethod yX6_allFeeling ∈ TBL := tb_tab (List.mem_of_getElem? (i := 1170) (by decide +kernel)) rfl
theorem wd_1171 : Cond.selects RX6 yX6_allFeeling yX6_allFeeling ∈ TBL := tb_tab (List.mem_of_getElem? (i := 1171) (by decide +kernel)) rfl
def a_X11_peak : AC := [(0, vAload 0 1), (1, vGetR TT 27 2 22 4), (4, vI 1 5), (5, vIload 1 6), (6, vCallM w_X6_has 22 2 9), (9, vIfEq 21 12), (12, vIload 2 13), (13, vIfLt 21 16), (16, vIload 2 17), (17, vI 1 18), (18, vIcLe 23 21), (21, vI (-1) 22), (22, vIret), (23, vIload 2 24), (24, vIfNe 38 27), (27, vAload 0 28), (28, vGetR TT 27 2 22 31), (31, vIload 1 32), (32, vCallM w_X6_strongestMinute 22 1 35), (35, vGoto 46), (38, vAload 0 39), (39, vGetR TT 27 2 22 42), (42, vIload 1 43), (43, vCallM w_X6_allFeeling 22 1 46), (46, vIret)]
theorem k_X11_peak_0 : look a_X11_peak 0 = vAload 0 1 := rfl
theorem k_X11_peak_1 : look a_X11_peak 1 = vGetR TT 27 2 22 4 := rfl
theorem k_X11_peak_4 : look a_X11_peak 4 = vI 1 5 := rfl
theorem k_X11_peak_5 : look a_X11_peak 5 = vIload 1 6 := rfl
theorem k_X11_peak_6 : look a_X11_peak 6 = vCallM w_X6_has 22 2 9 := rfl
theorem k_X11_peak_9 : look a_X11_peak 9 = vIfEq 21 12 := rfl
theorem k_X11_peak_12 : look a_X11_peak 12 = vIload 2 13 := rfl
theorem k_X11_peak_13 : look a_X11_peak 13 = vIfLt 21 16 := rfl
theorem k_X11_peak_16 : look a_X11_peak 16 = vIload 2 17 := rfl
theorem k_X11_peak_17 : look a_X11_peak 17 = vI 1 18 := rfl
theorem k_X11_peak_18 : look a_X11_peak 18 = vIcLe 23 21 := rfl
theorem k_X11_peak_21 : look a_X11_peak 21 = vI (-1) 22 := rfl
theorem k_X11_peak_22 : look a_X11_peak 22 = vIret := rfl
theorem k_X11_peak_23 : look a_X11_peak 23 = vIload 2 24 := rfl
theorem k_X11_peak_24 : look a_X11_peak 24 = vIfNe 38 27 := rfl
theorem k_X11_peak_27 : look a_X11_peak 27 = vAload 0 28 := rfl
theorem k_X11_peak_28 : look a_X11_peak 28 = vGetR TT 27 2 22 31 := rfl
theorem k_X11_peak_31 : look a_X11_peak 31 = vIload 1 32 := rfl
theorem k_X11_peak_32 : look a_X11_peak 32 = vCallM w_X6_strongestMinute 22 1 35 := rfl
theorem k_X11_peak_35 : look a_X11_peak 35 = vGoto 46 := rfl
theorem k_X11_peak_38 : look a_X11_peak 38 = vAload 0 39 := rfl
theorem k_X11_peak_39 : look a_X11_peak 39 = vGetR TT 27 2 22 42 := rfl
theorem k_X11_peak_42 : look a_X11_peak 42 = vIload 1 43 := rfl
theorem k_X11_peak_43 : look a_X11_peak 43 = vCallM w_X6_allFeeling 22 1 46 := rfl
theorem k_X11_peak_46 : look a_X11_peak 46 = vIret := rfl
theorem o_X11_peak {X : amX} (e1 : XT X = TT) (e2 : XD X = 4) (hB : amB X RX11 cX11_peak (some .int) 3) : ∀ pc, amOK X pc (look a_X11_peak pc) := by
  have hT : amTok (XT X) := e1 ▸ TT_ok
  refine look_ok ?_
  unfold a_X11_peak
  refine fc (ok_aload_n hB dX11_peak_0) ?_
  refine fc (okt_getR e1 hB hT fl_X11_23 rfl af_11_2 at_11_2 (by decide) dX11_peak_1) ?_
  refine fc (ok_iconst hB dX11_peak_4) ?_
  refine fc (ok_iload_n hB dX11_peak_5) ?_
  refine fc (ok_callM hB hT (e1 ▸ s_X6_has) lk_X11_174 (by rw [e2]; decide) (c := 6) rfl rfl rfl wd_729 wd_730 dX11_peak_6) ?_
  refine fc (ok_if_eq hB (t := 21) (by decide) dX11_peak_9) ?_
  refine fc (ok_iload_n hB dX11_peak_12) ?_
  refine fc (ok_if_lt hB (t := 21) (by decide) dX11_peak_13) ?_
  refine fc (ok_iload_n hB dX11_peak_16) ?_
  refine fc (ok_iconst hB dX11_peak_17) ?_
  refine fc (ok_icmp_le hB (t := 23) (by decide) dX11_peak_18) ?_
  refine fc (ok_iconst hB dX11_peak_21) ?_
  refine fc (ok_iret hB dX11_peak_22) ?_
  refine fc (ok_iload_n hB dX11_peak_23) ?_
  refine fc (ok_if_ne hB (t := 38) (by decide) dX11_peak_24) ?_
  refine fc (ok_aload_n hB dX11_peak_27) ?_
  refine fc (okt_getR e1 hB hT fl_X11_23 rfl af_11_2 at_11_2 (by decide) dX11_peak_28) ?_
  refine fc (ok_iload_n hB dX11_peak_31) ?_
  refine fc (ok_callM hB hT (e1 ▸ s_X6_strongestMinute) lk_X11_386 (by rw [e2]; decide) (c := 6) rfl rfl rfl wd_1187 wd_1188 dX11_peak_32) ?_
  refine fc (ok_goto hB (t := 46) (by decide) dX11_peak_35) ?_
  refine fc (ok_aload_n hB dX11_peak_38) ?_
  refine fc (okt_getR e1 hB hT fl_X11_23 rfl af_11_2 at_11_2 (by decide) dX11_peak_39) ?_
  refine fc (ok_iload_n hB dX11_peak_42) ?_
  refine fc (ok_callM hB hT (e1 ▸ s_X6_allFeeling) lk_X11_380 (by rw [e2]; decide) (c := 6) rfl rfl rfl wd_1170 wd_1171 dX11_peak_43) ?_
  refine fc (ok_iret hB dX11_peak_46) ?_
  exact fn

def w_X11_peak : WP := fun av σ Q => ∃ (p : Int) (w : Int), av = [(27, 0), (0, p), (0, w)] ∧ (InR p ∧ InR w ∧ planB σ 6 ∧ (¬ (0 ≤ p ∧ p < pcnt σ 6 1 ∧ 0 ≤ w ∧ w ≤ 1) → Q (0, -1) σ) ∧ (0 ≤ p ∧ p < pcnt σ 6 1 → w = 0 → Q (0, fbest (pfeel σ 6 p) (pmin σ 6 p).toNat) σ) ∧ (0 ≤ p ∧ p < pcnt σ 6 1 → w = 1 → Q (0, fsum (pfeel σ 6 p) (pmin σ 6 p).toNat) σ))
theorem w_X11_peak_e (p : Int) (w : Int) (σ : Mem) (Q : AV → Mem → Prop) : w_X11_peak [(27, 0), (0, p), (0, w)] σ Q = (InR p ∧ InR w ∧ planB σ 6 ∧ (¬ (0 ≤ p ∧ p < pcnt σ 6 1 ∧ 0 ≤ w ∧ w ≤ 1) → Q (0, -1) σ) ∧ (0 ≤ p ∧ p < pcnt σ 6 1 → w = 0 → Q (0, fbest (pfeel σ 6 p) (pmin σ 6 p).toNat) σ) ∧ (0 ≤ p ∧ p < pcnt σ 6 1 → w = 1 → Q (0, fsum (pfeel σ 6 p) (pmin σ 6 p).toNat) σ)) := by
  apply propext; constructor
  · rintro ⟨p', w', h9, hb9⟩; cases h9; exact hb9
  · intro hb9; exact ⟨p, w, rfl, hb9⟩

set_option maxRecDepth 100000 in
set_option maxHeartbeats 4000000 in
theorem s_X11_peak : ∀ av σ Q, w_X11_peak av σ Q → amCall 4 0 0 TT yX11_peak cX11_peak 3 (some .int) av σ Q := by
  rintro av σ Q ⟨p, w, rfl, hp, hw, hB, h1, h2, h3⟩
  have c1 := pcnt_b hB 1
  refine am_m0 (own := RX11) (A := look a_X11_peak) (fun X e1 e2 hB => o_X11_peak e1 e2 hB) rfl (by decide +kernel) rfl rfl 190 (w := 3) ?_
  change vcs _ _ _ _ 190 0 [(27, 0), (0, p), (0, w)] [] σ
  simp only [↓reduceIte, inR_0, inR_1, inR_m, vSw2_e, swP_n, swP_c, vI_e, vL_e, vNull_e, vIload_e, vLload_e, vAload_e, vIstore_e, vLstore_e, vAstore_e, vIinc_e, vIadd_e, vIsub_e, vImul_e, vIand_e, vIor_e, vIxor_e, vIshl_e, vIshr_e, vIushr_e, vIdiv_e, vIrem_e, vLadd_e, vLsub_e, vLmul_e, vLand_e, vLor_e, vLxor_e, vLdiv_e, vLrem_e, vLushr_e, vLshl_e, vLcmp_e, vIneg_e, vI2l_e, vL2i_e, vI2b_e, vI2c_e, vDup_e, vPop_e, vDup2_e, vGoto_e, vIcEq_e, vIfEq_e, vIcNe_e, vIfNe_e, vIcLt_e, vIfLt_e, vIcGe_e, vIfGe_e, vIcGt_e, vIfGt_e, vIcLe_e, vIfLe_e, vNonnull_e, vSw_e, vGetI_e, vGetL_e, vGetR_e, vPutI_e, vPutZ_e, vPutL_e, vPutR_e, vIald_e, vIald_s, vLald_e, vBald_e, vBald_s, vAald_e, vIast_e, vLast_e, vBast_e, vAast_e, vAlen_e8, vAlen_e9, vAlen_e10, vAlen_e11, vAlen_e5, vAlen_e3, vGets_e, vCompact_e, vLdcS_e, vIret_e, vZret_e, vCret_e, vBret_e, vLret_e, vVret_e, vAret_e, vCallM_e0, vCallMV_e0, vCallS_e0, vCallSV_e0, vCallM_e1, vCallMV_e1, vCallS_e1, vCallSV_e1, vCallM_e2, vCallMV_e2, vCallS_e2, vCallSV_e2, vCallM_e3, vCallMV_e3, vCallS_e3, vCallSV_e3, vCallM_e4, vCallMV_e4, vCallS_e4, vCallSV_e4, vCallM_e5, vCallMV_e5, vCallS_e5, vCallSV_e5, vCallM_e6, vCallMV_e6, vCallS_e6, vCallSV_e6, vCallM_e7, vCallMV_e7, vCallS_e7, vCallSV_e7, vBad_e, vStrVal_e, vStrCod_e, vForm_e, vCallT_e0, vCallT_e1, vCallT_e2, vCopy_e, rf_0_0, rf_0_1, rf_0_2, rf_0_3, rf_0_4, rf_0_7, rf_0_10, rf_0_11, rf_0_12, rf_0_13, rf_0_14, rf_0_15, rf_0_16, rf_1_0, rf_3_0, rf_3_1, rf_6_0, rf_6_1, rf_9_0, rf_9_1, rf_9_3, rf_13_0, rf_13_1, rf_13_2, rf_16_0, rf_16_1, rf_16_2, rf_16_3, rf_21_0, rf_21_1, rf_21_2, rf_21_3, rf_26_0, rf_26_1, rf_26_2, rf_26_3, rf_26_4, rf_26_5, rf_26_6, rf_31_0, rf_31_2, rf_31_5, rf_31_6, rf_36_0, rf_36_1, rf_36_2, rf_36_3, rf_39_0, rf_39_1, rf_39_2, rf_41_0, rf_41_1, rf_41_2, rf_41_3, rf_5000_1, rf_5000_2, rf_5000_3, rf_5000_4, rf_5000_5, rf_5000_15, rf_5000_16, rf_5000_18, rf_5000_19, rf_5000_20, rf_5000_21, rf_5000_22, rf_5000_23, rf_5000_24, rf_5000_25, rf_5000_26, rf_5000_27, rf_5000_36, rf_5000_37, rf_5000_40, rf_5000_41, rf_5000_42, rf_5000_43, rf_5000_44, rf_5000_45, rf_5000_47, rf_5000_52, rf_5000_54, rf_5000_55, rf_100_0, rf_100_1, rf_103_0, rf_103_1, rf_106_0, rf_106_1, rf_109_0, rf_109_1, al_2, al_4, al_5, al_7, al_8, al_10, al_11, al_12, al_14, al_15, al_17, al_18, al_19, al_20, al_22, al_23, al_24, al_25, al_27, al_28, al_29, al_30, al_32, al_33, al_34, al_35, al_37, al_38, al_40, al_42, al_5001, al_5002, al_5003, al_5004, al_5005, al_5006, al_5007, al_5008, al_5009, al_5010, al_5011, al_5012, al_5013, al_5014, al_5015, al_5016, al_5017, al_5018, al_5019, al_5020, al_5021, al_5022, al_5023, al_5024, al_5025, al_5026, al_9000, al_101, al_102, al_104, al_105, al_107, al_108, al_110, al_111, vcs_e, lg_c0, lg_cs, lg_nil, set_c0, set_cs, okst_0, okst_s, acok_n, acok_c, List.contains_nil, List.contains_cons, Bool.or_false, Bool.false_or, Bool.false_eq_true, if_false, if_true, ite_self, ne_eq, true_and, and_true, not_false_eq_true, not_true_eq_false, false_imp_iff, true_imp_iff, Nat.ble_eq, Bool.and_eq_true, reduceCtorEq, or_false, false_or, or_true, true_or, false_and, and_false, and_self, Int.reduceLE, Int.reduceAdd, Int.reduceSub, Int.reduceMul, Int.reduceNeg, Int.reduceLT, Int.reduceEq, Int.reduceNe, Nat.reduceBEq, Nat.reduceBNe, Nat.reduceEqDiff, amCmp_in, amCmp_lt, amCmp_le, amCmp_gt, amCmp_ge, amCmp_eq, amCmp_ne, Nat.reduceLeDiff, Nat.reduceSub, Bool.and_true, Bool.true_and, Bool.and_self, Bool.or_true, Bool.true_or, isRf_3, isRf_4, isRf_5, isRf_8, isRf_9, isRf_10, isRf_11, isRf_15, isRf_16, isRf_17, isRf_18, isRf_19, isRf_20, isRf_21, isRf_22, isRf_23, isRf_24, isRf_25, isRf_26, isRf_27, isRf_28, k_X11_peak_0, k_X11_peak_1, k_X11_peak_4, k_X11_peak_5, k_X11_peak_6, k_X11_peak_9, k_X11_peak_12, k_X11_peak_13, k_X11_peak_16, k_X11_peak_17, k_X11_peak_18, k_X11_peak_21, k_X11_peak_22, k_X11_peak_23, k_X11_peak_24, k_X11_peak_27, k_X11_peak_28, k_X11_peak_31, k_X11_peak_32, k_X11_peak_35, k_X11_peak_38, k_X11_peak_39, k_X11_peak_42, k_X11_peak_43, k_X11_peak_46, w_X6_allFeeling_e, w_X6_has_e, w_X6_strongestMinute_e, up_s, up_nj, up_na, up_up, savR_o, cpy_o, fillm_o, setAud_o, setv_o, setv_s, Int.reduceNe, Int.reduceEq, Int.reduceLT, Int.reduceAdd, not_false_eq_true, ne_eq, or_true, true_or]
  by_cases d2 : 0 ≤ p ∧ p < pcnt σ 6 1
  · rw [if_pos d2]
    repeat' (first | assumption | apply And.intro | intro _)
    all_goals first | omega | exact absurd trivial (by assumption) | exact isP6 | exact h1 (by omega) | exact h2 d2 (by omega) | exact h3 d2 (by omega)
  · rw [if_neg d2]
    repeat' (first | assumption | apply And.intro | intro _)
    all_goals first | omega | exact absurd trivial (by assumption) | exact isP6 | exact h1 (by omega)
theorem wd_673 : Cond.methodLink RX11 154 yX6_many ∈ TBL := tb_tab (List.mem_of_getElem? (i := 673) (by decide +kernel)) rfl
theorem lk_X11_154 : amLk RX11 154 yX6_many cX6_many 2 (some .int) 1 := ⟨wd_673, wd_3, wd_559, by decide +kernel, by decide +kernel, by decide⟩
theorem wd_1164 : Cond.methodLink RX11 383 yX0_holders ∈ TBL := tb_tab (List.mem_of_getElem? (i := 1164) (by decide +kernel)) rfl
theorem lk_X11_383 : amLk RX11 383 yX0_holders cX0_holders 5 (some .int) 2 := ⟨wd_1164, wd_6, wd_788, by decide +kernel, by decide +kernel, by decide⟩
def a_X11_house : AC := [(0, vAload 0 1), (1, vGetR TT 27 2 22 4), (4, vI 3 5), (5, vIload 1 6), (6, vCallM w_X6_has 22 2 9), (9, vIfEq 31 12), (12, vAload 0 13), (13, vGetR TT 27 10 16 16), (16, vIload 1 17), (17, vAload 0 18), (18, vGetR TT 27 2 22 21), (21, vI 2 22), (22, vCallM w_X6_many 22 1 25), (25, vCallM w_X0_holders 16 2 28), (28, vGoto 32), (31, vI (-1) 32), (32, vIret)]
theorem k_X11_house_0 : look a_X11_house 0 = vAload 0 1 := rfl
theorem k_X11_house_1 : look a_X11_house 1 = vGetR TT 27 2 22 4 := rfl
theorem k_X11_house_4 : look a_X11_house 4 = vI 3 5 := rfl
theorem k_X11_house_5 : look a_X11_house 5 = vIload 1 6 := rfl
theorem k_X11_house_6 : look a_X11_house 6 = vCallM w_X6_has 22 2 9 := rfl
theorem k_X11_house_9 : look a_X11_house 9 = vIfEq 31 12 := rfl
theorem k_X11_house_12 : look a_X11_house 12 = vAload 0 13 := rfl
theorem k_X11_house_13 : look a_X11_house 13 = vGetR TT 27 10 16 16 := rfl
theorem k_X11_house_16 : look a_X11_house 16 = vIload 1 17 := rfl
theorem k_X11_house_17 : look a_X11_house 17 = vAload 0 18 := rfl
theorem k_X11_house_18 : look a_X11_house 18 = vGetR TT 27 2 22 21 := rfl
theorem k_X11_house_21 : look a_X11_house 21 = vI 2 22 := rfl
theorem k_X11_house_22 : look a_X11_house 22 = vCallM w_X6_many 22 1 25 := rfl
theorem k_X11_house_25 : look a_X11_house 25 = vCallM w_X0_holders 16 2 28 := rfl
theorem k_X11_house_28 : look a_X11_house 28 = vGoto 32 := rfl
theorem k_X11_house_31 : look a_X11_house 31 = vI (-1) 32 := rfl
theorem k_X11_house_32 : look a_X11_house 32 = vIret := rfl
theorem o_X11_house {X : amX} (e1 : XT X = TT) (e2 : XD X = 3) (hB : amB X RX11 cX11_house (some .int) 2) : ∀ pc, amOK X pc (look a_X11_house pc) := by
  have hT : amTok (XT X) := e1 ▸ TT_ok
  refine look_ok ?_
  unfold a_X11_house
  refine fc (ok_aload_n hB dX11_house_0) ?_
  refine fc (okt_getR e1 hB hT fl_X11_23 rfl af_11_2 at_11_2 (by decide) dX11_house_1) ?_
  refine fc (ok_iconst hB dX11_house_4) ?_
  refine fc (ok_iload_n hB dX11_house_5) ?_
  refine fc (ok_callM hB hT (e1 ▸ s_X6_has) lk_X11_174 (by rw [e2]; decide) (c := 6) rfl rfl rfl wd_729 wd_730 dX11_house_6) ?_
  refine fc (ok_if_eq hB (t := 31) (by decide) dX11_house_9) ?_
  refine fc (ok_aload_n hB dX11_house_12) ?_
  refine fc (okt_getR e1 hB hT fl_X11_65 rfl af_11_10 at_11_10 (by decide) dX11_house_13) ?_
  refine fc (ok_iload_n hB dX11_house_16) ?_
  refine fc (ok_aload_n hB dX11_house_17) ?_
  refine fc (okt_getR e1 hB hT fl_X11_23 rfl af_11_2 at_11_2 (by decide) dX11_house_18) ?_
  refine fc (ok_iconst hB dX11_house_21) ?_
  refine fc (ok_callM hB hT (e1 ▸ s_X6_many) lk_X11_154 (by rw [e2]; decide) (c := 6) rfl rfl rfl wd_557 wd_558 dX11_house_22) ?_
  refine fc (ok_callM hB hT (e1 ▸ s_X0_holders) lk_X11_383 (by rw [e2]; decide) (c := 0) rfl rfl rfl wd_786 wd_787 dX11_house_25) ?_
  refine fc (ok_goto hB (t := 32) (by decide) dX11_house_28) ?_
  refine fc (ok_iconst hB dX11_house_31) ?_
  refine fc (ok_iret hB dX11_house_32) ?_
  exact fn

def w_X11_house : WP := fun av σ Q => ∃ (t : Int), av = [(27, 0), (0, t)] ∧ (InR t ∧ planB σ 6 ∧ (∀ i, 0 ≤ i → i < 6 → InR (σ 18 i)) ∧ (¬ (0 ≤ t ∧ t < pcnt σ 6 3) → Q (0, -1) σ) ∧ (0 ≤ t ∧ t < pcnt σ 6 3 → Q (0, hbits (σ 18) t (pcnt σ 6 2).toNat) σ))
theorem w_X11_house_e (t : Int) (σ : Mem) (Q : AV → Mem → Prop) : w_X11_house [(27, 0), (0, t)] σ Q = (InR t ∧ planB σ 6 ∧ (∀ i, 0 ≤ i → i < 6 → InR (σ 18 i)) ∧ (¬ (0 ≤ t ∧ t < pcnt σ 6 3) → Q (0, -1) σ) ∧ (0 ≤ t ∧ t < pcnt σ 6 3 → Q (0, hbits (σ 18) t (pcnt σ 6 2).toNat) σ)) := by
  apply propext; constructor
  · rintro ⟨t', h9, hb9⟩; cases h9; exact hb9
  · intro hb9; exact ⟨t, rfl, hb9⟩

set_option maxRecDepth 100000 in
set_option maxHeartbeats 4000000 in
theorem s_X11_house : ∀ av σ Q, w_X11_house av σ Q → amCall 3 0 0 TT yX11_house cX11_house 2 (some .int) av σ Q := by
  rintro av σ Q ⟨t, rfl, ht, hB, hse, h1, h2⟩
  have c2 := pcnt_b hB 2
  have c3 := pcnt_b hB 3
  have e1 : (16 : Int) + 2 = 18 := rfl
  refine am_m0 (own := RX11) (A := look a_X11_house) (fun X e1 e2 hB => o_X11_house e1 e2 hB) rfl (by decide +kernel) rfl rfl 190 (w := 2) ?_
  change vcs _ _ _ _ 190 0 [(27, 0), (0, t)] [] σ
  simp only [↓reduceIte, inR_0, inR_1, inR_m, vSw2_e, swP_n, swP_c, vI_e, vL_e, vNull_e, vIload_e, vLload_e, vAload_e, vIstore_e, vLstore_e, vAstore_e, vIinc_e, vIadd_e, vIsub_e, vImul_e, vIand_e, vIor_e, vIxor_e, vIshl_e, vIshr_e, vIushr_e, vIdiv_e, vIrem_e, vLadd_e, vLsub_e, vLmul_e, vLand_e, vLor_e, vLxor_e, vLdiv_e, vLrem_e, vLushr_e, vLshl_e, vLcmp_e, vIneg_e, vI2l_e, vL2i_e, vI2b_e, vI2c_e, vDup_e, vPop_e, vDup2_e, vGoto_e, vIcEq_e, vIfEq_e, vIcNe_e, vIfNe_e, vIcLt_e, vIfLt_e, vIcGe_e, vIfGe_e, vIcGt_e, vIfGt_e, vIcLe_e, vIfLe_e, vNonnull_e, vSw_e, vGetI_e, vGetL_e, vGetR_e, vPutI_e, vPutZ_e, vPutL_e, vPutR_e, vIald_e, vIald_s, vLald_e, vBald_e, vBald_s, vAald_e, vIast_e, vLast_e, vBast_e, vAast_e, vAlen_e8, vAlen_e9, vAlen_e10, vAlen_e11, vAlen_e5, vAlen_e3, vGets_e, vCompact_e, vLdcS_e, vIret_e, vZret_e, vCret_e, vBret_e, vLret_e, vVret_e, vAret_e, vCallM_e0, vCallMV_e0, vCallS_e0, vCallSV_e0, vCallM_e1, vCallMV_e1, vCallS_e1, vCallSV_e1, vCallM_e2, vCallMV_e2, vCallS_e2, vCallSV_e2, vCallM_e3, vCallMV_e3, vCallS_e3, vCallSV_e3, vCallM_e4, vCallMV_e4, vCallS_e4, vCallSV_e4, vCallM_e5, vCallMV_e5, vCallS_e5, vCallSV_e5, vCallM_e6, vCallMV_e6, vCallS_e6, vCallSV_e6, vCallM_e7, vCallMV_e7, vCallS_e7, vCallSV_e7, vBad_e, vStrVal_e, vStrCod_e, vForm_e, vCallT_e0, vCallT_e1, vCallT_e2, vCopy_e, rf_0_0, rf_0_1, rf_0_2, rf_0_3, rf_0_4, rf_0_7, rf_0_10, rf_0_11, rf_0_12, rf_0_13, rf_0_14, rf_0_15, rf_0_16, rf_1_0, rf_3_0, rf_3_1, rf_6_0, rf_6_1, rf_9_0, rf_9_1, rf_9_3, rf_13_0, rf_13_1, rf_13_2, rf_16_0, rf_16_1, rf_16_2, rf_16_3, rf_21_0, rf_21_1, rf_21_2, rf_21_3, rf_26_0, rf_26_1, rf_26_2, rf_26_3, rf_26_4, rf_26_5, rf_26_6, rf_31_0, rf_31_2, rf_31_5, rf_31_6, rf_36_0, rf_36_1, rf_36_2, rf_36_3, rf_39_0, rf_39_1, rf_39_2, rf_41_0, rf_41_1, rf_41_2, rf_41_3, rf_5000_1, rf_5000_2, rf_5000_3, rf_5000_4, rf_5000_5, rf_5000_15, rf_5000_16, rf_5000_18, rf_5000_19, rf_5000_20, rf_5000_21, rf_5000_22, rf_5000_23, rf_5000_24, rf_5000_25, rf_5000_26, rf_5000_27, rf_5000_36, rf_5000_37, rf_5000_40, rf_5000_41, rf_5000_42, rf_5000_43, rf_5000_44, rf_5000_45, rf_5000_47, rf_5000_52, rf_5000_54, rf_5000_55, rf_100_0, rf_100_1, rf_103_0, rf_103_1, rf_106_0, rf_106_1, rf_109_0, rf_109_1, al_2, al_4, al_5, al_7, al_8, al_10, al_11, al_12, al_14, al_15, al_17, al_18, al_19, al_20, al_22, al_23, al_24, al_25, al_27, al_28, al_29, al_30, al_32, al_33, al_34, al_35, al_37, al_38, al_40, al_42, al_5001, al_5002, al_5003, al_5004, al_5005, al_5006, al_5007, al_5008, al_5009, al_5010, al_5011, al_5012, al_5013, al_5014, al_5015, al_5016, al_5017, al_5018, al_5019, al_5020, al_5021, al_5022, al_5023, al_5024, al_5025, al_5026, al_9000, al_101, al_102, al_104, al_105, al_107, al_108, al_110, al_111, vcs_e, lg_c0, lg_cs, lg_nil, set_c0, set_cs, okst_0, okst_s, acok_n, acok_c, List.contains_nil, List.contains_cons, Bool.or_false, Bool.false_or, Bool.false_eq_true, if_false, if_true, ite_self, ne_eq, true_and, and_true, not_false_eq_true, not_true_eq_false, false_imp_iff, true_imp_iff, Nat.ble_eq, Bool.and_eq_true, reduceCtorEq, or_false, false_or, or_true, true_or, false_and, and_false, and_self, Int.reduceLE, Int.reduceAdd, Int.reduceSub, Int.reduceMul, Int.reduceNeg, Int.reduceLT, Int.reduceEq, Int.reduceNe, Nat.reduceBEq, Nat.reduceBNe, Nat.reduceEqDiff, amCmp_in, amCmp_lt, amCmp_le, amCmp_gt, amCmp_ge, amCmp_eq, amCmp_ne, Nat.reduceLeDiff, Nat.reduceSub, Bool.and_true, Bool.true_and, Bool.and_self, Bool.or_true, Bool.true_or, isRf_3, isRf_4, isRf_5, isRf_8, isRf_9, isRf_10, isRf_11, isRf_15, isRf_16, isRf_17, isRf_18, isRf_19, isRf_20, isRf_21, isRf_22, isRf_23, isRf_24, isRf_25, isRf_26, isRf_27, isRf_28, k_X11_house_0, k_X11_house_1, k_X11_house_4, k_X11_house_5, k_X11_house_6, k_X11_house_9, k_X11_house_12, k_X11_house_13, k_X11_house_16, k_X11_house_17, k_X11_house_18, k_X11_house_21, k_X11_house_22, k_X11_house_25, k_X11_house_28, k_X11_house_31, k_X11_house_32, w_X0_holders_e, w_X6_has_e, w_X6_many_e, up_s, up_nj, up_na, up_up, savR_o, cpy_o, fillm_o, setAud_o, setv_o, setv_s, Int.reduceNe, Int.reduceEq, Int.reduceLT, Int.reduceAdd, not_false_eq_true, ne_eq, or_true, true_or, e1]
  by_cases d2 : 0 ≤ t ∧ t < pcnt σ 6 3
  · rw [if_pos d2]
    repeat' (first | assumption | apply And.intro | intro _)
    all_goals first | omega | exact absurd trivial (by assumption) | exact isP6 | exact isA16 | exact h1 (by omega) | exact h2 d2
  · rw [if_neg d2]
    repeat' (first | assumption | apply And.intro | intro _)
    all_goals first | omega | exact absurd trivial (by assumption) | exact isP6 | exact h1 (by omega)
theorem wd_1202 : Cond.methodLink RX11 389 yX5_keepImage ∈ TBL := tb_tab (List.mem_of_getElem? (i := 1202) (by decide +kernel)) rfl
theorem wd_1205 : Cond.code yX5_keepImage cX5_keepImage 3 (none) ∈ TBL := tb_tab (List.mem_of_getElem? (i := 1205) (by decide +kernel)) rfl
theorem lk_X11_389 : amLk RX11 389 yX5_keepImage cX5_keepImage 3 (none) 1 := ⟨wd_1202, wd_8, wd_1205, by decide +kernel, by decide +kernel, by decide⟩
theorem wd_1203 : Cond.instanceMethod yX5_keepImage ∈ TBL := tb_tab (List.mem_of_getElem? (i := 1203) (by decide +kernel)) rfl
theorem wd_1204 : Cond.selects RX5 yX5_keepImage yX5_keepImage ∈ TBL := tb_tab (List.mem_of_getElem? (i := 1204) (by decide +kernel)) rfl
def a_X11_image : AC := [(0, vAload 0 1), (1, vGetR TT 27 2 22 4), (4, vCallM w_X6_isTold 22 0 7), (7, vIfNe 12 10), (10, vI (-1) 11), (11, vIret), (12, vAload 0 13), (13, vGetR TT 27 13 21 16), (16, vAload 0 17), (17, vGetR TT 27 10 16 20), (20, vCallMV w_X5_keepImage 21 1 23), (23, vAload 0 24), (24, vGetR TT 27 10 16 27), (27, vGetI 16 6 30), (30, vIret)]
theorem k_X11_image_0 : look a_X11_image 0 = vAload 0 1 := rfl
theorem k_X11_image_1 : look a_X11_image 1 = vGetR TT 27 2 22 4 := rfl
theorem k_X11_image_4 : look a_X11_image 4 = vCallM w_X6_isTold 22 0 7 := rfl
theorem k_X11_image_7 : look a_X11_image 7 = vIfNe 12 10 := rfl
theorem k_X11_image_10 : look a_X11_image 10 = vI (-1) 11 := rfl
theorem k_X11_image_11 : look a_X11_image 11 = vIret := rfl
theorem k_X11_image_12 : look a_X11_image 12 = vAload 0 13 := rfl
theorem k_X11_image_13 : look a_X11_image 13 = vGetR TT 27 13 21 16 := rfl
theorem k_X11_image_16 : look a_X11_image 16 = vAload 0 17 := rfl
theorem k_X11_image_17 : look a_X11_image 17 = vGetR TT 27 10 16 20 := rfl
theorem k_X11_image_20 : look a_X11_image 20 = vCallMV w_X5_keepImage 21 1 23 := rfl
theorem k_X11_image_23 : look a_X11_image 23 = vAload 0 24 := rfl
theorem k_X11_image_24 : look a_X11_image 24 = vGetR TT 27 10 16 27 := rfl
theorem k_X11_image_27 : look a_X11_image 27 = vGetI 16 6 30 := rfl
theorem k_X11_image_30 : look a_X11_image 30 = vIret := rfl
theorem o_X11_image {X : amX} (e1 : XT X = TT) (e2 : XD X = 3) (hB : amB X RX11 cX11_image (some .int) 1) : ∀ pc, amOK X pc (look a_X11_image pc) := by
  have hT : amTok (XT X) := e1 ▸ TT_ok
  refine look_ok ?_
  unfold a_X11_image
  refine fc (ok_aload_n hB dX11_image_0) ?_
  refine fc (okt_getR e1 hB hT fl_X11_23 rfl af_11_2 at_11_2 (by decide) dX11_image_1) ?_
  refine fc (ok_callM hB hT (e1 ▸ s_X6_isTold) lk_X11_164 (by rw [e2]; decide) (c := 6) rfl rfl rfl wd_717 wd_718 dX11_image_4) ?_
  refine fc (ok_if_ne hB (t := 12) (by decide) dX11_image_7) ?_
  refine fc (ok_iconst hB dX11_image_10) ?_
  refine fc (ok_iret hB dX11_image_11) ?_
  refine fc (ok_aload_n hB dX11_image_12) ?_
  refine fc (okt_getR e1 hB hT fl_X11_84 rfl af_11_13 at_11_13 (by decide) dX11_image_13) ?_
  refine fc (ok_aload_n hB dX11_image_16) ?_
  refine fc (okt_getR e1 hB hT fl_X11_65 rfl af_11_10 at_11_10 (by decide) dX11_image_17) ?_
  refine fc (ok_callMV hB hT (e1 ▸ s_X5_keepImage) lk_X11_389 (by rw [e2]; decide) (c := 5) rfl rfl rfl wd_1203 wd_1204 dX11_image_20) ?_
  refine fc (ok_aload_n hB dX11_image_23) ?_
  refine fc (okt_getR e1 hB hT fl_X11_65 rfl af_11_10 at_11_10 (by decide) dX11_image_24) ?_
  refine fc (ok_getI hB hT fl_X11_246 rfl rfl (Or.inl af_0_6) dX11_image_27) ?_
  refine fc (ok_iret hB dX11_image_30) ?_
  exact fn

def w_X11_image : WP := fun av σ Q => av = [(27, 0)] ∧ (planB σ 6 ∧ pastOk σ ∧ (¬ 0 < pcnt σ 6 2 → Q (0, -1) σ) ∧ (0 < pcnt σ 6 2 → Q (0, σ 16 6) (up (kim (up (savR σ 34 0) 31 7 (min 60 (σ 31 1))) (min 60 (σ 31 1)) (min 60 (σ 31 1))) 31 8 1)))
theorem w_X11_image_e  (σ : Mem) (Q : AV → Mem → Prop) : w_X11_image [(27, 0)] σ Q = (planB σ 6 ∧ pastOk σ ∧ (¬ 0 < pcnt σ 6 2 → Q (0, -1) σ) ∧ (0 < pcnt σ 6 2 → Q (0, σ 16 6) (up (kim (up (savR σ 34 0) 31 7 (min 60 (σ 31 1))) (min 60 (σ 31 1)) (min 60 (σ 31 1))) 31 8 1))) := by
  apply propext; constructor
  · rintro ⟨h9, hb9⟩; cases h9; exact hb9
  · intro hb9; exact ⟨rfl, hb9⟩

set_option maxRecDepth 100000 in
set_option maxHeartbeats 4000000 in
theorem s_X11_image : ∀ av σ Q, w_X11_image av σ Q → amCall 3 0 0 TT yX11_image cX11_image 1 (some .int) av σ Q := by
  rintro av σ Q ⟨rfl, hB, hpa, h1, h2⟩
  have c2 := pcnt_b hB 2
  obtain ⟨p1, p2, p3⟩ := id hpa
  have e1 : up (kim (up (savR σ 34 0) 31 7 (min 60 (σ 31 1))) (min 60 (σ 31 1)) (min 60 (σ 31 1))) 31 8 1 16 = σ 16 := by
    rw [up_na _ (by decide), kim_o _ _ _ (by decide), up_na _ (by decide), savR_o _ (by decide)]
  refine am_m0 (own := RX11) (A := look a_X11_image) (fun X e1 e2 hB => o_X11_image e1 e2 hB) rfl (by decide +kernel) rfl rfl 190 (w := 1) ?_
  change vcs _ _ _ _ 190 0 [(27, 0)] [] σ
  simp only [↓reduceIte, inR_0, inR_1, inR_m, vSw2_e, swP_n, swP_c, vI_e, vL_e, vNull_e, vIload_e, vLload_e, vAload_e, vIstore_e, vLstore_e, vAstore_e, vIinc_e, vIadd_e, vIsub_e, vImul_e, vIand_e, vIor_e, vIxor_e, vIshl_e, vIshr_e, vIushr_e, vIdiv_e, vIrem_e, vLadd_e, vLsub_e, vLmul_e, vLand_e, vLor_e, vLxor_e, vLdiv_e, vLrem_e, vLushr_e, vLshl_e, vLcmp_e, vIneg_e, vI2l_e, vL2i_e, vI2b_e, vI2c_e, vDup_e, vPop_e, vDup2_e, vGoto_e, vIcEq_e, vIfEq_e, vIcNe_e, vIfNe_e, vIcLt_e, vIfLt_e, vIcGe_e, vIfGe_e, vIcGt_e, vIfGt_e, vIcLe_e, vIfLe_e, vNonnull_e, vSw_e, vGetI_e, vGetL_e, vGetR_e, vPutI_e, vPutZ_e, vPutL_e, vPutR_e, vIald_e, vIald_s, vLald_e, vBald_e, vBald_s, vAald_e, vIast_e, vLast_e, vBast_e, vAast_e, vAlen_e8, vAlen_e9, vAlen_e10, vAlen_e11, vAlen_e5, vAlen_e3, vGets_e, vCompact_e, vLdcS_e, vIret_e, vZret_e, vCret_e, vBret_e, vLret_e, vVret_e, vAret_e, vCallM_e0, vCallMV_e0, vCallS_e0, vCallSV_e0, vCallM_e1, vCallMV_e1, vCallS_e1, vCallSV_e1, vCallM_e2, vCallMV_e2, vCallS_e2, vCallSV_e2, vCallM_e3, vCallMV_e3, vCallS_e3, vCallSV_e3, vCallM_e4, vCallMV_e4, vCallS_e4, vCallSV_e4, vCallM_e5, vCallMV_e5, vCallS_e5, vCallSV_e5, vCallM_e6, vCallMV_e6, vCallS_e6, vCallSV_e6, vCallM_e7, vCallMV_e7, vCallS_e7, vCallSV_e7, vBad_e, vStrVal_e, vStrCod_e, vForm_e, vCallT_e0, vCallT_e1, vCallT_e2, vCopy_e, rf_0_0, rf_0_1, rf_0_2, rf_0_3, rf_0_4, rf_0_7, rf_0_10, rf_0_11, rf_0_12, rf_0_13, rf_0_14, rf_0_15, rf_0_16, rf_1_0, rf_3_0, rf_3_1, rf_6_0, rf_6_1, rf_9_0, rf_9_1, rf_9_3, rf_13_0, rf_13_1, rf_13_2, rf_16_0, rf_16_1, rf_16_2, rf_16_3, rf_21_0, rf_21_1, rf_21_2, rf_21_3, rf_26_0, rf_26_1, rf_26_2, rf_26_3, rf_26_4, rf_26_5, rf_26_6, rf_31_0, rf_31_2, rf_31_5, rf_31_6, rf_36_0, rf_36_1, rf_36_2, rf_36_3, rf_39_0, rf_39_1, rf_39_2, rf_41_0, rf_41_1, rf_41_2, rf_41_3, rf_5000_1, rf_5000_2, rf_5000_3, rf_5000_4, rf_5000_5, rf_5000_15, rf_5000_16, rf_5000_18, rf_5000_19, rf_5000_20, rf_5000_21, rf_5000_22, rf_5000_23, rf_5000_24, rf_5000_25, rf_5000_26, rf_5000_27, rf_5000_36, rf_5000_37, rf_5000_40, rf_5000_41, rf_5000_42, rf_5000_43, rf_5000_44, rf_5000_45, rf_5000_47, rf_5000_52, rf_5000_54, rf_5000_55, rf_100_0, rf_100_1, rf_103_0, rf_103_1, rf_106_0, rf_106_1, rf_109_0, rf_109_1, al_2, al_4, al_5, al_7, al_8, al_10, al_11, al_12, al_14, al_15, al_17, al_18, al_19, al_20, al_22, al_23, al_24, al_25, al_27, al_28, al_29, al_30, al_32, al_33, al_34, al_35, al_37, al_38, al_40, al_42, al_5001, al_5002, al_5003, al_5004, al_5005, al_5006, al_5007, al_5008, al_5009, al_5010, al_5011, al_5012, al_5013, al_5014, al_5015, al_5016, al_5017, al_5018, al_5019, al_5020, al_5021, al_5022, al_5023, al_5024, al_5025, al_5026, al_9000, al_101, al_102, al_104, al_105, al_107, al_108, al_110, al_111, vcs_e, lg_c0, lg_cs, lg_nil, set_c0, set_cs, okst_0, okst_s, acok_n, acok_c, List.contains_nil, List.contains_cons, Bool.or_false, Bool.false_or, Bool.false_eq_true, if_false, if_true, ite_self, ne_eq, true_and, and_true, not_false_eq_true, not_true_eq_false, false_imp_iff, true_imp_iff, Nat.ble_eq, Bool.and_eq_true, reduceCtorEq, or_false, false_or, or_true, true_or, false_and, and_false, and_self, Int.reduceLE, Int.reduceAdd, Int.reduceSub, Int.reduceMul, Int.reduceNeg, Int.reduceLT, Int.reduceEq, Int.reduceNe, Nat.reduceBEq, Nat.reduceBNe, Nat.reduceEqDiff, amCmp_in, amCmp_lt, amCmp_le, amCmp_gt, amCmp_ge, amCmp_eq, amCmp_ne, Nat.reduceLeDiff, Nat.reduceSub, Bool.and_true, Bool.true_and, Bool.and_self, Bool.or_true, Bool.true_or, isRf_3, isRf_4, isRf_5, isRf_8, isRf_9, isRf_10, isRf_11, isRf_15, isRf_16, isRf_17, isRf_18, isRf_19, isRf_20, isRf_21, isRf_22, isRf_23, isRf_24, isRf_25, isRf_26, isRf_27, isRf_28, k_X11_image_0, k_X11_image_1, k_X11_image_4, k_X11_image_7, k_X11_image_10, k_X11_image_11, k_X11_image_12, k_X11_image_13, k_X11_image_16, k_X11_image_17, k_X11_image_20, k_X11_image_23, k_X11_image_24, k_X11_image_27, k_X11_image_30, w_X5_keepImage_e, w_X6_isTold_e, up_s, up_nj, up_na, up_up, savR_o, cpy_o, fillm_o, setAud_o, setv_o, setv_s, Int.reduceNe, Int.reduceEq, Int.reduceLT, Int.reduceAdd, not_false_eq_true, ne_eq, or_true, true_or]
  by_cases d : 0 < pcnt σ 6 2
  · rw [if_pos d]
    have hh := h2 d
    repeat' (first | assumption | apply And.intro | intro _)
    all_goals first | omega | exact absurd trivial (by assumption) | exact isP6 | exact hh | (rw [e1]; exact hh)
  · rw [if_neg d]
    repeat' (first | assumption | apply And.intro | intro _)
    all_goals first | omega | exact absurd trivial (by assumption) | exact isP6 | exact h1 (by omega)
theorem wd_1211 : Cond.methodLink RX11 392 yX5_bringBack ∈ TBL := tb_tab (List.mem_of_getElem? (i := 1211) (by decide +kernel)) rfl
theorem wd_1214 : Cond.code yX5_bringBack cX5_bringBack 2 (some .boolean) ∈ TBL := tb_tab (List.mem_of_getElem? (i := 1214) (by decide +kernel)) rfl
theorem lk_X11_392 : amLk RX11 392 yX5_bringBack cX5_bringBack 2 (some .boolean) 1 := ⟨wd_1211, wd_8, wd_1214, by decide +kernel, by decide +kernel, by decide⟩
theorem wd_1212 : Cond.instanceMethod yX5_bringBack ∈ TBL := tb_tab (List.mem_of_getElem? (i := 1212) (by decide +kernel)) rfl
theorem wd_1213 : Cond.selects RX5 yX5_bringBack yX5_bringBack ∈ TBL := tb_tab (List.mem_of_getElem? (i := 1213) (by decide +kernel)) rfl
def a_X11_back : AC := [(0, vAload 0 1), (1, vGetR TT 27 13 21 4), (4, vAload 0 5), (5, vGetR TT 27 10 16 8), (8, vCallM w_X5_bringBack 21 1 11), (11, vIfEq 24 14), (14, vAload 0 15), (15, vGetR TT 27 10 16 18), (18, vGetI 16 6 21), (21, vGoto 25), (24, vI (-1) 25), (25, vIret)]
theorem k_X11_back_0 : look a_X11_back 0 = vAload 0 1 := rfl
theorem k_X11_back_1 : look a_X11_back 1 = vGetR TT 27 13 21 4 := rfl
theorem k_X11_back_4 : look a_X11_back 4 = vAload 0 5 := rfl
theorem k_X11_back_5 : look a_X11_back 5 = vGetR TT 27 10 16 8 := rfl
theorem k_X11_back_8 : look a_X11_back 8 = vCallM w_X5_bringBack 21 1 11 := rfl
theorem k_X11_back_11 : look a_X11_back 11 = vIfEq 24 14 := rfl
theorem k_X11_back_14 : look a_X11_back 14 = vAload 0 15 := rfl
theorem k_X11_back_15 : look a_X11_back 15 = vGetR TT 27 10 16 18 := rfl
theorem k_X11_back_18 : look a_X11_back 18 = vGetI 16 6 21 := rfl
theorem k_X11_back_21 : look a_X11_back 21 = vGoto 25 := rfl
theorem k_X11_back_24 : look a_X11_back 24 = vI (-1) 25 := rfl
theorem k_X11_back_25 : look a_X11_back 25 = vIret := rfl
theorem o_X11_back {X : amX} (e1 : XT X = TT) (e2 : XD X = 3) (hB : amB X RX11 cX11_back (some .int) 1) : ∀ pc, amOK X pc (look a_X11_back pc) := by
  have hT : amTok (XT X) := e1 ▸ TT_ok
  refine look_ok ?_
  unfold a_X11_back
  refine fc (ok_aload_n hB dX11_back_0) ?_
  refine fc (okt_getR e1 hB hT fl_X11_84 rfl af_11_13 at_11_13 (by decide) dX11_back_1) ?_
  refine fc (ok_aload_n hB dX11_back_4) ?_
  refine fc (okt_getR e1 hB hT fl_X11_65 rfl af_11_10 at_11_10 (by decide) dX11_back_5) ?_
  refine fc (ok_callM hB hT (e1 ▸ s_X5_bringBack) lk_X11_392 (by rw [e2]; decide) (c := 5) rfl rfl rfl wd_1212 wd_1213 dX11_back_8) ?_
  refine fc (ok_if_eq hB (t := 24) (by decide) dX11_back_11) ?_
  refine fc (ok_aload_n hB dX11_back_14) ?_
  refine fc (okt_getR e1 hB hT fl_X11_65 rfl af_11_10 at_11_10 (by decide) dX11_back_15) ?_
  refine fc (ok_getI hB hT fl_X11_246 rfl rfl (Or.inl af_0_6) dX11_back_18) ?_
  refine fc (ok_goto hB (t := 25) (by decide) dX11_back_21) ?_
  refine fc (ok_iconst hB dX11_back_24) ?_
  refine fc (ok_iret hB dX11_back_25) ?_
  exact fn

def w_X11_back : WP := fun av σ Q => av = [(27, 0)] ∧ ((σ 31 8 = 0 ∨ σ 31 8 = 1) ∧ (σ 31 8 = 0 → Q (0, -1) σ) ∧ (σ 31 8 = 1 → Q (0, σ 34 26) (up (up (cpy (setAud σ 16 (fun k => σ 34 (0 + k))) 35 0 32 0 60) 31 1 (σ 31 7)) 31 3 0)))
theorem w_X11_back_e  (σ : Mem) (Q : AV → Mem → Prop) : w_X11_back [(27, 0)] σ Q = ((σ 31 8 = 0 ∨ σ 31 8 = 1) ∧ (σ 31 8 = 0 → Q (0, -1) σ) ∧ (σ 31 8 = 1 → Q (0, σ 34 26) (up (up (cpy (setAud σ 16 (fun k => σ 34 (0 + k))) 35 0 32 0 60) 31 1 (σ 31 7)) 31 3 0))) := by
  apply propext; constructor
  · rintro ⟨h9, hb9⟩; cases h9; exact hb9
  · intro hb9; exact ⟨rfl, hb9⟩

set_option maxRecDepth 100000 in
set_option maxHeartbeats 4000000 in
theorem s_X11_back : ∀ av σ Q, w_X11_back av σ Q → amCall 3 0 0 TT yX11_back cX11_back 1 (some .int) av σ Q := by
  rintro av σ Q ⟨rfl, h0, h1, h2⟩
  have e1 : up (up (cpy (setAud σ 16 (fun k => σ 34 (0 + k))) 35 0 32 0 60) 31 1 (σ 31 7)) 31 3 0 16 6 = σ 34 26 := by
    rw [up_na _ (by decide), up_na _ (by decide), cpy_o _ (by decide)]
    have := aud_set σ 16 (fun k => σ 34 (0 + k)) (k := 26) (by decide) (by decide)
    rw [show aud (setAud σ 16 (fun k => σ 34 (0 + k))) 16 26 = setAud σ 16 (fun k => σ 34 (0 + k)) 16 6 from aud_5 _ 16 6 (by decide)] at this
    exact this
  refine am_m0 (own := RX11) (A := look a_X11_back) (fun X e1 e2 hB => o_X11_back e1 e2 hB) rfl (by decide +kernel) rfl rfl 190 (w := 1) ?_
  change vcs _ _ _ _ 190 0 [(27, 0)] [] σ
  simp only [↓reduceIte, inR_0, inR_1, inR_m, vSw2_e, swP_n, swP_c, vI_e, vL_e, vNull_e, vIload_e, vLload_e, vAload_e, vIstore_e, vLstore_e, vAstore_e, vIinc_e, vIadd_e, vIsub_e, vImul_e, vIand_e, vIor_e, vIxor_e, vIshl_e, vIshr_e, vIushr_e, vIdiv_e, vIrem_e, vLadd_e, vLsub_e, vLmul_e, vLand_e, vLor_e, vLxor_e, vLdiv_e, vLrem_e, vLushr_e, vLshl_e, vLcmp_e, vIneg_e, vI2l_e, vL2i_e, vI2b_e, vI2c_e, vDup_e, vPop_e, vDup2_e, vGoto_e, vIcEq_e, vIfEq_e, vIcNe_e, vIfNe_e, vIcLt_e, vIfLt_e, vIcGe_e, vIfGe_e, vIcGt_e, vIfGt_e, vIcLe_e, vIfLe_e, vNonnull_e, vSw_e, vGetI_e, vGetL_e, vGetR_e, vPutI_e, vPutZ_e, vPutL_e, vPutR_e, vIald_e, vIald_s, vLald_e, vBald_e, vBald_s, vAald_e, vIast_e, vLast_e, vBast_e, vAast_e, vAlen_e8, vAlen_e9, vAlen_e10, vAlen_e11, vAlen_e5, vAlen_e3, vGets_e, vCompact_e, vLdcS_e, vIret_e, vZret_e, vCret_e, vBret_e, vLret_e, vVret_e, vAret_e, vCallM_e0, vCallMV_e0, vCallS_e0, vCallSV_e0, vCallM_e1, vCallMV_e1, vCallS_e1, vCallSV_e1, vCallM_e2, vCallMV_e2, vCallS_e2, vCallSV_e2, vCallM_e3, vCallMV_e3, vCallS_e3, vCallSV_e3, vCallM_e4, vCallMV_e4, vCallS_e4, vCallSV_e4, vCallM_e5, vCallMV_e5, vCallS_e5, vCallSV_e5, vCallM_e6, vCallMV_e6, vCallS_e6, vCallSV_e6, vCallM_e7, vCallMV_e7, vCallS_e7, vCallSV_e7, vBad_e, vStrVal_e, vStrCod_e, vForm_e, vCallT_e0, vCallT_e1, vCallT_e2, vCopy_e, rf_0_0, rf_0_1, rf_0_2, rf_0_3, rf_0_4, rf_0_7, rf_0_10, rf_0_11, rf_0_12, rf_0_13, rf_0_14, rf_0_15, rf_0_16, rf_1_0, rf_3_0, rf_3_1, rf_6_0, rf_6_1, rf_9_0, rf_9_1, rf_9_3, rf_13_0, rf_13_1, rf_13_2, rf_16_0, rf_16_1, rf_16_2, rf_16_3, rf_21_0, rf_21_1, rf_21_2, rf_21_3, rf_26_0, rf_26_1, rf_26_2, rf_26_3, rf_26_4, rf_26_5, rf_26_6, rf_31_0, rf_31_2, rf_31_5, rf_31_6, rf_36_0, rf_36_1, rf_36_2, rf_36_3, rf_39_0, rf_39_1, rf_39_2, rf_41_0, rf_41_1, rf_41_2, rf_41_3, rf_5000_1, rf_5000_2, rf_5000_3, rf_5000_4, rf_5000_5, rf_5000_15, rf_5000_16, rf_5000_18, rf_5000_19, rf_5000_20, rf_5000_21, rf_5000_22, rf_5000_23, rf_5000_24, rf_5000_25, rf_5000_26, rf_5000_27, rf_5000_36, rf_5000_37, rf_5000_40, rf_5000_41, rf_5000_42, rf_5000_43, rf_5000_44, rf_5000_45, rf_5000_47, rf_5000_52, rf_5000_54, rf_5000_55, rf_100_0, rf_100_1, rf_103_0, rf_103_1, rf_106_0, rf_106_1, rf_109_0, rf_109_1, al_2, al_4, al_5, al_7, al_8, al_10, al_11, al_12, al_14, al_15, al_17, al_18, al_19, al_20, al_22, al_23, al_24, al_25, al_27, al_28, al_29, al_30, al_32, al_33, al_34, al_35, al_37, al_38, al_40, al_42, al_5001, al_5002, al_5003, al_5004, al_5005, al_5006, al_5007, al_5008, al_5009, al_5010, al_5011, al_5012, al_5013, al_5014, al_5015, al_5016, al_5017, al_5018, al_5019, al_5020, al_5021, al_5022, al_5023, al_5024, al_5025, al_5026, al_9000, al_101, al_102, al_104, al_105, al_107, al_108, al_110, al_111, vcs_e, lg_c0, lg_cs, lg_nil, set_c0, set_cs, okst_0, okst_s, acok_n, acok_c, List.contains_nil, List.contains_cons, Bool.or_false, Bool.false_or, Bool.false_eq_true, if_false, if_true, ite_self, ne_eq, true_and, and_true, not_false_eq_true, not_true_eq_false, false_imp_iff, true_imp_iff, Nat.ble_eq, Bool.and_eq_true, reduceCtorEq, or_false, false_or, or_true, true_or, false_and, and_false, and_self, Int.reduceLE, Int.reduceAdd, Int.reduceSub, Int.reduceMul, Int.reduceNeg, Int.reduceLT, Int.reduceEq, Int.reduceNe, Nat.reduceBEq, Nat.reduceBNe, Nat.reduceEqDiff, amCmp_in, amCmp_lt, amCmp_le, amCmp_gt, amCmp_ge, amCmp_eq, amCmp_ne, Nat.reduceLeDiff, Nat.reduceSub, Bool.and_true, Bool.true_and, Bool.and_self, Bool.or_true, Bool.true_or, isRf_3, isRf_4, isRf_5, isRf_8, isRf_9, isRf_10, isRf_11, isRf_15, isRf_16, isRf_17, isRf_18, isRf_19, isRf_20, isRf_21, isRf_22, isRf_23, isRf_24, isRf_25, isRf_26, isRf_27, isRf_28, k_X11_back_0, k_X11_back_1, k_X11_back_4, k_X11_back_5, k_X11_back_8, k_X11_back_11, k_X11_back_14, k_X11_back_15, k_X11_back_18, k_X11_back_21, k_X11_back_24, k_X11_back_25, w_X5_bringBack_e, up_s, up_nj, up_na, up_up, savR_o, cpy_o, fillm_o, setAud_o, setv_o, setv_s, Int.reduceNe, Int.reduceEq, Int.reduceLT, Int.reduceAdd, not_false_eq_true, ne_eq, or_true, true_or]
  by_cases d : σ 31 8 = 0
  · rw [if_pos d]
    repeat' (first | assumption | apply And.intro | intro _)
    all_goals first | omega | exact absurd trivial (by assumption) | exact h1 d
  · rw [if_neg d]
    have hh := h2 (by omega)
    repeat' (first | assumption | apply And.intro | intro _)
    all_goals first | omega | exact absurd trivial (by assumption) | exact hh | (rw [e1]; exact hh)
def a_X11_canMatch : AC := [(0, vAload 0 1), (1, vGetR TT 27 2 22 4), (4, vI 2 5), (5, vIload 1 6), (6, vCallM w_X6_has 22 2 9), (9, vIfEq 45 12), (12, vAload 0 13), (13, vGetR TT 27 2 22 16), (16, vI 2 17), (17, vIload 2 18), (18, vCallM w_X6_has 22 2 21), (21, vIfEq 45 24), (24, vIload 1 25), (25, vIload 2 26), (26, vIcEq 45 29), (29, vAload 0 30), (30, vGetR TT 27 2 22 33), (33, vI 1 34), (34, vIload 3 35), (35, vCallM w_X6_has 22 2 38), (38, vIfEq 45 41), (41, vI 1 42), (42, vGoto 46), (45, vI 0 46), (46, vZret)]
theorem k_X11_canMatch_0 : look a_X11_canMatch 0 = vAload 0 1 := rfl
theorem k_X11_canMatch_1 : look a_X11_canMatch 1 = vGetR TT 27 2 22 4 := rfl
theorem k_X11_canMatch_4 : look a_X11_canMatch 4 = vI 2 5 := rfl
theorem k_X11_canMatch_5 : look a_X11_canMatch 5 = vIload 1 6 := rfl
theorem k_X11_canMatch_6 : look a_X11_canMatch 6 = vCallM w_X6_has 22 2 9 := rfl
theorem k_X11_canMatch_9 : look a_X11_canMatch 9 = vIfEq 45 12 := rfl
theorem k_X11_canMatch_12 : look a_X11_canMatch 12 = vAload 0 13 := rfl
theorem k_X11_canMatch_13 : look a_X11_canMatch 13 = vGetR TT 27 2 22 16 := rfl
theorem k_X11_canMatch_16 : look a_X11_canMatch 16 = vI 2 17 := rfl
theorem k_X11_canMatch_17 : look a_X11_canMatch 17 = vIload 2 18 := rfl
theorem k_X11_canMatch_18 : look a_X11_canMatch 18 = vCallM w_X6_has 22 2 21 := rfl
theorem k_X11_canMatch_21 : look a_X11_canMatch 21 = vIfEq 45 24 := rfl
theorem k_X11_canMatch_24 : look a_X11_canMatch 24 = vIload 1 25 := rfl
theorem k_X11_canMatch_25 : look a_X11_canMatch 25 = vIload 2 26 := rfl
theorem k_X11_canMatch_26 : look a_X11_canMatch 26 = vIcEq 45 29 := rfl
theorem k_X11_canMatch_29 : look a_X11_canMatch 29 = vAload 0 30 := rfl
theorem k_X11_canMatch_30 : look a_X11_canMatch 30 = vGetR TT 27 2 22 33 := rfl
theorem k_X11_canMatch_33 : look a_X11_canMatch 33 = vI 1 34 := rfl
theorem k_X11_canMatch_34 : look a_X11_canMatch 34 = vIload 3 35 := rfl
theorem k_X11_canMatch_35 : look a_X11_canMatch 35 = vCallM w_X6_has 22 2 38 := rfl
theorem k_X11_canMatch_38 : look a_X11_canMatch 38 = vIfEq 45 41 := rfl
theorem k_X11_canMatch_41 : look a_X11_canMatch 41 = vI 1 42 := rfl
theorem k_X11_canMatch_42 : look a_X11_canMatch 42 = vGoto 46 := rfl
theorem k_X11_canMatch_45 : look a_X11_canMatch 45 = vI 0 46 := rfl
theorem k_X11_canMatch_46 : look a_X11_canMatch 46 = vZret := rfl
theorem o_X11_canMatch {X : amX} (e1 : XT X = TT) (e2 : XD X = 3) (hB : amB X RX11 cX11_canMatch (some .boolean) 4) : ∀ pc, amOK X pc (look a_X11_canMatch pc) := by
  have hT : amTok (XT X) := e1 ▸ TT_ok
  refine look_ok ?_
  unfold a_X11_canMatch
  refine fc (ok_aload_n hB dX11_canMatch_0) ?_
  refine fc (okt_getR e1 hB hT fl_X11_23 rfl af_11_2 at_11_2 (by decide) dX11_canMatch_1) ?_
  refine fc (ok_iconst hB dX11_canMatch_4) ?_
  refine fc (ok_iload_n hB dX11_canMatch_5) ?_
  refine fc (ok_callM hB hT (e1 ▸ s_X6_has) lk_X11_174 (by rw [e2]; decide) (c := 6) rfl rfl rfl wd_729 wd_730 dX11_canMatch_6) ?_
  refine fc (ok_if_eq hB (t := 45) (by decide) dX11_canMatch_9) ?_
  refine fc (ok_aload_n hB dX11_canMatch_12) ?_
  refine fc (okt_getR e1 hB hT fl_X11_23 rfl af_11_2 at_11_2 (by decide) dX11_canMatch_13) ?_
  refine fc (ok_iconst hB dX11_canMatch_16) ?_
  refine fc (ok_iload_n hB dX11_canMatch_17) ?_
  refine fc (ok_callM hB hT (e1 ▸ s_X6_has) lk_X11_174 (by rw [e2]; decide) (c := 6) rfl rfl rfl wd_729 wd_730 dX11_canMatch_18) ?_
  refine fc (ok_if_eq hB (t := 45) (by decide) dX11_canMatch_21) ?_
  refine fc (ok_iload_n hB dX11_canMatch_24) ?_
  refine fc (ok_iload_n hB dX11_canMatch_25) ?_
  refine fc (ok_icmp_eq hB (t := 45) (by decide) dX11_canMatch_26) ?_
  refine fc (ok_aload_n hB dX11_canMatch_29) ?_
  refine fc (okt_getR e1 hB hT fl_X11_23 rfl af_11_2 at_11_2 (by decide) dX11_canMatch_30) ?_
  refine fc (ok_iconst hB dX11_canMatch_33) ?_
  refine fc (ok_iload_n hB dX11_canMatch_34) ?_
  refine fc (ok_callM hB hT (e1 ▸ s_X6_has) lk_X11_174 (by rw [e2]; decide) (c := 6) rfl rfl rfl wd_729 wd_730 dX11_canMatch_35) ?_
  refine fc (ok_if_eq hB (t := 45) (by decide) dX11_canMatch_38) ?_
  refine fc (ok_iconst hB dX11_canMatch_41) ?_
  refine fc (ok_goto hB (t := 46) (by decide) dX11_canMatch_42) ?_
  refine fc (ok_iconst hB dX11_canMatch_45) ?_
  refine fc (ok_zret hB dX11_canMatch_46) ?_
  exact fn

def w_X11_canMatch : WP := fun av σ Q => ∃ (o : Int) (r : Int) (p : Int), av = [(27, 0), (0, o), (0, r), (0, p)] ∧ (InR o ∧ InR r ∧ InR p ∧ planB σ 6 ∧ Q (0, if (0 ≤ o ∧ o < pcnt σ 6 2) ∧ (0 ≤ r ∧ r < pcnt σ 6 2) ∧ o ≠ r ∧ 0 ≤ p ∧ p < pcnt σ 6 1 then 1 else 0) σ)
theorem w_X11_canMatch_e (o : Int) (r : Int) (p : Int) (σ : Mem) (Q : AV → Mem → Prop) : w_X11_canMatch [(27, 0), (0, o), (0, r), (0, p)] σ Q = (InR o ∧ InR r ∧ InR p ∧ planB σ 6 ∧ Q (0, if (0 ≤ o ∧ o < pcnt σ 6 2) ∧ (0 ≤ r ∧ r < pcnt σ 6 2) ∧ o ≠ r ∧ 0 ≤ p ∧ p < pcnt σ 6 1 then 1 else 0) σ) := by
  apply propext; constructor
  · rintro ⟨o', r', p', h9, hb9⟩; cases h9; exact hb9
  · intro hb9; exact ⟨o, r, p, rfl, hb9⟩

set_option maxRecDepth 100000 in
set_option maxHeartbeats 4000000 in
theorem s_X11_canMatch : ∀ av σ Q, w_X11_canMatch av σ Q → amCall 3 0 0 TT yX11_canMatch cX11_canMatch 4 (some .boolean) av σ Q := by
  rintro av σ Q ⟨o, r, p, rfl, ho, hr, hp, hB, h⟩
  have c1 := pcnt_b hB 1
  have c2 := pcnt_b hB 2
  refine am_m0 (own := RX11) (A := look a_X11_canMatch) (fun X e1 e2 hB => o_X11_canMatch e1 e2 hB) rfl (by decide +kernel) rfl rfl 190 (w := 4) ?_
  change vcs _ _ _ _ 190 0 [(27, 0), (0, o), (0, r), (0, p)] [] σ
  simp only [↓reduceIte, inR_0, inR_1, inR_m, vSw2_e, swP_n, swP_c, vI_e, vL_e, vNull_e, vIload_e, vLload_e, vAload_e, vIstore_e, vLstore_e, vAstore_e, vIinc_e, vIadd_e, vIsub_e, vImul_e, vIand_e, vIor_e, vIxor_e, vIshl_e, vIshr_e, vIushr_e, vIdiv_e, vIrem_e, vLadd_e, vLsub_e, vLmul_e, vLand_e, vLor_e, vLxor_e, vLdiv_e, vLrem_e, vLushr_e, vLshl_e, vLcmp_e, vIneg_e, vI2l_e, vL2i_e, vI2b_e, vI2c_e, vDup_e, vPop_e, vDup2_e, vGoto_e, vIcEq_e, vIfEq_e, vIcNe_e, vIfNe_e, vIcLt_e, vIfLt_e, vIcGe_e, vIfGe_e, vIcGt_e, vIfGt_e, vIcLe_e, vIfLe_e, vNonnull_e, vSw_e, vGetI_e, vGetL_e, vGetR_e, vPutI_e, vPutZ_e, vPutL_e, vPutR_e, vIald_e, vIald_s, vLald_e, vBald_e, vBald_s, vAald_e, vIast_e, vLast_e, vBast_e, vAast_e, vAlen_e8, vAlen_e9, vAlen_e10, vAlen_e11, vAlen_e5, vAlen_e3, vGets_e, vCompact_e, vLdcS_e, vIret_e, vZret_e, vCret_e, vBret_e, vLret_e, vVret_e, vAret_e, vCallM_e0, vCallMV_e0, vCallS_e0, vCallSV_e0, vCallM_e1, vCallMV_e1, vCallS_e1, vCallSV_e1, vCallM_e2, vCallMV_e2, vCallS_e2, vCallSV_e2, vCallM_e3, vCallMV_e3, vCallS_e3, vCallSV_e3, vCallM_e4, vCallMV_e4, vCallS_e4, vCallSV_e4, vCallM_e5, vCallMV_e5, vCallS_e5, vCallSV_e5, vCallM_e6, vCallMV_e6, vCallS_e6, vCallSV_e6, vCallM_e7, vCallMV_e7, vCallS_e7, vCallSV_e7, vBad_e, vStrVal_e, vStrCod_e, vForm_e, vCallT_e0, vCallT_e1, vCallT_e2, vCopy_e, rf_0_0, rf_0_1, rf_0_2, rf_0_3, rf_0_4, rf_0_7, rf_0_10, rf_0_11, rf_0_12, rf_0_13, rf_0_14, rf_0_15, rf_0_16, rf_1_0, rf_3_0, rf_3_1, rf_6_0, rf_6_1, rf_9_0, rf_9_1, rf_9_3, rf_13_0, rf_13_1, rf_13_2, rf_16_0, rf_16_1, rf_16_2, rf_16_3, rf_21_0, rf_21_1, rf_21_2, rf_21_3, rf_26_0, rf_26_1, rf_26_2, rf_26_3, rf_26_4, rf_26_5, rf_26_6, rf_31_0, rf_31_2, rf_31_5, rf_31_6, rf_36_0, rf_36_1, rf_36_2, rf_36_3, rf_39_0, rf_39_1, rf_39_2, rf_41_0, rf_41_1, rf_41_2, rf_41_3, rf_5000_1, rf_5000_2, rf_5000_3, rf_5000_4, rf_5000_5, rf_5000_15, rf_5000_16, rf_5000_18, rf_5000_19, rf_5000_20, rf_5000_21, rf_5000_22, rf_5000_23, rf_5000_24, rf_5000_25, rf_5000_26, rf_5000_27, rf_5000_36, rf_5000_37, rf_5000_40, rf_5000_41, rf_5000_42, rf_5000_43, rf_5000_44, rf_5000_45, rf_5000_47, rf_5000_52, rf_5000_54, rf_5000_55, rf_100_0, rf_100_1, rf_103_0, rf_103_1, rf_106_0, rf_106_1, rf_109_0, rf_109_1, al_2, al_4, al_5, al_7, al_8, al_10, al_11, al_12, al_14, al_15, al_17, al_18, al_19, al_20, al_22, al_23, al_24, al_25, al_27, al_28, al_29, al_30, al_32, al_33, al_34, al_35, al_37, al_38, al_40, al_42, al_5001, al_5002, al_5003, al_5004, al_5005, al_5006, al_5007, al_5008, al_5009, al_5010, al_5011, al_5012, al_5013, al_5014, al_5015, al_5016, al_5017, al_5018, al_5019, al_5020, al_5021, al_5022, al_5023, al_5024, al_5025, al_5026, al_9000, al_101, al_102, al_104, al_105, al_107, al_108, al_110, al_111, vcs_e, lg_c0, lg_cs, lg_nil, set_c0, set_cs, okst_0, okst_s, acok_n, acok_c, List.contains_nil, List.contains_cons, Bool.or_false, Bool.false_or, Bool.false_eq_true, if_false, if_true, ite_self, ne_eq, true_and, and_true, not_false_eq_true, not_true_eq_false, false_imp_iff, true_imp_iff, Nat.ble_eq, Bool.and_eq_true, reduceCtorEq, or_false, false_or, or_true, true_or, false_and, and_false, and_self, Int.reduceLE, Int.reduceAdd, Int.reduceSub, Int.reduceMul, Int.reduceNeg, Int.reduceLT, Int.reduceEq, Int.reduceNe, Nat.reduceBEq, Nat.reduceBNe, Nat.reduceEqDiff, amCmp_in, amCmp_lt, amCmp_le, amCmp_gt, amCmp_ge, amCmp_eq, amCmp_ne, Nat.reduceLeDiff, Nat.reduceSub, Bool.and_true, Bool.true_and, Bool.and_self, Bool.or_true, Bool.true_or, isRf_3, isRf_4, isRf_5, isRf_8, isRf_9, isRf_10, isRf_11, isRf_15, isRf_16, isRf_17, isRf_18, isRf_19, isRf_20, isRf_21, isRf_22, isRf_23, isRf_24, isRf_25, isRf_26, isRf_27, isRf_28, k_X11_canMatch_0, k_X11_canMatch_1, k_X11_canMatch_4, k_X11_canMatch_5, k_X11_canMatch_6, k_X11_canMatch_9, k_X11_canMatch_12, k_X11_canMatch_13, k_X11_canMatch_16, k_X11_canMatch_17, k_X11_canMatch_18, k_X11_canMatch_21, k_X11_canMatch_24, k_X11_canMatch_25, k_X11_canMatch_26, k_X11_canMatch_29, k_X11_canMatch_30, k_X11_canMatch_33, k_X11_canMatch_34, k_X11_canMatch_35, k_X11_canMatch_38, k_X11_canMatch_41, k_X11_canMatch_42, k_X11_canMatch_45, k_X11_canMatch_46, w_X6_has_e, up_s, up_nj, up_na, up_up, savR_o, cpy_o, fillm_o, setAud_o, setv_o, setv_s, Int.reduceNe, Int.reduceEq, Int.reduceLT, Int.reduceAdd, not_false_eq_true, ne_eq, or_true, true_or]
  by_cases d1 : 0 ≤ o ∧ o < pcnt σ 6 2
  · rw [if_pos d1]
    by_cases d2 : 0 ≤ r ∧ r < pcnt σ 6 2
    · rw [if_pos d2]
      by_cases d3 : 0 ≤ p ∧ p < pcnt σ 6 1
      · rw [if_pos d3]
        by_cases d4 : o = r
        · rw [if_neg (fun q => q.2.2.1 d4)] at h
          repeat' (first | assumption | apply And.intro | intro _)
          all_goals first | omega | exact absurd trivial (by assumption) | exact isP6 | exact h
        · rw [if_pos ⟨d1, d2, d4, d3⟩] at h
          repeat' (first | assumption | apply And.intro | intro _)
          all_goals first | omega | exact absurd trivial (by assumption) | exact isP6 | exact h
      · rw [if_neg d3]
        rw [if_neg (fun q => d3 q.2.2.2)] at h
        repeat' (first | assumption | apply And.intro | intro _)
        all_goals first | omega | exact absurd trivial (by assumption) | exact isP6 | exact h
    · rw [if_neg d2]
      rw [if_neg (fun q => d2 q.2.1)] at h
      repeat' (first | assumption | apply And.intro | intro _)
      all_goals first | omega | exact absurd trivial (by assumption) | exact isP6 | exact h
  · rw [if_neg d1]
    rw [if_neg (fun q => d1 q.1)] at h
    repeat' (first | assumption | apply And.intro | intro _)
    all_goals first | omega | exact absurd trivial (by assumption) | exact isP6 | exact h
