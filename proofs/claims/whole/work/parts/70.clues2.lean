/-! Clues: WHOSE, FOLLOWING -/
theorem fitP_LF {σ τ : Mem} (h : LF σ τ) (hl : lawOk σ) (c t n : Int) : fitP τ c t n ↔ fitP σ c t n := by
  unfold fitP
  rw [h 42 (by decide) (by decide) (by decide) (by decide) (by decide)]
  simp only [whF_SF (LF_SF h) hl]
theorem cluOk_LF {σ τ : Mem} (h : LF σ τ) (hc : cluOk σ) : cluOk τ := by
  unfold cluOk
  rw [h 42 (by decide) (by decide) (by decide) (by decide) (by decide), h 41 (by decide) (by decide) (by decide) (by decide) (by decide)]
  exact hc
noncomputable def fitB (σ : Mem) (c t : Int) : Bool := @decide (fitP σ c t (σ 41 4)) (Classical.propDecidable _)
theorem fitB_t {σ : Mem} {c t : Int} : fitB σ c t = true ↔ fitP σ c t (σ 41 4) := by unfold fitB; exact @decide_eq_true_iff _ (Classical.propDecidable _)

theorem wd_1058 : Cond.methodLink RX1 61 yX1_fits ∈ TBL := tb_tab (List.mem_of_getElem? (i := 1058) (by decide +kernel)) rfl
theorem wd_1061 : Cond.code yX1_fits cX1_fits 5 (some .boolean) ∈ TBL := tb_tab (List.mem_of_getElem? (i := 1061) (by decide +kernel)) rfl
theorem lk_X1_61 : amLk RX1 61 yX1_fits cX1_fits 5 (some .boolean) 2 := ⟨wd_1058, wd_11, wd_1061, by decide +kernel, by decide +kernel, by decide⟩
theorem wd_1060 : Cond.instanceMethod yX1_fits ∈ TBL := tb_tab (List.mem_of_getElem? (i := 1060) (by decide +kernel)) rfl
theorem sl_X1_fits : Cond.selects RX1 yX1_fits yX1_fits ∈ TBL := tb_sel (List.mem_of_getElem? (i := 34) (by decide +kernel)) rfl
def a_X1_suspects : AC := [(0, vI 0 1), (1, vIstore 2 2), (2, vI 0 3), (3, vIstore 3 4), (4, vIload 3 5), (5, vAload 0 6), (6, vGetR TT 17 0 22 9), (9, vI 3 10), (10, vCallM w_X6_many 22 1 13), (13, vIcGe 37 16), (16, vAload 0 17), (17, vIload 1 18), (18, vIload 3 19), (19, vCallM w_X1_fits 17 2 22), (22, vIfEq 31 25), (25, vIload 2 26), (26, vI 1 27), (27, vIload 3 28), (28, vIshl 29), (29, vIor 30), (30, vIstore 2 31), (31, vIinc 3 1 34), (34, vGoto 4), (37, vIload 2 38), (38, vIret)]
theorem k_X1_suspects_0 : look a_X1_suspects 0 = vI 0 1 := rfl
theorem k_X1_suspects_1 : look a_X1_suspects 1 = vIstore 2 2 := rfl
theorem k_X1_suspects_2 : look a_X1_suspects 2 = vI 0 3 := rfl
theorem k_X1_suspects_3 : look a_X1_suspects 3 = vIstore 3 4 := rfl
theorem k_X1_suspects_4 : look a_X1_suspects 4 = vIload 3 5 := rfl
theorem k_X1_suspects_5 : look a_X1_suspects 5 = vAload 0 6 := rfl
theorem k_X1_suspects_6 : look a_X1_suspects 6 = vGetR TT 17 0 22 9 := rfl
theorem k_X1_suspects_9 : look a_X1_suspects 9 = vI 3 10 := rfl
theorem k_X1_suspects_10 : look a_X1_suspects 10 = vCallM w_X6_many 22 1 13 := rfl
theorem k_X1_suspects_13 : look a_X1_suspects 13 = vIcGe 37 16 := rfl
theorem k_X1_suspects_16 : look a_X1_suspects 16 = vAload 0 17 := rfl
theorem k_X1_suspects_17 : look a_X1_suspects 17 = vIload 1 18 := rfl
theorem k_X1_suspects_18 : look a_X1_suspects 18 = vIload 3 19 := rfl
theorem k_X1_suspects_19 : look a_X1_suspects 19 = vCallM w_X1_fits 17 2 22 := rfl
theorem k_X1_suspects_22 : look a_X1_suspects 22 = vIfEq 31 25 := rfl
theorem k_X1_suspects_25 : look a_X1_suspects 25 = vIload 2 26 := rfl
theorem k_X1_suspects_26 : look a_X1_suspects 26 = vI 1 27 := rfl
theorem k_X1_suspects_27 : look a_X1_suspects 27 = vIload 3 28 := rfl
theorem k_X1_suspects_28 : look a_X1_suspects 28 = vIshl 29 := rfl
theorem k_X1_suspects_29 : look a_X1_suspects 29 = vIor 30 := rfl
theorem k_X1_suspects_30 : look a_X1_suspects 30 = vIstore 2 31 := rfl
theorem k_X1_suspects_31 : look a_X1_suspects 31 = vIinc 3 1 34 := rfl
theorem k_X1_suspects_34 : look a_X1_suspects 34 = vGoto 4 := rfl
theorem k_X1_suspects_37 : look a_X1_suspects 37 = vIload 2 38 := rfl
theorem k_X1_suspects_38 : look a_X1_suspects 38 = vIret := rfl
theorem o_X1_suspects {X : amX} (e1 : XT X = TT) (e2 : XD X = 5) (hB : amB X RX1 cX1_suspects (some .int) 4) : ∀ pc, amOK X pc (look a_X1_suspects pc) := by
  have hT : amTok (XT X) := e1 ▸ TT_ok
  refine look_ok ?_
  unfold a_X1_suspects
  refine fc (ok_iconst hB dX1_suspects_0) ?_
  refine fc (ok_istore_n hB (by decide) dX1_suspects_1) ?_
  refine fc (ok_iconst hB dX1_suspects_2) ?_
  refine fc (ok_istore_n hB (by decide) dX1_suspects_3) ?_
  refine fc (ok_iload_n hB dX1_suspects_4) ?_
  refine fc (ok_aload_n hB dX1_suspects_5) ?_
  refine fc (okt_getR e1 hB hT fl_X1_19 rfl af_1_0 at_1_0 (by decide) dX1_suspects_6) ?_
  refine fc (ok_iconst hB dX1_suspects_9) ?_
  refine fc (ok_callM hB hT (e1 ▸ s_X6_many) lk_X1_37 (by rw [e2]; decide) (c := 6) rfl rfl rfl wd_557 wd_558 dX1_suspects_10) ?_
  refine fc (ok_icmp_ge hB (t := 37) (by decide) dX1_suspects_13) ?_
  refine fc (ok_aload_n hB dX1_suspects_16) ?_
  refine fc (ok_iload_n hB dX1_suspects_17) ?_
  refine fc (ok_iload_n hB dX1_suspects_18) ?_
  refine fc (ok_callM hB hT (e1 ▸ s_X1_fits) lk_X1_61 (by rw [e2]; decide) (c := 1) rfl rfl rfl wd_1060 sl_X1_fits dX1_suspects_19) ?_
  refine fc (ok_if_eq hB (t := 31) (by decide) dX1_suspects_22) ?_
  refine fc (ok_iload_n hB dX1_suspects_25) ?_
  refine fc (ok_iconst hB dX1_suspects_26) ?_
  refine fc (ok_iload_n hB dX1_suspects_27) ?_
  refine fc (ok_ishl hB dX1_suspects_28) ?_
  refine fc (ok_ior hB dX1_suspects_29) ?_
  refine fc (ok_istore_n hB (by decide) dX1_suspects_30) ?_
  refine fc (ok_iinc hB (by decide) dX1_suspects_31) ?_
  refine fc (ok_goto hB (t := 4) (by decide) dX1_suspects_34) ?_
  refine fc (ok_iload_n hB dX1_suspects_37) ?_
  refine fc (ok_iret hB dX1_suspects_38) ?_
  exact fn
def inv_susp (σ : Mem) (c : Int) (n pc : Nat) (ls st : List AV) (σ' : Mem) : Prop := pc = 4 ∧ st = [] ∧ LF σ σ' ∧ ∃ k : Nat, ls = [(17, 41), (0, c), (0, gb (fitB σ c) k), (0, (k : Int))] ∧ (k : Int) + n = pcnt σ 6 3
def w_X1_suspects : WP := fun av σ Q => ∃ (c : Int), av = [(17, 41), (0, c)] ∧ (0 ≤ c ∧ c < 6 ∧ stOk σ 16 ∧ (∀ i, 0 ≤ i → i < 6 → InR (σ 18 i)) ∧ cluOk σ ∧ (∀ τ, LF σ τ → Q (0, gb (fitB σ c) (pcnt σ 6 3).toNat) τ))
theorem w_X1_suspects_e (c : Int) (σ : Mem) (Q : AV → Mem → Prop) : w_X1_suspects [(17, 41), (0, c)] σ Q = (0 ≤ c ∧ c < 6 ∧ stOk σ 16 ∧ (∀ i, 0 ≤ i → i < 6 → InR (σ 18 i)) ∧ cluOk σ ∧ (∀ τ, LF σ τ → Q (0, gb (fitB σ c) (pcnt σ 6 3).toNat) τ)) := by
  apply propext; constructor
  · rintro ⟨c', h9, hb9⟩; cases h9; exact hb9
  · intro hb9; exact ⟨c, rfl, hb9⟩

set_option maxRecDepth 100000 in
set_option maxHeartbeats 4000000 in
theorem s_X1_suspects : ∀ av σ Q, w_X1_suspects av σ Q → amCall 5 0 0 TT yX1_suspects cX1_suspects 4 (some .int) av σ Q := by
  rintro av σ Q ⟨c, rfl, hc0, hc1, hst, hse, hcl, h⟩
  have hlw := hst.2.2.1
  have c3 := pcnt_b hst.2.1 3
  refine am_m [4] (inv_susp σ c) (own := RX1) (A := look a_X1_suspects) (fun X e1 e2 hB => o_X1_suspects e1 e2 hB) rfl (by decide +kernel) rfl rfl ?_ ⟨60, ?_⟩ (w := 4)
  · rintro n pc ls st σ' ⟨rfl, rfl, hF, k, rfl, hk⟩
    have hS := LF_SF hF
    have hst' := stOk_SF hS hst
    have r18 : σ' 18 = σ 18 := hF 18 (by decide) (by decide) (by decide) (by decide) (by decide)
    have r41 : σ' 41 = σ 41 := hF 41 (by decide) (by decide) (by decide) (by decide) (by decide)
    have pc3 : pcnt σ' 6 3 = pcnt σ 6 3 := SF_pcnt hS 3
    have hcl' := cluOk_LF hF hcl
    refine ⟨60, ?_⟩
    simp only [↓reduceIte, inR_0, inR_1, inR_m, vSw2_e, swP_n, swP_c, vI_e, vL_e, vNull_e, vIload_e, vLload_e, vAload_e, vIstore_e, vLstore_e, vAstore_e, vIinc_e, vIadd_e, vIsub_e, vImul_e, vIand_e, vIor_e, vIxor_e, vIshl_e, vIshr_e, vIushr_e, vIdiv_e, vIrem_e, vLadd_e, vLsub_e, vLmul_e, vLand_e, vLor_e, vLxor_e, vLdiv_e, vLrem_e, vLushr_e, vLshl_e, vLcmp_e, vIneg_e, vI2l_e, vL2i_e, vI2b_e, vI2c_e, vDup_e, vPop_e, vDup2_e, vGoto_e, vIcEq_e, vIfEq_e, vIcNe_e, vIfNe_e, vIcLt_e, vIfLt_e, vIcGe_e, vIfGe_e, vIcGt_e, vIfGt_e, vIcLe_e, vIfLe_e, vNonnull_e, vSw_e, vGetI_e, vGetL_e, vGetR_e, vPutI_e, vPutZ_e, vPutL_e, vPutR_e, vIald_e, vIald_s, vLald_e, vBald_e, vBald_s, vAald_e, vIast_e, vLast_e, vBast_e, vAast_e, vAlen_e8, vAlen_e9, vAlen_e10, vAlen_e11, vAlen_e5, vAlen_e3, vGets_e, vCompact_e, vLdcS_e, vIret_e, vZret_e, vCret_e, vBret_e, vLret_e, vVret_e, vAret_e, vCallM_e0, vCallMV_e0, vCallS_e0, vCallSV_e0, vCallM_e1, vCallMV_e1, vCallS_e1, vCallSV_e1, vCallM_e2, vCallMV_e2, vCallS_e2, vCallSV_e2, vCallM_e3, vCallMV_e3, vCallS_e3, vCallSV_e3, vCallM_e4, vCallMV_e4, vCallS_e4, vCallSV_e4, vCallM_e5, vCallMV_e5, vCallS_e5, vCallSV_e5, vCallM_e6, vCallMV_e6, vCallS_e6, vCallSV_e6, vCallM_e7, vCallMV_e7, vCallS_e7, vCallSV_e7, vBad_e, vStrVal_e, vStrCod_e, vForm_e, vCallT_e0, vCallT_e1, vCallT_e2, vCopy_e, rf_0_0, rf_0_1, rf_0_2, rf_0_3, rf_0_4, rf_0_7, rf_0_10, rf_0_11, rf_0_12, rf_0_13, rf_0_14, rf_0_15, rf_0_16, rf_1_0, rf_3_0, rf_3_1, rf_6_0, rf_6_1, rf_9_0, rf_9_1, rf_9_3, rf_13_0, rf_13_1, rf_13_2, rf_16_0, rf_16_1, rf_16_2, rf_16_3, rf_21_0, rf_21_1, rf_21_2, rf_21_3, rf_26_0, rf_26_1, rf_26_2, rf_26_3, rf_26_4, rf_26_5, rf_26_6, rf_31_0, rf_31_2, rf_31_5, rf_31_6, rf_36_0, rf_36_1, rf_36_2, rf_36_3, rf_39_0, rf_39_1, rf_39_2, rf_41_0, rf_41_1, rf_41_2, rf_41_3, rf_5000_1, rf_5000_2, rf_5000_3, rf_5000_4, rf_5000_5, rf_5000_15, rf_5000_16, rf_5000_18, rf_5000_19, rf_5000_20, rf_5000_21, rf_5000_22, rf_5000_23, rf_5000_24, rf_5000_25, rf_5000_26, rf_5000_27, rf_5000_36, rf_5000_37, rf_5000_40, rf_5000_41, rf_5000_42, rf_5000_43, rf_5000_44, rf_5000_45, rf_5000_47, rf_5000_52, rf_5000_54, rf_5000_55, rf_100_0, rf_100_1, rf_103_0, rf_103_1, rf_106_0, rf_106_1, rf_109_0, rf_109_1, al_2, al_4, al_5, al_7, al_8, al_10, al_11, al_12, al_14, al_15, al_17, al_18, al_19, al_20, al_22, al_23, al_24, al_25, al_27, al_28, al_29, al_30, al_32, al_33, al_34, al_35, al_37, al_38, al_40, al_42, al_5001, al_5002, al_5003, al_5004, al_5005, al_5006, al_5007, al_5008, al_5009, al_5010, al_5011, al_5012, al_5013, al_5014, al_5015, al_5016, al_5017, al_5018, al_5019, al_5020, al_5021, al_5022, al_5023, al_5024, al_5025, al_5026, al_9000, al_101, al_102, al_104, al_105, al_107, al_108, al_110, al_111, vcs_e, lg_c0, lg_cs, lg_nil, set_c0, set_cs, okst_0, okst_s, acok_n, acok_c, List.contains_nil, List.contains_cons, Bool.or_false, Bool.false_or, Bool.false_eq_true, if_false, if_true, ite_self, ne_eq, true_and, and_true, not_false_eq_true, not_true_eq_false, false_imp_iff, true_imp_iff, Nat.ble_eq, Bool.and_eq_true, reduceCtorEq, or_false, false_or, or_true, true_or, false_and, and_false, and_self, Int.reduceLE, Int.reduceAdd, Int.reduceSub, Int.reduceMul, Int.reduceNeg, Int.reduceLT, Int.reduceEq, Int.reduceNe, Nat.reduceBEq, Nat.reduceBNe, Nat.reduceEqDiff, amCmp_in, amCmp_lt, amCmp_le, amCmp_gt, amCmp_ge, amCmp_eq, amCmp_ne, Nat.reduceLeDiff, Nat.reduceSub, Bool.and_true, Bool.true_and, Bool.and_self, Bool.or_true, Bool.true_or, isRf_3, isRf_4, isRf_5, isRf_8, isRf_9, isRf_10, isRf_11, isRf_15, isRf_16, isRf_17, isRf_18, isRf_19, isRf_20, isRf_21, isRf_22, isRf_23, isRf_24, isRf_25, isRf_26, isRf_27, isRf_28, k_X1_suspects_0, k_X1_suspects_1, k_X1_suspects_2, k_X1_suspects_3, k_X1_suspects_4, k_X1_suspects_5, k_X1_suspects_6, k_X1_suspects_9, k_X1_suspects_10, k_X1_suspects_13, k_X1_suspects_16, k_X1_suspects_17, k_X1_suspects_18, k_X1_suspects_19, k_X1_suspects_22, k_X1_suspects_25, k_X1_suspects_26, k_X1_suspects_27, k_X1_suspects_28, k_X1_suspects_29, k_X1_suspects_30, k_X1_suspects_31, k_X1_suspects_34, k_X1_suspects_37, k_X1_suspects_38, w_X1_fits_e, w_X6_many_e, pc3, r18, r41, fitP_LF hF hlw]
    by_cases hlt : (k : Int) < pcnt σ 6 3
    · have hb := gb_b (fitB σ c) k
      have nx : ∀ τ v, LF σ' τ → v = gb (fitB σ c) (k + 1) → ∃ k', k' < n ∧ inv_susp σ c k' 4 [(17, 41), (0, c), (0, v), (0, (k : Int) + 1)] [] τ := fun τ v g1 g2 => ⟨n - 1, by omega, rfl, rfl, LF_tr hF g1, k + 1, by rw [g2]; rfl, by omega⟩
      have e : gb (fitB σ c) (k + 1) = gb (fitB σ c) k + if fitB σ c k = true then 2 ^ k else 0 := rfl
      rw [bor6' (by omega) hb.1 hb.2]
      have y : fitP σ c k (σ 41 4) → ∀ τ, LF σ' τ → ∃ k', k' < n ∧ inv_susp σ c k' 4 [(17, 41), (0, c), (0, gb (fitB σ c) k + 2 ^ k), (0, (k : Int) + 1)] [] τ := fun g τ hτ => nx τ _ hτ (by rw [e, if_pos (fitB_t.mpr g)])
      have z : ¬ fitP σ c k (σ 41 4) → ∀ τ, LF σ' τ → ∃ k', k' < n ∧ inv_susp σ c k' 4 [(17, 41), (0, c), (0, gb (fitB σ c) k), (0, (k : Int) + 1)] [] τ := fun g τ hτ => nx τ _ hτ (by rw [e, if_neg (fun q => g (fitB_t.mp q)), Int.add_zero])
      repeat' (first | assumption | apply And.intro | intro _)
      all_goals first | omega | exact absurd trivial (by assumption) | exact Or.inr rfl | exact stOk_SF hS hst | exact cluOk_LF hF hcl | exact hse _ (by assumption) (by assumption) | exact y (by assumption) _ (by assumption) | exact z (by assumption) _ (by assumption)
    · rw [show (pcnt σ 6 3).toNat = k by omega] at h
      have hh := h σ' hF
      repeat' (first | assumption | apply And.intro | intro _)
      all_goals first | omega | exact absurd trivial (by assumption) | exact Or.inr rfl | exact hh
  · change vcs _ _ _ _ 60 0 [(17, 41), (0, c), (6, 0), (6, 0)] [] σ
    simp only [↓reduceIte, inR_0, inR_1, inR_m, vI_e, vL_e, vNull_e, vIload_e, vLload_e, vAload_e, vIstore_e, vLstore_e, vAstore_e, vIinc_e, vIadd_e, vIsub_e, vImul_e, vIand_e, vIor_e, vIxor_e, vIshl_e, vIshr_e, vIushr_e, vIdiv_e, vIrem_e, vLadd_e, vLsub_e, vLmul_e, vLand_e, vLor_e, vLxor_e, vLdiv_e, vLrem_e, vLushr_e, vLshl_e, vLcmp_e, vIneg_e, vI2l_e, vL2i_e, vI2b_e, vI2c_e, vDup_e, vPop_e, vDup2_e, vGoto_e, vIcEq_e, vIfEq_e, vIcNe_e, vIfNe_e, vIcLt_e, vIfLt_e, vIcGe_e, vIfGe_e, vIcGt_e, vIfGt_e, vIcLe_e, vIfLe_e, vNonnull_e, vSw_e, vGetI_e, vGetL_e, vGetR_e, vPutI_e, vPutZ_e, vPutL_e, vPutR_e, vIald_e, vIald_s, vLald_e, vBald_e, vBald_s, vAald_e, vIast_e, vLast_e, vBast_e, vAast_e, vAlen_e8, vAlen_e9, vAlen_e10, vAlen_e11, vAlen_e5, vAlen_e3, vGets_e, vCompact_e, vLdcS_e, vIret_e, vZret_e, vCret_e, vBret_e, vLret_e, vVret_e, vAret_e, vCallM_e0, vCallMV_e0, vCallS_e0, vCallSV_e0, vCallM_e1, vCallMV_e1, vCallS_e1, vCallSV_e1, vCallM_e2, vCallMV_e2, vCallS_e2, vCallSV_e2, vCallM_e3, vCallMV_e3, vCallS_e3, vCallSV_e3, vCallM_e4, vCallMV_e4, vCallS_e4, vCallSV_e4, vCallM_e5, vCallMV_e5, vCallS_e5, vCallSV_e5, vCallM_e6, vCallMV_e6, vCallS_e6, vCallSV_e6, vCallM_e7, vCallMV_e7, vCallS_e7, vCallSV_e7, vBad_e, vStrVal_e, vStrCod_e, vForm_e, vCallT_e0, vCallT_e1, vCallT_e2, vCopy_e, rf_0_0, rf_0_1, rf_0_2, rf_0_3, rf_0_4, rf_0_7, rf_0_10, rf_0_11, rf_0_12, rf_0_13, rf_0_14, rf_0_15, rf_0_16, rf_1_0, rf_3_0, rf_3_1, rf_6_0, rf_6_1, rf_9_0, rf_9_1, rf_9_3, rf_13_0, rf_13_1, rf_13_2, rf_16_0, rf_16_1, rf_16_2, rf_16_3, rf_21_0, rf_21_1, rf_21_2, rf_21_3, rf_26_0, rf_26_1, rf_26_2, rf_26_3, rf_26_4, rf_26_5, rf_26_6, rf_31_0, rf_31_2, rf_31_5, rf_31_6, rf_36_0, rf_36_1, rf_36_2, rf_36_3, rf_39_0, rf_39_1, rf_39_2, rf_41_0, rf_41_1, rf_41_2, rf_41_3, rf_5000_1, rf_5000_2, rf_5000_3, rf_5000_4, rf_5000_5, rf_5000_15, rf_5000_16, rf_5000_18, rf_5000_19, rf_5000_20, rf_5000_21, rf_5000_22, rf_5000_23, rf_5000_24, rf_5000_25, rf_5000_26, rf_5000_27, rf_5000_36, rf_5000_37, rf_5000_40, rf_5000_41, rf_5000_42, rf_5000_43, rf_5000_44, rf_5000_45, rf_5000_47, rf_5000_52, rf_5000_54, rf_5000_55, rf_100_0, rf_100_1, rf_103_0, rf_103_1, rf_106_0, rf_106_1, rf_109_0, rf_109_1, al_2, al_4, al_5, al_7, al_8, al_10, al_11, al_12, al_14, al_15, al_17, al_18, al_19, al_20, al_22, al_23, al_24, al_25, al_27, al_28, al_29, al_30, al_32, al_33, al_34, al_35, al_37, al_38, al_40, al_42, al_5001, al_5002, al_5003, al_5004, al_5005, al_5006, al_5007, al_5008, al_5009, al_5010, al_5011, al_5012, al_5013, al_5014, al_5015, al_5016, al_5017, al_5018, al_5019, al_5020, al_5021, al_5022, al_5023, al_5024, al_5025, al_5026, al_9000, al_101, al_102, al_104, al_105, al_107, al_108, al_110, al_111, vcs_e, lg_c0, lg_cs, lg_nil, set_c0, set_cs, okst_0, okst_s, acok_n, acok_c, List.contains_nil, List.contains_cons, Bool.or_false, Bool.false_or, Bool.false_eq_true, if_false, if_true, ite_self, ne_eq, true_and, and_true, not_false_eq_true, not_true_eq_false, false_imp_iff, true_imp_iff, Nat.ble_eq, Bool.and_eq_true, reduceCtorEq, or_false, false_or, or_true, true_or, false_and, and_false, and_self, Int.reduceLE, Int.reduceAdd, Int.reduceSub, Int.reduceMul, Int.reduceNeg, Int.reduceLT, Int.reduceEq, Int.reduceNe, Nat.reduceBEq, Nat.reduceBNe, Nat.reduceEqDiff, amCmp_in, amCmp_lt, amCmp_le, amCmp_gt, amCmp_ge, amCmp_eq, amCmp_ne, Nat.reduceLeDiff, Nat.reduceSub, Bool.and_true, Bool.true_and, Bool.and_self, Bool.or_true, Bool.true_or, isRf_3, isRf_4, isRf_5, isRf_8, isRf_9, isRf_10, isRf_11, isRf_15, isRf_16, isRf_17, isRf_18, isRf_19, isRf_20, isRf_21, isRf_22, isRf_23, isRf_24, isRf_25, isRf_26, isRf_27, isRf_28, k_X1_suspects_0, k_X1_suspects_1, k_X1_suspects_2, k_X1_suspects_3, k_X1_suspects_4, k_X1_suspects_5, k_X1_suspects_6, k_X1_suspects_9, k_X1_suspects_10, k_X1_suspects_13, k_X1_suspects_16, k_X1_suspects_17, k_X1_suspects_18, k_X1_suspects_19, k_X1_suspects_22, k_X1_suspects_25, k_X1_suspects_26, k_X1_suspects_27, k_X1_suspects_28, k_X1_suspects_29, k_X1_suspects_30, k_X1_suspects_31, k_X1_suspects_34, k_X1_suspects_37, k_X1_suspects_38]
    exact ⟨(pcnt σ 6 3).toNat, rfl, rfl, LF_rf σ, 0, rfl, by omega⟩
theorem wd_1083 : Cond.methodLink RX1 72 yJ9_abs_0f7a4 ∈ TBL := tb_tab (List.mem_of_getElem? (i := 1083) (by decide +kernel)) rfl
theorem wd_1085 : Cond.code yJ9_abs_0f7a4 cJ9_abs_0f7a4 1 (some .int) ∈ TBL := tb_tab (List.mem_of_getElem? (i := 1085) (by decide +kernel)) rfl
theorem lk_X1_72 : amLk RX1 72 yJ9_abs_0f7a4 cJ9_abs_0f7a4 1 (some .int) 1 := ⟨wd_1083, wd_16, wd_1085, by decide +kernel, by decide +kernel, by decide⟩
theorem wd_1084 : Cond.static yJ9_abs_0f7a4 ∈ TBL := tb_tab (List.mem_of_getElem? (i := 1084) (by decide +kernel)) rfl
def a_X1_gapBy : AC := [(0, vI 0 1), (1, vIstore 6 3), (3, vI 0 4), (4, vIstore 7 6), (6, vIload 7 8), (8, vI 6 10), (10, vIcGe 53 13), (13, vIload 2 14), (14, vIload 7 16), (16, vIshr 17), (17, vI 1 18), (18, vIand 19), (19, vIfEq 47 22), (22, vIload 6 24), (24, vAload 0 25), (25, vIload 1 26), (26, vIload 7 28), (28, vIload 3 29), (29, vIload 4 31), (31, vIload 5 33), (33, vCallM w_X1_wouldHowl 17 5 36), (36, vIfEq 43 39), (39, vI 1 40), (40, vGoto 44), (43, vI (-1) 44), (44, vIadd 45), (45, vIstore 6 47), (47, vIinc 7 1 50), (50, vGoto 6), (53, vIload 6 55), (55, vCallS w_J9_abs_0f7a4 1 58), (58, vIret)]
theorem k_X1_gapBy_0 : look a_X1_gapBy 0 = vI 0 1 := rfl
theorem k_X1_gapBy_1 : look a_X1_gapBy 1 = vIstore 6 3 := rfl
theorem k_X1_gapBy_3 : look a_X1_gapBy 3 = vI 0 4 := rfl
theorem k_X1_gapBy_4 : look a_X1_gapBy 4 = vIstore 7 6 := rfl
theorem k_X1_gapBy_6 : look a_X1_gapBy 6 = vIload 7 8 := rfl
theorem k_X1_gapBy_8 : look a_X1_gapBy 8 = vI 6 10 := rfl
theorem k_X1_gapBy_10 : look a_X1_gapBy 10 = vIcGe 53 13 := rfl
theorem k_X1_gapBy_13 : look a_X1_gapBy 13 = vIload 2 14 := rfl
theorem k_X1_gapBy_14 : look a_X1_gapBy 14 = vIload 7 16 := rfl
theorem k_X1_gapBy_16 : look a_X1_gapBy 16 = vIshr 17 := rfl
theorem k_X1_gapBy_17 : look a_X1_gapBy 17 = vI 1 18 := rfl
theorem k_X1_gapBy_18 : look a_X1_gapBy 18 = vIand 19 := rfl
theorem k_X1_gapBy_19 : look a_X1_gapBy 19 = vIfEq 47 22 := rfl
theorem k_X1_gapBy_22 : look a_X1_gapBy 22 = vIload 6 24 := rfl
theorem k_X1_gapBy_24 : look a_X1_gapBy 24 = vAload 0 25 := rfl
theorem k_X1_gapBy_25 : look a_X1_gapBy 25 = vIload 1 26 := rfl
theorem k_X1_gapBy_26 : look a_X1_gapBy 26 = vIload 7 28 := rfl
theorem k_X1_gapBy_28 : look a_X1_gapBy 28 = vIload 3 29 := rfl
theorem k_X1_gapBy_29 : look a_X1_gapBy 29 = vIload 4 31 := rfl
theorem k_X1_gapBy_31 : look a_X1_gapBy 31 = vIload 5 33 := rfl
theorem k_X1_gapBy_33 : look a_X1_gapBy 33 = vCallM w_X1_wouldHowl 17 5 36 := rfl
theorem k_X1_gapBy_36 : look a_X1_gapBy 36 = vIfEq 43 39 := rfl
theorem k_X1_gapBy_39 : look a_X1_gapBy 39 = vI 1 40 := rfl
theorem k_X1_gapBy_40 : look a_X1_gapBy 40 = vGoto 44 := rfl
theorem k_X1_gapBy_43 : look a_X1_gapBy 43 = vI (-1) 44 := rfl
theorem k_X1_gapBy_44 : look a_X1_gapBy 44 = vIadd 45 := rfl
theorem k_X1_gapBy_45 : look a_X1_gapBy 45 = vIstore 6 47 := rfl
theorem k_X1_gapBy_47 : look a_X1_gapBy 47 = vIinc 7 1 50 := rfl
theorem k_X1_gapBy_50 : look a_X1_gapBy 50 = vGoto 6 := rfl
theorem k_X1_gapBy_53 : look a_X1_gapBy 53 = vIload 6 55 := rfl
theorem k_X1_gapBy_55 : look a_X1_gapBy 55 = vCallS w_J9_abs_0f7a4 1 58 := rfl
theorem k_X1_gapBy_58 : look a_X1_gapBy 58 = vIret := rfl
theorem o_X1_gapBy {X : amX} (e1 : XT X = TT) (e2 : XD X = 4) (hB : amB X RX1 cX1_gapBy (some .int) 8) : ∀ pc, amOK X pc (look a_X1_gapBy pc) := by
  have hT : amTok (XT X) := e1 ▸ TT_ok
  refine look_ok ?_
  unfold a_X1_gapBy
  refine fc (ok_iconst hB dX1_gapBy_0) ?_
  refine fc (ok_istore hB (by decide) dX1_gapBy_1) ?_
  refine fc (ok_iconst hB dX1_gapBy_3) ?_
  refine fc (ok_istore hB (by decide) dX1_gapBy_4) ?_
  refine fc (ok_iload hB dX1_gapBy_6) ?_
  refine fc (ok_bipush hB dX1_gapBy_8 (by decide)) ?_
  refine fc (ok_icmp_ge hB (t := 53) (by decide) dX1_gapBy_10) ?_
  refine fc (ok_iload_n hB dX1_gapBy_13) ?_
  refine fc (ok_iload hB dX1_gapBy_14) ?_
  refine fc (ok_ishr hB dX1_gapBy_16) ?_
  refine fc (ok_iconst hB dX1_gapBy_17) ?_
  refine fc (ok_iand hB dX1_gapBy_18) ?_
  refine fc (ok_if_eq hB (t := 47) (by decide) dX1_gapBy_19) ?_
  refine fc (ok_iload hB dX1_gapBy_22) ?_
  refine fc (ok_aload_n hB dX1_gapBy_24) ?_
  refine fc (ok_iload_n hB dX1_gapBy_25) ?_
  refine fc (ok_iload hB dX1_gapBy_26) ?_
  refine fc (ok_iload_n hB dX1_gapBy_28) ?_
  refine fc (ok_iload hB dX1_gapBy_29) ?_
  refine fc (ok_iload hB dX1_gapBy_31) ?_
  refine fc (ok_callM hB hT (e1 ▸ s_X1_wouldHowl) lk_X1_57 (by rw [e2]; decide) (c := 1) rfl rfl rfl wd_1064 sl_X1_wouldHowl dX1_gapBy_33) ?_
  refine fc (ok_if_eq hB (t := 43) (by decide) dX1_gapBy_36) ?_
  refine fc (ok_iconst hB dX1_gapBy_39) ?_
  refine fc (ok_goto hB (t := 44) (by decide) dX1_gapBy_40) ?_
  refine fc (ok_iconst hB dX1_gapBy_43) ?_
  refine fc (ok_iadd hB dX1_gapBy_44) ?_
  refine fc (ok_istore hB (by decide) dX1_gapBy_45) ?_
  refine fc (ok_iinc hB (by decide) dX1_gapBy_47) ?_
  refine fc (ok_goto hB (t := 6) (by decide) dX1_gapBy_50) ?_
  refine fc (ok_iload hB dX1_gapBy_53) ?_
  refine fc (ok_callS hB (e1 ▸ s_J9_abs_0f7a4) lk_X1_72 (by rw [e2]; decide) wd_1084 dX1_gapBy_55) ?_
  refine fc (ok_iret hB dX1_gapBy_58) ?_
  exact fn
def gpF (σ : Mem) (c S p k v : Int) : Nat → Int
  | 0 => 0
  | i + 1 => gpF σ c S p k v i + if bt S i = 1 then (if whF σ c i p k v = 1 then 1 else -1) else 0
theorem gpF_b (σ : Mem) (c S p k v : Int) : ∀ n : Nat, -(n : Int) ≤ gpF σ c S p k v n ∧ gpF σ c S p k v n ≤ n := by
  intro n
  induction n with
  | zero => unfold gpF; omega
  | succ n ih =>
    unfold gpF
    split
    · split <;> omega
    · omega
def gpA (σ : Mem) (c S p k v : Int) : Int := if gpF σ c S p k v 6 < 0 then -gpF σ c S p k v 6 else gpF σ c S p k v 6
def inv_gap (σ : Mem) (c S p k v : Int) (n pc : Nat) (ls st : List AV) (σ' : Mem) : Prop := pc = 6 ∧ st = [] ∧ LF σ σ' ∧ ∃ i : Nat, ls = [(17, 41), (0, c), (0, S), (0, p), (0, k), (0, v), (0, gpF σ c S p k v i), (0, (i : Int))] ∧ i + n = 6
def w_X1_gapBy : WP := fun av σ Q => ∃ (c : Int) (S : Int) (p : Int) (k : Int) (v : Int), av = [(17, 41), (0, c), (0, S), (0, p), (0, k), (0, v)] ∧ (0 ≤ c ∧ c < 6 ∧ stOk σ 16 ∧ (∀ i, 0 ≤ i → i < 6 → InR (σ 18 i)) ∧ 0 ≤ S ∧ S < 64 ∧ InR p ∧ 0 ≤ k ∧ k ≤ 1000 ∧ InR v ∧ (∀ τ, LF σ τ → Q (0, gpA σ c S p k v) τ))
theorem w_X1_gapBy_e (c : Int) (S : Int) (p : Int) (k : Int) (v : Int) (σ : Mem) (Q : AV → Mem → Prop) : w_X1_gapBy [(17, 41), (0, c), (0, S), (0, p), (0, k), (0, v)] σ Q = (0 ≤ c ∧ c < 6 ∧ stOk σ 16 ∧ (∀ i, 0 ≤ i → i < 6 → InR (σ 18 i)) ∧ 0 ≤ S ∧ S < 64 ∧ InR p ∧ 0 ≤ k ∧ k ≤ 1000 ∧ InR v ∧ (∀ τ, LF σ τ → Q (0, gpA σ c S p k v) τ)) := by
  apply propext; constructor
  · rintro ⟨c', S', p', k', v', h9, hb9⟩; cases h9; exact hb9
  · intro hb9; exact ⟨c, S, p, k, v, rfl, hb9⟩

set_option maxRecDepth 100000 in
set_option maxHeartbeats 4000000 in
theorem s_X1_gapBy : ∀ av σ Q, w_X1_gapBy av σ Q → amCall 4 0 0 TT yX1_gapBy cX1_gapBy 8 (some .int) av σ Q := by
  rintro av σ Q ⟨c, S, p, k, v, rfl, hc0, hc1, hst, hse, hS0, hS1, hp, hk0, hk1, hv, h⟩
  have hlw := hst.2.2.1
  refine am_m [6] (inv_gap σ c S p k v) (own := RX1) (A := look a_X1_gapBy) (fun X e1 e2 hB => o_X1_gapBy e1 e2 hB) rfl (by decide +kernel) rfl rfl ?_ ⟨60, ?_⟩ (w := 8)
  · rintro n pc ls st σ' ⟨rfl, rfl, hF, i, rfl, hi⟩
    have hS := LF_SF hF
    have hst' := stOk_SF hS hst
    have r18 : σ' 18 = σ 18 := hF 18 (by decide) (by decide) (by decide) (by decide) (by decide)
    have gbd := gpF_b σ c S p k v i
    refine ⟨60, ?_⟩
    by_cases hlt : i < 6
    · have hbi := bt_e (x := S) (i := i) ⟨by omega, by omega⟩ (by omega) (by omega)
      have b01 := bt_b S i
      have wb := whF_b σ c i p k v
      simp only [↓reduceIte, inR_0, inR_1, inR_m, vSw2_e, swP_n, swP_c, vI_e, vL_e, vNull_e, vIload_e, vLload_e, vAload_e, vIstore_e, vLstore_e, vAstore_e, vIinc_e, vIadd_e, vIsub_e, vImul_e, vIand_e, vIor_e, vIxor_e, vIshl_e, vIshr_e, vIushr_e, vIdiv_e, vIrem_e, vLadd_e, vLsub_e, vLmul_e, vLand_e, vLor_e, vLxor_e, vLdiv_e, vLrem_e, vLushr_e, vLshl_e, vLcmp_e, vIneg_e, vI2l_e, vL2i_e, vI2b_e, vI2c_e, vDup_e, vPop_e, vDup2_e, vGoto_e, vIcEq_e, vIfEq_e, vIcNe_e, vIfNe_e, vIcLt_e, vIfLt_e, vIcGe_e, vIfGe_e, vIcGt_e, vIfGt_e, vIcLe_e, vIfLe_e, vNonnull_e, vSw_e, vGetI_e, vGetL_e, vGetR_e, vPutI_e, vPutZ_e, vPutL_e, vPutR_e, vIald_e, vIald_s, vLald_e, vBald_e, vBald_s, vAald_e, vIast_e, vLast_e, vBast_e, vAast_e, vAlen_e8, vAlen_e9, vAlen_e10, vAlen_e11, vAlen_e5, vAlen_e3, vGets_e, vCompact_e, vLdcS_e, vIret_e, vZret_e, vCret_e, vBret_e, vLret_e, vVret_e, vAret_e, vCallM_e0, vCallMV_e0, vCallS_e0, vCallSV_e0, vCallM_e1, vCallMV_e1, vCallS_e1, vCallSV_e1, vCallM_e2, vCallMV_e2, vCallS_e2, vCallSV_e2, vCallM_e3, vCallMV_e3, vCallS_e3, vCallSV_e3, vCallM_e4, vCallMV_e4, vCallS_e4, vCallSV_e4, vCallM_e5, vCallMV_e5, vCallS_e5, vCallSV_e5, vCallM_e6, vCallMV_e6, vCallS_e6, vCallSV_e6, vCallM_e7, vCallMV_e7, vCallS_e7, vCallSV_e7, vBad_e, vStrVal_e, vStrCod_e, vForm_e, vCallT_e0, vCallT_e1, vCallT_e2, vCopy_e, rf_0_0, rf_0_1, rf_0_2, rf_0_3, rf_0_4, rf_0_7, rf_0_10, rf_0_11, rf_0_12, rf_0_13, rf_0_14, rf_0_15, rf_0_16, rf_1_0, rf_3_0, rf_3_1, rf_6_0, rf_6_1, rf_9_0, rf_9_1, rf_9_3, rf_13_0, rf_13_1, rf_13_2, rf_16_0, rf_16_1, rf_16_2, rf_16_3, rf_21_0, rf_21_1, rf_21_2, rf_21_3, rf_26_0, rf_26_1, rf_26_2, rf_26_3, rf_26_4, rf_26_5, rf_26_6, rf_31_0, rf_31_2, rf_31_5, rf_31_6, rf_36_0, rf_36_1, rf_36_2, rf_36_3, rf_39_0, rf_39_1, rf_39_2, rf_41_0, rf_41_1, rf_41_2, rf_41_3, rf_5000_1, rf_5000_2, rf_5000_3, rf_5000_4, rf_5000_5, rf_5000_15, rf_5000_16, rf_5000_18, rf_5000_19, rf_5000_20, rf_5000_21, rf_5000_22, rf_5000_23, rf_5000_24, rf_5000_25, rf_5000_26, rf_5000_27, rf_5000_36, rf_5000_37, rf_5000_40, rf_5000_41, rf_5000_42, rf_5000_43, rf_5000_44, rf_5000_45, rf_5000_47, rf_5000_52, rf_5000_54, rf_5000_55, rf_100_0, rf_100_1, rf_103_0, rf_103_1, rf_106_0, rf_106_1, rf_109_0, rf_109_1, al_2, al_4, al_5, al_7, al_8, al_10, al_11, al_12, al_14, al_15, al_17, al_18, al_19, al_20, al_22, al_23, al_24, al_25, al_27, al_28, al_29, al_30, al_32, al_33, al_34, al_35, al_37, al_38, al_40, al_42, al_5001, al_5002, al_5003, al_5004, al_5005, al_5006, al_5007, al_5008, al_5009, al_5010, al_5011, al_5012, al_5013, al_5014, al_5015, al_5016, al_5017, al_5018, al_5019, al_5020, al_5021, al_5022, al_5023, al_5024, al_5025, al_5026, al_9000, al_101, al_102, al_104, al_105, al_107, al_108, al_110, al_111, vcs_e, lg_c0, lg_cs, lg_nil, set_c0, set_cs, okst_0, okst_s, acok_n, acok_c, List.contains_nil, List.contains_cons, Bool.or_false, Bool.false_or, Bool.false_eq_true, if_false, if_true, ite_self, ne_eq, true_and, and_true, not_false_eq_true, not_true_eq_false, false_imp_iff, true_imp_iff, Nat.ble_eq, Bool.and_eq_true, reduceCtorEq, or_false, false_or, or_true, true_or, false_and, and_false, and_self, Int.reduceLE, Int.reduceAdd, Int.reduceSub, Int.reduceMul, Int.reduceNeg, Int.reduceLT, Int.reduceEq, Int.reduceNe, Nat.reduceBEq, Nat.reduceBNe, Nat.reduceEqDiff, amCmp_in, amCmp_lt, amCmp_le, amCmp_gt, amCmp_ge, amCmp_eq, amCmp_ne, Nat.reduceLeDiff, Nat.reduceSub, Bool.and_true, Bool.true_and, Bool.and_self, Bool.or_true, Bool.true_or, isRf_3, isRf_4, isRf_5, isRf_8, isRf_9, isRf_10, isRf_11, isRf_15, isRf_16, isRf_17, isRf_18, isRf_19, isRf_20, isRf_21, isRf_22, isRf_23, isRf_24, isRf_25, isRf_26, isRf_27, isRf_28, k_X1_gapBy_0, k_X1_gapBy_1, k_X1_gapBy_3, k_X1_gapBy_4, k_X1_gapBy_6, k_X1_gapBy_8, k_X1_gapBy_10, k_X1_gapBy_13, k_X1_gapBy_14, k_X1_gapBy_16, k_X1_gapBy_17, k_X1_gapBy_18, k_X1_gapBy_19, k_X1_gapBy_22, k_X1_gapBy_24, k_X1_gapBy_25, k_X1_gapBy_26, k_X1_gapBy_28, k_X1_gapBy_29, k_X1_gapBy_31, k_X1_gapBy_33, k_X1_gapBy_36, k_X1_gapBy_39, k_X1_gapBy_40, k_X1_gapBy_43, k_X1_gapBy_44, k_X1_gapBy_45, k_X1_gapBy_47, k_X1_gapBy_50, k_X1_gapBy_53, k_X1_gapBy_55, k_X1_gapBy_58, w_J9_abs_0f7a4_e, w_X1_wouldHowl_e, hbi, r18, whF_SF hS hlw]
      have nx : ∀ τ w, LF σ' τ → w = gpF σ c S p k v (i + 1) → ∃ k', k' < n ∧ inv_gap σ c S p k v k' 6 [(17, 41), (0, c), (0, S), (0, p), (0, k), (0, v), (0, w), (0, (i : Int) + 1)] [] τ := fun τ w g1 g2 => ⟨n - 1, by omega, rfl, rfl, LF_tr hF g1, i + 1, by rw [g2]; rfl, by omega⟩
      have e : gpF σ c S p k v (i + 1) = gpF σ c S p k v i + if bt S i = 1 then (if whF σ c i p k v = 1 then 1 else -1) else 0 := rfl
      by_cases c1 : bt S i = 1
      · rw [if_pos c1] at e
        by_cases c2 : whF σ c i p k v = 1
        · rw [if_pos c2] at e
          have i9 := fun τ hτ => nx τ _ hτ e.symm
          simp only [c2]
          repeat' (first | assumption | apply And.intro | intro _)
          all_goals first | omega | exact absurd trivial (by assumption) | exact stOk_SF hS hst | exact hse _ (by assumption) (by assumption) | exact i9 _ (by assumption)
        · rw [if_neg c2] at e
          have i9 := fun τ hτ => nx τ _ hτ e.symm
          have c2' : whF σ c i p k v = 0 := by omega
          simp only [c2']
          repeat' (first | assumption | apply And.intro | intro _)
          all_goals first | omega | exact absurd trivial (by assumption) | exact stOk_SF hS hst | exact hse _ (by assumption) (by assumption) | exact i9 _ (by assumption)
      · rw [if_neg c1, Int.add_zero] at e
        have i9 := nx σ' _ (LF_rf σ') e.symm
        repeat' (first | assumption | apply And.intro | intro _)
        all_goals first | omega | exact absurd trivial (by assumption) | exact i9
    · have e6 : i = 6 := by omega
      subst e6
      have hh := h σ' hF
      unfold gpA at hh
      simp only [↓reduceIte, inR_0, inR_1, inR_m, vSw2_e, swP_n, swP_c, vI_e, vL_e, vNull_e, vIload_e, vLload_e, vAload_e, vIstore_e, vLstore_e, vAstore_e, vIinc_e, vIadd_e, vIsub_e, vImul_e, vIand_e, vIor_e, vIxor_e, vIshl_e, vIshr_e, vIushr_e, vIdiv_e, vIrem_e, vLadd_e, vLsub_e, vLmul_e, vLand_e, vLor_e, vLxor_e, vLdiv_e, vLrem_e, vLushr_e, vLshl_e, vLcmp_e, vIneg_e, vI2l_e, vL2i_e, vI2b_e, vI2c_e, vDup_e, vPop_e, vDup2_e, vGoto_e, vIcEq_e, vIfEq_e, vIcNe_e, vIfNe_e, vIcLt_e, vIfLt_e, vIcGe_e, vIfGe_e, vIcGt_e, vIfGt_e, vIcLe_e, vIfLe_e, vNonnull_e, vSw_e, vGetI_e, vGetL_e, vGetR_e, vPutI_e, vPutZ_e, vPutL_e, vPutR_e, vIald_e, vIald_s, vLald_e, vBald_e, vBald_s, vAald_e, vIast_e, vLast_e, vBast_e, vAast_e, vAlen_e8, vAlen_e9, vAlen_e10, vAlen_e11, vAlen_e5, vAlen_e3, vGets_e, vCompact_e, vLdcS_e, vIret_e, vZret_e, vCret_e, vBret_e, vLret_e, vVret_e, vAret_e, vCallM_e0, vCallMV_e0, vCallS_e0, vCallSV_e0, vCallM_e1, vCallMV_e1, vCallS_e1, vCallSV_e1, vCallM_e2, vCallMV_e2, vCallS_e2, vCallSV_e2, vCallM_e3, vCallMV_e3, vCallS_e3, vCallSV_e3, vCallM_e4, vCallMV_e4, vCallS_e4, vCallSV_e4, vCallM_e5, vCallMV_e5, vCallS_e5, vCallSV_e5, vCallM_e6, vCallMV_e6, vCallS_e6, vCallSV_e6, vCallM_e7, vCallMV_e7, vCallS_e7, vCallSV_e7, vBad_e, vStrVal_e, vStrCod_e, vForm_e, vCallT_e0, vCallT_e1, vCallT_e2, vCopy_e, rf_0_0, rf_0_1, rf_0_2, rf_0_3, rf_0_4, rf_0_7, rf_0_10, rf_0_11, rf_0_12, rf_0_13, rf_0_14, rf_0_15, rf_0_16, rf_1_0, rf_3_0, rf_3_1, rf_6_0, rf_6_1, rf_9_0, rf_9_1, rf_9_3, rf_13_0, rf_13_1, rf_13_2, rf_16_0, rf_16_1, rf_16_2, rf_16_3, rf_21_0, rf_21_1, rf_21_2, rf_21_3, rf_26_0, rf_26_1, rf_26_2, rf_26_3, rf_26_4, rf_26_5, rf_26_6, rf_31_0, rf_31_2, rf_31_5, rf_31_6, rf_36_0, rf_36_1, rf_36_2, rf_36_3, rf_39_0, rf_39_1, rf_39_2, rf_41_0, rf_41_1, rf_41_2, rf_41_3, rf_5000_1, rf_5000_2, rf_5000_3, rf_5000_4, rf_5000_5, rf_5000_15, rf_5000_16, rf_5000_18, rf_5000_19, rf_5000_20, rf_5000_21, rf_5000_22, rf_5000_23, rf_5000_24, rf_5000_25, rf_5000_26, rf_5000_27, rf_5000_36, rf_5000_37, rf_5000_40, rf_5000_41, rf_5000_42, rf_5000_43, rf_5000_44, rf_5000_45, rf_5000_47, rf_5000_52, rf_5000_54, rf_5000_55, rf_100_0, rf_100_1, rf_103_0, rf_103_1, rf_106_0, rf_106_1, rf_109_0, rf_109_1, al_2, al_4, al_5, al_7, al_8, al_10, al_11, al_12, al_14, al_15, al_17, al_18, al_19, al_20, al_22, al_23, al_24, al_25, al_27, al_28, al_29, al_30, al_32, al_33, al_34, al_35, al_37, al_38, al_40, al_42, al_5001, al_5002, al_5003, al_5004, al_5005, al_5006, al_5007, al_5008, al_5009, al_5010, al_5011, al_5012, al_5013, al_5014, al_5015, al_5016, al_5017, al_5018, al_5019, al_5020, al_5021, al_5022, al_5023, al_5024, al_5025, al_5026, al_9000, al_101, al_102, al_104, al_105, al_107, al_108, al_110, al_111, vcs_e, lg_c0, lg_cs, lg_nil, set_c0, set_cs, okst_0, okst_s, acok_n, acok_c, List.contains_nil, List.contains_cons, Bool.or_false, Bool.false_or, Bool.false_eq_true, if_false, if_true, ite_self, ne_eq, true_and, and_true, not_false_eq_true, not_true_eq_false, false_imp_iff, true_imp_iff, Nat.ble_eq, Bool.and_eq_true, reduceCtorEq, or_false, false_or, or_true, true_or, false_and, and_false, and_self, Int.reduceLE, Int.reduceAdd, Int.reduceSub, Int.reduceMul, Int.reduceNeg, Int.reduceLT, Int.reduceEq, Int.reduceNe, Nat.reduceBEq, Nat.reduceBNe, Nat.reduceEqDiff, amCmp_in, amCmp_lt, amCmp_le, amCmp_gt, amCmp_ge, amCmp_eq, amCmp_ne, Nat.reduceLeDiff, Nat.reduceSub, Bool.and_true, Bool.true_and, Bool.and_self, Bool.or_true, Bool.true_or, isRf_3, isRf_4, isRf_5, isRf_8, isRf_9, isRf_10, isRf_11, isRf_15, isRf_16, isRf_17, isRf_18, isRf_19, isRf_20, isRf_21, isRf_22, isRf_23, isRf_24, isRf_25, isRf_26, isRf_27, isRf_28, k_X1_gapBy_0, k_X1_gapBy_1, k_X1_gapBy_3, k_X1_gapBy_4, k_X1_gapBy_6, k_X1_gapBy_8, k_X1_gapBy_10, k_X1_gapBy_13, k_X1_gapBy_14, k_X1_gapBy_16, k_X1_gapBy_17, k_X1_gapBy_18, k_X1_gapBy_19, k_X1_gapBy_22, k_X1_gapBy_24, k_X1_gapBy_25, k_X1_gapBy_26, k_X1_gapBy_28, k_X1_gapBy_29, k_X1_gapBy_31, k_X1_gapBy_33, k_X1_gapBy_36, k_X1_gapBy_39, k_X1_gapBy_40, k_X1_gapBy_43, k_X1_gapBy_44, k_X1_gapBy_45, k_X1_gapBy_47, k_X1_gapBy_50, k_X1_gapBy_53, k_X1_gapBy_55, k_X1_gapBy_58, w_J9_abs_0f7a4_e, w_X1_wouldHowl_e]
      repeat' (first | assumption | apply And.intro | intro _)
      all_goals first | omega | exact absurd trivial (by assumption) | exact hh
  · change vcs _ _ _ _ 60 0 [(17, 41), (0, c), (0, S), (0, p), (0, k), (0, v), (6, 0), (6, 0)] [] σ
    simp only [↓reduceIte, inR_0, inR_1, inR_m, vI_e, vL_e, vNull_e, vIload_e, vLload_e, vAload_e, vIstore_e, vLstore_e, vAstore_e, vIinc_e, vIadd_e, vIsub_e, vImul_e, vIand_e, vIor_e, vIxor_e, vIshl_e, vIshr_e, vIushr_e, vIdiv_e, vIrem_e, vLadd_e, vLsub_e, vLmul_e, vLand_e, vLor_e, vLxor_e, vLdiv_e, vLrem_e, vLushr_e, vLshl_e, vLcmp_e, vIneg_e, vI2l_e, vL2i_e, vI2b_e, vI2c_e, vDup_e, vPop_e, vDup2_e, vGoto_e, vIcEq_e, vIfEq_e, vIcNe_e, vIfNe_e, vIcLt_e, vIfLt_e, vIcGe_e, vIfGe_e, vIcGt_e, vIfGt_e, vIcLe_e, vIfLe_e, vNonnull_e, vSw_e, vGetI_e, vGetL_e, vGetR_e, vPutI_e, vPutZ_e, vPutL_e, vPutR_e, vIald_e, vIald_s, vLald_e, vBald_e, vBald_s, vAald_e, vIast_e, vLast_e, vBast_e, vAast_e, vAlen_e8, vAlen_e9, vAlen_e10, vAlen_e11, vAlen_e5, vAlen_e3, vGets_e, vCompact_e, vLdcS_e, vIret_e, vZret_e, vCret_e, vBret_e, vLret_e, vVret_e, vAret_e, vCallM_e0, vCallMV_e0, vCallS_e0, vCallSV_e0, vCallM_e1, vCallMV_e1, vCallS_e1, vCallSV_e1, vCallM_e2, vCallMV_e2, vCallS_e2, vCallSV_e2, vCallM_e3, vCallMV_e3, vCallS_e3, vCallSV_e3, vCallM_e4, vCallMV_e4, vCallS_e4, vCallSV_e4, vCallM_e5, vCallMV_e5, vCallS_e5, vCallSV_e5, vCallM_e6, vCallMV_e6, vCallS_e6, vCallSV_e6, vCallM_e7, vCallMV_e7, vCallS_e7, vCallSV_e7, vBad_e, vStrVal_e, vStrCod_e, vForm_e, vCallT_e0, vCallT_e1, vCallT_e2, vCopy_e, rf_0_0, rf_0_1, rf_0_2, rf_0_3, rf_0_4, rf_0_7, rf_0_10, rf_0_11, rf_0_12, rf_0_13, rf_0_14, rf_0_15, rf_0_16, rf_1_0, rf_3_0, rf_3_1, rf_6_0, rf_6_1, rf_9_0, rf_9_1, rf_9_3, rf_13_0, rf_13_1, rf_13_2, rf_16_0, rf_16_1, rf_16_2, rf_16_3, rf_21_0, rf_21_1, rf_21_2, rf_21_3, rf_26_0, rf_26_1, rf_26_2, rf_26_3, rf_26_4, rf_26_5, rf_26_6, rf_31_0, rf_31_2, rf_31_5, rf_31_6, rf_36_0, rf_36_1, rf_36_2, rf_36_3, rf_39_0, rf_39_1, rf_39_2, rf_41_0, rf_41_1, rf_41_2, rf_41_3, rf_5000_1, rf_5000_2, rf_5000_3, rf_5000_4, rf_5000_5, rf_5000_15, rf_5000_16, rf_5000_18, rf_5000_19, rf_5000_20, rf_5000_21, rf_5000_22, rf_5000_23, rf_5000_24, rf_5000_25, rf_5000_26, rf_5000_27, rf_5000_36, rf_5000_37, rf_5000_40, rf_5000_41, rf_5000_42, rf_5000_43, rf_5000_44, rf_5000_45, rf_5000_47, rf_5000_52, rf_5000_54, rf_5000_55, rf_100_0, rf_100_1, rf_103_0, rf_103_1, rf_106_0, rf_106_1, rf_109_0, rf_109_1, al_2, al_4, al_5, al_7, al_8, al_10, al_11, al_12, al_14, al_15, al_17, al_18, al_19, al_20, al_22, al_23, al_24, al_25, al_27, al_28, al_29, al_30, al_32, al_33, al_34, al_35, al_37, al_38, al_40, al_42, al_5001, al_5002, al_5003, al_5004, al_5005, al_5006, al_5007, al_5008, al_5009, al_5010, al_5011, al_5012, al_5013, al_5014, al_5015, al_5016, al_5017, al_5018, al_5019, al_5020, al_5021, al_5022, al_5023, al_5024, al_5025, al_5026, al_9000, al_101, al_102, al_104, al_105, al_107, al_108, al_110, al_111, vcs_e, lg_c0, lg_cs, lg_nil, set_c0, set_cs, okst_0, okst_s, acok_n, acok_c, List.contains_nil, List.contains_cons, Bool.or_false, Bool.false_or, Bool.false_eq_true, if_false, if_true, ite_self, ne_eq, true_and, and_true, not_false_eq_true, not_true_eq_false, false_imp_iff, true_imp_iff, Nat.ble_eq, Bool.and_eq_true, reduceCtorEq, or_false, false_or, or_true, true_or, false_and, and_false, and_self, Int.reduceLE, Int.reduceAdd, Int.reduceSub, Int.reduceMul, Int.reduceNeg, Int.reduceLT, Int.reduceEq, Int.reduceNe, Nat.reduceBEq, Nat.reduceBNe, Nat.reduceEqDiff, amCmp_in, amCmp_lt, amCmp_le, amCmp_gt, amCmp_ge, amCmp_eq, amCmp_ne, Nat.reduceLeDiff, Nat.reduceSub, Bool.and_true, Bool.true_and, Bool.and_self, Bool.or_true, Bool.true_or, isRf_3, isRf_4, isRf_5, isRf_8, isRf_9, isRf_10, isRf_11, isRf_15, isRf_16, isRf_17, isRf_18, isRf_19, isRf_20, isRf_21, isRf_22, isRf_23, isRf_24, isRf_25, isRf_26, isRf_27, isRf_28, k_X1_gapBy_0, k_X1_gapBy_1, k_X1_gapBy_3, k_X1_gapBy_4, k_X1_gapBy_6, k_X1_gapBy_8, k_X1_gapBy_10, k_X1_gapBy_13, k_X1_gapBy_14, k_X1_gapBy_16, k_X1_gapBy_17, k_X1_gapBy_18, k_X1_gapBy_19, k_X1_gapBy_22, k_X1_gapBy_24, k_X1_gapBy_25, k_X1_gapBy_26, k_X1_gapBy_28, k_X1_gapBy_29, k_X1_gapBy_31, k_X1_gapBy_33, k_X1_gapBy_36, k_X1_gapBy_39, k_X1_gapBy_40, k_X1_gapBy_43, k_X1_gapBy_44, k_X1_gapBy_45, k_X1_gapBy_47, k_X1_gapBy_50, k_X1_gapBy_53, k_X1_gapBy_55, k_X1_gapBy_58]
    exact ⟨6, rfl, rfl, LF_rf σ, 0, rfl, rfl⟩
theorem gpF_LF {σ τ : Mem} (h : LF σ τ) (hl : lawOk σ) (c S p k v : Int) : ∀ n, gpF τ c S p k v n = gpF σ c S p k v n := by
  intro n
  induction n with
  | zero => rfl
  | succ n ih => unfold gpF; rw [ih, whF_SF (LF_SF h) hl]
theorem gpA_LF {σ τ : Mem} (h : LF σ τ) (hl : lawOk σ) (c S p k v : Int) : gpA τ c S p k v = gpA σ c S p k v := by unfold gpA; rw [gpF_LF h hl]
theorem gpA_b (σ : Mem) (c S p k v : Int) : 0 ≤ gpA σ c S p k v ∧ gpA σ c S p k v ≤ 6 := by
  have := gpF_b σ c S p k v 6
  unfold gpA; split <;> omega
/-- the first PLAY and MINUTE of the least gap -/
def nqS (g code : Int) (s : Int × Int) : Int × Int := if g < s.2 then (code, g) else s
def nqI (σ : Mem) (c S v p : Int) (s : Int × Int) : Nat → Int × Int
  | 0 => s
  | k + 1 => nqS (gpA σ c S p k v) (10 * p + k) (nqI σ c S v p s k)
def nqO (σ : Mem) (c S v : Int) : Nat → Int × Int
  | 0 => (-1, 7)
  | p + 1 => nqI σ c S v p (nqO σ c S v p) (pval σ 6 1 p 3).toNat
theorem nqI_b (σ : Mem) (c S v p : Int) {s : Int × Int} (h : 0 ≤ s.2 ∧ s.2 ≤ 7) : ∀ k, 0 ≤ (nqI σ c S v p s k).2 ∧ (nqI σ c S v p s k).2 ≤ 7 := by
  intro k
  induction k with
  | zero => exact h
  | succ k ih =>
    unfold nqI nqS
    have := gpA_b σ c S p k v
    split
    · dsimp only; omega
    · exact ih
theorem nqO_b (σ : Mem) (c S v : Int) : ∀ p, 0 ≤ (nqO σ c S v p).2 ∧ (nqO σ c S v p).2 ≤ 7 := by
  intro p
  induction p with
  | zero => exact ⟨(by decide : (0 : Int) ≤ 7), (by decide : (7 : Int) ≤ 7)⟩
  | succ p ih => exact nqI_b σ c S v p ih _

theorem wd_1078 : Cond.methodLink RX1 65 yX1_suspects ∈ TBL := tb_tab (List.mem_of_getElem? (i := 1078) (by decide +kernel)) rfl
theorem wd_1056 : Cond.code yX1_suspects cX1_suspects 4 (some .int) ∈ TBL := tb_tab (List.mem_of_getElem? (i := 1056) (by decide +kernel)) rfl
theorem lk_X1_65 : amLk RX1 65 yX1_suspects cX1_suspects 4 (some .int) 1 := ⟨wd_1078, wd_11, wd_1056, by decide +kernel, by decide +kernel, by decide⟩
theorem wd_1054 : Cond.instanceMethod yX1_suspects ∈ TBL := tb_tab (List.mem_of_getElem? (i := 1054) (by decide +kernel)) rfl
theorem wd_1055 : Cond.selects RX1 yX1_suspects yX1_suspects ∈ TBL := tb_tab (List.mem_of_getElem? (i := 1055) (by decide +kernel)) rfl
theorem wd_1079 : Cond.methodLink RX1 68 yX1_gapBy ∈ TBL := tb_tab (List.mem_of_getElem? (i := 1079) (by decide +kernel)) rfl
theorem wd_1082 : Cond.code yX1_gapBy cX1_gapBy 8 (some .int) ∈ TBL := tb_tab (List.mem_of_getElem? (i := 1082) (by decide +kernel)) rfl
theorem lk_X1_68 : amLk RX1 68 yX1_gapBy cX1_gapBy 8 (some .int) 5 := ⟨wd_1079, wd_11, wd_1082, by decide +kernel, by decide +kernel, by decide⟩
theorem wd_1081 : Cond.instanceMethod yX1_gapBy ∈ TBL := tb_tab (List.mem_of_getElem? (i := 1081) (by decide +kernel)) rfl
theorem sl_X1_gapBy : Cond.selects RX1 yX1_gapBy yX1_gapBy ∈ TBL := tb_sel (List.mem_of_getElem? (i := 36) (by decide +kernel)) rfl
def a_X1_nextQuestion : AC := [(0, vAload 0 1), (1, vIload 1 2), (2, vCallM w_X1_suspects 17 1 5), (5, vIstore 3 6), (6, vI (-1) 7), (7, vIstore 4 9), (9, vI 7 11), (11, vIstore 5 13), (13, vI 0 14), (14, vIstore 6 16), (16, vIload 3 17), (17, vIfEq 96 20), (20, vIload 6 22), (22, vAload 0 23), (23, vGetR TT 17 0 22 26), (26, vI 1 27), (27, vCallM w_X6_many 22 1 30), (30, vIcGe 96 33), (33, vI 0 34), (34, vIstore 7 36), (36, vIload 7 38), (38, vAload 0 39), (39, vGetR TT 17 0 22 42), (42, vIload 6 44), (44, vCallM w_X6_minutes 22 1 47), (47, vIcGe 90 50), (50, vAload 0 51), (51, vIload 1 52), (52, vIload 3 53), (53, vIload 6 55), (55, vIload 7 57), (57, vIload 2 58), (58, vCallM w_X1_gapBy 17 5 61), (61, vIstore 8 63), (63, vIload 8 65), (65, vIload 5 67), (67, vIcGe 84 70), (70, vIload 8 72), (72, vIstore 5 74), (74, vI 10 76), (76, vIload 6 78), (78, vImul 79), (79, vIload 7 81), (81, vIadd 82), (82, vIstore 4 84), (84, vIinc 7 1 87), (87, vGoto 36), (90, vIinc 6 1 93), (93, vGoto 16), (96, vIload 4 98), (98, vIret)]
theorem k_X1_nextQuestion_0 : look a_X1_nextQuestion 0 = vAload 0 1 := rfl
theorem k_X1_nextQuestion_1 : look a_X1_nextQuestion 1 = vIload 1 2 := rfl
theorem k_X1_nextQuestion_2 : look a_X1_nextQuestion 2 = vCallM w_X1_suspects 17 1 5 := rfl
theorem k_X1_nextQuestion_5 : look a_X1_nextQuestion 5 = vIstore 3 6 := rfl
theorem k_X1_nextQuestion_6 : look a_X1_nextQuestion 6 = vI (-1) 7 := rfl
theorem k_X1_nextQuestion_7 : look a_X1_nextQuestion 7 = vIstore 4 9 := rfl
theorem k_X1_nextQuestion_9 : look a_X1_nextQuestion 9 = vI 7 11 := rfl
theorem k_X1_nextQuestion_11 : look a_X1_nextQuestion 11 = vIstore 5 13 := rfl
theorem k_X1_nextQuestion_13 : look a_X1_nextQuestion 13 = vI 0 14 := rfl
theorem k_X1_nextQuestion_14 : look a_X1_nextQuestion 14 = vIstore 6 16 := rfl
theorem k_X1_nextQuestion_16 : look a_X1_nextQuestion 16 = vIload 3 17 := rfl
theorem k_X1_nextQuestion_17 : look a_X1_nextQuestion 17 = vIfEq 96 20 := rfl
theorem k_X1_nextQuestion_20 : look a_X1_nextQuestion 20 = vIload 6 22 := rfl
theorem k_X1_nextQuestion_22 : look a_X1_nextQuestion 22 = vAload 0 23 := rfl
theorem k_X1_nextQuestion_23 : look a_X1_nextQuestion 23 = vGetR TT 17 0 22 26 := rfl
theorem k_X1_nextQuestion_26 : look a_X1_nextQuestion 26 = vI 1 27 := rfl
theorem k_X1_nextQuestion_27 : look a_X1_nextQuestion 27 = vCallM w_X6_many 22 1 30 := rfl
theorem k_X1_nextQuestion_30 : look a_X1_nextQuestion 30 = vIcGe 96 33 := rfl
theorem k_X1_nextQuestion_33 : look a_X1_nextQuestion 33 = vI 0 34 := rfl
theorem k_X1_nextQuestion_34 : look a_X1_nextQuestion 34 = vIstore 7 36 := rfl
theorem k_X1_nextQuestion_36 : look a_X1_nextQuestion 36 = vIload 7 38 := rfl
theorem k_X1_nextQuestion_38 : look a_X1_nextQuestion 38 = vAload 0 39 := rfl
theorem k_X1_nextQuestion_39 : look a_X1_nextQuestion 39 = vGetR TT 17 0 22 42 := rfl
theorem k_X1_nextQuestion_42 : look a_X1_nextQuestion 42 = vIload 6 44 := rfl
theorem k_X1_nextQuestion_44 : look a_X1_nextQuestion 44 = vCallM w_X6_minutes 22 1 47 := rfl
theorem k_X1_nextQuestion_47 : look a_X1_nextQuestion 47 = vIcGe 90 50 := rfl
theorem k_X1_nextQuestion_50 : look a_X1_nextQuestion 50 = vAload 0 51 := rfl
theorem k_X1_nextQuestion_51 : look a_X1_nextQuestion 51 = vIload 1 52 := rfl
theorem k_X1_nextQuestion_52 : look a_X1_nextQuestion 52 = vIload 3 53 := rfl
theorem k_X1_nextQuestion_53 : look a_X1_nextQuestion 53 = vIload 6 55 := rfl
theorem k_X1_nextQuestion_55 : look a_X1_nextQuestion 55 = vIload 7 57 := rfl
theorem k_X1_nextQuestion_57 : look a_X1_nextQuestion 57 = vIload 2 58 := rfl
theorem k_X1_nextQuestion_58 : look a_X1_nextQuestion 58 = vCallM w_X1_gapBy 17 5 61 := rfl
theorem k_X1_nextQuestion_61 : look a_X1_nextQuestion 61 = vIstore 8 63 := rfl
theorem k_X1_nextQuestion_63 : look a_X1_nextQuestion 63 = vIload 8 65 := rfl
theorem k_X1_nextQuestion_65 : look a_X1_nextQuestion 65 = vIload 5 67 := rfl
theorem k_X1_nextQuestion_67 : look a_X1_nextQuestion 67 = vIcGe 84 70 := rfl
theorem k_X1_nextQuestion_70 : look a_X1_nextQuestion 70 = vIload 8 72 := rfl
theorem k_X1_nextQuestion_72 : look a_X1_nextQuestion 72 = vIstore 5 74 := rfl
theorem k_X1_nextQuestion_74 : look a_X1_nextQuestion 74 = vI 10 76 := rfl
theorem k_X1_nextQuestion_76 : look a_X1_nextQuestion 76 = vIload 6 78 := rfl
theorem k_X1_nextQuestion_78 : look a_X1_nextQuestion 78 = vImul 79 := rfl
theorem k_X1_nextQuestion_79 : look a_X1_nextQuestion 79 = vIload 7 81 := rfl
theorem k_X1_nextQuestion_81 : look a_X1_nextQuestion 81 = vIadd 82 := rfl
theorem k_X1_nextQuestion_82 : look a_X1_nextQuestion 82 = vIstore 4 84 := rfl
theorem k_X1_nextQuestion_84 : look a_X1_nextQuestion 84 = vIinc 7 1 87 := rfl
theorem k_X1_nextQuestion_87 : look a_X1_nextQuestion 87 = vGoto 36 := rfl
theorem k_X1_nextQuestion_90 : look a_X1_nextQuestion 90 = vIinc 6 1 93 := rfl
theorem k_X1_nextQuestion_93 : look a_X1_nextQuestion 93 = vGoto 16 := rfl
theorem k_X1_nextQuestion_96 : look a_X1_nextQuestion 96 = vIload 4 98 := rfl
theorem k_X1_nextQuestion_98 : look a_X1_nextQuestion 98 = vIret := rfl
theorem o_X1_nextQuestion {X : amX} (e1 : XT X = TT) (e2 : XD X = 6) (hB : amB X RX1 cX1_nextQuestion (some .int) 9) : ∀ pc, amOK X pc (look a_X1_nextQuestion pc) := by
  have hT : amTok (XT X) := e1 ▸ TT_ok
  refine look_ok ?_
  unfold a_X1_nextQuestion
  refine fc (ok_aload_n hB dX1_nextQuestion_0) ?_
  refine fc (ok_iload_n hB dX1_nextQuestion_1) ?_
  refine fc (ok_callM hB hT (e1 ▸ s_X1_suspects) lk_X1_65 (by rw [e2]; decide) (c := 1) rfl rfl rfl wd_1054 wd_1055 dX1_nextQuestion_2) ?_
  refine fc (ok_istore_n hB (by decide) dX1_nextQuestion_5) ?_
  refine fc (ok_iconst hB dX1_nextQuestion_6) ?_
  refine fc (ok_istore hB (by decide) dX1_nextQuestion_7) ?_
  refine fc (ok_bipush hB dX1_nextQuestion_9 (by decide)) ?_
  refine fc (ok_istore hB (by decide) dX1_nextQuestion_11) ?_
  refine fc (ok_iconst hB dX1_nextQuestion_13) ?_
  refine fc (ok_istore hB (by decide) dX1_nextQuestion_14) ?_
  refine fc (ok_iload_n hB dX1_nextQuestion_16) ?_
  refine fc (ok_if_eq hB (t := 96) (by decide) dX1_nextQuestion_17) ?_
  refine fc (ok_iload hB dX1_nextQuestion_20) ?_
  refine fc (ok_aload_n hB dX1_nextQuestion_22) ?_
  refine fc (okt_getR e1 hB hT fl_X1_19 rfl af_1_0 at_1_0 (by decide) dX1_nextQuestion_23) ?_
  refine fc (ok_iconst hB dX1_nextQuestion_26) ?_
  refine fc (ok_callM hB hT (e1 ▸ s_X6_many) lk_X1_37 (by rw [e2]; decide) (c := 6) rfl rfl rfl wd_557 wd_558 dX1_nextQuestion_27) ?_
  refine fc (ok_icmp_ge hB (t := 96) (by decide) dX1_nextQuestion_30) ?_
  refine fc (ok_iconst hB dX1_nextQuestion_33) ?_
  refine fc (ok_istore hB (by decide) dX1_nextQuestion_34) ?_
  refine fc (ok_iload hB dX1_nextQuestion_36) ?_
  refine fc (ok_aload_n hB dX1_nextQuestion_38) ?_
  refine fc (okt_getR e1 hB hT fl_X1_19 rfl af_1_0 at_1_0 (by decide) dX1_nextQuestion_39) ?_
  refine fc (ok_iload hB dX1_nextQuestion_42) ?_
  refine fc (ok_callM hB hT (e1 ▸ s_X6_minutes) lk_X1_31 (by rw [e2]; decide) (c := 6) rfl rfl rfl wd_799 wd_800 dX1_nextQuestion_44) ?_
  refine fc (ok_icmp_ge hB (t := 90) (by decide) dX1_nextQuestion_47) ?_
  refine fc (ok_aload_n hB dX1_nextQuestion_50) ?_
  refine fc (ok_iload_n hB dX1_nextQuestion_51) ?_
  refine fc (ok_iload_n hB dX1_nextQuestion_52) ?_
  refine fc (ok_iload hB dX1_nextQuestion_53) ?_
  refine fc (ok_iload hB dX1_nextQuestion_55) ?_
  refine fc (ok_iload_n hB dX1_nextQuestion_57) ?_
  refine fc (ok_callM hB hT (e1 ▸ s_X1_gapBy) lk_X1_68 (by rw [e2]; decide) (c := 1) rfl rfl rfl wd_1081 sl_X1_gapBy dX1_nextQuestion_58) ?_
  refine fc (ok_istore hB (by decide) dX1_nextQuestion_61) ?_
  refine fc (ok_iload hB dX1_nextQuestion_63) ?_
  refine fc (ok_iload hB dX1_nextQuestion_65) ?_
  refine fc (ok_icmp_ge hB (t := 84) (by decide) dX1_nextQuestion_67) ?_
  refine fc (ok_iload hB dX1_nextQuestion_70) ?_
  refine fc (ok_istore hB (by decide) dX1_nextQuestion_72) ?_
  refine fc (ok_bipush hB dX1_nextQuestion_74 (by decide)) ?_
  refine fc (ok_iload hB dX1_nextQuestion_76) ?_
  refine fc (ok_imul hB dX1_nextQuestion_78) ?_
  refine fc (ok_iload hB dX1_nextQuestion_79) ?_
  refine fc (ok_iadd hB dX1_nextQuestion_81) ?_
  refine fc (ok_istore hB (by decide) dX1_nextQuestion_82) ?_
  refine fc (ok_iinc hB (by decide) dX1_nextQuestion_84) ?_
  refine fc (ok_goto hB (t := 36) (by decide) dX1_nextQuestion_87) ?_
  refine fc (ok_iinc hB (by decide) dX1_nextQuestion_90) ?_
  refine fc (ok_goto hB (t := 16) (by decide) dX1_nextQuestion_93) ?_
  refine fc (ok_iload hB dX1_nextQuestion_96) ?_
  refine fc (ok_iret hB dX1_nextQuestion_98) ?_
  exact fn
noncomputable def susS (σ : Mem) (c : Int) : Int := gb (fitB σ c) (pcnt σ 6 3).toNat
def inv_nq (σ : Mem) (c v S : Int) (n pc : Nat) (ls st : List AV) (σ' : Mem) : Prop := st = [] ∧ LF σ σ' ∧ ∃ (p : Nat) (v7 v8 : AV),
  ((pc = 16 ∧ (S = 0 → p = 0) ∧ (p : Int) ≤ pcnt σ 6 1 ∧ (n : Int) = (pcnt σ 6 1 - p) * 200 ∧ ls = [(17, 41), (0, c), (0, v), (0, S), (0, (nqO σ c S v p).1), (0, (nqO σ c S v p).2), (0, (p : Int)), v7, v8]) ∨
   (pc = 36 ∧ (p : Int) < pcnt σ 6 1 ∧ S ≠ 0 ∧ ∃ k : Nat, (k : Int) ≤ pval σ 6 1 p 3 ∧ (n : Int) = (pcnt σ 6 1 - p) * 200 - 1 - k ∧ ls = [(17, 41), (0, c), (0, v), (0, S), (0, (nqI σ c S v p (nqO σ c S v p) k).1), (0, (nqI σ c S v p (nqO σ c S v p) k).2), (0, (p : Int)), (0, (k : Int)), v8]))
def w_X1_nextQuestion : WP := fun av σ Q => ∃ (c : Int) (v : Int), av = [(17, 41), (0, c), (0, v)] ∧ (0 ≤ c ∧ c < 6 ∧ stOk σ 16 ∧ (∀ i, 0 ≤ i → i < 6 → InR (σ 18 i)) ∧ cluOk σ ∧ InR v ∧ (∀ τ, LF σ τ → Q (0, if susS σ c = 0 then -1 else (nqO σ c (susS σ c) v (pcnt σ 6 1).toNat).1) τ))
theorem w_X1_nextQuestion_e (c : Int) (v : Int) (σ : Mem) (Q : AV → Mem → Prop) : w_X1_nextQuestion [(17, 41), (0, c), (0, v)] σ Q = (0 ≤ c ∧ c < 6 ∧ stOk σ 16 ∧ (∀ i, 0 ≤ i → i < 6 → InR (σ 18 i)) ∧ cluOk σ ∧ InR v ∧ (∀ τ, LF σ τ → Q (0, if susS σ c = 0 then -1 else (nqO σ c (susS σ c) v (pcnt σ 6 1).toNat).1) τ)) := by
  apply propext; constructor
  · rintro ⟨c', v', h9, hb9⟩; cases h9; exact hb9
  · intro hb9; exact ⟨c, v, rfl, hb9⟩

set_option maxRecDepth 100000 in
set_option maxHeartbeats 4000000 in
theorem s_X1_nextQuestion : ∀ av σ Q, w_X1_nextQuestion av σ Q → amCall 6 0 0 TT yX1_nextQuestion cX1_nextQuestion 9 (some .int) av σ Q := by
  rintro av σ Q ⟨c, v, rfl, hc0, hc1, hst, hse, hcl, hv, h⟩
  have hlw := hst.2.2.1
  have hB := hst.2.1
  have c1 := pcnt_b hB 1
  have c3 := pcnt_b hB 3
  have hb := gb_64 (fitB σ c) (n := (pcnt σ 6 3).toNat) (by omega)
  have eS : gb (fitB σ c) (pcnt σ 6 3).toNat = susS σ c := rfl
  rw [eS] at hb
  generalize hSe : susS σ c = S at *
  refine am_m [16, 36] (inv_nq σ c v S) (own := RX1) (A := look a_X1_nextQuestion) (fun X e1 e2 hB => o_X1_nextQuestion e1 e2 hB) rfl (by decide +kernel) rfl rfl ?_ ⟨60, ?_⟩ (w := 9)
  · rintro n pc ls st σ' ⟨rfl, hF, p, v7, v8, ⟨rfl, hz0, hp, hn, rfl⟩ | ⟨rfl, hp, hnz, k, hk, hn, rfl⟩⟩
    · have hS := LF_SF hF
      have pc1 : pcnt σ' 6 1 = pcnt σ 6 1 := SF_pcnt hS 1
      refine ⟨60, ?_⟩
      simp only [↓reduceIte, inR_0, inR_1, inR_m, vSw2_e, swP_n, swP_c, vI_e, vL_e, vNull_e, vIload_e, vLload_e, vAload_e, vIstore_e, vLstore_e, vAstore_e, vIinc_e, vIadd_e, vIsub_e, vImul_e, vIand_e, vIor_e, vIxor_e, vIshl_e, vIshr_e, vIushr_e, vIdiv_e, vIrem_e, vLadd_e, vLsub_e, vLmul_e, vLand_e, vLor_e, vLxor_e, vLdiv_e, vLrem_e, vLushr_e, vLshl_e, vLcmp_e, vIneg_e, vI2l_e, vL2i_e, vI2b_e, vI2c_e, vDup_e, vPop_e, vDup2_e, vGoto_e, vIcEq_e, vIfEq_e, vIcNe_e, vIfNe_e, vIcLt_e, vIfLt_e, vIcGe_e, vIfGe_e, vIcGt_e, vIfGt_e, vIcLe_e, vIfLe_e, vNonnull_e, vSw_e, vGetI_e, vGetL_e, vGetR_e, vPutI_e, vPutZ_e, vPutL_e, vPutR_e, vIald_e, vIald_s, vLald_e, vBald_e, vBald_s, vAald_e, vIast_e, vLast_e, vBast_e, vAast_e, vAlen_e8, vAlen_e9, vAlen_e10, vAlen_e11, vAlen_e5, vAlen_e3, vGets_e, vCompact_e, vLdcS_e, vIret_e, vZret_e, vCret_e, vBret_e, vLret_e, vVret_e, vAret_e, vCallM_e0, vCallMV_e0, vCallS_e0, vCallSV_e0, vCallM_e1, vCallMV_e1, vCallS_e1, vCallSV_e1, vCallM_e2, vCallMV_e2, vCallS_e2, vCallSV_e2, vCallM_e3, vCallMV_e3, vCallS_e3, vCallSV_e3, vCallM_e4, vCallMV_e4, vCallS_e4, vCallSV_e4, vCallM_e5, vCallMV_e5, vCallS_e5, vCallSV_e5, vCallM_e6, vCallMV_e6, vCallS_e6, vCallSV_e6, vCallM_e7, vCallMV_e7, vCallS_e7, vCallSV_e7, vBad_e, vStrVal_e, vStrCod_e, vForm_e, vCallT_e0, vCallT_e1, vCallT_e2, vCopy_e, rf_0_0, rf_0_1, rf_0_2, rf_0_3, rf_0_4, rf_0_7, rf_0_10, rf_0_11, rf_0_12, rf_0_13, rf_0_14, rf_0_15, rf_0_16, rf_1_0, rf_3_0, rf_3_1, rf_6_0, rf_6_1, rf_9_0, rf_9_1, rf_9_3, rf_13_0, rf_13_1, rf_13_2, rf_16_0, rf_16_1, rf_16_2, rf_16_3, rf_21_0, rf_21_1, rf_21_2, rf_21_3, rf_26_0, rf_26_1, rf_26_2, rf_26_3, rf_26_4, rf_26_5, rf_26_6, rf_31_0, rf_31_2, rf_31_5, rf_31_6, rf_36_0, rf_36_1, rf_36_2, rf_36_3, rf_39_0, rf_39_1, rf_39_2, rf_41_0, rf_41_1, rf_41_2, rf_41_3, rf_5000_1, rf_5000_2, rf_5000_3, rf_5000_4, rf_5000_5, rf_5000_15, rf_5000_16, rf_5000_18, rf_5000_19, rf_5000_20, rf_5000_21, rf_5000_22, rf_5000_23, rf_5000_24, rf_5000_25, rf_5000_26, rf_5000_27, rf_5000_36, rf_5000_37, rf_5000_40, rf_5000_41, rf_5000_42, rf_5000_43, rf_5000_44, rf_5000_45, rf_5000_47, rf_5000_52, rf_5000_54, rf_5000_55, rf_100_0, rf_100_1, rf_103_0, rf_103_1, rf_106_0, rf_106_1, rf_109_0, rf_109_1, al_2, al_4, al_5, al_7, al_8, al_10, al_11, al_12, al_14, al_15, al_17, al_18, al_19, al_20, al_22, al_23, al_24, al_25, al_27, al_28, al_29, al_30, al_32, al_33, al_34, al_35, al_37, al_38, al_40, al_42, al_5001, al_5002, al_5003, al_5004, al_5005, al_5006, al_5007, al_5008, al_5009, al_5010, al_5011, al_5012, al_5013, al_5014, al_5015, al_5016, al_5017, al_5018, al_5019, al_5020, al_5021, al_5022, al_5023, al_5024, al_5025, al_5026, al_9000, al_101, al_102, al_104, al_105, al_107, al_108, al_110, al_111, vcs_e, lg_c0, lg_cs, lg_nil, set_c0, set_cs, okst_0, okst_s, acok_n, acok_c, List.contains_nil, List.contains_cons, Bool.or_false, Bool.false_or, Bool.false_eq_true, if_false, if_true, ite_self, ne_eq, true_and, and_true, not_false_eq_true, not_true_eq_false, false_imp_iff, true_imp_iff, Nat.ble_eq, Bool.and_eq_true, reduceCtorEq, or_false, false_or, or_true, true_or, false_and, and_false, and_self, Int.reduceLE, Int.reduceAdd, Int.reduceSub, Int.reduceMul, Int.reduceNeg, Int.reduceLT, Int.reduceEq, Int.reduceNe, Nat.reduceBEq, Nat.reduceBNe, Nat.reduceEqDiff, amCmp_in, amCmp_lt, amCmp_le, amCmp_gt, amCmp_ge, amCmp_eq, amCmp_ne, Nat.reduceLeDiff, Nat.reduceSub, Bool.and_true, Bool.true_and, Bool.and_self, Bool.or_true, Bool.true_or, isRf_3, isRf_4, isRf_5, isRf_8, isRf_9, isRf_10, isRf_11, isRf_15, isRf_16, isRf_17, isRf_18, isRf_19, isRf_20, isRf_21, isRf_22, isRf_23, isRf_24, isRf_25, isRf_26, isRf_27, isRf_28, k_X1_nextQuestion_0, k_X1_nextQuestion_1, k_X1_nextQuestion_2, k_X1_nextQuestion_5, k_X1_nextQuestion_6, k_X1_nextQuestion_7, k_X1_nextQuestion_9, k_X1_nextQuestion_11, k_X1_nextQuestion_13, k_X1_nextQuestion_14, k_X1_nextQuestion_16, k_X1_nextQuestion_17, k_X1_nextQuestion_20, k_X1_nextQuestion_22, k_X1_nextQuestion_23, k_X1_nextQuestion_26, k_X1_nextQuestion_27, k_X1_nextQuestion_30, k_X1_nextQuestion_33, k_X1_nextQuestion_34, k_X1_nextQuestion_36, k_X1_nextQuestion_38, k_X1_nextQuestion_39, k_X1_nextQuestion_42, k_X1_nextQuestion_44, k_X1_nextQuestion_47, k_X1_nextQuestion_50, k_X1_nextQuestion_51, k_X1_nextQuestion_52, k_X1_nextQuestion_53, k_X1_nextQuestion_55, k_X1_nextQuestion_57, k_X1_nextQuestion_58, k_X1_nextQuestion_61, k_X1_nextQuestion_63, k_X1_nextQuestion_65, k_X1_nextQuestion_67, k_X1_nextQuestion_70, k_X1_nextQuestion_72, k_X1_nextQuestion_74, k_X1_nextQuestion_76, k_X1_nextQuestion_78, k_X1_nextQuestion_79, k_X1_nextQuestion_81, k_X1_nextQuestion_82, k_X1_nextQuestion_84, k_X1_nextQuestion_87, k_X1_nextQuestion_90, k_X1_nextQuestion_93, k_X1_nextQuestion_96, k_X1_nextQuestion_98, w_X1_gapBy_e, w_X1_suspects_e, w_X6_many_e, w_X6_minutes_e, pc1]
      by_cases cz : S = 0
      · rw [if_pos cz] at h
        have p0 := hz0 cz
        subst p0
        have hh := h σ' hF
        have e0 : (nqO σ c S v 0).1 = -1 := rfl
        simp only [e0]
        repeat' (first | assumption | apply And.intro | intro _)
        all_goals first | omega | exact absurd trivial (by assumption) | exact Or.inr rfl | exact hh
      · rw [if_neg cz] at h
        by_cases hlt : (p : Int) < pcnt σ 6 1
        · have i9 : ∃ k', k' < n ∧ inv_nq σ c v S k' 36 [(17, 41), (0, c), (0, v), (0, S), (0, (nqO σ c S v p).1), (0, (nqO σ c S v p).2), (0, (p : Int)), (0, 0), v8] [] σ' :=
            ⟨n - 1, by omega, rfl, hF, p, v7, v8, Or.inr ⟨rfl, hlt, cz, 0, (pval_b hB 1 p 3).1, by omega, rfl⟩⟩
          repeat' (first | assumption | apply And.intro | intro _)
          all_goals first | omega | exact absurd trivial (by assumption) | exact Or.inr rfl | exact i9
        · rw [show (pcnt σ 6 1).toNat = p by omega] at h
          have hh := h σ' hF
          repeat' (first | assumption | apply And.intro | intro _)
          all_goals first | omega | exact absurd trivial (by assumption) | exact Or.inr rfl | exact hh
    · have hS := LF_SF hF
      have hst' := stOk_SF hS hst
      have r18 : σ' 18 = σ 18 := hF 18 (by decide) (by decide) (by decide) (by decide) (by decide)
      have mb := pval_b hB 1 p 3
      have nb := nqI_b σ c S v p (nqO_b σ c S v p) k
      have gbd := gpA_b σ c S p k v
      refine ⟨60, ?_⟩
      simp only [↓reduceIte, inR_0, inR_1, inR_m, vSw2_e, swP_n, swP_c, vI_e, vL_e, vNull_e, vIload_e, vLload_e, vAload_e, vIstore_e, vLstore_e, vAstore_e, vIinc_e, vIadd_e, vIsub_e, vImul_e, vIand_e, vIor_e, vIxor_e, vIshl_e, vIshr_e, vIushr_e, vIdiv_e, vIrem_e, vLadd_e, vLsub_e, vLmul_e, vLand_e, vLor_e, vLxor_e, vLdiv_e, vLrem_e, vLushr_e, vLshl_e, vLcmp_e, vIneg_e, vI2l_e, vL2i_e, vI2b_e, vI2c_e, vDup_e, vPop_e, vDup2_e, vGoto_e, vIcEq_e, vIfEq_e, vIcNe_e, vIfNe_e, vIcLt_e, vIfLt_e, vIcGe_e, vIfGe_e, vIcGt_e, vIfGt_e, vIcLe_e, vIfLe_e, vNonnull_e, vSw_e, vGetI_e, vGetL_e, vGetR_e, vPutI_e, vPutZ_e, vPutL_e, vPutR_e, vIald_e, vIald_s, vLald_e, vBald_e, vBald_s, vAald_e, vIast_e, vLast_e, vBast_e, vAast_e, vAlen_e8, vAlen_e9, vAlen_e10, vAlen_e11, vAlen_e5, vAlen_e3, vGets_e, vCompact_e, vLdcS_e, vIret_e, vZret_e, vCret_e, vBret_e, vLret_e, vVret_e, vAret_e, vCallM_e0, vCallMV_e0, vCallS_e0, vCallSV_e0, vCallM_e1, vCallMV_e1, vCallS_e1, vCallSV_e1, vCallM_e2, vCallMV_e2, vCallS_e2, vCallSV_e2, vCallM_e3, vCallMV_e3, vCallS_e3, vCallSV_e3, vCallM_e4, vCallMV_e4, vCallS_e4, vCallSV_e4, vCallM_e5, vCallMV_e5, vCallS_e5, vCallSV_e5, vCallM_e6, vCallMV_e6, vCallS_e6, vCallSV_e6, vCallM_e7, vCallMV_e7, vCallS_e7, vCallSV_e7, vBad_e, vStrVal_e, vStrCod_e, vForm_e, vCallT_e0, vCallT_e1, vCallT_e2, vCopy_e, rf_0_0, rf_0_1, rf_0_2, rf_0_3, rf_0_4, rf_0_7, rf_0_10, rf_0_11, rf_0_12, rf_0_13, rf_0_14, rf_0_15, rf_0_16, rf_1_0, rf_3_0, rf_3_1, rf_6_0, rf_6_1, rf_9_0, rf_9_1, rf_9_3, rf_13_0, rf_13_1, rf_13_2, rf_16_0, rf_16_1, rf_16_2, rf_16_3, rf_21_0, rf_21_1, rf_21_2, rf_21_3, rf_26_0, rf_26_1, rf_26_2, rf_26_3, rf_26_4, rf_26_5, rf_26_6, rf_31_0, rf_31_2, rf_31_5, rf_31_6, rf_36_0, rf_36_1, rf_36_2, rf_36_3, rf_39_0, rf_39_1, rf_39_2, rf_41_0, rf_41_1, rf_41_2, rf_41_3, rf_5000_1, rf_5000_2, rf_5000_3, rf_5000_4, rf_5000_5, rf_5000_15, rf_5000_16, rf_5000_18, rf_5000_19, rf_5000_20, rf_5000_21, rf_5000_22, rf_5000_23, rf_5000_24, rf_5000_25, rf_5000_26, rf_5000_27, rf_5000_36, rf_5000_37, rf_5000_40, rf_5000_41, rf_5000_42, rf_5000_43, rf_5000_44, rf_5000_45, rf_5000_47, rf_5000_52, rf_5000_54, rf_5000_55, rf_100_0, rf_100_1, rf_103_0, rf_103_1, rf_106_0, rf_106_1, rf_109_0, rf_109_1, al_2, al_4, al_5, al_7, al_8, al_10, al_11, al_12, al_14, al_15, al_17, al_18, al_19, al_20, al_22, al_23, al_24, al_25, al_27, al_28, al_29, al_30, al_32, al_33, al_34, al_35, al_37, al_38, al_40, al_42, al_5001, al_5002, al_5003, al_5004, al_5005, al_5006, al_5007, al_5008, al_5009, al_5010, al_5011, al_5012, al_5013, al_5014, al_5015, al_5016, al_5017, al_5018, al_5019, al_5020, al_5021, al_5022, al_5023, al_5024, al_5025, al_5026, al_9000, al_101, al_102, al_104, al_105, al_107, al_108, al_110, al_111, vcs_e, lg_c0, lg_cs, lg_nil, set_c0, set_cs, okst_0, okst_s, acok_n, acok_c, List.contains_nil, List.contains_cons, Bool.or_false, Bool.false_or, Bool.false_eq_true, if_false, if_true, ite_self, ne_eq, true_and, and_true, not_false_eq_true, not_true_eq_false, false_imp_iff, true_imp_iff, Nat.ble_eq, Bool.and_eq_true, reduceCtorEq, or_false, false_or, or_true, true_or, false_and, and_false, and_self, Int.reduceLE, Int.reduceAdd, Int.reduceSub, Int.reduceMul, Int.reduceNeg, Int.reduceLT, Int.reduceEq, Int.reduceNe, Nat.reduceBEq, Nat.reduceBNe, Nat.reduceEqDiff, amCmp_in, amCmp_lt, amCmp_le, amCmp_gt, amCmp_ge, amCmp_eq, amCmp_ne, Nat.reduceLeDiff, Nat.reduceSub, Bool.and_true, Bool.true_and, Bool.and_self, Bool.or_true, Bool.true_or, isRf_3, isRf_4, isRf_5, isRf_8, isRf_9, isRf_10, isRf_11, isRf_15, isRf_16, isRf_17, isRf_18, isRf_19, isRf_20, isRf_21, isRf_22, isRf_23, isRf_24, isRf_25, isRf_26, isRf_27, isRf_28, k_X1_nextQuestion_0, k_X1_nextQuestion_1, k_X1_nextQuestion_2, k_X1_nextQuestion_5, k_X1_nextQuestion_6, k_X1_nextQuestion_7, k_X1_nextQuestion_9, k_X1_nextQuestion_11, k_X1_nextQuestion_13, k_X1_nextQuestion_14, k_X1_nextQuestion_16, k_X1_nextQuestion_17, k_X1_nextQuestion_20, k_X1_nextQuestion_22, k_X1_nextQuestion_23, k_X1_nextQuestion_26, k_X1_nextQuestion_27, k_X1_nextQuestion_30, k_X1_nextQuestion_33, k_X1_nextQuestion_34, k_X1_nextQuestion_36, k_X1_nextQuestion_38, k_X1_nextQuestion_39, k_X1_nextQuestion_42, k_X1_nextQuestion_44, k_X1_nextQuestion_47, k_X1_nextQuestion_50, k_X1_nextQuestion_51, k_X1_nextQuestion_52, k_X1_nextQuestion_53, k_X1_nextQuestion_55, k_X1_nextQuestion_57, k_X1_nextQuestion_58, k_X1_nextQuestion_61, k_X1_nextQuestion_63, k_X1_nextQuestion_65, k_X1_nextQuestion_67, k_X1_nextQuestion_70, k_X1_nextQuestion_72, k_X1_nextQuestion_74, k_X1_nextQuestion_76, k_X1_nextQuestion_78, k_X1_nextQuestion_79, k_X1_nextQuestion_81, k_X1_nextQuestion_82, k_X1_nextQuestion_84, k_X1_nextQuestion_87, k_X1_nextQuestion_90, k_X1_nextQuestion_93, k_X1_nextQuestion_96, k_X1_nextQuestion_98, w_X1_gapBy_e, w_X1_suspects_e, w_X6_many_e, w_X6_minutes_e, pmin_e, SF_pval hS, r18, gpA_LF hF hlw]
      by_cases hlt : (k : Int) < pval σ 6 1 p 3
      · have nx : ∀ τ x y g, LF σ' τ → (x, y) = nqI σ c S v p (nqO σ c S v p) (k + 1) → ∃ k', k' < n ∧ inv_nq σ c v S k' 36 [(17, 41), (0, c), (0, v), (0, S), (0, x), (0, y), (0, (p : Int)), (0, (k : Int) + 1), g] [] τ := fun τ x y g g1 g2 =>
          ⟨n - 1, by omega, rfl, LF_tr hF g1, p, v7, g, Or.inr ⟨rfl, hp, hnz, k + 1, by omega, by omega, by rw [← g2]; rfl⟩⟩
        have e : nqI σ c S v p (nqO σ c S v p) (k + 1) = nqS (gpA σ c S p k v) (10 * p + k) (nqI σ c S v p (nqO σ c S v p) k) := rfl
        unfold nqS at e
        by_cases cg : gpA σ c S p k v < (nqI σ c S v p (nqO σ c S v p) k).2
        · rw [if_pos cg] at e
          have i9 := fun τ hτ => nx τ (10 * p + k) (gpA σ c S p k v) (0, gpA σ c S p k v) hτ e.symm
          repeat' (first | assumption | apply And.intro | intro _)
          all_goals first | omega | exact absurd trivial (by assumption) | exact Or.inr rfl | exact stOk_SF hS hst | exact hse _ (by assumption) (by assumption) | exact i9 _ (by assumption)
        · rw [if_neg cg] at e
          have i9 := fun τ hτ => nx τ _ _ (0, gpA σ c S p k v) hτ e.symm
          repeat' (first | assumption | apply And.intro | intro _)
          all_goals first | omega | exact absurd trivial (by assumption) | exact Or.inr rfl | exact stOk_SF hS hst | exact hse _ (by assumption) (by assumption) | exact i9 _ (by assumption)
      · have ek : (pval σ 6 1 p 3).toNat = k := by omega
        have i9 : ∃ k', k' < n ∧ inv_nq σ c v S k' 16 [(17, 41), (0, c), (0, v), (0, S), (0, (nqI σ c S v p (nqO σ c S v p) k).1), (0, (nqI σ c S v p (nqO σ c S v p) k).2), (0, (p : Int) + 1), (0, (k : Int)), v8] [] σ' :=
          ⟨((pcnt σ 6 1 - (p + 1)) * 200).toNat, by omega, rfl, hF, p + 1, (0, (k : Int)), v8, Or.inl ⟨rfl, fun g => absurd g hnz, by omega, by omega, by rw [show nqO σ c S v (p + 1) = nqI σ c S v p (nqO σ c S v p) k from ek ▸ rfl]; rfl⟩⟩
        repeat' (first | assumption | apply And.intro | intro _)
        all_goals first | omega | exact absurd trivial (by assumption) | exact Or.inr rfl | exact i9
  · change vcs _ _ _ _ 60 0 [(17, 41), (0, c), (0, v), (6, 0), (6, 0), (6, 0), (6, 0), (6, 0), (6, 0)] [] σ
    simp only [↓reduceIte, inR_0, inR_1, inR_m, vI_e, vL_e, vNull_e, vIload_e, vLload_e, vAload_e, vIstore_e, vLstore_e, vAstore_e, vIinc_e, vIadd_e, vIsub_e, vImul_e, vIand_e, vIor_e, vIxor_e, vIshl_e, vIshr_e, vIushr_e, vIdiv_e, vIrem_e, vLadd_e, vLsub_e, vLmul_e, vLand_e, vLor_e, vLxor_e, vLdiv_e, vLrem_e, vLushr_e, vLshl_e, vLcmp_e, vIneg_e, vI2l_e, vL2i_e, vI2b_e, vI2c_e, vDup_e, vPop_e, vDup2_e, vGoto_e, vIcEq_e, vIfEq_e, vIcNe_e, vIfNe_e, vIcLt_e, vIfLt_e, vIcGe_e, vIfGe_e, vIcGt_e, vIfGt_e, vIcLe_e, vIfLe_e, vNonnull_e, vSw_e, vGetI_e, vGetL_e, vGetR_e, vPutI_e, vPutZ_e, vPutL_e, vPutR_e, vIald_e, vIald_s, vLald_e, vBald_e, vBald_s, vAald_e, vIast_e, vLast_e, vBast_e, vAast_e, vAlen_e8, vAlen_e9, vAlen_e10, vAlen_e11, vAlen_e5, vAlen_e3, vGets_e, vCompact_e, vLdcS_e, vIret_e, vZret_e, vCret_e, vBret_e, vLret_e, vVret_e, vAret_e, vCallM_e0, vCallMV_e0, vCallS_e0, vCallSV_e0, vCallM_e1, vCallMV_e1, vCallS_e1, vCallSV_e1, vCallM_e2, vCallMV_e2, vCallS_e2, vCallSV_e2, vCallM_e3, vCallMV_e3, vCallS_e3, vCallSV_e3, vCallM_e4, vCallMV_e4, vCallS_e4, vCallSV_e4, vCallM_e5, vCallMV_e5, vCallS_e5, vCallSV_e5, vCallM_e6, vCallMV_e6, vCallS_e6, vCallSV_e6, vCallM_e7, vCallMV_e7, vCallS_e7, vCallSV_e7, vBad_e, vStrVal_e, vStrCod_e, vForm_e, vCallT_e0, vCallT_e1, vCallT_e2, vCopy_e, rf_0_0, rf_0_1, rf_0_2, rf_0_3, rf_0_4, rf_0_7, rf_0_10, rf_0_11, rf_0_12, rf_0_13, rf_0_14, rf_0_15, rf_0_16, rf_1_0, rf_3_0, rf_3_1, rf_6_0, rf_6_1, rf_9_0, rf_9_1, rf_9_3, rf_13_0, rf_13_1, rf_13_2, rf_16_0, rf_16_1, rf_16_2, rf_16_3, rf_21_0, rf_21_1, rf_21_2, rf_21_3, rf_26_0, rf_26_1, rf_26_2, rf_26_3, rf_26_4, rf_26_5, rf_26_6, rf_31_0, rf_31_2, rf_31_5, rf_31_6, rf_36_0, rf_36_1, rf_36_2, rf_36_3, rf_39_0, rf_39_1, rf_39_2, rf_41_0, rf_41_1, rf_41_2, rf_41_3, rf_5000_1, rf_5000_2, rf_5000_3, rf_5000_4, rf_5000_5, rf_5000_15, rf_5000_16, rf_5000_18, rf_5000_19, rf_5000_20, rf_5000_21, rf_5000_22, rf_5000_23, rf_5000_24, rf_5000_25, rf_5000_26, rf_5000_27, rf_5000_36, rf_5000_37, rf_5000_40, rf_5000_41, rf_5000_42, rf_5000_43, rf_5000_44, rf_5000_45, rf_5000_47, rf_5000_52, rf_5000_54, rf_5000_55, rf_100_0, rf_100_1, rf_103_0, rf_103_1, rf_106_0, rf_106_1, rf_109_0, rf_109_1, al_2, al_4, al_5, al_7, al_8, al_10, al_11, al_12, al_14, al_15, al_17, al_18, al_19, al_20, al_22, al_23, al_24, al_25, al_27, al_28, al_29, al_30, al_32, al_33, al_34, al_35, al_37, al_38, al_40, al_42, al_5001, al_5002, al_5003, al_5004, al_5005, al_5006, al_5007, al_5008, al_5009, al_5010, al_5011, al_5012, al_5013, al_5014, al_5015, al_5016, al_5017, al_5018, al_5019, al_5020, al_5021, al_5022, al_5023, al_5024, al_5025, al_5026, al_9000, al_101, al_102, al_104, al_105, al_107, al_108, al_110, al_111, vcs_e, lg_c0, lg_cs, lg_nil, set_c0, set_cs, okst_0, okst_s, acok_n, acok_c, List.contains_nil, List.contains_cons, Bool.or_false, Bool.false_or, Bool.false_eq_true, if_false, if_true, ite_self, ne_eq, true_and, and_true, not_false_eq_true, not_true_eq_false, false_imp_iff, true_imp_iff, Nat.ble_eq, Bool.and_eq_true, reduceCtorEq, or_false, false_or, or_true, true_or, false_and, and_false, and_self, Int.reduceLE, Int.reduceAdd, Int.reduceSub, Int.reduceMul, Int.reduceNeg, Int.reduceLT, Int.reduceEq, Int.reduceNe, Nat.reduceBEq, Nat.reduceBNe, Nat.reduceEqDiff, amCmp_in, amCmp_lt, amCmp_le, amCmp_gt, amCmp_ge, amCmp_eq, amCmp_ne, Nat.reduceLeDiff, Nat.reduceSub, Bool.and_true, Bool.true_and, Bool.and_self, Bool.or_true, Bool.true_or, isRf_3, isRf_4, isRf_5, isRf_8, isRf_9, isRf_10, isRf_11, isRf_15, isRf_16, isRf_17, isRf_18, isRf_19, isRf_20, isRf_21, isRf_22, isRf_23, isRf_24, isRf_25, isRf_26, isRf_27, isRf_28, k_X1_nextQuestion_0, k_X1_nextQuestion_1, k_X1_nextQuestion_2, k_X1_nextQuestion_5, k_X1_nextQuestion_6, k_X1_nextQuestion_7, k_X1_nextQuestion_9, k_X1_nextQuestion_11, k_X1_nextQuestion_13, k_X1_nextQuestion_14, k_X1_nextQuestion_16, k_X1_nextQuestion_17, k_X1_nextQuestion_20, k_X1_nextQuestion_22, k_X1_nextQuestion_23, k_X1_nextQuestion_26, k_X1_nextQuestion_27, k_X1_nextQuestion_30, k_X1_nextQuestion_33, k_X1_nextQuestion_34, k_X1_nextQuestion_36, k_X1_nextQuestion_38, k_X1_nextQuestion_39, k_X1_nextQuestion_42, k_X1_nextQuestion_44, k_X1_nextQuestion_47, k_X1_nextQuestion_50, k_X1_nextQuestion_51, k_X1_nextQuestion_52, k_X1_nextQuestion_53, k_X1_nextQuestion_55, k_X1_nextQuestion_57, k_X1_nextQuestion_58, k_X1_nextQuestion_61, k_X1_nextQuestion_63, k_X1_nextQuestion_65, k_X1_nextQuestion_67, k_X1_nextQuestion_70, k_X1_nextQuestion_72, k_X1_nextQuestion_74, k_X1_nextQuestion_76, k_X1_nextQuestion_78, k_X1_nextQuestion_79, k_X1_nextQuestion_81, k_X1_nextQuestion_82, k_X1_nextQuestion_84, k_X1_nextQuestion_87, k_X1_nextQuestion_90, k_X1_nextQuestion_93, k_X1_nextQuestion_96, k_X1_nextQuestion_98, w_X1_gapBy_e, w_X1_suspects_e, w_X6_many_e, w_X6_minutes_e, eS]
    exact ⟨hc0, hc1, hst, hse, hcl, fun τ hτ => ⟨((pcnt σ 6 1) * 200).toNat, rfl, hτ, 0, _, _, Or.inl ⟨rfl, fun _ => rfl, by omega, by omega, rfl⟩⟩⟩
