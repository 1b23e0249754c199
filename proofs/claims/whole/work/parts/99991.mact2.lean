/-! the reference: ACTS by hand -/
def chM (σ : Mem) (a c t : Int) : Mem := up (up σ a (4 * c + 1) t) a (4 * c + 2) (σ a (4 * c + 2) - σ a 25)
/-- the numbers of an audience are small -/
def mB (σ : Mem) : Prop := (0 ≤ σ 5000 29 ∧ σ 5000 29 ≤ 6) ∧ (0 ≤ σ 5000 30 ∧ σ 5000 30 ≤ 6) ∧ (0 ≤ σ 5000 28 ∧ σ 5000 28 ≤ 4) ∧ (0 ≤ σ 5000 48 ∧ σ 5000 48 ≤ 40) ∧ (∀ j, 0 ≤ j → j < 4 * σ 5000 29 → InR (σ 5015 j)) ∧ InR (σ 5015 25) ∧ (0 ≤ σ 5015 24 ∧ σ 5015 24 < 64)
theorem bor_t0 : ∀ x : Nat, x < 64 → ∀ k : Nat, k < 6 → amIor (x : Int) (amIshl 1 (k : Int)) = (x : Int) + (if bt (x : Int) (k : Int) = 1 then 0 else 2 ^ k) := by decide +kernel
theorem bor_t {x k : Int} (h0 : 0 ≤ x) (h1 : x < 64) (k0 : 0 ≤ k) (k1 : k < 6) : amIor x (amIshl 1 k) = x + (if bt x k = 1 then 0 else 2 ^ k.toNat) := by
  have := bor_t0 x.toNat (by omega) k.toNat (by omega)
  rw [show ((x.toNat : Nat) : Int) = x by omega, show ((k.toNat : Nat) : Int) = k by omega] at this
  exact this
theorem wd_1729 : Cond.methodLink RX12 389 yX12_canChange ∈ TBL := tb_tab (List.mem_of_getElem? (i := 1729) (by decide +kernel)) rfl
theorem wd_1732 : Cond.code yX12_canChange cX12_canChange 4 (some .boolean) ∈ TBL := tb_tab (List.mem_of_getElem? (i := 1732) (by decide +kernel)) rfl
theorem lk_X12_389 : amLk RX12 389 yX12_canChange cX12_canChange 4 (some .boolean) 3 := ⟨wd_1729, wd_12, wd_1732, by decide +kernel, by decide +kernel, by decide⟩
theorem wd_1731 : Cond.instanceMethod yX12_canChange ∈ TBL := tb_tab (List.mem_of_getElem? (i := 1731) (by decide +kernel)) rfl
theorem sl_X12_canChange : Cond.selects RX12 yX12_canChange yX12_canChange ∈ TBL := tb_sel (List.mem_of_getElem? (i := 84) (by decide +kernel)) rfl
theorem wd_1688 : Cond.methodLink RX12 383 yX12_remember ∈ TBL := tb_tab (List.mem_of_getElem? (i := 1688) (by decide +kernel)) rfl
theorem wd_1691 : Cond.code yX12_remember cX12_remember 2 (none) ∈ TBL := tb_tab (List.mem_of_getElem? (i := 1691) (by decide +kernel)) rfl
theorem lk_X12_383 : amLk RX12 383 yX12_remember cX12_remember 2 (none) 0 := ⟨wd_1688, wd_12, wd_1691, by decide +kernel, by decide +kernel, by decide⟩
theorem wd_1690 : Cond.instanceMethod yX12_remember ∈ TBL := tb_tab (List.mem_of_getElem? (i := 1690) (by decide +kernel)) rfl
theorem sl_X12_remember : Cond.selects RX12 yX12_remember yX12_remember ∈ TBL := tb_sel (List.mem_of_getElem? (i := 76) (by decide +kernel)) rfl
theorem wd_1733 : Cond.methodLink RX12 393 yX12_changes ∈ TBL := tb_tab (List.mem_of_getElem? (i := 1733) (by decide +kernel)) rfl
theorem wd_1735 : Cond.code yX12_changes cX12_changes 3 (none) ∈ TBL := tb_tab (List.mem_of_getElem? (i := 1735) (by decide +kernel)) rfl
theorem lk_X12_393 : amLk RX12 393 yX12_changes cX12_changes 3 (none) 3 := ⟨wd_1733, wd_12, wd_1735, by decide +kernel, by decide +kernel, by decide⟩
theorem wd_1734 : Cond.static yX12_changes ∈ TBL := tb_tab (List.mem_of_getElem? (i := 1734) (by decide +kernel)) rfl
def a_X12_change : AC := [(0, vAload 0 1), (1, vI 0 2), (2, vPutI 28 0 5), (5, vAload 0 6), (6, vAload 0 7), (7, vGetR TT 28 36 8 10), (10, vIload 1 11), (11, vIload 2 12), (12, vCallM w_X12_canChange 28 3 15), (15, vIfNe 20 18), (18, vI (-1) 19), (19, vIret), (20, vAload 0 21), (21, vCallMV w_X12_remember 28 0 24), (24, vAload 0 25), (25, vGetR TT 28 36 8 28), (28, vIload 1 29), (29, vIload 2 30), (30, vCallSV w_X12_changes 3 33), (33, vAload 0 34), (34, vGetR TT 28 36 8 37), (37, vI 4 38), (38, vIload 1 39), (39, vImul 40), (40, vI 2 41), (41, vIadd 42), (42, vIald TT 43), (43, vIret)]
theorem k_X12_change_0 : look a_X12_change 0 = vAload 0 1 := rfl
theorem k_X12_change_1 : look a_X12_change 1 = vI 0 2 := rfl
theorem k_X12_change_2 : look a_X12_change 2 = vPutI 28 0 5 := rfl
theorem k_X12_change_5 : look a_X12_change 5 = vAload 0 6 := rfl
theorem k_X12_change_6 : look a_X12_change 6 = vAload 0 7 := rfl
theorem k_X12_change_7 : look a_X12_change 7 = vGetR TT 28 36 8 10 := rfl
theorem k_X12_change_10 : look a_X12_change 10 = vIload 1 11 := rfl
theorem k_X12_change_11 : look a_X12_change 11 = vIload 2 12 := rfl
theorem k_X12_change_12 : look a_X12_change 12 = vCallM w_X12_canChange 28 3 15 := rfl
theorem k_X12_change_15 : look a_X12_change 15 = vIfNe 20 18 := rfl
theorem k_X12_change_18 : look a_X12_change 18 = vI (-1) 19 := rfl
theorem k_X12_change_19 : look a_X12_change 19 = vIret := rfl
theorem k_X12_change_20 : look a_X12_change 20 = vAload 0 21 := rfl
theorem k_X12_change_21 : look a_X12_change 21 = vCallMV w_X12_remember 28 0 24 := rfl
theorem k_X12_change_24 : look a_X12_change 24 = vAload 0 25 := rfl
theorem k_X12_change_25 : look a_X12_change 25 = vGetR TT 28 36 8 28 := rfl
theorem k_X12_change_28 : look a_X12_change 28 = vIload 1 29 := rfl
theorem k_X12_change_29 : look a_X12_change 29 = vIload 2 30 := rfl
theorem k_X12_change_30 : look a_X12_change 30 = vCallSV w_X12_changes 3 33 := rfl
theorem k_X12_change_33 : look a_X12_change 33 = vAload 0 34 := rfl
theorem k_X12_change_34 : look a_X12_change 34 = vGetR TT 28 36 8 37 := rfl
theorem k_X12_change_37 : look a_X12_change 37 = vI 4 38 := rfl
theorem k_X12_change_38 : look a_X12_change 38 = vIload 1 39 := rfl
theorem k_X12_change_39 : look a_X12_change 39 = vImul 40 := rfl
theorem k_X12_change_40 : look a_X12_change 40 = vI 2 41 := rfl
theorem k_X12_change_41 : look a_X12_change 41 = vIadd 42 := rfl
theorem k_X12_change_42 : look a_X12_change 42 = vIald TT 43 := rfl
theorem k_X12_change_43 : look a_X12_change 43 = vIret := rfl
theorem o_X12_change {X : amX} (e1 : XT X = TT) (e2 : XD X = 2) (hB : amB X RX12 cX12_change (some .int) 3) : ∀ pc, amOK X pc (look a_X12_change pc) := by
  have hT : amTok (XT X) := e1 ▸ TT_ok
  refine look_ok ?_
  unfold a_X12_change
  refine fc (ok_aload_n hB dX12_change_0) ?_
  refine fc (ok_iconst hB dX12_change_1) ?_
  refine fc (ok_putI hB hT fp_X12_111 rfl rfl rfl af_12_0 dX12_change_2) ?_
  refine fc (ok_aload_n hB dX12_change_5) ?_
  refine fc (ok_aload_n hB dX12_change_6) ?_
  refine fc (okt_getR e1 hB hT fl_X12_67 rfl af_12_36 at_12_36 (by decide) dX12_change_7) ?_
  refine fc (ok_iload_n hB dX12_change_10) ?_
  refine fc (ok_iload_n hB dX12_change_11) ?_
  refine fc (ok_callM hB hT (e1 ▸ s_X12_canChange) lk_X12_389 (by rw [e2]; decide) (c := 12) rfl rfl rfl wd_1731 sl_X12_canChange dX12_change_12) ?_
  refine fc (ok_if_ne hB (t := 20) (by decide) dX12_change_15) ?_
  refine fc (ok_iconst hB dX12_change_18) ?_
  refine fc (ok_iret hB dX12_change_19) ?_
  refine fc (ok_aload_n hB dX12_change_20) ?_
  refine fc (ok_callMV hB hT (e1 ▸ s_X12_remember) lk_X12_383 (by rw [e2]; decide) (c := 12) rfl rfl rfl wd_1690 sl_X12_remember dX12_change_21) ?_
  refine fc (ok_aload_n hB dX12_change_24) ?_
  refine fc (okt_getR e1 hB hT fl_X12_67 rfl af_12_36 at_12_36 (by decide) dX12_change_25) ?_
  refine fc (ok_iload_n hB dX12_change_28) ?_
  refine fc (ok_iload_n hB dX12_change_29) ?_
  refine fc (ok_callSV hB (e1 ▸ s_X12_changes) lk_X12_393 (by rw [e2]; decide) wd_1734 dX12_change_30) ?_
  refine fc (ok_aload_n hB dX12_change_33) ?_
  refine fc (okt_getR e1 hB hT fl_X12_67 rfl af_12_36 at_12_36 (by decide) dX12_change_34) ?_
  refine fc (ok_iconst hB dX12_change_37) ?_
  refine fc (ok_iload_n hB dX12_change_38) ?_
  refine fc (ok_imul hB dX12_change_39) ?_
  refine fc (ok_iconst hB dX12_change_40) ?_
  refine fc (ok_iadd hB dX12_change_41) ?_
  refine fc (okt_iaload e1 hB dX12_change_42) ?_
  refine fc (ok_iret hB dX12_change_43) ?_
  exact fn

def w_X12_change : WP := fun av σ Q => ∃ (c : Int) (t : Int), av = [(28, 5000), (0, c), (0, t)] ∧ (InR c ∧ InR t ∧ mB σ ∧ (¬ mCC σ 5015 c t → Q (0, -1) (th0 σ)) ∧ (mCC σ 5015 c t → Q (0, σ 5015 (4 * c + 2) - σ 5015 25) (chM (rmb (th0 σ)) 5015 c t)))
theorem w_X12_change_e (c : Int) (t : Int) (σ : Mem) (Q : AV → Mem → Prop) : w_X12_change [(28, 5000), (0, c), (0, t)] σ Q = (InR c ∧ InR t ∧ mB σ ∧ (¬ mCC σ 5015 c t → Q (0, -1) (th0 σ)) ∧ (mCC σ 5015 c t → Q (0, σ 5015 (4 * c + 2) - σ 5015 25) (chM (rmb (th0 σ)) 5015 c t))) := by
  apply propext; constructor
  · rintro ⟨c', t', h9, hb9⟩; cases h9; exact hb9
  · intro hb9; exact ⟨c, t, rfl, hb9⟩

set_option maxRecDepth 100000 in
set_option maxHeartbeats 4000000 in
theorem s_X12_change : ∀ av σ Q, w_X12_change av σ Q → amCall 2 0 0 TT yX12_change cX12_change 3 (some .int) av σ Q := by
  rintro av σ Q ⟨c, t, rfl, hc, ht, ⟨h29, h30, h28, h48, hj, h25, h24⟩, h1, h2⟩
  have t15 : th0 σ 5015 = σ 5015 := th_o σ (by decide)
  have e29 : th0 σ 5000 29 = σ 5000 29 := th_k σ (by decide)
  have e30 : th0 σ 5000 30 = σ 5000 30 := th_k σ (by decide)
  have e48 : th0 σ 5000 48 = σ 5000 48 := th_k σ (by decide)
  have ec : mCC (th0 σ) 5015 c t = mCC σ 5015 c t := by unfold mCC; rw [t15, e29, e30]
  have hjj : ∀ j, 0 ≤ j → j < σ 5000 29 → InR (σ 5015 (4 * j + 1)) ∧ InR (σ 5015 (4 * j + 2)) := fun j a b => ⟨hj _ (by omega) (by omega), hj _ (by omega) (by omega)⟩
  have hcb : mCC σ 5015 c t → 0 ≤ c ∧ c < 6 := fun q => by unfold mCC at q; omega
  have em : ∀ s : Mem, up (up s 5015 (4 * c + 1) t) 5015 (4 * c + 2) (s 5015 (4 * c + 2) - s 5015 25) 5015 (4 * c + 2) = s 5015 (4 * c + 2) - s 5015 25 := fun s => up_s _ _ _ _
  unfold chM at h2
  rw [rmb_15, t15] at h2
  refine am_m0 (own := RX12) (A := look a_X12_change) (fun X e1 e2 hB => o_X12_change e1 e2 hB) rfl (by decide +kernel) rfl rfl 190 (w := 3) ?_
  change vcs _ _ _ _ 190 0 [(28, 5000), (0, c), (0, t)] [] σ
  simp only [↓reduceIte, inR_0, inR_1, inR_m, vSw2_e, swP_n, swP_c, vI_e, vL_e, vNull_e, vIload_e, vLload_e, vAload_e, vIstore_e, vLstore_e, vAstore_e, vIinc_e, vIadd_e, vIsub_e, vImul_e, vIand_e, vIor_e, vIxor_e, vIshl_e, vIshr_e, vIushr_e, vIdiv_e, vIrem_e, vLadd_e, vLsub_e, vLmul_e, vLand_e, vLor_e, vLxor_e, vLdiv_e, vLrem_e, vLushr_e, vLshl_e, vLcmp_e, vIneg_e, vI2l_e, vL2i_e, vI2b_e, vI2c_e, vDup_e, vPop_e, vDup2_e, vGoto_e, vIcEq_e, vIfEq_e, vIcNe_e, vIfNe_e, vIcLt_e, vIfLt_e, vIcGe_e, vIfGe_e, vIcGt_e, vIfGt_e, vIcLe_e, vIfLe_e, vNonnull_e, vSw_e, vGetI_e, vGetL_e, vGetR_e, vPutI_e, vPutZ_e, vPutL_e, vPutR_e, vIald_e, vIald_s, vLald_e, vBald_e, vBald_s, vAald_e, vIast_e, vLast_e, vBast_e, vAast_e, vAlen_e8, vAlen_e9, vAlen_e10, vAlen_e11, vAlen_e5, vAlen_e3, vGets_e, vCompact_e, vLdcS_e, vIret_e, vZret_e, vCret_e, vBret_e, vLret_e, vVret_e, vAret_e, vCallM_e0, vCallMV_e0, vCallS_e0, vCallSV_e0, vCallM_e1, vCallMV_e1, vCallS_e1, vCallSV_e1, vCallM_e2, vCallMV_e2, vCallS_e2, vCallSV_e2, vCallM_e3, vCallMV_e3, vCallS_e3, vCallSV_e3, vCallM_e4, vCallMV_e4, vCallS_e4, vCallSV_e4, vCallM_e5, vCallMV_e5, vCallS_e5, vCallSV_e5, vCallM_e6, vCallMV_e6, vCallS_e6, vCallSV_e6, vCallM_e7, vCallMV_e7, vCallS_e7, vCallSV_e7, vBad_e, vStrVal_e, vStrCod_e, vForm_e, vCallT_e0, vCallT_e1, vCallT_e2, vCopy_e, rf_0_0, rf_0_1, rf_0_2, rf_0_3, rf_0_4, rf_0_7, rf_0_10, rf_0_11, rf_0_12, rf_0_13, rf_0_14, rf_0_15, rf_0_16, rf_1_0, rf_3_0, rf_3_1, rf_6_0, rf_6_1, rf_9_0, rf_9_1, rf_9_3, rf_13_0, rf_13_1, rf_13_2, rf_16_0, rf_16_1, rf_16_2, rf_16_3, rf_21_0, rf_21_1, rf_21_2, rf_21_3, rf_26_0, rf_26_1, rf_26_2, rf_26_3, rf_26_4, rf_26_5, rf_26_6, rf_31_0, rf_31_2, rf_31_5, rf_31_6, rf_36_0, rf_36_1, rf_36_2, rf_36_3, rf_39_0, rf_39_1, rf_39_2, rf_41_0, rf_41_1, rf_41_2, rf_41_3, rf_5000_1, rf_5000_2, rf_5000_3, rf_5000_4, rf_5000_5, rf_5000_15, rf_5000_16, rf_5000_18, rf_5000_19, rf_5000_20, rf_5000_21, rf_5000_22, rf_5000_23, rf_5000_24, rf_5000_25, rf_5000_26, rf_5000_27, rf_5000_36, rf_5000_37, rf_5000_40, rf_5000_41, rf_5000_42, rf_5000_43, rf_5000_44, rf_5000_45, rf_5000_47, rf_5000_52, rf_5000_54, rf_5000_55, rf_100_0, rf_100_1, rf_103_0, rf_103_1, rf_106_0, rf_106_1, rf_109_0, rf_109_1, al_2, al_4, al_5, al_7, al_8, al_10, al_11, al_12, al_14, al_15, al_17, al_18, al_19, al_20, al_22, al_23, al_24, al_25, al_27, al_28, al_29, al_30, al_32, al_33, al_34, al_35, al_37, al_38, al_40, al_42, al_5001, al_5002, al_5003, al_5004, al_5005, al_5006, al_5007, al_5008, al_5009, al_5010, al_5011, al_5012, al_5013, al_5014, al_5015, al_5016, al_5017, al_5018, al_5019, al_5020, al_5021, al_5022, al_5023, al_5024, al_5025, al_5026, al_9000, al_101, al_102, al_104, al_105, al_107, al_108, al_110, al_111, vcs_e, lg_c0, lg_cs, lg_nil, set_c0, set_cs, okst_0, okst_s, acok_n, acok_c, List.contains_nil, List.contains_cons, Bool.or_false, Bool.false_or, Bool.false_eq_true, if_false, if_true, ite_self, ne_eq, true_and, and_true, not_false_eq_true, not_true_eq_false, false_imp_iff, true_imp_iff, Nat.ble_eq, Bool.and_eq_true, reduceCtorEq, or_false, false_or, or_true, true_or, false_and, and_false, and_self, Int.reduceLE, Int.reduceAdd, Int.reduceSub, Int.reduceMul, Int.reduceNeg, Int.reduceLT, Int.reduceEq, Int.reduceNe, Nat.reduceBEq, Nat.reduceBNe, Nat.reduceEqDiff, amCmp_in, amCmp_lt, amCmp_le, amCmp_gt, amCmp_ge, amCmp_eq, amCmp_ne, Nat.reduceLeDiff, Nat.reduceSub, Bool.and_true, Bool.true_and, Bool.and_self, Bool.or_true, Bool.true_or, isRf_3, isRf_4, isRf_5, isRf_8, isRf_9, isRf_10, isRf_11, isRf_15, isRf_16, isRf_17, isRf_18, isRf_19, isRf_20, isRf_21, isRf_22, isRf_23, isRf_24, isRf_25, isRf_26, isRf_27, isRf_28, k_X12_change_0, k_X12_change_1, k_X12_change_2, k_X12_change_5, k_X12_change_6, k_X12_change_7, k_X12_change_10, k_X12_change_11, k_X12_change_12, k_X12_change_15, k_X12_change_18, k_X12_change_19, k_X12_change_20, k_X12_change_21, k_X12_change_24, k_X12_change_25, k_X12_change_28, k_X12_change_29, k_X12_change_30, k_X12_change_33, k_X12_change_34, k_X12_change_37, k_X12_change_38, k_X12_change_39, k_X12_change_40, k_X12_change_41, k_X12_change_42, k_X12_change_43, w_X12_canChange_e, w_X12_changes_e, w_X12_remember_e, up_s, up_nj, up_na, up_up, savR_o, cpy_o, fillm_o, setAud_o, setv_o, setv_s, Int.reduceNe, Int.reduceEq, Int.reduceLT, Int.reduceAdd, not_false_eq_true, ne_eq, or_true, true_or, t15, e29, e30, e48, ec, rmb_15]
  repeat' (first | assumption | exact hjj | apply And.intro | intro _)
  all_goals first | omega | exact absurd trivial (by assumption) | exact h1 (by assumption) | (have := hcb (by assumption); omega) | exact h2 (by assumption) | exact (hjj _ (by omega) (by omega)).1.1 | exact Or.inl rfl
theorem wd_1740 : Cond.methodLink RX12 397 yX12_canFall ∈ TBL := tb_tab (List.mem_of_getElem? (i := 1740) (by decide +kernel)) rfl
theorem wd_1743 : Cond.code yX12_canFall cX12_canFall 3 (some .boolean) ∈ TBL := tb_tab (List.mem_of_getElem? (i := 1743) (by decide +kernel)) rfl
theorem lk_X12_397 : amLk RX12 397 yX12_canFall cX12_canFall 3 (some .boolean) 2 := ⟨wd_1740, wd_12, wd_1743, by decide +kernel, by decide +kernel, by decide⟩
theorem wd_1742 : Cond.instanceMethod yX12_canFall ∈ TBL := tb_tab (List.mem_of_getElem? (i := 1742) (by decide +kernel)) rfl
theorem sl_X12_canFall : Cond.selects RX12 yX12_canFall yX12_canFall ∈ TBL := tb_sel (List.mem_of_getElem? (i := 85) (by decide +kernel)) rfl
def a_X12_ill : AC := [(0, vAload 0 1), (1, vI 0 2), (2, vPutI 28 0 5), (5, vAload 0 6), (6, vAload 0 7), (7, vGetR TT 28 36 8 10), (10, vIload 1 11), (11, vCallM w_X12_canFall 28 2 14), (14, vIfNe 19 17), (17, vI 0 18), (18, vZret), (19, vAload 0 20), (20, vCallMV w_X12_remember 28 0 23), (23, vAload 0 24), (24, vGetR TT 28 36 8 27), (27, vI 24 29), (29, vDup2 30), (30, vIald TT 31), (31, vI 1 32), (32, vIload 1 33), (33, vIshl 34), (34, vIor 35), (35, vIast TT 36), (36, vI 1 37), (37, vZret)]
theorem k_X12_ill_0 : look a_X12_ill 0 = vAload 0 1 := rfl
theorem k_X12_ill_1 : look a_X12_ill 1 = vI 0 2 := rfl
theorem k_X12_ill_2 : look a_X12_ill 2 = vPutI 28 0 5 := rfl
theorem k_X12_ill_5 : look a_X12_ill 5 = vAload 0 6 := rfl
theorem k_X12_ill_6 : look a_X12_ill 6 = vAload 0 7 := rfl
theorem k_X12_ill_7 : look a_X12_ill 7 = vGetR TT 28 36 8 10 := rfl
theorem k_X12_ill_10 : look a_X12_ill 10 = vIload 1 11 := rfl
theorem k_X12_ill_11 : look a_X12_ill 11 = vCallM w_X12_canFall 28 2 14 := rfl
theorem k_X12_ill_14 : look a_X12_ill 14 = vIfNe 19 17 := rfl
theorem k_X12_ill_17 : look a_X12_ill 17 = vI 0 18 := rfl
theorem k_X12_ill_18 : look a_X12_ill 18 = vZret := rfl
theorem k_X12_ill_19 : look a_X12_ill 19 = vAload 0 20 := rfl
theorem k_X12_ill_20 : look a_X12_ill 20 = vCallMV w_X12_remember 28 0 23 := rfl
theorem k_X12_ill_23 : look a_X12_ill 23 = vAload 0 24 := rfl
theorem k_X12_ill_24 : look a_X12_ill 24 = vGetR TT 28 36 8 27 := rfl
theorem k_X12_ill_27 : look a_X12_ill 27 = vI 24 29 := rfl
theorem k_X12_ill_29 : look a_X12_ill 29 = vDup2 30 := rfl
theorem k_X12_ill_30 : look a_X12_ill 30 = vIald TT 31 := rfl
theorem k_X12_ill_31 : look a_X12_ill 31 = vI 1 32 := rfl
theorem k_X12_ill_32 : look a_X12_ill 32 = vIload 1 33 := rfl
theorem k_X12_ill_33 : look a_X12_ill 33 = vIshl 34 := rfl
theorem k_X12_ill_34 : look a_X12_ill 34 = vIor 35 := rfl
theorem k_X12_ill_35 : look a_X12_ill 35 = vIast TT 36 := rfl
theorem k_X12_ill_36 : look a_X12_ill 36 = vI 1 37 := rfl
theorem k_X12_ill_37 : look a_X12_ill 37 = vZret := rfl
theorem o_X12_ill {X : amX} (e1 : XT X = TT) (e2 : XD X = 2) (hB : amB X RX12 cX12_ill (some .boolean) 2) : ∀ pc, amOK X pc (look a_X12_ill pc) := by
  have hT : amTok (XT X) := e1 ▸ TT_ok
  refine look_ok ?_
  unfold a_X12_ill
  refine fc (ok_aload_n hB dX12_ill_0) ?_
  refine fc (ok_iconst hB dX12_ill_1) ?_
  refine fc (ok_putI hB hT fp_X12_111 rfl rfl rfl af_12_0 dX12_ill_2) ?_
  refine fc (ok_aload_n hB dX12_ill_5) ?_
  refine fc (ok_aload_n hB dX12_ill_6) ?_
  refine fc (okt_getR e1 hB hT fl_X12_67 rfl af_12_36 at_12_36 (by decide) dX12_ill_7) ?_
  refine fc (ok_iload_n hB dX12_ill_10) ?_
  refine fc (ok_callM hB hT (e1 ▸ s_X12_canFall) lk_X12_397 (by rw [e2]; decide) (c := 12) rfl rfl rfl wd_1742 sl_X12_canFall dX12_ill_11) ?_
  refine fc (ok_if_ne hB (t := 19) (by decide) dX12_ill_14) ?_
  refine fc (ok_iconst hB dX12_ill_17) ?_
  refine fc (ok_zret hB dX12_ill_18) ?_
  refine fc (ok_aload_n hB dX12_ill_19) ?_
  refine fc (ok_callMV hB hT (e1 ▸ s_X12_remember) lk_X12_383 (by rw [e2]; decide) (c := 12) rfl rfl rfl wd_1690 sl_X12_remember dX12_ill_20) ?_
  refine fc (ok_aload_n hB dX12_ill_23) ?_
  refine fc (okt_getR e1 hB hT fl_X12_67 rfl af_12_36 at_12_36 (by decide) dX12_ill_24) ?_
  refine fc (ok_bipush hB dX12_ill_27 (by decide)) ?_
  refine fc (ok_dup2 hB dX12_ill_29) ?_
  refine fc (okt_iaload e1 hB dX12_ill_30) ?_
  refine fc (ok_iconst hB dX12_ill_31) ?_
  refine fc (ok_iload_n hB dX12_ill_32) ?_
  refine fc (ok_ishl hB dX12_ill_33) ?_
  refine fc (ok_ior hB dX12_ill_34) ?_
  refine fc (okt_iastore e1 hB dX12_ill_35) ?_
  refine fc (ok_iconst hB dX12_ill_36) ?_
  refine fc (ok_zret hB dX12_ill_37) ?_
  exact fn

def w_X12_ill : WP := fun av σ Q => ∃ (t : Int), av = [(28, 5000), (0, t)] ∧ (InR t ∧ mB σ ∧ (¬ (0 ≤ t ∧ t < σ 5000 30 ∧ bt (σ 5015 24) t = 0) → Q (0, 0) (th0 σ)) ∧ (0 ≤ t ∧ t < σ 5000 30 ∧ bt (σ 5015 24) t = 0 → Q (0, 1) (up (rmb (th0 σ)) 5015 24 (σ 5015 24 + 2 ^ t.toNat))))
theorem w_X12_ill_e (t : Int) (σ : Mem) (Q : AV → Mem → Prop) : w_X12_ill [(28, 5000), (0, t)] σ Q = (InR t ∧ mB σ ∧ (¬ (0 ≤ t ∧ t < σ 5000 30 ∧ bt (σ 5015 24) t = 0) → Q (0, 0) (th0 σ)) ∧ (0 ≤ t ∧ t < σ 5000 30 ∧ bt (σ 5015 24) t = 0 → Q (0, 1) (up (rmb (th0 σ)) 5015 24 (σ 5015 24 + 2 ^ t.toNat)))) := by
  apply propext; constructor
  · rintro ⟨t', h9, hb9⟩; cases h9; exact hb9
  · intro hb9; exact ⟨t, rfl, hb9⟩

set_option maxRecDepth 100000 in
set_option maxHeartbeats 4000000 in
theorem s_X12_ill : ∀ av σ Q, w_X12_ill av σ Q → amCall 2 0 0 TT yX12_ill cX12_ill 2 (some .boolean) av σ Q := by
  rintro av σ Q ⟨t, rfl, ht, ⟨h29, h30, h28, h48, hj, h25, h24⟩, h1, h2⟩
  have t15 : th0 σ 5015 = σ 5015 := th_o σ (by decide)
  have e30 : th0 σ 5000 30 = σ 5000 30 := th_k σ (by decide)
  have e48 : th0 σ 5000 48 = σ 5000 48 := th_k σ (by decide)
  refine am_m0 (own := RX12) (A := look a_X12_ill) (fun X e1 e2 hB => o_X12_ill e1 e2 hB) rfl (by decide +kernel) rfl rfl 190 (w := 2) ?_
  change vcs _ _ _ _ 190 0 [(28, 5000), (0, t)] [] σ
  simp only [↓reduceIte, inR_0, inR_1, inR_m, vSw2_e, swP_n, swP_c, vI_e, vL_e, vNull_e, vIload_e, vLload_e, vAload_e, vIstore_e, vLstore_e, vAstore_e, vIinc_e, vIadd_e, vIsub_e, vImul_e, vIand_e, vIor_e, vIxor_e, vIshl_e, vIshr_e, vIushr_e, vIdiv_e, vIrem_e, vLadd_e, vLsub_e, vLmul_e, vLand_e, vLor_e, vLxor_e, vLdiv_e, vLrem_e, vLushr_e, vLshl_e, vLcmp_e, vIneg_e, vI2l_e, vL2i_e, vI2b_e, vI2c_e, vDup_e, vPop_e, vDup2_e, vGoto_e, vIcEq_e, vIfEq_e, vIcNe_e, vIfNe_e, vIcLt_e, vIfLt_e, vIcGe_e, vIfGe_e, vIcGt_e, vIfGt_e, vIcLe_e, vIfLe_e, vNonnull_e, vSw_e, vGetI_e, vGetL_e, vGetR_e, vPutI_e, vPutZ_e, vPutL_e, vPutR_e, vIald_e, vIald_s, vLald_e, vBald_e, vBald_s, vAald_e, vIast_e, vLast_e, vBast_e, vAast_e, vAlen_e8, vAlen_e9, vAlen_e10, vAlen_e11, vAlen_e5, vAlen_e3, vGets_e, vCompact_e, vLdcS_e, vIret_e, vZret_e, vCret_e, vBret_e, vLret_e, vVret_e, vAret_e, vCallM_e0, vCallMV_e0, vCallS_e0, vCallSV_e0, vCallM_e1, vCallMV_e1, vCallS_e1, vCallSV_e1, vCallM_e2, vCallMV_e2, vCallS_e2, vCallSV_e2, vCallM_e3, vCallMV_e3, vCallS_e3, vCallSV_e3, vCallM_e4, vCallMV_e4, vCallS_e4, vCallSV_e4, vCallM_e5, vCallMV_e5, vCallS_e5, vCallSV_e5, vCallM_e6, vCallMV_e6, vCallS_e6, vCallSV_e6, vCallM_e7, vCallMV_e7, vCallS_e7, vCallSV_e7, vBad_e, vStrVal_e, vStrCod_e, vForm_e, vCallT_e0, vCallT_e1, vCallT_e2, vCopy_e, rf_0_0, rf_0_1, rf_0_2, rf_0_3, rf_0_4, rf_0_7, rf_0_10, rf_0_11, rf_0_12, rf_0_13, rf_0_14, rf_0_15, rf_0_16, rf_1_0, rf_3_0, rf_3_1, rf_6_0, rf_6_1, rf_9_0, rf_9_1, rf_9_3, rf_13_0, rf_13_1, rf_13_2, rf_16_0, rf_16_1, rf_16_2, rf_16_3, rf_21_0, rf_21_1, rf_21_2, rf_21_3, rf_26_0, rf_26_1, rf_26_2, rf_26_3, rf_26_4, rf_26_5, rf_26_6, rf_31_0, rf_31_2, rf_31_5, rf_31_6, rf_36_0, rf_36_1, rf_36_2, rf_36_3, rf_39_0, rf_39_1, rf_39_2, rf_41_0, rf_41_1, rf_41_2, rf_41_3, rf_5000_1, rf_5000_2, rf_5000_3, rf_5000_4, rf_5000_5, rf_5000_15, rf_5000_16, rf_5000_18, rf_5000_19, rf_5000_20, rf_5000_21, rf_5000_22, rf_5000_23, rf_5000_24, rf_5000_25, rf_5000_26, rf_5000_27, rf_5000_36, rf_5000_37, rf_5000_40, rf_5000_41, rf_5000_42, rf_5000_43, rf_5000_44, rf_5000_45, rf_5000_47, rf_5000_52, rf_5000_54, rf_5000_55, rf_100_0, rf_100_1, rf_103_0, rf_103_1, rf_106_0, rf_106_1, rf_109_0, rf_109_1, al_2, al_4, al_5, al_7, al_8, al_10, al_11, al_12, al_14, al_15, al_17, al_18, al_19, al_20, al_22, al_23, al_24, al_25, al_27, al_28, al_29, al_30, al_32, al_33, al_34, al_35, al_37, al_38, al_40, al_42, al_5001, al_5002, al_5003, al_5004, al_5005, al_5006, al_5007, al_5008, al_5009, al_5010, al_5011, al_5012, al_5013, al_5014, al_5015, al_5016, al_5017, al_5018, al_5019, al_5020, al_5021, al_5022, al_5023, al_5024, al_5025, al_5026, al_9000, al_101, al_102, al_104, al_105, al_107, al_108, al_110, al_111, vcs_e, lg_c0, lg_cs, lg_nil, set_c0, set_cs, okst_0, okst_s, acok_n, acok_c, List.contains_nil, List.contains_cons, Bool.or_false, Bool.false_or, Bool.false_eq_true, if_false, if_true, ite_self, ne_eq, true_and, and_true, not_false_eq_true, not_true_eq_false, false_imp_iff, true_imp_iff, Nat.ble_eq, Bool.and_eq_true, reduceCtorEq, or_false, false_or, or_true, true_or, false_and, and_false, and_self, Int.reduceLE, Int.reduceAdd, Int.reduceSub, Int.reduceMul, Int.reduceNeg, Int.reduceLT, Int.reduceEq, Int.reduceNe, Nat.reduceBEq, Nat.reduceBNe, Nat.reduceEqDiff, amCmp_in, amCmp_lt, amCmp_le, amCmp_gt, amCmp_ge, amCmp_eq, amCmp_ne, Nat.reduceLeDiff, Nat.reduceSub, Bool.and_true, Bool.true_and, Bool.and_self, Bool.or_true, Bool.true_or, isRf_3, isRf_4, isRf_5, isRf_8, isRf_9, isRf_10, isRf_11, isRf_15, isRf_16, isRf_17, isRf_18, isRf_19, isRf_20, isRf_21, isRf_22, isRf_23, isRf_24, isRf_25, isRf_26, isRf_27, isRf_28, k_X12_ill_0, k_X12_ill_1, k_X12_ill_2, k_X12_ill_5, k_X12_ill_6, k_X12_ill_7, k_X12_ill_10, k_X12_ill_11, k_X12_ill_14, k_X12_ill_17, k_X12_ill_18, k_X12_ill_19, k_X12_ill_20, k_X12_ill_23, k_X12_ill_24, k_X12_ill_27, k_X12_ill_29, k_X12_ill_30, k_X12_ill_31, k_X12_ill_32, k_X12_ill_33, k_X12_ill_34, k_X12_ill_35, k_X12_ill_36, k_X12_ill_37, w_X12_canFall_e, w_X12_remember_e, up_s, up_nj, up_na, up_up, savR_o, cpy_o, fillm_o, setAud_o, setv_o, setv_s, Int.reduceNe, Int.reduceEq, Int.reduceLT, Int.reduceAdd, not_false_eq_true, ne_eq, or_true, true_or, t15, e30, e48, rmb_15]
  by_cases d : 0 ≤ t ∧ t < σ 5000 30 ∧ bt (σ 5015 24) t = 0
  · have bo := bor_t h24.1 h24.2 (k := t) (by omega) (by omega)
    rw [if_neg (by omega)] at bo
    rw [if_pos d, bo]
    repeat' (first | assumption | apply And.intro | intro _)
    all_goals first | omega | exact absurd trivial (by assumption) | exact h2 d | exact Or.inl rfl
  · rw [if_neg d]
    repeat' (first | assumption | apply And.intro | intro _)
    all_goals first | omega | exact absurd trivial (by assumption) | exact h1 d | exact Or.inl rfl
def a_X12_heart : AC := [(0, vAload 0 1), (1, vI 0 2), (2, vPutI 28 0 5), (5, vAload 0 6), (6, vIload 1 7), (7, vCallM w_X12_isChair 28 1 10), (10, vIfEq 39 13), (13, vIload 2 14), (14, vI2l 15), (15, vL 0 16), (16, vL 9 19), (19, vCallS w_X12_isIn 3 22), (22, vIfEq 39 25), (25, vAload 0 26), (26, vGetR TT 28 36 8 29), (29, vI 4 30), (30, vIload 1 31), (31, vImul 32), (32, vI 0 33), (33, vIadd 34), (34, vIald TT 35), (35, vIload 2 36), (36, vIcNe 41 39), (39, vI (-1) 40), (40, vIret), (41, vAload 0 42), (42, vCallMV w_X12_remember 28 0 45), (45, vAload 0 46), (46, vGetR TT 28 36 8 49), (49, vI 4 50), (50, vIload 1 51), (51, vImul 52), (52, vI 0 53), (53, vIadd 54), (54, vIald TT 55), (55, vIstore 3 56), (56, vAload 0 57), (57, vGetR TT 28 36 8 60), (60, vI 4 61), (61, vIload 1 62), (62, vImul 63), (63, vI 0 64), (64, vIadd 65), (65, vIload 2 66), (66, vIast TT 67), (67, vIload 3 68), (68, vIret)]
theorem k_X12_heart_0 : look a_X12_heart 0 = vAload 0 1 := rfl
theorem k_X12_heart_1 : look a_X12_heart 1 = vI 0 2 := rfl
theorem k_X12_heart_2 : look a_X12_heart 2 = vPutI 28 0 5 := rfl
theorem k_X12_heart_5 : look a_X12_heart 5 = vAload 0 6 := rfl
theorem k_X12_heart_6 : look a_X12_heart 6 = vIload 1 7 := rfl
theorem k_X12_heart_7 : look a_X12_heart 7 = vCallM w_X12_isChair 28 1 10 := rfl
theorem k_X12_heart_10 : look a_X12_heart 10 = vIfEq 39 13 := rfl
theorem k_X12_heart_13 : look a_X12_heart 13 = vIload 2 14 := rfl
theorem k_X12_heart_14 : look a_X12_heart 14 = vI2l 15 := rfl
theorem k_X12_heart_15 : look a_X12_heart 15 = vL 0 16 := rfl
theorem k_X12_heart_16 : look a_X12_heart 16 = vL 9 19 := rfl
theorem k_X12_heart_19 : look a_X12_heart 19 = vCallS w_X12_isIn 3 22 := rfl
theorem k_X12_heart_22 : look a_X12_heart 22 = vIfEq 39 25 := rfl
theorem k_X12_heart_25 : look a_X12_heart 25 = vAload 0 26 := rfl
theorem k_X12_heart_26 : look a_X12_heart 26 = vGetR TT 28 36 8 29 := rfl
theorem k_X12_heart_29 : look a_X12_heart 29 = vI 4 30 := rfl
theorem k_X12_heart_30 : look a_X12_heart 30 = vIload 1 31 := rfl
theorem k_X12_heart_31 : look a_X12_heart 31 = vImul 32 := rfl
theorem k_X12_heart_32 : look a_X12_heart 32 = vI 0 33 := rfl
theorem k_X12_heart_33 : look a_X12_heart 33 = vIadd 34 := rfl
theorem k_X12_heart_34 : look a_X12_heart 34 = vIald TT 35 := rfl
theorem k_X12_heart_35 : look a_X12_heart 35 = vIload 2 36 := rfl
theorem k_X12_heart_36 : look a_X12_heart 36 = vIcNe 41 39 := rfl
theorem k_X12_heart_39 : look a_X12_heart 39 = vI (-1) 40 := rfl
theorem k_X12_heart_40 : look a_X12_heart 40 = vIret := rfl
theorem k_X12_heart_41 : look a_X12_heart 41 = vAload 0 42 := rfl
theorem k_X12_heart_42 : look a_X12_heart 42 = vCallMV w_X12_remember 28 0 45 := rfl
theorem k_X12_heart_45 : look a_X12_heart 45 = vAload 0 46 := rfl
theorem k_X12_heart_46 : look a_X12_heart 46 = vGetR TT 28 36 8 49 := rfl
theorem k_X12_heart_49 : look a_X12_heart 49 = vI 4 50 := rfl
theorem k_X12_heart_50 : look a_X12_heart 50 = vIload 1 51 := rfl
theorem k_X12_heart_51 : look a_X12_heart 51 = vImul 52 := rfl
theorem k_X12_heart_52 : look a_X12_heart 52 = vI 0 53 := rfl
theorem k_X12_heart_53 : look a_X12_heart 53 = vIadd 54 := rfl
theorem k_X12_heart_54 : look a_X12_heart 54 = vIald TT 55 := rfl
theorem k_X12_heart_55 : look a_X12_heart 55 = vIstore 3 56 := rfl
theorem k_X12_heart_56 : look a_X12_heart 56 = vAload 0 57 := rfl
theorem k_X12_heart_57 : look a_X12_heart 57 = vGetR TT 28 36 8 60 := rfl
theorem k_X12_heart_60 : look a_X12_heart 60 = vI 4 61 := rfl
theorem k_X12_heart_61 : look a_X12_heart 61 = vIload 1 62 := rfl
theorem k_X12_heart_62 : look a_X12_heart 62 = vImul 63 := rfl
theorem k_X12_heart_63 : look a_X12_heart 63 = vI 0 64 := rfl
theorem k_X12_heart_64 : look a_X12_heart 64 = vIadd 65 := rfl
theorem k_X12_heart_65 : look a_X12_heart 65 = vIload 2 66 := rfl
theorem k_X12_heart_66 : look a_X12_heart 66 = vIast TT 67 := rfl
theorem k_X12_heart_67 : look a_X12_heart 67 = vIload 3 68 := rfl
theorem k_X12_heart_68 : look a_X12_heart 68 = vIret := rfl
theorem o_X12_heart {X : amX} (e1 : XT X = TT) (e2 : XD X = 1) (hB : amB X RX12 cX12_heart (some .int) 4) : ∀ pc, amOK X pc (look a_X12_heart pc) := by
  have hT : amTok (XT X) := e1 ▸ TT_ok
  refine look_ok ?_
  unfold a_X12_heart
  refine fc (ok_aload_n hB dX12_heart_0) ?_
  refine fc (ok_iconst hB dX12_heart_1) ?_
  refine fc (ok_putI hB hT fp_X12_111 rfl rfl rfl af_12_0 dX12_heart_2) ?_
  refine fc (ok_aload_n hB dX12_heart_5) ?_
  refine fc (ok_iload_n hB dX12_heart_6) ?_
  refine fc (ok_callM hB hT (e1 ▸ s_X12_isChair) lk_X12_371 (by rw [e2]; decide) (c := 12) rfl rfl rfl wd_1661 sl_X12_isChair dX12_heart_7) ?_
  refine fc (ok_if_eq hB (t := 39) (by decide) dX12_heart_10) ?_
  refine fc (ok_iload_n hB dX12_heart_13) ?_
  refine fc (ok_i2l hB dX12_heart_14) ?_
  refine fc (ok_lconst hB (z := 0) (by decide) dX12_heart_15) ?_
  refine fc (ok_ldc2 hB wd_1679 rfl dX12_heart_16) ?_
  refine fc (ok_callS hB (e1 ▸ s_X12_isIn) lk_X12_232 (by rw [e2]; decide) wd_1502 dX12_heart_19) ?_
  refine fc (ok_if_eq hB (t := 39) (by decide) dX12_heart_22) ?_
  refine fc (ok_aload_n hB dX12_heart_25) ?_
  refine fc (okt_getR e1 hB hT fl_X12_67 rfl af_12_36 at_12_36 (by decide) dX12_heart_26) ?_
  refine fc (ok_iconst hB dX12_heart_29) ?_
  refine fc (ok_iload_n hB dX12_heart_30) ?_
  refine fc (ok_imul hB dX12_heart_31) ?_
  refine fc (ok_iconst hB dX12_heart_32) ?_
  refine fc (ok_iadd hB dX12_heart_33) ?_
  refine fc (okt_iaload e1 hB dX12_heart_34) ?_
  refine fc (ok_iload_n hB dX12_heart_35) ?_
  refine fc (ok_icmp_ne hB (t := 41) (by decide) dX12_heart_36) ?_
  refine fc (ok_iconst hB dX12_heart_39) ?_
  refine fc (ok_iret hB dX12_heart_40) ?_
  refine fc (ok_aload_n hB dX12_heart_41) ?_
  refine fc (ok_callMV hB hT (e1 ▸ s_X12_remember) lk_X12_383 (by rw [e2]; decide) (c := 12) rfl rfl rfl wd_1690 sl_X12_remember dX12_heart_42) ?_
  refine fc (ok_aload_n hB dX12_heart_45) ?_
  refine fc (okt_getR e1 hB hT fl_X12_67 rfl af_12_36 at_12_36 (by decide) dX12_heart_46) ?_
  refine fc (ok_iconst hB dX12_heart_49) ?_
  refine fc (ok_iload_n hB dX12_heart_50) ?_
  refine fc (ok_imul hB dX12_heart_51) ?_
  refine fc (ok_iconst hB dX12_heart_52) ?_
  refine fc (ok_iadd hB dX12_heart_53) ?_
  refine fc (okt_iaload e1 hB dX12_heart_54) ?_
  refine fc (ok_istore_n hB (by decide) dX12_heart_55) ?_
  refine fc (ok_aload_n hB dX12_heart_56) ?_
  refine fc (okt_getR e1 hB hT fl_X12_67 rfl af_12_36 at_12_36 (by decide) dX12_heart_57) ?_
  refine fc (ok_iconst hB dX12_heart_60) ?_
  refine fc (ok_iload_n hB dX12_heart_61) ?_
  refine fc (ok_imul hB dX12_heart_62) ?_
  refine fc (ok_iconst hB dX12_heart_63) ?_
  refine fc (ok_iadd hB dX12_heart_64) ?_
  refine fc (ok_iload_n hB dX12_heart_65) ?_
  refine fc (okt_iastore e1 hB dX12_heart_66) ?_
  refine fc (ok_iload_n hB dX12_heart_67) ?_
  refine fc (ok_iret hB dX12_heart_68) ?_
  exact fn

def w_X12_heart : WP := fun av σ Q => ∃ (c : Int) (v : Int), av = [(28, 5000), (0, c), (0, v)] ∧ (InR c ∧ InR v ∧ mB σ ∧ (¬ (0 ≤ c ∧ c < σ 5000 29 ∧ 0 ≤ v ∧ v ≤ 9 ∧ σ 5015 (4 * c) ≠ v) → Q (0, -1) (th0 σ)) ∧ (0 ≤ c ∧ c < σ 5000 29 ∧ 0 ≤ v ∧ v ≤ 9 ∧ σ 5015 (4 * c) ≠ v → Q (0, σ 5015 (4 * c)) (up (rmb (th0 σ)) 5015 (4 * c) v)))
theorem w_X12_heart_e (c : Int) (v : Int) (σ : Mem) (Q : AV → Mem → Prop) : w_X12_heart [(28, 5000), (0, c), (0, v)] σ Q = (InR c ∧ InR v ∧ mB σ ∧ (¬ (0 ≤ c ∧ c < σ 5000 29 ∧ 0 ≤ v ∧ v ≤ 9 ∧ σ 5015 (4 * c) ≠ v) → Q (0, -1) (th0 σ)) ∧ (0 ≤ c ∧ c < σ 5000 29 ∧ 0 ≤ v ∧ v ≤ 9 ∧ σ 5015 (4 * c) ≠ v → Q (0, σ 5015 (4 * c)) (up (rmb (th0 σ)) 5015 (4 * c) v))) := by
  apply propext; constructor
  · rintro ⟨c', v', h9, hb9⟩; cases h9; exact hb9
  · intro hb9; exact ⟨c, v, rfl, hb9⟩

set_option maxRecDepth 100000 in
set_option maxHeartbeats 4000000 in
theorem s_X12_heart : ∀ av σ Q, w_X12_heart av σ Q → amCall 1 0 0 TT yX12_heart cX12_heart 4 (some .int) av σ Q := by
  rintro av σ Q ⟨c, v, rfl, hc, hv, ⟨h29, h30, h28, h48, hj, h25, h24⟩, h1, h2⟩
  have t15 : th0 σ 5015 = σ 5015 := th_o σ (by decide)
  have e29 : th0 σ 5000 29 = σ 5000 29 := th_k σ (by decide)
  have e48 : th0 σ 5000 48 = σ 5000 48 := th_k σ (by decide)
  refine am_m0 (own := RX12) (A := look a_X12_heart) (fun X e1 e2 hB => o_X12_heart e1 e2 hB) rfl (by decide +kernel) rfl rfl 190 (w := 4) ?_
  change vcs _ _ _ _ 190 0 [(28, 5000), (0, c), (0, v), (6, 0)] [] σ
  simp only [↓reduceIte, inR_0, inR_1, inR_m, vSw2_e, swP_n, swP_c, vI_e, vL_e, vNull_e, vIload_e, vLload_e, vAload_e, vIstore_e, vLstore_e, vAstore_e, vIinc_e, vIadd_e, vIsub_e, vImul_e, vIand_e, vIor_e, vIxor_e, vIshl_e, vIshr_e, vIushr_e, vIdiv_e, vIrem_e, vLadd_e, vLsub_e, vLmul_e, vLand_e, vLor_e, vLxor_e, vLdiv_e, vLrem_e, vLushr_e, vLshl_e, vLcmp_e, vIneg_e, vI2l_e, vL2i_e, vI2b_e, vI2c_e, vDup_e, vPop_e, vDup2_e, vGoto_e, vIcEq_e, vIfEq_e, vIcNe_e, vIfNe_e, vIcLt_e, vIfLt_e, vIcGe_e, vIfGe_e, vIcGt_e, vIfGt_e, vIcLe_e, vIfLe_e, vNonnull_e, vSw_e, vGetI_e, vGetL_e, vGetR_e, vPutI_e, vPutZ_e, vPutL_e, vPutR_e, vIald_e, vIald_s, vLald_e, vBald_e, vBald_s, vAald_e, vIast_e, vLast_e, vBast_e, vAast_e, vAlen_e8, vAlen_e9, vAlen_e10, vAlen_e11, vAlen_e5, vAlen_e3, vGets_e, vCompact_e, vLdcS_e, vIret_e, vZret_e, vCret_e, vBret_e, vLret_e, vVret_e, vAret_e, vCallM_e0, vCallMV_e0, vCallS_e0, vCallSV_e0, vCallM_e1, vCallMV_e1, vCallS_e1, vCallSV_e1, vCallM_e2, vCallMV_e2, vCallS_e2, vCallSV_e2, vCallM_e3, vCallMV_e3, vCallS_e3, vCallSV_e3, vCallM_e4, vCallMV_e4, vCallS_e4, vCallSV_e4, vCallM_e5, vCallMV_e5, vCallS_e5, vCallSV_e5, vCallM_e6, vCallMV_e6, vCallS_e6, vCallSV_e6, vCallM_e7, vCallMV_e7, vCallS_e7, vCallSV_e7, vBad_e, vStrVal_e, vStrCod_e, vForm_e, vCallT_e0, vCallT_e1, vCallT_e2, vCopy_e, rf_0_0, rf_0_1, rf_0_2, rf_0_3, rf_0_4, rf_0_7, rf_0_10, rf_0_11, rf_0_12, rf_0_13, rf_0_14, rf_0_15, rf_0_16, rf_1_0, rf_3_0, rf_3_1, rf_6_0, rf_6_1, rf_9_0, rf_9_1, rf_9_3, rf_13_0, rf_13_1, rf_13_2, rf_16_0, rf_16_1, rf_16_2, rf_16_3, rf_21_0, rf_21_1, rf_21_2, rf_21_3, rf_26_0, rf_26_1, rf_26_2, rf_26_3, rf_26_4, rf_26_5, rf_26_6, rf_31_0, rf_31_2, rf_31_5, rf_31_6, rf_36_0, rf_36_1, rf_36_2, rf_36_3, rf_39_0, rf_39_1, rf_39_2, rf_41_0, rf_41_1, rf_41_2, rf_41_3, rf_5000_1, rf_5000_2, rf_5000_3, rf_5000_4, rf_5000_5, rf_5000_15, rf_5000_16, rf_5000_18, rf_5000_19, rf_5000_20, rf_5000_21, rf_5000_22, rf_5000_23, rf_5000_24, rf_5000_25, rf_5000_26, rf_5000_27, rf_5000_36, rf_5000_37, rf_5000_40, rf_5000_41, rf_5000_42, rf_5000_43, rf_5000_44, rf_5000_45, rf_5000_47, rf_5000_52, rf_5000_54, rf_5000_55, rf_100_0, rf_100_1, rf_103_0, rf_103_1, rf_106_0, rf_106_1, rf_109_0, rf_109_1, al_2, al_4, al_5, al_7, al_8, al_10, al_11, al_12, al_14, al_15, al_17, al_18, al_19, al_20, al_22, al_23, al_24, al_25, al_27, al_28, al_29, al_30, al_32, al_33, al_34, al_35, al_37, al_38, al_40, al_42, al_5001, al_5002, al_5003, al_5004, al_5005, al_5006, al_5007, al_5008, al_5009, al_5010, al_5011, al_5012, al_5013, al_5014, al_5015, al_5016, al_5017, al_5018, al_5019, al_5020, al_5021, al_5022, al_5023, al_5024, al_5025, al_5026, al_9000, al_101, al_102, al_104, al_105, al_107, al_108, al_110, al_111, vcs_e, lg_c0, lg_cs, lg_nil, set_c0, set_cs, okst_0, okst_s, acok_n, acok_c, List.contains_nil, List.contains_cons, Bool.or_false, Bool.false_or, Bool.false_eq_true, if_false, if_true, ite_self, ne_eq, true_and, and_true, not_false_eq_true, not_true_eq_false, false_imp_iff, true_imp_iff, Nat.ble_eq, Bool.and_eq_true, reduceCtorEq, or_false, false_or, or_true, true_or, false_and, and_false, and_self, Int.reduceLE, Int.reduceAdd, Int.reduceSub, Int.reduceMul, Int.reduceNeg, Int.reduceLT, Int.reduceEq, Int.reduceNe, Nat.reduceBEq, Nat.reduceBNe, Nat.reduceEqDiff, amCmp_in, amCmp_lt, amCmp_le, amCmp_gt, amCmp_ge, amCmp_eq, amCmp_ne, Nat.reduceLeDiff, Nat.reduceSub, Bool.and_true, Bool.true_and, Bool.and_self, Bool.or_true, Bool.true_or, isRf_3, isRf_4, isRf_5, isRf_8, isRf_9, isRf_10, isRf_11, isRf_15, isRf_16, isRf_17, isRf_18, isRf_19, isRf_20, isRf_21, isRf_22, isRf_23, isRf_24, isRf_25, isRf_26, isRf_27, isRf_28, k_X12_heart_0, k_X12_heart_1, k_X12_heart_2, k_X12_heart_5, k_X12_heart_6, k_X12_heart_7, k_X12_heart_10, k_X12_heart_13, k_X12_heart_14, k_X12_heart_15, k_X12_heart_16, k_X12_heart_19, k_X12_heart_22, k_X12_heart_25, k_X12_heart_26, k_X12_heart_29, k_X12_heart_30, k_X12_heart_31, k_X12_heart_32, k_X12_heart_33, k_X12_heart_34, k_X12_heart_35, k_X12_heart_36, k_X12_heart_39, k_X12_heart_40, k_X12_heart_41, k_X12_heart_42, k_X12_heart_45, k_X12_heart_46, k_X12_heart_49, k_X12_heart_50, k_X12_heart_51, k_X12_heart_52, k_X12_heart_53, k_X12_heart_54, k_X12_heart_55, k_X12_heart_56, k_X12_heart_57, k_X12_heart_60, k_X12_heart_61, k_X12_heart_62, k_X12_heart_63, k_X12_heart_64, k_X12_heart_65, k_X12_heart_66, k_X12_heart_67, k_X12_heart_68, w_X12_isChair_e, w_X12_isIn_e, w_X12_remember_e, up_s, up_nj, up_na, up_up, savR_o, cpy_o, fillm_o, setAud_o, setv_o, setv_s, Int.reduceNe, Int.reduceEq, Int.reduceLT, Int.reduceAdd, not_false_eq_true, ne_eq, or_true, true_or, t15, e29, e48, rmb_15, Int.add_zero]
  by_cases d : 0 ≤ c ∧ c < σ 5000 29
  · have hjc := hj (4 * c) (by omega) (by omega)
    rw [if_pos d]
    by_cases g : 0 ≤ v ∧ v ≤ 9
    · rw [if_pos g]
      repeat' (first | assumption | apply And.intro | intro _)
      all_goals first | omega | exact absurd trivial (by assumption) | exact h1 (by omega) | exact h2 ⟨by omega, by omega, by omega, by omega, by omega⟩
    · rw [if_neg g]
      repeat' (first | assumption | apply And.intro | intro _)
      all_goals first | omega | exact absurd trivial (by assumption) | exact h1 (by omega)
  · rw [if_neg d]
    repeat' (first | assumption | apply And.intro | intro _)
    all_goals first | omega | exact absurd trivial (by assumption) | exact h1 (by omega)
theorem wd_1752 : Cond.constantLong RX12 400 50 ∈ TBL := tb_tab (List.mem_of_getElem? (i := 1752) (by decide +kernel)) rfl
def a_X12_give : AC := [(0, vAload 0 1), (1, vI 0 2), (2, vPutI 28 0 5), (5, vAload 0 6), (6, vIload 1 7), (7, vCallM w_X12_isChair 28 1 10), (10, vIfEq 42 13), (13, vIload 2 14), (14, vI2l 15), (15, vL 1 16), (16, vL 50 19), (19, vCallS w_X12_isIn 3 22), (22, vIfEq 42 25), (25, vAload 0 26), (26, vGetR TT 28 36 8 29), (29, vI 4 30), (30, vIload 1 31), (31, vImul 32), (32, vI 2 33), (33, vIadd 34), (34, vIald TT 35), (35, vIload 2 36), (36, vIadd 37), (37, vI 99 39), (39, vIcLe 44 42), (42, vI (-1) 43), (43, vIret), (44, vAload 0 45), (45, vCallMV w_X12_remember 28 0 48), (48, vAload 0 49), (49, vGetR TT 28 36 8 52), (52, vI 4 53), (53, vIload 1 54), (54, vImul 55), (55, vI 2 56), (56, vIadd 57), (57, vDup2 58), (58, vIald TT 59), (59, vIload 2 60), (60, vIadd 61), (61, vIast TT 62), (62, vAload 0 63), (63, vGetR TT 28 36 8 66), (66, vI 4 67), (67, vIload 1 68), (68, vImul 69), (69, vI 2 70), (70, vIadd 71), (71, vIald TT 72), (72, vIret)]
theorem k_X12_give_0 : look a_X12_give 0 = vAload 0 1 := rfl
theorem k_X12_give_1 : look a_X12_give 1 = vI 0 2 := rfl
theorem k_X12_give_2 : look a_X12_give 2 = vPutI 28 0 5 := rfl
theorem k_X12_give_5 : look a_X12_give 5 = vAload 0 6 := rfl
theorem k_X12_give_6 : look a_X12_give 6 = vIload 1 7 := rfl
theorem k_X12_give_7 : look a_X12_give 7 = vCallM w_X12_isChair 28 1 10 := rfl
theorem k_X12_give_10 : look a_X12_give 10 = vIfEq 42 13 := rfl
theorem k_X12_give_13 : look a_X12_give 13 = vIload 2 14 := rfl
theorem k_X12_give_14 : look a_X12_give 14 = vI2l 15 := rfl
theorem k_X12_give_15 : look a_X12_give 15 = vL 1 16 := rfl
theorem k_X12_give_16 : look a_X12_give 16 = vL 50 19 := rfl
theorem k_X12_give_19 : look a_X12_give 19 = vCallS w_X12_isIn 3 22 := rfl
theorem k_X12_give_22 : look a_X12_give 22 = vIfEq 42 25 := rfl
theorem k_X12_give_25 : look a_X12_give 25 = vAload 0 26 := rfl
theorem k_X12_give_26 : look a_X12_give 26 = vGetR TT 28 36 8 29 := rfl
theorem k_X12_give_29 : look a_X12_give 29 = vI 4 30 := rfl
theorem k_X12_give_30 : look a_X12_give 30 = vIload 1 31 := rfl
theorem k_X12_give_31 : look a_X12_give 31 = vImul 32 := rfl
theorem k_X12_give_32 : look a_X12_give 32 = vI 2 33 := rfl
theorem k_X12_give_33 : look a_X12_give 33 = vIadd 34 := rfl
theorem k_X12_give_34 : look a_X12_give 34 = vIald TT 35 := rfl
theorem k_X12_give_35 : look a_X12_give 35 = vIload 2 36 := rfl
theorem k_X12_give_36 : look a_X12_give 36 = vIadd 37 := rfl
theorem k_X12_give_37 : look a_X12_give 37 = vI 99 39 := rfl
theorem k_X12_give_39 : look a_X12_give 39 = vIcLe 44 42 := rfl
theorem k_X12_give_42 : look a_X12_give 42 = vI (-1) 43 := rfl
theorem k_X12_give_43 : look a_X12_give 43 = vIret := rfl
theorem k_X12_give_44 : look a_X12_give 44 = vAload 0 45 := rfl
theorem k_X12_give_45 : look a_X12_give 45 = vCallMV w_X12_remember 28 0 48 := rfl
theorem k_X12_give_48 : look a_X12_give 48 = vAload 0 49 := rfl
theorem k_X12_give_49 : look a_X12_give 49 = vGetR TT 28 36 8 52 := rfl
theorem k_X12_give_52 : look a_X12_give 52 = vI 4 53 := rfl
theorem k_X12_give_53 : look a_X12_give 53 = vIload 1 54 := rfl
theorem k_X12_give_54 : look a_X12_give 54 = vImul 55 := rfl
theorem k_X12_give_55 : look a_X12_give 55 = vI 2 56 := rfl
theorem k_X12_give_56 : look a_X12_give 56 = vIadd 57 := rfl
theorem k_X12_give_57 : look a_X12_give 57 = vDup2 58 := rfl
theorem k_X12_give_58 : look a_X12_give 58 = vIald TT 59 := rfl
theorem k_X12_give_59 : look a_X12_give 59 = vIload 2 60 := rfl
theorem k_X12_give_60 : look a_X12_give 60 = vIadd 61 := rfl
theorem k_X12_give_61 : look a_X12_give 61 = vIast TT 62 := rfl
theorem k_X12_give_62 : look a_X12_give 62 = vAload 0 63 := rfl
theorem k_X12_give_63 : look a_X12_give 63 = vGetR TT 28 36 8 66 := rfl
theorem k_X12_give_66 : look a_X12_give 66 = vI 4 67 := rfl
theorem k_X12_give_67 : look a_X12_give 67 = vIload 1 68 := rfl
theorem k_X12_give_68 : look a_X12_give 68 = vImul 69 := rfl
theorem k_X12_give_69 : look a_X12_give 69 = vI 2 70 := rfl
theorem k_X12_give_70 : look a_X12_give 70 = vIadd 71 := rfl
theorem k_X12_give_71 : look a_X12_give 71 = vIald TT 72 := rfl
theorem k_X12_give_72 : look a_X12_give 72 = vIret := rfl
theorem o_X12_give {X : amX} (e1 : XT X = TT) (e2 : XD X = 1) (hB : amB X RX12 cX12_give (some .int) 3) : ∀ pc, amOK X pc (look a_X12_give pc) := by
  have hT : amTok (XT X) := e1 ▸ TT_ok
  refine look_ok ?_
  unfold a_X12_give
  refine fc (ok_aload_n hB dX12_give_0) ?_
  refine fc (ok_iconst hB dX12_give_1) ?_
  refine fc (ok_putI hB hT fp_X12_111 rfl rfl rfl af_12_0 dX12_give_2) ?_
  refine fc (ok_aload_n hB dX12_give_5) ?_
  refine fc (ok_iload_n hB dX12_give_6) ?_
  refine fc (ok_callM hB hT (e1 ▸ s_X12_isChair) lk_X12_371 (by rw [e2]; decide) (c := 12) rfl rfl rfl wd_1661 sl_X12_isChair dX12_give_7) ?_
  refine fc (ok_if_eq hB (t := 42) (by decide) dX12_give_10) ?_
  refine fc (ok_iload_n hB dX12_give_13) ?_
  refine fc (ok_i2l hB dX12_give_14) ?_
  refine fc (ok_lconst hB (z := 1) (by decide) dX12_give_15) ?_
  refine fc (ok_ldc2 hB wd_1752 rfl dX12_give_16) ?_
  refine fc (ok_callS hB (e1 ▸ s_X12_isIn) lk_X12_232 (by rw [e2]; decide) wd_1502 dX12_give_19) ?_
  refine fc (ok_if_eq hB (t := 42) (by decide) dX12_give_22) ?_
  refine fc (ok_aload_n hB dX12_give_25) ?_
  refine fc (okt_getR e1 hB hT fl_X12_67 rfl af_12_36 at_12_36 (by decide) dX12_give_26) ?_
  refine fc (ok_iconst hB dX12_give_29) ?_
  refine fc (ok_iload_n hB dX12_give_30) ?_
  refine fc (ok_imul hB dX12_give_31) ?_
  refine fc (ok_iconst hB dX12_give_32) ?_
  refine fc (ok_iadd hB dX12_give_33) ?_
  refine fc (okt_iaload e1 hB dX12_give_34) ?_
  refine fc (ok_iload_n hB dX12_give_35) ?_
  refine fc (ok_iadd hB dX12_give_36) ?_
  refine fc (ok_bipush hB dX12_give_37 (by decide)) ?_
  refine fc (ok_icmp_le hB (t := 44) (by decide) dX12_give_39) ?_
  refine fc (ok_iconst hB dX12_give_42) ?_
  refine fc (ok_iret hB dX12_give_43) ?_
  refine fc (ok_aload_n hB dX12_give_44) ?_
  refine fc (ok_callMV hB hT (e1 ▸ s_X12_remember) lk_X12_383 (by rw [e2]; decide) (c := 12) rfl rfl rfl wd_1690 sl_X12_remember dX12_give_45) ?_
  refine fc (ok_aload_n hB dX12_give_48) ?_
  refine fc (okt_getR e1 hB hT fl_X12_67 rfl af_12_36 at_12_36 (by decide) dX12_give_49) ?_
  refine fc (ok_iconst hB dX12_give_52) ?_
  refine fc (ok_iload_n hB dX12_give_53) ?_
  refine fc (ok_imul hB dX12_give_54) ?_
  refine fc (ok_iconst hB dX12_give_55) ?_
  refine fc (ok_iadd hB dX12_give_56) ?_
  refine fc (ok_dup2 hB dX12_give_57) ?_
  refine fc (okt_iaload e1 hB dX12_give_58) ?_
  refine fc (ok_iload_n hB dX12_give_59) ?_
  refine fc (ok_iadd hB dX12_give_60) ?_
  refine fc (okt_iastore e1 hB dX12_give_61) ?_
  refine fc (ok_aload_n hB dX12_give_62) ?_
  refine fc (okt_getR e1 hB hT fl_X12_67 rfl af_12_36 at_12_36 (by decide) dX12_give_63) ?_
  refine fc (ok_iconst hB dX12_give_66) ?_
  refine fc (ok_iload_n hB dX12_give_67) ?_
  refine fc (ok_imul hB dX12_give_68) ?_
  refine fc (ok_iconst hB dX12_give_69) ?_
  refine fc (ok_iadd hB dX12_give_70) ?_
  refine fc (okt_iaload e1 hB dX12_give_71) ?_
  refine fc (ok_iret hB dX12_give_72) ?_
  exact fn

def w_X12_give : WP := fun av σ Q => ∃ (c : Int) (n : Int), av = [(28, 5000), (0, c), (0, n)] ∧ (InR c ∧ InR n ∧ mB σ ∧ (∀ j, 0 ≤ j → j < σ 5000 29 → 0 ≤ σ 5015 (4 * j + 2) ∧ σ 5015 (4 * j + 2) ≤ 99) ∧ (¬ (0 ≤ c ∧ c < σ 5000 29 ∧ 1 ≤ n ∧ n ≤ 50 ∧ σ 5015 (4 * c + 2) + n ≤ 99) → Q (0, -1) (th0 σ)) ∧ (0 ≤ c ∧ c < σ 5000 29 ∧ 1 ≤ n ∧ n ≤ 50 ∧ σ 5015 (4 * c + 2) + n ≤ 99 → Q (0, σ 5015 (4 * c + 2) + n) (up (rmb (th0 σ)) 5015 (4 * c + 2) (σ 5015 (4 * c + 2) + n))))
theorem w_X12_give_e (c : Int) (n : Int) (σ : Mem) (Q : AV → Mem → Prop) : w_X12_give [(28, 5000), (0, c), (0, n)] σ Q = (InR c ∧ InR n ∧ mB σ ∧ (∀ j, 0 ≤ j → j < σ 5000 29 → 0 ≤ σ 5015 (4 * j + 2) ∧ σ 5015 (4 * j + 2) ≤ 99) ∧ (¬ (0 ≤ c ∧ c < σ 5000 29 ∧ 1 ≤ n ∧ n ≤ 50 ∧ σ 5015 (4 * c + 2) + n ≤ 99) → Q (0, -1) (th0 σ)) ∧ (0 ≤ c ∧ c < σ 5000 29 ∧ 1 ≤ n ∧ n ≤ 50 ∧ σ 5015 (4 * c + 2) + n ≤ 99 → Q (0, σ 5015 (4 * c + 2) + n) (up (rmb (th0 σ)) 5015 (4 * c + 2) (σ 5015 (4 * c + 2) + n)))) := by
  apply propext; constructor
  · rintro ⟨c', n', h9, hb9⟩; cases h9; exact hb9
  · intro hb9; exact ⟨c, n, rfl, hb9⟩

set_option maxRecDepth 100000 in
set_option maxHeartbeats 4000000 in
theorem s_X12_give : ∀ av σ Q, w_X12_give av σ Q → amCall 1 0 0 TT yX12_give cX12_give 3 (some .int) av σ Q := by
  rintro av σ Q ⟨c, n, rfl, hc, hn, ⟨h29, h30, h28, h48, hj, h25, h24⟩, hm, h1, h2⟩
  have t15 : th0 σ 5015 = σ 5015 := th_o σ (by decide)
  have e29 : th0 σ 5000 29 = σ 5000 29 := th_k σ (by decide)
  have e48 : th0 σ 5000 48 = σ 5000 48 := th_k σ (by decide)
  refine am_m0 (own := RX12) (A := look a_X12_give) (fun X e1 e2 hB => o_X12_give e1 e2 hB) rfl (by decide +kernel) rfl rfl 190 (w := 3) ?_
  change vcs _ _ _ _ 190 0 [(28, 5000), (0, c), (0, n)] [] σ
  simp only [↓reduceIte, inR_0, inR_1, inR_m, vSw2_e, swP_n, swP_c, vI_e, vL_e, vNull_e, vIload_e, vLload_e, vAload_e, vIstore_e, vLstore_e, vAstore_e, vIinc_e, vIadd_e, vIsub_e, vImul_e, vIand_e, vIor_e, vIxor_e, vIshl_e, vIshr_e, vIushr_e, vIdiv_e, vIrem_e, vLadd_e, vLsub_e, vLmul_e, vLand_e, vLor_e, vLxor_e, vLdiv_e, vLrem_e, vLushr_e, vLshl_e, vLcmp_e, vIneg_e, vI2l_e, vL2i_e, vI2b_e, vI2c_e, vDup_e, vPop_e, vDup2_e, vGoto_e, vIcEq_e, vIfEq_e, vIcNe_e, vIfNe_e, vIcLt_e, vIfLt_e, vIcGe_e, vIfGe_e, vIcGt_e, vIfGt_e, vIcLe_e, vIfLe_e, vNonnull_e, vSw_e, vGetI_e, vGetL_e, vGetR_e, vPutI_e, vPutZ_e, vPutL_e, vPutR_e, vIald_e, vIald_s, vLald_e, vBald_e, vBald_s, vAald_e, vIast_e, vLast_e, vBast_e, vAast_e, vAlen_e8, vAlen_e9, vAlen_e10, vAlen_e11, vAlen_e5, vAlen_e3, vGets_e, vCompact_e, vLdcS_e, vIret_e, vZret_e, vCret_e, vBret_e, vLret_e, vVret_e, vAret_e, vCallM_e0, vCallMV_e0, vCallS_e0, vCallSV_e0, vCallM_e1, vCallMV_e1, vCallS_e1, vCallSV_e1, vCallM_e2, vCallMV_e2, vCallS_e2, vCallSV_e2, vCallM_e3, vCallMV_e3, vCallS_e3, vCallSV_e3, vCallM_e4, vCallMV_e4, vCallS_e4, vCallSV_e4, vCallM_e5, vCallMV_e5, vCallS_e5, vCallSV_e5, vCallM_e6, vCallMV_e6, vCallS_e6, vCallSV_e6, vCallM_e7, vCallMV_e7, vCallS_e7, vCallSV_e7, vBad_e, vStrVal_e, vStrCod_e, vForm_e, vCallT_e0, vCallT_e1, vCallT_e2, vCopy_e, rf_0_0, rf_0_1, rf_0_2, rf_0_3, rf_0_4, rf_0_7, rf_0_10, rf_0_11, rf_0_12, rf_0_13, rf_0_14, rf_0_15, rf_0_16, rf_1_0, rf_3_0, rf_3_1, rf_6_0, rf_6_1, rf_9_0, rf_9_1, rf_9_3, rf_13_0, rf_13_1, rf_13_2, rf_16_0, rf_16_1, rf_16_2, rf_16_3, rf_21_0, rf_21_1, rf_21_2, rf_21_3, rf_26_0, rf_26_1, rf_26_2, rf_26_3, rf_26_4, rf_26_5, rf_26_6, rf_31_0, rf_31_2, rf_31_5, rf_31_6, rf_36_0, rf_36_1, rf_36_2, rf_36_3, rf_39_0, rf_39_1, rf_39_2, rf_41_0, rf_41_1, rf_41_2, rf_41_3, rf_5000_1, rf_5000_2, rf_5000_3, rf_5000_4, rf_5000_5, rf_5000_15, rf_5000_16, rf_5000_18, rf_5000_19, rf_5000_20, rf_5000_21, rf_5000_22, rf_5000_23, rf_5000_24, rf_5000_25, rf_5000_26, rf_5000_27, rf_5000_36, rf_5000_37, rf_5000_40, rf_5000_41, rf_5000_42, rf_5000_43, rf_5000_44, rf_5000_45, rf_5000_47, rf_5000_52, rf_5000_54, rf_5000_55, rf_100_0, rf_100_1, rf_103_0, rf_103_1, rf_106_0, rf_106_1, rf_109_0, rf_109_1, al_2, al_4, al_5, al_7, al_8, al_10, al_11, al_12, al_14, al_15, al_17, al_18, al_19, al_20, al_22, al_23, al_24, al_25, al_27, al_28, al_29, al_30, al_32, al_33, al_34, al_35, al_37, al_38, al_40, al_42, al_5001, al_5002, al_5003, al_5004, al_5005, al_5006, al_5007, al_5008, al_5009, al_5010, al_5011, al_5012, al_5013, al_5014, al_5015, al_5016, al_5017, al_5018, al_5019, al_5020, al_5021, al_5022, al_5023, al_5024, al_5025, al_5026, al_9000, al_101, al_102, al_104, al_105, al_107, al_108, al_110, al_111, vcs_e, lg_c0, lg_cs, lg_nil, set_c0, set_cs, okst_0, okst_s, acok_n, acok_c, List.contains_nil, List.contains_cons, Bool.or_false, Bool.false_or, Bool.false_eq_true, if_false, if_true, ite_self, ne_eq, true_and, and_true, not_false_eq_true, not_true_eq_false, false_imp_iff, true_imp_iff, Nat.ble_eq, Bool.and_eq_true, reduceCtorEq, or_false, false_or, or_true, true_or, false_and, and_false, and_self, Int.reduceLE, Int.reduceAdd, Int.reduceSub, Int.reduceMul, Int.reduceNeg, Int.reduceLT, Int.reduceEq, Int.reduceNe, Nat.reduceBEq, Nat.reduceBNe, Nat.reduceEqDiff, amCmp_in, amCmp_lt, amCmp_le, amCmp_gt, amCmp_ge, amCmp_eq, amCmp_ne, Nat.reduceLeDiff, Nat.reduceSub, Bool.and_true, Bool.true_and, Bool.and_self, Bool.or_true, Bool.true_or, isRf_3, isRf_4, isRf_5, isRf_8, isRf_9, isRf_10, isRf_11, isRf_15, isRf_16, isRf_17, isRf_18, isRf_19, isRf_20, isRf_21, isRf_22, isRf_23, isRf_24, isRf_25, isRf_26, isRf_27, isRf_28, k_X12_give_0, k_X12_give_1, k_X12_give_2, k_X12_give_5, k_X12_give_6, k_X12_give_7, k_X12_give_10, k_X12_give_13, k_X12_give_14, k_X12_give_15, k_X12_give_16, k_X12_give_19, k_X12_give_22, k_X12_give_25, k_X12_give_26, k_X12_give_29, k_X12_give_30, k_X12_give_31, k_X12_give_32, k_X12_give_33, k_X12_give_34, k_X12_give_35, k_X12_give_36, k_X12_give_37, k_X12_give_39, k_X12_give_42, k_X12_give_43, k_X12_give_44, k_X12_give_45, k_X12_give_48, k_X12_give_49, k_X12_give_52, k_X12_give_53, k_X12_give_54, k_X12_give_55, k_X12_give_56, k_X12_give_57, k_X12_give_58, k_X12_give_59, k_X12_give_60, k_X12_give_61, k_X12_give_62, k_X12_give_63, k_X12_give_66, k_X12_give_67, k_X12_give_68, k_X12_give_69, k_X12_give_70, k_X12_give_71, k_X12_give_72, w_X12_isChair_e, w_X12_isIn_e, w_X12_remember_e, up_s, up_nj, up_na, up_up, savR_o, cpy_o, fillm_o, setAud_o, setv_o, setv_s, Int.reduceNe, Int.reduceEq, Int.reduceLT, Int.reduceAdd, not_false_eq_true, ne_eq, or_true, true_or, t15, e29, e48, rmb_15]
  by_cases d : 0 ≤ c ∧ c < σ 5000 29
  · have hjc := hm c d.1 d.2
    rw [if_pos d]
    by_cases g : 1 ≤ n ∧ n ≤ 50
    · rw [if_pos g]
      repeat' (first | assumption | apply And.intro | intro _)
      all_goals first | omega | exact absurd trivial (by assumption) | exact h1 (by omega) | exact h2 ⟨by omega, by omega, by omega, by omega, by omega⟩
    · rw [if_neg g]
      repeat' (first | assumption | apply And.intro | intro _)
      all_goals first | omega | exact absurd trivial (by assumption) | exact h1 (by omega)
  · rw [if_neg d]
    repeat' (first | assumption | apply And.intro | intro _)
    all_goals first | omega | exact absurd trivial (by assumption) | exact h1 (by omega)
theorem wd_1757 : Cond.constantLong RX12 402 30 ∈ TBL := tb_tab (List.mem_of_getElem? (i := 1757) (by decide +kernel)) rfl
def a_X12_price : AC := [(0, vAload 0 1), (1, vI 0 2), (2, vPutI 28 0 5), (5, vAload 0 6), (6, vGetI 28 29 9), (9, vIfEq 35 12), (12, vIload 1 13), (13, vI2l 14), (14, vL 0 15), (15, vL 30 18), (18, vCallS w_X12_isIn 3 21), (21, vIfEq 35 24), (24, vAload 0 25), (25, vGetR TT 28 36 8 28), (28, vI 25 30), (30, vIald TT 31), (31, vIload 1 32), (32, vIcNe 37 35), (35, vI (-1) 36), (36, vIret), (37, vAload 0 38), (38, vCallMV w_X12_remember 28 0 41), (41, vAload 0 42), (42, vGetR TT 28 36 8 45), (45, vI 25 47), (47, vIald TT 48), (48, vIstore 2 49), (49, vAload 0 50), (50, vGetR TT 28 36 8 53), (53, vI 25 55), (55, vIload 1 56), (56, vIast TT 57), (57, vIload 2 58), (58, vIret)]
theorem k_X12_price_0 : look a_X12_price 0 = vAload 0 1 := rfl
theorem k_X12_price_1 : look a_X12_price 1 = vI 0 2 := rfl
theorem k_X12_price_2 : look a_X12_price 2 = vPutI 28 0 5 := rfl
theorem k_X12_price_5 : look a_X12_price 5 = vAload 0 6 := rfl
theorem k_X12_price_6 : look a_X12_price 6 = vGetI 28 29 9 := rfl
theorem k_X12_price_9 : look a_X12_price 9 = vIfEq 35 12 := rfl
theorem k_X12_price_12 : look a_X12_price 12 = vIload 1 13 := rfl
theorem k_X12_price_13 : look a_X12_price 13 = vI2l 14 := rfl
theorem k_X12_price_14 : look a_X12_price 14 = vL 0 15 := rfl
theorem k_X12_price_15 : look a_X12_price 15 = vL 30 18 := rfl
theorem k_X12_price_18 : look a_X12_price 18 = vCallS w_X12_isIn 3 21 := rfl
theorem k_X12_price_21 : look a_X12_price 21 = vIfEq 35 24 := rfl
theorem k_X12_price_24 : look a_X12_price 24 = vAload 0 25 := rfl
theorem k_X12_price_25 : look a_X12_price 25 = vGetR TT 28 36 8 28 := rfl
theorem k_X12_price_28 : look a_X12_price 28 = vI 25 30 := rfl
theorem k_X12_price_30 : look a_X12_price 30 = vIald TT 31 := rfl
theorem k_X12_price_31 : look a_X12_price 31 = vIload 1 32 := rfl
theorem k_X12_price_32 : look a_X12_price 32 = vIcNe 37 35 := rfl
theorem k_X12_price_35 : look a_X12_price 35 = vI (-1) 36 := rfl
theorem k_X12_price_36 : look a_X12_price 36 = vIret := rfl
theorem k_X12_price_37 : look a_X12_price 37 = vAload 0 38 := rfl
theorem k_X12_price_38 : look a_X12_price 38 = vCallMV w_X12_remember 28 0 41 := rfl
theorem k_X12_price_41 : look a_X12_price 41 = vAload 0 42 := rfl
theorem k_X12_price_42 : look a_X12_price 42 = vGetR TT 28 36 8 45 := rfl
theorem k_X12_price_45 : look a_X12_price 45 = vI 25 47 := rfl
theorem k_X12_price_47 : look a_X12_price 47 = vIald TT 48 := rfl
theorem k_X12_price_48 : look a_X12_price 48 = vIstore 2 49 := rfl
theorem k_X12_price_49 : look a_X12_price 49 = vAload 0 50 := rfl
theorem k_X12_price_50 : look a_X12_price 50 = vGetR TT 28 36 8 53 := rfl
theorem k_X12_price_53 : look a_X12_price 53 = vI 25 55 := rfl
theorem k_X12_price_55 : look a_X12_price 55 = vIload 1 56 := rfl
theorem k_X12_price_56 : look a_X12_price 56 = vIast TT 57 := rfl
theorem k_X12_price_57 : look a_X12_price 57 = vIload 2 58 := rfl
theorem k_X12_price_58 : look a_X12_price 58 = vIret := rfl
theorem o_X12_price {X : amX} (e1 : XT X = TT) (e2 : XD X = 1) (hB : amB X RX12 cX12_price (some .int) 3) : ∀ pc, amOK X pc (look a_X12_price pc) := by
  have hT : amTok (XT X) := e1 ▸ TT_ok
  refine look_ok ?_
  unfold a_X12_price
  refine fc (ok_aload_n hB dX12_price_0) ?_
  refine fc (ok_iconst hB dX12_price_1) ?_
  refine fc (ok_putI hB hT fp_X12_111 rfl rfl rfl af_12_0 dX12_price_2) ?_
  refine fc (ok_aload_n hB dX12_price_5) ?_
  refine fc (ok_getI hB hT fl_X12_317 rfl rfl (Or.inl af_12_29) dX12_price_6) ?_
  refine fc (ok_if_eq hB (t := 35) (by decide) dX12_price_9) ?_
  refine fc (ok_iload_n hB dX12_price_12) ?_
  refine fc (ok_i2l hB dX12_price_13) ?_
  refine fc (ok_lconst hB (z := 0) (by decide) dX12_price_14) ?_
  refine fc (ok_ldc2 hB wd_1757 rfl dX12_price_15) ?_
  refine fc (ok_callS hB (e1 ▸ s_X12_isIn) lk_X12_232 (by rw [e2]; decide) wd_1502 dX12_price_18) ?_
  refine fc (ok_if_eq hB (t := 35) (by decide) dX12_price_21) ?_
  refine fc (ok_aload_n hB dX12_price_24) ?_
  refine fc (okt_getR e1 hB hT fl_X12_67 rfl af_12_36 at_12_36 (by decide) dX12_price_25) ?_
  refine fc (ok_bipush hB dX12_price_28 (by decide)) ?_
  refine fc (okt_iaload e1 hB dX12_price_30) ?_
  refine fc (ok_iload_n hB dX12_price_31) ?_
  refine fc (ok_icmp_ne hB (t := 37) (by decide) dX12_price_32) ?_
  refine fc (ok_iconst hB dX12_price_35) ?_
  refine fc (ok_iret hB dX12_price_36) ?_
  refine fc (ok_aload_n hB dX12_price_37) ?_
  refine fc (ok_callMV hB hT (e1 ▸ s_X12_remember) lk_X12_383 (by rw [e2]; decide) (c := 12) rfl rfl rfl wd_1690 sl_X12_remember dX12_price_38) ?_
  refine fc (ok_aload_n hB dX12_price_41) ?_
  refine fc (okt_getR e1 hB hT fl_X12_67 rfl af_12_36 at_12_36 (by decide) dX12_price_42) ?_
  refine fc (ok_bipush hB dX12_price_45 (by decide)) ?_
  refine fc (okt_iaload e1 hB dX12_price_47) ?_
  refine fc (ok_istore_n hB (by decide) dX12_price_48) ?_
  refine fc (ok_aload_n hB dX12_price_49) ?_
  refine fc (okt_getR e1 hB hT fl_X12_67 rfl af_12_36 at_12_36 (by decide) dX12_price_50) ?_
  refine fc (ok_bipush hB dX12_price_53 (by decide)) ?_
  refine fc (ok_iload_n hB dX12_price_55) ?_
  refine fc (okt_iastore e1 hB dX12_price_56) ?_
  refine fc (ok_iload_n hB dX12_price_57) ?_
  refine fc (ok_iret hB dX12_price_58) ?_
  exact fn

def w_X12_price : WP := fun av σ Q => ∃ (v : Int), av = [(28, 5000), (0, v)] ∧ (InR v ∧ mB σ ∧ (¬ (σ 5000 29 ≠ 0 ∧ 0 ≤ v ∧ v ≤ 30 ∧ σ 5015 25 ≠ v) → Q (0, -1) (th0 σ)) ∧ (σ 5000 29 ≠ 0 ∧ 0 ≤ v ∧ v ≤ 30 ∧ σ 5015 25 ≠ v → Q (0, σ 5015 25) (up (rmb (th0 σ)) 5015 25 v)))
theorem w_X12_price_e (v : Int) (σ : Mem) (Q : AV → Mem → Prop) : w_X12_price [(28, 5000), (0, v)] σ Q = (InR v ∧ mB σ ∧ (¬ (σ 5000 29 ≠ 0 ∧ 0 ≤ v ∧ v ≤ 30 ∧ σ 5015 25 ≠ v) → Q (0, -1) (th0 σ)) ∧ (σ 5000 29 ≠ 0 ∧ 0 ≤ v ∧ v ≤ 30 ∧ σ 5015 25 ≠ v → Q (0, σ 5015 25) (up (rmb (th0 σ)) 5015 25 v))) := by
  apply propext; constructor
  · rintro ⟨v', h9, hb9⟩; cases h9; exact hb9
  · intro hb9; exact ⟨v, rfl, hb9⟩

set_option maxRecDepth 100000 in
set_option maxHeartbeats 4000000 in
theorem s_X12_price : ∀ av σ Q, w_X12_price av σ Q → amCall 1 0 0 TT yX12_price cX12_price 3 (some .int) av σ Q := by
  rintro av σ Q ⟨v, rfl, hv, ⟨h29, h30, h28, h48, hj, h25, h24⟩, h1, h2⟩
  have t15 : th0 σ 5015 = σ 5015 := th_o σ (by decide)
  have e29 : th0 σ 5000 29 = σ 5000 29 := th_k σ (by decide)
  have e48 : th0 σ 5000 48 = σ 5000 48 := th_k σ (by decide)
  refine am_m0 (own := RX12) (A := look a_X12_price) (fun X e1 e2 hB => o_X12_price e1 e2 hB) rfl (by decide +kernel) rfl rfl 190 (w := 3) ?_
  change vcs _ _ _ _ 190 0 [(28, 5000), (0, v), (6, 0)] [] σ
  simp only [↓reduceIte, inR_0, inR_1, inR_m, vSw2_e, swP_n, swP_c, vI_e, vL_e, vNull_e, vIload_e, vLload_e, vAload_e, vIstore_e, vLstore_e, vAstore_e, vIinc_e, vIadd_e, vIsub_e, vImul_e, vIand_e, vIor_e, vIxor_e, vIshl_e, vIshr_e, vIushr_e, vIdiv_e, vIrem_e, vLadd_e, vLsub_e, vLmul_e, vLand_e, vLor_e, vLxor_e, vLdiv_e, vLrem_e, vLushr_e, vLshl_e, vLcmp_e, vIneg_e, vI2l_e, vL2i_e, vI2b_e, vI2c_e, vDup_e, vPop_e, vDup2_e, vGoto_e, vIcEq_e, vIfEq_e, vIcNe_e, vIfNe_e, vIcLt_e, vIfLt_e, vIcGe_e, vIfGe_e, vIcGt_e, vIfGt_e, vIcLe_e, vIfLe_e, vNonnull_e, vSw_e, vGetI_e, vGetL_e, vGetR_e, vPutI_e, vPutZ_e, vPutL_e, vPutR_e, vIald_e, vIald_s, vLald_e, vBald_e, vBald_s, vAald_e, vIast_e, vLast_e, vBast_e, vAast_e, vAlen_e8, vAlen_e9, vAlen_e10, vAlen_e11, vAlen_e5, vAlen_e3, vGets_e, vCompact_e, vLdcS_e, vIret_e, vZret_e, vCret_e, vBret_e, vLret_e, vVret_e, vAret_e, vCallM_e0, vCallMV_e0, vCallS_e0, vCallSV_e0, vCallM_e1, vCallMV_e1, vCallS_e1, vCallSV_e1, vCallM_e2, vCallMV_e2, vCallS_e2, vCallSV_e2, vCallM_e3, vCallMV_e3, vCallS_e3, vCallSV_e3, vCallM_e4, vCallMV_e4, vCallS_e4, vCallSV_e4, vCallM_e5, vCallMV_e5, vCallS_e5, vCallSV_e5, vCallM_e6, vCallMV_e6, vCallS_e6, vCallSV_e6, vCallM_e7, vCallMV_e7, vCallS_e7, vCallSV_e7, vBad_e, vStrVal_e, vStrCod_e, vForm_e, vCallT_e0, vCallT_e1, vCallT_e2, vCopy_e, rf_0_0, rf_0_1, rf_0_2, rf_0_3, rf_0_4, rf_0_7, rf_0_10, rf_0_11, rf_0_12, rf_0_13, rf_0_14, rf_0_15, rf_0_16, rf_1_0, rf_3_0, rf_3_1, rf_6_0, rf_6_1, rf_9_0, rf_9_1, rf_9_3, rf_13_0, rf_13_1, rf_13_2, rf_16_0, rf_16_1, rf_16_2, rf_16_3, rf_21_0, rf_21_1, rf_21_2, rf_21_3, rf_26_0, rf_26_1, rf_26_2, rf_26_3, rf_26_4, rf_26_5, rf_26_6, rf_31_0, rf_31_2, rf_31_5, rf_31_6, rf_36_0, rf_36_1, rf_36_2, rf_36_3, rf_39_0, rf_39_1, rf_39_2, rf_41_0, rf_41_1, rf_41_2, rf_41_3, rf_5000_1, rf_5000_2, rf_5000_3, rf_5000_4, rf_5000_5, rf_5000_15, rf_5000_16, rf_5000_18, rf_5000_19, rf_5000_20, rf_5000_21, rf_5000_22, rf_5000_23, rf_5000_24, rf_5000_25, rf_5000_26, rf_5000_27, rf_5000_36, rf_5000_37, rf_5000_40, rf_5000_41, rf_5000_42, rf_5000_43, rf_5000_44, rf_5000_45, rf_5000_47, rf_5000_52, rf_5000_54, rf_5000_55, rf_100_0, rf_100_1, rf_103_0, rf_103_1, rf_106_0, rf_106_1, rf_109_0, rf_109_1, al_2, al_4, al_5, al_7, al_8, al_10, al_11, al_12, al_14, al_15, al_17, al_18, al_19, al_20, al_22, al_23, al_24, al_25, al_27, al_28, al_29, al_30, al_32, al_33, al_34, al_35, al_37, al_38, al_40, al_42, al_5001, al_5002, al_5003, al_5004, al_5005, al_5006, al_5007, al_5008, al_5009, al_5010, al_5011, al_5012, al_5013, al_5014, al_5015, al_5016, al_5017, al_5018, al_5019, al_5020, al_5021, al_5022, al_5023, al_5024, al_5025, al_5026, al_9000, al_101, al_102, al_104, al_105, al_107, al_108, al_110, al_111, vcs_e, lg_c0, lg_cs, lg_nil, set_c0, set_cs, okst_0, okst_s, acok_n, acok_c, List.contains_nil, List.contains_cons, Bool.or_false, Bool.false_or, Bool.false_eq_true, if_false, if_true, ite_self, ne_eq, true_and, and_true, not_false_eq_true, not_true_eq_false, false_imp_iff, true_imp_iff, Nat.ble_eq, Bool.and_eq_true, reduceCtorEq, or_false, false_or, or_true, true_or, false_and, and_false, and_self, Int.reduceLE, Int.reduceAdd, Int.reduceSub, Int.reduceMul, Int.reduceNeg, Int.reduceLT, Int.reduceEq, Int.reduceNe, Nat.reduceBEq, Nat.reduceBNe, Nat.reduceEqDiff, amCmp_in, amCmp_lt, amCmp_le, amCmp_gt, amCmp_ge, amCmp_eq, amCmp_ne, Nat.reduceLeDiff, Nat.reduceSub, Bool.and_true, Bool.true_and, Bool.and_self, Bool.or_true, Bool.true_or, isRf_3, isRf_4, isRf_5, isRf_8, isRf_9, isRf_10, isRf_11, isRf_15, isRf_16, isRf_17, isRf_18, isRf_19, isRf_20, isRf_21, isRf_22, isRf_23, isRf_24, isRf_25, isRf_26, isRf_27, isRf_28, k_X12_price_0, k_X12_price_1, k_X12_price_2, k_X12_price_5, k_X12_price_6, k_X12_price_9, k_X12_price_12, k_X12_price_13, k_X12_price_14, k_X12_price_15, k_X12_price_18, k_X12_price_21, k_X12_price_24, k_X12_price_25, k_X12_price_28, k_X12_price_30, k_X12_price_31, k_X12_price_32, k_X12_price_35, k_X12_price_36, k_X12_price_37, k_X12_price_38, k_X12_price_41, k_X12_price_42, k_X12_price_45, k_X12_price_47, k_X12_price_48, k_X12_price_49, k_X12_price_50, k_X12_price_53, k_X12_price_55, k_X12_price_56, k_X12_price_57, k_X12_price_58, w_X12_isIn_e, w_X12_remember_e, up_s, up_nj, up_na, up_up, savR_o, cpy_o, fillm_o, setAud_o, setv_o, setv_s, Int.reduceNe, Int.reduceEq, Int.reduceLT, Int.reduceAdd, not_false_eq_true, ne_eq, or_true, true_or, t15, e29, e48, rmb_15]
  by_cases g : 0 ≤ v ∧ v ≤ 30
  · rw [if_pos g]
    repeat' (first | assumption | apply And.intro | intro _)
    all_goals first | omega | exact absurd trivial (by assumption) | exact h1 (by omega) | exact h2 ⟨by omega, by omega, by omega, by omega⟩
  · rw [if_neg g]
    repeat' (first | assumption | apply And.intro | intro _)
    all_goals first | omega | exact absurd trivial (by assumption) | exact h1 (by omega)
theorem wd_1500 : Cond.constantLong RX12 295 2 ∈ TBL := tb_tab (List.mem_of_getElem? (i := 1500) (by decide +kernel)) rfl
def a_X12_log : AC := [(0, vAload 0 1), (1, vI 0 2), (2, vPutI 28 0 5), (5, vIload 1 6), (6, vI2l 7), (7, vL 0 8), (8, vAload 0 9), (9, vGetR TT 28 36 8 12), (12, vI 27 14), (14, vIald TT 15), (15, vI 1 16), (16, vIsub 17), (17, vI2l 18), (18, vCallS w_X12_isIn 3 21), (21, vIfEq 62 24), (24, vIload 2 25), (25, vI2l 26), (26, vL 0 27), (27, vL 2 30), (30, vCallS w_X12_isIn 3 33), (33, vIfEq 62 36), (36, vAload 0 37), (37, vGetR TT 28 36 8 40), (40, vI 28 42), (42, vI 3 43), (43, vAload 0 44), (44, vGetR TT 28 36 8 47), (47, vI 27 49), (49, vIald TT 50), (50, vI 1 51), (51, vIsub 52), (52, vIload 1 53), (53, vIsub 54), (54, vImul 55), (55, vIadd 56), (56, vIload 2 57), (57, vIadd 58), (58, vIald TT 59), (59, vGoto 63), (62, vI (-1) 63), (63, vIret)]
theorem k_X12_log_0 : look a_X12_log 0 = vAload 0 1 := rfl
theorem k_X12_log_1 : look a_X12_log 1 = vI 0 2 := rfl
theorem k_X12_log_2 : look a_X12_log 2 = vPutI 28 0 5 := rfl
theorem k_X12_log_5 : look a_X12_log 5 = vIload 1 6 := rfl
theorem k_X12_log_6 : look a_X12_log 6 = vI2l 7 := rfl
theorem k_X12_log_7 : look a_X12_log 7 = vL 0 8 := rfl
theorem k_X12_log_8 : look a_X12_log 8 = vAload 0 9 := rfl
theorem k_X12_log_9 : look a_X12_log 9 = vGetR TT 28 36 8 12 := rfl
theorem k_X12_log_12 : look a_X12_log 12 = vI 27 14 := rfl
theorem k_X12_log_14 : look a_X12_log 14 = vIald TT 15 := rfl
theorem k_X12_log_15 : look a_X12_log 15 = vI 1 16 := rfl
theorem k_X12_log_16 : look a_X12_log 16 = vIsub 17 := rfl
theorem k_X12_log_17 : look a_X12_log 17 = vI2l 18 := rfl
theorem k_X12_log_18 : look a_X12_log 18 = vCallS w_X12_isIn 3 21 := rfl
theorem k_X12_log_21 : look a_X12_log 21 = vIfEq 62 24 := rfl
theorem k_X12_log_24 : look a_X12_log 24 = vIload 2 25 := rfl
theorem k_X12_log_25 : look a_X12_log 25 = vI2l 26 := rfl
theorem k_X12_log_26 : look a_X12_log 26 = vL 0 27 := rfl
theorem k_X12_log_27 : look a_X12_log 27 = vL 2 30 := rfl
theorem k_X12_log_30 : look a_X12_log 30 = vCallS w_X12_isIn 3 33 := rfl
theorem k_X12_log_33 : look a_X12_log 33 = vIfEq 62 36 := rfl
theorem k_X12_log_36 : look a_X12_log 36 = vAload 0 37 := rfl
theorem k_X12_log_37 : look a_X12_log 37 = vGetR TT 28 36 8 40 := rfl
theorem k_X12_log_40 : look a_X12_log 40 = vI 28 42 := rfl
theorem k_X12_log_42 : look a_X12_log 42 = vI 3 43 := rfl
theorem k_X12_log_43 : look a_X12_log 43 = vAload 0 44 := rfl
theorem k_X12_log_44 : look a_X12_log 44 = vGetR TT 28 36 8 47 := rfl
theorem k_X12_log_47 : look a_X12_log 47 = vI 27 49 := rfl
theorem k_X12_log_49 : look a_X12_log 49 = vIald TT 50 := rfl
theorem k_X12_log_50 : look a_X12_log 50 = vI 1 51 := rfl
theorem k_X12_log_51 : look a_X12_log 51 = vIsub 52 := rfl
theorem k_X12_log_52 : look a_X12_log 52 = vIload 1 53 := rfl
theorem k_X12_log_53 : look a_X12_log 53 = vIsub 54 := rfl
theorem k_X12_log_54 : look a_X12_log 54 = vImul 55 := rfl
theorem k_X12_log_55 : look a_X12_log 55 = vIadd 56 := rfl
theorem k_X12_log_56 : look a_X12_log 56 = vIload 2 57 := rfl
theorem k_X12_log_57 : look a_X12_log 57 = vIadd 58 := rfl
theorem k_X12_log_58 : look a_X12_log 58 = vIald TT 59 := rfl
theorem k_X12_log_59 : look a_X12_log 59 = vGoto 63 := rfl
theorem k_X12_log_62 : look a_X12_log 62 = vI (-1) 63 := rfl
theorem k_X12_log_63 : look a_X12_log 63 = vIret := rfl
theorem o_X12_log {X : amX} (e1 : XT X = TT) (e2 : XD X = 1) (hB : amB X RX12 cX12_log (some .int) 3) : ∀ pc, amOK X pc (look a_X12_log pc) := by
  have hT : amTok (XT X) := e1 ▸ TT_ok
  refine look_ok ?_
  unfold a_X12_log
  refine fc (ok_aload_n hB dX12_log_0) ?_
  refine fc (ok_iconst hB dX12_log_1) ?_
  refine fc (ok_putI hB hT fp_X12_111 rfl rfl rfl af_12_0 dX12_log_2) ?_
  refine fc (ok_iload_n hB dX12_log_5) ?_
  refine fc (ok_i2l hB dX12_log_6) ?_
  refine fc (ok_lconst hB (z := 0) (by decide) dX12_log_7) ?_
  refine fc (ok_aload_n hB dX12_log_8) ?_
  refine fc (okt_getR e1 hB hT fl_X12_67 rfl af_12_36 at_12_36 (by decide) dX12_log_9) ?_
  refine fc (ok_bipush hB dX12_log_12 (by decide)) ?_
  refine fc (okt_iaload e1 hB dX12_log_14) ?_
  refine fc (ok_iconst hB dX12_log_15) ?_
  refine fc (ok_isub hB dX12_log_16) ?_
  refine fc (ok_i2l hB dX12_log_17) ?_
  refine fc (ok_callS hB (e1 ▸ s_X12_isIn) lk_X12_232 (by rw [e2]; decide) wd_1502 dX12_log_18) ?_
  refine fc (ok_if_eq hB (t := 62) (by decide) dX12_log_21) ?_
  refine fc (ok_iload_n hB dX12_log_24) ?_
  refine fc (ok_i2l hB dX12_log_25) ?_
  refine fc (ok_lconst hB (z := 0) (by decide) dX12_log_26) ?_
  refine fc (ok_ldc2 hB wd_1500 rfl dX12_log_27) ?_
  refine fc (ok_callS hB (e1 ▸ s_X12_isIn) lk_X12_232 (by rw [e2]; decide) wd_1502 dX12_log_30) ?_
  refine fc (ok_if_eq hB (t := 62) (by decide) dX12_log_33) ?_
  refine fc (ok_aload_n hB dX12_log_36) ?_
  refine fc (okt_getR e1 hB hT fl_X12_67 rfl af_12_36 at_12_36 (by decide) dX12_log_37) ?_
  refine fc (ok_bipush hB dX12_log_40 (by decide)) ?_
  refine fc (ok_iconst hB dX12_log_42) ?_
  refine fc (ok_aload_n hB dX12_log_43) ?_
  refine fc (okt_getR e1 hB hT fl_X12_67 rfl af_12_36 at_12_36 (by decide) dX12_log_44) ?_
  refine fc (ok_bipush hB dX12_log_47 (by decide)) ?_
  refine fc (okt_iaload e1 hB dX12_log_49) ?_
  refine fc (ok_iconst hB dX12_log_50) ?_
  refine fc (ok_isub hB dX12_log_51) ?_
  refine fc (ok_iload_n hB dX12_log_52) ?_
  refine fc (ok_isub hB dX12_log_53) ?_
  refine fc (ok_imul hB dX12_log_54) ?_
  refine fc (ok_iadd hB dX12_log_55) ?_
  refine fc (ok_iload_n hB dX12_log_56) ?_
  refine fc (ok_iadd hB dX12_log_57) ?_
  refine fc (okt_iaload e1 hB dX12_log_58) ?_
  refine fc (ok_goto hB (t := 63) (by decide) dX12_log_59) ?_
  refine fc (ok_iconst hB dX12_log_62) ?_
  refine fc (ok_iret hB dX12_log_63) ?_
  exact fn

def w_X12_log : WP := fun av σ Q => ∃ (i : Int) (w : Int), av = [(28, 5000), (0, i), (0, w)] ∧ (InR i ∧ InR w ∧ 0 ≤ σ 5015 27 ∧ σ 5015 27 ≤ 60 ∧ (¬ (0 ≤ i ∧ i < σ 5015 27 ∧ 0 ≤ w ∧ w ≤ 2) → Q (0, -1) (th0 σ)) ∧ (0 ≤ i ∧ i < σ 5015 27 ∧ 0 ≤ w ∧ w ≤ 2 → Q (0, σ 5015 (28 + 3 * (σ 5015 27 - 1 - i) + w)) (th0 σ)))
theorem w_X12_log_e (i : Int) (w : Int) (σ : Mem) (Q : AV → Mem → Prop) : w_X12_log [(28, 5000), (0, i), (0, w)] σ Q = (InR i ∧ InR w ∧ 0 ≤ σ 5015 27 ∧ σ 5015 27 ≤ 60 ∧ (¬ (0 ≤ i ∧ i < σ 5015 27 ∧ 0 ≤ w ∧ w ≤ 2) → Q (0, -1) (th0 σ)) ∧ (0 ≤ i ∧ i < σ 5015 27 ∧ 0 ≤ w ∧ w ≤ 2 → Q (0, σ 5015 (28 + 3 * (σ 5015 27 - 1 - i) + w)) (th0 σ))) := by
  apply propext; constructor
  · rintro ⟨i', w', h9, hb9⟩; cases h9; exact hb9
  · intro hb9; exact ⟨i, w, rfl, hb9⟩

set_option maxRecDepth 100000 in
set_option maxHeartbeats 4000000 in
theorem s_X12_log : ∀ av σ Q, w_X12_log av σ Q → amCall 1 0 0 TT yX12_log cX12_log 3 (some .int) av σ Q := by
  rintro av σ Q ⟨i, w, rfl, hi, hw, l0, l1, h1, h2⟩
  have t15 : th0 σ 5015 = σ 5015 := th_o σ (by decide)
  refine am_m0 (own := RX12) (A := look a_X12_log) (fun X e1 e2 hB => o_X12_log e1 e2 hB) rfl (by decide +kernel) rfl rfl 190 (w := 3) ?_
  change vcs _ _ _ _ 190 0 [(28, 5000), (0, i), (0, w)] [] σ
  simp only [↓reduceIte, inR_0, inR_1, inR_m, vSw2_e, swP_n, swP_c, vI_e, vL_e, vNull_e, vIload_e, vLload_e, vAload_e, vIstore_e, vLstore_e, vAstore_e, vIinc_e, vIadd_e, vIsub_e, vImul_e, vIand_e, vIor_e, vIxor_e, vIshl_e, vIshr_e, vIushr_e, vIdiv_e, vIrem_e, vLadd_e, vLsub_e, vLmul_e, vLand_e, vLor_e, vLxor_e, vLdiv_e, vLrem_e, vLushr_e, vLshl_e, vLcmp_e, vIneg_e, vI2l_e, vL2i_e, vI2b_e, vI2c_e, vDup_e, vPop_e, vDup2_e, vGoto_e, vIcEq_e, vIfEq_e, vIcNe_e, vIfNe_e, vIcLt_e, vIfLt_e, vIcGe_e, vIfGe_e, vIcGt_e, vIfGt_e, vIcLe_e, vIfLe_e, vNonnull_e, vSw_e, vGetI_e, vGetL_e, vGetR_e, vPutI_e, vPutZ_e, vPutL_e, vPutR_e, vIald_e, vIald_s, vLald_e, vBald_e, vBald_s, vAald_e, vIast_e, vLast_e, vBast_e, vAast_e, vAlen_e8, vAlen_e9, vAlen_e10, vAlen_e11, vAlen_e5, vAlen_e3, vGets_e, vCompact_e, vLdcS_e, vIret_e, vZret_e, vCret_e, vBret_e, vLret_e, vVret_e, vAret_e, vCallM_e0, vCallMV_e0, vCallS_e0, vCallSV_e0, vCallM_e1, vCallMV_e1, vCallS_e1, vCallSV_e1, vCallM_e2, vCallMV_e2, vCallS_e2, vCallSV_e2, vCallM_e3, vCallMV_e3, vCallS_e3, vCallSV_e3, vCallM_e4, vCallMV_e4, vCallS_e4, vCallSV_e4, vCallM_e5, vCallMV_e5, vCallS_e5, vCallSV_e5, vCallM_e6, vCallMV_e6, vCallS_e6, vCallSV_e6, vCallM_e7, vCallMV_e7, vCallS_e7, vCallSV_e7, vBad_e, vStrVal_e, vStrCod_e, vForm_e, vCallT_e0, vCallT_e1, vCallT_e2, vCopy_e, rf_0_0, rf_0_1, rf_0_2, rf_0_3, rf_0_4, rf_0_7, rf_0_10, rf_0_11, rf_0_12, rf_0_13, rf_0_14, rf_0_15, rf_0_16, rf_1_0, rf_3_0, rf_3_1, rf_6_0, rf_6_1, rf_9_0, rf_9_1, rf_9_3, rf_13_0, rf_13_1, rf_13_2, rf_16_0, rf_16_1, rf_16_2, rf_16_3, rf_21_0, rf_21_1, rf_21_2, rf_21_3, rf_26_0, rf_26_1, rf_26_2, rf_26_3, rf_26_4, rf_26_5, rf_26_6, rf_31_0, rf_31_2, rf_31_5, rf_31_6, rf_36_0, rf_36_1, rf_36_2, rf_36_3, rf_39_0, rf_39_1, rf_39_2, rf_41_0, rf_41_1, rf_41_2, rf_41_3, rf_5000_1, rf_5000_2, rf_5000_3, rf_5000_4, rf_5000_5, rf_5000_15, rf_5000_16, rf_5000_18, rf_5000_19, rf_5000_20, rf_5000_21, rf_5000_22, rf_5000_23, rf_5000_24, rf_5000_25, rf_5000_26, rf_5000_27, rf_5000_36, rf_5000_37, rf_5000_40, rf_5000_41, rf_5000_42, rf_5000_43, rf_5000_44, rf_5000_45, rf_5000_47, rf_5000_52, rf_5000_54, rf_5000_55, rf_100_0, rf_100_1, rf_103_0, rf_103_1, rf_106_0, rf_106_1, rf_109_0, rf_109_1, al_2, al_4, al_5, al_7, al_8, al_10, al_11, al_12, al_14, al_15, al_17, al_18, al_19, al_20, al_22, al_23, al_24, al_25, al_27, al_28, al_29, al_30, al_32, al_33, al_34, al_35, al_37, al_38, al_40, al_42, al_5001, al_5002, al_5003, al_5004, al_5005, al_5006, al_5007, al_5008, al_5009, al_5010, al_5011, al_5012, al_5013, al_5014, al_5015, al_5016, al_5017, al_5018, al_5019, al_5020, al_5021, al_5022, al_5023, al_5024, al_5025, al_5026, al_9000, al_101, al_102, al_104, al_105, al_107, al_108, al_110, al_111, vcs_e, lg_c0, lg_cs, lg_nil, set_c0, set_cs, okst_0, okst_s, acok_n, acok_c, List.contains_nil, List.contains_cons, Bool.or_false, Bool.false_or, Bool.false_eq_true, if_false, if_true, ite_self, ne_eq, true_and, and_true, not_false_eq_true, not_true_eq_false, false_imp_iff, true_imp_iff, Nat.ble_eq, Bool.and_eq_true, reduceCtorEq, or_false, false_or, or_true, true_or, false_and, and_false, and_self, Int.reduceLE, Int.reduceAdd, Int.reduceSub, Int.reduceMul, Int.reduceNeg, Int.reduceLT, Int.reduceEq, Int.reduceNe, Nat.reduceBEq, Nat.reduceBNe, Nat.reduceEqDiff, amCmp_in, amCmp_lt, amCmp_le, amCmp_gt, amCmp_ge, amCmp_eq, amCmp_ne, Nat.reduceLeDiff, Nat.reduceSub, Bool.and_true, Bool.true_and, Bool.and_self, Bool.or_true, Bool.true_or, isRf_3, isRf_4, isRf_5, isRf_8, isRf_9, isRf_10, isRf_11, isRf_15, isRf_16, isRf_17, isRf_18, isRf_19, isRf_20, isRf_21, isRf_22, isRf_23, isRf_24, isRf_25, isRf_26, isRf_27, isRf_28, k_X12_log_0, k_X12_log_1, k_X12_log_2, k_X12_log_5, k_X12_log_6, k_X12_log_7, k_X12_log_8, k_X12_log_9, k_X12_log_12, k_X12_log_14, k_X12_log_15, k_X12_log_16, k_X12_log_17, k_X12_log_18, k_X12_log_21, k_X12_log_24, k_X12_log_25, k_X12_log_26, k_X12_log_27, k_X12_log_30, k_X12_log_33, k_X12_log_36, k_X12_log_37, k_X12_log_40, k_X12_log_42, k_X12_log_43, k_X12_log_44, k_X12_log_47, k_X12_log_49, k_X12_log_50, k_X12_log_51, k_X12_log_52, k_X12_log_53, k_X12_log_54, k_X12_log_55, k_X12_log_56, k_X12_log_57, k_X12_log_58, k_X12_log_59, k_X12_log_62, k_X12_log_63, w_X12_isIn_e, up_s, up_nj, up_na, up_up, savR_o, cpy_o, fillm_o, setAud_o, setv_o, setv_s, Int.reduceNe, Int.reduceEq, Int.reduceLT, Int.reduceAdd, not_false_eq_true, ne_eq, or_true, true_or, t15]
  by_cases d : 0 ≤ i ∧ i ≤ σ 5015 27 - 1
  · rw [if_pos d]
    by_cases g : 0 ≤ w ∧ w ≤ 2
    · rw [if_pos g]
      repeat' (first | assumption | apply And.intro | intro _)
      all_goals first | omega | exact absurd trivial (by assumption) | exact h2 ⟨by omega, by omega, by omega, by omega⟩
    · rw [if_neg g]
      repeat' (first | assumption | apply And.intro | intro _)
      all_goals first | omega | exact absurd trivial (by assumption) | exact h1 (by omega)
  · rw [if_neg d]
    repeat' (first | assumption | apply And.intro | intro _)
    all_goals first | omega | exact absurd trivial (by assumption) | exact h1 (by omega)
theorem wd_1780 : Cond.methodLink RX12 415 yX12_isSeason ∈ TBL := tb_tab (List.mem_of_getElem? (i := 1780) (by decide +kernel)) rfl
theorem wd_1783 : Cond.code yX12_isSeason cX12_isSeason 2 (some .boolean) ∈ TBL := tb_tab (List.mem_of_getElem? (i := 1783) (by decide +kernel)) rfl
theorem lk_X12_415 : amLk RX12 415 yX12_isSeason cX12_isSeason 2 (some .boolean) 1 := ⟨wd_1780, wd_12, wd_1783, by decide +kernel, by decide +kernel, by decide⟩
theorem wd_1782 : Cond.instanceMethod yX12_isSeason ∈ TBL := tb_tab (List.mem_of_getElem? (i := 1782) (by decide +kernel)) rfl
theorem sl_X12_isSeason : Cond.selects RX12 yX12_isSeason yX12_isSeason ∈ TBL := tb_sel (List.mem_of_getElem? (i := 87) (by decide +kernel)) rfl
theorem wd_1332 : Cond.fieldLink RX12 64 "ArmchairHouseModel" "seasonLong" "[I" ∈ TBL := tb_tab (List.mem_of_getElem? (i := 1332) (by decide +kernel)) rfl
theorem fl_X12_64 : amFl RX12 12 27 64 RX12 TX12 57 := ⟨rfl, inT_12, by decide, wd_1332⟩
theorem wd_1331 : Cond.fieldLink RX12 61 "ArmchairHouseModel" "season" "[I" ∈ TBL := tb_tab (List.mem_of_getElem? (i := 1331) (by decide +kernel)) rfl
theorem fl_X12_61 : amFl RX12 12 26 61 RX12 TX12 57 := ⟨rfl, inT_12, by decide, wd_1331⟩
theorem wd_1784 : Cond.constant RX12 418 (-1000000) ∈ TBL := tb_tab (List.mem_of_getElem? (i := 1784) (by decide +kernel)) rfl
def a_X12_step : AC := [(0, vAload 0 1), (1, vI 0 2), (2, vPutI 28 0 5), (5, vAload 0 6), (6, vIload 1 7), (7, vCallM w_X12_isSeason 28 1 10), (10, vIfEq 61 13), (13, vIload 2 14), (14, vI2l 15), (15, vL 0 16), (16, vAload 0 17), (17, vGetR TT 28 27 8 20), (20, vIload 1 21), (21, vIald TT 22), (22, vI 1 23), (23, vIsub 24), (24, vI2l 25), (25, vCallS w_X12_isIn 3 28), (28, vIfEq 61 31), (31, vIload 3 32), (32, vI2l 33), (33, vL 0 34), (34, vL 2 37), (37, vCallS w_X12_isIn 3 40), (40, vIfEq 61 43), (43, vAload 0 44), (44, vGetR TT 28 26 8 47), (47, vI 3 48), (48, vI 16 50), (50, vIload 1 51), (51, vImul 52), (52, vIload 2 53), (53, vIadd 54), (54, vImul 55), (55, vIload 3 56), (56, vIadd 57), (57, vIald TT 58), (58, vGoto 64), (61, vI (-1000000) 64), (64, vIret)]
theorem k_X12_step_0 : look a_X12_step 0 = vAload 0 1 := rfl
theorem k_X12_step_1 : look a_X12_step 1 = vI 0 2 := rfl
theorem k_X12_step_2 : look a_X12_step 2 = vPutI 28 0 5 := rfl
theorem k_X12_step_5 : look a_X12_step 5 = vAload 0 6 := rfl
theorem k_X12_step_6 : look a_X12_step 6 = vIload 1 7 := rfl
theorem k_X12_step_7 : look a_X12_step 7 = vCallM w_X12_isSeason 28 1 10 := rfl
theorem k_X12_step_10 : look a_X12_step 10 = vIfEq 61 13 := rfl
theorem k_X12_step_13 : look a_X12_step 13 = vIload 2 14 := rfl
theorem k_X12_step_14 : look a_X12_step 14 = vI2l 15 := rfl
theorem k_X12_step_15 : look a_X12_step 15 = vL 0 16 := rfl
theorem k_X12_step_16 : look a_X12_step 16 = vAload 0 17 := rfl
theorem k_X12_step_17 : look a_X12_step 17 = vGetR TT 28 27 8 20 := rfl
theorem k_X12_step_20 : look a_X12_step 20 = vIload 1 21 := rfl
theorem k_X12_step_21 : look a_X12_step 21 = vIald TT 22 := rfl
theorem k_X12_step_22 : look a_X12_step 22 = vI 1 23 := rfl
theorem k_X12_step_23 : look a_X12_step 23 = vIsub 24 := rfl
theorem k_X12_step_24 : look a_X12_step 24 = vI2l 25 := rfl
theorem k_X12_step_25 : look a_X12_step 25 = vCallS w_X12_isIn 3 28 := rfl
theorem k_X12_step_28 : look a_X12_step 28 = vIfEq 61 31 := rfl
theorem k_X12_step_31 : look a_X12_step 31 = vIload 3 32 := rfl
theorem k_X12_step_32 : look a_X12_step 32 = vI2l 33 := rfl
theorem k_X12_step_33 : look a_X12_step 33 = vL 0 34 := rfl
theorem k_X12_step_34 : look a_X12_step 34 = vL 2 37 := rfl
theorem k_X12_step_37 : look a_X12_step 37 = vCallS w_X12_isIn 3 40 := rfl
theorem k_X12_step_40 : look a_X12_step 40 = vIfEq 61 43 := rfl
theorem k_X12_step_43 : look a_X12_step 43 = vAload 0 44 := rfl
theorem k_X12_step_44 : look a_X12_step 44 = vGetR TT 28 26 8 47 := rfl
theorem k_X12_step_47 : look a_X12_step 47 = vI 3 48 := rfl
theorem k_X12_step_48 : look a_X12_step 48 = vI 16 50 := rfl
theorem k_X12_step_50 : look a_X12_step 50 = vIload 1 51 := rfl
theorem k_X12_step_51 : look a_X12_step 51 = vImul 52 := rfl
theorem k_X12_step_52 : look a_X12_step 52 = vIload 2 53 := rfl
theorem k_X12_step_53 : look a_X12_step 53 = vIadd 54 := rfl
theorem k_X12_step_54 : look a_X12_step 54 = vImul 55 := rfl
theorem k_X12_step_55 : look a_X12_step 55 = vIload 3 56 := rfl
theorem k_X12_step_56 : look a_X12_step 56 = vIadd 57 := rfl
theorem k_X12_step_57 : look a_X12_step 57 = vIald TT 58 := rfl
theorem k_X12_step_58 : look a_X12_step 58 = vGoto 64 := rfl
theorem k_X12_step_61 : look a_X12_step 61 = vI (-1000000) 64 := rfl
theorem k_X12_step_64 : look a_X12_step 64 = vIret := rfl
theorem o_X12_step {X : amX} (e1 : XT X = TT) (e2 : XD X = 1) (hB : amB X RX12 cX12_step (some .int) 4) : ∀ pc, amOK X pc (look a_X12_step pc) := by
  have hT : amTok (XT X) := e1 ▸ TT_ok
  refine look_ok ?_
  unfold a_X12_step
  refine fc (ok_aload_n hB dX12_step_0) ?_
  refine fc (ok_iconst hB dX12_step_1) ?_
  refine fc (ok_putI hB hT fp_X12_111 rfl rfl rfl af_12_0 dX12_step_2) ?_
  refine fc (ok_aload_n hB dX12_step_5) ?_
  refine fc (ok_iload_n hB dX12_step_6) ?_
  refine fc (ok_callM hB hT (e1 ▸ s_X12_isSeason) lk_X12_415 (by rw [e2]; decide) (c := 12) rfl rfl rfl wd_1782 sl_X12_isSeason dX12_step_7) ?_
  refine fc (ok_if_eq hB (t := 61) (by decide) dX12_step_10) ?_
  refine fc (ok_iload_n hB dX12_step_13) ?_
  refine fc (ok_i2l hB dX12_step_14) ?_
  refine fc (ok_lconst hB (z := 0) (by decide) dX12_step_15) ?_
  refine fc (ok_aload_n hB dX12_step_16) ?_
  refine fc (okt_getR e1 hB hT fl_X12_64 rfl af_12_27 at_12_27 (by decide) dX12_step_17) ?_
  refine fc (ok_iload_n hB dX12_step_20) ?_
  refine fc (okt_iaload e1 hB dX12_step_21) ?_
  refine fc (ok_iconst hB dX12_step_22) ?_
  refine fc (ok_isub hB dX12_step_23) ?_
  refine fc (ok_i2l hB dX12_step_24) ?_
  refine fc (ok_callS hB (e1 ▸ s_X12_isIn) lk_X12_232 (by rw [e2]; decide) wd_1502 dX12_step_25) ?_
  refine fc (ok_if_eq hB (t := 61) (by decide) dX12_step_28) ?_
  refine fc (ok_iload_n hB dX12_step_31) ?_
  refine fc (ok_i2l hB dX12_step_32) ?_
  refine fc (ok_lconst hB (z := 0) (by decide) dX12_step_33) ?_
  refine fc (ok_ldc2 hB wd_1500 rfl dX12_step_34) ?_
  refine fc (ok_callS hB (e1 ▸ s_X12_isIn) lk_X12_232 (by rw [e2]; decide) wd_1502 dX12_step_37) ?_
  refine fc (ok_if_eq hB (t := 61) (by decide) dX12_step_40) ?_
  refine fc (ok_aload_n hB dX12_step_43) ?_
  refine fc (okt_getR e1 hB hT fl_X12_61 rfl af_12_26 at_12_26 (by decide) dX12_step_44) ?_
  refine fc (ok_iconst hB dX12_step_47) ?_
  refine fc (ok_bipush hB dX12_step_48 (by decide)) ?_
  refine fc (ok_iload_n hB dX12_step_50) ?_
  refine fc (ok_imul hB dX12_step_51) ?_
  refine fc (ok_iload_n hB dX12_step_52) ?_
  refine fc (ok_iadd hB dX12_step_53) ?_
  refine fc (ok_imul hB dX12_step_54) ?_
  refine fc (ok_iload_n hB dX12_step_55) ?_
  refine fc (ok_iadd hB dX12_step_56) ?_
  refine fc (okt_iaload e1 hB dX12_step_57) ?_
  refine fc (ok_goto hB (t := 64) (by decide) dX12_step_58) ?_
  refine fc (ok_ldcw hB wd_1784 rfl dX12_step_61) ?_
  refine fc (ok_iret hB dX12_step_64) ?_
  exact fn

def w_X12_step : WP := fun av σ Q => ∃ (k : Int) (i : Int) (w : Int), av = [(28, 5000), (0, k), (0, i), (0, w)] ∧ (InR k ∧ InR i ∧ InR w ∧ 0 ≤ σ 5000 34 ∧ σ 5000 34 ≤ 4 ∧ (∀ j, 0 ≤ j → j < σ 5000 34 → 1 ≤ σ 5014 j ∧ σ 5014 j ≤ 16) ∧ (¬ (0 ≤ k ∧ k < σ 5000 34 ∧ 0 ≤ i ∧ i < σ 5014 k ∧ 0 ≤ w ∧ w ≤ 2) → Q (0, -1000000) (th0 σ)) ∧ (0 ≤ k ∧ k < σ 5000 34 ∧ 0 ≤ i ∧ i < σ 5014 k ∧ 0 ≤ w ∧ w ≤ 2 → Q (0, σ 5013 (3 * (16 * k + i) + w)) (th0 σ)))
theorem w_X12_step_e (k : Int) (i : Int) (w : Int) (σ : Mem) (Q : AV → Mem → Prop) : w_X12_step [(28, 5000), (0, k), (0, i), (0, w)] σ Q = (InR k ∧ InR i ∧ InR w ∧ 0 ≤ σ 5000 34 ∧ σ 5000 34 ≤ 4 ∧ (∀ j, 0 ≤ j → j < σ 5000 34 → 1 ≤ σ 5014 j ∧ σ 5014 j ≤ 16) ∧ (¬ (0 ≤ k ∧ k < σ 5000 34 ∧ 0 ≤ i ∧ i < σ 5014 k ∧ 0 ≤ w ∧ w ≤ 2) → Q (0, -1000000) (th0 σ)) ∧ (0 ≤ k ∧ k < σ 5000 34 ∧ 0 ≤ i ∧ i < σ 5014 k ∧ 0 ≤ w ∧ w ≤ 2 → Q (0, σ 5013 (3 * (16 * k + i) + w)) (th0 σ))) := by
  apply propext; constructor
  · rintro ⟨k', i', w', h9, hb9⟩; cases h9; exact hb9
  · intro hb9; exact ⟨k, i, w, rfl, hb9⟩

set_option maxRecDepth 100000 in
set_option maxHeartbeats 4000000 in
theorem s_X12_step : ∀ av σ Q, w_X12_step av σ Q → amCall 1 0 0 TT yX12_step cX12_step 4 (some .int) av σ Q := by
  rintro av σ Q ⟨k, i, w, rfl, hk, hi, hw, s0, s1, hs, h1, h2⟩
  have t14 : th0 σ 5014 = σ 5014 := th_o σ (by decide)
  have t13 : th0 σ 5013 = σ 5013 := th_o σ (by decide)
  have e34 : th0 σ 5000 34 = σ 5000 34 := th_k σ (by decide)
  refine am_m0 (own := RX12) (A := look a_X12_step) (fun X e1 e2 hB => o_X12_step e1 e2 hB) rfl (by decide +kernel) rfl rfl 190 (w := 4) ?_
  change vcs _ _ _ _ 190 0 [(28, 5000), (0, k), (0, i), (0, w)] [] σ
  simp only [↓reduceIte, inR_0, inR_1, inR_m, vSw2_e, swP_n, swP_c, vI_e, vL_e, vNull_e, vIload_e, vLload_e, vAload_e, vIstore_e, vLstore_e, vAstore_e, vIinc_e, vIadd_e, vIsub_e, vImul_e, vIand_e, vIor_e, vIxor_e, vIshl_e, vIshr_e, vIushr_e, vIdiv_e, vIrem_e, vLadd_e, vLsub_e, vLmul_e, vLand_e, vLor_e, vLxor_e, vLdiv_e, vLrem_e, vLushr_e, vLshl_e, vLcmp_e, vIneg_e, vI2l_e, vL2i_e, vI2b_e, vI2c_e, vDup_e, vPop_e, vDup2_e, vGoto_e, vIcEq_e, vIfEq_e, vIcNe_e, vIfNe_e, vIcLt_e, vIfLt_e, vIcGe_e, vIfGe_e, vIcGt_e, vIfGt_e, vIcLe_e, vIfLe_e, vNonnull_e, vSw_e, vGetI_e, vGetL_e, vGetR_e, vPutI_e, vPutZ_e, vPutL_e, vPutR_e, vIald_e, vIald_s, vLald_e, vBald_e, vBald_s, vAald_e, vIast_e, vLast_e, vBast_e, vAast_e, vAlen_e8, vAlen_e9, vAlen_e10, vAlen_e11, vAlen_e5, vAlen_e3, vGets_e, vCompact_e, vLdcS_e, vIret_e, vZret_e, vCret_e, vBret_e, vLret_e, vVret_e, vAret_e, vCallM_e0, vCallMV_e0, vCallS_e0, vCallSV_e0, vCallM_e1, vCallMV_e1, vCallS_e1, vCallSV_e1, vCallM_e2, vCallMV_e2, vCallS_e2, vCallSV_e2, vCallM_e3, vCallMV_e3, vCallS_e3, vCallSV_e3, vCallM_e4, vCallMV_e4, vCallS_e4, vCallSV_e4, vCallM_e5, vCallMV_e5, vCallS_e5, vCallSV_e5, vCallM_e6, vCallMV_e6, vCallS_e6, vCallSV_e6, vCallM_e7, vCallMV_e7, vCallS_e7, vCallSV_e7, vBad_e, vStrVal_e, vStrCod_e, vForm_e, vCallT_e0, vCallT_e1, vCallT_e2, vCopy_e, rf_0_0, rf_0_1, rf_0_2, rf_0_3, rf_0_4, rf_0_7, rf_0_10, rf_0_11, rf_0_12, rf_0_13, rf_0_14, rf_0_15, rf_0_16, rf_1_0, rf_3_0, rf_3_1, rf_6_0, rf_6_1, rf_9_0, rf_9_1, rf_9_3, rf_13_0, rf_13_1, rf_13_2, rf_16_0, rf_16_1, rf_16_2, rf_16_3, rf_21_0, rf_21_1, rf_21_2, rf_21_3, rf_26_0, rf_26_1, rf_26_2, rf_26_3, rf_26_4, rf_26_5, rf_26_6, rf_31_0, rf_31_2, rf_31_5, rf_31_6, rf_36_0, rf_36_1, rf_36_2, rf_36_3, rf_39_0, rf_39_1, rf_39_2, rf_41_0, rf_41_1, rf_41_2, rf_41_3, rf_5000_1, rf_5000_2, rf_5000_3, rf_5000_4, rf_5000_5, rf_5000_15, rf_5000_16, rf_5000_18, rf_5000_19, rf_5000_20, rf_5000_21, rf_5000_22, rf_5000_23, rf_5000_24, rf_5000_25, rf_5000_26, rf_5000_27, rf_5000_36, rf_5000_37, rf_5000_40, rf_5000_41, rf_5000_42, rf_5000_43, rf_5000_44, rf_5000_45, rf_5000_47, rf_5000_52, rf_5000_54, rf_5000_55, rf_100_0, rf_100_1, rf_103_0, rf_103_1, rf_106_0, rf_106_1, rf_109_0, rf_109_1, al_2, al_4, al_5, al_7, al_8, al_10, al_11, al_12, al_14, al_15, al_17, al_18, al_19, al_20, al_22, al_23, al_24, al_25, al_27, al_28, al_29, al_30, al_32, al_33, al_34, al_35, al_37, al_38, al_40, al_42, al_5001, al_5002, al_5003, al_5004, al_5005, al_5006, al_5007, al_5008, al_5009, al_5010, al_5011, al_5012, al_5013, al_5014, al_5015, al_5016, al_5017, al_5018, al_5019, al_5020, al_5021, al_5022, al_5023, al_5024, al_5025, al_5026, al_9000, al_101, al_102, al_104, al_105, al_107, al_108, al_110, al_111, vcs_e, lg_c0, lg_cs, lg_nil, set_c0, set_cs, okst_0, okst_s, acok_n, acok_c, List.contains_nil, List.contains_cons, Bool.or_false, Bool.false_or, Bool.false_eq_true, if_false, if_true, ite_self, ne_eq, true_and, and_true, not_false_eq_true, not_true_eq_false, false_imp_iff, true_imp_iff, Nat.ble_eq, Bool.and_eq_true, reduceCtorEq, or_false, false_or, or_true, true_or, false_and, and_false, and_self, Int.reduceLE, Int.reduceAdd, Int.reduceSub, Int.reduceMul, Int.reduceNeg, Int.reduceLT, Int.reduceEq, Int.reduceNe, Nat.reduceBEq, Nat.reduceBNe, Nat.reduceEqDiff, amCmp_in, amCmp_lt, amCmp_le, amCmp_gt, amCmp_ge, amCmp_eq, amCmp_ne, Nat.reduceLeDiff, Nat.reduceSub, Bool.and_true, Bool.true_and, Bool.and_self, Bool.or_true, Bool.true_or, isRf_3, isRf_4, isRf_5, isRf_8, isRf_9, isRf_10, isRf_11, isRf_15, isRf_16, isRf_17, isRf_18, isRf_19, isRf_20, isRf_21, isRf_22, isRf_23, isRf_24, isRf_25, isRf_26, isRf_27, isRf_28, k_X12_step_0, k_X12_step_1, k_X12_step_2, k_X12_step_5, k_X12_step_6, k_X12_step_7, k_X12_step_10, k_X12_step_13, k_X12_step_14, k_X12_step_15, k_X12_step_16, k_X12_step_17, k_X12_step_20, k_X12_step_21, k_X12_step_22, k_X12_step_23, k_X12_step_24, k_X12_step_25, k_X12_step_28, k_X12_step_31, k_X12_step_32, k_X12_step_33, k_X12_step_34, k_X12_step_37, k_X12_step_40, k_X12_step_43, k_X12_step_44, k_X12_step_47, k_X12_step_48, k_X12_step_50, k_X12_step_51, k_X12_step_52, k_X12_step_53, k_X12_step_54, k_X12_step_55, k_X12_step_56, k_X12_step_57, k_X12_step_58, k_X12_step_61, k_X12_step_64, w_X12_isIn_e, w_X12_isSeason_e, up_s, up_nj, up_na, up_up, savR_o, cpy_o, fillm_o, setAud_o, setv_o, setv_s, Int.reduceNe, Int.reduceEq, Int.reduceLT, Int.reduceAdd, not_false_eq_true, ne_eq, or_true, true_or, t13, t14, e34]
  by_cases d : 0 ≤ k ∧ k < σ 5000 34
  · have hsk := hs k d.1 d.2
    rw [if_pos d]
    by_cases f : 0 ≤ i ∧ i ≤ σ 5014 k - 1
    · rw [if_pos f]
      by_cases g : 0 ≤ w ∧ w ≤ 2
      · rw [if_pos g]
        repeat' (first | assumption | apply And.intro | intro _)
        all_goals first | omega | exact absurd trivial (by assumption) | exact h2 ⟨by omega, by omega, by omega, by omega, by omega, by omega⟩
      · rw [if_neg g]
        repeat' (first | assumption | apply And.intro | intro _)
        all_goals first | omega | exact absurd trivial (by assumption) | exact h1 (by omega)
    · rw [if_neg f]
      repeat' (first | assumption | apply And.intro | intro _)
      all_goals first | omega | exact absurd trivial (by assumption) | exact h1 (by omega)
  · rw [if_neg d]
    repeat' (first | assumption | apply And.intro | intro _)
    all_goals first | omega | exact absurd trivial (by assumption) | exact h1 (by omega)
def a_X12_sitter : AC := [(0, vAload 0 1), (1, vI 0 2), (2, vPutI 28 0 5), (5, vAload 0 6), (6, vIload 1 7), (7, vCallM w_X12_isSitter 28 1 10), (10, vIfEq 23 13), (13, vIload 2 14), (14, vI2l 15), (15, vL 0 16), (16, vL 1 17), (17, vCallS w_X12_isIn 3 20), (20, vIfNe 25 23), (23, vI (-1) 24), (24, vIret), (25, vIload 2 26), (26, vIfNe 38 29), (29, vAload 0 30), (30, vGetR TT 28 24 8 33), (33, vIload 1 34), (34, vIald TT 35), (35, vGoto 49), (38, vAload 0 39), (39, vGetR TT 28 36 8 42), (42, vI 24 44), (44, vIald TT 45), (45, vIload 1 46), (46, vIshr 47), (47, vI 1 48), (48, vIand 49), (49, vIret)]
theorem k_X12_sitter_0 : look a_X12_sitter 0 = vAload 0 1 := rfl
theorem k_X12_sitter_1 : look a_X12_sitter 1 = vI 0 2 := rfl
theorem k_X12_sitter_2 : look a_X12_sitter 2 = vPutI 28 0 5 := rfl
theorem k_X12_sitter_5 : look a_X12_sitter 5 = vAload 0 6 := rfl
theorem k_X12_sitter_6 : look a_X12_sitter 6 = vIload 1 7 := rfl
theorem k_X12_sitter_7 : look a_X12_sitter 7 = vCallM w_X12_isSitter 28 1 10 := rfl
theorem k_X12_sitter_10 : look a_X12_sitter 10 = vIfEq 23 13 := rfl
theorem k_X12_sitter_13 : look a_X12_sitter 13 = vIload 2 14 := rfl
theorem k_X12_sitter_14 : look a_X12_sitter 14 = vI2l 15 := rfl
theorem k_X12_sitter_15 : look a_X12_sitter 15 = vL 0 16 := rfl
theorem k_X12_sitter_16 : look a_X12_sitter 16 = vL 1 17 := rfl
theorem k_X12_sitter_17 : look a_X12_sitter 17 = vCallS w_X12_isIn 3 20 := rfl
theorem k_X12_sitter_20 : look a_X12_sitter 20 = vIfNe 25 23 := rfl
theorem k_X12_sitter_23 : look a_X12_sitter 23 = vI (-1) 24 := rfl
theorem k_X12_sitter_24 : look a_X12_sitter 24 = vIret := rfl
theorem k_X12_sitter_25 : look a_X12_sitter 25 = vIload 2 26 := rfl
theorem k_X12_sitter_26 : look a_X12_sitter 26 = vIfNe 38 29 := rfl
theorem k_X12_sitter_29 : look a_X12_sitter 29 = vAload 0 30 := rfl
theorem k_X12_sitter_30 : look a_X12_sitter 30 = vGetR TT 28 24 8 33 := rfl
theorem k_X12_sitter_33 : look a_X12_sitter 33 = vIload 1 34 := rfl
theorem k_X12_sitter_34 : look a_X12_sitter 34 = vIald TT 35 := rfl
theorem k_X12_sitter_35 : look a_X12_sitter 35 = vGoto 49 := rfl
theorem k_X12_sitter_38 : look a_X12_sitter 38 = vAload 0 39 := rfl
theorem k_X12_sitter_39 : look a_X12_sitter 39 = vGetR TT 28 36 8 42 := rfl
theorem k_X12_sitter_42 : look a_X12_sitter 42 = vI 24 44 := rfl
theorem k_X12_sitter_44 : look a_X12_sitter 44 = vIald TT 45 := rfl
theorem k_X12_sitter_45 : look a_X12_sitter 45 = vIload 1 46 := rfl
theorem k_X12_sitter_46 : look a_X12_sitter 46 = vIshr 47 := rfl
theorem k_X12_sitter_47 : look a_X12_sitter 47 = vI 1 48 := rfl
theorem k_X12_sitter_48 : look a_X12_sitter 48 = vIand 49 := rfl
theorem k_X12_sitter_49 : look a_X12_sitter 49 = vIret := rfl
theorem o_X12_sitter {X : amX} (e1 : XT X = TT) (e2 : XD X = 1) (hB : amB X RX12 cX12_sitter (some .int) 3) : ∀ pc, amOK X pc (look a_X12_sitter pc) := by
  have hT : amTok (XT X) := e1 ▸ TT_ok
  refine look_ok ?_
  unfold a_X12_sitter
  refine fc (ok_aload_n hB dX12_sitter_0) ?_
  refine fc (ok_iconst hB dX12_sitter_1) ?_
  refine fc (ok_putI hB hT fp_X12_111 rfl rfl rfl af_12_0 dX12_sitter_2) ?_
  refine fc (ok_aload_n hB dX12_sitter_5) ?_
  refine fc (ok_iload_n hB dX12_sitter_6) ?_
  refine fc (ok_callM hB hT (e1 ▸ s_X12_isSitter) lk_X12_374 (by rw [e2]; decide) (c := 12) rfl rfl rfl wd_1669 sl_X12_isSitter dX12_sitter_7) ?_
  refine fc (ok_if_eq hB (t := 23) (by decide) dX12_sitter_10) ?_
  refine fc (ok_iload_n hB dX12_sitter_13) ?_
  refine fc (ok_i2l hB dX12_sitter_14) ?_
  refine fc (ok_lconst hB (z := 0) (by decide) dX12_sitter_15) ?_
  refine fc (ok_lconst hB (z := 1) (by decide) dX12_sitter_16) ?_
  refine fc (ok_callS hB (e1 ▸ s_X12_isIn) lk_X12_232 (by rw [e2]; decide) wd_1502 dX12_sitter_17) ?_
  refine fc (ok_if_ne hB (t := 25) (by decide) dX12_sitter_20) ?_
  refine fc (ok_iconst hB dX12_sitter_23) ?_
  refine fc (ok_iret hB dX12_sitter_24) ?_
  refine fc (ok_iload_n hB dX12_sitter_25) ?_
  refine fc (ok_if_ne hB (t := 38) (by decide) dX12_sitter_26) ?_
  refine fc (ok_aload_n hB dX12_sitter_29) ?_
  refine fc (okt_getR e1 hB hT fl_X12_55 rfl af_12_24 at_12_24 (by decide) dX12_sitter_30) ?_
  refine fc (ok_iload_n hB dX12_sitter_33) ?_
  refine fc (okt_iaload e1 hB dX12_sitter_34) ?_
  refine fc (ok_goto hB (t := 49) (by decide) dX12_sitter_35) ?_
  refine fc (ok_aload_n hB dX12_sitter_38) ?_
  refine fc (okt_getR e1 hB hT fl_X12_67 rfl af_12_36 at_12_36 (by decide) dX12_sitter_39) ?_
  refine fc (ok_bipush hB dX12_sitter_42 (by decide)) ?_
  refine fc (okt_iaload e1 hB dX12_sitter_44) ?_
  refine fc (ok_iload_n hB dX12_sitter_45) ?_
  refine fc (ok_ishr hB dX12_sitter_46) ?_
  refine fc (ok_iconst hB dX12_sitter_47) ?_
  refine fc (ok_iand hB dX12_sitter_48) ?_
  refine fc (ok_iret hB dX12_sitter_49) ?_
  exact fn

def w_X12_sitter : WP := fun av σ Q => ∃ (t : Int) (w : Int), av = [(28, 5000), (0, t), (0, w)] ∧ (InR t ∧ InR w ∧ 0 ≤ σ 5000 30 ∧ σ 5000 30 ≤ 6 ∧ InR (σ 5015 24) ∧ (¬ (0 ≤ t ∧ t < σ 5000 30 ∧ 0 ≤ w ∧ w ≤ 1) → Q (0, -1) (th0 σ)) ∧ (0 ≤ t ∧ t < σ 5000 30 ∧ w = 0 → Q (0, σ 5011 t) (th0 σ)) ∧ (0 ≤ t ∧ t < σ 5000 30 ∧ w = 1 → Q (0, bt (σ 5015 24) t) (th0 σ)))
theorem w_X12_sitter_e (t : Int) (w : Int) (σ : Mem) (Q : AV → Mem → Prop) : w_X12_sitter [(28, 5000), (0, t), (0, w)] σ Q = (InR t ∧ InR w ∧ 0 ≤ σ 5000 30 ∧ σ 5000 30 ≤ 6 ∧ InR (σ 5015 24) ∧ (¬ (0 ≤ t ∧ t < σ 5000 30 ∧ 0 ≤ w ∧ w ≤ 1) → Q (0, -1) (th0 σ)) ∧ (0 ≤ t ∧ t < σ 5000 30 ∧ w = 0 → Q (0, σ 5011 t) (th0 σ)) ∧ (0 ≤ t ∧ t < σ 5000 30 ∧ w = 1 → Q (0, bt (σ 5015 24) t) (th0 σ))) := by
  apply propext; constructor
  · rintro ⟨t', w', h9, hb9⟩; cases h9; exact hb9
  · intro hb9; exact ⟨t, w, rfl, hb9⟩

set_option maxRecDepth 100000 in
set_option maxHeartbeats 4000000 in
theorem s_X12_sitter : ∀ av σ Q, w_X12_sitter av σ Q → amCall 1 0 0 TT yX12_sitter cX12_sitter 3 (some .int) av σ Q := by
  rintro av σ Q ⟨t, w, rfl, ht, hw, s0, s1, hi, h1, h2, h3⟩
  have t15 : th0 σ 5015 = σ 5015 := th_o σ (by decide)
  have t11 : th0 σ 5011 = σ 5011 := th_o σ (by decide)
  have e30 : th0 σ 5000 30 = σ 5000 30 := th_k σ (by decide)
  by_cases d : 0 ≤ t ∧ t < σ 5000 30
  · have be := bt_e hi d.1 (by omega)
    refine am_m0 (own := RX12) (A := look a_X12_sitter) (fun X e1 e2 hB => o_X12_sitter e1 e2 hB) rfl (by decide +kernel) rfl rfl 190 (w := 3) ?_
    change vcs _ _ _ _ 190 0 [(28, 5000), (0, t), (0, w)] [] σ
    simp only [↓reduceIte, inR_0, inR_1, inR_m, vSw2_e, swP_n, swP_c, vI_e, vL_e, vNull_e, vIload_e, vLload_e, vAload_e, vIstore_e, vLstore_e, vAstore_e, vIinc_e, vIadd_e, vIsub_e, vImul_e, vIand_e, vIor_e, vIxor_e, vIshl_e, vIshr_e, vIushr_e, vIdiv_e, vIrem_e, vLadd_e, vLsub_e, vLmul_e, vLand_e, vLor_e, vLxor_e, vLdiv_e, vLrem_e, vLushr_e, vLshl_e, vLcmp_e, vIneg_e, vI2l_e, vL2i_e, vI2b_e, vI2c_e, vDup_e, vPop_e, vDup2_e, vGoto_e, vIcEq_e, vIfEq_e, vIcNe_e, vIfNe_e, vIcLt_e, vIfLt_e, vIcGe_e, vIfGe_e, vIcGt_e, vIfGt_e, vIcLe_e, vIfLe_e, vNonnull_e, vSw_e, vGetI_e, vGetL_e, vGetR_e, vPutI_e, vPutZ_e, vPutL_e, vPutR_e, vIald_e, vIald_s, vLald_e, vBald_e, vBald_s, vAald_e, vIast_e, vLast_e, vBast_e, vAast_e, vAlen_e8, vAlen_e9, vAlen_e10, vAlen_e11, vAlen_e5, vAlen_e3, vGets_e, vCompact_e, vLdcS_e, vIret_e, vZret_e, vCret_e, vBret_e, vLret_e, vVret_e, vAret_e, vCallM_e0, vCallMV_e0, vCallS_e0, vCallSV_e0, vCallM_e1, vCallMV_e1, vCallS_e1, vCallSV_e1, vCallM_e2, vCallMV_e2, vCallS_e2, vCallSV_e2, vCallM_e3, vCallMV_e3, vCallS_e3, vCallSV_e3, vCallM_e4, vCallMV_e4, vCallS_e4, vCallSV_e4, vCallM_e5, vCallMV_e5, vCallS_e5, vCallSV_e5, vCallM_e6, vCallMV_e6, vCallS_e6, vCallSV_e6, vCallM_e7, vCallMV_e7, vCallS_e7, vCallSV_e7, vBad_e, vStrVal_e, vStrCod_e, vForm_e, vCallT_e0, vCallT_e1, vCallT_e2, vCopy_e, rf_0_0, rf_0_1, rf_0_2, rf_0_3, rf_0_4, rf_0_7, rf_0_10, rf_0_11, rf_0_12, rf_0_13, rf_0_14, rf_0_15, rf_0_16, rf_1_0, rf_3_0, rf_3_1, rf_6_0, rf_6_1, rf_9_0, rf_9_1, rf_9_3, rf_13_0, rf_13_1, rf_13_2, rf_16_0, rf_16_1, rf_16_2, rf_16_3, rf_21_0, rf_21_1, rf_21_2, rf_21_3, rf_26_0, rf_26_1, rf_26_2, rf_26_3, rf_26_4, rf_26_5, rf_26_6, rf_31_0, rf_31_2, rf_31_5, rf_31_6, rf_36_0, rf_36_1, rf_36_2, rf_36_3, rf_39_0, rf_39_1, rf_39_2, rf_41_0, rf_41_1, rf_41_2, rf_41_3, rf_5000_1, rf_5000_2, rf_5000_3, rf_5000_4, rf_5000_5, rf_5000_15, rf_5000_16, rf_5000_18, rf_5000_19, rf_5000_20, rf_5000_21, rf_5000_22, rf_5000_23, rf_5000_24, rf_5000_25, rf_5000_26, rf_5000_27, rf_5000_36, rf_5000_37, rf_5000_40, rf_5000_41, rf_5000_42, rf_5000_43, rf_5000_44, rf_5000_45, rf_5000_47, rf_5000_52, rf_5000_54, rf_5000_55, rf_100_0, rf_100_1, rf_103_0, rf_103_1, rf_106_0, rf_106_1, rf_109_0, rf_109_1, al_2, al_4, al_5, al_7, al_8, al_10, al_11, al_12, al_14, al_15, al_17, al_18, al_19, al_20, al_22, al_23, al_24, al_25, al_27, al_28, al_29, al_30, al_32, al_33, al_34, al_35, al_37, al_38, al_40, al_42, al_5001, al_5002, al_5003, al_5004, al_5005, al_5006, al_5007, al_5008, al_5009, al_5010, al_5011, al_5012, al_5013, al_5014, al_5015, al_5016, al_5017, al_5018, al_5019, al_5020, al_5021, al_5022, al_5023, al_5024, al_5025, al_5026, al_9000, al_101, al_102, al_104, al_105, al_107, al_108, al_110, al_111, vcs_e, lg_c0, lg_cs, lg_nil, set_c0, set_cs, okst_0, okst_s, acok_n, acok_c, List.contains_nil, List.contains_cons, Bool.or_false, Bool.false_or, Bool.false_eq_true, if_false, if_true, ite_self, ne_eq, true_and, and_true, not_false_eq_true, not_true_eq_false, false_imp_iff, true_imp_iff, Nat.ble_eq, Bool.and_eq_true, reduceCtorEq, or_false, false_or, or_true, true_or, false_and, and_false, and_self, Int.reduceLE, Int.reduceAdd, Int.reduceSub, Int.reduceMul, Int.reduceNeg, Int.reduceLT, Int.reduceEq, Int.reduceNe, Nat.reduceBEq, Nat.reduceBNe, Nat.reduceEqDiff, amCmp_in, amCmp_lt, amCmp_le, amCmp_gt, amCmp_ge, amCmp_eq, amCmp_ne, Nat.reduceLeDiff, Nat.reduceSub, Bool.and_true, Bool.true_and, Bool.and_self, Bool.or_true, Bool.true_or, isRf_3, isRf_4, isRf_5, isRf_8, isRf_9, isRf_10, isRf_11, isRf_15, isRf_16, isRf_17, isRf_18, isRf_19, isRf_20, isRf_21, isRf_22, isRf_23, isRf_24, isRf_25, isRf_26, isRf_27, isRf_28, k_X12_sitter_0, k_X12_sitter_1, k_X12_sitter_2, k_X12_sitter_5, k_X12_sitter_6, k_X12_sitter_7, k_X12_sitter_10, k_X12_sitter_13, k_X12_sitter_14, k_X12_sitter_15, k_X12_sitter_16, k_X12_sitter_17, k_X12_sitter_20, k_X12_sitter_23, k_X12_sitter_24, k_X12_sitter_25, k_X12_sitter_26, k_X12_sitter_29, k_X12_sitter_30, k_X12_sitter_33, k_X12_sitter_34, k_X12_sitter_35, k_X12_sitter_38, k_X12_sitter_39, k_X12_sitter_42, k_X12_sitter_44, k_X12_sitter_45, k_X12_sitter_46, k_X12_sitter_47, k_X12_sitter_48, k_X12_sitter_49, w_X12_isIn_e, w_X12_isSitter_e, up_s, up_nj, up_na, up_up, savR_o, cpy_o, fillm_o, setAud_o, setv_o, setv_s, Int.reduceNe, Int.reduceEq, Int.reduceLT, Int.reduceAdd, not_false_eq_true, ne_eq, or_true, true_or, t15, t11, e30, be, if_pos d]
    by_cases g : 0 ≤ w ∧ w ≤ 1
    · rw [if_pos g]
      repeat' (first | assumption | apply And.intro | intro _)
      all_goals first | omega | exact absurd trivial (by assumption) | exact h2 ⟨by omega, by omega, by omega⟩ | exact h3 ⟨by omega, by omega, by omega⟩
    · rw [if_neg g]
      repeat' (first | assumption | apply And.intro | intro _)
      all_goals first | omega | exact absurd trivial (by assumption) | exact h1 (by omega)
  · have d' := d
    refine am_m0 (own := RX12) (A := look a_X12_sitter) (fun X e1 e2 hB => o_X12_sitter e1 e2 hB) rfl (by decide +kernel) rfl rfl 190 (w := 3) ?_
    change vcs _ _ _ _ 190 0 [(28, 5000), (0, t), (0, w)] [] σ
    simp only [↓reduceIte, inR_0, inR_1, inR_m, vSw2_e, swP_n, swP_c, vI_e, vL_e, vNull_e, vIload_e, vLload_e, vAload_e, vIstore_e, vLstore_e, vAstore_e, vIinc_e, vIadd_e, vIsub_e, vImul_e, vIand_e, vIor_e, vIxor_e, vIshl_e, vIshr_e, vIushr_e, vIdiv_e, vIrem_e, vLadd_e, vLsub_e, vLmul_e, vLand_e, vLor_e, vLxor_e, vLdiv_e, vLrem_e, vLushr_e, vLshl_e, vLcmp_e, vIneg_e, vI2l_e, vL2i_e, vI2b_e, vI2c_e, vDup_e, vPop_e, vDup2_e, vGoto_e, vIcEq_e, vIfEq_e, vIcNe_e, vIfNe_e, vIcLt_e, vIfLt_e, vIcGe_e, vIfGe_e, vIcGt_e, vIfGt_e, vIcLe_e, vIfLe_e, vNonnull_e, vSw_e, vGetI_e, vGetL_e, vGetR_e, vPutI_e, vPutZ_e, vPutL_e, vPutR_e, vIald_e, vIald_s, vLald_e, vBald_e, vBald_s, vAald_e, vIast_e, vLast_e, vBast_e, vAast_e, vAlen_e8, vAlen_e9, vAlen_e10, vAlen_e11, vAlen_e5, vAlen_e3, vGets_e, vCompact_e, vLdcS_e, vIret_e, vZret_e, vCret_e, vBret_e, vLret_e, vVret_e, vAret_e, vCallM_e0, vCallMV_e0, vCallS_e0, vCallSV_e0, vCallM_e1, vCallMV_e1, vCallS_e1, vCallSV_e1, vCallM_e2, vCallMV_e2, vCallS_e2, vCallSV_e2, vCallM_e3, vCallMV_e3, vCallS_e3, vCallSV_e3, vCallM_e4, vCallMV_e4, vCallS_e4, vCallSV_e4, vCallM_e5, vCallMV_e5, vCallS_e5, vCallSV_e5, vCallM_e6, vCallMV_e6, vCallS_e6, vCallSV_e6, vCallM_e7, vCallMV_e7, vCallS_e7, vCallSV_e7, vBad_e, vStrVal_e, vStrCod_e, vForm_e, vCallT_e0, vCallT_e1, vCallT_e2, vCopy_e, rf_0_0, rf_0_1, rf_0_2, rf_0_3, rf_0_4, rf_0_7, rf_0_10, rf_0_11, rf_0_12, rf_0_13, rf_0_14, rf_0_15, rf_0_16, rf_1_0, rf_3_0, rf_3_1, rf_6_0, rf_6_1, rf_9_0, rf_9_1, rf_9_3, rf_13_0, rf_13_1, rf_13_2, rf_16_0, rf_16_1, rf_16_2, rf_16_3, rf_21_0, rf_21_1, rf_21_2, rf_21_3, rf_26_0, rf_26_1, rf_26_2, rf_26_3, rf_26_4, rf_26_5, rf_26_6, rf_31_0, rf_31_2, rf_31_5, rf_31_6, rf_36_0, rf_36_1, rf_36_2, rf_36_3, rf_39_0, rf_39_1, rf_39_2, rf_41_0, rf_41_1, rf_41_2, rf_41_3, rf_5000_1, rf_5000_2, rf_5000_3, rf_5000_4, rf_5000_5, rf_5000_15, rf_5000_16, rf_5000_18, rf_5000_19, rf_5000_20, rf_5000_21, rf_5000_22, rf_5000_23, rf_5000_24, rf_5000_25, rf_5000_26, rf_5000_27, rf_5000_36, rf_5000_37, rf_5000_40, rf_5000_41, rf_5000_42, rf_5000_43, rf_5000_44, rf_5000_45, rf_5000_47, rf_5000_52, rf_5000_54, rf_5000_55, rf_100_0, rf_100_1, rf_103_0, rf_103_1, rf_106_0, rf_106_1, rf_109_0, rf_109_1, al_2, al_4, al_5, al_7, al_8, al_10, al_11, al_12, al_14, al_15, al_17, al_18, al_19, al_20, al_22, al_23, al_24, al_25, al_27, al_28, al_29, al_30, al_32, al_33, al_34, al_35, al_37, al_38, al_40, al_42, al_5001, al_5002, al_5003, al_5004, al_5005, al_5006, al_5007, al_5008, al_5009, al_5010, al_5011, al_5012, al_5013, al_5014, al_5015, al_5016, al_5017, al_5018, al_5019, al_5020, al_5021, al_5022, al_5023, al_5024, al_5025, al_5026, al_9000, al_101, al_102, al_104, al_105, al_107, al_108, al_110, al_111, vcs_e, lg_c0, lg_cs, lg_nil, set_c0, set_cs, okst_0, okst_s, acok_n, acok_c, List.contains_nil, List.contains_cons, Bool.or_false, Bool.false_or, Bool.false_eq_true, if_false, if_true, ite_self, ne_eq, true_and, and_true, not_false_eq_true, not_true_eq_false, false_imp_iff, true_imp_iff, Nat.ble_eq, Bool.and_eq_true, reduceCtorEq, or_false, false_or, or_true, true_or, false_and, and_false, and_self, Int.reduceLE, Int.reduceAdd, Int.reduceSub, Int.reduceMul, Int.reduceNeg, Int.reduceLT, Int.reduceEq, Int.reduceNe, Nat.reduceBEq, Nat.reduceBNe, Nat.reduceEqDiff, amCmp_in, amCmp_lt, amCmp_le, amCmp_gt, amCmp_ge, amCmp_eq, amCmp_ne, Nat.reduceLeDiff, Nat.reduceSub, Bool.and_true, Bool.true_and, Bool.and_self, Bool.or_true, Bool.true_or, isRf_3, isRf_4, isRf_5, isRf_8, isRf_9, isRf_10, isRf_11, isRf_15, isRf_16, isRf_17, isRf_18, isRf_19, isRf_20, isRf_21, isRf_22, isRf_23, isRf_24, isRf_25, isRf_26, isRf_27, isRf_28, k_X12_sitter_0, k_X12_sitter_1, k_X12_sitter_2, k_X12_sitter_5, k_X12_sitter_6, k_X12_sitter_7, k_X12_sitter_10, k_X12_sitter_13, k_X12_sitter_14, k_X12_sitter_15, k_X12_sitter_16, k_X12_sitter_17, k_X12_sitter_20, k_X12_sitter_23, k_X12_sitter_24, k_X12_sitter_25, k_X12_sitter_26, k_X12_sitter_29, k_X12_sitter_30, k_X12_sitter_33, k_X12_sitter_34, k_X12_sitter_35, k_X12_sitter_38, k_X12_sitter_39, k_X12_sitter_42, k_X12_sitter_44, k_X12_sitter_45, k_X12_sitter_46, k_X12_sitter_47, k_X12_sitter_48, k_X12_sitter_49, w_X12_isIn_e, w_X12_isSitter_e, up_s, up_nj, up_na, up_up, savR_o, cpy_o, fillm_o, setAud_o, setv_o, setv_s, Int.reduceNe, Int.reduceEq, Int.reduceLT, Int.reduceAdd, not_false_eq_true, ne_eq, or_true, true_or, t15, t11, e30, if_neg d]
    repeat' (first | assumption | apply And.intro | intro _)
    all_goals first | omega | exact absurd trivial (by assumption) | exact h1 (by omega)
def a_X12_chair : AC := [(0, vAload 0 1), (1, vAload 0 2), (2, vIload 1 3), (3, vCallM w_X12_isChair 28 1 6), (6, vIfEq 25 9), (9, vIload 2 10), (10, vI2l 11), (11, vL 0 12), (12, vL 3 15), (15, vCallS w_X12_isIn 3 18), (18, vIfEq 25 21), (21, vI 0 22), (22, vGoto 26), (25, vI 1 26), (26, vPutI 28 0 29), (29, vAload 0 30), (30, vGetI 28 0 33), (33, vIfLe 40 36), (36, vI 0 37), (37, vGoto 50), (40, vAload 0 41), (41, vGetR TT 28 36 8 44), (44, vI 4 45), (45, vIload 1 46), (46, vImul 47), (47, vIload 2 48), (48, vIadd 49), (49, vIald TT 50), (50, vIret)]
theorem k_X12_chair_0 : look a_X12_chair 0 = vAload 0 1 := rfl
theorem k_X12_chair_1 : look a_X12_chair 1 = vAload 0 2 := rfl
theorem k_X12_chair_2 : look a_X12_chair 2 = vIload 1 3 := rfl
theorem k_X12_chair_3 : look a_X12_chair 3 = vCallM w_X12_isChair 28 1 6 := rfl
theorem k_X12_chair_6 : look a_X12_chair 6 = vIfEq 25 9 := rfl
theorem k_X12_chair_9 : look a_X12_chair 9 = vIload 2 10 := rfl
theorem k_X12_chair_10 : look a_X12_chair 10 = vI2l 11 := rfl
theorem k_X12_chair_11 : look a_X12_chair 11 = vL 0 12 := rfl
theorem k_X12_chair_12 : look a_X12_chair 12 = vL 3 15 := rfl
theorem k_X12_chair_15 : look a_X12_chair 15 = vCallS w_X12_isIn 3 18 := rfl
theorem k_X12_chair_18 : look a_X12_chair 18 = vIfEq 25 21 := rfl
theorem k_X12_chair_21 : look a_X12_chair 21 = vI 0 22 := rfl
theorem k_X12_chair_22 : look a_X12_chair 22 = vGoto 26 := rfl
theorem k_X12_chair_25 : look a_X12_chair 25 = vI 1 26 := rfl
theorem k_X12_chair_26 : look a_X12_chair 26 = vPutI 28 0 29 := rfl
theorem k_X12_chair_29 : look a_X12_chair 29 = vAload 0 30 := rfl
theorem k_X12_chair_30 : look a_X12_chair 30 = vGetI 28 0 33 := rfl
theorem k_X12_chair_33 : look a_X12_chair 33 = vIfLe 40 36 := rfl
theorem k_X12_chair_36 : look a_X12_chair 36 = vI 0 37 := rfl
theorem k_X12_chair_37 : look a_X12_chair 37 = vGoto 50 := rfl
theorem k_X12_chair_40 : look a_X12_chair 40 = vAload 0 41 := rfl
theorem k_X12_chair_41 : look a_X12_chair 41 = vGetR TT 28 36 8 44 := rfl
theorem k_X12_chair_44 : look a_X12_chair 44 = vI 4 45 := rfl
theorem k_X12_chair_45 : look a_X12_chair 45 = vIload 1 46 := rfl
theorem k_X12_chair_46 : look a_X12_chair 46 = vImul 47 := rfl
theorem k_X12_chair_47 : look a_X12_chair 47 = vIload 2 48 := rfl
theorem k_X12_chair_48 : look a_X12_chair 48 = vIadd 49 := rfl
theorem k_X12_chair_49 : look a_X12_chair 49 = vIald TT 50 := rfl
theorem k_X12_chair_50 : look a_X12_chair 50 = vIret := rfl
theorem o_X12_chair {X : amX} (e1 : XT X = TT) (e2 : XD X = 1) (hB : amB X RX12 cX12_chair (some .int) 3) : ∀ pc, amOK X pc (look a_X12_chair pc) := by
  have hT : amTok (XT X) := e1 ▸ TT_ok
  refine look_ok ?_
  unfold a_X12_chair
  refine fc (ok_aload_n hB dX12_chair_0) ?_
  refine fc (ok_aload_n hB dX12_chair_1) ?_
  refine fc (ok_iload_n hB dX12_chair_2) ?_
  refine fc (ok_callM hB hT (e1 ▸ s_X12_isChair) lk_X12_371 (by rw [e2]; decide) (c := 12) rfl rfl rfl wd_1661 sl_X12_isChair dX12_chair_3) ?_
  refine fc (ok_if_eq hB (t := 25) (by decide) dX12_chair_6) ?_
  refine fc (ok_iload_n hB dX12_chair_9) ?_
  refine fc (ok_i2l hB dX12_chair_10) ?_
  refine fc (ok_lconst hB (z := 0) (by decide) dX12_chair_11) ?_
  refine fc (ok_ldc2 hB wd_1654 rfl dX12_chair_12) ?_
  refine fc (ok_callS hB (e1 ▸ s_X12_isIn) lk_X12_232 (by rw [e2]; decide) wd_1502 dX12_chair_15) ?_
  refine fc (ok_if_eq hB (t := 25) (by decide) dX12_chair_18) ?_
  refine fc (ok_iconst hB dX12_chair_21) ?_
  refine fc (ok_goto hB (t := 26) (by decide) dX12_chair_22) ?_
  refine fc (ok_iconst hB dX12_chair_25) ?_
  refine fc (ok_putI hB hT fp_X12_111 rfl rfl rfl af_12_0 dX12_chair_26) ?_
  refine fc (ok_aload_n hB dX12_chair_29) ?_
  refine fc (ok_getI hB hT fl_X12_111 rfl rfl (Or.inl af_12_0) dX12_chair_30) ?_
  refine fc (ok_if_le hB (t := 40) (by decide) dX12_chair_33) ?_
  refine fc (ok_iconst hB dX12_chair_36) ?_
  refine fc (ok_goto hB (t := 50) (by decide) dX12_chair_37) ?_
  refine fc (ok_aload_n hB dX12_chair_40) ?_
  refine fc (okt_getR e1 hB hT fl_X12_67 rfl af_12_36 at_12_36 (by decide) dX12_chair_41) ?_
  refine fc (ok_iconst hB dX12_chair_44) ?_
  refine fc (ok_iload_n hB dX12_chair_45) ?_
  refine fc (ok_imul hB dX12_chair_46) ?_
  refine fc (ok_iload_n hB dX12_chair_47) ?_
  refine fc (ok_iadd hB dX12_chair_48) ?_
  refine fc (okt_iaload e1 hB dX12_chair_49) ?_
  refine fc (ok_iret hB dX12_chair_50) ?_
  exact fn

def w_X12_chair : WP := fun av σ Q => ∃ (c : Int) (w : Int), av = [(28, 5000), (0, c), (0, w)] ∧ (InR c ∧ InR w ∧ 0 ≤ σ 5000 29 ∧ σ 5000 29 ≤ 6 ∧ (¬ (0 ≤ c ∧ c < σ 5000 29 ∧ 0 ≤ w ∧ w ≤ 3) → Q (0, 0) (up σ 5000 0 1)) ∧ (0 ≤ c ∧ c < σ 5000 29 ∧ 0 ≤ w ∧ w ≤ 3 → Q (0, σ 5015 (4 * c + w)) (th0 σ)))
theorem w_X12_chair_e (c : Int) (w : Int) (σ : Mem) (Q : AV → Mem → Prop) : w_X12_chair [(28, 5000), (0, c), (0, w)] σ Q = (InR c ∧ InR w ∧ 0 ≤ σ 5000 29 ∧ σ 5000 29 ≤ 6 ∧ (¬ (0 ≤ c ∧ c < σ 5000 29 ∧ 0 ≤ w ∧ w ≤ 3) → Q (0, 0) (up σ 5000 0 1)) ∧ (0 ≤ c ∧ c < σ 5000 29 ∧ 0 ≤ w ∧ w ≤ 3 → Q (0, σ 5015 (4 * c + w)) (th0 σ))) := by
  apply propext; constructor
  · rintro ⟨c', w', h9, hb9⟩; cases h9; exact hb9
  · intro hb9; exact ⟨c, w, rfl, hb9⟩

set_option maxRecDepth 100000 in
set_option maxHeartbeats 4000000 in
theorem s_X12_chair : ∀ av σ Q, w_X12_chair av σ Q → amCall 1 0 0 TT yX12_chair cX12_chair 3 (some .int) av σ Q := by
  rintro av σ Q ⟨c, w, rfl, hc, hw, s0, s1, h1, h2⟩
  refine am_m0 (own := RX12) (A := look a_X12_chair) (fun X e1 e2 hB => o_X12_chair e1 e2 hB) rfl (by decide +kernel) rfl rfl 190 (w := 3) ?_
  change vcs _ _ _ _ 190 0 [(28, 5000), (0, c), (0, w)] [] σ
  simp only [↓reduceIte, inR_0, inR_1, inR_m, vSw2_e, swP_n, swP_c, vI_e, vL_e, vNull_e, vIload_e, vLload_e, vAload_e, vIstore_e, vLstore_e, vAstore_e, vIinc_e, vIadd_e, vIsub_e, vImul_e, vIand_e, vIor_e, vIxor_e, vIshl_e, vIshr_e, vIushr_e, vIdiv_e, vIrem_e, vLadd_e, vLsub_e, vLmul_e, vLand_e, vLor_e, vLxor_e, vLdiv_e, vLrem_e, vLushr_e, vLshl_e, vLcmp_e, vIneg_e, vI2l_e, vL2i_e, vI2b_e, vI2c_e, vDup_e, vPop_e, vDup2_e, vGoto_e, vIcEq_e, vIfEq_e, vIcNe_e, vIfNe_e, vIcLt_e, vIfLt_e, vIcGe_e, vIfGe_e, vIcGt_e, vIfGt_e, vIcLe_e, vIfLe_e, vNonnull_e, vSw_e, vGetI_e, vGetL_e, vGetR_e, vPutI_e, vPutZ_e, vPutL_e, vPutR_e, vIald_e, vIald_s, vLald_e, vBald_e, vBald_s, vAald_e, vIast_e, vLast_e, vBast_e, vAast_e, vAlen_e8, vAlen_e9, vAlen_e10, vAlen_e11, vAlen_e5, vAlen_e3, vGets_e, vCompact_e, vLdcS_e, vIret_e, vZret_e, vCret_e, vBret_e, vLret_e, vVret_e, vAret_e, vCallM_e0, vCallMV_e0, vCallS_e0, vCallSV_e0, vCallM_e1, vCallMV_e1, vCallS_e1, vCallSV_e1, vCallM_e2, vCallMV_e2, vCallS_e2, vCallSV_e2, vCallM_e3, vCallMV_e3, vCallS_e3, vCallSV_e3, vCallM_e4, vCallMV_e4, vCallS_e4, vCallSV_e4, vCallM_e5, vCallMV_e5, vCallS_e5, vCallSV_e5, vCallM_e6, vCallMV_e6, vCallS_e6, vCallSV_e6, vCallM_e7, vCallMV_e7, vCallS_e7, vCallSV_e7, vBad_e, vStrVal_e, vStrCod_e, vForm_e, vCallT_e0, vCallT_e1, vCallT_e2, vCopy_e, rf_0_0, rf_0_1, rf_0_2, rf_0_3, rf_0_4, rf_0_7, rf_0_10, rf_0_11, rf_0_12, rf_0_13, rf_0_14, rf_0_15, rf_0_16, rf_1_0, rf_3_0, rf_3_1, rf_6_0, rf_6_1, rf_9_0, rf_9_1, rf_9_3, rf_13_0, rf_13_1, rf_13_2, rf_16_0, rf_16_1, rf_16_2, rf_16_3, rf_21_0, rf_21_1, rf_21_2, rf_21_3, rf_26_0, rf_26_1, rf_26_2, rf_26_3, rf_26_4, rf_26_5, rf_26_6, rf_31_0, rf_31_2, rf_31_5, rf_31_6, rf_36_0, rf_36_1, rf_36_2, rf_36_3, rf_39_0, rf_39_1, rf_39_2, rf_41_0, rf_41_1, rf_41_2, rf_41_3, rf_5000_1, rf_5000_2, rf_5000_3, rf_5000_4, rf_5000_5, rf_5000_15, rf_5000_16, rf_5000_18, rf_5000_19, rf_5000_20, rf_5000_21, rf_5000_22, rf_5000_23, rf_5000_24, rf_5000_25, rf_5000_26, rf_5000_27, rf_5000_36, rf_5000_37, rf_5000_40, rf_5000_41, rf_5000_42, rf_5000_43, rf_5000_44, rf_5000_45, rf_5000_47, rf_5000_52, rf_5000_54, rf_5000_55, rf_100_0, rf_100_1, rf_103_0, rf_103_1, rf_106_0, rf_106_1, rf_109_0, rf_109_1, al_2, al_4, al_5, al_7, al_8, al_10, al_11, al_12, al_14, al_15, al_17, al_18, al_19, al_20, al_22, al_23, al_24, al_25, al_27, al_28, al_29, al_30, al_32, al_33, al_34, al_35, al_37, al_38, al_40, al_42, al_5001, al_5002, al_5003, al_5004, al_5005, al_5006, al_5007, al_5008, al_5009, al_5010, al_5011, al_5012, al_5013, al_5014, al_5015, al_5016, al_5017, al_5018, al_5019, al_5020, al_5021, al_5022, al_5023, al_5024, al_5025, al_5026, al_9000, al_101, al_102, al_104, al_105, al_107, al_108, al_110, al_111, vcs_e, lg_c0, lg_cs, lg_nil, set_c0, set_cs, okst_0, okst_s, acok_n, acok_c, List.contains_nil, List.contains_cons, Bool.or_false, Bool.false_or, Bool.false_eq_true, if_false, if_true, ite_self, ne_eq, true_and, and_true, not_false_eq_true, not_true_eq_false, false_imp_iff, true_imp_iff, Nat.ble_eq, Bool.and_eq_true, reduceCtorEq, or_false, false_or, or_true, true_or, false_and, and_false, and_self, Int.reduceLE, Int.reduceAdd, Int.reduceSub, Int.reduceMul, Int.reduceNeg, Int.reduceLT, Int.reduceEq, Int.reduceNe, Nat.reduceBEq, Nat.reduceBNe, Nat.reduceEqDiff, amCmp_in, amCmp_lt, amCmp_le, amCmp_gt, amCmp_ge, amCmp_eq, amCmp_ne, Nat.reduceLeDiff, Nat.reduceSub, Bool.and_true, Bool.true_and, Bool.and_self, Bool.or_true, Bool.true_or, isRf_3, isRf_4, isRf_5, isRf_8, isRf_9, isRf_10, isRf_11, isRf_15, isRf_16, isRf_17, isRf_18, isRf_19, isRf_20, isRf_21, isRf_22, isRf_23, isRf_24, isRf_25, isRf_26, isRf_27, isRf_28, k_X12_chair_0, k_X12_chair_1, k_X12_chair_2, k_X12_chair_3, k_X12_chair_6, k_X12_chair_9, k_X12_chair_10, k_X12_chair_11, k_X12_chair_12, k_X12_chair_15, k_X12_chair_18, k_X12_chair_21, k_X12_chair_22, k_X12_chair_25, k_X12_chair_26, k_X12_chair_29, k_X12_chair_30, k_X12_chair_33, k_X12_chair_36, k_X12_chair_37, k_X12_chair_40, k_X12_chair_41, k_X12_chair_44, k_X12_chair_45, k_X12_chair_46, k_X12_chair_47, k_X12_chair_48, k_X12_chair_49, k_X12_chair_50, w_X12_isChair_e, w_X12_isIn_e, up_s, up_nj, up_na, up_up, savR_o, cpy_o, fillm_o, setAud_o, setv_o, setv_s, Int.reduceNe, Int.reduceEq, Int.reduceLT, Int.reduceAdd, not_false_eq_true, ne_eq, or_true, true_or]
  by_cases d : 0 ≤ c ∧ c < σ 5000 29
  · rw [if_pos d]
    by_cases g : 0 ≤ w ∧ w ≤ 3
    · rw [if_pos g]
      repeat' (first | assumption | apply And.intro | intro _)
      all_goals first | omega | exact absurd trivial (by assumption) | exact h2 ⟨by omega, by omega, by omega, by omega⟩
    · rw [if_neg g]
      repeat' (first | assumption | apply And.intro | intro _)
      all_goals first | omega | exact absurd trivial (by assumption) | exact h1 (by omega)
  · rw [if_neg d]
    repeat' (first | assumption | apply And.intro | intro _)
    all_goals first | omega | exact absurd trivial (by assumption) | exact h1 (by omega)
