/-! Plan: the whole HOUSE -/
/-- of the first n chairs all have a ticket of a sitter that there is -/
def hTick (v : Int → Int) (m : Int) : Nat → Prop
  | 0 => True
  | n + 1 => hTick v m n ∧ v ((5 + n) * 4 + 1) < m
def hWhole (c v : Int → Int) : Prop := c 1 ≠ 0 ∧ c 2 ≠ 0 ∧ c 3 ≠ 0 ∧ hTick v (c 3) (c 2).toNat
theorem hTick_le (v : Int → Int) (m : Int) : ∀ (n k : Nat), k ≤ n → hTick v m n → hTick v m k := by
  intro n
  induction n with
  | zero => intro k hk h; obtain rfl : k = 0 := by omega
            exact h
  | succ n ih =>
    intro k hk h
    by_cases e : k = n + 1
    · subst e; exact h
    · exact ih k (by omega) h.1

def a_X6_isWhole : AC := [(0, vAload 0 1), (1, vI 1 2), (2, vCallM w_X6_many 22 1 5), (5, vIfEq 24 8), (8, vAload 0 9), (9, vI 2 10), (10, vCallM w_X6_many 22 1 13), (13, vIfEq 24 16), (16, vAload 0 17), (17, vI 3 18), (18, vCallM w_X6_many 22 1 21), (21, vIfNe 26 24), (24, vI 0 25), (25, vZret), (26, vI 0 27), (27, vIstore 1 28), (28, vIload 1 29), (29, vAload 0 30), (30, vI 2 31), (31, vCallM w_X6_many 22 1 34), (34, vIcGe 60 37), (37, vAload 0 38), (38, vI 2 39), (39, vIload 1 40), (40, vI 1 41), (41, vCallM w_X6_value 22 3 44), (44, vAload 0 45), (45, vI 3 46), (46, vCallM w_X6_many 22 1 49), (49, vIcLt 54 52), (52, vI 0 53), (53, vZret), (54, vIinc 1 1 57), (57, vGoto 28), (60, vI 1 61), (61, vZret)]
theorem k_X6_isWhole_0 : look a_X6_isWhole 0 = vAload 0 1 := rfl
theorem k_X6_isWhole_1 : look a_X6_isWhole 1 = vI 1 2 := rfl
theorem k_X6_isWhole_2 : look a_X6_isWhole 2 = vCallM w_X6_many 22 1 5 := rfl
theorem k_X6_isWhole_5 : look a_X6_isWhole 5 = vIfEq 24 8 := rfl
theorem k_X6_isWhole_8 : look a_X6_isWhole 8 = vAload 0 9 := rfl
theorem k_X6_isWhole_9 : look a_X6_isWhole 9 = vI 2 10 := rfl
theorem k_X6_isWhole_10 : look a_X6_isWhole 10 = vCallM w_X6_many 22 1 13 := rfl
theorem k_X6_isWhole_13 : look a_X6_isWhole 13 = vIfEq 24 16 := rfl
theorem k_X6_isWhole_16 : look a_X6_isWhole 16 = vAload 0 17 := rfl
theorem k_X6_isWhole_17 : look a_X6_isWhole 17 = vI 3 18 := rfl
theorem k_X6_isWhole_18 : look a_X6_isWhole 18 = vCallM w_X6_many 22 1 21 := rfl
theorem k_X6_isWhole_21 : look a_X6_isWhole 21 = vIfNe 26 24 := rfl
theorem k_X6_isWhole_24 : look a_X6_isWhole 24 = vI 0 25 := rfl
theorem k_X6_isWhole_25 : look a_X6_isWhole 25 = vZret := rfl
theorem k_X6_isWhole_26 : look a_X6_isWhole 26 = vI 0 27 := rfl
theorem k_X6_isWhole_27 : look a_X6_isWhole 27 = vIstore 1 28 := rfl
theorem k_X6_isWhole_28 : look a_X6_isWhole 28 = vIload 1 29 := rfl
theorem k_X6_isWhole_29 : look a_X6_isWhole 29 = vAload 0 30 := rfl
theorem k_X6_isWhole_30 : look a_X6_isWhole 30 = vI 2 31 := rfl
theorem k_X6_isWhole_31 : look a_X6_isWhole 31 = vCallM w_X6_many 22 1 34 := rfl
theorem k_X6_isWhole_34 : look a_X6_isWhole 34 = vIcGe 60 37 := rfl
theorem k_X6_isWhole_37 : look a_X6_isWhole 37 = vAload 0 38 := rfl
theorem k_X6_isWhole_38 : look a_X6_isWhole 38 = vI 2 39 := rfl
theorem k_X6_isWhole_39 : look a_X6_isWhole 39 = vIload 1 40 := rfl
theorem k_X6_isWhole_40 : look a_X6_isWhole 40 = vI 1 41 := rfl
theorem k_X6_isWhole_41 : look a_X6_isWhole 41 = vCallM w_X6_value 22 3 44 := rfl
theorem k_X6_isWhole_44 : look a_X6_isWhole 44 = vAload 0 45 := rfl
theorem k_X6_isWhole_45 : look a_X6_isWhole 45 = vI 3 46 := rfl
theorem k_X6_isWhole_46 : look a_X6_isWhole 46 = vCallM w_X6_many 22 1 49 := rfl
theorem k_X6_isWhole_49 : look a_X6_isWhole 49 = vIcLt 54 52 := rfl
theorem k_X6_isWhole_52 : look a_X6_isWhole 52 = vI 0 53 := rfl
theorem k_X6_isWhole_53 : look a_X6_isWhole 53 = vZret := rfl
theorem k_X6_isWhole_54 : look a_X6_isWhole 54 = vIinc 1 1 57 := rfl
theorem k_X6_isWhole_57 : look a_X6_isWhole 57 = vGoto 28 := rfl
theorem k_X6_isWhole_60 : look a_X6_isWhole 60 = vI 1 61 := rfl
theorem k_X6_isWhole_61 : look a_X6_isWhole 61 = vZret := rfl
theorem o_X6_isWhole {X : amX} (e1 : XT X = TT) (e2 : XD X = 2) (hB : amB X RX6 cX6_isWhole (some .boolean) 2) : ∀ pc, amOK X pc (look a_X6_isWhole pc) := by
  have hT : amTok (XT X) := e1 ▸ TT_ok
  refine look_ok ?_
  unfold a_X6_isWhole
  refine fc (ok_aload_n hB dX6_isWhole_0) ?_
  refine fc (ok_iconst hB dX6_isWhole_1) ?_
  refine fc (ok_callM hB hT (e1 ▸ s_X6_many) lk_X6_75 (by rw [e2]; decide) (c := 6) rfl rfl rfl wd_557 wd_558 dX6_isWhole_2) ?_
  refine fc (ok_if_eq hB (t := 24) (by decide) dX6_isWhole_5) ?_
  refine fc (ok_aload_n hB dX6_isWhole_8) ?_
  refine fc (ok_iconst hB dX6_isWhole_9) ?_
  refine fc (ok_callM hB hT (e1 ▸ s_X6_many) lk_X6_75 (by rw [e2]; decide) (c := 6) rfl rfl rfl wd_557 wd_558 dX6_isWhole_10) ?_
  refine fc (ok_if_eq hB (t := 24) (by decide) dX6_isWhole_13) ?_
  refine fc (ok_aload_n hB dX6_isWhole_16) ?_
  refine fc (ok_iconst hB dX6_isWhole_17) ?_
  refine fc (ok_callM hB hT (e1 ▸ s_X6_many) lk_X6_75 (by rw [e2]; decide) (c := 6) rfl rfl rfl wd_557 wd_558 dX6_isWhole_18) ?_
  refine fc (ok_if_ne hB (t := 26) (by decide) dX6_isWhole_21) ?_
  refine fc (ok_iconst hB dX6_isWhole_24) ?_
  refine fc (ok_zret hB dX6_isWhole_25) ?_
  refine fc (ok_iconst hB dX6_isWhole_26) ?_
  refine fc (ok_istore_n hB (by decide) dX6_isWhole_27) ?_
  refine fc (ok_iload_n hB dX6_isWhole_28) ?_
  refine fc (ok_aload_n hB dX6_isWhole_29) ?_
  refine fc (ok_iconst hB dX6_isWhole_30) ?_
  refine fc (ok_callM hB hT (e1 ▸ s_X6_many) lk_X6_75 (by rw [e2]; decide) (c := 6) rfl rfl rfl wd_557 wd_558 dX6_isWhole_31) ?_
  refine fc (ok_icmp_ge hB (t := 60) (by decide) dX6_isWhole_34) ?_
  refine fc (ok_aload_n hB dX6_isWhole_37) ?_
  refine fc (ok_iconst hB dX6_isWhole_38) ?_
  refine fc (ok_iload_n hB dX6_isWhole_39) ?_
  refine fc (ok_iconst hB dX6_isWhole_40) ?_
  refine fc (ok_callM hB hT (e1 ▸ s_X6_value) lk_X6_108 (by rw [e2]; decide) (c := 6) rfl rfl rfl wd_565 wd_566 dX6_isWhole_41) ?_
  refine fc (ok_aload_n hB dX6_isWhole_44) ?_
  refine fc (ok_iconst hB dX6_isWhole_45) ?_
  refine fc (ok_callM hB hT (e1 ▸ s_X6_many) lk_X6_75 (by rw [e2]; decide) (c := 6) rfl rfl rfl wd_557 wd_558 dX6_isWhole_46) ?_
  refine fc (ok_icmp_lt hB (t := 54) (by decide) dX6_isWhole_49) ?_
  refine fc (ok_iconst hB dX6_isWhole_52) ?_
  refine fc (ok_zret hB dX6_isWhole_53) ?_
  refine fc (ok_iinc hB (by decide) dX6_isWhole_54) ?_
  refine fc (ok_goto hB (t := 28) (by decide) dX6_isWhole_57) ?_
  refine fc (ok_iconst hB dX6_isWhole_60) ?_
  refine fc (ok_zret hB dX6_isWhole_61) ?_
  exact fn
def inv_whole (σ : Mem) (p : Int) (n pc : Nat) (ls st : List AV) (σ' : Mem) : Prop := pc = 28 ∧ st = [] ∧ σ' = σ ∧ ∃ k : Nat, ls = [(22, p), (0, k)] ∧ (k : Int) + n = σ (p + 2) 2 ∧ hTick (σ (p + 1)) (σ (p + 2) 3) k ∧ σ (p + 2) 1 ≠ 0 ∧ σ (p + 2) 2 ≠ 0 ∧ σ (p + 2) 3 ≠ 0
def w_X6_isWhole : WP := fun av σ Q => ∃ (p : Int), av = [(22, p)] ∧ (isP p ∧ planB σ p ∧ (hWhole (σ (p + 2)) (σ (p + 1)) → Q (0, 1) σ) ∧ (¬ hWhole (σ (p + 2)) (σ (p + 1)) → Q (0, 0) σ))
theorem w_X6_isWhole_e (p : Int) (σ : Mem) (Q : AV → Mem → Prop) : w_X6_isWhole [(22, p)] σ Q = (isP p ∧ planB σ p ∧ (hWhole (σ (p + 2)) (σ (p + 1)) → Q (0, 1) σ) ∧ (¬ hWhole (σ (p + 2)) (σ (p + 1)) → Q (0, 0) σ)) := by
  apply propext; constructor
  · rintro ⟨p', h9, hb9⟩; cases h9; exact hb9
  · intro hb9; exact ⟨p, rfl, hb9⟩

set_option maxRecDepth 100000 in
set_option maxHeartbeats 4000000 in
theorem s_X6_isWhole : ∀ av σ Q, w_X6_isWhole av σ Q → amCall 2 0 0 TT yX6_isWhole cX6_isWhole 2 (some .boolean) av σ Q := by
  rintro av σ Q ⟨p, rfl, hp, hB, h1, h2⟩
  have hpb := isP_b hp
  have c1 := hB.1 1 (by decide) (by decide)
  have c2 := hB.1 2 (by decide) (by decide)
  have c3 := hB.1 3 (by decide) (by decide)
  have e1 : pcnt σ p 1 = σ (p + 2) 1 := rfl
  have e2 : pcnt σ p 2 = σ (p + 2) 2 := rfl
  have e3 : pcnt σ p 3 = σ (p + 2) 3 := rfl
  unfold hWhole at h1 h2
  refine am_m [28] (inv_whole σ p) (own := RX6) (A := look a_X6_isWhole) (fun X e1 e2 hB => o_X6_isWhole e1 e2 hB) rfl (by decide +kernel) rfl rfl ?_ ⟨90, ?_⟩ (w := 2)
  · rintro n pc ls st σ' ⟨rfl, rfl, rfl, k, rfl, hk, hh, n1, n2, n3⟩
    refine ⟨90, ?_⟩
    simp only [vI_e, vL_e, vNull_e, vIload_e, vLload_e, vAload_e, vIstore_e, vLstore_e, vAstore_e, vIinc_e, vIadd_e, vIsub_e, vImul_e, vIand_e, vIor_e, vIxor_e, vIshl_e, vIshr_e, vIushr_e, vIdiv_e, vIrem_e, vLadd_e, vLsub_e, vLmul_e, vLand_e, vLor_e, vLxor_e, vLdiv_e, vLrem_e, vLushr_e, vLshl_e, vLcmp_e, vIneg_e, vI2l_e, vL2i_e, vI2b_e, vI2c_e, vDup_e, vPop_e, vDup2_e, vGoto_e, vIcEq_e, vIfEq_e, vIcNe_e, vIfNe_e, vIcLt_e, vIfLt_e, vIcGe_e, vIfGe_e, vIcGt_e, vIfGt_e, vIcLe_e, vIfLe_e, vNonnull_e, vSw_e, vGetI_e, vGetL_e, vGetR_e, vPutI_e, vPutZ_e, vPutL_e, vPutR_e, vIald_e, vIald_s, vLald_e, vBald_e, vBald_s, vAald_e, vIast_e, vLast_e, vBast_e, vAast_e, vAlen_e8, vAlen_e9, vAlen_e10, vAlen_e11, vAlen_e5, vAlen_e3, vGets_e, vCompact_e, vLdcS_e, vIret_e, vZret_e, vCret_e, vBret_e, vLret_e, vVret_e, vAret_e, vCallM_e0, vCallMV_e0, vCallS_e0, vCallSV_e0, vCallM_e1, vCallMV_e1, vCallS_e1, vCallSV_e1, vCallM_e2, vCallMV_e2, vCallS_e2, vCallSV_e2, vCallM_e3, vCallMV_e3, vCallS_e3, vCallSV_e3, vCallM_e4, vCallMV_e4, vCallS_e4, vCallSV_e4, vCallM_e5, vCallMV_e5, vCallS_e5, vCallSV_e5, vCallM_e6, vCallMV_e6, vCallS_e6, vCallSV_e6, vCallM_e7, vCallMV_e7, vCallS_e7, vCallSV_e7, vBad_e, vStrVal_e, vStrCod_e, vForm_e, vCallT_e0, vCallT_e1, vCallT_e2, vCopy_e, rf_0_0, rf_0_1, rf_0_2, rf_0_3, rf_0_4, rf_0_7, rf_0_10, rf_0_11, rf_0_12, rf_0_13, rf_0_14, rf_0_15, rf_0_16, rf_1_0, rf_3_0, rf_3_1, rf_6_0, rf_6_1, rf_9_0, rf_9_1, rf_9_3, rf_13_0, rf_13_1, rf_13_2, rf_16_0, rf_16_1, rf_16_2, rf_16_3, rf_21_0, rf_21_1, rf_21_2, rf_21_3, rf_26_0, rf_26_1, rf_26_2, rf_26_3, rf_26_4, rf_26_5, rf_26_6, rf_31_0, rf_31_2, rf_31_5, rf_31_6, rf_36_0, rf_36_1, rf_36_2, rf_36_3, rf_39_0, rf_39_1, rf_39_2, rf_41_0, rf_41_1, rf_41_2, rf_41_3, rf_5000_1, rf_5000_2, rf_5000_3, rf_5000_4, rf_5000_5, rf_5000_15, rf_5000_16, rf_5000_18, rf_5000_19, rf_5000_20, rf_5000_21, rf_5000_22, rf_5000_23, rf_5000_24, rf_5000_25, rf_5000_26, rf_5000_27, rf_5000_36, rf_5000_37, rf_5000_40, rf_5000_41, rf_5000_42, rf_5000_43, rf_5000_44, rf_5000_45, rf_5000_47, rf_5000_52, rf_5000_54, rf_5000_55, rf_100_0, rf_100_1, rf_103_0, rf_103_1, rf_106_0, rf_106_1, rf_109_0, rf_109_1, al_2, al_4, al_5, al_7, al_8, al_10, al_11, al_12, al_14, al_15, al_17, al_18, al_19, al_20, al_22, al_23, al_24, al_25, al_27, al_28, al_29, al_30, al_32, al_33, al_34, al_35, al_37, al_38, al_40, al_42, al_5001, al_5002, al_5003, al_5004, al_5005, al_5006, al_5007, al_5008, al_5009, al_5010, al_5011, al_5012, al_5013, al_5014, al_5015, al_5016, al_5017, al_5018, al_5019, al_5020, al_5021, al_5022, al_5023, al_5024, al_5025, al_5026, al_9000, al_101, al_102, al_104, al_105, al_107, al_108, al_110, al_111, vcs_e, lg_c0, lg_cs, lg_nil, set_c0, set_cs, okst_0, okst_s, acok_n, acok_c, List.contains_nil, List.contains_cons, Bool.or_false, Bool.false_or, Bool.false_eq_true, if_false, if_true, ite_self, ne_eq, true_and, and_true, not_false_eq_true, not_true_eq_false, false_imp_iff, true_imp_iff, Nat.ble_eq, Bool.and_eq_true, reduceCtorEq, or_false, false_or, or_true, true_or, false_and, and_false, and_self, Int.reduceLE, Int.reduceAdd, Int.reduceSub, Int.reduceMul, Int.reduceNeg, Int.reduceLT, Int.reduceEq, Int.reduceNe, Nat.reduceBEq, Nat.reduceBNe, Nat.reduceEqDiff, amCmp_in, amCmp_lt, amCmp_le, amCmp_gt, amCmp_ge, amCmp_eq, amCmp_ne, Nat.reduceLeDiff, Nat.reduceSub, Bool.and_true, Bool.true_and, Bool.and_self, Bool.or_true, Bool.true_or, isRf_3, isRf_4, isRf_5, isRf_8, isRf_9, isRf_10, isRf_11, isRf_15, isRf_16, isRf_17, isRf_18, isRf_19, isRf_20, isRf_21, isRf_22, isRf_23, isRf_24, isRf_25, isRf_26, isRf_27, isRf_28, k_X6_isWhole_0, k_X6_isWhole_1, k_X6_isWhole_2, k_X6_isWhole_5, k_X6_isWhole_8, k_X6_isWhole_9, k_X6_isWhole_10, k_X6_isWhole_13, k_X6_isWhole_16, k_X6_isWhole_17, k_X6_isWhole_18, k_X6_isWhole_21, k_X6_isWhole_24, k_X6_isWhole_25, k_X6_isWhole_26, k_X6_isWhole_27, k_X6_isWhole_28, k_X6_isWhole_29, k_X6_isWhole_30, k_X6_isWhole_31, k_X6_isWhole_34, k_X6_isWhole_37, k_X6_isWhole_38, k_X6_isWhole_39, k_X6_isWhole_40, k_X6_isWhole_41, k_X6_isWhole_44, k_X6_isWhole_45, k_X6_isWhole_46, k_X6_isWhole_49, k_X6_isWhole_52, k_X6_isWhole_53, k_X6_isWhole_54, k_X6_isWhole_57, k_X6_isWhole_60, k_X6_isWhole_61, w_X6_many_e, w_X6_value_e, e2, e3]
    by_cases hlt : (k : Int) < σ' (p + 2) 2
    · have es : slotF 2 k 1 = (5 + (k : Int)) * 4 + 1 := by
        unfold slotF; rw [if_pos]; rfl
        have : mostK 2 = 6 := rfl
        omega
      have ev : pval σ' p 2 k 1 = σ' (p + 1) ((5 + (k : Int)) * 4 + 1) := by
        unfold pval; rw [es, if_neg (by omega)]
      have vb := hB.2 ((5 + (k : Int)) * 4 + 1) (by omega) (by omega)
      rw [ev]
      repeat' (first | assumption | apply And.intro | intro _)
      all_goals first
        | omega
        | exact ⟨n - 1, by omega, rfl, rfl, rfl, k + 1, by rw [Int.natCast_add]; rfl, by omega, ⟨hh, by omega⟩, n1, n2, n3⟩
        | (refine h2 (fun g => ?_)
           have g9 := (hTick_le _ _ _ (k + 1) (by omega) g.2.2.2).2
           omega)
    · have : (σ' (p + 2) 2).toNat = k := by omega
      repeat' (first | assumption | apply And.intro | intro _)
      all_goals first | omega | exact h1 ⟨n1, n2, n3, by rw [this]; exact hh⟩
  · change vcs _ _ _ _ 90 0 [(22, p), (6, 0)] [] σ
    simp only [vI_e, vL_e, vNull_e, vIload_e, vLload_e, vAload_e, vIstore_e, vLstore_e, vAstore_e, vIinc_e, vIadd_e, vIsub_e, vImul_e, vIand_e, vIor_e, vIxor_e, vIshl_e, vIshr_e, vIushr_e, vIdiv_e, vIrem_e, vLadd_e, vLsub_e, vLmul_e, vLand_e, vLor_e, vLxor_e, vLdiv_e, vLrem_e, vLushr_e, vLshl_e, vLcmp_e, vIneg_e, vI2l_e, vL2i_e, vI2b_e, vI2c_e, vDup_e, vPop_e, vDup2_e, vGoto_e, vIcEq_e, vIfEq_e, vIcNe_e, vIfNe_e, vIcLt_e, vIfLt_e, vIcGe_e, vIfGe_e, vIcGt_e, vIfGt_e, vIcLe_e, vIfLe_e, vNonnull_e, vSw_e, vGetI_e, vGetL_e, vGetR_e, vPutI_e, vPutZ_e, vPutL_e, vPutR_e, vIald_e, vIald_s, vLald_e, vBald_e, vBald_s, vAald_e, vIast_e, vLast_e, vBast_e, vAast_e, vAlen_e8, vAlen_e9, vAlen_e10, vAlen_e11, vAlen_e5, vAlen_e3, vGets_e, vCompact_e, vLdcS_e, vIret_e, vZret_e, vCret_e, vBret_e, vLret_e, vVret_e, vAret_e, vCallM_e0, vCallMV_e0, vCallS_e0, vCallSV_e0, vCallM_e1, vCallMV_e1, vCallS_e1, vCallSV_e1, vCallM_e2, vCallMV_e2, vCallS_e2, vCallSV_e2, vCallM_e3, vCallMV_e3, vCallS_e3, vCallSV_e3, vCallM_e4, vCallMV_e4, vCallS_e4, vCallSV_e4, vCallM_e5, vCallMV_e5, vCallS_e5, vCallSV_e5, vCallM_e6, vCallMV_e6, vCallS_e6, vCallSV_e6, vCallM_e7, vCallMV_e7, vCallS_e7, vCallSV_e7, vBad_e, vStrVal_e, vStrCod_e, vForm_e, vCallT_e0, vCallT_e1, vCallT_e2, vCopy_e, rf_0_0, rf_0_1, rf_0_2, rf_0_3, rf_0_4, rf_0_7, rf_0_10, rf_0_11, rf_0_12, rf_0_13, rf_0_14, rf_0_15, rf_0_16, rf_1_0, rf_3_0, rf_3_1, rf_6_0, rf_6_1, rf_9_0, rf_9_1, rf_9_3, rf_13_0, rf_13_1, rf_13_2, rf_16_0, rf_16_1, rf_16_2, rf_16_3, rf_21_0, rf_21_1, rf_21_2, rf_21_3, rf_26_0, rf_26_1, rf_26_2, rf_26_3, rf_26_4, rf_26_5, rf_26_6, rf_31_0, rf_31_2, rf_31_5, rf_31_6, rf_36_0, rf_36_1, rf_36_2, rf_36_3, rf_39_0, rf_39_1, rf_39_2, rf_41_0, rf_41_1, rf_41_2, rf_41_3, rf_5000_1, rf_5000_2, rf_5000_3, rf_5000_4, rf_5000_5, rf_5000_15, rf_5000_16, rf_5000_18, rf_5000_19, rf_5000_20, rf_5000_21, rf_5000_22, rf_5000_23, rf_5000_24, rf_5000_25, rf_5000_26, rf_5000_27, rf_5000_36, rf_5000_37, rf_5000_40, rf_5000_41, rf_5000_42, rf_5000_43, rf_5000_44, rf_5000_45, rf_5000_47, rf_5000_52, rf_5000_54, rf_5000_55, rf_100_0, rf_100_1, rf_103_0, rf_103_1, rf_106_0, rf_106_1, rf_109_0, rf_109_1, al_2, al_4, al_5, al_7, al_8, al_10, al_11, al_12, al_14, al_15, al_17, al_18, al_19, al_20, al_22, al_23, al_24, al_25, al_27, al_28, al_29, al_30, al_32, al_33, al_34, al_35, al_37, al_38, al_40, al_42, al_5001, al_5002, al_5003, al_5004, al_5005, al_5006, al_5007, al_5008, al_5009, al_5010, al_5011, al_5012, al_5013, al_5014, al_5015, al_5016, al_5017, al_5018, al_5019, al_5020, al_5021, al_5022, al_5023, al_5024, al_5025, al_5026, al_9000, al_101, al_102, al_104, al_105, al_107, al_108, al_110, al_111, vcs_e, lg_c0, lg_cs, lg_nil, set_c0, set_cs, okst_0, okst_s, acok_n, acok_c, List.contains_nil, List.contains_cons, Bool.or_false, Bool.false_or, Bool.false_eq_true, if_false, if_true, ite_self, ne_eq, true_and, and_true, not_false_eq_true, not_true_eq_false, false_imp_iff, true_imp_iff, Nat.ble_eq, Bool.and_eq_true, reduceCtorEq, or_false, false_or, or_true, true_or, false_and, and_false, and_self, Int.reduceLE, Int.reduceAdd, Int.reduceSub, Int.reduceMul, Int.reduceNeg, Int.reduceLT, Int.reduceEq, Int.reduceNe, Nat.reduceBEq, Nat.reduceBNe, Nat.reduceEqDiff, amCmp_in, amCmp_lt, amCmp_le, amCmp_gt, amCmp_ge, amCmp_eq, amCmp_ne, Nat.reduceLeDiff, Nat.reduceSub, Bool.and_true, Bool.true_and, Bool.and_self, Bool.or_true, Bool.true_or, isRf_3, isRf_4, isRf_5, isRf_8, isRf_9, isRf_10, isRf_11, isRf_15, isRf_16, isRf_17, isRf_18, isRf_19, isRf_20, isRf_21, isRf_22, isRf_23, isRf_24, isRf_25, isRf_26, isRf_27, isRf_28, k_X6_isWhole_0, k_X6_isWhole_1, k_X6_isWhole_2, k_X6_isWhole_5, k_X6_isWhole_8, k_X6_isWhole_9, k_X6_isWhole_10, k_X6_isWhole_13, k_X6_isWhole_16, k_X6_isWhole_17, k_X6_isWhole_18, k_X6_isWhole_21, k_X6_isWhole_24, k_X6_isWhole_25, k_X6_isWhole_26, k_X6_isWhole_27, k_X6_isWhole_28, k_X6_isWhole_29, k_X6_isWhole_30, k_X6_isWhole_31, k_X6_isWhole_34, k_X6_isWhole_37, k_X6_isWhole_38, k_X6_isWhole_39, k_X6_isWhole_40, k_X6_isWhole_41, k_X6_isWhole_44, k_X6_isWhole_45, k_X6_isWhole_46, k_X6_isWhole_49, k_X6_isWhole_52, k_X6_isWhole_53, k_X6_isWhole_54, k_X6_isWhole_57, k_X6_isWhole_60, k_X6_isWhole_61, w_X6_many_e, w_X6_value_e, e1, e2, e3]
    repeat' (first | assumption | apply And.intro | intro _)
    all_goals first | omega | (refine h2 (fun g => ?_); omega) | exact ⟨(σ (p + 2) 2).toNat, rfl, rfl, rfl, 0, rfl, by omega, trivial, by omega, by omega, by omega⟩
theorem wd_661 : Cond.methodLink RX6 111 arraycopyName ∈ TBL := tb_tab (List.mem_of_getElem? (i := 661) (by decide +kernel)) rfl
theorem wd_663 : Cond.native arraycopyName ∈ TBL := tb_tab (List.mem_of_getElem? (i := 663) (by decide +kernel)) rfl
theorem wd_662 : Cond.static arraycopyName ∈ TBL := tb_tab (List.mem_of_getElem? (i := 662) (by decide +kernel)) rfl
theorem wd_20 : Cond.initialized "java/lang/System" ∈ TBL := tb_tab (List.mem_of_getElem? (i := 20) (by decide +kernel)) rfl
def a_X6_copyFrom : AC := [(0, vAload 1 1), (1, vGetR TT 22 0 8 4), (4, vI 0 5), (5, vAload 0 6), (6, vGetR TT 22 0 8 9), (9, vI 0 10), (10, vAload 0 11), (11, vGetR TT 22 0 8 14), (14, vAlen TT 15), (15, vCopy TT 18), (18, vAload 1 19), (19, vGetR TT 22 1 8 22), (22, vI 0 23), (23, vAload 0 24), (24, vGetR TT 22 1 8 27), (27, vI 0 28), (28, vAload 0 29), (29, vGetR TT 22 1 8 32), (32, vAlen TT 33), (33, vCopy TT 36), (36, vVret)]
theorem k_X6_copyFrom_0 : look a_X6_copyFrom 0 = vAload 1 1 := rfl
theorem k_X6_copyFrom_1 : look a_X6_copyFrom 1 = vGetR TT 22 0 8 4 := rfl
theorem k_X6_copyFrom_4 : look a_X6_copyFrom 4 = vI 0 5 := rfl
theorem k_X6_copyFrom_5 : look a_X6_copyFrom 5 = vAload 0 6 := rfl
theorem k_X6_copyFrom_6 : look a_X6_copyFrom 6 = vGetR TT 22 0 8 9 := rfl
theorem k_X6_copyFrom_9 : look a_X6_copyFrom 9 = vI 0 10 := rfl
theorem k_X6_copyFrom_10 : look a_X6_copyFrom 10 = vAload 0 11 := rfl
theorem k_X6_copyFrom_11 : look a_X6_copyFrom 11 = vGetR TT 22 0 8 14 := rfl
theorem k_X6_copyFrom_14 : look a_X6_copyFrom 14 = vAlen TT 15 := rfl
theorem k_X6_copyFrom_15 : look a_X6_copyFrom 15 = vCopy TT 18 := rfl
theorem k_X6_copyFrom_18 : look a_X6_copyFrom 18 = vAload 1 19 := rfl
theorem k_X6_copyFrom_19 : look a_X6_copyFrom 19 = vGetR TT 22 1 8 22 := rfl
theorem k_X6_copyFrom_22 : look a_X6_copyFrom 22 = vI 0 23 := rfl
theorem k_X6_copyFrom_23 : look a_X6_copyFrom 23 = vAload 0 24 := rfl
theorem k_X6_copyFrom_24 : look a_X6_copyFrom 24 = vGetR TT 22 1 8 27 := rfl
theorem k_X6_copyFrom_27 : look a_X6_copyFrom 27 = vI 0 28 := rfl
theorem k_X6_copyFrom_28 : look a_X6_copyFrom 28 = vAload 0 29 := rfl
theorem k_X6_copyFrom_29 : look a_X6_copyFrom 29 = vGetR TT 22 1 8 32 := rfl
theorem k_X6_copyFrom_32 : look a_X6_copyFrom 32 = vAlen TT 33 := rfl
theorem k_X6_copyFrom_33 : look a_X6_copyFrom 33 = vCopy TT 36 := rfl
theorem k_X6_copyFrom_36 : look a_X6_copyFrom 36 = vVret := rfl
theorem o_X6_copyFrom {X : amX} (e1 : XT X = TT) (e2 : XD X = 1) (hB : amB X RX6 cX6_copyFrom (none) 2) : ∀ pc, amOK X pc (look a_X6_copyFrom pc) := by
  have hT : amTok (XT X) := e1 ▸ TT_ok
  refine look_ok ?_
  unfold a_X6_copyFrom
  refine fc (ok_aload_n hB dX6_copyFrom_0) ?_
  refine fc (okt_getR e1 hB hT fl_X6_11 rfl af_6_0 at_6_0 (by decide) dX6_copyFrom_1) ?_
  refine fc (ok_iconst hB dX6_copyFrom_4) ?_
  refine fc (ok_aload_n hB dX6_copyFrom_5) ?_
  refine fc (okt_getR e1 hB hT fl_X6_11 rfl af_6_0 at_6_0 (by decide) dX6_copyFrom_6) ?_
  refine fc (ok_iconst hB dX6_copyFrom_9) ?_
  refine fc (ok_aload_n hB dX6_copyFrom_10) ?_
  refine fc (okt_getR e1 hB hT fl_X6_11 rfl af_6_0 at_6_0 (by decide) dX6_copyFrom_11) ?_
  refine fc (okt_arraylength e1 hB dX6_copyFrom_14) ?_
  refine fc (okt_copy e1 hB (by rw [e2]; decide) wd_661 wd_663 wd_662 wd_20 dX6_copyFrom_15) ?_
  refine fc (ok_aload_n hB dX6_copyFrom_18) ?_
  refine fc (okt_getR e1 hB hT fl_X6_15 rfl af_6_1 at_6_1 (by decide) dX6_copyFrom_19) ?_
  refine fc (ok_iconst hB dX6_copyFrom_22) ?_
  refine fc (ok_aload_n hB dX6_copyFrom_23) ?_
  refine fc (okt_getR e1 hB hT fl_X6_15 rfl af_6_1 at_6_1 (by decide) dX6_copyFrom_24) ?_
  refine fc (ok_iconst hB dX6_copyFrom_27) ?_
  refine fc (ok_aload_n hB dX6_copyFrom_28) ?_
  refine fc (okt_getR e1 hB hT fl_X6_15 rfl af_6_1 at_6_1 (by decide) dX6_copyFrom_29) ?_
  refine fc (okt_arraylength e1 hB dX6_copyFrom_32) ?_
  refine fc (okt_copy e1 hB (by rw [e2]; decide) wd_661 wd_663 wd_662 wd_20 dX6_copyFrom_33) ?_
  refine fc (ok_vret hB dX6_copyFrom_36) ?_
  exact fn

def w_X6_copyFrom : WP := fun av σ Q => ∃ (p : Int) (r : Int), av = [(22, p), (22, r)] ∧ (p = 6 ∧ r = 3 ∧ Q (6, 0) (cpy (cpy σ 4 0 7 0 68) 5 0 8 0 4))
theorem w_X6_copyFrom_e (p : Int) (r : Int) (σ : Mem) (Q : AV → Mem → Prop) : w_X6_copyFrom [(22, p), (22, r)] σ Q = (p = 6 ∧ r = 3 ∧ Q (6, 0) (cpy (cpy σ 4 0 7 0 68) 5 0 8 0 4)) := by
  apply propext; constructor
  · rintro ⟨p', r', h9, hb9⟩; cases h9; exact hb9
  · intro hb9; exact ⟨p, r, rfl, hb9⟩

set_option maxRecDepth 100000 in
set_option maxHeartbeats 4000000 in
theorem s_X6_copyFrom : ∀ av σ Q, w_X6_copyFrom av σ Q → amCall 1 0 0 TT yX6_copyFrom cX6_copyFrom 2 (none) av σ Q := by
  rintro av σ Q ⟨p, r, rfl, rfl, rfl, h⟩
  refine am_m0 (own := RX6) (A := look a_X6_copyFrom) (fun X e1 e2 hB => o_X6_copyFrom e1 e2 hB) rfl (by decide +kernel) rfl rfl 90 (w := 2) ?_
  change vcs _ _ _ _ 90 0 [(22, 6), (22, 3)] [] σ
  simp only [vI_e, vL_e, vNull_e, vIload_e, vLload_e, vAload_e, vIstore_e, vLstore_e, vAstore_e, vIinc_e, vIadd_e, vIsub_e, vImul_e, vIand_e, vIor_e, vIxor_e, vIshl_e, vIshr_e, vIushr_e, vIdiv_e, vIrem_e, vLadd_e, vLsub_e, vLmul_e, vLand_e, vLor_e, vLxor_e, vLdiv_e, vLrem_e, vLushr_e, vLshl_e, vLcmp_e, vIneg_e, vI2l_e, vL2i_e, vI2b_e, vI2c_e, vDup_e, vPop_e, vDup2_e, vGoto_e, vIcEq_e, vIfEq_e, vIcNe_e, vIfNe_e, vIcLt_e, vIfLt_e, vIcGe_e, vIfGe_e, vIcGt_e, vIfGt_e, vIcLe_e, vIfLe_e, vNonnull_e, vSw_e, vGetI_e, vGetL_e, vGetR_e, vPutI_e, vPutZ_e, vPutL_e, vPutR_e, vIald_e, vIald_s, vLald_e, vBald_e, vBald_s, vAald_e, vIast_e, vLast_e, vBast_e, vAast_e, vAlen_e8, vAlen_e9, vAlen_e10, vAlen_e11, vAlen_e5, vAlen_e3, vGets_e, vCompact_e, vLdcS_e, vIret_e, vZret_e, vCret_e, vBret_e, vLret_e, vVret_e, vAret_e, vCallM_e0, vCallMV_e0, vCallS_e0, vCallSV_e0, vCallM_e1, vCallMV_e1, vCallS_e1, vCallSV_e1, vCallM_e2, vCallMV_e2, vCallS_e2, vCallSV_e2, vCallM_e3, vCallMV_e3, vCallS_e3, vCallSV_e3, vCallM_e4, vCallMV_e4, vCallS_e4, vCallSV_e4, vCallM_e5, vCallMV_e5, vCallS_e5, vCallSV_e5, vCallM_e6, vCallMV_e6, vCallS_e6, vCallSV_e6, vCallM_e7, vCallMV_e7, vCallS_e7, vCallSV_e7, vBad_e, vStrVal_e, vStrCod_e, vForm_e, vCallT_e0, vCallT_e1, vCallT_e2, vCopy_e, rf_0_0, rf_0_1, rf_0_2, rf_0_3, rf_0_4, rf_0_7, rf_0_10, rf_0_11, rf_0_12, rf_0_13, rf_0_14, rf_0_15, rf_0_16, rf_1_0, rf_3_0, rf_3_1, rf_6_0, rf_6_1, rf_9_0, rf_9_1, rf_9_3, rf_13_0, rf_13_1, rf_13_2, rf_16_0, rf_16_1, rf_16_2, rf_16_3, rf_21_0, rf_21_1, rf_21_2, rf_21_3, rf_26_0, rf_26_1, rf_26_2, rf_26_3, rf_26_4, rf_26_5, rf_26_6, rf_31_0, rf_31_2, rf_31_5, rf_31_6, rf_36_0, rf_36_1, rf_36_2, rf_36_3, rf_39_0, rf_39_1, rf_39_2, rf_41_0, rf_41_1, rf_41_2, rf_41_3, rf_5000_1, rf_5000_2, rf_5000_3, rf_5000_4, rf_5000_5, rf_5000_15, rf_5000_16, rf_5000_18, rf_5000_19, rf_5000_20, rf_5000_21, rf_5000_22, rf_5000_23, rf_5000_24, rf_5000_25, rf_5000_26, rf_5000_27, rf_5000_36, rf_5000_37, rf_5000_40, rf_5000_41, rf_5000_42, rf_5000_43, rf_5000_44, rf_5000_45, rf_5000_47, rf_5000_52, rf_5000_54, rf_5000_55, rf_100_0, rf_100_1, rf_103_0, rf_103_1, rf_106_0, rf_106_1, rf_109_0, rf_109_1, al_2, al_4, al_5, al_7, al_8, al_10, al_11, al_12, al_14, al_15, al_17, al_18, al_19, al_20, al_22, al_23, al_24, al_25, al_27, al_28, al_29, al_30, al_32, al_33, al_34, al_35, al_37, al_38, al_40, al_42, al_5001, al_5002, al_5003, al_5004, al_5005, al_5006, al_5007, al_5008, al_5009, al_5010, al_5011, al_5012, al_5013, al_5014, al_5015, al_5016, al_5017, al_5018, al_5019, al_5020, al_5021, al_5022, al_5023, al_5024, al_5025, al_5026, al_9000, al_101, al_102, al_104, al_105, al_107, al_108, al_110, al_111, vcs_e, lg_c0, lg_cs, lg_nil, set_c0, set_cs, okst_0, okst_s, acok_n, acok_c, List.contains_nil, List.contains_cons, Bool.or_false, Bool.false_or, Bool.false_eq_true, if_false, if_true, ite_self, ne_eq, true_and, and_true, not_false_eq_true, not_true_eq_false, false_imp_iff, true_imp_iff, Nat.ble_eq, Bool.and_eq_true, reduceCtorEq, or_false, false_or, or_true, true_or, false_and, and_false, and_self, Int.reduceLE, Int.reduceAdd, Int.reduceSub, Int.reduceMul, Int.reduceNeg, Int.reduceLT, Int.reduceEq, Int.reduceNe, Nat.reduceBEq, Nat.reduceBNe, Nat.reduceEqDiff, amCmp_in, amCmp_lt, amCmp_le, amCmp_gt, amCmp_ge, amCmp_eq, amCmp_ne, Nat.reduceLeDiff, Nat.reduceSub, Bool.and_true, Bool.true_and, Bool.and_self, Bool.or_true, Bool.true_or, isRf_3, isRf_4, isRf_5, isRf_8, isRf_9, isRf_10, isRf_11, isRf_15, isRf_16, isRf_17, isRf_18, isRf_19, isRf_20, isRf_21, isRf_22, isRf_23, isRf_24, isRf_25, isRf_26, isRf_27, isRf_28, k_X6_copyFrom_0, k_X6_copyFrom_1, k_X6_copyFrom_4, k_X6_copyFrom_5, k_X6_copyFrom_6, k_X6_copyFrom_9, k_X6_copyFrom_10, k_X6_copyFrom_11, k_X6_copyFrom_14, k_X6_copyFrom_15, k_X6_copyFrom_18, k_X6_copyFrom_19, k_X6_copyFrom_22, k_X6_copyFrom_23, k_X6_copyFrom_24, k_X6_copyFrom_27, k_X6_copyFrom_28, k_X6_copyFrom_29, k_X6_copyFrom_32, k_X6_copyFrom_33, k_X6_copyFrom_36, ]
  repeat' (first | assumption | apply And.intro | intro _)
  all_goals first | omega | exact h
