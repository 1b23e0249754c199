/-! the reference: what is asked of PLAYS -/
/-- what is felt, and when one is led out, in all of a PLAY -/
abbrev mMi (σ : Mem) (p : Int) : Nat := (σ 5007 (4 * p + 3)).toNat
theorem mOu_oa {σ : Mem} {w p : Int} (h6 : σ 5000 29 ≤ 6) {c : Int} (c0 : 0 ≤ c) (c1 : c < σ 5000 29) : ∀ k : Nat, (bt (mOu σ w p k) c = 1 ↔ mOa σ w p k c ≠ -1) := by
  intro k
  induction k with
  | zero =>
    show bt 0 c = 1 ↔ (-1 : Int) ≠ -1
    rw [bt_0]; simp
  | succ k ih =>
    have hb := bt_b (mOu σ w p k) c
    have e1 : bt (mOu σ w p (k + 1)) c = if c < ((σ 5000 29).toNat : Nat) ∧ decide (bt (mOu σ w p k) c = 1 ∨ σ 5005 0 ≤ mMn σ w p k (mOu σ w p k) c) = true then 1 else 0 := gb_bit _ c0 (by omega) _ (by omega)
    have e2 : mOa σ w p (k + 1) c = if bt (mOu σ w p k) c = 0 ∧ σ 5005 0 ≤ mMn σ w p k (mOu σ w p k) c then (k : Int) else mOa σ w p k c := rfl
    rw [e1, e2]
    by_cases d : bt (mOu σ w p k) c = 1
    · rw [if_pos ⟨by omega, decide_eq_true (Or.inl d)⟩, if_neg (by omega)]
      exact ⟨fun _ => ih.mp d, fun _ => rfl⟩
    · by_cases g : σ 5005 0 ≤ mMn σ w p k (mOu σ w p k) c
      · rw [if_pos ⟨by omega, decide_eq_true (Or.inr g)⟩, if_pos ⟨by omega, g⟩]
        exact ⟨fun _ => by omega, fun _ => rfl⟩
      · rw [if_neg (fun q => by
          have := of_decide_eq_true q.2
          rcases this with o | o
          · exact d o
          · exact g o), if_neg (fun q => g q.2)]
        exact ⟨fun q => absurd q (by decide), fun q => absurd (ih.mpr q) d⟩
def a_X12_feels : AC := [(0, vAload 0 1), (1, vI 0 2), (2, vPutI 28 0 5), (5, vAload 0 6), (6, vIload 1 7), (7, vCallM w_X12_isChair 28 1 10), (10, vIfEq 31 13), (13, vAload 0 14), (14, vIload 2 15), (15, vCallM w_X12_isPlay 28 1 18), (18, vIfEq 31 21), (21, vIload 3 22), (22, vI2l 23), (23, vL 0 24), (24, vL 1 25), (25, vCallS w_X12_isIn 3 28), (28, vIfNe 35 31), (31, vI (-1000000) 34), (34, vIret), (35, vAload 0 36), (36, vAload 0 37), (37, vGetR TT 28 36 8 40), (40, vIload 2 41), (41, vCallM w_X12_goPlay 28 2 44), (44, vIstore 4 46), (46, vIload 3 47), (47, vIfNe 59 50), (50, vAload 0 51), (51, vGetR TT 28 42 8 54), (54, vIload 1 55), (55, vIald TT 56), (56, vGoto 65), (59, vAload 0 60), (60, vGetR TT 28 43 8 63), (63, vIload 1 64), (64, vIald TT 65), (65, vIret)]
theorem k_X12_feels_0 : look a_X12_feels 0 = vAload 0 1 := rfl
theorem k_X12_feels_1 : look a_X12_feels 1 = vI 0 2 := rfl
theorem k_X12_feels_2 : look a_X12_feels 2 = vPutI 28 0 5 := rfl
theorem k_X12_feels_5 : look a_X12_feels 5 = vAload 0 6 := rfl
theorem k_X12_feels_6 : look a_X12_feels 6 = vIload 1 7 := rfl
theorem k_X12_feels_7 : look a_X12_feels 7 = vCallM w_X12_isChair 28 1 10 := rfl
theorem k_X12_feels_10 : look a_X12_feels 10 = vIfEq 31 13 := rfl
theorem k_X12_feels_13 : look a_X12_feels 13 = vAload 0 14 := rfl
theorem k_X12_feels_14 : look a_X12_feels 14 = vIload 2 15 := rfl
theorem k_X12_feels_15 : look a_X12_feels 15 = vCallM w_X12_isPlay 28 1 18 := rfl
theorem k_X12_feels_18 : look a_X12_feels 18 = vIfEq 31 21 := rfl
theorem k_X12_feels_21 : look a_X12_feels 21 = vIload 3 22 := rfl
theorem k_X12_feels_22 : look a_X12_feels 22 = vI2l 23 := rfl
theorem k_X12_feels_23 : look a_X12_feels 23 = vL 0 24 := rfl
theorem k_X12_feels_24 : look a_X12_feels 24 = vL 1 25 := rfl
theorem k_X12_feels_25 : look a_X12_feels 25 = vCallS w_X12_isIn 3 28 := rfl
theorem k_X12_feels_28 : look a_X12_feels 28 = vIfNe 35 31 := rfl
theorem k_X12_feels_31 : look a_X12_feels 31 = vI (-1000000) 34 := rfl
theorem k_X12_feels_34 : look a_X12_feels 34 = vIret := rfl
theorem k_X12_feels_35 : look a_X12_feels 35 = vAload 0 36 := rfl
theorem k_X12_feels_36 : look a_X12_feels 36 = vAload 0 37 := rfl
theorem k_X12_feels_37 : look a_X12_feels 37 = vGetR TT 28 36 8 40 := rfl
theorem k_X12_feels_40 : look a_X12_feels 40 = vIload 2 41 := rfl
theorem k_X12_feels_41 : look a_X12_feels 41 = vCallM w_X12_goPlay 28 2 44 := rfl
theorem k_X12_feels_44 : look a_X12_feels 44 = vIstore 4 46 := rfl
theorem k_X12_feels_46 : look a_X12_feels 46 = vIload 3 47 := rfl
theorem k_X12_feels_47 : look a_X12_feels 47 = vIfNe 59 50 := rfl
theorem k_X12_feels_50 : look a_X12_feels 50 = vAload 0 51 := rfl
theorem k_X12_feels_51 : look a_X12_feels 51 = vGetR TT 28 42 8 54 := rfl
theorem k_X12_feels_54 : look a_X12_feels 54 = vIload 1 55 := rfl
theorem k_X12_feels_55 : look a_X12_feels 55 = vIald TT 56 := rfl
theorem k_X12_feels_56 : look a_X12_feels 56 = vGoto 65 := rfl
theorem k_X12_feels_59 : look a_X12_feels 59 = vAload 0 60 := rfl
theorem k_X12_feels_60 : look a_X12_feels 60 = vGetR TT 28 43 8 63 := rfl
theorem k_X12_feels_63 : look a_X12_feels 63 = vIload 1 64 := rfl
theorem k_X12_feels_64 : look a_X12_feels 64 = vIald TT 65 := rfl
theorem k_X12_feels_65 : look a_X12_feels 65 = vIret := rfl
theorem o_X12_feels {X : amX} (e1 : XT X = TT) (e2 : XD X = 60) (hB : amB X RX12 cX12_feels (some .int) 5) : ∀ pc, amOK X pc (look a_X12_feels pc) := by
  have hT : amTok (XT X) := e1 ▸ TT_ok
  refine look_ok ?_
  unfold a_X12_feels
  refine fc (ok_aload_n hB dX12_feels_0) ?_
  refine fc (ok_iconst hB dX12_feels_1) ?_
  refine fc (ok_putI hB hT fp_X12_111 rfl rfl rfl af_12_0 dX12_feels_2) ?_
  refine fc (ok_aload_n hB dX12_feels_5) ?_
  refine fc (ok_iload_n hB dX12_feels_6) ?_
  refine fc (ok_callM hB hT (e1 ▸ s_X12_isChair) lk_X12_371 (by rw [e2]; decide) (c := 12) rfl rfl rfl wd_1661 sl_X12_isChair dX12_feels_7) ?_
  refine fc (ok_if_eq hB (t := 31) (by decide) dX12_feels_10) ?_
  refine fc (ok_aload_n hB dX12_feels_13) ?_
  refine fc (ok_iload_n hB dX12_feels_14) ?_
  refine fc (ok_callM hB hT (e1 ▸ s_X12_isPlay) lk_X12_366 (by rw [e2]; decide) (c := 12) rfl rfl rfl wd_1652 sl_X12_isPlay dX12_feels_15) ?_
  refine fc (ok_if_eq hB (t := 31) (by decide) dX12_feels_18) ?_
  refine fc (ok_iload_n hB dX12_feels_21) ?_
  refine fc (ok_i2l hB dX12_feels_22) ?_
  refine fc (ok_lconst hB (z := 0) (by decide) dX12_feels_23) ?_
  refine fc (ok_lconst hB (z := 1) (by decide) dX12_feels_24) ?_
  refine fc (ok_callS hB (e1 ▸ s_X12_isIn) lk_X12_232 (by rw [e2]; decide) wd_1502 dX12_feels_25) ?_
  refine fc (ok_if_ne hB (t := 35) (by decide) dX12_feels_28) ?_
  refine fc (ok_ldcw hB wd_1784 rfl dX12_feels_31) ?_
  refine fc (ok_iret hB dX12_feels_34) ?_
  refine fc (ok_aload_n hB dX12_feels_35) ?_
  refine fc (ok_aload_n hB dX12_feels_36) ?_
  refine fc (okt_getR e1 hB hT fl_X12_67 rfl af_12_36 at_12_36 (by decide) dX12_feels_37) ?_
  refine fc (ok_iload_n hB dX12_feels_40) ?_
  refine fc (ok_callM hB hT (e1 ▸ s_X12_goPlay) lk_X12_362 (by rw [e2]; decide) (c := 12) rfl rfl rfl wd_1698 sl_X12_goPlay dX12_feels_41) ?_
  refine fc (ok_istore hB (by decide) dX12_feels_44) ?_
  refine fc (ok_iload_n hB dX12_feels_46) ?_
  refine fc (ok_if_ne hB (t := 59) (by decide) dX12_feels_47) ?_
  refine fc (ok_aload_n hB dX12_feels_50) ?_
  refine fc (okt_getR e1 hB hT fl_X12_87 rfl af_12_42 at_12_42 (by decide) dX12_feels_51) ?_
  refine fc (ok_iload_n hB dX12_feels_54) ?_
  refine fc (okt_iaload e1 hB dX12_feels_55) ?_
  refine fc (ok_goto hB (t := 65) (by decide) dX12_feels_56) ?_
  refine fc (ok_aload_n hB dX12_feels_59) ?_
  refine fc (okt_getR e1 hB hT fl_X12_90 rfl af_12_43 at_12_43 (by decide) dX12_feels_60) ?_
  refine fc (ok_iload_n hB dX12_feels_63) ?_
  refine fc (okt_iaload e1 hB dX12_feels_64) ?_
  refine fc (ok_iret hB dX12_feels_65) ?_
  exact fn

def w_X12_feels : WP := fun av σ Q => ∃ (c : Int) (p : Int) (w : Int), av = [(28, 5000), (0, c), (0, p), (0, w)] ∧ (InR c ∧ InR p ∧ InR w ∧ mX σ 5015 ∧ (¬ (0 ≤ c ∧ c < σ 5000 29 ∧ 0 ≤ p ∧ p < σ 5000 28 ∧ 0 ≤ w ∧ w ≤ 1) → Q (0, -1000000) (th0 σ)) ∧ (0 ≤ c ∧ c < σ 5000 29 ∧ 0 ≤ p ∧ p < σ 5000 28 ∧ 0 ≤ w ∧ w ≤ 1 → ∀ τ, PF (th0 σ) τ → mOk τ → Q (0, if w = 0 then mFl (th0 σ) 5015 p (mMi (th0 σ) p) c else mOa (th0 σ) 5015 p (mMi (th0 σ) p) c) τ))
theorem w_X12_feels_e (c : Int) (p : Int) (w : Int) (σ : Mem) (Q : AV → Mem → Prop) : w_X12_feels [(28, 5000), (0, c), (0, p), (0, w)] σ Q = (InR c ∧ InR p ∧ InR w ∧ mX σ 5015 ∧ (¬ (0 ≤ c ∧ c < σ 5000 29 ∧ 0 ≤ p ∧ p < σ 5000 28 ∧ 0 ≤ w ∧ w ≤ 1) → Q (0, -1000000) (th0 σ)) ∧ (0 ≤ c ∧ c < σ 5000 29 ∧ 0 ≤ p ∧ p < σ 5000 28 ∧ 0 ≤ w ∧ w ≤ 1 → ∀ τ, PF (th0 σ) τ → mOk τ → Q (0, if w = 0 then mFl (th0 σ) 5015 p (mMi (th0 σ) p) c else mOa (th0 σ) 5015 p (mMi (th0 σ) p) c) τ)) := by
  apply propext; constructor
  · rintro ⟨c', p', w', h9, hb9⟩; cases h9; exact hb9
  · intro hb9; exact ⟨c, p, w, rfl, hb9⟩

set_option maxRecDepth 100000 in
set_option maxHeartbeats 4000000 in
theorem s_X12_feels : ∀ av σ Q, w_X12_feels av σ Q → amCall 60 0 0 TT yX12_feels cX12_feels 5 (some .int) av σ Q := by
  rintro av σ Q ⟨c, p, w, rfl, hc, hp, hw, hx, h1, h2⟩
  have e28 : th0 σ 5000 28 = σ 5000 28 := th_k σ (by decide)
  have e29 : th0 σ 5000 29 = σ 5000 29 := th_k σ (by decide)
  have n29 := hx.2.1.2.2.1
  have n28 := hx.2.1.2.2.2.2.1
  have hP := mX_P (mX_th hx)
  by_cases d : 0 ≤ c ∧ c < σ 5000 29
  · by_cases g : 0 ≤ p ∧ p < σ 5000 28
    · have hq := fun (k : 0 ≤ w ∧ w ≤ 1) => h2 ⟨d.1, d.2, g.1, g.2, k.1, k.2⟩
      refine am_m0 (own := RX12) (A := look a_X12_feels) (fun X e1 e2 hB => o_X12_feels e1 e2 hB) rfl (by decide +kernel) rfl rfl 190 (w := 5) ?_
      change vcs _ _ _ _ 190 0 [(28, 5000), (0, c), (0, p), (0, w), (6, 0)] [] σ
      simp only [↓reduceIte, inR_0, inR_1, inR_m, vSw2_e, swP_n, swP_c, vI_e, vL_e, vNull_e, vIload_e, vLload_e, vAload_e, vIstore_e, vLstore_e, vAstore_e, vIinc_e, vIadd_e, vIsub_e, vImul_e, vIand_e, vIor_e, vIxor_e, vIshl_e, vIshr_e, vIushr_e, vIdiv_e, vIrem_e, vLadd_e, vLsub_e, vLmul_e, vLand_e, vLor_e, vLxor_e, vLdiv_e, vLrem_e, vLushr_e, vLshl_e, vLcmp_e, vIneg_e, vI2l_e, vL2i_e, vI2b_e, vI2c_e, vDup_e, vPop_e, vDup2_e, vGoto_e, vIcEq_e, vIfEq_e, vIcNe_e, vIfNe_e, vIcLt_e, vIfLt_e, vIcGe_e, vIfGe_e, vIcGt_e, vIfGt_e, vIcLe_e, vIfLe_e, vNonnull_e, vSw_e, vGetI_e, vGetL_e, vGetR_e, vPutI_e, vPutZ_e, vPutL_e, vPutR_e, vIald_e, vIald_s, vLald_e, vBald_e, vBald_s, vAald_e, vIast_e, vLast_e, vBast_e, vAast_e, vAlen_e8, vAlen_e9, vAlen_e10, vAlen_e11, vAlen_e5, vAlen_e3, vGets_e, vCompact_e, vLdcS_e, vIret_e, vZret_e, vCret_e, vBret_e, vLret_e, vVret_e, vAret_e, vCallM_e0, vCallMV_e0, vCallS_e0, vCallSV_e0, vCallM_e1, vCallMV_e1, vCallS_e1, vCallSV_e1, vCallM_e2, vCallMV_e2, vCallS_e2, vCallSV_e2, vCallM_e3, vCallMV_e3, vCallS_e3, vCallSV_e3, vCallM_e4, vCallMV_e4, vCallS_e4, vCallSV_e4, vCallM_e5, vCallMV_e5, vCallS_e5, vCallSV_e5, vCallM_e6, vCallMV_e6, vCallS_e6, vCallSV_e6, vCallM_e7, vCallMV_e7, vCallS_e7, vCallSV_e7, vBad_e, vStrVal_e, vStrCod_e, vForm_e, vCallT_e0, vCallT_e1, vCallT_e2, vCopy_e, rf_0_0, rf_0_1, rf_0_2, rf_0_3, rf_0_4, rf_0_7, rf_0_10, rf_0_11, rf_0_12, rf_0_13, rf_0_14, rf_0_15, rf_0_16, rf_1_0, rf_3_0, rf_3_1, rf_6_0, rf_6_1, rf_9_0, rf_9_1, rf_9_3, rf_13_0, rf_13_1, rf_13_2, rf_16_0, rf_16_1, rf_16_2, rf_16_3, rf_21_0, rf_21_1, rf_21_2, rf_21_3, rf_26_0, rf_26_1, rf_26_2, rf_26_3, rf_26_4, rf_26_5, rf_26_6, rf_31_0, rf_31_2, rf_31_5, rf_31_6, rf_36_0, rf_36_1, rf_36_2, rf_36_3, rf_39_0, rf_39_1, rf_39_2, rf_41_0, rf_41_1, rf_41_2, rf_41_3, rf_5000_1, rf_5000_2, rf_5000_3, rf_5000_4, rf_5000_5, rf_5000_15, rf_5000_16, rf_5000_18, rf_5000_19, rf_5000_20, rf_5000_21, rf_5000_22, rf_5000_23, rf_5000_24, rf_5000_25, rf_5000_26, rf_5000_27, rf_5000_36, rf_5000_37, rf_5000_40, rf_5000_41, rf_5000_42, rf_5000_43, rf_5000_44, rf_5000_45, rf_5000_47, rf_5000_52, rf_5000_54, rf_5000_55, rf_100_0, rf_100_1, rf_103_0, rf_103_1, rf_106_0, rf_106_1, rf_109_0, rf_109_1, al_2, al_4, al_5, al_7, al_8, al_10, al_11, al_12, al_14, al_15, al_17, al_18, al_19, al_20, al_22, al_23, al_24, al_25, al_27, al_28, al_29, al_30, al_32, al_33, al_34, al_35, al_37, al_38, al_40, al_42, al_5001, al_5002, al_5003, al_5004, al_5005, al_5006, al_5007, al_5008, al_5009, al_5010, al_5011, al_5012, al_5013, al_5014, al_5015, al_5016, al_5017, al_5018, al_5019, al_5020, al_5021, al_5022, al_5023, al_5024, al_5025, al_5026, al_9000, al_101, al_102, al_104, al_105, al_107, al_108, al_110, al_111, vcs_e, lg_c0, lg_cs, lg_nil, set_c0, set_cs, okst_0, okst_s, acok_n, acok_c, List.contains_nil, List.contains_cons, Bool.or_false, Bool.false_or, Bool.false_eq_true, if_false, if_true, ite_self, ne_eq, true_and, and_true, not_false_eq_true, not_true_eq_false, false_imp_iff, true_imp_iff, Nat.ble_eq, Bool.and_eq_true, reduceCtorEq, or_false, false_or, or_true, true_or, false_and, and_false, and_self, Int.reduceLE, Int.reduceAdd, Int.reduceSub, Int.reduceMul, Int.reduceNeg, Int.reduceLT, Int.reduceEq, Int.reduceNe, Nat.reduceBEq, Nat.reduceBNe, Nat.reduceEqDiff, amCmp_in, amCmp_lt, amCmp_le, amCmp_gt, amCmp_ge, amCmp_eq, amCmp_ne, Nat.reduceLeDiff, Nat.reduceSub, Bool.and_true, Bool.true_and, Bool.and_self, Bool.or_true, Bool.true_or, isRf_3, isRf_4, isRf_5, isRf_8, isRf_9, isRf_10, isRf_11, isRf_15, isRf_16, isRf_17, isRf_18, isRf_19, isRf_20, isRf_21, isRf_22, isRf_23, isRf_24, isRf_25, isRf_26, isRf_27, isRf_28, k_X12_feels_0, k_X12_feels_1, k_X12_feels_2, k_X12_feels_5, k_X12_feels_6, k_X12_feels_7, k_X12_feels_10, k_X12_feels_13, k_X12_feels_14, k_X12_feels_15, k_X12_feels_18, k_X12_feels_21, k_X12_feels_22, k_X12_feels_23, k_X12_feels_24, k_X12_feels_25, k_X12_feels_28, k_X12_feels_31, k_X12_feels_34, k_X12_feels_35, k_X12_feels_36, k_X12_feels_37, k_X12_feels_40, k_X12_feels_41, k_X12_feels_44, k_X12_feels_46, k_X12_feels_47, k_X12_feels_50, k_X12_feels_51, k_X12_feels_54, k_X12_feels_55, k_X12_feels_56, k_X12_feels_59, k_X12_feels_60, k_X12_feels_63, k_X12_feels_64, k_X12_feels_65, w_X12_goPlay_e, w_X12_isChair_e, w_X12_isIn_e, w_X12_isPlay_e, up_s, up_nj, up_na, up_up, savR_o, cpy_o, fillm_o, setAud_o, setv_o, setv_s, Int.reduceNe, Int.reduceEq, Int.reduceLT, Int.reduceAdd, not_false_eq_true, ne_eq, or_true, true_or, e28, e29, if_pos d, if_pos g]
      by_cases k : 0 ≤ w ∧ w ≤ 1
      · rw [if_pos k]
        have q0 : w = 0 → ∀ τ, PF (th0 σ) τ → mOk τ → (∀ j, 0 ≤ j → j < σ 5000 29 → τ 5019 j = mFl (th0 σ) 5015 p (mMi (th0 σ) p) j ∧ τ 5020 j = mOa (th0 σ) 5015 p (mMi (th0 σ) p) j) → Q (0, τ 5019 c) τ := fun e τ a b f => by
          have := hq k τ a b
          rw [if_pos e, ← (f c d.1 d.2).1] at this; exact this
        have q1 : ¬ w = 0 → ∀ τ, PF (th0 σ) τ → mOk τ → (∀ j, 0 ≤ j → j < σ 5000 29 → τ 5019 j = mFl (th0 σ) 5015 p (mMi (th0 σ) p) j ∧ τ 5020 j = mOa (th0 σ) 5015 p (mMi (th0 σ) p) j) → Q (0, τ 5020 c) τ := fun e τ a b f => by
          have := hq k τ a b
          rw [if_neg e, ← (f c d.1 d.2).2] at this; exact this
        repeat' (first | assumption | exact hP | apply And.intro | intro _)
        all_goals first | omega | exact absurd trivial (by assumption) | exact q0 (by assumption) _ (by assumption) (by assumption) (by assumption) | exact q1 (by assumption) _ (by assumption) (by assumption) (by assumption) | exact Or.inl rfl
      · rw [if_neg k]
        have q8 := h1 (by omega)
        repeat' (first | assumption | exact hP | apply And.intro | intro _)
        all_goals first | omega | exact absurd trivial (by assumption) | exact q8 | exact Or.inl rfl
    · have q8 := h1 (by omega)
      refine am_m0 (own := RX12) (A := look a_X12_feels) (fun X e1 e2 hB => o_X12_feels e1 e2 hB) rfl (by decide +kernel) rfl rfl 190 (w := 5) ?_
      change vcs _ _ _ _ 190 0 [(28, 5000), (0, c), (0, p), (0, w), (6, 0)] [] σ
      simp only [↓reduceIte, inR_0, inR_1, inR_m, vSw2_e, swP_n, swP_c, vI_e, vL_e, vNull_e, vIload_e, vLload_e, vAload_e, vIstore_e, vLstore_e, vAstore_e, vIinc_e, vIadd_e, vIsub_e, vImul_e, vIand_e, vIor_e, vIxor_e, vIshl_e, vIshr_e, vIushr_e, vIdiv_e, vIrem_e, vLadd_e, vLsub_e, vLmul_e, vLand_e, vLor_e, vLxor_e, vLdiv_e, vLrem_e, vLushr_e, vLshl_e, vLcmp_e, vIneg_e, vI2l_e, vL2i_e, vI2b_e, vI2c_e, vDup_e, vPop_e, vDup2_e, vGoto_e, vIcEq_e, vIfEq_e, vIcNe_e, vIfNe_e, vIcLt_e, vIfLt_e, vIcGe_e, vIfGe_e, vIcGt_e, vIfGt_e, vIcLe_e, vIfLe_e, vNonnull_e, vSw_e, vGetI_e, vGetL_e, vGetR_e, vPutI_e, vPutZ_e, vPutL_e, vPutR_e, vIald_e, vIald_s, vLald_e, vBald_e, vBald_s, vAald_e, vIast_e, vLast_e, vBast_e, vAast_e, vAlen_e8, vAlen_e9, vAlen_e10, vAlen_e11, vAlen_e5, vAlen_e3, vGets_e, vCompact_e, vLdcS_e, vIret_e, vZret_e, vCret_e, vBret_e, vLret_e, vVret_e, vAret_e, vCallM_e0, vCallMV_e0, vCallS_e0, vCallSV_e0, vCallM_e1, vCallMV_e1, vCallS_e1, vCallSV_e1, vCallM_e2, vCallMV_e2, vCallS_e2, vCallSV_e2, vCallM_e3, vCallMV_e3, vCallS_e3, vCallSV_e3, vCallM_e4, vCallMV_e4, vCallS_e4, vCallSV_e4, vCallM_e5, vCallMV_e5, vCallS_e5, vCallSV_e5, vCallM_e6, vCallMV_e6, vCallS_e6, vCallSV_e6, vCallM_e7, vCallMV_e7, vCallS_e7, vCallSV_e7, vBad_e, vStrVal_e, vStrCod_e, vForm_e, vCallT_e0, vCallT_e1, vCallT_e2, vCopy_e, rf_0_0, rf_0_1, rf_0_2, rf_0_3, rf_0_4, rf_0_7, rf_0_10, rf_0_11, rf_0_12, rf_0_13, rf_0_14, rf_0_15, rf_0_16, rf_1_0, rf_3_0, rf_3_1, rf_6_0, rf_6_1, rf_9_0, rf_9_1, rf_9_3, rf_13_0, rf_13_1, rf_13_2, rf_16_0, rf_16_1, rf_16_2, rf_16_3, rf_21_0, rf_21_1, rf_21_2, rf_21_3, rf_26_0, rf_26_1, rf_26_2, rf_26_3, rf_26_4, rf_26_5, rf_26_6, rf_31_0, rf_31_2, rf_31_5, rf_31_6, rf_36_0, rf_36_1, rf_36_2, rf_36_3, rf_39_0, rf_39_1, rf_39_2, rf_41_0, rf_41_1, rf_41_2, rf_41_3, rf_5000_1, rf_5000_2, rf_5000_3, rf_5000_4, rf_5000_5, rf_5000_15, rf_5000_16, rf_5000_18, rf_5000_19, rf_5000_20, rf_5000_21, rf_5000_22, rf_5000_23, rf_5000_24, rf_5000_25, rf_5000_26, rf_5000_27, rf_5000_36, rf_5000_37, rf_5000_40, rf_5000_41, rf_5000_42, rf_5000_43, rf_5000_44, rf_5000_45, rf_5000_47, rf_5000_52, rf_5000_54, rf_5000_55, rf_100_0, rf_100_1, rf_103_0, rf_103_1, rf_106_0, rf_106_1, rf_109_0, rf_109_1, al_2, al_4, al_5, al_7, al_8, al_10, al_11, al_12, al_14, al_15, al_17, al_18, al_19, al_20, al_22, al_23, al_24, al_25, al_27, al_28, al_29, al_30, al_32, al_33, al_34, al_35, al_37, al_38, al_40, al_42, al_5001, al_5002, al_5003, al_5004, al_5005, al_5006, al_5007, al_5008, al_5009, al_5010, al_5011, al_5012, al_5013, al_5014, al_5015, al_5016, al_5017, al_5018, al_5019, al_5020, al_5021, al_5022, al_5023, al_5024, al_5025, al_5026, al_9000, al_101, al_102, al_104, al_105, al_107, al_108, al_110, al_111, vcs_e, lg_c0, lg_cs, lg_nil, set_c0, set_cs, okst_0, okst_s, acok_n, acok_c, List.contains_nil, List.contains_cons, Bool.or_false, Bool.false_or, Bool.false_eq_true, if_false, if_true, ite_self, ne_eq, true_and, and_true, not_false_eq_true, not_true_eq_false, false_imp_iff, true_imp_iff, Nat.ble_eq, Bool.and_eq_true, reduceCtorEq, or_false, false_or, or_true, true_or, false_and, and_false, and_self, Int.reduceLE, Int.reduceAdd, Int.reduceSub, Int.reduceMul, Int.reduceNeg, Int.reduceLT, Int.reduceEq, Int.reduceNe, Nat.reduceBEq, Nat.reduceBNe, Nat.reduceEqDiff, amCmp_in, amCmp_lt, amCmp_le, amCmp_gt, amCmp_ge, amCmp_eq, amCmp_ne, Nat.reduceLeDiff, Nat.reduceSub, Bool.and_true, Bool.true_and, Bool.and_self, Bool.or_true, Bool.true_or, isRf_3, isRf_4, isRf_5, isRf_8, isRf_9, isRf_10, isRf_11, isRf_15, isRf_16, isRf_17, isRf_18, isRf_19, isRf_20, isRf_21, isRf_22, isRf_23, isRf_24, isRf_25, isRf_26, isRf_27, isRf_28, k_X12_feels_0, k_X12_feels_1, k_X12_feels_2, k_X12_feels_5, k_X12_feels_6, k_X12_feels_7, k_X12_feels_10, k_X12_feels_13, k_X12_feels_14, k_X12_feels_15, k_X12_feels_18, k_X12_feels_21, k_X12_feels_22, k_X12_feels_23, k_X12_feels_24, k_X12_feels_25, k_X12_feels_28, k_X12_feels_31, k_X12_feels_34, k_X12_feels_35, k_X12_feels_36, k_X12_feels_37, k_X12_feels_40, k_X12_feels_41, k_X12_feels_44, k_X12_feels_46, k_X12_feels_47, k_X12_feels_50, k_X12_feels_51, k_X12_feels_54, k_X12_feels_55, k_X12_feels_56, k_X12_feels_59, k_X12_feels_60, k_X12_feels_63, k_X12_feels_64, k_X12_feels_65, w_X12_goPlay_e, w_X12_isChair_e, w_X12_isIn_e, w_X12_isPlay_e, up_s, up_nj, up_na, up_up, savR_o, cpy_o, fillm_o, setAud_o, setv_o, setv_s, Int.reduceNe, Int.reduceEq, Int.reduceLT, Int.reduceAdd, not_false_eq_true, ne_eq, or_true, true_or, e28, e29, if_pos d, if_neg g]
      repeat' (first | assumption | exact hP | apply And.intro | intro _)
      all_goals first | omega | exact absurd trivial (by assumption) | exact q8 | exact Or.inl rfl
  · have q8 := h1 (by omega)
    refine am_m0 (own := RX12) (A := look a_X12_feels) (fun X e1 e2 hB => o_X12_feels e1 e2 hB) rfl (by decide +kernel) rfl rfl 190 (w := 5) ?_
    change vcs _ _ _ _ 190 0 [(28, 5000), (0, c), (0, p), (0, w), (6, 0)] [] σ
    simp only [↓reduceIte, inR_0, inR_1, inR_m, vSw2_e, swP_n, swP_c, vI_e, vL_e, vNull_e, vIload_e, vLload_e, vAload_e, vIstore_e, vLstore_e, vAstore_e, vIinc_e, vIadd_e, vIsub_e, vImul_e, vIand_e, vIor_e, vIxor_e, vIshl_e, vIshr_e, vIushr_e, vIdiv_e, vIrem_e, vLadd_e, vLsub_e, vLmul_e, vLand_e, vLor_e, vLxor_e, vLdiv_e, vLrem_e, vLushr_e, vLshl_e, vLcmp_e, vIneg_e, vI2l_e, vL2i_e, vI2b_e, vI2c_e, vDup_e, vPop_e, vDup2_e, vGoto_e, vIcEq_e, vIfEq_e, vIcNe_e, vIfNe_e, vIcLt_e, vIfLt_e, vIcGe_e, vIfGe_e, vIcGt_e, vIfGt_e, vIcLe_e, vIfLe_e, vNonnull_e, vSw_e, vGetI_e, vGetL_e, vGetR_e, vPutI_e, vPutZ_e, vPutL_e, vPutR_e, vIald_e, vIald_s, vLald_e, vBald_e, vBald_s, vAald_e, vIast_e, vLast_e, vBast_e, vAast_e, vAlen_e8, vAlen_e9, vAlen_e10, vAlen_e11, vAlen_e5, vAlen_e3, vGets_e, vCompact_e, vLdcS_e, vIret_e, vZret_e, vCret_e, vBret_e, vLret_e, vVret_e, vAret_e, vCallM_e0, vCallMV_e0, vCallS_e0, vCallSV_e0, vCallM_e1, vCallMV_e1, vCallS_e1, vCallSV_e1, vCallM_e2, vCallMV_e2, vCallS_e2, vCallSV_e2, vCallM_e3, vCallMV_e3, vCallS_e3, vCallSV_e3, vCallM_e4, vCallMV_e4, vCallS_e4, vCallSV_e4, vCallM_e5, vCallMV_e5, vCallS_e5, vCallSV_e5, vCallM_e6, vCallMV_e6, vCallS_e6, vCallSV_e6, vCallM_e7, vCallMV_e7, vCallS_e7, vCallSV_e7, vBad_e, vStrVal_e, vStrCod_e, vForm_e, vCallT_e0, vCallT_e1, vCallT_e2, vCopy_e, rf_0_0, rf_0_1, rf_0_2, rf_0_3, rf_0_4, rf_0_7, rf_0_10, rf_0_11, rf_0_12, rf_0_13, rf_0_14, rf_0_15, rf_0_16, rf_1_0, rf_3_0, rf_3_1, rf_6_0, rf_6_1, rf_9_0, rf_9_1, rf_9_3, rf_13_0, rf_13_1, rf_13_2, rf_16_0, rf_16_1, rf_16_2, rf_16_3, rf_21_0, rf_21_1, rf_21_2, rf_21_3, rf_26_0, rf_26_1, rf_26_2, rf_26_3, rf_26_4, rf_26_5, rf_26_6, rf_31_0, rf_31_2, rf_31_5, rf_31_6, rf_36_0, rf_36_1, rf_36_2, rf_36_3, rf_39_0, rf_39_1, rf_39_2, rf_41_0, rf_41_1, rf_41_2, rf_41_3, rf_5000_1, rf_5000_2, rf_5000_3, rf_5000_4, rf_5000_5, rf_5000_15, rf_5000_16, rf_5000_18, rf_5000_19, rf_5000_20, rf_5000_21, rf_5000_22, rf_5000_23, rf_5000_24, rf_5000_25, rf_5000_26, rf_5000_27, rf_5000_36, rf_5000_37, rf_5000_40, rf_5000_41, rf_5000_42, rf_5000_43, rf_5000_44, rf_5000_45, rf_5000_47, rf_5000_52, rf_5000_54, rf_5000_55, rf_100_0, rf_100_1, rf_103_0, rf_103_1, rf_106_0, rf_106_1, rf_109_0, rf_109_1, al_2, al_4, al_5, al_7, al_8, al_10, al_11, al_12, al_14, al_15, al_17, al_18, al_19, al_20, al_22, al_23, al_24, al_25, al_27, al_28, al_29, al_30, al_32, al_33, al_34, al_35, al_37, al_38, al_40, al_42, al_5001, al_5002, al_5003, al_5004, al_5005, al_5006, al_5007, al_5008, al_5009, al_5010, al_5011, al_5012, al_5013, al_5014, al_5015, al_5016, al_5017, al_5018, al_5019, al_5020, al_5021, al_5022, al_5023, al_5024, al_5025, al_5026, al_9000, al_101, al_102, al_104, al_105, al_107, al_108, al_110, al_111, vcs_e, lg_c0, lg_cs, lg_nil, set_c0, set_cs, okst_0, okst_s, acok_n, acok_c, List.contains_nil, List.contains_cons, Bool.or_false, Bool.false_or, Bool.false_eq_true, if_false, if_true, ite_self, ne_eq, true_and, and_true, not_false_eq_true, not_true_eq_false, false_imp_iff, true_imp_iff, Nat.ble_eq, Bool.and_eq_true, reduceCtorEq, or_false, false_or, or_true, true_or, false_and, and_false, and_self, Int.reduceLE, Int.reduceAdd, Int.reduceSub, Int.reduceMul, Int.reduceNeg, Int.reduceLT, Int.reduceEq, Int.reduceNe, Nat.reduceBEq, Nat.reduceBNe, Nat.reduceEqDiff, amCmp_in, amCmp_lt, amCmp_le, amCmp_gt, amCmp_ge, amCmp_eq, amCmp_ne, Nat.reduceLeDiff, Nat.reduceSub, Bool.and_true, Bool.true_and, Bool.and_self, Bool.or_true, Bool.true_or, isRf_3, isRf_4, isRf_5, isRf_8, isRf_9, isRf_10, isRf_11, isRf_15, isRf_16, isRf_17, isRf_18, isRf_19, isRf_20, isRf_21, isRf_22, isRf_23, isRf_24, isRf_25, isRf_26, isRf_27, isRf_28, k_X12_feels_0, k_X12_feels_1, k_X12_feels_2, k_X12_feels_5, k_X12_feels_6, k_X12_feels_7, k_X12_feels_10, k_X12_feels_13, k_X12_feels_14, k_X12_feels_15, k_X12_feels_18, k_X12_feels_21, k_X12_feels_22, k_X12_feels_23, k_X12_feels_24, k_X12_feels_25, k_X12_feels_28, k_X12_feels_31, k_X12_feels_34, k_X12_feels_35, k_X12_feels_36, k_X12_feels_37, k_X12_feels_40, k_X12_feels_41, k_X12_feels_44, k_X12_feels_46, k_X12_feels_47, k_X12_feels_50, k_X12_feels_51, k_X12_feels_54, k_X12_feels_55, k_X12_feels_56, k_X12_feels_59, k_X12_feels_60, k_X12_feels_63, k_X12_feels_64, k_X12_feels_65, w_X12_goPlay_e, w_X12_isChair_e, w_X12_isIn_e, w_X12_isPlay_e, up_s, up_nj, up_na, up_up, savR_o, cpy_o, fillm_o, setAud_o, setv_o, setv_s, Int.reduceNe, Int.reduceEq, Int.reduceLT, Int.reduceAdd, not_false_eq_true, ne_eq, or_true, true_or, e28, e29, if_neg d]
    repeat' (first | assumption | exact hP | apply And.intro | intro _)
    all_goals first | omega | exact absurd trivial (by assumption) | exact q8 | exact Or.inl rfl
theorem wd_1898 : Cond.constantLong RX12 484 100 ∈ TBL := tb_tab (List.mem_of_getElem? (i := 1898) (by decide +kernel)) rfl
def a_X12_odds : AC := [(0, vAload 0 1), (1, vI 0 2), (2, vPutI 28 0 5), (5, vAload 0 6), (6, vIload 1 7), (7, vCallM w_X12_isChair 28 1 10), (10, vIfEq 33 13), (13, vAload 0 14), (14, vIload 2 15), (15, vCallM w_X12_isPlay 28 1 18), (18, vIfEq 33 21), (21, vIload 3 22), (22, vI2l 23), (23, vL 0 24), (24, vL 100 27), (27, vCallS w_X12_isIn 3 30), (30, vIfNe 35 33), (33, vI (-1) 34), (34, vIret), (35, vAload 0 36), (36, vAload 0 37), (37, vGetR TT 28 36 8 40), (40, vIload 2 41), (41, vCallM w_X12_goPlay 28 2 44), (44, vIstore 4 46), (46, vAload 0 47), (47, vGetR TT 28 42 8 50), (50, vIload 1 51), (51, vIald TT 52), (52, vIfLe 71 55), (55, vIload 4 57), (57, vIload 1 58), (58, vCallS w_X12_has 2 61), (61, vIfNe 71 64), (64, vI 100 66), (66, vIload 3 67), (67, vIsub 68), (68, vGoto 72), (71, vI 0 72), (72, vIret)]
theorem k_X12_odds_0 : look a_X12_odds 0 = vAload 0 1 := rfl
theorem k_X12_odds_1 : look a_X12_odds 1 = vI 0 2 := rfl
theorem k_X12_odds_2 : look a_X12_odds 2 = vPutI 28 0 5 := rfl
theorem k_X12_odds_5 : look a_X12_odds 5 = vAload 0 6 := rfl
theorem k_X12_odds_6 : look a_X12_odds 6 = vIload 1 7 := rfl
theorem k_X12_odds_7 : look a_X12_odds 7 = vCallM w_X12_isChair 28 1 10 := rfl
theorem k_X12_odds_10 : look a_X12_odds 10 = vIfEq 33 13 := rfl
theorem k_X12_odds_13 : look a_X12_odds 13 = vAload 0 14 := rfl
theorem k_X12_odds_14 : look a_X12_odds 14 = vIload 2 15 := rfl
theorem k_X12_odds_15 : look a_X12_odds 15 = vCallM w_X12_isPlay 28 1 18 := rfl
theorem k_X12_odds_18 : look a_X12_odds 18 = vIfEq 33 21 := rfl
theorem k_X12_odds_21 : look a_X12_odds 21 = vIload 3 22 := rfl
theorem k_X12_odds_22 : look a_X12_odds 22 = vI2l 23 := rfl
theorem k_X12_odds_23 : look a_X12_odds 23 = vL 0 24 := rfl
theorem k_X12_odds_24 : look a_X12_odds 24 = vL 100 27 := rfl
theorem k_X12_odds_27 : look a_X12_odds 27 = vCallS w_X12_isIn 3 30 := rfl
theorem k_X12_odds_30 : look a_X12_odds 30 = vIfNe 35 33 := rfl
theorem k_X12_odds_33 : look a_X12_odds 33 = vI (-1) 34 := rfl
theorem k_X12_odds_34 : look a_X12_odds 34 = vIret := rfl
theorem k_X12_odds_35 : look a_X12_odds 35 = vAload 0 36 := rfl
theorem k_X12_odds_36 : look a_X12_odds 36 = vAload 0 37 := rfl
theorem k_X12_odds_37 : look a_X12_odds 37 = vGetR TT 28 36 8 40 := rfl
theorem k_X12_odds_40 : look a_X12_odds 40 = vIload 2 41 := rfl
theorem k_X12_odds_41 : look a_X12_odds 41 = vCallM w_X12_goPlay 28 2 44 := rfl
theorem k_X12_odds_44 : look a_X12_odds 44 = vIstore 4 46 := rfl
theorem k_X12_odds_46 : look a_X12_odds 46 = vAload 0 47 := rfl
theorem k_X12_odds_47 : look a_X12_odds 47 = vGetR TT 28 42 8 50 := rfl
theorem k_X12_odds_50 : look a_X12_odds 50 = vIload 1 51 := rfl
theorem k_X12_odds_51 : look a_X12_odds 51 = vIald TT 52 := rfl
theorem k_X12_odds_52 : look a_X12_odds 52 = vIfLe 71 55 := rfl
theorem k_X12_odds_55 : look a_X12_odds 55 = vIload 4 57 := rfl
theorem k_X12_odds_57 : look a_X12_odds 57 = vIload 1 58 := rfl
theorem k_X12_odds_58 : look a_X12_odds 58 = vCallS w_X12_has 2 61 := rfl
theorem k_X12_odds_61 : look a_X12_odds 61 = vIfNe 71 64 := rfl
theorem k_X12_odds_64 : look a_X12_odds 64 = vI 100 66 := rfl
theorem k_X12_odds_66 : look a_X12_odds 66 = vIload 3 67 := rfl
theorem k_X12_odds_67 : look a_X12_odds 67 = vIsub 68 := rfl
theorem k_X12_odds_68 : look a_X12_odds 68 = vGoto 72 := rfl
theorem k_X12_odds_71 : look a_X12_odds 71 = vI 0 72 := rfl
theorem k_X12_odds_72 : look a_X12_odds 72 = vIret := rfl
theorem o_X12_odds {X : amX} (e1 : XT X = TT) (e2 : XD X = 60) (hB : amB X RX12 cX12_odds (some .int) 5) : ∀ pc, amOK X pc (look a_X12_odds pc) := by
  have hT : amTok (XT X) := e1 ▸ TT_ok
  refine look_ok ?_
  unfold a_X12_odds
  refine fc (ok_aload_n hB dX12_odds_0) ?_
  refine fc (ok_iconst hB dX12_odds_1) ?_
  refine fc (ok_putI hB hT fp_X12_111 rfl rfl rfl af_12_0 dX12_odds_2) ?_
  refine fc (ok_aload_n hB dX12_odds_5) ?_
  refine fc (ok_iload_n hB dX12_odds_6) ?_
  refine fc (ok_callM hB hT (e1 ▸ s_X12_isChair) lk_X12_371 (by rw [e2]; decide) (c := 12) rfl rfl rfl wd_1661 sl_X12_isChair dX12_odds_7) ?_
  refine fc (ok_if_eq hB (t := 33) (by decide) dX12_odds_10) ?_
  refine fc (ok_aload_n hB dX12_odds_13) ?_
  refine fc (ok_iload_n hB dX12_odds_14) ?_
  refine fc (ok_callM hB hT (e1 ▸ s_X12_isPlay) lk_X12_366 (by rw [e2]; decide) (c := 12) rfl rfl rfl wd_1652 sl_X12_isPlay dX12_odds_15) ?_
  refine fc (ok_if_eq hB (t := 33) (by decide) dX12_odds_18) ?_
  refine fc (ok_iload_n hB dX12_odds_21) ?_
  refine fc (ok_i2l hB dX12_odds_22) ?_
  refine fc (ok_lconst hB (z := 0) (by decide) dX12_odds_23) ?_
  refine fc (ok_ldc2 hB wd_1898 rfl dX12_odds_24) ?_
  refine fc (ok_callS hB (e1 ▸ s_X12_isIn) lk_X12_232 (by rw [e2]; decide) wd_1502 dX12_odds_27) ?_
  refine fc (ok_if_ne hB (t := 35) (by decide) dX12_odds_30) ?_
  refine fc (ok_iconst hB dX12_odds_33) ?_
  refine fc (ok_iret hB dX12_odds_34) ?_
  refine fc (ok_aload_n hB dX12_odds_35) ?_
  refine fc (ok_aload_n hB dX12_odds_36) ?_
  refine fc (okt_getR e1 hB hT fl_X12_67 rfl af_12_36 at_12_36 (by decide) dX12_odds_37) ?_
  refine fc (ok_iload_n hB dX12_odds_40) ?_
  refine fc (ok_callM hB hT (e1 ▸ s_X12_goPlay) lk_X12_362 (by rw [e2]; decide) (c := 12) rfl rfl rfl wd_1698 sl_X12_goPlay dX12_odds_41) ?_
  refine fc (ok_istore hB (by decide) dX12_odds_44) ?_
  refine fc (ok_aload_n hB dX12_odds_46) ?_
  refine fc (okt_getR e1 hB hT fl_X12_87 rfl af_12_42 at_12_42 (by decide) dX12_odds_47) ?_
  refine fc (ok_iload_n hB dX12_odds_50) ?_
  refine fc (okt_iaload e1 hB dX12_odds_51) ?_
  refine fc (ok_if_le hB (t := 71) (by decide) dX12_odds_52) ?_
  refine fc (ok_iload hB dX12_odds_55) ?_
  refine fc (ok_iload_n hB dX12_odds_57) ?_
  refine fc (ok_callS hB (e1 ▸ s_X12_has) lk_X12_244 (by rw [e2]; decide) wd_1538 dX12_odds_58) ?_
  refine fc (ok_if_ne hB (t := 71) (by decide) dX12_odds_61) ?_
  refine fc (ok_bipush hB dX12_odds_64 (by decide)) ?_
  refine fc (ok_iload_n hB dX12_odds_66) ?_
  refine fc (ok_isub hB dX12_odds_67) ?_
  refine fc (ok_goto hB (t := 72) (by decide) dX12_odds_68) ?_
  refine fc (ok_iconst hB dX12_odds_71) ?_
  refine fc (ok_iret hB dX12_odds_72) ?_
  exact fn

def w_X12_odds : WP := fun av σ Q => ∃ (c : Int) (p : Int) (w : Int), av = [(28, 5000), (0, c), (0, p), (0, w)] ∧ (InR c ∧ InR p ∧ InR w ∧ mX σ 5015 ∧ (¬ (0 ≤ c ∧ c < σ 5000 29 ∧ 0 ≤ p ∧ p < σ 5000 28 ∧ 0 ≤ w ∧ w ≤ 100) → Q (0, -1) (th0 σ)) ∧ (0 ≤ c ∧ c < σ 5000 29 ∧ 0 ≤ p ∧ p < σ 5000 28 ∧ 0 ≤ w ∧ w ≤ 100 → ∀ τ, PF (th0 σ) τ → mOk τ → Q (0, if 0 < mFl (th0 σ) 5015 p (mMi (th0 σ) p) c ∧ mOa (th0 σ) 5015 p (mMi (th0 σ) p) c = -1 then 100 - w else 0) τ))
theorem w_X12_odds_e (c : Int) (p : Int) (w : Int) (σ : Mem) (Q : AV → Mem → Prop) : w_X12_odds [(28, 5000), (0, c), (0, p), (0, w)] σ Q = (InR c ∧ InR p ∧ InR w ∧ mX σ 5015 ∧ (¬ (0 ≤ c ∧ c < σ 5000 29 ∧ 0 ≤ p ∧ p < σ 5000 28 ∧ 0 ≤ w ∧ w ≤ 100) → Q (0, -1) (th0 σ)) ∧ (0 ≤ c ∧ c < σ 5000 29 ∧ 0 ≤ p ∧ p < σ 5000 28 ∧ 0 ≤ w ∧ w ≤ 100 → ∀ τ, PF (th0 σ) τ → mOk τ → Q (0, if 0 < mFl (th0 σ) 5015 p (mMi (th0 σ) p) c ∧ mOa (th0 σ) 5015 p (mMi (th0 σ) p) c = -1 then 100 - w else 0) τ)) := by
  apply propext; constructor
  · rintro ⟨c', p', w', h9, hb9⟩; cases h9; exact hb9
  · intro hb9; exact ⟨c, p, w, rfl, hb9⟩

set_option maxRecDepth 100000 in
set_option maxHeartbeats 4000000 in
theorem s_X12_odds : ∀ av σ Q, w_X12_odds av σ Q → amCall 60 0 0 TT yX12_odds cX12_odds 5 (some .int) av σ Q := by
  rintro av σ Q ⟨c, p, w, rfl, hc, hp, hw, hx, h1, h2⟩
  have e28 : th0 σ 5000 28 = σ 5000 28 := th_k σ (by decide)
  have e29 : th0 σ 5000 29 = σ 5000 29 := th_k σ (by decide)
  have n29 := hx.2.1.2.2.1
  have n28 := hx.2.1.2.2.2.2.1
  have hP := mX_P (mX_th hx)
  have t7 : th0 σ 5007 = σ 5007 := th_o σ (by decide)
  by_cases d : 0 ≤ c ∧ c < σ 5000 29
  · by_cases g : 0 ≤ p ∧ p < σ 5000 28
    · have hq := fun (k : 0 ≤ w ∧ w ≤ 100) => h2 ⟨d.1, d.2, g.1, g.2, k.1, k.2⟩
      have hMb := hP.2.2.2.2.2.2.2.1 (4 * p + 3) (by omega) (by omega)
      have ob := mOu_b (th0 σ) 5015 p (by rw [e29]; omega) (mMi (th0 σ) p)
      have b01 := bt_b (mOu (th0 σ) 5015 p (mMi (th0 σ) p)) c
      have oo := mOu_oa (σ := th0 σ) (w := 5015) (p := p) (by rw [e29]; omega) d.1 (by rw [e29]; omega) (mMi (th0 σ) p)
      have fb := mFl_b (σ := th0 σ) (w := 5015) (p := p) (c := c.toNat) (by rw [e29]; omega) (mMi (th0 σ) p)
      rw [show ((c.toNat : Nat) : Int) = c by omega] at fb
      have fb9 : mFl (th0 σ) 5015 p (mMi (th0 σ) p) c ≤ 891 := by
        have : mMi (th0 σ) p ≤ 9 := by unfold mMi; omega
        omega
      refine am_m0 (own := RX12) (A := look a_X12_odds) (fun X e1 e2 hB => o_X12_odds e1 e2 hB) rfl (by decide +kernel) rfl rfl 190 (w := 5) ?_
      change vcs _ _ _ _ 190 0 [(28, 5000), (0, c), (0, p), (0, w), (6, 0)] [] σ
      simp only [↓reduceIte, inR_0, inR_1, inR_m, vSw2_e, swP_n, swP_c, vI_e, vL_e, vNull_e, vIload_e, vLload_e, vAload_e, vIstore_e, vLstore_e, vAstore_e, vIinc_e, vIadd_e, vIsub_e, vImul_e, vIand_e, vIor_e, vIxor_e, vIshl_e, vIshr_e, vIushr_e, vIdiv_e, vIrem_e, vLadd_e, vLsub_e, vLmul_e, vLand_e, vLor_e, vLxor_e, vLdiv_e, vLrem_e, vLushr_e, vLshl_e, vLcmp_e, vIneg_e, vI2l_e, vL2i_e, vI2b_e, vI2c_e, vDup_e, vPop_e, vDup2_e, vGoto_e, vIcEq_e, vIfEq_e, vIcNe_e, vIfNe_e, vIcLt_e, vIfLt_e, vIcGe_e, vIfGe_e, vIcGt_e, vIfGt_e, vIcLe_e, vIfLe_e, vNonnull_e, vSw_e, vGetI_e, vGetL_e, vGetR_e, vPutI_e, vPutZ_e, vPutL_e, vPutR_e, vIald_e, vIald_s, vLald_e, vBald_e, vBald_s, vAald_e, vIast_e, vLast_e, vBast_e, vAast_e, vAlen_e8, vAlen_e9, vAlen_e10, vAlen_e11, vAlen_e5, vAlen_e3, vGets_e, vCompact_e, vLdcS_e, vIret_e, vZret_e, vCret_e, vBret_e, vLret_e, vVret_e, vAret_e, vCallM_e0, vCallMV_e0, vCallS_e0, vCallSV_e0, vCallM_e1, vCallMV_e1, vCallS_e1, vCallSV_e1, vCallM_e2, vCallMV_e2, vCallS_e2, vCallSV_e2, vCallM_e3, vCallMV_e3, vCallS_e3, vCallSV_e3, vCallM_e4, vCallMV_e4, vCallS_e4, vCallSV_e4, vCallM_e5, vCallMV_e5, vCallS_e5, vCallSV_e5, vCallM_e6, vCallMV_e6, vCallS_e6, vCallSV_e6, vCallM_e7, vCallMV_e7, vCallS_e7, vCallSV_e7, vBad_e, vStrVal_e, vStrCod_e, vForm_e, vCallT_e0, vCallT_e1, vCallT_e2, vCopy_e, rf_0_0, rf_0_1, rf_0_2, rf_0_3, rf_0_4, rf_0_7, rf_0_10, rf_0_11, rf_0_12, rf_0_13, rf_0_14, rf_0_15, rf_0_16, rf_1_0, rf_3_0, rf_3_1, rf_6_0, rf_6_1, rf_9_0, rf_9_1, rf_9_3, rf_13_0, rf_13_1, rf_13_2, rf_16_0, rf_16_1, rf_16_2, rf_16_3, rf_21_0, rf_21_1, rf_21_2, rf_21_3, rf_26_0, rf_26_1, rf_26_2, rf_26_3, rf_26_4, rf_26_5, rf_26_6, rf_31_0, rf_31_2, rf_31_5, rf_31_6, rf_36_0, rf_36_1, rf_36_2, rf_36_3, rf_39_0, rf_39_1, rf_39_2, rf_41_0, rf_41_1, rf_41_2, rf_41_3, rf_5000_1, rf_5000_2, rf_5000_3, rf_5000_4, rf_5000_5, rf_5000_15, rf_5000_16, rf_5000_18, rf_5000_19, rf_5000_20, rf_5000_21, rf_5000_22, rf_5000_23, rf_5000_24, rf_5000_25, rf_5000_26, rf_5000_27, rf_5000_36, rf_5000_37, rf_5000_40, rf_5000_41, rf_5000_42, rf_5000_43, rf_5000_44, rf_5000_45, rf_5000_47, rf_5000_52, rf_5000_54, rf_5000_55, rf_100_0, rf_100_1, rf_103_0, rf_103_1, rf_106_0, rf_106_1, rf_109_0, rf_109_1, al_2, al_4, al_5, al_7, al_8, al_10, al_11, al_12, al_14, al_15, al_17, al_18, al_19, al_20, al_22, al_23, al_24, al_25, al_27, al_28, al_29, al_30, al_32, al_33, al_34, al_35, al_37, al_38, al_40, al_42, al_5001, al_5002, al_5003, al_5004, al_5005, al_5006, al_5007, al_5008, al_5009, al_5010, al_5011, al_5012, al_5013, al_5014, al_5015, al_5016, al_5017, al_5018, al_5019, al_5020, al_5021, al_5022, al_5023, al_5024, al_5025, al_5026, al_9000, al_101, al_102, al_104, al_105, al_107, al_108, al_110, al_111, vcs_e, lg_c0, lg_cs, lg_nil, set_c0, set_cs, okst_0, okst_s, acok_n, acok_c, List.contains_nil, List.contains_cons, Bool.or_false, Bool.false_or, Bool.false_eq_true, if_false, if_true, ite_self, ne_eq, true_and, and_true, not_false_eq_true, not_true_eq_false, false_imp_iff, true_imp_iff, Nat.ble_eq, Bool.and_eq_true, reduceCtorEq, or_false, false_or, or_true, true_or, false_and, and_false, and_self, Int.reduceLE, Int.reduceAdd, Int.reduceSub, Int.reduceMul, Int.reduceNeg, Int.reduceLT, Int.reduceEq, Int.reduceNe, Nat.reduceBEq, Nat.reduceBNe, Nat.reduceEqDiff, amCmp_in, amCmp_lt, amCmp_le, amCmp_gt, amCmp_ge, amCmp_eq, amCmp_ne, Nat.reduceLeDiff, Nat.reduceSub, Bool.and_true, Bool.true_and, Bool.and_self, Bool.or_true, Bool.true_or, isRf_3, isRf_4, isRf_5, isRf_8, isRf_9, isRf_10, isRf_11, isRf_15, isRf_16, isRf_17, isRf_18, isRf_19, isRf_20, isRf_21, isRf_22, isRf_23, isRf_24, isRf_25, isRf_26, isRf_27, isRf_28, k_X12_odds_0, k_X12_odds_1, k_X12_odds_2, k_X12_odds_5, k_X12_odds_6, k_X12_odds_7, k_X12_odds_10, k_X12_odds_13, k_X12_odds_14, k_X12_odds_15, k_X12_odds_18, k_X12_odds_21, k_X12_odds_22, k_X12_odds_23, k_X12_odds_24, k_X12_odds_27, k_X12_odds_30, k_X12_odds_33, k_X12_odds_34, k_X12_odds_35, k_X12_odds_36, k_X12_odds_37, k_X12_odds_40, k_X12_odds_41, k_X12_odds_44, k_X12_odds_46, k_X12_odds_47, k_X12_odds_50, k_X12_odds_51, k_X12_odds_52, k_X12_odds_55, k_X12_odds_57, k_X12_odds_58, k_X12_odds_61, k_X12_odds_64, k_X12_odds_66, k_X12_odds_67, k_X12_odds_68, k_X12_odds_71, k_X12_odds_72, w_X12_goPlay_e, w_X12_has_e, w_X12_isChair_e, w_X12_isIn_e, w_X12_isPlay_e, up_s, up_nj, up_na, up_up, savR_o, cpy_o, fillm_o, setAud_o, setv_o, setv_s, Int.reduceNe, Int.reduceEq, Int.reduceLT, Int.reduceAdd, not_false_eq_true, ne_eq, or_true, true_or, e28, e29, if_pos d, if_pos g]
      by_cases k : 0 ≤ w ∧ w ≤ 100
      · rw [if_pos k]
        have fe : ∀ τ : Mem, (∀ j, 0 ≤ j → j < σ 5000 29 → τ 5019 j = mFl (th0 σ) 5015 p (mMi (th0 σ) p) j ∧ τ 5020 j = mOa (th0 σ) 5015 p (mMi (th0 σ) p) j) → τ 5019 c = mFl (th0 σ) 5015 p (mMi (th0 σ) p) c := fun τ f => (f c d.1 d.2).1
        have qa : ∀ τ, PF (th0 σ) τ → mOk τ → ¬ mFl (th0 σ) 5015 p (mMi (th0 σ) p) c ≤ 0 → bt (mOu (th0 σ) 5015 p (mMi (th0 σ) p)) c = 0 → Q (0, 100 - w) τ := fun τ a b f1 f2 => by
          have := hq k τ a b
          rw [if_pos ⟨by omega, by
            by_cases z : mOa (th0 σ) 5015 p (mMi (th0 σ) p) c = -1
            · exact z
            · have := oo.mpr z; omega⟩] at this; exact this
        have qb : ∀ τ, PF (th0 σ) τ → mOk τ → (mFl (th0 σ) 5015 p (mMi (th0 σ) p) c ≤ 0 ∨ ¬ bt (mOu (th0 σ) 5015 p (mMi (th0 σ) p)) c = 0) → Q (0, 0) τ := fun τ a b f1 => by
          have := hq k τ a b
          rw [if_neg (fun q => by
            rcases f1 with o | o
            · omega
            · exact (oo.mp (by omega)) q.2)] at this; exact this
        simp only [mMi, t7] at ob b01 oo fb fb9 fe qa qb
        unfold th0 at ob b01 oo fb fb9 fe qa qb
        repeat' (first | assumption | exact hP | apply And.intro | intro _)
        all_goals first | omega | exact absurd trivial (by assumption) | exact Or.inl rfl | skip
        all_goals (have fe9 := fe _ (by assumption); simp only [fe9] at *; first | omega | exact qa _ (by assumption) (by assumption) (by assumption) (by assumption) | exact qb _ (by assumption) (by assumption) (by omega))
      · rw [if_neg k]
        have q8 := h1 (by omega)
        repeat' (first | assumption | exact hP | apply And.intro | intro _)
        all_goals first | omega | exact absurd trivial (by assumption) | exact q8 | exact Or.inl rfl
    · have q8 := h1 (by omega)
      refine am_m0 (own := RX12) (A := look a_X12_odds) (fun X e1 e2 hB => o_X12_odds e1 e2 hB) rfl (by decide +kernel) rfl rfl 190 (w := 5) ?_
      change vcs _ _ _ _ 190 0 [(28, 5000), (0, c), (0, p), (0, w), (6, 0)] [] σ
      simp only [↓reduceIte, inR_0, inR_1, inR_m, vSw2_e, swP_n, swP_c, vI_e, vL_e, vNull_e, vIload_e, vLload_e, vAload_e, vIstore_e, vLstore_e, vAstore_e, vIinc_e, vIadd_e, vIsub_e, vImul_e, vIand_e, vIor_e, vIxor_e, vIshl_e, vIshr_e, vIushr_e, vIdiv_e, vIrem_e, vLadd_e, vLsub_e, vLmul_e, vLand_e, vLor_e, vLxor_e, vLdiv_e, vLrem_e, vLushr_e, vLshl_e, vLcmp_e, vIneg_e, vI2l_e, vL2i_e, vI2b_e, vI2c_e, vDup_e, vPop_e, vDup2_e, vGoto_e, vIcEq_e, vIfEq_e, vIcNe_e, vIfNe_e, vIcLt_e, vIfLt_e, vIcGe_e, vIfGe_e, vIcGt_e, vIfGt_e, vIcLe_e, vIfLe_e, vNonnull_e, vSw_e, vGetI_e, vGetL_e, vGetR_e, vPutI_e, vPutZ_e, vPutL_e, vPutR_e, vIald_e, vIald_s, vLald_e, vBald_e, vBald_s, vAald_e, vIast_e, vLast_e, vBast_e, vAast_e, vAlen_e8, vAlen_e9, vAlen_e10, vAlen_e11, vAlen_e5, vAlen_e3, vGets_e, vCompact_e, vLdcS_e, vIret_e, vZret_e, vCret_e, vBret_e, vLret_e, vVret_e, vAret_e, vCallM_e0, vCallMV_e0, vCallS_e0, vCallSV_e0, vCallM_e1, vCallMV_e1, vCallS_e1, vCallSV_e1, vCallM_e2, vCallMV_e2, vCallS_e2, vCallSV_e2, vCallM_e3, vCallMV_e3, vCallS_e3, vCallSV_e3, vCallM_e4, vCallMV_e4, vCallS_e4, vCallSV_e4, vCallM_e5, vCallMV_e5, vCallS_e5, vCallSV_e5, vCallM_e6, vCallMV_e6, vCallS_e6, vCallSV_e6, vCallM_e7, vCallMV_e7, vCallS_e7, vCallSV_e7, vBad_e, vStrVal_e, vStrCod_e, vForm_e, vCallT_e0, vCallT_e1, vCallT_e2, vCopy_e, rf_0_0, rf_0_1, rf_0_2, rf_0_3, rf_0_4, rf_0_7, rf_0_10, rf_0_11, rf_0_12, rf_0_13, rf_0_14, rf_0_15, rf_0_16, rf_1_0, rf_3_0, rf_3_1, rf_6_0, rf_6_1, rf_9_0, rf_9_1, rf_9_3, rf_13_0, rf_13_1, rf_13_2, rf_16_0, rf_16_1, rf_16_2, rf_16_3, rf_21_0, rf_21_1, rf_21_2, rf_21_3, rf_26_0, rf_26_1, rf_26_2, rf_26_3, rf_26_4, rf_26_5, rf_26_6, rf_31_0, rf_31_2, rf_31_5, rf_31_6, rf_36_0, rf_36_1, rf_36_2, rf_36_3, rf_39_0, rf_39_1, rf_39_2, rf_41_0, rf_41_1, rf_41_2, rf_41_3, rf_5000_1, rf_5000_2, rf_5000_3, rf_5000_4, rf_5000_5, rf_5000_15, rf_5000_16, rf_5000_18, rf_5000_19, rf_5000_20, rf_5000_21, rf_5000_22, rf_5000_23, rf_5000_24, rf_5000_25, rf_5000_26, rf_5000_27, rf_5000_36, rf_5000_37, rf_5000_40, rf_5000_41, rf_5000_42, rf_5000_43, rf_5000_44, rf_5000_45, rf_5000_47, rf_5000_52, rf_5000_54, rf_5000_55, rf_100_0, rf_100_1, rf_103_0, rf_103_1, rf_106_0, rf_106_1, rf_109_0, rf_109_1, al_2, al_4, al_5, al_7, al_8, al_10, al_11, al_12, al_14, al_15, al_17, al_18, al_19, al_20, al_22, al_23, al_24, al_25, al_27, al_28, al_29, al_30, al_32, al_33, al_34, al_35, al_37, al_38, al_40, al_42, al_5001, al_5002, al_5003, al_5004, al_5005, al_5006, al_5007, al_5008, al_5009, al_5010, al_5011, al_5012, al_5013, al_5014, al_5015, al_5016, al_5017, al_5018, al_5019, al_5020, al_5021, al_5022, al_5023, al_5024, al_5025, al_5026, al_9000, al_101, al_102, al_104, al_105, al_107, al_108, al_110, al_111, vcs_e, lg_c0, lg_cs, lg_nil, set_c0, set_cs, okst_0, okst_s, acok_n, acok_c, List.contains_nil, List.contains_cons, Bool.or_false, Bool.false_or, Bool.false_eq_true, if_false, if_true, ite_self, ne_eq, true_and, and_true, not_false_eq_true, not_true_eq_false, false_imp_iff, true_imp_iff, Nat.ble_eq, Bool.and_eq_true, reduceCtorEq, or_false, false_or, or_true, true_or, false_and, and_false, and_self, Int.reduceLE, Int.reduceAdd, Int.reduceSub, Int.reduceMul, Int.reduceNeg, Int.reduceLT, Int.reduceEq, Int.reduceNe, Nat.reduceBEq, Nat.reduceBNe, Nat.reduceEqDiff, amCmp_in, amCmp_lt, amCmp_le, amCmp_gt, amCmp_ge, amCmp_eq, amCmp_ne, Nat.reduceLeDiff, Nat.reduceSub, Bool.and_true, Bool.true_and, Bool.and_self, Bool.or_true, Bool.true_or, isRf_3, isRf_4, isRf_5, isRf_8, isRf_9, isRf_10, isRf_11, isRf_15, isRf_16, isRf_17, isRf_18, isRf_19, isRf_20, isRf_21, isRf_22, isRf_23, isRf_24, isRf_25, isRf_26, isRf_27, isRf_28, k_X12_odds_0, k_X12_odds_1, k_X12_odds_2, k_X12_odds_5, k_X12_odds_6, k_X12_odds_7, k_X12_odds_10, k_X12_odds_13, k_X12_odds_14, k_X12_odds_15, k_X12_odds_18, k_X12_odds_21, k_X12_odds_22, k_X12_odds_23, k_X12_odds_24, k_X12_odds_27, k_X12_odds_30, k_X12_odds_33, k_X12_odds_34, k_X12_odds_35, k_X12_odds_36, k_X12_odds_37, k_X12_odds_40, k_X12_odds_41, k_X12_odds_44, k_X12_odds_46, k_X12_odds_47, k_X12_odds_50, k_X12_odds_51, k_X12_odds_52, k_X12_odds_55, k_X12_odds_57, k_X12_odds_58, k_X12_odds_61, k_X12_odds_64, k_X12_odds_66, k_X12_odds_67, k_X12_odds_68, k_X12_odds_71, k_X12_odds_72, w_X12_goPlay_e, w_X12_has_e, w_X12_isChair_e, w_X12_isIn_e, w_X12_isPlay_e, up_s, up_nj, up_na, up_up, savR_o, cpy_o, fillm_o, setAud_o, setv_o, setv_s, Int.reduceNe, Int.reduceEq, Int.reduceLT, Int.reduceAdd, not_false_eq_true, ne_eq, or_true, true_or, e28, e29, if_pos d, if_neg g]
      repeat' (first | assumption | exact hP | apply And.intro | intro _)
      all_goals first | omega | exact absurd trivial (by assumption) | exact q8 | exact Or.inl rfl
  · have q8 := h1 (by omega)
    refine am_m0 (own := RX12) (A := look a_X12_odds) (fun X e1 e2 hB => o_X12_odds e1 e2 hB) rfl (by decide +kernel) rfl rfl 190 (w := 5) ?_
    change vcs _ _ _ _ 190 0 [(28, 5000), (0, c), (0, p), (0, w), (6, 0)] [] σ
    simp only [↓reduceIte, inR_0, inR_1, inR_m, vSw2_e, swP_n, swP_c, vI_e, vL_e, vNull_e, vIload_e, vLload_e, vAload_e, vIstore_e, vLstore_e, vAstore_e, vIinc_e, vIadd_e, vIsub_e, vImul_e, vIand_e, vIor_e, vIxor_e, vIshl_e, vIshr_e, vIushr_e, vIdiv_e, vIrem_e, vLadd_e, vLsub_e, vLmul_e, vLand_e, vLor_e, vLxor_e, vLdiv_e, vLrem_e, vLushr_e, vLshl_e, vLcmp_e, vIneg_e, vI2l_e, vL2i_e, vI2b_e, vI2c_e, vDup_e, vPop_e, vDup2_e, vGoto_e, vIcEq_e, vIfEq_e, vIcNe_e, vIfNe_e, vIcLt_e, vIfLt_e, vIcGe_e, vIfGe_e, vIcGt_e, vIfGt_e, vIcLe_e, vIfLe_e, vNonnull_e, vSw_e, vGetI_e, vGetL_e, vGetR_e, vPutI_e, vPutZ_e, vPutL_e, vPutR_e, vIald_e, vIald_s, vLald_e, vBald_e, vBald_s, vAald_e, vIast_e, vLast_e, vBast_e, vAast_e, vAlen_e8, vAlen_e9, vAlen_e10, vAlen_e11, vAlen_e5, vAlen_e3, vGets_e, vCompact_e, vLdcS_e, vIret_e, vZret_e, vCret_e, vBret_e, vLret_e, vVret_e, vAret_e, vCallM_e0, vCallMV_e0, vCallS_e0, vCallSV_e0, vCallM_e1, vCallMV_e1, vCallS_e1, vCallSV_e1, vCallM_e2, vCallMV_e2, vCallS_e2, vCallSV_e2, vCallM_e3, vCallMV_e3, vCallS_e3, vCallSV_e3, vCallM_e4, vCallMV_e4, vCallS_e4, vCallSV_e4, vCallM_e5, vCallMV_e5, vCallS_e5, vCallSV_e5, vCallM_e6, vCallMV_e6, vCallS_e6, vCallSV_e6, vCallM_e7, vCallMV_e7, vCallS_e7, vCallSV_e7, vBad_e, vStrVal_e, vStrCod_e, vForm_e, vCallT_e0, vCallT_e1, vCallT_e2, vCopy_e, rf_0_0, rf_0_1, rf_0_2, rf_0_3, rf_0_4, rf_0_7, rf_0_10, rf_0_11, rf_0_12, rf_0_13, rf_0_14, rf_0_15, rf_0_16, rf_1_0, rf_3_0, rf_3_1, rf_6_0, rf_6_1, rf_9_0, rf_9_1, rf_9_3, rf_13_0, rf_13_1, rf_13_2, rf_16_0, rf_16_1, rf_16_2, rf_16_3, rf_21_0, rf_21_1, rf_21_2, rf_21_3, rf_26_0, rf_26_1, rf_26_2, rf_26_3, rf_26_4, rf_26_5, rf_26_6, rf_31_0, rf_31_2, rf_31_5, rf_31_6, rf_36_0, rf_36_1, rf_36_2, rf_36_3, rf_39_0, rf_39_1, rf_39_2, rf_41_0, rf_41_1, rf_41_2, rf_41_3, rf_5000_1, rf_5000_2, rf_5000_3, rf_5000_4, rf_5000_5, rf_5000_15, rf_5000_16, rf_5000_18, rf_5000_19, rf_5000_20, rf_5000_21, rf_5000_22, rf_5000_23, rf_5000_24, rf_5000_25, rf_5000_26, rf_5000_27, rf_5000_36, rf_5000_37, rf_5000_40, rf_5000_41, rf_5000_42, rf_5000_43, rf_5000_44, rf_5000_45, rf_5000_47, rf_5000_52, rf_5000_54, rf_5000_55, rf_100_0, rf_100_1, rf_103_0, rf_103_1, rf_106_0, rf_106_1, rf_109_0, rf_109_1, al_2, al_4, al_5, al_7, al_8, al_10, al_11, al_12, al_14, al_15, al_17, al_18, al_19, al_20, al_22, al_23, al_24, al_25, al_27, al_28, al_29, al_30, al_32, al_33, al_34, al_35, al_37, al_38, al_40, al_42, al_5001, al_5002, al_5003, al_5004, al_5005, al_5006, al_5007, al_5008, al_5009, al_5010, al_5011, al_5012, al_5013, al_5014, al_5015, al_5016, al_5017, al_5018, al_5019, al_5020, al_5021, al_5022, al_5023, al_5024, al_5025, al_5026, al_9000, al_101, al_102, al_104, al_105, al_107, al_108, al_110, al_111, vcs_e, lg_c0, lg_cs, lg_nil, set_c0, set_cs, okst_0, okst_s, acok_n, acok_c, List.contains_nil, List.contains_cons, Bool.or_false, Bool.false_or, Bool.false_eq_true, if_false, if_true, ite_self, ne_eq, true_and, and_true, not_false_eq_true, not_true_eq_false, false_imp_iff, true_imp_iff, Nat.ble_eq, Bool.and_eq_true, reduceCtorEq, or_false, false_or, or_true, true_or, false_and, and_false, and_self, Int.reduceLE, Int.reduceAdd, Int.reduceSub, Int.reduceMul, Int.reduceNeg, Int.reduceLT, Int.reduceEq, Int.reduceNe, Nat.reduceBEq, Nat.reduceBNe, Nat.reduceEqDiff, amCmp_in, amCmp_lt, amCmp_le, amCmp_gt, amCmp_ge, amCmp_eq, amCmp_ne, Nat.reduceLeDiff, Nat.reduceSub, Bool.and_true, Bool.true_and, Bool.and_self, Bool.or_true, Bool.true_or, isRf_3, isRf_4, isRf_5, isRf_8, isRf_9, isRf_10, isRf_11, isRf_15, isRf_16, isRf_17, isRf_18, isRf_19, isRf_20, isRf_21, isRf_22, isRf_23, isRf_24, isRf_25, isRf_26, isRf_27, isRf_28, k_X12_odds_0, k_X12_odds_1, k_X12_odds_2, k_X12_odds_5, k_X12_odds_6, k_X12_odds_7, k_X12_odds_10, k_X12_odds_13, k_X12_odds_14, k_X12_odds_15, k_X12_odds_18, k_X12_odds_21, k_X12_odds_22, k_X12_odds_23, k_X12_odds_24, k_X12_odds_27, k_X12_odds_30, k_X12_odds_33, k_X12_odds_34, k_X12_odds_35, k_X12_odds_36, k_X12_odds_37, k_X12_odds_40, k_X12_odds_41, k_X12_odds_44, k_X12_odds_46, k_X12_odds_47, k_X12_odds_50, k_X12_odds_51, k_X12_odds_52, k_X12_odds_55, k_X12_odds_57, k_X12_odds_58, k_X12_odds_61, k_X12_odds_64, k_X12_odds_66, k_X12_odds_67, k_X12_odds_68, k_X12_odds_71, k_X12_odds_72, w_X12_goPlay_e, w_X12_has_e, w_X12_isChair_e, w_X12_isIn_e, w_X12_isPlay_e, up_s, up_nj, up_na, up_up, savR_o, cpy_o, fillm_o, setAud_o, setv_o, setv_s, Int.reduceNe, Int.reduceEq, Int.reduceLT, Int.reduceAdd, not_false_eq_true, ne_eq, or_true, true_or, e28, e29, if_neg d]
    repeat' (first | assumption | exact hP | apply And.intro | intro _)
    all_goals first | omega | exact absurd trivial (by assumption) | exact q8 | exact Or.inl rfl
def a_X12_first : AC := [(0, vAload 0 1), (1, vI 0 2), (2, vPutI 28 0 5), (5, vAload 0 6), (6, vIload 1 7), (7, vCallM w_X12_isPlay 28 1 10), (10, vIfNe 15 13), (13, vI (-1) 14), (14, vIret), (15, vAload 0 16), (16, vAload 0 17), (17, vGetR TT 28 36 8 20), (20, vIload 1 21), (21, vCallM w_X12_goPlay 28 2 24), (24, vIstore 2 25), (25, vI (-1) 26), (26, vIstore 3 27), (27, vI 0 28), (28, vIstore 4 30), (30, vIload 4 32), (32, vAload 0 33), (33, vGetI 28 29 36), (36, vIcGe 78 39), (39, vIload 2 40), (40, vIload 4 42), (42, vCallS w_X12_has 2 45), (45, vIfEq 72 48), (48, vIload 3 49), (49, vI (-1) 50), (50, vIcEq 69 53), (53, vAload 0 54), (54, vGetR TT 28 43 8 57), (57, vIload 4 59), (59, vIald TT 60), (60, vAload 0 61), (61, vGetR TT 28 43 8 64), (64, vIload 3 65), (65, vIald TT 66), (66, vIcGe 72 69), (69, vIload 4 71), (71, vIstore 3 72), (72, vIinc 4 1 75), (75, vGoto 30), (78, vIload 3 79), (79, vIret)]
theorem k_X12_first_0 : look a_X12_first 0 = vAload 0 1 := rfl
theorem k_X12_first_1 : look a_X12_first 1 = vI 0 2 := rfl
theorem k_X12_first_2 : look a_X12_first 2 = vPutI 28 0 5 := rfl
theorem k_X12_first_5 : look a_X12_first 5 = vAload 0 6 := rfl
theorem k_X12_first_6 : look a_X12_first 6 = vIload 1 7 := rfl
theorem k_X12_first_7 : look a_X12_first 7 = vCallM w_X12_isPlay 28 1 10 := rfl
theorem k_X12_first_10 : look a_X12_first 10 = vIfNe 15 13 := rfl
theorem k_X12_first_13 : look a_X12_first 13 = vI (-1) 14 := rfl
theorem k_X12_first_14 : look a_X12_first 14 = vIret := rfl
theorem k_X12_first_15 : look a_X12_first 15 = vAload 0 16 := rfl
theorem k_X12_first_16 : look a_X12_first 16 = vAload 0 17 := rfl
theorem k_X12_first_17 : look a_X12_first 17 = vGetR TT 28 36 8 20 := rfl
theorem k_X12_first_20 : look a_X12_first 20 = vIload 1 21 := rfl
theorem k_X12_first_21 : look a_X12_first 21 = vCallM w_X12_goPlay 28 2 24 := rfl
theorem k_X12_first_24 : look a_X12_first 24 = vIstore 2 25 := rfl
theorem k_X12_first_25 : look a_X12_first 25 = vI (-1) 26 := rfl
theorem k_X12_first_26 : look a_X12_first 26 = vIstore 3 27 := rfl
theorem k_X12_first_27 : look a_X12_first 27 = vI 0 28 := rfl
theorem k_X12_first_28 : look a_X12_first 28 = vIstore 4 30 := rfl
theorem k_X12_first_30 : look a_X12_first 30 = vIload 4 32 := rfl
theorem k_X12_first_32 : look a_X12_first 32 = vAload 0 33 := rfl
theorem k_X12_first_33 : look a_X12_first 33 = vGetI 28 29 36 := rfl
theorem k_X12_first_36 : look a_X12_first 36 = vIcGe 78 39 := rfl
theorem k_X12_first_39 : look a_X12_first 39 = vIload 2 40 := rfl
theorem k_X12_first_40 : look a_X12_first 40 = vIload 4 42 := rfl
theorem k_X12_first_42 : look a_X12_first 42 = vCallS w_X12_has 2 45 := rfl
theorem k_X12_first_45 : look a_X12_first 45 = vIfEq 72 48 := rfl
theorem k_X12_first_48 : look a_X12_first 48 = vIload 3 49 := rfl
theorem k_X12_first_49 : look a_X12_first 49 = vI (-1) 50 := rfl
theorem k_X12_first_50 : look a_X12_first 50 = vIcEq 69 53 := rfl
theorem k_X12_first_53 : look a_X12_first 53 = vAload 0 54 := rfl
theorem k_X12_first_54 : look a_X12_first 54 = vGetR TT 28 43 8 57 := rfl
theorem k_X12_first_57 : look a_X12_first 57 = vIload 4 59 := rfl
theorem k_X12_first_59 : look a_X12_first 59 = vIald TT 60 := rfl
theorem k_X12_first_60 : look a_X12_first 60 = vAload 0 61 := rfl
theorem k_X12_first_61 : look a_X12_first 61 = vGetR TT 28 43 8 64 := rfl
theorem k_X12_first_64 : look a_X12_first 64 = vIload 3 65 := rfl
theorem k_X12_first_65 : look a_X12_first 65 = vIald TT 66 := rfl
theorem k_X12_first_66 : look a_X12_first 66 = vIcGe 72 69 := rfl
theorem k_X12_first_69 : look a_X12_first 69 = vIload 4 71 := rfl
theorem k_X12_first_71 : look a_X12_first 71 = vIstore 3 72 := rfl
theorem k_X12_first_72 : look a_X12_first 72 = vIinc 4 1 75 := rfl
theorem k_X12_first_75 : look a_X12_first 75 = vGoto 30 := rfl
theorem k_X12_first_78 : look a_X12_first 78 = vIload 3 79 := rfl
theorem k_X12_first_79 : look a_X12_first 79 = vIret := rfl
theorem o_X12_first {X : amX} (e1 : XT X = TT) (e2 : XD X = 60) (hB : amB X RX12 cX12_first (some .int) 5) : ∀ pc, amOK X pc (look a_X12_first pc) := by
  have hT : amTok (XT X) := e1 ▸ TT_ok
  refine look_ok ?_
  unfold a_X12_first
  refine fc (ok_aload_n hB dX12_first_0) ?_
  refine fc (ok_iconst hB dX12_first_1) ?_
  refine fc (ok_putI hB hT fp_X12_111 rfl rfl rfl af_12_0 dX12_first_2) ?_
  refine fc (ok_aload_n hB dX12_first_5) ?_
  refine fc (ok_iload_n hB dX12_first_6) ?_
  refine fc (ok_callM hB hT (e1 ▸ s_X12_isPlay) lk_X12_366 (by rw [e2]; decide) (c := 12) rfl rfl rfl wd_1652 sl_X12_isPlay dX12_first_7) ?_
  refine fc (ok_if_ne hB (t := 15) (by decide) dX12_first_10) ?_
  refine fc (ok_iconst hB dX12_first_13) ?_
  refine fc (ok_iret hB dX12_first_14) ?_
  refine fc (ok_aload_n hB dX12_first_15) ?_
  refine fc (ok_aload_n hB dX12_first_16) ?_
  refine fc (okt_getR e1 hB hT fl_X12_67 rfl af_12_36 at_12_36 (by decide) dX12_first_17) ?_
  refine fc (ok_iload_n hB dX12_first_20) ?_
  refine fc (ok_callM hB hT (e1 ▸ s_X12_goPlay) lk_X12_362 (by rw [e2]; decide) (c := 12) rfl rfl rfl wd_1698 sl_X12_goPlay dX12_first_21) ?_
  refine fc (ok_istore_n hB (by decide) dX12_first_24) ?_
  refine fc (ok_iconst hB dX12_first_25) ?_
  refine fc (ok_istore_n hB (by decide) dX12_first_26) ?_
  refine fc (ok_iconst hB dX12_first_27) ?_
  refine fc (ok_istore hB (by decide) dX12_first_28) ?_
  refine fc (ok_iload hB dX12_first_30) ?_
  refine fc (ok_aload_n hB dX12_first_32) ?_
  refine fc (ok_getI hB hT fl_X12_317 rfl rfl (Or.inl af_12_29) dX12_first_33) ?_
  refine fc (ok_icmp_ge hB (t := 78) (by decide) dX12_first_36) ?_
  refine fc (ok_iload_n hB dX12_first_39) ?_
  refine fc (ok_iload hB dX12_first_40) ?_
  refine fc (ok_callS hB (e1 ▸ s_X12_has) lk_X12_244 (by rw [e2]; decide) wd_1538 dX12_first_42) ?_
  refine fc (ok_if_eq hB (t := 72) (by decide) dX12_first_45) ?_
  refine fc (ok_iload_n hB dX12_first_48) ?_
  refine fc (ok_iconst hB dX12_first_49) ?_
  refine fc (ok_icmp_eq hB (t := 69) (by decide) dX12_first_50) ?_
  refine fc (ok_aload_n hB dX12_first_53) ?_
  refine fc (okt_getR e1 hB hT fl_X12_90 rfl af_12_43 at_12_43 (by decide) dX12_first_54) ?_
  refine fc (ok_iload hB dX12_first_57) ?_
  refine fc (okt_iaload e1 hB dX12_first_59) ?_
  refine fc (ok_aload_n hB dX12_first_60) ?_
  refine fc (okt_getR e1 hB hT fl_X12_90 rfl af_12_43 at_12_43 (by decide) dX12_first_61) ?_
  refine fc (ok_iload_n hB dX12_first_64) ?_
  refine fc (okt_iaload e1 hB dX12_first_65) ?_
  refine fc (ok_icmp_ge hB (t := 72) (by decide) dX12_first_66) ?_
  refine fc (ok_iload hB dX12_first_69) ?_
  refine fc (ok_istore_n hB (by decide) dX12_first_71) ?_
  refine fc (ok_iinc hB (by decide) dX12_first_72) ?_
  refine fc (ok_goto hB (t := 30) (by decide) dX12_first_75) ?_
  refine fc (ok_iload_n hB dX12_first_78) ?_
  refine fc (ok_iret hB dX12_first_79) ?_
  exact fn
def inv_fsm (σ : Mem) (p : Int) (n pc : Nat) (ls st : List AV) (σ' : Mem) : Prop := pc = 30 ∧ st = [] ∧ (0 ≤ p ∧ p < σ 5000 28) ∧ PF (th0 σ) σ' ∧ mOk σ' ∧ (∀ j, 0 ≤ j → j < σ 5000 29 → σ' 5020 j = mOa (th0 σ) 5015 p (mMi (th0 σ) p) j) ∧ ∃ c : Nat, ls = [(28, 5000), (0, p), (0, mOu (th0 σ) 5015 p (mMi (th0 σ) p)), (0, fstO (mOa (th0 σ) 5015 p (mMi (th0 σ) p)) c), (0, (c : Int))] ∧ (c : Int) + n = σ 5000 29
def w_X12_first : WP := fun av σ Q => ∃ (p : Int), av = [(28, 5000), (0, p)] ∧ (InR p ∧ mX σ 5015 ∧ (¬ (0 ≤ p ∧ p < σ 5000 28) → Q (0, -1) (th0 σ)) ∧ (0 ≤ p ∧ p < σ 5000 28 → ∀ τ, PF (th0 σ) τ → mOk τ → Q (0, fstO (mOa (th0 σ) 5015 p (mMi (th0 σ) p)) (σ 5000 29).toNat) τ))
theorem w_X12_first_e (p : Int) (σ : Mem) (Q : AV → Mem → Prop) : w_X12_first [(28, 5000), (0, p)] σ Q = (InR p ∧ mX σ 5015 ∧ (¬ (0 ≤ p ∧ p < σ 5000 28) → Q (0, -1) (th0 σ)) ∧ (0 ≤ p ∧ p < σ 5000 28 → ∀ τ, PF (th0 σ) τ → mOk τ → Q (0, fstO (mOa (th0 σ) 5015 p (mMi (th0 σ) p)) (σ 5000 29).toNat) τ)) := by
  apply propext; constructor
  · rintro ⟨p', h9, hb9⟩; cases h9; exact hb9
  · intro hb9; exact ⟨p, rfl, hb9⟩

set_option maxRecDepth 100000 in
set_option maxHeartbeats 4000000 in
theorem s_X12_first : ∀ av σ Q, w_X12_first av σ Q → amCall 60 0 0 TT yX12_first cX12_first 5 (some .int) av σ Q := by
  rintro av σ Q ⟨p, rfl, hp, hx, h1, h2⟩
  have e28 : th0 σ 5000 28 = σ 5000 28 := th_k σ (by decide)
  have e29 : th0 σ 5000 29 = σ 5000 29 := th_k σ (by decide)
  have n29 := hx.2.1.2.2.1
  have n28 := hx.2.1.2.2.2.2.1
  have hP := mX_P (mX_th hx)
  refine am_m [30] (inv_fsm σ p) (own := RX12) (A := look a_X12_first) (fun X e1 e2 hB => o_X12_first e1 e2 hB) rfl (by decide +kernel) rfl rfl ?_ ⟨60, ?_⟩ (w := 5)
  · rintro n pc ls st σ' ⟨rfl, rfl, hcd, hF, hm, hoa, c, rfl, hn⟩
    have g29 : σ' 5000 29 = σ 5000 29 := by rw [hF.2 29 (by decide) (by decide) (by decide) (by decide)]; exact e29
    have hMb := hP.2.2.2.2.2.2.2.1 (4 * p + 3) (by omega) (by omega)
    have ob := mOu_b (th0 σ) 5015 p (by rw [e29]; omega) (mMi (th0 σ) p)
    refine ⟨60, ?_⟩
    by_cases cc : (c : Int) < σ 5000 29
    · have b01 := bt_b (mOu (th0 σ) 5015 p (mMi (th0 σ) p)) c
      have oo := mOu_oa (σ := th0 σ) (w := 5015) (p := p) (by rw [e29]; omega) (c := c) (by omega) (by rw [e29]; omega) (mMi (th0 σ) p)
      have fb := fstO_b (mOa (th0 σ) 5015 p (mMi (th0 σ) p)) c
      have ab : ∀ j, InR (mOa (th0 σ) 5015 p (mMi (th0 σ) p) j) := fun j => by
        have := mOa_b (th0 σ) 5015 p j (mMi (th0 σ) p)
        have : mMi (th0 σ) p ≤ 9 := by unfold mMi; omega
        exact ⟨by omega, by omega⟩
      have z1 := hoa c (by omega) cc
      have a1 := ab c
      have z2 : fstO (mOa (th0 σ) 5015 p (mMi (th0 σ) p)) c ≠ -1 → σ' 5020 (fstO (mOa (th0 σ) 5015 p (mMi (th0 σ) p)) c) = mOa (th0 σ) 5015 p (mMi (th0 σ) p) (fstO (mOa (th0 σ) 5015 p (mMi (th0 σ) p)) c) := fun q => hoa _ (by omega) (by omega)
      have a2 := ab (fstO (mOa (th0 σ) 5015 p (mMi (th0 σ) p)) c)
      have fs : fstO (mOa (th0 σ) 5015 p (mMi (th0 σ) p)) (c + 1) = if mOa (th0 σ) 5015 p (mMi (th0 σ) p) c ≠ -1 ∧ (fstO (mOa (th0 σ) 5015 p (mMi (th0 σ) p)) c = -1 ∨ mOa (th0 σ) 5015 p (mMi (th0 σ) p) c < mOa (th0 σ) 5015 p (mMi (th0 σ) p) (fstO (mOa (th0 σ) 5015 p (mMi (th0 σ) p)) c)) then (c : Int) else fstO (mOa (th0 σ) 5015 p (mMi (th0 σ) p)) c := rfl
      have i9 : ∀ v, v = fstO (mOa (th0 σ) 5015 p (mMi (th0 σ) p)) (c + 1) → ∃ k', k' < n ∧ inv_fsm σ p k' 30 [(28, 5000), (0, p), (0, mOu (th0 σ) 5015 p (mMi (th0 σ) p)), (0, v), (0, (c : Int) + 1)] [] σ' := fun v q =>
        ⟨n - 1, by omega, rfl, rfl, hcd, hF, hm, hoa, c + 1, by rw [q]; rfl, by omega⟩
      generalize hB : fstO (mOa (th0 σ) 5015 p (mMi (th0 σ) p)) c = B at *
      generalize hO : mOu (th0 σ) 5015 p (mMi (th0 σ) p) = O at *
      generalize hC : mOa (th0 σ) 5015 p (mMi (th0 σ) p) c = C at *
      generalize hD : mOa (th0 σ) 5015 p (mMi (th0 σ) p) B = D at *
      by_cases c1 : C ≠ -1 ∧ (B = -1 ∨ C < D)
      · rw [if_pos c1] at fs
        have i8 := i9 c fs.symm
        have ob1 : bt O c = 1 := oo.mpr c1.1
        by_cases c2 : B = -1
        · simp only [↓reduceIte, inR_0, inR_1, inR_m, vSw2_e, swP_n, swP_c, vI_e, vL_e, vNull_e, vIload_e, vLload_e, vAload_e, vIstore_e, vLstore_e, vAstore_e, vIinc_e, vIadd_e, vIsub_e, vImul_e, vIand_e, vIor_e, vIxor_e, vIshl_e, vIshr_e, vIushr_e, vIdiv_e, vIrem_e, vLadd_e, vLsub_e, vLmul_e, vLand_e, vLor_e, vLxor_e, vLdiv_e, vLrem_e, vLushr_e, vLshl_e, vLcmp_e, vIneg_e, vI2l_e, vL2i_e, vI2b_e, vI2c_e, vDup_e, vPop_e, vDup2_e, vGoto_e, vIcEq_e, vIfEq_e, vIcNe_e, vIfNe_e, vIcLt_e, vIfLt_e, vIcGe_e, vIfGe_e, vIcGt_e, vIfGt_e, vIcLe_e, vIfLe_e, vNonnull_e, vSw_e, vGetI_e, vGetL_e, vGetR_e, vPutI_e, vPutZ_e, vPutL_e, vPutR_e, vIald_e, vIald_s, vLald_e, vBald_e, vBald_s, vAald_e, vIast_e, vLast_e, vBast_e, vAast_e, vAlen_e8, vAlen_e9, vAlen_e10, vAlen_e11, vAlen_e5, vAlen_e3, vGets_e, vCompact_e, vLdcS_e, vIret_e, vZret_e, vCret_e, vBret_e, vLret_e, vVret_e, vAret_e, vCallM_e0, vCallMV_e0, vCallS_e0, vCallSV_e0, vCallM_e1, vCallMV_e1, vCallS_e1, vCallSV_e1, vCallM_e2, vCallMV_e2, vCallS_e2, vCallSV_e2, vCallM_e3, vCallMV_e3, vCallS_e3, vCallSV_e3, vCallM_e4, vCallMV_e4, vCallS_e4, vCallSV_e4, vCallM_e5, vCallMV_e5, vCallS_e5, vCallSV_e5, vCallM_e6, vCallMV_e6, vCallS_e6, vCallSV_e6, vCallM_e7, vCallMV_e7, vCallS_e7, vCallSV_e7, vBad_e, vStrVal_e, vStrCod_e, vForm_e, vCallT_e0, vCallT_e1, vCallT_e2, vCopy_e, rf_0_0, rf_0_1, rf_0_2, rf_0_3, rf_0_4, rf_0_7, rf_0_10, rf_0_11, rf_0_12, rf_0_13, rf_0_14, rf_0_15, rf_0_16, rf_1_0, rf_3_0, rf_3_1, rf_6_0, rf_6_1, rf_9_0, rf_9_1, rf_9_3, rf_13_0, rf_13_1, rf_13_2, rf_16_0, rf_16_1, rf_16_2, rf_16_3, rf_21_0, rf_21_1, rf_21_2, rf_21_3, rf_26_0, rf_26_1, rf_26_2, rf_26_3, rf_26_4, rf_26_5, rf_26_6, rf_31_0, rf_31_2, rf_31_5, rf_31_6, rf_36_0, rf_36_1, rf_36_2, rf_36_3, rf_39_0, rf_39_1, rf_39_2, rf_41_0, rf_41_1, rf_41_2, rf_41_3, rf_5000_1, rf_5000_2, rf_5000_3, rf_5000_4, rf_5000_5, rf_5000_15, rf_5000_16, rf_5000_18, rf_5000_19, rf_5000_20, rf_5000_21, rf_5000_22, rf_5000_23, rf_5000_24, rf_5000_25, rf_5000_26, rf_5000_27, rf_5000_36, rf_5000_37, rf_5000_40, rf_5000_41, rf_5000_42, rf_5000_43, rf_5000_44, rf_5000_45, rf_5000_47, rf_5000_52, rf_5000_54, rf_5000_55, rf_100_0, rf_100_1, rf_103_0, rf_103_1, rf_106_0, rf_106_1, rf_109_0, rf_109_1, al_2, al_4, al_5, al_7, al_8, al_10, al_11, al_12, al_14, al_15, al_17, al_18, al_19, al_20, al_22, al_23, al_24, al_25, al_27, al_28, al_29, al_30, al_32, al_33, al_34, al_35, al_37, al_38, al_40, al_42, al_5001, al_5002, al_5003, al_5004, al_5005, al_5006, al_5007, al_5008, al_5009, al_5010, al_5011, al_5012, al_5013, al_5014, al_5015, al_5016, al_5017, al_5018, al_5019, al_5020, al_5021, al_5022, al_5023, al_5024, al_5025, al_5026, al_9000, al_101, al_102, al_104, al_105, al_107, al_108, al_110, al_111, vcs_e, lg_c0, lg_cs, lg_nil, set_c0, set_cs, okst_0, okst_s, acok_n, acok_c, List.contains_nil, List.contains_cons, Bool.or_false, Bool.false_or, Bool.false_eq_true, if_false, if_true, ite_self, ne_eq, true_and, and_true, not_false_eq_true, not_true_eq_false, false_imp_iff, true_imp_iff, Nat.ble_eq, Bool.and_eq_true, reduceCtorEq, or_false, false_or, or_true, true_or, false_and, and_false, and_self, Int.reduceLE, Int.reduceAdd, Int.reduceSub, Int.reduceMul, Int.reduceNeg, Int.reduceLT, Int.reduceEq, Int.reduceNe, Nat.reduceBEq, Nat.reduceBNe, Nat.reduceEqDiff, amCmp_in, amCmp_lt, amCmp_le, amCmp_gt, amCmp_ge, amCmp_eq, amCmp_ne, Nat.reduceLeDiff, Nat.reduceSub, Bool.and_true, Bool.true_and, Bool.and_self, Bool.or_true, Bool.true_or, isRf_3, isRf_4, isRf_5, isRf_8, isRf_9, isRf_10, isRf_11, isRf_15, isRf_16, isRf_17, isRf_18, isRf_19, isRf_20, isRf_21, isRf_22, isRf_23, isRf_24, isRf_25, isRf_26, isRf_27, isRf_28, k_X12_first_0, k_X12_first_1, k_X12_first_2, k_X12_first_5, k_X12_first_6, k_X12_first_7, k_X12_first_10, k_X12_first_13, k_X12_first_14, k_X12_first_15, k_X12_first_16, k_X12_first_17, k_X12_first_20, k_X12_first_21, k_X12_first_24, k_X12_first_25, k_X12_first_26, k_X12_first_27, k_X12_first_28, k_X12_first_30, k_X12_first_32, k_X12_first_33, k_X12_first_36, k_X12_first_39, k_X12_first_40, k_X12_first_42, k_X12_first_45, k_X12_first_48, k_X12_first_49, k_X12_first_50, k_X12_first_53, k_X12_first_54, k_X12_first_57, k_X12_first_59, k_X12_first_60, k_X12_first_61, k_X12_first_64, k_X12_first_65, k_X12_first_66, k_X12_first_69, k_X12_first_71, k_X12_first_72, k_X12_first_75, k_X12_first_78, k_X12_first_79, w_X12_goPlay_e, w_X12_has_e, w_X12_isPlay_e, g29, ob1, c2, z1]
          repeat' (first | assumption | apply And.intro | intro _)
          all_goals first | omega | exact absurd trivial (by assumption) | exact i8
        · have z3 := z2 c2
          simp only [↓reduceIte, inR_0, inR_1, inR_m, vSw2_e, swP_n, swP_c, vI_e, vL_e, vNull_e, vIload_e, vLload_e, vAload_e, vIstore_e, vLstore_e, vAstore_e, vIinc_e, vIadd_e, vIsub_e, vImul_e, vIand_e, vIor_e, vIxor_e, vIshl_e, vIshr_e, vIushr_e, vIdiv_e, vIrem_e, vLadd_e, vLsub_e, vLmul_e, vLand_e, vLor_e, vLxor_e, vLdiv_e, vLrem_e, vLushr_e, vLshl_e, vLcmp_e, vIneg_e, vI2l_e, vL2i_e, vI2b_e, vI2c_e, vDup_e, vPop_e, vDup2_e, vGoto_e, vIcEq_e, vIfEq_e, vIcNe_e, vIfNe_e, vIcLt_e, vIfLt_e, vIcGe_e, vIfGe_e, vIcGt_e, vIfGt_e, vIcLe_e, vIfLe_e, vNonnull_e, vSw_e, vGetI_e, vGetL_e, vGetR_e, vPutI_e, vPutZ_e, vPutL_e, vPutR_e, vIald_e, vIald_s, vLald_e, vBald_e, vBald_s, vAald_e, vIast_e, vLast_e, vBast_e, vAast_e, vAlen_e8, vAlen_e9, vAlen_e10, vAlen_e11, vAlen_e5, vAlen_e3, vGets_e, vCompact_e, vLdcS_e, vIret_e, vZret_e, vCret_e, vBret_e, vLret_e, vVret_e, vAret_e, vCallM_e0, vCallMV_e0, vCallS_e0, vCallSV_e0, vCallM_e1, vCallMV_e1, vCallS_e1, vCallSV_e1, vCallM_e2, vCallMV_e2, vCallS_e2, vCallSV_e2, vCallM_e3, vCallMV_e3, vCallS_e3, vCallSV_e3, vCallM_e4, vCallMV_e4, vCallS_e4, vCallSV_e4, vCallM_e5, vCallMV_e5, vCallS_e5, vCallSV_e5, vCallM_e6, vCallMV_e6, vCallS_e6, vCallSV_e6, vCallM_e7, vCallMV_e7, vCallS_e7, vCallSV_e7, vBad_e, vStrVal_e, vStrCod_e, vForm_e, vCallT_e0, vCallT_e1, vCallT_e2, vCopy_e, rf_0_0, rf_0_1, rf_0_2, rf_0_3, rf_0_4, rf_0_7, rf_0_10, rf_0_11, rf_0_12, rf_0_13, rf_0_14, rf_0_15, rf_0_16, rf_1_0, rf_3_0, rf_3_1, rf_6_0, rf_6_1, rf_9_0, rf_9_1, rf_9_3, rf_13_0, rf_13_1, rf_13_2, rf_16_0, rf_16_1, rf_16_2, rf_16_3, rf_21_0, rf_21_1, rf_21_2, rf_21_3, rf_26_0, rf_26_1, rf_26_2, rf_26_3, rf_26_4, rf_26_5, rf_26_6, rf_31_0, rf_31_2, rf_31_5, rf_31_6, rf_36_0, rf_36_1, rf_36_2, rf_36_3, rf_39_0, rf_39_1, rf_39_2, rf_41_0, rf_41_1, rf_41_2, rf_41_3, rf_5000_1, rf_5000_2, rf_5000_3, rf_5000_4, rf_5000_5, rf_5000_15, rf_5000_16, rf_5000_18, rf_5000_19, rf_5000_20, rf_5000_21, rf_5000_22, rf_5000_23, rf_5000_24, rf_5000_25, rf_5000_26, rf_5000_27, rf_5000_36, rf_5000_37, rf_5000_40, rf_5000_41, rf_5000_42, rf_5000_43, rf_5000_44, rf_5000_45, rf_5000_47, rf_5000_52, rf_5000_54, rf_5000_55, rf_100_0, rf_100_1, rf_103_0, rf_103_1, rf_106_0, rf_106_1, rf_109_0, rf_109_1, al_2, al_4, al_5, al_7, al_8, al_10, al_11, al_12, al_14, al_15, al_17, al_18, al_19, al_20, al_22, al_23, al_24, al_25, al_27, al_28, al_29, al_30, al_32, al_33, al_34, al_35, al_37, al_38, al_40, al_42, al_5001, al_5002, al_5003, al_5004, al_5005, al_5006, al_5007, al_5008, al_5009, al_5010, al_5011, al_5012, al_5013, al_5014, al_5015, al_5016, al_5017, al_5018, al_5019, al_5020, al_5021, al_5022, al_5023, al_5024, al_5025, al_5026, al_9000, al_101, al_102, al_104, al_105, al_107, al_108, al_110, al_111, vcs_e, lg_c0, lg_cs, lg_nil, set_c0, set_cs, okst_0, okst_s, acok_n, acok_c, List.contains_nil, List.contains_cons, Bool.or_false, Bool.false_or, Bool.false_eq_true, if_false, if_true, ite_self, ne_eq, true_and, and_true, not_false_eq_true, not_true_eq_false, false_imp_iff, true_imp_iff, Nat.ble_eq, Bool.and_eq_true, reduceCtorEq, or_false, false_or, or_true, true_or, false_and, and_false, and_self, Int.reduceLE, Int.reduceAdd, Int.reduceSub, Int.reduceMul, Int.reduceNeg, Int.reduceLT, Int.reduceEq, Int.reduceNe, Nat.reduceBEq, Nat.reduceBNe, Nat.reduceEqDiff, amCmp_in, amCmp_lt, amCmp_le, amCmp_gt, amCmp_ge, amCmp_eq, amCmp_ne, Nat.reduceLeDiff, Nat.reduceSub, Bool.and_true, Bool.true_and, Bool.and_self, Bool.or_true, Bool.true_or, isRf_3, isRf_4, isRf_5, isRf_8, isRf_9, isRf_10, isRf_11, isRf_15, isRf_16, isRf_17, isRf_18, isRf_19, isRf_20, isRf_21, isRf_22, isRf_23, isRf_24, isRf_25, isRf_26, isRf_27, isRf_28, k_X12_first_0, k_X12_first_1, k_X12_first_2, k_X12_first_5, k_X12_first_6, k_X12_first_7, k_X12_first_10, k_X12_first_13, k_X12_first_14, k_X12_first_15, k_X12_first_16, k_X12_first_17, k_X12_first_20, k_X12_first_21, k_X12_first_24, k_X12_first_25, k_X12_first_26, k_X12_first_27, k_X12_first_28, k_X12_first_30, k_X12_first_32, k_X12_first_33, k_X12_first_36, k_X12_first_39, k_X12_first_40, k_X12_first_42, k_X12_first_45, k_X12_first_48, k_X12_first_49, k_X12_first_50, k_X12_first_53, k_X12_first_54, k_X12_first_57, k_X12_first_59, k_X12_first_60, k_X12_first_61, k_X12_first_64, k_X12_first_65, k_X12_first_66, k_X12_first_69, k_X12_first_71, k_X12_first_72, k_X12_first_75, k_X12_first_78, k_X12_first_79, w_X12_goPlay_e, w_X12_has_e, w_X12_isPlay_e, g29, ob1, z1, z3]
          repeat' (first | assumption | apply And.intro | intro _)
          all_goals first | omega | exact absurd trivial (by assumption) | exact i8
      · rw [if_neg c1] at fs
        have i8 := i9 B fs.symm
        by_cases c3 : bt O c = 1
        · have c4 := oo.mp c3
          have c2 : B ≠ -1 := fun e => c1 ⟨c4, Or.inl e⟩
          have z3 := z2 c2
          simp only [↓reduceIte, inR_0, inR_1, inR_m, vSw2_e, swP_n, swP_c, vI_e, vL_e, vNull_e, vIload_e, vLload_e, vAload_e, vIstore_e, vLstore_e, vAstore_e, vIinc_e, vIadd_e, vIsub_e, vImul_e, vIand_e, vIor_e, vIxor_e, vIshl_e, vIshr_e, vIushr_e, vIdiv_e, vIrem_e, vLadd_e, vLsub_e, vLmul_e, vLand_e, vLor_e, vLxor_e, vLdiv_e, vLrem_e, vLushr_e, vLshl_e, vLcmp_e, vIneg_e, vI2l_e, vL2i_e, vI2b_e, vI2c_e, vDup_e, vPop_e, vDup2_e, vGoto_e, vIcEq_e, vIfEq_e, vIcNe_e, vIfNe_e, vIcLt_e, vIfLt_e, vIcGe_e, vIfGe_e, vIcGt_e, vIfGt_e, vIcLe_e, vIfLe_e, vNonnull_e, vSw_e, vGetI_e, vGetL_e, vGetR_e, vPutI_e, vPutZ_e, vPutL_e, vPutR_e, vIald_e, vIald_s, vLald_e, vBald_e, vBald_s, vAald_e, vIast_e, vLast_e, vBast_e, vAast_e, vAlen_e8, vAlen_e9, vAlen_e10, vAlen_e11, vAlen_e5, vAlen_e3, vGets_e, vCompact_e, vLdcS_e, vIret_e, vZret_e, vCret_e, vBret_e, vLret_e, vVret_e, vAret_e, vCallM_e0, vCallMV_e0, vCallS_e0, vCallSV_e0, vCallM_e1, vCallMV_e1, vCallS_e1, vCallSV_e1, vCallM_e2, vCallMV_e2, vCallS_e2, vCallSV_e2, vCallM_e3, vCallMV_e3, vCallS_e3, vCallSV_e3, vCallM_e4, vCallMV_e4, vCallS_e4, vCallSV_e4, vCallM_e5, vCallMV_e5, vCallS_e5, vCallSV_e5, vCallM_e6, vCallMV_e6, vCallS_e6, vCallSV_e6, vCallM_e7, vCallMV_e7, vCallS_e7, vCallSV_e7, vBad_e, vStrVal_e, vStrCod_e, vForm_e, vCallT_e0, vCallT_e1, vCallT_e2, vCopy_e, rf_0_0, rf_0_1, rf_0_2, rf_0_3, rf_0_4, rf_0_7, rf_0_10, rf_0_11, rf_0_12, rf_0_13, rf_0_14, rf_0_15, rf_0_16, rf_1_0, rf_3_0, rf_3_1, rf_6_0, rf_6_1, rf_9_0, rf_9_1, rf_9_3, rf_13_0, rf_13_1, rf_13_2, rf_16_0, rf_16_1, rf_16_2, rf_16_3, rf_21_0, rf_21_1, rf_21_2, rf_21_3, rf_26_0, rf_26_1, rf_26_2, rf_26_3, rf_26_4, rf_26_5, rf_26_6, rf_31_0, rf_31_2, rf_31_5, rf_31_6, rf_36_0, rf_36_1, rf_36_2, rf_36_3, rf_39_0, rf_39_1, rf_39_2, rf_41_0, rf_41_1, rf_41_2, rf_41_3, rf_5000_1, rf_5000_2, rf_5000_3, rf_5000_4, rf_5000_5, rf_5000_15, rf_5000_16, rf_5000_18, rf_5000_19, rf_5000_20, rf_5000_21, rf_5000_22, rf_5000_23, rf_5000_24, rf_5000_25, rf_5000_26, rf_5000_27, rf_5000_36, rf_5000_37, rf_5000_40, rf_5000_41, rf_5000_42, rf_5000_43, rf_5000_44, rf_5000_45, rf_5000_47, rf_5000_52, rf_5000_54, rf_5000_55, rf_100_0, rf_100_1, rf_103_0, rf_103_1, rf_106_0, rf_106_1, rf_109_0, rf_109_1, al_2, al_4, al_5, al_7, al_8, al_10, al_11, al_12, al_14, al_15, al_17, al_18, al_19, al_20, al_22, al_23, al_24, al_25, al_27, al_28, al_29, al_30, al_32, al_33, al_34, al_35, al_37, al_38, al_40, al_42, al_5001, al_5002, al_5003, al_5004, al_5005, al_5006, al_5007, al_5008, al_5009, al_5010, al_5011, al_5012, al_5013, al_5014, al_5015, al_5016, al_5017, al_5018, al_5019, al_5020, al_5021, al_5022, al_5023, al_5024, al_5025, al_5026, al_9000, al_101, al_102, al_104, al_105, al_107, al_108, al_110, al_111, vcs_e, lg_c0, lg_cs, lg_nil, set_c0, set_cs, okst_0, okst_s, acok_n, acok_c, List.contains_nil, List.contains_cons, Bool.or_false, Bool.false_or, Bool.false_eq_true, if_false, if_true, ite_self, ne_eq, true_and, and_true, not_false_eq_true, not_true_eq_false, false_imp_iff, true_imp_iff, Nat.ble_eq, Bool.and_eq_true, reduceCtorEq, or_false, false_or, or_true, true_or, false_and, and_false, and_self, Int.reduceLE, Int.reduceAdd, Int.reduceSub, Int.reduceMul, Int.reduceNeg, Int.reduceLT, Int.reduceEq, Int.reduceNe, Nat.reduceBEq, Nat.reduceBNe, Nat.reduceEqDiff, amCmp_in, amCmp_lt, amCmp_le, amCmp_gt, amCmp_ge, amCmp_eq, amCmp_ne, Nat.reduceLeDiff, Nat.reduceSub, Bool.and_true, Bool.true_and, Bool.and_self, Bool.or_true, Bool.true_or, isRf_3, isRf_4, isRf_5, isRf_8, isRf_9, isRf_10, isRf_11, isRf_15, isRf_16, isRf_17, isRf_18, isRf_19, isRf_20, isRf_21, isRf_22, isRf_23, isRf_24, isRf_25, isRf_26, isRf_27, isRf_28, k_X12_first_0, k_X12_first_1, k_X12_first_2, k_X12_first_5, k_X12_first_6, k_X12_first_7, k_X12_first_10, k_X12_first_13, k_X12_first_14, k_X12_first_15, k_X12_first_16, k_X12_first_17, k_X12_first_20, k_X12_first_21, k_X12_first_24, k_X12_first_25, k_X12_first_26, k_X12_first_27, k_X12_first_28, k_X12_first_30, k_X12_first_32, k_X12_first_33, k_X12_first_36, k_X12_first_39, k_X12_first_40, k_X12_first_42, k_X12_first_45, k_X12_first_48, k_X12_first_49, k_X12_first_50, k_X12_first_53, k_X12_first_54, k_X12_first_57, k_X12_first_59, k_X12_first_60, k_X12_first_61, k_X12_first_64, k_X12_first_65, k_X12_first_66, k_X12_first_69, k_X12_first_71, k_X12_first_72, k_X12_first_75, k_X12_first_78, k_X12_first_79, w_X12_goPlay_e, w_X12_has_e, w_X12_isPlay_e, g29, c3, z1, z3]
          repeat' (first | assumption | apply And.intro | intro _)
          all_goals first | omega | exact absurd trivial (by assumption) | exact i8
        · have c4 : bt O c = 0 := by omega
          simp only [↓reduceIte, inR_0, inR_1, inR_m, vSw2_e, swP_n, swP_c, vI_e, vL_e, vNull_e, vIload_e, vLload_e, vAload_e, vIstore_e, vLstore_e, vAstore_e, vIinc_e, vIadd_e, vIsub_e, vImul_e, vIand_e, vIor_e, vIxor_e, vIshl_e, vIshr_e, vIushr_e, vIdiv_e, vIrem_e, vLadd_e, vLsub_e, vLmul_e, vLand_e, vLor_e, vLxor_e, vLdiv_e, vLrem_e, vLushr_e, vLshl_e, vLcmp_e, vIneg_e, vI2l_e, vL2i_e, vI2b_e, vI2c_e, vDup_e, vPop_e, vDup2_e, vGoto_e, vIcEq_e, vIfEq_e, vIcNe_e, vIfNe_e, vIcLt_e, vIfLt_e, vIcGe_e, vIfGe_e, vIcGt_e, vIfGt_e, vIcLe_e, vIfLe_e, vNonnull_e, vSw_e, vGetI_e, vGetL_e, vGetR_e, vPutI_e, vPutZ_e, vPutL_e, vPutR_e, vIald_e, vIald_s, vLald_e, vBald_e, vBald_s, vAald_e, vIast_e, vLast_e, vBast_e, vAast_e, vAlen_e8, vAlen_e9, vAlen_e10, vAlen_e11, vAlen_e5, vAlen_e3, vGets_e, vCompact_e, vLdcS_e, vIret_e, vZret_e, vCret_e, vBret_e, vLret_e, vVret_e, vAret_e, vCallM_e0, vCallMV_e0, vCallS_e0, vCallSV_e0, vCallM_e1, vCallMV_e1, vCallS_e1, vCallSV_e1, vCallM_e2, vCallMV_e2, vCallS_e2, vCallSV_e2, vCallM_e3, vCallMV_e3, vCallS_e3, vCallSV_e3, vCallM_e4, vCallMV_e4, vCallS_e4, vCallSV_e4, vCallM_e5, vCallMV_e5, vCallS_e5, vCallSV_e5, vCallM_e6, vCallMV_e6, vCallS_e6, vCallSV_e6, vCallM_e7, vCallMV_e7, vCallS_e7, vCallSV_e7, vBad_e, vStrVal_e, vStrCod_e, vForm_e, vCallT_e0, vCallT_e1, vCallT_e2, vCopy_e, rf_0_0, rf_0_1, rf_0_2, rf_0_3, rf_0_4, rf_0_7, rf_0_10, rf_0_11, rf_0_12, rf_0_13, rf_0_14, rf_0_15, rf_0_16, rf_1_0, rf_3_0, rf_3_1, rf_6_0, rf_6_1, rf_9_0, rf_9_1, rf_9_3, rf_13_0, rf_13_1, rf_13_2, rf_16_0, rf_16_1, rf_16_2, rf_16_3, rf_21_0, rf_21_1, rf_21_2, rf_21_3, rf_26_0, rf_26_1, rf_26_2, rf_26_3, rf_26_4, rf_26_5, rf_26_6, rf_31_0, rf_31_2, rf_31_5, rf_31_6, rf_36_0, rf_36_1, rf_36_2, rf_36_3, rf_39_0, rf_39_1, rf_39_2, rf_41_0, rf_41_1, rf_41_2, rf_41_3, rf_5000_1, rf_5000_2, rf_5000_3, rf_5000_4, rf_5000_5, rf_5000_15, rf_5000_16, rf_5000_18, rf_5000_19, rf_5000_20, rf_5000_21, rf_5000_22, rf_5000_23, rf_5000_24, rf_5000_25, rf_5000_26, rf_5000_27, rf_5000_36, rf_5000_37, rf_5000_40, rf_5000_41, rf_5000_42, rf_5000_43, rf_5000_44, rf_5000_45, rf_5000_47, rf_5000_52, rf_5000_54, rf_5000_55, rf_100_0, rf_100_1, rf_103_0, rf_103_1, rf_106_0, rf_106_1, rf_109_0, rf_109_1, al_2, al_4, al_5, al_7, al_8, al_10, al_11, al_12, al_14, al_15, al_17, al_18, al_19, al_20, al_22, al_23, al_24, al_25, al_27, al_28, al_29, al_30, al_32, al_33, al_34, al_35, al_37, al_38, al_40, al_42, al_5001, al_5002, al_5003, al_5004, al_5005, al_5006, al_5007, al_5008, al_5009, al_5010, al_5011, al_5012, al_5013, al_5014, al_5015, al_5016, al_5017, al_5018, al_5019, al_5020, al_5021, al_5022, al_5023, al_5024, al_5025, al_5026, al_9000, al_101, al_102, al_104, al_105, al_107, al_108, al_110, al_111, vcs_e, lg_c0, lg_cs, lg_nil, set_c0, set_cs, okst_0, okst_s, acok_n, acok_c, List.contains_nil, List.contains_cons, Bool.or_false, Bool.false_or, Bool.false_eq_true, if_false, if_true, ite_self, ne_eq, true_and, and_true, not_false_eq_true, not_true_eq_false, false_imp_iff, true_imp_iff, Nat.ble_eq, Bool.and_eq_true, reduceCtorEq, or_false, false_or, or_true, true_or, false_and, and_false, and_self, Int.reduceLE, Int.reduceAdd, Int.reduceSub, Int.reduceMul, Int.reduceNeg, Int.reduceLT, Int.reduceEq, Int.reduceNe, Nat.reduceBEq, Nat.reduceBNe, Nat.reduceEqDiff, amCmp_in, amCmp_lt, amCmp_le, amCmp_gt, amCmp_ge, amCmp_eq, amCmp_ne, Nat.reduceLeDiff, Nat.reduceSub, Bool.and_true, Bool.true_and, Bool.and_self, Bool.or_true, Bool.true_or, isRf_3, isRf_4, isRf_5, isRf_8, isRf_9, isRf_10, isRf_11, isRf_15, isRf_16, isRf_17, isRf_18, isRf_19, isRf_20, isRf_21, isRf_22, isRf_23, isRf_24, isRf_25, isRf_26, isRf_27, isRf_28, k_X12_first_0, k_X12_first_1, k_X12_first_2, k_X12_first_5, k_X12_first_6, k_X12_first_7, k_X12_first_10, k_X12_first_13, k_X12_first_14, k_X12_first_15, k_X12_first_16, k_X12_first_17, k_X12_first_20, k_X12_first_21, k_X12_first_24, k_X12_first_25, k_X12_first_26, k_X12_first_27, k_X12_first_28, k_X12_first_30, k_X12_first_32, k_X12_first_33, k_X12_first_36, k_X12_first_39, k_X12_first_40, k_X12_first_42, k_X12_first_45, k_X12_first_48, k_X12_first_49, k_X12_first_50, k_X12_first_53, k_X12_first_54, k_X12_first_57, k_X12_first_59, k_X12_first_60, k_X12_first_61, k_X12_first_64, k_X12_first_65, k_X12_first_66, k_X12_first_69, k_X12_first_71, k_X12_first_72, k_X12_first_75, k_X12_first_78, k_X12_first_79, w_X12_goPlay_e, w_X12_has_e, w_X12_isPlay_e, g29, c4]
          repeat' (first | assumption | apply And.intro | intro _)
          all_goals first | omega | exact absurd trivial (by assumption) | exact i8
    · have hq := h2 hcd σ' hF hm
      rw [show (σ 5000 29).toNat = c by omega] at hq
      simp only [↓reduceIte, inR_0, inR_1, inR_m, vSw2_e, swP_n, swP_c, vI_e, vL_e, vNull_e, vIload_e, vLload_e, vAload_e, vIstore_e, vLstore_e, vAstore_e, vIinc_e, vIadd_e, vIsub_e, vImul_e, vIand_e, vIor_e, vIxor_e, vIshl_e, vIshr_e, vIushr_e, vIdiv_e, vIrem_e, vLadd_e, vLsub_e, vLmul_e, vLand_e, vLor_e, vLxor_e, vLdiv_e, vLrem_e, vLushr_e, vLshl_e, vLcmp_e, vIneg_e, vI2l_e, vL2i_e, vI2b_e, vI2c_e, vDup_e, vPop_e, vDup2_e, vGoto_e, vIcEq_e, vIfEq_e, vIcNe_e, vIfNe_e, vIcLt_e, vIfLt_e, vIcGe_e, vIfGe_e, vIcGt_e, vIfGt_e, vIcLe_e, vIfLe_e, vNonnull_e, vSw_e, vGetI_e, vGetL_e, vGetR_e, vPutI_e, vPutZ_e, vPutL_e, vPutR_e, vIald_e, vIald_s, vLald_e, vBald_e, vBald_s, vAald_e, vIast_e, vLast_e, vBast_e, vAast_e, vAlen_e8, vAlen_e9, vAlen_e10, vAlen_e11, vAlen_e5, vAlen_e3, vGets_e, vCompact_e, vLdcS_e, vIret_e, vZret_e, vCret_e, vBret_e, vLret_e, vVret_e, vAret_e, vCallM_e0, vCallMV_e0, vCallS_e0, vCallSV_e0, vCallM_e1, vCallMV_e1, vCallS_e1, vCallSV_e1, vCallM_e2, vCallMV_e2, vCallS_e2, vCallSV_e2, vCallM_e3, vCallMV_e3, vCallS_e3, vCallSV_e3, vCallM_e4, vCallMV_e4, vCallS_e4, vCallSV_e4, vCallM_e5, vCallMV_e5, vCallS_e5, vCallSV_e5, vCallM_e6, vCallMV_e6, vCallS_e6, vCallSV_e6, vCallM_e7, vCallMV_e7, vCallS_e7, vCallSV_e7, vBad_e, vStrVal_e, vStrCod_e, vForm_e, vCallT_e0, vCallT_e1, vCallT_e2, vCopy_e, rf_0_0, rf_0_1, rf_0_2, rf_0_3, rf_0_4, rf_0_7, rf_0_10, rf_0_11, rf_0_12, rf_0_13, rf_0_14, rf_0_15, rf_0_16, rf_1_0, rf_3_0, rf_3_1, rf_6_0, rf_6_1, rf_9_0, rf_9_1, rf_9_3, rf_13_0, rf_13_1, rf_13_2, rf_16_0, rf_16_1, rf_16_2, rf_16_3, rf_21_0, rf_21_1, rf_21_2, rf_21_3, rf_26_0, rf_26_1, rf_26_2, rf_26_3, rf_26_4, rf_26_5, rf_26_6, rf_31_0, rf_31_2, rf_31_5, rf_31_6, rf_36_0, rf_36_1, rf_36_2, rf_36_3, rf_39_0, rf_39_1, rf_39_2, rf_41_0, rf_41_1, rf_41_2, rf_41_3, rf_5000_1, rf_5000_2, rf_5000_3, rf_5000_4, rf_5000_5, rf_5000_15, rf_5000_16, rf_5000_18, rf_5000_19, rf_5000_20, rf_5000_21, rf_5000_22, rf_5000_23, rf_5000_24, rf_5000_25, rf_5000_26, rf_5000_27, rf_5000_36, rf_5000_37, rf_5000_40, rf_5000_41, rf_5000_42, rf_5000_43, rf_5000_44, rf_5000_45, rf_5000_47, rf_5000_52, rf_5000_54, rf_5000_55, rf_100_0, rf_100_1, rf_103_0, rf_103_1, rf_106_0, rf_106_1, rf_109_0, rf_109_1, al_2, al_4, al_5, al_7, al_8, al_10, al_11, al_12, al_14, al_15, al_17, al_18, al_19, al_20, al_22, al_23, al_24, al_25, al_27, al_28, al_29, al_30, al_32, al_33, al_34, al_35, al_37, al_38, al_40, al_42, al_5001, al_5002, al_5003, al_5004, al_5005, al_5006, al_5007, al_5008, al_5009, al_5010, al_5011, al_5012, al_5013, al_5014, al_5015, al_5016, al_5017, al_5018, al_5019, al_5020, al_5021, al_5022, al_5023, al_5024, al_5025, al_5026, al_9000, al_101, al_102, al_104, al_105, al_107, al_108, al_110, al_111, vcs_e, lg_c0, lg_cs, lg_nil, set_c0, set_cs, okst_0, okst_s, acok_n, acok_c, List.contains_nil, List.contains_cons, Bool.or_false, Bool.false_or, Bool.false_eq_true, if_false, if_true, ite_self, ne_eq, true_and, and_true, not_false_eq_true, not_true_eq_false, false_imp_iff, true_imp_iff, Nat.ble_eq, Bool.and_eq_true, reduceCtorEq, or_false, false_or, or_true, true_or, false_and, and_false, and_self, Int.reduceLE, Int.reduceAdd, Int.reduceSub, Int.reduceMul, Int.reduceNeg, Int.reduceLT, Int.reduceEq, Int.reduceNe, Nat.reduceBEq, Nat.reduceBNe, Nat.reduceEqDiff, amCmp_in, amCmp_lt, amCmp_le, amCmp_gt, amCmp_ge, amCmp_eq, amCmp_ne, Nat.reduceLeDiff, Nat.reduceSub, Bool.and_true, Bool.true_and, Bool.and_self, Bool.or_true, Bool.true_or, isRf_3, isRf_4, isRf_5, isRf_8, isRf_9, isRf_10, isRf_11, isRf_15, isRf_16, isRf_17, isRf_18, isRf_19, isRf_20, isRf_21, isRf_22, isRf_23, isRf_24, isRf_25, isRf_26, isRf_27, isRf_28, k_X12_first_0, k_X12_first_1, k_X12_first_2, k_X12_first_5, k_X12_first_6, k_X12_first_7, k_X12_first_10, k_X12_first_13, k_X12_first_14, k_X12_first_15, k_X12_first_16, k_X12_first_17, k_X12_first_20, k_X12_first_21, k_X12_first_24, k_X12_first_25, k_X12_first_26, k_X12_first_27, k_X12_first_28, k_X12_first_30, k_X12_first_32, k_X12_first_33, k_X12_first_36, k_X12_first_39, k_X12_first_40, k_X12_first_42, k_X12_first_45, k_X12_first_48, k_X12_first_49, k_X12_first_50, k_X12_first_53, k_X12_first_54, k_X12_first_57, k_X12_first_59, k_X12_first_60, k_X12_first_61, k_X12_first_64, k_X12_first_65, k_X12_first_66, k_X12_first_69, k_X12_first_71, k_X12_first_72, k_X12_first_75, k_X12_first_78, k_X12_first_79, g29]
      repeat' (first | assumption | apply And.intro | intro _)
      all_goals first | omega | exact absurd trivial (by assumption) | exact hq
  · change vcs _ _ _ _ 60 0 [(28, 5000), (0, p), (6, 0), (6, 0), (6, 0)] [] σ
    by_cases d : 0 ≤ p ∧ p < σ 5000 28
    · have i9 : ∀ τ, PF (th0 σ) τ → mOk τ → (∀ j, 0 ≤ j → j < σ 5000 29 → τ 5019 j = mFl (th0 σ) 5015 p (mMi (th0 σ) p) j ∧ τ 5020 j = mOa (th0 σ) 5015 p (mMi (th0 σ) p) j) → ∃ k', inv_fsm σ p k' 30 [(28, 5000), (0, p), (0, mOu (th0 σ) 5015 p (mMi (th0 σ) p)), (0, -1), (0, 0)] [] τ := fun τ a b f =>
        ⟨(σ 5000 29).toNat, rfl, rfl, d, a, b, fun j j0 j1 => (f j j0 j1).2, 0, rfl, by omega⟩
      simp only [↓reduceIte, inR_0, inR_1, inR_m, vSw2_e, swP_n, swP_c, vI_e, vL_e, vNull_e, vIload_e, vLload_e, vAload_e, vIstore_e, vLstore_e, vAstore_e, vIinc_e, vIadd_e, vIsub_e, vImul_e, vIand_e, vIor_e, vIxor_e, vIshl_e, vIshr_e, vIushr_e, vIdiv_e, vIrem_e, vLadd_e, vLsub_e, vLmul_e, vLand_e, vLor_e, vLxor_e, vLdiv_e, vLrem_e, vLushr_e, vLshl_e, vLcmp_e, vIneg_e, vI2l_e, vL2i_e, vI2b_e, vI2c_e, vDup_e, vPop_e, vDup2_e, vGoto_e, vIcEq_e, vIfEq_e, vIcNe_e, vIfNe_e, vIcLt_e, vIfLt_e, vIcGe_e, vIfGe_e, vIcGt_e, vIfGt_e, vIcLe_e, vIfLe_e, vNonnull_e, vSw_e, vGetI_e, vGetL_e, vGetR_e, vPutI_e, vPutZ_e, vPutL_e, vPutR_e, vIald_e, vIald_s, vLald_e, vBald_e, vBald_s, vAald_e, vIast_e, vLast_e, vBast_e, vAast_e, vAlen_e8, vAlen_e9, vAlen_e10, vAlen_e11, vAlen_e5, vAlen_e3, vGets_e, vCompact_e, vLdcS_e, vIret_e, vZret_e, vCret_e, vBret_e, vLret_e, vVret_e, vAret_e, vCallM_e0, vCallMV_e0, vCallS_e0, vCallSV_e0, vCallM_e1, vCallMV_e1, vCallS_e1, vCallSV_e1, vCallM_e2, vCallMV_e2, vCallS_e2, vCallSV_e2, vCallM_e3, vCallMV_e3, vCallS_e3, vCallSV_e3, vCallM_e4, vCallMV_e4, vCallS_e4, vCallSV_e4, vCallM_e5, vCallMV_e5, vCallS_e5, vCallSV_e5, vCallM_e6, vCallMV_e6, vCallS_e6, vCallSV_e6, vCallM_e7, vCallMV_e7, vCallS_e7, vCallSV_e7, vBad_e, vStrVal_e, vStrCod_e, vForm_e, vCallT_e0, vCallT_e1, vCallT_e2, vCopy_e, rf_0_0, rf_0_1, rf_0_2, rf_0_3, rf_0_4, rf_0_7, rf_0_10, rf_0_11, rf_0_12, rf_0_13, rf_0_14, rf_0_15, rf_0_16, rf_1_0, rf_3_0, rf_3_1, rf_6_0, rf_6_1, rf_9_0, rf_9_1, rf_9_3, rf_13_0, rf_13_1, rf_13_2, rf_16_0, rf_16_1, rf_16_2, rf_16_3, rf_21_0, rf_21_1, rf_21_2, rf_21_3, rf_26_0, rf_26_1, rf_26_2, rf_26_3, rf_26_4, rf_26_5, rf_26_6, rf_31_0, rf_31_2, rf_31_5, rf_31_6, rf_36_0, rf_36_1, rf_36_2, rf_36_3, rf_39_0, rf_39_1, rf_39_2, rf_41_0, rf_41_1, rf_41_2, rf_41_3, rf_5000_1, rf_5000_2, rf_5000_3, rf_5000_4, rf_5000_5, rf_5000_15, rf_5000_16, rf_5000_18, rf_5000_19, rf_5000_20, rf_5000_21, rf_5000_22, rf_5000_23, rf_5000_24, rf_5000_25, rf_5000_26, rf_5000_27, rf_5000_36, rf_5000_37, rf_5000_40, rf_5000_41, rf_5000_42, rf_5000_43, rf_5000_44, rf_5000_45, rf_5000_47, rf_5000_52, rf_5000_54, rf_5000_55, rf_100_0, rf_100_1, rf_103_0, rf_103_1, rf_106_0, rf_106_1, rf_109_0, rf_109_1, al_2, al_4, al_5, al_7, al_8, al_10, al_11, al_12, al_14, al_15, al_17, al_18, al_19, al_20, al_22, al_23, al_24, al_25, al_27, al_28, al_29, al_30, al_32, al_33, al_34, al_35, al_37, al_38, al_40, al_42, al_5001, al_5002, al_5003, al_5004, al_5005, al_5006, al_5007, al_5008, al_5009, al_5010, al_5011, al_5012, al_5013, al_5014, al_5015, al_5016, al_5017, al_5018, al_5019, al_5020, al_5021, al_5022, al_5023, al_5024, al_5025, al_5026, al_9000, al_101, al_102, al_104, al_105, al_107, al_108, al_110, al_111, vcs_e, lg_c0, lg_cs, lg_nil, set_c0, set_cs, okst_0, okst_s, acok_n, acok_c, List.contains_nil, List.contains_cons, Bool.or_false, Bool.false_or, Bool.false_eq_true, if_false, if_true, ite_self, ne_eq, true_and, and_true, not_false_eq_true, not_true_eq_false, false_imp_iff, true_imp_iff, Nat.ble_eq, Bool.and_eq_true, reduceCtorEq, or_false, false_or, or_true, true_or, false_and, and_false, and_self, Int.reduceLE, Int.reduceAdd, Int.reduceSub, Int.reduceMul, Int.reduceNeg, Int.reduceLT, Int.reduceEq, Int.reduceNe, Nat.reduceBEq, Nat.reduceBNe, Nat.reduceEqDiff, amCmp_in, amCmp_lt, amCmp_le, amCmp_gt, amCmp_ge, amCmp_eq, amCmp_ne, Nat.reduceLeDiff, Nat.reduceSub, Bool.and_true, Bool.true_and, Bool.and_self, Bool.or_true, Bool.true_or, isRf_3, isRf_4, isRf_5, isRf_8, isRf_9, isRf_10, isRf_11, isRf_15, isRf_16, isRf_17, isRf_18, isRf_19, isRf_20, isRf_21, isRf_22, isRf_23, isRf_24, isRf_25, isRf_26, isRf_27, isRf_28, k_X12_first_0, k_X12_first_1, k_X12_first_2, k_X12_first_5, k_X12_first_6, k_X12_first_7, k_X12_first_10, k_X12_first_13, k_X12_first_14, k_X12_first_15, k_X12_first_16, k_X12_first_17, k_X12_first_20, k_X12_first_21, k_X12_first_24, k_X12_first_25, k_X12_first_26, k_X12_first_27, k_X12_first_28, k_X12_first_30, k_X12_first_32, k_X12_first_33, k_X12_first_36, k_X12_first_39, k_X12_first_40, k_X12_first_42, k_X12_first_45, k_X12_first_48, k_X12_first_49, k_X12_first_50, k_X12_first_53, k_X12_first_54, k_X12_first_57, k_X12_first_59, k_X12_first_60, k_X12_first_61, k_X12_first_64, k_X12_first_65, k_X12_first_66, k_X12_first_69, k_X12_first_71, k_X12_first_72, k_X12_first_75, k_X12_first_78, k_X12_first_79, w_X12_goPlay_e, w_X12_has_e, w_X12_isPlay_e, e28, e29, if_pos d]
      repeat' (first | assumption | exact hP | apply And.intro | intro _)
      all_goals first | omega | exact absurd trivial (by assumption) | exact i9 _ (by assumption) (by assumption) (by assumption) | exact Or.inl rfl
    · have q8 := h1 d
      simp only [↓reduceIte, inR_0, inR_1, inR_m, vSw2_e, swP_n, swP_c, vI_e, vL_e, vNull_e, vIload_e, vLload_e, vAload_e, vIstore_e, vLstore_e, vAstore_e, vIinc_e, vIadd_e, vIsub_e, vImul_e, vIand_e, vIor_e, vIxor_e, vIshl_e, vIshr_e, vIushr_e, vIdiv_e, vIrem_e, vLadd_e, vLsub_e, vLmul_e, vLand_e, vLor_e, vLxor_e, vLdiv_e, vLrem_e, vLushr_e, vLshl_e, vLcmp_e, vIneg_e, vI2l_e, vL2i_e, vI2b_e, vI2c_e, vDup_e, vPop_e, vDup2_e, vGoto_e, vIcEq_e, vIfEq_e, vIcNe_e, vIfNe_e, vIcLt_e, vIfLt_e, vIcGe_e, vIfGe_e, vIcGt_e, vIfGt_e, vIcLe_e, vIfLe_e, vNonnull_e, vSw_e, vGetI_e, vGetL_e, vGetR_e, vPutI_e, vPutZ_e, vPutL_e, vPutR_e, vIald_e, vIald_s, vLald_e, vBald_e, vBald_s, vAald_e, vIast_e, vLast_e, vBast_e, vAast_e, vAlen_e8, vAlen_e9, vAlen_e10, vAlen_e11, vAlen_e5, vAlen_e3, vGets_e, vCompact_e, vLdcS_e, vIret_e, vZret_e, vCret_e, vBret_e, vLret_e, vVret_e, vAret_e, vCallM_e0, vCallMV_e0, vCallS_e0, vCallSV_e0, vCallM_e1, vCallMV_e1, vCallS_e1, vCallSV_e1, vCallM_e2, vCallMV_e2, vCallS_e2, vCallSV_e2, vCallM_e3, vCallMV_e3, vCallS_e3, vCallSV_e3, vCallM_e4, vCallMV_e4, vCallS_e4, vCallSV_e4, vCallM_e5, vCallMV_e5, vCallS_e5, vCallSV_e5, vCallM_e6, vCallMV_e6, vCallS_e6, vCallSV_e6, vCallM_e7, vCallMV_e7, vCallS_e7, vCallSV_e7, vBad_e, vStrVal_e, vStrCod_e, vForm_e, vCallT_e0, vCallT_e1, vCallT_e2, vCopy_e, rf_0_0, rf_0_1, rf_0_2, rf_0_3, rf_0_4, rf_0_7, rf_0_10, rf_0_11, rf_0_12, rf_0_13, rf_0_14, rf_0_15, rf_0_16, rf_1_0, rf_3_0, rf_3_1, rf_6_0, rf_6_1, rf_9_0, rf_9_1, rf_9_3, rf_13_0, rf_13_1, rf_13_2, rf_16_0, rf_16_1, rf_16_2, rf_16_3, rf_21_0, rf_21_1, rf_21_2, rf_21_3, rf_26_0, rf_26_1, rf_26_2, rf_26_3, rf_26_4, rf_26_5, rf_26_6, rf_31_0, rf_31_2, rf_31_5, rf_31_6, rf_36_0, rf_36_1, rf_36_2, rf_36_3, rf_39_0, rf_39_1, rf_39_2, rf_41_0, rf_41_1, rf_41_2, rf_41_3, rf_5000_1, rf_5000_2, rf_5000_3, rf_5000_4, rf_5000_5, rf_5000_15, rf_5000_16, rf_5000_18, rf_5000_19, rf_5000_20, rf_5000_21, rf_5000_22, rf_5000_23, rf_5000_24, rf_5000_25, rf_5000_26, rf_5000_27, rf_5000_36, rf_5000_37, rf_5000_40, rf_5000_41, rf_5000_42, rf_5000_43, rf_5000_44, rf_5000_45, rf_5000_47, rf_5000_52, rf_5000_54, rf_5000_55, rf_100_0, rf_100_1, rf_103_0, rf_103_1, rf_106_0, rf_106_1, rf_109_0, rf_109_1, al_2, al_4, al_5, al_7, al_8, al_10, al_11, al_12, al_14, al_15, al_17, al_18, al_19, al_20, al_22, al_23, al_24, al_25, al_27, al_28, al_29, al_30, al_32, al_33, al_34, al_35, al_37, al_38, al_40, al_42, al_5001, al_5002, al_5003, al_5004, al_5005, al_5006, al_5007, al_5008, al_5009, al_5010, al_5011, al_5012, al_5013, al_5014, al_5015, al_5016, al_5017, al_5018, al_5019, al_5020, al_5021, al_5022, al_5023, al_5024, al_5025, al_5026, al_9000, al_101, al_102, al_104, al_105, al_107, al_108, al_110, al_111, vcs_e, lg_c0, lg_cs, lg_nil, set_c0, set_cs, okst_0, okst_s, acok_n, acok_c, List.contains_nil, List.contains_cons, Bool.or_false, Bool.false_or, Bool.false_eq_true, if_false, if_true, ite_self, ne_eq, true_and, and_true, not_false_eq_true, not_true_eq_false, false_imp_iff, true_imp_iff, Nat.ble_eq, Bool.and_eq_true, reduceCtorEq, or_false, false_or, or_true, true_or, false_and, and_false, and_self, Int.reduceLE, Int.reduceAdd, Int.reduceSub, Int.reduceMul, Int.reduceNeg, Int.reduceLT, Int.reduceEq, Int.reduceNe, Nat.reduceBEq, Nat.reduceBNe, Nat.reduceEqDiff, amCmp_in, amCmp_lt, amCmp_le, amCmp_gt, amCmp_ge, amCmp_eq, amCmp_ne, Nat.reduceLeDiff, Nat.reduceSub, Bool.and_true, Bool.true_and, Bool.and_self, Bool.or_true, Bool.true_or, isRf_3, isRf_4, isRf_5, isRf_8, isRf_9, isRf_10, isRf_11, isRf_15, isRf_16, isRf_17, isRf_18, isRf_19, isRf_20, isRf_21, isRf_22, isRf_23, isRf_24, isRf_25, isRf_26, isRf_27, isRf_28, k_X12_first_0, k_X12_first_1, k_X12_first_2, k_X12_first_5, k_X12_first_6, k_X12_first_7, k_X12_first_10, k_X12_first_13, k_X12_first_14, k_X12_first_15, k_X12_first_16, k_X12_first_17, k_X12_first_20, k_X12_first_21, k_X12_first_24, k_X12_first_25, k_X12_first_26, k_X12_first_27, k_X12_first_28, k_X12_first_30, k_X12_first_32, k_X12_first_33, k_X12_first_36, k_X12_first_39, k_X12_first_40, k_X12_first_42, k_X12_first_45, k_X12_first_48, k_X12_first_49, k_X12_first_50, k_X12_first_53, k_X12_first_54, k_X12_first_57, k_X12_first_59, k_X12_first_60, k_X12_first_61, k_X12_first_64, k_X12_first_65, k_X12_first_66, k_X12_first_69, k_X12_first_71, k_X12_first_72, k_X12_first_75, k_X12_first_78, k_X12_first_79, w_X12_goPlay_e, w_X12_has_e, w_X12_isPlay_e, e28, e29, if_neg d]
      repeat' (first | apply And.intro | intro _)
      all_goals first | omega | exact absurd trivial (by assumption) | exact q8
