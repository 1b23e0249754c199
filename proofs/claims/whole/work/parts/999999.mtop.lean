/-! the reference: TICKETS, MOST as asked -/
abbrev tr51 (σ : Mem) : Mem := up (up (trC σ) 5000 51 (-1)) 5000 50 (-1)
theorem try0 {σ : Mem} (hx : mX σ 5015) : tryS (th0 σ) 0 (σ 5015) (tr51 σ) := by
  have l27 := hx.2.2.2.2.2.2
  have hxt := mX_trC hx
  have h0 : tryS (th0 σ) 0 (σ 5015) (trC σ) := by
    refine ⟨⟨fun b h1 h2 h3 h4 => trC_o σ (by omega), fun k a1 a2 a3 a4 a5 a6 a7 => by rw [trC_o σ (by decide)]⟩, hxt.2.1.1, fun j j0 j1 _ => trC_j l27.1 j0 j1, by rw [trC_o σ (by decide)], by rw [trC_o σ (by decide)]⟩
  exact tryS_k (tryS_k h0 (Or.inr rfl)) (Or.inl rfl)
def a_X12_tickets (d : Nat) : AC := [(0, vAload 0 1), (1, vI 0 2), (2, vPutI 28 0 5), (5, vAload 0 6), (6, vIload 1 7), (7, vCallM w_X12_isPlay 28 1 10), (10, vIfEq 35 13), (13, vIload 2 14), (14, vI2l 15), (15, vL 0 16), (16, vL 99 19), (19, vCallS w_X12_isIn 3 22), (22, vIfEq 35 25), (25, vIload 3 26), (26, vI2l 27), (27, vL 0 28), (28, vL 1 29), (29, vCallS w_X12_isIn 3 32), (32, vIfNe 37 35), (35, vI (-1) 36), (36, vIret), (37, vAload 0 38), (38, vGetR TT 28 36 8 41), (41, vAload 0 42), (42, vGetR TT 28 37 8 45), (45, vCallSV w_X12_copy 2 48), (48, vAload 0 49), (49, vI (-1) 50), (50, vPutI 28 51 53), (53, vAload 0 54), (54, vI (-1) 55), (55, vPutI 28 50 58), (58, vAload 0 59), (59, vI 0 60), (60, vI 0 61), (61, vIload 1 62), (62, vIload 2 63), (63, vCallMV (w_X12_goTickets d) 28 4 66), (66, vIload 3 67), (67, vIfNe 77 70), (70, vAload 0 71), (71, vGetI 28 51 74), (74, vGoto 81), (77, vAload 0 78), (78, vGetI 28 50 81), (81, vIret)]
theorem k_X12_tickets_0 (d : Nat) : look (a_X12_tickets d) 0 = vAload 0 1 := rfl
theorem k_X12_tickets_1 (d : Nat) : look (a_X12_tickets d) 1 = vI 0 2 := rfl
theorem k_X12_tickets_2 (d : Nat) : look (a_X12_tickets d) 2 = vPutI 28 0 5 := rfl
theorem k_X12_tickets_5 (d : Nat) : look (a_X12_tickets d) 5 = vAload 0 6 := rfl
theorem k_X12_tickets_6 (d : Nat) : look (a_X12_tickets d) 6 = vIload 1 7 := rfl
theorem k_X12_tickets_7 (d : Nat) : look (a_X12_tickets d) 7 = vCallM w_X12_isPlay 28 1 10 := rfl
theorem k_X12_tickets_10 (d : Nat) : look (a_X12_tickets d) 10 = vIfEq 35 13 := rfl
theorem k_X12_tickets_13 (d : Nat) : look (a_X12_tickets d) 13 = vIload 2 14 := rfl
theorem k_X12_tickets_14 (d : Nat) : look (a_X12_tickets d) 14 = vI2l 15 := rfl
theorem k_X12_tickets_15 (d : Nat) : look (a_X12_tickets d) 15 = vL 0 16 := rfl
theorem k_X12_tickets_16 (d : Nat) : look (a_X12_tickets d) 16 = vL 99 19 := rfl
theorem k_X12_tickets_19 (d : Nat) : look (a_X12_tickets d) 19 = vCallS w_X12_isIn 3 22 := rfl
theorem k_X12_tickets_22 (d : Nat) : look (a_X12_tickets d) 22 = vIfEq 35 25 := rfl
theorem k_X12_tickets_25 (d : Nat) : look (a_X12_tickets d) 25 = vIload 3 26 := rfl
theorem k_X12_tickets_26 (d : Nat) : look (a_X12_tickets d) 26 = vI2l 27 := rfl
theorem k_X12_tickets_27 (d : Nat) : look (a_X12_tickets d) 27 = vL 0 28 := rfl
theorem k_X12_tickets_28 (d : Nat) : look (a_X12_tickets d) 28 = vL 1 29 := rfl
theorem k_X12_tickets_29 (d : Nat) : look (a_X12_tickets d) 29 = vCallS w_X12_isIn 3 32 := rfl
theorem k_X12_tickets_32 (d : Nat) : look (a_X12_tickets d) 32 = vIfNe 37 35 := rfl
theorem k_X12_tickets_35 (d : Nat) : look (a_X12_tickets d) 35 = vI (-1) 36 := rfl
theorem k_X12_tickets_36 (d : Nat) : look (a_X12_tickets d) 36 = vIret := rfl
theorem k_X12_tickets_37 (d : Nat) : look (a_X12_tickets d) 37 = vAload 0 38 := rfl
theorem k_X12_tickets_38 (d : Nat) : look (a_X12_tickets d) 38 = vGetR TT 28 36 8 41 := rfl
theorem k_X12_tickets_41 (d : Nat) : look (a_X12_tickets d) 41 = vAload 0 42 := rfl
theorem k_X12_tickets_42 (d : Nat) : look (a_X12_tickets d) 42 = vGetR TT 28 37 8 45 := rfl
theorem k_X12_tickets_45 (d : Nat) : look (a_X12_tickets d) 45 = vCallSV w_X12_copy 2 48 := rfl
theorem k_X12_tickets_48 (d : Nat) : look (a_X12_tickets d) 48 = vAload 0 49 := rfl
theorem k_X12_tickets_49 (d : Nat) : look (a_X12_tickets d) 49 = vI (-1) 50 := rfl
theorem k_X12_tickets_50 (d : Nat) : look (a_X12_tickets d) 50 = vPutI 28 51 53 := rfl
theorem k_X12_tickets_53 (d : Nat) : look (a_X12_tickets d) 53 = vAload 0 54 := rfl
theorem k_X12_tickets_54 (d : Nat) : look (a_X12_tickets d) 54 = vI (-1) 55 := rfl
theorem k_X12_tickets_55 (d : Nat) : look (a_X12_tickets d) 55 = vPutI 28 50 58 := rfl
theorem k_X12_tickets_58 (d : Nat) : look (a_X12_tickets d) 58 = vAload 0 59 := rfl
theorem k_X12_tickets_59 (d : Nat) : look (a_X12_tickets d) 59 = vI 0 60 := rfl
theorem k_X12_tickets_60 (d : Nat) : look (a_X12_tickets d) 60 = vI 0 61 := rfl
theorem k_X12_tickets_61 (d : Nat) : look (a_X12_tickets d) 61 = vIload 1 62 := rfl
theorem k_X12_tickets_62 (d : Nat) : look (a_X12_tickets d) 62 = vIload 2 63 := rfl
theorem k_X12_tickets_63 (d : Nat) : look (a_X12_tickets d) 63 = vCallMV (w_X12_goTickets d) 28 4 66 := rfl
theorem k_X12_tickets_66 (d : Nat) : look (a_X12_tickets d) 66 = vIload 3 67 := rfl
theorem k_X12_tickets_67 (d : Nat) : look (a_X12_tickets d) 67 = vIfNe 77 70 := rfl
theorem k_X12_tickets_70 (d : Nat) : look (a_X12_tickets d) 70 = vAload 0 71 := rfl
theorem k_X12_tickets_71 (d : Nat) : look (a_X12_tickets d) 71 = vGetI 28 51 74 := rfl
theorem k_X12_tickets_74 (d : Nat) : look (a_X12_tickets d) 74 = vGoto 81 := rfl
theorem k_X12_tickets_77 (d : Nat) : look (a_X12_tickets d) 77 = vAload 0 78 := rfl
theorem k_X12_tickets_78 (d : Nat) : look (a_X12_tickets d) 78 = vGetI 28 50 81 := rfl
theorem k_X12_tickets_81 (d : Nat) : look (a_X12_tickets d) 81 = vIret := rfl
theorem o_X12_tickets {X : amX} (d : Nat) (h6 : d ≤ 6) (e1 : XT X = TT) (e2 : XD X = 70) (hB : amB X RX12 cX12_tickets (some .int) 4) : ∀ pc, amOK X pc (look (a_X12_tickets d) pc) := by
  have hT : amTok (XT X) := e1 ▸ TT_ok
  refine look_ok ?_
  unfold a_X12_tickets
  refine fc (ok_aload_n hB dX12_tickets_0) ?_
  refine fc (ok_iconst hB dX12_tickets_1) ?_
  refine fc (ok_putI hB hT fp_X12_111 rfl rfl rfl af_12_0 dX12_tickets_2) ?_
  refine fc (ok_aload_n hB dX12_tickets_5) ?_
  refine fc (ok_iload_n hB dX12_tickets_6) ?_
  refine fc (ok_callM hB hT (e1 ▸ s_X12_isPlay) lk_X12_366 (by rw [e2]; omega) (c := 12) rfl rfl rfl wd_1652 sl_X12_isPlay dX12_tickets_7) ?_
  refine fc (ok_if_eq hB (t := 35) (by decide) dX12_tickets_10) ?_
  refine fc (ok_iload_n hB dX12_tickets_13) ?_
  refine fc (ok_i2l hB dX12_tickets_14) ?_
  refine fc (ok_lconst hB (z := 0) (by decide) dX12_tickets_15) ?_
  refine fc (ok_ldc2 hB wd_1816 rfl dX12_tickets_16) ?_
  refine fc (ok_callS hB (e1 ▸ s_X12_isIn) lk_X12_232 (by rw [e2]; omega) wd_1502 dX12_tickets_19) ?_
  refine fc (ok_if_eq hB (t := 35) (by decide) dX12_tickets_22) ?_
  refine fc (ok_iload_n hB dX12_tickets_25) ?_
  refine fc (ok_i2l hB dX12_tickets_26) ?_
  refine fc (ok_lconst hB (z := 0) (by decide) dX12_tickets_27) ?_
  refine fc (ok_lconst hB (z := 1) (by decide) dX12_tickets_28) ?_
  refine fc (ok_callS hB (e1 ▸ s_X12_isIn) lk_X12_232 (by rw [e2]; omega) wd_1502 dX12_tickets_29) ?_
  refine fc (ok_if_ne hB (t := 37) (by decide) dX12_tickets_32) ?_
  refine fc (ok_iconst hB dX12_tickets_35) ?_
  refine fc (ok_iret hB dX12_tickets_36) ?_
  refine fc (ok_aload_n hB dX12_tickets_37) ?_
  refine fc (okt_getR e1 hB hT fl_X12_67 rfl af_12_36 at_12_36 (by decide) dX12_tickets_38) ?_
  refine fc (ok_aload_n hB dX12_tickets_41) ?_
  refine fc (okt_getR e1 hB hT fl_X12_70 rfl af_12_37 at_12_37 (by decide) dX12_tickets_42) ?_
  refine fc (ok_callSV hB (e1 ▸ s_X12_copy) lk_X12_419 (by rw [e2]; omega) wd_1790 dX12_tickets_45) ?_
  refine fc (ok_aload_n hB dX12_tickets_48) ?_
  refine fc (ok_iconst hB dX12_tickets_49) ?_
  refine fc (ok_putI hB hT fp_X12_429 rfl rfl rfl af_12_51 dX12_tickets_50) ?_
  refine fc (ok_aload_n hB dX12_tickets_53) ?_
  refine fc (ok_iconst hB dX12_tickets_54) ?_
  refine fc (ok_putI hB hT fp_X12_436 rfl rfl rfl af_12_50 dX12_tickets_55) ?_
  refine fc (ok_aload_n hB dX12_tickets_58) ?_
  refine fc (ok_iconst hB dX12_tickets_59) ?_
  refine fc (ok_iconst hB dX12_tickets_60) ?_
  refine fc (ok_iload_n hB dX12_tickets_61) ?_
  refine fc (ok_iload_n hB dX12_tickets_62) ?_
  refine fc (ok_callMV hB hT (fun av9 σ9 Q9 h9 => e1 ▸ (s_X12_goTickets d (tiS d)) av9 σ9 Q9 h9) lk_X12_439 (by rw [e2]; omega) (c := 12) rfl rfl rfl wd_1819 sl_X12_goTickets dX12_tickets_63) ?_
  refine fc (ok_iload_n hB dX12_tickets_66) ?_
  refine fc (ok_if_ne hB (t := 77) (by decide) dX12_tickets_67) ?_
  refine fc (ok_aload_n hB dX12_tickets_70) ?_
  refine fc (ok_getI hB hT fl_X12_429 rfl rfl (Or.inl af_12_51) dX12_tickets_71) ?_
  refine fc (ok_goto hB (t := 81) (by decide) dX12_tickets_74) ?_
  refine fc (ok_aload_n hB dX12_tickets_77) ?_
  refine fc (ok_getI hB hT fl_X12_436 rfl rfl (Or.inl af_12_50) dX12_tickets_78) ?_
  refine fc (ok_iret hB dX12_tickets_81) ?_
  exact fn

def w_X12_tickets (d : Nat) : WP := fun av σ Q => ∃ (p : Int) (v : Int) (w : Int), av = [(28, 5000), (0, p), (0, v), (0, w)] ∧ (InR p ∧ InR v ∧ InR w ∧ mX σ 5015 ∧ σ 5000 29 = d ∧ (¬ (0 ≤ p ∧ p < σ 5000 28 ∧ 0 ≤ v ∧ v ≤ 99 ∧ 0 ≤ w ∧ w ≤ 1) → Q (0, -1) (th0 σ)) ∧ (0 ≤ p ∧ p < σ 5000 28 ∧ 0 ≤ v ∧ v ≤ 99 ∧ 0 ≤ w ∧ w ≤ 1 → ∀ τ, QF σ τ → mOk τ → Q (0, if w = 0 then (tkG (th0 σ) p v d (σ 5015) 0 0 (-1, -1)).2 else (tkG (th0 σ) p v d (σ 5015) 0 0 (-1, -1)).1) τ))
theorem w_X12_tickets_e (d : Nat) (p : Int) (v : Int) (w : Int) (σ : Mem) (Q : AV → Mem → Prop) : w_X12_tickets d [(28, 5000), (0, p), (0, v), (0, w)] σ Q = (InR p ∧ InR v ∧ InR w ∧ mX σ 5015 ∧ σ 5000 29 = d ∧ (¬ (0 ≤ p ∧ p < σ 5000 28 ∧ 0 ≤ v ∧ v ≤ 99 ∧ 0 ≤ w ∧ w ≤ 1) → Q (0, -1) (th0 σ)) ∧ (0 ≤ p ∧ p < σ 5000 28 ∧ 0 ≤ v ∧ v ≤ 99 ∧ 0 ≤ w ∧ w ≤ 1 → ∀ τ, QF σ τ → mOk τ → Q (0, if w = 0 then (tkG (th0 σ) p v d (σ 5015) 0 0 (-1, -1)).2 else (tkG (th0 σ) p v d (σ 5015) 0 0 (-1, -1)).1) τ)) := by
  apply propext; constructor
  · rintro ⟨p', v', w', h9, hb9⟩; cases h9; exact hb9
  · intro hb9; exact ⟨p, v, w, rfl, hb9⟩

set_option maxRecDepth 100000 in
set_option maxHeartbeats 4000000 in
theorem s_X12_tickets (d : Nat) (h6 : d ≤ 6) : ∀ av σ Q, w_X12_tickets d av σ Q → amCall (70) 0 0 TT yX12_tickets cX12_tickets 4 (some .int) av σ Q := by
  rintro av σ Q ⟨p, v, w, rfl, hp, hv, hw, hx, hd, h1, h2⟩
  have e28 : th0 σ 5000 28 = σ 5000 28 := th_k σ (by decide)
  have e29 : th0 σ 5000 29 = σ 5000 29 := th_k σ (by decide)
  have e30 : th0 σ 5000 30 = σ 5000 30 := th_k σ (by decide)
  have t15 : th0 σ 5015 = σ 5015 := th_o σ (by decide)
  have n28 := hx.2.1.2.2.2.2.1
  have l27 := hx.2.2.2.2.2.2
  have hxt := mX_th hx
  have hT := try0 hx
  have i50 : tr51 σ 5000 50 = -1 := up_s _ _ _ _
  have i51 : tr51 σ 5000 51 = -1 := by unfold tr51; rw [up_nj _ (by decide), up_s]
  have j50 : InR (tr51 σ 5000 50) := by rw [i50]; exact ⟨by decide, by decide⟩
  have j51 : InR (tr51 σ 5000 51) := by rw [i51]; exact ⟨by decide, by decide⟩
  have hAr : aR (th0 σ 5000 29) (th0 σ 5000 30) (σ 5015) := by rw [e29, e30]; exact hx.2.2
  have et : cpy (th0 σ) 5015 0 5016 0 (28 + 3 * σ 5015 27) = trC σ := rfl
  by_cases d1 : 0 ≤ p ∧ p < σ 5000 28
  · by_cases d2 : 0 ≤ v ∧ v ≤ 99
    · by_cases d3 : 0 ≤ w ∧ w ≤ 1
      · have hq := h2 ⟨d1.1, d1.2, d2.1, d2.2, d3.1, d3.2⟩
        have fin : ∀ τ, tryS (th0 σ) 0 (σ 5015) τ → (τ 5000 50, τ 5000 51) = tkG (th0 σ) p v d (σ 5015) 0 0 (tr51 σ 5000 50, tr51 σ 5000 51) → (w = 0 → Q (0, τ 5000 51) τ) ∧ (¬ w = 0 → Q (0, τ 5000 50) τ) := fun τ a e => by
          rw [i50, i51] at e
          have := hq τ (QF_tr (QF_th σ) a.1) a.2.1
          rw [← e] at this
          exact ⟨fun q => by rw [if_pos q] at this; exact this, fun q => by rw [if_neg q] at this; exact this⟩
        refine am_m0 (own := RX12) (A := look (a_X12_tickets d)) (fun X e1 e2 hB => o_X12_tickets d h6 e1 e2 hB) rfl (by decide +kernel) rfl rfl 120 (w := 4) ?_
        change vcs _ _ _ _ 120 0 [(28, 5000), (0, p), (0, v), (0, w)] [] σ
        simp only [↓reduceIte, inR_0, inR_1, inR_m, vSw2_e, swP_n, swP_c, vI_e, vL_e, vNull_e, vIload_e, vLload_e, vAload_e, vIstore_e, vLstore_e, vAstore_e, vIinc_e, vIadd_e, vIsub_e, vImul_e, vIand_e, vIor_e, vIxor_e, vIshl_e, vIshr_e, vIushr_e, vIdiv_e, vIrem_e, vLadd_e, vLsub_e, vLmul_e, vLand_e, vLor_e, vLxor_e, vLdiv_e, vLrem_e, vLushr_e, vLshl_e, vLcmp_e, vIneg_e, vI2l_e, vL2i_e, vI2b_e, vI2c_e, vDup_e, vPop_e, vDup2_e, vGoto_e, vIcEq_e, vIfEq_e, vIcNe_e, vIfNe_e, vIcLt_e, vIfLt_e, vIcGe_e, vIfGe_e, vIcGt_e, vIfGt_e, vIcLe_e, vIfLe_e, vNonnull_e, vSw_e, vGetI_e, vGetL_e, vGetR_e, vPutI_e, vPutZ_e, vPutL_e, vPutR_e, vIald_e, vIald_s, vLald_e, vBald_e, vBald_s, vAald_e, vIast_e, vLast_e, vBast_e, vAast_e, vAlen_e8, vAlen_e9, vAlen_e10, vAlen_e11, vAlen_e5, vAlen_e3, vGets_e, vCompact_e, vLdcS_e, vIret_e, vZret_e, vCret_e, vBret_e, vLret_e, vVret_e, vAret_e, vCallM_e0, vCallMV_e0, vCallS_e0, vCallSV_e0, vCallM_e1, vCallMV_e1, vCallS_e1, vCallSV_e1, vCallM_e2, vCallMV_e2, vCallS_e2, vCallSV_e2, vCallM_e3, vCallMV_e3, vCallS_e3, vCallSV_e3, vCallM_e4, vCallMV_e4, vCallS_e4, vCallSV_e4, vCallM_e5, vCallMV_e5, vCallS_e5, vCallSV_e5, vCallM_e6, vCallMV_e6, vCallS_e6, vCallSV_e6, vCallM_e7, vCallMV_e7, vCallS_e7, vCallSV_e7, vBad_e, vStrVal_e, vStrCod_e, vForm_e, vCallT_e0, vCallT_e1, vCallT_e2, vCopy_e, rf_0_0, rf_0_1, rf_0_2, rf_0_3, rf_0_4, rf_0_7, rf_0_10, rf_0_11, rf_0_12, rf_0_13, rf_0_14, rf_0_15, rf_0_16, rf_1_0, rf_3_0, rf_3_1, rf_6_0, rf_6_1, rf_9_0, rf_9_1, rf_9_3, rf_13_0, rf_13_1, rf_13_2, rf_16_0, rf_16_1, rf_16_2, rf_16_3, rf_21_0, rf_21_1, rf_21_2, rf_21_3, rf_26_0, rf_26_1, rf_26_2, rf_26_3, rf_26_4, rf_26_5, rf_26_6, rf_31_0, rf_31_2, rf_31_5, rf_31_6, rf_36_0, rf_36_1, rf_36_2, rf_36_3, rf_39_0, rf_39_1, rf_39_2, rf_41_0, rf_41_1, rf_41_2, rf_41_3, rf_5000_1, rf_5000_2, rf_5000_3, rf_5000_4, rf_5000_5, rf_5000_15, rf_5000_16, rf_5000_18, rf_5000_19, rf_5000_20, rf_5000_21, rf_5000_22, rf_5000_23, rf_5000_24, rf_5000_25, rf_5000_26, rf_5000_27, rf_5000_36, rf_5000_37, rf_5000_40, rf_5000_41, rf_5000_42, rf_5000_43, rf_5000_44, rf_5000_45, rf_5000_47, rf_5000_52, rf_5000_54, rf_5000_55, rf_100_0, rf_100_1, rf_103_0, rf_103_1, rf_106_0, rf_106_1, rf_109_0, rf_109_1, al_2, al_4, al_5, al_7, al_8, al_10, al_11, al_12, al_14, al_15, al_17, al_18, al_19, al_20, al_22, al_23, al_24, al_25, al_27, al_28, al_29, al_30, al_32, al_33, al_34, al_35, al_37, al_38, al_40, al_42, al_5001, al_5002, al_5003, al_5004, al_5005, al_5006, al_5007, al_5008, al_5009, al_5010, al_5011, al_5012, al_5013, al_5014, al_5015, al_5016, al_5017, al_5018, al_5019, al_5020, al_5021, al_5022, al_5023, al_5024, al_5025, al_5026, al_9000, al_101, al_102, al_104, al_105, al_107, al_108, al_110, al_111, vcs_e, lg_c0, lg_cs, lg_nil, set_c0, set_cs, okst_0, okst_s, acok_n, acok_c, List.contains_nil, List.contains_cons, Bool.or_false, Bool.false_or, Bool.false_eq_true, if_false, if_true, ite_self, ne_eq, true_and, and_true, not_false_eq_true, not_true_eq_false, false_imp_iff, true_imp_iff, Nat.ble_eq, Bool.and_eq_true, reduceCtorEq, or_false, false_or, or_true, true_or, false_and, and_false, and_self, Int.reduceLE, Int.reduceAdd, Int.reduceSub, Int.reduceMul, Int.reduceNeg, Int.reduceLT, Int.reduceEq, Int.reduceNe, Nat.reduceBEq, Nat.reduceBNe, Nat.reduceEqDiff, amCmp_in, amCmp_lt, amCmp_le, amCmp_gt, amCmp_ge, amCmp_eq, amCmp_ne, Nat.reduceLeDiff, Nat.reduceSub, Bool.and_true, Bool.true_and, Bool.and_self, Bool.or_true, Bool.true_or, isRf_3, isRf_4, isRf_5, isRf_8, isRf_9, isRf_10, isRf_11, isRf_15, isRf_16, isRf_17, isRf_18, isRf_19, isRf_20, isRf_21, isRf_22, isRf_23, isRf_24, isRf_25, isRf_26, isRf_27, isRf_28, k_X12_tickets_0, k_X12_tickets_1, k_X12_tickets_2, k_X12_tickets_5, k_X12_tickets_6, k_X12_tickets_7, k_X12_tickets_10, k_X12_tickets_13, k_X12_tickets_14, k_X12_tickets_15, k_X12_tickets_16, k_X12_tickets_19, k_X12_tickets_22, k_X12_tickets_25, k_X12_tickets_26, k_X12_tickets_27, k_X12_tickets_28, k_X12_tickets_29, k_X12_tickets_32, k_X12_tickets_35, k_X12_tickets_36, k_X12_tickets_37, k_X12_tickets_38, k_X12_tickets_41, k_X12_tickets_42, k_X12_tickets_45, k_X12_tickets_48, k_X12_tickets_49, k_X12_tickets_50, k_X12_tickets_53, k_X12_tickets_54, k_X12_tickets_55, k_X12_tickets_58, k_X12_tickets_59, k_X12_tickets_60, k_X12_tickets_61, k_X12_tickets_62, k_X12_tickets_63, k_X12_tickets_66, k_X12_tickets_67, k_X12_tickets_70, k_X12_tickets_71, k_X12_tickets_74, k_X12_tickets_77, k_X12_tickets_78, k_X12_tickets_81, w_X12_copy_e, w_X12_goTickets_e, w_X12_isIn_e, w_X12_isPlay_e, e28, t15, et, if_pos d1, if_pos d2, if_pos d3]
        repeat' (first | assumption | exact hw | apply And.intro | intro _)
        all_goals first | omega | exact absurd trivial (by assumption) | skip
        all_goals refine ⟨th0 σ, σ 5015, ?_⟩
        repeat' (first | assumption | exact hxt | exact hAr | exact hT | exact j50 | exact j51 | exact hw | apply And.intro | intro _)
        all_goals first | omega | exact (fin _ (by assumption) (by assumption)).1 (by assumption) | exact (fin _ (by assumption) (by assumption)).2 (by assumption)
      · have q8 := h1 (by omega)
        refine am_m [37] (fun _ _ _ _ _ => False) (own := RX12) (A := look (a_X12_tickets d)) (fun X e1 e2 hB => o_X12_tickets d h6 e1 e2 hB) rfl (by decide +kernel) rfl rfl (fun _ _ _ _ _ h => absurd h id) ⟨60, ?_⟩ (w := 4)
        change vcs _ _ _ _ 60 0 [(28, 5000), (0, p), (0, v), (0, w)] [] σ
        simp only [↓reduceIte, inR_0, inR_1, inR_m, vSw2_e, swP_n, swP_c, vI_e, vL_e, vNull_e, vIload_e, vLload_e, vAload_e, vIstore_e, vLstore_e, vAstore_e, vIinc_e, vIadd_e, vIsub_e, vImul_e, vIand_e, vIor_e, vIxor_e, vIshl_e, vIshr_e, vIushr_e, vIdiv_e, vIrem_e, vLadd_e, vLsub_e, vLmul_e, vLand_e, vLor_e, vLxor_e, vLdiv_e, vLrem_e, vLushr_e, vLshl_e, vLcmp_e, vIneg_e, vI2l_e, vL2i_e, vI2b_e, vI2c_e, vDup_e, vPop_e, vDup2_e, vGoto_e, vIcEq_e, vIfEq_e, vIcNe_e, vIfNe_e, vIcLt_e, vIfLt_e, vIcGe_e, vIfGe_e, vIcGt_e, vIfGt_e, vIcLe_e, vIfLe_e, vNonnull_e, vSw_e, vGetI_e, vGetL_e, vGetR_e, vPutI_e, vPutZ_e, vPutL_e, vPutR_e, vIald_e, vIald_s, vLald_e, vBald_e, vBald_s, vAald_e, vIast_e, vLast_e, vBast_e, vAast_e, vAlen_e8, vAlen_e9, vAlen_e10, vAlen_e11, vAlen_e5, vAlen_e3, vGets_e, vCompact_e, vLdcS_e, vIret_e, vZret_e, vCret_e, vBret_e, vLret_e, vVret_e, vAret_e, vCallM_e0, vCallMV_e0, vCallS_e0, vCallSV_e0, vCallM_e1, vCallMV_e1, vCallS_e1, vCallSV_e1, vCallM_e2, vCallMV_e2, vCallS_e2, vCallSV_e2, vCallM_e3, vCallMV_e3, vCallS_e3, vCallSV_e3, vCallM_e4, vCallMV_e4, vCallS_e4, vCallSV_e4, vCallM_e5, vCallMV_e5, vCallS_e5, vCallSV_e5, vCallM_e6, vCallMV_e6, vCallS_e6, vCallSV_e6, vCallM_e7, vCallMV_e7, vCallS_e7, vCallSV_e7, vBad_e, vStrVal_e, vStrCod_e, vForm_e, vCallT_e0, vCallT_e1, vCallT_e2, vCopy_e, rf_0_0, rf_0_1, rf_0_2, rf_0_3, rf_0_4, rf_0_7, rf_0_10, rf_0_11, rf_0_12, rf_0_13, rf_0_14, rf_0_15, rf_0_16, rf_1_0, rf_3_0, rf_3_1, rf_6_0, rf_6_1, rf_9_0, rf_9_1, rf_9_3, rf_13_0, rf_13_1, rf_13_2, rf_16_0, rf_16_1, rf_16_2, rf_16_3, rf_21_0, rf_21_1, rf_21_2, rf_21_3, rf_26_0, rf_26_1, rf_26_2, rf_26_3, rf_26_4, rf_26_5, rf_26_6, rf_31_0, rf_31_2, rf_31_5, rf_31_6, rf_36_0, rf_36_1, rf_36_2, rf_36_3, rf_39_0, rf_39_1, rf_39_2, rf_41_0, rf_41_1, rf_41_2, rf_41_3, rf_5000_1, rf_5000_2, rf_5000_3, rf_5000_4, rf_5000_5, rf_5000_15, rf_5000_16, rf_5000_18, rf_5000_19, rf_5000_20, rf_5000_21, rf_5000_22, rf_5000_23, rf_5000_24, rf_5000_25, rf_5000_26, rf_5000_27, rf_5000_36, rf_5000_37, rf_5000_40, rf_5000_41, rf_5000_42, rf_5000_43, rf_5000_44, rf_5000_45, rf_5000_47, rf_5000_52, rf_5000_54, rf_5000_55, rf_100_0, rf_100_1, rf_103_0, rf_103_1, rf_106_0, rf_106_1, rf_109_0, rf_109_1, al_2, al_4, al_5, al_7, al_8, al_10, al_11, al_12, al_14, al_15, al_17, al_18, al_19, al_20, al_22, al_23, al_24, al_25, al_27, al_28, al_29, al_30, al_32, al_33, al_34, al_35, al_37, al_38, al_40, al_42, al_5001, al_5002, al_5003, al_5004, al_5005, al_5006, al_5007, al_5008, al_5009, al_5010, al_5011, al_5012, al_5013, al_5014, al_5015, al_5016, al_5017, al_5018, al_5019, al_5020, al_5021, al_5022, al_5023, al_5024, al_5025, al_5026, al_9000, al_101, al_102, al_104, al_105, al_107, al_108, al_110, al_111, vcs_e, lg_c0, lg_cs, lg_nil, set_c0, set_cs, okst_0, okst_s, acok_n, acok_c, List.contains_nil, List.contains_cons, Bool.or_false, Bool.false_or, Bool.false_eq_true, if_false, if_true, ite_self, ne_eq, true_and, and_true, not_false_eq_true, not_true_eq_false, false_imp_iff, true_imp_iff, Nat.ble_eq, Bool.and_eq_true, reduceCtorEq, or_false, false_or, or_true, true_or, false_and, and_false, and_self, Int.reduceLE, Int.reduceAdd, Int.reduceSub, Int.reduceMul, Int.reduceNeg, Int.reduceLT, Int.reduceEq, Int.reduceNe, Nat.reduceBEq, Nat.reduceBNe, Nat.reduceEqDiff, amCmp_in, amCmp_lt, amCmp_le, amCmp_gt, amCmp_ge, amCmp_eq, amCmp_ne, Nat.reduceLeDiff, Nat.reduceSub, Bool.and_true, Bool.true_and, Bool.and_self, Bool.or_true, Bool.true_or, isRf_3, isRf_4, isRf_5, isRf_8, isRf_9, isRf_10, isRf_11, isRf_15, isRf_16, isRf_17, isRf_18, isRf_19, isRf_20, isRf_21, isRf_22, isRf_23, isRf_24, isRf_25, isRf_26, isRf_27, isRf_28, k_X12_tickets_0, k_X12_tickets_1, k_X12_tickets_2, k_X12_tickets_5, k_X12_tickets_6, k_X12_tickets_7, k_X12_tickets_10, k_X12_tickets_13, k_X12_tickets_14, k_X12_tickets_15, k_X12_tickets_16, k_X12_tickets_19, k_X12_tickets_22, k_X12_tickets_25, k_X12_tickets_26, k_X12_tickets_27, k_X12_tickets_28, k_X12_tickets_29, k_X12_tickets_32, k_X12_tickets_35, k_X12_tickets_36, k_X12_tickets_37, k_X12_tickets_38, k_X12_tickets_41, k_X12_tickets_42, k_X12_tickets_45, k_X12_tickets_48, k_X12_tickets_49, k_X12_tickets_50, k_X12_tickets_53, k_X12_tickets_54, k_X12_tickets_55, k_X12_tickets_58, k_X12_tickets_59, k_X12_tickets_60, k_X12_tickets_61, k_X12_tickets_62, k_X12_tickets_63, k_X12_tickets_66, k_X12_tickets_67, k_X12_tickets_70, k_X12_tickets_71, k_X12_tickets_74, k_X12_tickets_77, k_X12_tickets_78, k_X12_tickets_81, w_X12_copy_e, w_X12_goTickets_e, w_X12_isIn_e, w_X12_isPlay_e, e28, if_pos d1, if_pos d2, if_neg d3]
        repeat' (first | apply And.intro | intro _)
        all_goals first | omega | exact absurd trivial (by assumption) | exact q8
    · have q8 := h1 (by omega)
      refine am_m [37] (fun _ _ _ _ _ => False) (own := RX12) (A := look (a_X12_tickets d)) (fun X e1 e2 hB => o_X12_tickets d h6 e1 e2 hB) rfl (by decide +kernel) rfl rfl (fun _ _ _ _ _ h => absurd h id) ⟨60, ?_⟩ (w := 4)
      change vcs _ _ _ _ 60 0 [(28, 5000), (0, p), (0, v), (0, w)] [] σ
      simp only [↓reduceIte, inR_0, inR_1, inR_m, vSw2_e, swP_n, swP_c, vI_e, vL_e, vNull_e, vIload_e, vLload_e, vAload_e, vIstore_e, vLstore_e, vAstore_e, vIinc_e, vIadd_e, vIsub_e, vImul_e, vIand_e, vIor_e, vIxor_e, vIshl_e, vIshr_e, vIushr_e, vIdiv_e, vIrem_e, vLadd_e, vLsub_e, vLmul_e, vLand_e, vLor_e, vLxor_e, vLdiv_e, vLrem_e, vLushr_e, vLshl_e, vLcmp_e, vIneg_e, vI2l_e, vL2i_e, vI2b_e, vI2c_e, vDup_e, vPop_e, vDup2_e, vGoto_e, vIcEq_e, vIfEq_e, vIcNe_e, vIfNe_e, vIcLt_e, vIfLt_e, vIcGe_e, vIfGe_e, vIcGt_e, vIfGt_e, vIcLe_e, vIfLe_e, vNonnull_e, vSw_e, vGetI_e, vGetL_e, vGetR_e, vPutI_e, vPutZ_e, vPutL_e, vPutR_e, vIald_e, vIald_s, vLald_e, vBald_e, vBald_s, vAald_e, vIast_e, vLast_e, vBast_e, vAast_e, vAlen_e8, vAlen_e9, vAlen_e10, vAlen_e11, vAlen_e5, vAlen_e3, vGets_e, vCompact_e, vLdcS_e, vIret_e, vZret_e, vCret_e, vBret_e, vLret_e, vVret_e, vAret_e, vCallM_e0, vCallMV_e0, vCallS_e0, vCallSV_e0, vCallM_e1, vCallMV_e1, vCallS_e1, vCallSV_e1, vCallM_e2, vCallMV_e2, vCallS_e2, vCallSV_e2, vCallM_e3, vCallMV_e3, vCallS_e3, vCallSV_e3, vCallM_e4, vCallMV_e4, vCallS_e4, vCallSV_e4, vCallM_e5, vCallMV_e5, vCallS_e5, vCallSV_e5, vCallM_e6, vCallMV_e6, vCallS_e6, vCallSV_e6, vCallM_e7, vCallMV_e7, vCallS_e7, vCallSV_e7, vBad_e, vStrVal_e, vStrCod_e, vForm_e, vCallT_e0, vCallT_e1, vCallT_e2, vCopy_e, rf_0_0, rf_0_1, rf_0_2, rf_0_3, rf_0_4, rf_0_7, rf_0_10, rf_0_11, rf_0_12, rf_0_13, rf_0_14, rf_0_15, rf_0_16, rf_1_0, rf_3_0, rf_3_1, rf_6_0, rf_6_1, rf_9_0, rf_9_1, rf_9_3, rf_13_0, rf_13_1, rf_13_2, rf_16_0, rf_16_1, rf_16_2, rf_16_3, rf_21_0, rf_21_1, rf_21_2, rf_21_3, rf_26_0, rf_26_1, rf_26_2, rf_26_3, rf_26_4, rf_26_5, rf_26_6, rf_31_0, rf_31_2, rf_31_5, rf_31_6, rf_36_0, rf_36_1, rf_36_2, rf_36_3, rf_39_0, rf_39_1, rf_39_2, rf_41_0, rf_41_1, rf_41_2, rf_41_3, rf_5000_1, rf_5000_2, rf_5000_3, rf_5000_4, rf_5000_5, rf_5000_15, rf_5000_16, rf_5000_18, rf_5000_19, rf_5000_20, rf_5000_21, rf_5000_22, rf_5000_23, rf_5000_24, rf_5000_25, rf_5000_26, rf_5000_27, rf_5000_36, rf_5000_37, rf_5000_40, rf_5000_41, rf_5000_42, rf_5000_43, rf_5000_44, rf_5000_45, rf_5000_47, rf_5000_52, rf_5000_54, rf_5000_55, rf_100_0, rf_100_1, rf_103_0, rf_103_1, rf_106_0, rf_106_1, rf_109_0, rf_109_1, al_2, al_4, al_5, al_7, al_8, al_10, al_11, al_12, al_14, al_15, al_17, al_18, al_19, al_20, al_22, al_23, al_24, al_25, al_27, al_28, al_29, al_30, al_32, al_33, al_34, al_35, al_37, al_38, al_40, al_42, al_5001, al_5002, al_5003, al_5004, al_5005, al_5006, al_5007, al_5008, al_5009, al_5010, al_5011, al_5012, al_5013, al_5014, al_5015, al_5016, al_5017, al_5018, al_5019, al_5020, al_5021, al_5022, al_5023, al_5024, al_5025, al_5026, al_9000, al_101, al_102, al_104, al_105, al_107, al_108, al_110, al_111, vcs_e, lg_c0, lg_cs, lg_nil, set_c0, set_cs, okst_0, okst_s, acok_n, acok_c, List.contains_nil, List.contains_cons, Bool.or_false, Bool.false_or, Bool.false_eq_true, if_false, if_true, ite_self, ne_eq, true_and, and_true, not_false_eq_true, not_true_eq_false, false_imp_iff, true_imp_iff, Nat.ble_eq, Bool.and_eq_true, reduceCtorEq, or_false, false_or, or_true, true_or, false_and, and_false, and_self, Int.reduceLE, Int.reduceAdd, Int.reduceSub, Int.reduceMul, Int.reduceNeg, Int.reduceLT, Int.reduceEq, Int.reduceNe, Nat.reduceBEq, Nat.reduceBNe, Nat.reduceEqDiff, amCmp_in, amCmp_lt, amCmp_le, amCmp_gt, amCmp_ge, amCmp_eq, amCmp_ne, Nat.reduceLeDiff, Nat.reduceSub, Bool.and_true, Bool.true_and, Bool.and_self, Bool.or_true, Bool.true_or, isRf_3, isRf_4, isRf_5, isRf_8, isRf_9, isRf_10, isRf_11, isRf_15, isRf_16, isRf_17, isRf_18, isRf_19, isRf_20, isRf_21, isRf_22, isRf_23, isRf_24, isRf_25, isRf_26, isRf_27, isRf_28, k_X12_tickets_0, k_X12_tickets_1, k_X12_tickets_2, k_X12_tickets_5, k_X12_tickets_6, k_X12_tickets_7, k_X12_tickets_10, k_X12_tickets_13, k_X12_tickets_14, k_X12_tickets_15, k_X12_tickets_16, k_X12_tickets_19, k_X12_tickets_22, k_X12_tickets_25, k_X12_tickets_26, k_X12_tickets_27, k_X12_tickets_28, k_X12_tickets_29, k_X12_tickets_32, k_X12_tickets_35, k_X12_tickets_36, k_X12_tickets_37, k_X12_tickets_38, k_X12_tickets_41, k_X12_tickets_42, k_X12_tickets_45, k_X12_tickets_48, k_X12_tickets_49, k_X12_tickets_50, k_X12_tickets_53, k_X12_tickets_54, k_X12_tickets_55, k_X12_tickets_58, k_X12_tickets_59, k_X12_tickets_60, k_X12_tickets_61, k_X12_tickets_62, k_X12_tickets_63, k_X12_tickets_66, k_X12_tickets_67, k_X12_tickets_70, k_X12_tickets_71, k_X12_tickets_74, k_X12_tickets_77, k_X12_tickets_78, k_X12_tickets_81, w_X12_copy_e, w_X12_goTickets_e, w_X12_isIn_e, w_X12_isPlay_e, e28, if_pos d1, if_neg d2]
      repeat' (first | apply And.intro | intro _)
      all_goals first | omega | exact absurd trivial (by assumption) | exact q8
  · have q8 := h1 (by omega)
    refine am_m [37] (fun _ _ _ _ _ => False) (own := RX12) (A := look (a_X12_tickets d)) (fun X e1 e2 hB => o_X12_tickets d h6 e1 e2 hB) rfl (by decide +kernel) rfl rfl (fun _ _ _ _ _ h => absurd h id) ⟨60, ?_⟩ (w := 4)
    change vcs _ _ _ _ 60 0 [(28, 5000), (0, p), (0, v), (0, w)] [] σ
    simp only [↓reduceIte, inR_0, inR_1, inR_m, vSw2_e, swP_n, swP_c, vI_e, vL_e, vNull_e, vIload_e, vLload_e, vAload_e, vIstore_e, vLstore_e, vAstore_e, vIinc_e, vIadd_e, vIsub_e, vImul_e, vIand_e, vIor_e, vIxor_e, vIshl_e, vIshr_e, vIushr_e, vIdiv_e, vIrem_e, vLadd_e, vLsub_e, vLmul_e, vLand_e, vLor_e, vLxor_e, vLdiv_e, vLrem_e, vLushr_e, vLshl_e, vLcmp_e, vIneg_e, vI2l_e, vL2i_e, vI2b_e, vI2c_e, vDup_e, vPop_e, vDup2_e, vGoto_e, vIcEq_e, vIfEq_e, vIcNe_e, vIfNe_e, vIcLt_e, vIfLt_e, vIcGe_e, vIfGe_e, vIcGt_e, vIfGt_e, vIcLe_e, vIfLe_e, vNonnull_e, vSw_e, vGetI_e, vGetL_e, vGetR_e, vPutI_e, vPutZ_e, vPutL_e, vPutR_e, vIald_e, vIald_s, vLald_e, vBald_e, vBald_s, vAald_e, vIast_e, vLast_e, vBast_e, vAast_e, vAlen_e8, vAlen_e9, vAlen_e10, vAlen_e11, vAlen_e5, vAlen_e3, vGets_e, vCompact_e, vLdcS_e, vIret_e, vZret_e, vCret_e, vBret_e, vLret_e, vVret_e, vAret_e, vCallM_e0, vCallMV_e0, vCallS_e0, vCallSV_e0, vCallM_e1, vCallMV_e1, vCallS_e1, vCallSV_e1, vCallM_e2, vCallMV_e2, vCallS_e2, vCallSV_e2, vCallM_e3, vCallMV_e3, vCallS_e3, vCallSV_e3, vCallM_e4, vCallMV_e4, vCallS_e4, vCallSV_e4, vCallM_e5, vCallMV_e5, vCallS_e5, vCallSV_e5, vCallM_e6, vCallMV_e6, vCallS_e6, vCallSV_e6, vCallM_e7, vCallMV_e7, vCallS_e7, vCallSV_e7, vBad_e, vStrVal_e, vStrCod_e, vForm_e, vCallT_e0, vCallT_e1, vCallT_e2, vCopy_e, rf_0_0, rf_0_1, rf_0_2, rf_0_3, rf_0_4, rf_0_7, rf_0_10, rf_0_11, rf_0_12, rf_0_13, rf_0_14, rf_0_15, rf_0_16, rf_1_0, rf_3_0, rf_3_1, rf_6_0, rf_6_1, rf_9_0, rf_9_1, rf_9_3, rf_13_0, rf_13_1, rf_13_2, rf_16_0, rf_16_1, rf_16_2, rf_16_3, rf_21_0, rf_21_1, rf_21_2, rf_21_3, rf_26_0, rf_26_1, rf_26_2, rf_26_3, rf_26_4, rf_26_5, rf_26_6, rf_31_0, rf_31_2, rf_31_5, rf_31_6, rf_36_0, rf_36_1, rf_36_2, rf_36_3, rf_39_0, rf_39_1, rf_39_2, rf_41_0, rf_41_1, rf_41_2, rf_41_3, rf_5000_1, rf_5000_2, rf_5000_3, rf_5000_4, rf_5000_5, rf_5000_15, rf_5000_16, rf_5000_18, rf_5000_19, rf_5000_20, rf_5000_21, rf_5000_22, rf_5000_23, rf_5000_24, rf_5000_25, rf_5000_26, rf_5000_27, rf_5000_36, rf_5000_37, rf_5000_40, rf_5000_41, rf_5000_42, rf_5000_43, rf_5000_44, rf_5000_45, rf_5000_47, rf_5000_52, rf_5000_54, rf_5000_55, rf_100_0, rf_100_1, rf_103_0, rf_103_1, rf_106_0, rf_106_1, rf_109_0, rf_109_1, al_2, al_4, al_5, al_7, al_8, al_10, al_11, al_12, al_14, al_15, al_17, al_18, al_19, al_20, al_22, al_23, al_24, al_25, al_27, al_28, al_29, al_30, al_32, al_33, al_34, al_35, al_37, al_38, al_40, al_42, al_5001, al_5002, al_5003, al_5004, al_5005, al_5006, al_5007, al_5008, al_5009, al_5010, al_5011, al_5012, al_5013, al_5014, al_5015, al_5016, al_5017, al_5018, al_5019, al_5020, al_5021, al_5022, al_5023, al_5024, al_5025, al_5026, al_9000, al_101, al_102, al_104, al_105, al_107, al_108, al_110, al_111, vcs_e, lg_c0, lg_cs, lg_nil, set_c0, set_cs, okst_0, okst_s, acok_n, acok_c, List.contains_nil, List.contains_cons, Bool.or_false, Bool.false_or, Bool.false_eq_true, if_false, if_true, ite_self, ne_eq, true_and, and_true, not_false_eq_true, not_true_eq_false, false_imp_iff, true_imp_iff, Nat.ble_eq, Bool.and_eq_true, reduceCtorEq, or_false, false_or, or_true, true_or, false_and, and_false, and_self, Int.reduceLE, Int.reduceAdd, Int.reduceSub, Int.reduceMul, Int.reduceNeg, Int.reduceLT, Int.reduceEq, Int.reduceNe, Nat.reduceBEq, Nat.reduceBNe, Nat.reduceEqDiff, amCmp_in, amCmp_lt, amCmp_le, amCmp_gt, amCmp_ge, amCmp_eq, amCmp_ne, Nat.reduceLeDiff, Nat.reduceSub, Bool.and_true, Bool.true_and, Bool.and_self, Bool.or_true, Bool.true_or, isRf_3, isRf_4, isRf_5, isRf_8, isRf_9, isRf_10, isRf_11, isRf_15, isRf_16, isRf_17, isRf_18, isRf_19, isRf_20, isRf_21, isRf_22, isRf_23, isRf_24, isRf_25, isRf_26, isRf_27, isRf_28, k_X12_tickets_0, k_X12_tickets_1, k_X12_tickets_2, k_X12_tickets_5, k_X12_tickets_6, k_X12_tickets_7, k_X12_tickets_10, k_X12_tickets_13, k_X12_tickets_14, k_X12_tickets_15, k_X12_tickets_16, k_X12_tickets_19, k_X12_tickets_22, k_X12_tickets_25, k_X12_tickets_26, k_X12_tickets_27, k_X12_tickets_28, k_X12_tickets_29, k_X12_tickets_32, k_X12_tickets_35, k_X12_tickets_36, k_X12_tickets_37, k_X12_tickets_38, k_X12_tickets_41, k_X12_tickets_42, k_X12_tickets_45, k_X12_tickets_48, k_X12_tickets_49, k_X12_tickets_50, k_X12_tickets_53, k_X12_tickets_54, k_X12_tickets_55, k_X12_tickets_58, k_X12_tickets_59, k_X12_tickets_60, k_X12_tickets_61, k_X12_tickets_62, k_X12_tickets_63, k_X12_tickets_66, k_X12_tickets_67, k_X12_tickets_70, k_X12_tickets_71, k_X12_tickets_74, k_X12_tickets_77, k_X12_tickets_78, k_X12_tickets_81, w_X12_copy_e, w_X12_goTickets_e, w_X12_isIn_e, w_X12_isPlay_e, e28, if_neg d1]
    repeat' (first | apply And.intro | intro _)
    all_goals first | omega | exact absurd trivial (by assumption) | exact q8
def a_X12_most (d : Nat) : AC := [(0, vAload 0 1), (1, vI 0 2), (2, vPutI 28 0 5), (5, vAload 0 6), (6, vIload 1 7), (7, vCallM w_X12_isPlay 28 1 10), (10, vIfEq 23 13), (13, vIload 2 14), (14, vI2l 15), (15, vL 0 16), (16, vL 1 17), (17, vCallS w_X12_isIn 3 20), (20, vIfNe 25 23), (23, vI (-1) 24), (24, vIret), (25, vAload 0 26), (26, vGetR TT 28 36 8 29), (29, vAload 0 30), (30, vGetR TT 28 37 8 33), (33, vCallSV w_X12_copy 2 36), (36, vAload 0 37), (37, vI (-1) 38), (38, vPutI 28 51 41), (41, vAload 0 42), (42, vI (-1) 43), (43, vPutI 28 50 46), (46, vAload 0 47), (47, vI 0 48), (48, vIload 1 49), (49, vCallMV (w_X12_goMost d) 28 2 52), (52, vIload 2 53), (53, vIfNe 63 56), (56, vAload 0 57), (57, vGetI 28 50 60), (60, vGoto 67), (63, vAload 0 64), (64, vGetI 28 51 67), (67, vIret)]
theorem k_X12_most_0 (d : Nat) : look (a_X12_most d) 0 = vAload 0 1 := rfl
theorem k_X12_most_1 (d : Nat) : look (a_X12_most d) 1 = vI 0 2 := rfl
theorem k_X12_most_2 (d : Nat) : look (a_X12_most d) 2 = vPutI 28 0 5 := rfl
theorem k_X12_most_5 (d : Nat) : look (a_X12_most d) 5 = vAload 0 6 := rfl
theorem k_X12_most_6 (d : Nat) : look (a_X12_most d) 6 = vIload 1 7 := rfl
theorem k_X12_most_7 (d : Nat) : look (a_X12_most d) 7 = vCallM w_X12_isPlay 28 1 10 := rfl
theorem k_X12_most_10 (d : Nat) : look (a_X12_most d) 10 = vIfEq 23 13 := rfl
theorem k_X12_most_13 (d : Nat) : look (a_X12_most d) 13 = vIload 2 14 := rfl
theorem k_X12_most_14 (d : Nat) : look (a_X12_most d) 14 = vI2l 15 := rfl
theorem k_X12_most_15 (d : Nat) : look (a_X12_most d) 15 = vL 0 16 := rfl
theorem k_X12_most_16 (d : Nat) : look (a_X12_most d) 16 = vL 1 17 := rfl
theorem k_X12_most_17 (d : Nat) : look (a_X12_most d) 17 = vCallS w_X12_isIn 3 20 := rfl
theorem k_X12_most_20 (d : Nat) : look (a_X12_most d) 20 = vIfNe 25 23 := rfl
theorem k_X12_most_23 (d : Nat) : look (a_X12_most d) 23 = vI (-1) 24 := rfl
theorem k_X12_most_24 (d : Nat) : look (a_X12_most d) 24 = vIret := rfl
theorem k_X12_most_25 (d : Nat) : look (a_X12_most d) 25 = vAload 0 26 := rfl
theorem k_X12_most_26 (d : Nat) : look (a_X12_most d) 26 = vGetR TT 28 36 8 29 := rfl
theorem k_X12_most_29 (d : Nat) : look (a_X12_most d) 29 = vAload 0 30 := rfl
theorem k_X12_most_30 (d : Nat) : look (a_X12_most d) 30 = vGetR TT 28 37 8 33 := rfl
theorem k_X12_most_33 (d : Nat) : look (a_X12_most d) 33 = vCallSV w_X12_copy 2 36 := rfl
theorem k_X12_most_36 (d : Nat) : look (a_X12_most d) 36 = vAload 0 37 := rfl
theorem k_X12_most_37 (d : Nat) : look (a_X12_most d) 37 = vI (-1) 38 := rfl
theorem k_X12_most_38 (d : Nat) : look (a_X12_most d) 38 = vPutI 28 51 41 := rfl
theorem k_X12_most_41 (d : Nat) : look (a_X12_most d) 41 = vAload 0 42 := rfl
theorem k_X12_most_42 (d : Nat) : look (a_X12_most d) 42 = vI (-1) 43 := rfl
theorem k_X12_most_43 (d : Nat) : look (a_X12_most d) 43 = vPutI 28 50 46 := rfl
theorem k_X12_most_46 (d : Nat) : look (a_X12_most d) 46 = vAload 0 47 := rfl
theorem k_X12_most_47 (d : Nat) : look (a_X12_most d) 47 = vI 0 48 := rfl
theorem k_X12_most_48 (d : Nat) : look (a_X12_most d) 48 = vIload 1 49 := rfl
theorem k_X12_most_49 (d : Nat) : look (a_X12_most d) 49 = vCallMV (w_X12_goMost d) 28 2 52 := rfl
theorem k_X12_most_52 (d : Nat) : look (a_X12_most d) 52 = vIload 2 53 := rfl
theorem k_X12_most_53 (d : Nat) : look (a_X12_most d) 53 = vIfNe 63 56 := rfl
theorem k_X12_most_56 (d : Nat) : look (a_X12_most d) 56 = vAload 0 57 := rfl
theorem k_X12_most_57 (d : Nat) : look (a_X12_most d) 57 = vGetI 28 50 60 := rfl
theorem k_X12_most_60 (d : Nat) : look (a_X12_most d) 60 = vGoto 67 := rfl
theorem k_X12_most_63 (d : Nat) : look (a_X12_most d) 63 = vAload 0 64 := rfl
theorem k_X12_most_64 (d : Nat) : look (a_X12_most d) 64 = vGetI 28 51 67 := rfl
theorem k_X12_most_67 (d : Nat) : look (a_X12_most d) 67 = vIret := rfl
theorem o_X12_most {X : amX} (d : Nat) (h6 : d ≤ 6) (e1 : XT X = TT) (e2 : XD X = 70) (hB : amB X RX12 cX12_most (some .int) 3) : ∀ pc, amOK X pc (look (a_X12_most d) pc) := by
  have hT : amTok (XT X) := e1 ▸ TT_ok
  refine look_ok ?_
  unfold a_X12_most
  refine fc (ok_aload_n hB dX12_most_0) ?_
  refine fc (ok_iconst hB dX12_most_1) ?_
  refine fc (ok_putI hB hT fp_X12_111 rfl rfl rfl af_12_0 dX12_most_2) ?_
  refine fc (ok_aload_n hB dX12_most_5) ?_
  refine fc (ok_iload_n hB dX12_most_6) ?_
  refine fc (ok_callM hB hT (e1 ▸ s_X12_isPlay) lk_X12_366 (by rw [e2]; omega) (c := 12) rfl rfl rfl wd_1652 sl_X12_isPlay dX12_most_7) ?_
  refine fc (ok_if_eq hB (t := 23) (by decide) dX12_most_10) ?_
  refine fc (ok_iload_n hB dX12_most_13) ?_
  refine fc (ok_i2l hB dX12_most_14) ?_
  refine fc (ok_lconst hB (z := 0) (by decide) dX12_most_15) ?_
  refine fc (ok_lconst hB (z := 1) (by decide) dX12_most_16) ?_
  refine fc (ok_callS hB (e1 ▸ s_X12_isIn) lk_X12_232 (by rw [e2]; omega) wd_1502 dX12_most_17) ?_
  refine fc (ok_if_ne hB (t := 25) (by decide) dX12_most_20) ?_
  refine fc (ok_iconst hB dX12_most_23) ?_
  refine fc (ok_iret hB dX12_most_24) ?_
  refine fc (ok_aload_n hB dX12_most_25) ?_
  refine fc (okt_getR e1 hB hT fl_X12_67 rfl af_12_36 at_12_36 (by decide) dX12_most_26) ?_
  refine fc (ok_aload_n hB dX12_most_29) ?_
  refine fc (okt_getR e1 hB hT fl_X12_70 rfl af_12_37 at_12_37 (by decide) dX12_most_30) ?_
  refine fc (ok_callSV hB (e1 ▸ s_X12_copy) lk_X12_419 (by rw [e2]; omega) wd_1790 dX12_most_33) ?_
  refine fc (ok_aload_n hB dX12_most_36) ?_
  refine fc (ok_iconst hB dX12_most_37) ?_
  refine fc (ok_putI hB hT fp_X12_429 rfl rfl rfl af_12_51 dX12_most_38) ?_
  refine fc (ok_aload_n hB dX12_most_41) ?_
  refine fc (ok_iconst hB dX12_most_42) ?_
  refine fc (ok_putI hB hT fp_X12_436 rfl rfl rfl af_12_50 dX12_most_43) ?_
  refine fc (ok_aload_n hB dX12_most_46) ?_
  refine fc (ok_iconst hB dX12_most_47) ?_
  refine fc (ok_iload_n hB dX12_most_48) ?_
  refine fc (ok_callMV hB hT (fun av9 σ9 Q9 h9 => e1 ▸ (s_X12_goMost d (moS d)) av9 σ9 Q9 h9) lk_X12_445 (by rw [e2]; omega) (c := 12) rfl rfl rfl wd_1831 sl_X12_goMost dX12_most_49) ?_
  refine fc (ok_iload_n hB dX12_most_52) ?_
  refine fc (ok_if_ne hB (t := 63) (by decide) dX12_most_53) ?_
  refine fc (ok_aload_n hB dX12_most_56) ?_
  refine fc (ok_getI hB hT fl_X12_436 rfl rfl (Or.inl af_12_50) dX12_most_57) ?_
  refine fc (ok_goto hB (t := 67) (by decide) dX12_most_60) ?_
  refine fc (ok_aload_n hB dX12_most_63) ?_
  refine fc (ok_getI hB hT fl_X12_429 rfl rfl (Or.inl af_12_51) dX12_most_64) ?_
  refine fc (ok_iret hB dX12_most_67) ?_
  exact fn

def w_X12_most (d : Nat) : WP := fun av σ Q => ∃ (p : Int) (w : Int), av = [(28, 5000), (0, p), (0, w)] ∧ (InR p ∧ InR w ∧ mX σ 5015 ∧ σ 5000 29 = d ∧ (¬ (0 ≤ p ∧ p < σ 5000 28 ∧ 0 ≤ w ∧ w ≤ 1) → Q (0, -1) (th0 σ)) ∧ (0 ≤ p ∧ p < σ 5000 28 ∧ 0 ≤ w ∧ w ≤ 1 → ∀ τ, QF σ τ → mOk τ → Q (0, if w = 0 then (mstF (th0 σ) p d (σ 5015) 0 (-1, -1)).1 else (mstF (th0 σ) p d (σ 5015) 0 (-1, -1)).2) τ))
theorem w_X12_most_e (d : Nat) (p : Int) (w : Int) (σ : Mem) (Q : AV → Mem → Prop) : w_X12_most d [(28, 5000), (0, p), (0, w)] σ Q = (InR p ∧ InR w ∧ mX σ 5015 ∧ σ 5000 29 = d ∧ (¬ (0 ≤ p ∧ p < σ 5000 28 ∧ 0 ≤ w ∧ w ≤ 1) → Q (0, -1) (th0 σ)) ∧ (0 ≤ p ∧ p < σ 5000 28 ∧ 0 ≤ w ∧ w ≤ 1 → ∀ τ, QF σ τ → mOk τ → Q (0, if w = 0 then (mstF (th0 σ) p d (σ 5015) 0 (-1, -1)).1 else (mstF (th0 σ) p d (σ 5015) 0 (-1, -1)).2) τ)) := by
  apply propext; constructor
  · rintro ⟨p', w', h9, hb9⟩; cases h9; exact hb9
  · intro hb9; exact ⟨p, w, rfl, hb9⟩

set_option maxRecDepth 100000 in
set_option maxHeartbeats 4000000 in
theorem s_X12_most (d : Nat) (h6 : d ≤ 6) : ∀ av σ Q, w_X12_most d av σ Q → amCall (70) 0 0 TT yX12_most cX12_most 3 (some .int) av σ Q := by
  rintro av σ Q ⟨p, w, rfl, hp, hw, hx, hd, h1, h2⟩
  have e28 : th0 σ 5000 28 = σ 5000 28 := th_k σ (by decide)
  have e29 : th0 σ 5000 29 = σ 5000 29 := th_k σ (by decide)
  have e30 : th0 σ 5000 30 = σ 5000 30 := th_k σ (by decide)
  have t15 : th0 σ 5015 = σ 5015 := th_o σ (by decide)
  have n28 := hx.2.1.2.2.2.2.1
  have l27 := hx.2.2.2.2.2.2
  have hxt := mX_th hx
  have hT := try0 hx
  have i50 : tr51 σ 5000 50 = -1 := up_s _ _ _ _
  have i51 : tr51 σ 5000 51 = -1 := by unfold tr51; rw [up_nj _ (by decide), up_s]
  have j50 : InR (tr51 σ 5000 50) := by rw [i50]; exact ⟨by decide, by decide⟩
  have j51 : InR (tr51 σ 5000 51) := by rw [i51]; exact ⟨by decide, by decide⟩
  have hAr : aR (th0 σ 5000 29) (th0 σ 5000 30) (σ 5015) := by rw [e29, e30]; exact hx.2.2
  have et : cpy (th0 σ) 5015 0 5016 0 (28 + 3 * σ 5015 27) = trC σ := rfl
  by_cases d1 : 0 ≤ p ∧ p < σ 5000 28
  · by_cases d3 : 0 ≤ w ∧ w ≤ 1
    · have hq := h2 ⟨d1.1, d1.2, d3.1, d3.2⟩
      have fin : ∀ τ, tryS (th0 σ) 0 (σ 5015) τ → (τ 5000 50, τ 5000 51) = mstF (th0 σ) p d (σ 5015) 0 (tr51 σ 5000 50, tr51 σ 5000 51) → (w = 0 → Q (0, τ 5000 50) τ) ∧ (¬ w = 0 → Q (0, τ 5000 51) τ) := fun τ a e => by
        rw [i50, i51] at e
        have := hq τ (QF_tr (QF_th σ) a.1) a.2.1
        rw [← e] at this
        exact ⟨fun q => by rw [if_pos q] at this; exact this, fun q => by rw [if_neg q] at this; exact this⟩
      refine am_m0 (own := RX12) (A := look (a_X12_most d)) (fun X e1 e2 hB => o_X12_most d h6 e1 e2 hB) rfl (by decide +kernel) rfl rfl 120 (w := 3) ?_
      change vcs _ _ _ _ 120 0 [(28, 5000), (0, p), (0, w)] [] σ
      simp only [↓reduceIte, inR_0, inR_1, inR_m, vSw2_e, swP_n, swP_c, vI_e, vL_e, vNull_e, vIload_e, vLload_e, vAload_e, vIstore_e, vLstore_e, vAstore_e, vIinc_e, vIadd_e, vIsub_e, vImul_e, vIand_e, vIor_e, vIxor_e, vIshl_e, vIshr_e, vIushr_e, vIdiv_e, vIrem_e, vLadd_e, vLsub_e, vLmul_e, vLand_e, vLor_e, vLxor_e, vLdiv_e, vLrem_e, vLushr_e, vLshl_e, vLcmp_e, vIneg_e, vI2l_e, vL2i_e, vI2b_e, vI2c_e, vDup_e, vPop_e, vDup2_e, vGoto_e, vIcEq_e, vIfEq_e, vIcNe_e, vIfNe_e, vIcLt_e, vIfLt_e, vIcGe_e, vIfGe_e, vIcGt_e, vIfGt_e, vIcLe_e, vIfLe_e, vNonnull_e, vSw_e, vGetI_e, vGetL_e, vGetR_e, vPutI_e, vPutZ_e, vPutL_e, vPutR_e, vIald_e, vIald_s, vLald_e, vBald_e, vBald_s, vAald_e, vIast_e, vLast_e, vBast_e, vAast_e, vAlen_e8, vAlen_e9, vAlen_e10, vAlen_e11, vAlen_e5, vAlen_e3, vGets_e, vCompact_e, vLdcS_e, vIret_e, vZret_e, vCret_e, vBret_e, vLret_e, vVret_e, vAret_e, vCallM_e0, vCallMV_e0, vCallS_e0, vCallSV_e0, vCallM_e1, vCallMV_e1, vCallS_e1, vCallSV_e1, vCallM_e2, vCallMV_e2, vCallS_e2, vCallSV_e2, vCallM_e3, vCallMV_e3, vCallS_e3, vCallSV_e3, vCallM_e4, vCallMV_e4, vCallS_e4, vCallSV_e4, vCallM_e5, vCallMV_e5, vCallS_e5, vCallSV_e5, vCallM_e6, vCallMV_e6, vCallS_e6, vCallSV_e6, vCallM_e7, vCallMV_e7, vCallS_e7, vCallSV_e7, vBad_e, vStrVal_e, vStrCod_e, vForm_e, vCallT_e0, vCallT_e1, vCallT_e2, vCopy_e, rf_0_0, rf_0_1, rf_0_2, rf_0_3, rf_0_4, rf_0_7, rf_0_10, rf_0_11, rf_0_12, rf_0_13, rf_0_14, rf_0_15, rf_0_16, rf_1_0, rf_3_0, rf_3_1, rf_6_0, rf_6_1, rf_9_0, rf_9_1, rf_9_3, rf_13_0, rf_13_1, rf_13_2, rf_16_0, rf_16_1, rf_16_2, rf_16_3, rf_21_0, rf_21_1, rf_21_2, rf_21_3, rf_26_0, rf_26_1, rf_26_2, rf_26_3, rf_26_4, rf_26_5, rf_26_6, rf_31_0, rf_31_2, rf_31_5, rf_31_6, rf_36_0, rf_36_1, rf_36_2, rf_36_3, rf_39_0, rf_39_1, rf_39_2, rf_41_0, rf_41_1, rf_41_2, rf_41_3, rf_5000_1, rf_5000_2, rf_5000_3, rf_5000_4, rf_5000_5, rf_5000_15, rf_5000_16, rf_5000_18, rf_5000_19, rf_5000_20, rf_5000_21, rf_5000_22, rf_5000_23, rf_5000_24, rf_5000_25, rf_5000_26, rf_5000_27, rf_5000_36, rf_5000_37, rf_5000_40, rf_5000_41, rf_5000_42, rf_5000_43, rf_5000_44, rf_5000_45, rf_5000_47, rf_5000_52, rf_5000_54, rf_5000_55, rf_100_0, rf_100_1, rf_103_0, rf_103_1, rf_106_0, rf_106_1, rf_109_0, rf_109_1, al_2, al_4, al_5, al_7, al_8, al_10, al_11, al_12, al_14, al_15, al_17, al_18, al_19, al_20, al_22, al_23, al_24, al_25, al_27, al_28, al_29, al_30, al_32, al_33, al_34, al_35, al_37, al_38, al_40, al_42, al_5001, al_5002, al_5003, al_5004, al_5005, al_5006, al_5007, al_5008, al_5009, al_5010, al_5011, al_5012, al_5013, al_5014, al_5015, al_5016, al_5017, al_5018, al_5019, al_5020, al_5021, al_5022, al_5023, al_5024, al_5025, al_5026, al_9000, al_101, al_102, al_104, al_105, al_107, al_108, al_110, al_111, vcs_e, lg_c0, lg_cs, lg_nil, set_c0, set_cs, okst_0, okst_s, acok_n, acok_c, List.contains_nil, List.contains_cons, Bool.or_false, Bool.false_or, Bool.false_eq_true, if_false, if_true, ite_self, ne_eq, true_and, and_true, not_false_eq_true, not_true_eq_false, false_imp_iff, true_imp_iff, Nat.ble_eq, Bool.and_eq_true, reduceCtorEq, or_false, false_or, or_true, true_or, false_and, and_false, and_self, Int.reduceLE, Int.reduceAdd, Int.reduceSub, Int.reduceMul, Int.reduceNeg, Int.reduceLT, Int.reduceEq, Int.reduceNe, Nat.reduceBEq, Nat.reduceBNe, Nat.reduceEqDiff, amCmp_in, amCmp_lt, amCmp_le, amCmp_gt, amCmp_ge, amCmp_eq, amCmp_ne, Nat.reduceLeDiff, Nat.reduceSub, Bool.and_true, Bool.true_and, Bool.and_self, Bool.or_true, Bool.true_or, isRf_3, isRf_4, isRf_5, isRf_8, isRf_9, isRf_10, isRf_11, isRf_15, isRf_16, isRf_17, isRf_18, isRf_19, isRf_20, isRf_21, isRf_22, isRf_23, isRf_24, isRf_25, isRf_26, isRf_27, isRf_28, k_X12_most_0, k_X12_most_1, k_X12_most_2, k_X12_most_5, k_X12_most_6, k_X12_most_7, k_X12_most_10, k_X12_most_13, k_X12_most_14, k_X12_most_15, k_X12_most_16, k_X12_most_17, k_X12_most_20, k_X12_most_23, k_X12_most_24, k_X12_most_25, k_X12_most_26, k_X12_most_29, k_X12_most_30, k_X12_most_33, k_X12_most_36, k_X12_most_37, k_X12_most_38, k_X12_most_41, k_X12_most_42, k_X12_most_43, k_X12_most_46, k_X12_most_47, k_X12_most_48, k_X12_most_49, k_X12_most_52, k_X12_most_53, k_X12_most_56, k_X12_most_57, k_X12_most_60, k_X12_most_63, k_X12_most_64, k_X12_most_67, w_X12_copy_e, w_X12_goMost_e, w_X12_isIn_e, w_X12_isPlay_e, e28, t15, et, if_pos d1, if_pos d3]
      repeat' (first | assumption | exact hw | apply And.intro | intro _)
      all_goals first | omega | exact absurd trivial (by assumption) | skip
      all_goals refine ⟨th0 σ, σ 5015, ?_⟩
      repeat' (first | assumption | exact hxt | exact hAr | exact hT | exact j50 | exact j51 | exact hw | apply And.intro | intro _)
      all_goals first | omega | exact (fin _ (by assumption) (by assumption)).1 (by assumption) | exact (fin _ (by assumption) (by assumption)).2 (by assumption)
    · have q8 := h1 (by omega)
      refine am_m [25] (fun _ _ _ _ _ => False) (own := RX12) (A := look (a_X12_most d)) (fun X e1 e2 hB => o_X12_most d h6 e1 e2 hB) rfl (by decide +kernel) rfl rfl (fun _ _ _ _ _ h => absurd h id) ⟨60, ?_⟩ (w := 3)
      change vcs _ _ _ _ 60 0 [(28, 5000), (0, p), (0, w)] [] σ
      simp only [↓reduceIte, inR_0, inR_1, inR_m, vSw2_e, swP_n, swP_c, vI_e, vL_e, vNull_e, vIload_e, vLload_e, vAload_e, vIstore_e, vLstore_e, vAstore_e, vIinc_e, vIadd_e, vIsub_e, vImul_e, vIand_e, vIor_e, vIxor_e, vIshl_e, vIshr_e, vIushr_e, vIdiv_e, vIrem_e, vLadd_e, vLsub_e, vLmul_e, vLand_e, vLor_e, vLxor_e, vLdiv_e, vLrem_e, vLushr_e, vLshl_e, vLcmp_e, vIneg_e, vI2l_e, vL2i_e, vI2b_e, vI2c_e, vDup_e, vPop_e, vDup2_e, vGoto_e, vIcEq_e, vIfEq_e, vIcNe_e, vIfNe_e, vIcLt_e, vIfLt_e, vIcGe_e, vIfGe_e, vIcGt_e, vIfGt_e, vIcLe_e, vIfLe_e, vNonnull_e, vSw_e, vGetI_e, vGetL_e, vGetR_e, vPutI_e, vPutZ_e, vPutL_e, vPutR_e, vIald_e, vIald_s, vLald_e, vBald_e, vBald_s, vAald_e, vIast_e, vLast_e, vBast_e, vAast_e, vAlen_e8, vAlen_e9, vAlen_e10, vAlen_e11, vAlen_e5, vAlen_e3, vGets_e, vCompact_e, vLdcS_e, vIret_e, vZret_e, vCret_e, vBret_e, vLret_e, vVret_e, vAret_e, vCallM_e0, vCallMV_e0, vCallS_e0, vCallSV_e0, vCallM_e1, vCallMV_e1, vCallS_e1, vCallSV_e1, vCallM_e2, vCallMV_e2, vCallS_e2, vCallSV_e2, vCallM_e3, vCallMV_e3, vCallS_e3, vCallSV_e3, vCallM_e4, vCallMV_e4, vCallS_e4, vCallSV_e4, vCallM_e5, vCallMV_e5, vCallS_e5, vCallSV_e5, vCallM_e6, vCallMV_e6, vCallS_e6, vCallSV_e6, vCallM_e7, vCallMV_e7, vCallS_e7, vCallSV_e7, vBad_e, vStrVal_e, vStrCod_e, vForm_e, vCallT_e0, vCallT_e1, vCallT_e2, vCopy_e, rf_0_0, rf_0_1, rf_0_2, rf_0_3, rf_0_4, rf_0_7, rf_0_10, rf_0_11, rf_0_12, rf_0_13, rf_0_14, rf_0_15, rf_0_16, rf_1_0, rf_3_0, rf_3_1, rf_6_0, rf_6_1, rf_9_0, rf_9_1, rf_9_3, rf_13_0, rf_13_1, rf_13_2, rf_16_0, rf_16_1, rf_16_2, rf_16_3, rf_21_0, rf_21_1, rf_21_2, rf_21_3, rf_26_0, rf_26_1, rf_26_2, rf_26_3, rf_26_4, rf_26_5, rf_26_6, rf_31_0, rf_31_2, rf_31_5, rf_31_6, rf_36_0, rf_36_1, rf_36_2, rf_36_3, rf_39_0, rf_39_1, rf_39_2, rf_41_0, rf_41_1, rf_41_2, rf_41_3, rf_5000_1, rf_5000_2, rf_5000_3, rf_5000_4, rf_5000_5, rf_5000_15, rf_5000_16, rf_5000_18, rf_5000_19, rf_5000_20, rf_5000_21, rf_5000_22, rf_5000_23, rf_5000_24, rf_5000_25, rf_5000_26, rf_5000_27, rf_5000_36, rf_5000_37, rf_5000_40, rf_5000_41, rf_5000_42, rf_5000_43, rf_5000_44, rf_5000_45, rf_5000_47, rf_5000_52, rf_5000_54, rf_5000_55, rf_100_0, rf_100_1, rf_103_0, rf_103_1, rf_106_0, rf_106_1, rf_109_0, rf_109_1, al_2, al_4, al_5, al_7, al_8, al_10, al_11, al_12, al_14, al_15, al_17, al_18, al_19, al_20, al_22, al_23, al_24, al_25, al_27, al_28, al_29, al_30, al_32, al_33, al_34, al_35, al_37, al_38, al_40, al_42, al_5001, al_5002, al_5003, al_5004, al_5005, al_5006, al_5007, al_5008, al_5009, al_5010, al_5011, al_5012, al_5013, al_5014, al_5015, al_5016, al_5017, al_5018, al_5019, al_5020, al_5021, al_5022, al_5023, al_5024, al_5025, al_5026, al_9000, al_101, al_102, al_104, al_105, al_107, al_108, al_110, al_111, vcs_e, lg_c0, lg_cs, lg_nil, set_c0, set_cs, okst_0, okst_s, acok_n, acok_c, List.contains_nil, List.contains_cons, Bool.or_false, Bool.false_or, Bool.false_eq_true, if_false, if_true, ite_self, ne_eq, true_and, and_true, not_false_eq_true, not_true_eq_false, false_imp_iff, true_imp_iff, Nat.ble_eq, Bool.and_eq_true, reduceCtorEq, or_false, false_or, or_true, true_or, false_and, and_false, and_self, Int.reduceLE, Int.reduceAdd, Int.reduceSub, Int.reduceMul, Int.reduceNeg, Int.reduceLT, Int.reduceEq, Int.reduceNe, Nat.reduceBEq, Nat.reduceBNe, Nat.reduceEqDiff, amCmp_in, amCmp_lt, amCmp_le, amCmp_gt, amCmp_ge, amCmp_eq, amCmp_ne, Nat.reduceLeDiff, Nat.reduceSub, Bool.and_true, Bool.true_and, Bool.and_self, Bool.or_true, Bool.true_or, isRf_3, isRf_4, isRf_5, isRf_8, isRf_9, isRf_10, isRf_11, isRf_15, isRf_16, isRf_17, isRf_18, isRf_19, isRf_20, isRf_21, isRf_22, isRf_23, isRf_24, isRf_25, isRf_26, isRf_27, isRf_28, k_X12_most_0, k_X12_most_1, k_X12_most_2, k_X12_most_5, k_X12_most_6, k_X12_most_7, k_X12_most_10, k_X12_most_13, k_X12_most_14, k_X12_most_15, k_X12_most_16, k_X12_most_17, k_X12_most_20, k_X12_most_23, k_X12_most_24, k_X12_most_25, k_X12_most_26, k_X12_most_29, k_X12_most_30, k_X12_most_33, k_X12_most_36, k_X12_most_37, k_X12_most_38, k_X12_most_41, k_X12_most_42, k_X12_most_43, k_X12_most_46, k_X12_most_47, k_X12_most_48, k_X12_most_49, k_X12_most_52, k_X12_most_53, k_X12_most_56, k_X12_most_57, k_X12_most_60, k_X12_most_63, k_X12_most_64, k_X12_most_67, w_X12_copy_e, w_X12_goMost_e, w_X12_isIn_e, w_X12_isPlay_e, e28, if_pos d1, if_neg d3]
      repeat' (first | apply And.intro | intro _)
      all_goals first | omega | exact absurd trivial (by assumption) | exact q8
  · have q8 := h1 (by omega)
    refine am_m [25] (fun _ _ _ _ _ => False) (own := RX12) (A := look (a_X12_most d)) (fun X e1 e2 hB => o_X12_most d h6 e1 e2 hB) rfl (by decide +kernel) rfl rfl (fun _ _ _ _ _ h => absurd h id) ⟨60, ?_⟩ (w := 3)
    change vcs _ _ _ _ 60 0 [(28, 5000), (0, p), (0, w)] [] σ
    simp only [↓reduceIte, inR_0, inR_1, inR_m, vSw2_e, swP_n, swP_c, vI_e, vL_e, vNull_e, vIload_e, vLload_e, vAload_e, vIstore_e, vLstore_e, vAstore_e, vIinc_e, vIadd_e, vIsub_e, vImul_e, vIand_e, vIor_e, vIxor_e, vIshl_e, vIshr_e, vIushr_e, vIdiv_e, vIrem_e, vLadd_e, vLsub_e, vLmul_e, vLand_e, vLor_e, vLxor_e, vLdiv_e, vLrem_e, vLushr_e, vLshl_e, vLcmp_e, vIneg_e, vI2l_e, vL2i_e, vI2b_e, vI2c_e, vDup_e, vPop_e, vDup2_e, vGoto_e, vIcEq_e, vIfEq_e, vIcNe_e, vIfNe_e, vIcLt_e, vIfLt_e, vIcGe_e, vIfGe_e, vIcGt_e, vIfGt_e, vIcLe_e, vIfLe_e, vNonnull_e, vSw_e, vGetI_e, vGetL_e, vGetR_e, vPutI_e, vPutZ_e, vPutL_e, vPutR_e, vIald_e, vIald_s, vLald_e, vBald_e, vBald_s, vAald_e, vIast_e, vLast_e, vBast_e, vAast_e, vAlen_e8, vAlen_e9, vAlen_e10, vAlen_e11, vAlen_e5, vAlen_e3, vGets_e, vCompact_e, vLdcS_e, vIret_e, vZret_e, vCret_e, vBret_e, vLret_e, vVret_e, vAret_e, vCallM_e0, vCallMV_e0, vCallS_e0, vCallSV_e0, vCallM_e1, vCallMV_e1, vCallS_e1, vCallSV_e1, vCallM_e2, vCallMV_e2, vCallS_e2, vCallSV_e2, vCallM_e3, vCallMV_e3, vCallS_e3, vCallSV_e3, vCallM_e4, vCallMV_e4, vCallS_e4, vCallSV_e4, vCallM_e5, vCallMV_e5, vCallS_e5, vCallSV_e5, vCallM_e6, vCallMV_e6, vCallS_e6, vCallSV_e6, vCallM_e7, vCallMV_e7, vCallS_e7, vCallSV_e7, vBad_e, vStrVal_e, vStrCod_e, vForm_e, vCallT_e0, vCallT_e1, vCallT_e2, vCopy_e, rf_0_0, rf_0_1, rf_0_2, rf_0_3, rf_0_4, rf_0_7, rf_0_10, rf_0_11, rf_0_12, rf_0_13, rf_0_14, rf_0_15, rf_0_16, rf_1_0, rf_3_0, rf_3_1, rf_6_0, rf_6_1, rf_9_0, rf_9_1, rf_9_3, rf_13_0, rf_13_1, rf_13_2, rf_16_0, rf_16_1, rf_16_2, rf_16_3, rf_21_0, rf_21_1, rf_21_2, rf_21_3, rf_26_0, rf_26_1, rf_26_2, rf_26_3, rf_26_4, rf_26_5, rf_26_6, rf_31_0, rf_31_2, rf_31_5, rf_31_6, rf_36_0, rf_36_1, rf_36_2, rf_36_3, rf_39_0, rf_39_1, rf_39_2, rf_41_0, rf_41_1, rf_41_2, rf_41_3, rf_5000_1, rf_5000_2, rf_5000_3, rf_5000_4, rf_5000_5, rf_5000_15, rf_5000_16, rf_5000_18, rf_5000_19, rf_5000_20, rf_5000_21, rf_5000_22, rf_5000_23, rf_5000_24, rf_5000_25, rf_5000_26, rf_5000_27, rf_5000_36, rf_5000_37, rf_5000_40, rf_5000_41, rf_5000_42, rf_5000_43, rf_5000_44, rf_5000_45, rf_5000_47, rf_5000_52, rf_5000_54, rf_5000_55, rf_100_0, rf_100_1, rf_103_0, rf_103_1, rf_106_0, rf_106_1, rf_109_0, rf_109_1, al_2, al_4, al_5, al_7, al_8, al_10, al_11, al_12, al_14, al_15, al_17, al_18, al_19, al_20, al_22, al_23, al_24, al_25, al_27, al_28, al_29, al_30, al_32, al_33, al_34, al_35, al_37, al_38, al_40, al_42, al_5001, al_5002, al_5003, al_5004, al_5005, al_5006, al_5007, al_5008, al_5009, al_5010, al_5011, al_5012, al_5013, al_5014, al_5015, al_5016, al_5017, al_5018, al_5019, al_5020, al_5021, al_5022, al_5023, al_5024, al_5025, al_5026, al_9000, al_101, al_102, al_104, al_105, al_107, al_108, al_110, al_111, vcs_e, lg_c0, lg_cs, lg_nil, set_c0, set_cs, okst_0, okst_s, acok_n, acok_c, List.contains_nil, List.contains_cons, Bool.or_false, Bool.false_or, Bool.false_eq_true, if_false, if_true, ite_self, ne_eq, true_and, and_true, not_false_eq_true, not_true_eq_false, false_imp_iff, true_imp_iff, Nat.ble_eq, Bool.and_eq_true, reduceCtorEq, or_false, false_or, or_true, true_or, false_and, and_false, and_self, Int.reduceLE, Int.reduceAdd, Int.reduceSub, Int.reduceMul, Int.reduceNeg, Int.reduceLT, Int.reduceEq, Int.reduceNe, Nat.reduceBEq, Nat.reduceBNe, Nat.reduceEqDiff, amCmp_in, amCmp_lt, amCmp_le, amCmp_gt, amCmp_ge, amCmp_eq, amCmp_ne, Nat.reduceLeDiff, Nat.reduceSub, Bool.and_true, Bool.true_and, Bool.and_self, Bool.or_true, Bool.true_or, isRf_3, isRf_4, isRf_5, isRf_8, isRf_9, isRf_10, isRf_11, isRf_15, isRf_16, isRf_17, isRf_18, isRf_19, isRf_20, isRf_21, isRf_22, isRf_23, isRf_24, isRf_25, isRf_26, isRf_27, isRf_28, k_X12_most_0, k_X12_most_1, k_X12_most_2, k_X12_most_5, k_X12_most_6, k_X12_most_7, k_X12_most_10, k_X12_most_13, k_X12_most_14, k_X12_most_15, k_X12_most_16, k_X12_most_17, k_X12_most_20, k_X12_most_23, k_X12_most_24, k_X12_most_25, k_X12_most_26, k_X12_most_29, k_X12_most_30, k_X12_most_33, k_X12_most_36, k_X12_most_37, k_X12_most_38, k_X12_most_41, k_X12_most_42, k_X12_most_43, k_X12_most_46, k_X12_most_47, k_X12_most_48, k_X12_most_49, k_X12_most_52, k_X12_most_53, k_X12_most_56, k_X12_most_57, k_X12_most_60, k_X12_most_63, k_X12_most_64, k_X12_most_67, w_X12_copy_e, w_X12_goMost_e, w_X12_isIn_e, w_X12_isPlay_e, e28, if_neg d1]
    repeat' (first | apply And.intro | intro _)
    all_goals first | omega | exact absurd trivial (by assumption) | exact q8
