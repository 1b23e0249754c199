/-! LawReader: a clause, a LAW -/

theorem wd_581 : Cond.methodLink RX3 90 yX3_closeClause ∈ TBL := tb_tab (List.mem_of_getElem? (i := 581) (by decide +kernel)) rfl
theorem wd_584 : Cond.code yX3_closeClause cX3_closeClause 1 (some .boolean) ∈ TBL := tb_tab (List.mem_of_getElem? (i := 584) (by decide +kernel)) rfl
theorem lk_X3_90 : amLk RX3 90 yX3_closeClause cX3_closeClause 1 (some .boolean) 0 := ⟨wd_581, wd_4, wd_584, by decide +kernel, by decide +kernel, by decide⟩
theorem wd_583 : Cond.instanceMethod yX3_closeClause ∈ TBL := tb_tab (List.mem_of_getElem? (i := 583) (by decide +kernel)) rfl
theorem sl_X3_closeClause : Cond.selects RX3 yX3_closeClause yX3_closeClause ∈ TBL := tb_sel (List.mem_of_getElem? (i := 7) (by decide +kernel)) rfl
theorem wd_596 : Cond.methodLink RX3 93 yX3_takeAtom ∈ TBL := tb_tab (List.mem_of_getElem? (i := 596) (by decide +kernel)) rfl
theorem wd_599 : Cond.code yX3_takeAtom cX3_takeAtom 4 (some .boolean) ∈ TBL := tb_tab (List.mem_of_getElem? (i := 599) (by decide +kernel)) rfl
theorem lk_X3_93 : amLk RX3 93 yX3_takeAtom cX3_takeAtom 4 (some .boolean) 1 := ⟨wd_596, wd_4, wd_599, by decide +kernel, by decide +kernel, by decide⟩
theorem wd_598 : Cond.instanceMethod yX3_takeAtom ∈ TBL := tb_tab (List.mem_of_getElem? (i := 598) (by decide +kernel)) rfl
theorem sl_X3_takeAtom : Cond.selects RX3 yX3_takeAtom yX3_takeAtom ∈ TBL := tb_sel (List.mem_of_getElem? (i := 10) (by decide +kernel)) rfl
theorem wd_612 : Cond.methodLink RX3 97 yX3_takeSign ∈ TBL := tb_tab (List.mem_of_getElem? (i := 612) (by decide +kernel)) rfl
theorem wd_615 : Cond.code yX3_takeSign cX3_takeSign 3 (some .boolean) ∈ TBL := tb_tab (List.mem_of_getElem? (i := 615) (by decide +kernel)) rfl
theorem lk_X3_97 : amLk RX3 97 yX3_takeSign cX3_takeSign 3 (some .boolean) 1 := ⟨wd_612, wd_4, wd_615, by decide +kernel, by decide +kernel, by decide⟩
theorem wd_614 : Cond.instanceMethod yX3_takeSign ∈ TBL := tb_tab (List.mem_of_getElem? (i := 614) (by decide +kernel)) rfl
theorem sl_X3_takeSign : Cond.selects RX3 yX3_takeSign yX3_takeSign ∈ TBL := tb_sel (List.mem_of_getElem? (i := 13) (by decide +kernel)) rfl
def a_X3_readBody : AC := [(0, vI 0 1), (1, vIstore 1 2), (2, vIload 1 3), (3, vI 240 6), (6, vIcGt 73 9), (9, vAload 0 10), (10, vGetR TT 19 0 26 13), (13, vCallM w_X10_ahead 26 0 16), (16, vIstore 2 17), (17, vAload 0 18), (18, vGetI 19 10 21), (21, vIfNe 40 24), (24, vIload 2 25), (25, vI (-1) 26), (26, vIcEq 35 29), (29, vIload 2 30), (30, vI 59 32), (32, vIcNe 40 35), (35, vAload 0 36), (36, vCallM w_X3_closeClause 19 0 39), (39, vZret), (40, vAload 0 41), (41, vGetI 19 10 44), (44, vIfEq 55 47), (47, vAload 0 48), (48, vIload 2 49), (49, vCallM w_X3_takeAtom 19 1 52), (52, vGoto 60), (55, vAload 0 56), (56, vIload 2 57), (57, vCallM w_X3_takeSign 19 1 60), (60, vIstore 3 61), (61, vIload 3 62), (62, vIfNe 67 65), (65, vI 0 66), (66, vZret), (67, vIinc 1 1 70), (70, vGoto 2), (73, vI 0 74), (74, vZret)]
theorem k_X3_readBody_0 : look a_X3_readBody 0 = vI 0 1 := rfl
theorem k_X3_readBody_1 : look a_X3_readBody 1 = vIstore 1 2 := rfl
theorem k_X3_readBody_2 : look a_X3_readBody 2 = vIload 1 3 := rfl
theorem k_X3_readBody_3 : look a_X3_readBody 3 = vI 240 6 := rfl
theorem k_X3_readBody_6 : look a_X3_readBody 6 = vIcGt 73 9 := rfl
theorem k_X3_readBody_9 : look a_X3_readBody 9 = vAload 0 10 := rfl
theorem k_X3_readBody_10 : look a_X3_readBody 10 = vGetR TT 19 0 26 13 := rfl
theorem k_X3_readBody_13 : look a_X3_readBody 13 = vCallM w_X10_ahead 26 0 16 := rfl
theorem k_X3_readBody_16 : look a_X3_readBody 16 = vIstore 2 17 := rfl
theorem k_X3_readBody_17 : look a_X3_readBody 17 = vAload 0 18 := rfl
theorem k_X3_readBody_18 : look a_X3_readBody 18 = vGetI 19 10 21 := rfl
theorem k_X3_readBody_21 : look a_X3_readBody 21 = vIfNe 40 24 := rfl
theorem k_X3_readBody_24 : look a_X3_readBody 24 = vIload 2 25 := rfl
theorem k_X3_readBody_25 : look a_X3_readBody 25 = vI (-1) 26 := rfl
theorem k_X3_readBody_26 : look a_X3_readBody 26 = vIcEq 35 29 := rfl
theorem k_X3_readBody_29 : look a_X3_readBody 29 = vIload 2 30 := rfl
theorem k_X3_readBody_30 : look a_X3_readBody 30 = vI 59 32 := rfl
theorem k_X3_readBody_32 : look a_X3_readBody 32 = vIcNe 40 35 := rfl
theorem k_X3_readBody_35 : look a_X3_readBody 35 = vAload 0 36 := rfl
theorem k_X3_readBody_36 : look a_X3_readBody 36 = vCallM w_X3_closeClause 19 0 39 := rfl
theorem k_X3_readBody_39 : look a_X3_readBody 39 = vZret := rfl
theorem k_X3_readBody_40 : look a_X3_readBody 40 = vAload 0 41 := rfl
theorem k_X3_readBody_41 : look a_X3_readBody 41 = vGetI 19 10 44 := rfl
theorem k_X3_readBody_44 : look a_X3_readBody 44 = vIfEq 55 47 := rfl
theorem k_X3_readBody_47 : look a_X3_readBody 47 = vAload 0 48 := rfl
theorem k_X3_readBody_48 : look a_X3_readBody 48 = vIload 2 49 := rfl
theorem k_X3_readBody_49 : look a_X3_readBody 49 = vCallM w_X3_takeAtom 19 1 52 := rfl
theorem k_X3_readBody_52 : look a_X3_readBody 52 = vGoto 60 := rfl
theorem k_X3_readBody_55 : look a_X3_readBody 55 = vAload 0 56 := rfl
theorem k_X3_readBody_56 : look a_X3_readBody 56 = vIload 2 57 := rfl
theorem k_X3_readBody_57 : look a_X3_readBody 57 = vCallM w_X3_takeSign 19 1 60 := rfl
theorem k_X3_readBody_60 : look a_X3_readBody 60 = vIstore 3 61 := rfl
theorem k_X3_readBody_61 : look a_X3_readBody 61 = vIload 3 62 := rfl
theorem k_X3_readBody_62 : look a_X3_readBody 62 = vIfNe 67 65 := rfl
theorem k_X3_readBody_65 : look a_X3_readBody 65 = vI 0 66 := rfl
theorem k_X3_readBody_66 : look a_X3_readBody 66 = vZret := rfl
theorem k_X3_readBody_67 : look a_X3_readBody 67 = vIinc 1 1 70 := rfl
theorem k_X3_readBody_70 : look a_X3_readBody 70 = vGoto 2 := rfl
theorem k_X3_readBody_73 : look a_X3_readBody 73 = vI 0 74 := rfl
theorem k_X3_readBody_74 : look a_X3_readBody 74 = vZret := rfl
theorem o_X3_readBody {X : amX} (e1 : XT X = TT) (e2 : XD X = 6) (hB : amB X RX3 cX3_readBody (some .boolean) 4) : ∀ pc, amOK X pc (look a_X3_readBody pc) := by
  have hT : amTok (XT X) := e1 ▸ TT_ok
  refine look_ok ?_
  unfold a_X3_readBody
  refine fc (ok_iconst hB dX3_readBody_0) ?_
  refine fc (ok_istore_n hB (by decide) dX3_readBody_1) ?_
  refine fc (ok_iload_n hB dX3_readBody_2) ?_
  refine fc (ok_sipush hB dX3_readBody_3 (by decide)) ?_
  refine fc (ok_icmp_gt hB (t := 73) (by decide) dX3_readBody_6) ?_
  refine fc (ok_aload_n hB dX3_readBody_9) ?_
  refine fc (okt_getR e1 hB hT fl_X3_49 rfl af_3_0 at_3_0 (by decide) dX3_readBody_10) ?_
  refine fc (ok_callM hB hT (e1 ▸ s_X10_ahead) lk_X3_87 (by rw [e2]; decide) (c := 10) rfl rfl rfl wd_409 wd_410 dX3_readBody_13) ?_
  refine fc (ok_istore_n hB (by decide) dX3_readBody_16) ?_
  refine fc (ok_aload_n hB dX3_readBody_17) ?_
  refine fc (ok_getI hB hT fl_X3_42 rfl rfl (Or.inr af_3_10) dX3_readBody_18) ?_
  refine fc (ok_if_ne hB (t := 40) (by decide) dX3_readBody_21) ?_
  refine fc (ok_iload_n hB dX3_readBody_24) ?_
  refine fc (ok_iconst hB dX3_readBody_25) ?_
  refine fc (ok_icmp_eq hB (t := 35) (by decide) dX3_readBody_26) ?_
  refine fc (ok_iload_n hB dX3_readBody_29) ?_
  refine fc (ok_bipush hB dX3_readBody_30 (by decide)) ?_
  refine fc (ok_icmp_ne hB (t := 40) (by decide) dX3_readBody_32) ?_
  refine fc (ok_aload_n hB dX3_readBody_35) ?_
  refine fc (ok_callM hB hT (e1 ▸ s_X3_closeClause) lk_X3_90 (by rw [e2]; decide) (c := 3) rfl rfl rfl wd_583 sl_X3_closeClause dX3_readBody_36) ?_
  refine fc (ok_zret hB dX3_readBody_39) ?_
  refine fc (ok_aload_n hB dX3_readBody_40) ?_
  refine fc (ok_getI hB hT fl_X3_42 rfl rfl (Or.inr af_3_10) dX3_readBody_41) ?_
  refine fc (ok_if_eq hB (t := 55) (by decide) dX3_readBody_44) ?_
  refine fc (ok_aload_n hB dX3_readBody_47) ?_
  refine fc (ok_iload_n hB dX3_readBody_48) ?_
  refine fc (ok_callM hB hT (e1 ▸ s_X3_takeAtom) lk_X3_93 (by rw [e2]; decide) (c := 3) rfl rfl rfl wd_598 sl_X3_takeAtom dX3_readBody_49) ?_
  refine fc (ok_goto hB (t := 60) (by decide) dX3_readBody_52) ?_
  refine fc (ok_aload_n hB dX3_readBody_55) ?_
  refine fc (ok_iload_n hB dX3_readBody_56) ?_
  refine fc (ok_callM hB hT (e1 ▸ s_X3_takeSign) lk_X3_97 (by rw [e2]; decide) (c := 3) rfl rfl rfl wd_614 sl_X3_takeSign dX3_readBody_57) ?_
  refine fc (ok_istore_n hB (by decide) dX3_readBody_60) ?_
  refine fc (ok_iload_n hB dX3_readBody_61) ?_
  refine fc (ok_if_ne hB (t := 67) (by decide) dX3_readBody_62) ?_
  refine fc (ok_iconst hB dX3_readBody_65) ?_
  refine fc (ok_zret hB dX3_readBody_66) ?_
  refine fc (ok_iinc hB (by decide) dX3_readBody_67) ?_
  refine fc (ok_goto hB (t := 2) (by decide) dX3_readBody_70) ?_
  refine fc (ok_iconst hB dX3_readBody_73) ?_
  refine fc (ok_zret hB dX3_readBody_74) ?_
  exact fn
def inv_rbody (m : Mem) (Z : Int ⊕ (Int × List Int × Int)) (n pc : Nat) (ls st : List AV) (σ' : Mem) : Prop := pc = 2 ∧ st = [] ∧ ∃ (i p : Int) (C W : List Int) (sd wi br ro ska wa um : Int) (v2 v3 : AV), ls = [(19, 9), (0, i), v2, v3] ∧ 0 ≤ i ∧ i + n = 241 ∧ RdP m σ' p C W sd wi br ro ska wa um ∧ lrun (tsg m) (m 1 1) n wa p C W sd wi br ro ska um = some Z
def w_X3_readBody : WP := fun av σ Q => av = [(19, 9)] ∧ (∃ (m : Mem) (p : Int) (C : List Int), tapeOk m ∧ RdP m σ p C [] 0 0 0 0 (-1) 1 1 ∧ (C.length : Int) + 2 ≤ p ∧ p ≤ m 1 1 ∧ (∀ τ q, RdX m τ q → lfin (tsg m) (m 1 1) C (gBd (tsg m) (m 1 1) p) = .inl q → Q (0, 0) τ) ∧
(∀ τ q C' s, lfin (tsg m) (m 1 1) C (gBd (tsg m) (m 1 1) p) = .inr (q, C', s) → RdX m τ q → 0 ≤ q → q ≤ m 1 1 → (C'.length : Int) + 1 ≤ q → τ 9 2 = (lpat C' s).length → lst (τ 10) 0 (lpat C' s) → Q (0, 1) τ))
theorem w_X3_readBody_e  (σ : Mem) (Q : AV → Mem → Prop) : w_X3_readBody [(19, 9)] σ Q = (∃ (m : Mem) (p : Int) (C : List Int), tapeOk m ∧ RdP m σ p C [] 0 0 0 0 (-1) 1 1 ∧ (C.length : Int) + 2 ≤ p ∧ p ≤ m 1 1 ∧ (∀ τ q, RdX m τ q → lfin (tsg m) (m 1 1) C (gBd (tsg m) (m 1 1) p) = .inl q → Q (0, 0) τ) ∧
(∀ τ q C' s, lfin (tsg m) (m 1 1) C (gBd (tsg m) (m 1 1) p) = .inr (q, C', s) → RdX m τ q → 0 ≤ q → q ≤ m 1 1 → (C'.length : Int) + 1 ≤ q → τ 9 2 = (lpat C' s).length → lst (τ 10) 0 (lpat C' s) → Q (0, 1) τ)) := by
  apply propext; constructor
  · rintro ⟨h9, hb9⟩; cases h9; exact hb9
  · intro hb9; exact ⟨rfl, hb9⟩

set_option maxRecDepth 100000 in
set_option maxHeartbeats 4000000 in
theorem s_X3_readBody : ∀ av σ Q, w_X3_readBody av σ Q → amCall 6 0 0 TT yX3_readBody cX3_readBody 4 (some .boolean) av σ Q := by
  rintro av σ Q ⟨rfl, m, p, C, ht, hL, h0, h1, hF, hG⟩
  have ht1 := ht.2.1
  have hte : ∀ i, m 1 1 ≤ i → tsg m i = -1 := fun i hi => (tsg_bd ht i).2.2.2 hi
  have hrun := lrun_bd hte h0 h1 ht1
  generalize lfin (tsg m) (m 1 1) C (gBd (tsg m) (m 1 1) p) = Z at *
  refine am_m [2] (inv_rbody m Z) (own := RX3) (A := look a_X3_readBody) (fun X e1 e2 hB => o_X3_readBody e1 e2 hB) rfl (by decide +kernel) rfl rfl ?_ ⟨90, ?_⟩ (w := 4)
  · rintro n pc ls st σ' ⟨rfl, rfl, i, p, C, W, sd, wi, br, ro, ska, wa, um, v2, v3, rfl, hi0, hin, hL, hr⟩
    cases n with
    | zero => rw [lrun] at hr; cases hr
    | succ n =>
      have hX := RdX_t hL.1
      have htk := RdX_ok hL.1 ht
      have ep : σ' 1 2 = p := hL.1.2.2
      have e10 : σ' 9 10 = wa := hL.2.2.2.2.2.2.2.2.1
      rw [lrun] at hr
      split at hr
      case isFalse => cases hr
      rename_i hlok
      obtain ⟨b1, b2, b3, b4, b5, b6, b7, b8, b9, b10, b11, b12, b13, b14, b15, b16⟩ := id hlok
      have s1 := sk_b (tsg m) b2
      have s2 := sk_sk (tsg m) b2
      generalize hq : sk (tsg m) (m 1 1) p = q at *
      have tb := tsg_bd ht q
      have hLq := RdP_p hL q
      have hlq : ∀ a, (a = 0 ∨ a = 1) → lok (m 1 1) a q C W sd wi br ro ska um := fun a ha => ⟨by omega, by omega, by omega, b4, b5, b6, b7, b8, b9, b10, b11, b12, b13, b14, ha, b16⟩
      refine ⟨90, ?_⟩
      simp only [↓reduceIte, inR_0, inR_1, inR_m, vSw2_e, swP_n, swP_c, vI_e, vL_e, vNull_e, vIload_e, vLload_e, vAload_e, vIstore_e, vLstore_e, vAstore_e, vIinc_e, vIadd_e, vIsub_e, vImul_e, vIand_e, vIor_e, vIxor_e, vIshl_e, vIshr_e, vIushr_e, vIdiv_e, vIrem_e, vLadd_e, vLsub_e, vLmul_e, vLand_e, vLor_e, vLxor_e, vLdiv_e, vLrem_e, vLushr_e, vLshl_e, vLcmp_e, vIneg_e, vI2l_e, vL2i_e, vI2b_e, vI2c_e, vDup_e, vPop_e, vDup2_e, vGoto_e, vIcEq_e, vIfEq_e, vIcNe_e, vIfNe_e, vIcLt_e, vIfLt_e, vIcGe_e, vIfGe_e, vIcGt_e, vIfGt_e, vIcLe_e, vIfLe_e, vNonnull_e, vSw_e, vGetI_e, vGetL_e, vGetR_e, vPutI_e, vPutZ_e, vPutL_e, vPutR_e, vIald_e, vIald_s, vLald_e, vBald_e, vBald_s, vAald_e, vIast_e, vLast_e, vBast_e, vAast_e, vAlen_e8, vAlen_e9, vAlen_e10, vAlen_e11, vAlen_e5, vAlen_e3, vGets_e, vCompact_e, vLdcS_e, vIret_e, vZret_e, vCret_e, vBret_e, vLret_e, vVret_e, vAret_e, vCallM_e0, vCallMV_e0, vCallS_e0, vCallSV_e0, vCallM_e1, vCallMV_e1, vCallS_e1, vCallSV_e1, vCallM_e2, vCallMV_e2, vCallS_e2, vCallSV_e2, vCallM_e3, vCallMV_e3, vCallS_e3, vCallSV_e3, vCallM_e4, vCallMV_e4, vCallS_e4, vCallSV_e4, vCallM_e5, vCallMV_e5, vCallS_e5, vCallSV_e5, vCallM_e6, vCallMV_e6, vCallS_e6, vCallSV_e6, vCallM_e7, vCallMV_e7, vCallS_e7, vCallSV_e7, vBad_e, vStrVal_e, vStrCod_e, vForm_e, vCallT_e0, vCallT_e1, vCallT_e2, vCopy_e, rf_0_0, rf_0_1, rf_0_2, rf_0_3, rf_0_4, rf_0_7, rf_0_10, rf_0_11, rf_0_12, rf_0_13, rf_0_14, rf_0_15, rf_0_16, rf_1_0, rf_3_0, rf_3_1, rf_6_0, rf_6_1, rf_9_0, rf_9_1, rf_9_3, rf_13_0, rf_13_1, rf_13_2, rf_16_0, rf_16_1, rf_16_2, rf_16_3, rf_21_0, rf_21_1, rf_21_2, rf_21_3, rf_26_0, rf_26_1, rf_26_2, rf_26_3, rf_26_4, rf_26_5, rf_26_6, rf_31_0, rf_31_2, rf_31_5, rf_31_6, rf_36_0, rf_36_1, rf_36_2, rf_36_3, rf_39_0, rf_39_1, rf_39_2, rf_41_0, rf_41_1, rf_41_2, rf_41_3, rf_5000_1, rf_5000_2, rf_5000_3, rf_5000_4, rf_5000_5, rf_5000_15, rf_5000_16, rf_5000_18, rf_5000_19, rf_5000_20, rf_5000_21, rf_5000_22, rf_5000_23, rf_5000_24, rf_5000_25, rf_5000_26, rf_5000_27, rf_5000_36, rf_5000_37, rf_5000_40, rf_5000_41, rf_5000_42, rf_5000_43, rf_5000_44, rf_5000_45, rf_5000_47, rf_5000_52, rf_5000_54, rf_5000_55, rf_100_0, rf_100_1, rf_103_0, rf_103_1, rf_106_0, rf_106_1, rf_109_0, rf_109_1, al_2, al_4, al_5, al_7, al_8, al_10, al_11, al_12, al_14, al_15, al_17, al_18, al_19, al_20, al_22, al_23, al_24, al_25, al_27, al_28, al_29, al_30, al_32, al_33, al_34, al_35, al_37, al_38, al_40, al_42, al_5001, al_5002, al_5003, al_5004, al_5005, al_5006, al_5007, al_5008, al_5009, al_5010, al_5011, al_5012, al_5013, al_5014, al_5015, al_5016, al_5017, al_5018, al_5019, al_5020, al_5021, al_5022, al_5023, al_5024, al_5025, al_5026, al_9000, al_101, al_102, al_104, al_105, al_107, al_108, al_110, al_111, vcs_e, lg_c0, lg_cs, lg_nil, set_c0, set_cs, okst_0, okst_s, acok_n, acok_c, List.contains_nil, List.contains_cons, Bool.or_false, Bool.false_or, Bool.false_eq_true, if_false, if_true, ite_self, ne_eq, true_and, and_true, not_false_eq_true, not_true_eq_false, false_imp_iff, true_imp_iff, Nat.ble_eq, Bool.and_eq_true, reduceCtorEq, or_false, false_or, or_true, true_or, false_and, and_false, and_self, Int.reduceLE, Int.reduceAdd, Int.reduceSub, Int.reduceMul, Int.reduceNeg, Int.reduceLT, Int.reduceEq, Int.reduceNe, Nat.reduceBEq, Nat.reduceBNe, Nat.reduceEqDiff, amCmp_in, amCmp_lt, amCmp_le, amCmp_gt, amCmp_ge, amCmp_eq, amCmp_ne, Nat.reduceLeDiff, Nat.reduceSub, Bool.and_true, Bool.true_and, Bool.and_self, Bool.or_true, Bool.true_or, isRf_3, isRf_4, isRf_5, isRf_8, isRf_9, isRf_10, isRf_11, isRf_15, isRf_16, isRf_17, isRf_18, isRf_19, isRf_20, isRf_21, isRf_22, isRf_23, isRf_24, isRf_25, isRf_26, isRf_27, isRf_28, k_X3_readBody_0, k_X3_readBody_1, k_X3_readBody_2, k_X3_readBody_3, k_X3_readBody_6, k_X3_readBody_9, k_X3_readBody_10, k_X3_readBody_13, k_X3_readBody_16, k_X3_readBody_17, k_X3_readBody_18, k_X3_readBody_21, k_X3_readBody_24, k_X3_readBody_25, k_X3_readBody_26, k_X3_readBody_29, k_X3_readBody_30, k_X3_readBody_32, k_X3_readBody_35, k_X3_readBody_36, k_X3_readBody_39, k_X3_readBody_40, k_X3_readBody_41, k_X3_readBody_44, k_X3_readBody_47, k_X3_readBody_48, k_X3_readBody_49, k_X3_readBody_52, k_X3_readBody_55, k_X3_readBody_56, k_X3_readBody_57, k_X3_readBody_60, k_X3_readBody_61, k_X3_readBody_62, k_X3_readBody_65, k_X3_readBody_66, k_X3_readBody_67, k_X3_readBody_70, k_X3_readBody_73, k_X3_readBody_74, w_X10_ahead_e, w_X3_closeClause_e, w_X3_takeAtom_e, w_X3_takeSign_e, up_s, up_nj, up_na, up_up, savR_o, cpy_o, fillm_o, setAud_o, setv_o, setv_s, Int.reduceNe, Int.reduceEq, Int.reduceLT, Int.reduceAdd, not_false_eq_true, ne_eq, or_true, true_or, ep, e10, hX.1, hX.2, skp_fold, hq]
      have nxt : ∀ τ wa' p' C' W' sd' wi' br' ro' ska' um' (v2 v3 : AV), RdP m τ p' C' W' sd' wi' br' ro' ska' wa' um' → lrun (tsg m) (m 1 1) n wa' p' C' W' sd' wi' br' ro' ska' um' = some Z → ∃ k, k < n + 1 ∧ inv_rbody m Z k 2 [(19, 9), (0, i + 1), v2, v3] [] τ :=
        fun τ wa' p' C' W' sd' wi' br' ro' ska' um' v2 v3 a b => ⟨n, by omega, rfl, rfl, i + 1, p', C', W', sd', wi', br', ro', ska', wa', um', v2, v3, rfl, by omega, by omega, a, b⟩
      by_cases c1 : wa = 0
      · rw [if_pos c1] at hr
        subst c1
        by_cases c2 : tsg m q = -1 ∨ tsg m q = 59
        · unfold lsgn at hr
          rw [if_pos c2] at hr
          have hcl : ∃ (m_1 : Mem) (p : Int) (C W : List Int) (sd wi br ro ska wa um : Int), RdP m_1 (up σ' 1 2 q) p C W sd wi br ro ska wa um ∧ C.length + W.length ≤ 238 ∧ W.length ≤ 60 ∧ 0 ≤ wi ∧ wi ≤ 100 ∧ InR sd ∧ InR br ∧ -1 ≤ ska ∧ ska ≤ 240 ∧ (if 0 < br ∨ (sd ≠ 0 ∧ sd ≠ 3) then Q (0, 0) (up σ' 1 2 q) else ∀ τ, RdX m_1 τ p → τ 9 2 = (lpat (C ++ sC 1 W ++ [20059]) ska).length → lst (τ 10) 0 (lpat (C ++ sC 1 W ++ [20059]) ska) → Q (0, 1) τ) := by
            refine ⟨m, q, C, W, sd, wi, br, ro, ska, 0, um, hLq, by omega, by omega, by omega, by omega, ⟨by omega, by omega⟩, ⟨by omega, by omega⟩, by omega, by omega, ?_⟩
            split at hr
            · rename_i c3
              rw [if_pos c3]
              cases hr
              exact hF _ _ hLq.1 rfl
            · rename_i c3
              rw [if_neg c3]
              cases hr
              intro τ g1 g2 g3
              refine hG τ _ _ _ rfl g1 (by omega) (by omega) ?_ g2 g3
              have := sCW_len 1 W
              rw [List.length_append, List.length_append, List.length_cons, List.length_nil]
              omega
          simp only [ne_eq] at hcl
          repeat' (first | assumption | apply And.intro | intro _)
          all_goals first | omega | exact htk | exact hcl
        · have hts : ∃ (m_1 : Mem) (p : Int) (C W : List Int) (sd wi br ro ska um : Int) (K : LK) (Z' : Int ⊕ (Int × List Int × Int)), RdP m_1 (up σ' 1 2 q) p C W sd wi br ro ska 0 um ∧ m_1 1 1 ≤ 240 ∧ lok (m_1 1 1) 0 p C W sd wi br ro ska um ∧ 0 ≤ tsg m q ∧ tsg m q ≤ 255 ∧ tsg m q ≠ 59 ∧ lsgn K (tsg m q) p C W sd wi br ro ska um = some Z' ∧
              (∀ τ wa' p' C' W' sd' wi' br' ro' ska' um', RdP m_1 τ p' C' W' sd' wi' br' ro' ska' wa' um' → K wa' p' C' W' sd' wi' br' ro' ska' um' = some Z' → ∃ k, k < n + 1 ∧ inv_rbody m Z k 2 [(19, 9), (0, i + 1), (0, tsg m q), (0, 1)] [] τ) ∧ (∀ τ q, RdX m_1 τ q → Z' = .inl q → Q (0, 0) τ) :=
            ⟨m, q, C, W, sd, wi, br, ro, ska, um, lrun (tsg m) (m 1 1) n, Z, hLq, ht1, hlq 0 (Or.inl rfl), by omega, by omega, by omega, hr, fun τ wa' p' C' W' sd' wi' br' ro' ska' um' a b => nxt τ wa' p' C' W' sd' wi' br' ro' ska' um' _ _ a b, hF⟩
          repeat' (first | assumption | apply And.intro | intro _)
          all_goals first | omega | exact htk | skip
          all_goals exact hts
      · rw [if_neg c1] at hr
        have c1' : wa = 1 := by omega
        subst c1'
        have hta : ∃ (m_1 : Mem) (p : Int) (C W : List Int) (sd wi br ro ska um : Int) (K : LK) (Z' : Int ⊕ (Int × List Int × Int)), tapeOk m_1 ∧ RdP m_1 (up σ' 1 2 q) p C W sd wi br ro ska 1 um ∧ lok (m_1 1 1) 1 p C W sd wi br ro ska um ∧ sk (tsg m_1) (m_1 1 1) p = p ∧ tsg m q = tsg m_1 p ∧ latm (tsg m_1) K p C W sd wi br ro ska um = some Z' ∧
            (∀ τ wa' p' C' W' sd' wi' br' ro' ska' um', RdP m_1 τ p' C' W' sd' wi' br' ro' ska' wa' um' → K wa' p' C' W' sd' wi' br' ro' ska' um' = some Z' → ∃ k, k < n + 1 ∧ inv_rbody m Z k 2 [(19, 9), (0, i + 1), (0, tsg m q), (0, 1)] [] τ) ∧ (∀ τ q, RdX m_1 τ q → Z' = .inl q → Q (0, 0) τ) :=
          ⟨m, q, C, W, sd, wi, br, ro, ska, um, lrun (tsg m) (m 1 1) n, Z, ht, hLq, hlq 1 (Or.inr rfl), s2, rfl, hr, fun τ wa' p' C' W' sd' wi' br' ro' ska' um' a b => nxt τ wa' p' C' W' sd' wi' br' ro' ska' um' _ _ a b, hF⟩
        repeat' (first | assumption | apply And.intro | intro _)
        all_goals first | omega | exact htk | skip
        all_goals exact hta
  · change vcs _ _ _ _ 90 0 [(19, 9), (6, 0), (6, 0), (6, 0)] [] σ
    simp only [↓reduceIte, inR_0, inR_1, inR_m, vI_e, vL_e, vNull_e, vIload_e, vLload_e, vAload_e, vIstore_e, vLstore_e, vAstore_e, vIinc_e, vIadd_e, vIsub_e, vImul_e, vIand_e, vIor_e, vIxor_e, vIshl_e, vIshr_e, vIushr_e, vIdiv_e, vIrem_e, vLadd_e, vLsub_e, vLmul_e, vLand_e, vLor_e, vLxor_e, vLdiv_e, vLrem_e, vLushr_e, vLshl_e, vLcmp_e, vIneg_e, vI2l_e, vL2i_e, vI2b_e, vI2c_e, vDup_e, vPop_e, vDup2_e, vGoto_e, vIcEq_e, vIfEq_e, vIcNe_e, vIfNe_e, vIcLt_e, vIfLt_e, vIcGe_e, vIfGe_e, vIcGt_e, vIfGt_e, vIcLe_e, vIfLe_e, vNonnull_e, vSw_e, vGetI_e, vGetL_e, vGetR_e, vPutI_e, vPutZ_e, vPutL_e, vPutR_e, vIald_e, vIald_s, vLald_e, vBald_e, vBald_s, vAald_e, vIast_e, vLast_e, vBast_e, vAast_e, vAlen_e8, vAlen_e9, vAlen_e10, vAlen_e11, vAlen_e5, vAlen_e3, vGets_e, vCompact_e, vLdcS_e, vIret_e, vZret_e, vCret_e, vBret_e, vLret_e, vVret_e, vAret_e, vCallM_e0, vCallMV_e0, vCallS_e0, vCallSV_e0, vCallM_e1, vCallMV_e1, vCallS_e1, vCallSV_e1, vCallM_e2, vCallMV_e2, vCallS_e2, vCallSV_e2, vCallM_e3, vCallMV_e3, vCallS_e3, vCallSV_e3, vCallM_e4, vCallMV_e4, vCallS_e4, vCallSV_e4, vCallM_e5, vCallMV_e5, vCallS_e5, vCallSV_e5, vCallM_e6, vCallMV_e6, vCallS_e6, vCallSV_e6, vCallM_e7, vCallMV_e7, vCallS_e7, vCallSV_e7, vBad_e, vStrVal_e, vStrCod_e, vForm_e, vCallT_e0, vCallT_e1, vCallT_e2, vCopy_e, rf_0_0, rf_0_1, rf_0_2, rf_0_3, rf_0_4, rf_0_7, rf_0_10, rf_0_11, rf_0_12, rf_0_13, rf_0_14, rf_0_15, rf_0_16, rf_1_0, rf_3_0, rf_3_1, rf_6_0, rf_6_1, rf_9_0, rf_9_1, rf_9_3, rf_13_0, rf_13_1, rf_13_2, rf_16_0, rf_16_1, rf_16_2, rf_16_3, rf_21_0, rf_21_1, rf_21_2, rf_21_3, rf_26_0, rf_26_1, rf_26_2, rf_26_3, rf_26_4, rf_26_5, rf_26_6, rf_31_0, rf_31_2, rf_31_5, rf_31_6, rf_36_0, rf_36_1, rf_36_2, rf_36_3, rf_39_0, rf_39_1, rf_39_2, rf_41_0, rf_41_1, rf_41_2, rf_41_3, rf_5000_1, rf_5000_2, rf_5000_3, rf_5000_4, rf_5000_5, rf_5000_15, rf_5000_16, rf_5000_18, rf_5000_19, rf_5000_20, rf_5000_21, rf_5000_22, rf_5000_23, rf_5000_24, rf_5000_25, rf_5000_26, rf_5000_27, rf_5000_36, rf_5000_37, rf_5000_40, rf_5000_41, rf_5000_42, rf_5000_43, rf_5000_44, rf_5000_45, rf_5000_47, rf_5000_52, rf_5000_54, rf_5000_55, rf_100_0, rf_100_1, rf_103_0, rf_103_1, rf_106_0, rf_106_1, rf_109_0, rf_109_1, al_2, al_4, al_5, al_7, al_8, al_10, al_11, al_12, al_14, al_15, al_17, al_18, al_19, al_20, al_22, al_23, al_24, al_25, al_27, al_28, al_29, al_30, al_32, al_33, al_34, al_35, al_37, al_38, al_40, al_42, al_5001, al_5002, al_5003, al_5004, al_5005, al_5006, al_5007, al_5008, al_5009, al_5010, al_5011, al_5012, al_5013, al_5014, al_5015, al_5016, al_5017, al_5018, al_5019, al_5020, al_5021, al_5022, al_5023, al_5024, al_5025, al_5026, al_9000, al_101, al_102, al_104, al_105, al_107, al_108, al_110, al_111, vcs_e, lg_c0, lg_cs, lg_nil, set_c0, set_cs, okst_0, okst_s, acok_n, acok_c, List.contains_nil, List.contains_cons, Bool.or_false, Bool.false_or, Bool.false_eq_true, if_false, if_true, ite_self, ne_eq, true_and, and_true, not_false_eq_true, not_true_eq_false, false_imp_iff, true_imp_iff, Nat.ble_eq, Bool.and_eq_true, reduceCtorEq, or_false, false_or, or_true, true_or, false_and, and_false, and_self, Int.reduceLE, Int.reduceAdd, Int.reduceSub, Int.reduceMul, Int.reduceNeg, Int.reduceLT, Int.reduceEq, Int.reduceNe, Nat.reduceBEq, Nat.reduceBNe, Nat.reduceEqDiff, amCmp_in, amCmp_lt, amCmp_le, amCmp_gt, amCmp_ge, amCmp_eq, amCmp_ne, Nat.reduceLeDiff, Nat.reduceSub, Bool.and_true, Bool.true_and, Bool.and_self, Bool.or_true, Bool.true_or, isRf_3, isRf_4, isRf_5, isRf_8, isRf_9, isRf_10, isRf_11, isRf_15, isRf_16, isRf_17, isRf_18, isRf_19, isRf_20, isRf_21, isRf_22, isRf_23, isRf_24, isRf_25, isRf_26, isRf_27, isRf_28, k_X3_readBody_0, k_X3_readBody_1, k_X3_readBody_2, k_X3_readBody_3, k_X3_readBody_6, k_X3_readBody_9, k_X3_readBody_10, k_X3_readBody_13, k_X3_readBody_16, k_X3_readBody_17, k_X3_readBody_18, k_X3_readBody_21, k_X3_readBody_24, k_X3_readBody_25, k_X3_readBody_26, k_X3_readBody_29, k_X3_readBody_30, k_X3_readBody_32, k_X3_readBody_35, k_X3_readBody_36, k_X3_readBody_39, k_X3_readBody_40, k_X3_readBody_41, k_X3_readBody_44, k_X3_readBody_47, k_X3_readBody_48, k_X3_readBody_49, k_X3_readBody_52, k_X3_readBody_55, k_X3_readBody_56, k_X3_readBody_57, k_X3_readBody_60, k_X3_readBody_61, k_X3_readBody_62, k_X3_readBody_65, k_X3_readBody_66, k_X3_readBody_67, k_X3_readBody_70, k_X3_readBody_73, k_X3_readBody_74]
    exact ⟨241, rfl, rfl, 0, p, C, [], 0, 0, 0, 0, -1, 1, 1, _, _, rfl, by omega, by omega, hL, hrun⟩
theorem lfin_len {t : Int → Int} {n : Int} {C C' : List Int} {x : Int ⊕ (Int × CL)} {q s : Int} (h : lfin t n C x = .inr (q, C', s)) : C.length + 1 ≤ C'.length := by
  unfold lfin at h
  split at h
  · cases h
  · split at h
    · cases h; rw [List.length_append, List.length_append, List.length_cons, List.length_nil]; omega
    · cases h
  · split at h
    · cases h; simp only [List.length_append, List.length_cons, List.length_nil]; omega
    · cases h
theorem wd_572 : Cond.methodLink RX3 56 yX3_readHead ∈ TBL := tb_tab (List.mem_of_getElem? (i := 572) (by decide +kernel)) rfl
theorem wd_575 : Cond.code yX3_readHead cX3_readHead 1 (some .boolean) ∈ TBL := tb_tab (List.mem_of_getElem? (i := 575) (by decide +kernel)) rfl
theorem lk_X3_56 : amLk RX3 56 yX3_readHead cX3_readHead 1 (some .boolean) 0 := ⟨wd_572, wd_4, wd_575, by decide +kernel, by decide +kernel, by decide⟩
theorem wd_574 : Cond.instanceMethod yX3_readHead ∈ TBL := tb_tab (List.mem_of_getElem? (i := 574) (by decide +kernel)) rfl
theorem sl_X3_readHead : Cond.selects RX3 yX3_readHead yX3_readHead ∈ TBL := tb_sel (List.mem_of_getElem? (i := 5) (by decide +kernel)) rfl
theorem wd_577 : Cond.methodLink RX3 60 yX3_readBody ∈ TBL := tb_tab (List.mem_of_getElem? (i := 577) (by decide +kernel)) rfl
theorem wd_580 : Cond.code yX3_readBody cX3_readBody 4 (some .boolean) ∈ TBL := tb_tab (List.mem_of_getElem? (i := 580) (by decide +kernel)) rfl
theorem lk_X3_60 : amLk RX3 60 yX3_readBody cX3_readBody 4 (some .boolean) 0 := ⟨wd_577, wd_4, wd_580, by decide +kernel, by decide +kernel, by decide⟩
theorem wd_579 : Cond.instanceMethod yX3_readBody ∈ TBL := tb_tab (List.mem_of_getElem? (i := 579) (by decide +kernel)) rfl
theorem sl_X3_readBody : Cond.selects RX3 yX3_readBody yX3_readBody ∈ TBL := tb_sel (List.mem_of_getElem? (i := 6) (by decide +kernel)) rfl
theorem wd_632 : Cond.methodLink RX3 63 yX10_sign ∈ TBL := tb_tab (List.mem_of_getElem? (i := 632) (by decide +kernel)) rfl
theorem lk_X3_63 : amLk RX3 63 yX10_sign cX10_sign 1 (some .int) 0 := ⟨wd_632, wd_2, wd_415, by decide +kernel, by decide +kernel, by decide⟩
theorem wd_45 : Cond.fieldLink RX3 67 "ArmchairHouse$Tape" "length" "I" ∈ TBL := tb_tab (List.mem_of_getElem? (i := 45) (by decide +kernel)) rfl
theorem fl_X3_67 : amFl RX3 10 1 67 RX10 TX10 3 := ⟨rfl, inT_10, by decide, wd_45⟩
def a_X3_read : AC := [(0, vAload 0 1), (1, vGetR TT 19 0 26 4), (4, vI 0 5), (5, vPutI 26 2 8), (8, vAload 0 9), (9, vI 0 10), (10, vPutI 19 2 13), (13, vI 0 14), (14, vIstore 1 15), (15, vIload 1 16), (16, vI 240 19), (19, vIcGt 76 22), (22, vAload 0 23), (23, vCallM w_X3_readHead 19 0 26), (26, vIfEq 36 29), (29, vAload 0 30), (30, vCallM w_X3_readBody 19 0 33), (33, vIfNe 44 36), (36, vAload 0 37), (37, vGetR TT 19 0 26 40), (40, vGetI 26 2 43), (43, vIret), (44, vAload 0 45), (45, vGetR TT 19 0 26 48), (48, vCallM w_X10_sign 26 0 51), (51, vI (-1) 52), (52, vIcNe 57 55), (55, vI (-1) 56), (56, vIret), (57, vAload 0 58), (58, vGetR TT 19 0 26 61), (61, vDup 62), (62, vGetI 26 2 65), (65, vI 1 66), (66, vIadd 67), (67, vPutI 26 2 70), (70, vIinc 1 1 73), (73, vGoto 15), (76, vAload 0 77), (77, vGetR TT 19 0 26 80), (80, vGetI 26 1 83), (83, vIret)]
theorem k_X3_read_0 : look a_X3_read 0 = vAload 0 1 := rfl
theorem k_X3_read_1 : look a_X3_read 1 = vGetR TT 19 0 26 4 := rfl
theorem k_X3_read_4 : look a_X3_read 4 = vI 0 5 := rfl
theorem k_X3_read_5 : look a_X3_read 5 = vPutI 26 2 8 := rfl
theorem k_X3_read_8 : look a_X3_read 8 = vAload 0 9 := rfl
theorem k_X3_read_9 : look a_X3_read 9 = vI 0 10 := rfl
theorem k_X3_read_10 : look a_X3_read 10 = vPutI 19 2 13 := rfl
theorem k_X3_read_13 : look a_X3_read 13 = vI 0 14 := rfl
theorem k_X3_read_14 : look a_X3_read 14 = vIstore 1 15 := rfl
theorem k_X3_read_15 : look a_X3_read 15 = vIload 1 16 := rfl
theorem k_X3_read_16 : look a_X3_read 16 = vI 240 19 := rfl
theorem k_X3_read_19 : look a_X3_read 19 = vIcGt 76 22 := rfl
theorem k_X3_read_22 : look a_X3_read 22 = vAload 0 23 := rfl
theorem k_X3_read_23 : look a_X3_read 23 = vCallM w_X3_readHead 19 0 26 := rfl
theorem k_X3_read_26 : look a_X3_read 26 = vIfEq 36 29 := rfl
theorem k_X3_read_29 : look a_X3_read 29 = vAload 0 30 := rfl
theorem k_X3_read_30 : look a_X3_read 30 = vCallM w_X3_readBody 19 0 33 := rfl
theorem k_X3_read_33 : look a_X3_read 33 = vIfNe 44 36 := rfl
theorem k_X3_read_36 : look a_X3_read 36 = vAload 0 37 := rfl
theorem k_X3_read_37 : look a_X3_read 37 = vGetR TT 19 0 26 40 := rfl
theorem k_X3_read_40 : look a_X3_read 40 = vGetI 26 2 43 := rfl
theorem k_X3_read_43 : look a_X3_read 43 = vIret := rfl
theorem k_X3_read_44 : look a_X3_read 44 = vAload 0 45 := rfl
theorem k_X3_read_45 : look a_X3_read 45 = vGetR TT 19 0 26 48 := rfl
theorem k_X3_read_48 : look a_X3_read 48 = vCallM w_X10_sign 26 0 51 := rfl
theorem k_X3_read_51 : look a_X3_read 51 = vI (-1) 52 := rfl
theorem k_X3_read_52 : look a_X3_read 52 = vIcNe 57 55 := rfl
theorem k_X3_read_55 : look a_X3_read 55 = vI (-1) 56 := rfl
theorem k_X3_read_56 : look a_X3_read 56 = vIret := rfl
theorem k_X3_read_57 : look a_X3_read 57 = vAload 0 58 := rfl
theorem k_X3_read_58 : look a_X3_read 58 = vGetR TT 19 0 26 61 := rfl
theorem k_X3_read_61 : look a_X3_read 61 = vDup 62 := rfl
theorem k_X3_read_62 : look a_X3_read 62 = vGetI 26 2 65 := rfl
theorem k_X3_read_65 : look a_X3_read 65 = vI 1 66 := rfl
theorem k_X3_read_66 : look a_X3_read 66 = vIadd 67 := rfl
theorem k_X3_read_67 : look a_X3_read 67 = vPutI 26 2 70 := rfl
theorem k_X3_read_70 : look a_X3_read 70 = vIinc 1 1 73 := rfl
theorem k_X3_read_73 : look a_X3_read 73 = vGoto 15 := rfl
theorem k_X3_read_76 : look a_X3_read 76 = vAload 0 77 := rfl
theorem k_X3_read_77 : look a_X3_read 77 = vGetR TT 19 0 26 80 := rfl
theorem k_X3_read_80 : look a_X3_read 80 = vGetI 26 1 83 := rfl
theorem k_X3_read_83 : look a_X3_read 83 = vIret := rfl
theorem o_X3_read {X : amX} (e1 : XT X = TT) (e2 : XD X = 7) (hB : amB X RX3 cX3_read (some .int) 2) : ∀ pc, amOK X pc (look a_X3_read pc) := by
  have hT : amTok (XT X) := e1 ▸ TT_ok
  refine look_ok ?_
  unfold a_X3_read
  refine fc (ok_aload_n hB dX3_read_0) ?_
  refine fc (okt_getR e1 hB hT fl_X3_49 rfl af_3_0 at_3_0 (by decide) dX3_read_1) ?_
  refine fc (ok_iconst hB dX3_read_4) ?_
  refine fc (ok_putI hB hT fp_X3_53 rfl rfl rfl af_10_2 dX3_read_5) ?_
  refine fc (ok_aload_n hB dX3_read_8) ?_
  refine fc (ok_iconst hB dX3_read_9) ?_
  refine fc (ok_putI hB hT fp_X3_17 rfl rfl rfl af_3_2 dX3_read_10) ?_
  refine fc (ok_iconst hB dX3_read_13) ?_
  refine fc (ok_istore_n hB (by decide) dX3_read_14) ?_
  refine fc (ok_iload_n hB dX3_read_15) ?_
  refine fc (ok_sipush hB dX3_read_16 (by decide)) ?_
  refine fc (ok_icmp_gt hB (t := 76) (by decide) dX3_read_19) ?_
  refine fc (ok_aload_n hB dX3_read_22) ?_
  refine fc (ok_callM hB hT (e1 ▸ s_X3_readHead) lk_X3_56 (by rw [e2]; decide) (c := 3) rfl rfl rfl wd_574 sl_X3_readHead dX3_read_23) ?_
  refine fc (ok_if_eq hB (t := 36) (by decide) dX3_read_26) ?_
  refine fc (ok_aload_n hB dX3_read_29) ?_
  refine fc (ok_callM hB hT (e1 ▸ s_X3_readBody) lk_X3_60 (by rw [e2]; decide) (c := 3) rfl rfl rfl wd_579 sl_X3_readBody dX3_read_30) ?_
  refine fc (ok_if_ne hB (t := 44) (by decide) dX3_read_33) ?_
  refine fc (ok_aload_n hB dX3_read_36) ?_
  refine fc (okt_getR e1 hB hT fl_X3_49 rfl af_3_0 at_3_0 (by decide) dX3_read_37) ?_
  refine fc (ok_getI hB hT fl_X3_53 rfl rfl (Or.inl af_10_2) dX3_read_40) ?_
  refine fc (ok_iret hB dX3_read_43) ?_
  refine fc (ok_aload_n hB dX3_read_44) ?_
  refine fc (okt_getR e1 hB hT fl_X3_49 rfl af_3_0 at_3_0 (by decide) dX3_read_45) ?_
  refine fc (ok_callM hB hT (e1 ▸ s_X10_sign) lk_X3_63 (by rw [e2]; decide) (c := 10) rfl rfl rfl wd_413 wd_414 dX3_read_48) ?_
  refine fc (ok_iconst hB dX3_read_51) ?_
  refine fc (ok_icmp_ne hB (t := 57) (by decide) dX3_read_52) ?_
  refine fc (ok_iconst hB dX3_read_55) ?_
  refine fc (ok_iret hB dX3_read_56) ?_
  refine fc (ok_aload_n hB dX3_read_57) ?_
  refine fc (okt_getR e1 hB hT fl_X3_49 rfl af_3_0 at_3_0 (by decide) dX3_read_58) ?_
  refine fc (ok_dup hB dX3_read_61) ?_
  refine fc (ok_getI hB hT fl_X3_53 rfl rfl (Or.inl af_10_2) dX3_read_62) ?_
  refine fc (ok_iconst hB dX3_read_65) ?_
  refine fc (ok_iadd hB dX3_read_66) ?_
  refine fc (ok_putI hB hT fp_X3_53 rfl rfl rfl af_10_2 dX3_read_67) ?_
  refine fc (ok_iinc hB (by decide) dX3_read_70) ?_
  refine fc (ok_goto hB (t := 15) (by decide) dX3_read_73) ?_
  refine fc (ok_aload_n hB dX3_read_76) ?_
  refine fc (okt_getR e1 hB hT fl_X3_49 rfl af_3_0 at_3_0 (by decide) dX3_read_77) ?_
  refine fc (ok_getI hB hT fl_X3_67 rfl rfl (Or.inl af_10_1) dX3_read_80) ?_
  refine fc (ok_iret hB dX3_read_83) ?_
  exact fn
def inv_lread (m : Mem) (R : Int ⊕ List Int) (n pc : Nat) (ls st : List AV) (σ' : Mem) : Prop := pc = 15 ∧ st = [] ∧ ∃ (i p : Int) (C : List Int), ls = [(19, 9), (0, i)] ∧ 0 ≤ i ∧ i + n = 241 ∧ i ≤ C.length ∧ p ≤ m 1 1 ∧ RdX m σ' p ∧ σ' 9 2 = C.length ∧ lst (σ' 10) 0 C ∧ (C.length : Int) ≤ p ∧ lcl (tsg m) (m 1 1) n p C = R
def w_X3_read : WP := fun av σ Q => av = [(19, 9)] ∧ (tapeOk σ ∧ (∀ τ q, RdX σ τ q → gLw (tsg σ) (σ 1 1) 241 0 = .inl q → Q (0, q) τ) ∧ (∀ τ q K, RdX σ τ q → gLw (tsg σ) (σ 1 1) 241 0 = .inr K → τ 9 2 = (kcd K []).length → (kcd K []).length ≤ 240 → lst (τ 10) 0 (kcd K []) → Q (0, -1) τ))
theorem w_X3_read_e  (σ : Mem) (Q : AV → Mem → Prop) : w_X3_read [(19, 9)] σ Q = (tapeOk σ ∧ (∀ τ q, RdX σ τ q → gLw (tsg σ) (σ 1 1) 241 0 = .inl q → Q (0, q) τ) ∧ (∀ τ q K, RdX σ τ q → gLw (tsg σ) (σ 1 1) 241 0 = .inr K → τ 9 2 = (kcd K []).length → (kcd K []).length ≤ 240 → lst (τ 10) 0 (kcd K []) → Q (0, -1) τ)) := by
  apply propext; constructor
  · rintro ⟨h9, hb9⟩; cases h9; exact hb9
  · intro hb9; exact ⟨rfl, hb9⟩

set_option maxRecDepth 100000 in
set_option maxHeartbeats 4000000 in
theorem s_X3_read : ∀ av σ Q, w_X3_read av σ Q → amCall 7 0 0 TT yX3_read cX3_read 2 (some .int) av σ Q := by
  rintro av σ Q ⟨rfl, ht, hF, hG⟩
  have ht1 := ht.2.1
  have ht0 := ht.1
  have hte : ∀ i, σ 1 1 ≤ i → tsg σ i = -1 := fun i hi => (tsg_bd ht i).2.2.2 hi
  have hF' : ∀ τ q, RdX σ τ q → lcl (tsg σ) (σ 1 1) 241 0 [] = .inl q → Q (0, q) τ := fun τ q a b => by
    rw [lcl_e] at b
    cases hg : gLw (tsg σ) (σ 1 1) 241 0 with
    | inl x => rw [hg] at b; cases b; exact hF τ q a hg
    | inr K => rw [hg] at b; cases b
  have hG' : ∀ τ q C, RdX σ τ q → lcl (tsg σ) (σ 1 1) 241 0 [] = .inr C → τ 9 2 = C.length → C.length ≤ 240 → lst (τ 10) 0 C → Q (0, -1) τ := fun τ q C a b d e f => by
    rw [lcl_e] at b
    cases hg : gLw (tsg σ) (σ 1 1) 241 0 with
    | inl x => rw [hg] at b; cases b
    | inr K => rw [hg] at b; cases b; exact hG τ q K a hg d e f
  clear hF hG
  generalize hR : lcl (tsg σ) (σ 1 1) 241 0 [] = R at *
  refine am_m [15] (inv_lread σ R) (own := RX3) (A := look a_X3_read) (fun X e1 e2 hB => o_X3_read e1 e2 hB) rfl (by decide +kernel) rfl rfl ?_ ⟨90, ?_⟩ (w := 2)
  · rintro n pc ls st σ' ⟨rfl, rfl, i, p, C, rfl, hi0, hin, hip, hpn, hL, h2, h3, hC, hr⟩
    cases n with
    | zero => omega
    | succ n =>
      refine ⟨90, ?_⟩
      simp only [↓reduceIte, inR_0, inR_1, inR_m, vSw2_e, swP_n, swP_c, vI_e, vL_e, vNull_e, vIload_e, vLload_e, vAload_e, vIstore_e, vLstore_e, vAstore_e, vIinc_e, vIadd_e, vIsub_e, vImul_e, vIand_e, vIor_e, vIxor_e, vIshl_e, vIshr_e, vIushr_e, vIdiv_e, vIrem_e, vLadd_e, vLsub_e, vLmul_e, vLand_e, vLor_e, vLxor_e, vLdiv_e, vLrem_e, vLushr_e, vLshl_e, vLcmp_e, vIneg_e, vI2l_e, vL2i_e, vI2b_e, vI2c_e, vDup_e, vPop_e, vDup2_e, vGoto_e, vIcEq_e, vIfEq_e, vIcNe_e, vIfNe_e, vIcLt_e, vIfLt_e, vIcGe_e, vIfGe_e, vIcGt_e, vIfGt_e, vIcLe_e, vIfLe_e, vNonnull_e, vSw_e, vGetI_e, vGetL_e, vGetR_e, vPutI_e, vPutZ_e, vPutL_e, vPutR_e, vIald_e, vIald_s, vLald_e, vBald_e, vBald_s, vAald_e, vIast_e, vLast_e, vBast_e, vAast_e, vAlen_e8, vAlen_e9, vAlen_e10, vAlen_e11, vAlen_e5, vAlen_e3, vGets_e, vCompact_e, vLdcS_e, vIret_e, vZret_e, vCret_e, vBret_e, vLret_e, vVret_e, vAret_e, vCallM_e0, vCallMV_e0, vCallS_e0, vCallSV_e0, vCallM_e1, vCallMV_e1, vCallS_e1, vCallSV_e1, vCallM_e2, vCallMV_e2, vCallS_e2, vCallSV_e2, vCallM_e3, vCallMV_e3, vCallS_e3, vCallSV_e3, vCallM_e4, vCallMV_e4, vCallS_e4, vCallSV_e4, vCallM_e5, vCallMV_e5, vCallS_e5, vCallSV_e5, vCallM_e6, vCallMV_e6, vCallS_e6, vCallSV_e6, vCallM_e7, vCallMV_e7, vCallS_e7, vCallSV_e7, vBad_e, vStrVal_e, vStrCod_e, vForm_e, vCallT_e0, vCallT_e1, vCallT_e2, vCopy_e, rf_0_0, rf_0_1, rf_0_2, rf_0_3, rf_0_4, rf_0_7, rf_0_10, rf_0_11, rf_0_12, rf_0_13, rf_0_14, rf_0_15, rf_0_16, rf_1_0, rf_3_0, rf_3_1, rf_6_0, rf_6_1, rf_9_0, rf_9_1, rf_9_3, rf_13_0, rf_13_1, rf_13_2, rf_16_0, rf_16_1, rf_16_2, rf_16_3, rf_21_0, rf_21_1, rf_21_2, rf_21_3, rf_26_0, rf_26_1, rf_26_2, rf_26_3, rf_26_4, rf_26_5, rf_26_6, rf_31_0, rf_31_2, rf_31_5, rf_31_6, rf_36_0, rf_36_1, rf_36_2, rf_36_3, rf_39_0, rf_39_1, rf_39_2, rf_41_0, rf_41_1, rf_41_2, rf_41_3, rf_5000_1, rf_5000_2, rf_5000_3, rf_5000_4, rf_5000_5, rf_5000_15, rf_5000_16, rf_5000_18, rf_5000_19, rf_5000_20, rf_5000_21, rf_5000_22, rf_5000_23, rf_5000_24, rf_5000_25, rf_5000_26, rf_5000_27, rf_5000_36, rf_5000_37, rf_5000_40, rf_5000_41, rf_5000_42, rf_5000_43, rf_5000_44, rf_5000_45, rf_5000_47, rf_5000_52, rf_5000_54, rf_5000_55, rf_100_0, rf_100_1, rf_103_0, rf_103_1, rf_106_0, rf_106_1, rf_109_0, rf_109_1, al_2, al_4, al_5, al_7, al_8, al_10, al_11, al_12, al_14, al_15, al_17, al_18, al_19, al_20, al_22, al_23, al_24, al_25, al_27, al_28, al_29, al_30, al_32, al_33, al_34, al_35, al_37, al_38, al_40, al_42, al_5001, al_5002, al_5003, al_5004, al_5005, al_5006, al_5007, al_5008, al_5009, al_5010, al_5011, al_5012, al_5013, al_5014, al_5015, al_5016, al_5017, al_5018, al_5019, al_5020, al_5021, al_5022, al_5023, al_5024, al_5025, al_5026, al_9000, al_101, al_102, al_104, al_105, al_107, al_108, al_110, al_111, vcs_e, lg_c0, lg_cs, lg_nil, set_c0, set_cs, okst_0, okst_s, acok_n, acok_c, List.contains_nil, List.contains_cons, Bool.or_false, Bool.false_or, Bool.false_eq_true, if_false, if_true, ite_self, ne_eq, true_and, and_true, not_false_eq_true, not_true_eq_false, false_imp_iff, true_imp_iff, Nat.ble_eq, Bool.and_eq_true, reduceCtorEq, or_false, false_or, or_true, true_or, false_and, and_false, and_self, Int.reduceLE, Int.reduceAdd, Int.reduceSub, Int.reduceMul, Int.reduceNeg, Int.reduceLT, Int.reduceEq, Int.reduceNe, Nat.reduceBEq, Nat.reduceBNe, Nat.reduceEqDiff, amCmp_in, amCmp_lt, amCmp_le, amCmp_gt, amCmp_ge, amCmp_eq, amCmp_ne, Nat.reduceLeDiff, Nat.reduceSub, Bool.and_true, Bool.true_and, Bool.and_self, Bool.or_true, Bool.true_or, isRf_3, isRf_4, isRf_5, isRf_8, isRf_9, isRf_10, isRf_11, isRf_15, isRf_16, isRf_17, isRf_18, isRf_19, isRf_20, isRf_21, isRf_22, isRf_23, isRf_24, isRf_25, isRf_26, isRf_27, isRf_28, k_X3_read_0, k_X3_read_1, k_X3_read_4, k_X3_read_5, k_X3_read_8, k_X3_read_9, k_X3_read_10, k_X3_read_13, k_X3_read_14, k_X3_read_15, k_X3_read_16, k_X3_read_19, k_X3_read_22, k_X3_read_23, k_X3_read_26, k_X3_read_29, k_X3_read_30, k_X3_read_33, k_X3_read_36, k_X3_read_37, k_X3_read_40, k_X3_read_43, k_X3_read_44, k_X3_read_45, k_X3_read_48, k_X3_read_51, k_X3_read_52, k_X3_read_55, k_X3_read_56, k_X3_read_57, k_X3_read_58, k_X3_read_61, k_X3_read_62, k_X3_read_65, k_X3_read_66, k_X3_read_67, k_X3_read_70, k_X3_read_73, k_X3_read_76, k_X3_read_77, k_X3_read_80, k_X3_read_83, w_X10_sign_e, w_X3_readBody_e, w_X3_readHead_e, up_s, up_nj, up_na, up_up, savR_o, cpy_o, fillm_o, setAud_o, setv_o, setv_s, Int.reduceNe, Int.reduceEq, Int.reduceLT, Int.reduceAdd, not_false_eq_true, ne_eq, or_true, true_or]
      rw [lcl] at hr
      refine ⟨⟨by omega, by omega⟩, ⟨by omega, by omega⟩, fun g => by omega, fun _ => ?_⟩
      refine ⟨σ, p, C, ht, hL, by omega, hpn, h2, h3, ?_⟩
      have fl : ∀ τ q, RdX σ τ q → R = .inl q → Q (0, τ 1 2) τ := fun τ q a b => by rw [a.2.2]; exact hF' τ q a b
      split at hr
      · rename_i c1
        rw [if_pos c1]
        intro τ hτ
        exact fl τ _ hτ hr.symm
      · rename_i c1
        rw [if_neg c1]
        have l1 := sk_lt hte (q := sk (tsg σ) (σ 1 1) p) (by omega)
        have s1 := sk_b (tsg σ) hpn
        have s2 := sk_b (tsg σ) (n := σ 1 1) (p := sk (tsg σ) (σ 1 1) p + 1) (by omega)
        split at hr
        · rename_i c2
          rw [if_pos c2]
          intro τ hτ
          exact fl τ _ hτ hr.symm
        · rename_i c2
          rw [if_neg c2]
          have l2 := sk_lt hte (q := sk (tsg σ) (σ 1 1) (sk (tsg σ) (σ 1 1) p + 1)) (by omega)
          intro τ hτ
          generalize hpb : sk (tsg σ) (σ 1 1) (sk (tsg σ) (σ 1 1) p + 1) + 1 = pb at *
          refine ⟨σ, pb, C, ht, hτ, by omega, by omega, fun τ2 q a b => ?_, fun τ2 q C' s a b d0 d1 d2 d3 d4 => ?_⟩
          · rw [b] at hr
            exact fl τ2 _ a hr.symm
          · have hln := lfin_len a
            rw [a] at hr
            have hX := RdX_t b
            have ep : τ2 1 2 = q := b.2.2
            have tb := tsg_bd ht q
            simp only [hX.1, hX.2, ep] at hr ⊢
            by_cases c3 : tsg σ q = -1
            · rw [if_pos c3] at hr
              have hh := hG' τ2 q _ b hr.symm d3 (by rw [lpat_len]; omega) d4
              repeat' (first | assumption | apply And.intro | intro _)
              all_goals first | omega | exact hh
            · rw [if_neg c3] at hr
              have l3 := sk_lt hte (q := q) c3
              have hi : ∃ k, k < n + 1 ∧ inv_lread σ R k 15 [(19, 9), (0, i + 1)] [] (up τ2 1 2 (q + 1)) :=
                ⟨n, by omega, rfl, rfl, i + 1, q + 1, _, rfl, by omega, by omega, by rw [lpat_len]; omega, by omega, RdX_p b _, by rw [up_na _ (by decide)]; exact d3, by rw [up_na _ (by decide)]; exact d4, by rw [lpat_len]; omega, hr⟩
              repeat' (first | assumption | apply And.intro | intro _)
              all_goals first | omega | exact hi
  · change vcs _ _ _ _ 90 0 [(19, 9), (6, 0)] [] σ
    simp only [↓reduceIte, inR_0, inR_1, inR_m, vI_e, vL_e, vNull_e, vIload_e, vLload_e, vAload_e, vIstore_e, vLstore_e, vAstore_e, vIinc_e, vIadd_e, vIsub_e, vImul_e, vIand_e, vIor_e, vIxor_e, vIshl_e, vIshr_e, vIushr_e, vIdiv_e, vIrem_e, vLadd_e, vLsub_e, vLmul_e, vLand_e, vLor_e, vLxor_e, vLdiv_e, vLrem_e, vLushr_e, vLshl_e, vLcmp_e, vIneg_e, vI2l_e, vL2i_e, vI2b_e, vI2c_e, vDup_e, vPop_e, vDup2_e, vGoto_e, vIcEq_e, vIfEq_e, vIcNe_e, vIfNe_e, vIcLt_e, vIfLt_e, vIcGe_e, vIfGe_e, vIcGt_e, vIfGt_e, vIcLe_e, vIfLe_e, vNonnull_e, vSw_e, vGetI_e, vGetL_e, vGetR_e, vPutI_e, vPutZ_e, vPutL_e, vPutR_e, vIald_e, vIald_s, vLald_e, vBald_e, vBald_s, vAald_e, vIast_e, vLast_e, vBast_e, vAast_e, vAlen_e8, vAlen_e9, vAlen_e10, vAlen_e11, vAlen_e5, vAlen_e3, vGets_e, vCompact_e, vLdcS_e, vIret_e, vZret_e, vCret_e, vBret_e, vLret_e, vVret_e, vAret_e, vCallM_e0, vCallMV_e0, vCallS_e0, vCallSV_e0, vCallM_e1, vCallMV_e1, vCallS_e1, vCallSV_e1, vCallM_e2, vCallMV_e2, vCallS_e2, vCallSV_e2, vCallM_e3, vCallMV_e3, vCallS_e3, vCallSV_e3, vCallM_e4, vCallMV_e4, vCallS_e4, vCallSV_e4, vCallM_e5, vCallMV_e5, vCallS_e5, vCallSV_e5, vCallM_e6, vCallMV_e6, vCallS_e6, vCallSV_e6, vCallM_e7, vCallMV_e7, vCallS_e7, vCallSV_e7, vBad_e, vStrVal_e, vStrCod_e, vForm_e, vCallT_e0, vCallT_e1, vCallT_e2, vCopy_e, rf_0_0, rf_0_1, rf_0_2, rf_0_3, rf_0_4, rf_0_7, rf_0_10, rf_0_11, rf_0_12, rf_0_13, rf_0_14, rf_0_15, rf_0_16, rf_1_0, rf_3_0, rf_3_1, rf_6_0, rf_6_1, rf_9_0, rf_9_1, rf_9_3, rf_13_0, rf_13_1, rf_13_2, rf_16_0, rf_16_1, rf_16_2, rf_16_3, rf_21_0, rf_21_1, rf_21_2, rf_21_3, rf_26_0, rf_26_1, rf_26_2, rf_26_3, rf_26_4, rf_26_5, rf_26_6, rf_31_0, rf_31_2, rf_31_5, rf_31_6, rf_36_0, rf_36_1, rf_36_2, rf_36_3, rf_39_0, rf_39_1, rf_39_2, rf_41_0, rf_41_1, rf_41_2, rf_41_3, rf_5000_1, rf_5000_2, rf_5000_3, rf_5000_4, rf_5000_5, rf_5000_15, rf_5000_16, rf_5000_18, rf_5000_19, rf_5000_20, rf_5000_21, rf_5000_22, rf_5000_23, rf_5000_24, rf_5000_25, rf_5000_26, rf_5000_27, rf_5000_36, rf_5000_37, rf_5000_40, rf_5000_41, rf_5000_42, rf_5000_43, rf_5000_44, rf_5000_45, rf_5000_47, rf_5000_52, rf_5000_54, rf_5000_55, rf_100_0, rf_100_1, rf_103_0, rf_103_1, rf_106_0, rf_106_1, rf_109_0, rf_109_1, al_2, al_4, al_5, al_7, al_8, al_10, al_11, al_12, al_14, al_15, al_17, al_18, al_19, al_20, al_22, al_23, al_24, al_25, al_27, al_28, al_29, al_30, al_32, al_33, al_34, al_35, al_37, al_38, al_40, al_42, al_5001, al_5002, al_5003, al_5004, al_5005, al_5006, al_5007, al_5008, al_5009, al_5010, al_5011, al_5012, al_5013, al_5014, al_5015, al_5016, al_5017, al_5018, al_5019, al_5020, al_5021, al_5022, al_5023, al_5024, al_5025, al_5026, al_9000, al_101, al_102, al_104, al_105, al_107, al_108, al_110, al_111, vcs_e, lg_c0, lg_cs, lg_nil, set_c0, set_cs, okst_0, okst_s, acok_n, acok_c, List.contains_nil, List.contains_cons, Bool.or_false, Bool.false_or, Bool.false_eq_true, if_false, if_true, ite_self, ne_eq, true_and, and_true, not_false_eq_true, not_true_eq_false, false_imp_iff, true_imp_iff, Nat.ble_eq, Bool.and_eq_true, reduceCtorEq, or_false, false_or, or_true, true_or, false_and, and_false, and_self, Int.reduceLE, Int.reduceAdd, Int.reduceSub, Int.reduceMul, Int.reduceNeg, Int.reduceLT, Int.reduceEq, Int.reduceNe, Nat.reduceBEq, Nat.reduceBNe, Nat.reduceEqDiff, amCmp_in, amCmp_lt, amCmp_le, amCmp_gt, amCmp_ge, amCmp_eq, amCmp_ne, Nat.reduceLeDiff, Nat.reduceSub, Bool.and_true, Bool.true_and, Bool.and_self, Bool.or_true, Bool.true_or, isRf_3, isRf_4, isRf_5, isRf_8, isRf_9, isRf_10, isRf_11, isRf_15, isRf_16, isRf_17, isRf_18, isRf_19, isRf_20, isRf_21, isRf_22, isRf_23, isRf_24, isRf_25, isRf_26, isRf_27, isRf_28, k_X3_read_0, k_X3_read_1, k_X3_read_4, k_X3_read_5, k_X3_read_8, k_X3_read_9, k_X3_read_10, k_X3_read_13, k_X3_read_14, k_X3_read_15, k_X3_read_16, k_X3_read_19, k_X3_read_22, k_X3_read_23, k_X3_read_26, k_X3_read_29, k_X3_read_30, k_X3_read_33, k_X3_read_36, k_X3_read_37, k_X3_read_40, k_X3_read_43, k_X3_read_44, k_X3_read_45, k_X3_read_48, k_X3_read_51, k_X3_read_52, k_X3_read_55, k_X3_read_56, k_X3_read_57, k_X3_read_58, k_X3_read_61, k_X3_read_62, k_X3_read_65, k_X3_read_66, k_X3_read_67, k_X3_read_70, k_X3_read_73, k_X3_read_76, k_X3_read_77, k_X3_read_80, k_X3_read_83]
    refine ⟨241, rfl, rfl, 0, 0, [], rfl, by omega, by omega, by simp, by omega, RdX_9 (RdX_p ⟨fun _ _ _ _ _ => rfl, fun _ _ => rfl, rfl⟩ 0) (Or.inl rfl) _ _, by rw [up_s]; rfl, trivial, by simp, hR⟩
