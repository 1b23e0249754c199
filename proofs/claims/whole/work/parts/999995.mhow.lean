/-! the reference: WHOSE -/
/-- how many share SITTER t with CHAIR c, it too -/
def cnR (s : Int → Int) (c t : Int) : Nat → Int
  | 0 => 1
  | k + 1 => cnR s c t k + if (k : Int) ≠ c ∧ s (4 * k + 1) = t then 1 else 0
theorem cnR_b (s : Int → Int) (c t : Int) : ∀ k : Nat, 1 ≤ cnR s c t k ∧ cnR s c t k ≤ k + 1 := by
  intro k
  induction k with
  | zero => unfold cnR; omega
  | succ k ih => unfold cnR; split <;> omega
def mvW (σ : Mem) (c t p q : Int) : Int := if σ 5007 (4 * p + 3) ≤ q then 0 else mRk σ (σ 5007 (4 * p + q % 3)) (σ 5015 (4 * c)) (σ 5011 t) (cnR (σ 5015) c t (σ 5000 29).toNat) q 0
theorem mvW_b {σ : Mem} (c t p q : Int) : 0 ≤ mvW σ c t p q ∧ mvW σ c t p q ≤ 99 := by
  unfold mvW
  split
  · omega
  · exact mRk_b σ (cnR_b _ _ _ _).1
theorem WF_mvW {σ τ : Mem} (h : WF σ τ) (c t p q : Int) : mvW τ c t p q = mvW σ c t p q := by
  unfold mvW
  rw [h.1 5007 (by decide) (by decide) (by decide) (by decide), h.1 5015 (by decide) (by decide) (by decide) (by decide), h.1 5011 (by decide) (by decide) (by decide) (by decide), h.2 29 (by decide) (by decide) (by decide), WF_mRk h]
theorem WF_MG {σ τ : Mem} (h : WF σ τ) : MG σ τ := ⟨fun b h1 h2 h3 => h.1 b h1 h2 (by omega) (by omega), fun k a1 a2 a3 a4 a5 a6 a7 => h.2 k a2 a3 a4⟩
theorem WF_mX {σ τ : Mem} (h : WF σ τ) (hm : mOk τ) (hx : mX σ 5015) : mX τ 5015 := by
  obtain ⟨hw, hh, hr⟩ := hx
  refine ⟨hw, MG_mH (WF_MG h) hm (by rw [h.2 48 (by decide) (by decide) (by decide)]; exact hh.2.2.2.2.2.2.2.2) hh, ?_⟩
  rw [h.2 29 (by decide) (by decide) (by decide), h.2 30 (by decide) (by decide) (by decide), h.1 5015 (by decide) (by decide) (by decide) (by decide)]; exact hr
def a_X12_movedWith : AC := [(0, vIload 4 2), (2, vAload 0 3), (3, vIload 3 4), (4, vCallM w_X12_minutes 28 1 7), (7, vIcLt 12 10), (10, vI 0 11), (11, vIret), (12, vI 1 13), (13, vIstore 5 15), (15, vI 0 16), (16, vIstore 6 18), (18, vIload 6 20), (20, vAload 0 21), (21, vGetI 28 29 24), (24, vIcGe 64 27), (27, vIload 5 29), (29, vIload 6 31), (31, vIload 1 32), (32, vIcEq 54 35), (35, vAload 0 36), (36, vGetR TT 28 36 8 39), (39, vI 4 40), (40, vIload 6 42), (42, vImul 43), (43, vI 1 44), (44, vIadd 45), (45, vIald TT 46), (46, vIload 2 47), (47, vIcNe 54 50), (50, vI 1 51), (51, vGoto 55), (54, vI 0 55), (55, vIadd 56), (56, vIstore 5 58), (58, vIinc 6 1 61), (61, vGoto 18), (64, vAload 0 65), (65, vAload 0 66), (66, vGetR TT 28 36 8 69), (69, vI 4 70), (70, vIload 1 71), (71, vImul 72), (72, vI 0 73), (73, vIadd 74), (74, vIald TT 75), (75, vIload 2 76), (76, vIload 3 77), (77, vIload 4 79), (79, vIload 5 81), (81, vI 0 82), (82, vCallM w_X12_moved 28 6 85), (85, vIret)]
theorem k_X12_movedWith_0 : look a_X12_movedWith 0 = vIload 4 2 := rfl
theorem k_X12_movedWith_2 : look a_X12_movedWith 2 = vAload 0 3 := rfl
theorem k_X12_movedWith_3 : look a_X12_movedWith 3 = vIload 3 4 := rfl
theorem k_X12_movedWith_4 : look a_X12_movedWith 4 = vCallM w_X12_minutes 28 1 7 := rfl
theorem k_X12_movedWith_7 : look a_X12_movedWith 7 = vIcLt 12 10 := rfl
theorem k_X12_movedWith_10 : look a_X12_movedWith 10 = vI 0 11 := rfl
theorem k_X12_movedWith_11 : look a_X12_movedWith 11 = vIret := rfl
theorem k_X12_movedWith_12 : look a_X12_movedWith 12 = vI 1 13 := rfl
theorem k_X12_movedWith_13 : look a_X12_movedWith 13 = vIstore 5 15 := rfl
theorem k_X12_movedWith_15 : look a_X12_movedWith 15 = vI 0 16 := rfl
theorem k_X12_movedWith_16 : look a_X12_movedWith 16 = vIstore 6 18 := rfl
theorem k_X12_movedWith_18 : look a_X12_movedWith 18 = vIload 6 20 := rfl
theorem k_X12_movedWith_20 : look a_X12_movedWith 20 = vAload 0 21 := rfl
theorem k_X12_movedWith_21 : look a_X12_movedWith 21 = vGetI 28 29 24 := rfl
theorem k_X12_movedWith_24 : look a_X12_movedWith 24 = vIcGe 64 27 := rfl
theorem k_X12_movedWith_27 : look a_X12_movedWith 27 = vIload 5 29 := rfl
theorem k_X12_movedWith_29 : look a_X12_movedWith 29 = vIload 6 31 := rfl
theorem k_X12_movedWith_31 : look a_X12_movedWith 31 = vIload 1 32 := rfl
theorem k_X12_movedWith_32 : look a_X12_movedWith 32 = vIcEq 54 35 := rfl
theorem k_X12_movedWith_35 : look a_X12_movedWith 35 = vAload 0 36 := rfl
theorem k_X12_movedWith_36 : look a_X12_movedWith 36 = vGetR TT 28 36 8 39 := rfl
theorem k_X12_movedWith_39 : look a_X12_movedWith 39 = vI 4 40 := rfl
theorem k_X12_movedWith_40 : look a_X12_movedWith 40 = vIload 6 42 := rfl
theorem k_X12_movedWith_42 : look a_X12_movedWith 42 = vImul 43 := rfl
theorem k_X12_movedWith_43 : look a_X12_movedWith 43 = vI 1 44 := rfl
theorem k_X12_movedWith_44 : look a_X12_movedWith 44 = vIadd 45 := rfl
theorem k_X12_movedWith_45 : look a_X12_movedWith 45 = vIald TT 46 := rfl
theorem k_X12_movedWith_46 : look a_X12_movedWith 46 = vIload 2 47 := rfl
theorem k_X12_movedWith_47 : look a_X12_movedWith 47 = vIcNe 54 50 := rfl
theorem k_X12_movedWith_50 : look a_X12_movedWith 50 = vI 1 51 := rfl
theorem k_X12_movedWith_51 : look a_X12_movedWith 51 = vGoto 55 := rfl
theorem k_X12_movedWith_54 : look a_X12_movedWith 54 = vI 0 55 := rfl
theorem k_X12_movedWith_55 : look a_X12_movedWith 55 = vIadd 56 := rfl
theorem k_X12_movedWith_56 : look a_X12_movedWith 56 = vIstore 5 58 := rfl
theorem k_X12_movedWith_58 : look a_X12_movedWith 58 = vIinc 6 1 61 := rfl
theorem k_X12_movedWith_61 : look a_X12_movedWith 61 = vGoto 18 := rfl
theorem k_X12_movedWith_64 : look a_X12_movedWith 64 = vAload 0 65 := rfl
theorem k_X12_movedWith_65 : look a_X12_movedWith 65 = vAload 0 66 := rfl
theorem k_X12_movedWith_66 : look a_X12_movedWith 66 = vGetR TT 28 36 8 69 := rfl
theorem k_X12_movedWith_69 : look a_X12_movedWith 69 = vI 4 70 := rfl
theorem k_X12_movedWith_70 : look a_X12_movedWith 70 = vIload 1 71 := rfl
theorem k_X12_movedWith_71 : look a_X12_movedWith 71 = vImul 72 := rfl
theorem k_X12_movedWith_72 : look a_X12_movedWith 72 = vI 0 73 := rfl
theorem k_X12_movedWith_73 : look a_X12_movedWith 73 = vIadd 74 := rfl
theorem k_X12_movedWith_74 : look a_X12_movedWith 74 = vIald TT 75 := rfl
theorem k_X12_movedWith_75 : look a_X12_movedWith 75 = vIload 2 76 := rfl
theorem k_X12_movedWith_76 : look a_X12_movedWith 76 = vIload 3 77 := rfl
theorem k_X12_movedWith_77 : look a_X12_movedWith 77 = vIload 4 79 := rfl
theorem k_X12_movedWith_79 : look a_X12_movedWith 79 = vIload 5 81 := rfl
theorem k_X12_movedWith_81 : look a_X12_movedWith 81 = vI 0 82 := rfl
theorem k_X12_movedWith_82 : look a_X12_movedWith 82 = vCallM w_X12_moved 28 6 85 := rfl
theorem k_X12_movedWith_85 : look a_X12_movedWith 85 = vIret := rfl
theorem o_X12_movedWith {X : amX} (e1 : XT X = TT) (e2 : XD X = 58) (hB : amB X RX12 cX12_movedWith (some .int) 7) : ∀ pc, amOK X pc (look a_X12_movedWith pc) := by
  have hT : amTok (XT X) := e1 ▸ TT_ok
  refine look_ok ?_
  unfold a_X12_movedWith
  refine fc (ok_iload hB dX12_movedWith_0) ?_
  refine fc (ok_aload_n hB dX12_movedWith_2) ?_
  refine fc (ok_iload_n hB dX12_movedWith_3) ?_
  refine fc (ok_callM hB hT (e1 ▸ s_X12_minutes) lk_X12_355 (by rw [e2]; decide) (c := 12) rfl rfl rfl wd_1702 sl_X12_minutes dX12_movedWith_4) ?_
  refine fc (ok_icmp_lt hB (t := 12) (by decide) dX12_movedWith_7) ?_
  refine fc (ok_iconst hB dX12_movedWith_10) ?_
  refine fc (ok_iret hB dX12_movedWith_11) ?_
  refine fc (ok_iconst hB dX12_movedWith_12) ?_
  refine fc (ok_istore hB (by decide) dX12_movedWith_13) ?_
  refine fc (ok_iconst hB dX12_movedWith_15) ?_
  refine fc (ok_istore hB (by decide) dX12_movedWith_16) ?_
  refine fc (ok_iload hB dX12_movedWith_18) ?_
  refine fc (ok_aload_n hB dX12_movedWith_20) ?_
  refine fc (ok_getI hB hT fl_X12_317 rfl rfl (Or.inl af_12_29) dX12_movedWith_21) ?_
  refine fc (ok_icmp_ge hB (t := 64) (by decide) dX12_movedWith_24) ?_
  refine fc (ok_iload hB dX12_movedWith_27) ?_
  refine fc (ok_iload hB dX12_movedWith_29) ?_
  refine fc (ok_iload_n hB dX12_movedWith_31) ?_
  refine fc (ok_icmp_eq hB (t := 54) (by decide) dX12_movedWith_32) ?_
  refine fc (ok_aload_n hB dX12_movedWith_35) ?_
  refine fc (okt_getR e1 hB hT fl_X12_67 rfl af_12_36 at_12_36 (by decide) dX12_movedWith_36) ?_
  refine fc (ok_iconst hB dX12_movedWith_39) ?_
  refine fc (ok_iload hB dX12_movedWith_40) ?_
  refine fc (ok_imul hB dX12_movedWith_42) ?_
  refine fc (ok_iconst hB dX12_movedWith_43) ?_
  refine fc (ok_iadd hB dX12_movedWith_44) ?_
  refine fc (okt_iaload e1 hB dX12_movedWith_45) ?_
  refine fc (ok_iload_n hB dX12_movedWith_46) ?_
  refine fc (ok_icmp_ne hB (t := 54) (by decide) dX12_movedWith_47) ?_
  refine fc (ok_iconst hB dX12_movedWith_50) ?_
  refine fc (ok_goto hB (t := 55) (by decide) dX12_movedWith_51) ?_
  refine fc (ok_iconst hB dX12_movedWith_54) ?_
  refine fc (ok_iadd hB dX12_movedWith_55) ?_
  refine fc (ok_istore hB (by decide) dX12_movedWith_56) ?_
  refine fc (ok_iinc hB (by decide) dX12_movedWith_58) ?_
  refine fc (ok_goto hB (t := 18) (by decide) dX12_movedWith_61) ?_
  refine fc (ok_aload_n hB dX12_movedWith_64) ?_
  refine fc (ok_aload_n hB dX12_movedWith_65) ?_
  refine fc (okt_getR e1 hB hT fl_X12_67 rfl af_12_36 at_12_36 (by decide) dX12_movedWith_66) ?_
  refine fc (ok_iconst hB dX12_movedWith_69) ?_
  refine fc (ok_iload_n hB dX12_movedWith_70) ?_
  refine fc (ok_imul hB dX12_movedWith_71) ?_
  refine fc (ok_iconst hB dX12_movedWith_72) ?_
  refine fc (ok_iadd hB dX12_movedWith_73) ?_
  refine fc (okt_iaload e1 hB dX12_movedWith_74) ?_
  refine fc (ok_iload_n hB dX12_movedWith_75) ?_
  refine fc (ok_iload_n hB dX12_movedWith_76) ?_
  refine fc (ok_iload hB dX12_movedWith_77) ?_
  refine fc (ok_iload hB dX12_movedWith_79) ?_
  refine fc (ok_iconst hB dX12_movedWith_81) ?_
  refine fc (ok_callM hB hT (e1 ▸ s_X12_moved) lk_X12_349 (by rw [e2]; decide) (c := 12) rfl rfl rfl wd_1710 sl_X12_moved dX12_movedWith_82) ?_
  refine fc (ok_iret hB dX12_movedWith_85) ?_
  exact fn
def inv_mvw (σ : Mem) (c t p q : Int) (n pc : Nat) (ls st : List AV) (σ' : Mem) : Prop := pc = 18 ∧ st = [] ∧ σ' = σ ∧ q < σ 5007 (4 * p + 3) ∧ ∃ k : Nat, ls = [(28, 5000), (0, c), (0, t), (0, p), (0, q), (0, cnR (σ 5015) c t k), (0, (k : Int))] ∧ (k : Int) + n = σ 5000 29
def w_X12_movedWith : WP := fun av σ Q => ∃ (c : Int) (t : Int) (p : Int) (q : Int), av = [(28, 5000), (0, c), (0, t), (0, p), (0, q)] ∧ (mX σ 5015 ∧ 0 ≤ c ∧ c < σ 5000 29 ∧ 0 ≤ t ∧ t < min 6 (σ 5000 30) ∧ 0 ≤ p ∧ (p < 4 ∧ p < σ 5000 28) ∧ 0 ≤ q ∧ q ≤ 1000 ∧ (∀ τ, WF σ τ → mOk τ → Q (0, mvW σ c t p q) τ))
theorem w_X12_movedWith_e (c : Int) (t : Int) (p : Int) (q : Int) (σ : Mem) (Q : AV → Mem → Prop) : w_X12_movedWith [(28, 5000), (0, c), (0, t), (0, p), (0, q)] σ Q = (mX σ 5015 ∧ 0 ≤ c ∧ c < σ 5000 29 ∧ 0 ≤ t ∧ t < min 6 (σ 5000 30) ∧ 0 ≤ p ∧ (p < 4 ∧ p < σ 5000 28) ∧ 0 ≤ q ∧ q ≤ 1000 ∧ (∀ τ, WF σ τ → mOk τ → Q (0, mvW σ c t p q) τ)) := by
  apply propext; constructor
  · rintro ⟨c', t', p', q', h9, hb9⟩; cases h9; exact hb9
  · intro hb9; exact ⟨c, t, p, q, rfl, hb9⟩

set_option maxRecDepth 100000 in
set_option maxHeartbeats 4000000 in
theorem s_X12_movedWith : ∀ av σ Q, w_X12_movedWith av σ Q → amCall 58 0 0 TT yX12_movedWith cX12_movedWith 7 (some .int) av σ Q := by
  rintro av σ Q ⟨c, t, p, q, rfl, hx, c0, c1, t0, t1, p0, p1, q0, q1, h⟩
  obtain ⟨hw15, hh, hr⟩ := id hx
  have n29 := hh.2.2.1
  have n30 := hh.2.2.2.1
  have hpl := hh.2.2.2.2.2.1
  have hM := hpl (4 * p + 3) (by omega) (by omega)
  have hsi := hh.2.2.2.2.2.2.1 t t0 t1
  have t6 := Int.lt_min.mp t1
  refine am_m [18] (inv_mvw σ c t p q) (own := RX12) (A := look a_X12_movedWith) (fun X e1 e2 hB => o_X12_movedWith e1 e2 hB) rfl (by decide +kernel) rfl rfl ?_ ⟨60, ?_⟩ (w := 7)
  · rintro n pc ls st σ' ⟨rfl, rfl, rfl, hq, k, rfl, hn⟩
    have es : cnR (σ' 5015) c t (k + 1) = cnR (σ' 5015) c t k + if (k : Int) ≠ c ∧ σ' 5015 (4 * k + 1) = t then 1 else 0 := rfl
    refine ⟨60, ?_⟩
    by_cases cc : (k : Int) < σ' 5000 29
    · have jk := (mX_j hx).1 k (by omega) cc
      have i9 : ∀ v, v = cnR (σ' 5015) c t (k + 1) → ∃ k', k' < n ∧ inv_mvw σ' c t p q k' 18 [(28, 5000), (0, c), (0, t), (0, p), (0, q), (0, v), (0, (k : Int) + 1)] [] σ' := fun v e => ⟨n - 1, by omega, rfl, rfl, rfl, hq, k + 1, by rw [e]; rfl, by omega⟩
      have i1 : ¬ (k : Int) = c → σ' 5015 (4 * k + 1) = t → _ := fun a b => i9 (cnR (σ' 5015) c t k + 1) (by rw [es, if_pos ⟨a, b⟩])
      have i2 : ((k : Int) = c ∨ ¬ σ' 5015 (4 * k + 1) = t) → _ := fun a => i9 (cnR (σ' 5015) c t k + 0) (by rw [es, if_neg (by omega)])
      simp only [↓reduceIte, inR_0, inR_1, inR_m, vSw2_e, swP_n, swP_c, vI_e, vL_e, vNull_e, vIload_e, vLload_e, vAload_e, vIstore_e, vLstore_e, vAstore_e, vIinc_e, vIadd_e, vIsub_e, vImul_e, vIand_e, vIor_e, vIxor_e, vIshl_e, vIshr_e, vIushr_e, vIdiv_e, vIrem_e, vLadd_e, vLsub_e, vLmul_e, vLand_e, vLor_e, vLxor_e, vLdiv_e, vLrem_e, vLushr_e, vLshl_e, vLcmp_e, vIneg_e, vI2l_e, vL2i_e, vI2b_e, vI2c_e, vDup_e, vPop_e, vDup2_e, vGoto_e, vIcEq_e, vIfEq_e, vIcNe_e, vIfNe_e, vIcLt_e, vIfLt_e, vIcGe_e, vIfGe_e, vIcGt_e, vIfGt_e, vIcLe_e, vIfLe_e, vNonnull_e, vSw_e, vGetI_e, vGetL_e, vGetR_e, vPutI_e, vPutZ_e, vPutL_e, vPutR_e, vIald_e, vIald_s, vLald_e, vBald_e, vBald_s, vAald_e, vIast_e, vLast_e, vBast_e, vAast_e, vAlen_e8, vAlen_e9, vAlen_e10, vAlen_e11, vAlen_e5, vAlen_e3, vGets_e, vCompact_e, vLdcS_e, vIret_e, vZret_e, vCret_e, vBret_e, vLret_e, vVret_e, vAret_e, vCallM_e0, vCallMV_e0, vCallS_e0, vCallSV_e0, vCallM_e1, vCallMV_e1, vCallS_e1, vCallSV_e1, vCallM_e2, vCallMV_e2, vCallS_e2, vCallSV_e2, vCallM_e3, vCallMV_e3, vCallS_e3, vCallSV_e3, vCallM_e4, vCallMV_e4, vCallS_e4, vCallSV_e4, vCallM_e5, vCallMV_e5, vCallS_e5, vCallSV_e5, vCallM_e6, vCallMV_e6, vCallS_e6, vCallSV_e6, vCallM_e7, vCallMV_e7, vCallS_e7, vCallSV_e7, vBad_e, vStrVal_e, vStrCod_e, vForm_e, vCallT_e0, vCallT_e1, vCallT_e2, vCopy_e, rf_0_0, rf_0_1, rf_0_2, rf_0_3, rf_0_4, rf_0_7, rf_0_10, rf_0_11, rf_0_12, rf_0_13, rf_0_14, rf_0_15, rf_0_16, rf_1_0, rf_3_0, rf_3_1, rf_6_0, rf_6_1, rf_9_0, rf_9_1, rf_9_3, rf_13_0, rf_13_1, rf_13_2, rf_16_0, rf_16_1, rf_16_2, rf_16_3, rf_21_0, rf_21_1, rf_21_2, rf_21_3, rf_26_0, rf_26_1, rf_26_2, rf_26_3, rf_26_4, rf_26_5, rf_26_6, rf_31_0, rf_31_2, rf_31_5, rf_31_6, rf_36_0, rf_36_1, rf_36_2, rf_36_3, rf_39_0, rf_39_1, rf_39_2, rf_41_0, rf_41_1, rf_41_2, rf_41_3, rf_5000_1, rf_5000_2, rf_5000_3, rf_5000_4, rf_5000_5, rf_5000_15, rf_5000_16, rf_5000_18, rf_5000_19, rf_5000_20, rf_5000_21, rf_5000_22, rf_5000_23, rf_5000_24, rf_5000_25, rf_5000_26, rf_5000_27, rf_5000_36, rf_5000_37, rf_5000_40, rf_5000_41, rf_5000_42, rf_5000_43, rf_5000_44, rf_5000_45, rf_5000_47, rf_5000_52, rf_5000_54, rf_5000_55, rf_100_0, rf_100_1, rf_103_0, rf_103_1, rf_106_0, rf_106_1, rf_109_0, rf_109_1, al_2, al_4, al_5, al_7, al_8, al_10, al_11, al_12, al_14, al_15, al_17, al_18, al_19, al_20, al_22, al_23, al_24, al_25, al_27, al_28, al_29, al_30, al_32, al_33, al_34, al_35, al_37, al_38, al_40, al_42, al_5001, al_5002, al_5003, al_5004, al_5005, al_5006, al_5007, al_5008, al_5009, al_5010, al_5011, al_5012, al_5013, al_5014, al_5015, al_5016, al_5017, al_5018, al_5019, al_5020, al_5021, al_5022, al_5023, al_5024, al_5025, al_5026, al_9000, al_101, al_102, al_104, al_105, al_107, al_108, al_110, al_111, vcs_e, lg_c0, lg_cs, lg_nil, set_c0, set_cs, okst_0, okst_s, acok_n, acok_c, List.contains_nil, List.contains_cons, Bool.or_false, Bool.false_or, Bool.false_eq_true, if_false, if_true, ite_self, ne_eq, true_and, and_true, not_false_eq_true, not_true_eq_false, false_imp_iff, true_imp_iff, Nat.ble_eq, Bool.and_eq_true, reduceCtorEq, or_false, false_or, or_true, true_or, false_and, and_false, and_self, Int.reduceLE, Int.reduceAdd, Int.reduceSub, Int.reduceMul, Int.reduceNeg, Int.reduceLT, Int.reduceEq, Int.reduceNe, Nat.reduceBEq, Nat.reduceBNe, Nat.reduceEqDiff, amCmp_in, amCmp_lt, amCmp_le, amCmp_gt, amCmp_ge, amCmp_eq, amCmp_ne, Nat.reduceLeDiff, Nat.reduceSub, Bool.and_true, Bool.true_and, Bool.and_self, Bool.or_true, Bool.true_or, isRf_3, isRf_4, isRf_5, isRf_8, isRf_9, isRf_10, isRf_11, isRf_15, isRf_16, isRf_17, isRf_18, isRf_19, isRf_20, isRf_21, isRf_22, isRf_23, isRf_24, isRf_25, isRf_26, isRf_27, isRf_28, k_X12_movedWith_0, k_X12_movedWith_2, k_X12_movedWith_3, k_X12_movedWith_4, k_X12_movedWith_7, k_X12_movedWith_10, k_X12_movedWith_11, k_X12_movedWith_12, k_X12_movedWith_13, k_X12_movedWith_15, k_X12_movedWith_16, k_X12_movedWith_18, k_X12_movedWith_20, k_X12_movedWith_21, k_X12_movedWith_24, k_X12_movedWith_27, k_X12_movedWith_29, k_X12_movedWith_31, k_X12_movedWith_32, k_X12_movedWith_35, k_X12_movedWith_36, k_X12_movedWith_39, k_X12_movedWith_40, k_X12_movedWith_42, k_X12_movedWith_43, k_X12_movedWith_44, k_X12_movedWith_45, k_X12_movedWith_46, k_X12_movedWith_47, k_X12_movedWith_50, k_X12_movedWith_51, k_X12_movedWith_54, k_X12_movedWith_55, k_X12_movedWith_56, k_X12_movedWith_58, k_X12_movedWith_61, k_X12_movedWith_64, k_X12_movedWith_65, k_X12_movedWith_66, k_X12_movedWith_69, k_X12_movedWith_70, k_X12_movedWith_71, k_X12_movedWith_72, k_X12_movedWith_73, k_X12_movedWith_74, k_X12_movedWith_75, k_X12_movedWith_76, k_X12_movedWith_77, k_X12_movedWith_79, k_X12_movedWith_81, k_X12_movedWith_82, k_X12_movedWith_85, w_X12_minutes_e, w_X12_moved_e]
      repeat' (first | apply And.intro | intro _)
      all_goals first | omega | exact absurd trivial (by assumption) | exact i1 (by assumption) (by assumption) | exact i2 (by omega)
    · rw [show k = (σ' 5000 29).toNat by omega]
      have cb := cnR_b (σ' 5015) c t (σ' 5000 29).toNat
      have hf := hpl (4 * p + q % 3) (by omega) (by omega)
      have hc := (hr.1 c c0 c1).1
      have hdg : mdg (σ' 5007 (4 * p + q % 3)) (σ' 5015 (4 * c)) (σ' 5011 t) (cnR (σ' 5015) c t (σ' 5000 29).toNat) q 0 := by unfold mdg; omega
      have hmo := hh.1
      have hli := hh.2.1
      have fin : ∀ τ, WF σ' τ → mOk τ → Q (0, mRk σ' (σ' 5007 (4 * p + q % 3)) (σ' 5015 (4 * c)) (σ' 5011 t) (cnR (σ' 5015) c t (σ' 5000 29).toNat) q 0) τ := fun τ a b => by
        have := h τ a b
        unfold mvW at this
        rw [if_neg (by omega)] at this; exact this
      simp only [↓reduceIte, inR_0, inR_1, inR_m, vSw2_e, swP_n, swP_c, vI_e, vL_e, vNull_e, vIload_e, vLload_e, vAload_e, vIstore_e, vLstore_e, vAstore_e, vIinc_e, vIadd_e, vIsub_e, vImul_e, vIand_e, vIor_e, vIxor_e, vIshl_e, vIshr_e, vIushr_e, vIdiv_e, vIrem_e, vLadd_e, vLsub_e, vLmul_e, vLand_e, vLor_e, vLxor_e, vLdiv_e, vLrem_e, vLushr_e, vLshl_e, vLcmp_e, vIneg_e, vI2l_e, vL2i_e, vI2b_e, vI2c_e, vDup_e, vPop_e, vDup2_e, vGoto_e, vIcEq_e, vIfEq_e, vIcNe_e, vIfNe_e, vIcLt_e, vIfLt_e, vIcGe_e, vIfGe_e, vIcGt_e, vIfGt_e, vIcLe_e, vIfLe_e, vNonnull_e, vSw_e, vGetI_e, vGetL_e, vGetR_e, vPutI_e, vPutZ_e, vPutL_e, vPutR_e, vIald_e, vIald_s, vLald_e, vBald_e, vBald_s, vAald_e, vIast_e, vLast_e, vBast_e, vAast_e, vAlen_e8, vAlen_e9, vAlen_e10, vAlen_e11, vAlen_e5, vAlen_e3, vGets_e, vCompact_e, vLdcS_e, vIret_e, vZret_e, vCret_e, vBret_e, vLret_e, vVret_e, vAret_e, vCallM_e0, vCallMV_e0, vCallS_e0, vCallSV_e0, vCallM_e1, vCallMV_e1, vCallS_e1, vCallSV_e1, vCallM_e2, vCallMV_e2, vCallS_e2, vCallSV_e2, vCallM_e3, vCallMV_e3, vCallS_e3, vCallSV_e3, vCallM_e4, vCallMV_e4, vCallS_e4, vCallSV_e4, vCallM_e5, vCallMV_e5, vCallS_e5, vCallSV_e5, vCallM_e6, vCallMV_e6, vCallS_e6, vCallSV_e6, vCallM_e7, vCallMV_e7, vCallS_e7, vCallSV_e7, vBad_e, vStrVal_e, vStrCod_e, vForm_e, vCallT_e0, vCallT_e1, vCallT_e2, vCopy_e, rf_0_0, rf_0_1, rf_0_2, rf_0_3, rf_0_4, rf_0_7, rf_0_10, rf_0_11, rf_0_12, rf_0_13, rf_0_14, rf_0_15, rf_0_16, rf_1_0, rf_3_0, rf_3_1, rf_6_0, rf_6_1, rf_9_0, rf_9_1, rf_9_3, rf_13_0, rf_13_1, rf_13_2, rf_16_0, rf_16_1, rf_16_2, rf_16_3, rf_21_0, rf_21_1, rf_21_2, rf_21_3, rf_26_0, rf_26_1, rf_26_2, rf_26_3, rf_26_4, rf_26_5, rf_26_6, rf_31_0, rf_31_2, rf_31_5, rf_31_6, rf_36_0, rf_36_1, rf_36_2, rf_36_3, rf_39_0, rf_39_1, rf_39_2, rf_41_0, rf_41_1, rf_41_2, rf_41_3, rf_5000_1, rf_5000_2, rf_5000_3, rf_5000_4, rf_5000_5, rf_5000_15, rf_5000_16, rf_5000_18, rf_5000_19, rf_5000_20, rf_5000_21, rf_5000_22, rf_5000_23, rf_5000_24, rf_5000_25, rf_5000_26, rf_5000_27, rf_5000_36, rf_5000_37, rf_5000_40, rf_5000_41, rf_5000_42, rf_5000_43, rf_5000_44, rf_5000_45, rf_5000_47, rf_5000_52, rf_5000_54, rf_5000_55, rf_100_0, rf_100_1, rf_103_0, rf_103_1, rf_106_0, rf_106_1, rf_109_0, rf_109_1, al_2, al_4, al_5, al_7, al_8, al_10, al_11, al_12, al_14, al_15, al_17, al_18, al_19, al_20, al_22, al_23, al_24, al_25, al_27, al_28, al_29, al_30, al_32, al_33, al_34, al_35, al_37, al_38, al_40, al_42, al_5001, al_5002, al_5003, al_5004, al_5005, al_5006, al_5007, al_5008, al_5009, al_5010, al_5011, al_5012, al_5013, al_5014, al_5015, al_5016, al_5017, al_5018, al_5019, al_5020, al_5021, al_5022, al_5023, al_5024, al_5025, al_5026, al_9000, al_101, al_102, al_104, al_105, al_107, al_108, al_110, al_111, vcs_e, lg_c0, lg_cs, lg_nil, set_c0, set_cs, okst_0, okst_s, acok_n, acok_c, List.contains_nil, List.contains_cons, Bool.or_false, Bool.false_or, Bool.false_eq_true, if_false, if_true, ite_self, ne_eq, true_and, and_true, not_false_eq_true, not_true_eq_false, false_imp_iff, true_imp_iff, Nat.ble_eq, Bool.and_eq_true, reduceCtorEq, or_false, false_or, or_true, true_or, false_and, and_false, and_self, Int.reduceLE, Int.reduceAdd, Int.reduceSub, Int.reduceMul, Int.reduceNeg, Int.reduceLT, Int.reduceEq, Int.reduceNe, Nat.reduceBEq, Nat.reduceBNe, Nat.reduceEqDiff, amCmp_in, amCmp_lt, amCmp_le, amCmp_gt, amCmp_ge, amCmp_eq, amCmp_ne, Nat.reduceLeDiff, Nat.reduceSub, Bool.and_true, Bool.true_and, Bool.and_self, Bool.or_true, Bool.true_or, isRf_3, isRf_4, isRf_5, isRf_8, isRf_9, isRf_10, isRf_11, isRf_15, isRf_16, isRf_17, isRf_18, isRf_19, isRf_20, isRf_21, isRf_22, isRf_23, isRf_24, isRf_25, isRf_26, isRf_27, isRf_28, k_X12_movedWith_0, k_X12_movedWith_2, k_X12_movedWith_3, k_X12_movedWith_4, k_X12_movedWith_7, k_X12_movedWith_10, k_X12_movedWith_11, k_X12_movedWith_12, k_X12_movedWith_13, k_X12_movedWith_15, k_X12_movedWith_16, k_X12_movedWith_18, k_X12_movedWith_20, k_X12_movedWith_21, k_X12_movedWith_24, k_X12_movedWith_27, k_X12_movedWith_29, k_X12_movedWith_31, k_X12_movedWith_32, k_X12_movedWith_35, k_X12_movedWith_36, k_X12_movedWith_39, k_X12_movedWith_40, k_X12_movedWith_42, k_X12_movedWith_43, k_X12_movedWith_44, k_X12_movedWith_45, k_X12_movedWith_46, k_X12_movedWith_47, k_X12_movedWith_50, k_X12_movedWith_51, k_X12_movedWith_54, k_X12_movedWith_55, k_X12_movedWith_56, k_X12_movedWith_58, k_X12_movedWith_61, k_X12_movedWith_64, k_X12_movedWith_65, k_X12_movedWith_66, k_X12_movedWith_69, k_X12_movedWith_70, k_X12_movedWith_71, k_X12_movedWith_72, k_X12_movedWith_73, k_X12_movedWith_74, k_X12_movedWith_75, k_X12_movedWith_76, k_X12_movedWith_77, k_X12_movedWith_79, k_X12_movedWith_81, k_X12_movedWith_82, k_X12_movedWith_85, w_X12_minutes_e, w_X12_moved_e, Int.add_zero]
      repeat' (first | assumption | exact hmo | exact hli | exact hdg | apply And.intro | intro _)
      all_goals first | omega | exact absurd trivial (by assumption) | exact fin _ (by assumption) (by assumption)
  · change vcs _ _ _ _ 60 0 [(28, 5000), (0, c), (0, t), (0, p), (0, q), (6, 0), (6, 0)] [] σ
    by_cases d : q < σ 5007 (4 * p + 3)
    · have i9 : ∃ k', inv_mvw σ c t p q k' 18 [(28, 5000), (0, c), (0, t), (0, p), (0, q), (0, 1), (0, 0)] [] σ := ⟨(σ 5000 29).toNat, rfl, rfl, rfl, d, 0, rfl, by omega⟩
      simp only [↓reduceIte, inR_0, inR_1, inR_m, vSw2_e, swP_n, swP_c, vI_e, vL_e, vNull_e, vIload_e, vLload_e, vAload_e, vIstore_e, vLstore_e, vAstore_e, vIinc_e, vIadd_e, vIsub_e, vImul_e, vIand_e, vIor_e, vIxor_e, vIshl_e, vIshr_e, vIushr_e, vIdiv_e, vIrem_e, vLadd_e, vLsub_e, vLmul_e, vLand_e, vLor_e, vLxor_e, vLdiv_e, vLrem_e, vLushr_e, vLshl_e, vLcmp_e, vIneg_e, vI2l_e, vL2i_e, vI2b_e, vI2c_e, vDup_e, vPop_e, vDup2_e, vGoto_e, vIcEq_e, vIfEq_e, vIcNe_e, vIfNe_e, vIcLt_e, vIfLt_e, vIcGe_e, vIfGe_e, vIcGt_e, vIfGt_e, vIcLe_e, vIfLe_e, vNonnull_e, vSw_e, vGetI_e, vGetL_e, vGetR_e, vPutI_e, vPutZ_e, vPutL_e, vPutR_e, vIald_e, vIald_s, vLald_e, vBald_e, vBald_s, vAald_e, vIast_e, vLast_e, vBast_e, vAast_e, vAlen_e8, vAlen_e9, vAlen_e10, vAlen_e11, vAlen_e5, vAlen_e3, vGets_e, vCompact_e, vLdcS_e, vIret_e, vZret_e, vCret_e, vBret_e, vLret_e, vVret_e, vAret_e, vCallM_e0, vCallMV_e0, vCallS_e0, vCallSV_e0, vCallM_e1, vCallMV_e1, vCallS_e1, vCallSV_e1, vCallM_e2, vCallMV_e2, vCallS_e2, vCallSV_e2, vCallM_e3, vCallMV_e3, vCallS_e3, vCallSV_e3, vCallM_e4, vCallMV_e4, vCallS_e4, vCallSV_e4, vCallM_e5, vCallMV_e5, vCallS_e5, vCallSV_e5, vCallM_e6, vCallMV_e6, vCallS_e6, vCallSV_e6, vCallM_e7, vCallMV_e7, vCallS_e7, vCallSV_e7, vBad_e, vStrVal_e, vStrCod_e, vForm_e, vCallT_e0, vCallT_e1, vCallT_e2, vCopy_e, rf_0_0, rf_0_1, rf_0_2, rf_0_3, rf_0_4, rf_0_7, rf_0_10, rf_0_11, rf_0_12, rf_0_13, rf_0_14, rf_0_15, rf_0_16, rf_1_0, rf_3_0, rf_3_1, rf_6_0, rf_6_1, rf_9_0, rf_9_1, rf_9_3, rf_13_0, rf_13_1, rf_13_2, rf_16_0, rf_16_1, rf_16_2, rf_16_3, rf_21_0, rf_21_1, rf_21_2, rf_21_3, rf_26_0, rf_26_1, rf_26_2, rf_26_3, rf_26_4, rf_26_5, rf_26_6, rf_31_0, rf_31_2, rf_31_5, rf_31_6, rf_36_0, rf_36_1, rf_36_2, rf_36_3, rf_39_0, rf_39_1, rf_39_2, rf_41_0, rf_41_1, rf_41_2, rf_41_3, rf_5000_1, rf_5000_2, rf_5000_3, rf_5000_4, rf_5000_5, rf_5000_15, rf_5000_16, rf_5000_18, rf_5000_19, rf_5000_20, rf_5000_21, rf_5000_22, rf_5000_23, rf_5000_24, rf_5000_25, rf_5000_26, rf_5000_27, rf_5000_36, rf_5000_37, rf_5000_40, rf_5000_41, rf_5000_42, rf_5000_43, rf_5000_44, rf_5000_45, rf_5000_47, rf_5000_52, rf_5000_54, rf_5000_55, rf_100_0, rf_100_1, rf_103_0, rf_103_1, rf_106_0, rf_106_1, rf_109_0, rf_109_1, al_2, al_4, al_5, al_7, al_8, al_10, al_11, al_12, al_14, al_15, al_17, al_18, al_19, al_20, al_22, al_23, al_24, al_25, al_27, al_28, al_29, al_30, al_32, al_33, al_34, al_35, al_37, al_38, al_40, al_42, al_5001, al_5002, al_5003, al_5004, al_5005, al_5006, al_5007, al_5008, al_5009, al_5010, al_5011, al_5012, al_5013, al_5014, al_5015, al_5016, al_5017, al_5018, al_5019, al_5020, al_5021, al_5022, al_5023, al_5024, al_5025, al_5026, al_9000, al_101, al_102, al_104, al_105, al_107, al_108, al_110, al_111, vcs_e, lg_c0, lg_cs, lg_nil, set_c0, set_cs, okst_0, okst_s, acok_n, acok_c, List.contains_nil, List.contains_cons, Bool.or_false, Bool.false_or, Bool.false_eq_true, if_false, if_true, ite_self, ne_eq, true_and, and_true, not_false_eq_true, not_true_eq_false, false_imp_iff, true_imp_iff, Nat.ble_eq, Bool.and_eq_true, reduceCtorEq, or_false, false_or, or_true, true_or, false_and, and_false, and_self, Int.reduceLE, Int.reduceAdd, Int.reduceSub, Int.reduceMul, Int.reduceNeg, Int.reduceLT, Int.reduceEq, Int.reduceNe, Nat.reduceBEq, Nat.reduceBNe, Nat.reduceEqDiff, amCmp_in, amCmp_lt, amCmp_le, amCmp_gt, amCmp_ge, amCmp_eq, amCmp_ne, Nat.reduceLeDiff, Nat.reduceSub, Bool.and_true, Bool.true_and, Bool.and_self, Bool.or_true, Bool.true_or, isRf_3, isRf_4, isRf_5, isRf_8, isRf_9, isRf_10, isRf_11, isRf_15, isRf_16, isRf_17, isRf_18, isRf_19, isRf_20, isRf_21, isRf_22, isRf_23, isRf_24, isRf_25, isRf_26, isRf_27, isRf_28, k_X12_movedWith_0, k_X12_movedWith_2, k_X12_movedWith_3, k_X12_movedWith_4, k_X12_movedWith_7, k_X12_movedWith_10, k_X12_movedWith_11, k_X12_movedWith_12, k_X12_movedWith_13, k_X12_movedWith_15, k_X12_movedWith_16, k_X12_movedWith_18, k_X12_movedWith_20, k_X12_movedWith_21, k_X12_movedWith_24, k_X12_movedWith_27, k_X12_movedWith_29, k_X12_movedWith_31, k_X12_movedWith_32, k_X12_movedWith_35, k_X12_movedWith_36, k_X12_movedWith_39, k_X12_movedWith_40, k_X12_movedWith_42, k_X12_movedWith_43, k_X12_movedWith_44, k_X12_movedWith_45, k_X12_movedWith_46, k_X12_movedWith_47, k_X12_movedWith_50, k_X12_movedWith_51, k_X12_movedWith_54, k_X12_movedWith_55, k_X12_movedWith_56, k_X12_movedWith_58, k_X12_movedWith_61, k_X12_movedWith_64, k_X12_movedWith_65, k_X12_movedWith_66, k_X12_movedWith_69, k_X12_movedWith_70, k_X12_movedWith_71, k_X12_movedWith_72, k_X12_movedWith_73, k_X12_movedWith_74, k_X12_movedWith_75, k_X12_movedWith_76, k_X12_movedWith_77, k_X12_movedWith_79, k_X12_movedWith_81, k_X12_movedWith_82, k_X12_movedWith_85, w_X12_minutes_e, w_X12_moved_e]
      repeat' (first | apply And.intro | intro _)
      all_goals first | omega | exact absurd trivial (by assumption) | exact i9
    · have q8 := h σ (WF_rf σ) hh.1
      unfold mvW at q8
      rw [if_pos (by omega)] at q8
      simp only [↓reduceIte, inR_0, inR_1, inR_m, vSw2_e, swP_n, swP_c, vI_e, vL_e, vNull_e, vIload_e, vLload_e, vAload_e, vIstore_e, vLstore_e, vAstore_e, vIinc_e, vIadd_e, vIsub_e, vImul_e, vIand_e, vIor_e, vIxor_e, vIshl_e, vIshr_e, vIushr_e, vIdiv_e, vIrem_e, vLadd_e, vLsub_e, vLmul_e, vLand_e, vLor_e, vLxor_e, vLdiv_e, vLrem_e, vLushr_e, vLshl_e, vLcmp_e, vIneg_e, vI2l_e, vL2i_e, vI2b_e, vI2c_e, vDup_e, vPop_e, vDup2_e, vGoto_e, vIcEq_e, vIfEq_e, vIcNe_e, vIfNe_e, vIcLt_e, vIfLt_e, vIcGe_e, vIfGe_e, vIcGt_e, vIfGt_e, vIcLe_e, vIfLe_e, vNonnull_e, vSw_e, vGetI_e, vGetL_e, vGetR_e, vPutI_e, vPutZ_e, vPutL_e, vPutR_e, vIald_e, vIald_s, vLald_e, vBald_e, vBald_s, vAald_e, vIast_e, vLast_e, vBast_e, vAast_e, vAlen_e8, vAlen_e9, vAlen_e10, vAlen_e11, vAlen_e5, vAlen_e3, vGets_e, vCompact_e, vLdcS_e, vIret_e, vZret_e, vCret_e, vBret_e, vLret_e, vVret_e, vAret_e, vCallM_e0, vCallMV_e0, vCallS_e0, vCallSV_e0, vCallM_e1, vCallMV_e1, vCallS_e1, vCallSV_e1, vCallM_e2, vCallMV_e2, vCallS_e2, vCallSV_e2, vCallM_e3, vCallMV_e3, vCallS_e3, vCallSV_e3, vCallM_e4, vCallMV_e4, vCallS_e4, vCallSV_e4, vCallM_e5, vCallMV_e5, vCallS_e5, vCallSV_e5, vCallM_e6, vCallMV_e6, vCallS_e6, vCallSV_e6, vCallM_e7, vCallMV_e7, vCallS_e7, vCallSV_e7, vBad_e, vStrVal_e, vStrCod_e, vForm_e, vCallT_e0, vCallT_e1, vCallT_e2, vCopy_e, rf_0_0, rf_0_1, rf_0_2, rf_0_3, rf_0_4, rf_0_7, rf_0_10, rf_0_11, rf_0_12, rf_0_13, rf_0_14, rf_0_15, rf_0_16, rf_1_0, rf_3_0, rf_3_1, rf_6_0, rf_6_1, rf_9_0, rf_9_1, rf_9_3, rf_13_0, rf_13_1, rf_13_2, rf_16_0, rf_16_1, rf_16_2, rf_16_3, rf_21_0, rf_21_1, rf_21_2, rf_21_3, rf_26_0, rf_26_1, rf_26_2, rf_26_3, rf_26_4, rf_26_5, rf_26_6, rf_31_0, rf_31_2, rf_31_5, rf_31_6, rf_36_0, rf_36_1, rf_36_2, rf_36_3, rf_39_0, rf_39_1, rf_39_2, rf_41_0, rf_41_1, rf_41_2, rf_41_3, rf_5000_1, rf_5000_2, rf_5000_3, rf_5000_4, rf_5000_5, rf_5000_15, rf_5000_16, rf_5000_18, rf_5000_19, rf_5000_20, rf_5000_21, rf_5000_22, rf_5000_23, rf_5000_24, rf_5000_25, rf_5000_26, rf_5000_27, rf_5000_36, rf_5000_37, rf_5000_40, rf_5000_41, rf_5000_42, rf_5000_43, rf_5000_44, rf_5000_45, rf_5000_47, rf_5000_52, rf_5000_54, rf_5000_55, rf_100_0, rf_100_1, rf_103_0, rf_103_1, rf_106_0, rf_106_1, rf_109_0, rf_109_1, al_2, al_4, al_5, al_7, al_8, al_10, al_11, al_12, al_14, al_15, al_17, al_18, al_19, al_20, al_22, al_23, al_24, al_25, al_27, al_28, al_29, al_30, al_32, al_33, al_34, al_35, al_37, al_38, al_40, al_42, al_5001, al_5002, al_5003, al_5004, al_5005, al_5006, al_5007, al_5008, al_5009, al_5010, al_5011, al_5012, al_5013, al_5014, al_5015, al_5016, al_5017, al_5018, al_5019, al_5020, al_5021, al_5022, al_5023, al_5024, al_5025, al_5026, al_9000, al_101, al_102, al_104, al_105, al_107, al_108, al_110, al_111, vcs_e, lg_c0, lg_cs, lg_nil, set_c0, set_cs, okst_0, okst_s, acok_n, acok_c, List.contains_nil, List.contains_cons, Bool.or_false, Bool.false_or, Bool.false_eq_true, if_false, if_true, ite_self, ne_eq, true_and, and_true, not_false_eq_true, not_true_eq_false, false_imp_iff, true_imp_iff, Nat.ble_eq, Bool.and_eq_true, reduceCtorEq, or_false, false_or, or_true, true_or, false_and, and_false, and_self, Int.reduceLE, Int.reduceAdd, Int.reduceSub, Int.reduceMul, Int.reduceNeg, Int.reduceLT, Int.reduceEq, Int.reduceNe, Nat.reduceBEq, Nat.reduceBNe, Nat.reduceEqDiff, amCmp_in, amCmp_lt, amCmp_le, amCmp_gt, amCmp_ge, amCmp_eq, amCmp_ne, Nat.reduceLeDiff, Nat.reduceSub, Bool.and_true, Bool.true_and, Bool.and_self, Bool.or_true, Bool.true_or, isRf_3, isRf_4, isRf_5, isRf_8, isRf_9, isRf_10, isRf_11, isRf_15, isRf_16, isRf_17, isRf_18, isRf_19, isRf_20, isRf_21, isRf_22, isRf_23, isRf_24, isRf_25, isRf_26, isRf_27, isRf_28, k_X12_movedWith_0, k_X12_movedWith_2, k_X12_movedWith_3, k_X12_movedWith_4, k_X12_movedWith_7, k_X12_movedWith_10, k_X12_movedWith_11, k_X12_movedWith_12, k_X12_movedWith_13, k_X12_movedWith_15, k_X12_movedWith_16, k_X12_movedWith_18, k_X12_movedWith_20, k_X12_movedWith_21, k_X12_movedWith_24, k_X12_movedWith_27, k_X12_movedWith_29, k_X12_movedWith_31, k_X12_movedWith_32, k_X12_movedWith_35, k_X12_movedWith_36, k_X12_movedWith_39, k_X12_movedWith_40, k_X12_movedWith_42, k_X12_movedWith_43, k_X12_movedWith_44, k_X12_movedWith_45, k_X12_movedWith_46, k_X12_movedWith_47, k_X12_movedWith_50, k_X12_movedWith_51, k_X12_movedWith_54, k_X12_movedWith_55, k_X12_movedWith_56, k_X12_movedWith_58, k_X12_movedWith_61, k_X12_movedWith_64, k_X12_movedWith_65, k_X12_movedWith_66, k_X12_movedWith_69, k_X12_movedWith_70, k_X12_movedWith_71, k_X12_movedWith_72, k_X12_movedWith_73, k_X12_movedWith_74, k_X12_movedWith_75, k_X12_movedWith_76, k_X12_movedWith_77, k_X12_movedWith_79, k_X12_movedWith_81, k_X12_movedWith_82, k_X12_movedWith_85, w_X12_minutes_e, w_X12_moved_e]
      repeat' (first | apply And.intro | intro _)
      all_goals first | omega | exact absurd trivial (by assumption) | exact q8
/-- what was HOWLED is as it should be -/
def hwO (σ : Mem) : Prop := (0 ≤ σ 5000 53 ∧ σ 5000 53 ≤ 10) ∧ ∀ j, 0 ≤ j → j < σ 5000 53 → (0 ≤ σ 5024 (5 * j) ∧ σ 5024 (5 * j) < 6) ∧ (0 ≤ σ 5024 (5 * j + 1) ∧ σ 5024 (5 * j + 1) < 4 ∧ σ 5024 (5 * j + 1) < σ 5000 28) ∧ (0 ≤ σ 5024 (5 * j + 2) ∧ σ 5024 (5 * j + 2) ≤ 8) ∧ (0 ≤ σ 5024 (5 * j + 3) ∧ σ 5024 (5 * j + 3) ≤ 99) ∧ (σ 5024 (5 * j + 4) = 0 ∨ σ 5024 (5 * j + 4) = 1)
/-- by SITTER t the first n HOWLED are so -/
def fiP (σ : Mem) (c t n : Int) : Prop := ∀ j, 0 ≤ j → j < n → σ 5024 (5 * j) = c → (σ 5024 (5 * j + 3) ≤ mvW σ c t (σ 5024 (5 * j + 1)) (σ 5024 (5 * j + 2)) ↔ σ 5024 (5 * j + 4) = 1)
theorem wd_1850 : Cond.methodLink RX12 451 yX12_movedWith ∈ TBL := tb_tab (List.mem_of_getElem? (i := 1850) (by decide +kernel)) rfl
theorem wd_1853 : Cond.code yX12_movedWith cX12_movedWith 7 (some .int) ∈ TBL := tb_tab (List.mem_of_getElem? (i := 1853) (by decide +kernel)) rfl
theorem lk_X12_451 : amLk RX12 451 yX12_movedWith cX12_movedWith 7 (some .int) 4 := ⟨wd_1850, wd_12, wd_1853, by decide +kernel, by decide +kernel, by decide⟩
theorem wd_1852 : Cond.instanceMethod yX12_movedWith ∈ TBL := tb_tab (List.mem_of_getElem? (i := 1852) (by decide +kernel)) rfl
theorem sl_X12_movedWith : Cond.selects RX12 yX12_movedWith yX12_movedWith ∈ TBL := tb_sel (List.mem_of_getElem? (i := 95) (by decide +kernel)) rfl
def a_X12_couldBe : AC := [(0, vI 0 1), (1, vIstore 3 2), (2, vIload 3 3), (3, vAload 0 4), (4, vGetI 28 53 7), (7, vIcGe 96 10), (10, vAload 0 11), (11, vGetR TT 28 52 8 14), (14, vI 5 15), (15, vIload 3 16), (16, vImul 17), (17, vIald TT 18), (18, vIload 1 19), (19, vIcNe 90 22), (22, vAload 0 23), (23, vIload 1 24), (24, vIload 2 25), (25, vAload 0 26), (26, vGetR TT 28 52 8 29), (29, vI 5 30), (30, vIload 3 31), (31, vImul 32), (32, vI 1 33), (33, vIadd 34), (34, vIald TT 35), (35, vAload 0 36), (36, vGetR TT 28 52 8 39), (39, vI 5 40), (40, vIload 3 41), (41, vImul 42), (42, vI 2 43), (43, vIadd 44), (44, vIald TT 45), (45, vCallM w_X12_movedWith 28 4 48), (48, vAload 0 49), (49, vGetR TT 28 52 8 52), (52, vI 5 53), (53, vIload 3 54), (54, vImul 55), (55, vI 3 56), (56, vIadd 57), (57, vIald TT 58), (58, vIcLt 65 61), (61, vI 1 62), (62, vGoto 66), (65, vI 0 66), (66, vAload 0 67), (67, vGetR TT 28 52 8 70), (70, vI 5 71), (71, vIload 3 72), (72, vImul 73), (73, vI 4 74), (74, vIadd 75), (75, vIald TT 76), (76, vI 1 77), (77, vIcNe 84 80), (80, vI 1 81), (81, vGoto 85), (84, vI 0 85), (85, vIcEq 90 88), (88, vI 0 89), (89, vZret), (90, vIinc 3 1 93), (93, vGoto 2), (96, vI 1 97), (97, vZret)]
theorem k_X12_couldBe_0 : look a_X12_couldBe 0 = vI 0 1 := rfl
theorem k_X12_couldBe_1 : look a_X12_couldBe 1 = vIstore 3 2 := rfl
theorem k_X12_couldBe_2 : look a_X12_couldBe 2 = vIload 3 3 := rfl
theorem k_X12_couldBe_3 : look a_X12_couldBe 3 = vAload 0 4 := rfl
theorem k_X12_couldBe_4 : look a_X12_couldBe 4 = vGetI 28 53 7 := rfl
theorem k_X12_couldBe_7 : look a_X12_couldBe 7 = vIcGe 96 10 := rfl
theorem k_X12_couldBe_10 : look a_X12_couldBe 10 = vAload 0 11 := rfl
theorem k_X12_couldBe_11 : look a_X12_couldBe 11 = vGetR TT 28 52 8 14 := rfl
theorem k_X12_couldBe_14 : look a_X12_couldBe 14 = vI 5 15 := rfl
theorem k_X12_couldBe_15 : look a_X12_couldBe 15 = vIload 3 16 := rfl
theorem k_X12_couldBe_16 : look a_X12_couldBe 16 = vImul 17 := rfl
theorem k_X12_couldBe_17 : look a_X12_couldBe 17 = vIald TT 18 := rfl
theorem k_X12_couldBe_18 : look a_X12_couldBe 18 = vIload 1 19 := rfl
theorem k_X12_couldBe_19 : look a_X12_couldBe 19 = vIcNe 90 22 := rfl
theorem k_X12_couldBe_22 : look a_X12_couldBe 22 = vAload 0 23 := rfl
theorem k_X12_couldBe_23 : look a_X12_couldBe 23 = vIload 1 24 := rfl
theorem k_X12_couldBe_24 : look a_X12_couldBe 24 = vIload 2 25 := rfl
theorem k_X12_couldBe_25 : look a_X12_couldBe 25 = vAload 0 26 := rfl
theorem k_X12_couldBe_26 : look a_X12_couldBe 26 = vGetR TT 28 52 8 29 := rfl
theorem k_X12_couldBe_29 : look a_X12_couldBe 29 = vI 5 30 := rfl
theorem k_X12_couldBe_30 : look a_X12_couldBe 30 = vIload 3 31 := rfl
theorem k_X12_couldBe_31 : look a_X12_couldBe 31 = vImul 32 := rfl
theorem k_X12_couldBe_32 : look a_X12_couldBe 32 = vI 1 33 := rfl
theorem k_X12_couldBe_33 : look a_X12_couldBe 33 = vIadd 34 := rfl
theorem k_X12_couldBe_34 : look a_X12_couldBe 34 = vIald TT 35 := rfl
theorem k_X12_couldBe_35 : look a_X12_couldBe 35 = vAload 0 36 := rfl
theorem k_X12_couldBe_36 : look a_X12_couldBe 36 = vGetR TT 28 52 8 39 := rfl
theorem k_X12_couldBe_39 : look a_X12_couldBe 39 = vI 5 40 := rfl
theorem k_X12_couldBe_40 : look a_X12_couldBe 40 = vIload 3 41 := rfl
theorem k_X12_couldBe_41 : look a_X12_couldBe 41 = vImul 42 := rfl
theorem k_X12_couldBe_42 : look a_X12_couldBe 42 = vI 2 43 := rfl
theorem k_X12_couldBe_43 : look a_X12_couldBe 43 = vIadd 44 := rfl
theorem k_X12_couldBe_44 : look a_X12_couldBe 44 = vIald TT 45 := rfl
theorem k_X12_couldBe_45 : look a_X12_couldBe 45 = vCallM w_X12_movedWith 28 4 48 := rfl
theorem k_X12_couldBe_48 : look a_X12_couldBe 48 = vAload 0 49 := rfl
theorem k_X12_couldBe_49 : look a_X12_couldBe 49 = vGetR TT 28 52 8 52 := rfl
theorem k_X12_couldBe_52 : look a_X12_couldBe 52 = vI 5 53 := rfl
theorem k_X12_couldBe_53 : look a_X12_couldBe 53 = vIload 3 54 := rfl
theorem k_X12_couldBe_54 : look a_X12_couldBe 54 = vImul 55 := rfl
theorem k_X12_couldBe_55 : look a_X12_couldBe 55 = vI 3 56 := rfl
theorem k_X12_couldBe_56 : look a_X12_couldBe 56 = vIadd 57 := rfl
theorem k_X12_couldBe_57 : look a_X12_couldBe 57 = vIald TT 58 := rfl
theorem k_X12_couldBe_58 : look a_X12_couldBe 58 = vIcLt 65 61 := rfl
theorem k_X12_couldBe_61 : look a_X12_couldBe 61 = vI 1 62 := rfl
theorem k_X12_couldBe_62 : look a_X12_couldBe 62 = vGoto 66 := rfl
theorem k_X12_couldBe_65 : look a_X12_couldBe 65 = vI 0 66 := rfl
theorem k_X12_couldBe_66 : look a_X12_couldBe 66 = vAload 0 67 := rfl
theorem k_X12_couldBe_67 : look a_X12_couldBe 67 = vGetR TT 28 52 8 70 := rfl
theorem k_X12_couldBe_70 : look a_X12_couldBe 70 = vI 5 71 := rfl
theorem k_X12_couldBe_71 : look a_X12_couldBe 71 = vIload 3 72 := rfl
theorem k_X12_couldBe_72 : look a_X12_couldBe 72 = vImul 73 := rfl
theorem k_X12_couldBe_73 : look a_X12_couldBe 73 = vI 4 74 := rfl
theorem k_X12_couldBe_74 : look a_X12_couldBe 74 = vIadd 75 := rfl
theorem k_X12_couldBe_75 : look a_X12_couldBe 75 = vIald TT 76 := rfl
theorem k_X12_couldBe_76 : look a_X12_couldBe 76 = vI 1 77 := rfl
theorem k_X12_couldBe_77 : look a_X12_couldBe 77 = vIcNe 84 80 := rfl
theorem k_X12_couldBe_80 : look a_X12_couldBe 80 = vI 1 81 := rfl
theorem k_X12_couldBe_81 : look a_X12_couldBe 81 = vGoto 85 := rfl
theorem k_X12_couldBe_84 : look a_X12_couldBe 84 = vI 0 85 := rfl
theorem k_X12_couldBe_85 : look a_X12_couldBe 85 = vIcEq 90 88 := rfl
theorem k_X12_couldBe_88 : look a_X12_couldBe 88 = vI 0 89 := rfl
theorem k_X12_couldBe_89 : look a_X12_couldBe 89 = vZret := rfl
theorem k_X12_couldBe_90 : look a_X12_couldBe 90 = vIinc 3 1 93 := rfl
theorem k_X12_couldBe_93 : look a_X12_couldBe 93 = vGoto 2 := rfl
theorem k_X12_couldBe_96 : look a_X12_couldBe 96 = vI 1 97 := rfl
theorem k_X12_couldBe_97 : look a_X12_couldBe 97 = vZret := rfl
theorem o_X12_couldBe {X : amX} (e1 : XT X = TT) (e2 : XD X = 59) (hB : amB X RX12 cX12_couldBe (some .boolean) 4) : ∀ pc, amOK X pc (look a_X12_couldBe pc) := by
  have hT : amTok (XT X) := e1 ▸ TT_ok
  refine look_ok ?_
  unfold a_X12_couldBe
  refine fc (ok_iconst hB dX12_couldBe_0) ?_
  refine fc (ok_istore_n hB (by decide) dX12_couldBe_1) ?_
  refine fc (ok_iload_n hB dX12_couldBe_2) ?_
  refine fc (ok_aload_n hB dX12_couldBe_3) ?_
  refine fc (ok_getI hB hT fl_X12_323 rfl rfl (Or.inl af_12_53) dX12_couldBe_4) ?_
  refine fc (ok_icmp_ge hB (t := 96) (by decide) dX12_couldBe_7) ?_
  refine fc (ok_aload_n hB dX12_couldBe_10) ?_
  refine fc (okt_getR e1 hB hT fl_X12_102 rfl af_12_52 at_12_52 (by decide) dX12_couldBe_11) ?_
  refine fc (ok_iconst hB dX12_couldBe_14) ?_
  refine fc (ok_iload_n hB dX12_couldBe_15) ?_
  refine fc (ok_imul hB dX12_couldBe_16) ?_
  refine fc (okt_iaload e1 hB dX12_couldBe_17) ?_
  refine fc (ok_iload_n hB dX12_couldBe_18) ?_
  refine fc (ok_icmp_ne hB (t := 90) (by decide) dX12_couldBe_19) ?_
  refine fc (ok_aload_n hB dX12_couldBe_22) ?_
  refine fc (ok_iload_n hB dX12_couldBe_23) ?_
  refine fc (ok_iload_n hB dX12_couldBe_24) ?_
  refine fc (ok_aload_n hB dX12_couldBe_25) ?_
  refine fc (okt_getR e1 hB hT fl_X12_102 rfl af_12_52 at_12_52 (by decide) dX12_couldBe_26) ?_
  refine fc (ok_iconst hB dX12_couldBe_29) ?_
  refine fc (ok_iload_n hB dX12_couldBe_30) ?_
  refine fc (ok_imul hB dX12_couldBe_31) ?_
  refine fc (ok_iconst hB dX12_couldBe_32) ?_
  refine fc (ok_iadd hB dX12_couldBe_33) ?_
  refine fc (okt_iaload e1 hB dX12_couldBe_34) ?_
  refine fc (ok_aload_n hB dX12_couldBe_35) ?_
  refine fc (okt_getR e1 hB hT fl_X12_102 rfl af_12_52 at_12_52 (by decide) dX12_couldBe_36) ?_
  refine fc (ok_iconst hB dX12_couldBe_39) ?_
  refine fc (ok_iload_n hB dX12_couldBe_40) ?_
  refine fc (ok_imul hB dX12_couldBe_41) ?_
  refine fc (ok_iconst hB dX12_couldBe_42) ?_
  refine fc (ok_iadd hB dX12_couldBe_43) ?_
  refine fc (okt_iaload e1 hB dX12_couldBe_44) ?_
  refine fc (ok_callM hB hT (e1 ▸ s_X12_movedWith) lk_X12_451 (by rw [e2]; decide) (c := 12) rfl rfl rfl wd_1852 sl_X12_movedWith dX12_couldBe_45) ?_
  refine fc (ok_aload_n hB dX12_couldBe_48) ?_
  refine fc (okt_getR e1 hB hT fl_X12_102 rfl af_12_52 at_12_52 (by decide) dX12_couldBe_49) ?_
  refine fc (ok_iconst hB dX12_couldBe_52) ?_
  refine fc (ok_iload_n hB dX12_couldBe_53) ?_
  refine fc (ok_imul hB dX12_couldBe_54) ?_
  refine fc (ok_iconst hB dX12_couldBe_55) ?_
  refine fc (ok_iadd hB dX12_couldBe_56) ?_
  refine fc (okt_iaload e1 hB dX12_couldBe_57) ?_
  refine fc (ok_icmp_lt hB (t := 65) (by decide) dX12_couldBe_58) ?_
  refine fc (ok_iconst hB dX12_couldBe_61) ?_
  refine fc (ok_goto hB (t := 66) (by decide) dX12_couldBe_62) ?_
  refine fc (ok_iconst hB dX12_couldBe_65) ?_
  refine fc (ok_aload_n hB dX12_couldBe_66) ?_
  refine fc (okt_getR e1 hB hT fl_X12_102 rfl af_12_52 at_12_52 (by decide) dX12_couldBe_67) ?_
  refine fc (ok_iconst hB dX12_couldBe_70) ?_
  refine fc (ok_iload_n hB dX12_couldBe_71) ?_
  refine fc (ok_imul hB dX12_couldBe_72) ?_
  refine fc (ok_iconst hB dX12_couldBe_73) ?_
  refine fc (ok_iadd hB dX12_couldBe_74) ?_
  refine fc (okt_iaload e1 hB dX12_couldBe_75) ?_
  refine fc (ok_iconst hB dX12_couldBe_76) ?_
  refine fc (ok_icmp_ne hB (t := 84) (by decide) dX12_couldBe_77) ?_
  refine fc (ok_iconst hB dX12_couldBe_80) ?_
  refine fc (ok_goto hB (t := 85) (by decide) dX12_couldBe_81) ?_
  refine fc (ok_iconst hB dX12_couldBe_84) ?_
  refine fc (ok_icmp_eq hB (t := 90) (by decide) dX12_couldBe_85) ?_
  refine fc (ok_iconst hB dX12_couldBe_88) ?_
  refine fc (ok_zret hB dX12_couldBe_89) ?_
  refine fc (ok_iinc hB (by decide) dX12_couldBe_90) ?_
  refine fc (ok_goto hB (t := 2) (by decide) dX12_couldBe_93) ?_
  refine fc (ok_iconst hB dX12_couldBe_96) ?_
  refine fc (ok_zret hB dX12_couldBe_97) ?_
  exact fn
def inv_cdb (σ : Mem) (c t : Int) (n pc : Nat) (ls st : List AV) (σ' : Mem) : Prop := pc = 2 ∧ st = [] ∧ WF σ σ' ∧ mOk σ' ∧ ∃ k : Nat, ls = [(28, 5000), (0, c), (0, t), (0, (k : Int))] ∧ (k : Int) + n = σ 5000 53 ∧ fiP σ c t k
def w_X12_couldBe : WP := fun av σ Q => ∃ (c : Int) (t : Int), av = [(28, 5000), (0, c), (0, t)] ∧ (mX σ 5015 ∧ hwO σ ∧ 0 ≤ c ∧ c < σ 5000 29 ∧ 0 ≤ t ∧ t < min 6 (σ 5000 30) ∧ (fiP σ c t (σ 5000 53) → ∀ τ, WF σ τ → mOk τ → Q (0, 1) τ) ∧ (¬ fiP σ c t (σ 5000 53) → ∀ τ, WF σ τ → mOk τ → Q (0, 0) τ))
theorem w_X12_couldBe_e (c : Int) (t : Int) (σ : Mem) (Q : AV → Mem → Prop) : w_X12_couldBe [(28, 5000), (0, c), (0, t)] σ Q = (mX σ 5015 ∧ hwO σ ∧ 0 ≤ c ∧ c < σ 5000 29 ∧ 0 ≤ t ∧ t < min 6 (σ 5000 30) ∧ (fiP σ c t (σ 5000 53) → ∀ τ, WF σ τ → mOk τ → Q (0, 1) τ) ∧ (¬ fiP σ c t (σ 5000 53) → ∀ τ, WF σ τ → mOk τ → Q (0, 0) τ)) := by
  apply propext; constructor
  · rintro ⟨c', t', h9, hb9⟩; cases h9; exact hb9
  · intro hb9; exact ⟨c, t, rfl, hb9⟩

set_option maxRecDepth 100000 in
set_option maxHeartbeats 4000000 in
theorem s_X12_couldBe : ∀ av σ Q, w_X12_couldBe av σ Q → amCall 59 0 0 TT yX12_couldBe cX12_couldBe 4 (some .boolean) av σ Q := by
  rintro av σ Q ⟨c, t, rfl, hx, hwo, c0, c1, t0, t1, h1, h2⟩
  have t6 := Int.lt_min.mp t1
  refine am_m [2] (inv_cdb σ c t) (own := RX12) (A := look a_X12_couldBe) (fun X e1 e2 hB => o_X12_couldBe e1 e2 hB) rfl (by decide +kernel) rfl rfl ?_ ⟨60, ?_⟩ (w := 4)
  · rintro n pc ls st σ' ⟨rfl, rfl, hW, hm, k, rfl, hn, hfi⟩
    have e53 := hW.2 53 (by decide) (by decide) (by decide)
    have e24 := hW.1 5024 (by decide) (by decide) (by decide) (by decide)
    have e29 := hW.2 29 (by decide) (by decide) (by decide)
    have e28 := hW.2 28 (by decide) (by decide) (by decide)
    have e30 := hW.2 30 (by decide) (by decide) (by decide)
    have w10 := hwo.1
    have hx' := WF_mX hW hm hx
    have n29 := hx.2.1.2.2.1
    refine ⟨90, ?_⟩
    by_cases cc : (k : Int) < σ 5000 53
    · have hk := hwo.2 k (by omega) cc
      have mb := mvW_b (σ := σ) c t (σ 5024 (5 * k + 1)) (σ 5024 (5 * k + 2))
      have nx : ∀ τ, WF σ' τ → mOk τ → (σ 5024 (5 * k) = c → (σ 5024 (5 * k + 3) ≤ mvW σ c t (σ 5024 (5 * k + 1)) (σ 5024 (5 * k + 2)) ↔ σ 5024 (5 * k + 4) = 1)) → ∃ k', k' < n ∧ inv_cdb σ c t k' 2 [(28, 5000), (0, c), (0, t), (0, (k : Int) + 1)] [] τ := fun τ a b q =>
        ⟨n - 1, by omega, rfl, rfl, WF_tr hW a, b, k + 1, rfl, by omega, fun j j0 j1 => by
          by_cases e : j = k
          · rw [e]; exact q
          · exact hfi j j0 (by omega)⟩
      have no : ∀ τ, WF σ' τ → mOk τ → σ 5024 (5 * k) = c → ¬ (σ 5024 (5 * k + 3) ≤ mvW σ c t (σ 5024 (5 * k + 1)) (σ 5024 (5 * k + 2)) ↔ σ 5024 (5 * k + 4) = 1) → Q (0, 0) τ := fun τ a b q1 q2 =>
        h2 (fun z => q2 (z k (by omega) cc q1)) τ (WF_tr hW a) b
      have n0 : ¬ σ 5024 (5 * k) = c → ∃ k', k' < n ∧ inv_cdb σ c t k' 2 [(28, 5000), (0, c), (0, t), (0, (k : Int) + 1)] [] σ' := fun q => nx σ' (WF_rf σ') hm (fun z => absurd z q)
      have em : ∀ a b, mvW σ' c t a b = mvW σ c t a b := fun a b => WF_mvW hW c t a b
      have r24 : ∀ τ, WF σ' τ → τ 5024 = σ 5024 := fun τ a => by rw [a.1 5024 (by decide) (by decide) (by decide) (by decide)]; exact e24
      by_cases d : σ 5024 (5 * k) = c
      · simp only [↓reduceIte, inR_0, inR_1, inR_m, vSw2_e, swP_n, swP_c, vI_e, vL_e, vNull_e, vIload_e, vLload_e, vAload_e, vIstore_e, vLstore_e, vAstore_e, vIinc_e, vIadd_e, vIsub_e, vImul_e, vIand_e, vIor_e, vIxor_e, vIshl_e, vIshr_e, vIushr_e, vIdiv_e, vIrem_e, vLadd_e, vLsub_e, vLmul_e, vLand_e, vLor_e, vLxor_e, vLdiv_e, vLrem_e, vLushr_e, vLshl_e, vLcmp_e, vIneg_e, vI2l_e, vL2i_e, vI2b_e, vI2c_e, vDup_e, vPop_e, vDup2_e, vGoto_e, vIcEq_e, vIfEq_e, vIcNe_e, vIfNe_e, vIcLt_e, vIfLt_e, vIcGe_e, vIfGe_e, vIcGt_e, vIfGt_e, vIcLe_e, vIfLe_e, vNonnull_e, vSw_e, vGetI_e, vGetL_e, vGetR_e, vPutI_e, vPutZ_e, vPutL_e, vPutR_e, vIald_e, vIald_s, vLald_e, vBald_e, vBald_s, vAald_e, vIast_e, vLast_e, vBast_e, vAast_e, vAlen_e8, vAlen_e9, vAlen_e10, vAlen_e11, vAlen_e5, vAlen_e3, vGets_e, vCompact_e, vLdcS_e, vIret_e, vZret_e, vCret_e, vBret_e, vLret_e, vVret_e, vAret_e, vCallM_e0, vCallMV_e0, vCallS_e0, vCallSV_e0, vCallM_e1, vCallMV_e1, vCallS_e1, vCallSV_e1, vCallM_e2, vCallMV_e2, vCallS_e2, vCallSV_e2, vCallM_e3, vCallMV_e3, vCallS_e3, vCallSV_e3, vCallM_e4, vCallMV_e4, vCallS_e4, vCallSV_e4, vCallM_e5, vCallMV_e5, vCallS_e5, vCallSV_e5, vCallM_e6, vCallMV_e6, vCallS_e6, vCallSV_e6, vCallM_e7, vCallMV_e7, vCallS_e7, vCallSV_e7, vBad_e, vStrVal_e, vStrCod_e, vForm_e, vCallT_e0, vCallT_e1, vCallT_e2, vCopy_e, rf_0_0, rf_0_1, rf_0_2, rf_0_3, rf_0_4, rf_0_7, rf_0_10, rf_0_11, rf_0_12, rf_0_13, rf_0_14, rf_0_15, rf_0_16, rf_1_0, rf_3_0, rf_3_1, rf_6_0, rf_6_1, rf_9_0, rf_9_1, rf_9_3, rf_13_0, rf_13_1, rf_13_2, rf_16_0, rf_16_1, rf_16_2, rf_16_3, rf_21_0, rf_21_1, rf_21_2, rf_21_3, rf_26_0, rf_26_1, rf_26_2, rf_26_3, rf_26_4, rf_26_5, rf_26_6, rf_31_0, rf_31_2, rf_31_5, rf_31_6, rf_36_0, rf_36_1, rf_36_2, rf_36_3, rf_39_0, rf_39_1, rf_39_2, rf_41_0, rf_41_1, rf_41_2, rf_41_3, rf_5000_1, rf_5000_2, rf_5000_3, rf_5000_4, rf_5000_5, rf_5000_15, rf_5000_16, rf_5000_18, rf_5000_19, rf_5000_20, rf_5000_21, rf_5000_22, rf_5000_23, rf_5000_24, rf_5000_25, rf_5000_26, rf_5000_27, rf_5000_36, rf_5000_37, rf_5000_40, rf_5000_41, rf_5000_42, rf_5000_43, rf_5000_44, rf_5000_45, rf_5000_47, rf_5000_52, rf_5000_54, rf_5000_55, rf_100_0, rf_100_1, rf_103_0, rf_103_1, rf_106_0, rf_106_1, rf_109_0, rf_109_1, al_2, al_4, al_5, al_7, al_8, al_10, al_11, al_12, al_14, al_15, al_17, al_18, al_19, al_20, al_22, al_23, al_24, al_25, al_27, al_28, al_29, al_30, al_32, al_33, al_34, al_35, al_37, al_38, al_40, al_42, al_5001, al_5002, al_5003, al_5004, al_5005, al_5006, al_5007, al_5008, al_5009, al_5010, al_5011, al_5012, al_5013, al_5014, al_5015, al_5016, al_5017, al_5018, al_5019, al_5020, al_5021, al_5022, al_5023, al_5024, al_5025, al_5026, al_9000, al_101, al_102, al_104, al_105, al_107, al_108, al_110, al_111, vcs_e, lg_c0, lg_cs, lg_nil, set_c0, set_cs, okst_0, okst_s, acok_n, acok_c, List.contains_nil, List.contains_cons, Bool.or_false, Bool.false_or, Bool.false_eq_true, if_false, if_true, ite_self, ne_eq, true_and, and_true, not_false_eq_true, not_true_eq_false, false_imp_iff, true_imp_iff, Nat.ble_eq, Bool.and_eq_true, reduceCtorEq, or_false, false_or, or_true, true_or, false_and, and_false, and_self, Int.reduceLE, Int.reduceAdd, Int.reduceSub, Int.reduceMul, Int.reduceNeg, Int.reduceLT, Int.reduceEq, Int.reduceNe, Nat.reduceBEq, Nat.reduceBNe, Nat.reduceEqDiff, amCmp_in, amCmp_lt, amCmp_le, amCmp_gt, amCmp_ge, amCmp_eq, amCmp_ne, Nat.reduceLeDiff, Nat.reduceSub, Bool.and_true, Bool.true_and, Bool.and_self, Bool.or_true, Bool.true_or, isRf_3, isRf_4, isRf_5, isRf_8, isRf_9, isRf_10, isRf_11, isRf_15, isRf_16, isRf_17, isRf_18, isRf_19, isRf_20, isRf_21, isRf_22, isRf_23, isRf_24, isRf_25, isRf_26, isRf_27, isRf_28, k_X12_couldBe_0, k_X12_couldBe_1, k_X12_couldBe_2, k_X12_couldBe_3, k_X12_couldBe_4, k_X12_couldBe_7, k_X12_couldBe_10, k_X12_couldBe_11, k_X12_couldBe_14, k_X12_couldBe_15, k_X12_couldBe_16, k_X12_couldBe_17, k_X12_couldBe_18, k_X12_couldBe_19, k_X12_couldBe_22, k_X12_couldBe_23, k_X12_couldBe_24, k_X12_couldBe_25, k_X12_couldBe_26, k_X12_couldBe_29, k_X12_couldBe_30, k_X12_couldBe_31, k_X12_couldBe_32, k_X12_couldBe_33, k_X12_couldBe_34, k_X12_couldBe_35, k_X12_couldBe_36, k_X12_couldBe_39, k_X12_couldBe_40, k_X12_couldBe_41, k_X12_couldBe_42, k_X12_couldBe_43, k_X12_couldBe_44, k_X12_couldBe_45, k_X12_couldBe_48, k_X12_couldBe_49, k_X12_couldBe_52, k_X12_couldBe_53, k_X12_couldBe_54, k_X12_couldBe_55, k_X12_couldBe_56, k_X12_couldBe_57, k_X12_couldBe_58, k_X12_couldBe_61, k_X12_couldBe_62, k_X12_couldBe_65, k_X12_couldBe_66, k_X12_couldBe_67, k_X12_couldBe_70, k_X12_couldBe_71, k_X12_couldBe_72, k_X12_couldBe_73, k_X12_couldBe_74, k_X12_couldBe_75, k_X12_couldBe_76, k_X12_couldBe_77, k_X12_couldBe_80, k_X12_couldBe_81, k_X12_couldBe_84, k_X12_couldBe_85, k_X12_couldBe_88, k_X12_couldBe_89, k_X12_couldBe_90, k_X12_couldBe_93, k_X12_couldBe_96, k_X12_couldBe_97, w_X12_movedWith_e, e53, e24, e29, e28, e30, em, d]
        generalize mvW σ c t (σ 5024 (5 * k + 1)) (σ 5024 (5 * k + 2)) = W9 at *
        repeat' (first | assumption | exact hx' | apply And.intro | intro _)
        all_goals first | omega | exact absurd trivial (by assumption) | skip
        all_goals (have r9 := r24 _ (by assumption); simp only [r9] at *; first | omega | exact nx _ (by assumption) (by assumption) (fun _ => by omega) | exact no _ (by assumption) (by assumption) d (by omega))
      · have i8 := n0 d
        simp only [↓reduceIte, inR_0, inR_1, inR_m, vSw2_e, swP_n, swP_c, vI_e, vL_e, vNull_e, vIload_e, vLload_e, vAload_e, vIstore_e, vLstore_e, vAstore_e, vIinc_e, vIadd_e, vIsub_e, vImul_e, vIand_e, vIor_e, vIxor_e, vIshl_e, vIshr_e, vIushr_e, vIdiv_e, vIrem_e, vLadd_e, vLsub_e, vLmul_e, vLand_e, vLor_e, vLxor_e, vLdiv_e, vLrem_e, vLushr_e, vLshl_e, vLcmp_e, vIneg_e, vI2l_e, vL2i_e, vI2b_e, vI2c_e, vDup_e, vPop_e, vDup2_e, vGoto_e, vIcEq_e, vIfEq_e, vIcNe_e, vIfNe_e, vIcLt_e, vIfLt_e, vIcGe_e, vIfGe_e, vIcGt_e, vIfGt_e, vIcLe_e, vIfLe_e, vNonnull_e, vSw_e, vGetI_e, vGetL_e, vGetR_e, vPutI_e, vPutZ_e, vPutL_e, vPutR_e, vIald_e, vIald_s, vLald_e, vBald_e, vBald_s, vAald_e, vIast_e, vLast_e, vBast_e, vAast_e, vAlen_e8, vAlen_e9, vAlen_e10, vAlen_e11, vAlen_e5, vAlen_e3, vGets_e, vCompact_e, vLdcS_e, vIret_e, vZret_e, vCret_e, vBret_e, vLret_e, vVret_e, vAret_e, vCallM_e0, vCallMV_e0, vCallS_e0, vCallSV_e0, vCallM_e1, vCallMV_e1, vCallS_e1, vCallSV_e1, vCallM_e2, vCallMV_e2, vCallS_e2, vCallSV_e2, vCallM_e3, vCallMV_e3, vCallS_e3, vCallSV_e3, vCallM_e4, vCallMV_e4, vCallS_e4, vCallSV_e4, vCallM_e5, vCallMV_e5, vCallS_e5, vCallSV_e5, vCallM_e6, vCallMV_e6, vCallS_e6, vCallSV_e6, vCallM_e7, vCallMV_e7, vCallS_e7, vCallSV_e7, vBad_e, vStrVal_e, vStrCod_e, vForm_e, vCallT_e0, vCallT_e1, vCallT_e2, vCopy_e, rf_0_0, rf_0_1, rf_0_2, rf_0_3, rf_0_4, rf_0_7, rf_0_10, rf_0_11, rf_0_12, rf_0_13, rf_0_14, rf_0_15, rf_0_16, rf_1_0, rf_3_0, rf_3_1, rf_6_0, rf_6_1, rf_9_0, rf_9_1, rf_9_3, rf_13_0, rf_13_1, rf_13_2, rf_16_0, rf_16_1, rf_16_2, rf_16_3, rf_21_0, rf_21_1, rf_21_2, rf_21_3, rf_26_0, rf_26_1, rf_26_2, rf_26_3, rf_26_4, rf_26_5, rf_26_6, rf_31_0, rf_31_2, rf_31_5, rf_31_6, rf_36_0, rf_36_1, rf_36_2, rf_36_3, rf_39_0, rf_39_1, rf_39_2, rf_41_0, rf_41_1, rf_41_2, rf_41_3, rf_5000_1, rf_5000_2, rf_5000_3, rf_5000_4, rf_5000_5, rf_5000_15, rf_5000_16, rf_5000_18, rf_5000_19, rf_5000_20, rf_5000_21, rf_5000_22, rf_5000_23, rf_5000_24, rf_5000_25, rf_5000_26, rf_5000_27, rf_5000_36, rf_5000_37, rf_5000_40, rf_5000_41, rf_5000_42, rf_5000_43, rf_5000_44, rf_5000_45, rf_5000_47, rf_5000_52, rf_5000_54, rf_5000_55, rf_100_0, rf_100_1, rf_103_0, rf_103_1, rf_106_0, rf_106_1, rf_109_0, rf_109_1, al_2, al_4, al_5, al_7, al_8, al_10, al_11, al_12, al_14, al_15, al_17, al_18, al_19, al_20, al_22, al_23, al_24, al_25, al_27, al_28, al_29, al_30, al_32, al_33, al_34, al_35, al_37, al_38, al_40, al_42, al_5001, al_5002, al_5003, al_5004, al_5005, al_5006, al_5007, al_5008, al_5009, al_5010, al_5011, al_5012, al_5013, al_5014, al_5015, al_5016, al_5017, al_5018, al_5019, al_5020, al_5021, al_5022, al_5023, al_5024, al_5025, al_5026, al_9000, al_101, al_102, al_104, al_105, al_107, al_108, al_110, al_111, vcs_e, lg_c0, lg_cs, lg_nil, set_c0, set_cs, okst_0, okst_s, acok_n, acok_c, List.contains_nil, List.contains_cons, Bool.or_false, Bool.false_or, Bool.false_eq_true, if_false, if_true, ite_self, ne_eq, true_and, and_true, not_false_eq_true, not_true_eq_false, false_imp_iff, true_imp_iff, Nat.ble_eq, Bool.and_eq_true, reduceCtorEq, or_false, false_or, or_true, true_or, false_and, and_false, and_self, Int.reduceLE, Int.reduceAdd, Int.reduceSub, Int.reduceMul, Int.reduceNeg, Int.reduceLT, Int.reduceEq, Int.reduceNe, Nat.reduceBEq, Nat.reduceBNe, Nat.reduceEqDiff, amCmp_in, amCmp_lt, amCmp_le, amCmp_gt, amCmp_ge, amCmp_eq, amCmp_ne, Nat.reduceLeDiff, Nat.reduceSub, Bool.and_true, Bool.true_and, Bool.and_self, Bool.or_true, Bool.true_or, isRf_3, isRf_4, isRf_5, isRf_8, isRf_9, isRf_10, isRf_11, isRf_15, isRf_16, isRf_17, isRf_18, isRf_19, isRf_20, isRf_21, isRf_22, isRf_23, isRf_24, isRf_25, isRf_26, isRf_27, isRf_28, k_X12_couldBe_0, k_X12_couldBe_1, k_X12_couldBe_2, k_X12_couldBe_3, k_X12_couldBe_4, k_X12_couldBe_7, k_X12_couldBe_10, k_X12_couldBe_11, k_X12_couldBe_14, k_X12_couldBe_15, k_X12_couldBe_16, k_X12_couldBe_17, k_X12_couldBe_18, k_X12_couldBe_19, k_X12_couldBe_22, k_X12_couldBe_23, k_X12_couldBe_24, k_X12_couldBe_25, k_X12_couldBe_26, k_X12_couldBe_29, k_X12_couldBe_30, k_X12_couldBe_31, k_X12_couldBe_32, k_X12_couldBe_33, k_X12_couldBe_34, k_X12_couldBe_35, k_X12_couldBe_36, k_X12_couldBe_39, k_X12_couldBe_40, k_X12_couldBe_41, k_X12_couldBe_42, k_X12_couldBe_43, k_X12_couldBe_44, k_X12_couldBe_45, k_X12_couldBe_48, k_X12_couldBe_49, k_X12_couldBe_52, k_X12_couldBe_53, k_X12_couldBe_54, k_X12_couldBe_55, k_X12_couldBe_56, k_X12_couldBe_57, k_X12_couldBe_58, k_X12_couldBe_61, k_X12_couldBe_62, k_X12_couldBe_65, k_X12_couldBe_66, k_X12_couldBe_67, k_X12_couldBe_70, k_X12_couldBe_71, k_X12_couldBe_72, k_X12_couldBe_73, k_X12_couldBe_74, k_X12_couldBe_75, k_X12_couldBe_76, k_X12_couldBe_77, k_X12_couldBe_80, k_X12_couldBe_81, k_X12_couldBe_84, k_X12_couldBe_85, k_X12_couldBe_88, k_X12_couldBe_89, k_X12_couldBe_90, k_X12_couldBe_93, k_X12_couldBe_96, k_X12_couldBe_97, w_X12_movedWith_e, e53, e24, e29, e28, e30, em, d]
        repeat' (first | assumption | exact hx' | apply And.intro | intro _)
        all_goals first | omega | exact absurd trivial (by assumption) | exact i8
    · have q8 := h1 (by rw [show σ 5000 53 = k by omega]; exact hfi) σ' hW hm
      simp only [↓reduceIte, inR_0, inR_1, inR_m, vSw2_e, swP_n, swP_c, vI_e, vL_e, vNull_e, vIload_e, vLload_e, vAload_e, vIstore_e, vLstore_e, vAstore_e, vIinc_e, vIadd_e, vIsub_e, vImul_e, vIand_e, vIor_e, vIxor_e, vIshl_e, vIshr_e, vIushr_e, vIdiv_e, vIrem_e, vLadd_e, vLsub_e, vLmul_e, vLand_e, vLor_e, vLxor_e, vLdiv_e, vLrem_e, vLushr_e, vLshl_e, vLcmp_e, vIneg_e, vI2l_e, vL2i_e, vI2b_e, vI2c_e, vDup_e, vPop_e, vDup2_e, vGoto_e, vIcEq_e, vIfEq_e, vIcNe_e, vIfNe_e, vIcLt_e, vIfLt_e, vIcGe_e, vIfGe_e, vIcGt_e, vIfGt_e, vIcLe_e, vIfLe_e, vNonnull_e, vSw_e, vGetI_e, vGetL_e, vGetR_e, vPutI_e, vPutZ_e, vPutL_e, vPutR_e, vIald_e, vIald_s, vLald_e, vBald_e, vBald_s, vAald_e, vIast_e, vLast_e, vBast_e, vAast_e, vAlen_e8, vAlen_e9, vAlen_e10, vAlen_e11, vAlen_e5, vAlen_e3, vGets_e, vCompact_e, vLdcS_e, vIret_e, vZret_e, vCret_e, vBret_e, vLret_e, vVret_e, vAret_e, vCallM_e0, vCallMV_e0, vCallS_e0, vCallSV_e0, vCallM_e1, vCallMV_e1, vCallS_e1, vCallSV_e1, vCallM_e2, vCallMV_e2, vCallS_e2, vCallSV_e2, vCallM_e3, vCallMV_e3, vCallS_e3, vCallSV_e3, vCallM_e4, vCallMV_e4, vCallS_e4, vCallSV_e4, vCallM_e5, vCallMV_e5, vCallS_e5, vCallSV_e5, vCallM_e6, vCallMV_e6, vCallS_e6, vCallSV_e6, vCallM_e7, vCallMV_e7, vCallS_e7, vCallSV_e7, vBad_e, vStrVal_e, vStrCod_e, vForm_e, vCallT_e0, vCallT_e1, vCallT_e2, vCopy_e, rf_0_0, rf_0_1, rf_0_2, rf_0_3, rf_0_4, rf_0_7, rf_0_10, rf_0_11, rf_0_12, rf_0_13, rf_0_14, rf_0_15, rf_0_16, rf_1_0, rf_3_0, rf_3_1, rf_6_0, rf_6_1, rf_9_0, rf_9_1, rf_9_3, rf_13_0, rf_13_1, rf_13_2, rf_16_0, rf_16_1, rf_16_2, rf_16_3, rf_21_0, rf_21_1, rf_21_2, rf_21_3, rf_26_0, rf_26_1, rf_26_2, rf_26_3, rf_26_4, rf_26_5, rf_26_6, rf_31_0, rf_31_2, rf_31_5, rf_31_6, rf_36_0, rf_36_1, rf_36_2, rf_36_3, rf_39_0, rf_39_1, rf_39_2, rf_41_0, rf_41_1, rf_41_2, rf_41_3, rf_5000_1, rf_5000_2, rf_5000_3, rf_5000_4, rf_5000_5, rf_5000_15, rf_5000_16, rf_5000_18, rf_5000_19, rf_5000_20, rf_5000_21, rf_5000_22, rf_5000_23, rf_5000_24, rf_5000_25, rf_5000_26, rf_5000_27, rf_5000_36, rf_5000_37, rf_5000_40, rf_5000_41, rf_5000_42, rf_5000_43, rf_5000_44, rf_5000_45, rf_5000_47, rf_5000_52, rf_5000_54, rf_5000_55, rf_100_0, rf_100_1, rf_103_0, rf_103_1, rf_106_0, rf_106_1, rf_109_0, rf_109_1, al_2, al_4, al_5, al_7, al_8, al_10, al_11, al_12, al_14, al_15, al_17, al_18, al_19, al_20, al_22, al_23, al_24, al_25, al_27, al_28, al_29, al_30, al_32, al_33, al_34, al_35, al_37, al_38, al_40, al_42, al_5001, al_5002, al_5003, al_5004, al_5005, al_5006, al_5007, al_5008, al_5009, al_5010, al_5011, al_5012, al_5013, al_5014, al_5015, al_5016, al_5017, al_5018, al_5019, al_5020, al_5021, al_5022, al_5023, al_5024, al_5025, al_5026, al_9000, al_101, al_102, al_104, al_105, al_107, al_108, al_110, al_111, vcs_e, lg_c0, lg_cs, lg_nil, set_c0, set_cs, okst_0, okst_s, acok_n, acok_c, List.contains_nil, List.contains_cons, Bool.or_false, Bool.false_or, Bool.false_eq_true, if_false, if_true, ite_self, ne_eq, true_and, and_true, not_false_eq_true, not_true_eq_false, false_imp_iff, true_imp_iff, Nat.ble_eq, Bool.and_eq_true, reduceCtorEq, or_false, false_or, or_true, true_or, false_and, and_false, and_self, Int.reduceLE, Int.reduceAdd, Int.reduceSub, Int.reduceMul, Int.reduceNeg, Int.reduceLT, Int.reduceEq, Int.reduceNe, Nat.reduceBEq, Nat.reduceBNe, Nat.reduceEqDiff, amCmp_in, amCmp_lt, amCmp_le, amCmp_gt, amCmp_ge, amCmp_eq, amCmp_ne, Nat.reduceLeDiff, Nat.reduceSub, Bool.and_true, Bool.true_and, Bool.and_self, Bool.or_true, Bool.true_or, isRf_3, isRf_4, isRf_5, isRf_8, isRf_9, isRf_10, isRf_11, isRf_15, isRf_16, isRf_17, isRf_18, isRf_19, isRf_20, isRf_21, isRf_22, isRf_23, isRf_24, isRf_25, isRf_26, isRf_27, isRf_28, k_X12_couldBe_0, k_X12_couldBe_1, k_X12_couldBe_2, k_X12_couldBe_3, k_X12_couldBe_4, k_X12_couldBe_7, k_X12_couldBe_10, k_X12_couldBe_11, k_X12_couldBe_14, k_X12_couldBe_15, k_X12_couldBe_16, k_X12_couldBe_17, k_X12_couldBe_18, k_X12_couldBe_19, k_X12_couldBe_22, k_X12_couldBe_23, k_X12_couldBe_24, k_X12_couldBe_25, k_X12_couldBe_26, k_X12_couldBe_29, k_X12_couldBe_30, k_X12_couldBe_31, k_X12_couldBe_32, k_X12_couldBe_33, k_X12_couldBe_34, k_X12_couldBe_35, k_X12_couldBe_36, k_X12_couldBe_39, k_X12_couldBe_40, k_X12_couldBe_41, k_X12_couldBe_42, k_X12_couldBe_43, k_X12_couldBe_44, k_X12_couldBe_45, k_X12_couldBe_48, k_X12_couldBe_49, k_X12_couldBe_52, k_X12_couldBe_53, k_X12_couldBe_54, k_X12_couldBe_55, k_X12_couldBe_56, k_X12_couldBe_57, k_X12_couldBe_58, k_X12_couldBe_61, k_X12_couldBe_62, k_X12_couldBe_65, k_X12_couldBe_66, k_X12_couldBe_67, k_X12_couldBe_70, k_X12_couldBe_71, k_X12_couldBe_72, k_X12_couldBe_73, k_X12_couldBe_74, k_X12_couldBe_75, k_X12_couldBe_76, k_X12_couldBe_77, k_X12_couldBe_80, k_X12_couldBe_81, k_X12_couldBe_84, k_X12_couldBe_85, k_X12_couldBe_88, k_X12_couldBe_89, k_X12_couldBe_90, k_X12_couldBe_93, k_X12_couldBe_96, k_X12_couldBe_97, e53]
      repeat' (first | apply And.intro | intro _)
      all_goals first | omega | exact absurd trivial (by assumption) | exact q8
  · change vcs _ _ _ _ 60 0 [(28, 5000), (0, c), (0, t), (6, 0)] [] σ
    have w10 := hwo.1
    have i9 : ∃ k', inv_cdb σ c t k' 2 [(28, 5000), (0, c), (0, t), (0, 0)] [] σ := ⟨(σ 5000 53).toNat, rfl, rfl, WF_rf σ, hx.2.1.1, 0, rfl, by omega, fun j j0 j1 => by omega⟩
    simp only [↓reduceIte, inR_0, inR_1, inR_m, vSw2_e, swP_n, swP_c, vI_e, vL_e, vNull_e, vIload_e, vLload_e, vAload_e, vIstore_e, vLstore_e, vAstore_e, vIinc_e, vIadd_e, vIsub_e, vImul_e, vIand_e, vIor_e, vIxor_e, vIshl_e, vIshr_e, vIushr_e, vIdiv_e, vIrem_e, vLadd_e, vLsub_e, vLmul_e, vLand_e, vLor_e, vLxor_e, vLdiv_e, vLrem_e, vLushr_e, vLshl_e, vLcmp_e, vIneg_e, vI2l_e, vL2i_e, vI2b_e, vI2c_e, vDup_e, vPop_e, vDup2_e, vGoto_e, vIcEq_e, vIfEq_e, vIcNe_e, vIfNe_e, vIcLt_e, vIfLt_e, vIcGe_e, vIfGe_e, vIcGt_e, vIfGt_e, vIcLe_e, vIfLe_e, vNonnull_e, vSw_e, vGetI_e, vGetL_e, vGetR_e, vPutI_e, vPutZ_e, vPutL_e, vPutR_e, vIald_e, vIald_s, vLald_e, vBald_e, vBald_s, vAald_e, vIast_e, vLast_e, vBast_e, vAast_e, vAlen_e8, vAlen_e9, vAlen_e10, vAlen_e11, vAlen_e5, vAlen_e3, vGets_e, vCompact_e, vLdcS_e, vIret_e, vZret_e, vCret_e, vBret_e, vLret_e, vVret_e, vAret_e, vCallM_e0, vCallMV_e0, vCallS_e0, vCallSV_e0, vCallM_e1, vCallMV_e1, vCallS_e1, vCallSV_e1, vCallM_e2, vCallMV_e2, vCallS_e2, vCallSV_e2, vCallM_e3, vCallMV_e3, vCallS_e3, vCallSV_e3, vCallM_e4, vCallMV_e4, vCallS_e4, vCallSV_e4, vCallM_e5, vCallMV_e5, vCallS_e5, vCallSV_e5, vCallM_e6, vCallMV_e6, vCallS_e6, vCallSV_e6, vCallM_e7, vCallMV_e7, vCallS_e7, vCallSV_e7, vBad_e, vStrVal_e, vStrCod_e, vForm_e, vCallT_e0, vCallT_e1, vCallT_e2, vCopy_e, rf_0_0, rf_0_1, rf_0_2, rf_0_3, rf_0_4, rf_0_7, rf_0_10, rf_0_11, rf_0_12, rf_0_13, rf_0_14, rf_0_15, rf_0_16, rf_1_0, rf_3_0, rf_3_1, rf_6_0, rf_6_1, rf_9_0, rf_9_1, rf_9_3, rf_13_0, rf_13_1, rf_13_2, rf_16_0, rf_16_1, rf_16_2, rf_16_3, rf_21_0, rf_21_1, rf_21_2, rf_21_3, rf_26_0, rf_26_1, rf_26_2, rf_26_3, rf_26_4, rf_26_5, rf_26_6, rf_31_0, rf_31_2, rf_31_5, rf_31_6, rf_36_0, rf_36_1, rf_36_2, rf_36_3, rf_39_0, rf_39_1, rf_39_2, rf_41_0, rf_41_1, rf_41_2, rf_41_3, rf_5000_1, rf_5000_2, rf_5000_3, rf_5000_4, rf_5000_5, rf_5000_15, rf_5000_16, rf_5000_18, rf_5000_19, rf_5000_20, rf_5000_21, rf_5000_22, rf_5000_23, rf_5000_24, rf_5000_25, rf_5000_26, rf_5000_27, rf_5000_36, rf_5000_37, rf_5000_40, rf_5000_41, rf_5000_42, rf_5000_43, rf_5000_44, rf_5000_45, rf_5000_47, rf_5000_52, rf_5000_54, rf_5000_55, rf_100_0, rf_100_1, rf_103_0, rf_103_1, rf_106_0, rf_106_1, rf_109_0, rf_109_1, al_2, al_4, al_5, al_7, al_8, al_10, al_11, al_12, al_14, al_15, al_17, al_18, al_19, al_20, al_22, al_23, al_24, al_25, al_27, al_28, al_29, al_30, al_32, al_33, al_34, al_35, al_37, al_38, al_40, al_42, al_5001, al_5002, al_5003, al_5004, al_5005, al_5006, al_5007, al_5008, al_5009, al_5010, al_5011, al_5012, al_5013, al_5014, al_5015, al_5016, al_5017, al_5018, al_5019, al_5020, al_5021, al_5022, al_5023, al_5024, al_5025, al_5026, al_9000, al_101, al_102, al_104, al_105, al_107, al_108, al_110, al_111, vcs_e, lg_c0, lg_cs, lg_nil, set_c0, set_cs, okst_0, okst_s, acok_n, acok_c, List.contains_nil, List.contains_cons, Bool.or_false, Bool.false_or, Bool.false_eq_true, if_false, if_true, ite_self, ne_eq, true_and, and_true, not_false_eq_true, not_true_eq_false, false_imp_iff, true_imp_iff, Nat.ble_eq, Bool.and_eq_true, reduceCtorEq, or_false, false_or, or_true, true_or, false_and, and_false, and_self, Int.reduceLE, Int.reduceAdd, Int.reduceSub, Int.reduceMul, Int.reduceNeg, Int.reduceLT, Int.reduceEq, Int.reduceNe, Nat.reduceBEq, Nat.reduceBNe, Nat.reduceEqDiff, amCmp_in, amCmp_lt, amCmp_le, amCmp_gt, amCmp_ge, amCmp_eq, amCmp_ne, Nat.reduceLeDiff, Nat.reduceSub, Bool.and_true, Bool.true_and, Bool.and_self, Bool.or_true, Bool.true_or, isRf_3, isRf_4, isRf_5, isRf_8, isRf_9, isRf_10, isRf_11, isRf_15, isRf_16, isRf_17, isRf_18, isRf_19, isRf_20, isRf_21, isRf_22, isRf_23, isRf_24, isRf_25, isRf_26, isRf_27, isRf_28, k_X12_couldBe_0, k_X12_couldBe_1, k_X12_couldBe_2, k_X12_couldBe_3, k_X12_couldBe_4, k_X12_couldBe_7, k_X12_couldBe_10, k_X12_couldBe_11, k_X12_couldBe_14, k_X12_couldBe_15, k_X12_couldBe_16, k_X12_couldBe_17, k_X12_couldBe_18, k_X12_couldBe_19, k_X12_couldBe_22, k_X12_couldBe_23, k_X12_couldBe_24, k_X12_couldBe_25, k_X12_couldBe_26, k_X12_couldBe_29, k_X12_couldBe_30, k_X12_couldBe_31, k_X12_couldBe_32, k_X12_couldBe_33, k_X12_couldBe_34, k_X12_couldBe_35, k_X12_couldBe_36, k_X12_couldBe_39, k_X12_couldBe_40, k_X12_couldBe_41, k_X12_couldBe_42, k_X12_couldBe_43, k_X12_couldBe_44, k_X12_couldBe_45, k_X12_couldBe_48, k_X12_couldBe_49, k_X12_couldBe_52, k_X12_couldBe_53, k_X12_couldBe_54, k_X12_couldBe_55, k_X12_couldBe_56, k_X12_couldBe_57, k_X12_couldBe_58, k_X12_couldBe_61, k_X12_couldBe_62, k_X12_couldBe_65, k_X12_couldBe_66, k_X12_couldBe_67, k_X12_couldBe_70, k_X12_couldBe_71, k_X12_couldBe_72, k_X12_couldBe_73, k_X12_couldBe_74, k_X12_couldBe_75, k_X12_couldBe_76, k_X12_couldBe_77, k_X12_couldBe_80, k_X12_couldBe_81, k_X12_couldBe_84, k_X12_couldBe_85, k_X12_couldBe_88, k_X12_couldBe_89, k_X12_couldBe_90, k_X12_couldBe_93, k_X12_couldBe_96, k_X12_couldBe_97]
    repeat' (first | apply And.intro | intro _)
    all_goals first | omega | exact absurd trivial (by assumption) | exact i9
noncomputable def fiB (σ : Mem) (c : Int) : Int → Bool := fun t => @decide (fiP σ c t (σ 5000 53)) (Classical.propDecidable _)
theorem fiB_t {σ : Mem} {c t : Int} (h : fiP σ c t (σ 5000 53)) : fiB σ c t = true := by unfold fiB; exact @decide_eq_true _ (Classical.propDecidable _) h
theorem fiB_f {σ : Mem} {c t : Int} (h : ¬ fiP σ c t (σ 5000 53)) : fiB σ c t = false := by unfold fiB; exact @decide_eq_false _ (Classical.propDecidable _) h
theorem WF_fiP {σ τ : Mem} (h : WF σ τ) (c t n : Int) : fiP τ c t n = fiP σ c t n := by
  unfold fiP
  simp only [h.1 5024 (by decide) (by decide) (by decide) (by decide), WF_mvW h]
theorem WF_hwO {σ τ : Mem} (h : WF σ τ) (hw : hwO σ) : hwO τ := by
  unfold hwO
  rw [h.1 5024 (by decide) (by decide) (by decide) (by decide), h.2 53 (by decide) (by decide) (by decide), h.2 28 (by decide) (by decide) (by decide)]; exact hw
theorem wd_1846 : Cond.methodLink RX12 455 yX12_couldBe ∈ TBL := tb_tab (List.mem_of_getElem? (i := 1846) (by decide +kernel)) rfl
theorem wd_1849 : Cond.code yX12_couldBe cX12_couldBe 4 (some .boolean) ∈ TBL := tb_tab (List.mem_of_getElem? (i := 1849) (by decide +kernel)) rfl
theorem lk_X12_455 : amLk RX12 455 yX12_couldBe cX12_couldBe 4 (some .boolean) 2 := ⟨wd_1846, wd_12, wd_1849, by decide +kernel, by decide +kernel, by decide⟩
theorem wd_1848 : Cond.instanceMethod yX12_couldBe ∈ TBL := tb_tab (List.mem_of_getElem? (i := 1848) (by decide +kernel)) rfl
theorem sl_X12_couldBe : Cond.selects RX12 yX12_couldBe yX12_couldBe ∈ TBL := tb_sel (List.mem_of_getElem? (i := 94) (by decide +kernel)) rfl
def a_X12_whoseBits : AC := [(0, vI 0 1), (1, vIstore 2 2), (2, vI 0 3), (3, vIstore 3 4), (4, vIload 3 5), (5, vAload 0 6), (6, vGetI 28 30 9), (9, vIcGe 37 12), (12, vIload 2 13), (13, vAload 0 14), (14, vIload 1 15), (15, vIload 3 16), (16, vCallM w_X12_couldBe 28 2 19), (19, vIfEq 28 22), (22, vI 1 23), (23, vIload 3 24), (24, vIshl 25), (25, vGoto 29), (28, vI 0 29), (29, vIor 30), (30, vIstore 2 31), (31, vIinc 3 1 34), (34, vGoto 4), (37, vIload 2 38), (38, vIret)]
theorem k_X12_whoseBits_0 : look a_X12_whoseBits 0 = vI 0 1 := rfl
theorem k_X12_whoseBits_1 : look a_X12_whoseBits 1 = vIstore 2 2 := rfl
theorem k_X12_whoseBits_2 : look a_X12_whoseBits 2 = vI 0 3 := rfl
theorem k_X12_whoseBits_3 : look a_X12_whoseBits 3 = vIstore 3 4 := rfl
theorem k_X12_whoseBits_4 : look a_X12_whoseBits 4 = vIload 3 5 := rfl
theorem k_X12_whoseBits_5 : look a_X12_whoseBits 5 = vAload 0 6 := rfl
theorem k_X12_whoseBits_6 : look a_X12_whoseBits 6 = vGetI 28 30 9 := rfl
theorem k_X12_whoseBits_9 : look a_X12_whoseBits 9 = vIcGe 37 12 := rfl
theorem k_X12_whoseBits_12 : look a_X12_whoseBits 12 = vIload 2 13 := rfl
theorem k_X12_whoseBits_13 : look a_X12_whoseBits 13 = vAload 0 14 := rfl
theorem k_X12_whoseBits_14 : look a_X12_whoseBits 14 = vIload 1 15 := rfl
theorem k_X12_whoseBits_15 : look a_X12_whoseBits 15 = vIload 3 16 := rfl
theorem k_X12_whoseBits_16 : look a_X12_whoseBits 16 = vCallM w_X12_couldBe 28 2 19 := rfl
theorem k_X12_whoseBits_19 : look a_X12_whoseBits 19 = vIfEq 28 22 := rfl
theorem k_X12_whoseBits_22 : look a_X12_whoseBits 22 = vI 1 23 := rfl
theorem k_X12_whoseBits_23 : look a_X12_whoseBits 23 = vIload 3 24 := rfl
theorem k_X12_whoseBits_24 : look a_X12_whoseBits 24 = vIshl 25 := rfl
theorem k_X12_whoseBits_25 : look a_X12_whoseBits 25 = vGoto 29 := rfl
theorem k_X12_whoseBits_28 : look a_X12_whoseBits 28 = vI 0 29 := rfl
theorem k_X12_whoseBits_29 : look a_X12_whoseBits 29 = vIor 30 := rfl
theorem k_X12_whoseBits_30 : look a_X12_whoseBits 30 = vIstore 2 31 := rfl
theorem k_X12_whoseBits_31 : look a_X12_whoseBits 31 = vIinc 3 1 34 := rfl
theorem k_X12_whoseBits_34 : look a_X12_whoseBits 34 = vGoto 4 := rfl
theorem k_X12_whoseBits_37 : look a_X12_whoseBits 37 = vIload 2 38 := rfl
theorem k_X12_whoseBits_38 : look a_X12_whoseBits 38 = vIret := rfl
theorem o_X12_whoseBits {X : amX} (e1 : XT X = TT) (e2 : XD X = 60) (hB : amB X RX12 cX12_whoseBits (some .int) 4) : ∀ pc, amOK X pc (look a_X12_whoseBits pc) := by
  have hT : amTok (XT X) := e1 ▸ TT_ok
  refine look_ok ?_
  unfold a_X12_whoseBits
  refine fc (ok_iconst hB dX12_whoseBits_0) ?_
  refine fc (ok_istore_n hB (by decide) dX12_whoseBits_1) ?_
  refine fc (ok_iconst hB dX12_whoseBits_2) ?_
  refine fc (ok_istore_n hB (by decide) dX12_whoseBits_3) ?_
  refine fc (ok_iload_n hB dX12_whoseBits_4) ?_
  refine fc (ok_aload_n hB dX12_whoseBits_5) ?_
  refine fc (ok_getI hB hT fl_X12_320 rfl rfl (Or.inl af_12_30) dX12_whoseBits_6) ?_
  refine fc (ok_icmp_ge hB (t := 37) (by decide) dX12_whoseBits_9) ?_
  refine fc (ok_iload_n hB dX12_whoseBits_12) ?_
  refine fc (ok_aload_n hB dX12_whoseBits_13) ?_
  refine fc (ok_iload_n hB dX12_whoseBits_14) ?_
  refine fc (ok_iload_n hB dX12_whoseBits_15) ?_
  refine fc (ok_callM hB hT (e1 ▸ s_X12_couldBe) lk_X12_455 (by rw [e2]; decide) (c := 12) rfl rfl rfl wd_1848 sl_X12_couldBe dX12_whoseBits_16) ?_
  refine fc (ok_if_eq hB (t := 28) (by decide) dX12_whoseBits_19) ?_
  refine fc (ok_iconst hB dX12_whoseBits_22) ?_
  refine fc (ok_iload_n hB dX12_whoseBits_23) ?_
  refine fc (ok_ishl hB dX12_whoseBits_24) ?_
  refine fc (ok_goto hB (t := 29) (by decide) dX12_whoseBits_25) ?_
  refine fc (ok_iconst hB dX12_whoseBits_28) ?_
  refine fc (ok_ior hB dX12_whoseBits_29) ?_
  refine fc (ok_istore_n hB (by decide) dX12_whoseBits_30) ?_
  refine fc (ok_iinc hB (by decide) dX12_whoseBits_31) ?_
  refine fc (ok_goto hB (t := 4) (by decide) dX12_whoseBits_34) ?_
  refine fc (ok_iload_n hB dX12_whoseBits_37) ?_
  refine fc (ok_iret hB dX12_whoseBits_38) ?_
  exact fn
def inv_whb (σ : Mem) (c : Int) (n pc : Nat) (ls st : List AV) (σ' : Mem) : Prop := pc = 4 ∧ st = [] ∧ WF σ σ' ∧ mOk σ' ∧ ∃ k : Nat, ls = [(28, 5000), (0, c), (0, gb (fiB σ c) k), (0, (k : Int))] ∧ (k : Int) + n = σ 5000 30
def w_X12_whoseBits : WP := fun av σ Q => ∃ (c : Int), av = [(28, 5000), (0, c)] ∧ (mX σ 5015 ∧ hwO σ ∧ 0 ≤ c ∧ c < σ 5000 29 ∧ (∀ τ, WF σ τ → mOk τ → Q (0, gb (fiB σ c) (σ 5000 30).toNat) τ))
theorem w_X12_whoseBits_e (c : Int) (σ : Mem) (Q : AV → Mem → Prop) : w_X12_whoseBits [(28, 5000), (0, c)] σ Q = (mX σ 5015 ∧ hwO σ ∧ 0 ≤ c ∧ c < σ 5000 29 ∧ (∀ τ, WF σ τ → mOk τ → Q (0, gb (fiB σ c) (σ 5000 30).toNat) τ)) := by
  apply propext; constructor
  · rintro ⟨c', h9, hb9⟩; cases h9; exact hb9
  · intro hb9; exact ⟨c, rfl, hb9⟩

set_option maxRecDepth 100000 in
set_option maxHeartbeats 4000000 in
theorem s_X12_whoseBits : ∀ av σ Q, w_X12_whoseBits av σ Q → amCall 60 0 0 TT yX12_whoseBits cX12_whoseBits 4 (some .int) av σ Q := by
  rintro av σ Q ⟨c, rfl, hx, hwo, c0, c1, h⟩
  have n30 := hx.2.1.2.2.2.1
  refine am_m [4] (inv_whb σ c) (own := RX12) (A := look a_X12_whoseBits) (fun X e1 e2 hB => o_X12_whoseBits e1 e2 hB) rfl (by decide +kernel) rfl rfl ?_ ⟨60, ?_⟩ (w := 4)
  · rintro n pc ls st σ' ⟨rfl, rfl, hW, hm, k, rfl, hn⟩
    have e53 := hW.2 53 (by decide) (by decide) (by decide)
    have e29 := hW.2 29 (by decide) (by decide) (by decide)
    have e30 := hW.2 30 (by decide) (by decide) (by decide)
    have hx' := WF_mX hW hm hx
    have hwo' := WF_hwO hW hwo
    refine ⟨60, ?_⟩
    by_cases cc : (k : Int) < σ 5000 30
    · have hb := gb_b (fiB σ c) k
      have h64 := gb_64 (fiB σ c) (n := k) (by omega)
      have e : gb (fiB σ c) (k + 1) = gb (fiB σ c) k + if fiB σ c k = true then 2 ^ k else 0 := rfl
      have b6 := bor6' (i := k) (by omega) hb.1 hb.2
      have bz := bor_z h64.1 h64.2
      have ef : fiP σ' c k (σ' 5000 53) = fiP σ c k (σ 5000 53) := by rw [WF_fiP hW, e53]
      rw [e53] at ef
      have i9 : ∀ τ v, WF σ' τ → mOk τ → v = gb (fiB σ c) (k + 1) → ∃ k', k' < n ∧ inv_whb σ c k' 4 [(28, 5000), (0, c), (0, v), (0, (k : Int) + 1)] [] τ := fun τ v a b q => ⟨n - 1, by omega, rfl, rfl, WF_tr hW a, b, k + 1, by rw [q]; rfl, by omega⟩
      have i1 : ∀ τ, fiP σ c k (σ 5000 53) → WF σ' τ → mOk τ → _ := fun τ q a b => i9 τ (gb (fiB σ c) k + 2 ^ k) a b (by rw [e, fiB_t q, if_pos rfl])
      have i2 : ∀ τ, ¬ fiP σ c k (σ 5000 53) → WF σ' τ → mOk τ → _ := fun τ q a b => i9 τ (gb (fiB σ c) k) a b (by rw [e, fiB_f q, if_neg (by decide), Int.add_zero])
      simp only [↓reduceIte, inR_0, inR_1, inR_m, vSw2_e, swP_n, swP_c, vI_e, vL_e, vNull_e, vIload_e, vLload_e, vAload_e, vIstore_e, vLstore_e, vAstore_e, vIinc_e, vIadd_e, vIsub_e, vImul_e, vIand_e, vIor_e, vIxor_e, vIshl_e, vIshr_e, vIushr_e, vIdiv_e, vIrem_e, vLadd_e, vLsub_e, vLmul_e, vLand_e, vLor_e, vLxor_e, vLdiv_e, vLrem_e, vLushr_e, vLshl_e, vLcmp_e, vIneg_e, vI2l_e, vL2i_e, vI2b_e, vI2c_e, vDup_e, vPop_e, vDup2_e, vGoto_e, vIcEq_e, vIfEq_e, vIcNe_e, vIfNe_e, vIcLt_e, vIfLt_e, vIcGe_e, vIfGe_e, vIcGt_e, vIfGt_e, vIcLe_e, vIfLe_e, vNonnull_e, vSw_e, vGetI_e, vGetL_e, vGetR_e, vPutI_e, vPutZ_e, vPutL_e, vPutR_e, vIald_e, vIald_s, vLald_e, vBald_e, vBald_s, vAald_e, vIast_e, vLast_e, vBast_e, vAast_e, vAlen_e8, vAlen_e9, vAlen_e10, vAlen_e11, vAlen_e5, vAlen_e3, vGets_e, vCompact_e, vLdcS_e, vIret_e, vZret_e, vCret_e, vBret_e, vLret_e, vVret_e, vAret_e, vCallM_e0, vCallMV_e0, vCallS_e0, vCallSV_e0, vCallM_e1, vCallMV_e1, vCallS_e1, vCallSV_e1, vCallM_e2, vCallMV_e2, vCallS_e2, vCallSV_e2, vCallM_e3, vCallMV_e3, vCallS_e3, vCallSV_e3, vCallM_e4, vCallMV_e4, vCallS_e4, vCallSV_e4, vCallM_e5, vCallMV_e5, vCallS_e5, vCallSV_e5, vCallM_e6, vCallMV_e6, vCallS_e6, vCallSV_e6, vCallM_e7, vCallMV_e7, vCallS_e7, vCallSV_e7, vBad_e, vStrVal_e, vStrCod_e, vForm_e, vCallT_e0, vCallT_e1, vCallT_e2, vCopy_e, rf_0_0, rf_0_1, rf_0_2, rf_0_3, rf_0_4, rf_0_7, rf_0_10, rf_0_11, rf_0_12, rf_0_13, rf_0_14, rf_0_15, rf_0_16, rf_1_0, rf_3_0, rf_3_1, rf_6_0, rf_6_1, rf_9_0, rf_9_1, rf_9_3, rf_13_0, rf_13_1, rf_13_2, rf_16_0, rf_16_1, rf_16_2, rf_16_3, rf_21_0, rf_21_1, rf_21_2, rf_21_3, rf_26_0, rf_26_1, rf_26_2, rf_26_3, rf_26_4, rf_26_5, rf_26_6, rf_31_0, rf_31_2, rf_31_5, rf_31_6, rf_36_0, rf_36_1, rf_36_2, rf_36_3, rf_39_0, rf_39_1, rf_39_2, rf_41_0, rf_41_1, rf_41_2, rf_41_3, rf_5000_1, rf_5000_2, rf_5000_3, rf_5000_4, rf_5000_5, rf_5000_15, rf_5000_16, rf_5000_18, rf_5000_19, rf_5000_20, rf_5000_21, rf_5000_22, rf_5000_23, rf_5000_24, rf_5000_25, rf_5000_26, rf_5000_27, rf_5000_36, rf_5000_37, rf_5000_40, rf_5000_41, rf_5000_42, rf_5000_43, rf_5000_44, rf_5000_45, rf_5000_47, rf_5000_52, rf_5000_54, rf_5000_55, rf_100_0, rf_100_1, rf_103_0, rf_103_1, rf_106_0, rf_106_1, rf_109_0, rf_109_1, al_2, al_4, al_5, al_7, al_8, al_10, al_11, al_12, al_14, al_15, al_17, al_18, al_19, al_20, al_22, al_23, al_24, al_25, al_27, al_28, al_29, al_30, al_32, al_33, al_34, al_35, al_37, al_38, al_40, al_42, al_5001, al_5002, al_5003, al_5004, al_5005, al_5006, al_5007, al_5008, al_5009, al_5010, al_5011, al_5012, al_5013, al_5014, al_5015, al_5016, al_5017, al_5018, al_5019, al_5020, al_5021, al_5022, al_5023, al_5024, al_5025, al_5026, al_9000, al_101, al_102, al_104, al_105, al_107, al_108, al_110, al_111, vcs_e, lg_c0, lg_cs, lg_nil, set_c0, set_cs, okst_0, okst_s, acok_n, acok_c, List.contains_nil, List.contains_cons, Bool.or_false, Bool.false_or, Bool.false_eq_true, if_false, if_true, ite_self, ne_eq, true_and, and_true, not_false_eq_true, not_true_eq_false, false_imp_iff, true_imp_iff, Nat.ble_eq, Bool.and_eq_true, reduceCtorEq, or_false, false_or, or_true, true_or, false_and, and_false, and_self, Int.reduceLE, Int.reduceAdd, Int.reduceSub, Int.reduceMul, Int.reduceNeg, Int.reduceLT, Int.reduceEq, Int.reduceNe, Nat.reduceBEq, Nat.reduceBNe, Nat.reduceEqDiff, amCmp_in, amCmp_lt, amCmp_le, amCmp_gt, amCmp_ge, amCmp_eq, amCmp_ne, Nat.reduceLeDiff, Nat.reduceSub, Bool.and_true, Bool.true_and, Bool.and_self, Bool.or_true, Bool.true_or, isRf_3, isRf_4, isRf_5, isRf_8, isRf_9, isRf_10, isRf_11, isRf_15, isRf_16, isRf_17, isRf_18, isRf_19, isRf_20, isRf_21, isRf_22, isRf_23, isRf_24, isRf_25, isRf_26, isRf_27, isRf_28, k_X12_whoseBits_0, k_X12_whoseBits_1, k_X12_whoseBits_2, k_X12_whoseBits_3, k_X12_whoseBits_4, k_X12_whoseBits_5, k_X12_whoseBits_6, k_X12_whoseBits_9, k_X12_whoseBits_12, k_X12_whoseBits_13, k_X12_whoseBits_14, k_X12_whoseBits_15, k_X12_whoseBits_16, k_X12_whoseBits_19, k_X12_whoseBits_22, k_X12_whoseBits_23, k_X12_whoseBits_24, k_X12_whoseBits_25, k_X12_whoseBits_28, k_X12_whoseBits_29, k_X12_whoseBits_30, k_X12_whoseBits_31, k_X12_whoseBits_34, k_X12_whoseBits_37, k_X12_whoseBits_38, w_X12_couldBe_e, e30, e29, e53, ef, b6, bz]
      repeat' (first | assumption | exact hx' | exact hwo' | apply And.intro | intro _)
      all_goals first | omega | exact absurd trivial (by assumption) | exact i1 _ (by assumption) (by assumption) (by assumption) | exact i2 _ (by assumption) (by assumption) (by assumption)
    · have q8 := h σ' hW hm
      rw [show (σ 5000 30).toNat = k by omega] at q8
      simp only [↓reduceIte, inR_0, inR_1, inR_m, vSw2_e, swP_n, swP_c, vI_e, vL_e, vNull_e, vIload_e, vLload_e, vAload_e, vIstore_e, vLstore_e, vAstore_e, vIinc_e, vIadd_e, vIsub_e, vImul_e, vIand_e, vIor_e, vIxor_e, vIshl_e, vIshr_e, vIushr_e, vIdiv_e, vIrem_e, vLadd_e, vLsub_e, vLmul_e, vLand_e, vLor_e, vLxor_e, vLdiv_e, vLrem_e, vLushr_e, vLshl_e, vLcmp_e, vIneg_e, vI2l_e, vL2i_e, vI2b_e, vI2c_e, vDup_e, vPop_e, vDup2_e, vGoto_e, vIcEq_e, vIfEq_e, vIcNe_e, vIfNe_e, vIcLt_e, vIfLt_e, vIcGe_e, vIfGe_e, vIcGt_e, vIfGt_e, vIcLe_e, vIfLe_e, vNonnull_e, vSw_e, vGetI_e, vGetL_e, vGetR_e, vPutI_e, vPutZ_e, vPutL_e, vPutR_e, vIald_e, vIald_s, vLald_e, vBald_e, vBald_s, vAald_e, vIast_e, vLast_e, vBast_e, vAast_e, vAlen_e8, vAlen_e9, vAlen_e10, vAlen_e11, vAlen_e5, vAlen_e3, vGets_e, vCompact_e, vLdcS_e, vIret_e, vZret_e, vCret_e, vBret_e, vLret_e, vVret_e, vAret_e, vCallM_e0, vCallMV_e0, vCallS_e0, vCallSV_e0, vCallM_e1, vCallMV_e1, vCallS_e1, vCallSV_e1, vCallM_e2, vCallMV_e2, vCallS_e2, vCallSV_e2, vCallM_e3, vCallMV_e3, vCallS_e3, vCallSV_e3, vCallM_e4, vCallMV_e4, vCallS_e4, vCallSV_e4, vCallM_e5, vCallMV_e5, vCallS_e5, vCallSV_e5, vCallM_e6, vCallMV_e6, vCallS_e6, vCallSV_e6, vCallM_e7, vCallMV_e7, vCallS_e7, vCallSV_e7, vBad_e, vStrVal_e, vStrCod_e, vForm_e, vCallT_e0, vCallT_e1, vCallT_e2, vCopy_e, rf_0_0, rf_0_1, rf_0_2, rf_0_3, rf_0_4, rf_0_7, rf_0_10, rf_0_11, rf_0_12, rf_0_13, rf_0_14, rf_0_15, rf_0_16, rf_1_0, rf_3_0, rf_3_1, rf_6_0, rf_6_1, rf_9_0, rf_9_1, rf_9_3, rf_13_0, rf_13_1, rf_13_2, rf_16_0, rf_16_1, rf_16_2, rf_16_3, rf_21_0, rf_21_1, rf_21_2, rf_21_3, rf_26_0, rf_26_1, rf_26_2, rf_26_3, rf_26_4, rf_26_5, rf_26_6, rf_31_0, rf_31_2, rf_31_5, rf_31_6, rf_36_0, rf_36_1, rf_36_2, rf_36_3, rf_39_0, rf_39_1, rf_39_2, rf_41_0, rf_41_1, rf_41_2, rf_41_3, rf_5000_1, rf_5000_2, rf_5000_3, rf_5000_4, rf_5000_5, rf_5000_15, rf_5000_16, rf_5000_18, rf_5000_19, rf_5000_20, rf_5000_21, rf_5000_22, rf_5000_23, rf_5000_24, rf_5000_25, rf_5000_26, rf_5000_27, rf_5000_36, rf_5000_37, rf_5000_40, rf_5000_41, rf_5000_42, rf_5000_43, rf_5000_44, rf_5000_45, rf_5000_47, rf_5000_52, rf_5000_54, rf_5000_55, rf_100_0, rf_100_1, rf_103_0, rf_103_1, rf_106_0, rf_106_1, rf_109_0, rf_109_1, al_2, al_4, al_5, al_7, al_8, al_10, al_11, al_12, al_14, al_15, al_17, al_18, al_19, al_20, al_22, al_23, al_24, al_25, al_27, al_28, al_29, al_30, al_32, al_33, al_34, al_35, al_37, al_38, al_40, al_42, al_5001, al_5002, al_5003, al_5004, al_5005, al_5006, al_5007, al_5008, al_5009, al_5010, al_5011, al_5012, al_5013, al_5014, al_5015, al_5016, al_5017, al_5018, al_5019, al_5020, al_5021, al_5022, al_5023, al_5024, al_5025, al_5026, al_9000, al_101, al_102, al_104, al_105, al_107, al_108, al_110, al_111, vcs_e, lg_c0, lg_cs, lg_nil, set_c0, set_cs, okst_0, okst_s, acok_n, acok_c, List.contains_nil, List.contains_cons, Bool.or_false, Bool.false_or, Bool.false_eq_true, if_false, if_true, ite_self, ne_eq, true_and, and_true, not_false_eq_true, not_true_eq_false, false_imp_iff, true_imp_iff, Nat.ble_eq, Bool.and_eq_true, reduceCtorEq, or_false, false_or, or_true, true_or, false_and, and_false, and_self, Int.reduceLE, Int.reduceAdd, Int.reduceSub, Int.reduceMul, Int.reduceNeg, Int.reduceLT, Int.reduceEq, Int.reduceNe, Nat.reduceBEq, Nat.reduceBNe, Nat.reduceEqDiff, amCmp_in, amCmp_lt, amCmp_le, amCmp_gt, amCmp_ge, amCmp_eq, amCmp_ne, Nat.reduceLeDiff, Nat.reduceSub, Bool.and_true, Bool.true_and, Bool.and_self, Bool.or_true, Bool.true_or, isRf_3, isRf_4, isRf_5, isRf_8, isRf_9, isRf_10, isRf_11, isRf_15, isRf_16, isRf_17, isRf_18, isRf_19, isRf_20, isRf_21, isRf_22, isRf_23, isRf_24, isRf_25, isRf_26, isRf_27, isRf_28, k_X12_whoseBits_0, k_X12_whoseBits_1, k_X12_whoseBits_2, k_X12_whoseBits_3, k_X12_whoseBits_4, k_X12_whoseBits_5, k_X12_whoseBits_6, k_X12_whoseBits_9, k_X12_whoseBits_12, k_X12_whoseBits_13, k_X12_whoseBits_14, k_X12_whoseBits_15, k_X12_whoseBits_16, k_X12_whoseBits_19, k_X12_whoseBits_22, k_X12_whoseBits_23, k_X12_whoseBits_24, k_X12_whoseBits_25, k_X12_whoseBits_28, k_X12_whoseBits_29, k_X12_whoseBits_30, k_X12_whoseBits_31, k_X12_whoseBits_34, k_X12_whoseBits_37, k_X12_whoseBits_38, e30]
      repeat' (first | apply And.intro | intro _)
      all_goals first | omega | exact absurd trivial (by assumption) | exact q8
  · change vcs _ _ _ _ 60 0 [(28, 5000), (0, c), (6, 0), (6, 0)] [] σ
    have i9 : ∃ k', inv_whb σ c k' 4 [(28, 5000), (0, c), (0, 0), (0, 0)] [] σ := ⟨(σ 5000 30).toNat, rfl, rfl, WF_rf σ, hx.2.1.1, 0, rfl, by omega⟩
    simp only [↓reduceIte, inR_0, inR_1, inR_m, vSw2_e, swP_n, swP_c, vI_e, vL_e, vNull_e, vIload_e, vLload_e, vAload_e, vIstore_e, vLstore_e, vAstore_e, vIinc_e, vIadd_e, vIsub_e, vImul_e, vIand_e, vIor_e, vIxor_e, vIshl_e, vIshr_e, vIushr_e, vIdiv_e, vIrem_e, vLadd_e, vLsub_e, vLmul_e, vLand_e, vLor_e, vLxor_e, vLdiv_e, vLrem_e, vLushr_e, vLshl_e, vLcmp_e, vIneg_e, vI2l_e, vL2i_e, vI2b_e, vI2c_e, vDup_e, vPop_e, vDup2_e, vGoto_e, vIcEq_e, vIfEq_e, vIcNe_e, vIfNe_e, vIcLt_e, vIfLt_e, vIcGe_e, vIfGe_e, vIcGt_e, vIfGt_e, vIcLe_e, vIfLe_e, vNonnull_e, vSw_e, vGetI_e, vGetL_e, vGetR_e, vPutI_e, vPutZ_e, vPutL_e, vPutR_e, vIald_e, vIald_s, vLald_e, vBald_e, vBald_s, vAald_e, vIast_e, vLast_e, vBast_e, vAast_e, vAlen_e8, vAlen_e9, vAlen_e10, vAlen_e11, vAlen_e5, vAlen_e3, vGets_e, vCompact_e, vLdcS_e, vIret_e, vZret_e, vCret_e, vBret_e, vLret_e, vVret_e, vAret_e, vCallM_e0, vCallMV_e0, vCallS_e0, vCallSV_e0, vCallM_e1, vCallMV_e1, vCallS_e1, vCallSV_e1, vCallM_e2, vCallMV_e2, vCallS_e2, vCallSV_e2, vCallM_e3, vCallMV_e3, vCallS_e3, vCallSV_e3, vCallM_e4, vCallMV_e4, vCallS_e4, vCallSV_e4, vCallM_e5, vCallMV_e5, vCallS_e5, vCallSV_e5, vCallM_e6, vCallMV_e6, vCallS_e6, vCallSV_e6, vCallM_e7, vCallMV_e7, vCallS_e7, vCallSV_e7, vBad_e, vStrVal_e, vStrCod_e, vForm_e, vCallT_e0, vCallT_e1, vCallT_e2, vCopy_e, rf_0_0, rf_0_1, rf_0_2, rf_0_3, rf_0_4, rf_0_7, rf_0_10, rf_0_11, rf_0_12, rf_0_13, rf_0_14, rf_0_15, rf_0_16, rf_1_0, rf_3_0, rf_3_1, rf_6_0, rf_6_1, rf_9_0, rf_9_1, rf_9_3, rf_13_0, rf_13_1, rf_13_2, rf_16_0, rf_16_1, rf_16_2, rf_16_3, rf_21_0, rf_21_1, rf_21_2, rf_21_3, rf_26_0, rf_26_1, rf_26_2, rf_26_3, rf_26_4, rf_26_5, rf_26_6, rf_31_0, rf_31_2, rf_31_5, rf_31_6, rf_36_0, rf_36_1, rf_36_2, rf_36_3, rf_39_0, rf_39_1, rf_39_2, rf_41_0, rf_41_1, rf_41_2, rf_41_3, rf_5000_1, rf_5000_2, rf_5000_3, rf_5000_4, rf_5000_5, rf_5000_15, rf_5000_16, rf_5000_18, rf_5000_19, rf_5000_20, rf_5000_21, rf_5000_22, rf_5000_23, rf_5000_24, rf_5000_25, rf_5000_26, rf_5000_27, rf_5000_36, rf_5000_37, rf_5000_40, rf_5000_41, rf_5000_42, rf_5000_43, rf_5000_44, rf_5000_45, rf_5000_47, rf_5000_52, rf_5000_54, rf_5000_55, rf_100_0, rf_100_1, rf_103_0, rf_103_1, rf_106_0, rf_106_1, rf_109_0, rf_109_1, al_2, al_4, al_5, al_7, al_8, al_10, al_11, al_12, al_14, al_15, al_17, al_18, al_19, al_20, al_22, al_23, al_24, al_25, al_27, al_28, al_29, al_30, al_32, al_33, al_34, al_35, al_37, al_38, al_40, al_42, al_5001, al_5002, al_5003, al_5004, al_5005, al_5006, al_5007, al_5008, al_5009, al_5010, al_5011, al_5012, al_5013, al_5014, al_5015, al_5016, al_5017, al_5018, al_5019, al_5020, al_5021, al_5022, al_5023, al_5024, al_5025, al_5026, al_9000, al_101, al_102, al_104, al_105, al_107, al_108, al_110, al_111, vcs_e, lg_c0, lg_cs, lg_nil, set_c0, set_cs, okst_0, okst_s, acok_n, acok_c, List.contains_nil, List.contains_cons, Bool.or_false, Bool.false_or, Bool.false_eq_true, if_false, if_true, ite_self, ne_eq, true_and, and_true, not_false_eq_true, not_true_eq_false, false_imp_iff, true_imp_iff, Nat.ble_eq, Bool.and_eq_true, reduceCtorEq, or_false, false_or, or_true, true_or, false_and, and_false, and_self, Int.reduceLE, Int.reduceAdd, Int.reduceSub, Int.reduceMul, Int.reduceNeg, Int.reduceLT, Int.reduceEq, Int.reduceNe, Nat.reduceBEq, Nat.reduceBNe, Nat.reduceEqDiff, amCmp_in, amCmp_lt, amCmp_le, amCmp_gt, amCmp_ge, amCmp_eq, amCmp_ne, Nat.reduceLeDiff, Nat.reduceSub, Bool.and_true, Bool.true_and, Bool.and_self, Bool.or_true, Bool.true_or, isRf_3, isRf_4, isRf_5, isRf_8, isRf_9, isRf_10, isRf_11, isRf_15, isRf_16, isRf_17, isRf_18, isRf_19, isRf_20, isRf_21, isRf_22, isRf_23, isRf_24, isRf_25, isRf_26, isRf_27, isRf_28, k_X12_whoseBits_0, k_X12_whoseBits_1, k_X12_whoseBits_2, k_X12_whoseBits_3, k_X12_whoseBits_4, k_X12_whoseBits_5, k_X12_whoseBits_6, k_X12_whoseBits_9, k_X12_whoseBits_12, k_X12_whoseBits_13, k_X12_whoseBits_14, k_X12_whoseBits_15, k_X12_whoseBits_16, k_X12_whoseBits_19, k_X12_whoseBits_22, k_X12_whoseBits_23, k_X12_whoseBits_24, k_X12_whoseBits_25, k_X12_whoseBits_28, k_X12_whoseBits_29, k_X12_whoseBits_30, k_X12_whoseBits_31, k_X12_whoseBits_34, k_X12_whoseBits_37, k_X12_whoseBits_38]
    repeat' (first | apply And.intro | intro _)
    all_goals first | omega | exact absurd trivial (by assumption) | exact i9
theorem wd_1842 : Cond.methodLink RX12 458 yX12_whoseBits ∈ TBL := tb_tab (List.mem_of_getElem? (i := 1842) (by decide +kernel)) rfl
theorem wd_1845 : Cond.code yX12_whoseBits cX12_whoseBits 4 (some .int) ∈ TBL := tb_tab (List.mem_of_getElem? (i := 1845) (by decide +kernel)) rfl
theorem lk_X12_458 : amLk RX12 458 yX12_whoseBits cX12_whoseBits 4 (some .int) 1 := ⟨wd_1842, wd_12, wd_1845, by decide +kernel, by decide +kernel, by decide⟩
theorem wd_1844 : Cond.instanceMethod yX12_whoseBits ∈ TBL := tb_tab (List.mem_of_getElem? (i := 1844) (by decide +kernel)) rfl
theorem sl_X12_whoseBits : Cond.selects RX12 yX12_whoseBits yX12_whoseBits ∈ TBL := tb_sel (List.mem_of_getElem? (i := 93) (by decide +kernel)) rfl
def a_X12_whose : AC := [(0, vAload 0 1), (1, vI 0 2), (2, vPutI 28 0 5), (5, vAload 0 6), (6, vIload 1 7), (7, vCallM w_X12_isChair 28 1 10), (10, vIfEq 21 13), (13, vAload 0 14), (14, vIload 1 15), (15, vCallM w_X12_whoseBits 28 1 18), (18, vGoto 22), (21, vI (-1) 22), (22, vIret)]
theorem k_X12_whose_0 : look a_X12_whose 0 = vAload 0 1 := rfl
theorem k_X12_whose_1 : look a_X12_whose 1 = vI 0 2 := rfl
theorem k_X12_whose_2 : look a_X12_whose 2 = vPutI 28 0 5 := rfl
theorem k_X12_whose_5 : look a_X12_whose 5 = vAload 0 6 := rfl
theorem k_X12_whose_6 : look a_X12_whose 6 = vIload 1 7 := rfl
theorem k_X12_whose_7 : look a_X12_whose 7 = vCallM w_X12_isChair 28 1 10 := rfl
theorem k_X12_whose_10 : look a_X12_whose 10 = vIfEq 21 13 := rfl
theorem k_X12_whose_13 : look a_X12_whose 13 = vAload 0 14 := rfl
theorem k_X12_whose_14 : look a_X12_whose 14 = vIload 1 15 := rfl
theorem k_X12_whose_15 : look a_X12_whose 15 = vCallM w_X12_whoseBits 28 1 18 := rfl
theorem k_X12_whose_18 : look a_X12_whose 18 = vGoto 22 := rfl
theorem k_X12_whose_21 : look a_X12_whose 21 = vI (-1) 22 := rfl
theorem k_X12_whose_22 : look a_X12_whose 22 = vIret := rfl
theorem o_X12_whose {X : amX} (e1 : XT X = TT) (e2 : XD X = 61) (hB : amB X RX12 cX12_whose (some .int) 2) : ∀ pc, amOK X pc (look a_X12_whose pc) := by
  have hT : amTok (XT X) := e1 ▸ TT_ok
  refine look_ok ?_
  unfold a_X12_whose
  refine fc (ok_aload_n hB dX12_whose_0) ?_
  refine fc (ok_iconst hB dX12_whose_1) ?_
  refine fc (ok_putI hB hT fp_X12_111 rfl rfl rfl af_12_0 dX12_whose_2) ?_
  refine fc (ok_aload_n hB dX12_whose_5) ?_
  refine fc (ok_iload_n hB dX12_whose_6) ?_
  refine fc (ok_callM hB hT (e1 ▸ s_X12_isChair) lk_X12_371 (by rw [e2]; decide) (c := 12) rfl rfl rfl wd_1661 sl_X12_isChair dX12_whose_7) ?_
  refine fc (ok_if_eq hB (t := 21) (by decide) dX12_whose_10) ?_
  refine fc (ok_aload_n hB dX12_whose_13) ?_
  refine fc (ok_iload_n hB dX12_whose_14) ?_
  refine fc (ok_callM hB hT (e1 ▸ s_X12_whoseBits) lk_X12_458 (by rw [e2]; decide) (c := 12) rfl rfl rfl wd_1844 sl_X12_whoseBits dX12_whose_15) ?_
  refine fc (ok_goto hB (t := 22) (by decide) dX12_whose_18) ?_
  refine fc (ok_iconst hB dX12_whose_21) ?_
  refine fc (ok_iret hB dX12_whose_22) ?_
  exact fn

def w_X12_whose : WP := fun av σ Q => ∃ (c : Int), av = [(28, 5000), (0, c)] ∧ (InR c ∧ mX σ 5015 ∧ hwO σ ∧ (¬ (0 ≤ c ∧ c < σ 5000 29) → Q (0, -1) (th0 σ)) ∧ (0 ≤ c ∧ c < σ 5000 29 → ∀ τ, WF (th0 σ) τ → mOk τ → Q (0, gb (fiB (th0 σ) c) (σ 5000 30).toNat) τ))
theorem w_X12_whose_e (c : Int) (σ : Mem) (Q : AV → Mem → Prop) : w_X12_whose [(28, 5000), (0, c)] σ Q = (InR c ∧ mX σ 5015 ∧ hwO σ ∧ (¬ (0 ≤ c ∧ c < σ 5000 29) → Q (0, -1) (th0 σ)) ∧ (0 ≤ c ∧ c < σ 5000 29 → ∀ τ, WF (th0 σ) τ → mOk τ → Q (0, gb (fiB (th0 σ) c) (σ 5000 30).toNat) τ)) := by
  apply propext; constructor
  · rintro ⟨c', h9, hb9⟩; cases h9; exact hb9
  · intro hb9; exact ⟨c, rfl, hb9⟩

set_option maxRecDepth 100000 in
set_option maxHeartbeats 4000000 in
theorem s_X12_whose : ∀ av σ Q, w_X12_whose av σ Q → amCall 61 0 0 TT yX12_whose cX12_whose 2 (some .int) av σ Q := by
  rintro av σ Q ⟨c, rfl, hc, hx, hwo, h1, h2⟩
  have e29 : th0 σ 5000 29 = σ 5000 29 := th_k σ (by decide)
  have e30 : th0 σ 5000 30 = σ 5000 30 := th_k σ (by decide)
  have n29 := hx.2.1.2.2.1
  have hxt := mX_th hx
  have hwt : hwO (th0 σ) := by unfold hwO; rw [th_k σ (show (53 : Int) ≠ 0 by decide), th_k σ (show (28 : Int) ≠ 0 by decide), th_o σ (show (5024 : Int) ≠ 5000 by decide)]; exact hwo
  refine am_m0 (own := RX12) (A := look a_X12_whose) (fun X e1 e2 hB => o_X12_whose e1 e2 hB) rfl (by decide +kernel) rfl rfl 190 (w := 2) ?_
  change vcs _ _ _ _ 190 0 [(28, 5000), (0, c)] [] σ
  simp only [↓reduceIte, inR_0, inR_1, inR_m, vSw2_e, swP_n, swP_c, vI_e, vL_e, vNull_e, vIload_e, vLload_e, vAload_e, vIstore_e, vLstore_e, vAstore_e, vIinc_e, vIadd_e, vIsub_e, vImul_e, vIand_e, vIor_e, vIxor_e, vIshl_e, vIshr_e, vIushr_e, vIdiv_e, vIrem_e, vLadd_e, vLsub_e, vLmul_e, vLand_e, vLor_e, vLxor_e, vLdiv_e, vLrem_e, vLushr_e, vLshl_e, vLcmp_e, vIneg_e, vI2l_e, vL2i_e, vI2b_e, vI2c_e, vDup_e, vPop_e, vDup2_e, vGoto_e, vIcEq_e, vIfEq_e, vIcNe_e, vIfNe_e, vIcLt_e, vIfLt_e, vIcGe_e, vIfGe_e, vIcGt_e, vIfGt_e, vIcLe_e, vIfLe_e, vNonnull_e, vSw_e, vGetI_e, vGetL_e, vGetR_e, vPutI_e, vPutZ_e, vPutL_e, vPutR_e, vIald_e, vIald_s, vLald_e, vBald_e, vBald_s, vAald_e, vIast_e, vLast_e, vBast_e, vAast_e, vAlen_e8, vAlen_e9, vAlen_e10, vAlen_e11, vAlen_e5, vAlen_e3, vGets_e, vCompact_e, vLdcS_e, vIret_e, vZret_e, vCret_e, vBret_e, vLret_e, vVret_e, vAret_e, vCallM_e0, vCallMV_e0, vCallS_e0, vCallSV_e0, vCallM_e1, vCallMV_e1, vCallS_e1, vCallSV_e1, vCallM_e2, vCallMV_e2, vCallS_e2, vCallSV_e2, vCallM_e3, vCallMV_e3, vCallS_e3, vCallSV_e3, vCallM_e4, vCallMV_e4, vCallS_e4, vCallSV_e4, vCallM_e5, vCallMV_e5, vCallS_e5, vCallSV_e5, vCallM_e6, vCallMV_e6, vCallS_e6, vCallSV_e6, vCallM_e7, vCallMV_e7, vCallS_e7, vCallSV_e7, vBad_e, vStrVal_e, vStrCod_e, vForm_e, vCallT_e0, vCallT_e1, vCallT_e2, vCopy_e, rf_0_0, rf_0_1, rf_0_2, rf_0_3, rf_0_4, rf_0_7, rf_0_10, rf_0_11, rf_0_12, rf_0_13, rf_0_14, rf_0_15, rf_0_16, rf_1_0, rf_3_0, rf_3_1, rf_6_0, rf_6_1, rf_9_0, rf_9_1, rf_9_3, rf_13_0, rf_13_1, rf_13_2, rf_16_0, rf_16_1, rf_16_2, rf_16_3, rf_21_0, rf_21_1, rf_21_2, rf_21_3, rf_26_0, rf_26_1, rf_26_2, rf_26_3, rf_26_4, rf_26_5, rf_26_6, rf_31_0, rf_31_2, rf_31_5, rf_31_6, rf_36_0, rf_36_1, rf_36_2, rf_36_3, rf_39_0, rf_39_1, rf_39_2, rf_41_0, rf_41_1, rf_41_2, rf_41_3, rf_5000_1, rf_5000_2, rf_5000_3, rf_5000_4, rf_5000_5, rf_5000_15, rf_5000_16, rf_5000_18, rf_5000_19, rf_5000_20, rf_5000_21, rf_5000_22, rf_5000_23, rf_5000_24, rf_5000_25, rf_5000_26, rf_5000_27, rf_5000_36, rf_5000_37, rf_5000_40, rf_5000_41, rf_5000_42, rf_5000_43, rf_5000_44, rf_5000_45, rf_5000_47, rf_5000_52, rf_5000_54, rf_5000_55, rf_100_0, rf_100_1, rf_103_0, rf_103_1, rf_106_0, rf_106_1, rf_109_0, rf_109_1, al_2, al_4, al_5, al_7, al_8, al_10, al_11, al_12, al_14, al_15, al_17, al_18, al_19, al_20, al_22, al_23, al_24, al_25, al_27, al_28, al_29, al_30, al_32, al_33, al_34, al_35, al_37, al_38, al_40, al_42, al_5001, al_5002, al_5003, al_5004, al_5005, al_5006, al_5007, al_5008, al_5009, al_5010, al_5011, al_5012, al_5013, al_5014, al_5015, al_5016, al_5017, al_5018, al_5019, al_5020, al_5021, al_5022, al_5023, al_5024, al_5025, al_5026, al_9000, al_101, al_102, al_104, al_105, al_107, al_108, al_110, al_111, vcs_e, lg_c0, lg_cs, lg_nil, set_c0, set_cs, okst_0, okst_s, acok_n, acok_c, List.contains_nil, List.contains_cons, Bool.or_false, Bool.false_or, Bool.false_eq_true, if_false, if_true, ite_self, ne_eq, true_and, and_true, not_false_eq_true, not_true_eq_false, false_imp_iff, true_imp_iff, Nat.ble_eq, Bool.and_eq_true, reduceCtorEq, or_false, false_or, or_true, true_or, false_and, and_false, and_self, Int.reduceLE, Int.reduceAdd, Int.reduceSub, Int.reduceMul, Int.reduceNeg, Int.reduceLT, Int.reduceEq, Int.reduceNe, Nat.reduceBEq, Nat.reduceBNe, Nat.reduceEqDiff, amCmp_in, amCmp_lt, amCmp_le, amCmp_gt, amCmp_ge, amCmp_eq, amCmp_ne, Nat.reduceLeDiff, Nat.reduceSub, Bool.and_true, Bool.true_and, Bool.and_self, Bool.or_true, Bool.true_or, isRf_3, isRf_4, isRf_5, isRf_8, isRf_9, isRf_10, isRf_11, isRf_15, isRf_16, isRf_17, isRf_18, isRf_19, isRf_20, isRf_21, isRf_22, isRf_23, isRf_24, isRf_25, isRf_26, isRf_27, isRf_28, k_X12_whose_0, k_X12_whose_1, k_X12_whose_2, k_X12_whose_5, k_X12_whose_6, k_X12_whose_7, k_X12_whose_10, k_X12_whose_13, k_X12_whose_14, k_X12_whose_15, k_X12_whose_18, k_X12_whose_21, k_X12_whose_22, w_X12_isChair_e, w_X12_whoseBits_e, up_s, up_nj, up_na, up_up, savR_o, cpy_o, fillm_o, setAud_o, setv_o, setv_s, Int.reduceNe, Int.reduceEq, Int.reduceLT, Int.reduceAdd, not_false_eq_true, ne_eq, or_true, true_or, e29, e30]
  by_cases d : 0 ≤ c ∧ c < σ 5000 29
  · rw [if_pos d]
    have q8 := h2 d
    repeat' (first | assumption | exact hxt | exact hwt | apply And.intro | intro _)
    all_goals first | omega | exact absurd trivial (by assumption) | exact q8 _ (by assumption) (by assumption)
  · rw [if_neg d]
    have q8 := h1 d
    repeat' (first | assumption | exact hxt | exact hwt | apply And.intro | intro _)
    all_goals first | omega | exact absurd trivial (by assumption) | exact q8
