/-! the reference: DO, RUN -/
abbrev rwI (s i : Int) : Int := 3 * (16 * s + i)
theorem spB_s {σ τ : Mem} {s : Int} {i : Nat} (hs : seOk σ) (s0 : 0 ≤ s) (s1 : s < σ 5000 34) (hi : (i : Int) < σ 5014 s) (h : τ 5013 = σ 5013) : spB τ (rwI s i) := by
  intro j j0 j1
  have := hs.2.2 s (3 * (i : Int) + j) s0 s1 (by omega) (by omega)
  rw [show 48 * s + (3 * (i : Int) + j) = 3 * (16 * s + i) + j by omega] at this
  rw [h]; exact this
def pfM (s : Int) : Nat → Mem → Mem → Prop
  | 0, σ, τ => τ = σ
  | i + 1, σ, τ => ∃ u v, pfM s i σ u ∧ mCs u 5015 (rwI s i) ∧ mSp (rmb u) 5015 (rwI s i) τ v
def rnM (s : Int) : Nat → Mem → Mem → Int → Prop
  | 0, σ, τ, v => τ = σ ∧ v = 0
  | i + 1, σ, τ, v => ∃ u x y, rnM s i σ u x ∧ mCs u 5016 (rwI s i) ∧ mSp u 5016 (rwI s i) τ y ∧ v = x + y
theorem mCs_c {σ τ : Mem} {a w : Int} (h13 : τ 5013 = σ 5013) (h5 : τ 5000 28 = σ 5000 28 ∧ τ 5000 29 = σ 5000 29 ∧ τ 5000 30 = σ 5000 30) (ha : τ a = σ a) : mCs τ a w = mCs σ a w := by
  unfold mCs mCC; rw [h13, h5.1, h5.2.1, h5.2.2, ha]
theorem mCs_rmb (σ : Mem) (w : Int) : mCs (rmb σ) 5015 w = mCs σ 5015 w := mCs_c (rmb_o σ (by decide) (by decide)) ⟨rmb_k σ (by decide), rmb_k σ (by decide), rmb_k σ (by decide)⟩ (rmb_15 σ)
theorem pfM_x {s : Int} {σ : Mem} (hx : mX σ 5015) (he : σ 5015 26 ≤ 999) : ∀ (i : Nat) (τ : Mem), pfM s i σ τ → mX τ 5015 ∧ MG σ τ ∧ τ 5015 26 ≤ 999 := by
  intro i
  induction i with
  | zero => rintro τ rfl; exact ⟨hx, MG_rf τ, he⟩
  | succ i ih =>
    rintro τ ⟨u, v, h1, h2, h3⟩
    obtain ⟨y1, y2, y3⟩ := ih u h1
    obtain ⟨z1, z2, -, z4⟩ := mSp_x (mX_rmb y1) (by rw [rmb_15]; exact y3) (by rw [mCs_rmb]; exact h2) h3
    exact ⟨z1, MG_tr y2 (MG_tr (MG_rmb u) z2), z4⟩
theorem wd_1792 : Cond.methodLink RX12 423 yX12_canStep ∈ TBL := tb_tab (List.mem_of_getElem? (i := 1792) (by decide +kernel)) rfl
theorem wd_1795 : Cond.code yX12_canStep cX12_canStep 4 (some .boolean) ∈ TBL := tb_tab (List.mem_of_getElem? (i := 1795) (by decide +kernel)) rfl
theorem lk_X12_423 : amLk RX12 423 yX12_canStep cX12_canStep 4 (some .boolean) 2 := ⟨wd_1792, wd_12, wd_1795, by decide +kernel, by decide +kernel, by decide⟩
theorem wd_1794 : Cond.instanceMethod yX12_canStep ∈ TBL := tb_tab (List.mem_of_getElem? (i := 1794) (by decide +kernel)) rfl
theorem sl_X12_canStep : Cond.selects RX12 yX12_canStep yX12_canStep ∈ TBL := tb_sel (List.mem_of_getElem? (i := 88) (by decide +kernel)) rfl
theorem wd_1796 : Cond.methodLink RX12 426 yX12_steps ∈ TBL := tb_tab (List.mem_of_getElem? (i := 1796) (by decide +kernel)) rfl
theorem wd_1799 : Cond.code yX12_steps cX12_steps 4 (some .int) ∈ TBL := tb_tab (List.mem_of_getElem? (i := 1799) (by decide +kernel)) rfl
theorem lk_X12_426 : amLk RX12 426 yX12_steps cX12_steps 4 (some .int) 2 := ⟨wd_1796, wd_12, wd_1799, by decide +kernel, by decide +kernel, by decide⟩
theorem wd_1798 : Cond.instanceMethod yX12_steps ∈ TBL := tb_tab (List.mem_of_getElem? (i := 1798) (by decide +kernel)) rfl
theorem sl_X12_steps : Cond.selects RX12 yX12_steps yX12_steps ∈ TBL := tb_sel (List.mem_of_getElem? (i := 89) (by decide +kernel)) rfl
def a_X12_perform : AC := [(0, vAload 0 1), (1, vI 0 2), (2, vPutI 28 0 5), (5, vAload 0 6), (6, vIload 1 7), (7, vCallM w_X12_isSeason 28 1 10), (10, vIfEq 20 13), (13, vAload 0 14), (14, vGetI 28 29 17), (17, vIfNe 22 20), (20, vI (-1) 21), (21, vIret), (22, vI 0 23), (23, vIstore 2 24), (24, vIload 2 25), (25, vAload 0 26), (26, vGetR TT 28 27 8 29), (29, vIload 1 30), (30, vIald TT 31), (31, vIcGe 80 34), (34, vAload 0 35), (35, vAload 0 36), (36, vGetR TT 28 36 8 39), (39, vI 3 40), (40, vI 16 42), (42, vIload 1 43), (43, vImul 44), (44, vIload 2 45), (45, vIadd 46), (46, vImul 47), (47, vCallM w_X12_canStep 28 2 50), (50, vIfEq 80 53), (53, vAload 0 54), (54, vCallMV w_X12_remember 28 0 57), (57, vAload 0 58), (58, vAload 0 59), (59, vGetR TT 28 36 8 62), (62, vI 3 63), (63, vI 16 65), (65, vIload 1 66), (66, vImul 67), (67, vIload 2 68), (68, vIadd 69), (69, vImul 70), (70, vCallM w_X12_steps 28 2 73), (73, vIstore 3 74), (74, vIinc 2 1 77), (77, vGoto 24), (80, vIload 2 81), (81, vIret)]
theorem k_X12_perform_0 : look a_X12_perform 0 = vAload 0 1 := rfl
theorem k_X12_perform_1 : look a_X12_perform 1 = vI 0 2 := rfl
theorem k_X12_perform_2 : look a_X12_perform 2 = vPutI 28 0 5 := rfl
theorem k_X12_perform_5 : look a_X12_perform 5 = vAload 0 6 := rfl
theorem k_X12_perform_6 : look a_X12_perform 6 = vIload 1 7 := rfl
theorem k_X12_perform_7 : look a_X12_perform 7 = vCallM w_X12_isSeason 28 1 10 := rfl
theorem k_X12_perform_10 : look a_X12_perform 10 = vIfEq 20 13 := rfl
theorem k_X12_perform_13 : look a_X12_perform 13 = vAload 0 14 := rfl
theorem k_X12_perform_14 : look a_X12_perform 14 = vGetI 28 29 17 := rfl
theorem k_X12_perform_17 : look a_X12_perform 17 = vIfNe 22 20 := rfl
theorem k_X12_perform_20 : look a_X12_perform 20 = vI (-1) 21 := rfl
theorem k_X12_perform_21 : look a_X12_perform 21 = vIret := rfl
theorem k_X12_perform_22 : look a_X12_perform 22 = vI 0 23 := rfl
theorem k_X12_perform_23 : look a_X12_perform 23 = vIstore 2 24 := rfl
theorem k_X12_perform_24 : look a_X12_perform 24 = vIload 2 25 := rfl
theorem k_X12_perform_25 : look a_X12_perform 25 = vAload 0 26 := rfl
theorem k_X12_perform_26 : look a_X12_perform 26 = vGetR TT 28 27 8 29 := rfl
theorem k_X12_perform_29 : look a_X12_perform 29 = vIload 1 30 := rfl
theorem k_X12_perform_30 : look a_X12_perform 30 = vIald TT 31 := rfl
theorem k_X12_perform_31 : look a_X12_perform 31 = vIcGe 80 34 := rfl
theorem k_X12_perform_34 : look a_X12_perform 34 = vAload 0 35 := rfl
theorem k_X12_perform_35 : look a_X12_perform 35 = vAload 0 36 := rfl
theorem k_X12_perform_36 : look a_X12_perform 36 = vGetR TT 28 36 8 39 := rfl
theorem k_X12_perform_39 : look a_X12_perform 39 = vI 3 40 := rfl
theorem k_X12_perform_40 : look a_X12_perform 40 = vI 16 42 := rfl
theorem k_X12_perform_42 : look a_X12_perform 42 = vIload 1 43 := rfl
theorem k_X12_perform_43 : look a_X12_perform 43 = vImul 44 := rfl
theorem k_X12_perform_44 : look a_X12_perform 44 = vIload 2 45 := rfl
theorem k_X12_perform_45 : look a_X12_perform 45 = vIadd 46 := rfl
theorem k_X12_perform_46 : look a_X12_perform 46 = vImul 47 := rfl
theorem k_X12_perform_47 : look a_X12_perform 47 = vCallM w_X12_canStep 28 2 50 := rfl
theorem k_X12_perform_50 : look a_X12_perform 50 = vIfEq 80 53 := rfl
theorem k_X12_perform_53 : look a_X12_perform 53 = vAload 0 54 := rfl
theorem k_X12_perform_54 : look a_X12_perform 54 = vCallMV w_X12_remember 28 0 57 := rfl
theorem k_X12_perform_57 : look a_X12_perform 57 = vAload 0 58 := rfl
theorem k_X12_perform_58 : look a_X12_perform 58 = vAload 0 59 := rfl
theorem k_X12_perform_59 : look a_X12_perform 59 = vGetR TT 28 36 8 62 := rfl
theorem k_X12_perform_62 : look a_X12_perform 62 = vI 3 63 := rfl
theorem k_X12_perform_63 : look a_X12_perform 63 = vI 16 65 := rfl
theorem k_X12_perform_65 : look a_X12_perform 65 = vIload 1 66 := rfl
theorem k_X12_perform_66 : look a_X12_perform 66 = vImul 67 := rfl
theorem k_X12_perform_67 : look a_X12_perform 67 = vIload 2 68 := rfl
theorem k_X12_perform_68 : look a_X12_perform 68 = vIadd 69 := rfl
theorem k_X12_perform_69 : look a_X12_perform 69 = vImul 70 := rfl
theorem k_X12_perform_70 : look a_X12_perform 70 = vCallM w_X12_steps 28 2 73 := rfl
theorem k_X12_perform_73 : look a_X12_perform 73 = vIstore 3 74 := rfl
theorem k_X12_perform_74 : look a_X12_perform 74 = vIinc 2 1 77 := rfl
theorem k_X12_perform_77 : look a_X12_perform 77 = vGoto 24 := rfl
theorem k_X12_perform_80 : look a_X12_perform 80 = vIload 2 81 := rfl
theorem k_X12_perform_81 : look a_X12_perform 81 = vIret := rfl
theorem o_X12_perform {X : amX} (e1 : XT X = TT) (e2 : XD X = 62) (hB : amB X RX12 cX12_perform (some .int) 4) : ∀ pc, amOK X pc (look a_X12_perform pc) := by
  have hT : amTok (XT X) := e1 ▸ TT_ok
  refine look_ok ?_
  unfold a_X12_perform
  refine fc (ok_aload_n hB dX12_perform_0) ?_
  refine fc (ok_iconst hB dX12_perform_1) ?_
  refine fc (ok_putI hB hT fp_X12_111 rfl rfl rfl af_12_0 dX12_perform_2) ?_
  refine fc (ok_aload_n hB dX12_perform_5) ?_
  refine fc (ok_iload_n hB dX12_perform_6) ?_
  refine fc (ok_callM hB hT (e1 ▸ s_X12_isSeason) lk_X12_415 (by rw [e2]; decide) (c := 12) rfl rfl rfl wd_1782 sl_X12_isSeason dX12_perform_7) ?_
  refine fc (ok_if_eq hB (t := 20) (by decide) dX12_perform_10) ?_
  refine fc (ok_aload_n hB dX12_perform_13) ?_
  refine fc (ok_getI hB hT fl_X12_317 rfl rfl (Or.inl af_12_29) dX12_perform_14) ?_
  refine fc (ok_if_ne hB (t := 22) (by decide) dX12_perform_17) ?_
  refine fc (ok_iconst hB dX12_perform_20) ?_
  refine fc (ok_iret hB dX12_perform_21) ?_
  refine fc (ok_iconst hB dX12_perform_22) ?_
  refine fc (ok_istore_n hB (by decide) dX12_perform_23) ?_
  refine fc (ok_iload_n hB dX12_perform_24) ?_
  refine fc (ok_aload_n hB dX12_perform_25) ?_
  refine fc (okt_getR e1 hB hT fl_X12_64 rfl af_12_27 at_12_27 (by decide) dX12_perform_26) ?_
  refine fc (ok_iload_n hB dX12_perform_29) ?_
  refine fc (okt_iaload e1 hB dX12_perform_30) ?_
  refine fc (ok_icmp_ge hB (t := 80) (by decide) dX12_perform_31) ?_
  refine fc (ok_aload_n hB dX12_perform_34) ?_
  refine fc (ok_aload_n hB dX12_perform_35) ?_
  refine fc (okt_getR e1 hB hT fl_X12_67 rfl af_12_36 at_12_36 (by decide) dX12_perform_36) ?_
  refine fc (ok_iconst hB dX12_perform_39) ?_
  refine fc (ok_bipush hB dX12_perform_40 (by decide)) ?_
  refine fc (ok_iload_n hB dX12_perform_42) ?_
  refine fc (ok_imul hB dX12_perform_43) ?_
  refine fc (ok_iload_n hB dX12_perform_44) ?_
  refine fc (ok_iadd hB dX12_perform_45) ?_
  refine fc (ok_imul hB dX12_perform_46) ?_
  refine fc (ok_callM hB hT (e1 ▸ s_X12_canStep) lk_X12_423 (by rw [e2]; decide) (c := 12) rfl rfl rfl wd_1794 sl_X12_canStep dX12_perform_47) ?_
  refine fc (ok_if_eq hB (t := 80) (by decide) dX12_perform_50) ?_
  refine fc (ok_aload_n hB dX12_perform_53) ?_
  refine fc (ok_callMV hB hT (e1 ▸ s_X12_remember) lk_X12_383 (by rw [e2]; decide) (c := 12) rfl rfl rfl wd_1690 sl_X12_remember dX12_perform_54) ?_
  refine fc (ok_aload_n hB dX12_perform_57) ?_
  refine fc (ok_aload_n hB dX12_perform_58) ?_
  refine fc (okt_getR e1 hB hT fl_X12_67 rfl af_12_36 at_12_36 (by decide) dX12_perform_59) ?_
  refine fc (ok_iconst hB dX12_perform_62) ?_
  refine fc (ok_bipush hB dX12_perform_63 (by decide)) ?_
  refine fc (ok_iload_n hB dX12_perform_65) ?_
  refine fc (ok_imul hB dX12_perform_66) ?_
  refine fc (ok_iload_n hB dX12_perform_67) ?_
  refine fc (ok_iadd hB dX12_perform_68) ?_
  refine fc (ok_imul hB dX12_perform_69) ?_
  refine fc (ok_callM hB hT (e1 ▸ s_X12_steps) lk_X12_426 (by rw [e2]; decide) (c := 12) rfl rfl rfl wd_1798 sl_X12_steps dX12_perform_70) ?_
  refine fc (ok_istore_n hB (by decide) dX12_perform_73) ?_
  refine fc (ok_iinc hB (by decide) dX12_perform_74) ?_
  refine fc (ok_goto hB (t := 24) (by decide) dX12_perform_77) ?_
  refine fc (ok_iload_n hB dX12_perform_80) ?_
  refine fc (ok_iret hB dX12_perform_81) ?_
  exact fn
def inv_prf (σ : Mem) (s : Int) (n pc : Nat) (ls st : List AV) (σ' : Mem) : Prop := pc = 24 ∧ st = [] ∧ (0 ≤ s ∧ s < σ 5000 34 ∧ σ 5000 29 ≠ 0) ∧ ∃ (i : Nat) (v3 : AV), ls = [(28, 5000), (0, s), (0, (i : Int)), v3] ∧ (i : Int) + n = σ 5014 s ∧ pfM s i (th0 σ) σ'
def w_X12_perform : WP := fun av σ Q => ∃ (s : Int), av = [(28, 5000), (0, s)] ∧ (InR s ∧ mX σ 5015 ∧ σ 5015 26 ≤ 999 ∧ seOk σ ∧ (¬ (0 ≤ s ∧ s < σ 5000 34 ∧ σ 5000 29 ≠ 0) → Q (0, -1) (th0 σ)) ∧ (0 ≤ s ∧ s < σ 5000 34 ∧ σ 5000 29 ≠ 0 → ∀ (n_i : Nat) τ, pfM s n_i (th0 σ) τ → (n_i : Int) ≤ σ 5014 s → ((n_i : Int) = σ 5014 s ∨ ¬ mCs τ 5015 (rwI s n_i)) → Q (0, n_i) τ))
theorem w_X12_perform_e (s : Int) (σ : Mem) (Q : AV → Mem → Prop) : w_X12_perform [(28, 5000), (0, s)] σ Q = (InR s ∧ mX σ 5015 ∧ σ 5015 26 ≤ 999 ∧ seOk σ ∧ (¬ (0 ≤ s ∧ s < σ 5000 34 ∧ σ 5000 29 ≠ 0) → Q (0, -1) (th0 σ)) ∧ (0 ≤ s ∧ s < σ 5000 34 ∧ σ 5000 29 ≠ 0 → ∀ (n_i : Nat) τ, pfM s n_i (th0 σ) τ → (n_i : Int) ≤ σ 5014 s → ((n_i : Int) = σ 5014 s ∨ ¬ mCs τ 5015 (rwI s n_i)) → Q (0, n_i) τ)) := by
  apply propext; constructor
  · rintro ⟨s', h9, hb9⟩; cases h9; exact hb9
  · intro hb9; exact ⟨s, rfl, hb9⟩

set_option maxRecDepth 100000 in
set_option maxHeartbeats 4000000 in
theorem s_X12_perform : ∀ av σ Q, w_X12_perform av σ Q → amCall 62 0 0 TT yX12_perform cX12_perform 4 (some .int) av σ Q := by
  rintro av σ Q ⟨s, rfl, hs, hx, he, hse, h1, h2⟩
  have e34 : th0 σ 5000 34 = σ 5000 34 := th_k σ (by decide)
  have e29 : th0 σ 5000 29 = σ 5000 29 := th_k σ (by decide)
  have n29 := hx.2.1.2.2.1
  have hx0 := mX_th hx
  have he0 : th0 σ 5015 26 ≤ 999 := by rw [th_o σ (by decide)]; exact he
  have b34 := hse.1
  refine am_m [24] (inv_prf σ s) (own := RX12) (A := look a_X12_perform) (fun X e1 e2 hB => o_X12_perform e1 e2 hB) rfl (by decide +kernel) rfl rfl ?_ ⟨60, ?_⟩ (w := 4)
  · rintro n pc ls st σ' ⟨rfl, rfl, hcd, i, v3, rfl, hn, hpf⟩
    obtain ⟨y1, y2, y3⟩ := pfM_x hx0 he0 i σ' hpf
    have hG := MG_tr (MG_th σ) y2
    have hse' := MG_se hG hse
    have s14 : σ' 5014 = σ 5014 := hG.1 5014 (by decide) (by decide) (by decide)
    have sl := hse.2.1 s hcd.1 hcd.2.1
    have b48 := y1.2.1.2.2.2.2.2.2.2.2
    refine ⟨90, ?_⟩
    by_cases cc : (i : Int) < σ 5014 s
    · have hfin : ¬ mCs σ' 5015 (rwI s i) → Q (0, (i : Int)) σ' := fun q => h2 hcd i σ' hpf (by omega) (Or.inr q)
      have hxr := mX_rmb y1
      have hsb := spB_s hse hcd.1 hcd.2.1 cc (show σ' 5013 = σ 5013 from hG.1 5013 (by decide) (by decide) (by decide))
      have hsr := spB_s hse hcd.1 hcd.2.1 cc (show rmb σ' 5013 = σ 5013 by rw [rmb_o σ' (by decide) (by decide)]; exact hG.1 5013 (by decide) (by decide) (by decide))
      have i9 : ∀ τ v, mCs σ' 5015 (rwI s i) → mSp (rmb σ') 5015 (rwI s i) τ v → ∃ k', k' < n ∧ inv_prf σ s k' 24 [(28, 5000), (0, s), (0, (i : Int) + 1), (0, v)] [] τ := fun τ v q1 q2 =>
        ⟨n - 1, by omega, rfl, rfl, hcd, i + 1, _, rfl, by omega, σ', v, hpf, q1, q2⟩
      simp only [↓reduceIte, inR_0, inR_1, inR_m, vSw2_e, swP_n, swP_c, vI_e, vL_e, vNull_e, vIload_e, vLload_e, vAload_e, vIstore_e, vLstore_e, vAstore_e, vIinc_e, vIadd_e, vIsub_e, vImul_e, vIand_e, vIor_e, vIxor_e, vIshl_e, vIshr_e, vIushr_e, vIdiv_e, vIrem_e, vLadd_e, vLsub_e, vLmul_e, vLand_e, vLor_e, vLxor_e, vLdiv_e, vLrem_e, vLushr_e, vLshl_e, vLcmp_e, vIneg_e, vI2l_e, vL2i_e, vI2b_e, vI2c_e, vDup_e, vPop_e, vDup2_e, vGoto_e, vIcEq_e, vIfEq_e, vIcNe_e, vIfNe_e, vIcLt_e, vIfLt_e, vIcGe_e, vIfGe_e, vIcGt_e, vIfGt_e, vIcLe_e, vIfLe_e, vNonnull_e, vSw_e, vGetI_e, vGetL_e, vGetR_e, vPutI_e, vPutZ_e, vPutL_e, vPutR_e, vIald_e, vIald_s, vLald_e, vBald_e, vBald_s, vAald_e, vIast_e, vLast_e, vBast_e, vAast_e, vAlen_e8, vAlen_e9, vAlen_e10, vAlen_e11, vAlen_e5, vAlen_e3, vGets_e, vCompact_e, vLdcS_e, vIret_e, vZret_e, vCret_e, vBret_e, vLret_e, vVret_e, vAret_e, vCallM_e0, vCallMV_e0, vCallS_e0, vCallSV_e0, vCallM_e1, vCallMV_e1, vCallS_e1, vCallSV_e1, vCallM_e2, vCallMV_e2, vCallS_e2, vCallSV_e2, vCallM_e3, vCallMV_e3, vCallS_e3, vCallSV_e3, vCallM_e4, vCallMV_e4, vCallS_e4, vCallSV_e4, vCallM_e5, vCallMV_e5, vCallS_e5, vCallSV_e5, vCallM_e6, vCallMV_e6, vCallS_e6, vCallSV_e6, vCallM_e7, vCallMV_e7, vCallS_e7, vCallSV_e7, vBad_e, vStrVal_e, vStrCod_e, vForm_e, vCallT_e0, vCallT_e1, vCallT_e2, vCopy_e, rf_0_0, rf_0_1, rf_0_2, rf_0_3, rf_0_4, rf_0_7, rf_0_10, rf_0_11, rf_0_12, rf_0_13, rf_0_14, rf_0_15, rf_0_16, rf_1_0, rf_3_0, rf_3_1, rf_6_0, rf_6_1, rf_9_0, rf_9_1, rf_9_3, rf_13_0, rf_13_1, rf_13_2, rf_16_0, rf_16_1, rf_16_2, rf_16_3, rf_21_0, rf_21_1, rf_21_2, rf_21_3, rf_26_0, rf_26_1, rf_26_2, rf_26_3, rf_26_4, rf_26_5, rf_26_6, rf_31_0, rf_31_2, rf_31_5, rf_31_6, rf_36_0, rf_36_1, rf_36_2, rf_36_3, rf_39_0, rf_39_1, rf_39_2, rf_41_0, rf_41_1, rf_41_2, rf_41_3, rf_5000_1, rf_5000_2, rf_5000_3, rf_5000_4, rf_5000_5, rf_5000_15, rf_5000_16, rf_5000_18, rf_5000_19, rf_5000_20, rf_5000_21, rf_5000_22, rf_5000_23, rf_5000_24, rf_5000_25, rf_5000_26, rf_5000_27, rf_5000_36, rf_5000_37, rf_5000_40, rf_5000_41, rf_5000_42, rf_5000_43, rf_5000_44, rf_5000_45, rf_5000_47, rf_5000_52, rf_5000_54, rf_5000_55, rf_100_0, rf_100_1, rf_103_0, rf_103_1, rf_106_0, rf_106_1, rf_109_0, rf_109_1, al_2, al_4, al_5, al_7, al_8, al_10, al_11, al_12, al_14, al_15, al_17, al_18, al_19, al_20, al_22, al_23, al_24, al_25, al_27, al_28, al_29, al_30, al_32, al_33, al_34, al_35, al_37, al_38, al_40, al_42, al_5001, al_5002, al_5003, al_5004, al_5005, al_5006, al_5007, al_5008, al_5009, al_5010, al_5011, al_5012, al_5013, al_5014, al_5015, al_5016, al_5017, al_5018, al_5019, al_5020, al_5021, al_5022, al_5023, al_5024, al_5025, al_5026, al_9000, al_101, al_102, al_104, al_105, al_107, al_108, al_110, al_111, vcs_e, lg_c0, lg_cs, lg_nil, set_c0, set_cs, okst_0, okst_s, acok_n, acok_c, List.contains_nil, List.contains_cons, Bool.or_false, Bool.false_or, Bool.false_eq_true, if_false, if_true, ite_self, ne_eq, true_and, and_true, not_false_eq_true, not_true_eq_false, false_imp_iff, true_imp_iff, Nat.ble_eq, Bool.and_eq_true, reduceCtorEq, or_false, false_or, or_true, true_or, false_and, and_false, and_self, Int.reduceLE, Int.reduceAdd, Int.reduceSub, Int.reduceMul, Int.reduceNeg, Int.reduceLT, Int.reduceEq, Int.reduceNe, Nat.reduceBEq, Nat.reduceBNe, Nat.reduceEqDiff, amCmp_in, amCmp_lt, amCmp_le, amCmp_gt, amCmp_ge, amCmp_eq, amCmp_ne, Nat.reduceLeDiff, Nat.reduceSub, Bool.and_true, Bool.true_and, Bool.and_self, Bool.or_true, Bool.true_or, isRf_3, isRf_4, isRf_5, isRf_8, isRf_9, isRf_10, isRf_11, isRf_15, isRf_16, isRf_17, isRf_18, isRf_19, isRf_20, isRf_21, isRf_22, isRf_23, isRf_24, isRf_25, isRf_26, isRf_27, isRf_28, k_X12_perform_0, k_X12_perform_1, k_X12_perform_2, k_X12_perform_5, k_X12_perform_6, k_X12_perform_7, k_X12_perform_10, k_X12_perform_13, k_X12_perform_14, k_X12_perform_17, k_X12_perform_20, k_X12_perform_21, k_X12_perform_22, k_X12_perform_23, k_X12_perform_24, k_X12_perform_25, k_X12_perform_26, k_X12_perform_29, k_X12_perform_30, k_X12_perform_31, k_X12_perform_34, k_X12_perform_35, k_X12_perform_36, k_X12_perform_39, k_X12_perform_40, k_X12_perform_42, k_X12_perform_43, k_X12_perform_44, k_X12_perform_45, k_X12_perform_46, k_X12_perform_47, k_X12_perform_50, k_X12_perform_53, k_X12_perform_54, k_X12_perform_57, k_X12_perform_58, k_X12_perform_59, k_X12_perform_62, k_X12_perform_63, k_X12_perform_65, k_X12_perform_66, k_X12_perform_67, k_X12_perform_68, k_X12_perform_69, k_X12_perform_70, k_X12_perform_73, k_X12_perform_74, k_X12_perform_77, k_X12_perform_80, k_X12_perform_81, w_X12_canStep_e, w_X12_isSeason_e, w_X12_remember_e, w_X12_steps_e, s14, mCs_rmb]
      repeat' (first | assumption | exact y1 | exact hsb | exact hxr | exact hsr | apply And.intro | intro _)
      all_goals first | omega | exact absurd trivial (by assumption) | exact hfin (by assumption) | exact i9 _ _ (by assumption) (by assumption)
    · have hfin := h2 hcd i σ' hpf (by omega) (Or.inl (by omega))
      simp only [↓reduceIte, inR_0, inR_1, inR_m, vSw2_e, swP_n, swP_c, vI_e, vL_e, vNull_e, vIload_e, vLload_e, vAload_e, vIstore_e, vLstore_e, vAstore_e, vIinc_e, vIadd_e, vIsub_e, vImul_e, vIand_e, vIor_e, vIxor_e, vIshl_e, vIshr_e, vIushr_e, vIdiv_e, vIrem_e, vLadd_e, vLsub_e, vLmul_e, vLand_e, vLor_e, vLxor_e, vLdiv_e, vLrem_e, vLushr_e, vLshl_e, vLcmp_e, vIneg_e, vI2l_e, vL2i_e, vI2b_e, vI2c_e, vDup_e, vPop_e, vDup2_e, vGoto_e, vIcEq_e, vIfEq_e, vIcNe_e, vIfNe_e, vIcLt_e, vIfLt_e, vIcGe_e, vIfGe_e, vIcGt_e, vIfGt_e, vIcLe_e, vIfLe_e, vNonnull_e, vSw_e, vGetI_e, vGetL_e, vGetR_e, vPutI_e, vPutZ_e, vPutL_e, vPutR_e, vIald_e, vIald_s, vLald_e, vBald_e, vBald_s, vAald_e, vIast_e, vLast_e, vBast_e, vAast_e, vAlen_e8, vAlen_e9, vAlen_e10, vAlen_e11, vAlen_e5, vAlen_e3, vGets_e, vCompact_e, vLdcS_e, vIret_e, vZret_e, vCret_e, vBret_e, vLret_e, vVret_e, vAret_e, vCallM_e0, vCallMV_e0, vCallS_e0, vCallSV_e0, vCallM_e1, vCallMV_e1, vCallS_e1, vCallSV_e1, vCallM_e2, vCallMV_e2, vCallS_e2, vCallSV_e2, vCallM_e3, vCallMV_e3, vCallS_e3, vCallSV_e3, vCallM_e4, vCallMV_e4, vCallS_e4, vCallSV_e4, vCallM_e5, vCallMV_e5, vCallS_e5, vCallSV_e5, vCallM_e6, vCallMV_e6, vCallS_e6, vCallSV_e6, vCallM_e7, vCallMV_e7, vCallS_e7, vCallSV_e7, vBad_e, vStrVal_e, vStrCod_e, vForm_e, vCallT_e0, vCallT_e1, vCallT_e2, vCopy_e, rf_0_0, rf_0_1, rf_0_2, rf_0_3, rf_0_4, rf_0_7, rf_0_10, rf_0_11, rf_0_12, rf_0_13, rf_0_14, rf_0_15, rf_0_16, rf_1_0, rf_3_0, rf_3_1, rf_6_0, rf_6_1, rf_9_0, rf_9_1, rf_9_3, rf_13_0, rf_13_1, rf_13_2, rf_16_0, rf_16_1, rf_16_2, rf_16_3, rf_21_0, rf_21_1, rf_21_2, rf_21_3, rf_26_0, rf_26_1, rf_26_2, rf_26_3, rf_26_4, rf_26_5, rf_26_6, rf_31_0, rf_31_2, rf_31_5, rf_31_6, rf_36_0, rf_36_1, rf_36_2, rf_36_3, rf_39_0, rf_39_1, rf_39_2, rf_41_0, rf_41_1, rf_41_2, rf_41_3, rf_5000_1, rf_5000_2, rf_5000_3, rf_5000_4, rf_5000_5, rf_5000_15, rf_5000_16, rf_5000_18, rf_5000_19, rf_5000_20, rf_5000_21, rf_5000_22, rf_5000_23, rf_5000_24, rf_5000_25, rf_5000_26, rf_5000_27, rf_5000_36, rf_5000_37, rf_5000_40, rf_5000_41, rf_5000_42, rf_5000_43, rf_5000_44, rf_5000_45, rf_5000_47, rf_5000_52, rf_5000_54, rf_5000_55, rf_100_0, rf_100_1, rf_103_0, rf_103_1, rf_106_0, rf_106_1, rf_109_0, rf_109_1, al_2, al_4, al_5, al_7, al_8, al_10, al_11, al_12, al_14, al_15, al_17, al_18, al_19, al_20, al_22, al_23, al_24, al_25, al_27, al_28, al_29, al_30, al_32, al_33, al_34, al_35, al_37, al_38, al_40, al_42, al_5001, al_5002, al_5003, al_5004, al_5005, al_5006, al_5007, al_5008, al_5009, al_5010, al_5011, al_5012, al_5013, al_5014, al_5015, al_5016, al_5017, al_5018, al_5019, al_5020, al_5021, al_5022, al_5023, al_5024, al_5025, al_5026, al_9000, al_101, al_102, al_104, al_105, al_107, al_108, al_110, al_111, vcs_e, lg_c0, lg_cs, lg_nil, set_c0, set_cs, okst_0, okst_s, acok_n, acok_c, List.contains_nil, List.contains_cons, Bool.or_false, Bool.false_or, Bool.false_eq_true, if_false, if_true, ite_self, ne_eq, true_and, and_true, not_false_eq_true, not_true_eq_false, false_imp_iff, true_imp_iff, Nat.ble_eq, Bool.and_eq_true, reduceCtorEq, or_false, false_or, or_true, true_or, false_and, and_false, and_self, Int.reduceLE, Int.reduceAdd, Int.reduceSub, Int.reduceMul, Int.reduceNeg, Int.reduceLT, Int.reduceEq, Int.reduceNe, Nat.reduceBEq, Nat.reduceBNe, Nat.reduceEqDiff, amCmp_in, amCmp_lt, amCmp_le, amCmp_gt, amCmp_ge, amCmp_eq, amCmp_ne, Nat.reduceLeDiff, Nat.reduceSub, Bool.and_true, Bool.true_and, Bool.and_self, Bool.or_true, Bool.true_or, isRf_3, isRf_4, isRf_5, isRf_8, isRf_9, isRf_10, isRf_11, isRf_15, isRf_16, isRf_17, isRf_18, isRf_19, isRf_20, isRf_21, isRf_22, isRf_23, isRf_24, isRf_25, isRf_26, isRf_27, isRf_28, k_X12_perform_0, k_X12_perform_1, k_X12_perform_2, k_X12_perform_5, k_X12_perform_6, k_X12_perform_7, k_X12_perform_10, k_X12_perform_13, k_X12_perform_14, k_X12_perform_17, k_X12_perform_20, k_X12_perform_21, k_X12_perform_22, k_X12_perform_23, k_X12_perform_24, k_X12_perform_25, k_X12_perform_26, k_X12_perform_29, k_X12_perform_30, k_X12_perform_31, k_X12_perform_34, k_X12_perform_35, k_X12_perform_36, k_X12_perform_39, k_X12_perform_40, k_X12_perform_42, k_X12_perform_43, k_X12_perform_44, k_X12_perform_45, k_X12_perform_46, k_X12_perform_47, k_X12_perform_50, k_X12_perform_53, k_X12_perform_54, k_X12_perform_57, k_X12_perform_58, k_X12_perform_59, k_X12_perform_62, k_X12_perform_63, k_X12_perform_65, k_X12_perform_66, k_X12_perform_67, k_X12_perform_68, k_X12_perform_69, k_X12_perform_70, k_X12_perform_73, k_X12_perform_74, k_X12_perform_77, k_X12_perform_80, k_X12_perform_81, w_X12_canStep_e, w_X12_isSeason_e, w_X12_remember_e, w_X12_steps_e, s14, mCs_rmb]
      repeat' (first | assumption | exact y1 | exact hse' | apply And.intro | intro _)
      all_goals first | omega | exact absurd trivial (by assumption) | exact hfin
  · change vcs _ _ _ _ 60 0 [(28, 5000), (0, s), (6, 0), (6, 0)] [] σ
    by_cases d : 0 ≤ s ∧ s < σ 5000 34
    · by_cases g : σ 5000 29 = 0
      · have hq := h1 (by omega)
        simp only [↓reduceIte, inR_0, inR_1, inR_m, vSw2_e, swP_n, swP_c, vI_e, vL_e, vNull_e, vIload_e, vLload_e, vAload_e, vIstore_e, vLstore_e, vAstore_e, vIinc_e, vIadd_e, vIsub_e, vImul_e, vIand_e, vIor_e, vIxor_e, vIshl_e, vIshr_e, vIushr_e, vIdiv_e, vIrem_e, vLadd_e, vLsub_e, vLmul_e, vLand_e, vLor_e, vLxor_e, vLdiv_e, vLrem_e, vLushr_e, vLshl_e, vLcmp_e, vIneg_e, vI2l_e, vL2i_e, vI2b_e, vI2c_e, vDup_e, vPop_e, vDup2_e, vGoto_e, vIcEq_e, vIfEq_e, vIcNe_e, vIfNe_e, vIcLt_e, vIfLt_e, vIcGe_e, vIfGe_e, vIcGt_e, vIfGt_e, vIcLe_e, vIfLe_e, vNonnull_e, vSw_e, vGetI_e, vGetL_e, vGetR_e, vPutI_e, vPutZ_e, vPutL_e, vPutR_e, vIald_e, vIald_s, vLald_e, vBald_e, vBald_s, vAald_e, vIast_e, vLast_e, vBast_e, vAast_e, vAlen_e8, vAlen_e9, vAlen_e10, vAlen_e11, vAlen_e5, vAlen_e3, vGets_e, vCompact_e, vLdcS_e, vIret_e, vZret_e, vCret_e, vBret_e, vLret_e, vVret_e, vAret_e, vCallM_e0, vCallMV_e0, vCallS_e0, vCallSV_e0, vCallM_e1, vCallMV_e1, vCallS_e1, vCallSV_e1, vCallM_e2, vCallMV_e2, vCallS_e2, vCallSV_e2, vCallM_e3, vCallMV_e3, vCallS_e3, vCallSV_e3, vCallM_e4, vCallMV_e4, vCallS_e4, vCallSV_e4, vCallM_e5, vCallMV_e5, vCallS_e5, vCallSV_e5, vCallM_e6, vCallMV_e6, vCallS_e6, vCallSV_e6, vCallM_e7, vCallMV_e7, vCallS_e7, vCallSV_e7, vBad_e, vStrVal_e, vStrCod_e, vForm_e, vCallT_e0, vCallT_e1, vCallT_e2, vCopy_e, rf_0_0, rf_0_1, rf_0_2, rf_0_3, rf_0_4, rf_0_7, rf_0_10, rf_0_11, rf_0_12, rf_0_13, rf_0_14, rf_0_15, rf_0_16, rf_1_0, rf_3_0, rf_3_1, rf_6_0, rf_6_1, rf_9_0, rf_9_1, rf_9_3, rf_13_0, rf_13_1, rf_13_2, rf_16_0, rf_16_1, rf_16_2, rf_16_3, rf_21_0, rf_21_1, rf_21_2, rf_21_3, rf_26_0, rf_26_1, rf_26_2, rf_26_3, rf_26_4, rf_26_5, rf_26_6, rf_31_0, rf_31_2, rf_31_5, rf_31_6, rf_36_0, rf_36_1, rf_36_2, rf_36_3, rf_39_0, rf_39_1, rf_39_2, rf_41_0, rf_41_1, rf_41_2, rf_41_3, rf_5000_1, rf_5000_2, rf_5000_3, rf_5000_4, rf_5000_5, rf_5000_15, rf_5000_16, rf_5000_18, rf_5000_19, rf_5000_20, rf_5000_21, rf_5000_22, rf_5000_23, rf_5000_24, rf_5000_25, rf_5000_26, rf_5000_27, rf_5000_36, rf_5000_37, rf_5000_40, rf_5000_41, rf_5000_42, rf_5000_43, rf_5000_44, rf_5000_45, rf_5000_47, rf_5000_52, rf_5000_54, rf_5000_55, rf_100_0, rf_100_1, rf_103_0, rf_103_1, rf_106_0, rf_106_1, rf_109_0, rf_109_1, al_2, al_4, al_5, al_7, al_8, al_10, al_11, al_12, al_14, al_15, al_17, al_18, al_19, al_20, al_22, al_23, al_24, al_25, al_27, al_28, al_29, al_30, al_32, al_33, al_34, al_35, al_37, al_38, al_40, al_42, al_5001, al_5002, al_5003, al_5004, al_5005, al_5006, al_5007, al_5008, al_5009, al_5010, al_5011, al_5012, al_5013, al_5014, al_5015, al_5016, al_5017, al_5018, al_5019, al_5020, al_5021, al_5022, al_5023, al_5024, al_5025, al_5026, al_9000, al_101, al_102, al_104, al_105, al_107, al_108, al_110, al_111, vcs_e, lg_c0, lg_cs, lg_nil, set_c0, set_cs, okst_0, okst_s, acok_n, acok_c, List.contains_nil, List.contains_cons, Bool.or_false, Bool.false_or, Bool.false_eq_true, if_false, if_true, ite_self, ne_eq, true_and, and_true, not_false_eq_true, not_true_eq_false, false_imp_iff, true_imp_iff, Nat.ble_eq, Bool.and_eq_true, reduceCtorEq, or_false, false_or, or_true, true_or, false_and, and_false, and_self, Int.reduceLE, Int.reduceAdd, Int.reduceSub, Int.reduceMul, Int.reduceNeg, Int.reduceLT, Int.reduceEq, Int.reduceNe, Nat.reduceBEq, Nat.reduceBNe, Nat.reduceEqDiff, amCmp_in, amCmp_lt, amCmp_le, amCmp_gt, amCmp_ge, amCmp_eq, amCmp_ne, Nat.reduceLeDiff, Nat.reduceSub, Bool.and_true, Bool.true_and, Bool.and_self, Bool.or_true, Bool.true_or, isRf_3, isRf_4, isRf_5, isRf_8, isRf_9, isRf_10, isRf_11, isRf_15, isRf_16, isRf_17, isRf_18, isRf_19, isRf_20, isRf_21, isRf_22, isRf_23, isRf_24, isRf_25, isRf_26, isRf_27, isRf_28, k_X12_perform_0, k_X12_perform_1, k_X12_perform_2, k_X12_perform_5, k_X12_perform_6, k_X12_perform_7, k_X12_perform_10, k_X12_perform_13, k_X12_perform_14, k_X12_perform_17, k_X12_perform_20, k_X12_perform_21, k_X12_perform_22, k_X12_perform_23, k_X12_perform_24, k_X12_perform_25, k_X12_perform_26, k_X12_perform_29, k_X12_perform_30, k_X12_perform_31, k_X12_perform_34, k_X12_perform_35, k_X12_perform_36, k_X12_perform_39, k_X12_perform_40, k_X12_perform_42, k_X12_perform_43, k_X12_perform_44, k_X12_perform_45, k_X12_perform_46, k_X12_perform_47, k_X12_perform_50, k_X12_perform_53, k_X12_perform_54, k_X12_perform_57, k_X12_perform_58, k_X12_perform_59, k_X12_perform_62, k_X12_perform_63, k_X12_perform_65, k_X12_perform_66, k_X12_perform_67, k_X12_perform_68, k_X12_perform_69, k_X12_perform_70, k_X12_perform_73, k_X12_perform_74, k_X12_perform_77, k_X12_perform_80, k_X12_perform_81, w_X12_canStep_e, w_X12_isSeason_e, w_X12_remember_e, w_X12_steps_e, e34, e29, if_pos d, g]
        repeat' (first | apply And.intro | intro _)
        all_goals first | omega | exact absurd trivial (by assumption) | exact hq
      · have i9 : ∃ k', inv_prf σ s k' 24 [(28, 5000), (0, s), (0, 0), (6, 0)] [] (th0 σ) := by
          have sl := hse.2.1 s d.1 d.2
          exact ⟨(σ 5014 s).toNat, rfl, rfl, ⟨d.1, d.2, g⟩, 0, (6, 0), rfl, by omega, rfl⟩
        simp only [↓reduceIte, inR_0, inR_1, inR_m, vSw2_e, swP_n, swP_c, vI_e, vL_e, vNull_e, vIload_e, vLload_e, vAload_e, vIstore_e, vLstore_e, vAstore_e, vIinc_e, vIadd_e, vIsub_e, vImul_e, vIand_e, vIor_e, vIxor_e, vIshl_e, vIshr_e, vIushr_e, vIdiv_e, vIrem_e, vLadd_e, vLsub_e, vLmul_e, vLand_e, vLor_e, vLxor_e, vLdiv_e, vLrem_e, vLushr_e, vLshl_e, vLcmp_e, vIneg_e, vI2l_e, vL2i_e, vI2b_e, vI2c_e, vDup_e, vPop_e, vDup2_e, vGoto_e, vIcEq_e, vIfEq_e, vIcNe_e, vIfNe_e, vIcLt_e, vIfLt_e, vIcGe_e, vIfGe_e, vIcGt_e, vIfGt_e, vIcLe_e, vIfLe_e, vNonnull_e, vSw_e, vGetI_e, vGetL_e, vGetR_e, vPutI_e, vPutZ_e, vPutL_e, vPutR_e, vIald_e, vIald_s, vLald_e, vBald_e, vBald_s, vAald_e, vIast_e, vLast_e, vBast_e, vAast_e, vAlen_e8, vAlen_e9, vAlen_e10, vAlen_e11, vAlen_e5, vAlen_e3, vGets_e, vCompact_e, vLdcS_e, vIret_e, vZret_e, vCret_e, vBret_e, vLret_e, vVret_e, vAret_e, vCallM_e0, vCallMV_e0, vCallS_e0, vCallSV_e0, vCallM_e1, vCallMV_e1, vCallS_e1, vCallSV_e1, vCallM_e2, vCallMV_e2, vCallS_e2, vCallSV_e2, vCallM_e3, vCallMV_e3, vCallS_e3, vCallSV_e3, vCallM_e4, vCallMV_e4, vCallS_e4, vCallSV_e4, vCallM_e5, vCallMV_e5, vCallS_e5, vCallSV_e5, vCallM_e6, vCallMV_e6, vCallS_e6, vCallSV_e6, vCallM_e7, vCallMV_e7, vCallS_e7, vCallSV_e7, vBad_e, vStrVal_e, vStrCod_e, vForm_e, vCallT_e0, vCallT_e1, vCallT_e2, vCopy_e, rf_0_0, rf_0_1, rf_0_2, rf_0_3, rf_0_4, rf_0_7, rf_0_10, rf_0_11, rf_0_12, rf_0_13, rf_0_14, rf_0_15, rf_0_16, rf_1_0, rf_3_0, rf_3_1, rf_6_0, rf_6_1, rf_9_0, rf_9_1, rf_9_3, rf_13_0, rf_13_1, rf_13_2, rf_16_0, rf_16_1, rf_16_2, rf_16_3, rf_21_0, rf_21_1, rf_21_2, rf_21_3, rf_26_0, rf_26_1, rf_26_2, rf_26_3, rf_26_4, rf_26_5, rf_26_6, rf_31_0, rf_31_2, rf_31_5, rf_31_6, rf_36_0, rf_36_1, rf_36_2, rf_36_3, rf_39_0, rf_39_1, rf_39_2, rf_41_0, rf_41_1, rf_41_2, rf_41_3, rf_5000_1, rf_5000_2, rf_5000_3, rf_5000_4, rf_5000_5, rf_5000_15, rf_5000_16, rf_5000_18, rf_5000_19, rf_5000_20, rf_5000_21, rf_5000_22, rf_5000_23, rf_5000_24, rf_5000_25, rf_5000_26, rf_5000_27, rf_5000_36, rf_5000_37, rf_5000_40, rf_5000_41, rf_5000_42, rf_5000_43, rf_5000_44, rf_5000_45, rf_5000_47, rf_5000_52, rf_5000_54, rf_5000_55, rf_100_0, rf_100_1, rf_103_0, rf_103_1, rf_106_0, rf_106_1, rf_109_0, rf_109_1, al_2, al_4, al_5, al_7, al_8, al_10, al_11, al_12, al_14, al_15, al_17, al_18, al_19, al_20, al_22, al_23, al_24, al_25, al_27, al_28, al_29, al_30, al_32, al_33, al_34, al_35, al_37, al_38, al_40, al_42, al_5001, al_5002, al_5003, al_5004, al_5005, al_5006, al_5007, al_5008, al_5009, al_5010, al_5011, al_5012, al_5013, al_5014, al_5015, al_5016, al_5017, al_5018, al_5019, al_5020, al_5021, al_5022, al_5023, al_5024, al_5025, al_5026, al_9000, al_101, al_102, al_104, al_105, al_107, al_108, al_110, al_111, vcs_e, lg_c0, lg_cs, lg_nil, set_c0, set_cs, okst_0, okst_s, acok_n, acok_c, List.contains_nil, List.contains_cons, Bool.or_false, Bool.false_or, Bool.false_eq_true, if_false, if_true, ite_self, ne_eq, true_and, and_true, not_false_eq_true, not_true_eq_false, false_imp_iff, true_imp_iff, Nat.ble_eq, Bool.and_eq_true, reduceCtorEq, or_false, false_or, or_true, true_or, false_and, and_false, and_self, Int.reduceLE, Int.reduceAdd, Int.reduceSub, Int.reduceMul, Int.reduceNeg, Int.reduceLT, Int.reduceEq, Int.reduceNe, Nat.reduceBEq, Nat.reduceBNe, Nat.reduceEqDiff, amCmp_in, amCmp_lt, amCmp_le, amCmp_gt, amCmp_ge, amCmp_eq, amCmp_ne, Nat.reduceLeDiff, Nat.reduceSub, Bool.and_true, Bool.true_and, Bool.and_self, Bool.or_true, Bool.true_or, isRf_3, isRf_4, isRf_5, isRf_8, isRf_9, isRf_10, isRf_11, isRf_15, isRf_16, isRf_17, isRf_18, isRf_19, isRf_20, isRf_21, isRf_22, isRf_23, isRf_24, isRf_25, isRf_26, isRf_27, isRf_28, k_X12_perform_0, k_X12_perform_1, k_X12_perform_2, k_X12_perform_5, k_X12_perform_6, k_X12_perform_7, k_X12_perform_10, k_X12_perform_13, k_X12_perform_14, k_X12_perform_17, k_X12_perform_20, k_X12_perform_21, k_X12_perform_22, k_X12_perform_23, k_X12_perform_24, k_X12_perform_25, k_X12_perform_26, k_X12_perform_29, k_X12_perform_30, k_X12_perform_31, k_X12_perform_34, k_X12_perform_35, k_X12_perform_36, k_X12_perform_39, k_X12_perform_40, k_X12_perform_42, k_X12_perform_43, k_X12_perform_44, k_X12_perform_45, k_X12_perform_46, k_X12_perform_47, k_X12_perform_50, k_X12_perform_53, k_X12_perform_54, k_X12_perform_57, k_X12_perform_58, k_X12_perform_59, k_X12_perform_62, k_X12_perform_63, k_X12_perform_65, k_X12_perform_66, k_X12_perform_67, k_X12_perform_68, k_X12_perform_69, k_X12_perform_70, k_X12_perform_73, k_X12_perform_74, k_X12_perform_77, k_X12_perform_80, k_X12_perform_81, w_X12_canStep_e, w_X12_isSeason_e, w_X12_remember_e, w_X12_steps_e, e34, e29, if_pos d]
        repeat' (first | apply And.intro | intro _)
        all_goals first | omega | exact absurd trivial (by assumption) | exact i9
    · have hq := h1 (by omega)
      simp only [↓reduceIte, inR_0, inR_1, inR_m, vSw2_e, swP_n, swP_c, vI_e, vL_e, vNull_e, vIload_e, vLload_e, vAload_e, vIstore_e, vLstore_e, vAstore_e, vIinc_e, vIadd_e, vIsub_e, vImul_e, vIand_e, vIor_e, vIxor_e, vIshl_e, vIshr_e, vIushr_e, vIdiv_e, vIrem_e, vLadd_e, vLsub_e, vLmul_e, vLand_e, vLor_e, vLxor_e, vLdiv_e, vLrem_e, vLushr_e, vLshl_e, vLcmp_e, vIneg_e, vI2l_e, vL2i_e, vI2b_e, vI2c_e, vDup_e, vPop_e, vDup2_e, vGoto_e, vIcEq_e, vIfEq_e, vIcNe_e, vIfNe_e, vIcLt_e, vIfLt_e, vIcGe_e, vIfGe_e, vIcGt_e, vIfGt_e, vIcLe_e, vIfLe_e, vNonnull_e, vSw_e, vGetI_e, vGetL_e, vGetR_e, vPutI_e, vPutZ_e, vPutL_e, vPutR_e, vIald_e, vIald_s, vLald_e, vBald_e, vBald_s, vAald_e, vIast_e, vLast_e, vBast_e, vAast_e, vAlen_e8, vAlen_e9, vAlen_e10, vAlen_e11, vAlen_e5, vAlen_e3, vGets_e, vCompact_e, vLdcS_e, vIret_e, vZret_e, vCret_e, vBret_e, vLret_e, vVret_e, vAret_e, vCallM_e0, vCallMV_e0, vCallS_e0, vCallSV_e0, vCallM_e1, vCallMV_e1, vCallS_e1, vCallSV_e1, vCallM_e2, vCallMV_e2, vCallS_e2, vCallSV_e2, vCallM_e3, vCallMV_e3, vCallS_e3, vCallSV_e3, vCallM_e4, vCallMV_e4, vCallS_e4, vCallSV_e4, vCallM_e5, vCallMV_e5, vCallS_e5, vCallSV_e5, vCallM_e6, vCallMV_e6, vCallS_e6, vCallSV_e6, vCallM_e7, vCallMV_e7, vCallS_e7, vCallSV_e7, vBad_e, vStrVal_e, vStrCod_e, vForm_e, vCallT_e0, vCallT_e1, vCallT_e2, vCopy_e, rf_0_0, rf_0_1, rf_0_2, rf_0_3, rf_0_4, rf_0_7, rf_0_10, rf_0_11, rf_0_12, rf_0_13, rf_0_14, rf_0_15, rf_0_16, rf_1_0, rf_3_0, rf_3_1, rf_6_0, rf_6_1, rf_9_0, rf_9_1, rf_9_3, rf_13_0, rf_13_1, rf_13_2, rf_16_0, rf_16_1, rf_16_2, rf_16_3, rf_21_0, rf_21_1, rf_21_2, rf_21_3, rf_26_0, rf_26_1, rf_26_2, rf_26_3, rf_26_4, rf_26_5, rf_26_6, rf_31_0, rf_31_2, rf_31_5, rf_31_6, rf_36_0, rf_36_1, rf_36_2, rf_36_3, rf_39_0, rf_39_1, rf_39_2, rf_41_0, rf_41_1, rf_41_2, rf_41_3, rf_5000_1, rf_5000_2, rf_5000_3, rf_5000_4, rf_5000_5, rf_5000_15, rf_5000_16, rf_5000_18, rf_5000_19, rf_5000_20, rf_5000_21, rf_5000_22, rf_5000_23, rf_5000_24, rf_5000_25, rf_5000_26, rf_5000_27, rf_5000_36, rf_5000_37, rf_5000_40, rf_5000_41, rf_5000_42, rf_5000_43, rf_5000_44, rf_5000_45, rf_5000_47, rf_5000_52, rf_5000_54, rf_5000_55, rf_100_0, rf_100_1, rf_103_0, rf_103_1, rf_106_0, rf_106_1, rf_109_0, rf_109_1, al_2, al_4, al_5, al_7, al_8, al_10, al_11, al_12, al_14, al_15, al_17, al_18, al_19, al_20, al_22, al_23, al_24, al_25, al_27, al_28, al_29, al_30, al_32, al_33, al_34, al_35, al_37, al_38, al_40, al_42, al_5001, al_5002, al_5003, al_5004, al_5005, al_5006, al_5007, al_5008, al_5009, al_5010, al_5011, al_5012, al_5013, al_5014, al_5015, al_5016, al_5017, al_5018, al_5019, al_5020, al_5021, al_5022, al_5023, al_5024, al_5025, al_5026, al_9000, al_101, al_102, al_104, al_105, al_107, al_108, al_110, al_111, vcs_e, lg_c0, lg_cs, lg_nil, set_c0, set_cs, okst_0, okst_s, acok_n, acok_c, List.contains_nil, List.contains_cons, Bool.or_false, Bool.false_or, Bool.false_eq_true, if_false, if_true, ite_self, ne_eq, true_and, and_true, not_false_eq_true, not_true_eq_false, false_imp_iff, true_imp_iff, Nat.ble_eq, Bool.and_eq_true, reduceCtorEq, or_false, false_or, or_true, true_or, false_and, and_false, and_self, Int.reduceLE, Int.reduceAdd, Int.reduceSub, Int.reduceMul, Int.reduceNeg, Int.reduceLT, Int.reduceEq, Int.reduceNe, Nat.reduceBEq, Nat.reduceBNe, Nat.reduceEqDiff, amCmp_in, amCmp_lt, amCmp_le, amCmp_gt, amCmp_ge, amCmp_eq, amCmp_ne, Nat.reduceLeDiff, Nat.reduceSub, Bool.and_true, Bool.true_and, Bool.and_self, Bool.or_true, Bool.true_or, isRf_3, isRf_4, isRf_5, isRf_8, isRf_9, isRf_10, isRf_11, isRf_15, isRf_16, isRf_17, isRf_18, isRf_19, isRf_20, isRf_21, isRf_22, isRf_23, isRf_24, isRf_25, isRf_26, isRf_27, isRf_28, k_X12_perform_0, k_X12_perform_1, k_X12_perform_2, k_X12_perform_5, k_X12_perform_6, k_X12_perform_7, k_X12_perform_10, k_X12_perform_13, k_X12_perform_14, k_X12_perform_17, k_X12_perform_20, k_X12_perform_21, k_X12_perform_22, k_X12_perform_23, k_X12_perform_24, k_X12_perform_25, k_X12_perform_26, k_X12_perform_29, k_X12_perform_30, k_X12_perform_31, k_X12_perform_34, k_X12_perform_35, k_X12_perform_36, k_X12_perform_39, k_X12_perform_40, k_X12_perform_42, k_X12_perform_43, k_X12_perform_44, k_X12_perform_45, k_X12_perform_46, k_X12_perform_47, k_X12_perform_50, k_X12_perform_53, k_X12_perform_54, k_X12_perform_57, k_X12_perform_58, k_X12_perform_59, k_X12_perform_62, k_X12_perform_63, k_X12_perform_65, k_X12_perform_66, k_X12_perform_67, k_X12_perform_68, k_X12_perform_69, k_X12_perform_70, k_X12_perform_73, k_X12_perform_74, k_X12_perform_77, k_X12_perform_80, k_X12_perform_81, w_X12_canStep_e, w_X12_isSeason_e, w_X12_remember_e, w_X12_steps_e, e34, e29, if_neg d]
      repeat' (first | apply And.intro | intro _)
      all_goals first | omega | exact absurd trivial (by assumption) | exact hq
/-- the audience apart -/
def trC (σ : Mem) : Mem := cpy (th0 σ) 5015 0 5016 0 (28 + 3 * σ 5015 27)
theorem trC_j {σ : Mem} (h0 : 0 ≤ σ 5015 27) {j : Int} (j0 : 0 ≤ j) (j1 : j < 28) : trC σ 5016 j = σ 5015 j := by
  unfold trC; rw [cpy_in _ _ _ _ _ _ ⟨j0, by omega⟩, th_o σ (by decide)]; congr 1; omega
theorem trC_o (σ : Mem) {b : Int} (h : b ≠ 5016) : trC σ b = th0 σ b := by unfold trC; rw [cpy_oo _ _ _ _ _ _ h]
theorem MG_trC (σ : Mem) : MG σ (trC σ) := ⟨fun b h1 h2 h3 => by rw [trC_o σ (by omega)]; exact th_o σ h1, fun k a1 a2 a3 a4 a5 a6 a7 => by rw [trC_o σ (by decide)]; exact th_k σ a1⟩
theorem aR_c {n s : Int} {r r' : Int → Int} (n6 : n ≤ 6) (he : ∀ j, 0 ≤ j → j < 28 → r' j = r j) (h : aR n s r) : aR n s r' := by
  unfold aR
  obtain ⟨g1, g2, g3, g4, g5⟩ := h
  refine ⟨fun c c0 c1 => ?_, ?_, ?_, ?_, ?_⟩
  · rw [he _ (by omega) (by omega), he _ (by omega) (by omega), he _ (by omega) (by omega), he _ (by omega) (by omega)]; exact g1 c c0 c1
  · rw [he _ (by omega) (by omega)]; exact g2
  · rw [he _ (by omega) (by omega)]; exact g3
  · rw [he _ (by omega) (by omega)]; exact g4
  · rw [he _ (by omega) (by omega)]; exact g5
theorem mX_trC {σ : Mem} (h : mX σ 5015) : mX (trC σ) 5016 := by
  obtain ⟨hw, hh, hr⟩ := h
  have e7 : ∀ k, k ≠ 0 → trC σ 5000 k = σ 5000 k := fun k hk => by rw [trC_o σ (by decide)]; exact th_k σ hk
  refine ⟨Or.inr rfl, MG_mH (MG_trC σ) (mOk_c (e7 7 (by decide)) (fun b hb => by rw [trC_o σ (by omega)]; exact th_o σ (by omega)) hh.1) (by rw [e7 48 (by decide)]; exact hh.2.2.2.2.2.2.2.2) hh, ?_⟩
  rw [e7 29 (by decide), e7 30 (by decide)]
  exact aR_c hh.2.2.1.2 (fun j j0 j1 => trC_j hr.2.2.2.2.1 j0 j1) hr
theorem rnM_x {s : Int} {σ : Mem} (hx : mX σ 5016) (he : σ 5016 26 ≤ 999) : ∀ (i : Nat) (τ : Mem) (v : Int), rnM s i σ τ v → mX τ 5016 ∧ MG σ τ ∧ τ 5016 26 ≤ 999 := by
  intro i
  induction i with
  | zero => rintro τ v ⟨rfl, -⟩; exact ⟨hx, MG_rf τ, he⟩
  | succ i ih =>
    rintro τ v ⟨u, x, y, h1, h2, h3, -⟩
    obtain ⟨y1, y2, y3⟩ := ih u x h1
    obtain ⟨z1, z2, -, z4⟩ := mSp_x y1 y3 h2 h3
    exact ⟨z1, MG_tr y2 z2, z4⟩
theorem wd_1342 : Cond.fieldLink RX12 70 "ArmchairHouseModel" "trial" "[I" ∈ TBL := tb_tab (List.mem_of_getElem? (i := 1342) (by decide +kernel)) rfl
theorem fl_X12_70 : amFl RX12 12 37 70 RX12 TX12 57 := ⟨rfl, inT_12, by decide, wd_1342⟩
theorem wd_1789 : Cond.methodLink RX12 419 yX12_copy ∈ TBL := tb_tab (List.mem_of_getElem? (i := 1789) (by decide +kernel)) rfl
theorem wd_1791 : Cond.code yX12_copy cX12_copy 4 (none) ∈ TBL := tb_tab (List.mem_of_getElem? (i := 1791) (by decide +kernel)) rfl
theorem lk_X12_419 : amLk RX12 419 yX12_copy cX12_copy 4 (none) 2 := ⟨wd_1789, wd_12, wd_1791, by decide +kernel, by decide +kernel, by decide⟩
theorem wd_1790 : Cond.static yX12_copy ∈ TBL := tb_tab (List.mem_of_getElem? (i := 1790) (by decide +kernel)) rfl
def a_X12_run : AC := [(0, vAload 0 1), (1, vI 0 2), (2, vPutI 28 0 5), (5, vAload 0 6), (6, vIload 1 7), (7, vCallM w_X12_isSeason 28 1 10), (10, vIfEq 30 13), (13, vAload 0 14), (14, vGetI 28 29 17), (17, vIfEq 30 20), (20, vIload 2 21), (21, vI2l 22), (22, vL 0 23), (23, vL 1 24), (24, vCallS w_X12_isIn 3 27), (27, vIfNe 34 30), (30, vI (-1000000) 33), (33, vIret), (34, vAload 0 35), (35, vGetR TT 28 36 8 38), (38, vAload 0 39), (39, vGetR TT 28 37 8 42), (42, vCallSV w_X12_copy 2 45), (45, vI 0 46), (46, vIstore 3 47), (47, vI 0 48), (48, vIstore 4 50), (50, vIload 3 51), (51, vAload 0 52), (52, vGetR TT 28 27 8 55), (55, vIload 1 56), (56, vIald TT 57), (57, vIcGe 106 60), (60, vAload 0 61), (61, vAload 0 62), (62, vGetR TT 28 37 8 65), (65, vI 3 66), (66, vI 16 68), (68, vIload 1 69), (69, vImul 70), (70, vIload 3 71), (71, vIadd 72), (72, vImul 73), (73, vCallM w_X12_canStep 28 2 76), (76, vIfEq 106 79), (79, vIload 4 81), (81, vAload 0 82), (82, vAload 0 83), (83, vGetR TT 28 37 8 86), (86, vI 3 87), (87, vI 16 89), (89, vIload 1 90), (90, vImul 91), (91, vIload 3 92), (92, vIadd 93), (93, vImul 94), (94, vCallM w_X12_steps 28 2 97), (97, vIadd 98), (98, vIstore 4 100), (100, vIinc 3 1 103), (103, vGoto 50), (106, vIload 2 107), (107, vI 1 108), (108, vIcNe 114 111), (111, vIload 4 113), (113, vIret), (114, vIload 3 115), (115, vAload 0 116), (116, vGetR TT 28 27 8 119), (119, vIload 1 120), (120, vIald TT 121), (121, vIcNe 128 124), (124, vI (-1) 125), (125, vGoto 129), (128, vIload 3 129), (129, vIret)]
theorem k_X12_run_0 : look a_X12_run 0 = vAload 0 1 := rfl
theorem k_X12_run_1 : look a_X12_run 1 = vI 0 2 := rfl
theorem k_X12_run_2 : look a_X12_run 2 = vPutI 28 0 5 := rfl
theorem k_X12_run_5 : look a_X12_run 5 = vAload 0 6 := rfl
theorem k_X12_run_6 : look a_X12_run 6 = vIload 1 7 := rfl
theorem k_X12_run_7 : look a_X12_run 7 = vCallM w_X12_isSeason 28 1 10 := rfl
theorem k_X12_run_10 : look a_X12_run 10 = vIfEq 30 13 := rfl
theorem k_X12_run_13 : look a_X12_run 13 = vAload 0 14 := rfl
theorem k_X12_run_14 : look a_X12_run 14 = vGetI 28 29 17 := rfl
theorem k_X12_run_17 : look a_X12_run 17 = vIfEq 30 20 := rfl
theorem k_X12_run_20 : look a_X12_run 20 = vIload 2 21 := rfl
theorem k_X12_run_21 : look a_X12_run 21 = vI2l 22 := rfl
theorem k_X12_run_22 : look a_X12_run 22 = vL 0 23 := rfl
theorem k_X12_run_23 : look a_X12_run 23 = vL 1 24 := rfl
theorem k_X12_run_24 : look a_X12_run 24 = vCallS w_X12_isIn 3 27 := rfl
theorem k_X12_run_27 : look a_X12_run 27 = vIfNe 34 30 := rfl
theorem k_X12_run_30 : look a_X12_run 30 = vI (-1000000) 33 := rfl
theorem k_X12_run_33 : look a_X12_run 33 = vIret := rfl
theorem k_X12_run_34 : look a_X12_run 34 = vAload 0 35 := rfl
theorem k_X12_run_35 : look a_X12_run 35 = vGetR TT 28 36 8 38 := rfl
theorem k_X12_run_38 : look a_X12_run 38 = vAload 0 39 := rfl
theorem k_X12_run_39 : look a_X12_run 39 = vGetR TT 28 37 8 42 := rfl
theorem k_X12_run_42 : look a_X12_run 42 = vCallSV w_X12_copy 2 45 := rfl
theorem k_X12_run_45 : look a_X12_run 45 = vI 0 46 := rfl
theorem k_X12_run_46 : look a_X12_run 46 = vIstore 3 47 := rfl
theorem k_X12_run_47 : look a_X12_run 47 = vI 0 48 := rfl
theorem k_X12_run_48 : look a_X12_run 48 = vIstore 4 50 := rfl
theorem k_X12_run_50 : look a_X12_run 50 = vIload 3 51 := rfl
theorem k_X12_run_51 : look a_X12_run 51 = vAload 0 52 := rfl
theorem k_X12_run_52 : look a_X12_run 52 = vGetR TT 28 27 8 55 := rfl
theorem k_X12_run_55 : look a_X12_run 55 = vIload 1 56 := rfl
theorem k_X12_run_56 : look a_X12_run 56 = vIald TT 57 := rfl
theorem k_X12_run_57 : look a_X12_run 57 = vIcGe 106 60 := rfl
theorem k_X12_run_60 : look a_X12_run 60 = vAload 0 61 := rfl
theorem k_X12_run_61 : look a_X12_run 61 = vAload 0 62 := rfl
theorem k_X12_run_62 : look a_X12_run 62 = vGetR TT 28 37 8 65 := rfl
theorem k_X12_run_65 : look a_X12_run 65 = vI 3 66 := rfl
theorem k_X12_run_66 : look a_X12_run 66 = vI 16 68 := rfl
theorem k_X12_run_68 : look a_X12_run 68 = vIload 1 69 := rfl
theorem k_X12_run_69 : look a_X12_run 69 = vImul 70 := rfl
theorem k_X12_run_70 : look a_X12_run 70 = vIload 3 71 := rfl
theorem k_X12_run_71 : look a_X12_run 71 = vIadd 72 := rfl
theorem k_X12_run_72 : look a_X12_run 72 = vImul 73 := rfl
theorem k_X12_run_73 : look a_X12_run 73 = vCallM w_X12_canStep 28 2 76 := rfl
theorem k_X12_run_76 : look a_X12_run 76 = vIfEq 106 79 := rfl
theorem k_X12_run_79 : look a_X12_run 79 = vIload 4 81 := rfl
theorem k_X12_run_81 : look a_X12_run 81 = vAload 0 82 := rfl
theorem k_X12_run_82 : look a_X12_run 82 = vAload 0 83 := rfl
theorem k_X12_run_83 : look a_X12_run 83 = vGetR TT 28 37 8 86 := rfl
theorem k_X12_run_86 : look a_X12_run 86 = vI 3 87 := rfl
theorem k_X12_run_87 : look a_X12_run 87 = vI 16 89 := rfl
theorem k_X12_run_89 : look a_X12_run 89 = vIload 1 90 := rfl
theorem k_X12_run_90 : look a_X12_run 90 = vImul 91 := rfl
theorem k_X12_run_91 : look a_X12_run 91 = vIload 3 92 := rfl
theorem k_X12_run_92 : look a_X12_run 92 = vIadd 93 := rfl
theorem k_X12_run_93 : look a_X12_run 93 = vImul 94 := rfl
theorem k_X12_run_94 : look a_X12_run 94 = vCallM w_X12_steps 28 2 97 := rfl
theorem k_X12_run_97 : look a_X12_run 97 = vIadd 98 := rfl
theorem k_X12_run_98 : look a_X12_run 98 = vIstore 4 100 := rfl
theorem k_X12_run_100 : look a_X12_run 100 = vIinc 3 1 103 := rfl
theorem k_X12_run_103 : look a_X12_run 103 = vGoto 50 := rfl
theorem k_X12_run_106 : look a_X12_run 106 = vIload 2 107 := rfl
theorem k_X12_run_107 : look a_X12_run 107 = vI 1 108 := rfl
theorem k_X12_run_108 : look a_X12_run 108 = vIcNe 114 111 := rfl
theorem k_X12_run_111 : look a_X12_run 111 = vIload 4 113 := rfl
theorem k_X12_run_113 : look a_X12_run 113 = vIret := rfl
theorem k_X12_run_114 : look a_X12_run 114 = vIload 3 115 := rfl
theorem k_X12_run_115 : look a_X12_run 115 = vAload 0 116 := rfl
theorem k_X12_run_116 : look a_X12_run 116 = vGetR TT 28 27 8 119 := rfl
theorem k_X12_run_119 : look a_X12_run 119 = vIload 1 120 := rfl
theorem k_X12_run_120 : look a_X12_run 120 = vIald TT 121 := rfl
theorem k_X12_run_121 : look a_X12_run 121 = vIcNe 128 124 := rfl
theorem k_X12_run_124 : look a_X12_run 124 = vI (-1) 125 := rfl
theorem k_X12_run_125 : look a_X12_run 125 = vGoto 129 := rfl
theorem k_X12_run_128 : look a_X12_run 128 = vIload 3 129 := rfl
theorem k_X12_run_129 : look a_X12_run 129 = vIret := rfl
theorem o_X12_run {X : amX} (e1 : XT X = TT) (e2 : XD X = 62) (hB : amB X RX12 cX12_run (some .int) 5) : ∀ pc, amOK X pc (look a_X12_run pc) := by
  have hT : amTok (XT X) := e1 ▸ TT_ok
  refine look_ok ?_
  unfold a_X12_run
  refine fc (ok_aload_n hB dX12_run_0) ?_
  refine fc (ok_iconst hB dX12_run_1) ?_
  refine fc (ok_putI hB hT fp_X12_111 rfl rfl rfl af_12_0 dX12_run_2) ?_
  refine fc (ok_aload_n hB dX12_run_5) ?_
  refine fc (ok_iload_n hB dX12_run_6) ?_
  refine fc (ok_callM hB hT (e1 ▸ s_X12_isSeason) lk_X12_415 (by rw [e2]; decide) (c := 12) rfl rfl rfl wd_1782 sl_X12_isSeason dX12_run_7) ?_
  refine fc (ok_if_eq hB (t := 30) (by decide) dX12_run_10) ?_
  refine fc (ok_aload_n hB dX12_run_13) ?_
  refine fc (ok_getI hB hT fl_X12_317 rfl rfl (Or.inl af_12_29) dX12_run_14) ?_
  refine fc (ok_if_eq hB (t := 30) (by decide) dX12_run_17) ?_
  refine fc (ok_iload_n hB dX12_run_20) ?_
  refine fc (ok_i2l hB dX12_run_21) ?_
  refine fc (ok_lconst hB (z := 0) (by decide) dX12_run_22) ?_
  refine fc (ok_lconst hB (z := 1) (by decide) dX12_run_23) ?_
  refine fc (ok_callS hB (e1 ▸ s_X12_isIn) lk_X12_232 (by rw [e2]; decide) wd_1502 dX12_run_24) ?_
  refine fc (ok_if_ne hB (t := 34) (by decide) dX12_run_27) ?_
  refine fc (ok_ldcw hB wd_1784 rfl dX12_run_30) ?_
  refine fc (ok_iret hB dX12_run_33) ?_
  refine fc (ok_aload_n hB dX12_run_34) ?_
  refine fc (okt_getR e1 hB hT fl_X12_67 rfl af_12_36 at_12_36 (by decide) dX12_run_35) ?_
  refine fc (ok_aload_n hB dX12_run_38) ?_
  refine fc (okt_getR e1 hB hT fl_X12_70 rfl af_12_37 at_12_37 (by decide) dX12_run_39) ?_
  refine fc (ok_callSV hB (e1 ▸ s_X12_copy) lk_X12_419 (by rw [e2]; decide) wd_1790 dX12_run_42) ?_
  refine fc (ok_iconst hB dX12_run_45) ?_
  refine fc (ok_istore_n hB (by decide) dX12_run_46) ?_
  refine fc (ok_iconst hB dX12_run_47) ?_
  refine fc (ok_istore hB (by decide) dX12_run_48) ?_
  refine fc (ok_iload_n hB dX12_run_50) ?_
  refine fc (ok_aload_n hB dX12_run_51) ?_
  refine fc (okt_getR e1 hB hT fl_X12_64 rfl af_12_27 at_12_27 (by decide) dX12_run_52) ?_
  refine fc (ok_iload_n hB dX12_run_55) ?_
  refine fc (okt_iaload e1 hB dX12_run_56) ?_
  refine fc (ok_icmp_ge hB (t := 106) (by decide) dX12_run_57) ?_
  refine fc (ok_aload_n hB dX12_run_60) ?_
  refine fc (ok_aload_n hB dX12_run_61) ?_
  refine fc (okt_getR e1 hB hT fl_X12_70 rfl af_12_37 at_12_37 (by decide) dX12_run_62) ?_
  refine fc (ok_iconst hB dX12_run_65) ?_
  refine fc (ok_bipush hB dX12_run_66 (by decide)) ?_
  refine fc (ok_iload_n hB dX12_run_68) ?_
  refine fc (ok_imul hB dX12_run_69) ?_
  refine fc (ok_iload_n hB dX12_run_70) ?_
  refine fc (ok_iadd hB dX12_run_71) ?_
  refine fc (ok_imul hB dX12_run_72) ?_
  refine fc (ok_callM hB hT (e1 ▸ s_X12_canStep) lk_X12_423 (by rw [e2]; decide) (c := 12) rfl rfl rfl wd_1794 sl_X12_canStep dX12_run_73) ?_
  refine fc (ok_if_eq hB (t := 106) (by decide) dX12_run_76) ?_
  refine fc (ok_iload hB dX12_run_79) ?_
  refine fc (ok_aload_n hB dX12_run_81) ?_
  refine fc (ok_aload_n hB dX12_run_82) ?_
  refine fc (okt_getR e1 hB hT fl_X12_70 rfl af_12_37 at_12_37 (by decide) dX12_run_83) ?_
  refine fc (ok_iconst hB dX12_run_86) ?_
  refine fc (ok_bipush hB dX12_run_87 (by decide)) ?_
  refine fc (ok_iload_n hB dX12_run_89) ?_
  refine fc (ok_imul hB dX12_run_90) ?_
  refine fc (ok_iload_n hB dX12_run_91) ?_
  refine fc (ok_iadd hB dX12_run_92) ?_
  refine fc (ok_imul hB dX12_run_93) ?_
  refine fc (ok_callM hB hT (e1 ▸ s_X12_steps) lk_X12_426 (by rw [e2]; decide) (c := 12) rfl rfl rfl wd_1798 sl_X12_steps dX12_run_94) ?_
  refine fc (ok_iadd hB dX12_run_97) ?_
  refine fc (ok_istore hB (by decide) dX12_run_98) ?_
  refine fc (ok_iinc hB (by decide) dX12_run_100) ?_
  refine fc (ok_goto hB (t := 50) (by decide) dX12_run_103) ?_
  refine fc (ok_iload_n hB dX12_run_106) ?_
  refine fc (ok_iconst hB dX12_run_107) ?_
  refine fc (ok_icmp_ne hB (t := 114) (by decide) dX12_run_108) ?_
  refine fc (ok_iload hB dX12_run_111) ?_
  refine fc (ok_iret hB dX12_run_113) ?_
  refine fc (ok_iload_n hB dX12_run_114) ?_
  refine fc (ok_aload_n hB dX12_run_115) ?_
  refine fc (okt_getR e1 hB hT fl_X12_64 rfl af_12_27 at_12_27 (by decide) dX12_run_116) ?_
  refine fc (ok_iload_n hB dX12_run_119) ?_
  refine fc (okt_iaload e1 hB dX12_run_120) ?_
  refine fc (ok_icmp_ne hB (t := 128) (by decide) dX12_run_121) ?_
  refine fc (ok_iconst hB dX12_run_124) ?_
  refine fc (ok_goto hB (t := 129) (by decide) dX12_run_125) ?_
  refine fc (ok_iload_n hB dX12_run_128) ?_
  refine fc (ok_iret hB dX12_run_129) ?_
  exact fn
def inv_rnm (σ : Mem) (s w : Int) (n pc : Nat) (ls st : List AV) (σ' : Mem) : Prop := pc = 50 ∧ st = [] ∧ (0 ≤ s ∧ s < σ 5000 34 ∧ σ 5000 29 ≠ 0 ∧ 0 ≤ w ∧ w ≤ 1) ∧ ∃ (i : Nat) (v : Int), ls = [(28, 5000), (0, s), (0, w), (0, (i : Int)), (0, v)] ∧ (i : Int) + n = σ 5014 s ∧ rnM s i (trC σ) σ' v
def w_X12_run : WP := fun av σ Q => ∃ (s : Int) (w : Int), av = [(28, 5000), (0, s), (0, w)] ∧ (InR s ∧ InR w ∧ mX σ 5015 ∧ σ 5015 26 ≤ 999 ∧ seOk σ ∧ (¬ (0 ≤ s ∧ s < σ 5000 34 ∧ σ 5000 29 ≠ 0 ∧ 0 ≤ w ∧ w ≤ 1) → Q (0, -1000000) (th0 σ)) ∧ (0 ≤ s ∧ s < σ 5000 34 ∧ σ 5000 29 ≠ 0 ∧ 0 ≤ w ∧ w ≤ 1 → ∀ (n_i : Nat) τ v, rnM s n_i (trC σ) τ v → (n_i : Int) ≤ σ 5014 s → ((n_i : Int) = σ 5014 s ∨ ¬ mCs τ 5016 (rwI s n_i)) → Q (0, if w = 1 then v else if (n_i : Int) = σ 5014 s then -1 else n_i) τ))
theorem w_X12_run_e (s : Int) (w : Int) (σ : Mem) (Q : AV → Mem → Prop) : w_X12_run [(28, 5000), (0, s), (0, w)] σ Q = (InR s ∧ InR w ∧ mX σ 5015 ∧ σ 5015 26 ≤ 999 ∧ seOk σ ∧ (¬ (0 ≤ s ∧ s < σ 5000 34 ∧ σ 5000 29 ≠ 0 ∧ 0 ≤ w ∧ w ≤ 1) → Q (0, -1000000) (th0 σ)) ∧ (0 ≤ s ∧ s < σ 5000 34 ∧ σ 5000 29 ≠ 0 ∧ 0 ≤ w ∧ w ≤ 1 → ∀ (n_i : Nat) τ v, rnM s n_i (trC σ) τ v → (n_i : Int) ≤ σ 5014 s → ((n_i : Int) = σ 5014 s ∨ ¬ mCs τ 5016 (rwI s n_i)) → Q (0, if w = 1 then v else if (n_i : Int) = σ 5014 s then -1 else n_i) τ)) := by
  apply propext; constructor
  · rintro ⟨s', w', h9, hb9⟩; cases h9; exact hb9
  · intro hb9; exact ⟨s, w, rfl, hb9⟩

set_option maxRecDepth 100000 in
set_option maxHeartbeats 4000000 in
theorem s_X12_run : ∀ av σ Q, w_X12_run av σ Q → amCall 62 0 0 TT yX12_run cX12_run 5 (some .int) av σ Q := by
  rintro av σ Q ⟨s, w, rfl, hs, hw, hx, he, hse, h1, h2⟩
  have e34 : th0 σ 5000 34 = σ 5000 34 := th_k σ (by decide)
  have e29 : th0 σ 5000 29 = σ 5000 29 := th_k σ (by decide)
  have t15 : th0 σ 5015 = σ 5015 := th_o σ (by decide)
  have n29 := hx.2.1.2.2.1
  have l27 := hx.2.2.2.2.2.2
  have hx0 := mX_trC hx
  have he0 : trC σ 5016 26 ≤ 999 := by rw [trC_j l27.1 (by decide) (by decide)]; exact he
  have b34 := hse.1
  refine am_m [50] (inv_rnm σ s w) (own := RX12) (A := look a_X12_run) (fun X e1 e2 hB => o_X12_run e1 e2 hB) rfl (by decide +kernel) rfl rfl ?_ ⟨90, ?_⟩ (w := 5)
  · rintro n pc ls st σ' ⟨rfl, rfl, hcd, i, v, rfl, hn, hpf⟩
    obtain ⟨y1, y2, y3⟩ := rnM_x hx0 he0 i σ' v hpf
    have hG := MG_tr (MG_trC σ) y2
    have hse' := MG_se hG hse
    have s14 : σ' 5014 = σ 5014 := hG.1 5014 (by decide) (by decide) (by decide)
    have sl := hse.2.1 s hcd.1 hcd.2.1
    refine ⟨90, ?_⟩
    have fin := h2 hcd i σ' v hpf (by omega)
    by_cases cc : (i : Int) < σ 5014 s
    · have f1 : w = 1 → ¬ mCs σ' 5016 (rwI s i) → Q (0, v) σ' := fun q1 q2 => by have := fin (Or.inr q2); rw [if_pos q1] at this; exact this
      have f2 : w ≠ 1 → ¬ mCs σ' 5016 (rwI s i) → Q (0, (i : Int)) σ' := fun q1 q2 => by have := fin (Or.inr q2); rw [if_neg q1, if_neg (by omega)] at this; exact this
      have i9 : ∀ τ y, mCs σ' 5016 (rwI s i) → mSp σ' 5016 (rwI s i) τ y → ∃ k', k' < n ∧ inv_rnm σ s w k' 50 [(28, 5000), (0, s), (0, w), (0, (i : Int) + 1), (0, v + y)] [] τ := fun τ y q1 q2 =>
        ⟨n - 1, by omega, rfl, rfl, hcd, i + 1, _, rfl, by omega, σ', v, y, hpf, q1, q2, rfl⟩
      have hsb := spB_s hse hcd.1 hcd.2.1 cc (show σ' 5013 = σ 5013 from hG.1 5013 (by decide) (by decide) (by decide))
      simp only [↓reduceIte, inR_0, inR_1, inR_m, vSw2_e, swP_n, swP_c, vI_e, vL_e, vNull_e, vIload_e, vLload_e, vAload_e, vIstore_e, vLstore_e, vAstore_e, vIinc_e, vIadd_e, vIsub_e, vImul_e, vIand_e, vIor_e, vIxor_e, vIshl_e, vIshr_e, vIushr_e, vIdiv_e, vIrem_e, vLadd_e, vLsub_e, vLmul_e, vLand_e, vLor_e, vLxor_e, vLdiv_e, vLrem_e, vLushr_e, vLshl_e, vLcmp_e, vIneg_e, vI2l_e, vL2i_e, vI2b_e, vI2c_e, vDup_e, vPop_e, vDup2_e, vGoto_e, vIcEq_e, vIfEq_e, vIcNe_e, vIfNe_e, vIcLt_e, vIfLt_e, vIcGe_e, vIfGe_e, vIcGt_e, vIfGt_e, vIcLe_e, vIfLe_e, vNonnull_e, vSw_e, vGetI_e, vGetL_e, vGetR_e, vPutI_e, vPutZ_e, vPutL_e, vPutR_e, vIald_e, vIald_s, vLald_e, vBald_e, vBald_s, vAald_e, vIast_e, vLast_e, vBast_e, vAast_e, vAlen_e8, vAlen_e9, vAlen_e10, vAlen_e11, vAlen_e5, vAlen_e3, vGets_e, vCompact_e, vLdcS_e, vIret_e, vZret_e, vCret_e, vBret_e, vLret_e, vVret_e, vAret_e, vCallM_e0, vCallMV_e0, vCallS_e0, vCallSV_e0, vCallM_e1, vCallMV_e1, vCallS_e1, vCallSV_e1, vCallM_e2, vCallMV_e2, vCallS_e2, vCallSV_e2, vCallM_e3, vCallMV_e3, vCallS_e3, vCallSV_e3, vCallM_e4, vCallMV_e4, vCallS_e4, vCallSV_e4, vCallM_e5, vCallMV_e5, vCallS_e5, vCallSV_e5, vCallM_e6, vCallMV_e6, vCallS_e6, vCallSV_e6, vCallM_e7, vCallMV_e7, vCallS_e7, vCallSV_e7, vBad_e, vStrVal_e, vStrCod_e, vForm_e, vCallT_e0, vCallT_e1, vCallT_e2, vCopy_e, rf_0_0, rf_0_1, rf_0_2, rf_0_3, rf_0_4, rf_0_7, rf_0_10, rf_0_11, rf_0_12, rf_0_13, rf_0_14, rf_0_15, rf_0_16, rf_1_0, rf_3_0, rf_3_1, rf_6_0, rf_6_1, rf_9_0, rf_9_1, rf_9_3, rf_13_0, rf_13_1, rf_13_2, rf_16_0, rf_16_1, rf_16_2, rf_16_3, rf_21_0, rf_21_1, rf_21_2, rf_21_3, rf_26_0, rf_26_1, rf_26_2, rf_26_3, rf_26_4, rf_26_5, rf_26_6, rf_31_0, rf_31_2, rf_31_5, rf_31_6, rf_36_0, rf_36_1, rf_36_2, rf_36_3, rf_39_0, rf_39_1, rf_39_2, rf_41_0, rf_41_1, rf_41_2, rf_41_3, rf_5000_1, rf_5000_2, rf_5000_3, rf_5000_4, rf_5000_5, rf_5000_15, rf_5000_16, rf_5000_18, rf_5000_19, rf_5000_20, rf_5000_21, rf_5000_22, rf_5000_23, rf_5000_24, rf_5000_25, rf_5000_26, rf_5000_27, rf_5000_36, rf_5000_37, rf_5000_40, rf_5000_41, rf_5000_42, rf_5000_43, rf_5000_44, rf_5000_45, rf_5000_47, rf_5000_52, rf_5000_54, rf_5000_55, rf_100_0, rf_100_1, rf_103_0, rf_103_1, rf_106_0, rf_106_1, rf_109_0, rf_109_1, al_2, al_4, al_5, al_7, al_8, al_10, al_11, al_12, al_14, al_15, al_17, al_18, al_19, al_20, al_22, al_23, al_24, al_25, al_27, al_28, al_29, al_30, al_32, al_33, al_34, al_35, al_37, al_38, al_40, al_42, al_5001, al_5002, al_5003, al_5004, al_5005, al_5006, al_5007, al_5008, al_5009, al_5010, al_5011, al_5012, al_5013, al_5014, al_5015, al_5016, al_5017, al_5018, al_5019, al_5020, al_5021, al_5022, al_5023, al_5024, al_5025, al_5026, al_9000, al_101, al_102, al_104, al_105, al_107, al_108, al_110, al_111, vcs_e, lg_c0, lg_cs, lg_nil, set_c0, set_cs, okst_0, okst_s, acok_n, acok_c, List.contains_nil, List.contains_cons, Bool.or_false, Bool.false_or, Bool.false_eq_true, if_false, if_true, ite_self, ne_eq, true_and, and_true, not_false_eq_true, not_true_eq_false, false_imp_iff, true_imp_iff, Nat.ble_eq, Bool.and_eq_true, reduceCtorEq, or_false, false_or, or_true, true_or, false_and, and_false, and_self, Int.reduceLE, Int.reduceAdd, Int.reduceSub, Int.reduceMul, Int.reduceNeg, Int.reduceLT, Int.reduceEq, Int.reduceNe, Nat.reduceBEq, Nat.reduceBNe, Nat.reduceEqDiff, amCmp_in, amCmp_lt, amCmp_le, amCmp_gt, amCmp_ge, amCmp_eq, amCmp_ne, Nat.reduceLeDiff, Nat.reduceSub, Bool.and_true, Bool.true_and, Bool.and_self, Bool.or_true, Bool.true_or, isRf_3, isRf_4, isRf_5, isRf_8, isRf_9, isRf_10, isRf_11, isRf_15, isRf_16, isRf_17, isRf_18, isRf_19, isRf_20, isRf_21, isRf_22, isRf_23, isRf_24, isRf_25, isRf_26, isRf_27, isRf_28, k_X12_run_0, k_X12_run_1, k_X12_run_2, k_X12_run_5, k_X12_run_6, k_X12_run_7, k_X12_run_10, k_X12_run_13, k_X12_run_14, k_X12_run_17, k_X12_run_20, k_X12_run_21, k_X12_run_22, k_X12_run_23, k_X12_run_24, k_X12_run_27, k_X12_run_30, k_X12_run_33, k_X12_run_34, k_X12_run_35, k_X12_run_38, k_X12_run_39, k_X12_run_42, k_X12_run_45, k_X12_run_46, k_X12_run_47, k_X12_run_48, k_X12_run_50, k_X12_run_51, k_X12_run_52, k_X12_run_55, k_X12_run_56, k_X12_run_57, k_X12_run_60, k_X12_run_61, k_X12_run_62, k_X12_run_65, k_X12_run_66, k_X12_run_68, k_X12_run_69, k_X12_run_70, k_X12_run_71, k_X12_run_72, k_X12_run_73, k_X12_run_76, k_X12_run_79, k_X12_run_81, k_X12_run_82, k_X12_run_83, k_X12_run_86, k_X12_run_87, k_X12_run_89, k_X12_run_90, k_X12_run_91, k_X12_run_92, k_X12_run_93, k_X12_run_94, k_X12_run_97, k_X12_run_98, k_X12_run_100, k_X12_run_103, k_X12_run_106, k_X12_run_107, k_X12_run_108, k_X12_run_111, k_X12_run_113, k_X12_run_114, k_X12_run_115, k_X12_run_116, k_X12_run_119, k_X12_run_120, k_X12_run_121, k_X12_run_124, k_X12_run_125, k_X12_run_128, k_X12_run_129, w_X12_canStep_e, w_X12_copy_e, w_X12_isIn_e, w_X12_isSeason_e, w_X12_steps_e, s14]
      repeat' (first | assumption | exact y1 | exact hsb | apply And.intro | intro _)
      all_goals first | omega | exact absurd trivial (by assumption) | exact f1 (by assumption) (by assumption) | exact f2 (by assumption) (by assumption) | exact i9 _ _ (by assumption) (by assumption)
    · have f1 : w = 1 → Q (0, v) σ' := fun q1 => by have := fin (Or.inl (by omega)); rw [if_pos q1] at this; exact this
      have f2 : w ≠ 1 → Q (0, -1) σ' := fun q1 => by have := fin (Or.inl (by omega)); rw [if_neg q1, if_pos (by omega)] at this; exact this
      simp only [↓reduceIte, inR_0, inR_1, inR_m, vSw2_e, swP_n, swP_c, vI_e, vL_e, vNull_e, vIload_e, vLload_e, vAload_e, vIstore_e, vLstore_e, vAstore_e, vIinc_e, vIadd_e, vIsub_e, vImul_e, vIand_e, vIor_e, vIxor_e, vIshl_e, vIshr_e, vIushr_e, vIdiv_e, vIrem_e, vLadd_e, vLsub_e, vLmul_e, vLand_e, vLor_e, vLxor_e, vLdiv_e, vLrem_e, vLushr_e, vLshl_e, vLcmp_e, vIneg_e, vI2l_e, vL2i_e, vI2b_e, vI2c_e, vDup_e, vPop_e, vDup2_e, vGoto_e, vIcEq_e, vIfEq_e, vIcNe_e, vIfNe_e, vIcLt_e, vIfLt_e, vIcGe_e, vIfGe_e, vIcGt_e, vIfGt_e, vIcLe_e, vIfLe_e, vNonnull_e, vSw_e, vGetI_e, vGetL_e, vGetR_e, vPutI_e, vPutZ_e, vPutL_e, vPutR_e, vIald_e, vIald_s, vLald_e, vBald_e, vBald_s, vAald_e, vIast_e, vLast_e, vBast_e, vAast_e, vAlen_e8, vAlen_e9, vAlen_e10, vAlen_e11, vAlen_e5, vAlen_e3, vGets_e, vCompact_e, vLdcS_e, vIret_e, vZret_e, vCret_e, vBret_e, vLret_e, vVret_e, vAret_e, vCallM_e0, vCallMV_e0, vCallS_e0, vCallSV_e0, vCallM_e1, vCallMV_e1, vCallS_e1, vCallSV_e1, vCallM_e2, vCallMV_e2, vCallS_e2, vCallSV_e2, vCallM_e3, vCallMV_e3, vCallS_e3, vCallSV_e3, vCallM_e4, vCallMV_e4, vCallS_e4, vCallSV_e4, vCallM_e5, vCallMV_e5, vCallS_e5, vCallSV_e5, vCallM_e6, vCallMV_e6, vCallS_e6, vCallSV_e6, vCallM_e7, vCallMV_e7, vCallS_e7, vCallSV_e7, vBad_e, vStrVal_e, vStrCod_e, vForm_e, vCallT_e0, vCallT_e1, vCallT_e2, vCopy_e, rf_0_0, rf_0_1, rf_0_2, rf_0_3, rf_0_4, rf_0_7, rf_0_10, rf_0_11, rf_0_12, rf_0_13, rf_0_14, rf_0_15, rf_0_16, rf_1_0, rf_3_0, rf_3_1, rf_6_0, rf_6_1, rf_9_0, rf_9_1, rf_9_3, rf_13_0, rf_13_1, rf_13_2, rf_16_0, rf_16_1, rf_16_2, rf_16_3, rf_21_0, rf_21_1, rf_21_2, rf_21_3, rf_26_0, rf_26_1, rf_26_2, rf_26_3, rf_26_4, rf_26_5, rf_26_6, rf_31_0, rf_31_2, rf_31_5, rf_31_6, rf_36_0, rf_36_1, rf_36_2, rf_36_3, rf_39_0, rf_39_1, rf_39_2, rf_41_0, rf_41_1, rf_41_2, rf_41_3, rf_5000_1, rf_5000_2, rf_5000_3, rf_5000_4, rf_5000_5, rf_5000_15, rf_5000_16, rf_5000_18, rf_5000_19, rf_5000_20, rf_5000_21, rf_5000_22, rf_5000_23, rf_5000_24, rf_5000_25, rf_5000_26, rf_5000_27, rf_5000_36, rf_5000_37, rf_5000_40, rf_5000_41, rf_5000_42, rf_5000_43, rf_5000_44, rf_5000_45, rf_5000_47, rf_5000_52, rf_5000_54, rf_5000_55, rf_100_0, rf_100_1, rf_103_0, rf_103_1, rf_106_0, rf_106_1, rf_109_0, rf_109_1, al_2, al_4, al_5, al_7, al_8, al_10, al_11, al_12, al_14, al_15, al_17, al_18, al_19, al_20, al_22, al_23, al_24, al_25, al_27, al_28, al_29, al_30, al_32, al_33, al_34, al_35, al_37, al_38, al_40, al_42, al_5001, al_5002, al_5003, al_5004, al_5005, al_5006, al_5007, al_5008, al_5009, al_5010, al_5011, al_5012, al_5013, al_5014, al_5015, al_5016, al_5017, al_5018, al_5019, al_5020, al_5021, al_5022, al_5023, al_5024, al_5025, al_5026, al_9000, al_101, al_102, al_104, al_105, al_107, al_108, al_110, al_111, vcs_e, lg_c0, lg_cs, lg_nil, set_c0, set_cs, okst_0, okst_s, acok_n, acok_c, List.contains_nil, List.contains_cons, Bool.or_false, Bool.false_or, Bool.false_eq_true, if_false, if_true, ite_self, ne_eq, true_and, and_true, not_false_eq_true, not_true_eq_false, false_imp_iff, true_imp_iff, Nat.ble_eq, Bool.and_eq_true, reduceCtorEq, or_false, false_or, or_true, true_or, false_and, and_false, and_self, Int.reduceLE, Int.reduceAdd, Int.reduceSub, Int.reduceMul, Int.reduceNeg, Int.reduceLT, Int.reduceEq, Int.reduceNe, Nat.reduceBEq, Nat.reduceBNe, Nat.reduceEqDiff, amCmp_in, amCmp_lt, amCmp_le, amCmp_gt, amCmp_ge, amCmp_eq, amCmp_ne, Nat.reduceLeDiff, Nat.reduceSub, Bool.and_true, Bool.true_and, Bool.and_self, Bool.or_true, Bool.true_or, isRf_3, isRf_4, isRf_5, isRf_8, isRf_9, isRf_10, isRf_11, isRf_15, isRf_16, isRf_17, isRf_18, isRf_19, isRf_20, isRf_21, isRf_22, isRf_23, isRf_24, isRf_25, isRf_26, isRf_27, isRf_28, k_X12_run_0, k_X12_run_1, k_X12_run_2, k_X12_run_5, k_X12_run_6, k_X12_run_7, k_X12_run_10, k_X12_run_13, k_X12_run_14, k_X12_run_17, k_X12_run_20, k_X12_run_21, k_X12_run_22, k_X12_run_23, k_X12_run_24, k_X12_run_27, k_X12_run_30, k_X12_run_33, k_X12_run_34, k_X12_run_35, k_X12_run_38, k_X12_run_39, k_X12_run_42, k_X12_run_45, k_X12_run_46, k_X12_run_47, k_X12_run_48, k_X12_run_50, k_X12_run_51, k_X12_run_52, k_X12_run_55, k_X12_run_56, k_X12_run_57, k_X12_run_60, k_X12_run_61, k_X12_run_62, k_X12_run_65, k_X12_run_66, k_X12_run_68, k_X12_run_69, k_X12_run_70, k_X12_run_71, k_X12_run_72, k_X12_run_73, k_X12_run_76, k_X12_run_79, k_X12_run_81, k_X12_run_82, k_X12_run_83, k_X12_run_86, k_X12_run_87, k_X12_run_89, k_X12_run_90, k_X12_run_91, k_X12_run_92, k_X12_run_93, k_X12_run_94, k_X12_run_97, k_X12_run_98, k_X12_run_100, k_X12_run_103, k_X12_run_106, k_X12_run_107, k_X12_run_108, k_X12_run_111, k_X12_run_113, k_X12_run_114, k_X12_run_115, k_X12_run_116, k_X12_run_119, k_X12_run_120, k_X12_run_121, k_X12_run_124, k_X12_run_125, k_X12_run_128, k_X12_run_129, w_X12_canStep_e, w_X12_copy_e, w_X12_isIn_e, w_X12_isSeason_e, w_X12_steps_e, s14]
      repeat' (first | assumption | exact y1 | exact hse' | apply And.intro | intro _)
      all_goals first | omega | exact absurd trivial (by assumption) | exact f1 (by assumption) | exact f2 (by assumption)
  · change vcs _ _ _ _ 90 0 [(28, 5000), (0, s), (0, w), (6, 0), (6, 0)] [] σ
    have et : cpy (th0 σ) 5015 0 5016 0 (28 + 3 * σ 5015 27) = trC σ := rfl
    by_cases d : 0 ≤ s ∧ s < σ 5000 34
    · by_cases g : σ 5000 29 = 0
      · have hq := h1 (by omega)
        simp only [↓reduceIte, inR_0, inR_1, inR_m, vSw2_e, swP_n, swP_c, vI_e, vL_e, vNull_e, vIload_e, vLload_e, vAload_e, vIstore_e, vLstore_e, vAstore_e, vIinc_e, vIadd_e, vIsub_e, vImul_e, vIand_e, vIor_e, vIxor_e, vIshl_e, vIshr_e, vIushr_e, vIdiv_e, vIrem_e, vLadd_e, vLsub_e, vLmul_e, vLand_e, vLor_e, vLxor_e, vLdiv_e, vLrem_e, vLushr_e, vLshl_e, vLcmp_e, vIneg_e, vI2l_e, vL2i_e, vI2b_e, vI2c_e, vDup_e, vPop_e, vDup2_e, vGoto_e, vIcEq_e, vIfEq_e, vIcNe_e, vIfNe_e, vIcLt_e, vIfLt_e, vIcGe_e, vIfGe_e, vIcGt_e, vIfGt_e, vIcLe_e, vIfLe_e, vNonnull_e, vSw_e, vGetI_e, vGetL_e, vGetR_e, vPutI_e, vPutZ_e, vPutL_e, vPutR_e, vIald_e, vIald_s, vLald_e, vBald_e, vBald_s, vAald_e, vIast_e, vLast_e, vBast_e, vAast_e, vAlen_e8, vAlen_e9, vAlen_e10, vAlen_e11, vAlen_e5, vAlen_e3, vGets_e, vCompact_e, vLdcS_e, vIret_e, vZret_e, vCret_e, vBret_e, vLret_e, vVret_e, vAret_e, vCallM_e0, vCallMV_e0, vCallS_e0, vCallSV_e0, vCallM_e1, vCallMV_e1, vCallS_e1, vCallSV_e1, vCallM_e2, vCallMV_e2, vCallS_e2, vCallSV_e2, vCallM_e3, vCallMV_e3, vCallS_e3, vCallSV_e3, vCallM_e4, vCallMV_e4, vCallS_e4, vCallSV_e4, vCallM_e5, vCallMV_e5, vCallS_e5, vCallSV_e5, vCallM_e6, vCallMV_e6, vCallS_e6, vCallSV_e6, vCallM_e7, vCallMV_e7, vCallS_e7, vCallSV_e7, vBad_e, vStrVal_e, vStrCod_e, vForm_e, vCallT_e0, vCallT_e1, vCallT_e2, vCopy_e, rf_0_0, rf_0_1, rf_0_2, rf_0_3, rf_0_4, rf_0_7, rf_0_10, rf_0_11, rf_0_12, rf_0_13, rf_0_14, rf_0_15, rf_0_16, rf_1_0, rf_3_0, rf_3_1, rf_6_0, rf_6_1, rf_9_0, rf_9_1, rf_9_3, rf_13_0, rf_13_1, rf_13_2, rf_16_0, rf_16_1, rf_16_2, rf_16_3, rf_21_0, rf_21_1, rf_21_2, rf_21_3, rf_26_0, rf_26_1, rf_26_2, rf_26_3, rf_26_4, rf_26_5, rf_26_6, rf_31_0, rf_31_2, rf_31_5, rf_31_6, rf_36_0, rf_36_1, rf_36_2, rf_36_3, rf_39_0, rf_39_1, rf_39_2, rf_41_0, rf_41_1, rf_41_2, rf_41_3, rf_5000_1, rf_5000_2, rf_5000_3, rf_5000_4, rf_5000_5, rf_5000_15, rf_5000_16, rf_5000_18, rf_5000_19, rf_5000_20, rf_5000_21, rf_5000_22, rf_5000_23, rf_5000_24, rf_5000_25, rf_5000_26, rf_5000_27, rf_5000_36, rf_5000_37, rf_5000_40, rf_5000_41, rf_5000_42, rf_5000_43, rf_5000_44, rf_5000_45, rf_5000_47, rf_5000_52, rf_5000_54, rf_5000_55, rf_100_0, rf_100_1, rf_103_0, rf_103_1, rf_106_0, rf_106_1, rf_109_0, rf_109_1, al_2, al_4, al_5, al_7, al_8, al_10, al_11, al_12, al_14, al_15, al_17, al_18, al_19, al_20, al_22, al_23, al_24, al_25, al_27, al_28, al_29, al_30, al_32, al_33, al_34, al_35, al_37, al_38, al_40, al_42, al_5001, al_5002, al_5003, al_5004, al_5005, al_5006, al_5007, al_5008, al_5009, al_5010, al_5011, al_5012, al_5013, al_5014, al_5015, al_5016, al_5017, al_5018, al_5019, al_5020, al_5021, al_5022, al_5023, al_5024, al_5025, al_5026, al_9000, al_101, al_102, al_104, al_105, al_107, al_108, al_110, al_111, vcs_e, lg_c0, lg_cs, lg_nil, set_c0, set_cs, okst_0, okst_s, acok_n, acok_c, List.contains_nil, List.contains_cons, Bool.or_false, Bool.false_or, Bool.false_eq_true, if_false, if_true, ite_self, ne_eq, true_and, and_true, not_false_eq_true, not_true_eq_false, false_imp_iff, true_imp_iff, Nat.ble_eq, Bool.and_eq_true, reduceCtorEq, or_false, false_or, or_true, true_or, false_and, and_false, and_self, Int.reduceLE, Int.reduceAdd, Int.reduceSub, Int.reduceMul, Int.reduceNeg, Int.reduceLT, Int.reduceEq, Int.reduceNe, Nat.reduceBEq, Nat.reduceBNe, Nat.reduceEqDiff, amCmp_in, amCmp_lt, amCmp_le, amCmp_gt, amCmp_ge, amCmp_eq, amCmp_ne, Nat.reduceLeDiff, Nat.reduceSub, Bool.and_true, Bool.true_and, Bool.and_self, Bool.or_true, Bool.true_or, isRf_3, isRf_4, isRf_5, isRf_8, isRf_9, isRf_10, isRf_11, isRf_15, isRf_16, isRf_17, isRf_18, isRf_19, isRf_20, isRf_21, isRf_22, isRf_23, isRf_24, isRf_25, isRf_26, isRf_27, isRf_28, k_X12_run_0, k_X12_run_1, k_X12_run_2, k_X12_run_5, k_X12_run_6, k_X12_run_7, k_X12_run_10, k_X12_run_13, k_X12_run_14, k_X12_run_17, k_X12_run_20, k_X12_run_21, k_X12_run_22, k_X12_run_23, k_X12_run_24, k_X12_run_27, k_X12_run_30, k_X12_run_33, k_X12_run_34, k_X12_run_35, k_X12_run_38, k_X12_run_39, k_X12_run_42, k_X12_run_45, k_X12_run_46, k_X12_run_47, k_X12_run_48, k_X12_run_50, k_X12_run_51, k_X12_run_52, k_X12_run_55, k_X12_run_56, k_X12_run_57, k_X12_run_60, k_X12_run_61, k_X12_run_62, k_X12_run_65, k_X12_run_66, k_X12_run_68, k_X12_run_69, k_X12_run_70, k_X12_run_71, k_X12_run_72, k_X12_run_73, k_X12_run_76, k_X12_run_79, k_X12_run_81, k_X12_run_82, k_X12_run_83, k_X12_run_86, k_X12_run_87, k_X12_run_89, k_X12_run_90, k_X12_run_91, k_X12_run_92, k_X12_run_93, k_X12_run_94, k_X12_run_97, k_X12_run_98, k_X12_run_100, k_X12_run_103, k_X12_run_106, k_X12_run_107, k_X12_run_108, k_X12_run_111, k_X12_run_113, k_X12_run_114, k_X12_run_115, k_X12_run_116, k_X12_run_119, k_X12_run_120, k_X12_run_121, k_X12_run_124, k_X12_run_125, k_X12_run_128, k_X12_run_129, w_X12_canStep_e, w_X12_copy_e, w_X12_isIn_e, w_X12_isSeason_e, w_X12_steps_e, e34, e29, if_pos d, g]
        repeat' (first | apply And.intro | intro _)
        all_goals first | omega | exact absurd trivial (by assumption) | exact hq
      · have i9 : 0 ≤ w ∧ w ≤ 1 → ∃ k', inv_rnm σ s w k' 50 [(28, 5000), (0, s), (0, w), (0, 0), (0, 0)] [] (trC σ) := fun hww => by
          have sl := hse.2.1 s d.1 d.2
          exact ⟨(σ 5014 s).toNat, rfl, rfl, ⟨d.1, d.2, g, hww.1, hww.2⟩, 0, 0, rfl, by omega, rfl, rfl⟩
        have hq := fun q : ¬ (0 ≤ w ∧ w ≤ 1) => h1 (by omega)
        simp only [↓reduceIte, inR_0, inR_1, inR_m, vSw2_e, swP_n, swP_c, vI_e, vL_e, vNull_e, vIload_e, vLload_e, vAload_e, vIstore_e, vLstore_e, vAstore_e, vIinc_e, vIadd_e, vIsub_e, vImul_e, vIand_e, vIor_e, vIxor_e, vIshl_e, vIshr_e, vIushr_e, vIdiv_e, vIrem_e, vLadd_e, vLsub_e, vLmul_e, vLand_e, vLor_e, vLxor_e, vLdiv_e, vLrem_e, vLushr_e, vLshl_e, vLcmp_e, vIneg_e, vI2l_e, vL2i_e, vI2b_e, vI2c_e, vDup_e, vPop_e, vDup2_e, vGoto_e, vIcEq_e, vIfEq_e, vIcNe_e, vIfNe_e, vIcLt_e, vIfLt_e, vIcGe_e, vIfGe_e, vIcGt_e, vIfGt_e, vIcLe_e, vIfLe_e, vNonnull_e, vSw_e, vGetI_e, vGetL_e, vGetR_e, vPutI_e, vPutZ_e, vPutL_e, vPutR_e, vIald_e, vIald_s, vLald_e, vBald_e, vBald_s, vAald_e, vIast_e, vLast_e, vBast_e, vAast_e, vAlen_e8, vAlen_e9, vAlen_e10, vAlen_e11, vAlen_e5, vAlen_e3, vGets_e, vCompact_e, vLdcS_e, vIret_e, vZret_e, vCret_e, vBret_e, vLret_e, vVret_e, vAret_e, vCallM_e0, vCallMV_e0, vCallS_e0, vCallSV_e0, vCallM_e1, vCallMV_e1, vCallS_e1, vCallSV_e1, vCallM_e2, vCallMV_e2, vCallS_e2, vCallSV_e2, vCallM_e3, vCallMV_e3, vCallS_e3, vCallSV_e3, vCallM_e4, vCallMV_e4, vCallS_e4, vCallSV_e4, vCallM_e5, vCallMV_e5, vCallS_e5, vCallSV_e5, vCallM_e6, vCallMV_e6, vCallS_e6, vCallSV_e6, vCallM_e7, vCallMV_e7, vCallS_e7, vCallSV_e7, vBad_e, vStrVal_e, vStrCod_e, vForm_e, vCallT_e0, vCallT_e1, vCallT_e2, vCopy_e, rf_0_0, rf_0_1, rf_0_2, rf_0_3, rf_0_4, rf_0_7, rf_0_10, rf_0_11, rf_0_12, rf_0_13, rf_0_14, rf_0_15, rf_0_16, rf_1_0, rf_3_0, rf_3_1, rf_6_0, rf_6_1, rf_9_0, rf_9_1, rf_9_3, rf_13_0, rf_13_1, rf_13_2, rf_16_0, rf_16_1, rf_16_2, rf_16_3, rf_21_0, rf_21_1, rf_21_2, rf_21_3, rf_26_0, rf_26_1, rf_26_2, rf_26_3, rf_26_4, rf_26_5, rf_26_6, rf_31_0, rf_31_2, rf_31_5, rf_31_6, rf_36_0, rf_36_1, rf_36_2, rf_36_3, rf_39_0, rf_39_1, rf_39_2, rf_41_0, rf_41_1, rf_41_2, rf_41_3, rf_5000_1, rf_5000_2, rf_5000_3, rf_5000_4, rf_5000_5, rf_5000_15, rf_5000_16, rf_5000_18, rf_5000_19, rf_5000_20, rf_5000_21, rf_5000_22, rf_5000_23, rf_5000_24, rf_5000_25, rf_5000_26, rf_5000_27, rf_5000_36, rf_5000_37, rf_5000_40, rf_5000_41, rf_5000_42, rf_5000_43, rf_5000_44, rf_5000_45, rf_5000_47, rf_5000_52, rf_5000_54, rf_5000_55, rf_100_0, rf_100_1, rf_103_0, rf_103_1, rf_106_0, rf_106_1, rf_109_0, rf_109_1, al_2, al_4, al_5, al_7, al_8, al_10, al_11, al_12, al_14, al_15, al_17, al_18, al_19, al_20, al_22, al_23, al_24, al_25, al_27, al_28, al_29, al_30, al_32, al_33, al_34, al_35, al_37, al_38, al_40, al_42, al_5001, al_5002, al_5003, al_5004, al_5005, al_5006, al_5007, al_5008, al_5009, al_5010, al_5011, al_5012, al_5013, al_5014, al_5015, al_5016, al_5017, al_5018, al_5019, al_5020, al_5021, al_5022, al_5023, al_5024, al_5025, al_5026, al_9000, al_101, al_102, al_104, al_105, al_107, al_108, al_110, al_111, vcs_e, lg_c0, lg_cs, lg_nil, set_c0, set_cs, okst_0, okst_s, acok_n, acok_c, List.contains_nil, List.contains_cons, Bool.or_false, Bool.false_or, Bool.false_eq_true, if_false, if_true, ite_self, ne_eq, true_and, and_true, not_false_eq_true, not_true_eq_false, false_imp_iff, true_imp_iff, Nat.ble_eq, Bool.and_eq_true, reduceCtorEq, or_false, false_or, or_true, true_or, false_and, and_false, and_self, Int.reduceLE, Int.reduceAdd, Int.reduceSub, Int.reduceMul, Int.reduceNeg, Int.reduceLT, Int.reduceEq, Int.reduceNe, Nat.reduceBEq, Nat.reduceBNe, Nat.reduceEqDiff, amCmp_in, amCmp_lt, amCmp_le, amCmp_gt, amCmp_ge, amCmp_eq, amCmp_ne, Nat.reduceLeDiff, Nat.reduceSub, Bool.and_true, Bool.true_and, Bool.and_self, Bool.or_true, Bool.true_or, isRf_3, isRf_4, isRf_5, isRf_8, isRf_9, isRf_10, isRf_11, isRf_15, isRf_16, isRf_17, isRf_18, isRf_19, isRf_20, isRf_21, isRf_22, isRf_23, isRf_24, isRf_25, isRf_26, isRf_27, isRf_28, k_X12_run_0, k_X12_run_1, k_X12_run_2, k_X12_run_5, k_X12_run_6, k_X12_run_7, k_X12_run_10, k_X12_run_13, k_X12_run_14, k_X12_run_17, k_X12_run_20, k_X12_run_21, k_X12_run_22, k_X12_run_23, k_X12_run_24, k_X12_run_27, k_X12_run_30, k_X12_run_33, k_X12_run_34, k_X12_run_35, k_X12_run_38, k_X12_run_39, k_X12_run_42, k_X12_run_45, k_X12_run_46, k_X12_run_47, k_X12_run_48, k_X12_run_50, k_X12_run_51, k_X12_run_52, k_X12_run_55, k_X12_run_56, k_X12_run_57, k_X12_run_60, k_X12_run_61, k_X12_run_62, k_X12_run_65, k_X12_run_66, k_X12_run_68, k_X12_run_69, k_X12_run_70, k_X12_run_71, k_X12_run_72, k_X12_run_73, k_X12_run_76, k_X12_run_79, k_X12_run_81, k_X12_run_82, k_X12_run_83, k_X12_run_86, k_X12_run_87, k_X12_run_89, k_X12_run_90, k_X12_run_91, k_X12_run_92, k_X12_run_93, k_X12_run_94, k_X12_run_97, k_X12_run_98, k_X12_run_100, k_X12_run_103, k_X12_run_106, k_X12_run_107, k_X12_run_108, k_X12_run_111, k_X12_run_113, k_X12_run_114, k_X12_run_115, k_X12_run_116, k_X12_run_119, k_X12_run_120, k_X12_run_121, k_X12_run_124, k_X12_run_125, k_X12_run_128, k_X12_run_129, w_X12_canStep_e, w_X12_copy_e, w_X12_isIn_e, w_X12_isSeason_e, w_X12_steps_e, e34, e29, t15, et, if_pos d]
        by_cases hww : 0 ≤ w ∧ w ≤ 1
        · have i8 := i9 hww
          rw [if_pos hww]
          repeat' (first | apply And.intro | intro _)
          all_goals first | omega | exact absurd trivial (by assumption) | exact i8
        · have q8 := hq hww
          rw [if_neg hww]
          repeat' (first | apply And.intro | intro _)
          all_goals first | omega | exact absurd trivial (by assumption) | exact q8
    · have hq := h1 (by omega)
      simp only [↓reduceIte, inR_0, inR_1, inR_m, vSw2_e, swP_n, swP_c, vI_e, vL_e, vNull_e, vIload_e, vLload_e, vAload_e, vIstore_e, vLstore_e, vAstore_e, vIinc_e, vIadd_e, vIsub_e, vImul_e, vIand_e, vIor_e, vIxor_e, vIshl_e, vIshr_e, vIushr_e, vIdiv_e, vIrem_e, vLadd_e, vLsub_e, vLmul_e, vLand_e, vLor_e, vLxor_e, vLdiv_e, vLrem_e, vLushr_e, vLshl_e, vLcmp_e, vIneg_e, vI2l_e, vL2i_e, vI2b_e, vI2c_e, vDup_e, vPop_e, vDup2_e, vGoto_e, vIcEq_e, vIfEq_e, vIcNe_e, vIfNe_e, vIcLt_e, vIfLt_e, vIcGe_e, vIfGe_e, vIcGt_e, vIfGt_e, vIcLe_e, vIfLe_e, vNonnull_e, vSw_e, vGetI_e, vGetL_e, vGetR_e, vPutI_e, vPutZ_e, vPutL_e, vPutR_e, vIald_e, vIald_s, vLald_e, vBald_e, vBald_s, vAald_e, vIast_e, vLast_e, vBast_e, vAast_e, vAlen_e8, vAlen_e9, vAlen_e10, vAlen_e11, vAlen_e5, vAlen_e3, vGets_e, vCompact_e, vLdcS_e, vIret_e, vZret_e, vCret_e, vBret_e, vLret_e, vVret_e, vAret_e, vCallM_e0, vCallMV_e0, vCallS_e0, vCallSV_e0, vCallM_e1, vCallMV_e1, vCallS_e1, vCallSV_e1, vCallM_e2, vCallMV_e2, vCallS_e2, vCallSV_e2, vCallM_e3, vCallMV_e3, vCallS_e3, vCallSV_e3, vCallM_e4, vCallMV_e4, vCallS_e4, vCallSV_e4, vCallM_e5, vCallMV_e5, vCallS_e5, vCallSV_e5, vCallM_e6, vCallMV_e6, vCallS_e6, vCallSV_e6, vCallM_e7, vCallMV_e7, vCallS_e7, vCallSV_e7, vBad_e, vStrVal_e, vStrCod_e, vForm_e, vCallT_e0, vCallT_e1, vCallT_e2, vCopy_e, rf_0_0, rf_0_1, rf_0_2, rf_0_3, rf_0_4, rf_0_7, rf_0_10, rf_0_11, rf_0_12, rf_0_13, rf_0_14, rf_0_15, rf_0_16, rf_1_0, rf_3_0, rf_3_1, rf_6_0, rf_6_1, rf_9_0, rf_9_1, rf_9_3, rf_13_0, rf_13_1, rf_13_2, rf_16_0, rf_16_1, rf_16_2, rf_16_3, rf_21_0, rf_21_1, rf_21_2, rf_21_3, rf_26_0, rf_26_1, rf_26_2, rf_26_3, rf_26_4, rf_26_5, rf_26_6, rf_31_0, rf_31_2, rf_31_5, rf_31_6, rf_36_0, rf_36_1, rf_36_2, rf_36_3, rf_39_0, rf_39_1, rf_39_2, rf_41_0, rf_41_1, rf_41_2, rf_41_3, rf_5000_1, rf_5000_2, rf_5000_3, rf_5000_4, rf_5000_5, rf_5000_15, rf_5000_16, rf_5000_18, rf_5000_19, rf_5000_20, rf_5000_21, rf_5000_22, rf_5000_23, rf_5000_24, rf_5000_25, rf_5000_26, rf_5000_27, rf_5000_36, rf_5000_37, rf_5000_40, rf_5000_41, rf_5000_42, rf_5000_43, rf_5000_44, rf_5000_45, rf_5000_47, rf_5000_52, rf_5000_54, rf_5000_55, rf_100_0, rf_100_1, rf_103_0, rf_103_1, rf_106_0, rf_106_1, rf_109_0, rf_109_1, al_2, al_4, al_5, al_7, al_8, al_10, al_11, al_12, al_14, al_15, al_17, al_18, al_19, al_20, al_22, al_23, al_24, al_25, al_27, al_28, al_29, al_30, al_32, al_33, al_34, al_35, al_37, al_38, al_40, al_42, al_5001, al_5002, al_5003, al_5004, al_5005, al_5006, al_5007, al_5008, al_5009, al_5010, al_5011, al_5012, al_5013, al_5014, al_5015, al_5016, al_5017, al_5018, al_5019, al_5020, al_5021, al_5022, al_5023, al_5024, al_5025, al_5026, al_9000, al_101, al_102, al_104, al_105, al_107, al_108, al_110, al_111, vcs_e, lg_c0, lg_cs, lg_nil, set_c0, set_cs, okst_0, okst_s, acok_n, acok_c, List.contains_nil, List.contains_cons, Bool.or_false, Bool.false_or, Bool.false_eq_true, if_false, if_true, ite_self, ne_eq, true_and, and_true, not_false_eq_true, not_true_eq_false, false_imp_iff, true_imp_iff, Nat.ble_eq, Bool.and_eq_true, reduceCtorEq, or_false, false_or, or_true, true_or, false_and, and_false, and_self, Int.reduceLE, Int.reduceAdd, Int.reduceSub, Int.reduceMul, Int.reduceNeg, Int.reduceLT, Int.reduceEq, Int.reduceNe, Nat.reduceBEq, Nat.reduceBNe, Nat.reduceEqDiff, amCmp_in, amCmp_lt, amCmp_le, amCmp_gt, amCmp_ge, amCmp_eq, amCmp_ne, Nat.reduceLeDiff, Nat.reduceSub, Bool.and_true, Bool.true_and, Bool.and_self, Bool.or_true, Bool.true_or, isRf_3, isRf_4, isRf_5, isRf_8, isRf_9, isRf_10, isRf_11, isRf_15, isRf_16, isRf_17, isRf_18, isRf_19, isRf_20, isRf_21, isRf_22, isRf_23, isRf_24, isRf_25, isRf_26, isRf_27, isRf_28, k_X12_run_0, k_X12_run_1, k_X12_run_2, k_X12_run_5, k_X12_run_6, k_X12_run_7, k_X12_run_10, k_X12_run_13, k_X12_run_14, k_X12_run_17, k_X12_run_20, k_X12_run_21, k_X12_run_22, k_X12_run_23, k_X12_run_24, k_X12_run_27, k_X12_run_30, k_X12_run_33, k_X12_run_34, k_X12_run_35, k_X12_run_38, k_X12_run_39, k_X12_run_42, k_X12_run_45, k_X12_run_46, k_X12_run_47, k_X12_run_48, k_X12_run_50, k_X12_run_51, k_X12_run_52, k_X12_run_55, k_X12_run_56, k_X12_run_57, k_X12_run_60, k_X12_run_61, k_X12_run_62, k_X12_run_65, k_X12_run_66, k_X12_run_68, k_X12_run_69, k_X12_run_70, k_X12_run_71, k_X12_run_72, k_X12_run_73, k_X12_run_76, k_X12_run_79, k_X12_run_81, k_X12_run_82, k_X12_run_83, k_X12_run_86, k_X12_run_87, k_X12_run_89, k_X12_run_90, k_X12_run_91, k_X12_run_92, k_X12_run_93, k_X12_run_94, k_X12_run_97, k_X12_run_98, k_X12_run_100, k_X12_run_103, k_X12_run_106, k_X12_run_107, k_X12_run_108, k_X12_run_111, k_X12_run_113, k_X12_run_114, k_X12_run_115, k_X12_run_116, k_X12_run_119, k_X12_run_120, k_X12_run_121, k_X12_run_124, k_X12_run_125, k_X12_run_128, k_X12_run_129, w_X12_canStep_e, w_X12_copy_e, w_X12_isIn_e, w_X12_isSeason_e, w_X12_steps_e, e34, e29, if_neg d]
      repeat' (first | apply And.intro | intro _)
      all_goals first | omega | exact absurd trivial (by assumption) | exact hq
