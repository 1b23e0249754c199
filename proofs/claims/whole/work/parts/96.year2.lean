/-! ArmchairHouse: YEARS, the method -/

theorem wd_904 : Cond.methodLink RX11 249 yX11_drawWhatIsAhead ∈ TBL := tb_tab (List.mem_of_getElem? (i := 904) (by decide +kernel)) rfl
theorem wd_907 : Cond.code yX11_drawWhatIsAhead cX11_drawWhatIsAhead 4 (none) ∈ TBL := tb_tab (List.mem_of_getElem? (i := 907) (by decide +kernel)) rfl
theorem lk_X11_249 : amLk RX11 249 yX11_drawWhatIsAhead cX11_drawWhatIsAhead 4 (none) 0 := ⟨wd_904, wd_1, wd_907, by decide +kernel, by decide +kernel, by decide⟩
theorem wd_906 : Cond.instanceMethod yX11_drawWhatIsAhead ∈ TBL := tb_tab (List.mem_of_getElem? (i := 906) (by decide +kernel)) rfl
theorem sl_X11_drawWhatIsAhead : Cond.selects RX11 yX11_drawWhatIsAhead yX11_drawWhatIsAhead ∈ TBL := tb_sel (List.mem_of_getElem? (i := 27) (by decide +kernel)) rfl
def a_X11_years : AC := [(0, vAload 0 1), (1, vGetR TT 27 2 22 4), (4, vCallM w_X6_isTold 22 0 7), (7, vIfEq 36 10), (10, vIload 1 11), (11, vI 1 12), (12, vIcLt 36 15), (15, vIload 1 16), (16, vI 30 18), (18, vIcGt 36 21), (21, vAload 0 22), (22, vGetR TT 27 10 16 25), (25, vGetI 16 6 28), (28, vIload 1 29), (29, vIadd 30), (30, vI 999 33), (33, vIcLe 38 36), (36, vI (-1) 37), (37, vIret), (38, vAload 0 39), (39, vLload 2 40), (40, vPutL 27 9 43), (43, vI 0 44), (44, vIstore 4 46), (46, vIload 4 48), (48, vIload 1 49), (49, vIcGe 120 52), (52, vAload 0 53), (53, vGetR TT 27 13 21 56), (56, vAload 0 57), (57, vGetR TT 27 10 16 60), (60, vCallMV w_X5_remember 21 1 63), (63, vAload 0 64), (64, vCallMV w_X11_drawWhatIsAhead 27 0 67), (67, vAload 0 68), (68, vAload 0 69), (69, vGetR TT 27 2 22 72), (72, vI 1 73), (73, vCallM w_X6_many 22 1 76), (76, vCallM w_X11_draw 27 1 79), (79, vIstore 5 81), (81, vAload 0 82), (82, vGetR TT 27 12 25 85), (85, vAload 0 86), (86, vGetR TT 27 10 16 89), (89, vIload 5 91), (91, vCallM w_X9_show 25 2 94), (94, vIstore 6 96), (96, vAload 0 97), (97, vGetR TT 27 13 21 100), (100, vIload 5 102), (102, vIload 6 104), (104, vAload 0 105), (105, vGetR TT 27 12 25 108), (108, vCallM w_X9_outBits 25 0 111), (111, vCallMV w_X5_write 21 3 114), (114, vIinc 4 1 117), (117, vGoto 46), (120, vAload 0 121), (121, vGetR TT 27 10 16 124), (124, vGetI 16 6 127), (127, vIret)]
theorem k_X11_years_0 : look a_X11_years 0 = vAload 0 1 := rfl
theorem k_X11_years_1 : look a_X11_years 1 = vGetR TT 27 2 22 4 := rfl
theorem k_X11_years_4 : look a_X11_years 4 = vCallM w_X6_isTold 22 0 7 := rfl
theorem k_X11_years_7 : look a_X11_years 7 = vIfEq 36 10 := rfl
theorem k_X11_years_10 : look a_X11_years 10 = vIload 1 11 := rfl
theorem k_X11_years_11 : look a_X11_years 11 = vI 1 12 := rfl
theorem k_X11_years_12 : look a_X11_years 12 = vIcLt 36 15 := rfl
theorem k_X11_years_15 : look a_X11_years 15 = vIload 1 16 := rfl
theorem k_X11_years_16 : look a_X11_years 16 = vI 30 18 := rfl
theorem k_X11_years_18 : look a_X11_years 18 = vIcGt 36 21 := rfl
theorem k_X11_years_21 : look a_X11_years 21 = vAload 0 22 := rfl
theorem k_X11_years_22 : look a_X11_years 22 = vGetR TT 27 10 16 25 := rfl
theorem k_X11_years_25 : look a_X11_years 25 = vGetI 16 6 28 := rfl
theorem k_X11_years_28 : look a_X11_years 28 = vIload 1 29 := rfl
theorem k_X11_years_29 : look a_X11_years 29 = vIadd 30 := rfl
theorem k_X11_years_30 : look a_X11_years 30 = vI 999 33 := rfl
theorem k_X11_years_33 : look a_X11_years 33 = vIcLe 38 36 := rfl
theorem k_X11_years_36 : look a_X11_years 36 = vI (-1) 37 := rfl
theorem k_X11_years_37 : look a_X11_years 37 = vIret := rfl
theorem k_X11_years_38 : look a_X11_years 38 = vAload 0 39 := rfl
theorem k_X11_years_39 : look a_X11_years 39 = vLload 2 40 := rfl
theorem k_X11_years_40 : look a_X11_years 40 = vPutL 27 9 43 := rfl
theorem k_X11_years_43 : look a_X11_years 43 = vI 0 44 := rfl
theorem k_X11_years_44 : look a_X11_years 44 = vIstore 4 46 := rfl
theorem k_X11_years_46 : look a_X11_years 46 = vIload 4 48 := rfl
theorem k_X11_years_48 : look a_X11_years 48 = vIload 1 49 := rfl
theorem k_X11_years_49 : look a_X11_years 49 = vIcGe 120 52 := rfl
theorem k_X11_years_52 : look a_X11_years 52 = vAload 0 53 := rfl
theorem k_X11_years_53 : look a_X11_years 53 = vGetR TT 27 13 21 56 := rfl
theorem k_X11_years_56 : look a_X11_years 56 = vAload 0 57 := rfl
theorem k_X11_years_57 : look a_X11_years 57 = vGetR TT 27 10 16 60 := rfl
theorem k_X11_years_60 : look a_X11_years 60 = vCallMV w_X5_remember 21 1 63 := rfl
theorem k_X11_years_63 : look a_X11_years 63 = vAload 0 64 := rfl
theorem k_X11_years_64 : look a_X11_years 64 = vCallMV w_X11_drawWhatIsAhead 27 0 67 := rfl
theorem k_X11_years_67 : look a_X11_years 67 = vAload 0 68 := rfl
theorem k_X11_years_68 : look a_X11_years 68 = vAload 0 69 := rfl
theorem k_X11_years_69 : look a_X11_years 69 = vGetR TT 27 2 22 72 := rfl
theorem k_X11_years_72 : look a_X11_years 72 = vI 1 73 := rfl
theorem k_X11_years_73 : look a_X11_years 73 = vCallM w_X6_many 22 1 76 := rfl
theorem k_X11_years_76 : look a_X11_years 76 = vCallM w_X11_draw 27 1 79 := rfl
theorem k_X11_years_79 : look a_X11_years 79 = vIstore 5 81 := rfl
theorem k_X11_years_81 : look a_X11_years 81 = vAload 0 82 := rfl
theorem k_X11_years_82 : look a_X11_years 82 = vGetR TT 27 12 25 85 := rfl
theorem k_X11_years_85 : look a_X11_years 85 = vAload 0 86 := rfl
theorem k_X11_years_86 : look a_X11_years 86 = vGetR TT 27 10 16 89 := rfl
theorem k_X11_years_89 : look a_X11_years 89 = vIload 5 91 := rfl
theorem k_X11_years_91 : look a_X11_years 91 = vCallM w_X9_show 25 2 94 := rfl
theorem k_X11_years_94 : look a_X11_years 94 = vIstore 6 96 := rfl
theorem k_X11_years_96 : look a_X11_years 96 = vAload 0 97 := rfl
theorem k_X11_years_97 : look a_X11_years 97 = vGetR TT 27 13 21 100 := rfl
theorem k_X11_years_100 : look a_X11_years 100 = vIload 5 102 := rfl
theorem k_X11_years_102 : look a_X11_years 102 = vIload 6 104 := rfl
theorem k_X11_years_104 : look a_X11_years 104 = vAload 0 105 := rfl
theorem k_X11_years_105 : look a_X11_years 105 = vGetR TT 27 12 25 108 := rfl
theorem k_X11_years_108 : look a_X11_years 108 = vCallM w_X9_outBits 25 0 111 := rfl
theorem k_X11_years_111 : look a_X11_years 111 = vCallMV w_X5_write 21 3 114 := rfl
theorem k_X11_years_114 : look a_X11_years 114 = vIinc 4 1 117 := rfl
theorem k_X11_years_117 : look a_X11_years 117 = vGoto 46 := rfl
theorem k_X11_years_120 : look a_X11_years 120 = vAload 0 121 := rfl
theorem k_X11_years_121 : look a_X11_years 121 = vGetR TT 27 10 16 124 := rfl
theorem k_X11_years_124 : look a_X11_years 124 = vGetI 16 6 127 := rfl
theorem k_X11_years_127 : look a_X11_years 127 = vIret := rfl
theorem o_X11_years {X : amX} (e1 : XT X = TT) (e2 : XD X = 7) (hB : amB X RX11 cX11_years (some .int) 7) : ∀ pc, amOK X pc (look a_X11_years pc) := by
  have hT : amTok (XT X) := e1 ▸ TT_ok
  refine look_ok ?_
  unfold a_X11_years
  refine fc (ok_aload_n hB dX11_years_0) ?_
  refine fc (okt_getR e1 hB hT fl_X11_23 rfl af_11_2 at_11_2 (by decide) dX11_years_1) ?_
  refine fc (ok_callM hB hT (e1 ▸ s_X6_isTold) lk_X11_164 (by rw [e2]; decide) (c := 6) rfl rfl rfl wd_717 wd_718 dX11_years_4) ?_
  refine fc (ok_if_eq hB (t := 36) (by decide) dX11_years_7) ?_
  refine fc (ok_iload_n hB dX11_years_10) ?_
  refine fc (ok_iconst hB dX11_years_11) ?_
  refine fc (ok_icmp_lt hB (t := 36) (by decide) dX11_years_12) ?_
  refine fc (ok_iload_n hB dX11_years_15) ?_
  refine fc (ok_bipush hB dX11_years_16 (by decide)) ?_
  refine fc (ok_icmp_gt hB (t := 36) (by decide) dX11_years_18) ?_
  refine fc (ok_aload_n hB dX11_years_21) ?_
  refine fc (okt_getR e1 hB hT fl_X11_65 rfl af_11_10 at_11_10 (by decide) dX11_years_22) ?_
  refine fc (ok_getI hB hT fl_X11_246 rfl rfl (Or.inl af_0_6) dX11_years_25) ?_
  refine fc (ok_iload_n hB dX11_years_28) ?_
  refine fc (ok_iadd hB dX11_years_29) ?_
  refine fc (ok_sipush hB dX11_years_30 (by decide)) ?_
  refine fc (ok_icmp_le hB (t := 38) (by decide) dX11_years_33) ?_
  refine fc (ok_iconst hB dX11_years_36) ?_
  refine fc (ok_iret hB dX11_years_37) ?_
  refine fc (ok_aload_n hB dX11_years_38) ?_
  refine fc (ok_lload_n hB dX11_years_39) ?_
  refine fc (ok_putL hB hT fp_X11_58 rfl rfl rfl af_11_9 dX11_years_40) ?_
  refine fc (ok_iconst hB dX11_years_43) ?_
  refine fc (ok_istore hB (by decide) dX11_years_44) ?_
  refine fc (ok_iload hB dX11_years_46) ?_
  refine fc (ok_iload_n hB dX11_years_48) ?_
  refine fc (ok_icmp_ge hB (t := 120) (by decide) dX11_years_49) ?_
  refine fc (ok_aload_n hB dX11_years_52) ?_
  refine fc (okt_getR e1 hB hT fl_X11_84 rfl af_11_13 at_11_13 (by decide) dX11_years_53) ?_
  refine fc (ok_aload_n hB dX11_years_56) ?_
  refine fc (okt_getR e1 hB hT fl_X11_65 rfl af_11_10 at_11_10 (by decide) dX11_years_57) ?_
  refine fc (ok_callMV hB hT (e1 ▸ s_X5_remember) lk_X11_217 (by rw [e2]; decide) (c := 5) rfl rfl rfl wd_762 wd_763 dX11_years_60) ?_
  refine fc (ok_aload_n hB dX11_years_63) ?_
  refine fc (ok_callMV hB hT (e1 ▸ s_X11_drawWhatIsAhead) lk_X11_249 (by rw [e2]; decide) (c := 11) rfl rfl rfl wd_906 sl_X11_drawWhatIsAhead dX11_years_64) ?_
  refine fc (ok_aload_n hB dX11_years_67) ?_
  refine fc (ok_aload_n hB dX11_years_68) ?_
  refine fc (okt_getR e1 hB hT fl_X11_23 rfl af_11_2 at_11_2 (by decide) dX11_years_69) ?_
  refine fc (ok_iconst hB dX11_years_72) ?_
  refine fc (ok_callM hB hT (e1 ▸ s_X6_many) lk_X11_154 (by rw [e2]; decide) (c := 6) rfl rfl rfl wd_557 wd_558 dX11_years_73) ?_
  refine fc (ok_callM hB hT (e1 ▸ s_X11_draw) lk_X11_252 (by rw [e2]; decide) (c := 11) rfl rfl rfl wd_910 sl_X11_draw dX11_years_76) ?_
  refine fc (ok_istore hB (by decide) dX11_years_79) ?_
  refine fc (ok_aload_n hB dX11_years_81) ?_
  refine fc (okt_getR e1 hB hT fl_X11_77 rfl af_11_12 at_11_12 (by decide) dX11_years_82) ?_
  refine fc (ok_aload_n hB dX11_years_85) ?_
  refine fc (okt_getR e1 hB hT fl_X11_65 rfl af_11_10 at_11_10 (by decide) dX11_years_86) ?_
  refine fc (ok_iload hB dX11_years_89) ?_
  refine fc (ok_callM hB hT (e1 ▸ s_X9_show) lk_X11_221 (by rw [e2]; decide) (c := 9) rfl rfl rfl wd_772 wd_773 dX11_years_91) ?_
  refine fc (ok_istore hB (by decide) dX11_years_94) ?_
  refine fc (ok_aload_n hB dX11_years_96) ?_
  refine fc (okt_getR e1 hB hT fl_X11_84 rfl af_11_13 at_11_13 (by decide) dX11_years_97) ?_
  refine fc (ok_iload hB dX11_years_100) ?_
  refine fc (ok_iload hB dX11_years_102) ?_
  refine fc (ok_aload_n hB dX11_years_104) ?_
  refine fc (okt_getR e1 hB hT fl_X11_77 rfl af_11_12 at_11_12 (by decide) dX11_years_105) ?_
  refine fc (ok_callM hB hT (e1 ▸ s_X9_outBits) lk_X11_225 (by rw [e2]; decide) (c := 9) rfl rfl rfl wd_857 wd_858 dX11_years_108) ?_
  refine fc (ok_callMV hB hT (e1 ▸ s_X5_write) lk_X11_228 (by rw [e2]; decide) (c := 5) rfl rfl rfl wd_861 wd_862 dX11_years_111) ?_
  refine fc (ok_iinc hB (by decide) dX11_years_114) ?_
  refine fc (ok_goto hB (t := 46) (by decide) dX11_years_117) ?_
  refine fc (ok_aload_n hB dX11_years_120) ?_
  refine fc (okt_getR e1 hB hT fl_X11_65 rfl af_11_10 at_11_10 (by decide) dX11_years_121) ?_
  refine fc (ok_getI hB hT fl_X11_246 rfl rfl (Or.inl af_0_6) dX11_years_124) ?_
  refine fc (ok_iret hB dX11_years_127) ?_
  exact fn
def inv_yrs (σ : Mem) (N sd : Int) (n pc : Nat) (ls st : List AV) (σ' : Mem) : Prop := pc = 46 ∧ st = [] ∧ (0 < pcnt σ 6 2 ∧ 1 ≤ N ∧ N ≤ 30 ∧ σ 16 6 + N ≤ 999) ∧ ∃ (k : Nat) (v5 v6 : AV), ls = [(27, 0), (0, N), (1, sd), (7, 0), (0, (k : Int)), v5, v6] ∧ (k : Int) + n = N ∧ yrX k (up σ 0 9 sd) σ' ∧ xA σ' ∧ AG σ σ' ∧ σ' 31 1 = σ 31 1 + k ∧ σ' 16 6 = σ 16 6 + k
def w_X11_years : WP := fun av σ Q => ∃ (N : Int) (sd : Int), av = [(27, 0), (0, N), (1, sd)] ∧ (InR N ∧ xA σ ∧ σ 31 1 ≤ 999900 ∧ InR (σ 0 8) ∧ (0 < pcnt σ 6 2 → 1 ≤ pcnt σ 6 1 ∧ 1 ≤ pcnt σ 6 3) ∧ (¬ (0 < pcnt σ 6 2 ∧ 1 ≤ N ∧ N ≤ 30 ∧ σ 16 6 + N ≤ 999) → Q (0, -1) σ) ∧ (0 < pcnt σ 6 2 ∧ 1 ≤ N ∧ N ≤ 30 ∧ σ 16 6 + N ≤ 999 → ∀ τ, yrX N.toNat (up σ 0 9 sd) τ → AG σ τ → xA τ → Q (0, τ 16 6) τ))
theorem w_X11_years_e (N : Int) (sd : Int) (σ : Mem) (Q : AV → Mem → Prop) : w_X11_years [(27, 0), (0, N), (1, sd)] σ Q = (InR N ∧ xA σ ∧ σ 31 1 ≤ 999900 ∧ InR (σ 0 8) ∧ (0 < pcnt σ 6 2 → 1 ≤ pcnt σ 6 1 ∧ 1 ≤ pcnt σ 6 3) ∧ (¬ (0 < pcnt σ 6 2 ∧ 1 ≤ N ∧ N ≤ 30 ∧ σ 16 6 + N ≤ 999) → Q (0, -1) σ) ∧ (0 < pcnt σ 6 2 ∧ 1 ≤ N ∧ N ≤ 30 ∧ σ 16 6 + N ≤ 999 → ∀ τ, yrX N.toNat (up σ 0 9 sd) τ → AG σ τ → xA τ → Q (0, τ 16 6) τ)) := by
  apply propext; constructor
  · rintro ⟨N', sd', h9, hb9⟩; cases h9; exact hb9
  · intro hb9; exact ⟨N, sd, rfl, hb9⟩

set_option maxRecDepth 100000 in
set_option maxHeartbeats 4000000 in
theorem s_X11_years : ∀ av σ Q, w_X11_years av σ Q → amCall 7 0 0 TT yX11_years cX11_years 7 (some .int) av σ Q := by
  rintro av σ Q ⟨N, sd, rfl, hN, hx, hw, hfl, hto, h1, h2⟩
  have hB0 := hx.1.1.2.1
  have hev0 := hx.1.1.2.2.2.2.1
  have c20 := pcnt_b hB0 2
  refine am_m [46] (inv_yrs σ N sd) (own := RX11) (A := look a_X11_years) (fun X e1 e2 hB => o_X11_years e1 e2 hB) rfl (by decide +kernel) rfl rfl ?_ ⟨90, ?_⟩ (w := 7)
  · rintro n pc ls st σ' ⟨rfl, rfl, cc, k, v5, v6, rfl, hk, hyr, hx', hA, h31, h16⟩
    obtain ⟨t1, t2⟩ := hto cc.1
    have r8 : σ' 8 = σ 8 := hA.1 8 (by decide) (by decide) (by decide) (by decide) (by decide) (by decide) (by decide) (by decide) (by decide) (by decide)
    have pcA : ∀ x, pcnt σ' 6 x = pcnt σ 6 x := fun x => pcnt_cong (show σ' (6 + 2) = σ (6 + 2) from r8) x
    have hP := rmM_SP σ'
    have hxr := rm_x hx'
    obtain ⟨p1, p2, p3⟩ := id hx'.2.1
    have pcR : ∀ x, pcnt (rmM σ') 6 x = pcnt σ 6 x := fun x => by rw [SP_pcnt hP]; exact pcA x
    have hBr := hxr.1.1.2.1
    have hau := hxr.2.2.1
    have e08 : rmM σ' 0 8 = σ 0 8 := by rw [rmM_o σ' (by decide) (by decide)]; exact hA.2.2 8 (by decide)
    have c1 := pcnt_b hB0 1
    have c3 := pcnt_b hB0 3
    refine ⟨120, ?_⟩
    simp only [↓reduceIte, inR_0, inR_1, inR_m, vSw2_e, swP_n, swP_c, vI_e, vL_e, vNull_e, vIload_e, vLload_e, vAload_e, vIstore_e, vLstore_e, vAstore_e, vIinc_e, vIadd_e, vIsub_e, vImul_e, vIand_e, vIor_e, vIxor_e, vIshl_e, vIshr_e, vIushr_e, vIdiv_e, vIrem_e, vLadd_e, vLsub_e, vLmul_e, vLand_e, vLor_e, vLxor_e, vLdiv_e, vLrem_e, vLushr_e, vLshl_e, vLcmp_e, vIneg_e, vI2l_e, vL2i_e, vI2b_e, vI2c_e, vDup_e, vPop_e, vDup2_e, vGoto_e, vIcEq_e, vIfEq_e, vIcNe_e, vIfNe_e, vIcLt_e, vIfLt_e, vIcGe_e, vIfGe_e, vIcGt_e, vIfGt_e, vIcLe_e, vIfLe_e, vNonnull_e, vSw_e, vGetI_e, vGetL_e, vGetR_e, vPutI_e, vPutZ_e, vPutL_e, vPutR_e, vIald_e, vIald_s, vLald_e, vBald_e, vBald_s, vAald_e, vIast_e, vLast_e, vBast_e, vAast_e, vAlen_e8, vAlen_e9, vAlen_e10, vAlen_e11, vAlen_e5, vAlen_e3, vGets_e, vCompact_e, vLdcS_e, vIret_e, vZret_e, vCret_e, vBret_e, vLret_e, vVret_e, vAret_e, vCallM_e0, vCallMV_e0, vCallS_e0, vCallSV_e0, vCallM_e1, vCallMV_e1, vCallS_e1, vCallSV_e1, vCallM_e2, vCallMV_e2, vCallS_e2, vCallSV_e2, vCallM_e3, vCallMV_e3, vCallS_e3, vCallSV_e3, vCallM_e4, vCallMV_e4, vCallS_e4, vCallSV_e4, vCallM_e5, vCallMV_e5, vCallS_e5, vCallSV_e5, vCallM_e6, vCallMV_e6, vCallS_e6, vCallSV_e6, vCallM_e7, vCallMV_e7, vCallS_e7, vCallSV_e7, vBad_e, vStrVal_e, vStrCod_e, vForm_e, vCallT_e0, vCallT_e1, vCallT_e2, vCopy_e, rf_0_0, rf_0_1, rf_0_2, rf_0_3, rf_0_4, rf_0_7, rf_0_10, rf_0_11, rf_0_12, rf_0_13, rf_0_14, rf_0_15, rf_0_16, rf_1_0, rf_3_0, rf_3_1, rf_6_0, rf_6_1, rf_9_0, rf_9_1, rf_9_3, rf_13_0, rf_13_1, rf_13_2, rf_16_0, rf_16_1, rf_16_2, rf_16_3, rf_21_0, rf_21_1, rf_21_2, rf_21_3, rf_26_0, rf_26_1, rf_26_2, rf_26_3, rf_26_4, rf_26_5, rf_26_6, rf_31_0, rf_31_2, rf_31_5, rf_31_6, rf_36_0, rf_36_1, rf_36_2, rf_36_3, rf_39_0, rf_39_1, rf_39_2, rf_41_0, rf_41_1, rf_41_2, rf_41_3, rf_5000_1, rf_5000_2, rf_5000_3, rf_5000_4, rf_5000_5, rf_5000_15, rf_5000_16, rf_5000_18, rf_5000_19, rf_5000_20, rf_5000_21, rf_5000_22, rf_5000_23, rf_5000_24, rf_5000_25, rf_5000_26, rf_5000_27, rf_5000_36, rf_5000_37, rf_5000_40, rf_5000_41, rf_5000_42, rf_5000_43, rf_5000_44, rf_5000_45, rf_5000_47, rf_5000_52, rf_5000_54, rf_5000_55, rf_100_0, rf_100_1, rf_103_0, rf_103_1, rf_106_0, rf_106_1, rf_109_0, rf_109_1, al_2, al_4, al_5, al_7, al_8, al_10, al_11, al_12, al_14, al_15, al_17, al_18, al_19, al_20, al_22, al_23, al_24, al_25, al_27, al_28, al_29, al_30, al_32, al_33, al_34, al_35, al_37, al_38, al_40, al_42, al_5001, al_5002, al_5003, al_5004, al_5005, al_5006, al_5007, al_5008, al_5009, al_5010, al_5011, al_5012, al_5013, al_5014, al_5015, al_5016, al_5017, al_5018, al_5019, al_5020, al_5021, al_5022, al_5023, al_5024, al_5025, al_5026, al_9000, al_101, al_102, al_104, al_105, al_107, al_108, al_110, al_111, vcs_e, lg_c0, lg_cs, lg_nil, set_c0, set_cs, okst_0, okst_s, acok_n, acok_c, List.contains_nil, List.contains_cons, Bool.or_false, Bool.false_or, Bool.false_eq_true, if_false, if_true, ite_self, ne_eq, true_and, and_true, not_false_eq_true, not_true_eq_false, false_imp_iff, true_imp_iff, Nat.ble_eq, Bool.and_eq_true, reduceCtorEq, or_false, false_or, or_true, true_or, false_and, and_false, and_self, Int.reduceLE, Int.reduceAdd, Int.reduceSub, Int.reduceMul, Int.reduceNeg, Int.reduceLT, Int.reduceEq, Int.reduceNe, Nat.reduceBEq, Nat.reduceBNe, Nat.reduceEqDiff, amCmp_in, amCmp_lt, amCmp_le, amCmp_gt, amCmp_ge, amCmp_eq, amCmp_ne, Nat.reduceLeDiff, Nat.reduceSub, Bool.and_true, Bool.true_and, Bool.and_self, Bool.or_true, Bool.true_or, isRf_3, isRf_4, isRf_5, isRf_8, isRf_9, isRf_10, isRf_11, isRf_15, isRf_16, isRf_17, isRf_18, isRf_19, isRf_20, isRf_21, isRf_22, isRf_23, isRf_24, isRf_25, isRf_26, isRf_27, isRf_28, k_X11_years_0, k_X11_years_1, k_X11_years_4, k_X11_years_7, k_X11_years_10, k_X11_years_11, k_X11_years_12, k_X11_years_15, k_X11_years_16, k_X11_years_18, k_X11_years_21, k_X11_years_22, k_X11_years_25, k_X11_years_28, k_X11_years_29, k_X11_years_30, k_X11_years_33, k_X11_years_36, k_X11_years_37, k_X11_years_38, k_X11_years_39, k_X11_years_40, k_X11_years_43, k_X11_years_44, k_X11_years_46, k_X11_years_48, k_X11_years_49, k_X11_years_52, k_X11_years_53, k_X11_years_56, k_X11_years_57, k_X11_years_60, k_X11_years_63, k_X11_years_64, k_X11_years_67, k_X11_years_68, k_X11_years_69, k_X11_years_72, k_X11_years_73, k_X11_years_76, k_X11_years_79, k_X11_years_81, k_X11_years_82, k_X11_years_85, k_X11_years_86, k_X11_years_89, k_X11_years_91, k_X11_years_94, k_X11_years_96, k_X11_years_97, k_X11_years_100, k_X11_years_102, k_X11_years_104, k_X11_years_105, k_X11_years_108, k_X11_years_111, k_X11_years_114, k_X11_years_117, k_X11_years_120, k_X11_years_121, k_X11_years_124, k_X11_years_127, w_X11_draw_e, w_X11_drawWhatIsAhead_e, w_X5_remember_e, w_X5_write_e, w_X6_isTold_e, w_X6_many_e, w_X9_outBits_e, w_X9_show_e, rmM_e, pcR, e08]
    by_cases hlt : (k : Int) < N
    · refine ⟨⟨by omega, by omega⟩, hN, fun g => by omega, fun _ => ⟨by omega, by omega, by omega, by omega, hBr, by omega, by omega, hfl, hau, fun α hα => ?_⟩⟩
      obtain ⟨x1, x2, x3, x4⟩ := ahS_x hxr hα
      have d := D9_up α (dN (α 0 9))
      have xd := D9_xA d x1
      have a8 : α 8 = σ 8 := by rw [x2.1 8 (by decide) (by decide) (by decide) (by decide) (by decide) (by decide) (by decide) (by decide) (by decide) (by decide), rmM_o σ' (by decide) (by decide)]; exact r8
      have pcB : ∀ x, pcnt α 6 x = pcnt σ 6 x := fun x => pcnt_cong (show α (6 + 2) = σ (6 + 2) from a8) x
      have pcD : ∀ x, pcnt (up α 0 9 (dN (α 0 9))) 6 x = pcnt σ 6 x := fun x => by rw [D9_pcnt d]; exact pcB x
      simp only [pcB, pcD]
      have pb := dr_b (x := dN (α 0 9)) (b := pcnt σ 6 1) t1 c1.2
      generalize hp : amLushr (dN (α 0 9)) 33 % pcnt σ 6 1 = p at *
      obtain ⟨⟨hst, hse, h9, hsi⟩, hpa, hau3, hte, hp4, hpr, hmo⟩ := id xd
      have h9p := h9 p
      rw [pcD] at hp4 hte hsi
      rw [pcD] at hsi
      obtain ⟨mb1, mb2⟩ := evMv_b hst h9p
      have ef : sumC (pFl (up α 0 9 (dN (α 0 9))) 16 p) (pcnt σ 6 2).toNat = evMv (up α 0 9 (dN (α 0 9))) p := by unfold evMv; rw [pcD]
      have key : ∀ υ, shP (up α 0 9 (dN (α 0 9))) υ 16 p → pcnt υ 6 2 = pcnt σ 6 2 ∧ outB (υ 30) (pcnt σ 6 2).toNat = evOb (up α 0 9 (dN (α 0 9))) p ∧ (∀ i, 0 ≤ i → i < pcnt σ 6 2 → InR (υ 30 i)) ∧ υ 31 1 = σ' 31 1 ∧ (∀ u5 u6, ∃ k', k' < n ∧ inv_yrs σ N sd k' 46 [(27, 0), (0, N), (1, sd), (7, 0), (0, (k : Int) + 1), u5, u6] [] (wrM υ p (evMv (up α 0 9 (dN (α 0 9))) p) (evOb (up α 0 9 (dN (α 0 9))) p))) := fun υ hυ => by
        obtain ⟨z1, z2, z3, z4⟩ := sh_gen xd hυ
        rw [pcD] at z1 z2 z3
        have hy : yrS σ' (wrM υ p (evMv (up α 0 9 (dN (α 0 9))) p) (evOb (up α 0 9 (dN (α 0 9))) p)) := by
          refine ⟨α, υ, hα, ?_, ?_⟩
          · rw [pcA, hp]; exact hυ
          · rw [pcA, hp]
        obtain ⟨y1, y2, y3, y4⟩ := yrS_x hx' (by omega) (by omega) hy
        exact ⟨z1, z2, z3, by rw [z4, d.1 31 (by decide), x4, (rm_31 σ').1], fun u5 u6 => ⟨n - 1, by omega, rfl, rfl, cc, k + 1, u5, u6, rfl, by omega, ⟨σ', hyr, hy⟩, y1, AG_tr hA y2, by omega, by omega⟩⟩
      have hte' : ∀ i, 0 ≤ i → i < pcnt σ 6 2 → (0 ≤ up α 0 9 (dN (α 0 9)) 18 i ∧ up α 0 9 (dN (α 0 9)) 18 i < pcnt σ 6 3) ∧ 0 ≤ up α 0 9 (dN (α 0 9)) 20 i ∧ up α 0 9 (dN (α 0 9)) 20 i ≤ 9999 := fun i i0 i1 => ⟨hsi i i0 i1, hte i i0 i1⟩
      refine ⟨isP6, t1, by omega, hst, ⟨by omega, by omega⟩, h9p, hse, hte', fun υ hυ => ?_⟩
      obtain ⟨z1, z2, z3, z4, z5⟩ := key υ hυ
      simp only [z1, z2, z4, ef]
      have z5' := fun u5 u6 => z5 u5 u6
      unfold wrM at z5'
      rw [z4] at z5'
      repeat' (first | assumption | apply And.intro | intro _)
      all_goals first | omega | exact absurd trivial (by assumption) | exact z5' _ _
    · have hh := h2 cc σ' (by rw [show N.toNat = k by omega]; exact hyr) hA hx'
      repeat' (first | assumption | apply And.intro | intro _)
      all_goals first | omega | exact absurd trivial (by assumption) | exact hh
  · change vcs _ _ _ _ 90 0 [(27, 0), (0, N), (1, sd), (7, 0), (6, 0), (6, 0), (6, 0)] [] σ
    simp only [↓reduceIte, inR_0, inR_1, inR_m, vSw2_e, swP_n, swP_c, vI_e, vL_e, vNull_e, vIload_e, vLload_e, vAload_e, vIstore_e, vLstore_e, vAstore_e, vIinc_e, vIadd_e, vIsub_e, vImul_e, vIand_e, vIor_e, vIxor_e, vIshl_e, vIshr_e, vIushr_e, vIdiv_e, vIrem_e, vLadd_e, vLsub_e, vLmul_e, vLand_e, vLor_e, vLxor_e, vLdiv_e, vLrem_e, vLushr_e, vLshl_e, vLcmp_e, vIneg_e, vI2l_e, vL2i_e, vI2b_e, vI2c_e, vDup_e, vPop_e, vDup2_e, vGoto_e, vIcEq_e, vIfEq_e, vIcNe_e, vIfNe_e, vIcLt_e, vIfLt_e, vIcGe_e, vIfGe_e, vIcGt_e, vIfGt_e, vIcLe_e, vIfLe_e, vNonnull_e, vSw_e, vGetI_e, vGetL_e, vGetR_e, vPutI_e, vPutZ_e, vPutL_e, vPutR_e, vIald_e, vIald_s, vLald_e, vBald_e, vBald_s, vAald_e, vIast_e, vLast_e, vBast_e, vAast_e, vAlen_e8, vAlen_e9, vAlen_e10, vAlen_e11, vAlen_e5, vAlen_e3, vGets_e, vCompact_e, vLdcS_e, vIret_e, vZret_e, vCret_e, vBret_e, vLret_e, vVret_e, vAret_e, vCallM_e0, vCallMV_e0, vCallS_e0, vCallSV_e0, vCallM_e1, vCallMV_e1, vCallS_e1, vCallSV_e1, vCallM_e2, vCallMV_e2, vCallS_e2, vCallSV_e2, vCallM_e3, vCallMV_e3, vCallS_e3, vCallSV_e3, vCallM_e4, vCallMV_e4, vCallS_e4, vCallSV_e4, vCallM_e5, vCallMV_e5, vCallS_e5, vCallSV_e5, vCallM_e6, vCallMV_e6, vCallS_e6, vCallSV_e6, vCallM_e7, vCallMV_e7, vCallS_e7, vCallSV_e7, vBad_e, vStrVal_e, vStrCod_e, vForm_e, vCallT_e0, vCallT_e1, vCallT_e2, vCopy_e, rf_0_0, rf_0_1, rf_0_2, rf_0_3, rf_0_4, rf_0_7, rf_0_10, rf_0_11, rf_0_12, rf_0_13, rf_0_14, rf_0_15, rf_0_16, rf_1_0, rf_3_0, rf_3_1, rf_6_0, rf_6_1, rf_9_0, rf_9_1, rf_9_3, rf_13_0, rf_13_1, rf_13_2, rf_16_0, rf_16_1, rf_16_2, rf_16_3, rf_21_0, rf_21_1, rf_21_2, rf_21_3, rf_26_0, rf_26_1, rf_26_2, rf_26_3, rf_26_4, rf_26_5, rf_26_6, rf_31_0, rf_31_2, rf_31_5, rf_31_6, rf_36_0, rf_36_1, rf_36_2, rf_36_3, rf_39_0, rf_39_1, rf_39_2, rf_41_0, rf_41_1, rf_41_2, rf_41_3, rf_5000_1, rf_5000_2, rf_5000_3, rf_5000_4, rf_5000_5, rf_5000_15, rf_5000_16, rf_5000_18, rf_5000_19, rf_5000_20, rf_5000_21, rf_5000_22, rf_5000_23, rf_5000_24, rf_5000_25, rf_5000_26, rf_5000_27, rf_5000_36, rf_5000_37, rf_5000_40, rf_5000_41, rf_5000_42, rf_5000_43, rf_5000_44, rf_5000_45, rf_5000_47, rf_5000_52, rf_5000_54, rf_5000_55, rf_100_0, rf_100_1, rf_103_0, rf_103_1, rf_106_0, rf_106_1, rf_109_0, rf_109_1, al_2, al_4, al_5, al_7, al_8, al_10, al_11, al_12, al_14, al_15, al_17, al_18, al_19, al_20, al_22, al_23, al_24, al_25, al_27, al_28, al_29, al_30, al_32, al_33, al_34, al_35, al_37, al_38, al_40, al_42, al_5001, al_5002, al_5003, al_5004, al_5005, al_5006, al_5007, al_5008, al_5009, al_5010, al_5011, al_5012, al_5013, al_5014, al_5015, al_5016, al_5017, al_5018, al_5019, al_5020, al_5021, al_5022, al_5023, al_5024, al_5025, al_5026, al_9000, al_101, al_102, al_104, al_105, al_107, al_108, al_110, al_111, vcs_e, lg_c0, lg_cs, lg_nil, set_c0, set_cs, okst_0, okst_s, acok_n, acok_c, List.contains_nil, List.contains_cons, Bool.or_false, Bool.false_or, Bool.false_eq_true, if_false, if_true, ite_self, ne_eq, true_and, and_true, not_false_eq_true, not_true_eq_false, false_imp_iff, true_imp_iff, Nat.ble_eq, Bool.and_eq_true, reduceCtorEq, or_false, false_or, or_true, true_or, false_and, and_false, and_self, Int.reduceLE, Int.reduceAdd, Int.reduceSub, Int.reduceMul, Int.reduceNeg, Int.reduceLT, Int.reduceEq, Int.reduceNe, Nat.reduceBEq, Nat.reduceBNe, Nat.reduceEqDiff, amCmp_in, amCmp_lt, amCmp_le, amCmp_gt, amCmp_ge, amCmp_eq, amCmp_ne, Nat.reduceLeDiff, Nat.reduceSub, Bool.and_true, Bool.true_and, Bool.and_self, Bool.or_true, Bool.true_or, isRf_3, isRf_4, isRf_5, isRf_8, isRf_9, isRf_10, isRf_11, isRf_15, isRf_16, isRf_17, isRf_18, isRf_19, isRf_20, isRf_21, isRf_22, isRf_23, isRf_24, isRf_25, isRf_26, isRf_27, isRf_28, k_X11_years_0, k_X11_years_1, k_X11_years_4, k_X11_years_7, k_X11_years_10, k_X11_years_11, k_X11_years_12, k_X11_years_15, k_X11_years_16, k_X11_years_18, k_X11_years_21, k_X11_years_22, k_X11_years_25, k_X11_years_28, k_X11_years_29, k_X11_years_30, k_X11_years_33, k_X11_years_36, k_X11_years_37, k_X11_years_38, k_X11_years_39, k_X11_years_40, k_X11_years_43, k_X11_years_44, k_X11_years_46, k_X11_years_48, k_X11_years_49, k_X11_years_52, k_X11_years_53, k_X11_years_56, k_X11_years_57, k_X11_years_60, k_X11_years_63, k_X11_years_64, k_X11_years_67, k_X11_years_68, k_X11_years_69, k_X11_years_72, k_X11_years_73, k_X11_years_76, k_X11_years_79, k_X11_years_81, k_X11_years_82, k_X11_years_85, k_X11_years_86, k_X11_years_89, k_X11_years_91, k_X11_years_94, k_X11_years_96, k_X11_years_97, k_X11_years_100, k_X11_years_102, k_X11_years_104, k_X11_years_105, k_X11_years_108, k_X11_years_111, k_X11_years_114, k_X11_years_117, k_X11_years_120, k_X11_years_121, k_X11_years_124, k_X11_years_127, w_X11_draw_e, w_X11_drawWhatIsAhead_e, w_X5_remember_e, w_X5_write_e, w_X6_isTold_e, w_X6_many_e, w_X9_outBits_e, w_X9_show_e]
    by_cases d2 : 0 < pcnt σ 6 2
    · rw [if_pos d2]
      by_cases d3 : 1 ≤ N ∧ N ≤ 30 ∧ σ 16 6 + N ≤ 999
      · have d9 := D9_up σ sd
        have i9 : ∃ k', inv_yrs σ N sd k' 46 [(27, 0), (0, N), (1, sd), (7, 0), (0, 0), (6, 0), (6, 0)] [] (up σ 0 9 sd) := ⟨N.toNat, rfl, rfl, ⟨d2, d3⟩, 0, _, _, rfl, by omega, rfl, D9_xA d9 hx, D9_AG d9, by rw [d9.1 31 (by decide)]; omega, by rw [d9.1 16 (by decide)]; omega⟩
        repeat' (first | assumption | apply And.intro | intro _)
        all_goals first | omega | exact absurd trivial (by assumption) | exact isP6 | exact i9
      · have hh := h1 (fun q => d3 q.2)
        repeat' (first | assumption | apply And.intro | intro _)
        all_goals first | omega | exact absurd trivial (by assumption) | exact isP6 | exact hh
    · rw [if_neg d2]
      have hh := h1 (fun q => d2 q.1)
      repeat' (first | assumption | apply And.intro | intro _)
      all_goals first | omega | exact absurd trivial (by assumption) | exact isP6 | exact hh
