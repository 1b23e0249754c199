/-! ArmchairHouse: BORNE -/
theorem xP_SF {σ τ : Mem} (h : SF σ τ) (hx : xP σ) : xP τ := by
  obtain ⟨hst, hse, h9, hsi, hmi, hte, hpr, hmo⟩ := hx
  have o : ∀ b : Int, 20 < b → b < 26 → τ b = σ b := fun b h1 h2 => SF_r h (by omega)
  refine ⟨stOk_SF h hst, ?_, ?_, ?_, ?_, ?_, ?_, ?_⟩
  · rw [o 23 (by decide) (by decide)]; exact hse
  · intro q; rw [SF_pval h]; exact h9 q
  · rw [o 23 (by decide) (by decide), SF_pcnt h, SF_pcnt h]; exact hsi
  · rw [o 24 (by decide) (by decide)]; exact hmi
  · rw [o 25 (by decide) (by decide), SF_pcnt h]; exact hte
  · rw [o 21 (by decide) (by decide)]; exact hpr
  · rw [o 24 (by decide) (by decide), SF_pcnt h]; exact hmo
abbrev bst (σ : Mem) : Int := (bbR (bMv σ) (bOb σ) (pcnt σ 6 1).toNat).1
/-- EVENINGS that are borne, each the best -/
def bnX : Nat → Mem → Int → Int → Mem → Prop
  | 0, σ, r, m, τ => τ = apM σ ∧ r = 0 ∧ m = 0
  | k + 1, σ, r, m, τ => ∃ υ r0 m0 β, bnX k σ r0 m0 υ ∧ SF υ β ∧ bst υ ≠ -1 ∧ shP β τ 21 (bst υ) ∧ r = 10 * r0 + bst υ ∧ m = m0 + sumC (pFl β 21 (bst υ)) (pcnt β 6 2).toNat

theorem wd_1130 : Cond.methodLink RX11 348 yX11_bestBorne ∈ TBL := tb_tab (List.mem_of_getElem? (i := 1130) (by decide +kernel)) rfl
theorem wd_1133 : Cond.code yX11_bestBorne cX11_bestBorne 5 (some .int) ∈ TBL := tb_tab (List.mem_of_getElem? (i := 1133) (by decide +kernel)) rfl
theorem lk_X11_348 : amLk RX11 348 yX11_bestBorne cX11_bestBorne 5 (some .int) 0 := ⟨wd_1130, wd_1, wd_1133, by decide +kernel, by decide +kernel, by decide⟩
theorem wd_1132 : Cond.instanceMethod yX11_bestBorne ∈ TBL := tb_tab (List.mem_of_getElem? (i := 1132) (by decide +kernel)) rfl
theorem sl_X11_bestBorne : Cond.selects RX11 yX11_bestBorne yX11_bestBorne ∈ TBL := tb_sel (List.mem_of_getElem? (i := 39) (by decide +kernel)) rfl
def a_X11_borne : AC := [(0, vAload 0 1), (1, vGetR TT 27 2 22 4), (4, vCallM w_X6_isTold 22 0 7), (7, vIfEq 29 10), (10, vIload 1 11), (11, vI 1 12), (12, vIcLt 29 15), (15, vIload 1 16), (16, vI 4 17), (17, vIcGt 29 20), (20, vIload 2 21), (21, vIfLt 29 24), (24, vIload 2 25), (25, vI 1 26), (26, vIcLe 31 29), (29, vI (-1) 30), (30, vIret), (31, vAload 0 32), (32, vGetR TT 27 11 16 35), (35, vAload 0 36), (36, vGetR TT 27 10 16 39), (39, vCallMV w_X0_copyFrom 16 1 42), (42, vI 0 43), (43, vIstore 3 44), (44, vI 0 45), (45, vIstore 4 47), (47, vI 0 48), (48, vIstore 5 50), (50, vIload 5 52), (52, vIload 1 53), (53, vIcGe 102 56), (56, vAload 0 57), (57, vCallM w_X11_bestBorne 27 0 60), (60, vIstore 6 62), (62, vIload 6 64), (64, vI (-1) 65), (65, vIcNe 70 68), (68, vI (-1) 69), (69, vIret), (70, vIload 4 72), (72, vAload 0 73), (73, vGetR TT 27 12 25 76), (76, vAload 0 77), (77, vGetR TT 27 11 16 80), (80, vIload 6 82), (82, vCallM w_X9_show 25 2 85), (85, vIadd 86), (86, vIstore 4 88), (88, vI 10 90), (90, vIload 3 91), (91, vImul 92), (92, vIload 6 94), (94, vIadd 95), (95, vIstore 3 96), (96, vIinc 5 1 99), (99, vGoto 50), (102, vIload 2 103), (103, vIfNe 110 106), (106, vIload 3 107), (107, vGoto 112), (110, vIload 4 112), (112, vIret)]
theorem k_X11_borne_0 : look a_X11_borne 0 = vAload 0 1 := rfl
theorem k_X11_borne_1 : look a_X11_borne 1 = vGetR TT 27 2 22 4 := rfl
theorem k_X11_borne_4 : look a_X11_borne 4 = vCallM w_X6_isTold 22 0 7 := rfl
theorem k_X11_borne_7 : look a_X11_borne 7 = vIfEq 29 10 := rfl
theorem k_X11_borne_10 : look a_X11_borne 10 = vIload 1 11 := rfl
theorem k_X11_borne_11 : look a_X11_borne 11 = vI 1 12 := rfl
theorem k_X11_borne_12 : look a_X11_borne 12 = vIcLt 29 15 := rfl
theorem k_X11_borne_15 : look a_X11_borne 15 = vIload 1 16 := rfl
theorem k_X11_borne_16 : look a_X11_borne 16 = vI 4 17 := rfl
theorem k_X11_borne_17 : look a_X11_borne 17 = vIcGt 29 20 := rfl
theorem k_X11_borne_20 : look a_X11_borne 20 = vIload 2 21 := rfl
theorem k_X11_borne_21 : look a_X11_borne 21 = vIfLt 29 24 := rfl
theorem k_X11_borne_24 : look a_X11_borne 24 = vIload 2 25 := rfl
theorem k_X11_borne_25 : look a_X11_borne 25 = vI 1 26 := rfl
theorem k_X11_borne_26 : look a_X11_borne 26 = vIcLe 31 29 := rfl
theorem k_X11_borne_29 : look a_X11_borne 29 = vI (-1) 30 := rfl
theorem k_X11_borne_30 : look a_X11_borne 30 = vIret := rfl
theorem k_X11_borne_31 : look a_X11_borne 31 = vAload 0 32 := rfl
theorem k_X11_borne_32 : look a_X11_borne 32 = vGetR TT 27 11 16 35 := rfl
theorem k_X11_borne_35 : look a_X11_borne 35 = vAload 0 36 := rfl
theorem k_X11_borne_36 : look a_X11_borne 36 = vGetR TT 27 10 16 39 := rfl
theorem k_X11_borne_39 : look a_X11_borne 39 = vCallMV w_X0_copyFrom 16 1 42 := rfl
theorem k_X11_borne_42 : look a_X11_borne 42 = vI 0 43 := rfl
theorem k_X11_borne_43 : look a_X11_borne 43 = vIstore 3 44 := rfl
theorem k_X11_borne_44 : look a_X11_borne 44 = vI 0 45 := rfl
theorem k_X11_borne_45 : look a_X11_borne 45 = vIstore 4 47 := rfl
theorem k_X11_borne_47 : look a_X11_borne 47 = vI 0 48 := rfl
theorem k_X11_borne_48 : look a_X11_borne 48 = vIstore 5 50 := rfl
theorem k_X11_borne_50 : look a_X11_borne 50 = vIload 5 52 := rfl
theorem k_X11_borne_52 : look a_X11_borne 52 = vIload 1 53 := rfl
theorem k_X11_borne_53 : look a_X11_borne 53 = vIcGe 102 56 := rfl
theorem k_X11_borne_56 : look a_X11_borne 56 = vAload 0 57 := rfl
theorem k_X11_borne_57 : look a_X11_borne 57 = vCallM w_X11_bestBorne 27 0 60 := rfl
theorem k_X11_borne_60 : look a_X11_borne 60 = vIstore 6 62 := rfl
theorem k_X11_borne_62 : look a_X11_borne 62 = vIload 6 64 := rfl
theorem k_X11_borne_64 : look a_X11_borne 64 = vI (-1) 65 := rfl
theorem k_X11_borne_65 : look a_X11_borne 65 = vIcNe 70 68 := rfl
theorem k_X11_borne_68 : look a_X11_borne 68 = vI (-1) 69 := rfl
theorem k_X11_borne_69 : look a_X11_borne 69 = vIret := rfl
theorem k_X11_borne_70 : look a_X11_borne 70 = vIload 4 72 := rfl
theorem k_X11_borne_72 : look a_X11_borne 72 = vAload 0 73 := rfl
theorem k_X11_borne_73 : look a_X11_borne 73 = vGetR TT 27 12 25 76 := rfl
theorem k_X11_borne_76 : look a_X11_borne 76 = vAload 0 77 := rfl
theorem k_X11_borne_77 : look a_X11_borne 77 = vGetR TT 27 11 16 80 := rfl
theorem k_X11_borne_80 : look a_X11_borne 80 = vIload 6 82 := rfl
theorem k_X11_borne_82 : look a_X11_borne 82 = vCallM w_X9_show 25 2 85 := rfl
theorem k_X11_borne_85 : look a_X11_borne 85 = vIadd 86 := rfl
theorem k_X11_borne_86 : look a_X11_borne 86 = vIstore 4 88 := rfl
theorem k_X11_borne_88 : look a_X11_borne 88 = vI 10 90 := rfl
theorem k_X11_borne_90 : look a_X11_borne 90 = vIload 3 91 := rfl
theorem k_X11_borne_91 : look a_X11_borne 91 = vImul 92 := rfl
theorem k_X11_borne_92 : look a_X11_borne 92 = vIload 6 94 := rfl
theorem k_X11_borne_94 : look a_X11_borne 94 = vIadd 95 := rfl
theorem k_X11_borne_95 : look a_X11_borne 95 = vIstore 3 96 := rfl
theorem k_X11_borne_96 : look a_X11_borne 96 = vIinc 5 1 99 := rfl
theorem k_X11_borne_99 : look a_X11_borne 99 = vGoto 50 := rfl
theorem k_X11_borne_102 : look a_X11_borne 102 = vIload 2 103 := rfl
theorem k_X11_borne_103 : look a_X11_borne 103 = vIfNe 110 106 := rfl
theorem k_X11_borne_106 : look a_X11_borne 106 = vIload 3 107 := rfl
theorem k_X11_borne_107 : look a_X11_borne 107 = vGoto 112 := rfl
theorem k_X11_borne_110 : look a_X11_borne 110 = vIload 4 112 := rfl
theorem k_X11_borne_112 : look a_X11_borne 112 = vIret := rfl
theorem o_X11_borne {X : amX} (e1 : XT X = TT) (e2 : XD X = 7) (hB : amB X RX11 cX11_borne (some .int) 7) : ∀ pc, amOK X pc (look a_X11_borne pc) := by
  have hT : amTok (XT X) := e1 ▸ TT_ok
  refine look_ok ?_
  unfold a_X11_borne
  refine fc (ok_aload_n hB dX11_borne_0) ?_
  refine fc (okt_getR e1 hB hT fl_X11_23 rfl af_11_2 at_11_2 (by decide) dX11_borne_1) ?_
  refine fc (ok_callM hB hT (e1 ▸ s_X6_isTold) lk_X11_164 (by rw [e2]; decide) (c := 6) rfl rfl rfl wd_717 wd_718 dX11_borne_4) ?_
  refine fc (ok_if_eq hB (t := 29) (by decide) dX11_borne_7) ?_
  refine fc (ok_iload_n hB dX11_borne_10) ?_
  refine fc (ok_iconst hB dX11_borne_11) ?_
  refine fc (ok_icmp_lt hB (t := 29) (by decide) dX11_borne_12) ?_
  refine fc (ok_iload_n hB dX11_borne_15) ?_
  refine fc (ok_iconst hB dX11_borne_16) ?_
  refine fc (ok_icmp_gt hB (t := 29) (by decide) dX11_borne_17) ?_
  refine fc (ok_iload_n hB dX11_borne_20) ?_
  refine fc (ok_if_lt hB (t := 29) (by decide) dX11_borne_21) ?_
  refine fc (ok_iload_n hB dX11_borne_24) ?_
  refine fc (ok_iconst hB dX11_borne_25) ?_
  refine fc (ok_icmp_le hB (t := 31) (by decide) dX11_borne_26) ?_
  refine fc (ok_iconst hB dX11_borne_29) ?_
  refine fc (ok_iret hB dX11_borne_30) ?_
  refine fc (ok_aload_n hB dX11_borne_31) ?_
  refine fc (okt_getR e1 hB hT fl_X11_69 rfl af_11_11 at_11_11 (by decide) dX11_borne_32) ?_
  refine fc (ok_aload_n hB dX11_borne_35) ?_
  refine fc (okt_getR e1 hB hT fl_X11_65 rfl af_11_10 at_11_10 (by decide) dX11_borne_36) ?_
  refine fc (ok_callMV hB hT (e1 ▸ s_X0_copyFrom) lk_X11_277 (by rw [e2]; decide) (c := 0) rfl rfl rfl wd_956 wd_957 dX11_borne_39) ?_
  refine fc (ok_iconst hB dX11_borne_42) ?_
  refine fc (ok_istore_n hB (by decide) dX11_borne_43) ?_
  refine fc (ok_iconst hB dX11_borne_44) ?_
  refine fc (ok_istore hB (by decide) dX11_borne_45) ?_
  refine fc (ok_iconst hB dX11_borne_47) ?_
  refine fc (ok_istore hB (by decide) dX11_borne_48) ?_
  refine fc (ok_iload hB dX11_borne_50) ?_
  refine fc (ok_iload_n hB dX11_borne_52) ?_
  refine fc (ok_icmp_ge hB (t := 102) (by decide) dX11_borne_53) ?_
  refine fc (ok_aload_n hB dX11_borne_56) ?_
  refine fc (ok_callM hB hT (e1 ▸ s_X11_bestBorne) lk_X11_348 (by rw [e2]; decide) (c := 11) rfl rfl rfl wd_1132 sl_X11_bestBorne dX11_borne_57) ?_
  refine fc (ok_istore hB (by decide) dX11_borne_60) ?_
  refine fc (ok_iload hB dX11_borne_62) ?_
  refine fc (ok_iconst hB dX11_borne_64) ?_
  refine fc (ok_icmp_ne hB (t := 70) (by decide) dX11_borne_65) ?_
  refine fc (ok_iconst hB dX11_borne_68) ?_
  refine fc (ok_iret hB dX11_borne_69) ?_
  refine fc (ok_iload hB dX11_borne_70) ?_
  refine fc (ok_aload_n hB dX11_borne_72) ?_
  refine fc (okt_getR e1 hB hT fl_X11_77 rfl af_11_12 at_11_12 (by decide) dX11_borne_73) ?_
  refine fc (ok_aload_n hB dX11_borne_76) ?_
  refine fc (okt_getR e1 hB hT fl_X11_69 rfl af_11_11 at_11_11 (by decide) dX11_borne_77) ?_
  refine fc (ok_iload hB dX11_borne_80) ?_
  refine fc (ok_callM hB hT (e1 ▸ s_X9_show) lk_X11_221 (by rw [e2]; decide) (c := 9) rfl rfl rfl wd_772 wd_773 dX11_borne_82) ?_
  refine fc (ok_iadd hB dX11_borne_85) ?_
  refine fc (ok_istore hB (by decide) dX11_borne_86) ?_
  refine fc (ok_bipush hB dX11_borne_88 (by decide)) ?_
  refine fc (ok_iload_n hB dX11_borne_90) ?_
  refine fc (ok_imul hB dX11_borne_91) ?_
  refine fc (ok_iload hB dX11_borne_92) ?_
  refine fc (ok_iadd hB dX11_borne_94) ?_
  refine fc (ok_istore_n hB (by decide) dX11_borne_95) ?_
  refine fc (ok_iinc hB (by decide) dX11_borne_96) ?_
  refine fc (ok_goto hB (t := 50) (by decide) dX11_borne_99) ?_
  refine fc (ok_iload_n hB dX11_borne_102) ?_
  refine fc (ok_if_ne hB (t := 110) (by decide) dX11_borne_103) ?_
  refine fc (ok_iload_n hB dX11_borne_106) ?_
  refine fc (ok_goto hB (t := 112) (by decide) dX11_borne_107) ?_
  refine fc (ok_iload hB dX11_borne_110) ?_
  refine fc (ok_iret hB dX11_borne_112) ?_
  exact fn
def inv_bor (σ : Mem) (N w : Int) (n pc : Nat) (ls st : List AV) (σ' : Mem) : Prop := pc = 50 ∧ st = [] ∧ (0 < pcnt σ 6 2 ∧ 1 ≤ N ∧ N ≤ 4 ∧ 0 ≤ w ∧ w ≤ 1) ∧ ∃ (k : Nat) (r m : Int) (v6 : AV), ls = [(27, 0), (0, N), (0, w), (0, r), (0, m), (0, (k : Int)), v6] ∧ (k : Int) + n = N ∧ bnX k σ r m σ' ∧ xP σ' ∧ SA σ σ' ∧ σ' 21 6 = σ 16 6 + k
def w_X11_borne : WP := fun av σ Q => ∃ (N : Int) (w : Int), av = [(27, 0), (0, N), (0, w)] ∧ (InR N ∧ InR w ∧ xA σ ∧ σ 16 6 ≤ 1000 ∧ (¬ (0 < pcnt σ 6 2 ∧ 1 ≤ N ∧ N ≤ 4 ∧ 0 ≤ w ∧ w ≤ 1) → Q (0, -1) σ) ∧ (0 < pcnt σ 6 2 ∧ 1 ≤ N ∧ N ≤ 4 ∧ 0 ≤ w ∧ w ≤ 1 → (∀ (k : Nat) r m υ β, (k : Int) < N → bnX k σ r m υ → bst υ = -1 → SF υ β → SA σ β → Q (0, -1) β) ∧ ∀ r m τ, bnX N.toNat σ r m τ → SA σ τ → Q (0, if w = 0 then r else m) τ))
theorem w_X11_borne_e (N : Int) (w : Int) (σ : Mem) (Q : AV → Mem → Prop) : w_X11_borne [(27, 0), (0, N), (0, w)] σ Q = (InR N ∧ InR w ∧ xA σ ∧ σ 16 6 ≤ 1000 ∧ (¬ (0 < pcnt σ 6 2 ∧ 1 ≤ N ∧ N ≤ 4 ∧ 0 ≤ w ∧ w ≤ 1) → Q (0, -1) σ) ∧ (0 < pcnt σ 6 2 ∧ 1 ≤ N ∧ N ≤ 4 ∧ 0 ≤ w ∧ w ≤ 1 → (∀ (k : Nat) r m υ β, (k : Int) < N → bnX k σ r m υ → bst υ = -1 → SF υ β → SA σ β → Q (0, -1) β) ∧ ∀ r m τ, bnX N.toNat σ r m τ → SA σ τ → Q (0, if w = 0 then r else m) τ)) := by
  apply propext; constructor
  · rintro ⟨N', w', h9, hb9⟩; cases h9; exact hb9
  · intro hb9; exact ⟨N, w, rfl, hb9⟩

set_option maxRecDepth 100000 in
set_option maxHeartbeats 4000000 in
theorem s_X11_borne : ∀ av σ Q, w_X11_borne av σ Q → amCall 7 0 0 TT yX11_borne cX11_borne 7 (some .int) av σ Q := by
  rintro av σ Q ⟨N, w, rfl, hN, hw, hx, hev, h1, h2⟩
  have hB0 := hx.1.1.2.1
  have hev0 := hx.1.1.2.2.2.2.1
  have c20 := pcnt_b hB0 2
  refine am_m [50] (inv_bor σ N w) (own := RX11) (A := look a_X11_borne) (fun X e1 e2 hB => o_X11_borne e1 e2 hB) rfl (by decide +kernel) rfl rfl ?_ ⟨90, ?_⟩ (w := 7)
  · rintro n pc ls st σ' ⟨rfl, rfl, cc, k, r, m, v6, rfl, hk, hbn, hx', hA, h6⟩
    obtain ⟨f1, f2⟩ := h2 cc
    obtain ⟨hst, hse, h9, hsi, hmi, hte, hpr, hmo⟩ := id hx'
    have hB := hst.2.1
    have c1 := pcnt_b hB 1
    have mvb : ∀ p, 0 ≤ bMv σ' p ∧ bMv σ' p ≤ 6000 := fun p => by
      have c2 := pcnt_b hB 2
      have := sumC_b (f := pFl σ' 21 p) (c := 891) (n := (pcnt σ' 6 2).toNat) (fun j j0 j1 => pFl_b (a := 21) hB (h9 p) j0 (by omega))
      unfold bMv; omega
    have bb := bbR_b (ob := bOb σ') mvb (pcnt σ' 6 1).toNat
    have e1 : (21 : Int) + 2 = 23 := rfl
    have e2 : (21 : Int) + 4 = 25 := rfl
    refine ⟨120, ?_⟩
    simp only [↓reduceIte, inR_0, inR_1, inR_m, vSw2_e, swP_n, swP_c, vI_e, vL_e, vNull_e, vIload_e, vLload_e, vAload_e, vIstore_e, vLstore_e, vAstore_e, vIinc_e, vIadd_e, vIsub_e, vImul_e, vIand_e, vIor_e, vIxor_e, vIshl_e, vIshr_e, vIushr_e, vIdiv_e, vIrem_e, vLadd_e, vLsub_e, vLmul_e, vLand_e, vLor_e, vLxor_e, vLdiv_e, vLrem_e, vLushr_e, vLshl_e, vLcmp_e, vIneg_e, vI2l_e, vL2i_e, vI2b_e, vI2c_e, vDup_e, vPop_e, vDup2_e, vGoto_e, vIcEq_e, vIfEq_e, vIcNe_e, vIfNe_e, vIcLt_e, vIfLt_e, vIcGe_e, vIfGe_e, vIcGt_e, vIfGt_e, vIcLe_e, vIfLe_e, vNonnull_e, vSw_e, vGetI_e, vGetL_e, vGetR_e, vPutI_e, vPutZ_e, vPutL_e, vPutR_e, vIald_e, vIald_s, vLald_e, vBald_e, vBald_s, vAald_e, vIast_e, vLast_e, vBast_e, vAast_e, vAlen_e8, vAlen_e9, vAlen_e10, vAlen_e11, vAlen_e5, vAlen_e3, vGets_e, vCompact_e, vLdcS_e, vIret_e, vZret_e, vCret_e, vBret_e, vLret_e, vVret_e, vAret_e, vCallM_e0, vCallMV_e0, vCallS_e0, vCallSV_e0, vCallM_e1, vCallMV_e1, vCallS_e1, vCallSV_e1, vCallM_e2, vCallMV_e2, vCallS_e2, vCallSV_e2, vCallM_e3, vCallMV_e3, vCallS_e3, vCallSV_e3, vCallM_e4, vCallMV_e4, vCallS_e4, vCallSV_e4, vCallM_e5, vCallMV_e5, vCallS_e5, vCallSV_e5, vCallM_e6, vCallMV_e6, vCallS_e6, vCallSV_e6, vCallM_e7, vCallMV_e7, vCallS_e7, vCallSV_e7, vBad_e, vStrVal_e, vStrCod_e, vForm_e, vCallT_e0, vCallT_e1, vCallT_e2, vCopy_e, rf_0_0, rf_0_1, rf_0_2, rf_0_3, rf_0_4, rf_0_7, rf_0_10, rf_0_11, rf_0_12, rf_0_13, rf_0_14, rf_0_15, rf_0_16, rf_1_0, rf_3_0, rf_3_1, rf_6_0, rf_6_1, rf_9_0, rf_9_1, rf_9_3, rf_13_0, rf_13_1, rf_13_2, rf_16_0, rf_16_1, rf_16_2, rf_16_3, rf_21_0, rf_21_1, rf_21_2, rf_21_3, rf_26_0, rf_26_1, rf_26_2, rf_26_3, rf_26_4, rf_26_5, rf_26_6, rf_31_0, rf_31_2, rf_31_5, rf_31_6, rf_36_0, rf_36_1, rf_36_2, rf_36_3, rf_39_0, rf_39_1, rf_39_2, rf_41_0, rf_41_1, rf_41_2, rf_41_3, rf_5000_1, rf_5000_2, rf_5000_3, rf_5000_4, rf_5000_5, rf_5000_15, rf_5000_16, rf_5000_18, rf_5000_19, rf_5000_20, rf_5000_21, rf_5000_22, rf_5000_23, rf_5000_24, rf_5000_25, rf_5000_26, rf_5000_27, rf_5000_36, rf_5000_37, rf_5000_40, rf_5000_41, rf_5000_42, rf_5000_43, rf_5000_44, rf_5000_45, rf_5000_47, rf_5000_52, rf_5000_54, rf_5000_55, rf_100_0, rf_100_1, rf_103_0, rf_103_1, rf_106_0, rf_106_1, rf_109_0, rf_109_1, al_2, al_4, al_5, al_7, al_8, al_10, al_11, al_12, al_14, al_15, al_17, al_18, al_19, al_20, al_22, al_23, al_24, al_25, al_27, al_28, al_29, al_30, al_32, al_33, al_34, al_35, al_37, al_38, al_40, al_42, al_5001, al_5002, al_5003, al_5004, al_5005, al_5006, al_5007, al_5008, al_5009, al_5010, al_5011, al_5012, al_5013, al_5014, al_5015, al_5016, al_5017, al_5018, al_5019, al_5020, al_5021, al_5022, al_5023, al_5024, al_5025, al_5026, al_9000, al_101, al_102, al_104, al_105, al_107, al_108, al_110, al_111, vcs_e, lg_c0, lg_cs, lg_nil, set_c0, set_cs, okst_0, okst_s, acok_n, acok_c, List.contains_nil, List.contains_cons, Bool.or_false, Bool.false_or, Bool.false_eq_true, if_false, if_true, ite_self, ne_eq, true_and, and_true, not_false_eq_true, not_true_eq_false, false_imp_iff, true_imp_iff, Nat.ble_eq, Bool.and_eq_true, reduceCtorEq, or_false, false_or, or_true, true_or, false_and, and_false, and_self, Int.reduceLE, Int.reduceAdd, Int.reduceSub, Int.reduceMul, Int.reduceNeg, Int.reduceLT, Int.reduceEq, Int.reduceNe, Nat.reduceBEq, Nat.reduceBNe, Nat.reduceEqDiff, amCmp_in, amCmp_lt, amCmp_le, amCmp_gt, amCmp_ge, amCmp_eq, amCmp_ne, Nat.reduceLeDiff, Nat.reduceSub, Bool.and_true, Bool.true_and, Bool.and_self, Bool.or_true, Bool.true_or, isRf_3, isRf_4, isRf_5, isRf_8, isRf_9, isRf_10, isRf_11, isRf_15, isRf_16, isRf_17, isRf_18, isRf_19, isRf_20, isRf_21, isRf_22, isRf_23, isRf_24, isRf_25, isRf_26, isRf_27, isRf_28, k_X11_borne_0, k_X11_borne_1, k_X11_borne_4, k_X11_borne_7, k_X11_borne_10, k_X11_borne_11, k_X11_borne_12, k_X11_borne_15, k_X11_borne_16, k_X11_borne_17, k_X11_borne_20, k_X11_borne_21, k_X11_borne_24, k_X11_borne_25, k_X11_borne_26, k_X11_borne_29, k_X11_borne_30, k_X11_borne_31, k_X11_borne_32, k_X11_borne_35, k_X11_borne_36, k_X11_borne_39, k_X11_borne_42, k_X11_borne_43, k_X11_borne_44, k_X11_borne_45, k_X11_borne_47, k_X11_borne_48, k_X11_borne_50, k_X11_borne_52, k_X11_borne_53, k_X11_borne_56, k_X11_borne_57, k_X11_borne_60, k_X11_borne_62, k_X11_borne_64, k_X11_borne_65, k_X11_borne_68, k_X11_borne_69, k_X11_borne_70, k_X11_borne_72, k_X11_borne_73, k_X11_borne_76, k_X11_borne_77, k_X11_borne_80, k_X11_borne_82, k_X11_borne_85, k_X11_borne_86, k_X11_borne_88, k_X11_borne_90, k_X11_borne_91, k_X11_borne_92, k_X11_borne_94, k_X11_borne_95, k_X11_borne_96, k_X11_borne_99, k_X11_borne_102, k_X11_borne_103, k_X11_borne_106, k_X11_borne_107, k_X11_borne_110, k_X11_borne_112, w_X0_copyFrom_e, w_X11_bestBorne_e, w_X6_isTold_e, w_X9_show_e, e1, e2]
    by_cases hlt : (k : Int) < N
    · have eb : (bbR (bMv σ') (bOb σ') (pcnt σ' 6 1).toNat).1 = bst σ' := rfl
      simp only [eb] at bb ⊢
      refine ⟨⟨by omega, by omega⟩, hN, fun g => by omega, fun _ => ⟨hst, hse, h9, hsi, fun β hβ => ?_⟩⟩
      have hxb := xP_SF hβ hx'
      obtain ⟨bst1, bse, b9, bsi, bmi, bte, bpr, bmo⟩ := id hxb
      have hSAb : SA σ β := SA_tr hA (SW_SA (SF_SW hβ))
      have b9p := b9 (bst σ')
      have hte' : ∀ i, 0 ≤ i → i < pcnt β 6 2 → (0 ≤ β 23 i ∧ β 23 i < pcnt β 6 3) ∧ 0 ≤ β 25 i ∧ β 25 i ≤ 9999 := fun i i0 i1 => ⟨bsi i i0 i1, bte i i0 i1⟩
      by_cases cb : bst σ' = -1
      · have hh := f1 k r m σ' β hlt hbn cb hβ hSAb
        repeat' (first | assumption | apply And.intro | intro _)
        all_goals first | omega | exact absurd trivial (by assumption) | exact hh
      · have b6 : β 21 6 = σ' 21 6 := by rw [SF_r hβ (b := 21) (by omega)]
        have i9 : ∀ τ, shP β τ 21 (bst σ') → ∃ k', k' < n ∧ inv_bor σ N w k' 50 [(27, 0), (0, N), (0, w), (0, 10 * r + bst σ'), (0, m + sumC (pFl β 21 (bst σ')) (pcnt β 6 2).toNat), (0, (k : Int) + 1), (0, bst σ')] [] τ := fun τ hτ => by
          obtain ⟨x1, x2⟩ := shA_x hxb (by omega) hτ
          have v6 : τ 21 6 = β 21 6 + 1 := by rw [hτ.2.2.1 6, if_neg (by decide), if_pos rfl]
          exact ⟨n - 1, by omega, rfl, rfl, cc, k + 1, _, _, _, rfl, by omega, ⟨σ', r, m, β, hbn, hβ, cb, hτ, rfl, rfl⟩, x1, SA_tr hSAb x2, by omega⟩
        repeat' (first | assumption | apply And.intro | intro _)
        all_goals first | omega | exact absurd trivial (by assumption) | exact i9 _ (by assumption)
    · have hh := f2 r m σ' (by rw [show N.toNat = k by omega]; exact hbn) hA
      by_cases w0 : w = 0
      · rw [if_pos w0] at hh
        repeat' (first | assumption | apply And.intro | intro _)
        all_goals first | omega | exact absurd trivial (by assumption) | exact hh
      · rw [if_neg w0] at hh
        repeat' (first | assumption | apply And.intro | intro _)
        all_goals first | omega | exact absurd trivial (by assumption) | exact hh
  · change vcs _ _ _ _ 90 0 [(27, 0), (0, N), (0, w), (6, 0), (6, 0), (6, 0), (6, 0)] [] σ
    simp only [↓reduceIte, inR_0, inR_1, inR_m, vSw2_e, swP_n, swP_c, vI_e, vL_e, vNull_e, vIload_e, vLload_e, vAload_e, vIstore_e, vLstore_e, vAstore_e, vIinc_e, vIadd_e, vIsub_e, vImul_e, vIand_e, vIor_e, vIxor_e, vIshl_e, vIshr_e, vIushr_e, vIdiv_e, vIrem_e, vLadd_e, vLsub_e, vLmul_e, vLand_e, vLor_e, vLxor_e, vLdiv_e, vLrem_e, vLushr_e, vLshl_e, vLcmp_e, vIneg_e, vI2l_e, vL2i_e, vI2b_e, vI2c_e, vDup_e, vPop_e, vDup2_e, vGoto_e, vIcEq_e, vIfEq_e, vIcNe_e, vIfNe_e, vIcLt_e, vIfLt_e, vIcGe_e, vIfGe_e, vIcGt_e, vIfGt_e, vIcLe_e, vIfLe_e, vNonnull_e, vSw_e, vGetI_e, vGetL_e, vGetR_e, vPutI_e, vPutZ_e, vPutL_e, vPutR_e, vIald_e, vIald_s, vLald_e, vBald_e, vBald_s, vAald_e, vIast_e, vLast_e, vBast_e, vAast_e, vAlen_e8, vAlen_e9, vAlen_e10, vAlen_e11, vAlen_e5, vAlen_e3, vGets_e, vCompact_e, vLdcS_e, vIret_e, vZret_e, vCret_e, vBret_e, vLret_e, vVret_e, vAret_e, vCallM_e0, vCallMV_e0, vCallS_e0, vCallSV_e0, vCallM_e1, vCallMV_e1, vCallS_e1, vCallSV_e1, vCallM_e2, vCallMV_e2, vCallS_e2, vCallSV_e2, vCallM_e3, vCallMV_e3, vCallS_e3, vCallSV_e3, vCallM_e4, vCallMV_e4, vCallS_e4, vCallSV_e4, vCallM_e5, vCallMV_e5, vCallS_e5, vCallSV_e5, vCallM_e6, vCallMV_e6, vCallS_e6, vCallSV_e6, vCallM_e7, vCallMV_e7, vCallS_e7, vCallSV_e7, vBad_e, vStrVal_e, vStrCod_e, vForm_e, vCallT_e0, vCallT_e1, vCallT_e2, vCopy_e, rf_0_0, rf_0_1, rf_0_2, rf_0_3, rf_0_4, rf_0_7, rf_0_10, rf_0_11, rf_0_12, rf_0_13, rf_0_14, rf_0_15, rf_0_16, rf_1_0, rf_3_0, rf_3_1, rf_6_0, rf_6_1, rf_9_0, rf_9_1, rf_9_3, rf_13_0, rf_13_1, rf_13_2, rf_16_0, rf_16_1, rf_16_2, rf_16_3, rf_21_0, rf_21_1, rf_21_2, rf_21_3, rf_26_0, rf_26_1, rf_26_2, rf_26_3, rf_26_4, rf_26_5, rf_26_6, rf_31_0, rf_31_2, rf_31_5, rf_31_6, rf_36_0, rf_36_1, rf_36_2, rf_36_3, rf_39_0, rf_39_1, rf_39_2, rf_41_0, rf_41_1, rf_41_2, rf_41_3, rf_5000_1, rf_5000_2, rf_5000_3, rf_5000_4, rf_5000_5, rf_5000_15, rf_5000_16, rf_5000_18, rf_5000_19, rf_5000_20, rf_5000_21, rf_5000_22, rf_5000_23, rf_5000_24, rf_5000_25, rf_5000_26, rf_5000_27, rf_5000_36, rf_5000_37, rf_5000_40, rf_5000_41, rf_5000_42, rf_5000_43, rf_5000_44, rf_5000_45, rf_5000_47, rf_5000_52, rf_5000_54, rf_5000_55, rf_100_0, rf_100_1, rf_103_0, rf_103_1, rf_106_0, rf_106_1, rf_109_0, rf_109_1, al_2, al_4, al_5, al_7, al_8, al_10, al_11, al_12, al_14, al_15, al_17, al_18, al_19, al_20, al_22, al_23, al_24, al_25, al_27, al_28, al_29, al_30, al_32, al_33, al_34, al_35, al_37, al_38, al_40, al_42, al_5001, al_5002, al_5003, al_5004, al_5005, al_5006, al_5007, al_5008, al_5009, al_5010, al_5011, al_5012, al_5013, al_5014, al_5015, al_5016, al_5017, al_5018, al_5019, al_5020, al_5021, al_5022, al_5023, al_5024, al_5025, al_5026, al_9000, al_101, al_102, al_104, al_105, al_107, al_108, al_110, al_111, vcs_e, lg_c0, lg_cs, lg_nil, set_c0, set_cs, okst_0, okst_s, acok_n, acok_c, List.contains_nil, List.contains_cons, Bool.or_false, Bool.false_or, Bool.false_eq_true, if_false, if_true, ite_self, ne_eq, true_and, and_true, not_false_eq_true, not_true_eq_false, false_imp_iff, true_imp_iff, Nat.ble_eq, Bool.and_eq_true, reduceCtorEq, or_false, false_or, or_true, true_or, false_and, and_false, and_self, Int.reduceLE, Int.reduceAdd, Int.reduceSub, Int.reduceMul, Int.reduceNeg, Int.reduceLT, Int.reduceEq, Int.reduceNe, Nat.reduceBEq, Nat.reduceBNe, Nat.reduceEqDiff, amCmp_in, amCmp_lt, amCmp_le, amCmp_gt, amCmp_ge, amCmp_eq, amCmp_ne, Nat.reduceLeDiff, Nat.reduceSub, Bool.and_true, Bool.true_and, Bool.and_self, Bool.or_true, Bool.true_or, isRf_3, isRf_4, isRf_5, isRf_8, isRf_9, isRf_10, isRf_11, isRf_15, isRf_16, isRf_17, isRf_18, isRf_19, isRf_20, isRf_21, isRf_22, isRf_23, isRf_24, isRf_25, isRf_26, isRf_27, isRf_28, k_X11_borne_0, k_X11_borne_1, k_X11_borne_4, k_X11_borne_7, k_X11_borne_10, k_X11_borne_11, k_X11_borne_12, k_X11_borne_15, k_X11_borne_16, k_X11_borne_17, k_X11_borne_20, k_X11_borne_21, k_X11_borne_24, k_X11_borne_25, k_X11_borne_26, k_X11_borne_29, k_X11_borne_30, k_X11_borne_31, k_X11_borne_32, k_X11_borne_35, k_X11_borne_36, k_X11_borne_39, k_X11_borne_42, k_X11_borne_43, k_X11_borne_44, k_X11_borne_45, k_X11_borne_47, k_X11_borne_48, k_X11_borne_50, k_X11_borne_52, k_X11_borne_53, k_X11_borne_56, k_X11_borne_57, k_X11_borne_60, k_X11_borne_62, k_X11_borne_64, k_X11_borne_65, k_X11_borne_68, k_X11_borne_69, k_X11_borne_70, k_X11_borne_72, k_X11_borne_73, k_X11_borne_76, k_X11_borne_77, k_X11_borne_80, k_X11_borne_82, k_X11_borne_85, k_X11_borne_86, k_X11_borne_88, k_X11_borne_90, k_X11_borne_91, k_X11_borne_92, k_X11_borne_94, k_X11_borne_95, k_X11_borne_96, k_X11_borne_99, k_X11_borne_102, k_X11_borne_103, k_X11_borne_106, k_X11_borne_107, k_X11_borne_110, k_X11_borne_112, w_X0_copyFrom_e, w_X11_bestBorne_e, w_X6_isTold_e, w_X9_show_e]
    obtain ⟨ax1, ax2⟩ := ap_x hx
    have a6 : apM σ 21 6 = σ 16 6 := (apM_r σ).2.2.2
    by_cases d2 : 0 < pcnt σ 6 2
    · rw [if_pos d2]
      by_cases d3 : 1 ≤ N ∧ N ≤ 4 ∧ 0 ≤ w ∧ w ≤ 1
      · have i9 : ∃ k', inv_bor σ N w k' 50 [(27, 0), (0, N), (0, w), (0, 0), (0, 0), (0, 0), (6, 0)] [] (setAud σ 21 (aud σ 16)) := ⟨N.toNat, rfl, rfl, ⟨d2, d3⟩, 0, 0, 0, _, rfl, by omega, ⟨rfl, rfl, rfl⟩, ax1, ax2, by show apM σ 21 6 = _; rw [a6]; omega⟩
        repeat' (first | assumption | apply And.intro | intro _)
        all_goals first | omega | exact absurd trivial (by assumption) | exact isP6 | exact i9
      · have hh := h1 (fun q => d3 q.2)
        repeat' (first | assumption | apply And.intro | intro _)
        all_goals first | omega | exact absurd trivial (by assumption) | exact isP6 | exact hh
    · rw [if_neg d2]
      have hh := h1 (fun q => d2 q.1)
      repeat' (first | assumption | apply And.intro | intro _)
      all_goals first | omega | exact absurd trivial (by assumption) | exact isP6 | exact hh
