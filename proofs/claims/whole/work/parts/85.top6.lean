/-! ArmchairHouse: HALVES, MEANT, HARDENS -/
noncomputable def srR (P : Int → Prop) (val : Int → Int) (i : Int) : Nat → Int → Int → Int
  | 0, _, c => if i = -1 then c else -1
  | n + 1, k, c => @ite Int (P k) (Classical.propDecidable _) (if c = i then val k else srR P val i n (k + 1) (c + 1)) (srR P val i n (k + 1) c)
theorem srR_t {P : Int → Prop} {val : Int → Int} {i : Int} {n : Nat} {k c : Int} (h : P k) : srR P val i (n + 1) k c = if c = i then val k else srR P val i n (k + 1) (c + 1) := by rw [srR]; exact if_pos h
theorem srR_f {P : Int → Prop} {val : Int → Int} {i : Int} {n : Nat} {k c : Int} (h : ¬ P k) : srR P val i (n + 1) k c = srR P val i n (k + 1) c := by rw [srR]; exact if_neg h
theorem bt_lt {k i : Int} {m : Nat} (hm : m ≤ 6) (h0 : 0 ≤ k) (h1 : k < 2 ^ m) (i0 : 0 ≤ i) (i1 : i < 6) (hb : bt k i = 1) : i < m := by
  by_cases c : i < m
  · exact c
  · have hk : k.toNat < 2 ^ m := by
      have : ((k.toNat : Nat) : Int) < ((2 ^ m : Nat) : Int) := by rw [Int.natCast_pow, Int.toNat_of_nonneg h0]; exact h1
      omega
    have := bt_ge0 m hm k.toNat hk i.toNat (by omega) (by omega)
    rw [show ((k.toNat : Nat) : Int) = k by omega, show ((i.toNat : Nat) : Int) = i by omega] at this
    omega
theorem p2n (m : Nat) : (((2 : Nat) ^ m : Nat) : Int) = (2 : Int) ^ m := Int.natCast_pow 2 m
theorem p2_6 {m : Nat} (h : m ≤ 6) : 1 ≤ (2 : Int) ^ m ∧ (2 : Int) ^ m ≤ 64 := by
  have := full_64 h
  have h3 : (0 : Int) < 2 ^ m := Int.pow_pos (by decide)
  omega

def a_X11_halves : AC := [(0, vAload 0 1), (1, vGetR TT 27 2 22 4), (4, vI 1 5), (5, vIload 1 6), (6, vCallM w_X6_has 22 2 9), (9, vIfEq 28 12), (12, vIload 2 13), (13, vIfLt 28 16), (16, vIload 2 17), (17, vI 999 20), (20, vIcGt 28 23), (23, vIload 3 24), (24, vI (-1) 25), (25, vIcGe 30 28), (28, vI (-1) 29), (29, vIret), (30, vAload 0 31), (31, vGetR TT 27 12 25 34), (34, vAload 0 35), (35, vGetR TT 27 10 16 38), (38, vIload 1 39), (39, vCallMV w_X9_playAll 25 2 42), (42, vI 0 43), (43, vIstore 4 45), (45, vI 0 46), (46, vIstore 5 48), (48, vIload 5 50), (50, vAload 0 51), (51, vGetR TT 27 2 22 54), (54, vCallM w_X6_everyChair 22 0 57), (57, vIcGt 94 60), (60, vAload 0 61), (61, vGetR TT 27 12 25 64), (64, vGetR TT 25 4 8 67), (67, vIload 5 69), (69, vCallS w_X11_sumOver 2 72), (72, vIload 2 73), (73, vIcNe 88 76), (76, vIload 4 78), (78, vIload 3 79), (79, vIcNe 85 82), (82, vIload 5 84), (84, vIret), (85, vIinc 4 1 88), (88, vIinc 5 1 91), (91, vGoto 48), (94, vIload 3 95), (95, vI (-1) 96), (96, vIcNe 104 99), (99, vIload 4 101), (101, vGoto 105), (104, vI (-1) 105), (105, vIret)]
theorem k_X11_halves_0 : look a_X11_halves 0 = vAload 0 1 := rfl
theorem k_X11_halves_1 : look a_X11_halves 1 = vGetR TT 27 2 22 4 := rfl
theorem k_X11_halves_4 : look a_X11_halves 4 = vI 1 5 := rfl
theorem k_X11_halves_5 : look a_X11_halves 5 = vIload 1 6 := rfl
theorem k_X11_halves_6 : look a_X11_halves 6 = vCallM w_X6_has 22 2 9 := rfl
theorem k_X11_halves_9 : look a_X11_halves 9 = vIfEq 28 12 := rfl
theorem k_X11_halves_12 : look a_X11_halves 12 = vIload 2 13 := rfl
theorem k_X11_halves_13 : look a_X11_halves 13 = vIfLt 28 16 := rfl
theorem k_X11_halves_16 : look a_X11_halves 16 = vIload 2 17 := rfl
theorem k_X11_halves_17 : look a_X11_halves 17 = vI 999 20 := rfl
theorem k_X11_halves_20 : look a_X11_halves 20 = vIcGt 28 23 := rfl
theorem k_X11_halves_23 : look a_X11_halves 23 = vIload 3 24 := rfl
theorem k_X11_halves_24 : look a_X11_halves 24 = vI (-1) 25 := rfl
theorem k_X11_halves_25 : look a_X11_halves 25 = vIcGe 30 28 := rfl
theorem k_X11_halves_28 : look a_X11_halves 28 = vI (-1) 29 := rfl
theorem k_X11_halves_29 : look a_X11_halves 29 = vIret := rfl
theorem k_X11_halves_30 : look a_X11_halves 30 = vAload 0 31 := rfl
theorem k_X11_halves_31 : look a_X11_halves 31 = vGetR TT 27 12 25 34 := rfl
theorem k_X11_halves_34 : look a_X11_halves 34 = vAload 0 35 := rfl
theorem k_X11_halves_35 : look a_X11_halves 35 = vGetR TT 27 10 16 38 := rfl
theorem k_X11_halves_38 : look a_X11_halves 38 = vIload 1 39 := rfl
theorem k_X11_halves_39 : look a_X11_halves 39 = vCallMV w_X9_playAll 25 2 42 := rfl
theorem k_X11_halves_42 : look a_X11_halves 42 = vI 0 43 := rfl
theorem k_X11_halves_43 : look a_X11_halves 43 = vIstore 4 45 := rfl
theorem k_X11_halves_45 : look a_X11_halves 45 = vI 0 46 := rfl
theorem k_X11_halves_46 : look a_X11_halves 46 = vIstore 5 48 := rfl
theorem k_X11_halves_48 : look a_X11_halves 48 = vIload 5 50 := rfl
theorem k_X11_halves_50 : look a_X11_halves 50 = vAload 0 51 := rfl
theorem k_X11_halves_51 : look a_X11_halves 51 = vGetR TT 27 2 22 54 := rfl
theorem k_X11_halves_54 : look a_X11_halves 54 = vCallM w_X6_everyChair 22 0 57 := rfl
theorem k_X11_halves_57 : look a_X11_halves 57 = vIcGt 94 60 := rfl
theorem k_X11_halves_60 : look a_X11_halves 60 = vAload 0 61 := rfl
theorem k_X11_halves_61 : look a_X11_halves 61 = vGetR TT 27 12 25 64 := rfl
theorem k_X11_halves_64 : look a_X11_halves 64 = vGetR TT 25 4 8 67 := rfl
theorem k_X11_halves_67 : look a_X11_halves 67 = vIload 5 69 := rfl
theorem k_X11_halves_69 : look a_X11_halves 69 = vCallS w_X11_sumOver 2 72 := rfl
theorem k_X11_halves_72 : look a_X11_halves 72 = vIload 2 73 := rfl
theorem k_X11_halves_73 : look a_X11_halves 73 = vIcNe 88 76 := rfl
theorem k_X11_halves_76 : look a_X11_halves 76 = vIload 4 78 := rfl
theorem k_X11_halves_78 : look a_X11_halves 78 = vIload 3 79 := rfl
theorem k_X11_halves_79 : look a_X11_halves 79 = vIcNe 85 82 := rfl
theorem k_X11_halves_82 : look a_X11_halves 82 = vIload 5 84 := rfl
theorem k_X11_halves_84 : look a_X11_halves 84 = vIret := rfl
theorem k_X11_halves_85 : look a_X11_halves 85 = vIinc 4 1 88 := rfl
theorem k_X11_halves_88 : look a_X11_halves 88 = vIinc 5 1 91 := rfl
theorem k_X11_halves_91 : look a_X11_halves 91 = vGoto 48 := rfl
theorem k_X11_halves_94 : look a_X11_halves 94 = vIload 3 95 := rfl
theorem k_X11_halves_95 : look a_X11_halves 95 = vI (-1) 96 := rfl
theorem k_X11_halves_96 : look a_X11_halves 96 = vIcNe 104 99 := rfl
theorem k_X11_halves_99 : look a_X11_halves 99 = vIload 4 101 := rfl
theorem k_X11_halves_101 : look a_X11_halves 101 = vGoto 105 := rfl
theorem k_X11_halves_104 : look a_X11_halves 104 = vI (-1) 105 := rfl
theorem k_X11_halves_105 : look a_X11_halves 105 = vIret := rfl
theorem o_X11_halves {X : amX} (e1 : XT X = TT) (e2 : XD X = 6) (hB : amB X RX11 cX11_halves (some .int) 6) : ∀ pc, amOK X pc (look a_X11_halves pc) := by
  have hT : amTok (XT X) := e1 ▸ TT_ok
  refine look_ok ?_
  unfold a_X11_halves
  refine fc (ok_aload_n hB dX11_halves_0) ?_
  refine fc (okt_getR e1 hB hT fl_X11_23 rfl af_11_2 at_11_2 (by decide) dX11_halves_1) ?_
  refine fc (ok_iconst hB dX11_halves_4) ?_
  refine fc (ok_iload_n hB dX11_halves_5) ?_
  refine fc (ok_callM hB hT (e1 ▸ s_X6_has) lk_X11_174 (by rw [e2]; decide) (c := 6) rfl rfl rfl wd_729 wd_730 dX11_halves_6) ?_
  refine fc (ok_if_eq hB (t := 28) (by decide) dX11_halves_9) ?_
  refine fc (ok_iload_n hB dX11_halves_12) ?_
  refine fc (ok_if_lt hB (t := 28) (by decide) dX11_halves_13) ?_
  refine fc (ok_iload_n hB dX11_halves_16) ?_
  refine fc (ok_sipush hB dX11_halves_17 (by decide)) ?_
  refine fc (ok_icmp_gt hB (t := 28) (by decide) dX11_halves_20) ?_
  refine fc (ok_iload_n hB dX11_halves_23) ?_
  refine fc (ok_iconst hB dX11_halves_24) ?_
  refine fc (ok_icmp_ge hB (t := 30) (by decide) dX11_halves_25) ?_
  refine fc (ok_iconst hB dX11_halves_28) ?_
  refine fc (ok_iret hB dX11_halves_29) ?_
  refine fc (ok_aload_n hB dX11_halves_30) ?_
  refine fc (okt_getR e1 hB hT fl_X11_77 rfl af_11_12 at_11_12 (by decide) dX11_halves_31) ?_
  refine fc (ok_aload_n hB dX11_halves_34) ?_
  refine fc (okt_getR e1 hB hT fl_X11_65 rfl af_11_10 at_11_10 (by decide) dX11_halves_35) ?_
  refine fc (ok_iload_n hB dX11_halves_38) ?_
  refine fc (ok_callMV hB hT (e1 ▸ s_X9_playAll) lk_X11_297 (by rw [e2]; decide) (c := 9) rfl rfl rfl wd_776 wd_777 dX11_halves_39) ?_
  refine fc (ok_iconst hB dX11_halves_42) ?_
  refine fc (ok_istore hB (by decide) dX11_halves_43) ?_
  refine fc (ok_iconst hB dX11_halves_45) ?_
  refine fc (ok_istore hB (by decide) dX11_halves_46) ?_
  refine fc (ok_iload hB dX11_halves_48) ?_
  refine fc (ok_aload_n hB dX11_halves_50) ?_
  refine fc (okt_getR e1 hB hT fl_X11_23 rfl af_11_2 at_11_2 (by decide) dX11_halves_51) ?_
  refine fc (ok_callM hB hT (e1 ▸ s_X6_everyChair) lk_X11_327 (by rw [e2]; decide) (c := 6) rfl rfl rfl wd_850 wd_851 dX11_halves_54) ?_
  refine fc (ok_icmp_gt hB (t := 94) (by decide) dX11_halves_57) ?_
  refine fc (ok_aload_n hB dX11_halves_60) ?_
  refine fc (okt_getR e1 hB hT fl_X11_77 rfl af_11_12 at_11_12 (by decide) dX11_halves_61) ?_
  refine fc (okt_getR e1 hB hT fl_X11_291 rfl af_9_4 at_9_4 (by decide) dX11_halves_64) ?_
  refine fc (ok_iload hB dX11_halves_67) ?_
  refine fc (ok_callS hB (e1 ▸ s_X11_sumOver) lk_X11_330 (by rw [e2]; decide) wd_854 dX11_halves_69) ?_
  refine fc (ok_iload_n hB dX11_halves_72) ?_
  refine fc (ok_icmp_ne hB (t := 88) (by decide) dX11_halves_73) ?_
  refine fc (ok_iload hB dX11_halves_76) ?_
  refine fc (ok_iload_n hB dX11_halves_78) ?_
  refine fc (ok_icmp_ne hB (t := 85) (by decide) dX11_halves_79) ?_
  refine fc (ok_iload hB dX11_halves_82) ?_
  refine fc (ok_iret hB dX11_halves_84) ?_
  refine fc (ok_iinc hB (by decide) dX11_halves_85) ?_
  refine fc (ok_iinc hB (by decide) dX11_halves_88) ?_
  refine fc (ok_goto hB (t := 48) (by decide) dX11_halves_91) ?_
  refine fc (ok_iload_n hB dX11_halves_94) ?_
  refine fc (ok_iconst hB dX11_halves_95) ?_
  refine fc (ok_icmp_ne hB (t := 104) (by decide) dX11_halves_96) ?_
  refine fc (ok_iload hB dX11_halves_99) ?_
  refine fc (ok_goto hB (t := 105) (by decide) dX11_halves_101) ?_
  refine fc (ok_iconst hB dX11_halves_104) ?_
  refine fc (ok_iret hB dX11_halves_105) ?_
  exact fn
def inv_hal (σ : Mem) (p s i R N : Int) (n pc : Nat) (ls st : List AV) (σ' : Mem) : Prop := pc = 48 ∧ st = [] ∧ (0 ≤ p ∧ p < pcnt σ 6 1 ∧ 0 ≤ s ∧ s ≤ 999 ∧ -1 ≤ i) ∧ SF σ σ' ∧ (∀ j, 0 ≤ j → j < pcnt σ 6 2 → σ' 29 j = pFl σ 16 p j) ∧ ∃ k c : Int, ls = [(27, 0), (0, p), (0, s), (0, i), (0, c), (0, k)] ∧ 0 ≤ k ∧ k + n = N ∧ 0 ≤ c ∧ c ≤ k ∧ srR (fun k => sOv (pFl σ 16 p) k 6 = s) id i n k c = R
def w_X11_halves : WP := fun av σ Q => ∃ (p : Int) (s : Int) (i : Int), av = [(27, 0), (0, p), (0, s), (0, i)] ∧ (InR p ∧ InR s ∧ InR i ∧ xS σ ∧ (¬ (0 ≤ p ∧ p < pcnt σ 6 1 ∧ 0 ≤ s ∧ s ≤ 999 ∧ -1 ≤ i) → Q (0, -1) σ) ∧ (0 ≤ p ∧ p < pcnt σ 6 1 ∧ 0 ≤ s ∧ s ≤ 999 ∧ -1 ≤ i → ∀ τ, SW σ τ → Q (0, srR (fun k => sOv (pFl σ 16 p) k 6 = s) id i (2 ^ (pcnt σ 6 2).toNat) 0 0) τ))
theorem w_X11_halves_e (p : Int) (s : Int) (i : Int) (σ : Mem) (Q : AV → Mem → Prop) : w_X11_halves [(27, 0), (0, p), (0, s), (0, i)] σ Q = (InR p ∧ InR s ∧ InR i ∧ xS σ ∧ (¬ (0 ≤ p ∧ p < pcnt σ 6 1 ∧ 0 ≤ s ∧ s ≤ 999 ∧ -1 ≤ i) → Q (0, -1) σ) ∧ (0 ≤ p ∧ p < pcnt σ 6 1 ∧ 0 ≤ s ∧ s ≤ 999 ∧ -1 ≤ i → ∀ τ, SW σ τ → Q (0, srR (fun k => sOv (pFl σ 16 p) k 6 = s) id i (2 ^ (pcnt σ 6 2).toNat) 0 0) τ)) := by
  apply propext; constructor
  · rintro ⟨p', s', i', h9, hb9⟩; cases h9; exact hb9
  · intro hb9; exact ⟨p, s, i, rfl, hb9⟩

set_option maxRecDepth 100000 in
set_option maxHeartbeats 4000000 in
theorem s_X11_halves : ∀ av σ Q, w_X11_halves av σ Q → amCall 6 0 0 TT yX11_halves cX11_halves 6 (some .int) av σ Q := by
  rintro av σ Q ⟨p, s, i, rfl, hp, hs, hi, ⟨hst, hse, h9, hsi⟩, h1, h2⟩
  have hB := hst.2.1
  have c1 := pcnt_b hB 1
  have c2 := pcnt_b hB 2
  have e1 : (16 : Int) + 2 = 18 := rfl
  have h9p := h9 p
  have pw := p2_6 (m := (pcnt σ 6 2).toNat) (by omega)
  have pn := p2n (pcnt σ 6 2).toNat
  have bl : ∀ k j : Int, 0 ≤ k → k < 2 ^ (pcnt σ 6 2).toNat → 0 ≤ j → j < 6 → bt k j = 1 → j < pcnt σ 6 2 := fun k j k0 k1 j0 j1 j2 => by
    have := bt_lt (m := (pcnt σ 6 2).toNat) (by omega) k0 k1 j0 j1 j2
    omega
  generalize hN : (2 : Int) ^ (pcnt σ 6 2).toNat = N at *
  generalize hM : (2 : Nat) ^ (pcnt σ 6 2).toNat = M at *
  generalize hR : srR (fun k => sOv (pFl σ 16 p) k 6 = s) id i M 0 0 = R at *
  refine am_m [48] (inv_hal σ p s i R N) (own := RX11) (A := look a_X11_halves) (fun X e1 e2 hB => o_X11_halves e1 e2 hB) rfl (by decide +kernel) rfl rfl ?_ ⟨90, ?_⟩ (w := 6)
  · rintro n pc ls st σ' ⟨rfl, rfl, cc, hF, hf, k, c, rfl, hk0, hk, hc0, hc1, hr⟩
    have pc2 : pcnt σ' 6 2 = pcnt σ 6 2 := SF_pcnt hF 2
    have hq := h2 cc σ' (SF_SW hF)
    refine ⟨90, ?_⟩
    simp only [↓reduceIte, inR_0, inR_1, inR_m, vSw2_e, swP_n, swP_c, vI_e, vL_e, vNull_e, vIload_e, vLload_e, vAload_e, vIstore_e, vLstore_e, vAstore_e, vIinc_e, vIadd_e, vIsub_e, vImul_e, vIand_e, vIor_e, vIxor_e, vIshl_e, vIshr_e, vIushr_e, vIdiv_e, vIrem_e, vLadd_e, vLsub_e, vLmul_e, vLand_e, vLor_e, vLxor_e, vLdiv_e, vLrem_e, vLushr_e, vLshl_e, vLcmp_e, vIneg_e, vI2l_e, vL2i_e, vI2b_e, vI2c_e, vDup_e, vPop_e, vDup2_e, vGoto_e, vIcEq_e, vIfEq_e, vIcNe_e, vIfNe_e, vIcLt_e, vIfLt_e, vIcGe_e, vIfGe_e, vIcGt_e, vIfGt_e, vIcLe_e, vIfLe_e, vNonnull_e, vSw_e, vGetI_e, vGetL_e, vGetR_e, vPutI_e, vPutZ_e, vPutL_e, vPutR_e, vIald_e, vIald_s, vLald_e, vBald_e, vBald_s, vAald_e, vIast_e, vLast_e, vBast_e, vAast_e, vAlen_e8, vAlen_e9, vAlen_e10, vAlen_e11, vAlen_e5, vAlen_e3, vGets_e, vCompact_e, vLdcS_e, vIret_e, vZret_e, vCret_e, vBret_e, vLret_e, vVret_e, vAret_e, vCallM_e0, vCallMV_e0, vCallS_e0, vCallSV_e0, vCallM_e1, vCallMV_e1, vCallS_e1, vCallSV_e1, vCallM_e2, vCallMV_e2, vCallS_e2, vCallSV_e2, vCallM_e3, vCallMV_e3, vCallS_e3, vCallSV_e3, vCallM_e4, vCallMV_e4, vCallS_e4, vCallSV_e4, vCallM_e5, vCallMV_e5, vCallS_e5, vCallSV_e5, vCallM_e6, vCallMV_e6, vCallS_e6, vCallSV_e6, vCallM_e7, vCallMV_e7, vCallS_e7, vCallSV_e7, vBad_e, vStrVal_e, vStrCod_e, vForm_e, vCallT_e0, vCallT_e1, vCallT_e2, vCopy_e, rf_0_0, rf_0_1, rf_0_2, rf_0_3, rf_0_4, rf_0_7, rf_0_10, rf_0_11, rf_0_12, rf_0_13, rf_0_14, rf_0_15, rf_0_16, rf_1_0, rf_3_0, rf_3_1, rf_6_0, rf_6_1, rf_9_0, rf_9_1, rf_9_3, rf_13_0, rf_13_1, rf_13_2, rf_16_0, rf_16_1, rf_16_2, rf_16_3, rf_21_0, rf_21_1, rf_21_2, rf_21_3, rf_26_0, rf_26_1, rf_26_2, rf_26_3, rf_26_4, rf_26_5, rf_26_6, rf_31_0, rf_31_2, rf_31_5, rf_31_6, rf_36_0, rf_36_1, rf_36_2, rf_36_3, rf_39_0, rf_39_1, rf_39_2, rf_41_0, rf_41_1, rf_41_2, rf_41_3, rf_5000_1, rf_5000_2, rf_5000_3, rf_5000_4, rf_5000_5, rf_5000_15, rf_5000_16, rf_5000_18, rf_5000_19, rf_5000_20, rf_5000_21, rf_5000_22, rf_5000_23, rf_5000_24, rf_5000_25, rf_5000_26, rf_5000_27, rf_5000_36, rf_5000_37, rf_5000_40, rf_5000_41, rf_5000_42, rf_5000_43, rf_5000_44, rf_5000_45, rf_5000_47, rf_5000_52, rf_5000_54, rf_5000_55, rf_100_0, rf_100_1, rf_103_0, rf_103_1, rf_106_0, rf_106_1, rf_109_0, rf_109_1, al_2, al_4, al_5, al_7, al_8, al_10, al_11, al_12, al_14, al_15, al_17, al_18, al_19, al_20, al_22, al_23, al_24, al_25, al_27, al_28, al_29, al_30, al_32, al_33, al_34, al_35, al_37, al_38, al_40, al_42, al_5001, al_5002, al_5003, al_5004, al_5005, al_5006, al_5007, al_5008, al_5009, al_5010, al_5011, al_5012, al_5013, al_5014, al_5015, al_5016, al_5017, al_5018, al_5019, al_5020, al_5021, al_5022, al_5023, al_5024, al_5025, al_5026, al_9000, al_101, al_102, al_104, al_105, al_107, al_108, al_110, al_111, vcs_e, lg_c0, lg_cs, lg_nil, set_c0, set_cs, okst_0, okst_s, acok_n, acok_c, List.contains_nil, List.contains_cons, Bool.or_false, Bool.false_or, Bool.false_eq_true, if_false, if_true, ite_self, ne_eq, true_and, and_true, not_false_eq_true, not_true_eq_false, false_imp_iff, true_imp_iff, Nat.ble_eq, Bool.and_eq_true, reduceCtorEq, or_false, false_or, or_true, true_or, false_and, and_false, and_self, Int.reduceLE, Int.reduceAdd, Int.reduceSub, Int.reduceMul, Int.reduceNeg, Int.reduceLT, Int.reduceEq, Int.reduceNe, Nat.reduceBEq, Nat.reduceBNe, Nat.reduceEqDiff, amCmp_in, amCmp_lt, amCmp_le, amCmp_gt, amCmp_ge, amCmp_eq, amCmp_ne, Nat.reduceLeDiff, Nat.reduceSub, Bool.and_true, Bool.true_and, Bool.and_self, Bool.or_true, Bool.true_or, isRf_3, isRf_4, isRf_5, isRf_8, isRf_9, isRf_10, isRf_11, isRf_15, isRf_16, isRf_17, isRf_18, isRf_19, isRf_20, isRf_21, isRf_22, isRf_23, isRf_24, isRf_25, isRf_26, isRf_27, isRf_28, k_X11_halves_0, k_X11_halves_1, k_X11_halves_4, k_X11_halves_5, k_X11_halves_6, k_X11_halves_9, k_X11_halves_12, k_X11_halves_13, k_X11_halves_16, k_X11_halves_17, k_X11_halves_20, k_X11_halves_23, k_X11_halves_24, k_X11_halves_25, k_X11_halves_28, k_X11_halves_29, k_X11_halves_30, k_X11_halves_31, k_X11_halves_34, k_X11_halves_35, k_X11_halves_38, k_X11_halves_39, k_X11_halves_42, k_X11_halves_43, k_X11_halves_45, k_X11_halves_46, k_X11_halves_48, k_X11_halves_50, k_X11_halves_51, k_X11_halves_54, k_X11_halves_57, k_X11_halves_60, k_X11_halves_61, k_X11_halves_64, k_X11_halves_67, k_X11_halves_69, k_X11_halves_72, k_X11_halves_73, k_X11_halves_76, k_X11_halves_78, k_X11_halves_79, k_X11_halves_82, k_X11_halves_84, k_X11_halves_85, k_X11_halves_88, k_X11_halves_91, k_X11_halves_94, k_X11_halves_95, k_X11_halves_96, k_X11_halves_99, k_X11_halves_101, k_X11_halves_104, k_X11_halves_105, w_X11_sumOver_e, w_X6_everyChair_e, w_X6_has_e, w_X9_playAll_e, pc2, hN]
    cases n with
    | zero =>
      rw [srR] at hr
      by_cases ci : i = -1
      · rw [if_pos ci] at hr
        rw [← hr] at hq
        repeat' (first | assumption | apply And.intro | intro _)
        all_goals first | omega | exact absurd trivial (by assumption) | exact isP6 | exact hq
      · rw [if_neg ci] at hr
        rw [← hr] at hq
        repeat' (first | assumption | apply And.intro | intro _)
        all_goals first | omega | exact absurd trivial (by assumption) | exact isP6 | exact hq
    | succ n =>
      have ev : sOv (σ' 29) k 6 = sOv (pFl σ 16 p) k 6 := sOv_cong 6 (fun j j0 j1 j2 => hf j j0 (bl k j hk0 (by omega) j0 (by omega) j2))
      have sb := sOv_b (f := pFl σ 16 p) (S := k) (c := 891) (by omega) 6 (fun j j0 j1 _ => pFl_b (a := 16) hB h9p j0 (by omega))
      have nx : ∀ c', 0 ≤ c' → c' ≤ k + 1 → srR (fun k => sOv (pFl σ 16 p) k 6 = s) id i n (k + 1) c' = R → ∃ k', k' < n + 1 ∧ inv_hal σ p s i R N k' 48 [(27, 0), (0, p), (0, s), (0, i), (0, c'), (0, k + 1)] [] σ' := fun c' g1 g2 g3 => ⟨n, by omega, rfl, rfl, cc, hF, hf, k + 1, c', rfl, by omega, by omega, g1, g2, g3⟩
      simp only [ev]
      by_cases cp : sOv (pFl σ 16 p) k 6 = s
      · rw [srR_t (P := fun k => sOv (pFl σ 16 p) k 6 = s) (k := k) cp] at hr
        by_cases ci : c = i
        · rw [if_pos ci] at hr
          rw [← hr] at hq
          repeat' (first | assumption | apply And.intro | intro _)
          all_goals first | omega | exact absurd trivial (by assumption) | exact isP6 | exact hq
        · rw [if_neg ci] at hr
          have i9 := nx (c + 1) (by omega) (by omega) hr
          repeat' (first | assumption | apply And.intro | intro _)
          all_goals first | omega | exact absurd trivial (by assumption) | exact isP6 | exact i9
      · rw [srR_f (P := fun k => sOv (pFl σ 16 p) k 6 = s) (k := k) cp] at hr
        have i9 := nx c (by omega) (by omega) hr
        repeat' (first | assumption | apply And.intro | intro _)
        all_goals first | omega | exact absurd trivial (by assumption) | exact isP6 | exact i9
  · change vcs _ _ _ _ 90 0 [(27, 0), (0, p), (0, s), (0, i), (6, 0), (6, 0)] [] σ
    simp only [↓reduceIte, inR_0, inR_1, inR_m, vSw2_e, swP_n, swP_c, vI_e, vL_e, vNull_e, vIload_e, vLload_e, vAload_e, vIstore_e, vLstore_e, vAstore_e, vIinc_e, vIadd_e, vIsub_e, vImul_e, vIand_e, vIor_e, vIxor_e, vIshl_e, vIshr_e, vIushr_e, vIdiv_e, vIrem_e, vLadd_e, vLsub_e, vLmul_e, vLand_e, vLor_e, vLxor_e, vLdiv_e, vLrem_e, vLushr_e, vLshl_e, vLcmp_e, vIneg_e, vI2l_e, vL2i_e, vI2b_e, vI2c_e, vDup_e, vPop_e, vDup2_e, vGoto_e, vIcEq_e, vIfEq_e, vIcNe_e, vIfNe_e, vIcLt_e, vIfLt_e, vIcGe_e, vIfGe_e, vIcGt_e, vIfGt_e, vIcLe_e, vIfLe_e, vNonnull_e, vSw_e, vGetI_e, vGetL_e, vGetR_e, vPutI_e, vPutZ_e, vPutL_e, vPutR_e, vIald_e, vIald_s, vLald_e, vBald_e, vBald_s, vAald_e, vIast_e, vLast_e, vBast_e, vAast_e, vAlen_e8, vAlen_e9, vAlen_e10, vAlen_e11, vAlen_e5, vAlen_e3, vGets_e, vCompact_e, vLdcS_e, vIret_e, vZret_e, vCret_e, vBret_e, vLret_e, vVret_e, vAret_e, vCallM_e0, vCallMV_e0, vCallS_e0, vCallSV_e0, vCallM_e1, vCallMV_e1, vCallS_e1, vCallSV_e1, vCallM_e2, vCallMV_e2, vCallS_e2, vCallSV_e2, vCallM_e3, vCallMV_e3, vCallS_e3, vCallSV_e3, vCallM_e4, vCallMV_e4, vCallS_e4, vCallSV_e4, vCallM_e5, vCallMV_e5, vCallS_e5, vCallSV_e5, vCallM_e6, vCallMV_e6, vCallS_e6, vCallSV_e6, vCallM_e7, vCallMV_e7, vCallS_e7, vCallSV_e7, vBad_e, vStrVal_e, vStrCod_e, vForm_e, vCallT_e0, vCallT_e1, vCallT_e2, vCopy_e, rf_0_0, rf_0_1, rf_0_2, rf_0_3, rf_0_4, rf_0_7, rf_0_10, rf_0_11, rf_0_12, rf_0_13, rf_0_14, rf_0_15, rf_0_16, rf_1_0, rf_3_0, rf_3_1, rf_6_0, rf_6_1, rf_9_0, rf_9_1, rf_9_3, rf_13_0, rf_13_1, rf_13_2, rf_16_0, rf_16_1, rf_16_2, rf_16_3, rf_21_0, rf_21_1, rf_21_2, rf_21_3, rf_26_0, rf_26_1, rf_26_2, rf_26_3, rf_26_4, rf_26_5, rf_26_6, rf_31_0, rf_31_2, rf_31_5, rf_31_6, rf_36_0, rf_36_1, rf_36_2, rf_36_3, rf_39_0, rf_39_1, rf_39_2, rf_41_0, rf_41_1, rf_41_2, rf_41_3, rf_5000_1, rf_5000_2, rf_5000_3, rf_5000_4, rf_5000_5, rf_5000_15, rf_5000_16, rf_5000_18, rf_5000_19, rf_5000_20, rf_5000_21, rf_5000_22, rf_5000_23, rf_5000_24, rf_5000_25, rf_5000_26, rf_5000_27, rf_5000_36, rf_5000_37, rf_5000_40, rf_5000_41, rf_5000_42, rf_5000_43, rf_5000_44, rf_5000_45, rf_5000_47, rf_5000_52, rf_5000_54, rf_5000_55, rf_100_0, rf_100_1, rf_103_0, rf_103_1, rf_106_0, rf_106_1, rf_109_0, rf_109_1, al_2, al_4, al_5, al_7, al_8, al_10, al_11, al_12, al_14, al_15, al_17, al_18, al_19, al_20, al_22, al_23, al_24, al_25, al_27, al_28, al_29, al_30, al_32, al_33, al_34, al_35, al_37, al_38, al_40, al_42, al_5001, al_5002, al_5003, al_5004, al_5005, al_5006, al_5007, al_5008, al_5009, al_5010, al_5011, al_5012, al_5013, al_5014, al_5015, al_5016, al_5017, al_5018, al_5019, al_5020, al_5021, al_5022, al_5023, al_5024, al_5025, al_5026, al_9000, al_101, al_102, al_104, al_105, al_107, al_108, al_110, al_111, vcs_e, lg_c0, lg_cs, lg_nil, set_c0, set_cs, okst_0, okst_s, acok_n, acok_c, List.contains_nil, List.contains_cons, Bool.or_false, Bool.false_or, Bool.false_eq_true, if_false, if_true, ite_self, ne_eq, true_and, and_true, not_false_eq_true, not_true_eq_false, false_imp_iff, true_imp_iff, Nat.ble_eq, Bool.and_eq_true, reduceCtorEq, or_false, false_or, or_true, true_or, false_and, and_false, and_self, Int.reduceLE, Int.reduceAdd, Int.reduceSub, Int.reduceMul, Int.reduceNeg, Int.reduceLT, Int.reduceEq, Int.reduceNe, Nat.reduceBEq, Nat.reduceBNe, Nat.reduceEqDiff, amCmp_in, amCmp_lt, amCmp_le, amCmp_gt, amCmp_ge, amCmp_eq, amCmp_ne, Nat.reduceLeDiff, Nat.reduceSub, Bool.and_true, Bool.true_and, Bool.and_self, Bool.or_true, Bool.true_or, isRf_3, isRf_4, isRf_5, isRf_8, isRf_9, isRf_10, isRf_11, isRf_15, isRf_16, isRf_17, isRf_18, isRf_19, isRf_20, isRf_21, isRf_22, isRf_23, isRf_24, isRf_25, isRf_26, isRf_27, isRf_28, k_X11_halves_0, k_X11_halves_1, k_X11_halves_4, k_X11_halves_5, k_X11_halves_6, k_X11_halves_9, k_X11_halves_12, k_X11_halves_13, k_X11_halves_16, k_X11_halves_17, k_X11_halves_20, k_X11_halves_23, k_X11_halves_24, k_X11_halves_25, k_X11_halves_28, k_X11_halves_29, k_X11_halves_30, k_X11_halves_31, k_X11_halves_34, k_X11_halves_35, k_X11_halves_38, k_X11_halves_39, k_X11_halves_42, k_X11_halves_43, k_X11_halves_45, k_X11_halves_46, k_X11_halves_48, k_X11_halves_50, k_X11_halves_51, k_X11_halves_54, k_X11_halves_57, k_X11_halves_60, k_X11_halves_61, k_X11_halves_64, k_X11_halves_67, k_X11_halves_69, k_X11_halves_72, k_X11_halves_73, k_X11_halves_76, k_X11_halves_78, k_X11_halves_79, k_X11_halves_82, k_X11_halves_84, k_X11_halves_85, k_X11_halves_88, k_X11_halves_91, k_X11_halves_94, k_X11_halves_95, k_X11_halves_96, k_X11_halves_99, k_X11_halves_101, k_X11_halves_104, k_X11_halves_105, w_X11_sumOver_e, w_X6_everyChair_e, w_X6_has_e, w_X9_playAll_e, e1]
    by_cases d : 0 ≤ p ∧ p < pcnt σ 6 1
    · rw [if_pos d]
      by_cases cc : 0 ≤ s ∧ s ≤ 999 ∧ -1 ≤ i
      · have i9 : ∀ τ, SF σ τ → (∀ j, 0 ≤ j → j < 6 → τ 29 j = if j < pcnt σ 6 2 ∧ 0 ≤ σ 18 j ∧ σ 18 j < pcnt σ 6 3 then pFl σ 16 p j else σ 29 j) → ∃ k', inv_hal σ p s i R N k' 48 [(27, 0), (0, p), (0, s), (0, i), (0, 0), (0, 0)] [] τ := fun τ q1 q2 =>
          ⟨M, rfl, rfl, ⟨d.1, d.2, cc⟩, q1, fun j j0 j1 => by rw [q2 j j0 (by omega), if_pos ⟨j1, hsi j j0 j1⟩], 0, 0, rfl, by omega, by omega, by omega, by omega, hR⟩
        repeat' (first | assumption | apply And.intro | intro _)
        all_goals first | omega | exact absurd trivial (by assumption) | exact isP6 | exact i9 _ (by assumption) (by assumption)
      · have hh := h1 (fun q => cc q.2.2)
        repeat' (first | assumption | apply And.intro | intro _)
        all_goals first | omega | exact absurd trivial (by assumption) | exact isP6 | exact hh
    · rw [if_neg d]
      have hh := h1 (fun q => d ⟨q.1, q.2.1⟩)
      repeat' (first | assumption | apply And.intro | intro _)
      all_goals first | omega | exact absurd trivial (by assumption) | exact isP6 | exact hh
