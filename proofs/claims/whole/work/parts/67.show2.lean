/-! Stage: what all feel in a PLAY -/
def pFl (σ : Mem) (a p i : Int) : Int := flM (gmv σ a (σ (a + 2) i) p) (pval σ 6 0 0 0) (hbits (σ (a + 2)) (σ (a + 2) i) (pcnt σ 6 2).toNat) (pval σ 6 1 p 3).toNat i
def pOa (σ : Mem) (a p i : Int) : Int := oaM (gmv σ a (σ (a + 2) i) p) (pval σ 6 0 0 0) (hbits (σ (a + 2)) (σ (a + 2) i) (pcnt σ 6 2).toNat) (pval σ 6 1 p 3).toNat i
theorem popc_bit {x i : Int} (h0 : 0 ≤ x) (h1 : x < 64) (i0 : 0 ≤ i) (i1 : i < 6) (hb : bt x i = 1) : 1 ≤ popc x := by
  apply popc_p _ h1
  rcases Int.lt_or_eq_of_le h0 with h | h
  · exact h
  · rw [← h, bt_0] at hb; omega
theorem flM_b {g : GM} {L S : Int} (h0 : 0 ≤ S) (h1 : S < 64) {i : Int} (i0 : 0 ≤ i) (i1 : i < 6) (hg : ∀ n k, 1 ≤ n → 0 ≤ g i n k ∧ g i n k ≤ 99) : ∀ k : Nat, 0 ≤ flM g L S k i ∧ flM g L S k i ≤ 99 * k := by
  intro k
  induction k with
  | zero => unfold flM; omega
  | succ k ih =>
    unfold flM
    have sb := stM_b g L h0 h1 k
    split
    · rename_i c
      have := hg (popc (stM g L S k)) k (popc_bit sb.1 sb.2 i0 i1 c)
      omega
    · omega
theorem oaM_b (g : GM) (L S i : Int) : ∀ k : Nat, -1 ≤ oaM g L S k i ∧ oaM g L S k i < max k 1 := by
  intro k
  induction k with
  | zero => unfold oaM; omega
  | succ k ih => unfold oaM; split <;> omega
theorem pFl_b {σ : Mem} {a p i : Int} (hB : planB σ 6) (h9 : pval σ 6 1 p 3 ≤ 9) (i0 : 0 ≤ i) (i1 : i < 6) : 0 ≤ pFl σ a p i ∧ pFl σ a p i ≤ 891 := by
  have hc := pcnt_b hB 2
  have hm := pval_b hB 1 p 3
  have hh := hbits_64 (σ (a + 2)) (σ (a + 2) i) (n := (pcnt σ 6 2).toNat) (by omega)
  have := flM_b (L := pval σ 6 0 0 0) hh.1 hh.2 i0 i1 (fun n k hn => gmv_b σ (a := a) (t := σ (a + 2) i) (p := p) (i := i) (k := k) hn) (pval σ 6 1 p 3).toNat
  unfold pFl
  omega
theorem pOa_b {σ : Mem} {a p i : Int} (hB : planB σ 6) (h9 : pval σ 6 1 p 3 ≤ 9) : -1 ≤ pOa σ a p i ∧ pOa σ a p i ≤ 9 := by
  have hm := pval_b hB 1 p 3
  have := oaM_b (gmv σ a (σ (a + 2) i) p) (pval σ 6 0 0 0) (hbits (σ (a + 2)) (σ (a + 2) i) (pcnt σ 6 2).toNat) i (pval σ 6 1 p 3).toNat
  unfold pOa
  omega

theorem wd_780 : Cond.methodLink RX9 112 yX9_openSitter ∈ TBL := tb_tab (List.mem_of_getElem? (i := 780) (by decide +kernel)) rfl
theorem wd_783 : Cond.code yX9_openSitter cX9_openSitter 4 (none) ∈ TBL := tb_tab (List.mem_of_getElem? (i := 783) (by decide +kernel)) rfl
theorem lk_X9_112 : amLk RX9 112 yX9_openSitter cX9_openSitter 4 (none) 3 := ⟨wd_780, wd_7, wd_783, by decide +kernel, by decide +kernel, by decide⟩
theorem wd_781 : Cond.instanceMethod yX9_openSitter ∈ TBL := tb_tab (List.mem_of_getElem? (i := 781) (by decide +kernel)) rfl
theorem wd_782 : Cond.selects RX9 yX9_openSitter yX9_openSitter ∈ TBL := tb_tab (List.mem_of_getElem? (i := 782) (by decide +kernel)) rfl
theorem wd_785 : Cond.methodLink RX9 116 yX0_holders ∈ TBL := tb_tab (List.mem_of_getElem? (i := 785) (by decide +kernel)) rfl
theorem wd_788 : Cond.code yX0_holders cX0_holders 5 (some .int) ∈ TBL := tb_tab (List.mem_of_getElem? (i := 788) (by decide +kernel)) rfl
theorem lk_X9_116 : amLk RX9 116 yX0_holders cX0_holders 5 (some .int) 2 := ⟨wd_785, wd_6, wd_788, by decide +kernel, by decide +kernel, by decide⟩
theorem wd_786 : Cond.instanceMethod yX0_holders ∈ TBL := tb_tab (List.mem_of_getElem? (i := 786) (by decide +kernel)) rfl
theorem wd_787 : Cond.selects RX0 yX0_holders yX0_holders ∈ TBL := tb_tab (List.mem_of_getElem? (i := 787) (by decide +kernel)) rfl
theorem wd_789 : Cond.methodLink RX9 119 yX9_playGroup ∈ TBL := tb_tab (List.mem_of_getElem? (i := 789) (by decide +kernel)) rfl
theorem wd_792 : Cond.code yX9_playGroup cX9_playGroup 10 (none) ∈ TBL := tb_tab (List.mem_of_getElem? (i := 792) (by decide +kernel)) rfl
theorem lk_X9_119 : amLk RX9 119 yX9_playGroup cX9_playGroup 10 (none) 1 := ⟨wd_789, wd_7, wd_792, by decide +kernel, by decide +kernel, by decide⟩
theorem wd_790 : Cond.instanceMethod yX9_playGroup ∈ TBL := tb_tab (List.mem_of_getElem? (i := 790) (by decide +kernel)) rfl
theorem wd_791 : Cond.selects RX9 yX9_playGroup yX9_playGroup ∈ TBL := tb_tab (List.mem_of_getElem? (i := 791) (by decide +kernel)) rfl
def a_X9_playAll : AC := [(0, vI 0 1), (1, vIstore 3 2), (2, vIload 3 3), (3, vAload 0 4), (4, vGetR TT 25 0 22 7), (7, vI 3 8), (8, vCallM w_X6_many 22 1 11), (11, vIcGe 44 14), (14, vAload 0 15), (15, vAload 1 16), (16, vIload 2 17), (17, vIload 3 18), (18, vCallMV w_X9_openSitter 25 3 21), (21, vAload 0 22), (22, vAload 1 23), (23, vIload 3 24), (24, vAload 0 25), (25, vGetR TT 25 0 22 28), (28, vI 2 29), (29, vCallM w_X6_many 22 1 32), (32, vCallM w_X0_holders 16 2 35), (35, vCallMV w_X9_playGroup 25 1 38), (38, vIinc 3 1 41), (41, vGoto 2), (44, vVret)]
theorem k_X9_playAll_0 : look a_X9_playAll 0 = vI 0 1 := rfl
theorem k_X9_playAll_1 : look a_X9_playAll 1 = vIstore 3 2 := rfl
theorem k_X9_playAll_2 : look a_X9_playAll 2 = vIload 3 3 := rfl
theorem k_X9_playAll_3 : look a_X9_playAll 3 = vAload 0 4 := rfl
theorem k_X9_playAll_4 : look a_X9_playAll 4 = vGetR TT 25 0 22 7 := rfl
theorem k_X9_playAll_7 : look a_X9_playAll 7 = vI 3 8 := rfl
theorem k_X9_playAll_8 : look a_X9_playAll 8 = vCallM w_X6_many 22 1 11 := rfl
theorem k_X9_playAll_11 : look a_X9_playAll 11 = vIcGe 44 14 := rfl
theorem k_X9_playAll_14 : look a_X9_playAll 14 = vAload 0 15 := rfl
theorem k_X9_playAll_15 : look a_X9_playAll 15 = vAload 1 16 := rfl
theorem k_X9_playAll_16 : look a_X9_playAll 16 = vIload 2 17 := rfl
theorem k_X9_playAll_17 : look a_X9_playAll 17 = vIload 3 18 := rfl
theorem k_X9_playAll_18 : look a_X9_playAll 18 = vCallMV w_X9_openSitter 25 3 21 := rfl
theorem k_X9_playAll_21 : look a_X9_playAll 21 = vAload 0 22 := rfl
theorem k_X9_playAll_22 : look a_X9_playAll 22 = vAload 1 23 := rfl
theorem k_X9_playAll_23 : look a_X9_playAll 23 = vIload 3 24 := rfl
theorem k_X9_playAll_24 : look a_X9_playAll 24 = vAload 0 25 := rfl
theorem k_X9_playAll_25 : look a_X9_playAll 25 = vGetR TT 25 0 22 28 := rfl
theorem k_X9_playAll_28 : look a_X9_playAll 28 = vI 2 29 := rfl
theorem k_X9_playAll_29 : look a_X9_playAll 29 = vCallM w_X6_many 22 1 32 := rfl
theorem k_X9_playAll_32 : look a_X9_playAll 32 = vCallM w_X0_holders 16 2 35 := rfl
theorem k_X9_playAll_35 : look a_X9_playAll 35 = vCallMV w_X9_playGroup 25 1 38 := rfl
theorem k_X9_playAll_38 : look a_X9_playAll 38 = vIinc 3 1 41 := rfl
theorem k_X9_playAll_41 : look a_X9_playAll 41 = vGoto 2 := rfl
theorem k_X9_playAll_44 : look a_X9_playAll 44 = vVret := rfl
theorem o_X9_playAll {X : amX} (e1 : XT X = TT) (e2 : XD X = 5) (hB : amB X RX9 cX9_playAll (none) 4) : ∀ pc, amOK X pc (look a_X9_playAll pc) := by
  have hT : amTok (XT X) := e1 ▸ TT_ok
  refine look_ok ?_
  unfold a_X9_playAll
  refine fc (ok_iconst hB dX9_playAll_0) ?_
  refine fc (ok_istore_n hB (by decide) dX9_playAll_1) ?_
  refine fc (ok_iload_n hB dX9_playAll_2) ?_
  refine fc (ok_aload_n hB dX9_playAll_3) ?_
  refine fc (okt_getR e1 hB hT fl_X9_35 rfl af_9_0 at_9_0 (by decide) dX9_playAll_4) ?_
  refine fc (ok_iconst hB dX9_playAll_7) ?_
  refine fc (ok_callM hB hT (e1 ▸ s_X6_many) lk_X9_109 (by rw [e2]; decide) (c := 6) rfl rfl rfl wd_557 wd_558 dX9_playAll_8) ?_
  refine fc (ok_icmp_ge hB (t := 44) (by decide) dX9_playAll_11) ?_
  refine fc (ok_aload_n hB dX9_playAll_14) ?_
  refine fc (ok_aload_n hB dX9_playAll_15) ?_
  refine fc (ok_iload_n hB dX9_playAll_16) ?_
  refine fc (ok_iload_n hB dX9_playAll_17) ?_
  refine fc (ok_callMV hB hT (e1 ▸ s_X9_openSitter) lk_X9_112 (by rw [e2]; decide) (c := 9) rfl rfl rfl wd_781 wd_782 dX9_playAll_18) ?_
  refine fc (ok_aload_n hB dX9_playAll_21) ?_
  refine fc (ok_aload_n hB dX9_playAll_22) ?_
  refine fc (ok_iload_n hB dX9_playAll_23) ?_
  refine fc (ok_aload_n hB dX9_playAll_24) ?_
  refine fc (okt_getR e1 hB hT fl_X9_35 rfl af_9_0 at_9_0 (by decide) dX9_playAll_25) ?_
  refine fc (ok_iconst hB dX9_playAll_28) ?_
  refine fc (ok_callM hB hT (e1 ▸ s_X6_many) lk_X9_109 (by rw [e2]; decide) (c := 6) rfl rfl rfl wd_557 wd_558 dX9_playAll_29) ?_
  refine fc (ok_callM hB hT (e1 ▸ s_X0_holders) lk_X9_116 (by rw [e2]; decide) (c := 0) rfl rfl rfl wd_786 wd_787 dX9_playAll_32) ?_
  refine fc (ok_callMV hB hT (e1 ▸ s_X9_playGroup) lk_X9_119 (by rw [e2]; decide) (c := 9) rfl rfl rfl wd_790 wd_791 dX9_playAll_35) ?_
  refine fc (ok_iinc hB (by decide) dX9_playAll_38) ?_
  refine fc (ok_goto hB (t := 2) (by decide) dX9_playAll_41) ?_
  refine fc (ok_vret hB dX9_playAll_44) ?_
  exact fn
def inv_pall (σ : Mem) (a p : Int) (n pc : Nat) (ls st : List AV) (σ' : Mem) : Prop := pc = 2 ∧ st = [] ∧ SF σ σ' ∧ ∃ k : Nat, ls = [(25, 26), (16, a), (0, p), (0, (k : Int))] ∧ (k : Int) + n = pcnt σ 6 3 ∧ (∀ i, 0 ≤ i → i < 6 → σ' 29 i = if i < pcnt σ 6 2 ∧ 0 ≤ σ (a + 2) i ∧ σ (a + 2) i < k then pFl σ a p i else σ 29 i) ∧ (∀ i, 0 ≤ i → i < 6 → σ' 30 i = if i < pcnt σ 6 2 ∧ 0 ≤ σ (a + 2) i ∧ σ (a + 2) i < k then pOa σ a p i else σ 30 i)
def w_X9_playAll : WP := fun av σ Q => ∃ (a : Int) (p : Int), av = [(25, 26), (16, a), (0, p)] ∧ (stOk σ a ∧ InR p ∧ pval σ 6 1 p 3 ≤ 9 ∧ (∀ i, 0 ≤ i → i < 6 → InR (σ (a + 2) i)) ∧ (∀ τ, SF σ τ → (∀ i, 0 ≤ i → i < 6 → τ 29 i = if i < pcnt σ 6 2 ∧ 0 ≤ σ (a + 2) i ∧ σ (a + 2) i < pcnt σ 6 3 then pFl σ a p i else σ 29 i) → (∀ i, 0 ≤ i → i < 6 → τ 30 i = if i < pcnt σ 6 2 ∧ 0 ≤ σ (a + 2) i ∧ σ (a + 2) i < pcnt σ 6 3 then pOa σ a p i else σ 30 i) → Q (6, 0) τ))
theorem w_X9_playAll_e (a : Int) (p : Int) (σ : Mem) (Q : AV → Mem → Prop) : w_X9_playAll [(25, 26), (16, a), (0, p)] σ Q = (stOk σ a ∧ InR p ∧ pval σ 6 1 p 3 ≤ 9 ∧ (∀ i, 0 ≤ i → i < 6 → InR (σ (a + 2) i)) ∧ (∀ τ, SF σ τ → (∀ i, 0 ≤ i → i < 6 → τ 29 i = if i < pcnt σ 6 2 ∧ 0 ≤ σ (a + 2) i ∧ σ (a + 2) i < pcnt σ 6 3 then pFl σ a p i else σ 29 i) → (∀ i, 0 ≤ i → i < 6 → τ 30 i = if i < pcnt σ 6 2 ∧ 0 ≤ σ (a + 2) i ∧ σ (a + 2) i < pcnt σ 6 3 then pOa σ a p i else σ 30 i) → Q (6, 0) τ)) := by
  apply propext; constructor
  · rintro ⟨a', p', h9, hb9⟩; cases h9; exact hb9
  · intro hb9; exact ⟨a, p, rfl, hb9⟩

set_option maxRecDepth 100000 in
set_option maxHeartbeats 4000000 in
theorem s_X9_playAll : ∀ av σ Q, w_X9_playAll av σ Q → amCall 5 0 0 TT yX9_playAll cX9_playAll 4 (none) av σ Q := by
  rintro av σ Q ⟨a, p, rfl, hst, hp, h9, hse, h⟩
  have ha := hst.1
  have hab := isA_b ha
  have hB := hst.2.1
  have c2 := pcnt_b hB 2
  have c3 := pcnt_b hB 3
  have p0 : (0 : Int) ≤ a := by omega
  refine am_m [2] (inv_pall σ a p) (own := RX9) (A := look a_X9_playAll) (fun X e1 e2 hB => o_X9_playAll e1 e2 hB) rfl (by decide +kernel) rfl rfl ?_ ⟨60, ?_⟩ (w := 4)
  · rintro n pc ls st σ' ⟨rfl, rfl, hF, k, rfl, hk, hf, ho⟩
    have pc3 : pcnt σ' 6 3 = pcnt σ 6 3 := SF_pcnt hF 3
    have hO := SO_open hF a k p
    have q2 : pcnt (fillm (up (up (up σ' 26 6 a) 26 7 p) 26 8 k) 28 324 (-1)) 6 2 = pcnt σ 6 2 := SF_pcnt hO.1 2
    have q3 : fillm (up (up (up σ' 26 6 a) 26 7 p) 26 8 k) 28 324 (-1) (a + 2) = σ (a + 2) := (SF_a hO.1 ha).2.2.1
    have q29 : fillm (up (up (up σ' 26 6 a) 26 7 p) 26 8 k) 28 324 (-1) 29 = σ' 29 := by simp only [fillm_o _ (show (29 : Int) ≠ 28 by decide), up_na _ (show (29 : Int) ≠ 26 by decide)]
    have q30 : fillm (up (up (up σ' 26 6 a) 26 7 p) 26 8 k) 28 324 (-1) 30 = σ' 30 := by simp only [fillm_o _ (show (30 : Int) ≠ 28 by decide), up_na _ (show (30 : Int) ≠ 26 by decide)]
    refine ⟨60, ?_⟩
    simp only [↓reduceIte, inR_0, inR_1, inR_m, vI_e, vL_e, vNull_e, vIload_e, vLload_e, vAload_e, vIstore_e, vLstore_e, vAstore_e, vIinc_e, vIadd_e, vIsub_e, vImul_e, vIand_e, vIor_e, vIxor_e, vIshl_e, vIshr_e, vIushr_e, vIdiv_e, vIrem_e, vLadd_e, vLsub_e, vLmul_e, vLand_e, vLor_e, vLxor_e, vLdiv_e, vLrem_e, vLushr_e, vLshl_e, vLcmp_e, vIneg_e, vI2l_e, vL2i_e, vI2b_e, vI2c_e, vDup_e, vPop_e, vDup2_e, vGoto_e, vIcEq_e, vIfEq_e, vIcNe_e, vIfNe_e, vIcLt_e, vIfLt_e, vIcGe_e, vIfGe_e, vIcGt_e, vIfGt_e, vIcLe_e, vIfLe_e, vNonnull_e, vSw_e, vGetI_e, vGetL_e, vGetR_e, vPutI_e, vPutZ_e, vPutL_e, vPutR_e, vIald_e, vIald_s, vLald_e, vBald_e, vBald_s, vAald_e, vIast_e, vLast_e, vBast_e, vAast_e, vAlen_e8, vAlen_e9, vAlen_e10, vAlen_e11, vAlen_e5, vAlen_e3, vGets_e, vCompact_e, vLdcS_e, vIret_e, vZret_e, vCret_e, vBret_e, vLret_e, vVret_e, vAret_e, vCallM_e0, vCallMV_e0, vCallS_e0, vCallSV_e0, vCallM_e1, vCallMV_e1, vCallS_e1, vCallSV_e1, vCallM_e2, vCallMV_e2, vCallS_e2, vCallSV_e2, vCallM_e3, vCallMV_e3, vCallS_e3, vCallSV_e3, vCallM_e4, vCallMV_e4, vCallS_e4, vCallSV_e4, vCallM_e5, vCallMV_e5, vCallS_e5, vCallSV_e5, vCallM_e6, vCallMV_e6, vCallS_e6, vCallSV_e6, vCallM_e7, vCallMV_e7, vCallS_e7, vCallSV_e7, vBad_e, vStrVal_e, vStrCod_e, vForm_e, vCallT_e0, vCallT_e1, vCallT_e2, vCopy_e, rf_0_0, rf_0_1, rf_0_2, rf_0_3, rf_0_4, rf_0_7, rf_0_10, rf_0_11, rf_0_12, rf_0_13, rf_0_14, rf_0_15, rf_0_16, rf_1_0, rf_3_0, rf_3_1, rf_6_0, rf_6_1, rf_9_0, rf_9_1, rf_9_3, rf_13_0, rf_13_1, rf_13_2, rf_16_0, rf_16_1, rf_16_2, rf_16_3, rf_21_0, rf_21_1, rf_21_2, rf_21_3, rf_26_0, rf_26_1, rf_26_2, rf_26_3, rf_26_4, rf_26_5, rf_26_6, rf_31_0, rf_31_2, rf_31_5, rf_31_6, rf_36_0, rf_36_1, rf_36_2, rf_36_3, rf_39_0, rf_39_1, rf_39_2, rf_41_0, rf_41_1, rf_41_2, rf_41_3, rf_5000_1, rf_5000_2, rf_5000_3, rf_5000_4, rf_5000_5, rf_5000_15, rf_5000_16, rf_5000_18, rf_5000_19, rf_5000_20, rf_5000_21, rf_5000_22, rf_5000_23, rf_5000_24, rf_5000_25, rf_5000_26, rf_5000_27, rf_5000_36, rf_5000_37, rf_5000_40, rf_5000_41, rf_5000_42, rf_5000_43, rf_5000_44, rf_5000_45, rf_5000_47, rf_5000_52, rf_5000_54, rf_5000_55, rf_100_0, rf_100_1, rf_103_0, rf_103_1, rf_106_0, rf_106_1, rf_109_0, rf_109_1, al_2, al_4, al_5, al_7, al_8, al_10, al_11, al_12, al_14, al_15, al_17, al_18, al_19, al_20, al_22, al_23, al_24, al_25, al_27, al_28, al_29, al_30, al_32, al_33, al_34, al_35, al_37, al_38, al_40, al_42, al_5001, al_5002, al_5003, al_5004, al_5005, al_5006, al_5007, al_5008, al_5009, al_5010, al_5011, al_5012, al_5013, al_5014, al_5015, al_5016, al_5017, al_5018, al_5019, al_5020, al_5021, al_5022, al_5023, al_5024, al_5025, al_5026, al_9000, al_101, al_102, al_104, al_105, al_107, al_108, al_110, al_111, vcs_e, lg_c0, lg_cs, lg_nil, set_c0, set_cs, okst_0, okst_s, acok_n, acok_c, List.contains_nil, List.contains_cons, Bool.or_false, Bool.false_or, Bool.false_eq_true, if_false, if_true, ite_self, ne_eq, true_and, and_true, not_false_eq_true, not_true_eq_false, false_imp_iff, true_imp_iff, Nat.ble_eq, Bool.and_eq_true, reduceCtorEq, or_false, false_or, or_true, true_or, false_and, and_false, and_self, Int.reduceLE, Int.reduceAdd, Int.reduceSub, Int.reduceMul, Int.reduceNeg, Int.reduceLT, Int.reduceEq, Int.reduceNe, Nat.reduceBEq, Nat.reduceBNe, Nat.reduceEqDiff, amCmp_in, amCmp_lt, amCmp_le, amCmp_gt, amCmp_ge, amCmp_eq, amCmp_ne, Nat.reduceLeDiff, Nat.reduceSub, Bool.and_true, Bool.true_and, Bool.and_self, Bool.or_true, Bool.true_or, isRf_3, isRf_4, isRf_5, isRf_8, isRf_9, isRf_10, isRf_11, isRf_15, isRf_16, isRf_17, isRf_18, isRf_19, isRf_20, isRf_21, isRf_22, isRf_23, isRf_24, isRf_25, isRf_26, isRf_27, isRf_28, k_X9_playAll_0, k_X9_playAll_1, k_X9_playAll_2, k_X9_playAll_3, k_X9_playAll_4, k_X9_playAll_7, k_X9_playAll_8, k_X9_playAll_11, k_X9_playAll_14, k_X9_playAll_15, k_X9_playAll_16, k_X9_playAll_17, k_X9_playAll_18, k_X9_playAll_21, k_X9_playAll_22, k_X9_playAll_23, k_X9_playAll_24, k_X9_playAll_25, k_X9_playAll_28, k_X9_playAll_29, k_X9_playAll_32, k_X9_playAll_35, k_X9_playAll_38, k_X9_playAll_41, k_X9_playAll_44, w_X0_holders_e, w_X6_many_e, w_X9_openSitter_e, w_X9_playGroup_e, pc3, q2, q3, p0, q29, q30]
    by_cases hlt : (k : Int) < pcnt σ 6 3
    · have hb := hbits_64 (σ (a + 2)) k (n := (pcnt σ 6 2).toNat) (by omega)
      have hbit : ∀ i, 0 ≤ i → i < 6 → bt (hbits (σ (a + 2)) k (pcnt σ 6 2).toNat) i = if i < pcnt σ 6 2 ∧ σ (a + 2) i = k then 1 else 0 := fun i i0 i1 => by
        rw [hbits_bit _ _ i0 i1 (by omega)]
        simp only [show (i < ((pcnt σ 6 2).toNat : Int)) = (i < pcnt σ 6 2) from propext (by omega)]
      have nx : ∀ τ, SO σ τ a k p → (∀ i, 0 ≤ i → i < 6 → τ 29 i = if bt (hbits (σ (a + 2)) k (pcnt σ 6 2).toNat) i = 1 then flM (gmv σ a k p) (pval σ 6 0 0 0) (hbits (σ (a + 2)) k (pcnt σ 6 2).toNat) (pval σ 6 1 p 3).toNat i else σ' 29 i) → (∀ i, 0 ≤ i → i < 6 → τ 30 i = if bt (hbits (σ (a + 2)) k (pcnt σ 6 2).toNat) i = 1 then oaM (gmv σ a k p) (pval σ 6 0 0 0) (hbits (σ (a + 2)) k (pcnt σ 6 2).toNat) (pval σ 6 1 p 3).toNat i else σ' 30 i) → ∃ k', k' < n ∧ inv_pall σ a p k' 2 [(25, 26), (16, a), (0, p), (0, (k : Int) + 1)] [] τ := fun τ g1 g2 g3 => by
        refine ⟨n - 1, by omega, rfl, rfl, g1.1, k + 1, rfl, by omega, fun i i0 i1 => ?_, fun i i0 i1 => ?_⟩
        · rw [g2 i i0 i1, hbit i i0 i1, hf i i0 i1]
          by_cases e : i < pcnt σ 6 2 ∧ σ (a + 2) i = k
          · rw [if_pos e, if_pos rfl, if_pos ⟨e.1, by omega, by omega⟩]
            unfold pFl; rw [e.2]
          · rw [if_neg e, if_neg (by decide)]
            by_cases e2 : i < pcnt σ 6 2 ∧ 0 ≤ σ (a + 2) i ∧ σ (a + 2) i < k
            · rw [if_pos e2, if_pos (by omega)]
            · rw [if_neg e2, if_neg (by omega)]
        · rw [g3 i i0 i1, hbit i i0 i1, ho i i0 i1]
          by_cases e : i < pcnt σ 6 2 ∧ σ (a + 2) i = k
          · rw [if_pos e, if_pos rfl, if_pos ⟨e.1, by omega, by omega⟩]
            unfold pOa; rw [e.2]
          · rw [if_neg e, if_neg (by decide)]
            by_cases e2 : i < pcnt σ 6 2 ∧ 0 ≤ σ (a + 2) i ∧ σ (a + 2) i < k
            · rw [if_pos e2, if_pos (by omega)]
            · rw [if_neg e2, if_neg (by omega)]
      repeat' (first | assumption | apply And.intro | intro _)
      all_goals first | omega | exact absurd trivial (by assumption) | exact Or.inr rfl | exact ha | exact hse _ (by assumption) (by assumption) | skip
      all_goals exact ⟨σ, a, k, p, hst, hO, ⟨by omega, by omega⟩, hp, h9, hb.1, hb.2, fun τ g1 g2 g3 => nx τ g1 g2 g3⟩
    · have e9 : (k : Int) = pcnt σ 6 3 := by omega
      rw [e9] at hf ho
      have hh := h σ' hF hf ho
      repeat' (first | assumption | apply And.intro | intro _)
      all_goals first | omega | exact absurd trivial (by assumption) | exact Or.inr rfl | exact hh
  · change vcs _ _ _ _ 60 0 [(25, 26), (16, a), (0, p), (6, 0)] [] σ
    simp only [↓reduceIte, inR_0, inR_1, inR_m, vI_e, vL_e, vNull_e, vIload_e, vLload_e, vAload_e, vIstore_e, vLstore_e, vAstore_e, vIinc_e, vIadd_e, vIsub_e, vImul_e, vIand_e, vIor_e, vIxor_e, vIshl_e, vIshr_e, vIushr_e, vIdiv_e, vIrem_e, vLadd_e, vLsub_e, vLmul_e, vLand_e, vLor_e, vLxor_e, vLdiv_e, vLrem_e, vLushr_e, vLshl_e, vLcmp_e, vIneg_e, vI2l_e, vL2i_e, vI2b_e, vI2c_e, vDup_e, vPop_e, vDup2_e, vGoto_e, vIcEq_e, vIfEq_e, vIcNe_e, vIfNe_e, vIcLt_e, vIfLt_e, vIcGe_e, vIfGe_e, vIcGt_e, vIfGt_e, vIcLe_e, vIfLe_e, vNonnull_e, vSw_e, vGetI_e, vGetL_e, vGetR_e, vPutI_e, vPutZ_e, vPutL_e, vPutR_e, vIald_e, vIald_s, vLald_e, vBald_e, vBald_s, vAald_e, vIast_e, vLast_e, vBast_e, vAast_e, vAlen_e8, vAlen_e9, vAlen_e10, vAlen_e11, vAlen_e5, vAlen_e3, vGets_e, vCompact_e, vLdcS_e, vIret_e, vZret_e, vCret_e, vBret_e, vLret_e, vVret_e, vAret_e, vCallM_e0, vCallMV_e0, vCallS_e0, vCallSV_e0, vCallM_e1, vCallMV_e1, vCallS_e1, vCallSV_e1, vCallM_e2, vCallMV_e2, vCallS_e2, vCallSV_e2, vCallM_e3, vCallMV_e3, vCallS_e3, vCallSV_e3, vCallM_e4, vCallMV_e4, vCallS_e4, vCallSV_e4, vCallM_e5, vCallMV_e5, vCallS_e5, vCallSV_e5, vCallM_e6, vCallMV_e6, vCallS_e6, vCallSV_e6, vCallM_e7, vCallMV_e7, vCallS_e7, vCallSV_e7, vBad_e, vStrVal_e, vStrCod_e, vForm_e, vCallT_e0, vCallT_e1, vCallT_e2, vCopy_e, rf_0_0, rf_0_1, rf_0_2, rf_0_3, rf_0_4, rf_0_7, rf_0_10, rf_0_11, rf_0_12, rf_0_13, rf_0_14, rf_0_15, rf_0_16, rf_1_0, rf_3_0, rf_3_1, rf_6_0, rf_6_1, rf_9_0, rf_9_1, rf_9_3, rf_13_0, rf_13_1, rf_13_2, rf_16_0, rf_16_1, rf_16_2, rf_16_3, rf_21_0, rf_21_1, rf_21_2, rf_21_3, rf_26_0, rf_26_1, rf_26_2, rf_26_3, rf_26_4, rf_26_5, rf_26_6, rf_31_0, rf_31_2, rf_31_5, rf_31_6, rf_36_0, rf_36_1, rf_36_2, rf_36_3, rf_39_0, rf_39_1, rf_39_2, rf_41_0, rf_41_1, rf_41_2, rf_41_3, rf_5000_1, rf_5000_2, rf_5000_3, rf_5000_4, rf_5000_5, rf_5000_15, rf_5000_16, rf_5000_18, rf_5000_19, rf_5000_20, rf_5000_21, rf_5000_22, rf_5000_23, rf_5000_24, rf_5000_25, rf_5000_26, rf_5000_27, rf_5000_36, rf_5000_37, rf_5000_40, rf_5000_41, rf_5000_42, rf_5000_43, rf_5000_44, rf_5000_45, rf_5000_47, rf_5000_52, rf_5000_54, rf_5000_55, rf_100_0, rf_100_1, rf_103_0, rf_103_1, rf_106_0, rf_106_1, rf_109_0, rf_109_1, al_2, al_4, al_5, al_7, al_8, al_10, al_11, al_12, al_14, al_15, al_17, al_18, al_19, al_20, al_22, al_23, al_24, al_25, al_27, al_28, al_29, al_30, al_32, al_33, al_34, al_35, al_37, al_38, al_40, al_42, al_5001, al_5002, al_5003, al_5004, al_5005, al_5006, al_5007, al_5008, al_5009, al_5010, al_5011, al_5012, al_5013, al_5014, al_5015, al_5016, al_5017, al_5018, al_5019, al_5020, al_5021, al_5022, al_5023, al_5024, al_5025, al_5026, al_9000, al_101, al_102, al_104, al_105, al_107, al_108, al_110, al_111, vcs_e, lg_c0, lg_cs, lg_nil, set_c0, set_cs, okst_0, okst_s, acok_n, acok_c, List.contains_nil, List.contains_cons, Bool.or_false, Bool.false_or, Bool.false_eq_true, if_false, if_true, ite_self, ne_eq, true_and, and_true, not_false_eq_true, not_true_eq_false, false_imp_iff, true_imp_iff, Nat.ble_eq, Bool.and_eq_true, reduceCtorEq, or_false, false_or, or_true, true_or, false_and, and_false, and_self, Int.reduceLE, Int.reduceAdd, Int.reduceSub, Int.reduceMul, Int.reduceNeg, Int.reduceLT, Int.reduceEq, Int.reduceNe, Nat.reduceBEq, Nat.reduceBNe, Nat.reduceEqDiff, amCmp_in, amCmp_lt, amCmp_le, amCmp_gt, amCmp_ge, amCmp_eq, amCmp_ne, Nat.reduceLeDiff, Nat.reduceSub, Bool.and_true, Bool.true_and, Bool.and_self, Bool.or_true, Bool.true_or, isRf_3, isRf_4, isRf_5, isRf_8, isRf_9, isRf_10, isRf_11, isRf_15, isRf_16, isRf_17, isRf_18, isRf_19, isRf_20, isRf_21, isRf_22, isRf_23, isRf_24, isRf_25, isRf_26, isRf_27, isRf_28, k_X9_playAll_0, k_X9_playAll_1, k_X9_playAll_2, k_X9_playAll_3, k_X9_playAll_4, k_X9_playAll_7, k_X9_playAll_8, k_X9_playAll_11, k_X9_playAll_14, k_X9_playAll_15, k_X9_playAll_16, k_X9_playAll_17, k_X9_playAll_18, k_X9_playAll_21, k_X9_playAll_22, k_X9_playAll_23, k_X9_playAll_24, k_X9_playAll_25, k_X9_playAll_28, k_X9_playAll_29, k_X9_playAll_32, k_X9_playAll_35, k_X9_playAll_38, k_X9_playAll_41, k_X9_playAll_44]
    exact ⟨(pcnt σ 6 3).toNat, rfl, rfl, SF_rf σ, 0, rfl, by omega, fun i i0 i1 => by rw [if_neg (by omega)], fun i i0 i1 => by rw [if_neg (by omega)]⟩
theorem wd_148 : Cond.fieldLink RX9 122 "ArmchairHouse$Audience" "seats" "[I" ∈ TBL := tb_tab (List.mem_of_getElem? (i := 148) (by decide +kernel)) rfl
theorem fl_X9_122 : amFl RX9 0 1 122 RX0 TX0 7 := ⟨rfl, inT_0, by decide, wd_148⟩
def a_X9_playAround : AC := [(0, vIload 2 1), (1, vCallS w_X0_isChair 1 4), (4, vIfEq 41 7), (7, vAload 1 8), (8, vGetR TT 16 1 8 11), (11, vIload 2 12), (12, vIald TT 13), (13, vIstore 4 15), (15, vAload 0 16), (16, vAload 1 17), (17, vIload 3 18), (18, vIload 4 20), (20, vCallMV w_X9_openSitter 25 3 23), (23, vAload 0 24), (24, vAload 1 25), (25, vIload 4 27), (27, vAload 0 28), (28, vGetR TT 25 0 22 31), (31, vI 2 32), (32, vCallM w_X6_many 22 1 35), (35, vCallM w_X0_holders 16 2 38), (38, vCallMV w_X9_playGroup 25 1 41), (41, vVret)]
theorem k_X9_playAround_0 : look a_X9_playAround 0 = vIload 2 1 := rfl
theorem k_X9_playAround_1 : look a_X9_playAround 1 = vCallS w_X0_isChair 1 4 := rfl
theorem k_X9_playAround_4 : look a_X9_playAround 4 = vIfEq 41 7 := rfl
theorem k_X9_playAround_7 : look a_X9_playAround 7 = vAload 1 8 := rfl
theorem k_X9_playAround_8 : look a_X9_playAround 8 = vGetR TT 16 1 8 11 := rfl
theorem k_X9_playAround_11 : look a_X9_playAround 11 = vIload 2 12 := rfl
theorem k_X9_playAround_12 : look a_X9_playAround 12 = vIald TT 13 := rfl
theorem k_X9_playAround_13 : look a_X9_playAround 13 = vIstore 4 15 := rfl
theorem k_X9_playAround_15 : look a_X9_playAround 15 = vAload 0 16 := rfl
theorem k_X9_playAround_16 : look a_X9_playAround 16 = vAload 1 17 := rfl
theorem k_X9_playAround_17 : look a_X9_playAround 17 = vIload 3 18 := rfl
theorem k_X9_playAround_18 : look a_X9_playAround 18 = vIload 4 20 := rfl
theorem k_X9_playAround_20 : look a_X9_playAround 20 = vCallMV w_X9_openSitter 25 3 23 := rfl
theorem k_X9_playAround_23 : look a_X9_playAround 23 = vAload 0 24 := rfl
theorem k_X9_playAround_24 : look a_X9_playAround 24 = vAload 1 25 := rfl
theorem k_X9_playAround_25 : look a_X9_playAround 25 = vIload 4 27 := rfl
theorem k_X9_playAround_27 : look a_X9_playAround 27 = vAload 0 28 := rfl
theorem k_X9_playAround_28 : look a_X9_playAround 28 = vGetR TT 25 0 22 31 := rfl
theorem k_X9_playAround_31 : look a_X9_playAround 31 = vI 2 32 := rfl
theorem k_X9_playAround_32 : look a_X9_playAround 32 = vCallM w_X6_many 22 1 35 := rfl
theorem k_X9_playAround_35 : look a_X9_playAround 35 = vCallM w_X0_holders 16 2 38 := rfl
theorem k_X9_playAround_38 : look a_X9_playAround 38 = vCallMV w_X9_playGroup 25 1 41 := rfl
theorem k_X9_playAround_41 : look a_X9_playAround 41 = vVret := rfl
theorem o_X9_playAround {X : amX} (e1 : XT X = TT) (e2 : XD X = 5) (hB : amB X RX9 cX9_playAround (none) 5) : ∀ pc, amOK X pc (look a_X9_playAround pc) := by
  have hT : amTok (XT X) := e1 ▸ TT_ok
  refine look_ok ?_
  unfold a_X9_playAround
  refine fc (ok_iload_n hB dX9_playAround_0) ?_
  refine fc (ok_callS hB (e1 ▸ s_X0_isChair) lk_X9_43 (by rw [e2]; decide) wd_818 dX9_playAround_1) ?_
  refine fc (ok_if_eq hB (t := 41) (by decide) dX9_playAround_4) ?_
  refine fc (ok_aload_n hB dX9_playAround_7) ?_
  refine fc (okt_getR e1 hB hT fl_X9_122 rfl af_0_1 at_0_1 (by decide) dX9_playAround_8) ?_
  refine fc (ok_iload_n hB dX9_playAround_11) ?_
  refine fc (okt_iaload e1 hB dX9_playAround_12) ?_
  refine fc (ok_istore hB (by decide) dX9_playAround_13) ?_
  refine fc (ok_aload_n hB dX9_playAround_15) ?_
  refine fc (ok_aload_n hB dX9_playAround_16) ?_
  refine fc (ok_iload_n hB dX9_playAround_17) ?_
  refine fc (ok_iload hB dX9_playAround_18) ?_
  refine fc (ok_callMV hB hT (e1 ▸ s_X9_openSitter) lk_X9_112 (by rw [e2]; decide) (c := 9) rfl rfl rfl wd_781 wd_782 dX9_playAround_20) ?_
  refine fc (ok_aload_n hB dX9_playAround_23) ?_
  refine fc (ok_aload_n hB dX9_playAround_24) ?_
  refine fc (ok_iload hB dX9_playAround_25) ?_
  refine fc (ok_aload_n hB dX9_playAround_27) ?_
  refine fc (okt_getR e1 hB hT fl_X9_35 rfl af_9_0 at_9_0 (by decide) dX9_playAround_28) ?_
  refine fc (ok_iconst hB dX9_playAround_31) ?_
  refine fc (ok_callM hB hT (e1 ▸ s_X6_many) lk_X9_109 (by rw [e2]; decide) (c := 6) rfl rfl rfl wd_557 wd_558 dX9_playAround_32) ?_
  refine fc (ok_callM hB hT (e1 ▸ s_X0_holders) lk_X9_116 (by rw [e2]; decide) (c := 0) rfl rfl rfl wd_786 wd_787 dX9_playAround_35) ?_
  refine fc (ok_callMV hB hT (e1 ▸ s_X9_playGroup) lk_X9_119 (by rw [e2]; decide) (c := 9) rfl rfl rfl wd_790 wd_791 dX9_playAround_38) ?_
  refine fc (ok_vret hB dX9_playAround_41) ?_
  exact fn

def w_X9_playAround : WP := fun av σ Q => ∃ (a : Int) (c : Int) (p : Int), av = [(25, 26), (16, a), (0, c), (0, p)] ∧ (stOk σ a ∧ InR p ∧ pval σ 6 1 p 3 ≤ 9 ∧ (∀ i, 0 ≤ i → i < 6 → InR (σ (a + 2) i)) ∧ 0 ≤ c ∧ c < pcnt σ 6 2 ∧ (∀ τ, SF σ τ → τ 29 c = pFl σ a p c → τ 30 c = pOa σ a p c → Q (6, 0) τ))
theorem w_X9_playAround_e (a : Int) (c : Int) (p : Int) (σ : Mem) (Q : AV → Mem → Prop) : w_X9_playAround [(25, 26), (16, a), (0, c), (0, p)] σ Q = (stOk σ a ∧ InR p ∧ pval σ 6 1 p 3 ≤ 9 ∧ (∀ i, 0 ≤ i → i < 6 → InR (σ (a + 2) i)) ∧ 0 ≤ c ∧ c < pcnt σ 6 2 ∧ (∀ τ, SF σ τ → τ 29 c = pFl σ a p c → τ 30 c = pOa σ a p c → Q (6, 0) τ)) := by
  apply propext; constructor
  · rintro ⟨a', c', p', h9, hb9⟩; cases h9; exact hb9
  · intro hb9; exact ⟨a, c, p, rfl, hb9⟩

set_option maxRecDepth 100000 in
set_option maxHeartbeats 4000000 in
theorem s_X9_playAround : ∀ av σ Q, w_X9_playAround av σ Q → amCall 5 0 0 TT yX9_playAround cX9_playAround 5 (none) av σ Q := by
  rintro av σ Q ⟨a, c, p, rfl, hst, hp, h9, hse, hc0, hc1, h⟩
  have ha := hst.1
  have hab := isA_b ha
  have hB := hst.2.1
  have c2 := pcnt_b hB 2
  have p0 : (0 : Int) ≤ a := by omega
  have p2 : (0 : Int) ≤ a + 2 := by omega
  have r1 : ∀ τ, rfv TT τ a 1 = a + 2 := fun τ => rfA_1 ha τ
  have l2 : ∀ τ, alen TT τ (a + 2) = 6 := fun τ => alA_2 ha τ
  have hsc := hse c hc0 (by omega)
  generalize ht : σ (a + 2) c = t at *
  have hO := SO_open (SF_rf σ) a t p
  have q2 : pcnt (fillm (up (up (up σ 26 6 a) 26 7 p) 26 8 t) 28 324 (-1)) 6 2 = pcnt σ 6 2 := SF_pcnt hO.1 2
  have q3 : fillm (up (up (up σ 26 6 a) 26 7 p) 26 8 t) 28 324 (-1) (a + 2) = σ (a + 2) := (SF_a hO.1 ha).2.2.1
  refine am_m0 (own := RX9) (A := look a_X9_playAround) (fun X e1 e2 hB => o_X9_playAround e1 e2 hB) rfl (by decide +kernel) rfl rfl 60 (w := 5) ?_
  change vcs _ _ _ _ 60 0 [(25, 26), (16, a), (0, c), (0, p), (6, 0)] [] σ
  simp only [↓reduceIte, inR_0, inR_1, inR_m, vSw2_e, swP_n, swP_c, vI_e, vL_e, vNull_e, vIload_e, vLload_e, vAload_e, vIstore_e, vLstore_e, vAstore_e, vIinc_e, vIadd_e, vIsub_e, vImul_e, vIand_e, vIor_e, vIxor_e, vIshl_e, vIshr_e, vIushr_e, vIdiv_e, vIrem_e, vLadd_e, vLsub_e, vLmul_e, vLand_e, vLor_e, vLxor_e, vLdiv_e, vLrem_e, vLushr_e, vLshl_e, vLcmp_e, vIneg_e, vI2l_e, vL2i_e, vI2b_e, vI2c_e, vDup_e, vPop_e, vDup2_e, vGoto_e, vIcEq_e, vIfEq_e, vIcNe_e, vIfNe_e, vIcLt_e, vIfLt_e, vIcGe_e, vIfGe_e, vIcGt_e, vIfGt_e, vIcLe_e, vIfLe_e, vNonnull_e, vSw_e, vGetI_e, vGetL_e, vGetR_e, vPutI_e, vPutZ_e, vPutL_e, vPutR_e, vIald_e, vIald_s, vLald_e, vBald_e, vBald_s, vAald_e, vIast_e, vLast_e, vBast_e, vAast_e, vAlen_e8, vAlen_e9, vAlen_e10, vAlen_e11, vAlen_e5, vAlen_e3, vGets_e, vCompact_e, vLdcS_e, vIret_e, vZret_e, vCret_e, vBret_e, vLret_e, vVret_e, vAret_e, vCallM_e0, vCallMV_e0, vCallS_e0, vCallSV_e0, vCallM_e1, vCallMV_e1, vCallS_e1, vCallSV_e1, vCallM_e2, vCallMV_e2, vCallS_e2, vCallSV_e2, vCallM_e3, vCallMV_e3, vCallS_e3, vCallSV_e3, vCallM_e4, vCallMV_e4, vCallS_e4, vCallSV_e4, vCallM_e5, vCallMV_e5, vCallS_e5, vCallSV_e5, vCallM_e6, vCallMV_e6, vCallS_e6, vCallSV_e6, vCallM_e7, vCallMV_e7, vCallS_e7, vCallSV_e7, vBad_e, vStrVal_e, vStrCod_e, vForm_e, vCallT_e0, vCallT_e1, vCallT_e2, vCopy_e, rf_0_0, rf_0_1, rf_0_2, rf_0_3, rf_0_4, rf_0_7, rf_0_10, rf_0_11, rf_0_12, rf_0_13, rf_0_14, rf_0_15, rf_0_16, rf_1_0, rf_3_0, rf_3_1, rf_6_0, rf_6_1, rf_9_0, rf_9_1, rf_9_3, rf_13_0, rf_13_1, rf_13_2, rf_16_0, rf_16_1, rf_16_2, rf_16_3, rf_21_0, rf_21_1, rf_21_2, rf_21_3, rf_26_0, rf_26_1, rf_26_2, rf_26_3, rf_26_4, rf_26_5, rf_26_6, rf_31_0, rf_31_2, rf_31_5, rf_31_6, rf_36_0, rf_36_1, rf_36_2, rf_36_3, rf_39_0, rf_39_1, rf_39_2, rf_41_0, rf_41_1, rf_41_2, rf_41_3, rf_5000_1, rf_5000_2, rf_5000_3, rf_5000_4, rf_5000_5, rf_5000_15, rf_5000_16, rf_5000_18, rf_5000_19, rf_5000_20, rf_5000_21, rf_5000_22, rf_5000_23, rf_5000_24, rf_5000_25, rf_5000_26, rf_5000_27, rf_5000_36, rf_5000_37, rf_5000_40, rf_5000_41, rf_5000_42, rf_5000_43, rf_5000_44, rf_5000_45, rf_5000_47, rf_5000_52, rf_5000_54, rf_5000_55, rf_100_0, rf_100_1, rf_103_0, rf_103_1, rf_106_0, rf_106_1, rf_109_0, rf_109_1, al_2, al_4, al_5, al_7, al_8, al_10, al_11, al_12, al_14, al_15, al_17, al_18, al_19, al_20, al_22, al_23, al_24, al_25, al_27, al_28, al_29, al_30, al_32, al_33, al_34, al_35, al_37, al_38, al_40, al_42, al_5001, al_5002, al_5003, al_5004, al_5005, al_5006, al_5007, al_5008, al_5009, al_5010, al_5011, al_5012, al_5013, al_5014, al_5015, al_5016, al_5017, al_5018, al_5019, al_5020, al_5021, al_5022, al_5023, al_5024, al_5025, al_5026, al_9000, al_101, al_102, al_104, al_105, al_107, al_108, al_110, al_111, vcs_e, lg_c0, lg_cs, lg_nil, set_c0, set_cs, okst_0, okst_s, acok_n, acok_c, List.contains_nil, List.contains_cons, Bool.or_false, Bool.false_or, Bool.false_eq_true, if_false, if_true, ite_self, ne_eq, true_and, and_true, not_false_eq_true, not_true_eq_false, false_imp_iff, true_imp_iff, Nat.ble_eq, Bool.and_eq_true, reduceCtorEq, or_false, false_or, or_true, true_or, false_and, and_false, and_self, Int.reduceLE, Int.reduceAdd, Int.reduceSub, Int.reduceMul, Int.reduceNeg, Int.reduceLT, Int.reduceEq, Int.reduceNe, Nat.reduceBEq, Nat.reduceBNe, Nat.reduceEqDiff, amCmp_in, amCmp_lt, amCmp_le, amCmp_gt, amCmp_ge, amCmp_eq, amCmp_ne, Nat.reduceLeDiff, Nat.reduceSub, Bool.and_true, Bool.true_and, Bool.and_self, Bool.or_true, Bool.true_or, isRf_3, isRf_4, isRf_5, isRf_8, isRf_9, isRf_10, isRf_11, isRf_15, isRf_16, isRf_17, isRf_18, isRf_19, isRf_20, isRf_21, isRf_22, isRf_23, isRf_24, isRf_25, isRf_26, isRf_27, isRf_28, k_X9_playAround_0, k_X9_playAround_1, k_X9_playAround_4, k_X9_playAround_7, k_X9_playAround_8, k_X9_playAround_11, k_X9_playAround_12, k_X9_playAround_13, k_X9_playAround_15, k_X9_playAround_16, k_X9_playAround_17, k_X9_playAround_18, k_X9_playAround_20, k_X9_playAround_23, k_X9_playAround_24, k_X9_playAround_25, k_X9_playAround_27, k_X9_playAround_28, k_X9_playAround_31, k_X9_playAround_32, k_X9_playAround_35, k_X9_playAround_38, k_X9_playAround_41, w_X0_holders_e, w_X0_isChair_e, w_X6_many_e, w_X9_openSitter_e, w_X9_playGroup_e, r1, l2, p0, p2, ht, q2, q3]
  have hb := hbits_64 (σ (a + 2)) t (n := (pcnt σ 6 2).toNat) (by omega)
  have hbit : bt (hbits (σ (a + 2)) t (pcnt σ 6 2).toNat) c = 1 := by
    rw [hbits_bit _ _ hc0 (by omega) (by omega), if_pos ⟨by omega, ht⟩]
  rw [if_pos (show 0 ≤ c ∧ c < 6 by omega)]
  repeat' (first | assumption | apply And.intro | intro _)
  all_goals first | omega | exact absurd trivial (by assumption) | exact Or.inr rfl | exact ha | exact hse _ (by assumption) (by assumption) | skip
  all_goals exact ⟨σ, a, t, p, hst, hO, hsc, hp, h9, hb.1, hb.2, fun τ g1 g2 g3 => h τ g1.1 (by rw [g2 c hc0 (by omega), if_pos hbit]; unfold pFl; rw [ht]) (by rw [g3 c hc0 (by omega), if_pos hbit]; unfold pOa; rw [ht])⟩
def a_X9_playMinute : AC := [(0, vAload 0 1), (1, vGetR TT 25 0 22 4), (4, vI 2 5), (5, vCallM w_X6_many 22 1 8), (8, vIstore 4 10), (10, vI 0 11), (11, vIstore 5 13), (13, vIload 5 15), (15, vIload 4 17), (17, vIcGe 96 20), (20, vIload 5 22), (22, vI 6 24), (24, vIcGe 96 27), (27, vAload 1 28), (28, vGetR TT 16 1 8 31), (31, vIload 5 33), (33, vIald TT 34), (34, vIstore 6 36), (36, vAload 1 37), (37, vIload 6 39), (39, vIload 4 41), (41, vCallM w_X0_holders 16 2 44), (44, vCallS w_J6_bitCount_0f7a4 1 47), (47, vIstore 7 49), (49, vAload 0 50), (50, vAload 1 51), (51, vIload 5 53), (53, vIload 6 55), (55, vIload 2 56), (56, vIload 3 57), (57, vIload 7 59), (59, vAload 1 60), (60, vGetI 16 6 63), (63, vCallM w_X9_reckon 25 7 66), (66, vIstore 8 68), (68, vAload 0 69), (69, vGetR TT 25 4 8 72), (72, vIload 5 74), (74, vAload 1 75), (75, vIload 6 77), (77, vCallM w_X0_isIll 16 1 80), (80, vIfEq 87 83), (83, vI 0 84), (84, vGoto 89), (87, vIload 8 89), (89, vIast TT 90), (90, vIinc 5 1 93), (93, vGoto 13), (96, vVret)]
theorem k_X9_playMinute_0 : look a_X9_playMinute 0 = vAload 0 1 := rfl
theorem k_X9_playMinute_1 : look a_X9_playMinute 1 = vGetR TT 25 0 22 4 := rfl
theorem k_X9_playMinute_4 : look a_X9_playMinute 4 = vI 2 5 := rfl
theorem k_X9_playMinute_5 : look a_X9_playMinute 5 = vCallM w_X6_many 22 1 8 := rfl
theorem k_X9_playMinute_8 : look a_X9_playMinute 8 = vIstore 4 10 := rfl
theorem k_X9_playMinute_10 : look a_X9_playMinute 10 = vI 0 11 := rfl
theorem k_X9_playMinute_11 : look a_X9_playMinute 11 = vIstore 5 13 := rfl
theorem k_X9_playMinute_13 : look a_X9_playMinute 13 = vIload 5 15 := rfl
theorem k_X9_playMinute_15 : look a_X9_playMinute 15 = vIload 4 17 := rfl
theorem k_X9_playMinute_17 : look a_X9_playMinute 17 = vIcGe 96 20 := rfl
theorem k_X9_playMinute_20 : look a_X9_playMinute 20 = vIload 5 22 := rfl
theorem k_X9_playMinute_22 : look a_X9_playMinute 22 = vI 6 24 := rfl
theorem k_X9_playMinute_24 : look a_X9_playMinute 24 = vIcGe 96 27 := rfl
theorem k_X9_playMinute_27 : look a_X9_playMinute 27 = vAload 1 28 := rfl
theorem k_X9_playMinute_28 : look a_X9_playMinute 28 = vGetR TT 16 1 8 31 := rfl
theorem k_X9_playMinute_31 : look a_X9_playMinute 31 = vIload 5 33 := rfl
theorem k_X9_playMinute_33 : look a_X9_playMinute 33 = vIald TT 34 := rfl
theorem k_X9_playMinute_34 : look a_X9_playMinute 34 = vIstore 6 36 := rfl
theorem k_X9_playMinute_36 : look a_X9_playMinute 36 = vAload 1 37 := rfl
theorem k_X9_playMinute_37 : look a_X9_playMinute 37 = vIload 6 39 := rfl
theorem k_X9_playMinute_39 : look a_X9_playMinute 39 = vIload 4 41 := rfl
theorem k_X9_playMinute_41 : look a_X9_playMinute 41 = vCallM w_X0_holders 16 2 44 := rfl
theorem k_X9_playMinute_44 : look a_X9_playMinute 44 = vCallS w_J6_bitCount_0f7a4 1 47 := rfl
theorem k_X9_playMinute_47 : look a_X9_playMinute 47 = vIstore 7 49 := rfl
theorem k_X9_playMinute_49 : look a_X9_playMinute 49 = vAload 0 50 := rfl
theorem k_X9_playMinute_50 : look a_X9_playMinute 50 = vAload 1 51 := rfl
theorem k_X9_playMinute_51 : look a_X9_playMinute 51 = vIload 5 53 := rfl
theorem k_X9_playMinute_53 : look a_X9_playMinute 53 = vIload 6 55 := rfl
theorem k_X9_playMinute_55 : look a_X9_playMinute 55 = vIload 2 56 := rfl
theorem k_X9_playMinute_56 : look a_X9_playMinute 56 = vIload 3 57 := rfl
theorem k_X9_playMinute_57 : look a_X9_playMinute 57 = vIload 7 59 := rfl
theorem k_X9_playMinute_59 : look a_X9_playMinute 59 = vAload 1 60 := rfl
theorem k_X9_playMinute_60 : look a_X9_playMinute 60 = vGetI 16 6 63 := rfl
theorem k_X9_playMinute_63 : look a_X9_playMinute 63 = vCallM w_X9_reckon 25 7 66 := rfl
theorem k_X9_playMinute_66 : look a_X9_playMinute 66 = vIstore 8 68 := rfl
theorem k_X9_playMinute_68 : look a_X9_playMinute 68 = vAload 0 69 := rfl
theorem k_X9_playMinute_69 : look a_X9_playMinute 69 = vGetR TT 25 4 8 72 := rfl
theorem k_X9_playMinute_72 : look a_X9_playMinute 72 = vIload 5 74 := rfl
theorem k_X9_playMinute_74 : look a_X9_playMinute 74 = vAload 1 75 := rfl
theorem k_X9_playMinute_75 : look a_X9_playMinute 75 = vIload 6 77 := rfl
theorem k_X9_playMinute_77 : look a_X9_playMinute 77 = vCallM w_X0_isIll 16 1 80 := rfl
theorem k_X9_playMinute_80 : look a_X9_playMinute 80 = vIfEq 87 83 := rfl
theorem k_X9_playMinute_83 : look a_X9_playMinute 83 = vI 0 84 := rfl
theorem k_X9_playMinute_84 : look a_X9_playMinute 84 = vGoto 89 := rfl
theorem k_X9_playMinute_87 : look a_X9_playMinute 87 = vIload 8 89 := rfl
theorem k_X9_playMinute_89 : look a_X9_playMinute 89 = vIast TT 90 := rfl
theorem k_X9_playMinute_90 : look a_X9_playMinute 90 = vIinc 5 1 93 := rfl
theorem k_X9_playMinute_93 : look a_X9_playMinute 93 = vGoto 13 := rfl
theorem k_X9_playMinute_96 : look a_X9_playMinute 96 = vVret := rfl
theorem o_X9_playMinute {X : amX} (e1 : XT X = TT) (e2 : XD X = 3) (hB : amB X RX9 cX9_playMinute (none) 9) : ∀ pc, amOK X pc (look a_X9_playMinute pc) := by
  have hT : amTok (XT X) := e1 ▸ TT_ok
  refine look_ok ?_
  unfold a_X9_playMinute
  refine fc (ok_aload_n hB dX9_playMinute_0) ?_
  refine fc (okt_getR e1 hB hT fl_X9_35 rfl af_9_0 at_9_0 (by decide) dX9_playMinute_1) ?_
  refine fc (ok_iconst hB dX9_playMinute_4) ?_
  refine fc (ok_callM hB hT (e1 ▸ s_X6_many) lk_X9_109 (by rw [e2]; decide) (c := 6) rfl rfl rfl wd_557 wd_558 dX9_playMinute_5) ?_
  refine fc (ok_istore hB (by decide) dX9_playMinute_8) ?_
  refine fc (ok_iconst hB dX9_playMinute_10) ?_
  refine fc (ok_istore hB (by decide) dX9_playMinute_11) ?_
  refine fc (ok_iload hB dX9_playMinute_13) ?_
  refine fc (ok_iload hB dX9_playMinute_15) ?_
  refine fc (ok_icmp_ge hB (t := 96) (by decide) dX9_playMinute_17) ?_
  refine fc (ok_iload hB dX9_playMinute_20) ?_
  refine fc (ok_bipush hB dX9_playMinute_22 (by decide)) ?_
  refine fc (ok_icmp_ge hB (t := 96) (by decide) dX9_playMinute_24) ?_
  refine fc (ok_aload_n hB dX9_playMinute_27) ?_
  refine fc (okt_getR e1 hB hT fl_X9_122 rfl af_0_1 at_0_1 (by decide) dX9_playMinute_28) ?_
  refine fc (ok_iload hB dX9_playMinute_31) ?_
  refine fc (okt_iaload e1 hB dX9_playMinute_33) ?_
  refine fc (ok_istore hB (by decide) dX9_playMinute_34) ?_
  refine fc (ok_aload_n hB dX9_playMinute_36) ?_
  refine fc (ok_iload hB dX9_playMinute_37) ?_
  refine fc (ok_iload hB dX9_playMinute_39) ?_
  refine fc (ok_callM hB hT (e1 ▸ s_X0_holders) lk_X9_116 (by rw [e2]; decide) (c := 0) rfl rfl rfl wd_786 wd_787 dX9_playMinute_41) ?_
  refine fc (ok_callS hB (e1 ▸ s_J6_bitCount_0f7a4) lk_X9_101 (by rw [e2]; decide) wd_803 dX9_playMinute_44) ?_
  refine fc (ok_istore hB (by decide) dX9_playMinute_47) ?_
  refine fc (ok_aload_n hB dX9_playMinute_49) ?_
  refine fc (ok_aload_n hB dX9_playMinute_50) ?_
  refine fc (ok_iload hB dX9_playMinute_51) ?_
  refine fc (ok_iload hB dX9_playMinute_53) ?_
  refine fc (ok_iload_n hB dX9_playMinute_55) ?_
  refine fc (ok_iload_n hB dX9_playMinute_56) ?_
  refine fc (ok_iload hB dX9_playMinute_57) ?_
  refine fc (ok_aload_n hB dX9_playMinute_59) ?_
  refine fc (ok_getI hB hT fl_X9_82 rfl rfl (Or.inl af_0_6) dX9_playMinute_60) ?_
  refine fc (ok_callM hB hT (e1 ▸ s_X9_reckon) lk_X9_85 (by rw [e2]; decide) (c := 9) rfl rfl rfl wd_814 wd_815 dX9_playMinute_63) ?_
  refine fc (ok_istore hB (by decide) dX9_playMinute_66) ?_
  refine fc (ok_aload_n hB dX9_playMinute_68) ?_
  refine fc (okt_getR e1 hB hT fl_X9_22 rfl af_9_4 at_9_4 (by decide) dX9_playMinute_69) ?_
  refine fc (ok_iload hB dX9_playMinute_72) ?_
  refine fc (ok_aload_n hB dX9_playMinute_74) ?_
  refine fc (ok_iload hB dX9_playMinute_75) ?_
  refine fc (ok_callM hB hT (e1 ▸ s_X0_isIll) lk_X9_79 (by rw [e2]; decide) (c := 0) rfl rfl rfl wd_742 wd_743 dX9_playMinute_77) ?_
  refine fc (ok_if_eq hB (t := 87) (by decide) dX9_playMinute_80) ?_
  refine fc (ok_iconst hB dX9_playMinute_83) ?_
  refine fc (ok_goto hB (t := 89) (by decide) dX9_playMinute_84) ?_
  refine fc (ok_iload hB dX9_playMinute_87) ?_
  refine fc (okt_iastore e1 hB dX9_playMinute_89) ?_
  refine fc (ok_iinc hB (by decide) dX9_playMinute_90) ?_
  refine fc (ok_goto hB (t := 13) (by decide) dX9_playMinute_93) ?_
  refine fc (ok_vret hB dX9_playMinute_96) ?_
  exact fn
def inv_pmin (σ : Mem) (a p k : Int) (n pc : Nat) (ls st : List AV) (σ' : Mem) : Prop := pc = 13 ∧ st = [] ∧ SF σ σ' ∧ ∃ (i : Nat) (v6 v7 v8 : AV), ls = [(25, 26), (16, a), (0, p), (0, k), (0, pcnt σ 6 2), (0, (i : Int)), v6, v7, v8] ∧ (i : Int) + n = pcnt σ 6 2 ∧ ∀ j : Int, 0 ≤ j → j < (i : Int) → σ' 29 j = gmv σ a (σ (a + 2) j) p j (popc (hbits (σ (a + 2)) (σ (a + 2) j) (pcnt σ 6 2).toNat)) k
def w_X9_playMinute : WP := fun av σ Q => ∃ (a : Int) (p : Int) (k : Int), av = [(25, 26), (16, a), (0, p), (0, k)] ∧ (stOk σ a ∧ InR p ∧ 0 ≤ k ∧ k < 9 ∧ (∀ i, 0 ≤ i → i < 6 → InR (σ (a + 2) i)) ∧ (∀ τ, SF σ τ → (∀ j, 0 ≤ j → j < pcnt σ 6 2 → τ 29 j = gmv σ a (σ (a + 2) j) p j (popc (hbits (σ (a + 2)) (σ (a + 2) j) (pcnt σ 6 2).toNat)) k) → Q (6, 0) τ))
theorem w_X9_playMinute_e (a : Int) (p : Int) (k : Int) (σ : Mem) (Q : AV → Mem → Prop) : w_X9_playMinute [(25, 26), (16, a), (0, p), (0, k)] σ Q = (stOk σ a ∧ InR p ∧ 0 ≤ k ∧ k < 9 ∧ (∀ i, 0 ≤ i → i < 6 → InR (σ (a + 2) i)) ∧ (∀ τ, SF σ τ → (∀ j, 0 ≤ j → j < pcnt σ 6 2 → τ 29 j = gmv σ a (σ (a + 2) j) p j (popc (hbits (σ (a + 2)) (σ (a + 2) j) (pcnt σ 6 2).toNat)) k) → Q (6, 0) τ)) := by
  apply propext; constructor
  · rintro ⟨a', p', k', h9, hb9⟩; cases h9; exact hb9
  · intro hb9; exact ⟨a, p, k, rfl, hb9⟩

set_option maxRecDepth 100000 in
set_option maxHeartbeats 4000000 in
theorem s_X9_playMinute : ∀ av σ Q, w_X9_playMinute av σ Q → amCall 3 0 0 TT yX9_playMinute cX9_playMinute 9 (none) av σ Q := by
  rintro av σ Q ⟨a, p, k, rfl, hst, hp, hk0, hk1, hse, h⟩
  obtain ⟨ha, hB, hlw, hhe, hev, hil⟩ := hst
  have hab := isA_b ha
  have c2 := pcnt_b hB 2
  have p0 : (0 : Int) ≤ a := by omega
  have p2 : (0 : Int) ≤ a + 2 := by omega
  have r1 : ∀ τ, rfv TT τ a 1 = a + 2 := fun τ => rfA_1 ha τ
  have l2 : ∀ τ, alen TT τ (a + 2) = 6 := fun τ => alA_2 ha τ
  refine am_m [13] (inv_pmin σ a p k) (own := RX9) (A := look a_X9_playMinute) (fun X e1 e2 hB => o_X9_playMinute e1 e2 hB) rfl (by decide +kernel) rfl rfl ?_ ⟨60, ?_⟩ (w := 9)
  · rintro n pc ls st σ' ⟨rfl, rfl, hF, i, v6, v7, v8, rfl, hk, hf⟩
    obtain ⟨ra, ra1, ra2, -, -⟩ := SF_a hF ha
    refine ⟨90, ?_⟩
    by_cases hlt : (i : Int) < pcnt σ 6 2
    · have hsi := hse i (by omega) (by omega)
      generalize ht : σ (a + 2) i = t at *
      have hb := hbits_64 (σ (a + 2)) t (n := (pcnt σ 6 2).toNat) (by omega)
      have hbit : bt (hbits (σ (a + 2)) t (pcnt σ 6 2).toNat) i = 1 := by rw [hbits_bit _ _ (by omega) (by omega) (by omega), if_pos ⟨by omega, ht⟩]
      have pb := popc_b (hbits (σ (a + 2)) t (pcnt σ 6 2).toNat)
      have pb1 := popc_bit hb.1 hb.2 (by omega) (by omega) hbit
      have hh := hhe i (by omega) (by omega)
      simp only [↓reduceIte, inR_0, inR_1, inR_m, vSw2_e, swP_n, swP_c, vI_e, vL_e, vNull_e, vIload_e, vLload_e, vAload_e, vIstore_e, vLstore_e, vAstore_e, vIinc_e, vIadd_e, vIsub_e, vImul_e, vIand_e, vIor_e, vIxor_e, vIshl_e, vIshr_e, vIushr_e, vIdiv_e, vIrem_e, vLadd_e, vLsub_e, vLmul_e, vLand_e, vLor_e, vLxor_e, vLdiv_e, vLrem_e, vLushr_e, vLshl_e, vLcmp_e, vIneg_e, vI2l_e, vL2i_e, vI2b_e, vI2c_e, vDup_e, vPop_e, vDup2_e, vGoto_e, vIcEq_e, vIfEq_e, vIcNe_e, vIfNe_e, vIcLt_e, vIfLt_e, vIcGe_e, vIfGe_e, vIcGt_e, vIfGt_e, vIcLe_e, vIfLe_e, vNonnull_e, vSw_e, vGetI_e, vGetL_e, vGetR_e, vPutI_e, vPutZ_e, vPutL_e, vPutR_e, vIald_e, vIald_s, vLald_e, vBald_e, vBald_s, vAald_e, vIast_e, vLast_e, vBast_e, vAast_e, vAlen_e8, vAlen_e9, vAlen_e10, vAlen_e11, vAlen_e5, vAlen_e3, vGets_e, vCompact_e, vLdcS_e, vIret_e, vZret_e, vCret_e, vBret_e, vLret_e, vVret_e, vAret_e, vCallM_e0, vCallMV_e0, vCallS_e0, vCallSV_e0, vCallM_e1, vCallMV_e1, vCallS_e1, vCallSV_e1, vCallM_e2, vCallMV_e2, vCallS_e2, vCallSV_e2, vCallM_e3, vCallMV_e3, vCallS_e3, vCallSV_e3, vCallM_e4, vCallMV_e4, vCallS_e4, vCallSV_e4, vCallM_e5, vCallMV_e5, vCallS_e5, vCallSV_e5, vCallM_e6, vCallMV_e6, vCallS_e6, vCallSV_e6, vCallM_e7, vCallMV_e7, vCallS_e7, vCallSV_e7, vBad_e, vStrVal_e, vStrCod_e, vForm_e, vCallT_e0, vCallT_e1, vCallT_e2, vCopy_e, rf_0_0, rf_0_1, rf_0_2, rf_0_3, rf_0_4, rf_0_7, rf_0_10, rf_0_11, rf_0_12, rf_0_13, rf_0_14, rf_0_15, rf_0_16, rf_1_0, rf_3_0, rf_3_1, rf_6_0, rf_6_1, rf_9_0, rf_9_1, rf_9_3, rf_13_0, rf_13_1, rf_13_2, rf_16_0, rf_16_1, rf_16_2, rf_16_3, rf_21_0, rf_21_1, rf_21_2, rf_21_3, rf_26_0, rf_26_1, rf_26_2, rf_26_3, rf_26_4, rf_26_5, rf_26_6, rf_31_0, rf_31_2, rf_31_5, rf_31_6, rf_36_0, rf_36_1, rf_36_2, rf_36_3, rf_39_0, rf_39_1, rf_39_2, rf_41_0, rf_41_1, rf_41_2, rf_41_3, rf_5000_1, rf_5000_2, rf_5000_3, rf_5000_4, rf_5000_5, rf_5000_15, rf_5000_16, rf_5000_18, rf_5000_19, rf_5000_20, rf_5000_21, rf_5000_22, rf_5000_23, rf_5000_24, rf_5000_25, rf_5000_26, rf_5000_27, rf_5000_36, rf_5000_37, rf_5000_40, rf_5000_41, rf_5000_42, rf_5000_43, rf_5000_44, rf_5000_45, rf_5000_47, rf_5000_52, rf_5000_54, rf_5000_55, rf_100_0, rf_100_1, rf_103_0, rf_103_1, rf_106_0, rf_106_1, rf_109_0, rf_109_1, al_2, al_4, al_5, al_7, al_8, al_10, al_11, al_12, al_14, al_15, al_17, al_18, al_19, al_20, al_22, al_23, al_24, al_25, al_27, al_28, al_29, al_30, al_32, al_33, al_34, al_35, al_37, al_38, al_40, al_42, al_5001, al_5002, al_5003, al_5004, al_5005, al_5006, al_5007, al_5008, al_5009, al_5010, al_5011, al_5012, al_5013, al_5014, al_5015, al_5016, al_5017, al_5018, al_5019, al_5020, al_5021, al_5022, al_5023, al_5024, al_5025, al_5026, al_9000, al_101, al_102, al_104, al_105, al_107, al_108, al_110, al_111, vcs_e, lg_c0, lg_cs, lg_nil, set_c0, set_cs, okst_0, okst_s, acok_n, acok_c, List.contains_nil, List.contains_cons, Bool.or_false, Bool.false_or, Bool.false_eq_true, if_false, if_true, ite_self, ne_eq, true_and, and_true, not_false_eq_true, not_true_eq_false, false_imp_iff, true_imp_iff, Nat.ble_eq, Bool.and_eq_true, reduceCtorEq, or_false, false_or, or_true, true_or, false_and, and_false, and_self, Int.reduceLE, Int.reduceAdd, Int.reduceSub, Int.reduceMul, Int.reduceNeg, Int.reduceLT, Int.reduceEq, Int.reduceNe, Nat.reduceBEq, Nat.reduceBNe, Nat.reduceEqDiff, amCmp_in, amCmp_lt, amCmp_le, amCmp_gt, amCmp_ge, amCmp_eq, amCmp_ne, Nat.reduceLeDiff, Nat.reduceSub, Bool.and_true, Bool.true_and, Bool.and_self, Bool.or_true, Bool.true_or, isRf_3, isRf_4, isRf_5, isRf_8, isRf_9, isRf_10, isRf_11, isRf_15, isRf_16, isRf_17, isRf_18, isRf_19, isRf_20, isRf_21, isRf_22, isRf_23, isRf_24, isRf_25, isRf_26, isRf_27, isRf_28, k_X9_playMinute_0, k_X9_playMinute_1, k_X9_playMinute_4, k_X9_playMinute_5, k_X9_playMinute_8, k_X9_playMinute_10, k_X9_playMinute_11, k_X9_playMinute_13, k_X9_playMinute_15, k_X9_playMinute_17, k_X9_playMinute_20, k_X9_playMinute_22, k_X9_playMinute_24, k_X9_playMinute_27, k_X9_playMinute_28, k_X9_playMinute_31, k_X9_playMinute_33, k_X9_playMinute_34, k_X9_playMinute_36, k_X9_playMinute_37, k_X9_playMinute_39, k_X9_playMinute_41, k_X9_playMinute_44, k_X9_playMinute_47, k_X9_playMinute_49, k_X9_playMinute_50, k_X9_playMinute_51, k_X9_playMinute_53, k_X9_playMinute_55, k_X9_playMinute_56, k_X9_playMinute_57, k_X9_playMinute_59, k_X9_playMinute_60, k_X9_playMinute_63, k_X9_playMinute_66, k_X9_playMinute_68, k_X9_playMinute_69, k_X9_playMinute_72, k_X9_playMinute_74, k_X9_playMinute_75, k_X9_playMinute_77, k_X9_playMinute_80, k_X9_playMinute_83, k_X9_playMinute_84, k_X9_playMinute_87, k_X9_playMinute_89, k_X9_playMinute_90, k_X9_playMinute_93, k_X9_playMinute_96, w_J6_bitCount_0f7a4_e, w_X0_holders_e, w_X0_isIll_e, w_X6_many_e, w_X9_reckon_e, r1, l2, p0, p2, ra, ra1, ra2, ht, bcx_popc hb.1 hb.2, SF_pval hF, SF_rkV hF hlw]
      have nx : ∀ τ v, LF σ' τ → v = gmv σ a t p i (popc (hbits (σ (a + 2)) t (pcnt σ 6 2).toNat)) k → ∃ k', k' < n ∧ inv_pmin σ a p k k' 13 [(25, 26), (16, a), (0, p), (0, k), (0, pcnt σ 6 2), (0, (i : Int) + 1), (0, t), (0, popc (hbits (σ (a + 2)) t (pcnt σ 6 2).toNat)), (0, rkV σ (pval σ 6 1 p (k % 3)) (σ (a + 1) i) (pval σ 6 3 t 0) (popc (hbits (σ (a + 2)) t (pcnt σ 6 2).toNat)) k (σ a 6))] [] (up τ 29 i v) := fun τ v g1 g2 => by
        refine ⟨n - 1, by omega, rfl, rfl, SF_up (SF_LF hF g1) (by omega), i + 1, _, _, _, rfl, by omega, fun j j0 j1 => ?_⟩
        by_cases e : j = i
        · rw [e, up_s, g2, ht]
        · rw [up_nj _ e, g1 29 (by decide) (by decide) (by decide) (by decide) (by decide)]
          exact hf j j0 (by omega)
      have bh : bnd (σ (a + 1) i) := ⟨by omega, by omega⟩
      have be : bnd (σ a 6) := ⟨by omega, by omega⟩
      have hB' := SF_planB hF hB
      have hlw' := SF_lawOk hF hlw
      have hra : ∀ τ, LF σ' τ → τ a = σ a := fun τ hτ => by rw [hτ a (by omega) (by omega) (by omega) (by omega) (by omega)]; exact ra
      have y0 := fun (τ : Mem) (hτ : LF σ' τ) (hc : (if 0 ≤ t ∧ t < 6 ∧ bt (τ a 4) t = 1 then (1 : Int) else 0) = 0) => nx τ (rkV σ (pval σ 6 1 p (k % 3)) (σ (a + 1) i) (pval σ 6 3 t 0) (popc (hbits (σ (a + 2)) t (pcnt σ 6 2).toNat)) k (σ a 6)) hτ (by
        unfold gmv
        by_cases c : 0 ≤ t ∧ t < 6 ∧ bt (σ a 4) t = 1
        · rw [hra τ hτ, if_pos c] at hc; omega
        · rw [if_neg c])
      have y1 := fun (τ : Mem) (hτ : LF σ' τ) (hc : ¬ (if 0 ≤ t ∧ t < 6 ∧ bt (τ a 4) t = 1 then (1 : Int) else 0) = 0) => nx τ 0 hτ (by
        unfold gmv
        by_cases c : 0 ≤ t ∧ t < 6 ∧ bt (σ a 4) t = 1
        · rw [if_pos c]
        · rw [hra τ hτ, if_neg c] at hc; omega)
      have y2 : ∀ τ : Mem, InR (if 0 ≤ t ∧ t < 6 ∧ bt (τ a 4) t = 1 then (1 : Int) else 0) := fun τ => by split <;> exact ⟨by omega, by omega⟩
      repeat' (first | assumption | apply And.intro | intro _)
      all_goals first | omega | exact absurd trivial (by assumption) | exact ha | (have e9 := hra _ ‹LF σ' _›; rw [e9]; omega) | exact (y2 _).1 | exact (y2 _).2 | exact y0 _ (by assumption) (by assumption) | exact y1 _ (by assumption) (by assumption)
    · have e9 : (i : Int) = pcnt σ 6 2 := by omega
      have hh := h σ' hF (fun j j0 j1 => hf j j0 (by omega))
      simp only [↓reduceIte, inR_0, inR_1, inR_m, vSw2_e, swP_n, swP_c, vI_e, vL_e, vNull_e, vIload_e, vLload_e, vAload_e, vIstore_e, vLstore_e, vAstore_e, vIinc_e, vIadd_e, vIsub_e, vImul_e, vIand_e, vIor_e, vIxor_e, vIshl_e, vIshr_e, vIushr_e, vIdiv_e, vIrem_e, vLadd_e, vLsub_e, vLmul_e, vLand_e, vLor_e, vLxor_e, vLdiv_e, vLrem_e, vLushr_e, vLshl_e, vLcmp_e, vIneg_e, vI2l_e, vL2i_e, vI2b_e, vI2c_e, vDup_e, vPop_e, vDup2_e, vGoto_e, vIcEq_e, vIfEq_e, vIcNe_e, vIfNe_e, vIcLt_e, vIfLt_e, vIcGe_e, vIfGe_e, vIcGt_e, vIfGt_e, vIcLe_e, vIfLe_e, vNonnull_e, vSw_e, vGetI_e, vGetL_e, vGetR_e, vPutI_e, vPutZ_e, vPutL_e, vPutR_e, vIald_e, vIald_s, vLald_e, vBald_e, vBald_s, vAald_e, vIast_e, vLast_e, vBast_e, vAast_e, vAlen_e8, vAlen_e9, vAlen_e10, vAlen_e11, vAlen_e5, vAlen_e3, vGets_e, vCompact_e, vLdcS_e, vIret_e, vZret_e, vCret_e, vBret_e, vLret_e, vVret_e, vAret_e, vCallM_e0, vCallMV_e0, vCallS_e0, vCallSV_e0, vCallM_e1, vCallMV_e1, vCallS_e1, vCallSV_e1, vCallM_e2, vCallMV_e2, vCallS_e2, vCallSV_e2, vCallM_e3, vCallMV_e3, vCallS_e3, vCallSV_e3, vCallM_e4, vCallMV_e4, vCallS_e4, vCallSV_e4, vCallM_e5, vCallMV_e5, vCallS_e5, vCallSV_e5, vCallM_e6, vCallMV_e6, vCallS_e6, vCallSV_e6, vCallM_e7, vCallMV_e7, vCallS_e7, vCallSV_e7, vBad_e, vStrVal_e, vStrCod_e, vForm_e, vCallT_e0, vCallT_e1, vCallT_e2, vCopy_e, rf_0_0, rf_0_1, rf_0_2, rf_0_3, rf_0_4, rf_0_7, rf_0_10, rf_0_11, rf_0_12, rf_0_13, rf_0_14, rf_0_15, rf_0_16, rf_1_0, rf_3_0, rf_3_1, rf_6_0, rf_6_1, rf_9_0, rf_9_1, rf_9_3, rf_13_0, rf_13_1, rf_13_2, rf_16_0, rf_16_1, rf_16_2, rf_16_3, rf_21_0, rf_21_1, rf_21_2, rf_21_3, rf_26_0, rf_26_1, rf_26_2, rf_26_3, rf_26_4, rf_26_5, rf_26_6, rf_31_0, rf_31_2, rf_31_5, rf_31_6, rf_36_0, rf_36_1, rf_36_2, rf_36_3, rf_39_0, rf_39_1, rf_39_2, rf_41_0, rf_41_1, rf_41_2, rf_41_3, rf_5000_1, rf_5000_2, rf_5000_3, rf_5000_4, rf_5000_5, rf_5000_15, rf_5000_16, rf_5000_18, rf_5000_19, rf_5000_20, rf_5000_21, rf_5000_22, rf_5000_23, rf_5000_24, rf_5000_25, rf_5000_26, rf_5000_27, rf_5000_36, rf_5000_37, rf_5000_40, rf_5000_41, rf_5000_42, rf_5000_43, rf_5000_44, rf_5000_45, rf_5000_47, rf_5000_52, rf_5000_54, rf_5000_55, rf_100_0, rf_100_1, rf_103_0, rf_103_1, rf_106_0, rf_106_1, rf_109_0, rf_109_1, al_2, al_4, al_5, al_7, al_8, al_10, al_11, al_12, al_14, al_15, al_17, al_18, al_19, al_20, al_22, al_23, al_24, al_25, al_27, al_28, al_29, al_30, al_32, al_33, al_34, al_35, al_37, al_38, al_40, al_42, al_5001, al_5002, al_5003, al_5004, al_5005, al_5006, al_5007, al_5008, al_5009, al_5010, al_5011, al_5012, al_5013, al_5014, al_5015, al_5016, al_5017, al_5018, al_5019, al_5020, al_5021, al_5022, al_5023, al_5024, al_5025, al_5026, al_9000, al_101, al_102, al_104, al_105, al_107, al_108, al_110, al_111, vcs_e, lg_c0, lg_cs, lg_nil, set_c0, set_cs, okst_0, okst_s, acok_n, acok_c, List.contains_nil, List.contains_cons, Bool.or_false, Bool.false_or, Bool.false_eq_true, if_false, if_true, ite_self, ne_eq, true_and, and_true, not_false_eq_true, not_true_eq_false, false_imp_iff, true_imp_iff, Nat.ble_eq, Bool.and_eq_true, reduceCtorEq, or_false, false_or, or_true, true_or, false_and, and_false, and_self, Int.reduceLE, Int.reduceAdd, Int.reduceSub, Int.reduceMul, Int.reduceNeg, Int.reduceLT, Int.reduceEq, Int.reduceNe, Nat.reduceBEq, Nat.reduceBNe, Nat.reduceEqDiff, amCmp_in, amCmp_lt, amCmp_le, amCmp_gt, amCmp_ge, amCmp_eq, amCmp_ne, Nat.reduceLeDiff, Nat.reduceSub, Bool.and_true, Bool.true_and, Bool.and_self, Bool.or_true, Bool.true_or, isRf_3, isRf_4, isRf_5, isRf_8, isRf_9, isRf_10, isRf_11, isRf_15, isRf_16, isRf_17, isRf_18, isRf_19, isRf_20, isRf_21, isRf_22, isRf_23, isRf_24, isRf_25, isRf_26, isRf_27, isRf_28, k_X9_playMinute_0, k_X9_playMinute_1, k_X9_playMinute_4, k_X9_playMinute_5, k_X9_playMinute_8, k_X9_playMinute_10, k_X9_playMinute_11, k_X9_playMinute_13, k_X9_playMinute_15, k_X9_playMinute_17, k_X9_playMinute_20, k_X9_playMinute_22, k_X9_playMinute_24, k_X9_playMinute_27, k_X9_playMinute_28, k_X9_playMinute_31, k_X9_playMinute_33, k_X9_playMinute_34, k_X9_playMinute_36, k_X9_playMinute_37, k_X9_playMinute_39, k_X9_playMinute_41, k_X9_playMinute_44, k_X9_playMinute_47, k_X9_playMinute_49, k_X9_playMinute_50, k_X9_playMinute_51, k_X9_playMinute_53, k_X9_playMinute_55, k_X9_playMinute_56, k_X9_playMinute_57, k_X9_playMinute_59, k_X9_playMinute_60, k_X9_playMinute_63, k_X9_playMinute_66, k_X9_playMinute_68, k_X9_playMinute_69, k_X9_playMinute_72, k_X9_playMinute_74, k_X9_playMinute_75, k_X9_playMinute_77, k_X9_playMinute_80, k_X9_playMinute_83, k_X9_playMinute_84, k_X9_playMinute_87, k_X9_playMinute_89, k_X9_playMinute_90, k_X9_playMinute_93, k_X9_playMinute_96]
      repeat' (first | assumption | apply And.intro | intro _)
      all_goals first | omega | exact absurd trivial (by assumption) | exact hh
  · change vcs _ _ _ _ 60 0 [(25, 26), (16, a), (0, p), (0, k), (6, 0), (6, 0), (6, 0), (6, 0), (6, 0)] [] σ
    simp only [↓reduceIte, inR_0, inR_1, inR_m, vI_e, vL_e, vNull_e, vIload_e, vLload_e, vAload_e, vIstore_e, vLstore_e, vAstore_e, vIinc_e, vIadd_e, vIsub_e, vImul_e, vIand_e, vIor_e, vIxor_e, vIshl_e, vIshr_e, vIushr_e, vIdiv_e, vIrem_e, vLadd_e, vLsub_e, vLmul_e, vLand_e, vLor_e, vLxor_e, vLdiv_e, vLrem_e, vLushr_e, vLshl_e, vLcmp_e, vIneg_e, vI2l_e, vL2i_e, vI2b_e, vI2c_e, vDup_e, vPop_e, vDup2_e, vGoto_e, vIcEq_e, vIfEq_e, vIcNe_e, vIfNe_e, vIcLt_e, vIfLt_e, vIcGe_e, vIfGe_e, vIcGt_e, vIfGt_e, vIcLe_e, vIfLe_e, vNonnull_e, vSw_e, vGetI_e, vGetL_e, vGetR_e, vPutI_e, vPutZ_e, vPutL_e, vPutR_e, vIald_e, vIald_s, vLald_e, vBald_e, vBald_s, vAald_e, vIast_e, vLast_e, vBast_e, vAast_e, vAlen_e8, vAlen_e9, vAlen_e10, vAlen_e11, vAlen_e5, vAlen_e3, vGets_e, vCompact_e, vLdcS_e, vIret_e, vZret_e, vCret_e, vBret_e, vLret_e, vVret_e, vAret_e, vCallM_e0, vCallMV_e0, vCallS_e0, vCallSV_e0, vCallM_e1, vCallMV_e1, vCallS_e1, vCallSV_e1, vCallM_e2, vCallMV_e2, vCallS_e2, vCallSV_e2, vCallM_e3, vCallMV_e3, vCallS_e3, vCallSV_e3, vCallM_e4, vCallMV_e4, vCallS_e4, vCallSV_e4, vCallM_e5, vCallMV_e5, vCallS_e5, vCallSV_e5, vCallM_e6, vCallMV_e6, vCallS_e6, vCallSV_e6, vCallM_e7, vCallMV_e7, vCallS_e7, vCallSV_e7, vBad_e, vStrVal_e, vStrCod_e, vForm_e, vCallT_e0, vCallT_e1, vCallT_e2, vCopy_e, rf_0_0, rf_0_1, rf_0_2, rf_0_3, rf_0_4, rf_0_7, rf_0_10, rf_0_11, rf_0_12, rf_0_13, rf_0_14, rf_0_15, rf_0_16, rf_1_0, rf_3_0, rf_3_1, rf_6_0, rf_6_1, rf_9_0, rf_9_1, rf_9_3, rf_13_0, rf_13_1, rf_13_2, rf_16_0, rf_16_1, rf_16_2, rf_16_3, rf_21_0, rf_21_1, rf_21_2, rf_21_3, rf_26_0, rf_26_1, rf_26_2, rf_26_3, rf_26_4, rf_26_5, rf_26_6, rf_31_0, rf_31_2, rf_31_5, rf_31_6, rf_36_0, rf_36_1, rf_36_2, rf_36_3, rf_39_0, rf_39_1, rf_39_2, rf_41_0, rf_41_1, rf_41_2, rf_41_3, rf_5000_1, rf_5000_2, rf_5000_3, rf_5000_4, rf_5000_5, rf_5000_15, rf_5000_16, rf_5000_18, rf_5000_19, rf_5000_20, rf_5000_21, rf_5000_22, rf_5000_23, rf_5000_24, rf_5000_25, rf_5000_26, rf_5000_27, rf_5000_36, rf_5000_37, rf_5000_40, rf_5000_41, rf_5000_42, rf_5000_43, rf_5000_44, rf_5000_45, rf_5000_47, rf_5000_52, rf_5000_54, rf_5000_55, rf_100_0, rf_100_1, rf_103_0, rf_103_1, rf_106_0, rf_106_1, rf_109_0, rf_109_1, al_2, al_4, al_5, al_7, al_8, al_10, al_11, al_12, al_14, al_15, al_17, al_18, al_19, al_20, al_22, al_23, al_24, al_25, al_27, al_28, al_29, al_30, al_32, al_33, al_34, al_35, al_37, al_38, al_40, al_42, al_5001, al_5002, al_5003, al_5004, al_5005, al_5006, al_5007, al_5008, al_5009, al_5010, al_5011, al_5012, al_5013, al_5014, al_5015, al_5016, al_5017, al_5018, al_5019, al_5020, al_5021, al_5022, al_5023, al_5024, al_5025, al_5026, al_9000, al_101, al_102, al_104, al_105, al_107, al_108, al_110, al_111, vcs_e, lg_c0, lg_cs, lg_nil, set_c0, set_cs, okst_0, okst_s, acok_n, acok_c, List.contains_nil, List.contains_cons, Bool.or_false, Bool.false_or, Bool.false_eq_true, if_false, if_true, ite_self, ne_eq, true_and, and_true, not_false_eq_true, not_true_eq_false, false_imp_iff, true_imp_iff, Nat.ble_eq, Bool.and_eq_true, reduceCtorEq, or_false, false_or, or_true, true_or, false_and, and_false, and_self, Int.reduceLE, Int.reduceAdd, Int.reduceSub, Int.reduceMul, Int.reduceNeg, Int.reduceLT, Int.reduceEq, Int.reduceNe, Nat.reduceBEq, Nat.reduceBNe, Nat.reduceEqDiff, amCmp_in, amCmp_lt, amCmp_le, amCmp_gt, amCmp_ge, amCmp_eq, amCmp_ne, Nat.reduceLeDiff, Nat.reduceSub, Bool.and_true, Bool.true_and, Bool.and_self, Bool.or_true, Bool.true_or, isRf_3, isRf_4, isRf_5, isRf_8, isRf_9, isRf_10, isRf_11, isRf_15, isRf_16, isRf_17, isRf_18, isRf_19, isRf_20, isRf_21, isRf_22, isRf_23, isRf_24, isRf_25, isRf_26, isRf_27, isRf_28, k_X9_playMinute_0, k_X9_playMinute_1, k_X9_playMinute_4, k_X9_playMinute_5, k_X9_playMinute_8, k_X9_playMinute_10, k_X9_playMinute_11, k_X9_playMinute_13, k_X9_playMinute_15, k_X9_playMinute_17, k_X9_playMinute_20, k_X9_playMinute_22, k_X9_playMinute_24, k_X9_playMinute_27, k_X9_playMinute_28, k_X9_playMinute_31, k_X9_playMinute_33, k_X9_playMinute_34, k_X9_playMinute_36, k_X9_playMinute_37, k_X9_playMinute_39, k_X9_playMinute_41, k_X9_playMinute_44, k_X9_playMinute_47, k_X9_playMinute_49, k_X9_playMinute_50, k_X9_playMinute_51, k_X9_playMinute_53, k_X9_playMinute_55, k_X9_playMinute_56, k_X9_playMinute_57, k_X9_playMinute_59, k_X9_playMinute_60, k_X9_playMinute_63, k_X9_playMinute_66, k_X9_playMinute_68, k_X9_playMinute_69, k_X9_playMinute_72, k_X9_playMinute_74, k_X9_playMinute_75, k_X9_playMinute_77, k_X9_playMinute_80, k_X9_playMinute_83, k_X9_playMinute_84, k_X9_playMinute_87, k_X9_playMinute_89, k_X9_playMinute_90, k_X9_playMinute_93, k_X9_playMinute_96, w_J6_bitCount_0f7a4_e, w_X0_holders_e, w_X0_isIll_e, w_X6_many_e, w_X9_reckon_e]
    have i9 : ∃ k', inv_pmin σ a p k k' 13 [(25, 26), (16, a), (0, p), (0, k), (0, pcnt σ 6 2), (0, 0), (6, 0), (6, 0), (6, 0)] [] σ := ⟨(pcnt σ 6 2).toNat, rfl, rfl, SF_rf σ, 0, _, _, _, rfl, by omega, fun j j0 j1 => by omega⟩
    repeat' (first | assumption | apply And.intro | intro _)
    all_goals first | omega | exact absurd trivial (by assumption) | exact Or.inr rfl | exact i9
