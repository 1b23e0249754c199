/-! Plan: reading a clause -/
def sk (t : Int → Int) (n p : Int) : Int := skp t p (n - p).toNat
theorem sk_b (t : Int → Int) {n p : Int} (h : p ≤ n) : p ≤ sk t n p ∧ sk t n p ≤ n := by
  have := skp_bd t (n - p).toNat p
  unfold sk; omega
theorem tsk_sk (σ : Mem) : tsk σ = sk (tsg σ) (σ 1 1) (σ 1 2) := rfl
/-- a row of the memory replaced -/
def setv (σ : Mem) (a : Int) (f : Int → Int) : Mem := fun b j => if b = a then f j else σ b j
theorem setv_s (σ : Mem) (a : Int) (f : Int → Int) : setv σ a f a = f := by funext j; unfold setv; rw [if_pos rfl]
theorem setv_o (σ : Mem) {a b : Int} (f : Int → Int) (h : b ≠ a) : setv σ a f b = σ b := by funext j; unfold setv; rw [if_neg h]
theorem setv_id (σ : Mem) (a : Int) : setv σ a (σ a) = σ := by
  funext b j; unfold setv; split
  · rename_i h; rw [h]
  · rfl
theorem setv_setv (σ : Mem) (a : Int) (f g : Int → Int) : setv (setv σ a f) a g = setv σ a g := by
  funext b j; unfold setv; split <;> rfl
def upf (f : Int → Int) (k v : Int) : Int → Int := fun j => if j = k then v else f j
theorem up_setv (σ : Mem) (a k v : Int) (f : Int → Int) : up (setv σ a f) a k v = setv σ a (upf f k v) := by
  funext b j; unfold up setv upf
  by_cases h : b = a
  · subst h
    simp
  · rw [if_neg (by rintro ⟨h1, -⟩; exact h h1), if_neg h, if_neg h]
theorem up_setv_o (σ : Mem) {a b : Int} (k v : Int) (f : Int → Int) (h : a ≠ b) : up (setv σ a f) b k v = setv (up σ b k v) a f := by
  funext c j; unfold up setv
  by_cases h1 : c = a
  · subst h1
    rw [if_neg (by rintro ⟨h2, -⟩; exact h h2), if_pos rfl, if_pos rfl]
  · rw [if_neg h1, if_neg h1]
theorem up_as_setv (σ : Mem) (a k v : Int) : up σ a k v = setv σ a (upf (σ a) k v) := by
  rw [← up_setv, setv_id]
theorem tsg_cong {σ σ' : Mem} (h1 : σ' 1 1 = σ 1 1) (h2 : σ' 2 = σ 2) : tsg σ' = tsg σ := by
  funext i; unfold tsg; rw [h1, h2]

theorem wd_541 : Cond.methodLink RX6 67 yX10_number ∈ TBL := tb_tab (List.mem_of_getElem? (i := 541) (by decide +kernel)) rfl
theorem wd_544 : Cond.code yX10_number cX10_number 4 (some .int) ∈ TBL := tb_tab (List.mem_of_getElem? (i := 544) (by decide +kernel)) rfl
theorem lk_X6_67 : amLk RX6 67 yX10_number cX10_number 4 (some .int) 1 := ⟨wd_541, wd_2, wd_544, by decide +kernel, by decide +kernel, by decide⟩
theorem wd_542 : Cond.instanceMethod yX10_number ∈ TBL := tb_tab (List.mem_of_getElem? (i := 542) (by decide +kernel)) rfl
theorem wd_543 : Cond.selects RX10 yX10_number yX10_number ∈ TBL := tb_tab (List.mem_of_getElem? (i := 543) (by decide +kernel)) rfl
theorem wd_49 : Cond.fieldLink RX6 28 "ArmchairHouse$Tape" "at" "I" ∈ TBL := tb_tab (List.mem_of_getElem? (i := 49) (by decide +kernel)) rfl
theorem fl_X6_28 : amFl RX6 10 2 28 RX10 TX10 3 := ⟨rfl, inT_10, by decide, wd_49⟩
theorem wd_549 : Cond.methodLink RX6 71 yX6_fits ∈ TBL := tb_tab (List.mem_of_getElem? (i := 549) (by decide +kernel)) rfl
theorem wd_551 : Cond.code yX6_fits cX6_fits 3 (some .boolean) ∈ TBL := tb_tab (List.mem_of_getElem? (i := 551) (by decide +kernel)) rfl
theorem lk_X6_71 : amLk RX6 71 yX6_fits cX6_fits 3 (some .boolean) 3 := ⟨wd_549, wd_3, wd_551, by decide +kernel, by decide +kernel, by decide⟩
theorem wd_550 : Cond.static yX6_fits ∈ TBL := tb_tab (List.mem_of_getElem? (i := 550) (by decide +kernel)) rfl
def a_X6_readItem : AC := [(0, vAload 1 1), (1, vI 2 2), (2, vCallM w_X10_number 26 1 5), (5, vIstore 4 7), (7, vIload 4 9), (9, vI (-1) 10), (10, vIcNe 18 13), (13, vAload 1 14), (14, vGetI 26 2 17), (17, vIret), (18, vIload 2 19), (19, vIload 3 20), (20, vIload 4 22), (22, vCallS w_X6_fits 3 25), (25, vIfNe 35 28), (28, vAload 1 29), (29, vGetI 26 2 32), (32, vI 1 33), (33, vIsub 34), (34, vIret), (35, vIload 2 36), (36, vAload 0 37), (37, vIload 2 38), (38, vCallM w_X6_many 22 1 41), (41, vI 1 42), (42, vIsub 43), (43, vIload 3 44), (44, vCallS w_X6_slot 3 47), (47, vIstore 5 49), (49, vIload 5 51), (51, vI (-1) 52), (52, vIcEq 64 55), (55, vAload 0 56), (56, vGetR TT 22 0 8 59), (59, vIload 5 61), (61, vIload 4 63), (63, vIast TT 64), (64, vI (-1) 65), (65, vIret)]
theorem k_X6_readItem_0 : look a_X6_readItem 0 = vAload 1 1 := rfl
theorem k_X6_readItem_1 : look a_X6_readItem 1 = vI 2 2 := rfl
theorem k_X6_readItem_2 : look a_X6_readItem 2 = vCallM w_X10_number 26 1 5 := rfl
theorem k_X6_readItem_5 : look a_X6_readItem 5 = vIstore 4 7 := rfl
theorem k_X6_readItem_7 : look a_X6_readItem 7 = vIload 4 9 := rfl
theorem k_X6_readItem_9 : look a_X6_readItem 9 = vI (-1) 10 := rfl
theorem k_X6_readItem_10 : look a_X6_readItem 10 = vIcNe 18 13 := rfl
theorem k_X6_readItem_13 : look a_X6_readItem 13 = vAload 1 14 := rfl
theorem k_X6_readItem_14 : look a_X6_readItem 14 = vGetI 26 2 17 := rfl
theorem k_X6_readItem_17 : look a_X6_readItem 17 = vIret := rfl
theorem k_X6_readItem_18 : look a_X6_readItem 18 = vIload 2 19 := rfl
theorem k_X6_readItem_19 : look a_X6_readItem 19 = vIload 3 20 := rfl
theorem k_X6_readItem_20 : look a_X6_readItem 20 = vIload 4 22 := rfl
theorem k_X6_readItem_22 : look a_X6_readItem 22 = vCallS w_X6_fits 3 25 := rfl
theorem k_X6_readItem_25 : look a_X6_readItem 25 = vIfNe 35 28 := rfl
theorem k_X6_readItem_28 : look a_X6_readItem 28 = vAload 1 29 := rfl
theorem k_X6_readItem_29 : look a_X6_readItem 29 = vGetI 26 2 32 := rfl
theorem k_X6_readItem_32 : look a_X6_readItem 32 = vI 1 33 := rfl
theorem k_X6_readItem_33 : look a_X6_readItem 33 = vIsub 34 := rfl
theorem k_X6_readItem_34 : look a_X6_readItem 34 = vIret := rfl
theorem k_X6_readItem_35 : look a_X6_readItem 35 = vIload 2 36 := rfl
theorem k_X6_readItem_36 : look a_X6_readItem 36 = vAload 0 37 := rfl
theorem k_X6_readItem_37 : look a_X6_readItem 37 = vIload 2 38 := rfl
theorem k_X6_readItem_38 : look a_X6_readItem 38 = vCallM w_X6_many 22 1 41 := rfl
theorem k_X6_readItem_41 : look a_X6_readItem 41 = vI 1 42 := rfl
theorem k_X6_readItem_42 : look a_X6_readItem 42 = vIsub 43 := rfl
theorem k_X6_readItem_43 : look a_X6_readItem 43 = vIload 3 44 := rfl
theorem k_X6_readItem_44 : look a_X6_readItem 44 = vCallS w_X6_slot 3 47 := rfl
theorem k_X6_readItem_47 : look a_X6_readItem 47 = vIstore 5 49 := rfl
theorem k_X6_readItem_49 : look a_X6_readItem 49 = vIload 5 51 := rfl
theorem k_X6_readItem_51 : look a_X6_readItem 51 = vI (-1) 52 := rfl
theorem k_X6_readItem_52 : look a_X6_readItem 52 = vIcEq 64 55 := rfl
theorem k_X6_readItem_55 : look a_X6_readItem 55 = vAload 0 56 := rfl
theorem k_X6_readItem_56 : look a_X6_readItem 56 = vGetR TT 22 0 8 59 := rfl
theorem k_X6_readItem_59 : look a_X6_readItem 59 = vIload 5 61 := rfl
theorem k_X6_readItem_61 : look a_X6_readItem 61 = vIload 4 63 := rfl
theorem k_X6_readItem_63 : look a_X6_readItem 63 = vIast TT 64 := rfl
theorem k_X6_readItem_64 : look a_X6_readItem 64 = vI (-1) 65 := rfl
theorem k_X6_readItem_65 : look a_X6_readItem 65 = vIret := rfl
theorem o_X6_readItem {X : amX} (e1 : XT X = TT) (e2 : XD X = 3) (hB : amB X RX6 cX6_readItem (some .int) 6) : ∀ pc, amOK X pc (look a_X6_readItem pc) := by
  have hT : amTok (XT X) := e1 ▸ TT_ok
  refine look_ok ?_
  unfold a_X6_readItem
  refine fc (ok_aload_n hB dX6_readItem_0) ?_
  refine fc (ok_iconst hB dX6_readItem_1) ?_
  refine fc (ok_callM hB hT (e1 ▸ s_X10_number) lk_X6_67 (by rw [e2]; decide) (c := 10) rfl rfl rfl wd_542 wd_543 dX6_readItem_2) ?_
  refine fc (ok_istore hB (by decide) dX6_readItem_5) ?_
  refine fc (ok_iload hB dX6_readItem_7) ?_
  refine fc (ok_iconst hB dX6_readItem_9) ?_
  refine fc (ok_icmp_ne hB (t := 18) (by decide) dX6_readItem_10) ?_
  refine fc (ok_aload_n hB dX6_readItem_13) ?_
  refine fc (ok_getI hB hT fl_X6_28 rfl rfl (Or.inl af_10_2) dX6_readItem_14) ?_
  refine fc (ok_iret hB dX6_readItem_17) ?_
  refine fc (ok_iload_n hB dX6_readItem_18) ?_
  refine fc (ok_iload_n hB dX6_readItem_19) ?_
  refine fc (ok_iload hB dX6_readItem_20) ?_
  refine fc (ok_callS hB (e1 ▸ s_X6_fits) lk_X6_71 (by rw [e2]; decide) wd_550 dX6_readItem_22) ?_
  refine fc (ok_if_ne hB (t := 35) (by decide) dX6_readItem_25) ?_
  refine fc (ok_aload_n hB dX6_readItem_28) ?_
  refine fc (ok_getI hB hT fl_X6_28 rfl rfl (Or.inl af_10_2) dX6_readItem_29) ?_
  refine fc (ok_iconst hB dX6_readItem_32) ?_
  refine fc (ok_isub hB dX6_readItem_33) ?_
  refine fc (ok_iret hB dX6_readItem_34) ?_
  refine fc (ok_iload_n hB dX6_readItem_35) ?_
  refine fc (ok_aload_n hB dX6_readItem_36) ?_
  refine fc (ok_iload_n hB dX6_readItem_37) ?_
  refine fc (ok_callM hB hT (e1 ▸ s_X6_many) lk_X6_75 (by rw [e2]; decide) (c := 6) rfl rfl rfl wd_557 wd_558 dX6_readItem_38) ?_
  refine fc (ok_iconst hB dX6_readItem_41) ?_
  refine fc (ok_isub hB dX6_readItem_42) ?_
  refine fc (ok_iload_n hB dX6_readItem_43) ?_
  refine fc (ok_callS hB (e1 ▸ s_X6_slot) lk_X6_78 (by rw [e2]; decide) wd_396 dX6_readItem_44) ?_
  refine fc (ok_istore hB (by decide) dX6_readItem_47) ?_
  refine fc (ok_iload hB dX6_readItem_49) ?_
  refine fc (ok_iconst hB dX6_readItem_51) ?_
  refine fc (ok_icmp_eq hB (t := 64) (by decide) dX6_readItem_52) ?_
  refine fc (ok_aload_n hB dX6_readItem_55) ?_
  refine fc (okt_getR e1 hB hT fl_X6_11 rfl af_6_0 at_6_0 (by decide) dX6_readItem_56) ?_
  refine fc (ok_iload hB dX6_readItem_59) ?_
  refine fc (ok_iload hB dX6_readItem_61) ?_
  refine fc (okt_iastore e1 hB dX6_readItem_63) ?_
  refine fc (ok_iconst hB dX6_readItem_64) ?_
  refine fc (ok_iret hB dX6_readItem_65) ?_
  exact fn

def w_X6_readItem : WP := fun av σ Q => ∃ (p : Int) (u : Int) (k : Int) (m : Int), av = [(22, p), (26, u), (0, k), (0, m)] ∧ (u = 1 ∧ isP p ∧ planB σ p ∧ tapeOk σ ∧ 0 ≤ σ 1 2 ∧ σ 1 2 ≤ σ 1 1 ∧ 0 ≤ k ∧ k < 4 ∧ 0 ≤ m ∧ m < 4 ∧ 1 ≤ σ (p + 2) k ∧ σ (p + 2) k ≤ mostK k ∧
(if ndig (tsg σ) (tsk σ) 2 = 0 ∨ (48 ≤ tsg σ (tsk σ + ndig (tsg σ) (tsk σ) 2) ∧ tsg σ (tsk σ + ndig (tsg σ) (tsk σ) 2) ≤ 57) then Q (0, tsk σ + ndig (tsg σ) (tsk σ) 2) (up σ 1 2 (tsk σ + ndig (tsg σ) (tsk σ) 2))
 else if fitF k m (nval (tsg σ) (tsk σ) 0 2) then Q (0, -1) (up (up σ 1 2 (tsk σ + ndig (tsg σ) (tsk σ) 2)) (p + 1) ((firstK k + (σ (p + 2) k - 1)) * 4 + m) (nval (tsg σ) (tsk σ) 0 2))
 else Q (0, tsk σ + ndig (tsg σ) (tsk σ) 2 - 1) (up σ 1 2 (tsk σ + ndig (tsg σ) (tsk σ) 2))))
theorem w_X6_readItem_e (p : Int) (u : Int) (k : Int) (m : Int) (σ : Mem) (Q : AV → Mem → Prop) : w_X6_readItem [(22, p), (26, u), (0, k), (0, m)] σ Q = (u = 1 ∧ isP p ∧ planB σ p ∧ tapeOk σ ∧ 0 ≤ σ 1 2 ∧ σ 1 2 ≤ σ 1 1 ∧ 0 ≤ k ∧ k < 4 ∧ 0 ≤ m ∧ m < 4 ∧ 1 ≤ σ (p + 2) k ∧ σ (p + 2) k ≤ mostK k ∧
(if ndig (tsg σ) (tsk σ) 2 = 0 ∨ (48 ≤ tsg σ (tsk σ + ndig (tsg σ) (tsk σ) 2) ∧ tsg σ (tsk σ + ndig (tsg σ) (tsk σ) 2) ≤ 57) then Q (0, tsk σ + ndig (tsg σ) (tsk σ) 2) (up σ 1 2 (tsk σ + ndig (tsg σ) (tsk σ) 2))
 else if fitF k m (nval (tsg σ) (tsk σ) 0 2) then Q (0, -1) (up (up σ 1 2 (tsk σ + ndig (tsg σ) (tsk σ) 2)) (p + 1) ((firstK k + (σ (p + 2) k - 1)) * 4 + m) (nval (tsg σ) (tsk σ) 0 2))
 else Q (0, tsk σ + ndig (tsg σ) (tsk σ) 2 - 1) (up σ 1 2 (tsk σ + ndig (tsg σ) (tsk σ) 2)))) := by
  apply propext; constructor
  · rintro ⟨p', u', k', m', h9, hb9⟩; cases h9; exact hb9
  · intro hb9; exact ⟨p, u, k, m, rfl, hb9⟩
theorem nval_nn (t : Int → Int) : ∀ (m : Nat) (p a : Int), 0 ≤ a → 0 ≤ nval t p a m := by
  intro m
  induction m with
  | zero => intro p a h; exact h
  | succ m ih =>
    intro p a h; unfold nval; split
    · exact ih _ _ (by omega)
    · exact h
theorem nval2_b (t : Int → Int) (p : Int) : 0 ≤ nval t p 0 2 ∧ nval t p 0 2 ≤ 99 := by
  refine ⟨nval_nn t 2 p 0 (by omega), ?_⟩
  unfold nval; split
  · unfold nval; split
    · unfold nval; omega
    · omega
  · omega
theorem nval_2t (t : Int → Int) (p : Int) : nval t p 0 (2 : Int).toNat = nval t p 0 2 := rfl
theorem ndig_2t (t : Int → Int) (p : Int) : ndig t p (2 : Int).toNat = ndig t p 2 := rfl
set_option maxRecDepth 100000 in
set_option maxHeartbeats 4000000 in
theorem s_X6_readItem : ∀ av σ Q, w_X6_readItem av σ Q → amCall 3 0 0 TT yX6_readItem cX6_readItem 6 (some .int) av σ Q := by
  rintro av σ Q ⟨p, u, k, m, rfl, rfl, hp, hB, ht, h0, h1, hk0, hk1, hm0, hm1, hc0, hc1, h⟩
  have hpb := isP_b hp
  have hk9 := tsk_bd h0 h1
  have hd := ndig_bd (tsg σ) 2 (tsk σ)
  have hv := nval2_b (tsg σ) (tsk σ)
  have ht1 := ht.2.1
  have hmk := mostK_b k
  have hfk := firstK_b k
  have al : ∀ τ, alen TT τ (p + 1) = 68 := fun τ => alP_1 hp τ
  have rl : ∀ τ, rfv TT τ p 0 = p + 1 := fun τ => rfP_0 hp τ
  have ec : ∀ v, pcnt (up σ 1 2 v) p k = σ (p + 2) k := fun v => by
    unfold pcnt; rw [if_pos (by omega), up_n σ (Or.inl (by omega))]
  have es : slotF k (σ (p + 2) k - 1) m = (firstK k + (σ (p + 2) k - 1)) * 4 + m := by unfold slotF; rw [if_pos (by omega)]
  refine am_m0 (own := RX6) (A := look a_X6_readItem) (fun X e1 e2 hB => o_X6_readItem e1 e2 hB) rfl (by decide +kernel) rfl rfl 80 (w := 6) ?_
  change vcs _ _ _ _ 80 0 [(22, p), (26, 1), (0, k), (0, m), (6, 0), (6, 0)] [] σ
  simp only [vI_e, vL_e, vNull_e, vIload_e, vLload_e, vAload_e, vIstore_e, vLstore_e, vAstore_e, vIinc_e, vIadd_e, vIsub_e, vImul_e, vIand_e, vIor_e, vIxor_e, vIshl_e, vIshr_e, vIushr_e, vIdiv_e, vIrem_e, vLadd_e, vLsub_e, vLmul_e, vLand_e, vLor_e, vLxor_e, vLdiv_e, vLrem_e, vLushr_e, vLshl_e, vLcmp_e, vIneg_e, vI2l_e, vL2i_e, vI2b_e, vI2c_e, vDup_e, vPop_e, vDup2_e, vGoto_e, vIcEq_e, vIfEq_e, vIcNe_e, vIfNe_e, vIcLt_e, vIfLt_e, vIcGe_e, vIfGe_e, vIcGt_e, vIfGt_e, vIcLe_e, vIfLe_e, vNonnull_e, vSw_e, vGetI_e, vGetL_e, vGetR_e, vPutI_e, vPutZ_e, vPutL_e, vPutR_e, vIald_e, vIald_s, vLald_e, vBald_e, vBald_s, vAald_e, vIast_e, vLast_e, vBast_e, vAast_e, vAlen_e8, vAlen_e9, vAlen_e10, vAlen_e11, vAlen_e5, vAlen_e3, vGets_e, vCompact_e, vLdcS_e, vIret_e, vZret_e, vCret_e, vBret_e, vLret_e, vVret_e, vAret_e, vCallM_e0, vCallMV_e0, vCallS_e0, vCallSV_e0, vCallM_e1, vCallMV_e1, vCallS_e1, vCallSV_e1, vCallM_e2, vCallMV_e2, vCallS_e2, vCallSV_e2, vCallM_e3, vCallMV_e3, vCallS_e3, vCallSV_e3, vCallM_e4, vCallMV_e4, vCallS_e4, vCallSV_e4, vCallM_e5, vCallMV_e5, vCallS_e5, vCallSV_e5, vCallM_e6, vCallMV_e6, vCallS_e6, vCallSV_e6, vCallM_e7, vCallMV_e7, vCallS_e7, vCallSV_e7, vBad_e, vStrVal_e, vStrCod_e, vForm_e, vCallT_e0, vCallT_e1, vCallT_e2, vCopy_e, rf_0_0, rf_0_1, rf_0_2, rf_0_3, rf_0_4, rf_0_7, rf_0_10, rf_0_11, rf_0_12, rf_0_13, rf_0_14, rf_0_15, rf_0_16, rf_1_0, rf_3_0, rf_3_1, rf_6_0, rf_6_1, rf_9_0, rf_9_1, rf_9_3, rf_13_0, rf_13_1, rf_13_2, rf_16_0, rf_16_1, rf_16_2, rf_16_3, rf_21_0, rf_21_1, rf_21_2, rf_21_3, rf_26_0, rf_26_1, rf_26_2, rf_26_3, rf_26_4, rf_26_5, rf_26_6, rf_31_0, rf_31_2, rf_31_5, rf_31_6, rf_36_0, rf_36_1, rf_36_2, rf_36_3, rf_39_0, rf_39_1, rf_39_2, rf_41_0, rf_41_1, rf_41_2, rf_41_3, rf_5000_1, rf_5000_2, rf_5000_3, rf_5000_4, rf_5000_5, rf_5000_15, rf_5000_16, rf_5000_18, rf_5000_19, rf_5000_20, rf_5000_21, rf_5000_22, rf_5000_23, rf_5000_24, rf_5000_25, rf_5000_26, rf_5000_27, rf_5000_36, rf_5000_37, rf_5000_40, rf_5000_41, rf_5000_42, rf_5000_43, rf_5000_44, rf_5000_45, rf_5000_47, rf_5000_52, rf_5000_54, rf_5000_55, rf_100_0, rf_100_1, rf_103_0, rf_103_1, rf_106_0, rf_106_1, rf_109_0, rf_109_1, al_2, al_4, al_5, al_7, al_8, al_10, al_11, al_12, al_14, al_15, al_17, al_18, al_19, al_20, al_22, al_23, al_24, al_25, al_27, al_28, al_29, al_30, al_32, al_33, al_34, al_35, al_37, al_38, al_40, al_42, al_5001, al_5002, al_5003, al_5004, al_5005, al_5006, al_5007, al_5008, al_5009, al_5010, al_5011, al_5012, al_5013, al_5014, al_5015, al_5016, al_5017, al_5018, al_5019, al_5020, al_5021, al_5022, al_5023, al_5024, al_5025, al_5026, al_9000, al_101, al_102, al_104, al_105, al_107, al_108, al_110, al_111, vcs_e, lg_c0, lg_cs, lg_nil, set_c0, set_cs, okst_0, okst_s, acok_n, acok_c, List.contains_nil, List.contains_cons, Bool.or_false, Bool.false_or, Bool.false_eq_true, if_false, if_true, ite_self, ne_eq, true_and, and_true, not_false_eq_true, not_true_eq_false, false_imp_iff, true_imp_iff, Nat.ble_eq, Bool.and_eq_true, reduceCtorEq, or_false, false_or, or_true, true_or, false_and, and_false, and_self, Int.reduceLE, Int.reduceAdd, Int.reduceSub, Int.reduceMul, Int.reduceNeg, Int.reduceLT, Int.reduceEq, Int.reduceNe, Nat.reduceBEq, Nat.reduceBNe, Nat.reduceEqDiff, amCmp_in, amCmp_lt, amCmp_le, amCmp_gt, amCmp_ge, amCmp_eq, amCmp_ne, Nat.reduceLeDiff, Nat.reduceSub, Bool.and_true, Bool.true_and, Bool.and_self, Bool.or_true, Bool.true_or, isRf_3, isRf_4, isRf_5, isRf_8, isRf_9, isRf_10, isRf_11, isRf_15, isRf_16, isRf_17, isRf_18, isRf_19, isRf_20, isRf_21, isRf_22, isRf_23, isRf_24, isRf_25, isRf_26, isRf_27, isRf_28, k_X6_readItem_0, k_X6_readItem_1, k_X6_readItem_2, k_X6_readItem_5, k_X6_readItem_7, k_X6_readItem_9, k_X6_readItem_10, k_X6_readItem_13, k_X6_readItem_14, k_X6_readItem_17, k_X6_readItem_18, k_X6_readItem_19, k_X6_readItem_20, k_X6_readItem_22, k_X6_readItem_25, k_X6_readItem_28, k_X6_readItem_29, k_X6_readItem_32, k_X6_readItem_33, k_X6_readItem_34, k_X6_readItem_35, k_X6_readItem_36, k_X6_readItem_37, k_X6_readItem_38, k_X6_readItem_41, k_X6_readItem_42, k_X6_readItem_43, k_X6_readItem_44, k_X6_readItem_47, k_X6_readItem_49, k_X6_readItem_51, k_X6_readItem_52, k_X6_readItem_55, k_X6_readItem_56, k_X6_readItem_59, k_X6_readItem_61, k_X6_readItem_63, k_X6_readItem_64, k_X6_readItem_65, w_X10_number_e, w_X6_fits_e, w_X6_many_e, w_X6_slot_e, al, rl, nval_2t, ndig_2t, up_s, ec, es]
  split at h
  · rename_i c
    rw [if_pos c]
    repeat' (first | assumption | apply And.intro | intro _)
    all_goals first | omega | exact h
  · rename_i c
    rw [if_neg c]
    split at h
    · rename_i c2
      repeat' (first | assumption | apply And.intro | intro _)
      all_goals first | omega | exact h
    · rename_i c2
      repeat' (first | assumption | apply And.intro | intro _)
      all_goals first | omega | exact h
