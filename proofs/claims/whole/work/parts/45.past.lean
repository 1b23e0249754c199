/-! Past: cell 31 (1 written, 3 actCount, 4 actNext, 7 imageShown, 8 hasImage), lines 32, acts 33, imageRow 34, imageLines 35 -/
theorem up_nj (σ : Mem) {a k v j : Int} (h : j ≠ k) : up σ a k v a j = σ a j := up_n σ (Or.inr h)
/-- a switch, key by key -/
def swP (x : Int) (P : Nat → Prop) : List (Int × Nat) → Prop → Prop
  | [], d => d
  | q :: r, d => (x = q.1 → P q.2) ∧ (x ≠ q.1 → swP x P r d)
theorem swP_n (x : Int) (P : Nat → Prop) (d : Prop) : swP x P [] d = d := rfl
theorem swP_c (x : Int) (P : Nat → Prop) (k : Int) (t : Nat) (r : List (Int × Nat)) (d : Prop) : swP x P ((k, t) :: r) d = ((x = k → P t) ∧ (x ≠ k → swP x P r d)) := rfl
theorem swP_all {x : Int} {P : Nat → Prop} {d : Prop} : ∀ (ps : List (Int × Nat)), (ps.map (fun q => q.1)).Nodup → swP x P ps d → (∀ q ∈ ps, x = q.1 → P q.2) ∧ ((∀ q ∈ ps, x ≠ q.1) → d) := by
  intro ps
  induction ps with
  | nil => intro _ h; exact ⟨fun _ g => (nomatch g), fun _ => h⟩
  | cons q r ih =>
    intro hnd h
    rw [List.map_cons, List.nodup_cons] at hnd
    refine ⟨fun q' hq' e => ?_, fun g => ?_⟩
    · rcases List.mem_cons.mp hq' with rfl | hm
      · exact h.1 e
      · have hne : x ≠ q.1 := by
          intro e2
          exact hnd.1 (List.mem_map.mpr ⟨q', hm, by rw [← e, e2]⟩)
        exact (ih hnd.2 (h.2 hne)).1 q' hm e
    · exact (ih hnd.2 (h.2 (g q List.mem_cons_self))).2 (fun q' hq' => g q' (List.mem_cons_of_mem _ hq'))
def vSw2 (ps : List (Int × Nat)) (dn : Nat) : VT := fun _ K ls st σ => ∃ x st', st = (0, x) :: st' ∧ InR x ∧ swP x (fun t => K t ls st' σ) ps (K dn ls st' σ)
theorem vSw2_e (ps : List (Int × Nat)) (dn : Nat) (Q) (K) (ls st : List AV) (x : Int) (σ : Mem) : vSw2 ps dn Q K ls ((0, x) :: st) σ = (InR x ∧ swP x (fun t => K t ls st σ) ps (K dn ls st σ)) := by
  apply propext; constructor
  · rintro ⟨x', st', h, h1⟩; cases h; exact h1
  · intro h1; exact ⟨x, st, rfl, h1⟩
theorem ok_sw2 {X : amX} {pc : Nat} {ps : List (Int × Nat)} {dn : Nat} (hnd : (ps.map (fun q => q.1)).Nodup) (h : amOK X pc (vSw ps dn)) : amOK X pc (vSw2 ps dn) := by
  intro K ls st σ hK hv
  obtain ⟨x, st', e, hx, hs⟩ := hv
  obtain ⟨g1, g2⟩ := swP_all ps hnd hs
  exact h K ls st σ hK ⟨x, st', e, hx, g1, g2⟩
theorem amIor_disj {a b : Int} {k : Nat} (hk : k ≤ 20) (ha : 0 ≤ a) (hm : a % (2 ^ k : Nat) = 0) (hb : 0 ≤ b) (hb2 : b < (2 ^ k : Nat)) (hs : a < 1073741824) : amIor a b = a + b := by
  obtain ⟨x, rfl⟩ : ∃ x : Nat, a = x := ⟨a.toNat, by omega⟩
  obtain ⟨y, rfl⟩ : ∃ y : Nat, b = y := ⟨b.toNat, by omega⟩
  have hk2 : 2 ^ k ≤ 2 ^ 20 := Nat.pow_le_pow_right (by decide) hk
  have hy : y < 2 ^ k := by omega
  have hx0 : x % 2 ^ k = 0 := by
    have : ((x % 2 ^ k : Nat) : Int) = 0 := by rw [Int.natCast_emod]; exact hm
    omega
  have hor : x ||| y = x + y := by
    have e : x = 2 ^ k * (x / 2 ^ k) := by
      have := Nat.div_add_mod x (2 ^ k); omega
    rw [e]
    exact (Nat.two_pow_add_eq_or_of_lt hy (x / 2 ^ k)).symm
  unfold amIor
  have hbv : (Int32.ofInt (x : Int) ||| Int32.ofInt (y : Int)) = Int32.ofInt ((x + y : Nat) : Int) := by
    apply Int32.toBitVec_inj.mp
    apply BitVec.eq_of_toNat_eq
    rw [Int32.toBitVec_or, BitVec.toNat_or, bv_ofInt, bv_ofInt, bv_ofInt]
    rw [Int.emod_eq_of_lt (by omega) (by omega), Int.emod_eq_of_lt (by omega) (by omega), Int.emod_eq_of_lt (by omega) (by omega)]
    simp only [Int.toNat_natCast]
    exact hor
  rw [hbv]
  have hr : InR ((x + y : Nat) : Int) := ⟨by omega, by omega⟩
  rw [hr.toInt, Int.natCast_add]
/-- a line of the log, packed -/
def pck (play moved out : Int) : Int := moved * 256 + out * 4 + play

theorem wd_226 : Cond.fieldLink RX5 17 "ArmchairHouse$Past" "written" "I" ∈ TBL := tb_tab (List.mem_of_getElem? (i := 226) (by decide +kernel)) rfl
theorem fl_X5_17 : amFl RX5 5 1 17 RX5 TX5 9 := ⟨rfl, inT_5, by decide, wd_226⟩
theorem fp_X5_17 : amFp RX5 5 1 17 RX5 TX5 9 tyX5 .int := ⟨fl_X5_17, tyX5_ok, nmX5, by decide +kernel⟩
theorem wd_228 : Cond.fieldLink RX5 24 "ArmchairHouse$Past" "actCount" "I" ∈ TBL := tb_tab (List.mem_of_getElem? (i := 228) (by decide +kernel)) rfl
theorem fl_X5_24 : amFl RX5 5 3 24 RX5 TX5 9 := ⟨rfl, inT_5, by decide, wd_228⟩
theorem fp_X5_24 : amFp RX5 5 3 24 RX5 TX5 9 tyX5 .int := ⟨fl_X5_24, tyX5_ok, nmX5, by decide +kernel⟩
theorem wd_234 : Cond.fieldLink RX5 39 "ArmchairHouse$Past" "hasImage" "Z" ∈ TBL := tb_tab (List.mem_of_getElem? (i := 234) (by decide +kernel)) rfl
theorem fl_X5_39 : amFl RX5 5 8 39 RX5 TX5 9 := ⟨rfl, inT_5, by decide, wd_234⟩
theorem fp_X5_39 : amFp RX5 5 8 39 RX5 TX5 9 tyX5 .boolean := ⟨fl_X5_39, tyX5_ok, nmX5, by decide +kernel⟩
def a_X5_forget : AC := [(0, vAload 0 1), (1, vI 0 2), (2, vPutI 21 1 5), (5, vAload 0 6), (6, vI 0 7), (7, vPutI 21 3 10), (10, vAload 0 11), (11, vI 0 12), (12, vPutZ 21 8 15), (15, vVret)]
theorem k_X5_forget_0 : look a_X5_forget 0 = vAload 0 1 := rfl
theorem k_X5_forget_1 : look a_X5_forget 1 = vI 0 2 := rfl
theorem k_X5_forget_2 : look a_X5_forget 2 = vPutI 21 1 5 := rfl
theorem k_X5_forget_5 : look a_X5_forget 5 = vAload 0 6 := rfl
theorem k_X5_forget_6 : look a_X5_forget 6 = vI 0 7 := rfl
theorem k_X5_forget_7 : look a_X5_forget 7 = vPutI 21 3 10 := rfl
theorem k_X5_forget_10 : look a_X5_forget 10 = vAload 0 11 := rfl
theorem k_X5_forget_11 : look a_X5_forget 11 = vI 0 12 := rfl
theorem k_X5_forget_12 : look a_X5_forget 12 = vPutZ 21 8 15 := rfl
theorem k_X5_forget_15 : look a_X5_forget 15 = vVret := rfl
theorem o_X5_forget {X : amX} (e1 : XT X = TT) (e2 : XD X = 0) (hB : amB X RX5 cX5_forget (none) 1) : ∀ pc, amOK X pc (look a_X5_forget pc) := by
  have hT : amTok (XT X) := e1 ▸ TT_ok
  refine look_ok ?_
  unfold a_X5_forget
  refine fc (ok_aload_n hB dX5_forget_0) ?_
  refine fc (ok_iconst hB dX5_forget_1) ?_
  refine fc (ok_putI hB hT fp_X5_17 rfl rfl rfl af_5_1 dX5_forget_2) ?_
  refine fc (ok_aload_n hB dX5_forget_5) ?_
  refine fc (ok_iconst hB dX5_forget_6) ?_
  refine fc (ok_putI hB hT fp_X5_24 rfl rfl rfl af_5_3 dX5_forget_7) ?_
  refine fc (ok_aload_n hB dX5_forget_10) ?_
  refine fc (ok_iconst hB dX5_forget_11) ?_
  refine fc (ok_putZ hB hT fp_X5_39 rfl rfl rfl af_5_8 dX5_forget_12) ?_
  refine fc (ok_vret hB dX5_forget_15) ?_
  exact fn

def w_X5_forget : WP := fun av σ Q => av = [(21, 31)] ∧ (Q (6, 0) (up (up (up σ 31 1 0) 31 3 0) 31 8 0))
theorem w_X5_forget_e  (σ : Mem) (Q : AV → Mem → Prop) : w_X5_forget [(21, 31)] σ Q = (Q (6, 0) (up (up (up σ 31 1 0) 31 3 0) 31 8 0)) := by
  apply propext; constructor
  · rintro ⟨h9, hb9⟩; cases h9; exact hb9
  · intro hb9; exact ⟨rfl, hb9⟩

set_option maxRecDepth 100000 in
set_option maxHeartbeats 4000000 in
theorem s_X5_forget : ∀ av σ Q, w_X5_forget av σ Q → amCall 0 0 0 TT yX5_forget cX5_forget 1 (none) av σ Q := by
  rintro av σ Q ⟨rfl, h⟩
  refine am_m0 (own := RX5) (A := look a_X5_forget) (fun X e1 e2 hB => o_X5_forget e1 e2 hB) rfl (by decide +kernel) rfl rfl 60 (w := 1) ?_
  change vcs _ _ _ _ 60 0 [(21, 31)] [] σ
  simp only [vI_e, vL_e, vNull_e, vIload_e, vLload_e, vAload_e, vIstore_e, vLstore_e, vAstore_e, vIinc_e, vIadd_e, vIsub_e, vImul_e, vIand_e, vIor_e, vIxor_e, vIshl_e, vIshr_e, vIushr_e, vIdiv_e, vIrem_e, vLadd_e, vLsub_e, vLmul_e, vLand_e, vLor_e, vLxor_e, vLdiv_e, vLrem_e, vLushr_e, vLshl_e, vLcmp_e, vIneg_e, vI2l_e, vL2i_e, vI2b_e, vI2c_e, vDup_e, vPop_e, vDup2_e, vGoto_e, vIcEq_e, vIfEq_e, vIcNe_e, vIfNe_e, vIcLt_e, vIfLt_e, vIcGe_e, vIfGe_e, vIcGt_e, vIfGt_e, vIcLe_e, vIfLe_e, vNonnull_e, vSw_e, vGetI_e, vGetL_e, vGetR_e, vPutI_e, vPutZ_e, vPutL_e, vPutR_e, vIald_e, vIald_s, vLald_e, vBald_e, vBald_s, vAald_e, vIast_e, vLast_e, vBast_e, vAast_e, vAlen_e8, vAlen_e9, vAlen_e10, vAlen_e11, vAlen_e5, vAlen_e3, vGets_e, vCompact_e, vLdcS_e, vIret_e, vZret_e, vCret_e, vBret_e, vLret_e, vVret_e, vAret_e, vCallM_e0, vCallMV_e0, vCallS_e0, vCallSV_e0, vCallM_e1, vCallMV_e1, vCallS_e1, vCallSV_e1, vCallM_e2, vCallMV_e2, vCallS_e2, vCallSV_e2, vCallM_e3, vCallMV_e3, vCallS_e3, vCallSV_e3, vCallM_e4, vCallMV_e4, vCallS_e4, vCallSV_e4, vCallM_e5, vCallMV_e5, vCallS_e5, vCallSV_e5, vCallM_e6, vCallMV_e6, vCallS_e6, vCallSV_e6, vCallM_e7, vCallMV_e7, vCallS_e7, vCallSV_e7, vBad_e, vStrVal_e, vStrCod_e, vForm_e, vCallT_e0, vCallT_e1, vCallT_e2, vCopy_e, rf_0_0, rf_0_1, rf_0_2, rf_0_3, rf_0_4, rf_0_7, rf_0_10, rf_0_11, rf_0_12, rf_0_13, rf_0_14, rf_0_15, rf_0_16, rf_1_0, rf_3_0, rf_3_1, rf_6_0, rf_6_1, rf_9_0, rf_9_1, rf_9_3, rf_13_0, rf_13_1, rf_13_2, rf_16_0, rf_16_1, rf_16_2, rf_16_3, rf_21_0, rf_21_1, rf_21_2, rf_21_3, rf_26_0, rf_26_1, rf_26_2, rf_26_3, rf_26_4, rf_26_5, rf_26_6, rf_31_0, rf_31_2, rf_31_5, rf_31_6, rf_36_0, rf_36_1, rf_36_2, rf_36_3, rf_39_0, rf_39_1, rf_39_2, rf_41_0, rf_41_1, rf_41_2, rf_41_3, rf_5000_1, rf_5000_2, rf_5000_3, rf_5000_4, rf_5000_5, rf_5000_15, rf_5000_16, rf_5000_18, rf_5000_19, rf_5000_20, rf_5000_21, rf_5000_22, rf_5000_23, rf_5000_24, rf_5000_25, rf_5000_26, rf_5000_27, rf_5000_36, rf_5000_37, rf_5000_40, rf_5000_41, rf_5000_42, rf_5000_43, rf_5000_44, rf_5000_45, rf_5000_47, rf_5000_52, rf_5000_54, rf_5000_55, rf_100_0, rf_100_1, rf_103_0, rf_103_1, rf_106_0, rf_106_1, rf_109_0, rf_109_1, al_2, al_4, al_5, al_7, al_8, al_10, al_11, al_12, al_14, al_15, al_17, al_18, al_19, al_20, al_22, al_23, al_24, al_25, al_27, al_28, al_29, al_30, al_32, al_33, al_34, al_35, al_37, al_38, al_40, al_42, al_5001, al_5002, al_5003, al_5004, al_5005, al_5006, al_5007, al_5008, al_5009, al_5010, al_5011, al_5012, al_5013, al_5014, al_5015, al_5016, al_5017, al_5018, al_5019, al_5020, al_5021, al_5022, al_5023, al_5024, al_5025, al_5026, al_9000, al_101, al_102, al_104, al_105, al_107, al_108, al_110, al_111, vcs_e, lg_c0, lg_cs, lg_nil, set_c0, set_cs, okst_0, okst_s, acok_n, acok_c, List.contains_nil, List.contains_cons, Bool.or_false, Bool.false_or, Bool.false_eq_true, if_false, if_true, ite_self, ne_eq, true_and, and_true, not_false_eq_true, not_true_eq_false, false_imp_iff, true_imp_iff, Nat.ble_eq, Bool.and_eq_true, reduceCtorEq, or_false, false_or, or_true, true_or, false_and, and_false, and_self, Int.reduceLE, Int.reduceAdd, Int.reduceSub, Int.reduceMul, Int.reduceNeg, Int.reduceLT, Int.reduceEq, Int.reduceNe, Nat.reduceBEq, Nat.reduceBNe, Nat.reduceEqDiff, amCmp_in, amCmp_lt, amCmp_le, amCmp_gt, amCmp_ge, amCmp_eq, amCmp_ne, Nat.reduceLeDiff, Nat.reduceSub, Bool.and_true, Bool.true_and, Bool.and_self, Bool.or_true, Bool.true_or, isRf_3, isRf_4, isRf_5, isRf_8, isRf_9, isRf_10, isRf_11, isRf_15, isRf_16, isRf_17, isRf_18, isRf_19, isRf_20, isRf_21, isRf_22, isRf_23, isRf_24, isRf_25, isRf_26, isRf_27, isRf_28, k_X5_forget_0, k_X5_forget_1, k_X5_forget_2, k_X5_forget_5, k_X5_forget_6, k_X5_forget_7, k_X5_forget_10, k_X5_forget_11, k_X5_forget_12, k_X5_forget_15]
  exact h
theorem wd_770 : Cond.methodLink RX5 43 yJ9_min_7cf53 ∈ TBL := tb_tab (List.mem_of_getElem? (i := 770) (by decide +kernel)) rfl
theorem lk_X5_43 : amLk RX5 43 yJ9_min_7cf53 cJ9_min_7cf53 2 (some .int) 2 := ⟨wd_770, wd_16, wd_453, by decide +kernel, by decide +kernel, by decide⟩
def a_X5_shown : AC := [(0, vI 60 2), (2, vAload 0 3), (3, vGetI 21 1 6), (6, vCallS w_J9_min_7cf53 2 9), (9, vIret)]
theorem k_X5_shown_0 : look a_X5_shown 0 = vI 60 2 := rfl
theorem k_X5_shown_2 : look a_X5_shown 2 = vAload 0 3 := rfl
theorem k_X5_shown_3 : look a_X5_shown 3 = vGetI 21 1 6 := rfl
theorem k_X5_shown_6 : look a_X5_shown 6 = vCallS w_J9_min_7cf53 2 9 := rfl
theorem k_X5_shown_9 : look a_X5_shown 9 = vIret := rfl
theorem o_X5_shown {X : amX} (e1 : XT X = TT) (e2 : XD X = 1) (hB : amB X RX5 cX5_shown (some .int) 1) : ∀ pc, amOK X pc (look a_X5_shown pc) := by
  have hT : amTok (XT X) := e1 ▸ TT_ok
  refine look_ok ?_
  unfold a_X5_shown
  refine fc (ok_bipush hB dX5_shown_0 (by decide)) ?_
  refine fc (ok_aload_n hB dX5_shown_2) ?_
  refine fc (ok_getI hB hT fl_X5_17 rfl rfl (Or.inl af_5_1) dX5_shown_3) ?_
  refine fc (ok_callS hB (e1 ▸ s_J9_min_7cf53) lk_X5_43 (by rw [e2]; decide) wd_452 dX5_shown_6) ?_
  refine fc (ok_iret hB dX5_shown_9) ?_
  exact fn

def w_X5_shown : WP := fun av σ Q => av = [(21, 31)] ∧ (InR (σ 31 1) ∧ Q (0, min 60 (σ 31 1)) σ)
theorem w_X5_shown_e  (σ : Mem) (Q : AV → Mem → Prop) : w_X5_shown [(21, 31)] σ Q = (InR (σ 31 1) ∧ Q (0, min 60 (σ 31 1)) σ) := by
  apply propext; constructor
  · rintro ⟨h9, hb9⟩; cases h9; exact hb9
  · intro hb9; exact ⟨rfl, hb9⟩

set_option maxRecDepth 100000 in
set_option maxHeartbeats 4000000 in
theorem s_X5_shown : ∀ av σ Q, w_X5_shown av σ Q → amCall 1 0 0 TT yX5_shown cX5_shown 1 (some .int) av σ Q := by
  rintro av σ Q ⟨rfl, h0, h⟩
  refine am_m0 (own := RX5) (A := look a_X5_shown) (fun X e1 e2 hB => o_X5_shown e1 e2 hB) rfl (by decide +kernel) rfl rfl 60 (w := 1) ?_
  change vcs _ _ _ _ 60 0 [(21, 31)] [] σ
  simp only [vI_e, vL_e, vNull_e, vIload_e, vLload_e, vAload_e, vIstore_e, vLstore_e, vAstore_e, vIinc_e, vIadd_e, vIsub_e, vImul_e, vIand_e, vIor_e, vIxor_e, vIshl_e, vIshr_e, vIushr_e, vIdiv_e, vIrem_e, vLadd_e, vLsub_e, vLmul_e, vLand_e, vLor_e, vLxor_e, vLdiv_e, vLrem_e, vLushr_e, vLshl_e, vLcmp_e, vIneg_e, vI2l_e, vL2i_e, vI2b_e, vI2c_e, vDup_e, vPop_e, vDup2_e, vGoto_e, vIcEq_e, vIfEq_e, vIcNe_e, vIfNe_e, vIcLt_e, vIfLt_e, vIcGe_e, vIfGe_e, vIcGt_e, vIfGt_e, vIcLe_e, vIfLe_e, vNonnull_e, vSw_e, vGetI_e, vGetL_e, vGetR_e, vPutI_e, vPutZ_e, vPutL_e, vPutR_e, vIald_e, vIald_s, vLald_e, vBald_e, vBald_s, vAald_e, vIast_e, vLast_e, vBast_e, vAast_e, vAlen_e8, vAlen_e9, vAlen_e10, vAlen_e11, vAlen_e5, vAlen_e3, vGets_e, vCompact_e, vLdcS_e, vIret_e, vZret_e, vCret_e, vBret_e, vLret_e, vVret_e, vAret_e, vCallM_e0, vCallMV_e0, vCallS_e0, vCallSV_e0, vCallM_e1, vCallMV_e1, vCallS_e1, vCallSV_e1, vCallM_e2, vCallMV_e2, vCallS_e2, vCallSV_e2, vCallM_e3, vCallMV_e3, vCallS_e3, vCallSV_e3, vCallM_e4, vCallMV_e4, vCallS_e4, vCallSV_e4, vCallM_e5, vCallMV_e5, vCallS_e5, vCallSV_e5, vCallM_e6, vCallMV_e6, vCallS_e6, vCallSV_e6, vCallM_e7, vCallMV_e7, vCallS_e7, vCallSV_e7, vBad_e, vStrVal_e, vStrCod_e, vForm_e, vCallT_e0, vCallT_e1, vCallT_e2, vCopy_e, rf_0_0, rf_0_1, rf_0_2, rf_0_3, rf_0_4, rf_0_7, rf_0_10, rf_0_11, rf_0_12, rf_0_13, rf_0_14, rf_0_15, rf_0_16, rf_1_0, rf_3_0, rf_3_1, rf_6_0, rf_6_1, rf_9_0, rf_9_1, rf_9_3, rf_13_0, rf_13_1, rf_13_2, rf_16_0, rf_16_1, rf_16_2, rf_16_3, rf_21_0, rf_21_1, rf_21_2, rf_21_3, rf_26_0, rf_26_1, rf_26_2, rf_26_3, rf_26_4, rf_26_5, rf_26_6, rf_31_0, rf_31_2, rf_31_5, rf_31_6, rf_36_0, rf_36_1, rf_36_2, rf_36_3, rf_39_0, rf_39_1, rf_39_2, rf_41_0, rf_41_1, rf_41_2, rf_41_3, rf_5000_1, rf_5000_2, rf_5000_3, rf_5000_4, rf_5000_5, rf_5000_15, rf_5000_16, rf_5000_18, rf_5000_19, rf_5000_20, rf_5000_21, rf_5000_22, rf_5000_23, rf_5000_24, rf_5000_25, rf_5000_26, rf_5000_27, rf_5000_36, rf_5000_37, rf_5000_40, rf_5000_41, rf_5000_42, rf_5000_43, rf_5000_44, rf_5000_45, rf_5000_47, rf_5000_52, rf_5000_54, rf_5000_55, rf_100_0, rf_100_1, rf_103_0, rf_103_1, rf_106_0, rf_106_1, rf_109_0, rf_109_1, al_2, al_4, al_5, al_7, al_8, al_10, al_11, al_12, al_14, al_15, al_17, al_18, al_19, al_20, al_22, al_23, al_24, al_25, al_27, al_28, al_29, al_30, al_32, al_33, al_34, al_35, al_37, al_38, al_40, al_42, al_5001, al_5002, al_5003, al_5004, al_5005, al_5006, al_5007, al_5008, al_5009, al_5010, al_5011, al_5012, al_5013, al_5014, al_5015, al_5016, al_5017, al_5018, al_5019, al_5020, al_5021, al_5022, al_5023, al_5024, al_5025, al_5026, al_9000, al_101, al_102, al_104, al_105, al_107, al_108, al_110, al_111, vcs_e, lg_c0, lg_cs, lg_nil, set_c0, set_cs, okst_0, okst_s, acok_n, acok_c, List.contains_nil, List.contains_cons, Bool.or_false, Bool.false_or, Bool.false_eq_true, if_false, if_true, ite_self, ne_eq, true_and, and_true, not_false_eq_true, not_true_eq_false, false_imp_iff, true_imp_iff, Nat.ble_eq, Bool.and_eq_true, reduceCtorEq, or_false, false_or, or_true, true_or, false_and, and_false, and_self, Int.reduceLE, Int.reduceAdd, Int.reduceSub, Int.reduceMul, Int.reduceNeg, Int.reduceLT, Int.reduceEq, Int.reduceNe, Nat.reduceBEq, Nat.reduceBNe, Nat.reduceEqDiff, amCmp_in, amCmp_lt, amCmp_le, amCmp_gt, amCmp_ge, amCmp_eq, amCmp_ne, Nat.reduceLeDiff, Nat.reduceSub, Bool.and_true, Bool.true_and, Bool.and_self, Bool.or_true, Bool.true_or, isRf_3, isRf_4, isRf_5, isRf_8, isRf_9, isRf_10, isRf_11, isRf_15, isRf_16, isRf_17, isRf_18, isRf_19, isRf_20, isRf_21, isRf_22, isRf_23, isRf_24, isRf_25, isRf_26, isRf_27, isRf_28, k_X5_shown_0, k_X5_shown_2, k_X5_shown_3, k_X5_shown_6, k_X5_shown_9, w_J9_min_7cf53_e]
  have e9 : (if σ 31 1 < 60 then σ 31 1 else 60) = min 60 (σ 31 1) := by split <;> omega
  rw [e9]
  repeat' (first | assumption | apply And.intro | intro _)
  all_goals first | omega | exact h
theorem wd_225 : Cond.fieldLink RX5 13 "ArmchairHouse$Past" "lines" "[I" ∈ TBL := tb_tab (List.mem_of_getElem? (i := 225) (by decide +kernel)) rfl
theorem fl_X5_13 : amFl RX5 5 0 13 RX5 TX5 9 := ⟨rfl, inT_5, by decide, wd_225⟩
def a_X5_write : AC := [(0, vAload 0 1), (1, vGetR TT 21 0 8 4), (4, vAload 0 5), (5, vGetI 21 1 8), (8, vI 127 10), (10, vIand 11), (11, vIload 2 12), (12, vI 8 14), (14, vIshl 15), (15, vIload 3 16), (16, vI 2 17), (17, vIshl 18), (18, vIor 19), (19, vIload 1 20), (20, vIor 21), (21, vIast TT 22), (22, vAload 0 23), (23, vDup 24), (24, vGetI 21 1 27), (27, vI 1 28), (28, vIadd 29), (29, vPutI 21 1 32), (32, vVret)]
theorem k_X5_write_0 : look a_X5_write 0 = vAload 0 1 := rfl
theorem k_X5_write_1 : look a_X5_write 1 = vGetR TT 21 0 8 4 := rfl
theorem k_X5_write_4 : look a_X5_write 4 = vAload 0 5 := rfl
theorem k_X5_write_5 : look a_X5_write 5 = vGetI 21 1 8 := rfl
theorem k_X5_write_8 : look a_X5_write 8 = vI 127 10 := rfl
theorem k_X5_write_10 : look a_X5_write 10 = vIand 11 := rfl
theorem k_X5_write_11 : look a_X5_write 11 = vIload 2 12 := rfl
theorem k_X5_write_12 : look a_X5_write 12 = vI 8 14 := rfl
theorem k_X5_write_14 : look a_X5_write 14 = vIshl 15 := rfl
theorem k_X5_write_15 : look a_X5_write 15 = vIload 3 16 := rfl
theorem k_X5_write_16 : look a_X5_write 16 = vI 2 17 := rfl
theorem k_X5_write_17 : look a_X5_write 17 = vIshl 18 := rfl
theorem k_X5_write_18 : look a_X5_write 18 = vIor 19 := rfl
theorem k_X5_write_19 : look a_X5_write 19 = vIload 1 20 := rfl
theorem k_X5_write_20 : look a_X5_write 20 = vIor 21 := rfl
theorem k_X5_write_21 : look a_X5_write 21 = vIast TT 22 := rfl
theorem k_X5_write_22 : look a_X5_write 22 = vAload 0 23 := rfl
theorem k_X5_write_23 : look a_X5_write 23 = vDup 24 := rfl
theorem k_X5_write_24 : look a_X5_write 24 = vGetI 21 1 27 := rfl
theorem k_X5_write_27 : look a_X5_write 27 = vI 1 28 := rfl
theorem k_X5_write_28 : look a_X5_write 28 = vIadd 29 := rfl
theorem k_X5_write_29 : look a_X5_write 29 = vPutI 21 1 32 := rfl
theorem k_X5_write_32 : look a_X5_write 32 = vVret := rfl
theorem o_X5_write {X : amX} (e1 : XT X = TT) (e2 : XD X = 0) (hB : amB X RX5 cX5_write (none) 4) : ∀ pc, amOK X pc (look a_X5_write pc) := by
  have hT : amTok (XT X) := e1 ▸ TT_ok
  refine look_ok ?_
  unfold a_X5_write
  refine fc (ok_aload_n hB dX5_write_0) ?_
  refine fc (okt_getR e1 hB hT fl_X5_13 rfl af_5_0 at_5_0 (by decide) dX5_write_1) ?_
  refine fc (ok_aload_n hB dX5_write_4) ?_
  refine fc (ok_getI hB hT fl_X5_17 rfl rfl (Or.inl af_5_1) dX5_write_5) ?_
  refine fc (ok_bipush hB dX5_write_8 (by decide)) ?_
  refine fc (ok_iand hB dX5_write_10) ?_
  refine fc (ok_iload_n hB dX5_write_11) ?_
  refine fc (ok_bipush hB dX5_write_12 (by decide)) ?_
  refine fc (ok_ishl hB dX5_write_14) ?_
  refine fc (ok_iload_n hB dX5_write_15) ?_
  refine fc (ok_iconst hB dX5_write_16) ?_
  refine fc (ok_ishl hB dX5_write_17) ?_
  refine fc (ok_ior hB dX5_write_18) ?_
  refine fc (ok_iload_n hB dX5_write_19) ?_
  refine fc (ok_ior hB dX5_write_20) ?_
  refine fc (okt_iastore e1 hB dX5_write_21) ?_
  refine fc (ok_aload_n hB dX5_write_22) ?_
  refine fc (ok_dup hB dX5_write_23) ?_
  refine fc (ok_getI hB hT fl_X5_17 rfl rfl (Or.inl af_5_1) dX5_write_24) ?_
  refine fc (ok_iconst hB dX5_write_27) ?_
  refine fc (ok_iadd hB dX5_write_28) ?_
  refine fc (ok_putI hB hT fp_X5_17 rfl rfl rfl af_5_1 dX5_write_29) ?_
  refine fc (ok_vret hB dX5_write_32) ?_
  exact fn

def w_X5_write : WP := fun av σ Q => ∃ (p : Int) (m : Int) (o : Int), av = [(21, 31), (0, p), (0, m), (0, o)] ∧ (0 ≤ σ 31 1 ∧ σ 31 1 ≤ 1000000 ∧ 0 ≤ p ∧ p < 4 ∧ 0 ≤ o ∧ o < 64 ∧ 0 ≤ m ∧ m ≤ 100000 ∧ Q (6, 0) (up (up σ 32 (σ 31 1 % 128) (pck p m o)) 31 1 (σ 31 1 + 1)))
theorem w_X5_write_e (p : Int) (m : Int) (o : Int) (σ : Mem) (Q : AV → Mem → Prop) : w_X5_write [(21, 31), (0, p), (0, m), (0, o)] σ Q = (0 ≤ σ 31 1 ∧ σ 31 1 ≤ 1000000 ∧ 0 ≤ p ∧ p < 4 ∧ 0 ≤ o ∧ o < 64 ∧ 0 ≤ m ∧ m ≤ 100000 ∧ Q (6, 0) (up (up σ 32 (σ 31 1 % 128) (pck p m o)) 31 1 (σ 31 1 + 1))) := by
  apply propext; constructor
  · rintro ⟨p', m', o', h9, hb9⟩; cases h9; exact hb9
  · intro hb9; exact ⟨p, m, o, rfl, hb9⟩

set_option maxRecDepth 100000 in
set_option maxHeartbeats 4000000 in
theorem s_X5_write : ∀ av σ Q, w_X5_write av σ Q → amCall 0 0 0 TT yX5_write cX5_write 4 (none) av σ Q := by
  rintro av σ Q ⟨p, m, o, rfl, h0, h1, hp0, hp1, ho0, ho1, hm0, hm1, h⟩
  refine am_m0 (own := RX5) (A := look a_X5_write) (fun X e1 e2 hB => o_X5_write e1 e2 hB) rfl (by decide +kernel) rfl rfl 60 (w := 4) ?_
  change vcs _ _ _ _ 60 0 [(21, 31), (0, p), (0, m), (0, o)] [] σ
  simp only [vI_e, vL_e, vNull_e, vIload_e, vLload_e, vAload_e, vIstore_e, vLstore_e, vAstore_e, vIinc_e, vIadd_e, vIsub_e, vImul_e, vIand_e, vIor_e, vIxor_e, vIshl_e, vIshr_e, vIushr_e, vIdiv_e, vIrem_e, vLadd_e, vLsub_e, vLmul_e, vLand_e, vLor_e, vLxor_e, vLdiv_e, vLrem_e, vLushr_e, vLshl_e, vLcmp_e, vIneg_e, vI2l_e, vL2i_e, vI2b_e, vI2c_e, vDup_e, vPop_e, vDup2_e, vGoto_e, vIcEq_e, vIfEq_e, vIcNe_e, vIfNe_e, vIcLt_e, vIfLt_e, vIcGe_e, vIfGe_e, vIcGt_e, vIfGt_e, vIcLe_e, vIfLe_e, vNonnull_e, vSw_e, vGetI_e, vGetL_e, vGetR_e, vPutI_e, vPutZ_e, vPutL_e, vPutR_e, vIald_e, vIald_s, vLald_e, vBald_e, vBald_s, vAald_e, vIast_e, vLast_e, vBast_e, vAast_e, vAlen_e8, vAlen_e9, vAlen_e10, vAlen_e11, vAlen_e5, vAlen_e3, vGets_e, vCompact_e, vLdcS_e, vIret_e, vZret_e, vCret_e, vBret_e, vLret_e, vVret_e, vAret_e, vCallM_e0, vCallMV_e0, vCallS_e0, vCallSV_e0, vCallM_e1, vCallMV_e1, vCallS_e1, vCallSV_e1, vCallM_e2, vCallMV_e2, vCallS_e2, vCallSV_e2, vCallM_e3, vCallMV_e3, vCallS_e3, vCallSV_e3, vCallM_e4, vCallMV_e4, vCallS_e4, vCallSV_e4, vCallM_e5, vCallMV_e5, vCallS_e5, vCallSV_e5, vCallM_e6, vCallMV_e6, vCallS_e6, vCallSV_e6, vCallM_e7, vCallMV_e7, vCallS_e7, vCallSV_e7, vBad_e, vStrVal_e, vStrCod_e, vForm_e, vCallT_e0, vCallT_e1, vCallT_e2, vCopy_e, rf_0_0, rf_0_1, rf_0_2, rf_0_3, rf_0_4, rf_0_7, rf_0_10, rf_0_11, rf_0_12, rf_0_13, rf_0_14, rf_0_15, rf_0_16, rf_1_0, rf_3_0, rf_3_1, rf_6_0, rf_6_1, rf_9_0, rf_9_1, rf_9_3, rf_13_0, rf_13_1, rf_13_2, rf_16_0, rf_16_1, rf_16_2, rf_16_3, rf_21_0, rf_21_1, rf_21_2, rf_21_3, rf_26_0, rf_26_1, rf_26_2, rf_26_3, rf_26_4, rf_26_5, rf_26_6, rf_31_0, rf_31_2, rf_31_5, rf_31_6, rf_36_0, rf_36_1, rf_36_2, rf_36_3, rf_39_0, rf_39_1, rf_39_2, rf_41_0, rf_41_1, rf_41_2, rf_41_3, rf_5000_1, rf_5000_2, rf_5000_3, rf_5000_4, rf_5000_5, rf_5000_15, rf_5000_16, rf_5000_18, rf_5000_19, rf_5000_20, rf_5000_21, rf_5000_22, rf_5000_23, rf_5000_24, rf_5000_25, rf_5000_26, rf_5000_27, rf_5000_36, rf_5000_37, rf_5000_40, rf_5000_41, rf_5000_42, rf_5000_43, rf_5000_44, rf_5000_45, rf_5000_47, rf_5000_52, rf_5000_54, rf_5000_55, rf_100_0, rf_100_1, rf_103_0, rf_103_1, rf_106_0, rf_106_1, rf_109_0, rf_109_1, al_2, al_4, al_5, al_7, al_8, al_10, al_11, al_12, al_14, al_15, al_17, al_18, al_19, al_20, al_22, al_23, al_24, al_25, al_27, al_28, al_29, al_30, al_32, al_33, al_34, al_35, al_37, al_38, al_40, al_42, al_5001, al_5002, al_5003, al_5004, al_5005, al_5006, al_5007, al_5008, al_5009, al_5010, al_5011, al_5012, al_5013, al_5014, al_5015, al_5016, al_5017, al_5018, al_5019, al_5020, al_5021, al_5022, al_5023, al_5024, al_5025, al_5026, al_9000, al_101, al_102, al_104, al_105, al_107, al_108, al_110, al_111, vcs_e, lg_c0, lg_cs, lg_nil, set_c0, set_cs, okst_0, okst_s, acok_n, acok_c, List.contains_nil, List.contains_cons, Bool.or_false, Bool.false_or, Bool.false_eq_true, if_false, if_true, ite_self, ne_eq, true_and, and_true, not_false_eq_true, not_true_eq_false, false_imp_iff, true_imp_iff, Nat.ble_eq, Bool.and_eq_true, reduceCtorEq, or_false, false_or, or_true, true_or, false_and, and_false, and_self, Int.reduceLE, Int.reduceAdd, Int.reduceSub, Int.reduceMul, Int.reduceNeg, Int.reduceLT, Int.reduceEq, Int.reduceNe, Nat.reduceBEq, Nat.reduceBNe, Nat.reduceEqDiff, amCmp_in, amCmp_lt, amCmp_le, amCmp_gt, amCmp_ge, amCmp_eq, amCmp_ne, Nat.reduceLeDiff, Nat.reduceSub, Bool.and_true, Bool.true_and, Bool.and_self, Bool.or_true, Bool.true_or, isRf_3, isRf_4, isRf_5, isRf_8, isRf_9, isRf_10, isRf_11, isRf_15, isRf_16, isRf_17, isRf_18, isRf_19, isRf_20, isRf_21, isRf_22, isRf_23, isRf_24, isRf_25, isRf_26, isRf_27, isRf_28, k_X5_write_0, k_X5_write_1, k_X5_write_4, k_X5_write_5, k_X5_write_8, k_X5_write_10, k_X5_write_11, k_X5_write_12, k_X5_write_14, k_X5_write_15, k_X5_write_16, k_X5_write_17, k_X5_write_18, k_X5_write_19, k_X5_write_20, k_X5_write_21, k_X5_write_22, k_X5_write_23, k_X5_write_24, k_X5_write_27, k_X5_write_28, k_X5_write_29, k_X5_write_32, amIand_127]
  have e1 : amIshl m 8 = m * 256 := amIshl_nat hm0 (by decide) (by decide) (by show m * ((2 ^ 8 : Nat) : Int) < _; omega)
  have e2 : amIshl o 2 = o * 4 := amIshl_nat ho0 (by decide) (by decide) (by show o * ((2 ^ 2 : Nat) : Int) < _; omega)
  have e3 : amIor (m * 256) (o * 4) = m * 256 + o * 4 := amIor_disj (k := 8) (by decide) (by omega) (by show m * 256 % ((2 ^ 8 : Nat) : Int) = 0; omega) (by omega) (by show _ < ((2 ^ 8 : Nat) : Int); omega) (by omega)
  have e4 : amIor (m * 256 + o * 4) p = m * 256 + o * 4 + p := amIor_disj (k := 2) (by decide) (by omega) (by show (m * 256 + o * 4) % ((2 ^ 2 : Nat) : Int) = 0; omega) (by omega) (by show _ < ((2 ^ 2 : Nat) : Int); omega) (by omega)
  rw [e1, e2, e3, e4]
  simp only [up_s, up_nj, up_na, up_up, savR_o, cpy_o, fillm_o, setAud_o, setv_o, setv_s, Int.reduceNe, Int.reduceEq, Int.reduceLT, Int.reduceAdd, not_false_eq_true, ne_eq, or_true, true_or]
  repeat' (first | assumption | apply And.intro | intro _)
  all_goals first | omega | exact h
def a_X5_line : AC := [(0, vAload 0 1), (1, vGetR TT 21 0 8 4), (4, vAload 0 5), (5, vGetI 21 1 8), (8, vI 1 9), (9, vIsub 10), (10, vIload 1 11), (11, vIsub 12), (12, vI 127 14), (14, vIand 15), (15, vIald TT 16), (16, vIstore 3 17), (17, vIload 2 18), (18, vSw2 [(0, 44), (1, 48)] 53), (44, vIload 3 45), (45, vI 3 46), (46, vIand 47), (47, vIret), (48, vIload 3 49), (49, vI 8 51), (51, vIshr 52), (52, vIret), (53, vIload 3 54), (54, vI 2 55), (55, vIshr 56), (56, vI 63 58), (58, vIand 59), (59, vIret)]
theorem k_X5_line_0 : look a_X5_line 0 = vAload 0 1 := rfl
theorem k_X5_line_1 : look a_X5_line 1 = vGetR TT 21 0 8 4 := rfl
theorem k_X5_line_4 : look a_X5_line 4 = vAload 0 5 := rfl
theorem k_X5_line_5 : look a_X5_line 5 = vGetI 21 1 8 := rfl
theorem k_X5_line_8 : look a_X5_line 8 = vI 1 9 := rfl
theorem k_X5_line_9 : look a_X5_line 9 = vIsub 10 := rfl
theorem k_X5_line_10 : look a_X5_line 10 = vIload 1 11 := rfl
theorem k_X5_line_11 : look a_X5_line 11 = vIsub 12 := rfl
theorem k_X5_line_12 : look a_X5_line 12 = vI 127 14 := rfl
theorem k_X5_line_14 : look a_X5_line 14 = vIand 15 := rfl
theorem k_X5_line_15 : look a_X5_line 15 = vIald TT 16 := rfl
theorem k_X5_line_16 : look a_X5_line 16 = vIstore 3 17 := rfl
theorem k_X5_line_17 : look a_X5_line 17 = vIload 2 18 := rfl
theorem k_X5_line_18 : look a_X5_line 18 = vSw2 [(0, 44), (1, 48)] 53 := rfl
theorem k_X5_line_44 : look a_X5_line 44 = vIload 3 45 := rfl
theorem k_X5_line_45 : look a_X5_line 45 = vI 3 46 := rfl
theorem k_X5_line_46 : look a_X5_line 46 = vIand 47 := rfl
theorem k_X5_line_47 : look a_X5_line 47 = vIret := rfl
theorem k_X5_line_48 : look a_X5_line 48 = vIload 3 49 := rfl
theorem k_X5_line_49 : look a_X5_line 49 = vI 8 51 := rfl
theorem k_X5_line_51 : look a_X5_line 51 = vIshr 52 := rfl
theorem k_X5_line_52 : look a_X5_line 52 = vIret := rfl
theorem k_X5_line_53 : look a_X5_line 53 = vIload 3 54 := rfl
theorem k_X5_line_54 : look a_X5_line 54 = vI 2 55 := rfl
theorem k_X5_line_55 : look a_X5_line 55 = vIshr 56 := rfl
theorem k_X5_line_56 : look a_X5_line 56 = vI 63 58 := rfl
theorem k_X5_line_58 : look a_X5_line 58 = vIand 59 := rfl
theorem k_X5_line_59 : look a_X5_line 59 = vIret := rfl
theorem o_X5_line {X : amX} (e1 : XT X = TT) (e2 : XD X = 0) (hB : amB X RX5 cX5_line (some .int) 4) : ∀ pc, amOK X pc (look a_X5_line pc) := by
  have hT : amTok (XT X) := e1 ▸ TT_ok
  refine look_ok ?_
  unfold a_X5_line
  refine fc (ok_aload_n hB dX5_line_0) ?_
  refine fc (okt_getR e1 hB hT fl_X5_13 rfl af_5_0 at_5_0 (by decide) dX5_line_1) ?_
  refine fc (ok_aload_n hB dX5_line_4) ?_
  refine fc (ok_getI hB hT fl_X5_17 rfl rfl (Or.inl af_5_1) dX5_line_5) ?_
  refine fc (ok_iconst hB dX5_line_8) ?_
  refine fc (ok_isub hB dX5_line_9) ?_
  refine fc (ok_iload_n hB dX5_line_10) ?_
  refine fc (ok_isub hB dX5_line_11) ?_
  refine fc (ok_bipush hB dX5_line_12 (by decide)) ?_
  refine fc (ok_iand hB dX5_line_14) ?_
  refine fc (okt_iaload e1 hB dX5_line_15) ?_
  refine fc (ok_istore_n hB (by decide) dX5_line_16) ?_
  refine fc (ok_iload_n hB dX5_line_17) ?_
  refine fc (ok_sw2 (by decide) (ok_lookupswitch hB [(0, 44), (1, 48)] dX5_line_18 (by decide) (by decide) (by decide))) ?_
  refine fc (ok_iload_n hB dX5_line_44) ?_
  refine fc (ok_iconst hB dX5_line_45) ?_
  refine fc (ok_iand hB dX5_line_46) ?_
  refine fc (ok_iret hB dX5_line_47) ?_
  refine fc (ok_iload_n hB dX5_line_48) ?_
  refine fc (ok_bipush hB dX5_line_49 (by decide)) ?_
  refine fc (ok_ishr hB dX5_line_51) ?_
  refine fc (ok_iret hB dX5_line_52) ?_
  refine fc (ok_iload_n hB dX5_line_53) ?_
  refine fc (ok_iconst hB dX5_line_54) ?_
  refine fc (ok_ishr hB dX5_line_55) ?_
  refine fc (ok_bipush hB dX5_line_56 (by decide)) ?_
  refine fc (ok_iand hB dX5_line_58) ?_
  refine fc (ok_iret hB dX5_line_59) ?_
  exact fn

def w_X5_line : WP := fun av σ Q => ∃ (i : Int) (w : Int), av = [(21, 31), (0, i), (0, w)] ∧ (0 ≤ i ∧ i < σ 31 1 ∧ σ 31 1 ≤ 1000000 ∧ InR w ∧ 0 ≤ σ 32 ((σ 31 1 - 1 - i) % 128) ∧ InR (σ 32 ((σ 31 1 - 1 - i) % 128)) ∧ Q (0, if w = 0 then σ 32 ((σ 31 1 - 1 - i) % 128) % 4 else if w = 1 then σ 32 ((σ 31 1 - 1 - i) % 128) / 256 else σ 32 ((σ 31 1 - 1 - i) % 128) / 4 % 64) σ)
theorem w_X5_line_e (i : Int) (w : Int) (σ : Mem) (Q : AV → Mem → Prop) : w_X5_line [(21, 31), (0, i), (0, w)] σ Q = (0 ≤ i ∧ i < σ 31 1 ∧ σ 31 1 ≤ 1000000 ∧ InR w ∧ 0 ≤ σ 32 ((σ 31 1 - 1 - i) % 128) ∧ InR (σ 32 ((σ 31 1 - 1 - i) % 128)) ∧ Q (0, if w = 0 then σ 32 ((σ 31 1 - 1 - i) % 128) % 4 else if w = 1 then σ 32 ((σ 31 1 - 1 - i) % 128) / 256 else σ 32 ((σ 31 1 - 1 - i) % 128) / 4 % 64) σ) := by
  apply propext; constructor
  · rintro ⟨i', w', h9, hb9⟩; cases h9; exact hb9
  · intro hb9; exact ⟨i, w, rfl, hb9⟩

set_option maxRecDepth 100000 in
set_option maxHeartbeats 4000000 in
theorem s_X5_line : ∀ av σ Q, w_X5_line av σ Q → amCall 0 0 0 TT yX5_line cX5_line 4 (some .int) av σ Q := by
  rintro av σ Q ⟨i, w, rfl, h0, h1, h2, hw, hL0, hL, h⟩
  refine am_m0 (own := RX5) (A := look a_X5_line) (fun X e1 e2 hB => o_X5_line e1 e2 hB) rfl (by decide +kernel) rfl rfl 60 (w := 4) ?_
  change vcs _ _ _ _ 60 0 [(21, 31), (0, i), (0, w), (6, 0)] [] σ
  simp only [vSw2_e, swP_n, swP_c, vI_e, vL_e, vNull_e, vIload_e, vLload_e, vAload_e, vIstore_e, vLstore_e, vAstore_e, vIinc_e, vIadd_e, vIsub_e, vImul_e, vIand_e, vIor_e, vIxor_e, vIshl_e, vIshr_e, vIushr_e, vIdiv_e, vIrem_e, vLadd_e, vLsub_e, vLmul_e, vLand_e, vLor_e, vLxor_e, vLdiv_e, vLrem_e, vLushr_e, vLshl_e, vLcmp_e, vIneg_e, vI2l_e, vL2i_e, vI2b_e, vI2c_e, vDup_e, vPop_e, vDup2_e, vGoto_e, vIcEq_e, vIfEq_e, vIcNe_e, vIfNe_e, vIcLt_e, vIfLt_e, vIcGe_e, vIfGe_e, vIcGt_e, vIfGt_e, vIcLe_e, vIfLe_e, vNonnull_e, vSw_e, vGetI_e, vGetL_e, vGetR_e, vPutI_e, vPutZ_e, vPutL_e, vPutR_e, vIald_e, vIald_s, vLald_e, vBald_e, vBald_s, vAald_e, vIast_e, vLast_e, vBast_e, vAast_e, vAlen_e8, vAlen_e9, vAlen_e10, vAlen_e11, vAlen_e5, vAlen_e3, vGets_e, vCompact_e, vLdcS_e, vIret_e, vZret_e, vCret_e, vBret_e, vLret_e, vVret_e, vAret_e, vCallM_e0, vCallMV_e0, vCallS_e0, vCallSV_e0, vCallM_e1, vCallMV_e1, vCallS_e1, vCallSV_e1, vCallM_e2, vCallMV_e2, vCallS_e2, vCallSV_e2, vCallM_e3, vCallMV_e3, vCallS_e3, vCallSV_e3, vCallM_e4, vCallMV_e4, vCallS_e4, vCallSV_e4, vCallM_e5, vCallMV_e5, vCallS_e5, vCallSV_e5, vCallM_e6, vCallMV_e6, vCallS_e6, vCallSV_e6, vCallM_e7, vCallMV_e7, vCallS_e7, vCallSV_e7, vBad_e, vStrVal_e, vStrCod_e, vForm_e, vCallT_e0, vCallT_e1, vCallT_e2, vCopy_e, rf_0_0, rf_0_1, rf_0_2, rf_0_3, rf_0_4, rf_0_7, rf_0_10, rf_0_11, rf_0_12, rf_0_13, rf_0_14, rf_0_15, rf_0_16, rf_1_0, rf_3_0, rf_3_1, rf_6_0, rf_6_1, rf_9_0, rf_9_1, rf_9_3, rf_13_0, rf_13_1, rf_13_2, rf_16_0, rf_16_1, rf_16_2, rf_16_3, rf_21_0, rf_21_1, rf_21_2, rf_21_3, rf_26_0, rf_26_1, rf_26_2, rf_26_3, rf_26_4, rf_26_5, rf_26_6, rf_31_0, rf_31_2, rf_31_5, rf_31_6, rf_36_0, rf_36_1, rf_36_2, rf_36_3, rf_39_0, rf_39_1, rf_39_2, rf_41_0, rf_41_1, rf_41_2, rf_41_3, rf_5000_1, rf_5000_2, rf_5000_3, rf_5000_4, rf_5000_5, rf_5000_15, rf_5000_16, rf_5000_18, rf_5000_19, rf_5000_20, rf_5000_21, rf_5000_22, rf_5000_23, rf_5000_24, rf_5000_25, rf_5000_26, rf_5000_27, rf_5000_36, rf_5000_37, rf_5000_40, rf_5000_41, rf_5000_42, rf_5000_43, rf_5000_44, rf_5000_45, rf_5000_47, rf_5000_52, rf_5000_54, rf_5000_55, rf_100_0, rf_100_1, rf_103_0, rf_103_1, rf_106_0, rf_106_1, rf_109_0, rf_109_1, al_2, al_4, al_5, al_7, al_8, al_10, al_11, al_12, al_14, al_15, al_17, al_18, al_19, al_20, al_22, al_23, al_24, al_25, al_27, al_28, al_29, al_30, al_32, al_33, al_34, al_35, al_37, al_38, al_40, al_42, al_5001, al_5002, al_5003, al_5004, al_5005, al_5006, al_5007, al_5008, al_5009, al_5010, al_5011, al_5012, al_5013, al_5014, al_5015, al_5016, al_5017, al_5018, al_5019, al_5020, al_5021, al_5022, al_5023, al_5024, al_5025, al_5026, al_9000, al_101, al_102, al_104, al_105, al_107, al_108, al_110, al_111, vcs_e, lg_c0, lg_cs, lg_nil, set_c0, set_cs, okst_0, okst_s, acok_n, acok_c, List.contains_nil, List.contains_cons, Bool.or_false, Bool.false_or, Bool.false_eq_true, if_false, if_true, ite_self, ne_eq, true_and, and_true, not_false_eq_true, not_true_eq_false, false_imp_iff, true_imp_iff, Nat.ble_eq, Bool.and_eq_true, reduceCtorEq, or_false, false_or, or_true, true_or, false_and, and_false, and_self, Int.reduceLE, Int.reduceAdd, Int.reduceSub, Int.reduceMul, Int.reduceNeg, Int.reduceLT, Int.reduceEq, Int.reduceNe, Nat.reduceBEq, Nat.reduceBNe, Nat.reduceEqDiff, amCmp_in, amCmp_lt, amCmp_le, amCmp_gt, amCmp_ge, amCmp_eq, amCmp_ne, Nat.reduceLeDiff, Nat.reduceSub, Bool.and_true, Bool.true_and, Bool.and_self, Bool.or_true, Bool.true_or, isRf_3, isRf_4, isRf_5, isRf_8, isRf_9, isRf_10, isRf_11, isRf_15, isRf_16, isRf_17, isRf_18, isRf_19, isRf_20, isRf_21, isRf_22, isRf_23, isRf_24, isRf_25, isRf_26, isRf_27, isRf_28, k_X5_line_0, k_X5_line_1, k_X5_line_4, k_X5_line_5, k_X5_line_8, k_X5_line_9, k_X5_line_10, k_X5_line_11, k_X5_line_12, k_X5_line_14, k_X5_line_15, k_X5_line_16, k_X5_line_17, k_X5_line_18, k_X5_line_44, k_X5_line_45, k_X5_line_46, k_X5_line_47, k_X5_line_48, k_X5_line_49, k_X5_line_51, k_X5_line_52, k_X5_line_53, k_X5_line_54, k_X5_line_55, k_X5_line_56, k_X5_line_58, k_X5_line_59, amIand_127, amIand_3, amIand_63]
  generalize hLd : σ 32 ((σ 31 1 - 1 - i) % 128) = L at *
  rw [amIshr_e hL (by decide) (by decide), amIshr_e hL (by decide) (by decide)]
  repeat' (first | assumption | apply And.intro | intro _)
  all_goals first | omega | (split at h <;> first | exact h | omega | (split at h <;> first | exact h | omega))
theorem wd_230 : Cond.fieldLink RX5 27 "ArmchairHouse$Past" "actNext" "I" ∈ TBL := tb_tab (List.mem_of_getElem? (i := 230) (by decide +kernel)) rfl
theorem fl_X5_27 : amFl RX5 5 4 27 RX5 TX5 9 := ⟨rfl, inT_5, by decide, wd_230⟩
theorem wd_227 : Cond.fieldLink RX5 21 "ArmchairHouse$Past" "acts" "[I" ∈ TBL := tb_tab (List.mem_of_getElem? (i := 227) (by decide +kernel)) rfl
theorem fl_X5_21 : amFl RX5 5 2 21 RX5 TX5 9 := ⟨rfl, inT_5, by decide, wd_227⟩
theorem wd_765 : Cond.methodLink RX5 49 yX0_saveTo ∈ TBL := tb_tab (List.mem_of_getElem? (i := 765) (by decide +kernel)) rfl
theorem wd_768 : Cond.code yX0_saveTo cX0_saveTo 3 (none) ∈ TBL := tb_tab (List.mem_of_getElem? (i := 768) (by decide +kernel)) rfl
theorem lk_X5_49 : amLk RX5 49 yX0_saveTo cX0_saveTo 3 (none) 2 := ⟨wd_765, wd_6, wd_768, by decide +kernel, by decide +kernel, by decide⟩
theorem wd_766 : Cond.instanceMethod yX0_saveTo ∈ TBL := tb_tab (List.mem_of_getElem? (i := 766) (by decide +kernel)) rfl
theorem wd_767 : Cond.selects RX0 yX0_saveTo yX0_saveTo ∈ TBL := tb_tab (List.mem_of_getElem? (i := 767) (by decide +kernel)) rfl
theorem fp_X5_27 : amFp RX5 5 4 27 RX5 TX5 9 tyX5 .int := ⟨fl_X5_27, tyX5_ok, nmX5, by decide +kernel⟩
def a_X5_remember : AC := [(0, vAload 0 1), (1, vGetI 21 4 4), (4, vI 28 6), (6, vImul 7), (7, vIstore 2 8), (8, vIload 2 9), (9, vIfLt 24 12), (12, vIload 2 13), (13, vAload 0 14), (14, vGetR TT 21 2 8 17), (17, vAlen TT 18), (18, vI 28 20), (20, vIsub 21), (21, vIcLe 25 24), (24, vVret), (25, vAload 1 26), (26, vAload 0 27), (27, vGetR TT 21 2 8 30), (30, vIload 2 31), (31, vCallMV w_X0_saveTo 16 2 34), (34, vAload 0 35), (35, vGetR TT 21 2 8 38), (38, vIload 2 39), (39, vI 27 41), (41, vIadd 42), (42, vAload 0 43), (43, vGetI 21 1 46), (46, vIast TT 47), (47, vAload 0 48), (48, vAload 0 49), (49, vGetI 21 4 52), (52, vI 1 53), (53, vIadd 54), (54, vI 40 56), (56, vIrem 57), (57, vPutI 21 4 60), (60, vAload 0 61), (61, vI 40 63), (63, vAload 0 64), (64, vGetI 21 3 67), (67, vI 1 68), (68, vIadd 69), (69, vCallS w_J9_min_7cf53 2 72), (72, vPutI 21 3 75), (75, vVret)]
theorem k_X5_remember_0 : look a_X5_remember 0 = vAload 0 1 := rfl
theorem k_X5_remember_1 : look a_X5_remember 1 = vGetI 21 4 4 := rfl
theorem k_X5_remember_4 : look a_X5_remember 4 = vI 28 6 := rfl
theorem k_X5_remember_6 : look a_X5_remember 6 = vImul 7 := rfl
theorem k_X5_remember_7 : look a_X5_remember 7 = vIstore 2 8 := rfl
theorem k_X5_remember_8 : look a_X5_remember 8 = vIload 2 9 := rfl
theorem k_X5_remember_9 : look a_X5_remember 9 = vIfLt 24 12 := rfl
theorem k_X5_remember_12 : look a_X5_remember 12 = vIload 2 13 := rfl
theorem k_X5_remember_13 : look a_X5_remember 13 = vAload 0 14 := rfl
theorem k_X5_remember_14 : look a_X5_remember 14 = vGetR TT 21 2 8 17 := rfl
theorem k_X5_remember_17 : look a_X5_remember 17 = vAlen TT 18 := rfl
theorem k_X5_remember_18 : look a_X5_remember 18 = vI 28 20 := rfl
theorem k_X5_remember_20 : look a_X5_remember 20 = vIsub 21 := rfl
theorem k_X5_remember_21 : look a_X5_remember 21 = vIcLe 25 24 := rfl
theorem k_X5_remember_24 : look a_X5_remember 24 = vVret := rfl
theorem k_X5_remember_25 : look a_X5_remember 25 = vAload 1 26 := rfl
theorem k_X5_remember_26 : look a_X5_remember 26 = vAload 0 27 := rfl
theorem k_X5_remember_27 : look a_X5_remember 27 = vGetR TT 21 2 8 30 := rfl
theorem k_X5_remember_30 : look a_X5_remember 30 = vIload 2 31 := rfl
theorem k_X5_remember_31 : look a_X5_remember 31 = vCallMV w_X0_saveTo 16 2 34 := rfl
theorem k_X5_remember_34 : look a_X5_remember 34 = vAload 0 35 := rfl
theorem k_X5_remember_35 : look a_X5_remember 35 = vGetR TT 21 2 8 38 := rfl
theorem k_X5_remember_38 : look a_X5_remember 38 = vIload 2 39 := rfl
theorem k_X5_remember_39 : look a_X5_remember 39 = vI 27 41 := rfl
theorem k_X5_remember_41 : look a_X5_remember 41 = vIadd 42 := rfl
theorem k_X5_remember_42 : look a_X5_remember 42 = vAload 0 43 := rfl
theorem k_X5_remember_43 : look a_X5_remember 43 = vGetI 21 1 46 := rfl
theorem k_X5_remember_46 : look a_X5_remember 46 = vIast TT 47 := rfl
theorem k_X5_remember_47 : look a_X5_remember 47 = vAload 0 48 := rfl
theorem k_X5_remember_48 : look a_X5_remember 48 = vAload 0 49 := rfl
theorem k_X5_remember_49 : look a_X5_remember 49 = vGetI 21 4 52 := rfl
theorem k_X5_remember_52 : look a_X5_remember 52 = vI 1 53 := rfl
theorem k_X5_remember_53 : look a_X5_remember 53 = vIadd 54 := rfl
theorem k_X5_remember_54 : look a_X5_remember 54 = vI 40 56 := rfl
theorem k_X5_remember_56 : look a_X5_remember 56 = vIrem 57 := rfl
theorem k_X5_remember_57 : look a_X5_remember 57 = vPutI 21 4 60 := rfl
theorem k_X5_remember_60 : look a_X5_remember 60 = vAload 0 61 := rfl
theorem k_X5_remember_61 : look a_X5_remember 61 = vI 40 63 := rfl
theorem k_X5_remember_63 : look a_X5_remember 63 = vAload 0 64 := rfl
theorem k_X5_remember_64 : look a_X5_remember 64 = vGetI 21 3 67 := rfl
theorem k_X5_remember_67 : look a_X5_remember 67 = vI 1 68 := rfl
theorem k_X5_remember_68 : look a_X5_remember 68 = vIadd 69 := rfl
theorem k_X5_remember_69 : look a_X5_remember 69 = vCallS w_J9_min_7cf53 2 72 := rfl
theorem k_X5_remember_72 : look a_X5_remember 72 = vPutI 21 3 75 := rfl
theorem k_X5_remember_75 : look a_X5_remember 75 = vVret := rfl
theorem o_X5_remember {X : amX} (e1 : XT X = TT) (e2 : XD X = 2) (hB : amB X RX5 cX5_remember (none) 3) : ∀ pc, amOK X pc (look a_X5_remember pc) := by
  have hT : amTok (XT X) := e1 ▸ TT_ok
  refine look_ok ?_
  unfold a_X5_remember
  refine fc (ok_aload_n hB dX5_remember_0) ?_
  refine fc (ok_getI hB hT fl_X5_27 rfl rfl (Or.inl af_5_4) dX5_remember_1) ?_
  refine fc (ok_bipush hB dX5_remember_4 (by decide)) ?_
  refine fc (ok_imul hB dX5_remember_6) ?_
  refine fc (ok_istore_n hB (by decide) dX5_remember_7) ?_
  refine fc (ok_iload_n hB dX5_remember_8) ?_
  refine fc (ok_if_lt hB (t := 24) (by decide) dX5_remember_9) ?_
  refine fc (ok_iload_n hB dX5_remember_12) ?_
  refine fc (ok_aload_n hB dX5_remember_13) ?_
  refine fc (okt_getR e1 hB hT fl_X5_21 rfl af_5_2 at_5_2 (by decide) dX5_remember_14) ?_
  refine fc (okt_arraylength e1 hB dX5_remember_17) ?_
  refine fc (ok_bipush hB dX5_remember_18 (by decide)) ?_
  refine fc (ok_isub hB dX5_remember_20) ?_
  refine fc (ok_icmp_le hB (t := 25) (by decide) dX5_remember_21) ?_
  refine fc (ok_vret hB dX5_remember_24) ?_
  refine fc (ok_aload_n hB dX5_remember_25) ?_
  refine fc (ok_aload_n hB dX5_remember_26) ?_
  refine fc (okt_getR e1 hB hT fl_X5_21 rfl af_5_2 at_5_2 (by decide) dX5_remember_27) ?_
  refine fc (ok_iload_n hB dX5_remember_30) ?_
  refine fc (ok_callMV hB hT (e1 ▸ s_X0_saveTo) lk_X5_49 (by rw [e2]; decide) (c := 0) rfl rfl rfl wd_766 wd_767 dX5_remember_31) ?_
  refine fc (ok_aload_n hB dX5_remember_34) ?_
  refine fc (okt_getR e1 hB hT fl_X5_21 rfl af_5_2 at_5_2 (by decide) dX5_remember_35) ?_
  refine fc (ok_iload_n hB dX5_remember_38) ?_
  refine fc (ok_bipush hB dX5_remember_39 (by decide)) ?_
  refine fc (ok_iadd hB dX5_remember_41) ?_
  refine fc (ok_aload_n hB dX5_remember_42) ?_
  refine fc (ok_getI hB hT fl_X5_17 rfl rfl (Or.inl af_5_1) dX5_remember_43) ?_
  refine fc (okt_iastore e1 hB dX5_remember_46) ?_
  refine fc (ok_aload_n hB dX5_remember_47) ?_
  refine fc (ok_aload_n hB dX5_remember_48) ?_
  refine fc (ok_getI hB hT fl_X5_27 rfl rfl (Or.inl af_5_4) dX5_remember_49) ?_
  refine fc (ok_iconst hB dX5_remember_52) ?_
  refine fc (ok_iadd hB dX5_remember_53) ?_
  refine fc (ok_bipush hB dX5_remember_54 (by decide)) ?_
  refine fc (ok_irem hB dX5_remember_56) ?_
  refine fc (ok_putI hB hT fp_X5_27 rfl rfl rfl af_5_4 dX5_remember_57) ?_
  refine fc (ok_aload_n hB dX5_remember_60) ?_
  refine fc (ok_bipush hB dX5_remember_61 (by decide)) ?_
  refine fc (ok_aload_n hB dX5_remember_63) ?_
  refine fc (ok_getI hB hT fl_X5_24 rfl rfl (Or.inl af_5_3) dX5_remember_64) ?_
  refine fc (ok_iconst hB dX5_remember_67) ?_
  refine fc (ok_iadd hB dX5_remember_68) ?_
  refine fc (ok_callS hB (e1 ▸ s_J9_min_7cf53) lk_X5_43 (by rw [e2]; decide) wd_452 dX5_remember_69) ?_
  refine fc (ok_putI hB hT fp_X5_24 rfl rfl rfl af_5_3 dX5_remember_72) ?_
  refine fc (ok_vret hB dX5_remember_75) ?_
  exact fn

def w_X5_remember : WP := fun av σ Q => ∃ (a : Int), av = [(21, 31), (16, a)] ∧ (a = 16 ∧ 0 ≤ σ 31 4 ∧ σ 31 4 < 40 ∧ 0 ≤ σ 31 3 ∧ σ 31 3 ≤ 40 ∧ Q (6, 0) (up (up (up (savR σ 33 (σ 31 4 * 28)) 33 (σ 31 4 * 28 + 27) (σ 31 1)) 31 4 ((σ 31 4 + 1) % 40)) 31 3 (min 40 (σ 31 3 + 1))))
theorem w_X5_remember_e (a : Int) (σ : Mem) (Q : AV → Mem → Prop) : w_X5_remember [(21, 31), (16, a)] σ Q = (a = 16 ∧ 0 ≤ σ 31 4 ∧ σ 31 4 < 40 ∧ 0 ≤ σ 31 3 ∧ σ 31 3 ≤ 40 ∧ Q (6, 0) (up (up (up (savR σ 33 (σ 31 4 * 28)) 33 (σ 31 4 * 28 + 27) (σ 31 1)) 31 4 ((σ 31 4 + 1) % 40)) 31 3 (min 40 (σ 31 3 + 1)))) := by
  apply propext; constructor
  · rintro ⟨a', h9, hb9⟩; cases h9; exact hb9
  · intro hb9; exact ⟨a, rfl, hb9⟩

set_option maxRecDepth 100000 in
set_option maxHeartbeats 4000000 in
theorem s_X5_remember : ∀ av σ Q, w_X5_remember av σ Q → amCall 2 0 0 TT yX5_remember cX5_remember 3 (none) av σ Q := by
  rintro av σ Q ⟨a, rfl, rfl, h0, h1, h2, h3, h⟩
  refine am_m0 (own := RX5) (A := look a_X5_remember) (fun X e1 e2 hB => o_X5_remember e1 e2 hB) rfl (by decide +kernel) rfl rfl 60 (w := 3) ?_
  change vcs _ _ _ _ 60 0 [(21, 31), (16, 16), (6, 0)] [] σ
  simp only [vI_e, vL_e, vNull_e, vIload_e, vLload_e, vAload_e, vIstore_e, vLstore_e, vAstore_e, vIinc_e, vIadd_e, vIsub_e, vImul_e, vIand_e, vIor_e, vIxor_e, vIshl_e, vIshr_e, vIushr_e, vIdiv_e, vIrem_e, vLadd_e, vLsub_e, vLmul_e, vLand_e, vLor_e, vLxor_e, vLdiv_e, vLrem_e, vLushr_e, vLshl_e, vLcmp_e, vIneg_e, vI2l_e, vL2i_e, vI2b_e, vI2c_e, vDup_e, vPop_e, vDup2_e, vGoto_e, vIcEq_e, vIfEq_e, vIcNe_e, vIfNe_e, vIcLt_e, vIfLt_e, vIcGe_e, vIfGe_e, vIcGt_e, vIfGt_e, vIcLe_e, vIfLe_e, vNonnull_e, vSw_e, vGetI_e, vGetL_e, vGetR_e, vPutI_e, vPutZ_e, vPutL_e, vPutR_e, vIald_e, vIald_s, vLald_e, vBald_e, vBald_s, vAald_e, vIast_e, vLast_e, vBast_e, vAast_e, vAlen_e8, vAlen_e9, vAlen_e10, vAlen_e11, vAlen_e5, vAlen_e3, vGets_e, vCompact_e, vLdcS_e, vIret_e, vZret_e, vCret_e, vBret_e, vLret_e, vVret_e, vAret_e, vCallM_e0, vCallMV_e0, vCallS_e0, vCallSV_e0, vCallM_e1, vCallMV_e1, vCallS_e1, vCallSV_e1, vCallM_e2, vCallMV_e2, vCallS_e2, vCallSV_e2, vCallM_e3, vCallMV_e3, vCallS_e3, vCallSV_e3, vCallM_e4, vCallMV_e4, vCallS_e4, vCallSV_e4, vCallM_e5, vCallMV_e5, vCallS_e5, vCallSV_e5, vCallM_e6, vCallMV_e6, vCallS_e6, vCallSV_e6, vCallM_e7, vCallMV_e7, vCallS_e7, vCallSV_e7, vBad_e, vStrVal_e, vStrCod_e, vForm_e, vCallT_e0, vCallT_e1, vCallT_e2, vCopy_e, rf_0_0, rf_0_1, rf_0_2, rf_0_3, rf_0_4, rf_0_7, rf_0_10, rf_0_11, rf_0_12, rf_0_13, rf_0_14, rf_0_15, rf_0_16, rf_1_0, rf_3_0, rf_3_1, rf_6_0, rf_6_1, rf_9_0, rf_9_1, rf_9_3, rf_13_0, rf_13_1, rf_13_2, rf_16_0, rf_16_1, rf_16_2, rf_16_3, rf_21_0, rf_21_1, rf_21_2, rf_21_3, rf_26_0, rf_26_1, rf_26_2, rf_26_3, rf_26_4, rf_26_5, rf_26_6, rf_31_0, rf_31_2, rf_31_5, rf_31_6, rf_36_0, rf_36_1, rf_36_2, rf_36_3, rf_39_0, rf_39_1, rf_39_2, rf_41_0, rf_41_1, rf_41_2, rf_41_3, rf_5000_1, rf_5000_2, rf_5000_3, rf_5000_4, rf_5000_5, rf_5000_15, rf_5000_16, rf_5000_18, rf_5000_19, rf_5000_20, rf_5000_21, rf_5000_22, rf_5000_23, rf_5000_24, rf_5000_25, rf_5000_26, rf_5000_27, rf_5000_36, rf_5000_37, rf_5000_40, rf_5000_41, rf_5000_42, rf_5000_43, rf_5000_44, rf_5000_45, rf_5000_47, rf_5000_52, rf_5000_54, rf_5000_55, rf_100_0, rf_100_1, rf_103_0, rf_103_1, rf_106_0, rf_106_1, rf_109_0, rf_109_1, al_2, al_4, al_5, al_7, al_8, al_10, al_11, al_12, al_14, al_15, al_17, al_18, al_19, al_20, al_22, al_23, al_24, al_25, al_27, al_28, al_29, al_30, al_32, al_33, al_34, al_35, al_37, al_38, al_40, al_42, al_5001, al_5002, al_5003, al_5004, al_5005, al_5006, al_5007, al_5008, al_5009, al_5010, al_5011, al_5012, al_5013, al_5014, al_5015, al_5016, al_5017, al_5018, al_5019, al_5020, al_5021, al_5022, al_5023, al_5024, al_5025, al_5026, al_9000, al_101, al_102, al_104, al_105, al_107, al_108, al_110, al_111, vcs_e, lg_c0, lg_cs, lg_nil, set_c0, set_cs, okst_0, okst_s, acok_n, acok_c, List.contains_nil, List.contains_cons, Bool.or_false, Bool.false_or, Bool.false_eq_true, if_false, if_true, ite_self, ne_eq, true_and, and_true, not_false_eq_true, not_true_eq_false, false_imp_iff, true_imp_iff, Nat.ble_eq, Bool.and_eq_true, reduceCtorEq, or_false, false_or, or_true, true_or, false_and, and_false, and_self, Int.reduceLE, Int.reduceAdd, Int.reduceSub, Int.reduceMul, Int.reduceNeg, Int.reduceLT, Int.reduceEq, Int.reduceNe, Nat.reduceBEq, Nat.reduceBNe, Nat.reduceEqDiff, amCmp_in, amCmp_lt, amCmp_le, amCmp_gt, amCmp_ge, amCmp_eq, amCmp_ne, Nat.reduceLeDiff, Nat.reduceSub, Bool.and_true, Bool.true_and, Bool.and_self, Bool.or_true, Bool.true_or, isRf_3, isRf_4, isRf_5, isRf_8, isRf_9, isRf_10, isRf_11, isRf_15, isRf_16, isRf_17, isRf_18, isRf_19, isRf_20, isRf_21, isRf_22, isRf_23, isRf_24, isRf_25, isRf_26, isRf_27, isRf_28, k_X5_remember_0, k_X5_remember_1, k_X5_remember_4, k_X5_remember_6, k_X5_remember_7, k_X5_remember_8, k_X5_remember_9, k_X5_remember_12, k_X5_remember_13, k_X5_remember_14, k_X5_remember_17, k_X5_remember_18, k_X5_remember_20, k_X5_remember_21, k_X5_remember_24, k_X5_remember_25, k_X5_remember_26, k_X5_remember_27, k_X5_remember_30, k_X5_remember_31, k_X5_remember_34, k_X5_remember_35, k_X5_remember_38, k_X5_remember_39, k_X5_remember_41, k_X5_remember_42, k_X5_remember_43, k_X5_remember_46, k_X5_remember_47, k_X5_remember_48, k_X5_remember_49, k_X5_remember_52, k_X5_remember_53, k_X5_remember_54, k_X5_remember_56, k_X5_remember_57, k_X5_remember_60, k_X5_remember_61, k_X5_remember_63, k_X5_remember_64, k_X5_remember_67, k_X5_remember_68, k_X5_remember_69, k_X5_remember_72, k_X5_remember_75, w_J9_min_7cf53_e, w_X0_saveTo_e, up_s, up_nj, up_na, up_up, savR_o, cpy_o, fillm_o, setAud_o, setv_o, setv_s, Int.reduceNe, Int.reduceEq, Int.reduceLT, Int.reduceAdd, not_false_eq_true, ne_eq, or_true, true_or]
  rw [(fd_pos (x := σ 31 4 + 1) (by omega) (show (0 : Int) < 40 by decide)).2]
  have e9 : (if σ 31 3 + 1 < 40 then σ 31 3 + 1 else 40) = min 40 (σ 31 3 + 1) := by split <;> omega
  rw [e9]
  repeat' (first | assumption | apply And.intro | intro _)
  all_goals first | omega | exact h
theorem wd_922 : Cond.methodLink RX5 53 yX0_loadFrom ∈ TBL := tb_tab (List.mem_of_getElem? (i := 922) (by decide +kernel)) rfl
theorem wd_925 : Cond.code yX0_loadFrom cX0_loadFrom 3 (none) ∈ TBL := tb_tab (List.mem_of_getElem? (i := 925) (by decide +kernel)) rfl
theorem lk_X5_53 : amLk RX5 53 yX0_loadFrom cX0_loadFrom 3 (none) 2 := ⟨wd_922, wd_6, wd_925, by decide +kernel, by decide +kernel, by decide⟩
theorem wd_923 : Cond.instanceMethod yX0_loadFrom ∈ TBL := tb_tab (List.mem_of_getElem? (i := 923) (by decide +kernel)) rfl
theorem wd_924 : Cond.selects RX0 yX0_loadFrom yX0_loadFrom ∈ TBL := tb_tab (List.mem_of_getElem? (i := 924) (by decide +kernel)) rfl
def a_X5_takeBack : AC := [(0, vAload 0 1), (1, vGetI 21 4 4), (4, vI 40 6), (6, vIadd 7), (7, vI 1 8), (8, vIsub 9), (9, vI 40 11), (11, vIrem 12), (12, vIstore 2 13), (13, vIload 2 14), (14, vI 28 16), (16, vImul 17), (17, vIstore 3 18), (18, vAload 0 19), (19, vGetI 21 3 22), (22, vIfLe 41 25), (25, vIload 3 26), (26, vIfLt 41 29), (29, vIload 3 30), (30, vAload 0 31), (31, vGetR TT 21 2 8 34), (34, vAlen TT 35), (35, vI 28 37), (37, vIsub 38), (38, vIcLe 43 41), (41, vI (-1) 42), (42, vIret), (43, vAload 1 44), (44, vAload 0 45), (45, vGetR TT 21 2 8 48), (48, vIload 3 49), (49, vCallMV w_X0_loadFrom 16 2 52), (52, vAload 0 53), (53, vAload 0 54), (54, vGetR TT 21 2 8 57), (57, vIload 3 58), (58, vI 27 60), (60, vIadd 61), (61, vIald TT 62), (62, vPutI 21 1 65), (65, vAload 0 66), (66, vIload 2 67), (67, vPutI 21 4 70), (70, vAload 0 71), (71, vDup 72), (72, vGetI 21 3 75), (75, vI 1 76), (76, vIsub 77), (77, vPutI 21 3 80), (80, vAload 0 81), (81, vGetI 21 3 84), (84, vIret)]
theorem k_X5_takeBack_0 : look a_X5_takeBack 0 = vAload 0 1 := rfl
theorem k_X5_takeBack_1 : look a_X5_takeBack 1 = vGetI 21 4 4 := rfl
theorem k_X5_takeBack_4 : look a_X5_takeBack 4 = vI 40 6 := rfl
theorem k_X5_takeBack_6 : look a_X5_takeBack 6 = vIadd 7 := rfl
theorem k_X5_takeBack_7 : look a_X5_takeBack 7 = vI 1 8 := rfl
theorem k_X5_takeBack_8 : look a_X5_takeBack 8 = vIsub 9 := rfl
theorem k_X5_takeBack_9 : look a_X5_takeBack 9 = vI 40 11 := rfl
theorem k_X5_takeBack_11 : look a_X5_takeBack 11 = vIrem 12 := rfl
theorem k_X5_takeBack_12 : look a_X5_takeBack 12 = vIstore 2 13 := rfl
theorem k_X5_takeBack_13 : look a_X5_takeBack 13 = vIload 2 14 := rfl
theorem k_X5_takeBack_14 : look a_X5_takeBack 14 = vI 28 16 := rfl
theorem k_X5_takeBack_16 : look a_X5_takeBack 16 = vImul 17 := rfl
theorem k_X5_takeBack_17 : look a_X5_takeBack 17 = vIstore 3 18 := rfl
theorem k_X5_takeBack_18 : look a_X5_takeBack 18 = vAload 0 19 := rfl
theorem k_X5_takeBack_19 : look a_X5_takeBack 19 = vGetI 21 3 22 := rfl
theorem k_X5_takeBack_22 : look a_X5_takeBack 22 = vIfLe 41 25 := rfl
theorem k_X5_takeBack_25 : look a_X5_takeBack 25 = vIload 3 26 := rfl
theorem k_X5_takeBack_26 : look a_X5_takeBack 26 = vIfLt 41 29 := rfl
theorem k_X5_takeBack_29 : look a_X5_takeBack 29 = vIload 3 30 := rfl
theorem k_X5_takeBack_30 : look a_X5_takeBack 30 = vAload 0 31 := rfl
theorem k_X5_takeBack_31 : look a_X5_takeBack 31 = vGetR TT 21 2 8 34 := rfl
theorem k_X5_takeBack_34 : look a_X5_takeBack 34 = vAlen TT 35 := rfl
theorem k_X5_takeBack_35 : look a_X5_takeBack 35 = vI 28 37 := rfl
theorem k_X5_takeBack_37 : look a_X5_takeBack 37 = vIsub 38 := rfl
theorem k_X5_takeBack_38 : look a_X5_takeBack 38 = vIcLe 43 41 := rfl
theorem k_X5_takeBack_41 : look a_X5_takeBack 41 = vI (-1) 42 := rfl
theorem k_X5_takeBack_42 : look a_X5_takeBack 42 = vIret := rfl
theorem k_X5_takeBack_43 : look a_X5_takeBack 43 = vAload 1 44 := rfl
theorem k_X5_takeBack_44 : look a_X5_takeBack 44 = vAload 0 45 := rfl
theorem k_X5_takeBack_45 : look a_X5_takeBack 45 = vGetR TT 21 2 8 48 := rfl
theorem k_X5_takeBack_48 : look a_X5_takeBack 48 = vIload 3 49 := rfl
theorem k_X5_takeBack_49 : look a_X5_takeBack 49 = vCallMV w_X0_loadFrom 16 2 52 := rfl
theorem k_X5_takeBack_52 : look a_X5_takeBack 52 = vAload 0 53 := rfl
theorem k_X5_takeBack_53 : look a_X5_takeBack 53 = vAload 0 54 := rfl
theorem k_X5_takeBack_54 : look a_X5_takeBack 54 = vGetR TT 21 2 8 57 := rfl
theorem k_X5_takeBack_57 : look a_X5_takeBack 57 = vIload 3 58 := rfl
theorem k_X5_takeBack_58 : look a_X5_takeBack 58 = vI 27 60 := rfl
theorem k_X5_takeBack_60 : look a_X5_takeBack 60 = vIadd 61 := rfl
theorem k_X5_takeBack_61 : look a_X5_takeBack 61 = vIald TT 62 := rfl
theorem k_X5_takeBack_62 : look a_X5_takeBack 62 = vPutI 21 1 65 := rfl
theorem k_X5_takeBack_65 : look a_X5_takeBack 65 = vAload 0 66 := rfl
theorem k_X5_takeBack_66 : look a_X5_takeBack 66 = vIload 2 67 := rfl
theorem k_X5_takeBack_67 : look a_X5_takeBack 67 = vPutI 21 4 70 := rfl
theorem k_X5_takeBack_70 : look a_X5_takeBack 70 = vAload 0 71 := rfl
theorem k_X5_takeBack_71 : look a_X5_takeBack 71 = vDup 72 := rfl
theorem k_X5_takeBack_72 : look a_X5_takeBack 72 = vGetI 21 3 75 := rfl
theorem k_X5_takeBack_75 : look a_X5_takeBack 75 = vI 1 76 := rfl
theorem k_X5_takeBack_76 : look a_X5_takeBack 76 = vIsub 77 := rfl
theorem k_X5_takeBack_77 : look a_X5_takeBack 77 = vPutI 21 3 80 := rfl
theorem k_X5_takeBack_80 : look a_X5_takeBack 80 = vAload 0 81 := rfl
theorem k_X5_takeBack_81 : look a_X5_takeBack 81 = vGetI 21 3 84 := rfl
theorem k_X5_takeBack_84 : look a_X5_takeBack 84 = vIret := rfl
theorem o_X5_takeBack {X : amX} (e1 : XT X = TT) (e2 : XD X = 2) (hB : amB X RX5 cX5_takeBack (some .int) 4) : ∀ pc, amOK X pc (look a_X5_takeBack pc) := by
  have hT : amTok (XT X) := e1 ▸ TT_ok
  refine look_ok ?_
  unfold a_X5_takeBack
  refine fc (ok_aload_n hB dX5_takeBack_0) ?_
  refine fc (ok_getI hB hT fl_X5_27 rfl rfl (Or.inl af_5_4) dX5_takeBack_1) ?_
  refine fc (ok_bipush hB dX5_takeBack_4 (by decide)) ?_
  refine fc (ok_iadd hB dX5_takeBack_6) ?_
  refine fc (ok_iconst hB dX5_takeBack_7) ?_
  refine fc (ok_isub hB dX5_takeBack_8) ?_
  refine fc (ok_bipush hB dX5_takeBack_9 (by decide)) ?_
  refine fc (ok_irem hB dX5_takeBack_11) ?_
  refine fc (ok_istore_n hB (by decide) dX5_takeBack_12) ?_
  refine fc (ok_iload_n hB dX5_takeBack_13) ?_
  refine fc (ok_bipush hB dX5_takeBack_14 (by decide)) ?_
  refine fc (ok_imul hB dX5_takeBack_16) ?_
  refine fc (ok_istore_n hB (by decide) dX5_takeBack_17) ?_
  refine fc (ok_aload_n hB dX5_takeBack_18) ?_
  refine fc (ok_getI hB hT fl_X5_24 rfl rfl (Or.inl af_5_3) dX5_takeBack_19) ?_
  refine fc (ok_if_le hB (t := 41) (by decide) dX5_takeBack_22) ?_
  refine fc (ok_iload_n hB dX5_takeBack_25) ?_
  refine fc (ok_if_lt hB (t := 41) (by decide) dX5_takeBack_26) ?_
  refine fc (ok_iload_n hB dX5_takeBack_29) ?_
  refine fc (ok_aload_n hB dX5_takeBack_30) ?_
  refine fc (okt_getR e1 hB hT fl_X5_21 rfl af_5_2 at_5_2 (by decide) dX5_takeBack_31) ?_
  refine fc (okt_arraylength e1 hB dX5_takeBack_34) ?_
  refine fc (ok_bipush hB dX5_takeBack_35 (by decide)) ?_
  refine fc (ok_isub hB dX5_takeBack_37) ?_
  refine fc (ok_icmp_le hB (t := 43) (by decide) dX5_takeBack_38) ?_
  refine fc (ok_iconst hB dX5_takeBack_41) ?_
  refine fc (ok_iret hB dX5_takeBack_42) ?_
  refine fc (ok_aload_n hB dX5_takeBack_43) ?_
  refine fc (ok_aload_n hB dX5_takeBack_44) ?_
  refine fc (okt_getR e1 hB hT fl_X5_21 rfl af_5_2 at_5_2 (by decide) dX5_takeBack_45) ?_
  refine fc (ok_iload_n hB dX5_takeBack_48) ?_
  refine fc (ok_callMV hB hT (e1 ▸ s_X0_loadFrom) lk_X5_53 (by rw [e2]; decide) (c := 0) rfl rfl rfl wd_923 wd_924 dX5_takeBack_49) ?_
  refine fc (ok_aload_n hB dX5_takeBack_52) ?_
  refine fc (ok_aload_n hB dX5_takeBack_53) ?_
  refine fc (okt_getR e1 hB hT fl_X5_21 rfl af_5_2 at_5_2 (by decide) dX5_takeBack_54) ?_
  refine fc (ok_iload_n hB dX5_takeBack_57) ?_
  refine fc (ok_bipush hB dX5_takeBack_58 (by decide)) ?_
  refine fc (ok_iadd hB dX5_takeBack_60) ?_
  refine fc (okt_iaload e1 hB dX5_takeBack_61) ?_
  refine fc (ok_putI hB hT fp_X5_17 rfl rfl rfl af_5_1 dX5_takeBack_62) ?_
  refine fc (ok_aload_n hB dX5_takeBack_65) ?_
  refine fc (ok_iload_n hB dX5_takeBack_66) ?_
  refine fc (ok_putI hB hT fp_X5_27 rfl rfl rfl af_5_4 dX5_takeBack_67) ?_
  refine fc (ok_aload_n hB dX5_takeBack_70) ?_
  refine fc (ok_dup hB dX5_takeBack_71) ?_
  refine fc (ok_getI hB hT fl_X5_24 rfl rfl (Or.inl af_5_3) dX5_takeBack_72) ?_
  refine fc (ok_iconst hB dX5_takeBack_75) ?_
  refine fc (ok_isub hB dX5_takeBack_76) ?_
  refine fc (ok_putI hB hT fp_X5_24 rfl rfl rfl af_5_3 dX5_takeBack_77) ?_
  refine fc (ok_aload_n hB dX5_takeBack_80) ?_
  refine fc (ok_getI hB hT fl_X5_24 rfl rfl (Or.inl af_5_3) dX5_takeBack_81) ?_
  refine fc (ok_iret hB dX5_takeBack_84) ?_
  exact fn

def w_X5_takeBack : WP := fun av σ Q => ∃ (a : Int), av = [(21, 31), (16, a)] ∧ (a = 16 ∧ 0 ≤ σ 31 4 ∧ σ 31 4 < 40 ∧ 0 ≤ σ 31 3 ∧ σ 31 3 ≤ 40 ∧ (if σ 31 3 = 0 then Q (0, -1) σ else Q (0, σ 31 3 - 1) (up (up (up (setAud σ 16 (fun k => σ 33 ((σ 31 4 + 39) % 40 * 28 + k))) 31 1 (σ 33 ((σ 31 4 + 39) % 40 * 28 + 27))) 31 4 ((σ 31 4 + 39) % 40)) 31 3 (σ 31 3 - 1))))
theorem w_X5_takeBack_e (a : Int) (σ : Mem) (Q : AV → Mem → Prop) : w_X5_takeBack [(21, 31), (16, a)] σ Q = (a = 16 ∧ 0 ≤ σ 31 4 ∧ σ 31 4 < 40 ∧ 0 ≤ σ 31 3 ∧ σ 31 3 ≤ 40 ∧ (if σ 31 3 = 0 then Q (0, -1) σ else Q (0, σ 31 3 - 1) (up (up (up (setAud σ 16 (fun k => σ 33 ((σ 31 4 + 39) % 40 * 28 + k))) 31 1 (σ 33 ((σ 31 4 + 39) % 40 * 28 + 27))) 31 4 ((σ 31 4 + 39) % 40)) 31 3 (σ 31 3 - 1)))) := by
  apply propext; constructor
  · rintro ⟨a', h9, hb9⟩; cases h9; exact hb9
  · intro hb9; exact ⟨a, rfl, hb9⟩

set_option maxRecDepth 100000 in
set_option maxHeartbeats 4000000 in
theorem s_X5_takeBack : ∀ av σ Q, w_X5_takeBack av σ Q → amCall 2 0 0 TT yX5_takeBack cX5_takeBack 4 (some .int) av σ Q := by
  rintro av σ Q ⟨a, rfl, rfl, h0, h1, h2, h3, h⟩
  refine am_m0 (own := RX5) (A := look a_X5_takeBack) (fun X e1 e2 hB => o_X5_takeBack e1 e2 hB) rfl (by decide +kernel) rfl rfl 80 (w := 4) ?_
  change vcs _ _ _ _ 80 0 [(21, 31), (16, 16), (6, 0), (6, 0)] [] σ
  simp only [vI_e, vL_e, vNull_e, vIload_e, vLload_e, vAload_e, vIstore_e, vLstore_e, vAstore_e, vIinc_e, vIadd_e, vIsub_e, vImul_e, vIand_e, vIor_e, vIxor_e, vIshl_e, vIshr_e, vIushr_e, vIdiv_e, vIrem_e, vLadd_e, vLsub_e, vLmul_e, vLand_e, vLor_e, vLxor_e, vLdiv_e, vLrem_e, vLushr_e, vLshl_e, vLcmp_e, vIneg_e, vI2l_e, vL2i_e, vI2b_e, vI2c_e, vDup_e, vPop_e, vDup2_e, vGoto_e, vIcEq_e, vIfEq_e, vIcNe_e, vIfNe_e, vIcLt_e, vIfLt_e, vIcGe_e, vIfGe_e, vIcGt_e, vIfGt_e, vIcLe_e, vIfLe_e, vNonnull_e, vSw_e, vGetI_e, vGetL_e, vGetR_e, vPutI_e, vPutZ_e, vPutL_e, vPutR_e, vIald_e, vIald_s, vLald_e, vBald_e, vBald_s, vAald_e, vIast_e, vLast_e, vBast_e, vAast_e, vAlen_e8, vAlen_e9, vAlen_e10, vAlen_e11, vAlen_e5, vAlen_e3, vGets_e, vCompact_e, vLdcS_e, vIret_e, vZret_e, vCret_e, vBret_e, vLret_e, vVret_e, vAret_e, vCallM_e0, vCallMV_e0, vCallS_e0, vCallSV_e0, vCallM_e1, vCallMV_e1, vCallS_e1, vCallSV_e1, vCallM_e2, vCallMV_e2, vCallS_e2, vCallSV_e2, vCallM_e3, vCallMV_e3, vCallS_e3, vCallSV_e3, vCallM_e4, vCallMV_e4, vCallS_e4, vCallSV_e4, vCallM_e5, vCallMV_e5, vCallS_e5, vCallSV_e5, vCallM_e6, vCallMV_e6, vCallS_e6, vCallSV_e6, vCallM_e7, vCallMV_e7, vCallS_e7, vCallSV_e7, vBad_e, vStrVal_e, vStrCod_e, vForm_e, vCallT_e0, vCallT_e1, vCallT_e2, vCopy_e, rf_0_0, rf_0_1, rf_0_2, rf_0_3, rf_0_4, rf_0_7, rf_0_10, rf_0_11, rf_0_12, rf_0_13, rf_0_14, rf_0_15, rf_0_16, rf_1_0, rf_3_0, rf_3_1, rf_6_0, rf_6_1, rf_9_0, rf_9_1, rf_9_3, rf_13_0, rf_13_1, rf_13_2, rf_16_0, rf_16_1, rf_16_2, rf_16_3, rf_21_0, rf_21_1, rf_21_2, rf_21_3, rf_26_0, rf_26_1, rf_26_2, rf_26_3, rf_26_4, rf_26_5, rf_26_6, rf_31_0, rf_31_2, rf_31_5, rf_31_6, rf_36_0, rf_36_1, rf_36_2, rf_36_3, rf_39_0, rf_39_1, rf_39_2, rf_41_0, rf_41_1, rf_41_2, rf_41_3, rf_5000_1, rf_5000_2, rf_5000_3, rf_5000_4, rf_5000_5, rf_5000_15, rf_5000_16, rf_5000_18, rf_5000_19, rf_5000_20, rf_5000_21, rf_5000_22, rf_5000_23, rf_5000_24, rf_5000_25, rf_5000_26, rf_5000_27, rf_5000_36, rf_5000_37, rf_5000_40, rf_5000_41, rf_5000_42, rf_5000_43, rf_5000_44, rf_5000_45, rf_5000_47, rf_5000_52, rf_5000_54, rf_5000_55, rf_100_0, rf_100_1, rf_103_0, rf_103_1, rf_106_0, rf_106_1, rf_109_0, rf_109_1, al_2, al_4, al_5, al_7, al_8, al_10, al_11, al_12, al_14, al_15, al_17, al_18, al_19, al_20, al_22, al_23, al_24, al_25, al_27, al_28, al_29, al_30, al_32, al_33, al_34, al_35, al_37, al_38, al_40, al_42, al_5001, al_5002, al_5003, al_5004, al_5005, al_5006, al_5007, al_5008, al_5009, al_5010, al_5011, al_5012, al_5013, al_5014, al_5015, al_5016, al_5017, al_5018, al_5019, al_5020, al_5021, al_5022, al_5023, al_5024, al_5025, al_5026, al_9000, al_101, al_102, al_104, al_105, al_107, al_108, al_110, al_111, vcs_e, lg_c0, lg_cs, lg_nil, set_c0, set_cs, okst_0, okst_s, acok_n, acok_c, List.contains_nil, List.contains_cons, Bool.or_false, Bool.false_or, Bool.false_eq_true, if_false, if_true, ite_self, ne_eq, true_and, and_true, not_false_eq_true, not_true_eq_false, false_imp_iff, true_imp_iff, Nat.ble_eq, Bool.and_eq_true, reduceCtorEq, or_false, false_or, or_true, true_or, false_and, and_false, and_self, Int.reduceLE, Int.reduceAdd, Int.reduceSub, Int.reduceMul, Int.reduceNeg, Int.reduceLT, Int.reduceEq, Int.reduceNe, Nat.reduceBEq, Nat.reduceBNe, Nat.reduceEqDiff, amCmp_in, amCmp_lt, amCmp_le, amCmp_gt, amCmp_ge, amCmp_eq, amCmp_ne, Nat.reduceLeDiff, Nat.reduceSub, Bool.and_true, Bool.true_and, Bool.and_self, Bool.or_true, Bool.true_or, isRf_3, isRf_4, isRf_5, isRf_8, isRf_9, isRf_10, isRf_11, isRf_15, isRf_16, isRf_17, isRf_18, isRf_19, isRf_20, isRf_21, isRf_22, isRf_23, isRf_24, isRf_25, isRf_26, isRf_27, isRf_28, k_X5_takeBack_0, k_X5_takeBack_1, k_X5_takeBack_4, k_X5_takeBack_6, k_X5_takeBack_7, k_X5_takeBack_8, k_X5_takeBack_9, k_X5_takeBack_11, k_X5_takeBack_12, k_X5_takeBack_13, k_X5_takeBack_14, k_X5_takeBack_16, k_X5_takeBack_17, k_X5_takeBack_18, k_X5_takeBack_19, k_X5_takeBack_22, k_X5_takeBack_25, k_X5_takeBack_26, k_X5_takeBack_29, k_X5_takeBack_30, k_X5_takeBack_31, k_X5_takeBack_34, k_X5_takeBack_35, k_X5_takeBack_37, k_X5_takeBack_38, k_X5_takeBack_41, k_X5_takeBack_42, k_X5_takeBack_43, k_X5_takeBack_44, k_X5_takeBack_45, k_X5_takeBack_48, k_X5_takeBack_49, k_X5_takeBack_52, k_X5_takeBack_53, k_X5_takeBack_54, k_X5_takeBack_57, k_X5_takeBack_58, k_X5_takeBack_60, k_X5_takeBack_61, k_X5_takeBack_62, k_X5_takeBack_65, k_X5_takeBack_66, k_X5_takeBack_67, k_X5_takeBack_70, k_X5_takeBack_71, k_X5_takeBack_72, k_X5_takeBack_75, k_X5_takeBack_76, k_X5_takeBack_77, k_X5_takeBack_80, k_X5_takeBack_81, k_X5_takeBack_84, w_X0_loadFrom_e, up_s, up_nj, up_na, up_up, savR_o, cpy_o, fillm_o, setAud_o, setv_o, setv_s, Int.reduceNe, Int.reduceEq, Int.reduceLT, Int.reduceAdd, not_false_eq_true, ne_eq, or_true, true_or]
  rw [(fd_pos (x := σ 31 4 + 40 - 1) (by omega) (show (0 : Int) < 40 by decide)).2, show σ 31 4 + 40 - 1 = σ 31 4 + 39 by omega]
  split at h
  · repeat' (first | assumption | apply And.intro | intro _)
    all_goals first | omega | exact h
  · repeat' (first | assumption | apply And.intro | intro _)
    all_goals first | omega | exact h
