/-! Audience: cell a (16 or 21): 4 ill, 5 price, 6 evening; hearts a + 1, seats a + 2, money a + 3, tears a + 4 -/
def isA (a : Int) : Prop := a = 16 ∨ a = 21
theorem rfA_0 {a : Int} (h : isA a) (σ : Mem) : rfv TT σ a 0 = a + 1 := by rcases h with rfl | rfl <;> rfl
theorem rfA_1 {a : Int} (h : isA a) (σ : Mem) : rfv TT σ a 1 = a + 2 := by rcases h with rfl | rfl <;> rfl
theorem rfA_2 {a : Int} (h : isA a) (σ : Mem) : rfv TT σ a 2 = a + 3 := by rcases h with rfl | rfl <;> rfl
theorem rfA_3 {a : Int} (h : isA a) (σ : Mem) : rfv TT σ a 3 = a + 4 := by rcases h with rfl | rfl <;> rfl
theorem alA_1 {a : Int} (h : isA a) (σ : Mem) : alen TT σ (a + 1) = 6 := by rcases h with rfl | rfl <;> rfl
theorem alA_2 {a : Int} (h : isA a) (σ : Mem) : alen TT σ (a + 2) = 6 := by rcases h with rfl | rfl <;> rfl
theorem alA_3 {a : Int} (h : isA a) (σ : Mem) : alen TT σ (a + 3) = 6 := by rcases h with rfl | rfl <;> rfl
theorem alA_4 {a : Int} (h : isA a) (σ : Mem) : alen TT σ (a + 4) = 6 := by rcases h with rfl | rfl <;> rfl
theorem isA_b {a : Int} (h : isA a) : 16 ≤ a ∧ a ≤ 21 := by rcases h with rfl | rfl <;> omega
/-- an audience as a row of 27 numbers: hearts, seats, money, tears, ill, price, evening -/
def aud (σ : Mem) (a k : Int) : Int := if k < 6 then σ (a + 1) k else if k < 12 then σ (a + 2) (k - 6) else if k < 18 then σ (a + 3) (k - 12) else if k < 24 then σ (a + 4) (k - 18) else σ a (k - 20)
def setAud (σ : Mem) (a : Int) (f : Int → Int) : Mem := fun b j =>
  if b = a + 1 ∧ 0 ≤ j ∧ j < 6 then f j else if b = a + 2 ∧ 0 ≤ j ∧ j < 6 then f (j + 6) else if b = a + 3 ∧ 0 ≤ j ∧ j < 6 then f (j + 12) else if b = a + 4 ∧ 0 ≤ j ∧ j < 6 then f (j + 18) else if b = a ∧ 4 ≤ j ∧ j < 7 then f (j + 20) else σ b j
theorem aud_set (σ : Mem) (a : Int) (f : Int → Int) {k : Int} (h0 : 0 ≤ k) (h1 : k < 27) : aud (setAud σ a f) a k = f k := by
  unfold aud setAud
  by_cases c1 : k < 6
  · rw [if_pos c1, if_pos (by omega)]
  · rw [if_neg c1]
    by_cases c2 : k < 12
    · rw [if_pos c2, if_neg (by omega), if_pos (by omega)]; congr 1; omega
    · rw [if_neg c2]
      by_cases c3 : k < 18
      · rw [if_pos c3, if_neg (by omega), if_neg (by omega), if_pos (by omega)]; congr 1; omega
      · rw [if_neg c3]
        by_cases c4 : k < 24
        · rw [if_pos c4, if_neg (by omega), if_neg (by omega), if_neg (by omega), if_pos (by omega)]; congr 1; omega
        · rw [if_neg c4, if_neg (by omega), if_neg (by omega), if_neg (by omega), if_neg (by omega), if_pos (by omega)]; congr 1; omega
theorem setAud_o (σ : Mem) {a b : Int} (f : Int → Int) (h : b < a ∨ a + 4 < b) : setAud σ a f b = σ b := by
  funext j; unfold setAud
  rw [if_neg (by omega), if_neg (by omega), if_neg (by omega), if_neg (by omega), if_neg (by omega)]
/-- bits of the first n places that hold x -/
def hbits (s : Int → Int) (x : Int) : Nat → Int
  | 0 => 0
  | n + 1 => hbits s x n + if s n = x then 2 ^ n else 0
theorem hbits_b (s : Int → Int) (x : Int) : ∀ n : Nat, 0 ≤ hbits s x n ∧ hbits s x n < 2 ^ n := by
  intro n
  induction n with
  | zero => unfold hbits; omega
  | succ n ih =>
    unfold hbits
    have : (2 : Int) ^ (n + 1) = 2 ^ n * 2 := by rw [Int.pow_succ]
    split <;> omega
theorem bor6 : ∀ i : Nat, i < 6 → ∀ b : Nat, b < 2 ^ i → amIor (b : Int) (amIshl 1 (i : Int)) = (b : Int) + 2 ^ i := by decide +kernel
theorem bor6' {b : Int} {i : Nat} (hi : i < 6) (h0 : 0 ≤ b) (h1 : b < 2 ^ i) : amIor b (amIshl 1 (i : Int)) = b + 2 ^ i := by
  obtain ⟨c, rfl⟩ : ∃ c : Nat, b = c := ⟨b.toNat, by omega⟩
  exact bor6 i hi c (by have : ((c : Int)) < ((2 ^ i : Nat) : Int) := by rw [Int.natCast_pow]; exact h1
                        omega)
theorem amIor_in (a b : Int) : InR (amIor a b) := by
  unfold amIor InR
  have h1 := Int32.le_toInt (Int32.ofInt a ||| Int32.ofInt b)
  have h2 := Int32.toInt_lt (Int32.ofInt a ||| Int32.ofInt b)
  omega
/-- bit i of x -/
def bt (x i : Int) : Int := x / (2 ^ i.toNat : Nat) % 2
theorem bt_e {x i : Int} (hx : InR x) (h0 : 0 ≤ i) (h1 : i < 32) : amIand (amIshr x i) 1 = bt x i := by
  rw [amIshr_e hx h0 h1, amIand_1]; rfl
theorem bt_b (x i : Int) : 0 ≤ bt x i ∧ bt x i < 2 := by unfold bt; omega

def a_X0_isChair : AC := [(0, vIload 0 1), (1, vIfLt 14 4), (4, vIload 0 5), (5, vI 6 7), (7, vIcGe 14 10), (10, vI 1 11), (11, vGoto 15), (14, vI 0 15), (15, vZret)]
theorem k_X0_isChair_0 : look a_X0_isChair 0 = vIload 0 1 := rfl
theorem k_X0_isChair_1 : look a_X0_isChair 1 = vIfLt 14 4 := rfl
theorem k_X0_isChair_4 : look a_X0_isChair 4 = vIload 0 5 := rfl
theorem k_X0_isChair_5 : look a_X0_isChair 5 = vI 6 7 := rfl
theorem k_X0_isChair_7 : look a_X0_isChair 7 = vIcGe 14 10 := rfl
theorem k_X0_isChair_10 : look a_X0_isChair 10 = vI 1 11 := rfl
theorem k_X0_isChair_11 : look a_X0_isChair 11 = vGoto 15 := rfl
theorem k_X0_isChair_14 : look a_X0_isChair 14 = vI 0 15 := rfl
theorem k_X0_isChair_15 : look a_X0_isChair 15 = vZret := rfl
theorem o_X0_isChair {X : amX} (e1 : XT X = TT) (e2 : XD X = 0) (hB : amB X RX0 cX0_isChair (some .boolean) 1) : ∀ pc, amOK X pc (look a_X0_isChair pc) := by
  have hT : amTok (XT X) := e1 ▸ TT_ok
  refine look_ok ?_
  unfold a_X0_isChair
  refine fc (ok_iload_n hB dX0_isChair_0) ?_
  refine fc (ok_if_lt hB (t := 14) (by decide) dX0_isChair_1) ?_
  refine fc (ok_iload_n hB dX0_isChair_4) ?_
  refine fc (ok_bipush hB dX0_isChair_5 (by decide)) ?_
  refine fc (ok_icmp_ge hB (t := 14) (by decide) dX0_isChair_7) ?_
  refine fc (ok_iconst hB dX0_isChair_10) ?_
  refine fc (ok_goto hB (t := 15) (by decide) dX0_isChair_11) ?_
  refine fc (ok_iconst hB dX0_isChair_14) ?_
  refine fc (ok_zret hB dX0_isChair_15) ?_
  exact fn

def w_X0_isChair : WP := fun av σ Q => ∃ (c : Int), av = [(0, c)] ∧ (InR c ∧ Q (0, if 0 ≤ c ∧ c < 6 then 1 else 0) σ)
theorem w_X0_isChair_e (c : Int) (σ : Mem) (Q : AV → Mem → Prop) : w_X0_isChair [(0, c)] σ Q = (InR c ∧ Q (0, if 0 ≤ c ∧ c < 6 then 1 else 0) σ) := by
  apply propext; constructor
  · rintro ⟨c', h9, hb9⟩; cases h9; exact hb9
  · intro hb9; exact ⟨c, rfl, hb9⟩

set_option maxRecDepth 100000 in
set_option maxHeartbeats 4000000 in
theorem s_X0_isChair : ∀ av σ Q, w_X0_isChair av σ Q → amCall 0 0 0 TT yX0_isChair cX0_isChair 1 (some .boolean) av σ Q := by
  rintro av σ Q ⟨c, rfl, hc, h⟩
  refine am_m0 (own := RX0) (A := look a_X0_isChair) (fun X e1 e2 hB => o_X0_isChair e1 e2 hB) rfl (by decide +kernel) rfl rfl 60 (w := 1) ?_
  change vcs _ _ _ _ 60 0 [(0, c)] [] σ
  simp only [vI_e, vL_e, vNull_e, vIload_e, vLload_e, vAload_e, vIstore_e, vLstore_e, vAstore_e, vIinc_e, vIadd_e, vIsub_e, vImul_e, vIand_e, vIor_e, vIxor_e, vIshl_e, vIshr_e, vIushr_e, vIdiv_e, vIrem_e, vLadd_e, vLsub_e, vLmul_e, vLand_e, vLor_e, vLxor_e, vLdiv_e, vLrem_e, vLushr_e, vLshl_e, vLcmp_e, vIneg_e, vI2l_e, vL2i_e, vI2b_e, vI2c_e, vDup_e, vPop_e, vDup2_e, vGoto_e, vIcEq_e, vIfEq_e, vIcNe_e, vIfNe_e, vIcLt_e, vIfLt_e, vIcGe_e, vIfGe_e, vIcGt_e, vIfGt_e, vIcLe_e, vIfLe_e, vNonnull_e, vSw_e, vGetI_e, vGetL_e, vGetR_e, vPutI_e, vPutZ_e, vPutL_e, vPutR_e, vIald_e, vIald_s, vLald_e, vBald_e, vBald_s, vAald_e, vIast_e, vLast_e, vBast_e, vAast_e, vAlen_e8, vAlen_e9, vAlen_e10, vAlen_e11, vAlen_e5, vAlen_e3, vGets_e, vCompact_e, vLdcS_e, vIret_e, vZret_e, vCret_e, vBret_e, vLret_e, vVret_e, vAret_e, vCallM_e0, vCallMV_e0, vCallS_e0, vCallSV_e0, vCallM_e1, vCallMV_e1, vCallS_e1, vCallSV_e1, vCallM_e2, vCallMV_e2, vCallS_e2, vCallSV_e2, vCallM_e3, vCallMV_e3, vCallS_e3, vCallSV_e3, vCallM_e4, vCallMV_e4, vCallS_e4, vCallSV_e4, vCallM_e5, vCallMV_e5, vCallS_e5, vCallSV_e5, vCallM_e6, vCallMV_e6, vCallS_e6, vCallSV_e6, vCallM_e7, vCallMV_e7, vCallS_e7, vCallSV_e7, vBad_e, vStrVal_e, vStrCod_e, vForm_e, vCallT_e0, vCallT_e1, vCallT_e2, vCopy_e, rf_0_0, rf_0_1, rf_0_2, rf_0_3, rf_0_4, rf_0_7, rf_0_10, rf_0_11, rf_0_12, rf_0_13, rf_0_14, rf_0_15, rf_0_16, rf_1_0, rf_3_0, rf_3_1, rf_6_0, rf_6_1, rf_9_0, rf_9_1, rf_9_3, rf_13_0, rf_13_1, rf_13_2, rf_16_0, rf_16_1, rf_16_2, rf_16_3, rf_21_0, rf_21_1, rf_21_2, rf_21_3, rf_26_0, rf_26_1, rf_26_2, rf_26_3, rf_26_4, rf_26_5, rf_26_6, rf_31_0, rf_31_2, rf_31_5, rf_31_6, rf_36_0, rf_36_1, rf_36_2, rf_36_3, rf_39_0, rf_39_1, rf_39_2, rf_41_0, rf_41_1, rf_41_2, rf_41_3, rf_5000_1, rf_5000_2, rf_5000_3, rf_5000_4, rf_5000_5, rf_5000_15, rf_5000_16, rf_5000_18, rf_5000_19, rf_5000_20, rf_5000_21, rf_5000_22, rf_5000_23, rf_5000_24, rf_5000_25, rf_5000_26, rf_5000_27, rf_5000_36, rf_5000_37, rf_5000_40, rf_5000_41, rf_5000_42, rf_5000_43, rf_5000_44, rf_5000_45, rf_5000_47, rf_5000_52, rf_5000_54, rf_5000_55, rf_100_0, rf_100_1, rf_103_0, rf_103_1, rf_106_0, rf_106_1, rf_109_0, rf_109_1, al_2, al_4, al_5, al_7, al_8, al_10, al_11, al_12, al_14, al_15, al_17, al_18, al_19, al_20, al_22, al_23, al_24, al_25, al_27, al_28, al_29, al_30, al_32, al_33, al_34, al_35, al_37, al_38, al_40, al_42, al_5001, al_5002, al_5003, al_5004, al_5005, al_5006, al_5007, al_5008, al_5009, al_5010, al_5011, al_5012, al_5013, al_5014, al_5015, al_5016, al_5017, al_5018, al_5019, al_5020, al_5021, al_5022, al_5023, al_5024, al_5025, al_5026, al_9000, al_101, al_102, al_104, al_105, al_107, al_108, al_110, al_111, vcs_e, lg_c0, lg_cs, lg_nil, set_c0, set_cs, okst_0, okst_s, acok_n, acok_c, List.contains_nil, List.contains_cons, Bool.or_false, Bool.false_or, Bool.false_eq_true, if_false, if_true, ite_self, ne_eq, true_and, and_true, not_false_eq_true, not_true_eq_false, false_imp_iff, true_imp_iff, Nat.ble_eq, Bool.and_eq_true, reduceCtorEq, or_false, false_or, or_true, true_or, false_and, and_false, and_self, Int.reduceLE, Int.reduceAdd, Int.reduceSub, Int.reduceMul, Int.reduceNeg, Int.reduceLT, Int.reduceEq, Int.reduceNe, Nat.reduceBEq, Nat.reduceBNe, Nat.reduceEqDiff, amCmp_in, amCmp_lt, amCmp_le, amCmp_gt, amCmp_ge, amCmp_eq, amCmp_ne, Nat.reduceLeDiff, Nat.reduceSub, Bool.and_true, Bool.true_and, Bool.and_self, Bool.or_true, Bool.true_or, isRf_3, isRf_4, isRf_5, isRf_8, isRf_9, isRf_10, isRf_11, isRf_15, isRf_16, isRf_17, isRf_18, isRf_19, isRf_20, isRf_21, isRf_22, isRf_23, isRf_24, isRf_25, isRf_26, isRf_27, isRf_28, k_X0_isChair_0, k_X0_isChair_1, k_X0_isChair_4, k_X0_isChair_5, k_X0_isChair_7, k_X0_isChair_10, k_X0_isChair_11, k_X0_isChair_14, k_X0_isChair_15]
  repeat' (first | assumption | apply And.intro | intro _)
  all_goals first | omega | (split at h <;> first | exact h | omega)
theorem wd_154 : Cond.fieldLink RX0 24 "ArmchairHouse$Audience" "illBits" "I" ∈ TBL := tb_tab (List.mem_of_getElem? (i := 154) (by decide +kernel)) rfl
theorem fl_X0_24 : amFl RX0 0 4 24 RX0 TX0 7 := ⟨rfl, inT_0, by decide, wd_154⟩
def a_X0_isIll : AC := [(0, vIload 1 1), (1, vIfLt 25 4), (4, vIload 1 5), (5, vI 6 7), (7, vIcGe 25 10), (10, vAload 0 11), (11, vGetI 16 4 14), (14, vIload 1 15), (15, vIshr 16), (16, vI 1 17), (17, vIand 18), (18, vIfEq 25 21), (21, vI 1 22), (22, vGoto 26), (25, vI 0 26), (26, vZret)]
theorem k_X0_isIll_0 : look a_X0_isIll 0 = vIload 1 1 := rfl
theorem k_X0_isIll_1 : look a_X0_isIll 1 = vIfLt 25 4 := rfl
theorem k_X0_isIll_4 : look a_X0_isIll 4 = vIload 1 5 := rfl
theorem k_X0_isIll_5 : look a_X0_isIll 5 = vI 6 7 := rfl
theorem k_X0_isIll_7 : look a_X0_isIll 7 = vIcGe 25 10 := rfl
theorem k_X0_isIll_10 : look a_X0_isIll 10 = vAload 0 11 := rfl
theorem k_X0_isIll_11 : look a_X0_isIll 11 = vGetI 16 4 14 := rfl
theorem k_X0_isIll_14 : look a_X0_isIll 14 = vIload 1 15 := rfl
theorem k_X0_isIll_15 : look a_X0_isIll 15 = vIshr 16 := rfl
theorem k_X0_isIll_16 : look a_X0_isIll 16 = vI 1 17 := rfl
theorem k_X0_isIll_17 : look a_X0_isIll 17 = vIand 18 := rfl
theorem k_X0_isIll_18 : look a_X0_isIll 18 = vIfEq 25 21 := rfl
theorem k_X0_isIll_21 : look a_X0_isIll 21 = vI 1 22 := rfl
theorem k_X0_isIll_22 : look a_X0_isIll 22 = vGoto 26 := rfl
theorem k_X0_isIll_25 : look a_X0_isIll 25 = vI 0 26 := rfl
theorem k_X0_isIll_26 : look a_X0_isIll 26 = vZret := rfl
theorem o_X0_isIll {X : amX} (e1 : XT X = TT) (e2 : XD X = 0) (hB : amB X RX0 cX0_isIll (some .boolean) 2) : ∀ pc, amOK X pc (look a_X0_isIll pc) := by
  have hT : amTok (XT X) := e1 ▸ TT_ok
  refine look_ok ?_
  unfold a_X0_isIll
  refine fc (ok_iload_n hB dX0_isIll_0) ?_
  refine fc (ok_if_lt hB (t := 25) (by decide) dX0_isIll_1) ?_
  refine fc (ok_iload_n hB dX0_isIll_4) ?_
  refine fc (ok_bipush hB dX0_isIll_5 (by decide)) ?_
  refine fc (ok_icmp_ge hB (t := 25) (by decide) dX0_isIll_7) ?_
  refine fc (ok_aload_n hB dX0_isIll_10) ?_
  refine fc (ok_getI hB hT fl_X0_24 rfl rfl (Or.inl af_0_4) dX0_isIll_11) ?_
  refine fc (ok_iload_n hB dX0_isIll_14) ?_
  refine fc (ok_ishr hB dX0_isIll_15) ?_
  refine fc (ok_iconst hB dX0_isIll_16) ?_
  refine fc (ok_iand hB dX0_isIll_17) ?_
  refine fc (ok_if_eq hB (t := 25) (by decide) dX0_isIll_18) ?_
  refine fc (ok_iconst hB dX0_isIll_21) ?_
  refine fc (ok_goto hB (t := 26) (by decide) dX0_isIll_22) ?_
  refine fc (ok_iconst hB dX0_isIll_25) ?_
  refine fc (ok_zret hB dX0_isIll_26) ?_
  exact fn

def w_X0_isIll : WP := fun av σ Q => ∃ (a : Int) (s : Int), av = [(16, a), (0, s)] ∧ (isA a ∧ InR s ∧ InR (σ a 4) ∧ Q (0, if 0 ≤ s ∧ s < 6 ∧ bt (σ a 4) s = 1 then 1 else 0) σ)
theorem w_X0_isIll_e (a : Int) (s : Int) (σ : Mem) (Q : AV → Mem → Prop) : w_X0_isIll [(16, a), (0, s)] σ Q = (isA a ∧ InR s ∧ InR (σ a 4) ∧ Q (0, if 0 ≤ s ∧ s < 6 ∧ bt (σ a 4) s = 1 then 1 else 0) σ) := by
  apply propext; constructor
  · rintro ⟨a', s', h9, hb9⟩; cases h9; exact hb9
  · intro hb9; exact ⟨a, s, rfl, hb9⟩

set_option maxRecDepth 100000 in
set_option maxHeartbeats 4000000 in
theorem s_X0_isIll : ∀ av σ Q, w_X0_isIll av σ Q → amCall 0 0 0 TT yX0_isIll cX0_isIll 2 (some .boolean) av σ Q := by
  rintro av σ Q ⟨a, s, rfl, ha, hs, hi, h⟩
  have hab := isA_b ha
  refine am_m0 (own := RX0) (A := look a_X0_isIll) (fun X e1 e2 hB => o_X0_isIll e1 e2 hB) rfl (by decide +kernel) rfl rfl 60 (w := 2) ?_
  change vcs _ _ _ _ 60 0 [(16, a), (0, s)] [] σ
  simp only [vI_e, vL_e, vNull_e, vIload_e, vLload_e, vAload_e, vIstore_e, vLstore_e, vAstore_e, vIinc_e, vIadd_e, vIsub_e, vImul_e, vIand_e, vIor_e, vIxor_e, vIshl_e, vIshr_e, vIushr_e, vIdiv_e, vIrem_e, vLadd_e, vLsub_e, vLmul_e, vLand_e, vLor_e, vLxor_e, vLdiv_e, vLrem_e, vLushr_e, vLshl_e, vLcmp_e, vIneg_e, vI2l_e, vL2i_e, vI2b_e, vI2c_e, vDup_e, vPop_e, vDup2_e, vGoto_e, vIcEq_e, vIfEq_e, vIcNe_e, vIfNe_e, vIcLt_e, vIfLt_e, vIcGe_e, vIfGe_e, vIcGt_e, vIfGt_e, vIcLe_e, vIfLe_e, vNonnull_e, vSw_e, vGetI_e, vGetL_e, vGetR_e, vPutI_e, vPutZ_e, vPutL_e, vPutR_e, vIald_e, vIald_s, vLald_e, vBald_e, vBald_s, vAald_e, vIast_e, vLast_e, vBast_e, vAast_e, vAlen_e8, vAlen_e9, vAlen_e10, vAlen_e11, vAlen_e5, vAlen_e3, vGets_e, vCompact_e, vLdcS_e, vIret_e, vZret_e, vCret_e, vBret_e, vLret_e, vVret_e, vAret_e, vCallM_e0, vCallMV_e0, vCallS_e0, vCallSV_e0, vCallM_e1, vCallMV_e1, vCallS_e1, vCallSV_e1, vCallM_e2, vCallMV_e2, vCallS_e2, vCallSV_e2, vCallM_e3, vCallMV_e3, vCallS_e3, vCallSV_e3, vCallM_e4, vCallMV_e4, vCallS_e4, vCallSV_e4, vCallM_e5, vCallMV_e5, vCallS_e5, vCallSV_e5, vCallM_e6, vCallMV_e6, vCallS_e6, vCallSV_e6, vCallM_e7, vCallMV_e7, vCallS_e7, vCallSV_e7, vBad_e, vStrVal_e, vStrCod_e, vForm_e, vCallT_e0, vCallT_e1, vCallT_e2, vCopy_e, rf_0_0, rf_0_1, rf_0_2, rf_0_3, rf_0_4, rf_0_7, rf_0_10, rf_0_11, rf_0_12, rf_0_13, rf_0_14, rf_0_15, rf_0_16, rf_1_0, rf_3_0, rf_3_1, rf_6_0, rf_6_1, rf_9_0, rf_9_1, rf_9_3, rf_13_0, rf_13_1, rf_13_2, rf_16_0, rf_16_1, rf_16_2, rf_16_3, rf_21_0, rf_21_1, rf_21_2, rf_21_3, rf_26_0, rf_26_1, rf_26_2, rf_26_3, rf_26_4, rf_26_5, rf_26_6, rf_31_0, rf_31_2, rf_31_5, rf_31_6, rf_36_0, rf_36_1, rf_36_2, rf_36_3, rf_39_0, rf_39_1, rf_39_2, rf_41_0, rf_41_1, rf_41_2, rf_41_3, rf_5000_1, rf_5000_2, rf_5000_3, rf_5000_4, rf_5000_5, rf_5000_15, rf_5000_16, rf_5000_18, rf_5000_19, rf_5000_20, rf_5000_21, rf_5000_22, rf_5000_23, rf_5000_24, rf_5000_25, rf_5000_26, rf_5000_27, rf_5000_36, rf_5000_37, rf_5000_40, rf_5000_41, rf_5000_42, rf_5000_43, rf_5000_44, rf_5000_45, rf_5000_47, rf_5000_52, rf_5000_54, rf_5000_55, rf_100_0, rf_100_1, rf_103_0, rf_103_1, rf_106_0, rf_106_1, rf_109_0, rf_109_1, al_2, al_4, al_5, al_7, al_8, al_10, al_11, al_12, al_14, al_15, al_17, al_18, al_19, al_20, al_22, al_23, al_24, al_25, al_27, al_28, al_29, al_30, al_32, al_33, al_34, al_35, al_37, al_38, al_40, al_42, al_5001, al_5002, al_5003, al_5004, al_5005, al_5006, al_5007, al_5008, al_5009, al_5010, al_5011, al_5012, al_5013, al_5014, al_5015, al_5016, al_5017, al_5018, al_5019, al_5020, al_5021, al_5022, al_5023, al_5024, al_5025, al_5026, al_9000, al_101, al_102, al_104, al_105, al_107, al_108, al_110, al_111, vcs_e, lg_c0, lg_cs, lg_nil, set_c0, set_cs, okst_0, okst_s, acok_n, acok_c, List.contains_nil, List.contains_cons, Bool.or_false, Bool.false_or, Bool.false_eq_true, if_false, if_true, ite_self, ne_eq, true_and, and_true, not_false_eq_true, not_true_eq_false, false_imp_iff, true_imp_iff, Nat.ble_eq, Bool.and_eq_true, reduceCtorEq, or_false, false_or, or_true, true_or, false_and, and_false, and_self, Int.reduceLE, Int.reduceAdd, Int.reduceSub, Int.reduceMul, Int.reduceNeg, Int.reduceLT, Int.reduceEq, Int.reduceNe, Nat.reduceBEq, Nat.reduceBNe, Nat.reduceEqDiff, amCmp_in, amCmp_lt, amCmp_le, amCmp_gt, amCmp_ge, amCmp_eq, amCmp_ne, Nat.reduceLeDiff, Nat.reduceSub, Bool.and_true, Bool.true_and, Bool.and_self, Bool.or_true, Bool.true_or, isRf_3, isRf_4, isRf_5, isRf_8, isRf_9, isRf_10, isRf_11, isRf_15, isRf_16, isRf_17, isRf_18, isRf_19, isRf_20, isRf_21, isRf_22, isRf_23, isRf_24, isRf_25, isRf_26, isRf_27, isRf_28, k_X0_isIll_0, k_X0_isIll_1, k_X0_isIll_4, k_X0_isIll_5, k_X0_isIll_7, k_X0_isIll_10, k_X0_isIll_11, k_X0_isIll_14, k_X0_isIll_15, k_X0_isIll_16, k_X0_isIll_17, k_X0_isIll_18, k_X0_isIll_21, k_X0_isIll_22, k_X0_isIll_25, k_X0_isIll_26]
  by_cases c : 0 ≤ s ∧ s < 6
  · rw [bt_e hi (by omega) (by omega)]
    have hb := bt_b (σ a 4) s
    repeat' (first | assumption | apply And.intro | intro _)
    all_goals first | omega | (split at h <;> first | exact h | omega)
  · repeat' (first | assumption | apply And.intro | intro _)
    all_goals first | omega | (split at h <;> first | exact h | omega)
theorem fp_X0_24 : amFp RX0 0 4 24 RX0 TX0 7 tyX0 .int := ⟨fl_X0_24, tyX0_ok, nmX0, by decide +kernel⟩
def a_X0_fallIll : AC := [(0, vIload 1 1), (1, vIfLt 22 4), (4, vIload 1 5), (5, vI 6 7), (7, vIcGe 22 10), (10, vAload 0 11), (11, vDup 12), (12, vGetI 16 4 15), (15, vI 1 16), (16, vIload 1 17), (17, vIshl 18), (18, vIor 19), (19, vPutI 16 4 22), (22, vVret)]
theorem k_X0_fallIll_0 : look a_X0_fallIll 0 = vIload 1 1 := rfl
theorem k_X0_fallIll_1 : look a_X0_fallIll 1 = vIfLt 22 4 := rfl
theorem k_X0_fallIll_4 : look a_X0_fallIll 4 = vIload 1 5 := rfl
theorem k_X0_fallIll_5 : look a_X0_fallIll 5 = vI 6 7 := rfl
theorem k_X0_fallIll_7 : look a_X0_fallIll 7 = vIcGe 22 10 := rfl
theorem k_X0_fallIll_10 : look a_X0_fallIll 10 = vAload 0 11 := rfl
theorem k_X0_fallIll_11 : look a_X0_fallIll 11 = vDup 12 := rfl
theorem k_X0_fallIll_12 : look a_X0_fallIll 12 = vGetI 16 4 15 := rfl
theorem k_X0_fallIll_15 : look a_X0_fallIll 15 = vI 1 16 := rfl
theorem k_X0_fallIll_16 : look a_X0_fallIll 16 = vIload 1 17 := rfl
theorem k_X0_fallIll_17 : look a_X0_fallIll 17 = vIshl 18 := rfl
theorem k_X0_fallIll_18 : look a_X0_fallIll 18 = vIor 19 := rfl
theorem k_X0_fallIll_19 : look a_X0_fallIll 19 = vPutI 16 4 22 := rfl
theorem k_X0_fallIll_22 : look a_X0_fallIll 22 = vVret := rfl
theorem o_X0_fallIll {X : amX} (e1 : XT X = TT) (e2 : XD X = 0) (hB : amB X RX0 cX0_fallIll (none) 2) : ∀ pc, amOK X pc (look a_X0_fallIll pc) := by
  have hT : amTok (XT X) := e1 ▸ TT_ok
  refine look_ok ?_
  unfold a_X0_fallIll
  refine fc (ok_iload_n hB dX0_fallIll_0) ?_
  refine fc (ok_if_lt hB (t := 22) (by decide) dX0_fallIll_1) ?_
  refine fc (ok_iload_n hB dX0_fallIll_4) ?_
  refine fc (ok_bipush hB dX0_fallIll_5 (by decide)) ?_
  refine fc (ok_icmp_ge hB (t := 22) (by decide) dX0_fallIll_7) ?_
  refine fc (ok_aload_n hB dX0_fallIll_10) ?_
  refine fc (ok_dup hB dX0_fallIll_11) ?_
  refine fc (ok_getI hB hT fl_X0_24 rfl rfl (Or.inl af_0_4) dX0_fallIll_12) ?_
  refine fc (ok_iconst hB dX0_fallIll_15) ?_
  refine fc (ok_iload_n hB dX0_fallIll_16) ?_
  refine fc (ok_ishl hB dX0_fallIll_17) ?_
  refine fc (ok_ior hB dX0_fallIll_18) ?_
  refine fc (ok_putI hB hT fp_X0_24 rfl rfl rfl af_0_4 dX0_fallIll_19) ?_
  refine fc (ok_vret hB dX0_fallIll_22) ?_
  exact fn

def w_X0_fallIll : WP := fun av σ Q => ∃ (a : Int) (s : Int), av = [(16, a), (0, s)] ∧ (isA a ∧ InR s ∧ (0 ≤ s ∧ s < 6 → Q (6, 0) (up σ a 4 (amIor (σ a 4) (amIshl 1 s)))) ∧ (¬ (0 ≤ s ∧ s < 6) → Q (6, 0) σ))
theorem w_X0_fallIll_e (a : Int) (s : Int) (σ : Mem) (Q : AV → Mem → Prop) : w_X0_fallIll [(16, a), (0, s)] σ Q = (isA a ∧ InR s ∧ (0 ≤ s ∧ s < 6 → Q (6, 0) (up σ a 4 (amIor (σ a 4) (amIshl 1 s)))) ∧ (¬ (0 ≤ s ∧ s < 6) → Q (6, 0) σ)) := by
  apply propext; constructor
  · rintro ⟨a', s', h9, hb9⟩; cases h9; exact hb9
  · intro hb9; exact ⟨a, s, rfl, hb9⟩

set_option maxRecDepth 100000 in
set_option maxHeartbeats 4000000 in
theorem s_X0_fallIll : ∀ av σ Q, w_X0_fallIll av σ Q → amCall 0 0 0 TT yX0_fallIll cX0_fallIll 2 (none) av σ Q := by
  rintro av σ Q ⟨a, s, rfl, ha, hs, h1, h2⟩
  have hab := isA_b ha
  refine am_m0 (own := RX0) (A := look a_X0_fallIll) (fun X e1 e2 hB => o_X0_fallIll e1 e2 hB) rfl (by decide +kernel) rfl rfl 60 (w := 2) ?_
  change vcs _ _ _ _ 60 0 [(16, a), (0, s)] [] σ
  simp only [vI_e, vL_e, vNull_e, vIload_e, vLload_e, vAload_e, vIstore_e, vLstore_e, vAstore_e, vIinc_e, vIadd_e, vIsub_e, vImul_e, vIand_e, vIor_e, vIxor_e, vIshl_e, vIshr_e, vIushr_e, vIdiv_e, vIrem_e, vLadd_e, vLsub_e, vLmul_e, vLand_e, vLor_e, vLxor_e, vLdiv_e, vLrem_e, vLushr_e, vLshl_e, vLcmp_e, vIneg_e, vI2l_e, vL2i_e, vI2b_e, vI2c_e, vDup_e, vPop_e, vDup2_e, vGoto_e, vIcEq_e, vIfEq_e, vIcNe_e, vIfNe_e, vIcLt_e, vIfLt_e, vIcGe_e, vIfGe_e, vIcGt_e, vIfGt_e, vIcLe_e, vIfLe_e, vNonnull_e, vSw_e, vGetI_e, vGetL_e, vGetR_e, vPutI_e, vPutZ_e, vPutL_e, vPutR_e, vIald_e, vIald_s, vLald_e, vBald_e, vBald_s, vAald_e, vIast_e, vLast_e, vBast_e, vAast_e, vAlen_e8, vAlen_e9, vAlen_e10, vAlen_e11, vAlen_e5, vAlen_e3, vGets_e, vCompact_e, vLdcS_e, vIret_e, vZret_e, vCret_e, vBret_e, vLret_e, vVret_e, vAret_e, vCallM_e0, vCallMV_e0, vCallS_e0, vCallSV_e0, vCallM_e1, vCallMV_e1, vCallS_e1, vCallSV_e1, vCallM_e2, vCallMV_e2, vCallS_e2, vCallSV_e2, vCallM_e3, vCallMV_e3, vCallS_e3, vCallSV_e3, vCallM_e4, vCallMV_e4, vCallS_e4, vCallSV_e4, vCallM_e5, vCallMV_e5, vCallS_e5, vCallSV_e5, vCallM_e6, vCallMV_e6, vCallS_e6, vCallSV_e6, vCallM_e7, vCallMV_e7, vCallS_e7, vCallSV_e7, vBad_e, vStrVal_e, vStrCod_e, vForm_e, vCallT_e0, vCallT_e1, vCallT_e2, vCopy_e, rf_0_0, rf_0_1, rf_0_2, rf_0_3, rf_0_4, rf_0_7, rf_0_10, rf_0_11, rf_0_12, rf_0_13, rf_0_14, rf_0_15, rf_0_16, rf_1_0, rf_3_0, rf_3_1, rf_6_0, rf_6_1, rf_9_0, rf_9_1, rf_9_3, rf_13_0, rf_13_1, rf_13_2, rf_16_0, rf_16_1, rf_16_2, rf_16_3, rf_21_0, rf_21_1, rf_21_2, rf_21_3, rf_26_0, rf_26_1, rf_26_2, rf_26_3, rf_26_4, rf_26_5, rf_26_6, rf_31_0, rf_31_2, rf_31_5, rf_31_6, rf_36_0, rf_36_1, rf_36_2, rf_36_3, rf_39_0, rf_39_1, rf_39_2, rf_41_0, rf_41_1, rf_41_2, rf_41_3, rf_5000_1, rf_5000_2, rf_5000_3, rf_5000_4, rf_5000_5, rf_5000_15, rf_5000_16, rf_5000_18, rf_5000_19, rf_5000_20, rf_5000_21, rf_5000_22, rf_5000_23, rf_5000_24, rf_5000_25, rf_5000_26, rf_5000_27, rf_5000_36, rf_5000_37, rf_5000_40, rf_5000_41, rf_5000_42, rf_5000_43, rf_5000_44, rf_5000_45, rf_5000_47, rf_5000_52, rf_5000_54, rf_5000_55, rf_100_0, rf_100_1, rf_103_0, rf_103_1, rf_106_0, rf_106_1, rf_109_0, rf_109_1, al_2, al_4, al_5, al_7, al_8, al_10, al_11, al_12, al_14, al_15, al_17, al_18, al_19, al_20, al_22, al_23, al_24, al_25, al_27, al_28, al_29, al_30, al_32, al_33, al_34, al_35, al_37, al_38, al_40, al_42, al_5001, al_5002, al_5003, al_5004, al_5005, al_5006, al_5007, al_5008, al_5009, al_5010, al_5011, al_5012, al_5013, al_5014, al_5015, al_5016, al_5017, al_5018, al_5019, al_5020, al_5021, al_5022, al_5023, al_5024, al_5025, al_5026, al_9000, al_101, al_102, al_104, al_105, al_107, al_108, al_110, al_111, vcs_e, lg_c0, lg_cs, lg_nil, set_c0, set_cs, okst_0, okst_s, acok_n, acok_c, List.contains_nil, List.contains_cons, Bool.or_false, Bool.false_or, Bool.false_eq_true, if_false, if_true, ite_self, ne_eq, true_and, and_true, not_false_eq_true, not_true_eq_false, false_imp_iff, true_imp_iff, Nat.ble_eq, Bool.and_eq_true, reduceCtorEq, or_false, false_or, or_true, true_or, false_and, and_false, and_self, Int.reduceLE, Int.reduceAdd, Int.reduceSub, Int.reduceMul, Int.reduceNeg, Int.reduceLT, Int.reduceEq, Int.reduceNe, Nat.reduceBEq, Nat.reduceBNe, Nat.reduceEqDiff, amCmp_in, amCmp_lt, amCmp_le, amCmp_gt, amCmp_ge, amCmp_eq, amCmp_ne, Nat.reduceLeDiff, Nat.reduceSub, Bool.and_true, Bool.true_and, Bool.and_self, Bool.or_true, Bool.true_or, isRf_3, isRf_4, isRf_5, isRf_8, isRf_9, isRf_10, isRf_11, isRf_15, isRf_16, isRf_17, isRf_18, isRf_19, isRf_20, isRf_21, isRf_22, isRf_23, isRf_24, isRf_25, isRf_26, isRf_27, isRf_28, k_X0_fallIll_0, k_X0_fallIll_1, k_X0_fallIll_4, k_X0_fallIll_5, k_X0_fallIll_7, k_X0_fallIll_10, k_X0_fallIll_11, k_X0_fallIll_12, k_X0_fallIll_15, k_X0_fallIll_16, k_X0_fallIll_17, k_X0_fallIll_18, k_X0_fallIll_19, k_X0_fallIll_22]
  repeat' (first | assumption | apply And.intro | intro _)
  all_goals first | omega | exact h1 (by omega) | exact h2 (by omega)
theorem wd_838 : Cond.methodLink RX0 46 yX0_isChair ∈ TBL := tb_tab (List.mem_of_getElem? (i := 838) (by decide +kernel)) rfl
theorem wd_6 : Cond.initialized RX0 ∈ TBL := tb_tab (List.mem_of_getElem? (i := 6) (by decide +kernel)) rfl
theorem wd_819 : Cond.code yX0_isChair cX0_isChair 1 (some .boolean) ∈ TBL := tb_tab (List.mem_of_getElem? (i := 819) (by decide +kernel)) rfl
theorem lk_X0_46 : amLk RX0 46 yX0_isChair cX0_isChair 1 (some .boolean) 1 := ⟨wd_838, wd_6, wd_819, by decide +kernel, by decide +kernel, by decide⟩
theorem wd_818 : Cond.static yX0_isChair ∈ TBL := tb_tab (List.mem_of_getElem? (i := 818) (by decide +kernel)) rfl
theorem wd_150 : Cond.fieldLink RX0 18 "ArmchairHouse$Audience" "money" "[I" ∈ TBL := tb_tab (List.mem_of_getElem? (i := 150) (by decide +kernel)) rfl
theorem fl_X0_18 : amFl RX0 0 2 18 RX0 TX0 7 := ⟨rfl, inT_0, by decide, wd_150⟩
theorem wd_157 : Cond.fieldLink RX0 28 "ArmchairHouse$Audience" "priceNow" "I" ∈ TBL := tb_tab (List.mem_of_getElem? (i := 157) (by decide +kernel)) rfl
theorem fl_X0_28 : amFl RX0 0 5 28 RX0 TX0 7 := ⟨rfl, inT_0, by decide, wd_157⟩
theorem wd_145 : Cond.fieldLink RX0 15 "ArmchairHouse$Audience" "seats" "[I" ∈ TBL := tb_tab (List.mem_of_getElem? (i := 145) (by decide +kernel)) rfl
theorem fl_X0_15 : amFl RX0 0 1 15 RX0 TX0 7 := ⟨rfl, inT_0, by decide, wd_145⟩
def a_X0_takeTicket : AC := [(0, vIload 1 1), (1, vCallS w_X0_isChair 1 4), (4, vIfEq 27 7), (7, vAload 0 8), (8, vGetR TT 16 2 8 11), (11, vIload 1 12), (12, vDup2 13), (13, vIald TT 14), (14, vAload 0 15), (15, vGetI 16 5 18), (18, vIsub 19), (19, vIast TT 20), (20, vAload 0 21), (21, vGetR TT 16 1 8 24), (24, vIload 1 25), (25, vIload 2 26), (26, vIast TT 27), (27, vVret)]
theorem k_X0_takeTicket_0 : look a_X0_takeTicket 0 = vIload 1 1 := rfl
theorem k_X0_takeTicket_1 : look a_X0_takeTicket 1 = vCallS w_X0_isChair 1 4 := rfl
theorem k_X0_takeTicket_4 : look a_X0_takeTicket 4 = vIfEq 27 7 := rfl
theorem k_X0_takeTicket_7 : look a_X0_takeTicket 7 = vAload 0 8 := rfl
theorem k_X0_takeTicket_8 : look a_X0_takeTicket 8 = vGetR TT 16 2 8 11 := rfl
theorem k_X0_takeTicket_11 : look a_X0_takeTicket 11 = vIload 1 12 := rfl
theorem k_X0_takeTicket_12 : look a_X0_takeTicket 12 = vDup2 13 := rfl
theorem k_X0_takeTicket_13 : look a_X0_takeTicket 13 = vIald TT 14 := rfl
theorem k_X0_takeTicket_14 : look a_X0_takeTicket 14 = vAload 0 15 := rfl
theorem k_X0_takeTicket_15 : look a_X0_takeTicket 15 = vGetI 16 5 18 := rfl
theorem k_X0_takeTicket_18 : look a_X0_takeTicket 18 = vIsub 19 := rfl
theorem k_X0_takeTicket_19 : look a_X0_takeTicket 19 = vIast TT 20 := rfl
theorem k_X0_takeTicket_20 : look a_X0_takeTicket 20 = vAload 0 21 := rfl
theorem k_X0_takeTicket_21 : look a_X0_takeTicket 21 = vGetR TT 16 1 8 24 := rfl
theorem k_X0_takeTicket_24 : look a_X0_takeTicket 24 = vIload 1 25 := rfl
theorem k_X0_takeTicket_25 : look a_X0_takeTicket 25 = vIload 2 26 := rfl
theorem k_X0_takeTicket_26 : look a_X0_takeTicket 26 = vIast TT 27 := rfl
theorem k_X0_takeTicket_27 : look a_X0_takeTicket 27 = vVret := rfl
theorem o_X0_takeTicket {X : amX} (e1 : XT X = TT) (e2 : XD X = 1) (hB : amB X RX0 cX0_takeTicket (none) 3) : ∀ pc, amOK X pc (look a_X0_takeTicket pc) := by
  have hT : amTok (XT X) := e1 ▸ TT_ok
  refine look_ok ?_
  unfold a_X0_takeTicket
  refine fc (ok_iload_n hB dX0_takeTicket_0) ?_
  refine fc (ok_callS hB (e1 ▸ s_X0_isChair) lk_X0_46 (by rw [e2]; decide) wd_818 dX0_takeTicket_1) ?_
  refine fc (ok_if_eq hB (t := 27) (by decide) dX0_takeTicket_4) ?_
  refine fc (ok_aload_n hB dX0_takeTicket_7) ?_
  refine fc (okt_getR e1 hB hT fl_X0_18 rfl af_0_2 at_0_2 (by decide) dX0_takeTicket_8) ?_
  refine fc (ok_iload_n hB dX0_takeTicket_11) ?_
  refine fc (ok_dup2 hB dX0_takeTicket_12) ?_
  refine fc (okt_iaload e1 hB dX0_takeTicket_13) ?_
  refine fc (ok_aload_n hB dX0_takeTicket_14) ?_
  refine fc (ok_getI hB hT fl_X0_28 rfl rfl (Or.inl af_0_5) dX0_takeTicket_15) ?_
  refine fc (ok_isub hB dX0_takeTicket_18) ?_
  refine fc (okt_iastore e1 hB dX0_takeTicket_19) ?_
  refine fc (ok_aload_n hB dX0_takeTicket_20) ?_
  refine fc (okt_getR e1 hB hT fl_X0_15 rfl af_0_1 at_0_1 (by decide) dX0_takeTicket_21) ?_
  refine fc (ok_iload_n hB dX0_takeTicket_24) ?_
  refine fc (ok_iload_n hB dX0_takeTicket_25) ?_
  refine fc (okt_iastore e1 hB dX0_takeTicket_26) ?_
  refine fc (ok_vret hB dX0_takeTicket_27) ?_
  exact fn

def w_X0_takeTicket : WP := fun av σ Q => ∃ (a : Int) (c : Int) (s : Int), av = [(16, a), (0, c), (0, s)] ∧ (isA a ∧ 0 ≤ c ∧ c < 6 ∧ Q (6, 0) (up (up σ (a + 3) c (σ (a + 3) c - σ a 5)) (a + 2) c s))
theorem w_X0_takeTicket_e (a : Int) (c : Int) (s : Int) (σ : Mem) (Q : AV → Mem → Prop) : w_X0_takeTicket [(16, a), (0, c), (0, s)] σ Q = (isA a ∧ 0 ≤ c ∧ c < 6 ∧ Q (6, 0) (up (up σ (a + 3) c (σ (a + 3) c - σ a 5)) (a + 2) c s)) := by
  apply propext; constructor
  · rintro ⟨a', c', s', h9, hb9⟩; cases h9; exact hb9
  · intro hb9; exact ⟨a, c, s, rfl, hb9⟩

set_option maxRecDepth 100000 in
set_option maxHeartbeats 4000000 in
theorem s_X0_takeTicket : ∀ av σ Q, w_X0_takeTicket av σ Q → amCall 1 0 0 TT yX0_takeTicket cX0_takeTicket 3 (none) av σ Q := by
  rintro av σ Q ⟨a, c, s, rfl, ha, hc0, hc1, h⟩
  have hab := isA_b ha
  refine am_m0 (own := RX0) (A := look a_X0_takeTicket) (fun X e1 e2 hB => o_X0_takeTicket e1 e2 hB) rfl (by decide +kernel) rfl rfl 60 (w := 3) ?_
  change vcs _ _ _ _ 60 0 [(16, a), (0, c), (0, s)] [] σ
  simp only [vI_e, vL_e, vNull_e, vIload_e, vLload_e, vAload_e, vIstore_e, vLstore_e, vAstore_e, vIinc_e, vIadd_e, vIsub_e, vImul_e, vIand_e, vIor_e, vIxor_e, vIshl_e, vIshr_e, vIushr_e, vIdiv_e, vIrem_e, vLadd_e, vLsub_e, vLmul_e, vLand_e, vLor_e, vLxor_e, vLdiv_e, vLrem_e, vLushr_e, vLshl_e, vLcmp_e, vIneg_e, vI2l_e, vL2i_e, vI2b_e, vI2c_e, vDup_e, vPop_e, vDup2_e, vGoto_e, vIcEq_e, vIfEq_e, vIcNe_e, vIfNe_e, vIcLt_e, vIfLt_e, vIcGe_e, vIfGe_e, vIcGt_e, vIfGt_e, vIcLe_e, vIfLe_e, vNonnull_e, vSw_e, vGetI_e, vGetL_e, vGetR_e, vPutI_e, vPutZ_e, vPutL_e, vPutR_e, vIald_e, vIald_s, vLald_e, vBald_e, vBald_s, vAald_e, vIast_e, vLast_e, vBast_e, vAast_e, vAlen_e8, vAlen_e9, vAlen_e10, vAlen_e11, vAlen_e5, vAlen_e3, vGets_e, vCompact_e, vLdcS_e, vIret_e, vZret_e, vCret_e, vBret_e, vLret_e, vVret_e, vAret_e, vCallM_e0, vCallMV_e0, vCallS_e0, vCallSV_e0, vCallM_e1, vCallMV_e1, vCallS_e1, vCallSV_e1, vCallM_e2, vCallMV_e2, vCallS_e2, vCallSV_e2, vCallM_e3, vCallMV_e3, vCallS_e3, vCallSV_e3, vCallM_e4, vCallMV_e4, vCallS_e4, vCallSV_e4, vCallM_e5, vCallMV_e5, vCallS_e5, vCallSV_e5, vCallM_e6, vCallMV_e6, vCallS_e6, vCallSV_e6, vCallM_e7, vCallMV_e7, vCallS_e7, vCallSV_e7, vBad_e, vStrVal_e, vStrCod_e, vForm_e, vCallT_e0, vCallT_e1, vCallT_e2, vCopy_e, rf_0_0, rf_0_1, rf_0_2, rf_0_3, rf_0_4, rf_0_7, rf_0_10, rf_0_11, rf_0_12, rf_0_13, rf_0_14, rf_0_15, rf_0_16, rf_1_0, rf_3_0, rf_3_1, rf_6_0, rf_6_1, rf_9_0, rf_9_1, rf_9_3, rf_13_0, rf_13_1, rf_13_2, rf_16_0, rf_16_1, rf_16_2, rf_16_3, rf_21_0, rf_21_1, rf_21_2, rf_21_3, rf_26_0, rf_26_1, rf_26_2, rf_26_3, rf_26_4, rf_26_5, rf_26_6, rf_31_0, rf_31_2, rf_31_5, rf_31_6, rf_36_0, rf_36_1, rf_36_2, rf_36_3, rf_39_0, rf_39_1, rf_39_2, rf_41_0, rf_41_1, rf_41_2, rf_41_3, rf_5000_1, rf_5000_2, rf_5000_3, rf_5000_4, rf_5000_5, rf_5000_15, rf_5000_16, rf_5000_18, rf_5000_19, rf_5000_20, rf_5000_21, rf_5000_22, rf_5000_23, rf_5000_24, rf_5000_25, rf_5000_26, rf_5000_27, rf_5000_36, rf_5000_37, rf_5000_40, rf_5000_41, rf_5000_42, rf_5000_43, rf_5000_44, rf_5000_45, rf_5000_47, rf_5000_52, rf_5000_54, rf_5000_55, rf_100_0, rf_100_1, rf_103_0, rf_103_1, rf_106_0, rf_106_1, rf_109_0, rf_109_1, al_2, al_4, al_5, al_7, al_8, al_10, al_11, al_12, al_14, al_15, al_17, al_18, al_19, al_20, al_22, al_23, al_24, al_25, al_27, al_28, al_29, al_30, al_32, al_33, al_34, al_35, al_37, al_38, al_40, al_42, al_5001, al_5002, al_5003, al_5004, al_5005, al_5006, al_5007, al_5008, al_5009, al_5010, al_5011, al_5012, al_5013, al_5014, al_5015, al_5016, al_5017, al_5018, al_5019, al_5020, al_5021, al_5022, al_5023, al_5024, al_5025, al_5026, al_9000, al_101, al_102, al_104, al_105, al_107, al_108, al_110, al_111, vcs_e, lg_c0, lg_cs, lg_nil, set_c0, set_cs, okst_0, okst_s, acok_n, acok_c, List.contains_nil, List.contains_cons, Bool.or_false, Bool.false_or, Bool.false_eq_true, if_false, if_true, ite_self, ne_eq, true_and, and_true, not_false_eq_true, not_true_eq_false, false_imp_iff, true_imp_iff, Nat.ble_eq, Bool.and_eq_true, reduceCtorEq, or_false, false_or, or_true, true_or, false_and, and_false, and_self, Int.reduceLE, Int.reduceAdd, Int.reduceSub, Int.reduceMul, Int.reduceNeg, Int.reduceLT, Int.reduceEq, Int.reduceNe, Nat.reduceBEq, Nat.reduceBNe, Nat.reduceEqDiff, amCmp_in, amCmp_lt, amCmp_le, amCmp_gt, amCmp_ge, amCmp_eq, amCmp_ne, Nat.reduceLeDiff, Nat.reduceSub, Bool.and_true, Bool.true_and, Bool.and_self, Bool.or_true, Bool.true_or, isRf_3, isRf_4, isRf_5, isRf_8, isRf_9, isRf_10, isRf_11, isRf_15, isRf_16, isRf_17, isRf_18, isRf_19, isRf_20, isRf_21, isRf_22, isRf_23, isRf_24, isRf_25, isRf_26, isRf_27, isRf_28, k_X0_takeTicket_0, k_X0_takeTicket_1, k_X0_takeTicket_4, k_X0_takeTicket_7, k_X0_takeTicket_8, k_X0_takeTicket_11, k_X0_takeTicket_12, k_X0_takeTicket_13, k_X0_takeTicket_14, k_X0_takeTicket_15, k_X0_takeTicket_18, k_X0_takeTicket_19, k_X0_takeTicket_20, k_X0_takeTicket_21, k_X0_takeTicket_24, k_X0_takeTicket_25, k_X0_takeTicket_26, k_X0_takeTicket_27, w_X0_isChair_e, rfA_1 ha, rfA_2 ha, alA_2 ha, alA_3 ha]
  rw [if_pos ⟨hc0, hc1⟩]
  repeat' (first | assumption | apply And.intro | intro _)
  all_goals first | omega | exact h
theorem wd_152 : Cond.fieldLink RX0 21 "ArmchairHouse$Audience" "tears" "[I" ∈ TBL := tb_tab (List.mem_of_getElem? (i := 152) (by decide +kernel)) rfl
theorem fl_X0_21 : amFl RX0 0 3 21 RX0 TX0 7 := ⟨rfl, inT_0, by decide, wd_152⟩
theorem wd_839 : Cond.methodLink RX0 50 yJ9_min_7cf53 ∈ TBL := tb_tab (List.mem_of_getElem? (i := 839) (by decide +kernel)) rfl
theorem lk_X0_50 : amLk RX0 50 yJ9_min_7cf53 cJ9_min_7cf53 2 (some .int) 2 := ⟨wd_839, wd_16, wd_453, by decide +kernel, by decide +kernel, by decide⟩
def a_X0_weep : AC := [(0, vIload 1 1), (1, vCallS w_X0_isChair 1 4), (4, vIfEq 27 7), (7, vAload 0 8), (8, vGetR TT 16 3 8 11), (11, vIload 1 12), (12, vI 9999 15), (15, vAload 0 16), (16, vGetR TT 16 3 8 19), (19, vIload 1 20), (20, vIald TT 21), (21, vIload 2 22), (22, vIadd 23), (23, vCallS w_J9_min_7cf53 2 26), (26, vIast TT 27), (27, vVret)]
theorem k_X0_weep_0 : look a_X0_weep 0 = vIload 1 1 := rfl
theorem k_X0_weep_1 : look a_X0_weep 1 = vCallS w_X0_isChair 1 4 := rfl
theorem k_X0_weep_4 : look a_X0_weep 4 = vIfEq 27 7 := rfl
theorem k_X0_weep_7 : look a_X0_weep 7 = vAload 0 8 := rfl
theorem k_X0_weep_8 : look a_X0_weep 8 = vGetR TT 16 3 8 11 := rfl
theorem k_X0_weep_11 : look a_X0_weep 11 = vIload 1 12 := rfl
theorem k_X0_weep_12 : look a_X0_weep 12 = vI 9999 15 := rfl
theorem k_X0_weep_15 : look a_X0_weep 15 = vAload 0 16 := rfl
theorem k_X0_weep_16 : look a_X0_weep 16 = vGetR TT 16 3 8 19 := rfl
theorem k_X0_weep_19 : look a_X0_weep 19 = vIload 1 20 := rfl
theorem k_X0_weep_20 : look a_X0_weep 20 = vIald TT 21 := rfl
theorem k_X0_weep_21 : look a_X0_weep 21 = vIload 2 22 := rfl
theorem k_X0_weep_22 : look a_X0_weep 22 = vIadd 23 := rfl
theorem k_X0_weep_23 : look a_X0_weep 23 = vCallS w_J9_min_7cf53 2 26 := rfl
theorem k_X0_weep_26 : look a_X0_weep 26 = vIast TT 27 := rfl
theorem k_X0_weep_27 : look a_X0_weep 27 = vVret := rfl
theorem o_X0_weep {X : amX} (e1 : XT X = TT) (e2 : XD X = 1) (hB : amB X RX0 cX0_weep (none) 3) : ∀ pc, amOK X pc (look a_X0_weep pc) := by
  have hT : amTok (XT X) := e1 ▸ TT_ok
  refine look_ok ?_
  unfold a_X0_weep
  refine fc (ok_iload_n hB dX0_weep_0) ?_
  refine fc (ok_callS hB (e1 ▸ s_X0_isChair) lk_X0_46 (by rw [e2]; decide) wd_818 dX0_weep_1) ?_
  refine fc (ok_if_eq hB (t := 27) (by decide) dX0_weep_4) ?_
  refine fc (ok_aload_n hB dX0_weep_7) ?_
  refine fc (okt_getR e1 hB hT fl_X0_21 rfl af_0_3 at_0_3 (by decide) dX0_weep_8) ?_
  refine fc (ok_iload_n hB dX0_weep_11) ?_
  refine fc (ok_sipush hB dX0_weep_12 (by decide)) ?_
  refine fc (ok_aload_n hB dX0_weep_15) ?_
  refine fc (okt_getR e1 hB hT fl_X0_21 rfl af_0_3 at_0_3 (by decide) dX0_weep_16) ?_
  refine fc (ok_iload_n hB dX0_weep_19) ?_
  refine fc (okt_iaload e1 hB dX0_weep_20) ?_
  refine fc (ok_iload_n hB dX0_weep_21) ?_
  refine fc (ok_iadd hB dX0_weep_22) ?_
  refine fc (ok_callS hB (e1 ▸ s_J9_min_7cf53) lk_X0_50 (by rw [e2]; decide) wd_452 dX0_weep_23) ?_
  refine fc (okt_iastore e1 hB dX0_weep_26) ?_
  refine fc (ok_vret hB dX0_weep_27) ?_
  exact fn

def w_X0_weep : WP := fun av σ Q => ∃ (a : Int) (c : Int) (m : Int), av = [(16, a), (0, c), (0, m)] ∧ (isA a ∧ 0 ≤ c ∧ c < 6 ∧ InR (σ (a + 4) c + m) ∧ Q (6, 0) (up σ (a + 4) c (min 9999 (σ (a + 4) c + m))))
theorem w_X0_weep_e (a : Int) (c : Int) (m : Int) (σ : Mem) (Q : AV → Mem → Prop) : w_X0_weep [(16, a), (0, c), (0, m)] σ Q = (isA a ∧ 0 ≤ c ∧ c < 6 ∧ InR (σ (a + 4) c + m) ∧ Q (6, 0) (up σ (a + 4) c (min 9999 (σ (a + 4) c + m)))) := by
  apply propext; constructor
  · rintro ⟨a', c', m', h9, hb9⟩; cases h9; exact hb9
  · intro hb9; exact ⟨a, c, m, rfl, hb9⟩

set_option maxRecDepth 100000 in
set_option maxHeartbeats 4000000 in
theorem s_X0_weep : ∀ av σ Q, w_X0_weep av σ Q → amCall 1 0 0 TT yX0_weep cX0_weep 3 (none) av σ Q := by
  rintro av σ Q ⟨a, c, m, rfl, ha, hc0, hc1, hi, h⟩
  have hab := isA_b ha
  refine am_m0 (own := RX0) (A := look a_X0_weep) (fun X e1 e2 hB => o_X0_weep e1 e2 hB) rfl (by decide +kernel) rfl rfl 60 (w := 3) ?_
  change vcs _ _ _ _ 60 0 [(16, a), (0, c), (0, m)] [] σ
  simp only [vI_e, vL_e, vNull_e, vIload_e, vLload_e, vAload_e, vIstore_e, vLstore_e, vAstore_e, vIinc_e, vIadd_e, vIsub_e, vImul_e, vIand_e, vIor_e, vIxor_e, vIshl_e, vIshr_e, vIushr_e, vIdiv_e, vIrem_e, vLadd_e, vLsub_e, vLmul_e, vLand_e, vLor_e, vLxor_e, vLdiv_e, vLrem_e, vLushr_e, vLshl_e, vLcmp_e, vIneg_e, vI2l_e, vL2i_e, vI2b_e, vI2c_e, vDup_e, vPop_e, vDup2_e, vGoto_e, vIcEq_e, vIfEq_e, vIcNe_e, vIfNe_e, vIcLt_e, vIfLt_e, vIcGe_e, vIfGe_e, vIcGt_e, vIfGt_e, vIcLe_e, vIfLe_e, vNonnull_e, vSw_e, vGetI_e, vGetL_e, vGetR_e, vPutI_e, vPutZ_e, vPutL_e, vPutR_e, vIald_e, vIald_s, vLald_e, vBald_e, vBald_s, vAald_e, vIast_e, vLast_e, vBast_e, vAast_e, vAlen_e8, vAlen_e9, vAlen_e10, vAlen_e11, vAlen_e5, vAlen_e3, vGets_e, vCompact_e, vLdcS_e, vIret_e, vZret_e, vCret_e, vBret_e, vLret_e, vVret_e, vAret_e, vCallM_e0, vCallMV_e0, vCallS_e0, vCallSV_e0, vCallM_e1, vCallMV_e1, vCallS_e1, vCallSV_e1, vCallM_e2, vCallMV_e2, vCallS_e2, vCallSV_e2, vCallM_e3, vCallMV_e3, vCallS_e3, vCallSV_e3, vCallM_e4, vCallMV_e4, vCallS_e4, vCallSV_e4, vCallM_e5, vCallMV_e5, vCallS_e5, vCallSV_e5, vCallM_e6, vCallMV_e6, vCallS_e6, vCallSV_e6, vCallM_e7, vCallMV_e7, vCallS_e7, vCallSV_e7, vBad_e, vStrVal_e, vStrCod_e, vForm_e, vCallT_e0, vCallT_e1, vCallT_e2, vCopy_e, rf_0_0, rf_0_1, rf_0_2, rf_0_3, rf_0_4, rf_0_7, rf_0_10, rf_0_11, rf_0_12, rf_0_13, rf_0_14, rf_0_15, rf_0_16, rf_1_0, rf_3_0, rf_3_1, rf_6_0, rf_6_1, rf_9_0, rf_9_1, rf_9_3, rf_13_0, rf_13_1, rf_13_2, rf_16_0, rf_16_1, rf_16_2, rf_16_3, rf_21_0, rf_21_1, rf_21_2, rf_21_3, rf_26_0, rf_26_1, rf_26_2, rf_26_3, rf_26_4, rf_26_5, rf_26_6, rf_31_0, rf_31_2, rf_31_5, rf_31_6, rf_36_0, rf_36_1, rf_36_2, rf_36_3, rf_39_0, rf_39_1, rf_39_2, rf_41_0, rf_41_1, rf_41_2, rf_41_3, rf_5000_1, rf_5000_2, rf_5000_3, rf_5000_4, rf_5000_5, rf_5000_15, rf_5000_16, rf_5000_18, rf_5000_19, rf_5000_20, rf_5000_21, rf_5000_22, rf_5000_23, rf_5000_24, rf_5000_25, rf_5000_26, rf_5000_27, rf_5000_36, rf_5000_37, rf_5000_40, rf_5000_41, rf_5000_42, rf_5000_43, rf_5000_44, rf_5000_45, rf_5000_47, rf_5000_52, rf_5000_54, rf_5000_55, rf_100_0, rf_100_1, rf_103_0, rf_103_1, rf_106_0, rf_106_1, rf_109_0, rf_109_1, al_2, al_4, al_5, al_7, al_8, al_10, al_11, al_12, al_14, al_15, al_17, al_18, al_19, al_20, al_22, al_23, al_24, al_25, al_27, al_28, al_29, al_30, al_32, al_33, al_34, al_35, al_37, al_38, al_40, al_42, al_5001, al_5002, al_5003, al_5004, al_5005, al_5006, al_5007, al_5008, al_5009, al_5010, al_5011, al_5012, al_5013, al_5014, al_5015, al_5016, al_5017, al_5018, al_5019, al_5020, al_5021, al_5022, al_5023, al_5024, al_5025, al_5026, al_9000, al_101, al_102, al_104, al_105, al_107, al_108, al_110, al_111, vcs_e, lg_c0, lg_cs, lg_nil, set_c0, set_cs, okst_0, okst_s, acok_n, acok_c, List.contains_nil, List.contains_cons, Bool.or_false, Bool.false_or, Bool.false_eq_true, if_false, if_true, ite_self, ne_eq, true_and, and_true, not_false_eq_true, not_true_eq_false, false_imp_iff, true_imp_iff, Nat.ble_eq, Bool.and_eq_true, reduceCtorEq, or_false, false_or, or_true, true_or, false_and, and_false, and_self, Int.reduceLE, Int.reduceAdd, Int.reduceSub, Int.reduceMul, Int.reduceNeg, Int.reduceLT, Int.reduceEq, Int.reduceNe, Nat.reduceBEq, Nat.reduceBNe, Nat.reduceEqDiff, amCmp_in, amCmp_lt, amCmp_le, amCmp_gt, amCmp_ge, amCmp_eq, amCmp_ne, Nat.reduceLeDiff, Nat.reduceSub, Bool.and_true, Bool.true_and, Bool.and_self, Bool.or_true, Bool.true_or, isRf_3, isRf_4, isRf_5, isRf_8, isRf_9, isRf_10, isRf_11, isRf_15, isRf_16, isRf_17, isRf_18, isRf_19, isRf_20, isRf_21, isRf_22, isRf_23, isRf_24, isRf_25, isRf_26, isRf_27, isRf_28, k_X0_weep_0, k_X0_weep_1, k_X0_weep_4, k_X0_weep_7, k_X0_weep_8, k_X0_weep_11, k_X0_weep_12, k_X0_weep_15, k_X0_weep_16, k_X0_weep_19, k_X0_weep_20, k_X0_weep_21, k_X0_weep_22, k_X0_weep_23, k_X0_weep_26, k_X0_weep_27, w_J9_min_7cf53_e, w_X0_isChair_e, rfA_3 ha, alA_4 ha]
  rw [if_pos ⟨hc0, hc1⟩]
  have e9 : (if σ (a + 4) c + m < 9999 then σ (a + 4) c + m else 9999) = min 9999 (σ (a + 4) c + m) := by split <;> omega
  rw [e9]
  repeat' (first | assumption | apply And.intro | intro _)
  all_goals first | omega | exact h
theorem wd_142 : Cond.fieldLink RX0 9 "ArmchairHouse$Audience" "hearts" "[I" ∈ TBL := tb_tab (List.mem_of_getElem? (i := 142) (by decide +kernel)) rfl
theorem fl_X0_9 : amFl RX0 0 0 9 RX0 TX0 7 := ⟨rfl, inT_0, by decide, wd_142⟩
theorem wd_844 : Cond.methodLink RX0 56 yJ9_max_7cf53 ∈ TBL := tb_tab (List.mem_of_getElem? (i := 844) (by decide +kernel)) rfl
theorem lk_X0_56 : amLk RX0 56 yJ9_max_7cf53 cJ9_max_7cf53 2 (some .int) 2 := ⟨wd_844, wd_16, wd_450, by decide +kernel, by decide +kernel, by decide⟩
def a_X0_harden : AC := [(0, vIload 1 1), (1, vCallS w_X0_isChair 1 4), (4, vIfEq 25 7), (7, vAload 0 8), (8, vGetR TT 16 0 8 11), (11, vIload 1 12), (12, vI 0 13), (13, vAload 0 14), (14, vGetR TT 16 0 8 17), (17, vIload 1 18), (18, vIald TT 19), (19, vI 1 20), (20, vIsub 21), (21, vCallS w_J9_max_7cf53 2 24), (24, vIast TT 25), (25, vVret)]
theorem k_X0_harden_0 : look a_X0_harden 0 = vIload 1 1 := rfl
theorem k_X0_harden_1 : look a_X0_harden 1 = vCallS w_X0_isChair 1 4 := rfl
theorem k_X0_harden_4 : look a_X0_harden 4 = vIfEq 25 7 := rfl
theorem k_X0_harden_7 : look a_X0_harden 7 = vAload 0 8 := rfl
theorem k_X0_harden_8 : look a_X0_harden 8 = vGetR TT 16 0 8 11 := rfl
theorem k_X0_harden_11 : look a_X0_harden 11 = vIload 1 12 := rfl
theorem k_X0_harden_12 : look a_X0_harden 12 = vI 0 13 := rfl
theorem k_X0_harden_13 : look a_X0_harden 13 = vAload 0 14 := rfl
theorem k_X0_harden_14 : look a_X0_harden 14 = vGetR TT 16 0 8 17 := rfl
theorem k_X0_harden_17 : look a_X0_harden 17 = vIload 1 18 := rfl
theorem k_X0_harden_18 : look a_X0_harden 18 = vIald TT 19 := rfl
theorem k_X0_harden_19 : look a_X0_harden 19 = vI 1 20 := rfl
theorem k_X0_harden_20 : look a_X0_harden 20 = vIsub 21 := rfl
theorem k_X0_harden_21 : look a_X0_harden 21 = vCallS w_J9_max_7cf53 2 24 := rfl
theorem k_X0_harden_24 : look a_X0_harden 24 = vIast TT 25 := rfl
theorem k_X0_harden_25 : look a_X0_harden 25 = vVret := rfl
theorem o_X0_harden {X : amX} (e1 : XT X = TT) (e2 : XD X = 1) (hB : amB X RX0 cX0_harden (none) 2) : ∀ pc, amOK X pc (look a_X0_harden pc) := by
  have hT : amTok (XT X) := e1 ▸ TT_ok
  refine look_ok ?_
  unfold a_X0_harden
  refine fc (ok_iload_n hB dX0_harden_0) ?_
  refine fc (ok_callS hB (e1 ▸ s_X0_isChair) lk_X0_46 (by rw [e2]; decide) wd_818 dX0_harden_1) ?_
  refine fc (ok_if_eq hB (t := 25) (by decide) dX0_harden_4) ?_
  refine fc (ok_aload_n hB dX0_harden_7) ?_
  refine fc (okt_getR e1 hB hT fl_X0_9 rfl af_0_0 at_0_0 (by decide) dX0_harden_8) ?_
  refine fc (ok_iload_n hB dX0_harden_11) ?_
  refine fc (ok_iconst hB dX0_harden_12) ?_
  refine fc (ok_aload_n hB dX0_harden_13) ?_
  refine fc (okt_getR e1 hB hT fl_X0_9 rfl af_0_0 at_0_0 (by decide) dX0_harden_14) ?_
  refine fc (ok_iload_n hB dX0_harden_17) ?_
  refine fc (okt_iaload e1 hB dX0_harden_18) ?_
  refine fc (ok_iconst hB dX0_harden_19) ?_
  refine fc (ok_isub hB dX0_harden_20) ?_
  refine fc (ok_callS hB (e1 ▸ s_J9_max_7cf53) lk_X0_56 (by rw [e2]; decide) wd_449 dX0_harden_21) ?_
  refine fc (okt_iastore e1 hB dX0_harden_24) ?_
  refine fc (ok_vret hB dX0_harden_25) ?_
  exact fn

def w_X0_harden : WP := fun av σ Q => ∃ (a : Int) (c : Int), av = [(16, a), (0, c)] ∧ (isA a ∧ 0 ≤ c ∧ c < 6 ∧ InR (σ (a + 1) c - 1) ∧ Q (6, 0) (up σ (a + 1) c (max 0 (σ (a + 1) c - 1))))
theorem w_X0_harden_e (a : Int) (c : Int) (σ : Mem) (Q : AV → Mem → Prop) : w_X0_harden [(16, a), (0, c)] σ Q = (isA a ∧ 0 ≤ c ∧ c < 6 ∧ InR (σ (a + 1) c - 1) ∧ Q (6, 0) (up σ (a + 1) c (max 0 (σ (a + 1) c - 1)))) := by
  apply propext; constructor
  · rintro ⟨a', c', h9, hb9⟩; cases h9; exact hb9
  · intro hb9; exact ⟨a, c, rfl, hb9⟩

set_option maxRecDepth 100000 in
set_option maxHeartbeats 4000000 in
theorem s_X0_harden : ∀ av σ Q, w_X0_harden av σ Q → amCall 1 0 0 TT yX0_harden cX0_harden 2 (none) av σ Q := by
  rintro av σ Q ⟨a, c, rfl, ha, hc0, hc1, hi, h⟩
  have hab := isA_b ha
  refine am_m0 (own := RX0) (A := look a_X0_harden) (fun X e1 e2 hB => o_X0_harden e1 e2 hB) rfl (by decide +kernel) rfl rfl 60 (w := 2) ?_
  change vcs _ _ _ _ 60 0 [(16, a), (0, c)] [] σ
  simp only [vI_e, vL_e, vNull_e, vIload_e, vLload_e, vAload_e, vIstore_e, vLstore_e, vAstore_e, vIinc_e, vIadd_e, vIsub_e, vImul_e, vIand_e, vIor_e, vIxor_e, vIshl_e, vIshr_e, vIushr_e, vIdiv_e, vIrem_e, vLadd_e, vLsub_e, vLmul_e, vLand_e, vLor_e, vLxor_e, vLdiv_e, vLrem_e, vLushr_e, vLshl_e, vLcmp_e, vIneg_e, vI2l_e, vL2i_e, vI2b_e, vI2c_e, vDup_e, vPop_e, vDup2_e, vGoto_e, vIcEq_e, vIfEq_e, vIcNe_e, vIfNe_e, vIcLt_e, vIfLt_e, vIcGe_e, vIfGe_e, vIcGt_e, vIfGt_e, vIcLe_e, vIfLe_e, vNonnull_e, vSw_e, vGetI_e, vGetL_e, vGetR_e, vPutI_e, vPutZ_e, vPutL_e, vPutR_e, vIald_e, vIald_s, vLald_e, vBald_e, vBald_s, vAald_e, vIast_e, vLast_e, vBast_e, vAast_e, vAlen_e8, vAlen_e9, vAlen_e10, vAlen_e11, vAlen_e5, vAlen_e3, vGets_e, vCompact_e, vLdcS_e, vIret_e, vZret_e, vCret_e, vBret_e, vLret_e, vVret_e, vAret_e, vCallM_e0, vCallMV_e0, vCallS_e0, vCallSV_e0, vCallM_e1, vCallMV_e1, vCallS_e1, vCallSV_e1, vCallM_e2, vCallMV_e2, vCallS_e2, vCallSV_e2, vCallM_e3, vCallMV_e3, vCallS_e3, vCallSV_e3, vCallM_e4, vCallMV_e4, vCallS_e4, vCallSV_e4, vCallM_e5, vCallMV_e5, vCallS_e5, vCallSV_e5, vCallM_e6, vCallMV_e6, vCallS_e6, vCallSV_e6, vCallM_e7, vCallMV_e7, vCallS_e7, vCallSV_e7, vBad_e, vStrVal_e, vStrCod_e, vForm_e, vCallT_e0, vCallT_e1, vCallT_e2, vCopy_e, rf_0_0, rf_0_1, rf_0_2, rf_0_3, rf_0_4, rf_0_7, rf_0_10, rf_0_11, rf_0_12, rf_0_13, rf_0_14, rf_0_15, rf_0_16, rf_1_0, rf_3_0, rf_3_1, rf_6_0, rf_6_1, rf_9_0, rf_9_1, rf_9_3, rf_13_0, rf_13_1, rf_13_2, rf_16_0, rf_16_1, rf_16_2, rf_16_3, rf_21_0, rf_21_1, rf_21_2, rf_21_3, rf_26_0, rf_26_1, rf_26_2, rf_26_3, rf_26_4, rf_26_5, rf_26_6, rf_31_0, rf_31_2, rf_31_5, rf_31_6, rf_36_0, rf_36_1, rf_36_2, rf_36_3, rf_39_0, rf_39_1, rf_39_2, rf_41_0, rf_41_1, rf_41_2, rf_41_3, rf_5000_1, rf_5000_2, rf_5000_3, rf_5000_4, rf_5000_5, rf_5000_15, rf_5000_16, rf_5000_18, rf_5000_19, rf_5000_20, rf_5000_21, rf_5000_22, rf_5000_23, rf_5000_24, rf_5000_25, rf_5000_26, rf_5000_27, rf_5000_36, rf_5000_37, rf_5000_40, rf_5000_41, rf_5000_42, rf_5000_43, rf_5000_44, rf_5000_45, rf_5000_47, rf_5000_52, rf_5000_54, rf_5000_55, rf_100_0, rf_100_1, rf_103_0, rf_103_1, rf_106_0, rf_106_1, rf_109_0, rf_109_1, al_2, al_4, al_5, al_7, al_8, al_10, al_11, al_12, al_14, al_15, al_17, al_18, al_19, al_20, al_22, al_23, al_24, al_25, al_27, al_28, al_29, al_30, al_32, al_33, al_34, al_35, al_37, al_38, al_40, al_42, al_5001, al_5002, al_5003, al_5004, al_5005, al_5006, al_5007, al_5008, al_5009, al_5010, al_5011, al_5012, al_5013, al_5014, al_5015, al_5016, al_5017, al_5018, al_5019, al_5020, al_5021, al_5022, al_5023, al_5024, al_5025, al_5026, al_9000, al_101, al_102, al_104, al_105, al_107, al_108, al_110, al_111, vcs_e, lg_c0, lg_cs, lg_nil, set_c0, set_cs, okst_0, okst_s, acok_n, acok_c, List.contains_nil, List.contains_cons, Bool.or_false, Bool.false_or, Bool.false_eq_true, if_false, if_true, ite_self, ne_eq, true_and, and_true, not_false_eq_true, not_true_eq_false, false_imp_iff, true_imp_iff, Nat.ble_eq, Bool.and_eq_true, reduceCtorEq, or_false, false_or, or_true, true_or, false_and, and_false, and_self, Int.reduceLE, Int.reduceAdd, Int.reduceSub, Int.reduceMul, Int.reduceNeg, Int.reduceLT, Int.reduceEq, Int.reduceNe, Nat.reduceBEq, Nat.reduceBNe, Nat.reduceEqDiff, amCmp_in, amCmp_lt, amCmp_le, amCmp_gt, amCmp_ge, amCmp_eq, amCmp_ne, Nat.reduceLeDiff, Nat.reduceSub, Bool.and_true, Bool.true_and, Bool.and_self, Bool.or_true, Bool.true_or, isRf_3, isRf_4, isRf_5, isRf_8, isRf_9, isRf_10, isRf_11, isRf_15, isRf_16, isRf_17, isRf_18, isRf_19, isRf_20, isRf_21, isRf_22, isRf_23, isRf_24, isRf_25, isRf_26, isRf_27, isRf_28, k_X0_harden_0, k_X0_harden_1, k_X0_harden_4, k_X0_harden_7, k_X0_harden_8, k_X0_harden_11, k_X0_harden_12, k_X0_harden_13, k_X0_harden_14, k_X0_harden_17, k_X0_harden_18, k_X0_harden_19, k_X0_harden_20, k_X0_harden_21, k_X0_harden_24, k_X0_harden_25, w_J9_max_7cf53_e, w_X0_isChair_e, rfA_0 ha, alA_1 ha]
  rw [if_pos ⟨hc0, hc1⟩]
  have e9 : (if (0 : Int) < σ (a + 1) c - 1 then σ (a + 1) c - 1 else 0) = max 0 (σ (a + 1) c - 1) := by split <;> omega
  rw [e9]
  repeat' (first | assumption | apply And.intro | intro _)
  all_goals first | omega | exact h
def a_X0_holders : AC := [(0, vI 0 1), (1, vIstore 3 2), (2, vI 0 3), (3, vIstore 4 5), (5, vIload 4 7), (7, vIload 2 8), (8, vIcGe 42 11), (11, vIload 4 13), (13, vI 6 15), (15, vIcGe 42 18), (18, vAload 0 19), (19, vGetR TT 16 1 8 22), (22, vIload 4 24), (24, vIald TT 25), (25, vIload 1 26), (26, vIcNe 36 29), (29, vIload 3 30), (30, vI 1 31), (31, vIload 4 33), (33, vIshl 34), (34, vIor 35), (35, vIstore 3 36), (36, vIinc 4 1 39), (39, vGoto 5), (42, vIload 3 43), (43, vIret)]
theorem k_X0_holders_0 : look a_X0_holders 0 = vI 0 1 := rfl
theorem k_X0_holders_1 : look a_X0_holders 1 = vIstore 3 2 := rfl
theorem k_X0_holders_2 : look a_X0_holders 2 = vI 0 3 := rfl
theorem k_X0_holders_3 : look a_X0_holders 3 = vIstore 4 5 := rfl
theorem k_X0_holders_5 : look a_X0_holders 5 = vIload 4 7 := rfl
theorem k_X0_holders_7 : look a_X0_holders 7 = vIload 2 8 := rfl
theorem k_X0_holders_8 : look a_X0_holders 8 = vIcGe 42 11 := rfl
theorem k_X0_holders_11 : look a_X0_holders 11 = vIload 4 13 := rfl
theorem k_X0_holders_13 : look a_X0_holders 13 = vI 6 15 := rfl
theorem k_X0_holders_15 : look a_X0_holders 15 = vIcGe 42 18 := rfl
theorem k_X0_holders_18 : look a_X0_holders 18 = vAload 0 19 := rfl
theorem k_X0_holders_19 : look a_X0_holders 19 = vGetR TT 16 1 8 22 := rfl
theorem k_X0_holders_22 : look a_X0_holders 22 = vIload 4 24 := rfl
theorem k_X0_holders_24 : look a_X0_holders 24 = vIald TT 25 := rfl
theorem k_X0_holders_25 : look a_X0_holders 25 = vIload 1 26 := rfl
theorem k_X0_holders_26 : look a_X0_holders 26 = vIcNe 36 29 := rfl
theorem k_X0_holders_29 : look a_X0_holders 29 = vIload 3 30 := rfl
theorem k_X0_holders_30 : look a_X0_holders 30 = vI 1 31 := rfl
theorem k_X0_holders_31 : look a_X0_holders 31 = vIload 4 33 := rfl
theorem k_X0_holders_33 : look a_X0_holders 33 = vIshl 34 := rfl
theorem k_X0_holders_34 : look a_X0_holders 34 = vIor 35 := rfl
theorem k_X0_holders_35 : look a_X0_holders 35 = vIstore 3 36 := rfl
theorem k_X0_holders_36 : look a_X0_holders 36 = vIinc 4 1 39 := rfl
theorem k_X0_holders_39 : look a_X0_holders 39 = vGoto 5 := rfl
theorem k_X0_holders_42 : look a_X0_holders 42 = vIload 3 43 := rfl
theorem k_X0_holders_43 : look a_X0_holders 43 = vIret := rfl
theorem o_X0_holders {X : amX} (e1 : XT X = TT) (e2 : XD X = 0) (hB : amB X RX0 cX0_holders (some .int) 5) : ∀ pc, amOK X pc (look a_X0_holders pc) := by
  have hT : amTok (XT X) := e1 ▸ TT_ok
  refine look_ok ?_
  unfold a_X0_holders
  refine fc (ok_iconst hB dX0_holders_0) ?_
  refine fc (ok_istore_n hB (by decide) dX0_holders_1) ?_
  refine fc (ok_iconst hB dX0_holders_2) ?_
  refine fc (ok_istore hB (by decide) dX0_holders_3) ?_
  refine fc (ok_iload hB dX0_holders_5) ?_
  refine fc (ok_iload_n hB dX0_holders_7) ?_
  refine fc (ok_icmp_ge hB (t := 42) (by decide) dX0_holders_8) ?_
  refine fc (ok_iload hB dX0_holders_11) ?_
  refine fc (ok_bipush hB dX0_holders_13 (by decide)) ?_
  refine fc (ok_icmp_ge hB (t := 42) (by decide) dX0_holders_15) ?_
  refine fc (ok_aload_n hB dX0_holders_18) ?_
  refine fc (okt_getR e1 hB hT fl_X0_15 rfl af_0_1 at_0_1 (by decide) dX0_holders_19) ?_
  refine fc (ok_iload hB dX0_holders_22) ?_
  refine fc (okt_iaload e1 hB dX0_holders_24) ?_
  refine fc (ok_iload_n hB dX0_holders_25) ?_
  refine fc (ok_icmp_ne hB (t := 36) (by decide) dX0_holders_26) ?_
  refine fc (ok_iload_n hB dX0_holders_29) ?_
  refine fc (ok_iconst hB dX0_holders_30) ?_
  refine fc (ok_iload hB dX0_holders_31) ?_
  refine fc (ok_ishl hB dX0_holders_33) ?_
  refine fc (ok_ior hB dX0_holders_34) ?_
  refine fc (ok_istore_n hB (by decide) dX0_holders_35) ?_
  refine fc (ok_iinc hB (by decide) dX0_holders_36) ?_
  refine fc (ok_goto hB (t := 5) (by decide) dX0_holders_39) ?_
  refine fc (ok_iload_n hB dX0_holders_42) ?_
  refine fc (ok_iret hB dX0_holders_43) ?_
  exact fn
def inv_holders (a x m : Int) (σ : Mem) (n pc : Nat) (ls st : List AV) (σ' : Mem) : Prop := pc = 5 ∧ st = [] ∧ σ' = σ ∧ ∃ k : Nat, ls = [(16, a), (0, x), (0, m), (0, hbits (σ (a + 2)) x k), (0, k)] ∧ (k : Int) + n = m
def w_X0_holders : WP := fun av σ Q => ∃ (a : Int) (x : Int) (m : Int), av = [(16, a), (0, x), (0, m)] ∧ (isA a ∧ InR x ∧ 0 ≤ m ∧ m ≤ 6 ∧ (∀ i, 0 ≤ i → i < 6 → InR (σ (a + 2) i)) ∧ Q (0, hbits (σ (a + 2)) x m.toNat) σ)
theorem w_X0_holders_e (a : Int) (x : Int) (m : Int) (σ : Mem) (Q : AV → Mem → Prop) : w_X0_holders [(16, a), (0, x), (0, m)] σ Q = (isA a ∧ InR x ∧ 0 ≤ m ∧ m ≤ 6 ∧ (∀ i, 0 ≤ i → i < 6 → InR (σ (a + 2) i)) ∧ Q (0, hbits (σ (a + 2)) x m.toNat) σ) := by
  apply propext; constructor
  · rintro ⟨a', x', m', h9, hb9⟩; cases h9; exact hb9
  · intro hb9; exact ⟨a, x, m, rfl, hb9⟩

set_option maxRecDepth 100000 in
set_option maxHeartbeats 4000000 in
theorem s_X0_holders : ∀ av σ Q, w_X0_holders av σ Q → amCall 0 0 0 TT yX0_holders cX0_holders 5 (some .int) av σ Q := by
  rintro av σ Q ⟨a, x, m, rfl, ha, hx, hm0, hm1, hs, h⟩
  have hab := isA_b ha
  refine am_m [5] (inv_holders a x m σ) (own := RX0) (A := look a_X0_holders) (fun X e1 e2 hB => o_X0_holders e1 e2 hB) rfl (by decide +kernel) rfl rfl ?_ ⟨90, ?_⟩ (w := 5)
  · rintro n pc ls st σ' ⟨rfl, rfl, rfl, k, rfl, hk⟩
    refine ⟨90, ?_⟩
    simp only [vI_e, vL_e, vNull_e, vIload_e, vLload_e, vAload_e, vIstore_e, vLstore_e, vAstore_e, vIinc_e, vIadd_e, vIsub_e, vImul_e, vIand_e, vIor_e, vIxor_e, vIshl_e, vIshr_e, vIushr_e, vIdiv_e, vIrem_e, vLadd_e, vLsub_e, vLmul_e, vLand_e, vLor_e, vLxor_e, vLdiv_e, vLrem_e, vLushr_e, vLshl_e, vLcmp_e, vIneg_e, vI2l_e, vL2i_e, vI2b_e, vI2c_e, vDup_e, vPop_e, vDup2_e, vGoto_e, vIcEq_e, vIfEq_e, vIcNe_e, vIfNe_e, vIcLt_e, vIfLt_e, vIcGe_e, vIfGe_e, vIcGt_e, vIfGt_e, vIcLe_e, vIfLe_e, vNonnull_e, vSw_e, vGetI_e, vGetL_e, vGetR_e, vPutI_e, vPutZ_e, vPutL_e, vPutR_e, vIald_e, vIald_s, vLald_e, vBald_e, vBald_s, vAald_e, vIast_e, vLast_e, vBast_e, vAast_e, vAlen_e8, vAlen_e9, vAlen_e10, vAlen_e11, vAlen_e5, vAlen_e3, vGets_e, vCompact_e, vLdcS_e, vIret_e, vZret_e, vCret_e, vBret_e, vLret_e, vVret_e, vAret_e, vCallM_e0, vCallMV_e0, vCallS_e0, vCallSV_e0, vCallM_e1, vCallMV_e1, vCallS_e1, vCallSV_e1, vCallM_e2, vCallMV_e2, vCallS_e2, vCallSV_e2, vCallM_e3, vCallMV_e3, vCallS_e3, vCallSV_e3, vCallM_e4, vCallMV_e4, vCallS_e4, vCallSV_e4, vCallM_e5, vCallMV_e5, vCallS_e5, vCallSV_e5, vCallM_e6, vCallMV_e6, vCallS_e6, vCallSV_e6, vCallM_e7, vCallMV_e7, vCallS_e7, vCallSV_e7, vBad_e, vStrVal_e, vStrCod_e, vForm_e, vCallT_e0, vCallT_e1, vCallT_e2, vCopy_e, rf_0_0, rf_0_1, rf_0_2, rf_0_3, rf_0_4, rf_0_7, rf_0_10, rf_0_11, rf_0_12, rf_0_13, rf_0_14, rf_0_15, rf_0_16, rf_1_0, rf_3_0, rf_3_1, rf_6_0, rf_6_1, rf_9_0, rf_9_1, rf_9_3, rf_13_0, rf_13_1, rf_13_2, rf_16_0, rf_16_1, rf_16_2, rf_16_3, rf_21_0, rf_21_1, rf_21_2, rf_21_3, rf_26_0, rf_26_1, rf_26_2, rf_26_3, rf_26_4, rf_26_5, rf_26_6, rf_31_0, rf_31_2, rf_31_5, rf_31_6, rf_36_0, rf_36_1, rf_36_2, rf_36_3, rf_39_0, rf_39_1, rf_39_2, rf_41_0, rf_41_1, rf_41_2, rf_41_3, rf_5000_1, rf_5000_2, rf_5000_3, rf_5000_4, rf_5000_5, rf_5000_15, rf_5000_16, rf_5000_18, rf_5000_19, rf_5000_20, rf_5000_21, rf_5000_22, rf_5000_23, rf_5000_24, rf_5000_25, rf_5000_26, rf_5000_27, rf_5000_36, rf_5000_37, rf_5000_40, rf_5000_41, rf_5000_42, rf_5000_43, rf_5000_44, rf_5000_45, rf_5000_47, rf_5000_52, rf_5000_54, rf_5000_55, rf_100_0, rf_100_1, rf_103_0, rf_103_1, rf_106_0, rf_106_1, rf_109_0, rf_109_1, al_2, al_4, al_5, al_7, al_8, al_10, al_11, al_12, al_14, al_15, al_17, al_18, al_19, al_20, al_22, al_23, al_24, al_25, al_27, al_28, al_29, al_30, al_32, al_33, al_34, al_35, al_37, al_38, al_40, al_42, al_5001, al_5002, al_5003, al_5004, al_5005, al_5006, al_5007, al_5008, al_5009, al_5010, al_5011, al_5012, al_5013, al_5014, al_5015, al_5016, al_5017, al_5018, al_5019, al_5020, al_5021, al_5022, al_5023, al_5024, al_5025, al_5026, al_9000, al_101, al_102, al_104, al_105, al_107, al_108, al_110, al_111, vcs_e, lg_c0, lg_cs, lg_nil, set_c0, set_cs, okst_0, okst_s, acok_n, acok_c, List.contains_nil, List.contains_cons, Bool.or_false, Bool.false_or, Bool.false_eq_true, if_false, if_true, ite_self, ne_eq, true_and, and_true, not_false_eq_true, not_true_eq_false, false_imp_iff, true_imp_iff, Nat.ble_eq, Bool.and_eq_true, reduceCtorEq, or_false, false_or, or_true, true_or, false_and, and_false, and_self, Int.reduceLE, Int.reduceAdd, Int.reduceSub, Int.reduceMul, Int.reduceNeg, Int.reduceLT, Int.reduceEq, Int.reduceNe, Nat.reduceBEq, Nat.reduceBNe, Nat.reduceEqDiff, amCmp_in, amCmp_lt, amCmp_le, amCmp_gt, amCmp_ge, amCmp_eq, amCmp_ne, Nat.reduceLeDiff, Nat.reduceSub, Bool.and_true, Bool.true_and, Bool.and_self, Bool.or_true, Bool.true_or, isRf_3, isRf_4, isRf_5, isRf_8, isRf_9, isRf_10, isRf_11, isRf_15, isRf_16, isRf_17, isRf_18, isRf_19, isRf_20, isRf_21, isRf_22, isRf_23, isRf_24, isRf_25, isRf_26, isRf_27, isRf_28, k_X0_holders_0, k_X0_holders_1, k_X0_holders_2, k_X0_holders_3, k_X0_holders_5, k_X0_holders_7, k_X0_holders_8, k_X0_holders_11, k_X0_holders_13, k_X0_holders_15, k_X0_holders_18, k_X0_holders_19, k_X0_holders_22, k_X0_holders_24, k_X0_holders_25, k_X0_holders_26, k_X0_holders_29, k_X0_holders_30, k_X0_holders_31, k_X0_holders_33, k_X0_holders_34, k_X0_holders_35, k_X0_holders_36, k_X0_holders_39, k_X0_holders_42, k_X0_holders_43, rfA_1 ha, alA_2 ha]
    by_cases hlt : (k : Int) < m
    · have hsk := hs k (by omega) (by omega)
      have hb := hbits_b (σ' (a + 2)) x k
      rw [bor6' (by omega) hb.1 hb.2]
      have hnx : ∀ b, b = hbits (σ' (a + 2)) x (k + 1) → ∃ q, q < n ∧ inv_holders a x m σ' q 5 [(16, a), (0, x), (0, m), (0, b), (0, (k : Int) + 1)] [] σ' := fun b hb9 =>
        ⟨n - 1, by omega, rfl, rfl, rfl, k + 1, by rw [hb9, Int.natCast_add]; rfl, by omega⟩
      have e1 : σ' (a + 2) k = x → hbits (σ' (a + 2)) x k + 2 ^ k = hbits (σ' (a + 2)) x (k + 1) := fun g => by
        show _ = hbits (σ' (a + 2)) x k + (if σ' (a + 2) k = x then 2 ^ k else 0)
        rw [if_pos g]
      have e2 : σ' (a + 2) k ≠ x → hbits (σ' (a + 2)) x k = hbits (σ' (a + 2)) x (k + 1) := fun g => by
        show _ = hbits (σ' (a + 2)) x k + (if σ' (a + 2) k = x then 2 ^ k else 0)
        rw [if_neg g]; omega
      repeat' (first | assumption | apply And.intro | intro _)
      all_goals first | omega | exact hnx _ (e1 (by assumption)) | exact hnx _ (e2 (by assumption))
    · have : m.toNat = k := by omega
      rw [this] at h
      repeat' (first | assumption | apply And.intro | intro _)
      all_goals first | omega | exact h
  · change vcs _ _ _ _ 90 0 [(16, a), (0, x), (0, m), (6, 0), (6, 0)] [] σ
    simp only [vI_e, vL_e, vNull_e, vIload_e, vLload_e, vAload_e, vIstore_e, vLstore_e, vAstore_e, vIinc_e, vIadd_e, vIsub_e, vImul_e, vIand_e, vIor_e, vIxor_e, vIshl_e, vIshr_e, vIushr_e, vIdiv_e, vIrem_e, vLadd_e, vLsub_e, vLmul_e, vLand_e, vLor_e, vLxor_e, vLdiv_e, vLrem_e, vLushr_e, vLshl_e, vLcmp_e, vIneg_e, vI2l_e, vL2i_e, vI2b_e, vI2c_e, vDup_e, vPop_e, vDup2_e, vGoto_e, vIcEq_e, vIfEq_e, vIcNe_e, vIfNe_e, vIcLt_e, vIfLt_e, vIcGe_e, vIfGe_e, vIcGt_e, vIfGt_e, vIcLe_e, vIfLe_e, vNonnull_e, vSw_e, vGetI_e, vGetL_e, vGetR_e, vPutI_e, vPutZ_e, vPutL_e, vPutR_e, vIald_e, vIald_s, vLald_e, vBald_e, vBald_s, vAald_e, vIast_e, vLast_e, vBast_e, vAast_e, vAlen_e8, vAlen_e9, vAlen_e10, vAlen_e11, vAlen_e5, vAlen_e3, vGets_e, vCompact_e, vLdcS_e, vIret_e, vZret_e, vCret_e, vBret_e, vLret_e, vVret_e, vAret_e, vCallM_e0, vCallMV_e0, vCallS_e0, vCallSV_e0, vCallM_e1, vCallMV_e1, vCallS_e1, vCallSV_e1, vCallM_e2, vCallMV_e2, vCallS_e2, vCallSV_e2, vCallM_e3, vCallMV_e3, vCallS_e3, vCallSV_e3, vCallM_e4, vCallMV_e4, vCallS_e4, vCallSV_e4, vCallM_e5, vCallMV_e5, vCallS_e5, vCallSV_e5, vCallM_e6, vCallMV_e6, vCallS_e6, vCallSV_e6, vCallM_e7, vCallMV_e7, vCallS_e7, vCallSV_e7, vBad_e, vStrVal_e, vStrCod_e, vForm_e, vCallT_e0, vCallT_e1, vCallT_e2, vCopy_e, rf_0_0, rf_0_1, rf_0_2, rf_0_3, rf_0_4, rf_0_7, rf_0_10, rf_0_11, rf_0_12, rf_0_13, rf_0_14, rf_0_15, rf_0_16, rf_1_0, rf_3_0, rf_3_1, rf_6_0, rf_6_1, rf_9_0, rf_9_1, rf_9_3, rf_13_0, rf_13_1, rf_13_2, rf_16_0, rf_16_1, rf_16_2, rf_16_3, rf_21_0, rf_21_1, rf_21_2, rf_21_3, rf_26_0, rf_26_1, rf_26_2, rf_26_3, rf_26_4, rf_26_5, rf_26_6, rf_31_0, rf_31_2, rf_31_5, rf_31_6, rf_36_0, rf_36_1, rf_36_2, rf_36_3, rf_39_0, rf_39_1, rf_39_2, rf_41_0, rf_41_1, rf_41_2, rf_41_3, rf_5000_1, rf_5000_2, rf_5000_3, rf_5000_4, rf_5000_5, rf_5000_15, rf_5000_16, rf_5000_18, rf_5000_19, rf_5000_20, rf_5000_21, rf_5000_22, rf_5000_23, rf_5000_24, rf_5000_25, rf_5000_26, rf_5000_27, rf_5000_36, rf_5000_37, rf_5000_40, rf_5000_41, rf_5000_42, rf_5000_43, rf_5000_44, rf_5000_45, rf_5000_47, rf_5000_52, rf_5000_54, rf_5000_55, rf_100_0, rf_100_1, rf_103_0, rf_103_1, rf_106_0, rf_106_1, rf_109_0, rf_109_1, al_2, al_4, al_5, al_7, al_8, al_10, al_11, al_12, al_14, al_15, al_17, al_18, al_19, al_20, al_22, al_23, al_24, al_25, al_27, al_28, al_29, al_30, al_32, al_33, al_34, al_35, al_37, al_38, al_40, al_42, al_5001, al_5002, al_5003, al_5004, al_5005, al_5006, al_5007, al_5008, al_5009, al_5010, al_5011, al_5012, al_5013, al_5014, al_5015, al_5016, al_5017, al_5018, al_5019, al_5020, al_5021, al_5022, al_5023, al_5024, al_5025, al_5026, al_9000, al_101, al_102, al_104, al_105, al_107, al_108, al_110, al_111, vcs_e, lg_c0, lg_cs, lg_nil, set_c0, set_cs, okst_0, okst_s, acok_n, acok_c, List.contains_nil, List.contains_cons, Bool.or_false, Bool.false_or, Bool.false_eq_true, if_false, if_true, ite_self, ne_eq, true_and, and_true, not_false_eq_true, not_true_eq_false, false_imp_iff, true_imp_iff, Nat.ble_eq, Bool.and_eq_true, reduceCtorEq, or_false, false_or, or_true, true_or, false_and, and_false, and_self, Int.reduceLE, Int.reduceAdd, Int.reduceSub, Int.reduceMul, Int.reduceNeg, Int.reduceLT, Int.reduceEq, Int.reduceNe, Nat.reduceBEq, Nat.reduceBNe, Nat.reduceEqDiff, amCmp_in, amCmp_lt, amCmp_le, amCmp_gt, amCmp_ge, amCmp_eq, amCmp_ne, Nat.reduceLeDiff, Nat.reduceSub, Bool.and_true, Bool.true_and, Bool.and_self, Bool.or_true, Bool.true_or, isRf_3, isRf_4, isRf_5, isRf_8, isRf_9, isRf_10, isRf_11, isRf_15, isRf_16, isRf_17, isRf_18, isRf_19, isRf_20, isRf_21, isRf_22, isRf_23, isRf_24, isRf_25, isRf_26, isRf_27, isRf_28, k_X0_holders_0, k_X0_holders_1, k_X0_holders_2, k_X0_holders_3, k_X0_holders_5, k_X0_holders_7, k_X0_holders_8, k_X0_holders_11, k_X0_holders_13, k_X0_holders_15, k_X0_holders_18, k_X0_holders_19, k_X0_holders_22, k_X0_holders_24, k_X0_holders_25, k_X0_holders_26, k_X0_holders_29, k_X0_holders_30, k_X0_holders_31, k_X0_holders_33, k_X0_holders_34, k_X0_holders_35, k_X0_holders_36, k_X0_holders_39, k_X0_holders_42, k_X0_holders_43]
    exact ⟨m.toNat, rfl, rfl, rfl, 0, rfl, by omega⟩
