/-! Stage: PLAYS, EVENINGS -/
theorem bt_add0 : ∀ n : Nat, n < 6 → ∀ b : Nat, b < 2 ^ n → ∀ i : Nat, i < 6 → bt ((b : Int) + 2 ^ n) (i : Int) = if i = n then 1 else bt (b : Int) (i : Int) := by decide +kernel
theorem bt_ge0 : ∀ n : Nat, n ≤ 6 → ∀ b : Nat, b < 2 ^ n → ∀ i : Nat, i < 6 → n ≤ i → bt (b : Int) (i : Int) = 0 := by decide +kernel
def gb (P : Int → Bool) : Nat → Int
  | 0 => 0
  | n + 1 => gb P n + if P n = true then 2 ^ n else 0
theorem gb_b (P : Int → Bool) : ∀ n : Nat, 0 ≤ gb P n ∧ gb P n < 2 ^ n := by
  intro n
  induction n with
  | zero => unfold gb; omega
  | succ n ih =>
    unfold gb
    have : (2 : Int) ^ (n + 1) = 2 ^ n * 2 := by rw [Int.pow_succ]
    split <;> omega
theorem gb_64 (P : Int → Bool) {n : Nat} (h : n ≤ 6) : 0 ≤ gb P n ∧ gb P n < 64 := by
  have h1 := gb_b P n
  have h2 : (2 : Int) ^ n ≤ 2 ^ 6 := by
    have := Nat.pow_le_pow_right (n := 2) (by decide) h
    exact_mod_cast this
  omega
theorem gb_bit (P : Int → Bool) {i : Int} (i0 : 0 ≤ i) (i1 : i < 6) : ∀ n : Nat, n ≤ 6 → bt (gb P n) i = if i < n ∧ P i = true then 1 else 0 := by
  intro n
  induction n with
  | zero => intro _; unfold gb; rw [bt_0, if_neg (by omega)]
  | succ n ih =>
    intro hn
    have hb := gb_b P n
    have hb9 : (gb P n).toNat < 2 ^ n := by
      have : ((gb P n).toNat : Int) < ((2 ^ n : Nat) : Int) := by rw [Int.natCast_pow, Int.toNat_of_nonneg hb.1]; exact hb.2
      omega
    unfold gb
    by_cases c : P n = true
    · rw [if_pos c]
      have := bt_add0 n (by omega) (gb P n).toNat hb9 i.toNat (by omega)
      rw [show (((gb P n).toNat : Nat) : Int) = gb P n by omega, show ((i.toNat : Nat) : Int) = i by omega] at this
      rw [this]
      by_cases e : i = n
      · rw [if_pos (by omega), if_pos ⟨by omega, by rw [e]; exact c⟩]
      · rw [if_neg (by omega), ih (by omega)]
        simp only [show (i < ((n + 1 : Nat) : Int)) = (i < (n : Int)) from propext (by omega)]
    · rw [if_neg c, Int.add_zero, ih (by omega)]
      by_cases e : i = n
      · rw [if_neg (by omega), if_neg (by rw [e]; exact fun q => c q.2)]
      · simp only [show (i < ((n + 1 : Nat) : Int)) = (i < (n : Int)) from propext (by omega)]
theorem hbits_gb (s : Int → Int) (x : Int) : ∀ n : Nat, hbits s x n = gb (fun i => decide (s i = x)) n := by
  intro n
  induction n with
  | zero => rfl
  | succ n ih =>
    unfold hbits gb
    rw [ih]
    by_cases c : s n = x
    · rw [if_pos c, if_pos (by simpa using c)]
    · rw [if_neg c, if_neg (by simpa using c)]
theorem hbits_64 (s : Int → Int) (x : Int) {n : Nat} (h : n ≤ 6) : 0 ≤ hbits s x n ∧ hbits s x n < 64 := by rw [hbits_gb]; exact gb_64 _ h
theorem hbits_bit (s : Int → Int) (x : Int) {i : Int} (i0 : 0 ≤ i) (i1 : i < 6) {n : Nat} (hn : n ≤ 6) : bt (hbits s x n) i = if i < n ∧ s i = x then 1 else 0 := by
  rw [hbits_gb, gb_bit _ i0 i1 n hn]
  by_cases c : i < n ∧ s i = x
  · rw [if_pos c, if_pos ⟨c.1, by simpa using c.2⟩]
  · rw [if_neg c, if_neg (fun q => c ⟨q.1, by simpa using q.2⟩)]
def sOv (f : Int → Int) (S : Int) : Nat → Int
  | 0 => 0
  | i + 1 => sOv f S i + if bt S i = 1 then f i else 0
def sumC (f : Int → Int) : Nat → Int
  | 0 => 0
  | i + 1 => sumC f i + f i
theorem bt_full0 : ∀ n : Nat, n ≤ 6 → ∀ i : Nat, i < 6 → bt ((2 : Int) ^ n - 1) (i : Int) = if i < n then 1 else 0 := by decide +kernel
theorem full_64 {n : Nat} (h : n ≤ 6) : 0 ≤ (2 : Int) ^ n - 1 ∧ (2 : Int) ^ n - 1 < 64 := by
  have h2 : (2 : Int) ^ n ≤ 2 ^ 6 := by
    have := Nat.pow_le_pow_right (n := 2) (by decide) h
    exact_mod_cast this
  have h3 : (0 : Int) < 2 ^ n := Int.pow_pos (by decide)
  omega
theorem sOv_full (f : Int → Int) {n : Nat} (hn : n ≤ 6) : ∀ k : Nat, k ≤ 6 → sOv f ((2 : Int) ^ n - 1) k = sumC f (min k n) := by
  intro k
  induction k with
  | zero => intro _; rw [Nat.zero_min]; rfl
  | succ k ih =>
    intro hk
    unfold sOv
    rw [ih (by omega), bt_full0 n hn k (by omega)]
    by_cases c : k < n
    · rw [if_pos c, if_pos rfl, show min (k + 1) n = k + 1 by omega, show min k n = k by omega]; rfl
    · rw [if_neg c, if_neg (by decide), show min (k + 1) n = n by omega, show min k n = n by omega]; omega
theorem sumC_cong {f g : Int → Int} : ∀ {n : Nat}, (∀ i : Int, 0 ≤ i → i < n → f i = g i) → sumC f n = sumC g n := by
  intro n
  induction n with
  | zero => intro _; rfl
  | succ n ih =>
    intro h
    unfold sumC
    rw [ih (fun i a b => h i a (by omega)), h n (by omega) (by omega)]

def a_X11_sumOver : AC := [(0, vI 0 1), (1, vIstore 2 2), (2, vI 0 3), (3, vIstore 3 4), (4, vIload 3 5), (5, vAload 0 6), (6, vAlen TT 7), (7, vIcGe 30 10), (10, vIload 1 11), (11, vIload 3 12), (12, vIshr 13), (13, vI 1 14), (14, vIand 15), (15, vIfEq 24 18), (18, vIload 2 19), (19, vAload 0 20), (20, vIload 3 21), (21, vIald TT 22), (22, vIadd 23), (23, vIstore 2 24), (24, vIinc 3 1 27), (27, vGoto 4), (30, vIload 2 31), (31, vIret)]
theorem k_X11_sumOver_0 : look a_X11_sumOver 0 = vI 0 1 := rfl
theorem k_X11_sumOver_1 : look a_X11_sumOver 1 = vIstore 2 2 := rfl
theorem k_X11_sumOver_2 : look a_X11_sumOver 2 = vI 0 3 := rfl
theorem k_X11_sumOver_3 : look a_X11_sumOver 3 = vIstore 3 4 := rfl
theorem k_X11_sumOver_4 : look a_X11_sumOver 4 = vIload 3 5 := rfl
theorem k_X11_sumOver_5 : look a_X11_sumOver 5 = vAload 0 6 := rfl
theorem k_X11_sumOver_6 : look a_X11_sumOver 6 = vAlen TT 7 := rfl
theorem k_X11_sumOver_7 : look a_X11_sumOver 7 = vIcGe 30 10 := rfl
theorem k_X11_sumOver_10 : look a_X11_sumOver 10 = vIload 1 11 := rfl
theorem k_X11_sumOver_11 : look a_X11_sumOver 11 = vIload 3 12 := rfl
theorem k_X11_sumOver_12 : look a_X11_sumOver 12 = vIshr 13 := rfl
theorem k_X11_sumOver_13 : look a_X11_sumOver 13 = vI 1 14 := rfl
theorem k_X11_sumOver_14 : look a_X11_sumOver 14 = vIand 15 := rfl
theorem k_X11_sumOver_15 : look a_X11_sumOver 15 = vIfEq 24 18 := rfl
theorem k_X11_sumOver_18 : look a_X11_sumOver 18 = vIload 2 19 := rfl
theorem k_X11_sumOver_19 : look a_X11_sumOver 19 = vAload 0 20 := rfl
theorem k_X11_sumOver_20 : look a_X11_sumOver 20 = vIload 3 21 := rfl
theorem k_X11_sumOver_21 : look a_X11_sumOver 21 = vIald TT 22 := rfl
theorem k_X11_sumOver_22 : look a_X11_sumOver 22 = vIadd 23 := rfl
theorem k_X11_sumOver_23 : look a_X11_sumOver 23 = vIstore 2 24 := rfl
theorem k_X11_sumOver_24 : look a_X11_sumOver 24 = vIinc 3 1 27 := rfl
theorem k_X11_sumOver_27 : look a_X11_sumOver 27 = vGoto 4 := rfl
theorem k_X11_sumOver_30 : look a_X11_sumOver 30 = vIload 2 31 := rfl
theorem k_X11_sumOver_31 : look a_X11_sumOver 31 = vIret := rfl
theorem o_X11_sumOver {X : amX} (e1 : XT X = TT) (e2 : XD X = 0) (hB : amB X RX11 cX11_sumOver (some .int) 4) : ∀ pc, amOK X pc (look a_X11_sumOver pc) := by
  have hT : amTok (XT X) := e1 ▸ TT_ok
  refine look_ok ?_
  unfold a_X11_sumOver
  refine fc (ok_iconst hB dX11_sumOver_0) ?_
  refine fc (ok_istore_n hB (by decide) dX11_sumOver_1) ?_
  refine fc (ok_iconst hB dX11_sumOver_2) ?_
  refine fc (ok_istore_n hB (by decide) dX11_sumOver_3) ?_
  refine fc (ok_iload_n hB dX11_sumOver_4) ?_
  refine fc (ok_aload_n hB dX11_sumOver_5) ?_
  refine fc (okt_arraylength e1 hB dX11_sumOver_6) ?_
  refine fc (ok_icmp_ge hB (t := 30) (by decide) dX11_sumOver_7) ?_
  refine fc (ok_iload_n hB dX11_sumOver_10) ?_
  refine fc (ok_iload_n hB dX11_sumOver_11) ?_
  refine fc (ok_ishr hB dX11_sumOver_12) ?_
  refine fc (ok_iconst hB dX11_sumOver_13) ?_
  refine fc (ok_iand hB dX11_sumOver_14) ?_
  refine fc (ok_if_eq hB (t := 24) (by decide) dX11_sumOver_15) ?_
  refine fc (ok_iload_n hB dX11_sumOver_18) ?_
  refine fc (ok_aload_n hB dX11_sumOver_19) ?_
  refine fc (ok_iload_n hB dX11_sumOver_20) ?_
  refine fc (okt_iaload e1 hB dX11_sumOver_21) ?_
  refine fc (ok_iadd hB dX11_sumOver_22) ?_
  refine fc (ok_istore_n hB (by decide) dX11_sumOver_23) ?_
  refine fc (ok_iinc hB (by decide) dX11_sumOver_24) ?_
  refine fc (ok_goto hB (t := 4) (by decide) dX11_sumOver_27) ?_
  refine fc (ok_iload_n hB dX11_sumOver_30) ?_
  refine fc (ok_iret hB dX11_sumOver_31) ?_
  exact fn
def inv_sov (a S : Int) (σ : Mem) (n pc : Nat) (ls st : List AV) (σ' : Mem) : Prop := pc = 4 ∧ st = [] ∧ σ' = σ ∧ ∃ k : Nat, ls = [(8, a), (0, S), (0, sOv (σ a) S k), (0, k)] ∧ k + n = 6
def w_X11_sumOver : WP := fun av σ Q => ∃ (a : Int) (S : Int), av = [(8, a), (0, S)] ∧ (0 ≤ a ∧ alen TT σ a = 6 ∧ 0 ≤ S ∧ S < 64 ∧ Q (0, sOv (σ a) S 6) σ)
theorem w_X11_sumOver_e (a : Int) (S : Int) (σ : Mem) (Q : AV → Mem → Prop) : w_X11_sumOver [(8, a), (0, S)] σ Q = (0 ≤ a ∧ alen TT σ a = 6 ∧ 0 ≤ S ∧ S < 64 ∧ Q (0, sOv (σ a) S 6) σ) := by
  apply propext; constructor
  · rintro ⟨a', S', h9, hb9⟩; cases h9; exact hb9
  · intro hb9; exact ⟨a, S, rfl, hb9⟩

set_option maxRecDepth 100000 in
set_option maxHeartbeats 4000000 in
theorem s_X11_sumOver : ∀ av σ Q, w_X11_sumOver av σ Q → amCall 0 0 0 TT yX11_sumOver cX11_sumOver 4 (some .int) av σ Q := by
  rintro av σ Q ⟨a, S, rfl, ha, hal, h0, h1, h⟩
  refine am_m [4] (inv_sov a S σ) (own := RX11) (A := look a_X11_sumOver) (fun X e1 e2 hB => o_X11_sumOver e1 e2 hB) rfl (by decide +kernel) rfl rfl ?_ ⟨60, ?_⟩ (w := 4)
  · rintro n pc ls st σ' ⟨rfl, rfl, rfl, k, rfl, hk⟩
    refine ⟨60, ?_⟩
    have b01 := bt_b S k
    by_cases ck : k < 6
    · have hbk := bt_e (x := S) (i := k) ⟨by omega, by omega⟩ (by omega) (by omega)
      simp only [↓reduceIte, inR_0, inR_1, inR_m, vI_e, vL_e, vNull_e, vIload_e, vLload_e, vAload_e, vIstore_e, vLstore_e, vAstore_e, vIinc_e, vIadd_e, vIsub_e, vImul_e, vIand_e, vIor_e, vIxor_e, vIshl_e, vIshr_e, vIushr_e, vIdiv_e, vIrem_e, vLadd_e, vLsub_e, vLmul_e, vLand_e, vLor_e, vLxor_e, vLdiv_e, vLrem_e, vLushr_e, vLshl_e, vLcmp_e, vIneg_e, vI2l_e, vL2i_e, vI2b_e, vI2c_e, vDup_e, vPop_e, vDup2_e, vGoto_e, vIcEq_e, vIfEq_e, vIcNe_e, vIfNe_e, vIcLt_e, vIfLt_e, vIcGe_e, vIfGe_e, vIcGt_e, vIfGt_e, vIcLe_e, vIfLe_e, vNonnull_e, vSw_e, vGetI_e, vGetL_e, vGetR_e, vPutI_e, vPutZ_e, vPutL_e, vPutR_e, vIald_e, vIald_s, vLald_e, vBald_e, vBald_s, vAald_e, vIast_e, vLast_e, vBast_e, vAast_e, vAlen_e8, vAlen_e9, vAlen_e10, vAlen_e11, vAlen_e5, vAlen_e3, vGets_e, vCompact_e, vLdcS_e, vIret_e, vZret_e, vCret_e, vBret_e, vLret_e, vVret_e, vAret_e, vCallM_e0, vCallMV_e0, vCallS_e0, vCallSV_e0, vCallM_e1, vCallMV_e1, vCallS_e1, vCallSV_e1, vCallM_e2, vCallMV_e2, vCallS_e2, vCallSV_e2, vCallM_e3, vCallMV_e3, vCallS_e3, vCallSV_e3, vCallM_e4, vCallMV_e4, vCallS_e4, vCallSV_e4, vCallM_e5, vCallMV_e5, vCallS_e5, vCallSV_e5, vCallM_e6, vCallMV_e6, vCallS_e6, vCallSV_e6, vCallM_e7, vCallMV_e7, vCallS_e7, vCallSV_e7, vBad_e, vStrVal_e, vStrCod_e, vForm_e, vCallT_e0, vCallT_e1, vCallT_e2, vCopy_e, rf_0_0, rf_0_1, rf_0_2, rf_0_3, rf_0_4, rf_0_7, rf_0_10, rf_0_11, rf_0_12, rf_0_13, rf_0_14, rf_0_15, rf_0_16, rf_1_0, rf_3_0, rf_3_1, rf_6_0, rf_6_1, rf_9_0, rf_9_1, rf_9_3, rf_13_0, rf_13_1, rf_13_2, rf_16_0, rf_16_1, rf_16_2, rf_16_3, rf_21_0, rf_21_1, rf_21_2, rf_21_3, rf_26_0, rf_26_1, rf_26_2, rf_26_3, rf_26_4, rf_26_5, rf_26_6, rf_31_0, rf_31_2, rf_31_5, rf_31_6, rf_36_0, rf_36_1, rf_36_2, rf_36_3, rf_39_0, rf_39_1, rf_39_2, rf_41_0, rf_41_1, rf_41_2, rf_41_3, rf_5000_1, rf_5000_2, rf_5000_3, rf_5000_4, rf_5000_5, rf_5000_15, rf_5000_16, rf_5000_18, rf_5000_19, rf_5000_20, rf_5000_21, rf_5000_22, rf_5000_23, rf_5000_24, rf_5000_25, rf_5000_26, rf_5000_27, rf_5000_36, rf_5000_37, rf_5000_40, rf_5000_41, rf_5000_42, rf_5000_43, rf_5000_44, rf_5000_45, rf_5000_47, rf_5000_52, rf_5000_54, rf_5000_55, rf_100_0, rf_100_1, rf_103_0, rf_103_1, rf_106_0, rf_106_1, rf_109_0, rf_109_1, al_2, al_4, al_5, al_7, al_8, al_10, al_11, al_12, al_14, al_15, al_17, al_18, al_19, al_20, al_22, al_23, al_24, al_25, al_27, al_28, al_29, al_30, al_32, al_33, al_34, al_35, al_37, al_38, al_40, al_42, al_5001, al_5002, al_5003, al_5004, al_5005, al_5006, al_5007, al_5008, al_5009, al_5010, al_5011, al_5012, al_5013, al_5014, al_5015, al_5016, al_5017, al_5018, al_5019, al_5020, al_5021, al_5022, al_5023, al_5024, al_5025, al_5026, al_9000, al_101, al_102, al_104, al_105, al_107, al_108, al_110, al_111, vcs_e, lg_c0, lg_cs, lg_nil, set_c0, set_cs, okst_0, okst_s, acok_n, acok_c, List.contains_nil, List.contains_cons, Bool.or_false, Bool.false_or, Bool.false_eq_true, if_false, if_true, ite_self, ne_eq, true_and, and_true, not_false_eq_true, not_true_eq_false, false_imp_iff, true_imp_iff, Nat.ble_eq, Bool.and_eq_true, reduceCtorEq, or_false, false_or, or_true, true_or, false_and, and_false, and_self, Int.reduceLE, Int.reduceAdd, Int.reduceSub, Int.reduceMul, Int.reduceNeg, Int.reduceLT, Int.reduceEq, Int.reduceNe, Nat.reduceBEq, Nat.reduceBNe, Nat.reduceEqDiff, amCmp_in, amCmp_lt, amCmp_le, amCmp_gt, amCmp_ge, amCmp_eq, amCmp_ne, Nat.reduceLeDiff, Nat.reduceSub, Bool.and_true, Bool.true_and, Bool.and_self, Bool.or_true, Bool.true_or, isRf_3, isRf_4, isRf_5, isRf_8, isRf_9, isRf_10, isRf_11, isRf_15, isRf_16, isRf_17, isRf_18, isRf_19, isRf_20, isRf_21, isRf_22, isRf_23, isRf_24, isRf_25, isRf_26, isRf_27, isRf_28, k_X11_sumOver_0, k_X11_sumOver_1, k_X11_sumOver_2, k_X11_sumOver_3, k_X11_sumOver_4, k_X11_sumOver_5, k_X11_sumOver_6, k_X11_sumOver_7, k_X11_sumOver_10, k_X11_sumOver_11, k_X11_sumOver_12, k_X11_sumOver_13, k_X11_sumOver_14, k_X11_sumOver_15, k_X11_sumOver_18, k_X11_sumOver_19, k_X11_sumOver_20, k_X11_sumOver_21, k_X11_sumOver_22, k_X11_sumOver_23, k_X11_sumOver_24, k_X11_sumOver_27, k_X11_sumOver_30, k_X11_sumOver_31, hbk, hal]
      have nx : ∀ v, v = sOv (σ' a) S (k + 1) → ∃ k', k' < n ∧ inv_sov a S σ' k' 4 [(8, a), (0, S), (0, v), (0, (k : Int) + 1)] [] σ' := fun v hv => ⟨n - 1, by omega, rfl, rfl, rfl, k + 1, by rw [hv]; rfl, by omega⟩
      have e : sOv (σ' a) S (k + 1) = sOv (σ' a) S k + if bt S k = 1 then σ' a k else 0 := rfl
      by_cases c : bt S k = 1
      · have i9 := nx (sOv (σ' a) S k + σ' a k) (by rw [e, if_pos c])
        repeat' (first | assumption | apply And.intro | intro _)
        all_goals first | omega | exact absurd trivial (by assumption) | exact i9
      · have i9 := nx (sOv (σ' a) S k) (by rw [e, if_neg c, Int.add_zero])
        repeat' (first | assumption | apply And.intro | intro _)
        all_goals first | omega | exact absurd trivial (by assumption) | exact i9
    · have e6 : k = 6 := by omega
      subst e6
      simp only [↓reduceIte, inR_0, inR_1, inR_m, vI_e, vL_e, vNull_e, vIload_e, vLload_e, vAload_e, vIstore_e, vLstore_e, vAstore_e, vIinc_e, vIadd_e, vIsub_e, vImul_e, vIand_e, vIor_e, vIxor_e, vIshl_e, vIshr_e, vIushr_e, vIdiv_e, vIrem_e, vLadd_e, vLsub_e, vLmul_e, vLand_e, vLor_e, vLxor_e, vLdiv_e, vLrem_e, vLushr_e, vLshl_e, vLcmp_e, vIneg_e, vI2l_e, vL2i_e, vI2b_e, vI2c_e, vDup_e, vPop_e, vDup2_e, vGoto_e, vIcEq_e, vIfEq_e, vIcNe_e, vIfNe_e, vIcLt_e, vIfLt_e, vIcGe_e, vIfGe_e, vIcGt_e, vIfGt_e, vIcLe_e, vIfLe_e, vNonnull_e, vSw_e, vGetI_e, vGetL_e, vGetR_e, vPutI_e, vPutZ_e, vPutL_e, vPutR_e, vIald_e, vIald_s, vLald_e, vBald_e, vBald_s, vAald_e, vIast_e, vLast_e, vBast_e, vAast_e, vAlen_e8, vAlen_e9, vAlen_e10, vAlen_e11, vAlen_e5, vAlen_e3, vGets_e, vCompact_e, vLdcS_e, vIret_e, vZret_e, vCret_e, vBret_e, vLret_e, vVret_e, vAret_e, vCallM_e0, vCallMV_e0, vCallS_e0, vCallSV_e0, vCallM_e1, vCallMV_e1, vCallS_e1, vCallSV_e1, vCallM_e2, vCallMV_e2, vCallS_e2, vCallSV_e2, vCallM_e3, vCallMV_e3, vCallS_e3, vCallSV_e3, vCallM_e4, vCallMV_e4, vCallS_e4, vCallSV_e4, vCallM_e5, vCallMV_e5, vCallS_e5, vCallSV_e5, vCallM_e6, vCallMV_e6, vCallS_e6, vCallSV_e6, vCallM_e7, vCallMV_e7, vCallS_e7, vCallSV_e7, vBad_e, vStrVal_e, vStrCod_e, vForm_e, vCallT_e0, vCallT_e1, vCallT_e2, vCopy_e, rf_0_0, rf_0_1, rf_0_2, rf_0_3, rf_0_4, rf_0_7, rf_0_10, rf_0_11, rf_0_12, rf_0_13, rf_0_14, rf_0_15, rf_0_16, rf_1_0, rf_3_0, rf_3_1, rf_6_0, rf_6_1, rf_9_0, rf_9_1, rf_9_3, rf_13_0, rf_13_1, rf_13_2, rf_16_0, rf_16_1, rf_16_2, rf_16_3, rf_21_0, rf_21_1, rf_21_2, rf_21_3, rf_26_0, rf_26_1, rf_26_2, rf_26_3, rf_26_4, rf_26_5, rf_26_6, rf_31_0, rf_31_2, rf_31_5, rf_31_6, rf_36_0, rf_36_1, rf_36_2, rf_36_3, rf_39_0, rf_39_1, rf_39_2, rf_41_0, rf_41_1, rf_41_2, rf_41_3, rf_5000_1, rf_5000_2, rf_5000_3, rf_5000_4, rf_5000_5, rf_5000_15, rf_5000_16, rf_5000_18, rf_5000_19, rf_5000_20, rf_5000_21, rf_5000_22, rf_5000_23, rf_5000_24, rf_5000_25, rf_5000_26, rf_5000_27, rf_5000_36, rf_5000_37, rf_5000_40, rf_5000_41, rf_5000_42, rf_5000_43, rf_5000_44, rf_5000_45, rf_5000_47, rf_5000_52, rf_5000_54, rf_5000_55, rf_100_0, rf_100_1, rf_103_0, rf_103_1, rf_106_0, rf_106_1, rf_109_0, rf_109_1, al_2, al_4, al_5, al_7, al_8, al_10, al_11, al_12, al_14, al_15, al_17, al_18, al_19, al_20, al_22, al_23, al_24, al_25, al_27, al_28, al_29, al_30, al_32, al_33, al_34, al_35, al_37, al_38, al_40, al_42, al_5001, al_5002, al_5003, al_5004, al_5005, al_5006, al_5007, al_5008, al_5009, al_5010, al_5011, al_5012, al_5013, al_5014, al_5015, al_5016, al_5017, al_5018, al_5019, al_5020, al_5021, al_5022, al_5023, al_5024, al_5025, al_5026, al_9000, al_101, al_102, al_104, al_105, al_107, al_108, al_110, al_111, vcs_e, lg_c0, lg_cs, lg_nil, set_c0, set_cs, okst_0, okst_s, acok_n, acok_c, List.contains_nil, List.contains_cons, Bool.or_false, Bool.false_or, Bool.false_eq_true, if_false, if_true, ite_self, ne_eq, true_and, and_true, not_false_eq_true, not_true_eq_false, false_imp_iff, true_imp_iff, Nat.ble_eq, Bool.and_eq_true, reduceCtorEq, or_false, false_or, or_true, true_or, false_and, and_false, and_self, Int.reduceLE, Int.reduceAdd, Int.reduceSub, Int.reduceMul, Int.reduceNeg, Int.reduceLT, Int.reduceEq, Int.reduceNe, Nat.reduceBEq, Nat.reduceBNe, Nat.reduceEqDiff, amCmp_in, amCmp_lt, amCmp_le, amCmp_gt, amCmp_ge, amCmp_eq, amCmp_ne, Nat.reduceLeDiff, Nat.reduceSub, Bool.and_true, Bool.true_and, Bool.and_self, Bool.or_true, Bool.true_or, isRf_3, isRf_4, isRf_5, isRf_8, isRf_9, isRf_10, isRf_11, isRf_15, isRf_16, isRf_17, isRf_18, isRf_19, isRf_20, isRf_21, isRf_22, isRf_23, isRf_24, isRf_25, isRf_26, isRf_27, isRf_28, k_X11_sumOver_0, k_X11_sumOver_1, k_X11_sumOver_2, k_X11_sumOver_3, k_X11_sumOver_4, k_X11_sumOver_5, k_X11_sumOver_6, k_X11_sumOver_7, k_X11_sumOver_10, k_X11_sumOver_11, k_X11_sumOver_12, k_X11_sumOver_13, k_X11_sumOver_14, k_X11_sumOver_15, k_X11_sumOver_18, k_X11_sumOver_19, k_X11_sumOver_20, k_X11_sumOver_21, k_X11_sumOver_22, k_X11_sumOver_23, k_X11_sumOver_24, k_X11_sumOver_27, k_X11_sumOver_30, k_X11_sumOver_31, hal]
      repeat' (first | assumption | apply And.intro | intro _)
      all_goals first | omega | exact absurd trivial (by assumption) | exact h
  · change vcs _ _ _ _ 60 0 [(8, a), (0, S), (6, 0), (6, 0)] [] σ
    simp only [↓reduceIte, inR_0, inR_1, inR_m, vI_e, vL_e, vNull_e, vIload_e, vLload_e, vAload_e, vIstore_e, vLstore_e, vAstore_e, vIinc_e, vIadd_e, vIsub_e, vImul_e, vIand_e, vIor_e, vIxor_e, vIshl_e, vIshr_e, vIushr_e, vIdiv_e, vIrem_e, vLadd_e, vLsub_e, vLmul_e, vLand_e, vLor_e, vLxor_e, vLdiv_e, vLrem_e, vLushr_e, vLshl_e, vLcmp_e, vIneg_e, vI2l_e, vL2i_e, vI2b_e, vI2c_e, vDup_e, vPop_e, vDup2_e, vGoto_e, vIcEq_e, vIfEq_e, vIcNe_e, vIfNe_e, vIcLt_e, vIfLt_e, vIcGe_e, vIfGe_e, vIcGt_e, vIfGt_e, vIcLe_e, vIfLe_e, vNonnull_e, vSw_e, vGetI_e, vGetL_e, vGetR_e, vPutI_e, vPutZ_e, vPutL_e, vPutR_e, vIald_e, vIald_s, vLald_e, vBald_e, vBald_s, vAald_e, vIast_e, vLast_e, vBast_e, vAast_e, vAlen_e8, vAlen_e9, vAlen_e10, vAlen_e11, vAlen_e5, vAlen_e3, vGets_e, vCompact_e, vLdcS_e, vIret_e, vZret_e, vCret_e, vBret_e, vLret_e, vVret_e, vAret_e, vCallM_e0, vCallMV_e0, vCallS_e0, vCallSV_e0, vCallM_e1, vCallMV_e1, vCallS_e1, vCallSV_e1, vCallM_e2, vCallMV_e2, vCallS_e2, vCallSV_e2, vCallM_e3, vCallMV_e3, vCallS_e3, vCallSV_e3, vCallM_e4, vCallMV_e4, vCallS_e4, vCallSV_e4, vCallM_e5, vCallMV_e5, vCallS_e5, vCallSV_e5, vCallM_e6, vCallMV_e6, vCallS_e6, vCallSV_e6, vCallM_e7, vCallMV_e7, vCallS_e7, vCallSV_e7, vBad_e, vStrVal_e, vStrCod_e, vForm_e, vCallT_e0, vCallT_e1, vCallT_e2, vCopy_e, rf_0_0, rf_0_1, rf_0_2, rf_0_3, rf_0_4, rf_0_7, rf_0_10, rf_0_11, rf_0_12, rf_0_13, rf_0_14, rf_0_15, rf_0_16, rf_1_0, rf_3_0, rf_3_1, rf_6_0, rf_6_1, rf_9_0, rf_9_1, rf_9_3, rf_13_0, rf_13_1, rf_13_2, rf_16_0, rf_16_1, rf_16_2, rf_16_3, rf_21_0, rf_21_1, rf_21_2, rf_21_3, rf_26_0, rf_26_1, rf_26_2, rf_26_3, rf_26_4, rf_26_5, rf_26_6, rf_31_0, rf_31_2, rf_31_5, rf_31_6, rf_36_0, rf_36_1, rf_36_2, rf_36_3, rf_39_0, rf_39_1, rf_39_2, rf_41_0, rf_41_1, rf_41_2, rf_41_3, rf_5000_1, rf_5000_2, rf_5000_3, rf_5000_4, rf_5000_5, rf_5000_15, rf_5000_16, rf_5000_18, rf_5000_19, rf_5000_20, rf_5000_21, rf_5000_22, rf_5000_23, rf_5000_24, rf_5000_25, rf_5000_26, rf_5000_27, rf_5000_36, rf_5000_37, rf_5000_40, rf_5000_41, rf_5000_42, rf_5000_43, rf_5000_44, rf_5000_45, rf_5000_47, rf_5000_52, rf_5000_54, rf_5000_55, rf_100_0, rf_100_1, rf_103_0, rf_103_1, rf_106_0, rf_106_1, rf_109_0, rf_109_1, al_2, al_4, al_5, al_7, al_8, al_10, al_11, al_12, al_14, al_15, al_17, al_18, al_19, al_20, al_22, al_23, al_24, al_25, al_27, al_28, al_29, al_30, al_32, al_33, al_34, al_35, al_37, al_38, al_40, al_42, al_5001, al_5002, al_5003, al_5004, al_5005, al_5006, al_5007, al_5008, al_5009, al_5010, al_5011, al_5012, al_5013, al_5014, al_5015, al_5016, al_5017, al_5018, al_5019, al_5020, al_5021, al_5022, al_5023, al_5024, al_5025, al_5026, al_9000, al_101, al_102, al_104, al_105, al_107, al_108, al_110, al_111, vcs_e, lg_c0, lg_cs, lg_nil, set_c0, set_cs, okst_0, okst_s, acok_n, acok_c, List.contains_nil, List.contains_cons, Bool.or_false, Bool.false_or, Bool.false_eq_true, if_false, if_true, ite_self, ne_eq, true_and, and_true, not_false_eq_true, not_true_eq_false, false_imp_iff, true_imp_iff, Nat.ble_eq, Bool.and_eq_true, reduceCtorEq, or_false, false_or, or_true, true_or, false_and, and_false, and_self, Int.reduceLE, Int.reduceAdd, Int.reduceSub, Int.reduceMul, Int.reduceNeg, Int.reduceLT, Int.reduceEq, Int.reduceNe, Nat.reduceBEq, Nat.reduceBNe, Nat.reduceEqDiff, amCmp_in, amCmp_lt, amCmp_le, amCmp_gt, amCmp_ge, amCmp_eq, amCmp_ne, Nat.reduceLeDiff, Nat.reduceSub, Bool.and_true, Bool.true_and, Bool.and_self, Bool.or_true, Bool.true_or, isRf_3, isRf_4, isRf_5, isRf_8, isRf_9, isRf_10, isRf_11, isRf_15, isRf_16, isRf_17, isRf_18, isRf_19, isRf_20, isRf_21, isRf_22, isRf_23, isRf_24, isRf_25, isRf_26, isRf_27, isRf_28, k_X11_sumOver_0, k_X11_sumOver_1, k_X11_sumOver_2, k_X11_sumOver_3, k_X11_sumOver_4, k_X11_sumOver_5, k_X11_sumOver_6, k_X11_sumOver_7, k_X11_sumOver_10, k_X11_sumOver_11, k_X11_sumOver_12, k_X11_sumOver_13, k_X11_sumOver_14, k_X11_sumOver_15, k_X11_sumOver_18, k_X11_sumOver_19, k_X11_sumOver_20, k_X11_sumOver_21, k_X11_sumOver_22, k_X11_sumOver_23, k_X11_sumOver_24, k_X11_sumOver_27, k_X11_sumOver_30, k_X11_sumOver_31]
    exact ⟨6, rfl, rfl, rfl, 0, rfl, rfl⟩
theorem wd_849 : Cond.methodLink RX9 142 yX6_everyChair ∈ TBL := tb_tab (List.mem_of_getElem? (i := 849) (by decide +kernel)) rfl
theorem wd_852 : Cond.code yX6_everyChair cX6_everyChair 1 (some .int) ∈ TBL := tb_tab (List.mem_of_getElem? (i := 852) (by decide +kernel)) rfl
theorem lk_X9_142 : amLk RX9 142 yX6_everyChair cX6_everyChair 1 (some .int) 0 := ⟨wd_849, wd_3, wd_852, by decide +kernel, by decide +kernel, by decide⟩
theorem wd_850 : Cond.instanceMethod yX6_everyChair ∈ TBL := tb_tab (List.mem_of_getElem? (i := 850) (by decide +kernel)) rfl
theorem wd_851 : Cond.selects RX6 yX6_everyChair yX6_everyChair ∈ TBL := tb_tab (List.mem_of_getElem? (i := 851) (by decide +kernel)) rfl
theorem wd_1 : Cond.initialized RX11 ∈ TBL := tb_tab (List.mem_of_getElem? (i := 1) (by decide +kernel)) rfl
theorem wd_855 : Cond.code yX11_sumOver cX11_sumOver 4 (some .int) ∈ TBL := tb_tab (List.mem_of_getElem? (i := 855) (by decide +kernel)) rfl
theorem wd_854 : Cond.static yX11_sumOver ∈ TBL := tb_tab (List.mem_of_getElem? (i := 854) (by decide +kernel)) rfl
def a_X9_allFelt : AC := [(0, vAload 0 1), (1, vGetR TT 25 4 8 4), (4, vAload 0 5), (5, vGetR TT 25 0 22 8), (8, vCallM w_X6_everyChair 22 0 11), (11, vCallS w_X11_sumOver 2 14), (14, vIret)]
theorem k_X9_allFelt_0 : look a_X9_allFelt 0 = vAload 0 1 := rfl
theorem k_X9_allFelt_1 : look a_X9_allFelt 1 = vGetR TT 25 4 8 4 := rfl
theorem k_X9_allFelt_4 : look a_X9_allFelt 4 = vAload 0 5 := rfl
theorem k_X9_allFelt_5 : look a_X9_allFelt 5 = vGetR TT 25 0 22 8 := rfl
theorem k_X9_allFelt_8 : look a_X9_allFelt 8 = vCallM w_X6_everyChair 22 0 11 := rfl
theorem k_X9_allFelt_11 : look a_X9_allFelt 11 = vCallS w_X11_sumOver 2 14 := rfl
theorem k_X9_allFelt_14 : look a_X9_allFelt 14 = vIret := rfl
theorem o_X9_allFelt {X : amX} (e1 : XT X = TT) (e2 : XD X = 3) (hB : amB X RX9 cX9_allFelt (some .int) 1) : ∀ pc, amOK X pc (look a_X9_allFelt pc) := by
  have hT : amTok (XT X) := e1 ▸ TT_ok
  refine look_ok ?_
  unfold a_X9_allFelt
  refine fc (ok_aload_n hB dX9_allFelt_0) ?_
  refine fc (okt_getR e1 hB hT fl_X9_22 rfl af_9_4 at_9_4 (by decide) dX9_allFelt_1) ?_
  refine fc (ok_aload_n hB dX9_allFelt_4) ?_
  refine fc (okt_getR e1 hB hT fl_X9_35 rfl af_9_0 at_9_0 (by decide) dX9_allFelt_5) ?_
  refine fc (ok_callM hB hT (e1 ▸ s_X6_everyChair) lk_X9_142 (by rw [e2]; decide) (c := 6) rfl rfl rfl wd_850 wd_851 dX9_allFelt_8) ?_
  refine fc (ok_callSN hB (host := "ArmchairHouse") (e1 ▸ s_X11_sumOver) (by decide +kernel) wd_1 wd_855 (by decide +kernel) (by decide +kernel) (by decide) (by rw [e2]; decide) wd_854 dX9_allFelt_11) ?_
  refine fc (ok_iret hB dX9_allFelt_14) ?_
  exact fn

def w_X9_allFelt : WP := fun av σ Q => av = [(25, 26)] ∧ (0 ≤ pcnt σ 6 2 ∧ pcnt σ 6 2 ≤ 6 ∧ Q (0, sumC (σ 29) (pcnt σ 6 2).toNat) σ)
theorem w_X9_allFelt_e  (σ : Mem) (Q : AV → Mem → Prop) : w_X9_allFelt [(25, 26)] σ Q = (0 ≤ pcnt σ 6 2 ∧ pcnt σ 6 2 ≤ 6 ∧ Q (0, sumC (σ 29) (pcnt σ 6 2).toNat) σ) := by
  apply propext; constructor
  · rintro ⟨h9, hb9⟩; cases h9; exact hb9
  · intro hb9; exact ⟨rfl, hb9⟩

set_option maxRecDepth 100000 in
set_option maxHeartbeats 4000000 in
theorem s_X9_allFelt : ∀ av σ Q, w_X9_allFelt av σ Q → amCall 3 0 0 TT yX9_allFelt cX9_allFelt 1 (some .int) av σ Q := by
  rintro av σ Q ⟨rfl, h0, h1, h⟩
  have f := full_64 (n := (pcnt σ 6 2).toNat) (by omega)
  have e := sOv_full (σ 29) (n := (pcnt σ 6 2).toNat) (by omega) 6 (by omega)
  rw [show min 6 (pcnt σ 6 2).toNat = (pcnt σ 6 2).toNat by omega] at e
  refine am_m0 (own := RX9) (A := look a_X9_allFelt) (fun X e1 e2 hB => o_X9_allFelt e1 e2 hB) rfl (by decide +kernel) rfl rfl 60 (w := 1) ?_
  change vcs _ _ _ _ 60 0 [(25, 26)] [] σ
  simp only [↓reduceIte, inR_0, inR_1, inR_m, vSw2_e, swP_n, swP_c, vI_e, vL_e, vNull_e, vIload_e, vLload_e, vAload_e, vIstore_e, vLstore_e, vAstore_e, vIinc_e, vIadd_e, vIsub_e, vImul_e, vIand_e, vIor_e, vIxor_e, vIshl_e, vIshr_e, vIushr_e, vIdiv_e, vIrem_e, vLadd_e, vLsub_e, vLmul_e, vLand_e, vLor_e, vLxor_e, vLdiv_e, vLrem_e, vLushr_e, vLshl_e, vLcmp_e, vIneg_e, vI2l_e, vL2i_e, vI2b_e, vI2c_e, vDup_e, vPop_e, vDup2_e, vGoto_e, vIcEq_e, vIfEq_e, vIcNe_e, vIfNe_e, vIcLt_e, vIfLt_e, vIcGe_e, vIfGe_e, vIcGt_e, vIfGt_e, vIcLe_e, vIfLe_e, vNonnull_e, vSw_e, vGetI_e, vGetL_e, vGetR_e, vPutI_e, vPutZ_e, vPutL_e, vPutR_e, vIald_e, vIald_s, vLald_e, vBald_e, vBald_s, vAald_e, vIast_e, vLast_e, vBast_e, vAast_e, vAlen_e8, vAlen_e9, vAlen_e10, vAlen_e11, vAlen_e5, vAlen_e3, vGets_e, vCompact_e, vLdcS_e, vIret_e, vZret_e, vCret_e, vBret_e, vLret_e, vVret_e, vAret_e, vCallM_e0, vCallMV_e0, vCallS_e0, vCallSV_e0, vCallM_e1, vCallMV_e1, vCallS_e1, vCallSV_e1, vCallM_e2, vCallMV_e2, vCallS_e2, vCallSV_e2, vCallM_e3, vCallMV_e3, vCallS_e3, vCallSV_e3, vCallM_e4, vCallMV_e4, vCallS_e4, vCallSV_e4, vCallM_e5, vCallMV_e5, vCallS_e5, vCallSV_e5, vCallM_e6, vCallMV_e6, vCallS_e6, vCallSV_e6, vCallM_e7, vCallMV_e7, vCallS_e7, vCallSV_e7, vBad_e, vStrVal_e, vStrCod_e, vForm_e, vCallT_e0, vCallT_e1, vCallT_e2, vCopy_e, rf_0_0, rf_0_1, rf_0_2, rf_0_3, rf_0_4, rf_0_7, rf_0_10, rf_0_11, rf_0_12, rf_0_13, rf_0_14, rf_0_15, rf_0_16, rf_1_0, rf_3_0, rf_3_1, rf_6_0, rf_6_1, rf_9_0, rf_9_1, rf_9_3, rf_13_0, rf_13_1, rf_13_2, rf_16_0, rf_16_1, rf_16_2, rf_16_3, rf_21_0, rf_21_1, rf_21_2, rf_21_3, rf_26_0, rf_26_1, rf_26_2, rf_26_3, rf_26_4, rf_26_5, rf_26_6, rf_31_0, rf_31_2, rf_31_5, rf_31_6, rf_36_0, rf_36_1, rf_36_2, rf_36_3, rf_39_0, rf_39_1, rf_39_2, rf_41_0, rf_41_1, rf_41_2, rf_41_3, rf_5000_1, rf_5000_2, rf_5000_3, rf_5000_4, rf_5000_5, rf_5000_15, rf_5000_16, rf_5000_18, rf_5000_19, rf_5000_20, rf_5000_21, rf_5000_22, rf_5000_23, rf_5000_24, rf_5000_25, rf_5000_26, rf_5000_27, rf_5000_36, rf_5000_37, rf_5000_40, rf_5000_41, rf_5000_42, rf_5000_43, rf_5000_44, rf_5000_45, rf_5000_47, rf_5000_52, rf_5000_54, rf_5000_55, rf_100_0, rf_100_1, rf_103_0, rf_103_1, rf_106_0, rf_106_1, rf_109_0, rf_109_1, al_2, al_4, al_5, al_7, al_8, al_10, al_11, al_12, al_14, al_15, al_17, al_18, al_19, al_20, al_22, al_23, al_24, al_25, al_27, al_28, al_29, al_30, al_32, al_33, al_34, al_35, al_37, al_38, al_40, al_42, al_5001, al_5002, al_5003, al_5004, al_5005, al_5006, al_5007, al_5008, al_5009, al_5010, al_5011, al_5012, al_5013, al_5014, al_5015, al_5016, al_5017, al_5018, al_5019, al_5020, al_5021, al_5022, al_5023, al_5024, al_5025, al_5026, al_9000, al_101, al_102, al_104, al_105, al_107, al_108, al_110, al_111, vcs_e, lg_c0, lg_cs, lg_nil, set_c0, set_cs, okst_0, okst_s, acok_n, acok_c, List.contains_nil, List.contains_cons, Bool.or_false, Bool.false_or, Bool.false_eq_true, if_false, if_true, ite_self, ne_eq, true_and, and_true, not_false_eq_true, not_true_eq_false, false_imp_iff, true_imp_iff, Nat.ble_eq, Bool.and_eq_true, reduceCtorEq, or_false, false_or, or_true, true_or, false_and, and_false, and_self, Int.reduceLE, Int.reduceAdd, Int.reduceSub, Int.reduceMul, Int.reduceNeg, Int.reduceLT, Int.reduceEq, Int.reduceNe, Nat.reduceBEq, Nat.reduceBNe, Nat.reduceEqDiff, amCmp_in, amCmp_lt, amCmp_le, amCmp_gt, amCmp_ge, amCmp_eq, amCmp_ne, Nat.reduceLeDiff, Nat.reduceSub, Bool.and_true, Bool.true_and, Bool.and_self, Bool.or_true, Bool.true_or, isRf_3, isRf_4, isRf_5, isRf_8, isRf_9, isRf_10, isRf_11, isRf_15, isRf_16, isRf_17, isRf_18, isRf_19, isRf_20, isRf_21, isRf_22, isRf_23, isRf_24, isRf_25, isRf_26, isRf_27, isRf_28, k_X9_allFelt_0, k_X9_allFelt_1, k_X9_allFelt_4, k_X9_allFelt_5, k_X9_allFelt_8, k_X9_allFelt_11, k_X9_allFelt_14, w_X11_sumOver_e, w_X6_everyChair_e, e]
  repeat' (first | assumption | apply And.intro | intro _)
  all_goals first | omega | exact absurd trivial (by assumption) | exact Or.inr rfl | exact h
theorem wd_779 : Cond.methodLink RX9 109 yX6_many ∈ TBL := tb_tab (List.mem_of_getElem? (i := 779) (by decide +kernel)) rfl
theorem lk_X9_109 : amLk RX9 109 yX6_many cX6_many 2 (some .int) 1 := ⟨wd_779, wd_3, wd_559, by decide +kernel, by decide +kernel, by decide⟩
def a_X9_outBits : AC := [(0, vI 0 1), (1, vIstore 1 2), (2, vI 0 3), (3, vIstore 2 4), (4, vIload 2 5), (5, vAload 0 6), (6, vGetR TT 25 0 22 9), (9, vI 2 10), (10, vCallM w_X6_many 22 1 13), (13, vIcGe 44 16), (16, vIload 2 17), (17, vI 6 19), (19, vIcGe 44 22), (22, vAload 0 23), (23, vGetR TT 25 5 8 26), (26, vIload 2 27), (27, vIald TT 28), (28, vI (-1) 29), (29, vIcEq 38 32), (32, vIload 1 33), (33, vI 1 34), (34, vIload 2 35), (35, vIshl 36), (36, vIor 37), (37, vIstore 1 38), (38, vIinc 2 1 41), (41, vGoto 4), (44, vIload 1 45), (45, vIret)]
theorem k_X9_outBits_0 : look a_X9_outBits 0 = vI 0 1 := rfl
theorem k_X9_outBits_1 : look a_X9_outBits 1 = vIstore 1 2 := rfl
theorem k_X9_outBits_2 : look a_X9_outBits 2 = vI 0 3 := rfl
theorem k_X9_outBits_3 : look a_X9_outBits 3 = vIstore 2 4 := rfl
theorem k_X9_outBits_4 : look a_X9_outBits 4 = vIload 2 5 := rfl
theorem k_X9_outBits_5 : look a_X9_outBits 5 = vAload 0 6 := rfl
theorem k_X9_outBits_6 : look a_X9_outBits 6 = vGetR TT 25 0 22 9 := rfl
theorem k_X9_outBits_9 : look a_X9_outBits 9 = vI 2 10 := rfl
theorem k_X9_outBits_10 : look a_X9_outBits 10 = vCallM w_X6_many 22 1 13 := rfl
theorem k_X9_outBits_13 : look a_X9_outBits 13 = vIcGe 44 16 := rfl
theorem k_X9_outBits_16 : look a_X9_outBits 16 = vIload 2 17 := rfl
theorem k_X9_outBits_17 : look a_X9_outBits 17 = vI 6 19 := rfl
theorem k_X9_outBits_19 : look a_X9_outBits 19 = vIcGe 44 22 := rfl
theorem k_X9_outBits_22 : look a_X9_outBits 22 = vAload 0 23 := rfl
theorem k_X9_outBits_23 : look a_X9_outBits 23 = vGetR TT 25 5 8 26 := rfl
theorem k_X9_outBits_26 : look a_X9_outBits 26 = vIload 2 27 := rfl
theorem k_X9_outBits_27 : look a_X9_outBits 27 = vIald TT 28 := rfl
theorem k_X9_outBits_28 : look a_X9_outBits 28 = vI (-1) 29 := rfl
theorem k_X9_outBits_29 : look a_X9_outBits 29 = vIcEq 38 32 := rfl
theorem k_X9_outBits_32 : look a_X9_outBits 32 = vIload 1 33 := rfl
theorem k_X9_outBits_33 : look a_X9_outBits 33 = vI 1 34 := rfl
theorem k_X9_outBits_34 : look a_X9_outBits 34 = vIload 2 35 := rfl
theorem k_X9_outBits_35 : look a_X9_outBits 35 = vIshl 36 := rfl
theorem k_X9_outBits_36 : look a_X9_outBits 36 = vIor 37 := rfl
theorem k_X9_outBits_37 : look a_X9_outBits 37 = vIstore 1 38 := rfl
theorem k_X9_outBits_38 : look a_X9_outBits 38 = vIinc 2 1 41 := rfl
theorem k_X9_outBits_41 : look a_X9_outBits 41 = vGoto 4 := rfl
theorem k_X9_outBits_44 : look a_X9_outBits 44 = vIload 1 45 := rfl
theorem k_X9_outBits_45 : look a_X9_outBits 45 = vIret := rfl
theorem o_X9_outBits {X : amX} (e1 : XT X = TT) (e2 : XD X = 2) (hB : amB X RX9 cX9_outBits (some .int) 3) : ∀ pc, amOK X pc (look a_X9_outBits pc) := by
  have hT : amTok (XT X) := e1 ▸ TT_ok
  refine look_ok ?_
  unfold a_X9_outBits
  refine fc (ok_iconst hB dX9_outBits_0) ?_
  refine fc (ok_istore_n hB (by decide) dX9_outBits_1) ?_
  refine fc (ok_iconst hB dX9_outBits_2) ?_
  refine fc (ok_istore_n hB (by decide) dX9_outBits_3) ?_
  refine fc (ok_iload_n hB dX9_outBits_4) ?_
  refine fc (ok_aload_n hB dX9_outBits_5) ?_
  refine fc (okt_getR e1 hB hT fl_X9_35 rfl af_9_0 at_9_0 (by decide) dX9_outBits_6) ?_
  refine fc (ok_iconst hB dX9_outBits_9) ?_
  refine fc (ok_callM hB hT (e1 ▸ s_X6_many) lk_X9_109 (by rw [e2]; decide) (c := 6) rfl rfl rfl wd_557 wd_558 dX9_outBits_10) ?_
  refine fc (ok_icmp_ge hB (t := 44) (by decide) dX9_outBits_13) ?_
  refine fc (ok_iload_n hB dX9_outBits_16) ?_
  refine fc (ok_bipush hB dX9_outBits_17 (by decide)) ?_
  refine fc (ok_icmp_ge hB (t := 44) (by decide) dX9_outBits_19) ?_
  refine fc (ok_aload_n hB dX9_outBits_22) ?_
  refine fc (okt_getR e1 hB hT fl_X9_25 rfl af_9_5 at_9_5 (by decide) dX9_outBits_23) ?_
  refine fc (ok_iload_n hB dX9_outBits_26) ?_
  refine fc (okt_iaload e1 hB dX9_outBits_27) ?_
  refine fc (ok_iconst hB dX9_outBits_28) ?_
  refine fc (ok_icmp_eq hB (t := 38) (by decide) dX9_outBits_29) ?_
  refine fc (ok_iload_n hB dX9_outBits_32) ?_
  refine fc (ok_iconst hB dX9_outBits_33) ?_
  refine fc (ok_iload_n hB dX9_outBits_34) ?_
  refine fc (ok_ishl hB dX9_outBits_35) ?_
  refine fc (ok_ior hB dX9_outBits_36) ?_
  refine fc (ok_istore_n hB (by decide) dX9_outBits_37) ?_
  refine fc (ok_iinc hB (by decide) dX9_outBits_38) ?_
  refine fc (ok_goto hB (t := 4) (by decide) dX9_outBits_41) ?_
  refine fc (ok_iload_n hB dX9_outBits_44) ?_
  refine fc (ok_iret hB dX9_outBits_45) ?_
  exact fn
def outB (f : Int → Int) : Nat → Int := gb (fun i => decide (f i ≠ -1))
def inv_outb (σ : Mem) (m : Int) (n pc : Nat) (ls st : List AV) (σ' : Mem) : Prop := pc = 4 ∧ st = [] ∧ σ' = σ ∧ ∃ k : Nat, ls = [(25, 26), (0, outB (σ 30) k), (0, (k : Int))] ∧ (k : Int) + n = m
def w_X9_outBits : WP := fun av σ Q => av = [(25, 26)] ∧ (0 ≤ pcnt σ 6 2 ∧ pcnt σ 6 2 ≤ 6 ∧ (∀ i, 0 ≤ i → i < pcnt σ 6 2 → InR (σ 30 i)) ∧ Q (0, outB (σ 30) (pcnt σ 6 2).toNat) σ)
theorem w_X9_outBits_e  (σ : Mem) (Q : AV → Mem → Prop) : w_X9_outBits [(25, 26)] σ Q = (0 ≤ pcnt σ 6 2 ∧ pcnt σ 6 2 ≤ 6 ∧ (∀ i, 0 ≤ i → i < pcnt σ 6 2 → InR (σ 30 i)) ∧ Q (0, outB (σ 30) (pcnt σ 6 2).toNat) σ) := by
  apply propext; constructor
  · rintro ⟨h9, hb9⟩; cases h9; exact hb9
  · intro hb9; exact ⟨rfl, hb9⟩

set_option maxRecDepth 100000 in
set_option maxHeartbeats 4000000 in
theorem s_X9_outBits : ∀ av σ Q, w_X9_outBits av σ Q → amCall 2 0 0 TT yX9_outBits cX9_outBits 3 (some .int) av σ Q := by
  rintro av σ Q ⟨rfl, h0, h1, hr, h⟩
  generalize hm : pcnt σ 6 2 = m at *
  refine am_m [4] (inv_outb σ m) (own := RX9) (A := look a_X9_outBits) (fun X e1 e2 hB => o_X9_outBits e1 e2 hB) rfl (by decide +kernel) rfl rfl ?_ ⟨60, ?_⟩ (w := 3)
  · rintro n pc ls st σ' ⟨rfl, rfl, rfl, k, rfl, hk⟩
    refine ⟨60, ?_⟩
    simp only [↓reduceIte, inR_0, inR_1, inR_m, vI_e, vL_e, vNull_e, vIload_e, vLload_e, vAload_e, vIstore_e, vLstore_e, vAstore_e, vIinc_e, vIadd_e, vIsub_e, vImul_e, vIand_e, vIor_e, vIxor_e, vIshl_e, vIshr_e, vIushr_e, vIdiv_e, vIrem_e, vLadd_e, vLsub_e, vLmul_e, vLand_e, vLor_e, vLxor_e, vLdiv_e, vLrem_e, vLushr_e, vLshl_e, vLcmp_e, vIneg_e, vI2l_e, vL2i_e, vI2b_e, vI2c_e, vDup_e, vPop_e, vDup2_e, vGoto_e, vIcEq_e, vIfEq_e, vIcNe_e, vIfNe_e, vIcLt_e, vIfLt_e, vIcGe_e, vIfGe_e, vIcGt_e, vIfGt_e, vIcLe_e, vIfLe_e, vNonnull_e, vSw_e, vGetI_e, vGetL_e, vGetR_e, vPutI_e, vPutZ_e, vPutL_e, vPutR_e, vIald_e, vIald_s, vLald_e, vBald_e, vBald_s, vAald_e, vIast_e, vLast_e, vBast_e, vAast_e, vAlen_e8, vAlen_e9, vAlen_e10, vAlen_e11, vAlen_e5, vAlen_e3, vGets_e, vCompact_e, vLdcS_e, vIret_e, vZret_e, vCret_e, vBret_e, vLret_e, vVret_e, vAret_e, vCallM_e0, vCallMV_e0, vCallS_e0, vCallSV_e0, vCallM_e1, vCallMV_e1, vCallS_e1, vCallSV_e1, vCallM_e2, vCallMV_e2, vCallS_e2, vCallSV_e2, vCallM_e3, vCallMV_e3, vCallS_e3, vCallSV_e3, vCallM_e4, vCallMV_e4, vCallS_e4, vCallSV_e4, vCallM_e5, vCallMV_e5, vCallS_e5, vCallSV_e5, vCallM_e6, vCallMV_e6, vCallS_e6, vCallSV_e6, vCallM_e7, vCallMV_e7, vCallS_e7, vCallSV_e7, vBad_e, vStrVal_e, vStrCod_e, vForm_e, vCallT_e0, vCallT_e1, vCallT_e2, vCopy_e, rf_0_0, rf_0_1, rf_0_2, rf_0_3, rf_0_4, rf_0_7, rf_0_10, rf_0_11, rf_0_12, rf_0_13, rf_0_14, rf_0_15, rf_0_16, rf_1_0, rf_3_0, rf_3_1, rf_6_0, rf_6_1, rf_9_0, rf_9_1, rf_9_3, rf_13_0, rf_13_1, rf_13_2, rf_16_0, rf_16_1, rf_16_2, rf_16_3, rf_21_0, rf_21_1, rf_21_2, rf_21_3, rf_26_0, rf_26_1, rf_26_2, rf_26_3, rf_26_4, rf_26_5, rf_26_6, rf_31_0, rf_31_2, rf_31_5, rf_31_6, rf_36_0, rf_36_1, rf_36_2, rf_36_3, rf_39_0, rf_39_1, rf_39_2, rf_41_0, rf_41_1, rf_41_2, rf_41_3, rf_5000_1, rf_5000_2, rf_5000_3, rf_5000_4, rf_5000_5, rf_5000_15, rf_5000_16, rf_5000_18, rf_5000_19, rf_5000_20, rf_5000_21, rf_5000_22, rf_5000_23, rf_5000_24, rf_5000_25, rf_5000_26, rf_5000_27, rf_5000_36, rf_5000_37, rf_5000_40, rf_5000_41, rf_5000_42, rf_5000_43, rf_5000_44, rf_5000_45, rf_5000_47, rf_5000_52, rf_5000_54, rf_5000_55, rf_100_0, rf_100_1, rf_103_0, rf_103_1, rf_106_0, rf_106_1, rf_109_0, rf_109_1, al_2, al_4, al_5, al_7, al_8, al_10, al_11, al_12, al_14, al_15, al_17, al_18, al_19, al_20, al_22, al_23, al_24, al_25, al_27, al_28, al_29, al_30, al_32, al_33, al_34, al_35, al_37, al_38, al_40, al_42, al_5001, al_5002, al_5003, al_5004, al_5005, al_5006, al_5007, al_5008, al_5009, al_5010, al_5011, al_5012, al_5013, al_5014, al_5015, al_5016, al_5017, al_5018, al_5019, al_5020, al_5021, al_5022, al_5023, al_5024, al_5025, al_5026, al_9000, al_101, al_102, al_104, al_105, al_107, al_108, al_110, al_111, vcs_e, lg_c0, lg_cs, lg_nil, set_c0, set_cs, okst_0, okst_s, acok_n, acok_c, List.contains_nil, List.contains_cons, Bool.or_false, Bool.false_or, Bool.false_eq_true, if_false, if_true, ite_self, ne_eq, true_and, and_true, not_false_eq_true, not_true_eq_false, false_imp_iff, true_imp_iff, Nat.ble_eq, Bool.and_eq_true, reduceCtorEq, or_false, false_or, or_true, true_or, false_and, and_false, and_self, Int.reduceLE, Int.reduceAdd, Int.reduceSub, Int.reduceMul, Int.reduceNeg, Int.reduceLT, Int.reduceEq, Int.reduceNe, Nat.reduceBEq, Nat.reduceBNe, Nat.reduceEqDiff, amCmp_in, amCmp_lt, amCmp_le, amCmp_gt, amCmp_ge, amCmp_eq, amCmp_ne, Nat.reduceLeDiff, Nat.reduceSub, Bool.and_true, Bool.true_and, Bool.and_self, Bool.or_true, Bool.true_or, isRf_3, isRf_4, isRf_5, isRf_8, isRf_9, isRf_10, isRf_11, isRf_15, isRf_16, isRf_17, isRf_18, isRf_19, isRf_20, isRf_21, isRf_22, isRf_23, isRf_24, isRf_25, isRf_26, isRf_27, isRf_28, k_X9_outBits_0, k_X9_outBits_1, k_X9_outBits_2, k_X9_outBits_3, k_X9_outBits_4, k_X9_outBits_5, k_X9_outBits_6, k_X9_outBits_9, k_X9_outBits_10, k_X9_outBits_13, k_X9_outBits_16, k_X9_outBits_17, k_X9_outBits_19, k_X9_outBits_22, k_X9_outBits_23, k_X9_outBits_26, k_X9_outBits_27, k_X9_outBits_28, k_X9_outBits_29, k_X9_outBits_32, k_X9_outBits_33, k_X9_outBits_34, k_X9_outBits_35, k_X9_outBits_36, k_X9_outBits_37, k_X9_outBits_38, k_X9_outBits_41, k_X9_outBits_44, k_X9_outBits_45, w_X6_many_e, hm]
    by_cases hlt : (k : Int) < m
    · have hsk := hr k (by omega) (by omega)
      have hb := gb_b (fun i => decide (σ' 30 i ≠ -1)) k
      have nx : ∀ v, v = outB (σ' 30) (k + 1) → ∃ k', k' < n ∧ inv_outb σ' m k' 4 [(25, 26), (0, v), (0, (k : Int) + 1)] [] σ' := fun v hv => ⟨n - 1, by omega, rfl, rfl, rfl, k + 1, by rw [hv]; rfl, by omega⟩
      have e : outB (σ' 30) (k + 1) = outB (σ' 30) k + if decide (σ' 30 k ≠ -1) = true then 2 ^ k else 0 := rfl
      rw [show outB (σ' 30) k = gb (fun i => decide (σ' 30 i ≠ -1)) k from rfl] at e ⊢
      rw [bor6' (by omega) hb.1 hb.2]
      by_cases c : σ' 30 k = -1
      · have i9 := nx _ (by rw [e, if_neg (by simpa using c), Int.add_zero])
        repeat' (first | assumption | apply And.intro | intro _)
        all_goals first | omega | exact absurd trivial (by assumption) | exact Or.inr rfl | exact i9
      · have i9 := nx _ (by rw [e, if_pos (by simpa using c)])
        repeat' (first | assumption | apply And.intro | intro _)
        all_goals first | omega | exact absurd trivial (by assumption) | exact Or.inr rfl | exact i9
    · rw [show m.toNat = k by omega] at h
      repeat' (first | assumption | apply And.intro | intro _)
      all_goals first | omega | exact absurd trivial (by assumption) | exact Or.inr rfl | exact h
  · change vcs _ _ _ _ 60 0 [(25, 26), (6, 0), (6, 0)] [] σ
    simp only [↓reduceIte, inR_0, inR_1, inR_m, vI_e, vL_e, vNull_e, vIload_e, vLload_e, vAload_e, vIstore_e, vLstore_e, vAstore_e, vIinc_e, vIadd_e, vIsub_e, vImul_e, vIand_e, vIor_e, vIxor_e, vIshl_e, vIshr_e, vIushr_e, vIdiv_e, vIrem_e, vLadd_e, vLsub_e, vLmul_e, vLand_e, vLor_e, vLxor_e, vLdiv_e, vLrem_e, vLushr_e, vLshl_e, vLcmp_e, vIneg_e, vI2l_e, vL2i_e, vI2b_e, vI2c_e, vDup_e, vPop_e, vDup2_e, vGoto_e, vIcEq_e, vIfEq_e, vIcNe_e, vIfNe_e, vIcLt_e, vIfLt_e, vIcGe_e, vIfGe_e, vIcGt_e, vIfGt_e, vIcLe_e, vIfLe_e, vNonnull_e, vSw_e, vGetI_e, vGetL_e, vGetR_e, vPutI_e, vPutZ_e, vPutL_e, vPutR_e, vIald_e, vIald_s, vLald_e, vBald_e, vBald_s, vAald_e, vIast_e, vLast_e, vBast_e, vAast_e, vAlen_e8, vAlen_e9, vAlen_e10, vAlen_e11, vAlen_e5, vAlen_e3, vGets_e, vCompact_e, vLdcS_e, vIret_e, vZret_e, vCret_e, vBret_e, vLret_e, vVret_e, vAret_e, vCallM_e0, vCallMV_e0, vCallS_e0, vCallSV_e0, vCallM_e1, vCallMV_e1, vCallS_e1, vCallSV_e1, vCallM_e2, vCallMV_e2, vCallS_e2, vCallSV_e2, vCallM_e3, vCallMV_e3, vCallS_e3, vCallSV_e3, vCallM_e4, vCallMV_e4, vCallS_e4, vCallSV_e4, vCallM_e5, vCallMV_e5, vCallS_e5, vCallSV_e5, vCallM_e6, vCallMV_e6, vCallS_e6, vCallSV_e6, vCallM_e7, vCallMV_e7, vCallS_e7, vCallSV_e7, vBad_e, vStrVal_e, vStrCod_e, vForm_e, vCallT_e0, vCallT_e1, vCallT_e2, vCopy_e, rf_0_0, rf_0_1, rf_0_2, rf_0_3, rf_0_4, rf_0_7, rf_0_10, rf_0_11, rf_0_12, rf_0_13, rf_0_14, rf_0_15, rf_0_16, rf_1_0, rf_3_0, rf_3_1, rf_6_0, rf_6_1, rf_9_0, rf_9_1, rf_9_3, rf_13_0, rf_13_1, rf_13_2, rf_16_0, rf_16_1, rf_16_2, rf_16_3, rf_21_0, rf_21_1, rf_21_2, rf_21_3, rf_26_0, rf_26_1, rf_26_2, rf_26_3, rf_26_4, rf_26_5, rf_26_6, rf_31_0, rf_31_2, rf_31_5, rf_31_6, rf_36_0, rf_36_1, rf_36_2, rf_36_3, rf_39_0, rf_39_1, rf_39_2, rf_41_0, rf_41_1, rf_41_2, rf_41_3, rf_5000_1, rf_5000_2, rf_5000_3, rf_5000_4, rf_5000_5, rf_5000_15, rf_5000_16, rf_5000_18, rf_5000_19, rf_5000_20, rf_5000_21, rf_5000_22, rf_5000_23, rf_5000_24, rf_5000_25, rf_5000_26, rf_5000_27, rf_5000_36, rf_5000_37, rf_5000_40, rf_5000_41, rf_5000_42, rf_5000_43, rf_5000_44, rf_5000_45, rf_5000_47, rf_5000_52, rf_5000_54, rf_5000_55, rf_100_0, rf_100_1, rf_103_0, rf_103_1, rf_106_0, rf_106_1, rf_109_0, rf_109_1, al_2, al_4, al_5, al_7, al_8, al_10, al_11, al_12, al_14, al_15, al_17, al_18, al_19, al_20, al_22, al_23, al_24, al_25, al_27, al_28, al_29, al_30, al_32, al_33, al_34, al_35, al_37, al_38, al_40, al_42, al_5001, al_5002, al_5003, al_5004, al_5005, al_5006, al_5007, al_5008, al_5009, al_5010, al_5011, al_5012, al_5013, al_5014, al_5015, al_5016, al_5017, al_5018, al_5019, al_5020, al_5021, al_5022, al_5023, al_5024, al_5025, al_5026, al_9000, al_101, al_102, al_104, al_105, al_107, al_108, al_110, al_111, vcs_e, lg_c0, lg_cs, lg_nil, set_c0, set_cs, okst_0, okst_s, acok_n, acok_c, List.contains_nil, List.contains_cons, Bool.or_false, Bool.false_or, Bool.false_eq_true, if_false, if_true, ite_self, ne_eq, true_and, and_true, not_false_eq_true, not_true_eq_false, false_imp_iff, true_imp_iff, Nat.ble_eq, Bool.and_eq_true, reduceCtorEq, or_false, false_or, or_true, true_or, false_and, and_false, and_self, Int.reduceLE, Int.reduceAdd, Int.reduceSub, Int.reduceMul, Int.reduceNeg, Int.reduceLT, Int.reduceEq, Int.reduceNe, Nat.reduceBEq, Nat.reduceBNe, Nat.reduceEqDiff, amCmp_in, amCmp_lt, amCmp_le, amCmp_gt, amCmp_ge, amCmp_eq, amCmp_ne, Nat.reduceLeDiff, Nat.reduceSub, Bool.and_true, Bool.true_and, Bool.and_self, Bool.or_true, Bool.true_or, isRf_3, isRf_4, isRf_5, isRf_8, isRf_9, isRf_10, isRf_11, isRf_15, isRf_16, isRf_17, isRf_18, isRf_19, isRf_20, isRf_21, isRf_22, isRf_23, isRf_24, isRf_25, isRf_26, isRf_27, isRf_28, k_X9_outBits_0, k_X9_outBits_1, k_X9_outBits_2, k_X9_outBits_3, k_X9_outBits_4, k_X9_outBits_5, k_X9_outBits_6, k_X9_outBits_9, k_X9_outBits_10, k_X9_outBits_13, k_X9_outBits_16, k_X9_outBits_17, k_X9_outBits_19, k_X9_outBits_22, k_X9_outBits_23, k_X9_outBits_26, k_X9_outBits_27, k_X9_outBits_28, k_X9_outBits_29, k_X9_outBits_32, k_X9_outBits_33, k_X9_outBits_34, k_X9_outBits_35, k_X9_outBits_36, k_X9_outBits_37, k_X9_outBits_38, k_X9_outBits_41, k_X9_outBits_44, k_X9_outBits_45]
    exact ⟨m.toNat, rfl, rfl, rfl, 0, rfl, by omega⟩
def a_X9_firstOut : AC := [(0, vI (-1) 1), (1, vIstore 1 2), (2, vI 0 3), (3, vIstore 2 4), (4, vIload 2 5), (5, vAload 0 6), (6, vGetR TT 25 0 22 9), (9, vI 2 10), (10, vCallM w_X6_many 22 1 13), (13, vIcGe 60 16), (16, vIload 2 17), (17, vI 6 19), (19, vIcGe 60 22), (22, vAload 0 23), (23, vGetR TT 25 5 8 26), (26, vIload 2 27), (27, vIald TT 28), (28, vI (-1) 29), (29, vIcEq 54 32), (32, vIload 1 33), (33, vI (-1) 34), (34, vIcEq 52 37), (37, vAload 0 38), (38, vGetR TT 25 5 8 41), (41, vIload 2 42), (42, vIald TT 43), (43, vAload 0 44), (44, vGetR TT 25 5 8 47), (47, vIload 1 48), (48, vIald TT 49), (49, vIcGe 54 52), (52, vIload 2 53), (53, vIstore 1 54), (54, vIinc 2 1 57), (57, vGoto 4), (60, vIload 1 61), (61, vIret)]
theorem k_X9_firstOut_0 : look a_X9_firstOut 0 = vI (-1) 1 := rfl
theorem k_X9_firstOut_1 : look a_X9_firstOut 1 = vIstore 1 2 := rfl
theorem k_X9_firstOut_2 : look a_X9_firstOut 2 = vI 0 3 := rfl
theorem k_X9_firstOut_3 : look a_X9_firstOut 3 = vIstore 2 4 := rfl
theorem k_X9_firstOut_4 : look a_X9_firstOut 4 = vIload 2 5 := rfl
theorem k_X9_firstOut_5 : look a_X9_firstOut 5 = vAload 0 6 := rfl
theorem k_X9_firstOut_6 : look a_X9_firstOut 6 = vGetR TT 25 0 22 9 := rfl
theorem k_X9_firstOut_9 : look a_X9_firstOut 9 = vI 2 10 := rfl
theorem k_X9_firstOut_10 : look a_X9_firstOut 10 = vCallM w_X6_many 22 1 13 := rfl
theorem k_X9_firstOut_13 : look a_X9_firstOut 13 = vIcGe 60 16 := rfl
theorem k_X9_firstOut_16 : look a_X9_firstOut 16 = vIload 2 17 := rfl
theorem k_X9_firstOut_17 : look a_X9_firstOut 17 = vI 6 19 := rfl
theorem k_X9_firstOut_19 : look a_X9_firstOut 19 = vIcGe 60 22 := rfl
theorem k_X9_firstOut_22 : look a_X9_firstOut 22 = vAload 0 23 := rfl
theorem k_X9_firstOut_23 : look a_X9_firstOut 23 = vGetR TT 25 5 8 26 := rfl
theorem k_X9_firstOut_26 : look a_X9_firstOut 26 = vIload 2 27 := rfl
theorem k_X9_firstOut_27 : look a_X9_firstOut 27 = vIald TT 28 := rfl
theorem k_X9_firstOut_28 : look a_X9_firstOut 28 = vI (-1) 29 := rfl
theorem k_X9_firstOut_29 : look a_X9_firstOut 29 = vIcEq 54 32 := rfl
theorem k_X9_firstOut_32 : look a_X9_firstOut 32 = vIload 1 33 := rfl
theorem k_X9_firstOut_33 : look a_X9_firstOut 33 = vI (-1) 34 := rfl
theorem k_X9_firstOut_34 : look a_X9_firstOut 34 = vIcEq 52 37 := rfl
theorem k_X9_firstOut_37 : look a_X9_firstOut 37 = vAload 0 38 := rfl
theorem k_X9_firstOut_38 : look a_X9_firstOut 38 = vGetR TT 25 5 8 41 := rfl
theorem k_X9_firstOut_41 : look a_X9_firstOut 41 = vIload 2 42 := rfl
theorem k_X9_firstOut_42 : look a_X9_firstOut 42 = vIald TT 43 := rfl
theorem k_X9_firstOut_43 : look a_X9_firstOut 43 = vAload 0 44 := rfl
theorem k_X9_firstOut_44 : look a_X9_firstOut 44 = vGetR TT 25 5 8 47 := rfl
theorem k_X9_firstOut_47 : look a_X9_firstOut 47 = vIload 1 48 := rfl
theorem k_X9_firstOut_48 : look a_X9_firstOut 48 = vIald TT 49 := rfl
theorem k_X9_firstOut_49 : look a_X9_firstOut 49 = vIcGe 54 52 := rfl
theorem k_X9_firstOut_52 : look a_X9_firstOut 52 = vIload 2 53 := rfl
theorem k_X9_firstOut_53 : look a_X9_firstOut 53 = vIstore 1 54 := rfl
theorem k_X9_firstOut_54 : look a_X9_firstOut 54 = vIinc 2 1 57 := rfl
theorem k_X9_firstOut_57 : look a_X9_firstOut 57 = vGoto 4 := rfl
theorem k_X9_firstOut_60 : look a_X9_firstOut 60 = vIload 1 61 := rfl
theorem k_X9_firstOut_61 : look a_X9_firstOut 61 = vIret := rfl
theorem o_X9_firstOut {X : amX} (e1 : XT X = TT) (e2 : XD X = 2) (hB : amB X RX9 cX9_firstOut (some .int) 3) : ∀ pc, amOK X pc (look a_X9_firstOut pc) := by
  have hT : amTok (XT X) := e1 ▸ TT_ok
  refine look_ok ?_
  unfold a_X9_firstOut
  refine fc (ok_iconst hB dX9_firstOut_0) ?_
  refine fc (ok_istore_n hB (by decide) dX9_firstOut_1) ?_
  refine fc (ok_iconst hB dX9_firstOut_2) ?_
  refine fc (ok_istore_n hB (by decide) dX9_firstOut_3) ?_
  refine fc (ok_iload_n hB dX9_firstOut_4) ?_
  refine fc (ok_aload_n hB dX9_firstOut_5) ?_
  refine fc (okt_getR e1 hB hT fl_X9_35 rfl af_9_0 at_9_0 (by decide) dX9_firstOut_6) ?_
  refine fc (ok_iconst hB dX9_firstOut_9) ?_
  refine fc (ok_callM hB hT (e1 ▸ s_X6_many) lk_X9_109 (by rw [e2]; decide) (c := 6) rfl rfl rfl wd_557 wd_558 dX9_firstOut_10) ?_
  refine fc (ok_icmp_ge hB (t := 60) (by decide) dX9_firstOut_13) ?_
  refine fc (ok_iload_n hB dX9_firstOut_16) ?_
  refine fc (ok_bipush hB dX9_firstOut_17 (by decide)) ?_
  refine fc (ok_icmp_ge hB (t := 60) (by decide) dX9_firstOut_19) ?_
  refine fc (ok_aload_n hB dX9_firstOut_22) ?_
  refine fc (okt_getR e1 hB hT fl_X9_25 rfl af_9_5 at_9_5 (by decide) dX9_firstOut_23) ?_
  refine fc (ok_iload_n hB dX9_firstOut_26) ?_
  refine fc (okt_iaload e1 hB dX9_firstOut_27) ?_
  refine fc (ok_iconst hB dX9_firstOut_28) ?_
  refine fc (ok_icmp_eq hB (t := 54) (by decide) dX9_firstOut_29) ?_
  refine fc (ok_iload_n hB dX9_firstOut_32) ?_
  refine fc (ok_iconst hB dX9_firstOut_33) ?_
  refine fc (ok_icmp_eq hB (t := 52) (by decide) dX9_firstOut_34) ?_
  refine fc (ok_aload_n hB dX9_firstOut_37) ?_
  refine fc (okt_getR e1 hB hT fl_X9_25 rfl af_9_5 at_9_5 (by decide) dX9_firstOut_38) ?_
  refine fc (ok_iload_n hB dX9_firstOut_41) ?_
  refine fc (okt_iaload e1 hB dX9_firstOut_42) ?_
  refine fc (ok_aload_n hB dX9_firstOut_43) ?_
  refine fc (okt_getR e1 hB hT fl_X9_25 rfl af_9_5 at_9_5 (by decide) dX9_firstOut_44) ?_
  refine fc (ok_iload_n hB dX9_firstOut_47) ?_
  refine fc (okt_iaload e1 hB dX9_firstOut_48) ?_
  refine fc (ok_icmp_ge hB (t := 54) (by decide) dX9_firstOut_49) ?_
  refine fc (ok_iload_n hB dX9_firstOut_52) ?_
  refine fc (ok_istore_n hB (by decide) dX9_firstOut_53) ?_
  refine fc (ok_iinc hB (by decide) dX9_firstOut_54) ?_
  refine fc (ok_goto hB (t := 4) (by decide) dX9_firstOut_57) ?_
  refine fc (ok_iload_n hB dX9_firstOut_60) ?_
  refine fc (ok_iret hB dX9_firstOut_61) ?_
  exact fn
def fstO (f : Int → Int) : Nat → Int
  | 0 => -1
  | n + 1 => if f n ≠ -1 ∧ (fstO f n = -1 ∨ f n < f (fstO f n)) then n else fstO f n
theorem fstO_b (f : Int → Int) : ∀ n : Nat, -1 ≤ fstO f n ∧ fstO f n < n := by
  intro n
  induction n with
  | zero => unfold fstO; omega
  | succ n ih => unfold fstO; split <;> omega
def inv_fst (σ : Mem) (m : Int) (n pc : Nat) (ls st : List AV) (σ' : Mem) : Prop := pc = 4 ∧ st = [] ∧ σ' = σ ∧ ∃ k : Nat, ls = [(25, 26), (0, fstO (σ 30) k), (0, (k : Int))] ∧ (k : Int) + n = m
def w_X9_firstOut : WP := fun av σ Q => av = [(25, 26)] ∧ (0 ≤ pcnt σ 6 2 ∧ pcnt σ 6 2 ≤ 6 ∧ (∀ i, 0 ≤ i → i < pcnt σ 6 2 → InR (σ 30 i)) ∧ Q (0, fstO (σ 30) (pcnt σ 6 2).toNat) σ)
theorem w_X9_firstOut_e  (σ : Mem) (Q : AV → Mem → Prop) : w_X9_firstOut [(25, 26)] σ Q = (0 ≤ pcnt σ 6 2 ∧ pcnt σ 6 2 ≤ 6 ∧ (∀ i, 0 ≤ i → i < pcnt σ 6 2 → InR (σ 30 i)) ∧ Q (0, fstO (σ 30) (pcnt σ 6 2).toNat) σ) := by
  apply propext; constructor
  · rintro ⟨h9, hb9⟩; cases h9; exact hb9
  · intro hb9; exact ⟨rfl, hb9⟩

set_option maxRecDepth 100000 in
set_option maxHeartbeats 4000000 in
theorem s_X9_firstOut : ∀ av σ Q, w_X9_firstOut av σ Q → amCall 2 0 0 TT yX9_firstOut cX9_firstOut 3 (some .int) av σ Q := by
  rintro av σ Q ⟨rfl, h0, h1, hr, h⟩
  generalize hm : pcnt σ 6 2 = m at *
  refine am_m [4] (inv_fst σ m) (own := RX9) (A := look a_X9_firstOut) (fun X e1 e2 hB => o_X9_firstOut e1 e2 hB) rfl (by decide +kernel) rfl rfl ?_ ⟨60, ?_⟩ (w := 3)
  · rintro n pc ls st σ' ⟨rfl, rfl, rfl, k, rfl, hk⟩
    refine ⟨60, ?_⟩
    simp only [↓reduceIte, inR_0, inR_1, inR_m, vI_e, vL_e, vNull_e, vIload_e, vLload_e, vAload_e, vIstore_e, vLstore_e, vAstore_e, vIinc_e, vIadd_e, vIsub_e, vImul_e, vIand_e, vIor_e, vIxor_e, vIshl_e, vIshr_e, vIushr_e, vIdiv_e, vIrem_e, vLadd_e, vLsub_e, vLmul_e, vLand_e, vLor_e, vLxor_e, vLdiv_e, vLrem_e, vLushr_e, vLshl_e, vLcmp_e, vIneg_e, vI2l_e, vL2i_e, vI2b_e, vI2c_e, vDup_e, vPop_e, vDup2_e, vGoto_e, vIcEq_e, vIfEq_e, vIcNe_e, vIfNe_e, vIcLt_e, vIfLt_e, vIcGe_e, vIfGe_e, vIcGt_e, vIfGt_e, vIcLe_e, vIfLe_e, vNonnull_e, vSw_e, vGetI_e, vGetL_e, vGetR_e, vPutI_e, vPutZ_e, vPutL_e, vPutR_e, vIald_e, vIald_s, vLald_e, vBald_e, vBald_s, vAald_e, vIast_e, vLast_e, vBast_e, vAast_e, vAlen_e8, vAlen_e9, vAlen_e10, vAlen_e11, vAlen_e5, vAlen_e3, vGets_e, vCompact_e, vLdcS_e, vIret_e, vZret_e, vCret_e, vBret_e, vLret_e, vVret_e, vAret_e, vCallM_e0, vCallMV_e0, vCallS_e0, vCallSV_e0, vCallM_e1, vCallMV_e1, vCallS_e1, vCallSV_e1, vCallM_e2, vCallMV_e2, vCallS_e2, vCallSV_e2, vCallM_e3, vCallMV_e3, vCallS_e3, vCallSV_e3, vCallM_e4, vCallMV_e4, vCallS_e4, vCallSV_e4, vCallM_e5, vCallMV_e5, vCallS_e5, vCallSV_e5, vCallM_e6, vCallMV_e6, vCallS_e6, vCallSV_e6, vCallM_e7, vCallMV_e7, vCallS_e7, vCallSV_e7, vBad_e, vStrVal_e, vStrCod_e, vForm_e, vCallT_e0, vCallT_e1, vCallT_e2, vCopy_e, rf_0_0, rf_0_1, rf_0_2, rf_0_3, rf_0_4, rf_0_7, rf_0_10, rf_0_11, rf_0_12, rf_0_13, rf_0_14, rf_0_15, rf_0_16, rf_1_0, rf_3_0, rf_3_1, rf_6_0, rf_6_1, rf_9_0, rf_9_1, rf_9_3, rf_13_0, rf_13_1, rf_13_2, rf_16_0, rf_16_1, rf_16_2, rf_16_3, rf_21_0, rf_21_1, rf_21_2, rf_21_3, rf_26_0, rf_26_1, rf_26_2, rf_26_3, rf_26_4, rf_26_5, rf_26_6, rf_31_0, rf_31_2, rf_31_5, rf_31_6, rf_36_0, rf_36_1, rf_36_2, rf_36_3, rf_39_0, rf_39_1, rf_39_2, rf_41_0, rf_41_1, rf_41_2, rf_41_3, rf_5000_1, rf_5000_2, rf_5000_3, rf_5000_4, rf_5000_5, rf_5000_15, rf_5000_16, rf_5000_18, rf_5000_19, rf_5000_20, rf_5000_21, rf_5000_22, rf_5000_23, rf_5000_24, rf_5000_25, rf_5000_26, rf_5000_27, rf_5000_36, rf_5000_37, rf_5000_40, rf_5000_41, rf_5000_42, rf_5000_43, rf_5000_44, rf_5000_45, rf_5000_47, rf_5000_52, rf_5000_54, rf_5000_55, rf_100_0, rf_100_1, rf_103_0, rf_103_1, rf_106_0, rf_106_1, rf_109_0, rf_109_1, al_2, al_4, al_5, al_7, al_8, al_10, al_11, al_12, al_14, al_15, al_17, al_18, al_19, al_20, al_22, al_23, al_24, al_25, al_27, al_28, al_29, al_30, al_32, al_33, al_34, al_35, al_37, al_38, al_40, al_42, al_5001, al_5002, al_5003, al_5004, al_5005, al_5006, al_5007, al_5008, al_5009, al_5010, al_5011, al_5012, al_5013, al_5014, al_5015, al_5016, al_5017, al_5018, al_5019, al_5020, al_5021, al_5022, al_5023, al_5024, al_5025, al_5026, al_9000, al_101, al_102, al_104, al_105, al_107, al_108, al_110, al_111, vcs_e, lg_c0, lg_cs, lg_nil, set_c0, set_cs, okst_0, okst_s, acok_n, acok_c, List.contains_nil, List.contains_cons, Bool.or_false, Bool.false_or, Bool.false_eq_true, if_false, if_true, ite_self, ne_eq, true_and, and_true, not_false_eq_true, not_true_eq_false, false_imp_iff, true_imp_iff, Nat.ble_eq, Bool.and_eq_true, reduceCtorEq, or_false, false_or, or_true, true_or, false_and, and_false, and_self, Int.reduceLE, Int.reduceAdd, Int.reduceSub, Int.reduceMul, Int.reduceNeg, Int.reduceLT, Int.reduceEq, Int.reduceNe, Nat.reduceBEq, Nat.reduceBNe, Nat.reduceEqDiff, amCmp_in, amCmp_lt, amCmp_le, amCmp_gt, amCmp_ge, amCmp_eq, amCmp_ne, Nat.reduceLeDiff, Nat.reduceSub, Bool.and_true, Bool.true_and, Bool.and_self, Bool.or_true, Bool.true_or, isRf_3, isRf_4, isRf_5, isRf_8, isRf_9, isRf_10, isRf_11, isRf_15, isRf_16, isRf_17, isRf_18, isRf_19, isRf_20, isRf_21, isRf_22, isRf_23, isRf_24, isRf_25, isRf_26, isRf_27, isRf_28, k_X9_firstOut_0, k_X9_firstOut_1, k_X9_firstOut_2, k_X9_firstOut_3, k_X9_firstOut_4, k_X9_firstOut_5, k_X9_firstOut_6, k_X9_firstOut_9, k_X9_firstOut_10, k_X9_firstOut_13, k_X9_firstOut_16, k_X9_firstOut_17, k_X9_firstOut_19, k_X9_firstOut_22, k_X9_firstOut_23, k_X9_firstOut_26, k_X9_firstOut_27, k_X9_firstOut_28, k_X9_firstOut_29, k_X9_firstOut_32, k_X9_firstOut_33, k_X9_firstOut_34, k_X9_firstOut_37, k_X9_firstOut_38, k_X9_firstOut_41, k_X9_firstOut_42, k_X9_firstOut_43, k_X9_firstOut_44, k_X9_firstOut_47, k_X9_firstOut_48, k_X9_firstOut_49, k_X9_firstOut_52, k_X9_firstOut_53, k_X9_firstOut_54, k_X9_firstOut_57, k_X9_firstOut_60, k_X9_firstOut_61, w_X6_many_e, hm]
    by_cases hlt : (k : Int) < m
    · have hsk := hr k (by omega) (by omega)
      have hb := fstO_b (σ' 30) k
      have nx : ∀ v, v = fstO (σ' 30) (k + 1) → ∃ k', k' < n ∧ inv_fst σ' m k' 4 [(25, 26), (0, v), (0, (k : Int) + 1)] [] σ' := fun v hv => ⟨n - 1, by omega, rfl, rfl, rfl, k + 1, by rw [hv]; rfl, by omega⟩
      have e : fstO (σ' 30) (k + 1) = if σ' 30 k ≠ -1 ∧ (fstO (σ' 30) k = -1 ∨ σ' 30 k < σ' 30 (fstO (σ' 30) k)) then (k : Int) else fstO (σ' 30) k := rfl
      have hsf : fstO (σ' 30) k ≠ -1 → InR (σ' 30 (fstO (σ' 30) k)) := fun g => hr _ (by omega) (by omega)
      by_cases c : σ' 30 k ≠ -1 ∧ (fstO (σ' 30) k = -1 ∨ σ' 30 k < σ' 30 (fstO (σ' 30) k))
      · have i9 := nx k (by rw [e, if_pos c])
        repeat' (first | assumption | apply And.intro | intro _)
        all_goals first | omega | exact absurd trivial (by assumption) | exact Or.inr rfl | exact i9 | (have := hsf (by omega); omega)
      · have i9 := nx _ (by rw [e, if_neg c])
        repeat' (first | assumption | apply And.intro | intro _)
        all_goals first | omega | exact absurd trivial (by assumption) | exact Or.inr rfl | exact i9 | (have := hsf (by omega); omega)
    · rw [show m.toNat = k by omega] at h
      repeat' (first | assumption | apply And.intro | intro _)
      all_goals first | omega | exact absurd trivial (by assumption) | exact Or.inr rfl | exact h
  · change vcs _ _ _ _ 60 0 [(25, 26), (6, 0), (6, 0)] [] σ
    simp only [↓reduceIte, inR_0, inR_1, inR_m, vI_e, vL_e, vNull_e, vIload_e, vLload_e, vAload_e, vIstore_e, vLstore_e, vAstore_e, vIinc_e, vIadd_e, vIsub_e, vImul_e, vIand_e, vIor_e, vIxor_e, vIshl_e, vIshr_e, vIushr_e, vIdiv_e, vIrem_e, vLadd_e, vLsub_e, vLmul_e, vLand_e, vLor_e, vLxor_e, vLdiv_e, vLrem_e, vLushr_e, vLshl_e, vLcmp_e, vIneg_e, vI2l_e, vL2i_e, vI2b_e, vI2c_e, vDup_e, vPop_e, vDup2_e, vGoto_e, vIcEq_e, vIfEq_e, vIcNe_e, vIfNe_e, vIcLt_e, vIfLt_e, vIcGe_e, vIfGe_e, vIcGt_e, vIfGt_e, vIcLe_e, vIfLe_e, vNonnull_e, vSw_e, vGetI_e, vGetL_e, vGetR_e, vPutI_e, vPutZ_e, vPutL_e, vPutR_e, vIald_e, vIald_s, vLald_e, vBald_e, vBald_s, vAald_e, vIast_e, vLast_e, vBast_e, vAast_e, vAlen_e8, vAlen_e9, vAlen_e10, vAlen_e11, vAlen_e5, vAlen_e3, vGets_e, vCompact_e, vLdcS_e, vIret_e, vZret_e, vCret_e, vBret_e, vLret_e, vVret_e, vAret_e, vCallM_e0, vCallMV_e0, vCallS_e0, vCallSV_e0, vCallM_e1, vCallMV_e1, vCallS_e1, vCallSV_e1, vCallM_e2, vCallMV_e2, vCallS_e2, vCallSV_e2, vCallM_e3, vCallMV_e3, vCallS_e3, vCallSV_e3, vCallM_e4, vCallMV_e4, vCallS_e4, vCallSV_e4, vCallM_e5, vCallMV_e5, vCallS_e5, vCallSV_e5, vCallM_e6, vCallMV_e6, vCallS_e6, vCallSV_e6, vCallM_e7, vCallMV_e7, vCallS_e7, vCallSV_e7, vBad_e, vStrVal_e, vStrCod_e, vForm_e, vCallT_e0, vCallT_e1, vCallT_e2, vCopy_e, rf_0_0, rf_0_1, rf_0_2, rf_0_3, rf_0_4, rf_0_7, rf_0_10, rf_0_11, rf_0_12, rf_0_13, rf_0_14, rf_0_15, rf_0_16, rf_1_0, rf_3_0, rf_3_1, rf_6_0, rf_6_1, rf_9_0, rf_9_1, rf_9_3, rf_13_0, rf_13_1, rf_13_2, rf_16_0, rf_16_1, rf_16_2, rf_16_3, rf_21_0, rf_21_1, rf_21_2, rf_21_3, rf_26_0, rf_26_1, rf_26_2, rf_26_3, rf_26_4, rf_26_5, rf_26_6, rf_31_0, rf_31_2, rf_31_5, rf_31_6, rf_36_0, rf_36_1, rf_36_2, rf_36_3, rf_39_0, rf_39_1, rf_39_2, rf_41_0, rf_41_1, rf_41_2, rf_41_3, rf_5000_1, rf_5000_2, rf_5000_3, rf_5000_4, rf_5000_5, rf_5000_15, rf_5000_16, rf_5000_18, rf_5000_19, rf_5000_20, rf_5000_21, rf_5000_22, rf_5000_23, rf_5000_24, rf_5000_25, rf_5000_26, rf_5000_27, rf_5000_36, rf_5000_37, rf_5000_40, rf_5000_41, rf_5000_42, rf_5000_43, rf_5000_44, rf_5000_45, rf_5000_47, rf_5000_52, rf_5000_54, rf_5000_55, rf_100_0, rf_100_1, rf_103_0, rf_103_1, rf_106_0, rf_106_1, rf_109_0, rf_109_1, al_2, al_4, al_5, al_7, al_8, al_10, al_11, al_12, al_14, al_15, al_17, al_18, al_19, al_20, al_22, al_23, al_24, al_25, al_27, al_28, al_29, al_30, al_32, al_33, al_34, al_35, al_37, al_38, al_40, al_42, al_5001, al_5002, al_5003, al_5004, al_5005, al_5006, al_5007, al_5008, al_5009, al_5010, al_5011, al_5012, al_5013, al_5014, al_5015, al_5016, al_5017, al_5018, al_5019, al_5020, al_5021, al_5022, al_5023, al_5024, al_5025, al_5026, al_9000, al_101, al_102, al_104, al_105, al_107, al_108, al_110, al_111, vcs_e, lg_c0, lg_cs, lg_nil, set_c0, set_cs, okst_0, okst_s, acok_n, acok_c, List.contains_nil, List.contains_cons, Bool.or_false, Bool.false_or, Bool.false_eq_true, if_false, if_true, ite_self, ne_eq, true_and, and_true, not_false_eq_true, not_true_eq_false, false_imp_iff, true_imp_iff, Nat.ble_eq, Bool.and_eq_true, reduceCtorEq, or_false, false_or, or_true, true_or, false_and, and_false, and_self, Int.reduceLE, Int.reduceAdd, Int.reduceSub, Int.reduceMul, Int.reduceNeg, Int.reduceLT, Int.reduceEq, Int.reduceNe, Nat.reduceBEq, Nat.reduceBNe, Nat.reduceEqDiff, amCmp_in, amCmp_lt, amCmp_le, amCmp_gt, amCmp_ge, amCmp_eq, amCmp_ne, Nat.reduceLeDiff, Nat.reduceSub, Bool.and_true, Bool.true_and, Bool.and_self, Bool.or_true, Bool.true_or, isRf_3, isRf_4, isRf_5, isRf_8, isRf_9, isRf_10, isRf_11, isRf_15, isRf_16, isRf_17, isRf_18, isRf_19, isRf_20, isRf_21, isRf_22, isRf_23, isRf_24, isRf_25, isRf_26, isRf_27, isRf_28, k_X9_firstOut_0, k_X9_firstOut_1, k_X9_firstOut_2, k_X9_firstOut_3, k_X9_firstOut_4, k_X9_firstOut_5, k_X9_firstOut_6, k_X9_firstOut_9, k_X9_firstOut_10, k_X9_firstOut_13, k_X9_firstOut_16, k_X9_firstOut_17, k_X9_firstOut_19, k_X9_firstOut_22, k_X9_firstOut_23, k_X9_firstOut_26, k_X9_firstOut_27, k_X9_firstOut_28, k_X9_firstOut_29, k_X9_firstOut_32, k_X9_firstOut_33, k_X9_firstOut_34, k_X9_firstOut_37, k_X9_firstOut_38, k_X9_firstOut_41, k_X9_firstOut_42, k_X9_firstOut_43, k_X9_firstOut_44, k_X9_firstOut_47, k_X9_firstOut_48, k_X9_firstOut_49, k_X9_firstOut_52, k_X9_firstOut_53, k_X9_firstOut_54, k_X9_firstOut_57, k_X9_firstOut_60, k_X9_firstOut_61]
    exact ⟨m.toNat, rfl, rfl, rfl, 0, rfl, by omega⟩
