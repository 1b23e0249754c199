/-! constructors: kinds whose references stand in the memory alone -/
def noC (k : Kd) : Kd := match k with
  | .inl x => .inl (x.1, fun _ => none)
  | .inr x => .inr x
def T0 (a : Int) : Kd := noC (TT a)
theorem T0_ok : amTok T0 := by
  intro a x h
  unfold T0 at h
  cases hT : TT a with
  | inl y => rw [hT] at h; cases h
  | inr y => rw [hT] at h; cases h; exact TT_ok a _ hT
theorem nl_newm {σ : Mem} {a b : Int} {f : Int → Int} (ha : 0 ≤ a) (h : b ≠ a) : nl (newm σ a f) b = nl σ b := by unfold nl; rw [newm_n σ ha h]
theorem nl_up {σ : Mem} {a b k v : Int} (ha : 0 ≤ a) : nl (up σ a k v) b = nl σ b := by unfold nl; rw [up_na σ (by omega)]
theorem newm_k (σ : Mem) {a b : Int} {f : Int → Int} (j : Int) (h : b ≠ a) (h2 : b ≠ -2) : newm σ a f b j = σ b j := by rw [newm_o σ h h2]
theorem no_0 : isNO T0 0 11 = True := eq_true ⟨_, rfl, fun _ => rfl⟩
theorem rf0_0_0 (σ : Mem) : rfv T0 σ 0 0 = σ 0 0 := rfl
theorem rf0_0_1 (σ : Mem) : rfv T0 σ 0 1 = σ 0 1 := rfl
theorem rf0_0_2 (σ : Mem) : rfv T0 σ 0 2 = σ 0 2 := rfl
theorem rf0_0_3 (σ : Mem) : rfv T0 σ 0 3 = σ 0 3 := rfl
theorem rf0_0_4 (σ : Mem) : rfv T0 σ 0 4 = σ 0 4 := rfl
theorem rf0_0_7 (σ : Mem) : rfv T0 σ 0 7 = σ 0 7 := rfl
theorem rf0_0_10 (σ : Mem) : rfv T0 σ 0 10 = σ 0 10 := rfl
theorem rf0_0_11 (σ : Mem) : rfv T0 σ 0 11 = σ 0 11 := rfl
theorem rf0_0_12 (σ : Mem) : rfv T0 σ 0 12 = σ 0 12 := rfl
theorem rf0_0_13 (σ : Mem) : rfv T0 σ 0 13 = σ 0 13 := rfl
theorem rf0_0_14 (σ : Mem) : rfv T0 σ 0 14 = σ 0 14 := rfl
theorem rf0_0_15 (σ : Mem) : rfv T0 σ 0 15 = σ 0 15 := rfl
theorem rf0_0_16 (σ : Mem) : rfv T0 σ 0 16 = σ 0 16 := rfl
theorem no_1 : isNO T0 1 10 = True := eq_true ⟨_, rfl, fun _ => rfl⟩
theorem rf0_1_0 (σ : Mem) : rfv T0 σ 1 0 = σ 1 0 := rfl
theorem na_2 : isNA T0 2 8 240 = True := eq_true ⟨240, rfl, Or.inl rfl⟩
theorem no_3 : isNO T0 3 6 = True := eq_true ⟨_, rfl, fun _ => rfl⟩
theorem rf0_3_0 (σ : Mem) : rfv T0 σ 3 0 = σ 3 0 := rfl
theorem rf0_3_1 (σ : Mem) : rfv T0 σ 3 1 = σ 3 1 := rfl
theorem na_4 : isNA T0 4 8 68 = True := eq_true ⟨68, rfl, Or.inl rfl⟩
theorem na_5 : isNA T0 5 8 4 = True := eq_true ⟨4, rfl, Or.inl rfl⟩
theorem no_6 : isNO T0 6 6 = True := eq_true ⟨_, rfl, fun _ => rfl⟩
theorem rf0_6_0 (σ : Mem) : rfv T0 σ 6 0 = σ 6 0 := rfl
theorem rf0_6_1 (σ : Mem) : rfv T0 σ 6 1 = σ 6 1 := rfl
theorem na_7 : isNA T0 7 8 68 = True := eq_true ⟨68, rfl, Or.inl rfl⟩
theorem na_8 : isNA T0 8 8 4 = True := eq_true ⟨4, rfl, Or.inl rfl⟩
theorem no_9 : isNO T0 9 3 = True := eq_true ⟨_, rfl, fun _ => rfl⟩
theorem rf0_9_0 (σ : Mem) : rfv T0 σ 9 0 = σ 9 0 := rfl
theorem rf0_9_1 (σ : Mem) : rfv T0 σ 9 1 = σ 9 1 := rfl
theorem rf0_9_3 (σ : Mem) : rfv T0 σ 9 3 = σ 9 3 := rfl
theorem na_10 : isNA T0 10 8 241 = True := eq_true ⟨241, rfl, Or.inl rfl⟩
theorem na_11 : isNA T0 11 8 64 = True := eq_true ⟨64, rfl, Or.inl rfl⟩
theorem na_12 : isNA T0 12 11 4 = True := eq_true ⟨4, rfl, Or.inl rfl⟩
theorem no_13 : isNO T0 13 7 = True := eq_true ⟨_, rfl, fun _ => rfl⟩
theorem rf0_13_0 (σ : Mem) : rfv T0 σ 13 0 = σ 13 0 := rfl
theorem rf0_13_1 (σ : Mem) : rfv T0 σ 13 1 = σ 13 1 := rfl
theorem rf0_13_2 (σ : Mem) : rfv T0 σ 13 2 = σ 13 2 := rfl
theorem na_14 : isNA T0 14 8 240 = True := eq_true ⟨240, rfl, Or.inl rfl⟩
theorem na_15 : isNA T0 15 8 5 = True := eq_true ⟨5, rfl, Or.inl rfl⟩
theorem no_16 : isNO T0 16 0 = True := eq_true ⟨_, rfl, fun _ => rfl⟩
theorem rf0_16_0 (σ : Mem) : rfv T0 σ 16 0 = σ 16 0 := rfl
theorem rf0_16_1 (σ : Mem) : rfv T0 σ 16 1 = σ 16 1 := rfl
theorem rf0_16_2 (σ : Mem) : rfv T0 σ 16 2 = σ 16 2 := rfl
theorem rf0_16_3 (σ : Mem) : rfv T0 σ 16 3 = σ 16 3 := rfl
theorem na_17 : isNA T0 17 8 6 = True := eq_true ⟨6, rfl, Or.inl rfl⟩
theorem na_18 : isNA T0 18 8 6 = True := eq_true ⟨6, rfl, Or.inl rfl⟩
theorem na_19 : isNA T0 19 8 6 = True := eq_true ⟨6, rfl, Or.inl rfl⟩
theorem na_20 : isNA T0 20 8 6 = True := eq_true ⟨6, rfl, Or.inl rfl⟩
theorem no_21 : isNO T0 21 0 = True := eq_true ⟨_, rfl, fun _ => rfl⟩
theorem rf0_21_0 (σ : Mem) : rfv T0 σ 21 0 = σ 21 0 := rfl
theorem rf0_21_1 (σ : Mem) : rfv T0 σ 21 1 = σ 21 1 := rfl
theorem rf0_21_2 (σ : Mem) : rfv T0 σ 21 2 = σ 21 2 := rfl
theorem rf0_21_3 (σ : Mem) : rfv T0 σ 21 3 = σ 21 3 := rfl
theorem na_22 : isNA T0 22 8 6 = True := eq_true ⟨6, rfl, Or.inl rfl⟩
theorem na_23 : isNA T0 23 8 6 = True := eq_true ⟨6, rfl, Or.inl rfl⟩
theorem na_24 : isNA T0 24 8 6 = True := eq_true ⟨6, rfl, Or.inl rfl⟩
theorem na_25 : isNA T0 25 8 6 = True := eq_true ⟨6, rfl, Or.inl rfl⟩
theorem no_26 : isNO T0 26 9 = True := eq_true ⟨_, rfl, fun _ => rfl⟩
theorem rf0_26_0 (σ : Mem) : rfv T0 σ 26 0 = σ 26 0 := rfl
theorem rf0_26_1 (σ : Mem) : rfv T0 σ 26 1 = σ 26 1 := rfl
theorem rf0_26_2 (σ : Mem) : rfv T0 σ 26 2 = σ 26 2 := rfl
theorem rf0_26_3 (σ : Mem) : rfv T0 σ 26 3 = σ 26 3 := rfl
theorem rf0_26_4 (σ : Mem) : rfv T0 σ 26 4 = σ 26 4 := rfl
theorem rf0_26_5 (σ : Mem) : rfv T0 σ 26 5 = σ 26 5 := rfl
theorem rf0_26_6 (σ : Mem) : rfv T0 σ 26 6 = σ 26 6 := rfl
theorem na_27 : isNA T0 27 8 6 = True := eq_true ⟨6, rfl, Or.inl rfl⟩
theorem na_28 : isNA T0 28 8 324 = True := eq_true ⟨324, rfl, Or.inl rfl⟩
theorem na_29 : isNA T0 29 8 6 = True := eq_true ⟨6, rfl, Or.inl rfl⟩
theorem na_30 : isNA T0 30 8 6 = True := eq_true ⟨6, rfl, Or.inl rfl⟩
theorem no_31 : isNO T0 31 5 = True := eq_true ⟨_, rfl, fun _ => rfl⟩
theorem rf0_31_0 (σ : Mem) : rfv T0 σ 31 0 = σ 31 0 := rfl
theorem rf0_31_2 (σ : Mem) : rfv T0 σ 31 2 = σ 31 2 := rfl
theorem rf0_31_5 (σ : Mem) : rfv T0 σ 31 5 = σ 31 5 := rfl
theorem rf0_31_6 (σ : Mem) : rfv T0 σ 31 6 = σ 31 6 := rfl
theorem na_32 : isNA T0 32 8 128 = True := eq_true ⟨128, rfl, Or.inl rfl⟩
theorem na_33 : isNA T0 33 8 1120 = True := eq_true ⟨1120, rfl, Or.inl rfl⟩
theorem na_34 : isNA T0 34 8 27 = True := eq_true ⟨27, rfl, Or.inl rfl⟩
theorem na_35 : isNA T0 35 8 60 = True := eq_true ⟨60, rfl, Or.inl rfl⟩
theorem no_36 : isNO T0 36 8 = True := eq_true ⟨_, rfl, fun _ => rfl⟩
theorem rf0_36_0 (σ : Mem) : rfv T0 σ 36 0 = σ 36 0 := rfl
theorem rf0_36_1 (σ : Mem) : rfv T0 σ 36 1 = σ 36 1 := rfl
theorem rf0_36_2 (σ : Mem) : rfv T0 σ 36 2 = σ 36 2 := rfl
theorem rf0_36_3 (σ : Mem) : rfv T0 σ 36 3 = σ 36 3 := rfl
theorem na_37 : isNA T0 37 9 64 = True := eq_true ⟨64, rfl, Or.inl rfl⟩
theorem na_38 : isNA T0 38 9 64 = True := eq_true ⟨64, rfl, Or.inl rfl⟩
theorem no_39 : isNO T0 39 4 = True := eq_true ⟨_, rfl, fun _ => rfl⟩
theorem rf0_39_0 (σ : Mem) : rfv T0 σ 39 0 = σ 39 0 := rfl
theorem rf0_39_1 (σ : Mem) : rfv T0 σ 39 1 = σ 39 1 := rfl
theorem rf0_39_2 (σ : Mem) : rfv T0 σ 39 2 = σ 39 2 := rfl
theorem na_40 : isNA T0 40 8 24 = True := eq_true ⟨24, rfl, Or.inl rfl⟩
theorem no_41 : isNO T0 41 1 = True := eq_true ⟨_, rfl, fun _ => rfl⟩
theorem rf0_41_0 (σ : Mem) : rfv T0 σ 41 0 = σ 41 0 := rfl
theorem rf0_41_1 (σ : Mem) : rfv T0 σ 41 1 = σ 41 1 := rfl
theorem rf0_41_2 (σ : Mem) : rfv T0 σ 41 2 = σ 41 2 := rfl
theorem rf0_41_3 (σ : Mem) : rfv T0 σ 41 3 = σ 41 3 := rfl
theorem na_42 : isNA T0 42 8 50 = True := eq_true ⟨50, rfl, Or.inl rfl⟩
theorem no_5000 : isNO T0 5000 12 = True := eq_true ⟨_, rfl, fun _ => rfl⟩
theorem rf0_5000_1 (σ : Mem) : rfv T0 σ 5000 1 = σ 5000 1 := rfl
theorem rf0_5000_2 (σ : Mem) : rfv T0 σ 5000 2 = σ 5000 2 := rfl
theorem rf0_5000_3 (σ : Mem) : rfv T0 σ 5000 3 = σ 5000 3 := rfl
theorem rf0_5000_4 (σ : Mem) : rfv T0 σ 5000 4 = σ 5000 4 := rfl
theorem rf0_5000_5 (σ : Mem) : rfv T0 σ 5000 5 = σ 5000 5 := rfl
theorem rf0_5000_15 (σ : Mem) : rfv T0 σ 5000 15 = σ 5000 15 := rfl
theorem rf0_5000_16 (σ : Mem) : rfv T0 σ 5000 16 = σ 5000 16 := rfl
theorem rf0_5000_18 (σ : Mem) : rfv T0 σ 5000 18 = σ 5000 18 := rfl
theorem rf0_5000_19 (σ : Mem) : rfv T0 σ 5000 19 = σ 5000 19 := rfl
theorem rf0_5000_20 (σ : Mem) : rfv T0 σ 5000 20 = σ 5000 20 := rfl
theorem rf0_5000_21 (σ : Mem) : rfv T0 σ 5000 21 = σ 5000 21 := rfl
theorem rf0_5000_22 (σ : Mem) : rfv T0 σ 5000 22 = σ 5000 22 := rfl
theorem rf0_5000_23 (σ : Mem) : rfv T0 σ 5000 23 = σ 5000 23 := rfl
theorem rf0_5000_24 (σ : Mem) : rfv T0 σ 5000 24 = σ 5000 24 := rfl
theorem rf0_5000_25 (σ : Mem) : rfv T0 σ 5000 25 = σ 5000 25 := rfl
theorem rf0_5000_26 (σ : Mem) : rfv T0 σ 5000 26 = σ 5000 26 := rfl
theorem rf0_5000_27 (σ : Mem) : rfv T0 σ 5000 27 = σ 5000 27 := rfl
theorem rf0_5000_36 (σ : Mem) : rfv T0 σ 5000 36 = σ 5000 36 := rfl
theorem rf0_5000_37 (σ : Mem) : rfv T0 σ 5000 37 = σ 5000 37 := rfl
theorem rf0_5000_40 (σ : Mem) : rfv T0 σ 5000 40 = σ 5000 40 := rfl
theorem rf0_5000_41 (σ : Mem) : rfv T0 σ 5000 41 = σ 5000 41 := rfl
theorem rf0_5000_42 (σ : Mem) : rfv T0 σ 5000 42 = σ 5000 42 := rfl
theorem rf0_5000_43 (σ : Mem) : rfv T0 σ 5000 43 = σ 5000 43 := rfl
theorem rf0_5000_44 (σ : Mem) : rfv T0 σ 5000 44 = σ 5000 44 := rfl
theorem rf0_5000_45 (σ : Mem) : rfv T0 σ 5000 45 = σ 5000 45 := rfl
theorem rf0_5000_47 (σ : Mem) : rfv T0 σ 5000 47 = σ 5000 47 := rfl
theorem rf0_5000_52 (σ : Mem) : rfv T0 σ 5000 52 = σ 5000 52 := rfl
theorem rf0_5000_54 (σ : Mem) : rfv T0 σ 5000 54 = σ 5000 54 := rfl
theorem rf0_5000_55 (σ : Mem) : rfv T0 σ 5000 55 = σ 5000 55 := rfl
theorem na_5001 : isNA T0 5001 10 240 = True := eq_true ⟨240, rfl, Or.inl rfl⟩
theorem na_5002 : isNA T0 5002 10 960 = True := eq_true ⟨960, rfl, Or.inl rfl⟩
theorem na_5003 : isNA T0 5003 8 4 = True := eq_true ⟨4, rfl, Or.inl rfl⟩
theorem na_5004 : isNA T0 5004 8 128 = True := eq_true ⟨128, rfl, Or.inl rfl⟩
theorem na_5005 : isNA T0 5005 8 2 = True := eq_true ⟨2, rfl, Or.inl rfl⟩
theorem na_5006 : isNA T0 5006 8 2 = True := eq_true ⟨2, rfl, Or.inl rfl⟩
theorem na_5007 : isNA T0 5007 8 16 = True := eq_true ⟨16, rfl, Or.inl rfl⟩
theorem na_5008 : isNA T0 5008 8 16 = True := eq_true ⟨16, rfl, Or.inl rfl⟩
theorem na_5009 : isNA T0 5009 8 18 = True := eq_true ⟨18, rfl, Or.inl rfl⟩
theorem na_5010 : isNA T0 5010 8 18 = True := eq_true ⟨18, rfl, Or.inl rfl⟩
theorem na_5011 : isNA T0 5011 8 6 = True := eq_true ⟨6, rfl, Or.inl rfl⟩
theorem na_5012 : isNA T0 5012 8 6 = True := eq_true ⟨6, rfl, Or.inl rfl⟩
theorem na_5013 : isNA T0 5013 8 240 = True := eq_true ⟨240, rfl, Or.inl rfl⟩
theorem na_5014 : isNA T0 5014 8 5 = True := eq_true ⟨5, rfl, Or.inl rfl⟩
theorem na_5015 : isNA T0 5015 8 208 = True := eq_true ⟨208, rfl, Or.inl rfl⟩
theorem na_5016 : isNA T0 5016 8 208 = True := eq_true ⟨208, rfl, Or.inl rfl⟩
theorem na_5017 : isNA T0 5017 9 8191 = True := eq_true ⟨8191, rfl, Or.inl rfl⟩
theorem na_5018 : isNA T0 5018 8 8191 = True := eq_true ⟨8191, rfl, Or.inl rfl⟩
theorem na_5019 : isNA T0 5019 8 6 = True := eq_true ⟨6, rfl, Or.inl rfl⟩
theorem na_5020 : isNA T0 5020 8 6 = True := eq_true ⟨6, rfl, Or.inl rfl⟩
theorem na_5021 : isNA T0 5021 8 6 = True := eq_true ⟨6, rfl, Or.inl rfl⟩
theorem na_5022 : isNA T0 5022 8 6 = True := eq_true ⟨6, rfl, Or.inl rfl⟩
theorem na_5023 : isNA T0 5023 8 8320 = True := eq_true ⟨8320, rfl, Or.inl rfl⟩
theorem na_5024 : isNA T0 5024 8 50 = True := eq_true ⟨50, rfl, Or.inl rfl⟩
theorem na_5025 : isNA T0 5025 8 72 = True := eq_true ⟨72, rfl, Or.inl rfl⟩
theorem na_5026 : isNA T0 5026 8 208 = True := eq_true ⟨208, rfl, Or.inl rfl⟩
theorem na_9000 : isNA T0 9000 9 1 = True := eq_true ⟨1, rfl, Or.inl rfl⟩
def ini10 (σ : Mem) (a : Int) : Mem := up (up (up (newm (σ) (a + 1) (dfa 240)) a 0 (a + 1)) a 1 0) a 2 0
theorem ini10_o (σ : Mem) {a b9 : Int} (h : b9 ≠ a) (h1 : b9 ≠ a + 1) (hm : b9 ≠ -2) : ini10 σ a b9 = σ b9 := by
  unfold ini10
  simp only [up_na _ h, newm_o _ h1 hm]
theorem ini10_k (σ : Mem) {a b9 : Int} (j : Int) (h : b9 ≠ a) (h1 : b9 ≠ a + 1) (hm : b9 ≠ -2) : ini10 σ a b9 j = σ b9 j := by rw [ini10_o σ h h1 hm]
theorem ini10_n {σ : Mem} {a b9 : Int} (ha : 0 ≤ a) (h1 : b9 ≠ a + 1) : nl (ini10 σ a) b9 = nl σ b9 := by
  unfold ini10
  simp only [nl_up ha, nl_newm (show 0 ≤ a + 1 by omega) h1]
theorem wd_40 : Cond.methodLink RX10 3 Lib.objectInit ∈ TBL := tb_tab (List.mem_of_getElem? (i := 40) (by decide +kernel)) rfl
theorem wd_33 : Cond.instanceMethod Lib.objectInit ∈ TBL := tb_tab (List.mem_of_getElem? (i := 33) (by decide +kernel)) rfl
theorem wd_34 : Cond.code Lib.objectInit ⟨#[0xb1]⟩ 1 none ∈ TBL := tb_tab (List.mem_of_getElem? (i := 34) (by decide +kernel)) rfl
theorem wd_57 : Cond.arrayClass .int ∈ TBL := tb_tab (List.mem_of_getElem? (i := 57) (by decide +kernel)) rfl
theorem fp_X10_11 : amFp RX10 10 0 11 RX10 TX10 3 tyX10 (.array .int) := ⟨fl_X10_11, tyX10_ok, nmX10, by decide +kernel⟩
def a_X10_init  : AC := [(0, vAload 0 1), (1, vObj 4), (4, vAload 0 5), (5, vI 240 8), (8, vNewA T0 8 dfa (fun ls σ => (lg ls 0).2 + 1) 1 240 1 10), (10, vPutR T0 26 0 8 0 13), (13, vAload 0 14), (14, vI 0 15), (15, vPutI 26 1 18), (18, vAload 0 19), (19, vI 0 20), (20, vPutI 26 2 23), (23, vVret)]
theorem k_X10_init_0  : look a_X10_init 0 = vAload 0 1 := rfl
theorem k_X10_init_1  : look a_X10_init 1 = vObj 4 := rfl
theorem k_X10_init_4  : look a_X10_init 4 = vAload 0 5 := rfl
theorem k_X10_init_5  : look a_X10_init 5 = vI 240 8 := rfl
theorem k_X10_init_8  : look a_X10_init 8 = vNewA T0 8 dfa (fun ls σ => (lg ls 0).2 + 1) 1 240 1 10 := rfl
theorem k_X10_init_10  : look a_X10_init 10 = vPutR T0 26 0 8 0 13 := rfl
theorem k_X10_init_13  : look a_X10_init 13 = vAload 0 14 := rfl
theorem k_X10_init_14  : look a_X10_init 14 = vI 0 15 := rfl
theorem k_X10_init_15  : look a_X10_init 15 = vPutI 26 1 18 := rfl
theorem k_X10_init_18  : look a_X10_init 18 = vAload 0 19 := rfl
theorem k_X10_init_19  : look a_X10_init 19 = vI 0 20 := rfl
theorem k_X10_init_20  : look a_X10_init 20 = vPutI 26 2 23 := rfl
theorem k_X10_init_23  : look a_X10_init 23 = vVret := rfl
theorem o_X10_init {X : amX}  (e1 : XT X = T0) (e2 : XD X = 1) (e3 : XC X = 1) (e4 : XS X = 240) (hin : (XM X).name = "<init>") (hE : Eno (Xn X) (Xst X)) (hB : amB X RX10 cX10_init (none) 1) : ∀ pc, amOK X pc (look a_X10_init pc) := by
  have hT : amTok (XT X) := e1 ▸ T0_ok
  refine look_ok ?_
  unfold a_X10_init
  refine fc (ok_aload_n hB dX10_init_0) ?_
  refine fc (ok_obj hB (by rw [e2]; decide) wd_40 wd_33 wd_34 dX10_init_1) ?_
  refine fc (ok_aload_n hB dX10_init_4) ?_
  refine fc (ok_sipush hB dX10_init_5 (by decide)) ?_
  refine fc (ok_newA8 hB e1 e3 e4 wd_57 _ dX10_init_8) ?_
  refine fc (okt_putRF e1 hB hT fp_X10_11 (rt_arr _) rfl hin rfl rfl rfl af_10_0 at_10_0 (by decide) (by decide) dX10_init_10) ?_
  refine fc (ok_aload_n hB dX10_init_13) ?_
  refine fc (ok_iconst hB dX10_init_14) ?_
  refine fc (ok_putI hB hT fp_X10_15 rfl rfl rfl af_10_1 dX10_init_15) ?_
  refine fc (ok_aload_n hB dX10_init_18) ?_
  refine fc (ok_iconst hB dX10_init_19) ?_
  refine fc (ok_putI hB hT fp_X10_19 rfl rfl rfl af_10_2 dX10_init_20) ?_
  refine fc (ok_vret hB dX10_init_23) ?_
  exact fn


def w_X10_init : WP := fun av σ Q => ∃ (a : Int), av = [(26, a)] ∧ ((a = 1) ∧ nl σ (a + 1) ∧ Q (6, 0) (ini10 σ a))
theorem w_X10_init_e (a : Int) (σ : Mem) (Q : AV → Mem → Prop) : w_X10_init [(26, a)] σ Q = ((a = 1) ∧ nl σ (a + 1) ∧ Q (6, 0) (ini10 σ a)) := by
  apply propext; constructor
  · rintro ⟨a', h9, hb9⟩; cases h9; exact hb9
  · intro hb9; exact ⟨a, rfl, hb9⟩

set_option maxRecDepth 100000 in
set_option maxHeartbeats 4000000 in
theorem s_X10_init  : ∀ av σ Q, w_X10_init  av σ Q → amCallE Eno 1 1 240 T0 yX10_init cX10_init 1 (none) av σ Q := by
  rintro av σ Q ⟨a, rfl, ha, h1, h⟩
  unfold ini10 at h
  subst ha
  simp only [Int.reduceAdd] at h h1
  refine am_methodE (own := RX10) (A := look a_X10_init) (fun X e1 e2 e3 e4 h5 hE hB => o_X10_init  e1 e2 e3 e4 h5 hE hB) rfl (by decide +kernel) rfl rfl 59 (w := 3) ?_
  change vcs _ _ _ _ 59 0 [(26, 1), (6, 0), (6, 0)] [] σ
  simp only [vNew_e, vNewA_e, vCallI_e0, vCallI_e1, vCallI_e2, vCallI_e3, vCallMA_e0, vCallMA_e1, vCallSA_e2, vObj_e, cnt_e, List.length_cons, List.length_nil, Nat.zero_add, Nat.reduceAdd, Nat.reduceLT, Int.reduceAdd, Nat.reduceLeDiff, ↓reduceIte, vSw2_e, swP_n, swP_c, vI_e, vL_e, vNull_e, vIload_e, vLload_e, vAload_e, vIstore_e, vLstore_e, vAstore_e, vIinc_e, vIadd_e, vIsub_e, vImul_e, vIand_e, vIor_e, vIxor_e, vIshl_e, vIshr_e, vIushr_e, vIdiv_e, vIrem_e, vLadd_e, vLsub_e, vLmul_e, vLand_e, vLor_e, vLxor_e, vLdiv_e, vLrem_e, vLushr_e, vLshl_e, vLcmp_e, vIneg_e, vI2l_e, vL2i_e, vI2b_e, vI2c_e, vDup_e, vPop_e, vDup2_e, vGoto_e, vIcEq_e, vIfEq_e, vIcNe_e, vIfNe_e, vIcLt_e, vIfLt_e, vIcGe_e, vIfGe_e, vIcGt_e, vIfGt_e, vIcLe_e, vIfLe_e, vNonnull_e, vSw_e, vGetI_e, vGetL_e, vGetR_e, vPutI_e, vPutZ_e, vPutL_e, vPutR_e, vIald_e, vIald_s, vLald_e, vBald_e, vBald_s, vAald_e, vIast_e, vLast_e, vBast_e, vAast_e, vAlen_e8, vAlen_e9, vAlen_e10, vAlen_e11, vAlen_e5, vAlen_e3, vGets_e, vCompact_e, vLdcS_e, vIret_e, vZret_e, vCret_e, vBret_e, vLret_e, vVret_e, vAret_e, vCallM_e0, vCallMV_e0, vCallS_e0, vCallSV_e0, vCallM_e1, vCallMV_e1, vCallS_e1, vCallSV_e1, vCallM_e2, vCallMV_e2, vCallS_e2, vCallSV_e2, vCallM_e3, vCallMV_e3, vCallS_e3, vCallSV_e3, vCallM_e4, vCallMV_e4, vCallS_e4, vCallSV_e4, vCallM_e5, vCallMV_e5, vCallS_e5, vCallSV_e5, vCallM_e6, vCallMV_e6, vCallS_e6, vCallSV_e6, vCallM_e7, vCallMV_e7, vCallS_e7, vCallSV_e7, vBad_e, vStrVal_e, vStrCod_e, vForm_e, vCallT_e0, vCallT_e1, vCallT_e2, vCopy_e, rf_0_0, rf_0_1, rf_0_2, rf_0_3, rf_0_4, rf_0_7, rf_0_10, rf_0_11, rf_0_12, rf_0_13, rf_0_14, rf_0_15, rf_0_16, rf_1_0, rf_3_0, rf_3_1, rf_6_0, rf_6_1, rf_9_0, rf_9_1, rf_9_3, rf_13_0, rf_13_1, rf_13_2, rf_16_0, rf_16_1, rf_16_2, rf_16_3, rf_21_0, rf_21_1, rf_21_2, rf_21_3, rf_26_0, rf_26_1, rf_26_2, rf_26_3, rf_26_4, rf_26_5, rf_26_6, rf_31_0, rf_31_2, rf_31_5, rf_31_6, rf_36_0, rf_36_1, rf_36_2, rf_36_3, rf_39_0, rf_39_1, rf_39_2, rf_41_0, rf_41_1, rf_41_2, rf_41_3, rf_5000_1, rf_5000_2, rf_5000_3, rf_5000_4, rf_5000_5, rf_5000_15, rf_5000_16, rf_5000_18, rf_5000_19, rf_5000_20, rf_5000_21, rf_5000_22, rf_5000_23, rf_5000_24, rf_5000_25, rf_5000_26, rf_5000_27, rf_5000_36, rf_5000_37, rf_5000_40, rf_5000_41, rf_5000_42, rf_5000_43, rf_5000_44, rf_5000_45, rf_5000_47, rf_5000_52, rf_5000_54, rf_5000_55, rf_100_0, rf_100_1, rf_103_0, rf_103_1, rf_106_0, rf_106_1, rf_109_0, rf_109_1, al_2, al_4, al_5, al_7, al_8, al_10, al_11, al_12, al_14, al_15, al_17, al_18, al_19, al_20, al_22, al_23, al_24, al_25, al_27, al_28, al_29, al_30, al_32, al_33, al_34, al_35, al_37, al_38, al_40, al_42, al_5001, al_5002, al_5003, al_5004, al_5005, al_5006, al_5007, al_5008, al_5009, al_5010, al_5011, al_5012, al_5013, al_5014, al_5015, al_5016, al_5017, al_5018, al_5019, al_5020, al_5021, al_5022, al_5023, al_5024, al_5025, al_5026, al_9000, al_101, al_102, al_104, al_105, al_107, al_108, al_110, al_111, vcs_e, lg_c0, lg_cs, lg_nil, set_c0, set_cs, okst_0, okst_s, acok_n, acok_c, List.contains_nil, List.contains_cons, Bool.or_false, Bool.false_or, Bool.false_eq_true, if_false, if_true, ite_self, ne_eq, true_and, and_true, not_false_eq_true, not_true_eq_false, false_imp_iff, true_imp_iff, Nat.ble_eq, Bool.and_eq_true, reduceCtorEq, or_false, false_or, or_true, true_or, false_and, and_false, and_self, Int.reduceLE, Int.reduceAdd, Int.reduceSub, Int.reduceMul, Int.reduceNeg, Int.reduceLT, Int.reduceEq, Int.reduceNe, Nat.reduceBEq, Nat.reduceBNe, Nat.reduceEqDiff, amCmp_in, amCmp_lt, amCmp_le, amCmp_gt, amCmp_ge, amCmp_eq, amCmp_ne, Nat.reduceLeDiff, Nat.reduceSub, Bool.and_true, Bool.true_and, Bool.and_self, Bool.or_true, Bool.true_or, isRf_3, isRf_4, isRf_5, isRf_8, isRf_9, isRf_10, isRf_11, isRf_15, isRf_16, isRf_17, isRf_18, isRf_19, isRf_20, isRf_21, isRf_22, isRf_23, isRf_24, isRf_25, isRf_26, isRf_27, isRf_28, k_X10_init_0, k_X10_init_1, k_X10_init_4, k_X10_init_5, k_X10_init_8, k_X10_init_10, k_X10_init_13, k_X10_init_14, k_X10_init_15, k_X10_init_18, k_X10_init_19, k_X10_init_20, k_X10_init_23, up_s, up_nj, up_na, up_up, savR_o, cpy_o, fillm_o, setAud_o, setv_o, setv_s, Int.reduceNe, Int.reduceEq, Int.reduceLT, Int.reduceAdd, not_false_eq_true, ne_eq, or_true, true_or, nl_newm, nl_up, rf0_1_0, rf0_3_0, rf0_3_1, rf0_6_0, rf0_6_1, no_1, no_3, no_6, na_2, na_4, na_5, newm_k, newm_s]
  repeat' (first | assumption | apply And.intro | intro _)
  all_goals first | omega | exact rfl | exact Or.inl rfl | exact Or.inr rfl | decide
def ini6 (σ : Mem) (a : Int) : Mem := up (newm (up (newm (σ) (a + 1) (dfa 68)) a 0 (a + 1)) (a + 2) (dfa 4)) a 1 (a + 2)
theorem ini6_o (σ : Mem) {a b9 : Int} (h : b9 ≠ a) (h1 : b9 ≠ a + 1) (h2 : b9 ≠ a + 2) (hm : b9 ≠ -2) : ini6 σ a b9 = σ b9 := by
  unfold ini6
  simp only [up_na _ h, newm_o _ h1 hm, newm_o _ h2 hm]
theorem ini6_k (σ : Mem) {a b9 : Int} (j : Int) (h : b9 ≠ a) (h1 : b9 ≠ a + 1) (h2 : b9 ≠ a + 2) (hm : b9 ≠ -2) : ini6 σ a b9 j = σ b9 j := by rw [ini6_o σ h h1 h2 hm]
theorem ini6_n {σ : Mem} {a b9 : Int} (ha : 0 ≤ a) (h1 : b9 ≠ a + 1) (h2 : b9 ≠ a + 2) : nl (ini6 σ a) b9 = nl σ b9 := by
  unfold ini6
  simp only [nl_up ha, nl_newm (show 0 ≤ a + 1 by omega) h1, nl_newm (show 0 ≤ a + 2 by omega) h2]
theorem wd_63 : Cond.methodLink RX6 3 Lib.objectInit ∈ TBL := tb_tab (List.mem_of_getElem? (i := 63) (by decide +kernel)) rfl
theorem fp_X6_11 : amFp RX6 6 0 11 RX6 TX6 2 tyX6 (.array .int) := ⟨fl_X6_11, tyX6_ok, nmX6, by decide +kernel⟩
theorem fp_X6_15 : amFp RX6 6 1 15 RX6 TX6 2 tyX6 (.array .int) := ⟨fl_X6_15, tyX6_ok, nmX6, by decide +kernel⟩
def a_X6_init  : AC := [(0, vAload 0 1), (1, vObj 4), (4, vAload 0 5), (5, vI 68 7), (7, vNewA T0 8 dfa (fun ls σ => (lg ls 0).2 + 1) 2 72 1 9), (9, vPutR T0 22 0 8 0 12), (12, vAload 0 13), (13, vI 4 14), (14, vNewA T0 8 dfa (fun ls σ => (lg ls 0).2 + 2) 2 72 1 16), (16, vPutR T0 22 1 8 1 19), (19, vVret)]
theorem k_X6_init_0  : look a_X6_init 0 = vAload 0 1 := rfl
theorem k_X6_init_1  : look a_X6_init 1 = vObj 4 := rfl
theorem k_X6_init_4  : look a_X6_init 4 = vAload 0 5 := rfl
theorem k_X6_init_5  : look a_X6_init 5 = vI 68 7 := rfl
theorem k_X6_init_7  : look a_X6_init 7 = vNewA T0 8 dfa (fun ls σ => (lg ls 0).2 + 1) 2 72 1 9 := rfl
theorem k_X6_init_9  : look a_X6_init 9 = vPutR T0 22 0 8 0 12 := rfl
theorem k_X6_init_12  : look a_X6_init 12 = vAload 0 13 := rfl
theorem k_X6_init_13  : look a_X6_init 13 = vI 4 14 := rfl
theorem k_X6_init_14  : look a_X6_init 14 = vNewA T0 8 dfa (fun ls σ => (lg ls 0).2 + 2) 2 72 1 16 := rfl
theorem k_X6_init_16  : look a_X6_init 16 = vPutR T0 22 1 8 1 19 := rfl
theorem k_X6_init_19  : look a_X6_init 19 = vVret := rfl
theorem o_X6_init {X : amX}  (e1 : XT X = T0) (e2 : XD X = 1) (e3 : XC X = 2) (e4 : XS X = 72) (hin : (XM X).name = "<init>") (hE : Eno (Xn X) (Xst X)) (hB : amB X RX6 cX6_init (none) 1) : ∀ pc, amOK X pc (look a_X6_init pc) := by
  have hT : amTok (XT X) := e1 ▸ T0_ok
  refine look_ok ?_
  unfold a_X6_init
  refine fc (ok_aload_n hB dX6_init_0) ?_
  refine fc (ok_obj hB (by rw [e2]; decide) wd_63 wd_33 wd_34 dX6_init_1) ?_
  refine fc (ok_aload_n hB dX6_init_4) ?_
  refine fc (ok_bipush hB dX6_init_5 (by decide)) ?_
  refine fc (ok_newA8 hB e1 e3 e4 wd_57 _ dX6_init_7) ?_
  refine fc (okt_putRF e1 hB hT fp_X6_11 (rt_arr _) rfl hin rfl rfl rfl af_6_0 at_6_0 (by decide) (by decide) dX6_init_9) ?_
  refine fc (ok_aload_n hB dX6_init_12) ?_
  refine fc (ok_iconst hB dX6_init_13) ?_
  refine fc (ok_newA8 hB e1 e3 e4 wd_57 _ dX6_init_14) ?_
  refine fc (okt_putRF e1 hB hT fp_X6_15 (rt_arr _) rfl hin rfl rfl rfl af_6_1 at_6_1 (by decide) (by decide) dX6_init_16) ?_
  refine fc (ok_vret hB dX6_init_19) ?_
  exact fn


def w_X6_init : WP := fun av σ Q => ∃ (a : Int), av = [(22, a)] ∧ ((a = 3 ∨ a = 6) ∧ nl σ (a + 1) ∧ nl σ (a + 2) ∧ Q (6, 0) (ini6 σ a))
theorem w_X6_init_e (a : Int) (σ : Mem) (Q : AV → Mem → Prop) : w_X6_init [(22, a)] σ Q = ((a = 3 ∨ a = 6) ∧ nl σ (a + 1) ∧ nl σ (a + 2) ∧ Q (6, 0) (ini6 σ a)) := by
  apply propext; constructor
  · rintro ⟨a', h9, hb9⟩; cases h9; exact hb9
  · intro hb9; exact ⟨a, rfl, hb9⟩

set_option maxRecDepth 100000 in
set_option maxHeartbeats 4000000 in
theorem s_X6_init  : ∀ av σ Q, w_X6_init  av σ Q → amCallE Eno 1 2 72 T0 yX6_init cX6_init 1 (none) av σ Q := by
  rintro av σ Q ⟨a, rfl, ha, h1, h2, h⟩
  unfold ini6 at h
  rcases ha with rfl | rfl
  · simp only [Int.reduceAdd] at h h1 h2
    refine am_methodE (own := RX6) (A := look a_X6_init) (fun X e1 e2 e3 e4 h5 hE hB => o_X6_init  e1 e2 e3 e4 h5 hE hB) rfl (by decide +kernel) rfl rfl 53 (w := 3) ?_
    change vcs _ _ _ _ 53 0 [(22, 3), (6, 0), (6, 0)] [] σ
    simp only [vNew_e, vNewA_e, vCallI_e0, vCallI_e1, vCallI_e2, vCallI_e3, vCallMA_e0, vCallMA_e1, vCallSA_e2, vObj_e, cnt_e, List.length_cons, List.length_nil, Nat.zero_add, Nat.reduceAdd, Nat.reduceLT, Int.reduceAdd, Nat.reduceLeDiff, ↓reduceIte, vSw2_e, swP_n, swP_c, vI_e, vL_e, vNull_e, vIload_e, vLload_e, vAload_e, vIstore_e, vLstore_e, vAstore_e, vIinc_e, vIadd_e, vIsub_e, vImul_e, vIand_e, vIor_e, vIxor_e, vIshl_e, vIshr_e, vIushr_e, vIdiv_e, vIrem_e, vLadd_e, vLsub_e, vLmul_e, vLand_e, vLor_e, vLxor_e, vLdiv_e, vLrem_e, vLushr_e, vLshl_e, vLcmp_e, vIneg_e, vI2l_e, vL2i_e, vI2b_e, vI2c_e, vDup_e, vPop_e, vDup2_e, vGoto_e, vIcEq_e, vIfEq_e, vIcNe_e, vIfNe_e, vIcLt_e, vIfLt_e, vIcGe_e, vIfGe_e, vIcGt_e, vIfGt_e, vIcLe_e, vIfLe_e, vNonnull_e, vSw_e, vGetI_e, vGetL_e, vGetR_e, vPutI_e, vPutZ_e, vPutL_e, vPutR_e, vIald_e, vIald_s, vLald_e, vBald_e, vBald_s, vAald_e, vIast_e, vLast_e, vBast_e, vAast_e, vAlen_e8, vAlen_e9, vAlen_e10, vAlen_e11, vAlen_e5, vAlen_e3, vGets_e, vCompact_e, vLdcS_e, vIret_e, vZret_e, vCret_e, vBret_e, vLret_e, vVret_e, vAret_e, vCallM_e0, vCallMV_e0, vCallS_e0, vCallSV_e0, vCallM_e1, vCallMV_e1, vCallS_e1, vCallSV_e1, vCallM_e2, vCallMV_e2, vCallS_e2, vCallSV_e2, vCallM_e3, vCallMV_e3, vCallS_e3, vCallSV_e3, vCallM_e4, vCallMV_e4, vCallS_e4, vCallSV_e4, vCallM_e5, vCallMV_e5, vCallS_e5, vCallSV_e5, vCallM_e6, vCallMV_e6, vCallS_e6, vCallSV_e6, vCallM_e7, vCallMV_e7, vCallS_e7, vCallSV_e7, vBad_e, vStrVal_e, vStrCod_e, vForm_e, vCallT_e0, vCallT_e1, vCallT_e2, vCopy_e, rf_0_0, rf_0_1, rf_0_2, rf_0_3, rf_0_4, rf_0_7, rf_0_10, rf_0_11, rf_0_12, rf_0_13, rf_0_14, rf_0_15, rf_0_16, rf_1_0, rf_3_0, rf_3_1, rf_6_0, rf_6_1, rf_9_0, rf_9_1, rf_9_3, rf_13_0, rf_13_1, rf_13_2, rf_16_0, rf_16_1, rf_16_2, rf_16_3, rf_21_0, rf_21_1, rf_21_2, rf_21_3, rf_26_0, rf_26_1, rf_26_2, rf_26_3, rf_26_4, rf_26_5, rf_26_6, rf_31_0, rf_31_2, rf_31_5, rf_31_6, rf_36_0, rf_36_1, rf_36_2, rf_36_3, rf_39_0, rf_39_1, rf_39_2, rf_41_0, rf_41_1, rf_41_2, rf_41_3, rf_5000_1, rf_5000_2, rf_5000_3, rf_5000_4, rf_5000_5, rf_5000_15, rf_5000_16, rf_5000_18, rf_5000_19, rf_5000_20, rf_5000_21, rf_5000_22, rf_5000_23, rf_5000_24, rf_5000_25, rf_5000_26, rf_5000_27, rf_5000_36, rf_5000_37, rf_5000_40, rf_5000_41, rf_5000_42, rf_5000_43, rf_5000_44, rf_5000_45, rf_5000_47, rf_5000_52, rf_5000_54, rf_5000_55, rf_100_0, rf_100_1, rf_103_0, rf_103_1, rf_106_0, rf_106_1, rf_109_0, rf_109_1, al_2, al_4, al_5, al_7, al_8, al_10, al_11, al_12, al_14, al_15, al_17, al_18, al_19, al_20, al_22, al_23, al_24, al_25, al_27, al_28, al_29, al_30, al_32, al_33, al_34, al_35, al_37, al_38, al_40, al_42, al_5001, al_5002, al_5003, al_5004, al_5005, al_5006, al_5007, al_5008, al_5009, al_5010, al_5011, al_5012, al_5013, al_5014, al_5015, al_5016, al_5017, al_5018, al_5019, al_5020, al_5021, al_5022, al_5023, al_5024, al_5025, al_5026, al_9000, al_101, al_102, al_104, al_105, al_107, al_108, al_110, al_111, vcs_e, lg_c0, lg_cs, lg_nil, set_c0, set_cs, okst_0, okst_s, acok_n, acok_c, List.contains_nil, List.contains_cons, Bool.or_false, Bool.false_or, Bool.false_eq_true, if_false, if_true, ite_self, ne_eq, true_and, and_true, not_false_eq_true, not_true_eq_false, false_imp_iff, true_imp_iff, Nat.ble_eq, Bool.and_eq_true, reduceCtorEq, or_false, false_or, or_true, true_or, false_and, and_false, and_self, Int.reduceLE, Int.reduceAdd, Int.reduceSub, Int.reduceMul, Int.reduceNeg, Int.reduceLT, Int.reduceEq, Int.reduceNe, Nat.reduceBEq, Nat.reduceBNe, Nat.reduceEqDiff, amCmp_in, amCmp_lt, amCmp_le, amCmp_gt, amCmp_ge, amCmp_eq, amCmp_ne, Nat.reduceLeDiff, Nat.reduceSub, Bool.and_true, Bool.true_and, Bool.and_self, Bool.or_true, Bool.true_or, isRf_3, isRf_4, isRf_5, isRf_8, isRf_9, isRf_10, isRf_11, isRf_15, isRf_16, isRf_17, isRf_18, isRf_19, isRf_20, isRf_21, isRf_22, isRf_23, isRf_24, isRf_25, isRf_26, isRf_27, isRf_28, k_X6_init_0, k_X6_init_1, k_X6_init_4, k_X6_init_5, k_X6_init_7, k_X6_init_9, k_X6_init_12, k_X6_init_13, k_X6_init_14, k_X6_init_16, k_X6_init_19, up_s, up_nj, up_na, up_up, savR_o, cpy_o, fillm_o, setAud_o, setv_o, setv_s, Int.reduceNe, Int.reduceEq, Int.reduceLT, Int.reduceAdd, not_false_eq_true, ne_eq, or_true, true_or, nl_newm, nl_up, rf0_3_0, rf0_3_1, rf0_6_0, rf0_6_1, no_3, no_6, na_4, na_5, na_7, na_8, newm_k, newm_s]
    repeat' (first | assumption | apply And.intro | intro _)
    all_goals first | omega | exact rfl | exact Or.inl rfl | exact Or.inr rfl | decide
  · simp only [Int.reduceAdd] at h h1 h2
    refine am_methodE (own := RX6) (A := look a_X6_init) (fun X e1 e2 e3 e4 h5 hE hB => o_X6_init  e1 e2 e3 e4 h5 hE hB) rfl (by decide +kernel) rfl rfl 53 (w := 3) ?_
    change vcs _ _ _ _ 53 0 [(22, 6), (6, 0), (6, 0)] [] σ
    simp only [vNew_e, vNewA_e, vCallI_e0, vCallI_e1, vCallI_e2, vCallI_e3, vCallMA_e0, vCallMA_e1, vCallSA_e2, vObj_e, cnt_e, List.length_cons, List.length_nil, Nat.zero_add, Nat.reduceAdd, Nat.reduceLT, Int.reduceAdd, Nat.reduceLeDiff, ↓reduceIte, vSw2_e, swP_n, swP_c, vI_e, vL_e, vNull_e, vIload_e, vLload_e, vAload_e, vIstore_e, vLstore_e, vAstore_e, vIinc_e, vIadd_e, vIsub_e, vImul_e, vIand_e, vIor_e, vIxor_e, vIshl_e, vIshr_e, vIushr_e, vIdiv_e, vIrem_e, vLadd_e, vLsub_e, vLmul_e, vLand_e, vLor_e, vLxor_e, vLdiv_e, vLrem_e, vLushr_e, vLshl_e, vLcmp_e, vIneg_e, vI2l_e, vL2i_e, vI2b_e, vI2c_e, vDup_e, vPop_e, vDup2_e, vGoto_e, vIcEq_e, vIfEq_e, vIcNe_e, vIfNe_e, vIcLt_e, vIfLt_e, vIcGe_e, vIfGe_e, vIcGt_e, vIfGt_e, vIcLe_e, vIfLe_e, vNonnull_e, vSw_e, vGetI_e, vGetL_e, vGetR_e, vPutI_e, vPutZ_e, vPutL_e, vPutR_e, vIald_e, vIald_s, vLald_e, vBald_e, vBald_s, vAald_e, vIast_e, vLast_e, vBast_e, vAast_e, vAlen_e8, vAlen_e9, vAlen_e10, vAlen_e11, vAlen_e5, vAlen_e3, vGets_e, vCompact_e, vLdcS_e, vIret_e, vZret_e, vCret_e, vBret_e, vLret_e, vVret_e, vAret_e, vCallM_e0, vCallMV_e0, vCallS_e0, vCallSV_e0, vCallM_e1, vCallMV_e1, vCallS_e1, vCallSV_e1, vCallM_e2, vCallMV_e2, vCallS_e2, vCallSV_e2, vCallM_e3, vCallMV_e3, vCallS_e3, vCallSV_e3, vCallM_e4, vCallMV_e4, vCallS_e4, vCallSV_e4, vCallM_e5, vCallMV_e5, vCallS_e5, vCallSV_e5, vCallM_e6, vCallMV_e6, vCallS_e6, vCallSV_e6, vCallM_e7, vCallMV_e7, vCallS_e7, vCallSV_e7, vBad_e, vStrVal_e, vStrCod_e, vForm_e, vCallT_e0, vCallT_e1, vCallT_e2, vCopy_e, rf_0_0, rf_0_1, rf_0_2, rf_0_3, rf_0_4, rf_0_7, rf_0_10, rf_0_11, rf_0_12, rf_0_13, rf_0_14, rf_0_15, rf_0_16, rf_1_0, rf_3_0, rf_3_1, rf_6_0, rf_6_1, rf_9_0, rf_9_1, rf_9_3, rf_13_0, rf_13_1, rf_13_2, rf_16_0, rf_16_1, rf_16_2, rf_16_3, rf_21_0, rf_21_1, rf_21_2, rf_21_3, rf_26_0, rf_26_1, rf_26_2, rf_26_3, rf_26_4, rf_26_5, rf_26_6, rf_31_0, rf_31_2, rf_31_5, rf_31_6, rf_36_0, rf_36_1, rf_36_2, rf_36_3, rf_39_0, rf_39_1, rf_39_2, rf_41_0, rf_41_1, rf_41_2, rf_41_3, rf_5000_1, rf_5000_2, rf_5000_3, rf_5000_4, rf_5000_5, rf_5000_15, rf_5000_16, rf_5000_18, rf_5000_19, rf_5000_20, rf_5000_21, rf_5000_22, rf_5000_23, rf_5000_24, rf_5000_25, rf_5000_26, rf_5000_27, rf_5000_36, rf_5000_37, rf_5000_40, rf_5000_41, rf_5000_42, rf_5000_43, rf_5000_44, rf_5000_45, rf_5000_47, rf_5000_52, rf_5000_54, rf_5000_55, rf_100_0, rf_100_1, rf_103_0, rf_103_1, rf_106_0, rf_106_1, rf_109_0, rf_109_1, al_2, al_4, al_5, al_7, al_8, al_10, al_11, al_12, al_14, al_15, al_17, al_18, al_19, al_20, al_22, al_23, al_24, al_25, al_27, al_28, al_29, al_30, al_32, al_33, al_34, al_35, al_37, al_38, al_40, al_42, al_5001, al_5002, al_5003, al_5004, al_5005, al_5006, al_5007, al_5008, al_5009, al_5010, al_5011, al_5012, al_5013, al_5014, al_5015, al_5016, al_5017, al_5018, al_5019, al_5020, al_5021, al_5022, al_5023, al_5024, al_5025, al_5026, al_9000, al_101, al_102, al_104, al_105, al_107, al_108, al_110, al_111, vcs_e, lg_c0, lg_cs, lg_nil, set_c0, set_cs, okst_0, okst_s, acok_n, acok_c, List.contains_nil, List.contains_cons, Bool.or_false, Bool.false_or, Bool.false_eq_true, if_false, if_true, ite_self, ne_eq, true_and, and_true, not_false_eq_true, not_true_eq_false, false_imp_iff, true_imp_iff, Nat.ble_eq, Bool.and_eq_true, reduceCtorEq, or_false, false_or, or_true, true_or, false_and, and_false, and_self, Int.reduceLE, Int.reduceAdd, Int.reduceSub, Int.reduceMul, Int.reduceNeg, Int.reduceLT, Int.reduceEq, Int.reduceNe, Nat.reduceBEq, Nat.reduceBNe, Nat.reduceEqDiff, amCmp_in, amCmp_lt, amCmp_le, amCmp_gt, amCmp_ge, amCmp_eq, amCmp_ne, Nat.reduceLeDiff, Nat.reduceSub, Bool.and_true, Bool.true_and, Bool.and_self, Bool.or_true, Bool.true_or, isRf_3, isRf_4, isRf_5, isRf_8, isRf_9, isRf_10, isRf_11, isRf_15, isRf_16, isRf_17, isRf_18, isRf_19, isRf_20, isRf_21, isRf_22, isRf_23, isRf_24, isRf_25, isRf_26, isRf_27, isRf_28, k_X6_init_0, k_X6_init_1, k_X6_init_4, k_X6_init_5, k_X6_init_7, k_X6_init_9, k_X6_init_12, k_X6_init_13, k_X6_init_14, k_X6_init_16, k_X6_init_19, up_s, up_nj, up_na, up_up, savR_o, cpy_o, fillm_o, setAud_o, setv_o, setv_s, Int.reduceNe, Int.reduceEq, Int.reduceLT, Int.reduceAdd, not_false_eq_true, ne_eq, or_true, true_or, nl_newm, nl_up, rf0_6_0, rf0_6_1, rf0_9_0, rf0_9_1, rf0_9_3, no_6, no_9, na_7, na_8, na_10, na_11, newm_k, newm_s]
    repeat' (first | assumption | apply And.intro | intro _)
    all_goals first | omega | exact rfl | exact Or.inl rfl | exact Or.inr rfl | decide
def ini3 (σ : Mem) (a b : Int) : Mem := up (up (up (up (up (up (up (up (up (up (newm (up (up (newm (σ) (a + 1) (dfa 241)) a 1 (a + 1)) a 2 0) (a + 2) (dfa 64)) a 3 (a + 2)) a 4 0) a 5 0) a 6 0) a 7 0) a 8 0) a 9 (-1)) a 10 1) a 11 1) a 0 b
theorem ini3_o (σ : Mem) {a b b9 : Int} (h : b9 ≠ a) (h1 : b9 ≠ a + 1) (h2 : b9 ≠ a + 2) (hm : b9 ≠ -2) : ini3 σ a b b9 = σ b9 := by
  unfold ini3
  simp only [up_na _ h, newm_o _ h1 hm, newm_o _ h2 hm]
theorem ini3_k (σ : Mem) {a b b9 : Int} (j : Int) (h : b9 ≠ a) (h1 : b9 ≠ a + 1) (h2 : b9 ≠ a + 2) (hm : b9 ≠ -2) : ini3 σ a b b9 j = σ b9 j := by rw [ini3_o σ h h1 h2 hm]
theorem ini3_n {σ : Mem} {a b b9 : Int} (ha : 0 ≤ a) (h1 : b9 ≠ a + 1) (h2 : b9 ≠ a + 2) : nl (ini3 σ a b) b9 = nl σ b9 := by
  unfold ini3
  simp only [nl_up ha, nl_newm (show 0 ≤ a + 1 by omega) h1, nl_newm (show 0 ≤ a + 2 by omega) h2]
theorem wd_76 : Cond.methodLink RX3 3 Lib.objectInit ∈ TBL := tb_tab (List.mem_of_getElem? (i := 76) (by decide +kernel)) rfl
theorem fp_X3_11 : amFp RX3 3 1 11 RX3 TX3 12 tyX3 (.array .int) := ⟨fl_X3_11, tyX3_ok, nmX3, by decide +kernel⟩
theorem fp_X3_21 : amFp RX3 3 3 21 RX3 TX3 12 tyX3 (.array .int) := ⟨fl_X3_21, tyX3_ok, nmX3, by decide +kernel⟩
theorem fp_X3_49 : amFp RX3 3 0 49 RX3 TX3 12 tyX3 (.object "ArmchairHouse$Tape") := ⟨fl_X3_49, tyX3_ok, nmX3, by decide +kernel⟩
def a_X3_init  : AC := [(0, vAload 0 1), (1, vObj 4), (4, vAload 0 5), (5, vI 241 8), (8, vNewA T0 8 dfa (fun ls σ => (lg ls 0).2 + 1) 2 305 2 10), (10, vPutR T0 19 1 8 1 13), (13, vAload 0 14), (14, vI 0 15), (15, vPutI 19 2 18), (18, vAload 0 19), (19, vI 64 21), (21, vNewA T0 8 dfa (fun ls σ => (lg ls 0).2 + 2) 2 305 2 23), (23, vPutR T0 19 3 8 3 26), (26, vAload 0 27), (27, vI 0 28), (28, vPutI 19 4 31), (31, vAload 0 32), (32, vI 0 33), (33, vPutI 19 5 36), (36, vAload 0 37), (37, vI 0 38), (38, vPutI 19 6 41), (41, vAload 0 42), (42, vI 0 43), (43, vPutI 19 7 46), (46, vAload 0 47), (47, vI 0 48), (48, vPutI 19 8 51), (51, vAload 0 52), (52, vI (-1) 53), (53, vPutI 19 9 56), (56, vAload 0 57), (57, vI 1 58), (58, vPutZ 19 10 61), (61, vAload 0 62), (62, vI 1 63), (63, vPutZ 19 11 66), (66, vAload 0 67), (67, vAload 1 68), (68, vPutR T0 19 0 26 0 71), (71, vVret)]
theorem k_X3_init_0  : look a_X3_init 0 = vAload 0 1 := rfl
theorem k_X3_init_1  : look a_X3_init 1 = vObj 4 := rfl
theorem k_X3_init_4  : look a_X3_init 4 = vAload 0 5 := rfl
theorem k_X3_init_5  : look a_X3_init 5 = vI 241 8 := rfl
theorem k_X3_init_8  : look a_X3_init 8 = vNewA T0 8 dfa (fun ls σ => (lg ls 0).2 + 1) 2 305 2 10 := rfl
theorem k_X3_init_10  : look a_X3_init 10 = vPutR T0 19 1 8 1 13 := rfl
theorem k_X3_init_13  : look a_X3_init 13 = vAload 0 14 := rfl
theorem k_X3_init_14  : look a_X3_init 14 = vI 0 15 := rfl
theorem k_X3_init_15  : look a_X3_init 15 = vPutI 19 2 18 := rfl
theorem k_X3_init_18  : look a_X3_init 18 = vAload 0 19 := rfl
theorem k_X3_init_19  : look a_X3_init 19 = vI 64 21 := rfl
theorem k_X3_init_21  : look a_X3_init 21 = vNewA T0 8 dfa (fun ls σ => (lg ls 0).2 + 2) 2 305 2 23 := rfl
theorem k_X3_init_23  : look a_X3_init 23 = vPutR T0 19 3 8 3 26 := rfl
theorem k_X3_init_26  : look a_X3_init 26 = vAload 0 27 := rfl
theorem k_X3_init_27  : look a_X3_init 27 = vI 0 28 := rfl
theorem k_X3_init_28  : look a_X3_init 28 = vPutI 19 4 31 := rfl
theorem k_X3_init_31  : look a_X3_init 31 = vAload 0 32 := rfl
theorem k_X3_init_32  : look a_X3_init 32 = vI 0 33 := rfl
theorem k_X3_init_33  : look a_X3_init 33 = vPutI 19 5 36 := rfl
theorem k_X3_init_36  : look a_X3_init 36 = vAload 0 37 := rfl
theorem k_X3_init_37  : look a_X3_init 37 = vI 0 38 := rfl
theorem k_X3_init_38  : look a_X3_init 38 = vPutI 19 6 41 := rfl
theorem k_X3_init_41  : look a_X3_init 41 = vAload 0 42 := rfl
theorem k_X3_init_42  : look a_X3_init 42 = vI 0 43 := rfl
theorem k_X3_init_43  : look a_X3_init 43 = vPutI 19 7 46 := rfl
theorem k_X3_init_46  : look a_X3_init 46 = vAload 0 47 := rfl
theorem k_X3_init_47  : look a_X3_init 47 = vI 0 48 := rfl
theorem k_X3_init_48  : look a_X3_init 48 = vPutI 19 8 51 := rfl
theorem k_X3_init_51  : look a_X3_init 51 = vAload 0 52 := rfl
theorem k_X3_init_52  : look a_X3_init 52 = vI (-1) 53 := rfl
theorem k_X3_init_53  : look a_X3_init 53 = vPutI 19 9 56 := rfl
theorem k_X3_init_56  : look a_X3_init 56 = vAload 0 57 := rfl
theorem k_X3_init_57  : look a_X3_init 57 = vI 1 58 := rfl
theorem k_X3_init_58  : look a_X3_init 58 = vPutZ 19 10 61 := rfl
theorem k_X3_init_61  : look a_X3_init 61 = vAload 0 62 := rfl
theorem k_X3_init_62  : look a_X3_init 62 = vI 1 63 := rfl
theorem k_X3_init_63  : look a_X3_init 63 = vPutZ 19 11 66 := rfl
theorem k_X3_init_66  : look a_X3_init 66 = vAload 0 67 := rfl
theorem k_X3_init_67  : look a_X3_init 67 = vAload 1 68 := rfl
theorem k_X3_init_68  : look a_X3_init 68 = vPutR T0 19 0 26 0 71 := rfl
theorem k_X3_init_71  : look a_X3_init 71 = vVret := rfl
theorem o_X3_init {X : amX}  (e1 : XT X = T0) (e2 : XD X = 1) (e3 : XC X = 2) (e4 : XS X = 305) (hin : (XM X).name = "<init>") (hE : Eno (Xn X) (Xst X)) (hB : amB X RX3 cX3_init (none) 2) : ∀ pc, amOK X pc (look a_X3_init pc) := by
  have hT : amTok (XT X) := e1 ▸ T0_ok
  refine look_ok ?_
  unfold a_X3_init
  refine fc (ok_aload_n hB dX3_init_0) ?_
  refine fc (ok_obj hB (by rw [e2]; decide) wd_76 wd_33 wd_34 dX3_init_1) ?_
  refine fc (ok_aload_n hB dX3_init_4) ?_
  refine fc (ok_sipush hB dX3_init_5 (by decide)) ?_
  refine fc (ok_newA8 hB e1 e3 e4 wd_57 _ dX3_init_8) ?_
  refine fc (okt_putRF e1 hB hT fp_X3_11 (rt_arr _) rfl hin rfl rfl rfl af_3_1 at_3_1 (by decide) (by decide) dX3_init_10) ?_
  refine fc (ok_aload_n hB dX3_init_13) ?_
  refine fc (ok_iconst hB dX3_init_14) ?_
  refine fc (ok_putI hB hT fp_X3_17 rfl rfl rfl af_3_2 dX3_init_15) ?_
  refine fc (ok_aload_n hB dX3_init_18) ?_
  refine fc (ok_bipush hB dX3_init_19 (by decide)) ?_
  refine fc (ok_newA8 hB e1 e3 e4 wd_57 _ dX3_init_21) ?_
  refine fc (okt_putRF e1 hB hT fp_X3_21 (rt_arr _) rfl hin rfl rfl rfl af_3_3 at_3_3 (by decide) (by decide) dX3_init_23) ?_
  refine fc (ok_aload_n hB dX3_init_26) ?_
  refine fc (ok_iconst hB dX3_init_27) ?_
  refine fc (ok_putI hB hT fp_X3_24 rfl rfl rfl af_3_4 dX3_init_28) ?_
  refine fc (ok_aload_n hB dX3_init_31) ?_
  refine fc (ok_iconst hB dX3_init_32) ?_
  refine fc (ok_putI hB hT fp_X3_27 rfl rfl rfl af_3_5 dX3_init_33) ?_
  refine fc (ok_aload_n hB dX3_init_36) ?_
  refine fc (ok_iconst hB dX3_init_37) ?_
  refine fc (ok_putI hB hT fp_X3_30 rfl rfl rfl af_3_6 dX3_init_38) ?_
  refine fc (ok_aload_n hB dX3_init_41) ?_
  refine fc (ok_iconst hB dX3_init_42) ?_
  refine fc (ok_putI hB hT fp_X3_33 rfl rfl rfl af_3_7 dX3_init_43) ?_
  refine fc (ok_aload_n hB dX3_init_46) ?_
  refine fc (ok_iconst hB dX3_init_47) ?_
  refine fc (ok_putI hB hT fp_X3_36 rfl rfl rfl af_3_8 dX3_init_48) ?_
  refine fc (ok_aload_n hB dX3_init_51) ?_
  refine fc (ok_iconst hB dX3_init_52) ?_
  refine fc (ok_putI hB hT fp_X3_39 rfl rfl rfl af_3_9 dX3_init_53) ?_
  refine fc (ok_aload_n hB dX3_init_56) ?_
  refine fc (ok_iconst hB dX3_init_57) ?_
  refine fc (ok_putZ hB hT fp_X3_42 rfl rfl rfl af_3_10 dX3_init_58) ?_
  refine fc (ok_aload_n hB dX3_init_61) ?_
  refine fc (ok_iconst hB dX3_init_62) ?_
  refine fc (ok_putZ hB hT fp_X3_46 rfl rfl rfl af_3_11 dX3_init_63) ?_
  refine fc (ok_aload_n hB dX3_init_66) ?_
  refine fc (ok_aload_n hB dX3_init_67) ?_
  refine fc (okt_putRF e1 hB hT fp_X3_49 (rt_obj _) rfl hin rfl rfl rfl af_3_0 at_3_0 (by decide) (by decide) dX3_init_68) ?_
  refine fc (ok_vret hB dX3_init_71) ?_
  exact fn


def w_X3_init : WP := fun av σ Q => ∃ (a : Int) (b : Int), av = [(19, a), (26, b)] ∧ ((a = 9) ∧ 0 ≤ b ∧ nl σ (a + 1) ∧ nl σ (a + 2) ∧ Q (6, 0) (ini3 σ a b))
theorem w_X3_init_e (a : Int) (b : Int) (σ : Mem) (Q : AV → Mem → Prop) : w_X3_init [(19, a), (26, b)] σ Q = ((a = 9) ∧ 0 ≤ b ∧ nl σ (a + 1) ∧ nl σ (a + 2) ∧ Q (6, 0) (ini3 σ a b)) := by
  apply propext; constructor
  · rintro ⟨a', b', h9, hb9⟩; cases h9; exact hb9
  · intro hb9; exact ⟨a, b, rfl, hb9⟩

set_option maxRecDepth 100000 in
set_option maxHeartbeats 4000000 in
theorem s_X3_init  : ∀ av σ Q, w_X3_init  av σ Q → amCallE Eno 1 2 305 T0 yX3_init cX3_init 2 (none) av σ Q := by
  rintro av σ Q ⟨a, b, rfl, ha, q_b, h1, h2, h⟩
  unfold ini3 at h
  subst ha
  simp only [Int.reduceAdd] at h h1 h2
  refine am_methodE (own := RX3) (A := look a_X3_init) (fun X e1 e2 e3 e4 h5 hE hB => o_X3_init  e1 e2 e3 e4 h5 hE hB) rfl (by decide +kernel) rfl rfl 143 (w := 4) ?_
  change vcs _ _ _ _ 143 0 [(19, 9), (26, b), (6, 0), (6, 0)] [] σ
  simp only [vNew_e, vNewA_e, vCallI_e0, vCallI_e1, vCallI_e2, vCallI_e3, vCallMA_e0, vCallMA_e1, vCallSA_e2, vObj_e, cnt_e, List.length_cons, List.length_nil, Nat.zero_add, Nat.reduceAdd, Nat.reduceLT, Int.reduceAdd, Nat.reduceLeDiff, ↓reduceIte, vSw2_e, swP_n, swP_c, vI_e, vL_e, vNull_e, vIload_e, vLload_e, vAload_e, vIstore_e, vLstore_e, vAstore_e, vIinc_e, vIadd_e, vIsub_e, vImul_e, vIand_e, vIor_e, vIxor_e, vIshl_e, vIshr_e, vIushr_e, vIdiv_e, vIrem_e, vLadd_e, vLsub_e, vLmul_e, vLand_e, vLor_e, vLxor_e, vLdiv_e, vLrem_e, vLushr_e, vLshl_e, vLcmp_e, vIneg_e, vI2l_e, vL2i_e, vI2b_e, vI2c_e, vDup_e, vPop_e, vDup2_e, vGoto_e, vIcEq_e, vIfEq_e, vIcNe_e, vIfNe_e, vIcLt_e, vIfLt_e, vIcGe_e, vIfGe_e, vIcGt_e, vIfGt_e, vIcLe_e, vIfLe_e, vNonnull_e, vSw_e, vGetI_e, vGetL_e, vGetR_e, vPutI_e, vPutZ_e, vPutL_e, vPutR_e, vIald_e, vIald_s, vLald_e, vBald_e, vBald_s, vAald_e, vIast_e, vLast_e, vBast_e, vAast_e, vAlen_e8, vAlen_e9, vAlen_e10, vAlen_e11, vAlen_e5, vAlen_e3, vGets_e, vCompact_e, vLdcS_e, vIret_e, vZret_e, vCret_e, vBret_e, vLret_e, vVret_e, vAret_e, vCallM_e0, vCallMV_e0, vCallS_e0, vCallSV_e0, vCallM_e1, vCallMV_e1, vCallS_e1, vCallSV_e1, vCallM_e2, vCallMV_e2, vCallS_e2, vCallSV_e2, vCallM_e3, vCallMV_e3, vCallS_e3, vCallSV_e3, vCallM_e4, vCallMV_e4, vCallS_e4, vCallSV_e4, vCallM_e5, vCallMV_e5, vCallS_e5, vCallSV_e5, vCallM_e6, vCallMV_e6, vCallS_e6, vCallSV_e6, vCallM_e7, vCallMV_e7, vCallS_e7, vCallSV_e7, vBad_e, vStrVal_e, vStrCod_e, vForm_e, vCallT_e0, vCallT_e1, vCallT_e2, vCopy_e, rf_0_0, rf_0_1, rf_0_2, rf_0_3, rf_0_4, rf_0_7, rf_0_10, rf_0_11, rf_0_12, rf_0_13, rf_0_14, rf_0_15, rf_0_16, rf_1_0, rf_3_0, rf_3_1, rf_6_0, rf_6_1, rf_9_0, rf_9_1, rf_9_3, rf_13_0, rf_13_1, rf_13_2, rf_16_0, rf_16_1, rf_16_2, rf_16_3, rf_21_0, rf_21_1, rf_21_2, rf_21_3, rf_26_0, rf_26_1, rf_26_2, rf_26_3, rf_26_4, rf_26_5, rf_26_6, rf_31_0, rf_31_2, rf_31_5, rf_31_6, rf_36_0, rf_36_1, rf_36_2, rf_36_3, rf_39_0, rf_39_1, rf_39_2, rf_41_0, rf_41_1, rf_41_2, rf_41_3, rf_5000_1, rf_5000_2, rf_5000_3, rf_5000_4, rf_5000_5, rf_5000_15, rf_5000_16, rf_5000_18, rf_5000_19, rf_5000_20, rf_5000_21, rf_5000_22, rf_5000_23, rf_5000_24, rf_5000_25, rf_5000_26, rf_5000_27, rf_5000_36, rf_5000_37, rf_5000_40, rf_5000_41, rf_5000_42, rf_5000_43, rf_5000_44, rf_5000_45, rf_5000_47, rf_5000_52, rf_5000_54, rf_5000_55, rf_100_0, rf_100_1, rf_103_0, rf_103_1, rf_106_0, rf_106_1, rf_109_0, rf_109_1, al_2, al_4, al_5, al_7, al_8, al_10, al_11, al_12, al_14, al_15, al_17, al_18, al_19, al_20, al_22, al_23, al_24, al_25, al_27, al_28, al_29, al_30, al_32, al_33, al_34, al_35, al_37, al_38, al_40, al_42, al_5001, al_5002, al_5003, al_5004, al_5005, al_5006, al_5007, al_5008, al_5009, al_5010, al_5011, al_5012, al_5013, al_5014, al_5015, al_5016, al_5017, al_5018, al_5019, al_5020, al_5021, al_5022, al_5023, al_5024, al_5025, al_5026, al_9000, al_101, al_102, al_104, al_105, al_107, al_108, al_110, al_111, vcs_e, lg_c0, lg_cs, lg_nil, set_c0, set_cs, okst_0, okst_s, acok_n, acok_c, List.contains_nil, List.contains_cons, Bool.or_false, Bool.false_or, Bool.false_eq_true, if_false, if_true, ite_self, ne_eq, true_and, and_true, not_false_eq_true, not_true_eq_false, false_imp_iff, true_imp_iff, Nat.ble_eq, Bool.and_eq_true, reduceCtorEq, or_false, false_or, or_true, true_or, false_and, and_false, and_self, Int.reduceLE, Int.reduceAdd, Int.reduceSub, Int.reduceMul, Int.reduceNeg, Int.reduceLT, Int.reduceEq, Int.reduceNe, Nat.reduceBEq, Nat.reduceBNe, Nat.reduceEqDiff, amCmp_in, amCmp_lt, amCmp_le, amCmp_gt, amCmp_ge, amCmp_eq, amCmp_ne, Nat.reduceLeDiff, Nat.reduceSub, Bool.and_true, Bool.true_and, Bool.and_self, Bool.or_true, Bool.true_or, isRf_3, isRf_4, isRf_5, isRf_8, isRf_9, isRf_10, isRf_11, isRf_15, isRf_16, isRf_17, isRf_18, isRf_19, isRf_20, isRf_21, isRf_22, isRf_23, isRf_24, isRf_25, isRf_26, isRf_27, isRf_28, k_X3_init_0, k_X3_init_1, k_X3_init_4, k_X3_init_5, k_X3_init_8, k_X3_init_10, k_X3_init_13, k_X3_init_14, k_X3_init_15, k_X3_init_18, k_X3_init_19, k_X3_init_21, k_X3_init_23, k_X3_init_26, k_X3_init_27, k_X3_init_28, k_X3_init_31, k_X3_init_32, k_X3_init_33, k_X3_init_36, k_X3_init_37, k_X3_init_38, k_X3_init_41, k_X3_init_42, k_X3_init_43, k_X3_init_46, k_X3_init_47, k_X3_init_48, k_X3_init_51, k_X3_init_52, k_X3_init_53, k_X3_init_56, k_X3_init_57, k_X3_init_58, k_X3_init_61, k_X3_init_62, k_X3_init_63, k_X3_init_66, k_X3_init_67, k_X3_init_68, k_X3_init_71, up_s, up_nj, up_na, up_up, savR_o, cpy_o, fillm_o, setAud_o, setv_o, setv_s, Int.reduceNe, Int.reduceEq, Int.reduceLT, Int.reduceAdd, not_false_eq_true, ne_eq, or_true, true_or, nl_newm, nl_up, rf0_9_0, rf0_9_1, rf0_9_3, rf0_13_0, rf0_13_1, rf0_13_2, no_9, no_13, na_10, na_11, na_12, na_14, newm_k, newm_s]
  repeat' (first | assumption | apply And.intro | intro _)
  all_goals first | omega | exact rfl | exact Or.inl rfl | exact Or.inr rfl | decide
def ini7 (σ : Mem) (a b : Int) : Mem := up (up (up (newm (up (newm (σ) (a + 1) (dfa 240)) a 1 (a + 1)) (a + 2) (dfa 5)) a 2 (a + 2)) a 3 0) a 0 b
theorem ini7_o (σ : Mem) {a b b9 : Int} (h : b9 ≠ a) (h1 : b9 ≠ a + 1) (h2 : b9 ≠ a + 2) (hm : b9 ≠ -2) : ini7 σ a b b9 = σ b9 := by
  unfold ini7
  simp only [up_na _ h, newm_o _ h1 hm, newm_o _ h2 hm]
theorem ini7_k (σ : Mem) {a b b9 : Int} (j : Int) (h : b9 ≠ a) (h1 : b9 ≠ a + 1) (h2 : b9 ≠ a + 2) (hm : b9 ≠ -2) : ini7 σ a b b9 j = σ b9 j := by rw [ini7_o σ h h1 h2 hm]
theorem ini7_n {σ : Mem} {a b b9 : Int} (ha : 0 ≤ a) (h1 : b9 ≠ a + 1) (h2 : b9 ≠ a + 2) : nl (ini7 σ a b) b9 = nl σ b9 := by
  unfold ini7
  simp only [nl_up ha, nl_newm (show 0 ≤ a + 1 by omega) h1, nl_newm (show 0 ≤ a + 2 by omega) h2]
theorem wd_121 : Cond.methodLink RX7 5 Lib.objectInit ∈ TBL := tb_tab (List.mem_of_getElem? (i := 121) (by decide +kernel)) rfl
theorem fp_X7_11 : amFp RX7 7 1 11 RX7 TX7 4 tyX7 (.array .int) := ⟨fl_X7_11, tyX7_ok, nmX7, by decide +kernel⟩
theorem fp_X7_15 : amFp RX7 7 2 15 RX7 TX7 4 tyX7 (.array .int) := ⟨fl_X7_15, tyX7_ok, nmX7, by decide +kernel⟩
theorem fp_X7_18 : amFp RX7 7 3 18 RX7 TX7 4 tyX7 .int := ⟨fl_X7_18, tyX7_ok, nmX7, by decide +kernel⟩
theorem fp_X7_22 : amFp RX7 7 0 22 RX7 TX7 4 tyX7 (.object "ArmchairHouse$Tape") := ⟨fl_X7_22, tyX7_ok, nmX7, by decide +kernel⟩
def a_X7_init  : AC := [(0, vAload 0 1), (1, vObj 4), (4, vAload 0 5), (5, vI 240 8), (8, vNewA T0 8 dfa (fun ls σ => (lg ls 0).2 + 1) 2 245 2 10), (10, vPutR T0 23 1 8 1 13), (13, vAload 0 14), (14, vI 5 15), (15, vNewA T0 8 dfa (fun ls σ => (lg ls 0).2 + 2) 2 245 2 17), (17, vPutR T0 23 2 8 2 20), (20, vAload 0 21), (21, vI 0 22), (22, vPutI 23 3 25), (25, vAload 0 26), (26, vAload 1 27), (27, vPutR T0 23 0 26 0 30), (30, vVret)]
theorem k_X7_init_0  : look a_X7_init 0 = vAload 0 1 := rfl
theorem k_X7_init_1  : look a_X7_init 1 = vObj 4 := rfl
theorem k_X7_init_4  : look a_X7_init 4 = vAload 0 5 := rfl
theorem k_X7_init_5  : look a_X7_init 5 = vI 240 8 := rfl
theorem k_X7_init_8  : look a_X7_init 8 = vNewA T0 8 dfa (fun ls σ => (lg ls 0).2 + 1) 2 245 2 10 := rfl
theorem k_X7_init_10  : look a_X7_init 10 = vPutR T0 23 1 8 1 13 := rfl
theorem k_X7_init_13  : look a_X7_init 13 = vAload 0 14 := rfl
theorem k_X7_init_14  : look a_X7_init 14 = vI 5 15 := rfl
theorem k_X7_init_15  : look a_X7_init 15 = vNewA T0 8 dfa (fun ls σ => (lg ls 0).2 + 2) 2 245 2 17 := rfl
theorem k_X7_init_17  : look a_X7_init 17 = vPutR T0 23 2 8 2 20 := rfl
theorem k_X7_init_20  : look a_X7_init 20 = vAload 0 21 := rfl
theorem k_X7_init_21  : look a_X7_init 21 = vI 0 22 := rfl
theorem k_X7_init_22  : look a_X7_init 22 = vPutI 23 3 25 := rfl
theorem k_X7_init_25  : look a_X7_init 25 = vAload 0 26 := rfl
theorem k_X7_init_26  : look a_X7_init 26 = vAload 1 27 := rfl
theorem k_X7_init_27  : look a_X7_init 27 = vPutR T0 23 0 26 0 30 := rfl
theorem k_X7_init_30  : look a_X7_init 30 = vVret := rfl
theorem o_X7_init {X : amX}  (e1 : XT X = T0) (e2 : XD X = 1) (e3 : XC X = 2) (e4 : XS X = 245) (hin : (XM X).name = "<init>") (hE : Eno (Xn X) (Xst X)) (hB : amB X RX7 cX7_init (none) 2) : ∀ pc, amOK X pc (look a_X7_init pc) := by
  have hT : amTok (XT X) := e1 ▸ T0_ok
  refine look_ok ?_
  unfold a_X7_init
  refine fc (ok_aload_n hB dX7_init_0) ?_
  refine fc (ok_obj hB (by rw [e2]; decide) wd_121 wd_33 wd_34 dX7_init_1) ?_
  refine fc (ok_aload_n hB dX7_init_4) ?_
  refine fc (ok_sipush hB dX7_init_5 (by decide)) ?_
  refine fc (ok_newA8 hB e1 e3 e4 wd_57 _ dX7_init_8) ?_
  refine fc (okt_putRF e1 hB hT fp_X7_11 (rt_arr _) rfl hin rfl rfl rfl af_7_1 at_7_1 (by decide) (by decide) dX7_init_10) ?_
  refine fc (ok_aload_n hB dX7_init_13) ?_
  refine fc (ok_iconst hB dX7_init_14) ?_
  refine fc (ok_newA8 hB e1 e3 e4 wd_57 _ dX7_init_15) ?_
  refine fc (okt_putRF e1 hB hT fp_X7_15 (rt_arr _) rfl hin rfl rfl rfl af_7_2 at_7_2 (by decide) (by decide) dX7_init_17) ?_
  refine fc (ok_aload_n hB dX7_init_20) ?_
  refine fc (ok_iconst hB dX7_init_21) ?_
  refine fc (ok_putI hB hT fp_X7_18 rfl rfl rfl af_7_3 dX7_init_22) ?_
  refine fc (ok_aload_n hB dX7_init_25) ?_
  refine fc (ok_aload_n hB dX7_init_26) ?_
  refine fc (okt_putRF e1 hB hT fp_X7_22 (rt_obj _) rfl hin rfl rfl rfl af_7_0 at_7_0 (by decide) (by decide) dX7_init_27) ?_
  refine fc (ok_vret hB dX7_init_30) ?_
  exact fn


def w_X7_init : WP := fun av σ Q => ∃ (a : Int) (b : Int), av = [(23, a), (26, b)] ∧ ((a = 13) ∧ 0 ≤ b ∧ nl σ (a + 1) ∧ nl σ (a + 2) ∧ Q (6, 0) (ini7 σ a b))
theorem w_X7_init_e (a : Int) (b : Int) (σ : Mem) (Q : AV → Mem → Prop) : w_X7_init [(23, a), (26, b)] σ Q = ((a = 13) ∧ 0 ≤ b ∧ nl σ (a + 1) ∧ nl σ (a + 2) ∧ Q (6, 0) (ini7 σ a b)) := by
  apply propext; constructor
  · rintro ⟨a', b', h9, hb9⟩; cases h9; exact hb9
  · intro hb9; exact ⟨a, b, rfl, hb9⟩

set_option maxRecDepth 100000 in
set_option maxHeartbeats 4000000 in
theorem s_X7_init  : ∀ av σ Q, w_X7_init  av σ Q → amCallE Eno 1 2 245 T0 yX7_init cX7_init 2 (none) av σ Q := by
  rintro av σ Q ⟨a, b, rfl, ha, q_b, h1, h2, h⟩
  unfold ini7 at h
  subst ha
  simp only [Int.reduceAdd] at h h1 h2
  refine am_methodE (own := RX7) (A := look a_X7_init) (fun X e1 e2 e3 e4 h5 hE hB => o_X7_init  e1 e2 e3 e4 h5 hE hB) rfl (by decide +kernel) rfl rfl 71 (w := 4) ?_
  change vcs _ _ _ _ 71 0 [(23, 13), (26, b), (6, 0), (6, 0)] [] σ
  simp only [vNew_e, vNewA_e, vCallI_e0, vCallI_e1, vCallI_e2, vCallI_e3, vCallMA_e0, vCallMA_e1, vCallSA_e2, vObj_e, cnt_e, List.length_cons, List.length_nil, Nat.zero_add, Nat.reduceAdd, Nat.reduceLT, Int.reduceAdd, Nat.reduceLeDiff, ↓reduceIte, vSw2_e, swP_n, swP_c, vI_e, vL_e, vNull_e, vIload_e, vLload_e, vAload_e, vIstore_e, vLstore_e, vAstore_e, vIinc_e, vIadd_e, vIsub_e, vImul_e, vIand_e, vIor_e, vIxor_e, vIshl_e, vIshr_e, vIushr_e, vIdiv_e, vIrem_e, vLadd_e, vLsub_e, vLmul_e, vLand_e, vLor_e, vLxor_e, vLdiv_e, vLrem_e, vLushr_e, vLshl_e, vLcmp_e, vIneg_e, vI2l_e, vL2i_e, vI2b_e, vI2c_e, vDup_e, vPop_e, vDup2_e, vGoto_e, vIcEq_e, vIfEq_e, vIcNe_e, vIfNe_e, vIcLt_e, vIfLt_e, vIcGe_e, vIfGe_e, vIcGt_e, vIfGt_e, vIcLe_e, vIfLe_e, vNonnull_e, vSw_e, vGetI_e, vGetL_e, vGetR_e, vPutI_e, vPutZ_e, vPutL_e, vPutR_e, vIald_e, vIald_s, vLald_e, vBald_e, vBald_s, vAald_e, vIast_e, vLast_e, vBast_e, vAast_e, vAlen_e8, vAlen_e9, vAlen_e10, vAlen_e11, vAlen_e5, vAlen_e3, vGets_e, vCompact_e, vLdcS_e, vIret_e, vZret_e, vCret_e, vBret_e, vLret_e, vVret_e, vAret_e, vCallM_e0, vCallMV_e0, vCallS_e0, vCallSV_e0, vCallM_e1, vCallMV_e1, vCallS_e1, vCallSV_e1, vCallM_e2, vCallMV_e2, vCallS_e2, vCallSV_e2, vCallM_e3, vCallMV_e3, vCallS_e3, vCallSV_e3, vCallM_e4, vCallMV_e4, vCallS_e4, vCallSV_e4, vCallM_e5, vCallMV_e5, vCallS_e5, vCallSV_e5, vCallM_e6, vCallMV_e6, vCallS_e6, vCallSV_e6, vCallM_e7, vCallMV_e7, vCallS_e7, vCallSV_e7, vBad_e, vStrVal_e, vStrCod_e, vForm_e, vCallT_e0, vCallT_e1, vCallT_e2, vCopy_e, rf_0_0, rf_0_1, rf_0_2, rf_0_3, rf_0_4, rf_0_7, rf_0_10, rf_0_11, rf_0_12, rf_0_13, rf_0_14, rf_0_15, rf_0_16, rf_1_0, rf_3_0, rf_3_1, rf_6_0, rf_6_1, rf_9_0, rf_9_1, rf_9_3, rf_13_0, rf_13_1, rf_13_2, rf_16_0, rf_16_1, rf_16_2, rf_16_3, rf_21_0, rf_21_1, rf_21_2, rf_21_3, rf_26_0, rf_26_1, rf_26_2, rf_26_3, rf_26_4, rf_26_5, rf_26_6, rf_31_0, rf_31_2, rf_31_5, rf_31_6, rf_36_0, rf_36_1, rf_36_2, rf_36_3, rf_39_0, rf_39_1, rf_39_2, rf_41_0, rf_41_1, rf_41_2, rf_41_3, rf_5000_1, rf_5000_2, rf_5000_3, rf_5000_4, rf_5000_5, rf_5000_15, rf_5000_16, rf_5000_18, rf_5000_19, rf_5000_20, rf_5000_21, rf_5000_22, rf_5000_23, rf_5000_24, rf_5000_25, rf_5000_26, rf_5000_27, rf_5000_36, rf_5000_37, rf_5000_40, rf_5000_41, rf_5000_42, rf_5000_43, rf_5000_44, rf_5000_45, rf_5000_47, rf_5000_52, rf_5000_54, rf_5000_55, rf_100_0, rf_100_1, rf_103_0, rf_103_1, rf_106_0, rf_106_1, rf_109_0, rf_109_1, al_2, al_4, al_5, al_7, al_8, al_10, al_11, al_12, al_14, al_15, al_17, al_18, al_19, al_20, al_22, al_23, al_24, al_25, al_27, al_28, al_29, al_30, al_32, al_33, al_34, al_35, al_37, al_38, al_40, al_42, al_5001, al_5002, al_5003, al_5004, al_5005, al_5006, al_5007, al_5008, al_5009, al_5010, al_5011, al_5012, al_5013, al_5014, al_5015, al_5016, al_5017, al_5018, al_5019, al_5020, al_5021, al_5022, al_5023, al_5024, al_5025, al_5026, al_9000, al_101, al_102, al_104, al_105, al_107, al_108, al_110, al_111, vcs_e, lg_c0, lg_cs, lg_nil, set_c0, set_cs, okst_0, okst_s, acok_n, acok_c, List.contains_nil, List.contains_cons, Bool.or_false, Bool.false_or, Bool.false_eq_true, if_false, if_true, ite_self, ne_eq, true_and, and_true, not_false_eq_true, not_true_eq_false, false_imp_iff, true_imp_iff, Nat.ble_eq, Bool.and_eq_true, reduceCtorEq, or_false, false_or, or_true, true_or, false_and, and_false, and_self, Int.reduceLE, Int.reduceAdd, Int.reduceSub, Int.reduceMul, Int.reduceNeg, Int.reduceLT, Int.reduceEq, Int.reduceNe, Nat.reduceBEq, Nat.reduceBNe, Nat.reduceEqDiff, amCmp_in, amCmp_lt, amCmp_le, amCmp_gt, amCmp_ge, amCmp_eq, amCmp_ne, Nat.reduceLeDiff, Nat.reduceSub, Bool.and_true, Bool.true_and, Bool.and_self, Bool.or_true, Bool.true_or, isRf_3, isRf_4, isRf_5, isRf_8, isRf_9, isRf_10, isRf_11, isRf_15, isRf_16, isRf_17, isRf_18, isRf_19, isRf_20, isRf_21, isRf_22, isRf_23, isRf_24, isRf_25, isRf_26, isRf_27, isRf_28, k_X7_init_0, k_X7_init_1, k_X7_init_4, k_X7_init_5, k_X7_init_8, k_X7_init_10, k_X7_init_13, k_X7_init_14, k_X7_init_15, k_X7_init_17, k_X7_init_20, k_X7_init_21, k_X7_init_22, k_X7_init_25, k_X7_init_26, k_X7_init_27, k_X7_init_30, up_s, up_nj, up_na, up_up, savR_o, cpy_o, fillm_o, setAud_o, setv_o, setv_s, Int.reduceNe, Int.reduceEq, Int.reduceLT, Int.reduceAdd, not_false_eq_true, ne_eq, or_true, true_or, nl_newm, nl_up, rf0_13_0, rf0_13_1, rf0_13_2, rf0_16_0, rf0_16_1, rf0_16_2, rf0_16_3, no_13, no_16, na_14, na_15, na_17, na_18, newm_k, newm_s]
  repeat' (first | assumption | apply And.intro | intro _)
  all_goals first | omega | exact rfl | exact Or.inl rfl | exact Or.inr rfl | decide
def ini0 (σ : Mem) (a : Int) : Mem := up (up (up (up (newm (up (newm (up (newm (up (newm (σ) (a + 1) (dfa 6)) a 0 (a + 1)) (a + 2) (dfa 6)) a 1 (a + 2)) (a + 3) (dfa 6)) a 2 (a + 3)) (a + 4) (dfa 6)) a 3 (a + 4)) a 4 0) a 5 0) a 6 0
theorem ini0_o (σ : Mem) {a b9 : Int} (h : b9 ≠ a) (h1 : b9 ≠ a + 1) (h2 : b9 ≠ a + 2) (h3 : b9 ≠ a + 3) (h4 : b9 ≠ a + 4) (hm : b9 ≠ -2) : ini0 σ a b9 = σ b9 := by
  unfold ini0
  simp only [up_na _ h, newm_o _ h1 hm, newm_o _ h2 hm, newm_o _ h3 hm, newm_o _ h4 hm]
theorem ini0_k (σ : Mem) {a b9 : Int} (j : Int) (h : b9 ≠ a) (h1 : b9 ≠ a + 1) (h2 : b9 ≠ a + 2) (h3 : b9 ≠ a + 3) (h4 : b9 ≠ a + 4) (hm : b9 ≠ -2) : ini0 σ a b9 j = σ b9 j := by rw [ini0_o σ h h1 h2 h3 h4 hm]
theorem ini0_n {σ : Mem} {a b9 : Int} (ha : 0 ≤ a) (h1 : b9 ≠ a + 1) (h2 : b9 ≠ a + 2) (h3 : b9 ≠ a + 3) (h4 : b9 ≠ a + 4) : nl (ini0 σ a) b9 = nl σ b9 := by
  unfold ini0
  simp only [nl_up ha, nl_newm (show 0 ≤ a + 1 by omega) h1, nl_newm (show 0 ≤ a + 2 by omega) h2, nl_newm (show 0 ≤ a + 3 by omega) h3, nl_newm (show 0 ≤ a + 4 by omega) h4]
theorem wd_141 : Cond.methodLink RX0 3 Lib.objectInit ∈ TBL := tb_tab (List.mem_of_getElem? (i := 141) (by decide +kernel)) rfl
theorem fp_X0_9 : amFp RX0 0 0 9 RX0 TX0 7 tyX0 (.array .int) := ⟨fl_X0_9, tyX0_ok, nmX0, by decide +kernel⟩
theorem fp_X0_15 : amFp RX0 0 1 15 RX0 TX0 7 tyX0 (.array .int) := ⟨fl_X0_15, tyX0_ok, nmX0, by decide +kernel⟩
theorem fp_X0_18 : amFp RX0 0 2 18 RX0 TX0 7 tyX0 (.array .int) := ⟨fl_X0_18, tyX0_ok, nmX0, by decide +kernel⟩
theorem fp_X0_21 : amFp RX0 0 3 21 RX0 TX0 7 tyX0 (.array .int) := ⟨fl_X0_21, tyX0_ok, nmX0, by decide +kernel⟩
def a_X0_init  : AC := [(0, vAload 0 1), (1, vObj 4), (4, vAload 0 5), (5, vI 6 7), (7, vNewA T0 8 dfa (fun ls σ => (lg ls 0).2 + 1) 4 24 1 9), (9, vPutR T0 16 0 8 0 12), (12, vAload 0 13), (13, vI 6 15), (15, vNewA T0 8 dfa (fun ls σ => (lg ls 0).2 + 2) 4 24 1 17), (17, vPutR T0 16 1 8 1 20), (20, vAload 0 21), (21, vI 6 23), (23, vNewA T0 8 dfa (fun ls σ => (lg ls 0).2 + 3) 4 24 1 25), (25, vPutR T0 16 2 8 2 28), (28, vAload 0 29), (29, vI 6 31), (31, vNewA T0 8 dfa (fun ls σ => (lg ls 0).2 + 4) 4 24 1 33), (33, vPutR T0 16 3 8 3 36), (36, vAload 0 37), (37, vI 0 38), (38, vPutI 16 4 41), (41, vAload 0 42), (42, vI 0 43), (43, vPutI 16 5 46), (46, vAload 0 47), (47, vI 0 48), (48, vPutI 16 6 51), (51, vVret)]
theorem k_X0_init_0  : look a_X0_init 0 = vAload 0 1 := rfl
theorem k_X0_init_1  : look a_X0_init 1 = vObj 4 := rfl
theorem k_X0_init_4  : look a_X0_init 4 = vAload 0 5 := rfl
theorem k_X0_init_5  : look a_X0_init 5 = vI 6 7 := rfl
theorem k_X0_init_7  : look a_X0_init 7 = vNewA T0 8 dfa (fun ls σ => (lg ls 0).2 + 1) 4 24 1 9 := rfl
theorem k_X0_init_9  : look a_X0_init 9 = vPutR T0 16 0 8 0 12 := rfl
theorem k_X0_init_12  : look a_X0_init 12 = vAload 0 13 := rfl
theorem k_X0_init_13  : look a_X0_init 13 = vI 6 15 := rfl
theorem k_X0_init_15  : look a_X0_init 15 = vNewA T0 8 dfa (fun ls σ => (lg ls 0).2 + 2) 4 24 1 17 := rfl
theorem k_X0_init_17  : look a_X0_init 17 = vPutR T0 16 1 8 1 20 := rfl
theorem k_X0_init_20  : look a_X0_init 20 = vAload 0 21 := rfl
theorem k_X0_init_21  : look a_X0_init 21 = vI 6 23 := rfl
theorem k_X0_init_23  : look a_X0_init 23 = vNewA T0 8 dfa (fun ls σ => (lg ls 0).2 + 3) 4 24 1 25 := rfl
theorem k_X0_init_25  : look a_X0_init 25 = vPutR T0 16 2 8 2 28 := rfl
theorem k_X0_init_28  : look a_X0_init 28 = vAload 0 29 := rfl
theorem k_X0_init_29  : look a_X0_init 29 = vI 6 31 := rfl
theorem k_X0_init_31  : look a_X0_init 31 = vNewA T0 8 dfa (fun ls σ => (lg ls 0).2 + 4) 4 24 1 33 := rfl
theorem k_X0_init_33  : look a_X0_init 33 = vPutR T0 16 3 8 3 36 := rfl
theorem k_X0_init_36  : look a_X0_init 36 = vAload 0 37 := rfl
theorem k_X0_init_37  : look a_X0_init 37 = vI 0 38 := rfl
theorem k_X0_init_38  : look a_X0_init 38 = vPutI 16 4 41 := rfl
theorem k_X0_init_41  : look a_X0_init 41 = vAload 0 42 := rfl
theorem k_X0_init_42  : look a_X0_init 42 = vI 0 43 := rfl
theorem k_X0_init_43  : look a_X0_init 43 = vPutI 16 5 46 := rfl
theorem k_X0_init_46  : look a_X0_init 46 = vAload 0 47 := rfl
theorem k_X0_init_47  : look a_X0_init 47 = vI 0 48 := rfl
theorem k_X0_init_48  : look a_X0_init 48 = vPutI 16 6 51 := rfl
theorem k_X0_init_51  : look a_X0_init 51 = vVret := rfl
theorem o_X0_init {X : amX}  (e1 : XT X = T0) (e2 : XD X = 1) (e3 : XC X = 4) (e4 : XS X = 24) (hin : (XM X).name = "<init>") (hE : Eno (Xn X) (Xst X)) (hB : amB X RX0 cX0_init (none) 1) : ∀ pc, amOK X pc (look a_X0_init pc) := by
  have hT : amTok (XT X) := e1 ▸ T0_ok
  refine look_ok ?_
  unfold a_X0_init
  refine fc (ok_aload_n hB dX0_init_0) ?_
  refine fc (ok_obj hB (by rw [e2]; decide) wd_141 wd_33 wd_34 dX0_init_1) ?_
  refine fc (ok_aload_n hB dX0_init_4) ?_
  refine fc (ok_bipush hB dX0_init_5 (by decide)) ?_
  refine fc (ok_newA8 hB e1 e3 e4 wd_57 _ dX0_init_7) ?_
  refine fc (okt_putRF e1 hB hT fp_X0_9 (rt_arr _) rfl hin rfl rfl rfl af_0_0 at_0_0 (by decide) (by decide) dX0_init_9) ?_
  refine fc (ok_aload_n hB dX0_init_12) ?_
  refine fc (ok_bipush hB dX0_init_13 (by decide)) ?_
  refine fc (ok_newA8 hB e1 e3 e4 wd_57 _ dX0_init_15) ?_
  refine fc (okt_putRF e1 hB hT fp_X0_15 (rt_arr _) rfl hin rfl rfl rfl af_0_1 at_0_1 (by decide) (by decide) dX0_init_17) ?_
  refine fc (ok_aload_n hB dX0_init_20) ?_
  refine fc (ok_bipush hB dX0_init_21 (by decide)) ?_
  refine fc (ok_newA8 hB e1 e3 e4 wd_57 _ dX0_init_23) ?_
  refine fc (okt_putRF e1 hB hT fp_X0_18 (rt_arr _) rfl hin rfl rfl rfl af_0_2 at_0_2 (by decide) (by decide) dX0_init_25) ?_
  refine fc (ok_aload_n hB dX0_init_28) ?_
  refine fc (ok_bipush hB dX0_init_29 (by decide)) ?_
  refine fc (ok_newA8 hB e1 e3 e4 wd_57 _ dX0_init_31) ?_
  refine fc (okt_putRF e1 hB hT fp_X0_21 (rt_arr _) rfl hin rfl rfl rfl af_0_3 at_0_3 (by decide) (by decide) dX0_init_33) ?_
  refine fc (ok_aload_n hB dX0_init_36) ?_
  refine fc (ok_iconst hB dX0_init_37) ?_
  refine fc (ok_putI hB hT fp_X0_24 rfl rfl rfl af_0_4 dX0_init_38) ?_
  refine fc (ok_aload_n hB dX0_init_41) ?_
  refine fc (ok_iconst hB dX0_init_42) ?_
  refine fc (ok_putI hB hT fp_X0_28 rfl rfl rfl af_0_5 dX0_init_43) ?_
  refine fc (ok_aload_n hB dX0_init_46) ?_
  refine fc (ok_iconst hB dX0_init_47) ?_
  refine fc (ok_putI hB hT fp_X0_31 rfl rfl rfl af_0_6 dX0_init_48) ?_
  refine fc (ok_vret hB dX0_init_51) ?_
  exact fn


def w_X0_init : WP := fun av σ Q => ∃ (a : Int), av = [(16, a)] ∧ ((a = 16 ∨ a = 21) ∧ nl σ (a + 1) ∧ nl σ (a + 2) ∧ nl σ (a + 3) ∧ nl σ (a + 4) ∧ Q (6, 0) (ini0 σ a))
theorem w_X0_init_e (a : Int) (σ : Mem) (Q : AV → Mem → Prop) : w_X0_init [(16, a)] σ Q = ((a = 16 ∨ a = 21) ∧ nl σ (a + 1) ∧ nl σ (a + 2) ∧ nl σ (a + 3) ∧ nl σ (a + 4) ∧ Q (6, 0) (ini0 σ a)) := by
  apply propext; constructor
  · rintro ⟨a', h9, hb9⟩; cases h9; exact hb9
  · intro hb9; exact ⟨a, rfl, hb9⟩

set_option maxRecDepth 100000 in
set_option maxHeartbeats 4000000 in
theorem s_X0_init  : ∀ av σ Q, w_X0_init  av σ Q → amCallE Eno 1 4 24 T0 yX0_init cX0_init 1 (none) av σ Q := by
  rintro av σ Q ⟨a, rfl, ha, h1, h2, h3, h4, h⟩
  unfold ini0 at h
  rcases ha with rfl | rfl
  · simp only [Int.reduceAdd] at h h1 h2 h3 h4
    refine am_methodE (own := RX0) (A := look a_X0_init) (fun X e1 e2 e3 e4 h5 hE hB => o_X0_init  e1 e2 e3 e4 h5 hE hB) rfl (by decide +kernel) rfl rfl 104 (w := 3) ?_
    change vcs _ _ _ _ 104 0 [(16, 16), (6, 0), (6, 0)] [] σ
    simp only [vNew_e, vNewA_e, vCallI_e0, vCallI_e1, vCallI_e2, vCallI_e3, vCallMA_e0, vCallMA_e1, vCallSA_e2, vObj_e, cnt_e, List.length_cons, List.length_nil, Nat.zero_add, Nat.reduceAdd, Nat.reduceLT, Int.reduceAdd, Nat.reduceLeDiff, ↓reduceIte, vSw2_e, swP_n, swP_c, vI_e, vL_e, vNull_e, vIload_e, vLload_e, vAload_e, vIstore_e, vLstore_e, vAstore_e, vIinc_e, vIadd_e, vIsub_e, vImul_e, vIand_e, vIor_e, vIxor_e, vIshl_e, vIshr_e, vIushr_e, vIdiv_e, vIrem_e, vLadd_e, vLsub_e, vLmul_e, vLand_e, vLor_e, vLxor_e, vLdiv_e, vLrem_e, vLushr_e, vLshl_e, vLcmp_e, vIneg_e, vI2l_e, vL2i_e, vI2b_e, vI2c_e, vDup_e, vPop_e, vDup2_e, vGoto_e, vIcEq_e, vIfEq_e, vIcNe_e, vIfNe_e, vIcLt_e, vIfLt_e, vIcGe_e, vIfGe_e, vIcGt_e, vIfGt_e, vIcLe_e, vIfLe_e, vNonnull_e, vSw_e, vGetI_e, vGetL_e, vGetR_e, vPutI_e, vPutZ_e, vPutL_e, vPutR_e, vIald_e, vIald_s, vLald_e, vBald_e, vBald_s, vAald_e, vIast_e, vLast_e, vBast_e, vAast_e, vAlen_e8, vAlen_e9, vAlen_e10, vAlen_e11, vAlen_e5, vAlen_e3, vGets_e, vCompact_e, vLdcS_e, vIret_e, vZret_e, vCret_e, vBret_e, vLret_e, vVret_e, vAret_e, vCallM_e0, vCallMV_e0, vCallS_e0, vCallSV_e0, vCallM_e1, vCallMV_e1, vCallS_e1, vCallSV_e1, vCallM_e2, vCallMV_e2, vCallS_e2, vCallSV_e2, vCallM_e3, vCallMV_e3, vCallS_e3, vCallSV_e3, vCallM_e4, vCallMV_e4, vCallS_e4, vCallSV_e4, vCallM_e5, vCallMV_e5, vCallS_e5, vCallSV_e5, vCallM_e6, vCallMV_e6, vCallS_e6, vCallSV_e6, vCallM_e7, vCallMV_e7, vCallS_e7, vCallSV_e7, vBad_e, vStrVal_e, vStrCod_e, vForm_e, vCallT_e0, vCallT_e1, vCallT_e2, vCopy_e, rf_0_0, rf_0_1, rf_0_2, rf_0_3, rf_0_4, rf_0_7, rf_0_10, rf_0_11, rf_0_12, rf_0_13, rf_0_14, rf_0_15, rf_0_16, rf_1_0, rf_3_0, rf_3_1, rf_6_0, rf_6_1, rf_9_0, rf_9_1, rf_9_3, rf_13_0, rf_13_1, rf_13_2, rf_16_0, rf_16_1, rf_16_2, rf_16_3, rf_21_0, rf_21_1, rf_21_2, rf_21_3, rf_26_0, rf_26_1, rf_26_2, rf_26_3, rf_26_4, rf_26_5, rf_26_6, rf_31_0, rf_31_2, rf_31_5, rf_31_6, rf_36_0, rf_36_1, rf_36_2, rf_36_3, rf_39_0, rf_39_1, rf_39_2, rf_41_0, rf_41_1, rf_41_2, rf_41_3, rf_5000_1, rf_5000_2, rf_5000_3, rf_5000_4, rf_5000_5, rf_5000_15, rf_5000_16, rf_5000_18, rf_5000_19, rf_5000_20, rf_5000_21, rf_5000_22, rf_5000_23, rf_5000_24, rf_5000_25, rf_5000_26, rf_5000_27, rf_5000_36, rf_5000_37, rf_5000_40, rf_5000_41, rf_5000_42, rf_5000_43, rf_5000_44, rf_5000_45, rf_5000_47, rf_5000_52, rf_5000_54, rf_5000_55, rf_100_0, rf_100_1, rf_103_0, rf_103_1, rf_106_0, rf_106_1, rf_109_0, rf_109_1, al_2, al_4, al_5, al_7, al_8, al_10, al_11, al_12, al_14, al_15, al_17, al_18, al_19, al_20, al_22, al_23, al_24, al_25, al_27, al_28, al_29, al_30, al_32, al_33, al_34, al_35, al_37, al_38, al_40, al_42, al_5001, al_5002, al_5003, al_5004, al_5005, al_5006, al_5007, al_5008, al_5009, al_5010, al_5011, al_5012, al_5013, al_5014, al_5015, al_5016, al_5017, al_5018, al_5019, al_5020, al_5021, al_5022, al_5023, al_5024, al_5025, al_5026, al_9000, al_101, al_102, al_104, al_105, al_107, al_108, al_110, al_111, vcs_e, lg_c0, lg_cs, lg_nil, set_c0, set_cs, okst_0, okst_s, acok_n, acok_c, List.contains_nil, List.contains_cons, Bool.or_false, Bool.false_or, Bool.false_eq_true, if_false, if_true, ite_self, ne_eq, true_and, and_true, not_false_eq_true, not_true_eq_false, false_imp_iff, true_imp_iff, Nat.ble_eq, Bool.and_eq_true, reduceCtorEq, or_false, false_or, or_true, true_or, false_and, and_false, and_self, Int.reduceLE, Int.reduceAdd, Int.reduceSub, Int.reduceMul, Int.reduceNeg, Int.reduceLT, Int.reduceEq, Int.reduceNe, Nat.reduceBEq, Nat.reduceBNe, Nat.reduceEqDiff, amCmp_in, amCmp_lt, amCmp_le, amCmp_gt, amCmp_ge, amCmp_eq, amCmp_ne, Nat.reduceLeDiff, Nat.reduceSub, Bool.and_true, Bool.true_and, Bool.and_self, Bool.or_true, Bool.true_or, isRf_3, isRf_4, isRf_5, isRf_8, isRf_9, isRf_10, isRf_11, isRf_15, isRf_16, isRf_17, isRf_18, isRf_19, isRf_20, isRf_21, isRf_22, isRf_23, isRf_24, isRf_25, isRf_26, isRf_27, isRf_28, k_X0_init_0, k_X0_init_1, k_X0_init_4, k_X0_init_5, k_X0_init_7, k_X0_init_9, k_X0_init_12, k_X0_init_13, k_X0_init_15, k_X0_init_17, k_X0_init_20, k_X0_init_21, k_X0_init_23, k_X0_init_25, k_X0_init_28, k_X0_init_29, k_X0_init_31, k_X0_init_33, k_X0_init_36, k_X0_init_37, k_X0_init_38, k_X0_init_41, k_X0_init_42, k_X0_init_43, k_X0_init_46, k_X0_init_47, k_X0_init_48, k_X0_init_51, up_s, up_nj, up_na, up_up, savR_o, cpy_o, fillm_o, setAud_o, setv_o, setv_s, Int.reduceNe, Int.reduceEq, Int.reduceLT, Int.reduceAdd, not_false_eq_true, ne_eq, or_true, true_or, nl_newm, nl_up, rf0_16_0, rf0_16_1, rf0_16_2, rf0_16_3, rf0_21_0, rf0_21_1, rf0_21_2, rf0_21_3, no_16, no_21, na_17, na_18, na_19, na_20, newm_k, newm_s]
    repeat' (first | assumption | apply And.intro | intro _)
    all_goals first | omega | exact rfl | exact Or.inl rfl | exact Or.inr rfl | decide
  · simp only [Int.reduceAdd] at h h1 h2 h3 h4
    refine am_methodE (own := RX0) (A := look a_X0_init) (fun X e1 e2 e3 e4 h5 hE hB => o_X0_init  e1 e2 e3 e4 h5 hE hB) rfl (by decide +kernel) rfl rfl 104 (w := 3) ?_
    change vcs _ _ _ _ 104 0 [(16, 21), (6, 0), (6, 0)] [] σ
    simp only [vNew_e, vNewA_e, vCallI_e0, vCallI_e1, vCallI_e2, vCallI_e3, vCallMA_e0, vCallMA_e1, vCallSA_e2, vObj_e, cnt_e, List.length_cons, List.length_nil, Nat.zero_add, Nat.reduceAdd, Nat.reduceLT, Int.reduceAdd, Nat.reduceLeDiff, ↓reduceIte, vSw2_e, swP_n, swP_c, vI_e, vL_e, vNull_e, vIload_e, vLload_e, vAload_e, vIstore_e, vLstore_e, vAstore_e, vIinc_e, vIadd_e, vIsub_e, vImul_e, vIand_e, vIor_e, vIxor_e, vIshl_e, vIshr_e, vIushr_e, vIdiv_e, vIrem_e, vLadd_e, vLsub_e, vLmul_e, vLand_e, vLor_e, vLxor_e, vLdiv_e, vLrem_e, vLushr_e, vLshl_e, vLcmp_e, vIneg_e, vI2l_e, vL2i_e, vI2b_e, vI2c_e, vDup_e, vPop_e, vDup2_e, vGoto_e, vIcEq_e, vIfEq_e, vIcNe_e, vIfNe_e, vIcLt_e, vIfLt_e, vIcGe_e, vIfGe_e, vIcGt_e, vIfGt_e, vIcLe_e, vIfLe_e, vNonnull_e, vSw_e, vGetI_e, vGetL_e, vGetR_e, vPutI_e, vPutZ_e, vPutL_e, vPutR_e, vIald_e, vIald_s, vLald_e, vBald_e, vBald_s, vAald_e, vIast_e, vLast_e, vBast_e, vAast_e, vAlen_e8, vAlen_e9, vAlen_e10, vAlen_e11, vAlen_e5, vAlen_e3, vGets_e, vCompact_e, vLdcS_e, vIret_e, vZret_e, vCret_e, vBret_e, vLret_e, vVret_e, vAret_e, vCallM_e0, vCallMV_e0, vCallS_e0, vCallSV_e0, vCallM_e1, vCallMV_e1, vCallS_e1, vCallSV_e1, vCallM_e2, vCallMV_e2, vCallS_e2, vCallSV_e2, vCallM_e3, vCallMV_e3, vCallS_e3, vCallSV_e3, vCallM_e4, vCallMV_e4, vCallS_e4, vCallSV_e4, vCallM_e5, vCallMV_e5, vCallS_e5, vCallSV_e5, vCallM_e6, vCallMV_e6, vCallS_e6, vCallSV_e6, vCallM_e7, vCallMV_e7, vCallS_e7, vCallSV_e7, vBad_e, vStrVal_e, vStrCod_e, vForm_e, vCallT_e0, vCallT_e1, vCallT_e2, vCopy_e, rf_0_0, rf_0_1, rf_0_2, rf_0_3, rf_0_4, rf_0_7, rf_0_10, rf_0_11, rf_0_12, rf_0_13, rf_0_14, rf_0_15, rf_0_16, rf_1_0, rf_3_0, rf_3_1, rf_6_0, rf_6_1, rf_9_0, rf_9_1, rf_9_3, rf_13_0, rf_13_1, rf_13_2, rf_16_0, rf_16_1, rf_16_2, rf_16_3, rf_21_0, rf_21_1, rf_21_2, rf_21_3, rf_26_0, rf_26_1, rf_26_2, rf_26_3, rf_26_4, rf_26_5, rf_26_6, rf_31_0, rf_31_2, rf_31_5, rf_31_6, rf_36_0, rf_36_1, rf_36_2, rf_36_3, rf_39_0, rf_39_1, rf_39_2, rf_41_0, rf_41_1, rf_41_2, rf_41_3, rf_5000_1, rf_5000_2, rf_5000_3, rf_5000_4, rf_5000_5, rf_5000_15, rf_5000_16, rf_5000_18, rf_5000_19, rf_5000_20, rf_5000_21, rf_5000_22, rf_5000_23, rf_5000_24, rf_5000_25, rf_5000_26, rf_5000_27, rf_5000_36, rf_5000_37, rf_5000_40, rf_5000_41, rf_5000_42, rf_5000_43, rf_5000_44, rf_5000_45, rf_5000_47, rf_5000_52, rf_5000_54, rf_5000_55, rf_100_0, rf_100_1, rf_103_0, rf_103_1, rf_106_0, rf_106_1, rf_109_0, rf_109_1, al_2, al_4, al_5, al_7, al_8, al_10, al_11, al_12, al_14, al_15, al_17, al_18, al_19, al_20, al_22, al_23, al_24, al_25, al_27, al_28, al_29, al_30, al_32, al_33, al_34, al_35, al_37, al_38, al_40, al_42, al_5001, al_5002, al_5003, al_5004, al_5005, al_5006, al_5007, al_5008, al_5009, al_5010, al_5011, al_5012, al_5013, al_5014, al_5015, al_5016, al_5017, al_5018, al_5019, al_5020, al_5021, al_5022, al_5023, al_5024, al_5025, al_5026, al_9000, al_101, al_102, al_104, al_105, al_107, al_108, al_110, al_111, vcs_e, lg_c0, lg_cs, lg_nil, set_c0, set_cs, okst_0, okst_s, acok_n, acok_c, List.contains_nil, List.contains_cons, Bool.or_false, Bool.false_or, Bool.false_eq_true, if_false, if_true, ite_self, ne_eq, true_and, and_true, not_false_eq_true, not_true_eq_false, false_imp_iff, true_imp_iff, Nat.ble_eq, Bool.and_eq_true, reduceCtorEq, or_false, false_or, or_true, true_or, false_and, and_false, and_self, Int.reduceLE, Int.reduceAdd, Int.reduceSub, Int.reduceMul, Int.reduceNeg, Int.reduceLT, Int.reduceEq, Int.reduceNe, Nat.reduceBEq, Nat.reduceBNe, Nat.reduceEqDiff, amCmp_in, amCmp_lt, amCmp_le, amCmp_gt, amCmp_ge, amCmp_eq, amCmp_ne, Nat.reduceLeDiff, Nat.reduceSub, Bool.and_true, Bool.true_and, Bool.and_self, Bool.or_true, Bool.true_or, isRf_3, isRf_4, isRf_5, isRf_8, isRf_9, isRf_10, isRf_11, isRf_15, isRf_16, isRf_17, isRf_18, isRf_19, isRf_20, isRf_21, isRf_22, isRf_23, isRf_24, isRf_25, isRf_26, isRf_27, isRf_28, k_X0_init_0, k_X0_init_1, k_X0_init_4, k_X0_init_5, k_X0_init_7, k_X0_init_9, k_X0_init_12, k_X0_init_13, k_X0_init_15, k_X0_init_17, k_X0_init_20, k_X0_init_21, k_X0_init_23, k_X0_init_25, k_X0_init_28, k_X0_init_29, k_X0_init_31, k_X0_init_33, k_X0_init_36, k_X0_init_37, k_X0_init_38, k_X0_init_41, k_X0_init_42, k_X0_init_43, k_X0_init_46, k_X0_init_47, k_X0_init_48, k_X0_init_51, up_s, up_nj, up_na, up_up, savR_o, cpy_o, fillm_o, setAud_o, setv_o, setv_s, Int.reduceNe, Int.reduceEq, Int.reduceLT, Int.reduceAdd, not_false_eq_true, ne_eq, or_true, true_or, nl_newm, nl_up, rf0_21_0, rf0_21_1, rf0_21_2, rf0_21_3, rf0_26_0, rf0_26_1, rf0_26_2, rf0_26_3, rf0_26_4, rf0_26_5, rf0_26_6, no_21, no_26, na_22, na_23, na_24, na_25, newm_k, newm_s]
    repeat' (first | assumption | apply And.intro | intro _)
    all_goals first | omega | exact rfl | exact Or.inl rfl | exact Or.inr rfl | decide
def ini9 (σ : Mem) (a b c : Int) : Mem := up (up (up (up (up (newm (up (newm (up (newm (up (newm (up (σ) a 1 (-1)) (a + 1) (dfa 6)) a 2 (a + 1)) (a + 2) (dfa 324)) a 3 (a + 2)) (a + 3) (dfa 6)) a 4 (a + 3)) (a + 4) (dfa 6)) a 5 (a + 4)) a 7 0) a 8 0) a 0 b) a 6 c
theorem ini9_o (σ : Mem) {a b c b9 : Int} (h : b9 ≠ a) (h1 : b9 ≠ a + 1) (h2 : b9 ≠ a + 2) (h3 : b9 ≠ a + 3) (h4 : b9 ≠ a + 4) (hm : b9 ≠ -2) : ini9 σ a b c b9 = σ b9 := by
  unfold ini9
  simp only [up_na _ h, newm_o _ h1 hm, newm_o _ h2 hm, newm_o _ h3 hm, newm_o _ h4 hm]
theorem ini9_k (σ : Mem) {a b c b9 : Int} (j : Int) (h : b9 ≠ a) (h1 : b9 ≠ a + 1) (h2 : b9 ≠ a + 2) (h3 : b9 ≠ a + 3) (h4 : b9 ≠ a + 4) (hm : b9 ≠ -2) : ini9 σ a b c b9 j = σ b9 j := by rw [ini9_o σ h h1 h2 h3 h4 hm]
theorem ini9_n {σ : Mem} {a b c b9 : Int} (ha : 0 ≤ a) (h1 : b9 ≠ a + 1) (h2 : b9 ≠ a + 2) (h3 : b9 ≠ a + 3) (h4 : b9 ≠ a + 4) : nl (ini9 σ a b c) b9 = nl σ b9 := by
  unfold ini9
  simp only [nl_up ha, nl_newm (show 0 ≤ a + 1 by omega) h1, nl_newm (show 0 ≤ a + 2 by omega) h2, nl_newm (show 0 ≤ a + 3 by omega) h3, nl_newm (show 0 ≤ a + 4 by omega) h4]
theorem wd_183 : Cond.methodLink RX9 3 Lib.objectInit ∈ TBL := tb_tab (List.mem_of_getElem? (i := 183) (by decide +kernel)) rfl
theorem fp_X9_9 : amFp RX9 9 1 9 RX9 TX9 9 tyX9 (.object "ArmchairHouse$Law") := ⟨fl_X9_9, tyX9_ok, nmX9, by decide +kernel⟩
theorem fp_X9_15 : amFp RX9 9 2 15 RX9 TX9 9 tyX9 (.array .int) := ⟨fl_X9_15, tyX9_ok, nmX9, by decide +kernel⟩
theorem fp_X9_19 : amFp RX9 9 3 19 RX9 TX9 9 tyX9 (.array .int) := ⟨fl_X9_19, tyX9_ok, nmX9, by decide +kernel⟩
theorem fp_X9_22 : amFp RX9 9 4 22 RX9 TX9 9 tyX9 (.array .int) := ⟨fl_X9_22, tyX9_ok, nmX9, by decide +kernel⟩
theorem fp_X9_25 : amFp RX9 9 5 25 RX9 TX9 9 tyX9 (.array .int) := ⟨fl_X9_25, tyX9_ok, nmX9, by decide +kernel⟩
theorem fp_X9_35 : amFp RX9 9 0 35 RX9 TX9 9 tyX9 (.object "ArmchairHouse$Plan") := ⟨fl_X9_35, tyX9_ok, nmX9, by decide +kernel⟩
def a_X9_init  : AC := [(0, vAload 0 1), (1, vObj 4), (4, vAload 0 5), (5, vNull 6), (6, vPutR T0 25 1 18 1 9), (9, vAload 0 10), (10, vI 6 12), (12, vNewA T0 8 dfa (fun ls σ => (lg ls 0).2 + 1) 4 342 3 14), (14, vPutR T0 25 2 8 2 17), (17, vAload 0 18), (18, vI 324 21), (21, vNewA T0 8 dfa (fun ls σ => (lg ls 0).2 + 2) 4 342 3 23), (23, vPutR T0 25 3 8 3 26), (26, vAload 0 27), (27, vI 6 29), (29, vNewA T0 8 dfa (fun ls σ => (lg ls 0).2 + 3) 4 342 3 31), (31, vPutR T0 25 4 8 4 34), (34, vAload 0 35), (35, vI 6 37), (37, vNewA T0 8 dfa (fun ls σ => (lg ls 0).2 + 4) 4 342 3 39), (39, vPutR T0 25 5 8 5 42), (42, vAload 0 43), (43, vI 0 44), (44, vPutI 25 7 47), (47, vAload 0 48), (48, vI 0 49), (49, vPutI 25 8 52), (52, vAload 0 53), (53, vAload 1 54), (54, vPutR T0 25 0 22 0 57), (57, vAload 0 58), (58, vAload 2 59), (59, vPutR T0 25 6 16 6 62), (62, vVret)]
theorem k_X9_init_0  : look a_X9_init 0 = vAload 0 1 := rfl
theorem k_X9_init_1  : look a_X9_init 1 = vObj 4 := rfl
theorem k_X9_init_4  : look a_X9_init 4 = vAload 0 5 := rfl
theorem k_X9_init_5  : look a_X9_init 5 = vNull 6 := rfl
theorem k_X9_init_6  : look a_X9_init 6 = vPutR T0 25 1 18 1 9 := rfl
theorem k_X9_init_9  : look a_X9_init 9 = vAload 0 10 := rfl
theorem k_X9_init_10  : look a_X9_init 10 = vI 6 12 := rfl
theorem k_X9_init_12  : look a_X9_init 12 = vNewA T0 8 dfa (fun ls σ => (lg ls 0).2 + 1) 4 342 3 14 := rfl
theorem k_X9_init_14  : look a_X9_init 14 = vPutR T0 25 2 8 2 17 := rfl
theorem k_X9_init_17  : look a_X9_init 17 = vAload 0 18 := rfl
theorem k_X9_init_18  : look a_X9_init 18 = vI 324 21 := rfl
theorem k_X9_init_21  : look a_X9_init 21 = vNewA T0 8 dfa (fun ls σ => (lg ls 0).2 + 2) 4 342 3 23 := rfl
theorem k_X9_init_23  : look a_X9_init 23 = vPutR T0 25 3 8 3 26 := rfl
theorem k_X9_init_26  : look a_X9_init 26 = vAload 0 27 := rfl
theorem k_X9_init_27  : look a_X9_init 27 = vI 6 29 := rfl
theorem k_X9_init_29  : look a_X9_init 29 = vNewA T0 8 dfa (fun ls σ => (lg ls 0).2 + 3) 4 342 3 31 := rfl
theorem k_X9_init_31  : look a_X9_init 31 = vPutR T0 25 4 8 4 34 := rfl
theorem k_X9_init_34  : look a_X9_init 34 = vAload 0 35 := rfl
theorem k_X9_init_35  : look a_X9_init 35 = vI 6 37 := rfl
theorem k_X9_init_37  : look a_X9_init 37 = vNewA T0 8 dfa (fun ls σ => (lg ls 0).2 + 4) 4 342 3 39 := rfl
theorem k_X9_init_39  : look a_X9_init 39 = vPutR T0 25 5 8 5 42 := rfl
theorem k_X9_init_42  : look a_X9_init 42 = vAload 0 43 := rfl
theorem k_X9_init_43  : look a_X9_init 43 = vI 0 44 := rfl
theorem k_X9_init_44  : look a_X9_init 44 = vPutI 25 7 47 := rfl
theorem k_X9_init_47  : look a_X9_init 47 = vAload 0 48 := rfl
theorem k_X9_init_48  : look a_X9_init 48 = vI 0 49 := rfl
theorem k_X9_init_49  : look a_X9_init 49 = vPutI 25 8 52 := rfl
theorem k_X9_init_52  : look a_X9_init 52 = vAload 0 53 := rfl
theorem k_X9_init_53  : look a_X9_init 53 = vAload 1 54 := rfl
theorem k_X9_init_54  : look a_X9_init 54 = vPutR T0 25 0 22 0 57 := rfl
theorem k_X9_init_57  : look a_X9_init 57 = vAload 0 58 := rfl
theorem k_X9_init_58  : look a_X9_init 58 = vAload 2 59 := rfl
theorem k_X9_init_59  : look a_X9_init 59 = vPutR T0 25 6 16 6 62 := rfl
theorem k_X9_init_62  : look a_X9_init 62 = vVret := rfl
theorem o_X9_init {X : amX}  (e1 : XT X = T0) (e2 : XD X = 1) (e3 : XC X = 4) (e4 : XS X = 342) (hin : (XM X).name = "<init>") (hE : Eno (Xn X) (Xst X)) (hB : amB X RX9 cX9_init (none) 3) : ∀ pc, amOK X pc (look a_X9_init pc) := by
  have hT : amTok (XT X) := e1 ▸ T0_ok
  refine look_ok ?_
  unfold a_X9_init
  refine fc (ok_aload_n hB dX9_init_0) ?_
  refine fc (ok_obj hB (by rw [e2]; decide) wd_183 wd_33 wd_34 dX9_init_1) ?_
  refine fc (ok_aload_n hB dX9_init_4) ?_
  refine fc (ok_null hB dX9_init_5) ?_
  refine fc (okt_putR e1 hB hT fp_X9_9 (rt_obj _) rfl rfl rfl af_9_1 at_9_1 (by decide) (by decide) dX9_init_6) ?_
  refine fc (ok_aload_n hB dX9_init_9) ?_
  refine fc (ok_bipush hB dX9_init_10 (by decide)) ?_
  refine fc (ok_newA8 hB e1 e3 e4 wd_57 _ dX9_init_12) ?_
  refine fc (okt_putRF e1 hB hT fp_X9_15 (rt_arr _) rfl hin rfl rfl rfl af_9_2 at_9_2 (by decide) (by decide) dX9_init_14) ?_
  refine fc (ok_aload_n hB dX9_init_17) ?_
  refine fc (ok_sipush hB dX9_init_18 (by decide)) ?_
  refine fc (ok_newA8 hB e1 e3 e4 wd_57 _ dX9_init_21) ?_
  refine fc (okt_putRF e1 hB hT fp_X9_19 (rt_arr _) rfl hin rfl rfl rfl af_9_3 at_9_3 (by decide) (by decide) dX9_init_23) ?_
  refine fc (ok_aload_n hB dX9_init_26) ?_
  refine fc (ok_bipush hB dX9_init_27 (by decide)) ?_
  refine fc (ok_newA8 hB e1 e3 e4 wd_57 _ dX9_init_29) ?_
  refine fc (okt_putRF e1 hB hT fp_X9_22 (rt_arr _) rfl hin rfl rfl rfl af_9_4 at_9_4 (by decide) (by decide) dX9_init_31) ?_
  refine fc (ok_aload_n hB dX9_init_34) ?_
  refine fc (ok_bipush hB dX9_init_35 (by decide)) ?_
  refine fc (ok_newA8 hB e1 e3 e4 wd_57 _ dX9_init_37) ?_
  refine fc (okt_putRF e1 hB hT fp_X9_25 (rt_arr _) rfl hin rfl rfl rfl af_9_5 at_9_5 (by decide) (by decide) dX9_init_39) ?_
  refine fc (ok_aload_n hB dX9_init_42) ?_
  refine fc (ok_iconst hB dX9_init_43) ?_
  refine fc (ok_putI hB hT fp_X9_28 rfl rfl rfl af_9_7 dX9_init_44) ?_
  refine fc (ok_aload_n hB dX9_init_47) ?_
  refine fc (ok_iconst hB dX9_init_48) ?_
  refine fc (ok_putI hB hT fp_X9_32 rfl rfl rfl af_9_8 dX9_init_49) ?_
  refine fc (ok_aload_n hB dX9_init_52) ?_
  refine fc (ok_aload_n hB dX9_init_53) ?_
  refine fc (okt_putRF e1 hB hT fp_X9_35 (rt_obj _) rfl hin rfl rfl rfl af_9_0 at_9_0 (by decide) (by decide) dX9_init_54) ?_
  refine fc (ok_aload_n hB dX9_init_57) ?_
  refine fc (ok_aload_n hB dX9_init_58) ?_
  refine fc (okt_putR e1 hB hT fp_X9_39 (rt_obj _) rfl rfl rfl af_9_6 at_9_6 (by decide) (by decide) dX9_init_59) ?_
  refine fc (ok_vret hB dX9_init_62) ?_
  exact fn


def w_X9_init : WP := fun av σ Q => ∃ (a : Int) (b : Int) (c : Int), av = [(25, a), (22, b), (16, c)] ∧ ((a = 26) ∧ 0 ≤ b ∧ 0 ≤ c ∧ nl σ (a + 1) ∧ nl σ (a + 2) ∧ nl σ (a + 3) ∧ nl σ (a + 4) ∧ Q (6, 0) (ini9 σ a b c))
theorem w_X9_init_e (a : Int) (b : Int) (c : Int) (σ : Mem) (Q : AV → Mem → Prop) : w_X9_init [(25, a), (22, b), (16, c)] σ Q = ((a = 26) ∧ 0 ≤ b ∧ 0 ≤ c ∧ nl σ (a + 1) ∧ nl σ (a + 2) ∧ nl σ (a + 3) ∧ nl σ (a + 4) ∧ Q (6, 0) (ini9 σ a b c)) := by
  apply propext; constructor
  · rintro ⟨a', b', c', h9, hb9⟩; cases h9; exact hb9
  · intro hb9; exact ⟨a, b, c, rfl, hb9⟩

set_option maxRecDepth 100000 in
set_option maxHeartbeats 4000000 in
theorem s_X9_init  : ∀ av σ Q, w_X9_init  av σ Q → amCallE Eno 1 4 342 T0 yX9_init cX9_init 3 (none) av σ Q := by
  rintro av σ Q ⟨a, b, c, rfl, ha, q_b, q_c, h1, h2, h3, h4, h⟩
  unfold ini9 at h
  subst ha
  simp only [Int.reduceAdd] at h h1 h2 h3 h4
  refine am_methodE (own := RX9) (A := look a_X9_init) (fun X e1 e2 e3 e4 h5 hE hB => o_X9_init  e1 e2 e3 e4 h5 hE hB) rfl (by decide +kernel) rfl rfl 122 (w := 5) ?_
  change vcs _ _ _ _ 122 0 [(25, 26), (22, b), (16, c), (6, 0), (6, 0)] [] σ
  simp only [vNew_e, vNewA_e, vCallI_e0, vCallI_e1, vCallI_e2, vCallI_e3, vCallMA_e0, vCallMA_e1, vCallSA_e2, vObj_e, cnt_e, List.length_cons, List.length_nil, Nat.zero_add, Nat.reduceAdd, Nat.reduceLT, Int.reduceAdd, Nat.reduceLeDiff, ↓reduceIte, vSw2_e, swP_n, swP_c, vI_e, vL_e, vNull_e, vIload_e, vLload_e, vAload_e, vIstore_e, vLstore_e, vAstore_e, vIinc_e, vIadd_e, vIsub_e, vImul_e, vIand_e, vIor_e, vIxor_e, vIshl_e, vIshr_e, vIushr_e, vIdiv_e, vIrem_e, vLadd_e, vLsub_e, vLmul_e, vLand_e, vLor_e, vLxor_e, vLdiv_e, vLrem_e, vLushr_e, vLshl_e, vLcmp_e, vIneg_e, vI2l_e, vL2i_e, vI2b_e, vI2c_e, vDup_e, vPop_e, vDup2_e, vGoto_e, vIcEq_e, vIfEq_e, vIcNe_e, vIfNe_e, vIcLt_e, vIfLt_e, vIcGe_e, vIfGe_e, vIcGt_e, vIfGt_e, vIcLe_e, vIfLe_e, vNonnull_e, vSw_e, vGetI_e, vGetL_e, vGetR_e, vPutI_e, vPutZ_e, vPutL_e, vPutR_e, vIald_e, vIald_s, vLald_e, vBald_e, vBald_s, vAald_e, vIast_e, vLast_e, vBast_e, vAast_e, vAlen_e8, vAlen_e9, vAlen_e10, vAlen_e11, vAlen_e5, vAlen_e3, vGets_e, vCompact_e, vLdcS_e, vIret_e, vZret_e, vCret_e, vBret_e, vLret_e, vVret_e, vAret_e, vCallM_e0, vCallMV_e0, vCallS_e0, vCallSV_e0, vCallM_e1, vCallMV_e1, vCallS_e1, vCallSV_e1, vCallM_e2, vCallMV_e2, vCallS_e2, vCallSV_e2, vCallM_e3, vCallMV_e3, vCallS_e3, vCallSV_e3, vCallM_e4, vCallMV_e4, vCallS_e4, vCallSV_e4, vCallM_e5, vCallMV_e5, vCallS_e5, vCallSV_e5, vCallM_e6, vCallMV_e6, vCallS_e6, vCallSV_e6, vCallM_e7, vCallMV_e7, vCallS_e7, vCallSV_e7, vBad_e, vStrVal_e, vStrCod_e, vForm_e, vCallT_e0, vCallT_e1, vCallT_e2, vCopy_e, rf_0_0, rf_0_1, rf_0_2, rf_0_3, rf_0_4, rf_0_7, rf_0_10, rf_0_11, rf_0_12, rf_0_13, rf_0_14, rf_0_15, rf_0_16, rf_1_0, rf_3_0, rf_3_1, rf_6_0, rf_6_1, rf_9_0, rf_9_1, rf_9_3, rf_13_0, rf_13_1, rf_13_2, rf_16_0, rf_16_1, rf_16_2, rf_16_3, rf_21_0, rf_21_1, rf_21_2, rf_21_3, rf_26_0, rf_26_1, rf_26_2, rf_26_3, rf_26_4, rf_26_5, rf_26_6, rf_31_0, rf_31_2, rf_31_5, rf_31_6, rf_36_0, rf_36_1, rf_36_2, rf_36_3, rf_39_0, rf_39_1, rf_39_2, rf_41_0, rf_41_1, rf_41_2, rf_41_3, rf_5000_1, rf_5000_2, rf_5000_3, rf_5000_4, rf_5000_5, rf_5000_15, rf_5000_16, rf_5000_18, rf_5000_19, rf_5000_20, rf_5000_21, rf_5000_22, rf_5000_23, rf_5000_24, rf_5000_25, rf_5000_26, rf_5000_27, rf_5000_36, rf_5000_37, rf_5000_40, rf_5000_41, rf_5000_42, rf_5000_43, rf_5000_44, rf_5000_45, rf_5000_47, rf_5000_52, rf_5000_54, rf_5000_55, rf_100_0, rf_100_1, rf_103_0, rf_103_1, rf_106_0, rf_106_1, rf_109_0, rf_109_1, al_2, al_4, al_5, al_7, al_8, al_10, al_11, al_12, al_14, al_15, al_17, al_18, al_19, al_20, al_22, al_23, al_24, al_25, al_27, al_28, al_29, al_30, al_32, al_33, al_34, al_35, al_37, al_38, al_40, al_42, al_5001, al_5002, al_5003, al_5004, al_5005, al_5006, al_5007, al_5008, al_5009, al_5010, al_5011, al_5012, al_5013, al_5014, al_5015, al_5016, al_5017, al_5018, al_5019, al_5020, al_5021, al_5022, al_5023, al_5024, al_5025, al_5026, al_9000, al_101, al_102, al_104, al_105, al_107, al_108, al_110, al_111, vcs_e, lg_c0, lg_cs, lg_nil, set_c0, set_cs, okst_0, okst_s, acok_n, acok_c, List.contains_nil, List.contains_cons, Bool.or_false, Bool.false_or, Bool.false_eq_true, if_false, if_true, ite_self, ne_eq, true_and, and_true, not_false_eq_true, not_true_eq_false, false_imp_iff, true_imp_iff, Nat.ble_eq, Bool.and_eq_true, reduceCtorEq, or_false, false_or, or_true, true_or, false_and, and_false, and_self, Int.reduceLE, Int.reduceAdd, Int.reduceSub, Int.reduceMul, Int.reduceNeg, Int.reduceLT, Int.reduceEq, Int.reduceNe, Nat.reduceBEq, Nat.reduceBNe, Nat.reduceEqDiff, amCmp_in, amCmp_lt, amCmp_le, amCmp_gt, amCmp_ge, amCmp_eq, amCmp_ne, Nat.reduceLeDiff, Nat.reduceSub, Bool.and_true, Bool.true_and, Bool.and_self, Bool.or_true, Bool.true_or, isRf_3, isRf_4, isRf_5, isRf_8, isRf_9, isRf_10, isRf_11, isRf_15, isRf_16, isRf_17, isRf_18, isRf_19, isRf_20, isRf_21, isRf_22, isRf_23, isRf_24, isRf_25, isRf_26, isRf_27, isRf_28, k_X9_init_0, k_X9_init_1, k_X9_init_4, k_X9_init_5, k_X9_init_6, k_X9_init_9, k_X9_init_10, k_X9_init_12, k_X9_init_14, k_X9_init_17, k_X9_init_18, k_X9_init_21, k_X9_init_23, k_X9_init_26, k_X9_init_27, k_X9_init_29, k_X9_init_31, k_X9_init_34, k_X9_init_35, k_X9_init_37, k_X9_init_39, k_X9_init_42, k_X9_init_43, k_X9_init_44, k_X9_init_47, k_X9_init_48, k_X9_init_49, k_X9_init_52, k_X9_init_53, k_X9_init_54, k_X9_init_57, k_X9_init_58, k_X9_init_59, k_X9_init_62, up_s, up_nj, up_na, up_up, savR_o, cpy_o, fillm_o, setAud_o, setv_o, setv_s, Int.reduceNe, Int.reduceEq, Int.reduceLT, Int.reduceAdd, not_false_eq_true, ne_eq, or_true, true_or, nl_newm, nl_up, rf0_26_0, rf0_26_1, rf0_26_2, rf0_26_3, rf0_26_4, rf0_26_5, rf0_26_6, rf0_31_0, rf0_31_2, rf0_31_5, rf0_31_6, no_26, no_31, na_27, na_28, na_29, na_30, newm_k, newm_s]
  repeat' (first | assumption | apply And.intro | intro _)
  all_goals first | omega | exact rfl | exact Or.inl rfl | exact Or.inr rfl | decide
def ini5 (σ : Mem) (a : Int) : Mem := up (up (up (newm (up (newm (up (up (up (newm (up (up (newm (σ) (a + 1) (dfa 128)) a 0 (a + 1)) a 1 0) (a + 2) (dfa 1120)) a 2 (a + 2)) a 3 0) a 4 0) (a + 3) (dfa 27)) a 5 (a + 3)) (a + 4) (dfa 60)) a 6 (a + 4)) a 7 0) a 8 0
theorem ini5_o (σ : Mem) {a b9 : Int} (h : b9 ≠ a) (h1 : b9 ≠ a + 1) (h2 : b9 ≠ a + 2) (h3 : b9 ≠ a + 3) (h4 : b9 ≠ a + 4) (hm : b9 ≠ -2) : ini5 σ a b9 = σ b9 := by
  unfold ini5
  simp only [up_na _ h, newm_o _ h1 hm, newm_o _ h2 hm, newm_o _ h3 hm, newm_o _ h4 hm]
theorem ini5_k (σ : Mem) {a b9 : Int} (j : Int) (h : b9 ≠ a) (h1 : b9 ≠ a + 1) (h2 : b9 ≠ a + 2) (h3 : b9 ≠ a + 3) (h4 : b9 ≠ a + 4) (hm : b9 ≠ -2) : ini5 σ a b9 j = σ b9 j := by rw [ini5_o σ h h1 h2 h3 h4 hm]
theorem ini5_n {σ : Mem} {a b9 : Int} (ha : 0 ≤ a) (h1 : b9 ≠ a + 1) (h2 : b9 ≠ a + 2) (h3 : b9 ≠ a + 3) (h4 : b9 ≠ a + 4) : nl (ini5 σ a) b9 = nl σ b9 := by
  unfold ini5
  simp only [nl_up ha, nl_newm (show 0 ≤ a + 1 by omega) h1, nl_newm (show 0 ≤ a + 2 by omega) h2, nl_newm (show 0 ≤ a + 3 by omega) h3, nl_newm (show 0 ≤ a + 4 by omega) h4]
theorem wd_224 : Cond.methodLink RX5 5 Lib.objectInit ∈ TBL := tb_tab (List.mem_of_getElem? (i := 224) (by decide +kernel)) rfl
theorem fp_X5_13 : amFp RX5 5 0 13 RX5 TX5 9 tyX5 (.array .int) := ⟨fl_X5_13, tyX5_ok, nmX5, by decide +kernel⟩
theorem fp_X5_21 : amFp RX5 5 2 21 RX5 TX5 9 tyX5 (.array .int) := ⟨fl_X5_21, tyX5_ok, nmX5, by decide +kernel⟩
theorem fp_X5_30 : amFp RX5 5 5 30 RX5 TX5 9 tyX5 (.array .int) := ⟨fl_X5_30, tyX5_ok, nmX5, by decide +kernel⟩
theorem fp_X5_33 : amFp RX5 5 6 33 RX5 TX5 9 tyX5 (.array .int) := ⟨fl_X5_33, tyX5_ok, nmX5, by decide +kernel⟩
def a_X5_init  : AC := [(0, vAload 0 1), (1, vObj 4), (4, vAload 0 5), (5, vI 128 8), (8, vNewA T0 8 dfa (fun ls σ => (lg ls 0).2 + 1) 4 1335 1 10), (10, vPutR T0 21 0 8 0 13), (13, vAload 0 14), (14, vI 0 15), (15, vPutI 21 1 18), (18, vAload 0 19), (19, vI 1120 22), (22, vNewA T0 8 dfa (fun ls σ => (lg ls 0).2 + 2) 4 1335 1 24), (24, vPutR T0 21 2 8 2 27), (27, vAload 0 28), (28, vI 0 29), (29, vPutI 21 3 32), (32, vAload 0 33), (33, vI 0 34), (34, vPutI 21 4 37), (37, vAload 0 38), (38, vI 27 40), (40, vNewA T0 8 dfa (fun ls σ => (lg ls 0).2 + 3) 4 1335 1 42), (42, vPutR T0 21 5 8 5 45), (45, vAload 0 46), (46, vI 60 48), (48, vNewA T0 8 dfa (fun ls σ => (lg ls 0).2 + 4) 4 1335 1 50), (50, vPutR T0 21 6 8 6 53), (53, vAload 0 54), (54, vI 0 55), (55, vPutI 21 7 58), (58, vAload 0 59), (59, vI 0 60), (60, vPutZ 21 8 63), (63, vVret)]
theorem k_X5_init_0  : look a_X5_init 0 = vAload 0 1 := rfl
theorem k_X5_init_1  : look a_X5_init 1 = vObj 4 := rfl
theorem k_X5_init_4  : look a_X5_init 4 = vAload 0 5 := rfl
theorem k_X5_init_5  : look a_X5_init 5 = vI 128 8 := rfl
theorem k_X5_init_8  : look a_X5_init 8 = vNewA T0 8 dfa (fun ls σ => (lg ls 0).2 + 1) 4 1335 1 10 := rfl
theorem k_X5_init_10  : look a_X5_init 10 = vPutR T0 21 0 8 0 13 := rfl
theorem k_X5_init_13  : look a_X5_init 13 = vAload 0 14 := rfl
theorem k_X5_init_14  : look a_X5_init 14 = vI 0 15 := rfl
theorem k_X5_init_15  : look a_X5_init 15 = vPutI 21 1 18 := rfl
theorem k_X5_init_18  : look a_X5_init 18 = vAload 0 19 := rfl
theorem k_X5_init_19  : look a_X5_init 19 = vI 1120 22 := rfl
theorem k_X5_init_22  : look a_X5_init 22 = vNewA T0 8 dfa (fun ls σ => (lg ls 0).2 + 2) 4 1335 1 24 := rfl
theorem k_X5_init_24  : look a_X5_init 24 = vPutR T0 21 2 8 2 27 := rfl
theorem k_X5_init_27  : look a_X5_init 27 = vAload 0 28 := rfl
theorem k_X5_init_28  : look a_X5_init 28 = vI 0 29 := rfl
theorem k_X5_init_29  : look a_X5_init 29 = vPutI 21 3 32 := rfl
theorem k_X5_init_32  : look a_X5_init 32 = vAload 0 33 := rfl
theorem k_X5_init_33  : look a_X5_init 33 = vI 0 34 := rfl
theorem k_X5_init_34  : look a_X5_init 34 = vPutI 21 4 37 := rfl
theorem k_X5_init_37  : look a_X5_init 37 = vAload 0 38 := rfl
theorem k_X5_init_38  : look a_X5_init 38 = vI 27 40 := rfl
theorem k_X5_init_40  : look a_X5_init 40 = vNewA T0 8 dfa (fun ls σ => (lg ls 0).2 + 3) 4 1335 1 42 := rfl
theorem k_X5_init_42  : look a_X5_init 42 = vPutR T0 21 5 8 5 45 := rfl
theorem k_X5_init_45  : look a_X5_init 45 = vAload 0 46 := rfl
theorem k_X5_init_46  : look a_X5_init 46 = vI 60 48 := rfl
theorem k_X5_init_48  : look a_X5_init 48 = vNewA T0 8 dfa (fun ls σ => (lg ls 0).2 + 4) 4 1335 1 50 := rfl
theorem k_X5_init_50  : look a_X5_init 50 = vPutR T0 21 6 8 6 53 := rfl
theorem k_X5_init_53  : look a_X5_init 53 = vAload 0 54 := rfl
theorem k_X5_init_54  : look a_X5_init 54 = vI 0 55 := rfl
theorem k_X5_init_55  : look a_X5_init 55 = vPutI 21 7 58 := rfl
theorem k_X5_init_58  : look a_X5_init 58 = vAload 0 59 := rfl
theorem k_X5_init_59  : look a_X5_init 59 = vI 0 60 := rfl
theorem k_X5_init_60  : look a_X5_init 60 = vPutZ 21 8 63 := rfl
theorem k_X5_init_63  : look a_X5_init 63 = vVret := rfl
theorem o_X5_init {X : amX}  (e1 : XT X = T0) (e2 : XD X = 1) (e3 : XC X = 4) (e4 : XS X = 1335) (hin : (XM X).name = "<init>") (hE : Eno (Xn X) (Xst X)) (hB : amB X RX5 cX5_init (none) 1) : ∀ pc, amOK X pc (look a_X5_init pc) := by
  have hT : amTok (XT X) := e1 ▸ T0_ok
  refine look_ok ?_
  unfold a_X5_init
  refine fc (ok_aload_n hB dX5_init_0) ?_
  refine fc (ok_obj hB (by rw [e2]; decide) wd_224 wd_33 wd_34 dX5_init_1) ?_
  refine fc (ok_aload_n hB dX5_init_4) ?_
  refine fc (ok_sipush hB dX5_init_5 (by decide)) ?_
  refine fc (ok_newA8 hB e1 e3 e4 wd_57 _ dX5_init_8) ?_
  refine fc (okt_putRF e1 hB hT fp_X5_13 (rt_arr _) rfl hin rfl rfl rfl af_5_0 at_5_0 (by decide) (by decide) dX5_init_10) ?_
  refine fc (ok_aload_n hB dX5_init_13) ?_
  refine fc (ok_iconst hB dX5_init_14) ?_
  refine fc (ok_putI hB hT fp_X5_17 rfl rfl rfl af_5_1 dX5_init_15) ?_
  refine fc (ok_aload_n hB dX5_init_18) ?_
  refine fc (ok_sipush hB dX5_init_19 (by decide)) ?_
  refine fc (ok_newA8 hB e1 e3 e4 wd_57 _ dX5_init_22) ?_
  refine fc (okt_putRF e1 hB hT fp_X5_21 (rt_arr _) rfl hin rfl rfl rfl af_5_2 at_5_2 (by decide) (by decide) dX5_init_24) ?_
  refine fc (ok_aload_n hB dX5_init_27) ?_
  refine fc (ok_iconst hB dX5_init_28) ?_
  refine fc (ok_putI hB hT fp_X5_24 rfl rfl rfl af_5_3 dX5_init_29) ?_
  refine fc (ok_aload_n hB dX5_init_32) ?_
  refine fc (ok_iconst hB dX5_init_33) ?_
  refine fc (ok_putI hB hT fp_X5_27 rfl rfl rfl af_5_4 dX5_init_34) ?_
  refine fc (ok_aload_n hB dX5_init_37) ?_
  refine fc (ok_bipush hB dX5_init_38 (by decide)) ?_
  refine fc (ok_newA8 hB e1 e3 e4 wd_57 _ dX5_init_40) ?_
  refine fc (okt_putRF e1 hB hT fp_X5_30 (rt_arr _) rfl hin rfl rfl rfl af_5_5 at_5_5 (by decide) (by decide) dX5_init_42) ?_
  refine fc (ok_aload_n hB dX5_init_45) ?_
  refine fc (ok_bipush hB dX5_init_46 (by decide)) ?_
  refine fc (ok_newA8 hB e1 e3 e4 wd_57 _ dX5_init_48) ?_
  refine fc (okt_putRF e1 hB hT fp_X5_33 (rt_arr _) rfl hin rfl rfl rfl af_5_6 at_5_6 (by decide) (by decide) dX5_init_50) ?_
  refine fc (ok_aload_n hB dX5_init_53) ?_
  refine fc (ok_iconst hB dX5_init_54) ?_
  refine fc (ok_putI hB hT fp_X5_36 rfl rfl rfl af_5_7 dX5_init_55) ?_
  refine fc (ok_aload_n hB dX5_init_58) ?_
  refine fc (ok_iconst hB dX5_init_59) ?_
  refine fc (ok_putZ hB hT fp_X5_39 rfl rfl rfl af_5_8 dX5_init_60) ?_
  refine fc (ok_vret hB dX5_init_63) ?_
  exact fn


def w_X5_init : WP := fun av σ Q => ∃ (a : Int), av = [(21, a)] ∧ ((a = 31) ∧ nl σ (a + 1) ∧ nl σ (a + 2) ∧ nl σ (a + 3) ∧ nl σ (a + 4) ∧ Q (6, 0) (ini5 σ a))
theorem w_X5_init_e (a : Int) (σ : Mem) (Q : AV → Mem → Prop) : w_X5_init [(21, a)] σ Q = ((a = 31) ∧ nl σ (a + 1) ∧ nl σ (a + 2) ∧ nl σ (a + 3) ∧ nl σ (a + 4) ∧ Q (6, 0) (ini5 σ a)) := by
  apply propext; constructor
  · rintro ⟨a', h9, hb9⟩; cases h9; exact hb9
  · intro hb9; exact ⟨a, rfl, hb9⟩

set_option maxRecDepth 100000 in
set_option maxHeartbeats 4000000 in
theorem s_X5_init  : ∀ av σ Q, w_X5_init  av σ Q → amCallE Eno 1 4 1335 T0 yX5_init cX5_init 1 (none) av σ Q := by
  rintro av σ Q ⟨a, rfl, ha, h1, h2, h3, h4, h⟩
  unfold ini5 at h
  subst ha
  simp only [Int.reduceAdd] at h h1 h2 h3 h4
  refine am_methodE (own := RX5) (A := look a_X5_init) (fun X e1 e2 e3 e4 h5 hE hB => o_X5_init  e1 e2 e3 e4 h5 hE hB) rfl (by decide +kernel) rfl rfl 122 (w := 3) ?_
  change vcs _ _ _ _ 122 0 [(21, 31), (6, 0), (6, 0)] [] σ
  simp only [vNew_e, vNewA_e, vCallI_e0, vCallI_e1, vCallI_e2, vCallI_e3, vCallMA_e0, vCallMA_e1, vCallSA_e2, vObj_e, cnt_e, List.length_cons, List.length_nil, Nat.zero_add, Nat.reduceAdd, Nat.reduceLT, Int.reduceAdd, Nat.reduceLeDiff, ↓reduceIte, vSw2_e, swP_n, swP_c, vI_e, vL_e, vNull_e, vIload_e, vLload_e, vAload_e, vIstore_e, vLstore_e, vAstore_e, vIinc_e, vIadd_e, vIsub_e, vImul_e, vIand_e, vIor_e, vIxor_e, vIshl_e, vIshr_e, vIushr_e, vIdiv_e, vIrem_e, vLadd_e, vLsub_e, vLmul_e, vLand_e, vLor_e, vLxor_e, vLdiv_e, vLrem_e, vLushr_e, vLshl_e, vLcmp_e, vIneg_e, vI2l_e, vL2i_e, vI2b_e, vI2c_e, vDup_e, vPop_e, vDup2_e, vGoto_e, vIcEq_e, vIfEq_e, vIcNe_e, vIfNe_e, vIcLt_e, vIfLt_e, vIcGe_e, vIfGe_e, vIcGt_e, vIfGt_e, vIcLe_e, vIfLe_e, vNonnull_e, vSw_e, vGetI_e, vGetL_e, vGetR_e, vPutI_e, vPutZ_e, vPutL_e, vPutR_e, vIald_e, vIald_s, vLald_e, vBald_e, vBald_s, vAald_e, vIast_e, vLast_e, vBast_e, vAast_e, vAlen_e8, vAlen_e9, vAlen_e10, vAlen_e11, vAlen_e5, vAlen_e3, vGets_e, vCompact_e, vLdcS_e, vIret_e, vZret_e, vCret_e, vBret_e, vLret_e, vVret_e, vAret_e, vCallM_e0, vCallMV_e0, vCallS_e0, vCallSV_e0, vCallM_e1, vCallMV_e1, vCallS_e1, vCallSV_e1, vCallM_e2, vCallMV_e2, vCallS_e2, vCallSV_e2, vCallM_e3, vCallMV_e3, vCallS_e3, vCallSV_e3, vCallM_e4, vCallMV_e4, vCallS_e4, vCallSV_e4, vCallM_e5, vCallMV_e5, vCallS_e5, vCallSV_e5, vCallM_e6, vCallMV_e6, vCallS_e6, vCallSV_e6, vCallM_e7, vCallMV_e7, vCallS_e7, vCallSV_e7, vBad_e, vStrVal_e, vStrCod_e, vForm_e, vCallT_e0, vCallT_e1, vCallT_e2, vCopy_e, rf_0_0, rf_0_1, rf_0_2, rf_0_3, rf_0_4, rf_0_7, rf_0_10, rf_0_11, rf_0_12, rf_0_13, rf_0_14, rf_0_15, rf_0_16, rf_1_0, rf_3_0, rf_3_1, rf_6_0, rf_6_1, rf_9_0, rf_9_1, rf_9_3, rf_13_0, rf_13_1, rf_13_2, rf_16_0, rf_16_1, rf_16_2, rf_16_3, rf_21_0, rf_21_1, rf_21_2, rf_21_3, rf_26_0, rf_26_1, rf_26_2, rf_26_3, rf_26_4, rf_26_5, rf_26_6, rf_31_0, rf_31_2, rf_31_5, rf_31_6, rf_36_0, rf_36_1, rf_36_2, rf_36_3, rf_39_0, rf_39_1, rf_39_2, rf_41_0, rf_41_1, rf_41_2, rf_41_3, rf_5000_1, rf_5000_2, rf_5000_3, rf_5000_4, rf_5000_5, rf_5000_15, rf_5000_16, rf_5000_18, rf_5000_19, rf_5000_20, rf_5000_21, rf_5000_22, rf_5000_23, rf_5000_24, rf_5000_25, rf_5000_26, rf_5000_27, rf_5000_36, rf_5000_37, rf_5000_40, rf_5000_41, rf_5000_42, rf_5000_43, rf_5000_44, rf_5000_45, rf_5000_47, rf_5000_52, rf_5000_54, rf_5000_55, rf_100_0, rf_100_1, rf_103_0, rf_103_1, rf_106_0, rf_106_1, rf_109_0, rf_109_1, al_2, al_4, al_5, al_7, al_8, al_10, al_11, al_12, al_14, al_15, al_17, al_18, al_19, al_20, al_22, al_23, al_24, al_25, al_27, al_28, al_29, al_30, al_32, al_33, al_34, al_35, al_37, al_38, al_40, al_42, al_5001, al_5002, al_5003, al_5004, al_5005, al_5006, al_5007, al_5008, al_5009, al_5010, al_5011, al_5012, al_5013, al_5014, al_5015, al_5016, al_5017, al_5018, al_5019, al_5020, al_5021, al_5022, al_5023, al_5024, al_5025, al_5026, al_9000, al_101, al_102, al_104, al_105, al_107, al_108, al_110, al_111, vcs_e, lg_c0, lg_cs, lg_nil, set_c0, set_cs, okst_0, okst_s, acok_n, acok_c, List.contains_nil, List.contains_cons, Bool.or_false, Bool.false_or, Bool.false_eq_true, if_false, if_true, ite_self, ne_eq, true_and, and_true, not_false_eq_true, not_true_eq_false, false_imp_iff, true_imp_iff, Nat.ble_eq, Bool.and_eq_true, reduceCtorEq, or_false, false_or, or_true, true_or, false_and, and_false, and_self, Int.reduceLE, Int.reduceAdd, Int.reduceSub, Int.reduceMul, Int.reduceNeg, Int.reduceLT, Int.reduceEq, Int.reduceNe, Nat.reduceBEq, Nat.reduceBNe, Nat.reduceEqDiff, amCmp_in, amCmp_lt, amCmp_le, amCmp_gt, amCmp_ge, amCmp_eq, amCmp_ne, Nat.reduceLeDiff, Nat.reduceSub, Bool.and_true, Bool.true_and, Bool.and_self, Bool.or_true, Bool.true_or, isRf_3, isRf_4, isRf_5, isRf_8, isRf_9, isRf_10, isRf_11, isRf_15, isRf_16, isRf_17, isRf_18, isRf_19, isRf_20, isRf_21, isRf_22, isRf_23, isRf_24, isRf_25, isRf_26, isRf_27, isRf_28, k_X5_init_0, k_X5_init_1, k_X5_init_4, k_X5_init_5, k_X5_init_8, k_X5_init_10, k_X5_init_13, k_X5_init_14, k_X5_init_15, k_X5_init_18, k_X5_init_19, k_X5_init_22, k_X5_init_24, k_X5_init_27, k_X5_init_28, k_X5_init_29, k_X5_init_32, k_X5_init_33, k_X5_init_34, k_X5_init_37, k_X5_init_38, k_X5_init_40, k_X5_init_42, k_X5_init_45, k_X5_init_46, k_X5_init_48, k_X5_init_50, k_X5_init_53, k_X5_init_54, k_X5_init_55, k_X5_init_58, k_X5_init_59, k_X5_init_60, k_X5_init_63, up_s, up_nj, up_na, up_up, savR_o, cpy_o, fillm_o, setAud_o, setv_o, setv_s, Int.reduceNe, Int.reduceEq, Int.reduceLT, Int.reduceAdd, not_false_eq_true, ne_eq, or_true, true_or, nl_newm, nl_up, rf0_31_0, rf0_31_2, rf0_31_5, rf0_31_6, rf0_36_0, rf0_36_1, rf0_36_2, rf0_36_3, no_31, no_36, na_32, na_33, na_34, na_35, newm_k, newm_s]
  repeat' (first | assumption | apply And.intro | intro _)
  all_goals first | omega | exact rfl | exact Or.inl rfl | exact Or.inr rfl | decide
def ini8 (σ : Mem) (a b c : Int) : Mem := up (up (up (newm (up (newm (σ) (a + 1) (dfa 64)) a 2 (a + 1)) (a + 2) (dfa 64)) a 3 (a + 2)) a 0 b) a 1 c
theorem ini8_o (σ : Mem) {a b c b9 : Int} (h : b9 ≠ a) (h1 : b9 ≠ a + 1) (h2 : b9 ≠ a + 2) (hm : b9 ≠ -2) : ini8 σ a b c b9 = σ b9 := by
  unfold ini8
  simp only [up_na _ h, newm_o _ h1 hm, newm_o _ h2 hm]
theorem ini8_k (σ : Mem) {a b c b9 : Int} (j : Int) (h : b9 ≠ a) (h1 : b9 ≠ a + 1) (h2 : b9 ≠ a + 2) (hm : b9 ≠ -2) : ini8 σ a b c b9 j = σ b9 j := by rw [ini8_o σ h h1 h2 hm]
theorem ini8_n {σ : Mem} {a b c b9 : Int} (ha : 0 ≤ a) (h1 : b9 ≠ a + 1) (h2 : b9 ≠ a + 2) : nl (ini8 σ a b c) b9 = nl σ b9 := by
  unfold ini8
  simp only [nl_up ha, nl_newm (show 0 ≤ a + 1 by omega) h1, nl_newm (show 0 ≤ a + 2 by omega) h2]
theorem wd_259 : Cond.methodLink RX8 3 Lib.objectInit ∈ TBL := tb_tab (List.mem_of_getElem? (i := 259) (by decide +kernel)) rfl
theorem wd_273 : Cond.arrayClass .long ∈ TBL := tb_tab (List.mem_of_getElem? (i := 273) (by decide +kernel)) rfl
theorem fp_X8_11 : amFp RX8 8 2 11 RX8 TX8 4 tyX8 (.array .long) := ⟨fl_X8_11, tyX8_ok, nmX8, by decide +kernel⟩
theorem fp_X8_15 : amFp RX8 8 3 15 RX8 TX8 4 tyX8 (.array .long) := ⟨fl_X8_15, tyX8_ok, nmX8, by decide +kernel⟩
theorem fp_X8_18 : amFp RX8 8 0 18 RX8 TX8 4 tyX8 (.object "ArmchairHouse$Plan") := ⟨fl_X8_18, tyX8_ok, nmX8, by decide +kernel⟩
theorem fp_X8_22 : amFp RX8 8 1 22 RX8 TX8 4 tyX8 (.object "ArmchairHouse$Stage") := ⟨fl_X8_22, tyX8_ok, nmX8, by decide +kernel⟩
def a_X8_init  : AC := [(0, vAload 0 1), (1, vObj 4), (4, vAload 0 5), (5, vI 64 7), (7, vNewA T0 9 dfa (fun ls σ => (lg ls 0).2 + 1) 2 128 3 9), (9, vPutR T0 24 2 9 2 12), (12, vAload 0 13), (13, vI 64 15), (15, vNewA T0 9 dfa (fun ls σ => (lg ls 0).2 + 2) 2 128 3 17), (17, vPutR T0 24 3 9 3 20), (20, vAload 0 21), (21, vAload 1 22), (22, vPutR T0 24 0 22 0 25), (25, vAload 0 26), (26, vAload 2 27), (27, vPutR T0 24 1 25 1 30), (30, vVret)]
theorem k_X8_init_0  : look a_X8_init 0 = vAload 0 1 := rfl
theorem k_X8_init_1  : look a_X8_init 1 = vObj 4 := rfl
theorem k_X8_init_4  : look a_X8_init 4 = vAload 0 5 := rfl
theorem k_X8_init_5  : look a_X8_init 5 = vI 64 7 := rfl
theorem k_X8_init_7  : look a_X8_init 7 = vNewA T0 9 dfa (fun ls σ => (lg ls 0).2 + 1) 2 128 3 9 := rfl
theorem k_X8_init_9  : look a_X8_init 9 = vPutR T0 24 2 9 2 12 := rfl
theorem k_X8_init_12  : look a_X8_init 12 = vAload 0 13 := rfl
theorem k_X8_init_13  : look a_X8_init 13 = vI 64 15 := rfl
theorem k_X8_init_15  : look a_X8_init 15 = vNewA T0 9 dfa (fun ls σ => (lg ls 0).2 + 2) 2 128 3 17 := rfl
theorem k_X8_init_17  : look a_X8_init 17 = vPutR T0 24 3 9 3 20 := rfl
theorem k_X8_init_20  : look a_X8_init 20 = vAload 0 21 := rfl
theorem k_X8_init_21  : look a_X8_init 21 = vAload 1 22 := rfl
theorem k_X8_init_22  : look a_X8_init 22 = vPutR T0 24 0 22 0 25 := rfl
theorem k_X8_init_25  : look a_X8_init 25 = vAload 0 26 := rfl
theorem k_X8_init_26  : look a_X8_init 26 = vAload 2 27 := rfl
theorem k_X8_init_27  : look a_X8_init 27 = vPutR T0 24 1 25 1 30 := rfl
theorem k_X8_init_30  : look a_X8_init 30 = vVret := rfl
theorem o_X8_init {X : amX}  (e1 : XT X = T0) (e2 : XD X = 1) (e3 : XC X = 2) (e4 : XS X = 128) (hin : (XM X).name = "<init>") (hE : Eno (Xn X) (Xst X)) (hB : amB X RX8 cX8_init (none) 3) : ∀ pc, amOK X pc (look a_X8_init pc) := by
  have hT : amTok (XT X) := e1 ▸ T0_ok
  refine look_ok ?_
  unfold a_X8_init
  refine fc (ok_aload_n hB dX8_init_0) ?_
  refine fc (ok_obj hB (by rw [e2]; decide) wd_259 wd_33 wd_34 dX8_init_1) ?_
  refine fc (ok_aload_n hB dX8_init_4) ?_
  refine fc (ok_bipush hB dX8_init_5 (by decide)) ?_
  refine fc (ok_newA9 hB e1 e3 e4 wd_273 _ dX8_init_7) ?_
  refine fc (okt_putRF e1 hB hT fp_X8_11 (rt_arr _) rfl hin rfl rfl rfl af_8_2 at_8_2 (by decide) (by decide) dX8_init_9) ?_
  refine fc (ok_aload_n hB dX8_init_12) ?_
  refine fc (ok_bipush hB dX8_init_13 (by decide)) ?_
  refine fc (ok_newA9 hB e1 e3 e4 wd_273 _ dX8_init_15) ?_
  refine fc (okt_putRF e1 hB hT fp_X8_15 (rt_arr _) rfl hin rfl rfl rfl af_8_3 at_8_3 (by decide) (by decide) dX8_init_17) ?_
  refine fc (ok_aload_n hB dX8_init_20) ?_
  refine fc (ok_aload_n hB dX8_init_21) ?_
  refine fc (okt_putRF e1 hB hT fp_X8_18 (rt_obj _) rfl hin rfl rfl rfl af_8_0 at_8_0 (by decide) (by decide) dX8_init_22) ?_
  refine fc (ok_aload_n hB dX8_init_25) ?_
  refine fc (ok_aload_n hB dX8_init_26) ?_
  refine fc (okt_putRF e1 hB hT fp_X8_22 (rt_obj _) rfl hin rfl rfl rfl af_8_1 at_8_1 (by decide) (by decide) dX8_init_27) ?_
  refine fc (ok_vret hB dX8_init_30) ?_
  exact fn


def w_X8_init : WP := fun av σ Q => ∃ (a : Int) (b : Int) (c : Int), av = [(24, a), (22, b), (25, c)] ∧ ((a = 36) ∧ 0 ≤ b ∧ 0 ≤ c ∧ nl σ (a + 1) ∧ nl σ (a + 2) ∧ Q (6, 0) (ini8 σ a b c))
theorem w_X8_init_e (a : Int) (b : Int) (c : Int) (σ : Mem) (Q : AV → Mem → Prop) : w_X8_init [(24, a), (22, b), (25, c)] σ Q = ((a = 36) ∧ 0 ≤ b ∧ 0 ≤ c ∧ nl σ (a + 1) ∧ nl σ (a + 2) ∧ Q (6, 0) (ini8 σ a b c)) := by
  apply propext; constructor
  · rintro ⟨a', b', c', h9, hb9⟩; cases h9; exact hb9
  · intro hb9; exact ⟨a, b, c, rfl, hb9⟩

set_option maxRecDepth 100000 in
set_option maxHeartbeats 4000000 in
theorem s_X8_init  : ∀ av σ Q, w_X8_init  av σ Q → amCallE Eno 1 2 128 T0 yX8_init cX8_init 3 (none) av σ Q := by
  rintro av σ Q ⟨a, b, c, rfl, ha, q_b, q_c, h1, h2, h⟩
  unfold ini8 at h
  subst ha
  simp only [Int.reduceAdd] at h h1 h2
  refine am_methodE (own := RX8) (A := look a_X8_init) (fun X e1 e2 e3 e4 h5 hE hB => o_X8_init  e1 e2 e3 e4 h5 hE hB) rfl (by decide +kernel) rfl rfl 71 (w := 5) ?_
  change vcs _ _ _ _ 71 0 [(24, 36), (22, b), (25, c), (6, 0), (6, 0)] [] σ
  simp only [vNew_e, vNewA_e, vCallI_e0, vCallI_e1, vCallI_e2, vCallI_e3, vCallMA_e0, vCallMA_e1, vCallSA_e2, vObj_e, cnt_e, List.length_cons, List.length_nil, Nat.zero_add, Nat.reduceAdd, Nat.reduceLT, Int.reduceAdd, Nat.reduceLeDiff, ↓reduceIte, vSw2_e, swP_n, swP_c, vI_e, vL_e, vNull_e, vIload_e, vLload_e, vAload_e, vIstore_e, vLstore_e, vAstore_e, vIinc_e, vIadd_e, vIsub_e, vImul_e, vIand_e, vIor_e, vIxor_e, vIshl_e, vIshr_e, vIushr_e, vIdiv_e, vIrem_e, vLadd_e, vLsub_e, vLmul_e, vLand_e, vLor_e, vLxor_e, vLdiv_e, vLrem_e, vLushr_e, vLshl_e, vLcmp_e, vIneg_e, vI2l_e, vL2i_e, vI2b_e, vI2c_e, vDup_e, vPop_e, vDup2_e, vGoto_e, vIcEq_e, vIfEq_e, vIcNe_e, vIfNe_e, vIcLt_e, vIfLt_e, vIcGe_e, vIfGe_e, vIcGt_e, vIfGt_e, vIcLe_e, vIfLe_e, vNonnull_e, vSw_e, vGetI_e, vGetL_e, vGetR_e, vPutI_e, vPutZ_e, vPutL_e, vPutR_e, vIald_e, vIald_s, vLald_e, vBald_e, vBald_s, vAald_e, vIast_e, vLast_e, vBast_e, vAast_e, vAlen_e8, vAlen_e9, vAlen_e10, vAlen_e11, vAlen_e5, vAlen_e3, vGets_e, vCompact_e, vLdcS_e, vIret_e, vZret_e, vCret_e, vBret_e, vLret_e, vVret_e, vAret_e, vCallM_e0, vCallMV_e0, vCallS_e0, vCallSV_e0, vCallM_e1, vCallMV_e1, vCallS_e1, vCallSV_e1, vCallM_e2, vCallMV_e2, vCallS_e2, vCallSV_e2, vCallM_e3, vCallMV_e3, vCallS_e3, vCallSV_e3, vCallM_e4, vCallMV_e4, vCallS_e4, vCallSV_e4, vCallM_e5, vCallMV_e5, vCallS_e5, vCallSV_e5, vCallM_e6, vCallMV_e6, vCallS_e6, vCallSV_e6, vCallM_e7, vCallMV_e7, vCallS_e7, vCallSV_e7, vBad_e, vStrVal_e, vStrCod_e, vForm_e, vCallT_e0, vCallT_e1, vCallT_e2, vCopy_e, rf_0_0, rf_0_1, rf_0_2, rf_0_3, rf_0_4, rf_0_7, rf_0_10, rf_0_11, rf_0_12, rf_0_13, rf_0_14, rf_0_15, rf_0_16, rf_1_0, rf_3_0, rf_3_1, rf_6_0, rf_6_1, rf_9_0, rf_9_1, rf_9_3, rf_13_0, rf_13_1, rf_13_2, rf_16_0, rf_16_1, rf_16_2, rf_16_3, rf_21_0, rf_21_1, rf_21_2, rf_21_3, rf_26_0, rf_26_1, rf_26_2, rf_26_3, rf_26_4, rf_26_5, rf_26_6, rf_31_0, rf_31_2, rf_31_5, rf_31_6, rf_36_0, rf_36_1, rf_36_2, rf_36_3, rf_39_0, rf_39_1, rf_39_2, rf_41_0, rf_41_1, rf_41_2, rf_41_3, rf_5000_1, rf_5000_2, rf_5000_3, rf_5000_4, rf_5000_5, rf_5000_15, rf_5000_16, rf_5000_18, rf_5000_19, rf_5000_20, rf_5000_21, rf_5000_22, rf_5000_23, rf_5000_24, rf_5000_25, rf_5000_26, rf_5000_27, rf_5000_36, rf_5000_37, rf_5000_40, rf_5000_41, rf_5000_42, rf_5000_43, rf_5000_44, rf_5000_45, rf_5000_47, rf_5000_52, rf_5000_54, rf_5000_55, rf_100_0, rf_100_1, rf_103_0, rf_103_1, rf_106_0, rf_106_1, rf_109_0, rf_109_1, al_2, al_4, al_5, al_7, al_8, al_10, al_11, al_12, al_14, al_15, al_17, al_18, al_19, al_20, al_22, al_23, al_24, al_25, al_27, al_28, al_29, al_30, al_32, al_33, al_34, al_35, al_37, al_38, al_40, al_42, al_5001, al_5002, al_5003, al_5004, al_5005, al_5006, al_5007, al_5008, al_5009, al_5010, al_5011, al_5012, al_5013, al_5014, al_5015, al_5016, al_5017, al_5018, al_5019, al_5020, al_5021, al_5022, al_5023, al_5024, al_5025, al_5026, al_9000, al_101, al_102, al_104, al_105, al_107, al_108, al_110, al_111, vcs_e, lg_c0, lg_cs, lg_nil, set_c0, set_cs, okst_0, okst_s, acok_n, acok_c, List.contains_nil, List.contains_cons, Bool.or_false, Bool.false_or, Bool.false_eq_true, if_false, if_true, ite_self, ne_eq, true_and, and_true, not_false_eq_true, not_true_eq_false, false_imp_iff, true_imp_iff, Nat.ble_eq, Bool.and_eq_true, reduceCtorEq, or_false, false_or, or_true, true_or, false_and, and_false, and_self, Int.reduceLE, Int.reduceAdd, Int.reduceSub, Int.reduceMul, Int.reduceNeg, Int.reduceLT, Int.reduceEq, Int.reduceNe, Nat.reduceBEq, Nat.reduceBNe, Nat.reduceEqDiff, amCmp_in, amCmp_lt, amCmp_le, amCmp_gt, amCmp_ge, amCmp_eq, amCmp_ne, Nat.reduceLeDiff, Nat.reduceSub, Bool.and_true, Bool.true_and, Bool.and_self, Bool.or_true, Bool.true_or, isRf_3, isRf_4, isRf_5, isRf_8, isRf_9, isRf_10, isRf_11, isRf_15, isRf_16, isRf_17, isRf_18, isRf_19, isRf_20, isRf_21, isRf_22, isRf_23, isRf_24, isRf_25, isRf_26, isRf_27, isRf_28, k_X8_init_0, k_X8_init_1, k_X8_init_4, k_X8_init_5, k_X8_init_7, k_X8_init_9, k_X8_init_12, k_X8_init_13, k_X8_init_15, k_X8_init_17, k_X8_init_20, k_X8_init_21, k_X8_init_22, k_X8_init_25, k_X8_init_26, k_X8_init_27, k_X8_init_30, up_s, up_nj, up_na, up_up, savR_o, cpy_o, fillm_o, setAud_o, setv_o, setv_s, Int.reduceNe, Int.reduceEq, Int.reduceLT, Int.reduceAdd, not_false_eq_true, ne_eq, or_true, true_or, nl_newm, nl_up, rf0_36_0, rf0_36_1, rf0_36_2, rf0_36_3, rf0_39_0, rf0_39_1, rf0_39_2, rf0_41_0, rf0_41_1, rf0_41_2, rf0_41_3, no_36, no_39, no_41, na_37, na_38, na_40, newm_k, newm_s]
  repeat' (first | assumption | apply And.intro | intro _)
  all_goals first | omega | exact rfl | exact Or.inl rfl | exact Or.inr rfl | decide
def ini4 (σ : Mem) (a b c : Int) : Mem := up (up (up (newm (σ) (a + 1) (dfa 24)) a 2 (a + 1)) a 0 b) a 1 c
theorem ini4_o (σ : Mem) {a b c b9 : Int} (h : b9 ≠ a) (h1 : b9 ≠ a + 1) (hm : b9 ≠ -2) : ini4 σ a b c b9 = σ b9 := by
  unfold ini4
  simp only [up_na _ h, newm_o _ h1 hm]
theorem ini4_k (σ : Mem) {a b c b9 : Int} (j : Int) (h : b9 ≠ a) (h1 : b9 ≠ a + 1) (hm : b9 ≠ -2) : ini4 σ a b c b9 j = σ b9 j := by rw [ini4_o σ h h1 hm]
theorem ini4_n {σ : Mem} {a b c b9 : Int} (ha : 0 ≤ a) (h1 : b9 ≠ a + 1) : nl (ini4 σ a b c) b9 = nl σ b9 := by
  unfold ini4
  simp only [nl_up ha, nl_newm (show 0 ≤ a + 1 by omega) h1]
theorem wd_279 : Cond.methodLink RX4 3 Lib.objectInit ∈ TBL := tb_tab (List.mem_of_getElem? (i := 279) (by decide +kernel)) rfl
theorem fp_X4_9 : amFp RX4 4 2 9 RX4 TX4 3 tyX4 (.array .int) := ⟨fl_X4_9, tyX4_ok, nmX4, by decide +kernel⟩
theorem fp_X4_15 : amFp RX4 4 0 15 RX4 TX4 3 tyX4 (.object "ArmchairHouse$Plan") := ⟨fl_X4_15, tyX4_ok, nmX4, by decide +kernel⟩
theorem fp_X4_19 : amFp RX4 4 1 19 RX4 TX4 3 tyX4 (.object "ArmchairHouse$Stage") := ⟨fl_X4_19, tyX4_ok, nmX4, by decide +kernel⟩
def a_X4_init  : AC := [(0, vAload 0 1), (1, vObj 4), (4, vAload 0 5), (5, vI 24 7), (7, vNewA T0 8 dfa (fun ls σ => (lg ls 0).2 + 1) 1 24 3 9), (9, vPutR T0 20 2 8 2 12), (12, vAload 0 13), (13, vAload 1 14), (14, vPutR T0 20 0 22 0 17), (17, vAload 0 18), (18, vAload 2 19), (19, vPutR T0 20 1 25 1 22), (22, vVret)]
theorem k_X4_init_0  : look a_X4_init 0 = vAload 0 1 := rfl
theorem k_X4_init_1  : look a_X4_init 1 = vObj 4 := rfl
theorem k_X4_init_4  : look a_X4_init 4 = vAload 0 5 := rfl
theorem k_X4_init_5  : look a_X4_init 5 = vI 24 7 := rfl
theorem k_X4_init_7  : look a_X4_init 7 = vNewA T0 8 dfa (fun ls σ => (lg ls 0).2 + 1) 1 24 3 9 := rfl
theorem k_X4_init_9  : look a_X4_init 9 = vPutR T0 20 2 8 2 12 := rfl
theorem k_X4_init_12  : look a_X4_init 12 = vAload 0 13 := rfl
theorem k_X4_init_13  : look a_X4_init 13 = vAload 1 14 := rfl
theorem k_X4_init_14  : look a_X4_init 14 = vPutR T0 20 0 22 0 17 := rfl
theorem k_X4_init_17  : look a_X4_init 17 = vAload 0 18 := rfl
theorem k_X4_init_18  : look a_X4_init 18 = vAload 2 19 := rfl
theorem k_X4_init_19  : look a_X4_init 19 = vPutR T0 20 1 25 1 22 := rfl
theorem k_X4_init_22  : look a_X4_init 22 = vVret := rfl
theorem o_X4_init {X : amX}  (e1 : XT X = T0) (e2 : XD X = 1) (e3 : XC X = 1) (e4 : XS X = 24) (hin : (XM X).name = "<init>") (hE : Eno (Xn X) (Xst X)) (hB : amB X RX4 cX4_init (none) 3) : ∀ pc, amOK X pc (look a_X4_init pc) := by
  have hT : amTok (XT X) := e1 ▸ T0_ok
  refine look_ok ?_
  unfold a_X4_init
  refine fc (ok_aload_n hB dX4_init_0) ?_
  refine fc (ok_obj hB (by rw [e2]; decide) wd_279 wd_33 wd_34 dX4_init_1) ?_
  refine fc (ok_aload_n hB dX4_init_4) ?_
  refine fc (ok_bipush hB dX4_init_5 (by decide)) ?_
  refine fc (ok_newA8 hB e1 e3 e4 wd_57 _ dX4_init_7) ?_
  refine fc (okt_putRF e1 hB hT fp_X4_9 (rt_arr _) rfl hin rfl rfl rfl af_4_2 at_4_2 (by decide) (by decide) dX4_init_9) ?_
  refine fc (ok_aload_n hB dX4_init_12) ?_
  refine fc (ok_aload_n hB dX4_init_13) ?_
  refine fc (okt_putRF e1 hB hT fp_X4_15 (rt_obj _) rfl hin rfl rfl rfl af_4_0 at_4_0 (by decide) (by decide) dX4_init_14) ?_
  refine fc (ok_aload_n hB dX4_init_17) ?_
  refine fc (ok_aload_n hB dX4_init_18) ?_
  refine fc (okt_putRF e1 hB hT fp_X4_19 (rt_obj _) rfl hin rfl rfl rfl af_4_1 at_4_1 (by decide) (by decide) dX4_init_19) ?_
  refine fc (ok_vret hB dX4_init_22) ?_
  exact fn


def w_X4_init : WP := fun av σ Q => ∃ (a : Int) (b : Int) (c : Int), av = [(20, a), (22, b), (25, c)] ∧ ((a = 39) ∧ 0 ≤ b ∧ 0 ≤ c ∧ nl σ (a + 1) ∧ Q (6, 0) (ini4 σ a b c))
theorem w_X4_init_e (a : Int) (b : Int) (c : Int) (σ : Mem) (Q : AV → Mem → Prop) : w_X4_init [(20, a), (22, b), (25, c)] σ Q = ((a = 39) ∧ 0 ≤ b ∧ 0 ≤ c ∧ nl σ (a + 1) ∧ Q (6, 0) (ini4 σ a b c)) := by
  apply propext; constructor
  · rintro ⟨a', b', c', h9, hb9⟩; cases h9; exact hb9
  · intro hb9; exact ⟨a, b, c, rfl, hb9⟩

set_option maxRecDepth 100000 in
set_option maxHeartbeats 4000000 in
theorem s_X4_init  : ∀ av σ Q, w_X4_init  av σ Q → amCallE Eno 1 1 24 T0 yX4_init cX4_init 3 (none) av σ Q := by
  rintro av σ Q ⟨a, b, c, rfl, ha, q_b, q_c, h1, h⟩
  unfold ini4 at h
  subst ha
  simp only [Int.reduceAdd] at h h1
  refine am_methodE (own := RX4) (A := look a_X4_init) (fun X e1 e2 e3 e4 h5 hE hB => o_X4_init  e1 e2 e3 e4 h5 hE hB) rfl (by decide +kernel) rfl rfl 59 (w := 5) ?_
  change vcs _ _ _ _ 59 0 [(20, 39), (22, b), (25, c), (6, 0), (6, 0)] [] σ
  simp only [vNew_e, vNewA_e, vCallI_e0, vCallI_e1, vCallI_e2, vCallI_e3, vCallMA_e0, vCallMA_e1, vCallSA_e2, vObj_e, cnt_e, List.length_cons, List.length_nil, Nat.zero_add, Nat.reduceAdd, Nat.reduceLT, Int.reduceAdd, Nat.reduceLeDiff, ↓reduceIte, vSw2_e, swP_n, swP_c, vI_e, vL_e, vNull_e, vIload_e, vLload_e, vAload_e, vIstore_e, vLstore_e, vAstore_e, vIinc_e, vIadd_e, vIsub_e, vImul_e, vIand_e, vIor_e, vIxor_e, vIshl_e, vIshr_e, vIushr_e, vIdiv_e, vIrem_e, vLadd_e, vLsub_e, vLmul_e, vLand_e, vLor_e, vLxor_e, vLdiv_e, vLrem_e, vLushr_e, vLshl_e, vLcmp_e, vIneg_e, vI2l_e, vL2i_e, vI2b_e, vI2c_e, vDup_e, vPop_e, vDup2_e, vGoto_e, vIcEq_e, vIfEq_e, vIcNe_e, vIfNe_e, vIcLt_e, vIfLt_e, vIcGe_e, vIfGe_e, vIcGt_e, vIfGt_e, vIcLe_e, vIfLe_e, vNonnull_e, vSw_e, vGetI_e, vGetL_e, vGetR_e, vPutI_e, vPutZ_e, vPutL_e, vPutR_e, vIald_e, vIald_s, vLald_e, vBald_e, vBald_s, vAald_e, vIast_e, vLast_e, vBast_e, vAast_e, vAlen_e8, vAlen_e9, vAlen_e10, vAlen_e11, vAlen_e5, vAlen_e3, vGets_e, vCompact_e, vLdcS_e, vIret_e, vZret_e, vCret_e, vBret_e, vLret_e, vVret_e, vAret_e, vCallM_e0, vCallMV_e0, vCallS_e0, vCallSV_e0, vCallM_e1, vCallMV_e1, vCallS_e1, vCallSV_e1, vCallM_e2, vCallMV_e2, vCallS_e2, vCallSV_e2, vCallM_e3, vCallMV_e3, vCallS_e3, vCallSV_e3, vCallM_e4, vCallMV_e4, vCallS_e4, vCallSV_e4, vCallM_e5, vCallMV_e5, vCallS_e5, vCallSV_e5, vCallM_e6, vCallMV_e6, vCallS_e6, vCallSV_e6, vCallM_e7, vCallMV_e7, vCallS_e7, vCallSV_e7, vBad_e, vStrVal_e, vStrCod_e, vForm_e, vCallT_e0, vCallT_e1, vCallT_e2, vCopy_e, rf_0_0, rf_0_1, rf_0_2, rf_0_3, rf_0_4, rf_0_7, rf_0_10, rf_0_11, rf_0_12, rf_0_13, rf_0_14, rf_0_15, rf_0_16, rf_1_0, rf_3_0, rf_3_1, rf_6_0, rf_6_1, rf_9_0, rf_9_1, rf_9_3, rf_13_0, rf_13_1, rf_13_2, rf_16_0, rf_16_1, rf_16_2, rf_16_3, rf_21_0, rf_21_1, rf_21_2, rf_21_3, rf_26_0, rf_26_1, rf_26_2, rf_26_3, rf_26_4, rf_26_5, rf_26_6, rf_31_0, rf_31_2, rf_31_5, rf_31_6, rf_36_0, rf_36_1, rf_36_2, rf_36_3, rf_39_0, rf_39_1, rf_39_2, rf_41_0, rf_41_1, rf_41_2, rf_41_3, rf_5000_1, rf_5000_2, rf_5000_3, rf_5000_4, rf_5000_5, rf_5000_15, rf_5000_16, rf_5000_18, rf_5000_19, rf_5000_20, rf_5000_21, rf_5000_22, rf_5000_23, rf_5000_24, rf_5000_25, rf_5000_26, rf_5000_27, rf_5000_36, rf_5000_37, rf_5000_40, rf_5000_41, rf_5000_42, rf_5000_43, rf_5000_44, rf_5000_45, rf_5000_47, rf_5000_52, rf_5000_54, rf_5000_55, rf_100_0, rf_100_1, rf_103_0, rf_103_1, rf_106_0, rf_106_1, rf_109_0, rf_109_1, al_2, al_4, al_5, al_7, al_8, al_10, al_11, al_12, al_14, al_15, al_17, al_18, al_19, al_20, al_22, al_23, al_24, al_25, al_27, al_28, al_29, al_30, al_32, al_33, al_34, al_35, al_37, al_38, al_40, al_42, al_5001, al_5002, al_5003, al_5004, al_5005, al_5006, al_5007, al_5008, al_5009, al_5010, al_5011, al_5012, al_5013, al_5014, al_5015, al_5016, al_5017, al_5018, al_5019, al_5020, al_5021, al_5022, al_5023, al_5024, al_5025, al_5026, al_9000, al_101, al_102, al_104, al_105, al_107, al_108, al_110, al_111, vcs_e, lg_c0, lg_cs, lg_nil, set_c0, set_cs, okst_0, okst_s, acok_n, acok_c, List.contains_nil, List.contains_cons, Bool.or_false, Bool.false_or, Bool.false_eq_true, if_false, if_true, ite_self, ne_eq, true_and, and_true, not_false_eq_true, not_true_eq_false, false_imp_iff, true_imp_iff, Nat.ble_eq, Bool.and_eq_true, reduceCtorEq, or_false, false_or, or_true, true_or, false_and, and_false, and_self, Int.reduceLE, Int.reduceAdd, Int.reduceSub, Int.reduceMul, Int.reduceNeg, Int.reduceLT, Int.reduceEq, Int.reduceNe, Nat.reduceBEq, Nat.reduceBNe, Nat.reduceEqDiff, amCmp_in, amCmp_lt, amCmp_le, amCmp_gt, amCmp_ge, amCmp_eq, amCmp_ne, Nat.reduceLeDiff, Nat.reduceSub, Bool.and_true, Bool.true_and, Bool.and_self, Bool.or_true, Bool.true_or, isRf_3, isRf_4, isRf_5, isRf_8, isRf_9, isRf_10, isRf_11, isRf_15, isRf_16, isRf_17, isRf_18, isRf_19, isRf_20, isRf_21, isRf_22, isRf_23, isRf_24, isRf_25, isRf_26, isRf_27, isRf_28, k_X4_init_0, k_X4_init_1, k_X4_init_4, k_X4_init_5, k_X4_init_7, k_X4_init_9, k_X4_init_12, k_X4_init_13, k_X4_init_14, k_X4_init_17, k_X4_init_18, k_X4_init_19, k_X4_init_22, up_s, up_nj, up_na, up_up, savR_o, cpy_o, fillm_o, setAud_o, setv_o, setv_s, Int.reduceNe, Int.reduceEq, Int.reduceLT, Int.reduceAdd, not_false_eq_true, ne_eq, or_true, true_or, nl_newm, nl_up, rf0_39_0, rf0_39_1, rf0_39_2, rf0_41_0, rf0_41_1, rf0_41_2, rf0_41_3, no_39, no_41, na_40, na_42, newm_k, newm_s]
  repeat' (first | assumption | apply And.intro | intro _)
  all_goals first | omega | exact rfl | exact Or.inl rfl | exact Or.inr rfl | decide
def ini1 (σ : Mem) (a b c d : Int) : Mem := up (up (up (up (up (newm (σ) (a + 1) (dfa 50)) a 3 (a + 1)) a 4 0) a 0 b) a 1 c) a 2 d
theorem ini1_o (σ : Mem) {a b c d b9 : Int} (h : b9 ≠ a) (h1 : b9 ≠ a + 1) (hm : b9 ≠ -2) : ini1 σ a b c d b9 = σ b9 := by
  unfold ini1
  simp only [up_na _ h, newm_o _ h1 hm]
theorem ini1_k (σ : Mem) {a b c d b9 : Int} (j : Int) (h : b9 ≠ a) (h1 : b9 ≠ a + 1) (hm : b9 ≠ -2) : ini1 σ a b c d b9 j = σ b9 j := by rw [ini1_o σ h h1 hm]
theorem ini1_n {σ : Mem} {a b c d b9 : Int} (ha : 0 ≤ a) (h1 : b9 ≠ a + 1) : nl (ini1 σ a b c d) b9 = nl σ b9 := by
  unfold ini1
  simp only [nl_up ha, nl_newm (show 0 ≤ a + 1 by omega) h1]
theorem wd_295 : Cond.methodLink RX1 3 Lib.objectInit ∈ TBL := tb_tab (List.mem_of_getElem? (i := 295) (by decide +kernel)) rfl
theorem fp_X1_11 : amFp RX1 1 3 11 RX1 TX1 5 tyX1 (.array .int) := ⟨fl_X1_11, tyX1_ok, nmX1, by decide +kernel⟩
theorem fp_X1_19 : amFp RX1 1 0 19 RX1 TX1 5 tyX1 (.object "ArmchairHouse$Plan") := ⟨fl_X1_19, tyX1_ok, nmX1, by decide +kernel⟩
theorem fp_X1_23 : amFp RX1 1 1 23 RX1 TX1 5 tyX1 (.object "ArmchairHouse$Stage") := ⟨fl_X1_23, tyX1_ok, nmX1, by decide +kernel⟩
theorem fp_X1_27 : amFp RX1 1 2 27 RX1 TX1 5 tyX1 (.object "ArmchairHouse$Audience") := ⟨fl_X1_27, tyX1_ok, nmX1, by decide +kernel⟩
def a_X1_init  : AC := [(0, vAload 0 1), (1, vObj 4), (4, vAload 0 5), (5, vI 50 7), (7, vNewA T0 8 dfa (fun ls σ => (lg ls 0).2 + 1) 1 50 4 9), (9, vPutR T0 17 3 8 3 12), (12, vAload 0 13), (13, vI 0 14), (14, vPutI 17 4 17), (17, vAload 0 18), (18, vAload 1 19), (19, vPutR T0 17 0 22 0 22), (22, vAload 0 23), (23, vAload 2 24), (24, vPutR T0 17 1 25 1 27), (27, vAload 0 28), (28, vAload 3 29), (29, vPutR T0 17 2 16 2 32), (32, vVret)]
theorem k_X1_init_0  : look a_X1_init 0 = vAload 0 1 := rfl
theorem k_X1_init_1  : look a_X1_init 1 = vObj 4 := rfl
theorem k_X1_init_4  : look a_X1_init 4 = vAload 0 5 := rfl
theorem k_X1_init_5  : look a_X1_init 5 = vI 50 7 := rfl
theorem k_X1_init_7  : look a_X1_init 7 = vNewA T0 8 dfa (fun ls σ => (lg ls 0).2 + 1) 1 50 4 9 := rfl
theorem k_X1_init_9  : look a_X1_init 9 = vPutR T0 17 3 8 3 12 := rfl
theorem k_X1_init_12  : look a_X1_init 12 = vAload 0 13 := rfl
theorem k_X1_init_13  : look a_X1_init 13 = vI 0 14 := rfl
theorem k_X1_init_14  : look a_X1_init 14 = vPutI 17 4 17 := rfl
theorem k_X1_init_17  : look a_X1_init 17 = vAload 0 18 := rfl
theorem k_X1_init_18  : look a_X1_init 18 = vAload 1 19 := rfl
theorem k_X1_init_19  : look a_X1_init 19 = vPutR T0 17 0 22 0 22 := rfl
theorem k_X1_init_22  : look a_X1_init 22 = vAload 0 23 := rfl
theorem k_X1_init_23  : look a_X1_init 23 = vAload 2 24 := rfl
theorem k_X1_init_24  : look a_X1_init 24 = vPutR T0 17 1 25 1 27 := rfl
theorem k_X1_init_27  : look a_X1_init 27 = vAload 0 28 := rfl
theorem k_X1_init_28  : look a_X1_init 28 = vAload 3 29 := rfl
theorem k_X1_init_29  : look a_X1_init 29 = vPutR T0 17 2 16 2 32 := rfl
theorem k_X1_init_32  : look a_X1_init 32 = vVret := rfl
theorem o_X1_init {X : amX}  (e1 : XT X = T0) (e2 : XD X = 1) (e3 : XC X = 1) (e4 : XS X = 50) (hin : (XM X).name = "<init>") (hE : Eno (Xn X) (Xst X)) (hB : amB X RX1 cX1_init (none) 4) : ∀ pc, amOK X pc (look a_X1_init pc) := by
  have hT : amTok (XT X) := e1 ▸ T0_ok
  refine look_ok ?_
  unfold a_X1_init
  refine fc (ok_aload_n hB dX1_init_0) ?_
  refine fc (ok_obj hB (by rw [e2]; decide) wd_295 wd_33 wd_34 dX1_init_1) ?_
  refine fc (ok_aload_n hB dX1_init_4) ?_
  refine fc (ok_bipush hB dX1_init_5 (by decide)) ?_
  refine fc (ok_newA8 hB e1 e3 e4 wd_57 _ dX1_init_7) ?_
  refine fc (okt_putRF e1 hB hT fp_X1_11 (rt_arr _) rfl hin rfl rfl rfl af_1_3 at_1_3 (by decide) (by decide) dX1_init_9) ?_
  refine fc (ok_aload_n hB dX1_init_12) ?_
  refine fc (ok_iconst hB dX1_init_13) ?_
  refine fc (ok_putI hB hT fp_X1_15 rfl rfl rfl af_1_4 dX1_init_14) ?_
  refine fc (ok_aload_n hB dX1_init_17) ?_
  refine fc (ok_aload_n hB dX1_init_18) ?_
  refine fc (okt_putRF e1 hB hT fp_X1_19 (rt_obj _) rfl hin rfl rfl rfl af_1_0 at_1_0 (by decide) (by decide) dX1_init_19) ?_
  refine fc (ok_aload_n hB dX1_init_22) ?_
  refine fc (ok_aload_n hB dX1_init_23) ?_
  refine fc (okt_putRF e1 hB hT fp_X1_23 (rt_obj _) rfl hin rfl rfl rfl af_1_1 at_1_1 (by decide) (by decide) dX1_init_24) ?_
  refine fc (ok_aload_n hB dX1_init_27) ?_
  refine fc (ok_aload_n hB dX1_init_28) ?_
  refine fc (okt_putRF e1 hB hT fp_X1_27 (rt_obj _) rfl hin rfl rfl rfl af_1_2 at_1_2 (by decide) (by decide) dX1_init_29) ?_
  refine fc (ok_vret hB dX1_init_32) ?_
  exact fn


def w_X1_init : WP := fun av σ Q => ∃ (a : Int) (b : Int) (c : Int) (d : Int), av = [(17, a), (22, b), (25, c), (16, d)] ∧ ((a = 41) ∧ 0 ≤ b ∧ 0 ≤ c ∧ 0 ≤ d ∧ nl σ (a + 1) ∧ Q (6, 0) (ini1 σ a b c d))
theorem w_X1_init_e (a : Int) (b : Int) (c : Int) (d : Int) (σ : Mem) (Q : AV → Mem → Prop) : w_X1_init [(17, a), (22, b), (25, c), (16, d)] σ Q = ((a = 41) ∧ 0 ≤ b ∧ 0 ≤ c ∧ 0 ≤ d ∧ nl σ (a + 1) ∧ Q (6, 0) (ini1 σ a b c d)) := by
  apply propext; constructor
  · rintro ⟨a', b', c', d', h9, hb9⟩; cases h9; exact hb9
  · intro hb9; exact ⟨a, b, c, d, rfl, hb9⟩

set_option maxRecDepth 100000 in
set_option maxHeartbeats 4000000 in
theorem s_X1_init  : ∀ av σ Q, w_X1_init  av σ Q → amCallE Eno 1 1 50 T0 yX1_init cX1_init 4 (none) av σ Q := by
  rintro av σ Q ⟨a, b, c, d, rfl, ha, q_b, q_c, q_d, h1, h⟩
  unfold ini1 at h
  subst ha
  simp only [Int.reduceAdd] at h h1
  refine am_methodE (own := RX1) (A := look a_X1_init) (fun X e1 e2 e3 e4 h5 hE hB => o_X1_init  e1 e2 e3 e4 h5 hE hB) rfl (by decide +kernel) rfl rfl 77 (w := 6) ?_
  change vcs _ _ _ _ 77 0 [(17, 41), (22, b), (25, c), (16, d), (6, 0), (6, 0)] [] σ
  simp only [vNew_e, vNewA_e, vCallI_e0, vCallI_e1, vCallI_e2, vCallI_e3, vCallMA_e0, vCallMA_e1, vCallSA_e2, vObj_e, cnt_e, List.length_cons, List.length_nil, Nat.zero_add, Nat.reduceAdd, Nat.reduceLT, Int.reduceAdd, Nat.reduceLeDiff, ↓reduceIte, vSw2_e, swP_n, swP_c, vI_e, vL_e, vNull_e, vIload_e, vLload_e, vAload_e, vIstore_e, vLstore_e, vAstore_e, vIinc_e, vIadd_e, vIsub_e, vImul_e, vIand_e, vIor_e, vIxor_e, vIshl_e, vIshr_e, vIushr_e, vIdiv_e, vIrem_e, vLadd_e, vLsub_e, vLmul_e, vLand_e, vLor_e, vLxor_e, vLdiv_e, vLrem_e, vLushr_e, vLshl_e, vLcmp_e, vIneg_e, vI2l_e, vL2i_e, vI2b_e, vI2c_e, vDup_e, vPop_e, vDup2_e, vGoto_e, vIcEq_e, vIfEq_e, vIcNe_e, vIfNe_e, vIcLt_e, vIfLt_e, vIcGe_e, vIfGe_e, vIcGt_e, vIfGt_e, vIcLe_e, vIfLe_e, vNonnull_e, vSw_e, vGetI_e, vGetL_e, vGetR_e, vPutI_e, vPutZ_e, vPutL_e, vPutR_e, vIald_e, vIald_s, vLald_e, vBald_e, vBald_s, vAald_e, vIast_e, vLast_e, vBast_e, vAast_e, vAlen_e8, vAlen_e9, vAlen_e10, vAlen_e11, vAlen_e5, vAlen_e3, vGets_e, vCompact_e, vLdcS_e, vIret_e, vZret_e, vCret_e, vBret_e, vLret_e, vVret_e, vAret_e, vCallM_e0, vCallMV_e0, vCallS_e0, vCallSV_e0, vCallM_e1, vCallMV_e1, vCallS_e1, vCallSV_e1, vCallM_e2, vCallMV_e2, vCallS_e2, vCallSV_e2, vCallM_e3, vCallMV_e3, vCallS_e3, vCallSV_e3, vCallM_e4, vCallMV_e4, vCallS_e4, vCallSV_e4, vCallM_e5, vCallMV_e5, vCallS_e5, vCallSV_e5, vCallM_e6, vCallMV_e6, vCallS_e6, vCallSV_e6, vCallM_e7, vCallMV_e7, vCallS_e7, vCallSV_e7, vBad_e, vStrVal_e, vStrCod_e, vForm_e, vCallT_e0, vCallT_e1, vCallT_e2, vCopy_e, rf_0_0, rf_0_1, rf_0_2, rf_0_3, rf_0_4, rf_0_7, rf_0_10, rf_0_11, rf_0_12, rf_0_13, rf_0_14, rf_0_15, rf_0_16, rf_1_0, rf_3_0, rf_3_1, rf_6_0, rf_6_1, rf_9_0, rf_9_1, rf_9_3, rf_13_0, rf_13_1, rf_13_2, rf_16_0, rf_16_1, rf_16_2, rf_16_3, rf_21_0, rf_21_1, rf_21_2, rf_21_3, rf_26_0, rf_26_1, rf_26_2, rf_26_3, rf_26_4, rf_26_5, rf_26_6, rf_31_0, rf_31_2, rf_31_5, rf_31_6, rf_36_0, rf_36_1, rf_36_2, rf_36_3, rf_39_0, rf_39_1, rf_39_2, rf_41_0, rf_41_1, rf_41_2, rf_41_3, rf_5000_1, rf_5000_2, rf_5000_3, rf_5000_4, rf_5000_5, rf_5000_15, rf_5000_16, rf_5000_18, rf_5000_19, rf_5000_20, rf_5000_21, rf_5000_22, rf_5000_23, rf_5000_24, rf_5000_25, rf_5000_26, rf_5000_27, rf_5000_36, rf_5000_37, rf_5000_40, rf_5000_41, rf_5000_42, rf_5000_43, rf_5000_44, rf_5000_45, rf_5000_47, rf_5000_52, rf_5000_54, rf_5000_55, rf_100_0, rf_100_1, rf_103_0, rf_103_1, rf_106_0, rf_106_1, rf_109_0, rf_109_1, al_2, al_4, al_5, al_7, al_8, al_10, al_11, al_12, al_14, al_15, al_17, al_18, al_19, al_20, al_22, al_23, al_24, al_25, al_27, al_28, al_29, al_30, al_32, al_33, al_34, al_35, al_37, al_38, al_40, al_42, al_5001, al_5002, al_5003, al_5004, al_5005, al_5006, al_5007, al_5008, al_5009, al_5010, al_5011, al_5012, al_5013, al_5014, al_5015, al_5016, al_5017, al_5018, al_5019, al_5020, al_5021, al_5022, al_5023, al_5024, al_5025, al_5026, al_9000, al_101, al_102, al_104, al_105, al_107, al_108, al_110, al_111, vcs_e, lg_c0, lg_cs, lg_nil, set_c0, set_cs, okst_0, okst_s, acok_n, acok_c, List.contains_nil, List.contains_cons, Bool.or_false, Bool.false_or, Bool.false_eq_true, if_false, if_true, ite_self, ne_eq, true_and, and_true, not_false_eq_true, not_true_eq_false, false_imp_iff, true_imp_iff, Nat.ble_eq, Bool.and_eq_true, reduceCtorEq, or_false, false_or, or_true, true_or, false_and, and_false, and_self, Int.reduceLE, Int.reduceAdd, Int.reduceSub, Int.reduceMul, Int.reduceNeg, Int.reduceLT, Int.reduceEq, Int.reduceNe, Nat.reduceBEq, Nat.reduceBNe, Nat.reduceEqDiff, amCmp_in, amCmp_lt, amCmp_le, amCmp_gt, amCmp_ge, amCmp_eq, amCmp_ne, Nat.reduceLeDiff, Nat.reduceSub, Bool.and_true, Bool.true_and, Bool.and_self, Bool.or_true, Bool.true_or, isRf_3, isRf_4, isRf_5, isRf_8, isRf_9, isRf_10, isRf_11, isRf_15, isRf_16, isRf_17, isRf_18, isRf_19, isRf_20, isRf_21, isRf_22, isRf_23, isRf_24, isRf_25, isRf_26, isRf_27, isRf_28, k_X1_init_0, k_X1_init_1, k_X1_init_4, k_X1_init_5, k_X1_init_7, k_X1_init_9, k_X1_init_12, k_X1_init_13, k_X1_init_14, k_X1_init_17, k_X1_init_18, k_X1_init_19, k_X1_init_22, k_X1_init_23, k_X1_init_24, k_X1_init_27, k_X1_init_28, k_X1_init_29, k_X1_init_32, up_s, up_nj, up_na, up_up, savR_o, cpy_o, fillm_o, setAud_o, setv_o, setv_s, Int.reduceNe, Int.reduceEq, Int.reduceLT, Int.reduceAdd, not_false_eq_true, ne_eq, or_true, true_or, nl_newm, nl_up, rf0_41_0, rf0_41_1, rf0_41_2, rf0_41_3, no_41, na_42, newm_k, newm_s]
  repeat' (first | assumption | apply And.intro | intro _)
  all_goals first | omega | exact rfl | exact Or.inl rfl | exact Or.inr rfl | decide
def ini12 (σ : Mem) (a : Int) : Mem := up (newm (up (newm (up (newm (up (newm (up (newm (up (newm (up (newm (up (newm (up (newm (up (newm (up (up (up (newm (up (newm (up (newm (up (newm (up (newm (up (newm (up (newm (up (newm (up (newm (up (newm (up (newm (up (newm (up (up (up (up (newm (up (newm (up (newm (up (newm (σ) (a + 1) (dfa 240)) a 1 (a + 1)) (a + 2) (dfa 960)) a 2 (a + 2)) (a + 3) (dfa 4)) a 3 (a + 3)) (a + 4) (dfa 128)) a 4 (a + 4)) a 5 (a + 1)) a 15 20004) a 16 20005) (a + 5) (dfa 2)) a 18 (a + 5)) (a + 6) (dfa 2)) a 19 (a + 6)) (a + 7) (dfa 16)) a 20 (a + 7)) (a + 8) (dfa 16)) a 21 (a + 8)) (a + 9) (dfa 18)) a 22 (a + 9)) (a + 10) (dfa 18)) a 23 (a + 10)) (a + 11) (dfa 6)) a 24 (a + 11)) (a + 12) (dfa 6)) a 25 (a + 12)) (a + 13) (dfa 240)) a 26 (a + 13)) (a + 14) (dfa 5)) a 27 (a + 14)) (a + 15) (dfa 208)) a 36 (a + 15)) (a + 16) (dfa 208)) a 37 (a + 16)) a 38 (-1)) a 39 1) (a + 17) (dfa 8191)) a 40 (a + 17)) (a + 18) (dfa 8191)) a 41 (a + 18)) (a + 19) (dfa 6)) a 42 (a + 19)) (a + 20) (dfa 6)) a 43 (a + 20)) (a + 21) (dfa 6)) a 44 (a + 21)) (a + 22) (dfa 6)) a 45 (a + 22)) (a + 23) (dfa 8320)) a 47 (a + 23)) (a + 24) (dfa 50)) a 52 (a + 24)) (a + 25) (dfa 72)) a 54 (a + 25)) (a + 26) (dfa 208)) a 55 (a + 26)
theorem ini12_o (σ : Mem) {a b9 : Int} (h : b9 ≠ a) (h1 : b9 ≠ a + 1) (h2 : b9 ≠ a + 2) (h3 : b9 ≠ a + 3) (h4 : b9 ≠ a + 4) (h5 : b9 ≠ a + 5) (h6 : b9 ≠ a + 6) (h7 : b9 ≠ a + 7) (h8 : b9 ≠ a + 8) (h9 : b9 ≠ a + 9) (h10 : b9 ≠ a + 10) (h11 : b9 ≠ a + 11) (h12 : b9 ≠ a + 12) (h13 : b9 ≠ a + 13) (h14 : b9 ≠ a + 14) (h15 : b9 ≠ a + 15) (h16 : b9 ≠ a + 16) (h17 : b9 ≠ a + 17) (h18 : b9 ≠ a + 18) (h19 : b9 ≠ a + 19) (h20 : b9 ≠ a + 20) (h21 : b9 ≠ a + 21) (h22 : b9 ≠ a + 22) (h23 : b9 ≠ a + 23) (h24 : b9 ≠ a + 24) (h25 : b9 ≠ a + 25) (h26 : b9 ≠ a + 26) (hm : b9 ≠ -2) : ini12 σ a b9 = σ b9 := by
  unfold ini12
  simp only [up_na _ h, newm_o _ h1 hm, newm_o _ h2 hm, newm_o _ h3 hm, newm_o _ h4 hm, newm_o _ h5 hm, newm_o _ h6 hm, newm_o _ h7 hm, newm_o _ h8 hm, newm_o _ h9 hm, newm_o _ h10 hm, newm_o _ h11 hm, newm_o _ h12 hm, newm_o _ h13 hm, newm_o _ h14 hm, newm_o _ h15 hm, newm_o _ h16 hm, newm_o _ h17 hm, newm_o _ h18 hm, newm_o _ h19 hm, newm_o _ h20 hm, newm_o _ h21 hm, newm_o _ h22 hm, newm_o _ h23 hm, newm_o _ h24 hm, newm_o _ h25 hm, newm_o _ h26 hm]
theorem ini12_k (σ : Mem) {a b9 : Int} (j : Int) (h : b9 ≠ a) (h1 : b9 ≠ a + 1) (h2 : b9 ≠ a + 2) (h3 : b9 ≠ a + 3) (h4 : b9 ≠ a + 4) (h5 : b9 ≠ a + 5) (h6 : b9 ≠ a + 6) (h7 : b9 ≠ a + 7) (h8 : b9 ≠ a + 8) (h9 : b9 ≠ a + 9) (h10 : b9 ≠ a + 10) (h11 : b9 ≠ a + 11) (h12 : b9 ≠ a + 12) (h13 : b9 ≠ a + 13) (h14 : b9 ≠ a + 14) (h15 : b9 ≠ a + 15) (h16 : b9 ≠ a + 16) (h17 : b9 ≠ a + 17) (h18 : b9 ≠ a + 18) (h19 : b9 ≠ a + 19) (h20 : b9 ≠ a + 20) (h21 : b9 ≠ a + 21) (h22 : b9 ≠ a + 22) (h23 : b9 ≠ a + 23) (h24 : b9 ≠ a + 24) (h25 : b9 ≠ a + 25) (h26 : b9 ≠ a + 26) (hm : b9 ≠ -2) : ini12 σ a b9 j = σ b9 j := by rw [ini12_o σ h h1 h2 h3 h4 h5 h6 h7 h8 h9 h10 h11 h12 h13 h14 h15 h16 h17 h18 h19 h20 h21 h22 h23 h24 h25 h26 hm]
theorem ini12_n {σ : Mem} {a b9 : Int} (ha : 0 ≤ a) (h1 : b9 ≠ a + 1) (h2 : b9 ≠ a + 2) (h3 : b9 ≠ a + 3) (h4 : b9 ≠ a + 4) (h5 : b9 ≠ a + 5) (h6 : b9 ≠ a + 6) (h7 : b9 ≠ a + 7) (h8 : b9 ≠ a + 8) (h9 : b9 ≠ a + 9) (h10 : b9 ≠ a + 10) (h11 : b9 ≠ a + 11) (h12 : b9 ≠ a + 12) (h13 : b9 ≠ a + 13) (h14 : b9 ≠ a + 14) (h15 : b9 ≠ a + 15) (h16 : b9 ≠ a + 16) (h17 : b9 ≠ a + 17) (h18 : b9 ≠ a + 18) (h19 : b9 ≠ a + 19) (h20 : b9 ≠ a + 20) (h21 : b9 ≠ a + 21) (h22 : b9 ≠ a + 22) (h23 : b9 ≠ a + 23) (h24 : b9 ≠ a + 24) (h25 : b9 ≠ a + 25) (h26 : b9 ≠ a + 26) : nl (ini12 σ a) b9 = nl σ b9 := by
  unfold ini12
  simp only [nl_up ha, nl_newm (show 0 ≤ a + 1 by omega) h1, nl_newm (show 0 ≤ a + 2 by omega) h2, nl_newm (show 0 ≤ a + 3 by omega) h3, nl_newm (show 0 ≤ a + 4 by omega) h4, nl_newm (show 0 ≤ a + 5 by omega) h5, nl_newm (show 0 ≤ a + 6 by omega) h6, nl_newm (show 0 ≤ a + 7 by omega) h7, nl_newm (show 0 ≤ a + 8 by omega) h8, nl_newm (show 0 ≤ a + 9 by omega) h9, nl_newm (show 0 ≤ a + 10 by omega) h10, nl_newm (show 0 ≤ a + 11 by omega) h11, nl_newm (show 0 ≤ a + 12 by omega) h12, nl_newm (show 0 ≤ a + 13 by omega) h13, nl_newm (show 0 ≤ a + 14 by omega) h14, nl_newm (show 0 ≤ a + 15 by omega) h15, nl_newm (show 0 ≤ a + 16 by omega) h16, nl_newm (show 0 ≤ a + 17 by omega) h17, nl_newm (show 0 ≤ a + 18 by omega) h18, nl_newm (show 0 ≤ a + 19 by omega) h19, nl_newm (show 0 ≤ a + 20 by omega) h20, nl_newm (show 0 ≤ a + 21 by omega) h21, nl_newm (show 0 ≤ a + 22 by omega) h22, nl_newm (show 0 ≤ a + 23 by omega) h23, nl_newm (show 0 ≤ a + 24 by omega) h24, nl_newm (show 0 ≤ a + 25 by omega) h25, nl_newm (show 0 ≤ a + 26 by omega) h26]
theorem wd_1302 : Cond.methodLink RX12 3 Lib.objectInit ∈ TBL := tb_tab (List.mem_of_getElem? (i := 1302) (by decide +kernel)) rfl
theorem wd_648 : Cond.arrayClass .byte ∈ TBL := tb_tab (List.mem_of_getElem? (i := 648) (by decide +kernel)) rfl
theorem fp_X12_9 : amFp RX12 12 1 9 RX12 TX12 57 tyX12 (.array .byte) := ⟨fl_X12_9, tyX12_ok, nmX12, by decide +kernel⟩
theorem fp_X12_13 : amFp RX12 12 2 13 RX12 TX12 57 tyX12 (.array .byte) := ⟨fl_X12_13, tyX12_ok, nmX12, by decide +kernel⟩
theorem fp_X12_16 : amFp RX12 12 3 16 RX12 TX12 57 tyX12 (.array .int) := ⟨fl_X12_16, tyX12_ok, nmX12, by decide +kernel⟩
theorem fp_X12_20 : amFp RX12 12 4 20 RX12 TX12 57 tyX12 (.array .int) := ⟨fl_X12_20, tyX12_ok, nmX12, by decide +kernel⟩
theorem wd_1320 : Cond.fieldLink RX12 28 "ArmchairHouseModel" "labels" "Ljava/lang/String;" ∈ TBL := tb_tab (List.mem_of_getElem? (i := 1320) (by decide +kernel)) rfl
theorem fl_X12_28 : amFl RX12 12 15 28 RX12 TX12 57 := ⟨rfl, inT_12, by decide, wd_1320⟩
theorem fp_X12_28 : amFp RX12 12 15 28 RX12 TX12 57 tyX12 (.object "java/lang/String") := ⟨fl_X12_28, tyX12_ok, nmX12, by decide +kernel⟩
theorem wd_1321 : Cond.fieldLink RX12 34 "ArmchairHouseModel" "allowed" "Ljava/lang/String;" ∈ TBL := tb_tab (List.mem_of_getElem? (i := 1321) (by decide +kernel)) rfl
theorem fl_X12_34 : amFl RX12 12 16 34 RX12 TX12 57 := ⟨rfl, inT_12, by decide, wd_1321⟩
theorem fp_X12_34 : amFp RX12 12 16 34 RX12 TX12 57 tyX12 (.object "java/lang/String") := ⟨fl_X12_34, tyX12_ok, nmX12, by decide +kernel⟩
theorem fp_X12_37 : amFp RX12 12 18 37 RX12 TX12 57 tyX12 (.array .int) := ⟨fl_X12_37, tyX12_ok, nmX12, by decide +kernel⟩
theorem fp_X12_40 : amFp RX12 12 19 40 RX12 TX12 57 tyX12 (.array .int) := ⟨fl_X12_40, tyX12_ok, nmX12, by decide +kernel⟩
theorem fp_X12_43 : amFp RX12 12 20 43 RX12 TX12 57 tyX12 (.array .int) := ⟨fl_X12_43, tyX12_ok, nmX12, by decide +kernel⟩
theorem fp_X12_46 : amFp RX12 12 21 46 RX12 TX12 57 tyX12 (.array .int) := ⟨fl_X12_46, tyX12_ok, nmX12, by decide +kernel⟩
theorem fp_X12_49 : amFp RX12 12 22 49 RX12 TX12 57 tyX12 (.array .int) := ⟨fl_X12_49, tyX12_ok, nmX12, by decide +kernel⟩
theorem fp_X12_52 : amFp RX12 12 23 52 RX12 TX12 57 tyX12 (.array .int) := ⟨fl_X12_52, tyX12_ok, nmX12, by decide +kernel⟩
theorem fp_X12_55 : amFp RX12 12 24 55 RX12 TX12 57 tyX12 (.array .int) := ⟨fl_X12_55, tyX12_ok, nmX12, by decide +kernel⟩
theorem fp_X12_58 : amFp RX12 12 25 58 RX12 TX12 57 tyX12 (.array .int) := ⟨fl_X12_58, tyX12_ok, nmX12, by decide +kernel⟩
theorem fp_X12_61 : amFp RX12 12 26 61 RX12 TX12 57 tyX12 (.array .int) := ⟨fl_X12_61, tyX12_ok, nmX12, by decide +kernel⟩
theorem fp_X12_64 : amFp RX12 12 27 64 RX12 TX12 57 tyX12 (.array .int) := ⟨fl_X12_64, tyX12_ok, nmX12, by decide +kernel⟩
theorem fp_X12_67 : amFp RX12 12 36 67 RX12 TX12 57 tyX12 (.array .int) := ⟨fl_X12_67, tyX12_ok, nmX12, by decide +kernel⟩
theorem fp_X12_70 : amFp RX12 12 37 70 RX12 TX12 57 tyX12 (.array .int) := ⟨fl_X12_70, tyX12_ok, nmX12, by decide +kernel⟩
theorem fp_X12_80 : amFp RX12 12 40 80 RX12 TX12 57 tyX12 (.array .long) := ⟨fl_X12_80, tyX12_ok, nmX12, by decide +kernel⟩
theorem fp_X12_84 : amFp RX12 12 41 84 RX12 TX12 57 tyX12 (.array .int) := ⟨fl_X12_84, tyX12_ok, nmX12, by decide +kernel⟩
theorem fp_X12_87 : amFp RX12 12 42 87 RX12 TX12 57 tyX12 (.array .int) := ⟨fl_X12_87, tyX12_ok, nmX12, by decide +kernel⟩
theorem fp_X12_90 : amFp RX12 12 43 90 RX12 TX12 57 tyX12 (.array .int) := ⟨fl_X12_90, tyX12_ok, nmX12, by decide +kernel⟩
theorem fp_X12_93 : amFp RX12 12 44 93 RX12 TX12 57 tyX12 (.array .int) := ⟨fl_X12_93, tyX12_ok, nmX12, by decide +kernel⟩
theorem fp_X12_96 : amFp RX12 12 45 96 RX12 TX12 57 tyX12 (.array .int) := ⟨fl_X12_96, tyX12_ok, nmX12, by decide +kernel⟩
theorem fp_X12_99 : amFp RX12 12 47 99 RX12 TX12 57 tyX12 (.array .int) := ⟨fl_X12_99, tyX12_ok, nmX12, by decide +kernel⟩
theorem fp_X12_102 : amFp RX12 12 52 102 RX12 TX12 57 tyX12 (.array .int) := ⟨fl_X12_102, tyX12_ok, nmX12, by decide +kernel⟩
theorem fp_X12_105 : amFp RX12 12 54 105 RX12 TX12 57 tyX12 (.array .int) := ⟨fl_X12_105, tyX12_ok, nmX12, by decide +kernel⟩
theorem fp_X12_108 : amFp RX12 12 55 108 RX12 TX12 57 tyX12 (.array .int) := ⟨fl_X12_108, tyX12_ok, nmX12, by decide +kernel⟩
def a_X12_init  : AC := [(0, vAload 0 1), (1, vObj 4), (4, vAload 0 5), (5, vI 240 8), (8, vNewA T0 10 dfa (fun ls σ => (lg ls 0).2 + 1) 26 27133 1 10), (10, vPutR T0 28 1 10 1 13), (13, vAload 0 14), (14, vI 960 17), (17, vNewA T0 10 dfa (fun ls σ => (lg ls 0).2 + 2) 26 27133 1 19), (19, vPutR T0 28 2 10 2 22), (22, vAload 0 23), (23, vI 4 24), (24, vNewA T0 8 dfa (fun ls σ => (lg ls 0).2 + 3) 26 27133 1 26), (26, vPutR T0 28 3 8 3 29), (29, vAload 0 30), (30, vI 128 33), (33, vNewA T0 8 dfa (fun ls σ => (lg ls 0).2 + 4) 26 27133 1 35), (35, vPutR T0 28 4 8 4 38), (38, vAload 0 39), (39, vAload 0 40), (40, vGetR T0 28 1 10 43), (43, vPutR T0 28 5 10 5 46), (46, vAload 0 47), (47, vLdcS 20004 49), (49, vPutR T0 28 15 4 15 52), (52, vAload 0 53), (53, vLdcS 20005 55), (55, vPutR T0 28 16 4 16 58), (58, vAload 0 59), (59, vI 2 60), (60, vNewA T0 8 dfa (fun ls σ => (lg ls 0).2 + 5) 26 27133 1 62), (62, vPutR T0 28 18 8 18 65), (65, vAload 0 66), (66, vI 2 67), (67, vNewA T0 8 dfa (fun ls σ => (lg ls 0).2 + 6) 26 27133 1 69), (69, vPutR T0 28 19 8 19 72), (72, vAload 0 73), (73, vI 16 75), (75, vNewA T0 8 dfa (fun ls σ => (lg ls 0).2 + 7) 26 27133 1 77), (77, vPutR T0 28 20 8 20 80), (80, vAload 0 81), (81, vI 16 83), (83, vNewA T0 8 dfa (fun ls σ => (lg ls 0).2 + 8) 26 27133 1 85), (85, vPutR T0 28 21 8 21 88), (88, vAload 0 89), (89, vI 18 91), (91, vNewA T0 8 dfa (fun ls σ => (lg ls 0).2 + 9) 26 27133 1 93), (93, vPutR T0 28 22 8 22 96), (96, vAload 0 97), (97, vI 18 99), (99, vNewA T0 8 dfa (fun ls σ => (lg ls 0).2 + 10) 26 27133 1 101), (101, vPutR T0 28 23 8 23 104), (104, vAload 0 105), (105, vI 6 107), (107, vNewA T0 8 dfa (fun ls σ => (lg ls 0).2 + 11) 26 27133 1 109), (109, vPutR T0 28 24 8 24 112), (112, vAload 0 113), (113, vI 6 115), (115, vNewA T0 8 dfa (fun ls σ => (lg ls 0).2 + 12) 26 27133 1 117), (117, vPutR T0 28 25 8 25 120), (120, vAload 0 121), (121, vI 240 124), (124, vNewA T0 8 dfa (fun ls σ => (lg ls 0).2 + 13) 26 27133 1 126), (126, vPutR T0 28 26 8 26 129), (129, vAload 0 130), (130, vI 5 131), (131, vNewA T0 8 dfa (fun ls σ => (lg ls 0).2 + 14) 26 27133 1 133), (133, vPutR T0 28 27 8 27 136), (136, vAload 0 137), (137, vI 208 140), (140, vNewA T0 8 dfa (fun ls σ => (lg ls 0).2 + 15) 26 27133 1 142), (142, vPutR T0 28 36 8 36 145), (145, vAload 0 146), (146, vI 208 149), (149, vNewA T0 8 dfa (fun ls σ => (lg ls 0).2 + 16) 26 27133 1 151), (151, vPutR T0 28 37 8 37 154), (154, vAload 0 155), (155, vI (-1) 156), (156, vPutI 28 38 159), (159, vAload 0 160), (160, vI 1 161), (161, vPutI 28 39 164), (164, vAload 0 165), (165, vI 8191 168), (168, vNewA T0 9 dfa (fun ls σ => (lg ls 0).2 + 17) 26 27133 1 170), (170, vPutR T0 28 40 9 40 173), (173, vAload 0 174), (174, vI 8191 177), (177, vNewA T0 8 dfa (fun ls σ => (lg ls 0).2 + 18) 26 27133 1 179), (179, vPutR T0 28 41 8 41 182), (182, vAload 0 183), (183, vI 6 185), (185, vNewA T0 8 dfa (fun ls σ => (lg ls 0).2 + 19) 26 27133 1 187), (187, vPutR T0 28 42 8 42 190), (190, vAload 0 191), (191, vI 6 193), (193, vNewA T0 8 dfa (fun ls σ => (lg ls 0).2 + 20) 26 27133 1 195), (195, vPutR T0 28 43 8 43 198), (198, vAload 0 199), (199, vI 6 201), (201, vNewA T0 8 dfa (fun ls σ => (lg ls 0).2 + 21) 26 27133 1 203), (203, vPutR T0 28 44 8 44 206), (206, vAload 0 207), (207, vI 6 209), (209, vNewA T0 8 dfa (fun ls σ => (lg ls 0).2 + 22) 26 27133 1 211), (211, vPutR T0 28 45 8 45 214), (214, vAload 0 215), (215, vI 8320 218), (218, vNewA T0 8 dfa (fun ls σ => (lg ls 0).2 + 23) 26 27133 1 220), (220, vPutR T0 28 47 8 47 223), (223, vAload 0 224), (224, vI 50 226), (226, vNewA T0 8 dfa (fun ls σ => (lg ls 0).2 + 24) 26 27133 1 228), (228, vPutR T0 28 52 8 52 231), (231, vAload 0 232), (232, vI 72 234), (234, vNewA T0 8 dfa (fun ls σ => (lg ls 0).2 + 25) 26 27133 1 236), (236, vPutR T0 28 54 8 54 239), (239, vAload 0 240), (240, vI 208 243), (243, vNewA T0 8 dfa (fun ls σ => (lg ls 0).2 + 26) 26 27133 1 245), (245, vPutR T0 28 55 8 55 248), (248, vVret)]
theorem k_X12_init_0  : look a_X12_init 0 = vAload 0 1 := rfl
theorem k_X12_init_1  : look a_X12_init 1 = vObj 4 := rfl
theorem k_X12_init_4  : look a_X12_init 4 = vAload 0 5 := rfl
theorem k_X12_init_5  : look a_X12_init 5 = vI 240 8 := rfl
theorem k_X12_init_8  : look a_X12_init 8 = vNewA T0 10 dfa (fun ls σ => (lg ls 0).2 + 1) 26 27133 1 10 := rfl
theorem k_X12_init_10  : look a_X12_init 10 = vPutR T0 28 1 10 1 13 := rfl
theorem k_X12_init_13  : look a_X12_init 13 = vAload 0 14 := rfl
theorem k_X12_init_14  : look a_X12_init 14 = vI 960 17 := rfl
theorem k_X12_init_17  : look a_X12_init 17 = vNewA T0 10 dfa (fun ls σ => (lg ls 0).2 + 2) 26 27133 1 19 := rfl
theorem k_X12_init_19  : look a_X12_init 19 = vPutR T0 28 2 10 2 22 := rfl
theorem k_X12_init_22  : look a_X12_init 22 = vAload 0 23 := rfl
theorem k_X12_init_23  : look a_X12_init 23 = vI 4 24 := rfl
theorem k_X12_init_24  : look a_X12_init 24 = vNewA T0 8 dfa (fun ls σ => (lg ls 0).2 + 3) 26 27133 1 26 := rfl
theorem k_X12_init_26  : look a_X12_init 26 = vPutR T0 28 3 8 3 29 := rfl
theorem k_X12_init_29  : look a_X12_init 29 = vAload 0 30 := rfl
theorem k_X12_init_30  : look a_X12_init 30 = vI 128 33 := rfl
theorem k_X12_init_33  : look a_X12_init 33 = vNewA T0 8 dfa (fun ls σ => (lg ls 0).2 + 4) 26 27133 1 35 := rfl
theorem k_X12_init_35  : look a_X12_init 35 = vPutR T0 28 4 8 4 38 := rfl
theorem k_X12_init_38  : look a_X12_init 38 = vAload 0 39 := rfl
theorem k_X12_init_39  : look a_X12_init 39 = vAload 0 40 := rfl
theorem k_X12_init_40  : look a_X12_init 40 = vGetR T0 28 1 10 43 := rfl
theorem k_X12_init_43  : look a_X12_init 43 = vPutR T0 28 5 10 5 46 := rfl
theorem k_X12_init_46  : look a_X12_init 46 = vAload 0 47 := rfl
theorem k_X12_init_47  : look a_X12_init 47 = vLdcS 20004 49 := rfl
theorem k_X12_init_49  : look a_X12_init 49 = vPutR T0 28 15 4 15 52 := rfl
theorem k_X12_init_52  : look a_X12_init 52 = vAload 0 53 := rfl
theorem k_X12_init_53  : look a_X12_init 53 = vLdcS 20005 55 := rfl
theorem k_X12_init_55  : look a_X12_init 55 = vPutR T0 28 16 4 16 58 := rfl
theorem k_X12_init_58  : look a_X12_init 58 = vAload 0 59 := rfl
theorem k_X12_init_59  : look a_X12_init 59 = vI 2 60 := rfl
theorem k_X12_init_60  : look a_X12_init 60 = vNewA T0 8 dfa (fun ls σ => (lg ls 0).2 + 5) 26 27133 1 62 := rfl
theorem k_X12_init_62  : look a_X12_init 62 = vPutR T0 28 18 8 18 65 := rfl
theorem k_X12_init_65  : look a_X12_init 65 = vAload 0 66 := rfl
theorem k_X12_init_66  : look a_X12_init 66 = vI 2 67 := rfl
theorem k_X12_init_67  : look a_X12_init 67 = vNewA T0 8 dfa (fun ls σ => (lg ls 0).2 + 6) 26 27133 1 69 := rfl
theorem k_X12_init_69  : look a_X12_init 69 = vPutR T0 28 19 8 19 72 := rfl
theorem k_X12_init_72  : look a_X12_init 72 = vAload 0 73 := rfl
theorem k_X12_init_73  : look a_X12_init 73 = vI 16 75 := rfl
theorem k_X12_init_75  : look a_X12_init 75 = vNewA T0 8 dfa (fun ls σ => (lg ls 0).2 + 7) 26 27133 1 77 := rfl
theorem k_X12_init_77  : look a_X12_init 77 = vPutR T0 28 20 8 20 80 := rfl
theorem k_X12_init_80  : look a_X12_init 80 = vAload 0 81 := rfl
theorem k_X12_init_81  : look a_X12_init 81 = vI 16 83 := rfl
theorem k_X12_init_83  : look a_X12_init 83 = vNewA T0 8 dfa (fun ls σ => (lg ls 0).2 + 8) 26 27133 1 85 := rfl
theorem k_X12_init_85  : look a_X12_init 85 = vPutR T0 28 21 8 21 88 := rfl
theorem k_X12_init_88  : look a_X12_init 88 = vAload 0 89 := rfl
theorem k_X12_init_89  : look a_X12_init 89 = vI 18 91 := rfl
theorem k_X12_init_91  : look a_X12_init 91 = vNewA T0 8 dfa (fun ls σ => (lg ls 0).2 + 9) 26 27133 1 93 := rfl
theorem k_X12_init_93  : look a_X12_init 93 = vPutR T0 28 22 8 22 96 := rfl
theorem k_X12_init_96  : look a_X12_init 96 = vAload 0 97 := rfl
theorem k_X12_init_97  : look a_X12_init 97 = vI 18 99 := rfl
theorem k_X12_init_99  : look a_X12_init 99 = vNewA T0 8 dfa (fun ls σ => (lg ls 0).2 + 10) 26 27133 1 101 := rfl
theorem k_X12_init_101  : look a_X12_init 101 = vPutR T0 28 23 8 23 104 := rfl
theorem k_X12_init_104  : look a_X12_init 104 = vAload 0 105 := rfl
theorem k_X12_init_105  : look a_X12_init 105 = vI 6 107 := rfl
theorem k_X12_init_107  : look a_X12_init 107 = vNewA T0 8 dfa (fun ls σ => (lg ls 0).2 + 11) 26 27133 1 109 := rfl
theorem k_X12_init_109  : look a_X12_init 109 = vPutR T0 28 24 8 24 112 := rfl
theorem k_X12_init_112  : look a_X12_init 112 = vAload 0 113 := rfl
theorem k_X12_init_113  : look a_X12_init 113 = vI 6 115 := rfl
theorem k_X12_init_115  : look a_X12_init 115 = vNewA T0 8 dfa (fun ls σ => (lg ls 0).2 + 12) 26 27133 1 117 := rfl
theorem k_X12_init_117  : look a_X12_init 117 = vPutR T0 28 25 8 25 120 := rfl
theorem k_X12_init_120  : look a_X12_init 120 = vAload 0 121 := rfl
theorem k_X12_init_121  : look a_X12_init 121 = vI 240 124 := rfl
theorem k_X12_init_124  : look a_X12_init 124 = vNewA T0 8 dfa (fun ls σ => (lg ls 0).2 + 13) 26 27133 1 126 := rfl
theorem k_X12_init_126  : look a_X12_init 126 = vPutR T0 28 26 8 26 129 := rfl
theorem k_X12_init_129  : look a_X12_init 129 = vAload 0 130 := rfl
theorem k_X12_init_130  : look a_X12_init 130 = vI 5 131 := rfl
theorem k_X12_init_131  : look a_X12_init 131 = vNewA T0 8 dfa (fun ls σ => (lg ls 0).2 + 14) 26 27133 1 133 := rfl
theorem k_X12_init_133  : look a_X12_init 133 = vPutR T0 28 27 8 27 136 := rfl
theorem k_X12_init_136  : look a_X12_init 136 = vAload 0 137 := rfl
theorem k_X12_init_137  : look a_X12_init 137 = vI 208 140 := rfl
theorem k_X12_init_140  : look a_X12_init 140 = vNewA T0 8 dfa (fun ls σ => (lg ls 0).2 + 15) 26 27133 1 142 := rfl
theorem k_X12_init_142  : look a_X12_init 142 = vPutR T0 28 36 8 36 145 := rfl
theorem k_X12_init_145  : look a_X12_init 145 = vAload 0 146 := rfl
theorem k_X12_init_146  : look a_X12_init 146 = vI 208 149 := rfl
theorem k_X12_init_149  : look a_X12_init 149 = vNewA T0 8 dfa (fun ls σ => (lg ls 0).2 + 16) 26 27133 1 151 := rfl
theorem k_X12_init_151  : look a_X12_init 151 = vPutR T0 28 37 8 37 154 := rfl
theorem k_X12_init_154  : look a_X12_init 154 = vAload 0 155 := rfl
theorem k_X12_init_155  : look a_X12_init 155 = vI (-1) 156 := rfl
theorem k_X12_init_156  : look a_X12_init 156 = vPutI 28 38 159 := rfl
theorem k_X12_init_159  : look a_X12_init 159 = vAload 0 160 := rfl
theorem k_X12_init_160  : look a_X12_init 160 = vI 1 161 := rfl
theorem k_X12_init_161  : look a_X12_init 161 = vPutI 28 39 164 := rfl
theorem k_X12_init_164  : look a_X12_init 164 = vAload 0 165 := rfl
theorem k_X12_init_165  : look a_X12_init 165 = vI 8191 168 := rfl
theorem k_X12_init_168  : look a_X12_init 168 = vNewA T0 9 dfa (fun ls σ => (lg ls 0).2 + 17) 26 27133 1 170 := rfl
theorem k_X12_init_170  : look a_X12_init 170 = vPutR T0 28 40 9 40 173 := rfl
theorem k_X12_init_173  : look a_X12_init 173 = vAload 0 174 := rfl
theorem k_X12_init_174  : look a_X12_init 174 = vI 8191 177 := rfl
theorem k_X12_init_177  : look a_X12_init 177 = vNewA T0 8 dfa (fun ls σ => (lg ls 0).2 + 18) 26 27133 1 179 := rfl
theorem k_X12_init_179  : look a_X12_init 179 = vPutR T0 28 41 8 41 182 := rfl
theorem k_X12_init_182  : look a_X12_init 182 = vAload 0 183 := rfl
theorem k_X12_init_183  : look a_X12_init 183 = vI 6 185 := rfl
theorem k_X12_init_185  : look a_X12_init 185 = vNewA T0 8 dfa (fun ls σ => (lg ls 0).2 + 19) 26 27133 1 187 := rfl
theorem k_X12_init_187  : look a_X12_init 187 = vPutR T0 28 42 8 42 190 := rfl
theorem k_X12_init_190  : look a_X12_init 190 = vAload 0 191 := rfl
theorem k_X12_init_191  : look a_X12_init 191 = vI 6 193 := rfl
theorem k_X12_init_193  : look a_X12_init 193 = vNewA T0 8 dfa (fun ls σ => (lg ls 0).2 + 20) 26 27133 1 195 := rfl
theorem k_X12_init_195  : look a_X12_init 195 = vPutR T0 28 43 8 43 198 := rfl
theorem k_X12_init_198  : look a_X12_init 198 = vAload 0 199 := rfl
theorem k_X12_init_199  : look a_X12_init 199 = vI 6 201 := rfl
theorem k_X12_init_201  : look a_X12_init 201 = vNewA T0 8 dfa (fun ls σ => (lg ls 0).2 + 21) 26 27133 1 203 := rfl
theorem k_X12_init_203  : look a_X12_init 203 = vPutR T0 28 44 8 44 206 := rfl
theorem k_X12_init_206  : look a_X12_init 206 = vAload 0 207 := rfl
theorem k_X12_init_207  : look a_X12_init 207 = vI 6 209 := rfl
theorem k_X12_init_209  : look a_X12_init 209 = vNewA T0 8 dfa (fun ls σ => (lg ls 0).2 + 22) 26 27133 1 211 := rfl
theorem k_X12_init_211  : look a_X12_init 211 = vPutR T0 28 45 8 45 214 := rfl
theorem k_X12_init_214  : look a_X12_init 214 = vAload 0 215 := rfl
theorem k_X12_init_215  : look a_X12_init 215 = vI 8320 218 := rfl
theorem k_X12_init_218  : look a_X12_init 218 = vNewA T0 8 dfa (fun ls σ => (lg ls 0).2 + 23) 26 27133 1 220 := rfl
theorem k_X12_init_220  : look a_X12_init 220 = vPutR T0 28 47 8 47 223 := rfl
theorem k_X12_init_223  : look a_X12_init 223 = vAload 0 224 := rfl
theorem k_X12_init_224  : look a_X12_init 224 = vI 50 226 := rfl
theorem k_X12_init_226  : look a_X12_init 226 = vNewA T0 8 dfa (fun ls σ => (lg ls 0).2 + 24) 26 27133 1 228 := rfl
theorem k_X12_init_228  : look a_X12_init 228 = vPutR T0 28 52 8 52 231 := rfl
theorem k_X12_init_231  : look a_X12_init 231 = vAload 0 232 := rfl
theorem k_X12_init_232  : look a_X12_init 232 = vI 72 234 := rfl
theorem k_X12_init_234  : look a_X12_init 234 = vNewA T0 8 dfa (fun ls σ => (lg ls 0).2 + 25) 26 27133 1 236 := rfl
theorem k_X12_init_236  : look a_X12_init 236 = vPutR T0 28 54 8 54 239 := rfl
theorem k_X12_init_239  : look a_X12_init 239 = vAload 0 240 := rfl
theorem k_X12_init_240  : look a_X12_init 240 = vI 208 243 := rfl
theorem k_X12_init_243  : look a_X12_init 243 = vNewA T0 8 dfa (fun ls σ => (lg ls 0).2 + 26) 26 27133 1 245 := rfl
theorem k_X12_init_245  : look a_X12_init 245 = vPutR T0 28 55 8 55 248 := rfl
theorem k_X12_init_248  : look a_X12_init 248 = vVret := rfl
theorem o_X12_init {X : amX}  (e1 : XT X = T0) (e2 : XD X = 1) (e3 : XC X = 26) (e4 : XS X = 27133) (hin : (XM X).name = "<init>") (hE : Eno (Xn X) (Xst X)) (hB : amB X RX12 cX12_init (none) 1) : ∀ pc, amOK X pc (look a_X12_init pc) := by
  have hT : amTok (XT X) := e1 ▸ T0_ok
  refine look_ok ?_
  unfold a_X12_init
  refine fc (ok_aload_n hB dX12_init_0) ?_
  refine fc (ok_obj hB (by rw [e2]; decide) wd_1302 wd_33 wd_34 dX12_init_1) ?_
  refine fc (ok_aload_n hB dX12_init_4) ?_
  refine fc (ok_sipush hB dX12_init_5 (by decide)) ?_
  refine fc (ok_newA10 hB e1 e3 e4 wd_648 _ dX12_init_8) ?_
  refine fc (okt_putRF e1 hB hT fp_X12_9 (rt_arr _) rfl hin rfl rfl rfl af_12_1 at_12_1 (by decide) (by decide) dX12_init_10) ?_
  refine fc (ok_aload_n hB dX12_init_13) ?_
  refine fc (ok_sipush hB dX12_init_14 (by decide)) ?_
  refine fc (ok_newA10 hB e1 e3 e4 wd_648 _ dX12_init_17) ?_
  refine fc (okt_putRF e1 hB hT fp_X12_13 (rt_arr _) rfl hin rfl rfl rfl af_12_2 at_12_2 (by decide) (by decide) dX12_init_19) ?_
  refine fc (ok_aload_n hB dX12_init_22) ?_
  refine fc (ok_iconst hB dX12_init_23) ?_
  refine fc (ok_newA8 hB e1 e3 e4 wd_57 _ dX12_init_24) ?_
  refine fc (okt_putRF e1 hB hT fp_X12_16 (rt_arr _) rfl hin rfl rfl rfl af_12_3 at_12_3 (by decide) (by decide) dX12_init_26) ?_
  refine fc (ok_aload_n hB dX12_init_29) ?_
  refine fc (ok_sipush hB dX12_init_30 (by decide)) ?_
  refine fc (ok_newA8 hB e1 e3 e4 wd_57 _ dX12_init_33) ?_
  refine fc (okt_putRF e1 hB hT fp_X12_20 (rt_arr _) rfl hin rfl rfl rfl af_12_4 at_12_4 (by decide) (by decide) dX12_init_35) ?_
  refine fc (ok_aload_n hB dX12_init_38) ?_
  refine fc (ok_aload_n hB dX12_init_39) ?_
  refine fc (okt_getR e1 hB hT fl_X12_9 rfl af_12_1 at_12_1 (by decide) dX12_init_40) ?_
  refine fc (okt_putR e1 hB hT fp_X12_23 (rt_arr _) rfl rfl rfl af_12_5 at_12_5 (by decide) (by decide) dX12_init_43) ?_
  refine fc (ok_aload_n hB dX12_init_46) ?_
  refine fc (ok_ldcS hB (k := 4) rfl rfl rfl rfl dX12_init_47) ?_
  refine fc (ok_putS hB hT e1 fp_X12_28 (rt_obj _) rfl hin rfl rfl rfl af_12_15 at_12_15 dX12_init_49) ?_
  refine fc (ok_aload_n hB dX12_init_52) ?_
  refine fc (ok_ldcS hB (k := 5) rfl rfl rfl rfl dX12_init_53) ?_
  refine fc (ok_putS hB hT e1 fp_X12_34 (rt_obj _) rfl hin rfl rfl rfl af_12_16 at_12_16 dX12_init_55) ?_
  refine fc (ok_aload_n hB dX12_init_58) ?_
  refine fc (ok_iconst hB dX12_init_59) ?_
  refine fc (ok_newA8 hB e1 e3 e4 wd_57 _ dX12_init_60) ?_
  refine fc (okt_putRF e1 hB hT fp_X12_37 (rt_arr _) rfl hin rfl rfl rfl af_12_18 at_12_18 (by decide) (by decide) dX12_init_62) ?_
  refine fc (ok_aload_n hB dX12_init_65) ?_
  refine fc (ok_iconst hB dX12_init_66) ?_
  refine fc (ok_newA8 hB e1 e3 e4 wd_57 _ dX12_init_67) ?_
  refine fc (okt_putRF e1 hB hT fp_X12_40 (rt_arr _) rfl hin rfl rfl rfl af_12_19 at_12_19 (by decide) (by decide) dX12_init_69) ?_
  refine fc (ok_aload_n hB dX12_init_72) ?_
  refine fc (ok_bipush hB dX12_init_73 (by decide)) ?_
  refine fc (ok_newA8 hB e1 e3 e4 wd_57 _ dX12_init_75) ?_
  refine fc (okt_putRF e1 hB hT fp_X12_43 (rt_arr _) rfl hin rfl rfl rfl af_12_20 at_12_20 (by decide) (by decide) dX12_init_77) ?_
  refine fc (ok_aload_n hB dX12_init_80) ?_
  refine fc (ok_bipush hB dX12_init_81 (by decide)) ?_
  refine fc (ok_newA8 hB e1 e3 e4 wd_57 _ dX12_init_83) ?_
  refine fc (okt_putRF e1 hB hT fp_X12_46 (rt_arr _) rfl hin rfl rfl rfl af_12_21 at_12_21 (by decide) (by decide) dX12_init_85) ?_
  refine fc (ok_aload_n hB dX12_init_88) ?_
  refine fc (ok_bipush hB dX12_init_89 (by decide)) ?_
  refine fc (ok_newA8 hB e1 e3 e4 wd_57 _ dX12_init_91) ?_
  refine fc (okt_putRF e1 hB hT fp_X12_49 (rt_arr _) rfl hin rfl rfl rfl af_12_22 at_12_22 (by decide) (by decide) dX12_init_93) ?_
  refine fc (ok_aload_n hB dX12_init_96) ?_
  refine fc (ok_bipush hB dX12_init_97 (by decide)) ?_
  refine fc (ok_newA8 hB e1 e3 e4 wd_57 _ dX12_init_99) ?_
  refine fc (okt_putRF e1 hB hT fp_X12_52 (rt_arr _) rfl hin rfl rfl rfl af_12_23 at_12_23 (by decide) (by decide) dX12_init_101) ?_
  refine fc (ok_aload_n hB dX12_init_104) ?_
  refine fc (ok_bipush hB dX12_init_105 (by decide)) ?_
  refine fc (ok_newA8 hB e1 e3 e4 wd_57 _ dX12_init_107) ?_
  refine fc (okt_putRF e1 hB hT fp_X12_55 (rt_arr _) rfl hin rfl rfl rfl af_12_24 at_12_24 (by decide) (by decide) dX12_init_109) ?_
  refine fc (ok_aload_n hB dX12_init_112) ?_
  refine fc (ok_bipush hB dX12_init_113 (by decide)) ?_
  refine fc (ok_newA8 hB e1 e3 e4 wd_57 _ dX12_init_115) ?_
  refine fc (okt_putRF e1 hB hT fp_X12_58 (rt_arr _) rfl hin rfl rfl rfl af_12_25 at_12_25 (by decide) (by decide) dX12_init_117) ?_
  refine fc (ok_aload_n hB dX12_init_120) ?_
  refine fc (ok_sipush hB dX12_init_121 (by decide)) ?_
  refine fc (ok_newA8 hB e1 e3 e4 wd_57 _ dX12_init_124) ?_
  refine fc (okt_putRF e1 hB hT fp_X12_61 (rt_arr _) rfl hin rfl rfl rfl af_12_26 at_12_26 (by decide) (by decide) dX12_init_126) ?_
  refine fc (ok_aload_n hB dX12_init_129) ?_
  refine fc (ok_iconst hB dX12_init_130) ?_
  refine fc (ok_newA8 hB e1 e3 e4 wd_57 _ dX12_init_131) ?_
  refine fc (okt_putRF e1 hB hT fp_X12_64 (rt_arr _) rfl hin rfl rfl rfl af_12_27 at_12_27 (by decide) (by decide) dX12_init_133) ?_
  refine fc (ok_aload_n hB dX12_init_136) ?_
  refine fc (ok_sipush hB dX12_init_137 (by decide)) ?_
  refine fc (ok_newA8 hB e1 e3 e4 wd_57 _ dX12_init_140) ?_
  refine fc (okt_putRF e1 hB hT fp_X12_67 (rt_arr _) rfl hin rfl rfl rfl af_12_36 at_12_36 (by decide) (by decide) dX12_init_142) ?_
  refine fc (ok_aload_n hB dX12_init_145) ?_
  refine fc (ok_sipush hB dX12_init_146 (by decide)) ?_
  refine fc (ok_newA8 hB e1 e3 e4 wd_57 _ dX12_init_149) ?_
  refine fc (okt_putRF e1 hB hT fp_X12_70 (rt_arr _) rfl hin rfl rfl rfl af_12_37 at_12_37 (by decide) (by decide) dX12_init_151) ?_
  refine fc (ok_aload_n hB dX12_init_154) ?_
  refine fc (ok_iconst hB dX12_init_155) ?_
  refine fc (ok_putI hB hT fp_X12_73 rfl rfl rfl af_12_38 dX12_init_156) ?_
  refine fc (ok_aload_n hB dX12_init_159) ?_
  refine fc (ok_iconst hB dX12_init_160) ?_
  refine fc (ok_putI hB hT fp_X12_77 rfl rfl rfl af_12_39 dX12_init_161) ?_
  refine fc (ok_aload_n hB dX12_init_164) ?_
  refine fc (ok_sipush hB dX12_init_165 (by decide)) ?_
  refine fc (ok_newA9 hB e1 e3 e4 wd_273 _ dX12_init_168) ?_
  refine fc (okt_putRF e1 hB hT fp_X12_80 (rt_arr _) rfl hin rfl rfl rfl af_12_40 at_12_40 (by decide) (by decide) dX12_init_170) ?_
  refine fc (ok_aload_n hB dX12_init_173) ?_
  refine fc (ok_sipush hB dX12_init_174 (by decide)) ?_
  refine fc (ok_newA8 hB e1 e3 e4 wd_57 _ dX12_init_177) ?_
  refine fc (okt_putRF e1 hB hT fp_X12_84 (rt_arr _) rfl hin rfl rfl rfl af_12_41 at_12_41 (by decide) (by decide) dX12_init_179) ?_
  refine fc (ok_aload_n hB dX12_init_182) ?_
  refine fc (ok_bipush hB dX12_init_183 (by decide)) ?_
  refine fc (ok_newA8 hB e1 e3 e4 wd_57 _ dX12_init_185) ?_
  refine fc (okt_putRF e1 hB hT fp_X12_87 (rt_arr _) rfl hin rfl rfl rfl af_12_42 at_12_42 (by decide) (by decide) dX12_init_187) ?_
  refine fc (ok_aload_n hB dX12_init_190) ?_
  refine fc (ok_bipush hB dX12_init_191 (by decide)) ?_
  refine fc (ok_newA8 hB e1 e3 e4 wd_57 _ dX12_init_193) ?_
  refine fc (okt_putRF e1 hB hT fp_X12_90 (rt_arr _) rfl hin rfl rfl rfl af_12_43 at_12_43 (by decide) (by decide) dX12_init_195) ?_
  refine fc (ok_aload_n hB dX12_init_198) ?_
  refine fc (ok_bipush hB dX12_init_199 (by decide)) ?_
  refine fc (ok_newA8 hB e1 e3 e4 wd_57 _ dX12_init_201) ?_
  refine fc (okt_putRF e1 hB hT fp_X12_93 (rt_arr _) rfl hin rfl rfl rfl af_12_44 at_12_44 (by decide) (by decide) dX12_init_203) ?_
  refine fc (ok_aload_n hB dX12_init_206) ?_
  refine fc (ok_bipush hB dX12_init_207 (by decide)) ?_
  refine fc (ok_newA8 hB e1 e3 e4 wd_57 _ dX12_init_209) ?_
  refine fc (okt_putRF e1 hB hT fp_X12_96 (rt_arr _) rfl hin rfl rfl rfl af_12_45 at_12_45 (by decide) (by decide) dX12_init_211) ?_
  refine fc (ok_aload_n hB dX12_init_214) ?_
  refine fc (ok_sipush hB dX12_init_215 (by decide)) ?_
  refine fc (ok_newA8 hB e1 e3 e4 wd_57 _ dX12_init_218) ?_
  refine fc (okt_putRF e1 hB hT fp_X12_99 (rt_arr _) rfl hin rfl rfl rfl af_12_47 at_12_47 (by decide) (by decide) dX12_init_220) ?_
  refine fc (ok_aload_n hB dX12_init_223) ?_
  refine fc (ok_bipush hB dX12_init_224 (by decide)) ?_
  refine fc (ok_newA8 hB e1 e3 e4 wd_57 _ dX12_init_226) ?_
  refine fc (okt_putRF e1 hB hT fp_X12_102 (rt_arr _) rfl hin rfl rfl rfl af_12_52 at_12_52 (by decide) (by decide) dX12_init_228) ?_
  refine fc (ok_aload_n hB dX12_init_231) ?_
  refine fc (ok_bipush hB dX12_init_232 (by decide)) ?_
  refine fc (ok_newA8 hB e1 e3 e4 wd_57 _ dX12_init_234) ?_
  refine fc (okt_putRF e1 hB hT fp_X12_105 (rt_arr _) rfl hin rfl rfl rfl af_12_54 at_12_54 (by decide) (by decide) dX12_init_236) ?_
  refine fc (ok_aload_n hB dX12_init_239) ?_
  refine fc (ok_sipush hB dX12_init_240 (by decide)) ?_
  refine fc (ok_newA8 hB e1 e3 e4 wd_57 _ dX12_init_243) ?_
  refine fc (okt_putRF e1 hB hT fp_X12_108 (rt_arr _) rfl hin rfl rfl rfl af_12_55 at_12_55 (by decide) (by decide) dX12_init_245) ?_
  refine fc (ok_vret hB dX12_init_248) ?_
  exact fn


def w_X12_init : WP := fun av σ Q => ∃ (a : Int), av = [(28, a)] ∧ ((a = 5000) ∧ nl σ (a + 1) ∧ nl σ (a + 2) ∧ nl σ (a + 3) ∧ nl σ (a + 4) ∧ nl σ (a + 5) ∧ nl σ (a + 6) ∧ nl σ (a + 7) ∧ nl σ (a + 8) ∧ nl σ (a + 9) ∧ nl σ (a + 10) ∧ nl σ (a + 11) ∧ nl σ (a + 12) ∧ nl σ (a + 13) ∧ nl σ (a + 14) ∧ nl σ (a + 15) ∧ nl σ (a + 16) ∧ nl σ (a + 17) ∧ nl σ (a + 18) ∧ nl σ (a + 19) ∧ nl σ (a + 20) ∧ nl σ (a + 21) ∧ nl σ (a + 22) ∧ nl σ (a + 23) ∧ nl σ (a + 24) ∧ nl σ (a + 25) ∧ nl σ (a + 26) ∧ Q (6, 0) (ini12 σ a))
theorem w_X12_init_e (a : Int) (σ : Mem) (Q : AV → Mem → Prop) : w_X12_init [(28, a)] σ Q = ((a = 5000) ∧ nl σ (a + 1) ∧ nl σ (a + 2) ∧ nl σ (a + 3) ∧ nl σ (a + 4) ∧ nl σ (a + 5) ∧ nl σ (a + 6) ∧ nl σ (a + 7) ∧ nl σ (a + 8) ∧ nl σ (a + 9) ∧ nl σ (a + 10) ∧ nl σ (a + 11) ∧ nl σ (a + 12) ∧ nl σ (a + 13) ∧ nl σ (a + 14) ∧ nl σ (a + 15) ∧ nl σ (a + 16) ∧ nl σ (a + 17) ∧ nl σ (a + 18) ∧ nl σ (a + 19) ∧ nl σ (a + 20) ∧ nl σ (a + 21) ∧ nl σ (a + 22) ∧ nl σ (a + 23) ∧ nl σ (a + 24) ∧ nl σ (a + 25) ∧ nl σ (a + 26) ∧ Q (6, 0) (ini12 σ a)) := by
  apply propext; constructor
  · rintro ⟨a', h9, hb9⟩; cases h9; exact hb9
  · intro hb9; exact ⟨a, rfl, hb9⟩

set_option maxRecDepth 100000 in
set_option maxHeartbeats 4000000 in
theorem s_X12_init  : ∀ av σ Q, w_X12_init  av σ Q → amCallE Eno 1 26 27133 T0 yX12_init cX12_init 1 (none) av σ Q := by
  rintro av σ Q ⟨a, rfl, ha, h1, h2, h3, h4, h5, h6, h7, h8, h9, h10, h11, h12, h13, h14, h15, h16, h17, h18, h19, h20, h21, h22, h23, h24, h25, h26, h⟩
  unfold ini12 at h
  subst ha
  simp only [Int.reduceAdd] at h h1 h2 h3 h4 h5 h6 h7 h8 h9 h10 h11 h12 h13 h14 h15 h16 h17 h18 h19 h20 h21 h22 h23 h24 h25 h26
  refine am_methodE (own := RX12) (A := look a_X12_init) (fun X e1 e2 e3 e4 h5 hE hB => o_X12_init  e1 e2 e3 e4 h5 hE hB) rfl (by decide +kernel) rfl rfl 389 (w := 3) ?_
  change vcs _ _ _ _ 389 0 [(28, 5000), (6, 0), (6, 0)] [] σ
  simp only [vNew_e, vNewA_e, vCallI_e0, vCallI_e1, vCallI_e2, vCallI_e3, vCallMA_e0, vCallMA_e1, vCallSA_e2, vObj_e, cnt_e, List.length_cons, List.length_nil, Nat.zero_add, Nat.reduceAdd, Nat.reduceLT, Int.reduceAdd, Nat.reduceLeDiff, ↓reduceIte, vSw2_e, swP_n, swP_c, vI_e, vL_e, vNull_e, vIload_e, vLload_e, vAload_e, vIstore_e, vLstore_e, vAstore_e, vIinc_e, vIadd_e, vIsub_e, vImul_e, vIand_e, vIor_e, vIxor_e, vIshl_e, vIshr_e, vIushr_e, vIdiv_e, vIrem_e, vLadd_e, vLsub_e, vLmul_e, vLand_e, vLor_e, vLxor_e, vLdiv_e, vLrem_e, vLushr_e, vLshl_e, vLcmp_e, vIneg_e, vI2l_e, vL2i_e, vI2b_e, vI2c_e, vDup_e, vPop_e, vDup2_e, vGoto_e, vIcEq_e, vIfEq_e, vIcNe_e, vIfNe_e, vIcLt_e, vIfLt_e, vIcGe_e, vIfGe_e, vIcGt_e, vIfGt_e, vIcLe_e, vIfLe_e, vNonnull_e, vSw_e, vGetI_e, vGetL_e, vGetR_e, vPutI_e, vPutZ_e, vPutL_e, vPutR_e, vIald_e, vIald_s, vLald_e, vBald_e, vBald_s, vAald_e, vIast_e, vLast_e, vBast_e, vAast_e, vAlen_e8, vAlen_e9, vAlen_e10, vAlen_e11, vAlen_e5, vAlen_e3, vGets_e, vCompact_e, vLdcS_e, vIret_e, vZret_e, vCret_e, vBret_e, vLret_e, vVret_e, vAret_e, vCallM_e0, vCallMV_e0, vCallS_e0, vCallSV_e0, vCallM_e1, vCallMV_e1, vCallS_e1, vCallSV_e1, vCallM_e2, vCallMV_e2, vCallS_e2, vCallSV_e2, vCallM_e3, vCallMV_e3, vCallS_e3, vCallSV_e3, vCallM_e4, vCallMV_e4, vCallS_e4, vCallSV_e4, vCallM_e5, vCallMV_e5, vCallS_e5, vCallSV_e5, vCallM_e6, vCallMV_e6, vCallS_e6, vCallSV_e6, vCallM_e7, vCallMV_e7, vCallS_e7, vCallSV_e7, vBad_e, vStrVal_e, vStrCod_e, vForm_e, vCallT_e0, vCallT_e1, vCallT_e2, vCopy_e, rf_0_0, rf_0_1, rf_0_2, rf_0_3, rf_0_4, rf_0_7, rf_0_10, rf_0_11, rf_0_12, rf_0_13, rf_0_14, rf_0_15, rf_0_16, rf_1_0, rf_3_0, rf_3_1, rf_6_0, rf_6_1, rf_9_0, rf_9_1, rf_9_3, rf_13_0, rf_13_1, rf_13_2, rf_16_0, rf_16_1, rf_16_2, rf_16_3, rf_21_0, rf_21_1, rf_21_2, rf_21_3, rf_26_0, rf_26_1, rf_26_2, rf_26_3, rf_26_4, rf_26_5, rf_26_6, rf_31_0, rf_31_2, rf_31_5, rf_31_6, rf_36_0, rf_36_1, rf_36_2, rf_36_3, rf_39_0, rf_39_1, rf_39_2, rf_41_0, rf_41_1, rf_41_2, rf_41_3, rf_5000_1, rf_5000_2, rf_5000_3, rf_5000_4, rf_5000_5, rf_5000_15, rf_5000_16, rf_5000_18, rf_5000_19, rf_5000_20, rf_5000_21, rf_5000_22, rf_5000_23, rf_5000_24, rf_5000_25, rf_5000_26, rf_5000_27, rf_5000_36, rf_5000_37, rf_5000_40, rf_5000_41, rf_5000_42, rf_5000_43, rf_5000_44, rf_5000_45, rf_5000_47, rf_5000_52, rf_5000_54, rf_5000_55, rf_100_0, rf_100_1, rf_103_0, rf_103_1, rf_106_0, rf_106_1, rf_109_0, rf_109_1, al_2, al_4, al_5, al_7, al_8, al_10, al_11, al_12, al_14, al_15, al_17, al_18, al_19, al_20, al_22, al_23, al_24, al_25, al_27, al_28, al_29, al_30, al_32, al_33, al_34, al_35, al_37, al_38, al_40, al_42, al_5001, al_5002, al_5003, al_5004, al_5005, al_5006, al_5007, al_5008, al_5009, al_5010, al_5011, al_5012, al_5013, al_5014, al_5015, al_5016, al_5017, al_5018, al_5019, al_5020, al_5021, al_5022, al_5023, al_5024, al_5025, al_5026, al_9000, al_101, al_102, al_104, al_105, al_107, al_108, al_110, al_111, vcs_e, lg_c0, lg_cs, lg_nil, set_c0, set_cs, okst_0, okst_s, acok_n, acok_c, List.contains_nil, List.contains_cons, Bool.or_false, Bool.false_or, Bool.false_eq_true, if_false, if_true, ite_self, ne_eq, true_and, and_true, not_false_eq_true, not_true_eq_false, false_imp_iff, true_imp_iff, Nat.ble_eq, Bool.and_eq_true, reduceCtorEq, or_false, false_or, or_true, true_or, false_and, and_false, and_self, Int.reduceLE, Int.reduceAdd, Int.reduceSub, Int.reduceMul, Int.reduceNeg, Int.reduceLT, Int.reduceEq, Int.reduceNe, Nat.reduceBEq, Nat.reduceBNe, Nat.reduceEqDiff, amCmp_in, amCmp_lt, amCmp_le, amCmp_gt, amCmp_ge, amCmp_eq, amCmp_ne, Nat.reduceLeDiff, Nat.reduceSub, Bool.and_true, Bool.true_and, Bool.and_self, Bool.or_true, Bool.true_or, isRf_3, isRf_4, isRf_5, isRf_8, isRf_9, isRf_10, isRf_11, isRf_15, isRf_16, isRf_17, isRf_18, isRf_19, isRf_20, isRf_21, isRf_22, isRf_23, isRf_24, isRf_25, isRf_26, isRf_27, isRf_28, k_X12_init_0, k_X12_init_1, k_X12_init_4, k_X12_init_5, k_X12_init_8, k_X12_init_10, k_X12_init_13, k_X12_init_14, k_X12_init_17, k_X12_init_19, k_X12_init_22, k_X12_init_23, k_X12_init_24, k_X12_init_26, k_X12_init_29, k_X12_init_30, k_X12_init_33, k_X12_init_35, k_X12_init_38, k_X12_init_39, k_X12_init_40, k_X12_init_43, k_X12_init_46, k_X12_init_47, k_X12_init_49, k_X12_init_52, k_X12_init_53, k_X12_init_55, k_X12_init_58, k_X12_init_59, k_X12_init_60, k_X12_init_62, k_X12_init_65, k_X12_init_66, k_X12_init_67, k_X12_init_69, k_X12_init_72, k_X12_init_73, k_X12_init_75, k_X12_init_77, k_X12_init_80, k_X12_init_81, k_X12_init_83, k_X12_init_85, k_X12_init_88, k_X12_init_89, k_X12_init_91, k_X12_init_93, k_X12_init_96, k_X12_init_97, k_X12_init_99, k_X12_init_101, k_X12_init_104, k_X12_init_105, k_X12_init_107, k_X12_init_109, k_X12_init_112, k_X12_init_113, k_X12_init_115, k_X12_init_117, k_X12_init_120, k_X12_init_121, k_X12_init_124, k_X12_init_126, k_X12_init_129, k_X12_init_130, k_X12_init_131, k_X12_init_133, k_X12_init_136, k_X12_init_137, k_X12_init_140, k_X12_init_142, k_X12_init_145, k_X12_init_146, k_X12_init_149, k_X12_init_151, k_X12_init_154, k_X12_init_155, k_X12_init_156, k_X12_init_159, k_X12_init_160, k_X12_init_161, k_X12_init_164, k_X12_init_165, k_X12_init_168, k_X12_init_170, k_X12_init_173, k_X12_init_174, k_X12_init_177, k_X12_init_179, k_X12_init_182, k_X12_init_183, k_X12_init_185, k_X12_init_187, k_X12_init_190, k_X12_init_191, k_X12_init_193, k_X12_init_195, k_X12_init_198, k_X12_init_199, k_X12_init_201, k_X12_init_203, k_X12_init_206, k_X12_init_207, k_X12_init_209, k_X12_init_211, k_X12_init_214, k_X12_init_215, k_X12_init_218, k_X12_init_220, k_X12_init_223, k_X12_init_224, k_X12_init_226, k_X12_init_228, k_X12_init_231, k_X12_init_232, k_X12_init_234, k_X12_init_236, k_X12_init_239, k_X12_init_240, k_X12_init_243, k_X12_init_245, k_X12_init_248, up_s, up_nj, up_na, up_up, savR_o, cpy_o, fillm_o, setAud_o, setv_o, setv_s, Int.reduceNe, Int.reduceEq, Int.reduceLT, Int.reduceAdd, not_false_eq_true, ne_eq, or_true, true_or, nl_newm, nl_up, rf0_5000_1, rf0_5000_2, rf0_5000_3, rf0_5000_4, rf0_5000_5, rf0_5000_15, rf0_5000_16, rf0_5000_18, rf0_5000_19, rf0_5000_20, rf0_5000_21, rf0_5000_22, rf0_5000_23, rf0_5000_24, rf0_5000_25, rf0_5000_26, rf0_5000_27, rf0_5000_36, rf0_5000_37, rf0_5000_40, rf0_5000_41, rf0_5000_42, rf0_5000_43, rf0_5000_44, rf0_5000_45, rf0_5000_47, rf0_5000_52, rf0_5000_54, rf0_5000_55, no_5000, na_5001, na_5002, na_5003, na_5004, na_5005, na_5006, na_5007, na_5008, na_5009, na_5010, na_5011, na_5012, na_5013, na_5014, na_5015, na_5016, na_5017, na_5018, na_5019, na_5020, na_5021, na_5022, na_5023, na_5024, na_5025, na_5026, newm_k, newm_s]
  repeat' (first | assumption | apply And.intro | intro _)
  all_goals first | omega | exact rfl | exact Or.inl rfl | exact Or.inr rfl | decide
def ini11 (σ : Mem) : Mem := up (ini1 (newm (up (ini4 (newm (up (ini8 (newm (up (ini5 (newm (up (ini9 (newm (up (ini0 (newm (up (ini0 (newm (up (up (up (ini7 (newm (up (up (up (newm (up (ini3 (newm (up (ini6 (newm (up (ini6 (newm (up (ini10 (newm (σ) 1 (dfv 10)) 1) 0 0 1) 3 (dfv 6)) 3) 0 1 3) 6 (dfv 6)) 6) 0 2 6) 9 (dfv 3)) 9 1) 0 3 9) 12 (dfq 4)) 0 4 12) 0 5 0) 0 6 (-1)) 13 (dfv 7)) 13 1) 0 7 13) 0 8 1) 0 9 0) 16 (dfv 0)) 16) 0 10 16) 21 (dfv 0)) 21) 0 11 21) 26 (dfv 9)) 26 6 16) 0 12 26) 31 (dfv 5)) 31) 0 13 31) 36 (dfv 8)) 36 6 26) 0 14 36) 39 (dfv 4)) 39 6 26) 0 15 39) 41 (dfv 1)) 41 6 26 16) 0 16 41
theorem wd_32 : Cond.methodLink RX11 1 Lib.objectInit ∈ TBL := tb_tab (List.mem_of_getElem? (i := 32) (by decide +kernel)) rfl
theorem wd_35 : Cond.classLink RX11 7 RX10 ∈ TBL := tb_tab (List.mem_of_getElem? (i := 35) (by decide +kernel)) rfl
theorem wd_36 : Cond.instantiable RX10 3 ∈ TBL := tb_tab (List.mem_of_getElem? (i := 36) (by decide +kernel)) rfl
theorem wd_38 : Cond.instanceMethod yX10_init ∈ TBL := tb_tab (List.mem_of_getElem? (i := 38) (by decide +kernel)) rfl
theorem wd_39 : Cond.code yX10_init cX10_init 1 (none) ∈ TBL := tb_tab (List.mem_of_getElem? (i := 39) (by decide +kernel)) rfl
theorem fp_X11_10 : amFp RX11 11 0 10 RX11 TX11 17 tyX11 (.object "ArmchairHouse$Tape") := ⟨fl_X11_10, tyX11_ok, nmX11, by decide +kernel⟩
theorem wd_58 : Cond.classLink RX11 16 RX6 ∈ TBL := tb_tab (List.mem_of_getElem? (i := 58) (by decide +kernel)) rfl
theorem wd_59 : Cond.instantiable RX6 2 ∈ TBL := tb_tab (List.mem_of_getElem? (i := 59) (by decide +kernel)) rfl
theorem wd_61 : Cond.instanceMethod yX6_init ∈ TBL := tb_tab (List.mem_of_getElem? (i := 61) (by decide +kernel)) rfl
theorem wd_62 : Cond.code yX6_init cX6_init 1 (none) ∈ TBL := tb_tab (List.mem_of_getElem? (i := 62) (by decide +kernel)) rfl
theorem fp_X11_19 : amFp RX11 11 1 19 RX11 TX11 17 tyX11 (.object "ArmchairHouse$Plan") := ⟨fl_X11_19, tyX11_ok, nmX11, by decide +kernel⟩
theorem fp_X11_23 : amFp RX11 11 2 23 RX11 TX11 17 tyX11 (.object "ArmchairHouse$Plan") := ⟨fl_X11_23, tyX11_ok, nmX11, by decide +kernel⟩
theorem wd_71 : Cond.classLink RX11 26 RX3 ∈ TBL := tb_tab (List.mem_of_getElem? (i := 71) (by decide +kernel)) rfl
theorem wd_72 : Cond.instantiable RX3 12 ∈ TBL := tb_tab (List.mem_of_getElem? (i := 72) (by decide +kernel)) rfl
theorem wd_74 : Cond.instanceMethod yX3_init ∈ TBL := tb_tab (List.mem_of_getElem? (i := 74) (by decide +kernel)) rfl
theorem wd_73 : Cond.methodLink RX11 28 yX3_init ∈ TBL := tb_tab (List.mem_of_getElem? (i := 73) (by decide +kernel)) rfl
theorem wd_75 : Cond.code yX3_init cX3_init 2 (none) ∈ TBL := tb_tab (List.mem_of_getElem? (i := 75) (by decide +kernel)) rfl
theorem lk_X11_28 : amLk RX11 28 yX3_init cX3_init 2 (none) 1 := ⟨wd_73, wd_4, wd_75, by decide +kernel, by decide +kernel, by decide⟩
theorem fp_X11_31 : amFp RX11 11 3 31 RX11 TX11 17 tyX11 (.object "ArmchairHouse$LawReader") := ⟨fl_X11_31, tyX11_ok, nmX11, by decide +kernel⟩
theorem wd_114 : Cond.classLink RX11 35 RX2 ∈ TBL := tb_tab (List.mem_of_getElem? (i := 114) (by decide +kernel)) rfl
theorem fp_X11_37 : amFp RX11 11 4 37 RX11 TX11 17 tyX11 (.array (.object "ArmchairHouse$Law")) := ⟨fl_X11_37, tyX11_ok, nmX11, by decide +kernel⟩
theorem fp_X11_41 : amFp RX11 11 5 41 RX11 TX11 17 tyX11 .int := ⟨fl_X11_41, tyX11_ok, nmX11, by decide +kernel⟩
theorem wd_116 : Cond.classLink RX11 48 RX7 ∈ TBL := tb_tab (List.mem_of_getElem? (i := 116) (by decide +kernel)) rfl
theorem wd_117 : Cond.instantiable RX7 4 ∈ TBL := tb_tab (List.mem_of_getElem? (i := 117) (by decide +kernel)) rfl
theorem wd_119 : Cond.instanceMethod yX7_init ∈ TBL := tb_tab (List.mem_of_getElem? (i := 119) (by decide +kernel)) rfl
theorem wd_118 : Cond.methodLink RX11 50 yX7_init ∈ TBL := tb_tab (List.mem_of_getElem? (i := 118) (by decide +kernel)) rfl
theorem wd_120 : Cond.code yX7_init cX7_init 2 (none) ∈ TBL := tb_tab (List.mem_of_getElem? (i := 120) (by decide +kernel)) rfl
theorem lk_X11_50 : amLk RX11 50 yX7_init cX7_init 2 (none) 1 := ⟨wd_118, wd_5, wd_120, by decide +kernel, by decide +kernel, by decide⟩
theorem fp_X11_51 : amFp RX11 11 7 51 RX11 TX11 17 tyX11 (.object "ArmchairHouse$Seasons") := ⟨fl_X11_51, tyX11_ok, nmX11, by decide +kernel⟩
theorem wd_136 : Cond.classLink RX11 62 RX0 ∈ TBL := tb_tab (List.mem_of_getElem? (i := 136) (by decide +kernel)) rfl
theorem wd_137 : Cond.instantiable RX0 7 ∈ TBL := tb_tab (List.mem_of_getElem? (i := 137) (by decide +kernel)) rfl
theorem wd_139 : Cond.instanceMethod yX0_init ∈ TBL := tb_tab (List.mem_of_getElem? (i := 139) (by decide +kernel)) rfl
theorem wd_140 : Cond.code yX0_init cX0_init 1 (none) ∈ TBL := tb_tab (List.mem_of_getElem? (i := 140) (by decide +kernel)) rfl
theorem fp_X11_65 : amFp RX11 11 10 65 RX11 TX11 17 tyX11 (.object "ArmchairHouse$Audience") := ⟨fl_X11_65, tyX11_ok, nmX11, by decide +kernel⟩
theorem fp_X11_69 : amFp RX11 11 11 69 RX11 TX11 17 tyX11 (.object "ArmchairHouse$Audience") := ⟨fl_X11_69, tyX11_ok, nmX11, by decide +kernel⟩
theorem wd_178 : Cond.classLink RX11 72 RX9 ∈ TBL := tb_tab (List.mem_of_getElem? (i := 178) (by decide +kernel)) rfl
theorem wd_179 : Cond.instantiable RX9 9 ∈ TBL := tb_tab (List.mem_of_getElem? (i := 179) (by decide +kernel)) rfl
theorem wd_181 : Cond.instanceMethod yX9_init ∈ TBL := tb_tab (List.mem_of_getElem? (i := 181) (by decide +kernel)) rfl
theorem wd_180 : Cond.methodLink RX11 74 yX9_init ∈ TBL := tb_tab (List.mem_of_getElem? (i := 180) (by decide +kernel)) rfl
theorem wd_182 : Cond.code yX9_init cX9_init 3 (none) ∈ TBL := tb_tab (List.mem_of_getElem? (i := 182) (by decide +kernel)) rfl
theorem lk_X11_74 : amLk RX11 74 yX9_init cX9_init 3 (none) 2 := ⟨wd_180, wd_7, wd_182, by decide +kernel, by decide +kernel, by decide⟩
theorem fp_X11_77 : amFp RX11 11 12 77 RX11 TX11 17 tyX11 (.object "ArmchairHouse$Stage") := ⟨fl_X11_77, tyX11_ok, nmX11, by decide +kernel⟩
theorem wd_219 : Cond.classLink RX11 81 RX5 ∈ TBL := tb_tab (List.mem_of_getElem? (i := 219) (by decide +kernel)) rfl
theorem wd_220 : Cond.instantiable RX5 9 ∈ TBL := tb_tab (List.mem_of_getElem? (i := 220) (by decide +kernel)) rfl
theorem wd_222 : Cond.instanceMethod yX5_init ∈ TBL := tb_tab (List.mem_of_getElem? (i := 222) (by decide +kernel)) rfl
theorem wd_223 : Cond.code yX5_init cX5_init 1 (none) ∈ TBL := tb_tab (List.mem_of_getElem? (i := 223) (by decide +kernel)) rfl
theorem fp_X11_84 : amFp RX11 11 13 84 RX11 TX11 17 tyX11 (.object "ArmchairHouse$Past") := ⟨fl_X11_84, tyX11_ok, nmX11, by decide +kernel⟩
theorem wd_254 : Cond.classLink RX11 88 RX8 ∈ TBL := tb_tab (List.mem_of_getElem? (i := 254) (by decide +kernel)) rfl
theorem wd_255 : Cond.instantiable RX8 4 ∈ TBL := tb_tab (List.mem_of_getElem? (i := 255) (by decide +kernel)) rfl
theorem wd_257 : Cond.instanceMethod yX8_init ∈ TBL := tb_tab (List.mem_of_getElem? (i := 257) (by decide +kernel)) rfl
theorem wd_256 : Cond.methodLink RX11 90 yX8_init ∈ TBL := tb_tab (List.mem_of_getElem? (i := 256) (by decide +kernel)) rfl
theorem wd_258 : Cond.code yX8_init cX8_init 3 (none) ∈ TBL := tb_tab (List.mem_of_getElem? (i := 258) (by decide +kernel)) rfl
theorem lk_X11_90 : amLk RX11 90 yX8_init cX8_init 3 (none) 2 := ⟨wd_256, wd_9, wd_258, by decide +kernel, by decide +kernel, by decide⟩
theorem fp_X11_93 : amFp RX11 11 14 93 RX11 TX11 17 tyX11 (.object "ArmchairHouse$Seating") := ⟨fl_X11_93, tyX11_ok, nmX11, by decide +kernel⟩
theorem wd_274 : Cond.classLink RX11 97 RX4 ∈ TBL := tb_tab (List.mem_of_getElem? (i := 274) (by decide +kernel)) rfl
theorem wd_275 : Cond.instantiable RX4 3 ∈ TBL := tb_tab (List.mem_of_getElem? (i := 275) (by decide +kernel)) rfl
theorem wd_277 : Cond.instanceMethod yX4_init ∈ TBL := tb_tab (List.mem_of_getElem? (i := 277) (by decide +kernel)) rfl
theorem wd_276 : Cond.methodLink RX11 99 yX4_init ∈ TBL := tb_tab (List.mem_of_getElem? (i := 276) (by decide +kernel)) rfl
theorem wd_278 : Cond.code yX4_init cX4_init 3 (none) ∈ TBL := tb_tab (List.mem_of_getElem? (i := 278) (by decide +kernel)) rfl
theorem lk_X11_99 : amLk RX11 99 yX4_init cX4_init 3 (none) 2 := ⟨wd_276, wd_10, wd_278, by decide +kernel, by decide +kernel, by decide⟩
theorem fp_X11_100 : amFp RX11 11 15 100 RX11 TX11 17 tyX11 (.object "ArmchairHouse$Match") := ⟨fl_X11_100, tyX11_ok, nmX11, by decide +kernel⟩
theorem wd_290 : Cond.classLink RX11 104 RX1 ∈ TBL := tb_tab (List.mem_of_getElem? (i := 290) (by decide +kernel)) rfl
theorem wd_291 : Cond.instantiable RX1 5 ∈ TBL := tb_tab (List.mem_of_getElem? (i := 291) (by decide +kernel)) rfl
theorem wd_293 : Cond.instanceMethod yX1_init ∈ TBL := tb_tab (List.mem_of_getElem? (i := 293) (by decide +kernel)) rfl
theorem wd_292 : Cond.methodLink RX11 106 yX1_init ∈ TBL := tb_tab (List.mem_of_getElem? (i := 292) (by decide +kernel)) rfl
theorem wd_294 : Cond.code yX1_init cX1_init 4 (none) ∈ TBL := tb_tab (List.mem_of_getElem? (i := 294) (by decide +kernel)) rfl
theorem lk_X11_106 : amLk RX11 106 yX1_init cX1_init 4 (none) 3 := ⟨wd_292, wd_11, wd_294, by decide +kernel, by decide +kernel, by decide⟩
theorem fp_X11_109 : amFp RX11 11 16 109 RX11 TX11 17 tyX11 (.object "ArmchairHouse$Clues") := ⟨fl_X11_109, tyX11_ok, nmX11, by decide +kernel⟩
def a_X11_init  : AC := [(0, vAload 0 1), (1, vObj 4), (4, vAload 0 5), (5, vNew T0 10 3 (fun ls σ => 1) 42 2932 1 8), (8, vDup 9), (9, vCallI (w_X10_init) 26 0 1 240 42 2932 1 12), (12, vPutR T0 27 0 26 0 15), (15, vAload 0 16), (16, vNew T0 6 2 (fun ls σ => 3) 42 2932 1 19), (19, vDup 20), (20, vCallI (w_X6_init) 22 0 2 72 42 2932 1 23), (23, vPutR T0 27 1 22 1 26), (26, vAload 0 27), (27, vNew T0 6 2 (fun ls σ => 6) 42 2932 1 30), (30, vDup 31), (31, vCallI (w_X6_init) 22 0 2 72 42 2932 1 34), (34, vPutR T0 27 2 22 2 37), (37, vAload 0 38), (38, vNew T0 3 12 (fun ls σ => 9) 42 2932 1 41), (41, vDup 42), (42, vAload 0 43), (43, vGetR T0 27 0 26 46), (46, vCallI (w_X3_init) 19 1 2 305 42 2932 1 49), (49, vPutR T0 27 3 19 3 52), (52, vAload 0 53), (53, vI 4 54), (54, vNewA T0 11 dfq (fun ls σ => 12) 42 2932 1 57), (57, vPutR T0 27 4 11 4 60), (60, vAload 0 61), (61, vI 0 62), (62, vPutI 27 5 65), (65, vAload 0 66), (66, vI (-1) 67), (67, vPutI 27 6 70), (70, vAload 0 71), (71, vNew T0 7 4 (fun ls σ => 13) 42 2932 1 74), (74, vDup 75), (75, vAload 0 76), (76, vGetR T0 27 0 26 79), (79, vCallI (w_X7_init) 23 1 2 245 42 2932 1 82), (82, vPutR T0 27 7 23 7 85), (85, vAload 0 86), (86, vI 1 87), (87, vPutI 27 8 90), (90, vAload 0 91), (91, vL 0 92), (92, vPutL 27 9 95), (95, vAload 0 96), (96, vNew T0 0 7 (fun ls σ => 16) 42 2932 1 99), (99, vDup 100), (100, vCallI (w_X0_init) 16 0 4 24 42 2932 1 103), (103, vPutR T0 27 10 16 10 106), (106, vAload 0 107), (107, vNew T0 0 7 (fun ls σ => 21) 42 2932 1 110), (110, vDup 111), (111, vCallI (w_X0_init) 16 0 4 24 42 2932 1 114), (114, vPutR T0 27 11 16 11 117), (117, vAload 0 118), (118, vNew T0 9 9 (fun ls σ => 26) 42 2932 1 121), (121, vDup 122), (122, vAload 0 123), (123, vGetR T0 27 2 22 126), (126, vAload 0 127), (127, vGetR T0 27 10 16 130), (130, vCallI (w_X9_init) 25 2 4 342 42 2932 1 133), (133, vPutR T0 27 12 25 12 136), (136, vAload 0 137), (137, vNew T0 5 9 (fun ls σ => 31) 42 2932 1 140), (140, vDup 141), (141, vCallI (w_X5_init) 21 0 4 1335 42 2932 1 144), (144, vPutR T0 27 13 21 13 147), (147, vAload 0 148), (148, vNew T0 8 4 (fun ls σ => 36) 42 2932 1 151), (151, vDup 152), (152, vAload 0 153), (153, vGetR T0 27 2 22 156), (156, vAload 0 157), (157, vGetR T0 27 12 25 160), (160, vCallI (w_X8_init) 24 2 2 128 42 2932 1 163), (163, vPutR T0 27 14 24 14 166), (166, vAload 0 167), (167, vNew T0 4 3 (fun ls σ => 39) 42 2932 1 170), (170, vDup 171), (171, vAload 0 172), (172, vGetR T0 27 2 22 175), (175, vAload 0 176), (176, vGetR T0 27 12 25 179), (179, vCallI (w_X4_init) 20 2 1 24 42 2932 1 182), (182, vPutR T0 27 15 20 15 185), (185, vAload 0 186), (186, vNew T0 1 5 (fun ls σ => 41) 42 2932 1 189), (189, vDup 190), (190, vAload 0 191), (191, vGetR T0 27 2 22 194), (194, vAload 0 195), (195, vGetR T0 27 12 25 198), (198, vAload 0 199), (199, vGetR T0 27 10 16 202), (202, vCallI (w_X1_init) 17 3 1 50 42 2932 1 205), (205, vPutR T0 27 16 17 16 208), (208, vVret)]
theorem k_X11_init_0  : look a_X11_init 0 = vAload 0 1 := rfl
theorem k_X11_init_1  : look a_X11_init 1 = vObj 4 := rfl
theorem k_X11_init_4  : look a_X11_init 4 = vAload 0 5 := rfl
theorem k_X11_init_5  : look a_X11_init 5 = vNew T0 10 3 (fun ls σ => 1) 42 2932 1 8 := rfl
theorem k_X11_init_8  : look a_X11_init 8 = vDup 9 := rfl
theorem k_X11_init_9  : look a_X11_init 9 = vCallI (w_X10_init) 26 0 1 240 42 2932 1 12 := rfl
theorem k_X11_init_12  : look a_X11_init 12 = vPutR T0 27 0 26 0 15 := rfl
theorem k_X11_init_15  : look a_X11_init 15 = vAload 0 16 := rfl
theorem k_X11_init_16  : look a_X11_init 16 = vNew T0 6 2 (fun ls σ => 3) 42 2932 1 19 := rfl
theorem k_X11_init_19  : look a_X11_init 19 = vDup 20 := rfl
theorem k_X11_init_20  : look a_X11_init 20 = vCallI (w_X6_init) 22 0 2 72 42 2932 1 23 := rfl
theorem k_X11_init_23  : look a_X11_init 23 = vPutR T0 27 1 22 1 26 := rfl
theorem k_X11_init_26  : look a_X11_init 26 = vAload 0 27 := rfl
theorem k_X11_init_27  : look a_X11_init 27 = vNew T0 6 2 (fun ls σ => 6) 42 2932 1 30 := rfl
theorem k_X11_init_30  : look a_X11_init 30 = vDup 31 := rfl
theorem k_X11_init_31  : look a_X11_init 31 = vCallI (w_X6_init) 22 0 2 72 42 2932 1 34 := rfl
theorem k_X11_init_34  : look a_X11_init 34 = vPutR T0 27 2 22 2 37 := rfl
theorem k_X11_init_37  : look a_X11_init 37 = vAload 0 38 := rfl
theorem k_X11_init_38  : look a_X11_init 38 = vNew T0 3 12 (fun ls σ => 9) 42 2932 1 41 := rfl
theorem k_X11_init_41  : look a_X11_init 41 = vDup 42 := rfl
theorem k_X11_init_42  : look a_X11_init 42 = vAload 0 43 := rfl
theorem k_X11_init_43  : look a_X11_init 43 = vGetR T0 27 0 26 46 := rfl
theorem k_X11_init_46  : look a_X11_init 46 = vCallI (w_X3_init) 19 1 2 305 42 2932 1 49 := rfl
theorem k_X11_init_49  : look a_X11_init 49 = vPutR T0 27 3 19 3 52 := rfl
theorem k_X11_init_52  : look a_X11_init 52 = vAload 0 53 := rfl
theorem k_X11_init_53  : look a_X11_init 53 = vI 4 54 := rfl
theorem k_X11_init_54  : look a_X11_init 54 = vNewA T0 11 dfq (fun ls σ => 12) 42 2932 1 57 := rfl
theorem k_X11_init_57  : look a_X11_init 57 = vPutR T0 27 4 11 4 60 := rfl
theorem k_X11_init_60  : look a_X11_init 60 = vAload 0 61 := rfl
theorem k_X11_init_61  : look a_X11_init 61 = vI 0 62 := rfl
theorem k_X11_init_62  : look a_X11_init 62 = vPutI 27 5 65 := rfl
theorem k_X11_init_65  : look a_X11_init 65 = vAload 0 66 := rfl
theorem k_X11_init_66  : look a_X11_init 66 = vI (-1) 67 := rfl
theorem k_X11_init_67  : look a_X11_init 67 = vPutI 27 6 70 := rfl
theorem k_X11_init_70  : look a_X11_init 70 = vAload 0 71 := rfl
theorem k_X11_init_71  : look a_X11_init 71 = vNew T0 7 4 (fun ls σ => 13) 42 2932 1 74 := rfl
theorem k_X11_init_74  : look a_X11_init 74 = vDup 75 := rfl
theorem k_X11_init_75  : look a_X11_init 75 = vAload 0 76 := rfl
theorem k_X11_init_76  : look a_X11_init 76 = vGetR T0 27 0 26 79 := rfl
theorem k_X11_init_79  : look a_X11_init 79 = vCallI (w_X7_init) 23 1 2 245 42 2932 1 82 := rfl
theorem k_X11_init_82  : look a_X11_init 82 = vPutR T0 27 7 23 7 85 := rfl
theorem k_X11_init_85  : look a_X11_init 85 = vAload 0 86 := rfl
theorem k_X11_init_86  : look a_X11_init 86 = vI 1 87 := rfl
theorem k_X11_init_87  : look a_X11_init 87 = vPutI 27 8 90 := rfl
theorem k_X11_init_90  : look a_X11_init 90 = vAload 0 91 := rfl
theorem k_X11_init_91  : look a_X11_init 91 = vL 0 92 := rfl
theorem k_X11_init_92  : look a_X11_init 92 = vPutL 27 9 95 := rfl
theorem k_X11_init_95  : look a_X11_init 95 = vAload 0 96 := rfl
theorem k_X11_init_96  : look a_X11_init 96 = vNew T0 0 7 (fun ls σ => 16) 42 2932 1 99 := rfl
theorem k_X11_init_99  : look a_X11_init 99 = vDup 100 := rfl
theorem k_X11_init_100  : look a_X11_init 100 = vCallI (w_X0_init) 16 0 4 24 42 2932 1 103 := rfl
theorem k_X11_init_103  : look a_X11_init 103 = vPutR T0 27 10 16 10 106 := rfl
theorem k_X11_init_106  : look a_X11_init 106 = vAload 0 107 := rfl
theorem k_X11_init_107  : look a_X11_init 107 = vNew T0 0 7 (fun ls σ => 21) 42 2932 1 110 := rfl
theorem k_X11_init_110  : look a_X11_init 110 = vDup 111 := rfl
theorem k_X11_init_111  : look a_X11_init 111 = vCallI (w_X0_init) 16 0 4 24 42 2932 1 114 := rfl
theorem k_X11_init_114  : look a_X11_init 114 = vPutR T0 27 11 16 11 117 := rfl
theorem k_X11_init_117  : look a_X11_init 117 = vAload 0 118 := rfl
theorem k_X11_init_118  : look a_X11_init 118 = vNew T0 9 9 (fun ls σ => 26) 42 2932 1 121 := rfl
theorem k_X11_init_121  : look a_X11_init 121 = vDup 122 := rfl
theorem k_X11_init_122  : look a_X11_init 122 = vAload 0 123 := rfl
theorem k_X11_init_123  : look a_X11_init 123 = vGetR T0 27 2 22 126 := rfl
theorem k_X11_init_126  : look a_X11_init 126 = vAload 0 127 := rfl
theorem k_X11_init_127  : look a_X11_init 127 = vGetR T0 27 10 16 130 := rfl
theorem k_X11_init_130  : look a_X11_init 130 = vCallI (w_X9_init) 25 2 4 342 42 2932 1 133 := rfl
theorem k_X11_init_133  : look a_X11_init 133 = vPutR T0 27 12 25 12 136 := rfl
theorem k_X11_init_136  : look a_X11_init 136 = vAload 0 137 := rfl
theorem k_X11_init_137  : look a_X11_init 137 = vNew T0 5 9 (fun ls σ => 31) 42 2932 1 140 := rfl
theorem k_X11_init_140  : look a_X11_init 140 = vDup 141 := rfl
theorem k_X11_init_141  : look a_X11_init 141 = vCallI (w_X5_init) 21 0 4 1335 42 2932 1 144 := rfl
theorem k_X11_init_144  : look a_X11_init 144 = vPutR T0 27 13 21 13 147 := rfl
theorem k_X11_init_147  : look a_X11_init 147 = vAload 0 148 := rfl
theorem k_X11_init_148  : look a_X11_init 148 = vNew T0 8 4 (fun ls σ => 36) 42 2932 1 151 := rfl
theorem k_X11_init_151  : look a_X11_init 151 = vDup 152 := rfl
theorem k_X11_init_152  : look a_X11_init 152 = vAload 0 153 := rfl
theorem k_X11_init_153  : look a_X11_init 153 = vGetR T0 27 2 22 156 := rfl
theorem k_X11_init_156  : look a_X11_init 156 = vAload 0 157 := rfl
theorem k_X11_init_157  : look a_X11_init 157 = vGetR T0 27 12 25 160 := rfl
theorem k_X11_init_160  : look a_X11_init 160 = vCallI (w_X8_init) 24 2 2 128 42 2932 1 163 := rfl
theorem k_X11_init_163  : look a_X11_init 163 = vPutR T0 27 14 24 14 166 := rfl
theorem k_X11_init_166  : look a_X11_init 166 = vAload 0 167 := rfl
theorem k_X11_init_167  : look a_X11_init 167 = vNew T0 4 3 (fun ls σ => 39) 42 2932 1 170 := rfl
theorem k_X11_init_170  : look a_X11_init 170 = vDup 171 := rfl
theorem k_X11_init_171  : look a_X11_init 171 = vAload 0 172 := rfl
theorem k_X11_init_172  : look a_X11_init 172 = vGetR T0 27 2 22 175 := rfl
theorem k_X11_init_175  : look a_X11_init 175 = vAload 0 176 := rfl
theorem k_X11_init_176  : look a_X11_init 176 = vGetR T0 27 12 25 179 := rfl
theorem k_X11_init_179  : look a_X11_init 179 = vCallI (w_X4_init) 20 2 1 24 42 2932 1 182 := rfl
theorem k_X11_init_182  : look a_X11_init 182 = vPutR T0 27 15 20 15 185 := rfl
theorem k_X11_init_185  : look a_X11_init 185 = vAload 0 186 := rfl
theorem k_X11_init_186  : look a_X11_init 186 = vNew T0 1 5 (fun ls σ => 41) 42 2932 1 189 := rfl
theorem k_X11_init_189  : look a_X11_init 189 = vDup 190 := rfl
theorem k_X11_init_190  : look a_X11_init 190 = vAload 0 191 := rfl
theorem k_X11_init_191  : look a_X11_init 191 = vGetR T0 27 2 22 194 := rfl
theorem k_X11_init_194  : look a_X11_init 194 = vAload 0 195 := rfl
theorem k_X11_init_195  : look a_X11_init 195 = vGetR T0 27 12 25 198 := rfl
theorem k_X11_init_198  : look a_X11_init 198 = vAload 0 199 := rfl
theorem k_X11_init_199  : look a_X11_init 199 = vGetR T0 27 10 16 202 := rfl
theorem k_X11_init_202  : look a_X11_init 202 = vCallI (w_X1_init) 17 3 1 50 42 2932 1 205 := rfl
theorem k_X11_init_205  : look a_X11_init 205 = vPutR T0 27 16 17 16 208 := rfl
theorem k_X11_init_208  : look a_X11_init 208 = vVret := rfl
theorem o_X11_init {X : amX}  (e1 : XT X = T0) (e2 : XD X = 2) (e3 : XC X = 42) (e4 : XS X = 2932) (hin : (XM X).name = "<init>") (hE : Elaw (Xn X) (Xst X)) (hB : amB X RX11 cX11_init (none) 1) : ∀ pc, amOK X pc (look a_X11_init pc) := by
  have hT : amTok (XT X) := e1 ▸ T0_ok
  refine look_ok ?_
  unfold a_X11_init
  refine fc (ok_aload_n hB dX11_init_0) ?_
  refine fc (ok_obj hB (by rw [e2]; decide) wd_32 wd_33 wd_34 dX11_init_1) ?_
  refine fc (ok_aload_n hB dX11_init_4) ?_
  refine fc (ok_new hB e1 e3 e4 (c := 10) (C := RX10) (Tt := TX10) (N := 3) (ty := tyX10) rfl inT_10 tyX10_ok (by decide +kernel) wd_35 wd_36 wd_2 _ dX11_init_5) ?_
  refine fc (ok_dup hB dX11_init_8) ?_
  refine fc (ok_callIN hB e3 e4 Eno_m trivial (fun av9 σ9 Q9 h9 => e1 ▸ s_X10_init av9 σ9 Q9 h9) (host := "ArmchairHouse") (by decide +kernel) wd_2 wd_39 (by decide +kernel) (by decide +kernel) (by decide) (by rw [e2]; decide) rfl (by decide) wd_38 dX11_init_9) ?_
  refine fc (okt_putRF e1 hB hT fp_X11_10 (rt_obj _) rfl hin rfl rfl rfl af_11_0 at_11_0 (by decide) (by decide) dX11_init_12) ?_
  refine fc (ok_aload_n hB dX11_init_15) ?_
  refine fc (ok_new hB e1 e3 e4 (c := 6) (C := RX6) (Tt := TX6) (N := 2) (ty := tyX6) rfl inT_6 tyX6_ok (by decide +kernel) wd_58 wd_59 wd_3 _ dX11_init_16) ?_
  refine fc (ok_dup hB dX11_init_19) ?_
  refine fc (ok_callIN hB e3 e4 Eno_m trivial (fun av9 σ9 Q9 h9 => e1 ▸ s_X6_init av9 σ9 Q9 h9) (host := "ArmchairHouse") (by decide +kernel) wd_3 wd_62 (by decide +kernel) (by decide +kernel) (by decide) (by rw [e2]; decide) rfl (by decide) wd_61 dX11_init_20) ?_
  refine fc (okt_putRF e1 hB hT fp_X11_19 (rt_obj _) rfl hin rfl rfl rfl af_11_1 at_11_1 (by decide) (by decide) dX11_init_23) ?_
  refine fc (ok_aload_n hB dX11_init_26) ?_
  refine fc (ok_new hB e1 e3 e4 (c := 6) (C := RX6) (Tt := TX6) (N := 2) (ty := tyX6) rfl inT_6 tyX6_ok (by decide +kernel) wd_58 wd_59 wd_3 _ dX11_init_27) ?_
  refine fc (ok_dup hB dX11_init_30) ?_
  refine fc (ok_callIN hB e3 e4 Eno_m trivial (fun av9 σ9 Q9 h9 => e1 ▸ s_X6_init av9 σ9 Q9 h9) (host := "ArmchairHouse") (by decide +kernel) wd_3 wd_62 (by decide +kernel) (by decide +kernel) (by decide) (by rw [e2]; decide) rfl (by decide) wd_61 dX11_init_31) ?_
  refine fc (okt_putRF e1 hB hT fp_X11_23 (rt_obj _) rfl hin rfl rfl rfl af_11_2 at_11_2 (by decide) (by decide) dX11_init_34) ?_
  refine fc (ok_aload_n hB dX11_init_37) ?_
  refine fc (ok_new hB e1 e3 e4 (c := 3) (C := RX3) (Tt := TX3) (N := 12) (ty := tyX3) rfl inT_3 tyX3_ok (by decide +kernel) wd_71 wd_72 wd_4 _ dX11_init_38) ?_
  refine fc (ok_dup hB dX11_init_41) ?_
  refine fc (ok_aload_n hB dX11_init_42) ?_
  refine fc (okt_getR e1 hB hT fl_X11_10 rfl af_11_0 at_11_0 (by decide) dX11_init_43) ?_
  refine fc (ok_callI hB e3 e4 Eno_m trivial (fun av9 σ9 Q9 h9 => e1 ▸ s_X3_init av9 σ9 Q9 h9) lk_X11_28 (by rw [e2]; decide) rfl (by decide) wd_74 dX11_init_46) ?_
  refine fc (okt_putRF e1 hB hT fp_X11_31 (rt_obj _) rfl hin rfl rfl rfl af_11_3 at_11_3 (by decide) (by decide) dX11_init_49) ?_
  refine fc (ok_aload_n hB dX11_init_52) ?_
  refine fc (ok_iconst hB dX11_init_53) ?_
  refine fc (ok_newQ hB e1 e3 e4 hE wd_114 _ dX11_init_54) ?_
  refine fc (okt_putRF e1 hB hT fp_X11_37 (rt_arr _) rfl hin rfl rfl rfl af_11_4 at_11_4 (by decide) (by decide) dX11_init_57) ?_
  refine fc (ok_aload_n hB dX11_init_60) ?_
  refine fc (ok_iconst hB dX11_init_61) ?_
  refine fc (ok_putI hB hT fp_X11_41 rfl rfl rfl af_11_5 dX11_init_62) ?_
  refine fc (ok_aload_n hB dX11_init_65) ?_
  refine fc (ok_iconst hB dX11_init_66) ?_
  refine fc (ok_putI hB hT fp_X11_45 rfl rfl rfl af_11_6 dX11_init_67) ?_
  refine fc (ok_aload_n hB dX11_init_70) ?_
  refine fc (ok_new hB e1 e3 e4 (c := 7) (C := RX7) (Tt := TX7) (N := 4) (ty := tyX7) rfl inT_7 tyX7_ok (by decide +kernel) wd_116 wd_117 wd_5 _ dX11_init_71) ?_
  refine fc (ok_dup hB dX11_init_74) ?_
  refine fc (ok_aload_n hB dX11_init_75) ?_
  refine fc (okt_getR e1 hB hT fl_X11_10 rfl af_11_0 at_11_0 (by decide) dX11_init_76) ?_
  refine fc (ok_callI hB e3 e4 Eno_m trivial (fun av9 σ9 Q9 h9 => e1 ▸ s_X7_init av9 σ9 Q9 h9) lk_X11_50 (by rw [e2]; decide) rfl (by decide) wd_119 dX11_init_79) ?_
  refine fc (okt_putRF e1 hB hT fp_X11_51 (rt_obj _) rfl hin rfl rfl rfl af_11_7 at_11_7 (by decide) (by decide) dX11_init_82) ?_
  refine fc (ok_aload_n hB dX11_init_85) ?_
  refine fc (ok_iconst hB dX11_init_86) ?_
  refine fc (ok_putI hB hT fp_X11_55 rfl rfl rfl af_11_8 dX11_init_87) ?_
  refine fc (ok_aload_n hB dX11_init_90) ?_
  refine fc (ok_lconst hB (z := 0) (by decide) dX11_init_91) ?_
  refine fc (ok_putL hB hT fp_X11_58 rfl rfl rfl af_11_9 dX11_init_92) ?_
  refine fc (ok_aload_n hB dX11_init_95) ?_
  refine fc (ok_new hB e1 e3 e4 (c := 0) (C := RX0) (Tt := TX0) (N := 7) (ty := tyX0) rfl inT_0 tyX0_ok (by decide +kernel) wd_136 wd_137 wd_6 _ dX11_init_96) ?_
  refine fc (ok_dup hB dX11_init_99) ?_
  refine fc (ok_callIN hB e3 e4 Eno_m trivial (fun av9 σ9 Q9 h9 => e1 ▸ s_X0_init av9 σ9 Q9 h9) (host := "ArmchairHouse") (by decide +kernel) wd_6 wd_140 (by decide +kernel) (by decide +kernel) (by decide) (by rw [e2]; decide) rfl (by decide) wd_139 dX11_init_100) ?_
  refine fc (okt_putRF e1 hB hT fp_X11_65 (rt_obj _) rfl hin rfl rfl rfl af_11_10 at_11_10 (by decide) (by decide) dX11_init_103) ?_
  refine fc (ok_aload_n hB dX11_init_106) ?_
  refine fc (ok_new hB e1 e3 e4 (c := 0) (C := RX0) (Tt := TX0) (N := 7) (ty := tyX0) rfl inT_0 tyX0_ok (by decide +kernel) wd_136 wd_137 wd_6 _ dX11_init_107) ?_
  refine fc (ok_dup hB dX11_init_110) ?_
  refine fc (ok_callIN hB e3 e4 Eno_m trivial (fun av9 σ9 Q9 h9 => e1 ▸ s_X0_init av9 σ9 Q9 h9) (host := "ArmchairHouse") (by decide +kernel) wd_6 wd_140 (by decide +kernel) (by decide +kernel) (by decide) (by rw [e2]; decide) rfl (by decide) wd_139 dX11_init_111) ?_
  refine fc (okt_putRF e1 hB hT fp_X11_69 (rt_obj _) rfl hin rfl rfl rfl af_11_11 at_11_11 (by decide) (by decide) dX11_init_114) ?_
  refine fc (ok_aload_n hB dX11_init_117) ?_
  refine fc (ok_new hB e1 e3 e4 (c := 9) (C := RX9) (Tt := TX9) (N := 9) (ty := tyX9) rfl inT_9 tyX9_ok (by decide +kernel) wd_178 wd_179 wd_7 _ dX11_init_118) ?_
  refine fc (ok_dup hB dX11_init_121) ?_
  refine fc (ok_aload_n hB dX11_init_122) ?_
  refine fc (okt_getR e1 hB hT fl_X11_23 rfl af_11_2 at_11_2 (by decide) dX11_init_123) ?_
  refine fc (ok_aload_n hB dX11_init_126) ?_
  refine fc (okt_getR e1 hB hT fl_X11_65 rfl af_11_10 at_11_10 (by decide) dX11_init_127) ?_
  refine fc (ok_callI hB e3 e4 Eno_m trivial (fun av9 σ9 Q9 h9 => e1 ▸ s_X9_init av9 σ9 Q9 h9) lk_X11_74 (by rw [e2]; decide) rfl (by decide) wd_181 dX11_init_130) ?_
  refine fc (okt_putRF e1 hB hT fp_X11_77 (rt_obj _) rfl hin rfl rfl rfl af_11_12 at_11_12 (by decide) (by decide) dX11_init_133) ?_
  refine fc (ok_aload_n hB dX11_init_136) ?_
  refine fc (ok_new hB e1 e3 e4 (c := 5) (C := RX5) (Tt := TX5) (N := 9) (ty := tyX5) rfl inT_5 tyX5_ok (by decide +kernel) wd_219 wd_220 wd_8 _ dX11_init_137) ?_
  refine fc (ok_dup hB dX11_init_140) ?_
  refine fc (ok_callIN hB e3 e4 Eno_m trivial (fun av9 σ9 Q9 h9 => e1 ▸ s_X5_init av9 σ9 Q9 h9) (host := "ArmchairHouse") (by decide +kernel) wd_8 wd_223 (by decide +kernel) (by decide +kernel) (by decide) (by rw [e2]; decide) rfl (by decide) wd_222 dX11_init_141) ?_
  refine fc (okt_putRF e1 hB hT fp_X11_84 (rt_obj _) rfl hin rfl rfl rfl af_11_13 at_11_13 (by decide) (by decide) dX11_init_144) ?_
  refine fc (ok_aload_n hB dX11_init_147) ?_
  refine fc (ok_new hB e1 e3 e4 (c := 8) (C := RX8) (Tt := TX8) (N := 4) (ty := tyX8) rfl inT_8 tyX8_ok (by decide +kernel) wd_254 wd_255 wd_9 _ dX11_init_148) ?_
  refine fc (ok_dup hB dX11_init_151) ?_
  refine fc (ok_aload_n hB dX11_init_152) ?_
  refine fc (okt_getR e1 hB hT fl_X11_23 rfl af_11_2 at_11_2 (by decide) dX11_init_153) ?_
  refine fc (ok_aload_n hB dX11_init_156) ?_
  refine fc (okt_getR e1 hB hT fl_X11_77 rfl af_11_12 at_11_12 (by decide) dX11_init_157) ?_
  refine fc (ok_callI hB e3 e4 Eno_m trivial (fun av9 σ9 Q9 h9 => e1 ▸ s_X8_init av9 σ9 Q9 h9) lk_X11_90 (by rw [e2]; decide) rfl (by decide) wd_257 dX11_init_160) ?_
  refine fc (okt_putRF e1 hB hT fp_X11_93 (rt_obj _) rfl hin rfl rfl rfl af_11_14 at_11_14 (by decide) (by decide) dX11_init_163) ?_
  refine fc (ok_aload_n hB dX11_init_166) ?_
  refine fc (ok_new hB e1 e3 e4 (c := 4) (C := RX4) (Tt := TX4) (N := 3) (ty := tyX4) rfl inT_4 tyX4_ok (by decide +kernel) wd_274 wd_275 wd_10 _ dX11_init_167) ?_
  refine fc (ok_dup hB dX11_init_170) ?_
  refine fc (ok_aload_n hB dX11_init_171) ?_
  refine fc (okt_getR e1 hB hT fl_X11_23 rfl af_11_2 at_11_2 (by decide) dX11_init_172) ?_
  refine fc (ok_aload_n hB dX11_init_175) ?_
  refine fc (okt_getR e1 hB hT fl_X11_77 rfl af_11_12 at_11_12 (by decide) dX11_init_176) ?_
  refine fc (ok_callI hB e3 e4 Eno_m trivial (fun av9 σ9 Q9 h9 => e1 ▸ s_X4_init av9 σ9 Q9 h9) lk_X11_99 (by rw [e2]; decide) rfl (by decide) wd_277 dX11_init_179) ?_
  refine fc (okt_putRF e1 hB hT fp_X11_100 (rt_obj _) rfl hin rfl rfl rfl af_11_15 at_11_15 (by decide) (by decide) dX11_init_182) ?_
  refine fc (ok_aload_n hB dX11_init_185) ?_
  refine fc (ok_new hB e1 e3 e4 (c := 1) (C := RX1) (Tt := TX1) (N := 5) (ty := tyX1) rfl inT_1 tyX1_ok (by decide +kernel) wd_290 wd_291 wd_11 _ dX11_init_186) ?_
  refine fc (ok_dup hB dX11_init_189) ?_
  refine fc (ok_aload_n hB dX11_init_190) ?_
  refine fc (okt_getR e1 hB hT fl_X11_23 rfl af_11_2 at_11_2 (by decide) dX11_init_191) ?_
  refine fc (ok_aload_n hB dX11_init_194) ?_
  refine fc (okt_getR e1 hB hT fl_X11_77 rfl af_11_12 at_11_12 (by decide) dX11_init_195) ?_
  refine fc (ok_aload_n hB dX11_init_198) ?_
  refine fc (okt_getR e1 hB hT fl_X11_65 rfl af_11_10 at_11_10 (by decide) dX11_init_199) ?_
  refine fc (ok_callI hB e3 e4 Eno_m trivial (fun av9 σ9 Q9 h9 => e1 ▸ s_X1_init av9 σ9 Q9 h9) lk_X11_106 (by rw [e2]; decide) rfl (by decide) wd_293 dX11_init_202) ?_
  refine fc (okt_putRF e1 hB hT fp_X11_109 (rt_obj _) rfl hin rfl rfl rfl af_11_16 at_11_16 (by decide) (by decide) dX11_init_205) ?_
  refine fc (ok_vret hB dX11_init_208) ?_
  exact fn


def w_X11_init : WP := fun av σ Q => av = [(27, 0)] ∧ ((∀ j, 0 < j → j < 43 → nl σ j) ∧ Q (6, 0) (ini11 σ))
theorem w_X11_init_e  (σ : Mem) (Q : AV → Mem → Prop) : w_X11_init [(27, 0)] σ Q = ((∀ j, 0 < j → j < 43 → nl σ j) ∧ Q (6, 0) (ini11 σ)) := by
  apply propext; constructor
  · rintro ⟨h9, hb9⟩; cases h9; exact hb9
  · intro hb9; exact ⟨rfl, hb9⟩

set_option maxRecDepth 100000 in
set_option maxHeartbeats 4000000 in
theorem s_X11_init  : ∀ av σ Q, w_X11_init  av σ Q → amCallE Elaw 2 42 2932 T0 yX11_init cX11_init 1 (none) av σ Q := by
  rintro av σ Q ⟨rfl, hn, h⟩
  unfold ini11 at h
  have n1 := hn 1 (by decide) (by decide)
  have n2 := hn 2 (by decide) (by decide)
  have n3 := hn 3 (by decide) (by decide)
  have n4 := hn 4 (by decide) (by decide)
  have n5 := hn 5 (by decide) (by decide)
  have n6 := hn 6 (by decide) (by decide)
  have n7 := hn 7 (by decide) (by decide)
  have n8 := hn 8 (by decide) (by decide)
  have n9 := hn 9 (by decide) (by decide)
  have n10 := hn 10 (by decide) (by decide)
  have n11 := hn 11 (by decide) (by decide)
  have n12 := hn 12 (by decide) (by decide)
  have n13 := hn 13 (by decide) (by decide)
  have n14 := hn 14 (by decide) (by decide)
  have n15 := hn 15 (by decide) (by decide)
  have n16 := hn 16 (by decide) (by decide)
  have n17 := hn 17 (by decide) (by decide)
  have n18 := hn 18 (by decide) (by decide)
  have n19 := hn 19 (by decide) (by decide)
  have n20 := hn 20 (by decide) (by decide)
  have n21 := hn 21 (by decide) (by decide)
  have n22 := hn 22 (by decide) (by decide)
  have n23 := hn 23 (by decide) (by decide)
  have n24 := hn 24 (by decide) (by decide)
  have n25 := hn 25 (by decide) (by decide)
  have n26 := hn 26 (by decide) (by decide)
  have n27 := hn 27 (by decide) (by decide)
  have n28 := hn 28 (by decide) (by decide)
  have n29 := hn 29 (by decide) (by decide)
  have n30 := hn 30 (by decide) (by decide)
  have n31 := hn 31 (by decide) (by decide)
  have n32 := hn 32 (by decide) (by decide)
  have n33 := hn 33 (by decide) (by decide)
  have n34 := hn 34 (by decide) (by decide)
  have n35 := hn 35 (by decide) (by decide)
  have n36 := hn 36 (by decide) (by decide)
  have n37 := hn 37 (by decide) (by decide)
  have n38 := hn 38 (by decide) (by decide)
  have n39 := hn 39 (by decide) (by decide)
  have n40 := hn 40 (by decide) (by decide)
  have n41 := hn 41 (by decide) (by decide)
  have n42 := hn 42 (by decide) (by decide)
  refine am_methodE (own := RX11) (A := look a_X11_init) (fun X e1 e2 e3 e4 h5 hE hB => o_X11_init  e1 e2 e3 e4 h5 hE hB) rfl (by decide +kernel) rfl rfl 323 (w := 3) ?_
  change vcs _ _ _ _ 323 0 [(27, 0), (6, 0), (6, 0)] [] σ
  simp only [vNew_e, vNewA_e, vCallI_e0, vCallI_e1, vCallI_e2, vCallI_e3, vCallMA_e0, vCallMA_e1, vCallSA_e2, vObj_e, cnt_e, List.length_cons, List.length_nil, Nat.zero_add, Nat.reduceAdd, Nat.reduceLT, Int.reduceAdd, Nat.reduceLeDiff, ↓reduceIte, vSw2_e, swP_n, swP_c, vI_e, vL_e, vNull_e, vIload_e, vLload_e, vAload_e, vIstore_e, vLstore_e, vAstore_e, vIinc_e, vIadd_e, vIsub_e, vImul_e, vIand_e, vIor_e, vIxor_e, vIshl_e, vIshr_e, vIushr_e, vIdiv_e, vIrem_e, vLadd_e, vLsub_e, vLmul_e, vLand_e, vLor_e, vLxor_e, vLdiv_e, vLrem_e, vLushr_e, vLshl_e, vLcmp_e, vIneg_e, vI2l_e, vL2i_e, vI2b_e, vI2c_e, vDup_e, vPop_e, vDup2_e, vGoto_e, vIcEq_e, vIfEq_e, vIcNe_e, vIfNe_e, vIcLt_e, vIfLt_e, vIcGe_e, vIfGe_e, vIcGt_e, vIfGt_e, vIcLe_e, vIfLe_e, vNonnull_e, vSw_e, vGetI_e, vGetL_e, vGetR_e, vPutI_e, vPutZ_e, vPutL_e, vPutR_e, vIald_e, vIald_s, vLald_e, vBald_e, vBald_s, vAald_e, vIast_e, vLast_e, vBast_e, vAast_e, vAlen_e8, vAlen_e9, vAlen_e10, vAlen_e11, vAlen_e5, vAlen_e3, vGets_e, vCompact_e, vLdcS_e, vIret_e, vZret_e, vCret_e, vBret_e, vLret_e, vVret_e, vAret_e, vCallM_e0, vCallMV_e0, vCallS_e0, vCallSV_e0, vCallM_e1, vCallMV_e1, vCallS_e1, vCallSV_e1, vCallM_e2, vCallMV_e2, vCallS_e2, vCallSV_e2, vCallM_e3, vCallMV_e3, vCallS_e3, vCallSV_e3, vCallM_e4, vCallMV_e4, vCallS_e4, vCallSV_e4, vCallM_e5, vCallMV_e5, vCallS_e5, vCallSV_e5, vCallM_e6, vCallMV_e6, vCallS_e6, vCallSV_e6, vCallM_e7, vCallMV_e7, vCallS_e7, vCallSV_e7, vBad_e, vStrVal_e, vStrCod_e, vForm_e, vCallT_e0, vCallT_e1, vCallT_e2, vCopy_e, rf_0_0, rf_0_1, rf_0_2, rf_0_3, rf_0_4, rf_0_7, rf_0_10, rf_0_11, rf_0_12, rf_0_13, rf_0_14, rf_0_15, rf_0_16, rf_1_0, rf_3_0, rf_3_1, rf_6_0, rf_6_1, rf_9_0, rf_9_1, rf_9_3, rf_13_0, rf_13_1, rf_13_2, rf_16_0, rf_16_1, rf_16_2, rf_16_3, rf_21_0, rf_21_1, rf_21_2, rf_21_3, rf_26_0, rf_26_1, rf_26_2, rf_26_3, rf_26_4, rf_26_5, rf_26_6, rf_31_0, rf_31_2, rf_31_5, rf_31_6, rf_36_0, rf_36_1, rf_36_2, rf_36_3, rf_39_0, rf_39_1, rf_39_2, rf_41_0, rf_41_1, rf_41_2, rf_41_3, rf_5000_1, rf_5000_2, rf_5000_3, rf_5000_4, rf_5000_5, rf_5000_15, rf_5000_16, rf_5000_18, rf_5000_19, rf_5000_20, rf_5000_21, rf_5000_22, rf_5000_23, rf_5000_24, rf_5000_25, rf_5000_26, rf_5000_27, rf_5000_36, rf_5000_37, rf_5000_40, rf_5000_41, rf_5000_42, rf_5000_43, rf_5000_44, rf_5000_45, rf_5000_47, rf_5000_52, rf_5000_54, rf_5000_55, rf_100_0, rf_100_1, rf_103_0, rf_103_1, rf_106_0, rf_106_1, rf_109_0, rf_109_1, al_2, al_4, al_5, al_7, al_8, al_10, al_11, al_12, al_14, al_15, al_17, al_18, al_19, al_20, al_22, al_23, al_24, al_25, al_27, al_28, al_29, al_30, al_32, al_33, al_34, al_35, al_37, al_38, al_40, al_42, al_5001, al_5002, al_5003, al_5004, al_5005, al_5006, al_5007, al_5008, al_5009, al_5010, al_5011, al_5012, al_5013, al_5014, al_5015, al_5016, al_5017, al_5018, al_5019, al_5020, al_5021, al_5022, al_5023, al_5024, al_5025, al_5026, al_9000, al_101, al_102, al_104, al_105, al_107, al_108, al_110, al_111, vcs_e, lg_c0, lg_cs, lg_nil, set_c0, set_cs, okst_0, okst_s, acok_n, acok_c, List.contains_nil, List.contains_cons, Bool.or_false, Bool.false_or, Bool.false_eq_true, if_false, if_true, ite_self, ne_eq, true_and, and_true, not_false_eq_true, not_true_eq_false, false_imp_iff, true_imp_iff, Nat.ble_eq, Bool.and_eq_true, reduceCtorEq, or_false, false_or, or_true, true_or, false_and, and_false, and_self, Int.reduceLE, Int.reduceAdd, Int.reduceSub, Int.reduceMul, Int.reduceNeg, Int.reduceLT, Int.reduceEq, Int.reduceNe, Nat.reduceBEq, Nat.reduceBNe, Nat.reduceEqDiff, amCmp_in, amCmp_lt, amCmp_le, amCmp_gt, amCmp_ge, amCmp_eq, amCmp_ne, Nat.reduceLeDiff, Nat.reduceSub, Bool.and_true, Bool.true_and, Bool.and_self, Bool.or_true, Bool.true_or, isRf_3, isRf_4, isRf_5, isRf_8, isRf_9, isRf_10, isRf_11, isRf_15, isRf_16, isRf_17, isRf_18, isRf_19, isRf_20, isRf_21, isRf_22, isRf_23, isRf_24, isRf_25, isRf_26, isRf_27, isRf_28, k_X11_init_0, k_X11_init_1, k_X11_init_4, k_X11_init_5, k_X11_init_8, k_X11_init_9, k_X11_init_12, k_X11_init_15, k_X11_init_16, k_X11_init_19, k_X11_init_20, k_X11_init_23, k_X11_init_26, k_X11_init_27, k_X11_init_30, k_X11_init_31, k_X11_init_34, k_X11_init_37, k_X11_init_38, k_X11_init_41, k_X11_init_42, k_X11_init_43, k_X11_init_46, k_X11_init_49, k_X11_init_52, k_X11_init_53, k_X11_init_54, k_X11_init_57, k_X11_init_60, k_X11_init_61, k_X11_init_62, k_X11_init_65, k_X11_init_66, k_X11_init_67, k_X11_init_70, k_X11_init_71, k_X11_init_74, k_X11_init_75, k_X11_init_76, k_X11_init_79, k_X11_init_82, k_X11_init_85, k_X11_init_86, k_X11_init_87, k_X11_init_90, k_X11_init_91, k_X11_init_92, k_X11_init_95, k_X11_init_96, k_X11_init_99, k_X11_init_100, k_X11_init_103, k_X11_init_106, k_X11_init_107, k_X11_init_110, k_X11_init_111, k_X11_init_114, k_X11_init_117, k_X11_init_118, k_X11_init_121, k_X11_init_122, k_X11_init_123, k_X11_init_126, k_X11_init_127, k_X11_init_130, k_X11_init_133, k_X11_init_136, k_X11_init_137, k_X11_init_140, k_X11_init_141, k_X11_init_144, k_X11_init_147, k_X11_init_148, k_X11_init_151, k_X11_init_152, k_X11_init_153, k_X11_init_156, k_X11_init_157, k_X11_init_160, k_X11_init_163, k_X11_init_166, k_X11_init_167, k_X11_init_170, k_X11_init_171, k_X11_init_172, k_X11_init_175, k_X11_init_176, k_X11_init_179, k_X11_init_182, k_X11_init_185, k_X11_init_186, k_X11_init_189, k_X11_init_190, k_X11_init_191, k_X11_init_194, k_X11_init_195, k_X11_init_198, k_X11_init_199, k_X11_init_202, k_X11_init_205, k_X11_init_208, w_X0_init_e, w_X10_init_e, w_X1_init_e, w_X3_init_e, w_X4_init_e, w_X5_init_e, w_X6_init_e, w_X7_init_e, w_X8_init_e, w_X9_init_e, up_s, up_nj, up_na, up_up, savR_o, cpy_o, fillm_o, setAud_o, setv_o, setv_s, Int.reduceNe, Int.reduceEq, Int.reduceLT, Int.reduceAdd, not_false_eq_true, ne_eq, or_true, true_or, nl_newm, nl_up, rf0_0_0, rf0_0_1, rf0_0_2, rf0_0_3, rf0_0_4, rf0_0_7, rf0_0_10, rf0_0_11, rf0_0_12, rf0_0_13, rf0_0_14, rf0_0_15, rf0_0_16, rf0_1_0, rf0_3_0, rf0_3_1, rf0_6_0, rf0_6_1, rf0_9_0, rf0_9_1, rf0_9_3, rf0_13_0, rf0_13_1, rf0_13_2, rf0_16_0, rf0_16_1, rf0_16_2, rf0_16_3, rf0_21_0, rf0_21_1, rf0_21_2, rf0_21_3, rf0_26_0, rf0_26_1, rf0_26_2, rf0_26_3, rf0_26_4, rf0_26_5, rf0_26_6, rf0_31_0, rf0_31_2, rf0_31_5, rf0_31_6, rf0_36_0, rf0_36_1, rf0_36_2, rf0_36_3, rf0_39_0, rf0_39_1, rf0_39_2, rf0_41_0, rf0_41_1, rf0_41_2, rf0_41_3, no_0, no_1, no_3, no_6, no_9, no_13, no_16, no_21, no_26, no_31, no_36, no_39, no_41, na_2, na_4, na_5, na_7, na_8, na_10, na_11, na_12, na_14, na_15, na_17, na_18, na_19, na_20, na_22, na_23, na_24, na_25, na_27, na_28, na_29, na_30, na_32, na_33, na_34, na_35, na_37, na_38, na_40, na_42, newm_k, newm_s, ini10_k, ini10_n, ini6_k, ini6_n, ini3_k, ini3_n, ini7_k, ini7_n, ini0_k, ini0_n, ini9_k, ini9_n, ini5_k, ini5_n, ini8_k, ini8_n, ini4_k, ini4_n, ini1_k, ini1_n]
  repeat' (first | assumption | apply And.intro | intro _)
  all_goals first | omega | exact rfl | exact Or.inl rfl | exact Or.inr rfl | decide
