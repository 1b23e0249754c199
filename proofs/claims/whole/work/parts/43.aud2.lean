/-! Audience: whole rows -/
/-- an audience as it enters -/
def entF (σ : Mem) (k : Int) : Int := if k < 6 then pval σ 6 2 k 0 else if k < 12 then pval σ 6 2 (k - 6) 1 else if k < 18 then pval σ 6 2 (k - 12) 2 else if k = 25 then pval σ 6 0 0 1 else 0
def entK (σ : Mem) (m : Int) : Mem := fun b j => if b = 17 ∧ 0 ≤ j ∧ j < m then pval σ 6 2 j 0 else if b = 18 ∧ 0 ≤ j ∧ j < m then pval σ 6 2 j 1 else if b = 19 ∧ 0 ≤ j ∧ j < m then pval σ 6 2 j 2 else if b = 20 ∧ 0 ≤ j ∧ j < m then 0 else σ b j
theorem pval_cong {σ σ' : Mem} {p : Int} (h : σ' (p + 1) = σ (p + 1)) (a b c : Int) : pval σ' p a b c = pval σ p a b c := by unfold pval; rw [h]
theorem pcnt_cong {σ σ' : Mem} {p : Int} (h : σ' (p + 2) = σ (p + 2)) (a : Int) : pcnt σ' p a = pcnt σ p a := by unfold pcnt; rw [h]
theorem entK_o (σ : Mem) (m : Int) {b : Int} (h : b < 17 ∨ 20 < b) : entK σ m b = σ b := by
  funext j; unfold entK
  rw [if_neg (by omega), if_neg (by omega), if_neg (by omega), if_neg (by omega)]

theorem cpy_s (σ : Mem) (a sp b dp n j : Int) : cpy σ a sp b dp n b j = if dp ≤ j ∧ j < dp + n then σ a (sp + (j - dp)) else σ b j := by
  unfold cpy
  by_cases h : dp ≤ j ∧ j < dp + n
  · rw [if_pos ⟨rfl, h⟩, if_pos h]
  · rw [if_neg (fun g => h g.2), if_neg h]
theorem eq_setAud {M σ : Mem} {a : Int} {f : Int → Int} (h0 : ∀ b, (b < a ∨ a + 4 < b) → M b = σ b) (h1 : ∀ j, M (a + 1) j = if 0 ≤ j ∧ j < 6 then f j else σ (a + 1) j) (h2 : ∀ j, M (a + 2) j = if 0 ≤ j ∧ j < 6 then f (j + 6) else σ (a + 2) j) (h3 : ∀ j, M (a + 3) j = if 0 ≤ j ∧ j < 6 then f (j + 12) else σ (a + 3) j) (h4 : ∀ j, M (a + 4) j = if 0 ≤ j ∧ j < 6 then f (j + 18) else σ (a + 4) j) (h5 : ∀ j, M a j = if 4 ≤ j ∧ j < 7 then f (j + 20) else σ a j) : M = setAud σ a f := by
  funext b j
  by_cases c : b < a ∨ a + 4 < b
  · rw [h0 b c, setAud_o σ f c]
  · unfold setAud
    have : b = a ∨ b = a + 1 ∨ b = a + 2 ∨ b = a + 3 ∨ b = a + 4 := by omega
    rcases this with e | e | e | e | e
    · rw [e, h5, if_neg (c := a = a + 1 ∧ 0 ≤ j ∧ j < 6) (by omega), if_neg (c := a = a + 2 ∧ 0 ≤ j ∧ j < 6) (by omega), if_neg (c := a = a + 3 ∧ 0 ≤ j ∧ j < 6) (by omega), if_neg (c := a = a + 4 ∧ 0 ≤ j ∧ j < 6) (by omega)]
      by_cases g : 4 ≤ j ∧ j < 7
      · rw [if_pos g, if_pos ⟨rfl, g⟩]
      · rw [if_neg g, if_neg (fun q => g q.2)]
    · rw [e, h1]
      by_cases g : 0 ≤ j ∧ j < 6
      · rw [if_pos g, if_pos ⟨rfl, g⟩]
      · rw [if_neg g, if_neg (fun q => g q.2), if_neg (by omega), if_neg (by omega), if_neg (by omega), if_neg (by omega)]
    · rw [e, h2, if_neg (c := a + 2 = a + 1 ∧ 0 ≤ j ∧ j < 6) (by omega)]
      by_cases g : 0 ≤ j ∧ j < 6
      · rw [if_pos g, if_pos ⟨rfl, g⟩]
      · rw [if_neg g, if_neg (fun q => g q.2), if_neg (by omega), if_neg (by omega), if_neg (by omega)]
    · rw [e, h3, if_neg (c := a + 3 = a + 1 ∧ 0 ≤ j ∧ j < 6) (by omega), if_neg (c := a + 3 = a + 2 ∧ 0 ≤ j ∧ j < 6) (by omega)]
      by_cases g : 0 ≤ j ∧ j < 6
      · rw [if_pos g, if_pos ⟨rfl, g⟩]
      · rw [if_neg g, if_neg (fun q => g q.2), if_neg (by omega), if_neg (by omega)]
    · rw [e, h4, if_neg (c := a + 4 = a + 1 ∧ 0 ≤ j ∧ j < 6) (by omega), if_neg (c := a + 4 = a + 2 ∧ 0 ≤ j ∧ j < 6) (by omega), if_neg (c := a + 4 = a + 3 ∧ 0 ≤ j ∧ j < 6) (by omega)]
      by_cases g : 0 ≤ j ∧ j < 6
      · rw [if_pos g, if_pos ⟨rfl, g⟩]
      · rw [if_neg g, if_neg (fun q => g q.2), if_neg (by omega)]
theorem aud_1 (σ : Mem) (a j : Int) (h : j < 6) : aud σ a j = σ (a + 1) j := by unfold aud; rw [if_pos h]
theorem aud_2 (σ : Mem) (a j : Int) (h0 : 0 ≤ j) (h : j < 6) : aud σ a (j + 6) = σ (a + 2) j := by
  unfold aud; rw [if_neg (by omega), if_pos (by omega)]; congr 1; omega
theorem aud_3 (σ : Mem) (a j : Int) (h0 : 0 ≤ j) (h : j < 6) : aud σ a (j + 12) = σ (a + 3) j := by
  unfold aud; rw [if_neg (by omega), if_neg (by omega), if_pos (by omega)]; congr 1; omega
theorem aud_4 (σ : Mem) (a j : Int) (h0 : 0 ≤ j) (h : j < 6) : aud σ a (j + 18) = σ (a + 4) j := by
  unfold aud; rw [if_neg (by omega), if_neg (by omega), if_neg (by omega), if_pos (by omega)]; congr 1; omega
theorem aud_5 (σ : Mem) (a j : Int) (h0 : 4 ≤ j) : aud σ a (j + 20) = σ a j := by
  unfold aud; rw [if_neg (by omega), if_neg (by omega), if_neg (by omega), if_neg (by omega)]; congr 1; omega
theorem up3_at (τ : Mem) (a u v w j : Int) : up (up (up τ a 4 u) a 5 v) a 6 w a j = if j = 4 then u else if j = 5 then v else if j = 6 then w else τ a j := by
  simp only [up_at, true_and]
  by_cases h1 : j = 4
  · subst h1; rfl
  · by_cases h2 : j = 5
    · subst h2; rfl
    · by_cases h3 : j = 6
      · subst h3; rfl
      · rw [if_neg h3, if_neg h2, if_neg h1, if_neg h1, if_neg h2, if_neg h3]

theorem wd_668 : Cond.methodLink RX0 36 yX6_value ∈ TBL := tb_tab (List.mem_of_getElem? (i := 668) (by decide +kernel)) rfl
theorem lk_X0_36 : amLk RX0 36 yX6_value cX6_value 5 (some .int) 3 := ⟨wd_668, wd_3, wd_567, by decide +kernel, by decide +kernel, by decide⟩
theorem fp_X0_28 : amFp RX0 0 5 28 RX0 TX0 7 tyX0 .int := ⟨fl_X0_28, tyX0_ok, nmX0, by decide +kernel⟩
theorem wd_160 : Cond.fieldLink RX0 31 "ArmchairHouse$Audience" "eveningNow" "I" ∈ TBL := tb_tab (List.mem_of_getElem? (i := 160) (by decide +kernel)) rfl
theorem fl_X0_31 : amFl RX0 0 6 31 RX0 TX0 7 := ⟨rfl, inT_0, by decide, wd_160⟩
theorem fp_X0_31 : amFp RX0 0 6 31 RX0 TX0 7 tyX0 .int := ⟨fl_X0_31, tyX0_ok, nmX0, by decide +kernel⟩
def a_X0_enter : AC := [(0, vI 0 1), (1, vIstore 2 2), (2, vIload 2 3), (3, vI 6 5), (5, vIcGe 60 8), (8, vAload 0 9), (9, vGetR TT 16 0 8 12), (12, vIload 2 13), (13, vAload 1 14), (14, vI 2 15), (15, vIload 2 16), (16, vI 0 17), (17, vCallM w_X6_value 22 3 20), (20, vIast TT 21), (21, vAload 0 22), (22, vGetR TT 16 1 8 25), (25, vIload 2 26), (26, vAload 1 27), (27, vI 2 28), (28, vIload 2 29), (29, vI 1 30), (30, vCallM w_X6_value 22 3 33), (33, vIast TT 34), (34, vAload 0 35), (35, vGetR TT 16 2 8 38), (38, vIload 2 39), (39, vAload 1 40), (40, vI 2 41), (41, vIload 2 42), (42, vI 2 43), (43, vCallM w_X6_value 22 3 46), (46, vIast TT 47), (47, vAload 0 48), (48, vGetR TT 16 3 8 51), (51, vIload 2 52), (52, vI 0 53), (53, vIast TT 54), (54, vIinc 2 1 57), (57, vGoto 2), (60, vAload 0 61), (61, vI 0 62), (62, vPutI 16 4 65), (65, vAload 0 66), (66, vAload 1 67), (67, vI 0 68), (68, vI 0 69), (69, vI 1 70), (70, vCallM w_X6_value 22 3 73), (73, vPutI 16 5 76), (76, vAload 0 77), (77, vI 0 78), (78, vPutI 16 6 81), (81, vVret)]
theorem k_X0_enter_0 : look a_X0_enter 0 = vI 0 1 := rfl
theorem k_X0_enter_1 : look a_X0_enter 1 = vIstore 2 2 := rfl
theorem k_X0_enter_2 : look a_X0_enter 2 = vIload 2 3 := rfl
theorem k_X0_enter_3 : look a_X0_enter 3 = vI 6 5 := rfl
theorem k_X0_enter_5 : look a_X0_enter 5 = vIcGe 60 8 := rfl
theorem k_X0_enter_8 : look a_X0_enter 8 = vAload 0 9 := rfl
theorem k_X0_enter_9 : look a_X0_enter 9 = vGetR TT 16 0 8 12 := rfl
theorem k_X0_enter_12 : look a_X0_enter 12 = vIload 2 13 := rfl
theorem k_X0_enter_13 : look a_X0_enter 13 = vAload 1 14 := rfl
theorem k_X0_enter_14 : look a_X0_enter 14 = vI 2 15 := rfl
theorem k_X0_enter_15 : look a_X0_enter 15 = vIload 2 16 := rfl
theorem k_X0_enter_16 : look a_X0_enter 16 = vI 0 17 := rfl
theorem k_X0_enter_17 : look a_X0_enter 17 = vCallM w_X6_value 22 3 20 := rfl
theorem k_X0_enter_20 : look a_X0_enter 20 = vIast TT 21 := rfl
theorem k_X0_enter_21 : look a_X0_enter 21 = vAload 0 22 := rfl
theorem k_X0_enter_22 : look a_X0_enter 22 = vGetR TT 16 1 8 25 := rfl
theorem k_X0_enter_25 : look a_X0_enter 25 = vIload 2 26 := rfl
theorem k_X0_enter_26 : look a_X0_enter 26 = vAload 1 27 := rfl
theorem k_X0_enter_27 : look a_X0_enter 27 = vI 2 28 := rfl
theorem k_X0_enter_28 : look a_X0_enter 28 = vIload 2 29 := rfl
theorem k_X0_enter_29 : look a_X0_enter 29 = vI 1 30 := rfl
theorem k_X0_enter_30 : look a_X0_enter 30 = vCallM w_X6_value 22 3 33 := rfl
theorem k_X0_enter_33 : look a_X0_enter 33 = vIast TT 34 := rfl
theorem k_X0_enter_34 : look a_X0_enter 34 = vAload 0 35 := rfl
theorem k_X0_enter_35 : look a_X0_enter 35 = vGetR TT 16 2 8 38 := rfl
theorem k_X0_enter_38 : look a_X0_enter 38 = vIload 2 39 := rfl
theorem k_X0_enter_39 : look a_X0_enter 39 = vAload 1 40 := rfl
theorem k_X0_enter_40 : look a_X0_enter 40 = vI 2 41 := rfl
theorem k_X0_enter_41 : look a_X0_enter 41 = vIload 2 42 := rfl
theorem k_X0_enter_42 : look a_X0_enter 42 = vI 2 43 := rfl
theorem k_X0_enter_43 : look a_X0_enter 43 = vCallM w_X6_value 22 3 46 := rfl
theorem k_X0_enter_46 : look a_X0_enter 46 = vIast TT 47 := rfl
theorem k_X0_enter_47 : look a_X0_enter 47 = vAload 0 48 := rfl
theorem k_X0_enter_48 : look a_X0_enter 48 = vGetR TT 16 3 8 51 := rfl
theorem k_X0_enter_51 : look a_X0_enter 51 = vIload 2 52 := rfl
theorem k_X0_enter_52 : look a_X0_enter 52 = vI 0 53 := rfl
theorem k_X0_enter_53 : look a_X0_enter 53 = vIast TT 54 := rfl
theorem k_X0_enter_54 : look a_X0_enter 54 = vIinc 2 1 57 := rfl
theorem k_X0_enter_57 : look a_X0_enter 57 = vGoto 2 := rfl
theorem k_X0_enter_60 : look a_X0_enter 60 = vAload 0 61 := rfl
theorem k_X0_enter_61 : look a_X0_enter 61 = vI 0 62 := rfl
theorem k_X0_enter_62 : look a_X0_enter 62 = vPutI 16 4 65 := rfl
theorem k_X0_enter_65 : look a_X0_enter 65 = vAload 0 66 := rfl
theorem k_X0_enter_66 : look a_X0_enter 66 = vAload 1 67 := rfl
theorem k_X0_enter_67 : look a_X0_enter 67 = vI 0 68 := rfl
theorem k_X0_enter_68 : look a_X0_enter 68 = vI 0 69 := rfl
theorem k_X0_enter_69 : look a_X0_enter 69 = vI 1 70 := rfl
theorem k_X0_enter_70 : look a_X0_enter 70 = vCallM w_X6_value 22 3 73 := rfl
theorem k_X0_enter_73 : look a_X0_enter 73 = vPutI 16 5 76 := rfl
theorem k_X0_enter_76 : look a_X0_enter 76 = vAload 0 77 := rfl
theorem k_X0_enter_77 : look a_X0_enter 77 = vI 0 78 := rfl
theorem k_X0_enter_78 : look a_X0_enter 78 = vPutI 16 6 81 := rfl
theorem k_X0_enter_81 : look a_X0_enter 81 = vVret := rfl
theorem o_X0_enter {X : amX} (e1 : XT X = TT) (e2 : XD X = 2) (hB : amB X RX0 cX0_enter (none) 3) : ∀ pc, amOK X pc (look a_X0_enter pc) := by
  have hT : amTok (XT X) := e1 ▸ TT_ok
  refine look_ok ?_
  unfold a_X0_enter
  refine fc (ok_iconst hB dX0_enter_0) ?_
  refine fc (ok_istore_n hB (by decide) dX0_enter_1) ?_
  refine fc (ok_iload_n hB dX0_enter_2) ?_
  refine fc (ok_bipush hB dX0_enter_3 (by decide)) ?_
  refine fc (ok_icmp_ge hB (t := 60) (by decide) dX0_enter_5) ?_
  refine fc (ok_aload_n hB dX0_enter_8) ?_
  refine fc (okt_getR e1 hB hT fl_X0_9 rfl af_0_0 at_0_0 (by decide) dX0_enter_9) ?_
  refine fc (ok_iload_n hB dX0_enter_12) ?_
  refine fc (ok_aload_n hB dX0_enter_13) ?_
  refine fc (ok_iconst hB dX0_enter_14) ?_
  refine fc (ok_iload_n hB dX0_enter_15) ?_
  refine fc (ok_iconst hB dX0_enter_16) ?_
  refine fc (ok_callM hB hT (e1 ▸ s_X6_value) lk_X0_36 (by rw [e2]; decide) (c := 6) rfl rfl rfl wd_565 wd_566 dX0_enter_17) ?_
  refine fc (okt_iastore e1 hB dX0_enter_20) ?_
  refine fc (ok_aload_n hB dX0_enter_21) ?_
  refine fc (okt_getR e1 hB hT fl_X0_15 rfl af_0_1 at_0_1 (by decide) dX0_enter_22) ?_
  refine fc (ok_iload_n hB dX0_enter_25) ?_
  refine fc (ok_aload_n hB dX0_enter_26) ?_
  refine fc (ok_iconst hB dX0_enter_27) ?_
  refine fc (ok_iload_n hB dX0_enter_28) ?_
  refine fc (ok_iconst hB dX0_enter_29) ?_
  refine fc (ok_callM hB hT (e1 ▸ s_X6_value) lk_X0_36 (by rw [e2]; decide) (c := 6) rfl rfl rfl wd_565 wd_566 dX0_enter_30) ?_
  refine fc (okt_iastore e1 hB dX0_enter_33) ?_
  refine fc (ok_aload_n hB dX0_enter_34) ?_
  refine fc (okt_getR e1 hB hT fl_X0_18 rfl af_0_2 at_0_2 (by decide) dX0_enter_35) ?_
  refine fc (ok_iload_n hB dX0_enter_38) ?_
  refine fc (ok_aload_n hB dX0_enter_39) ?_
  refine fc (ok_iconst hB dX0_enter_40) ?_
  refine fc (ok_iload_n hB dX0_enter_41) ?_
  refine fc (ok_iconst hB dX0_enter_42) ?_
  refine fc (ok_callM hB hT (e1 ▸ s_X6_value) lk_X0_36 (by rw [e2]; decide) (c := 6) rfl rfl rfl wd_565 wd_566 dX0_enter_43) ?_
  refine fc (okt_iastore e1 hB dX0_enter_46) ?_
  refine fc (ok_aload_n hB dX0_enter_47) ?_
  refine fc (okt_getR e1 hB hT fl_X0_21 rfl af_0_3 at_0_3 (by decide) dX0_enter_48) ?_
  refine fc (ok_iload_n hB dX0_enter_51) ?_
  refine fc (ok_iconst hB dX0_enter_52) ?_
  refine fc (okt_iastore e1 hB dX0_enter_53) ?_
  refine fc (ok_iinc hB (by decide) dX0_enter_54) ?_
  refine fc (ok_goto hB (t := 2) (by decide) dX0_enter_57) ?_
  refine fc (ok_aload_n hB dX0_enter_60) ?_
  refine fc (ok_iconst hB dX0_enter_61) ?_
  refine fc (ok_putI hB hT fp_X0_24 rfl rfl rfl af_0_4 dX0_enter_62) ?_
  refine fc (ok_aload_n hB dX0_enter_65) ?_
  refine fc (ok_aload_n hB dX0_enter_66) ?_
  refine fc (ok_iconst hB dX0_enter_67) ?_
  refine fc (ok_iconst hB dX0_enter_68) ?_
  refine fc (ok_iconst hB dX0_enter_69) ?_
  refine fc (ok_callM hB hT (e1 ▸ s_X6_value) lk_X0_36 (by rw [e2]; decide) (c := 6) rfl rfl rfl wd_565 wd_566 dX0_enter_70) ?_
  refine fc (ok_putI hB hT fp_X0_28 rfl rfl rfl af_0_5 dX0_enter_73) ?_
  refine fc (ok_aload_n hB dX0_enter_76) ?_
  refine fc (ok_iconst hB dX0_enter_77) ?_
  refine fc (ok_putI hB hT fp_X0_31 rfl rfl rfl af_0_6 dX0_enter_78) ?_
  refine fc (ok_vret hB dX0_enter_81) ?_
  exact fn
def inv_enter (σ : Mem) (n pc : Nat) (ls st : List AV) (σ' : Mem) : Prop := pc = 2 ∧ st = [] ∧ ∃ k : Nat, ls = [(16, 16), (22, 6), (0, (k : Int))] ∧ k + n = 6 ∧ σ' = entK σ k
def w_X0_enter : WP := fun av σ Q => ∃ (a : Int) (p : Int), av = [(16, a), (22, p)] ∧ (a = 16 ∧ p = 6 ∧ Q (6, 0) (setAud σ 16 (entF σ)))
theorem w_X0_enter_e (a : Int) (p : Int) (σ : Mem) (Q : AV → Mem → Prop) : w_X0_enter [(16, a), (22, p)] σ Q = (a = 16 ∧ p = 6 ∧ Q (6, 0) (setAud σ 16 (entF σ))) := by
  apply propext; constructor
  · rintro ⟨a', p', h9, hb9⟩; cases h9; exact hb9
  · intro hb9; exact ⟨a, p, rfl, hb9⟩

set_option maxRecDepth 100000 in
set_option maxHeartbeats 4000000 in
theorem s_X0_enter : ∀ av σ Q, w_X0_enter av σ Q → amCall 2 0 0 TT yX0_enter cX0_enter 3 (none) av σ Q := by
  rintro av σ Q ⟨a, p, rfl, rfl, rfl, h⟩
  refine am_m [2] (inv_enter σ) (own := RX0) (A := look a_X0_enter) (fun X e1 e2 hB => o_X0_enter e1 e2 hB) rfl (by decide +kernel) rfl rfl ?_ ⟨90, ?_⟩ (w := 3)
  · rintro n pc ls st σ' ⟨rfl, rfl, k, rfl, hk, rfl⟩
    have pv : ∀ (τ : Mem) (b j v : Int), b ≠ 7 → ∀ x y z, pval (up τ b j v) 6 x y z = pval τ 6 x y z := fun τ b j v hb x y z => pval_cong (up_na τ (Ne.symm hb)) x y z
    have pe : ∀ x y z, pval (entK σ k) 6 x y z = pval σ 6 x y z := fun x y z => pval_cong (entK_o σ k (by omega)) x y z
    refine ⟨90, ?_⟩
    have p1 := pv (entK σ k) 17 k (pval σ 6 2 k 0) (by decide)
    have p2 := pv (up (entK σ k) 17 k (pval σ 6 2 k 0)) 18 k (pval σ 6 2 k 1) (by decide)
    have p3 := fun v => pv (entK σ k) 16 4 v (by decide)
    simp only [vI_e, vL_e, vNull_e, vIload_e, vLload_e, vAload_e, vIstore_e, vLstore_e, vAstore_e, vIinc_e, vIadd_e, vIsub_e, vImul_e, vIand_e, vIor_e, vIxor_e, vIshl_e, vIshr_e, vIushr_e, vIdiv_e, vIrem_e, vLadd_e, vLsub_e, vLmul_e, vLand_e, vLor_e, vLxor_e, vLdiv_e, vLrem_e, vLushr_e, vLshl_e, vLcmp_e, vIneg_e, vI2l_e, vL2i_e, vI2b_e, vI2c_e, vDup_e, vPop_e, vDup2_e, vGoto_e, vIcEq_e, vIfEq_e, vIcNe_e, vIfNe_e, vIcLt_e, vIfLt_e, vIcGe_e, vIfGe_e, vIcGt_e, vIfGt_e, vIcLe_e, vIfLe_e, vNonnull_e, vSw_e, vGetI_e, vGetL_e, vGetR_e, vPutI_e, vPutZ_e, vPutL_e, vPutR_e, vIald_e, vIald_s, vLald_e, vBald_e, vBald_s, vAald_e, vIast_e, vLast_e, vBast_e, vAast_e, vAlen_e8, vAlen_e9, vAlen_e10, vAlen_e11, vAlen_e5, vAlen_e3, vGets_e, vCompact_e, vLdcS_e, vIret_e, vZret_e, vCret_e, vBret_e, vLret_e, vVret_e, vAret_e, vCallM_e0, vCallMV_e0, vCallS_e0, vCallSV_e0, vCallM_e1, vCallMV_e1, vCallS_e1, vCallSV_e1, vCallM_e2, vCallMV_e2, vCallS_e2, vCallSV_e2, vCallM_e3, vCallMV_e3, vCallS_e3, vCallSV_e3, vCallM_e4, vCallMV_e4, vCallS_e4, vCallSV_e4, vCallM_e5, vCallMV_e5, vCallS_e5, vCallSV_e5, vCallM_e6, vCallMV_e6, vCallS_e6, vCallSV_e6, vCallM_e7, vCallMV_e7, vCallS_e7, vCallSV_e7, vBad_e, vStrVal_e, vStrCod_e, vForm_e, vCallT_e0, vCallT_e1, vCallT_e2, vCopy_e, rf_0_0, rf_0_1, rf_0_2, rf_0_3, rf_0_4, rf_0_7, rf_0_10, rf_0_11, rf_0_12, rf_0_13, rf_0_14, rf_0_15, rf_0_16, rf_1_0, rf_3_0, rf_3_1, rf_6_0, rf_6_1, rf_9_0, rf_9_1, rf_9_3, rf_13_0, rf_13_1, rf_13_2, rf_16_0, rf_16_1, rf_16_2, rf_16_3, rf_21_0, rf_21_1, rf_21_2, rf_21_3, rf_26_0, rf_26_1, rf_26_2, rf_26_3, rf_26_4, rf_26_5, rf_26_6, rf_31_0, rf_31_2, rf_31_5, rf_31_6, rf_36_0, rf_36_1, rf_36_2, rf_36_3, rf_39_0, rf_39_1, rf_39_2, rf_41_0, rf_41_1, rf_41_2, rf_41_3, rf_5000_1, rf_5000_2, rf_5000_3, rf_5000_4, rf_5000_5, rf_5000_15, rf_5000_16, rf_5000_18, rf_5000_19, rf_5000_20, rf_5000_21, rf_5000_22, rf_5000_23, rf_5000_24, rf_5000_25, rf_5000_26, rf_5000_27, rf_5000_36, rf_5000_37, rf_5000_40, rf_5000_41, rf_5000_42, rf_5000_43, rf_5000_44, rf_5000_45, rf_5000_47, rf_5000_52, rf_5000_54, rf_5000_55, rf_100_0, rf_100_1, rf_103_0, rf_103_1, rf_106_0, rf_106_1, rf_109_0, rf_109_1, al_2, al_4, al_5, al_7, al_8, al_10, al_11, al_12, al_14, al_15, al_17, al_18, al_19, al_20, al_22, al_23, al_24, al_25, al_27, al_28, al_29, al_30, al_32, al_33, al_34, al_35, al_37, al_38, al_40, al_42, al_5001, al_5002, al_5003, al_5004, al_5005, al_5006, al_5007, al_5008, al_5009, al_5010, al_5011, al_5012, al_5013, al_5014, al_5015, al_5016, al_5017, al_5018, al_5019, al_5020, al_5021, al_5022, al_5023, al_5024, al_5025, al_5026, al_9000, al_101, al_102, al_104, al_105, al_107, al_108, al_110, al_111, vcs_e, lg_c0, lg_cs, lg_nil, set_c0, set_cs, okst_0, okst_s, acok_n, acok_c, List.contains_nil, List.contains_cons, Bool.or_false, Bool.false_or, Bool.false_eq_true, if_false, if_true, ite_self, ne_eq, true_and, and_true, not_false_eq_true, not_true_eq_false, false_imp_iff, true_imp_iff, Nat.ble_eq, Bool.and_eq_true, reduceCtorEq, or_false, false_or, or_true, true_or, false_and, and_false, and_self, Int.reduceLE, Int.reduceAdd, Int.reduceSub, Int.reduceMul, Int.reduceNeg, Int.reduceLT, Int.reduceEq, Int.reduceNe, Nat.reduceBEq, Nat.reduceBNe, Nat.reduceEqDiff, amCmp_in, amCmp_lt, amCmp_le, amCmp_gt, amCmp_ge, amCmp_eq, amCmp_ne, Nat.reduceLeDiff, Nat.reduceSub, Bool.and_true, Bool.true_and, Bool.and_self, Bool.or_true, Bool.true_or, isRf_3, isRf_4, isRf_5, isRf_8, isRf_9, isRf_10, isRf_11, isRf_15, isRf_16, isRf_17, isRf_18, isRf_19, isRf_20, isRf_21, isRf_22, isRf_23, isRf_24, isRf_25, isRf_26, isRf_27, isRf_28, k_X0_enter_0, k_X0_enter_1, k_X0_enter_2, k_X0_enter_3, k_X0_enter_5, k_X0_enter_8, k_X0_enter_9, k_X0_enter_12, k_X0_enter_13, k_X0_enter_14, k_X0_enter_15, k_X0_enter_16, k_X0_enter_17, k_X0_enter_20, k_X0_enter_21, k_X0_enter_22, k_X0_enter_25, k_X0_enter_26, k_X0_enter_27, k_X0_enter_28, k_X0_enter_29, k_X0_enter_30, k_X0_enter_33, k_X0_enter_34, k_X0_enter_35, k_X0_enter_38, k_X0_enter_39, k_X0_enter_40, k_X0_enter_41, k_X0_enter_42, k_X0_enter_43, k_X0_enter_46, k_X0_enter_47, k_X0_enter_48, k_X0_enter_51, k_X0_enter_52, k_X0_enter_53, k_X0_enter_54, k_X0_enter_57, k_X0_enter_60, k_X0_enter_61, k_X0_enter_62, k_X0_enter_65, k_X0_enter_66, k_X0_enter_67, k_X0_enter_68, k_X0_enter_69, k_X0_enter_70, k_X0_enter_73, k_X0_enter_76, k_X0_enter_77, k_X0_enter_78, k_X0_enter_81, w_X6_value_e, pe, p1, p2, p3, isP]
    by_cases hlt : k < 6
    · have em : up (up (up (up (entK σ k) 17 k (pval σ 6 2 k 0)) 18 k (pval σ 6 2 k 1)) 19 k (pval σ 6 2 k 2)) 20 k 0 = entK σ ((k + 1 : Nat) : Int) := by
        funext b j
        unfold up entK
        rw [Int.natCast_add]
        by_cases hj : j = k
        · subst hj
          (repeat' split) <;> first | rfl | omega
        · (repeat' split) <;> first | rfl | omega
      rw [em]
      repeat' (first | assumption | apply And.intro | intro _)
      all_goals first | omega | exact ⟨n - 1, by omega, rfl, rfl, k + 1, by rw [Int.natCast_add]; rfl, by omega, rfl⟩
    · obtain rfl : k = 6 := by omega
      have em : up (up (up (entK σ (6 : Nat)) 16 4 0) 16 5 (pval σ 6 0 0 1)) 16 6 0 = setAud σ 16 (entF σ) := by
        have r1 : ∀ j, entK σ (6 : Nat) 17 j = if 0 ≤ j ∧ j < 6 then pval σ 6 2 j 0 else σ 17 j := fun j => by
          unfold entK
          by_cases g : 0 ≤ j ∧ j < 6
          · rw [if_pos ⟨rfl, g⟩, if_pos g]
          · rw [if_neg (fun q => g q.2), if_neg (by omega), if_neg (by omega), if_neg (by omega), if_neg g]
        have r2 : ∀ j, entK σ (6 : Nat) 18 j = if 0 ≤ j ∧ j < 6 then pval σ 6 2 j 1 else σ 18 j := fun j => by
          unfold entK
          rw [if_neg (by omega)]
          by_cases g : 0 ≤ j ∧ j < 6
          · rw [if_pos ⟨rfl, g⟩, if_pos g]
          · rw [if_neg (fun q => g q.2), if_neg (by omega), if_neg (by omega), if_neg g]
        have r3 : ∀ j, entK σ (6 : Nat) 19 j = if 0 ≤ j ∧ j < 6 then pval σ 6 2 j 2 else σ 19 j := fun j => by
          unfold entK
          rw [if_neg (by omega), if_neg (by omega)]
          by_cases g : 0 ≤ j ∧ j < 6
          · rw [if_pos ⟨rfl, g⟩, if_pos g]
          · rw [if_neg (fun q => g q.2), if_neg (by omega), if_neg g]
        have r4 : ∀ j, entK σ (6 : Nat) 20 j = if 0 ≤ j ∧ j < 6 then 0 else σ 20 j := fun j => by
          unfold entK
          rw [if_neg (by omega), if_neg (by omega), if_neg (by omega)]
          by_cases g : 0 ≤ j ∧ j < 6
          · rw [if_pos ⟨rfl, g⟩, if_pos g]
          · rw [if_neg (fun q => g q.2), if_neg g]
        refine eq_setAud (fun b hb => ?_) (fun j => ?_) (fun j => ?_) (fun j => ?_) (fun j => ?_) (fun j => ?_)
        · rw [up_na _ (by omega), up_na _ (by omega), up_na _ (by omega), entK_o _ _ (by omega)]
        · rw [up_na _ (by decide), up_na _ (by decide), up_na _ (by decide)]
          refine (r1 j).trans ?_
          by_cases g : 0 ≤ j ∧ j < 6
          · rw [if_pos g, if_pos g]; unfold entF; rw [if_pos (by omega)]
          · rw [if_neg g, if_neg g]; rfl
        · rw [up_na _ (by decide), up_na _ (by decide), up_na _ (by decide)]
          refine (r2 j).trans ?_
          by_cases g : 0 ≤ j ∧ j < 6
          · rw [if_pos g, if_pos g]; unfold entF; rw [if_neg (by omega), if_pos (by omega)]; congr 1; omega
          · rw [if_neg g, if_neg g]; rfl
        · rw [up_na _ (by decide), up_na _ (by decide), up_na _ (by decide)]
          refine (r3 j).trans ?_
          by_cases g : 0 ≤ j ∧ j < 6
          · rw [if_pos g, if_pos g]; unfold entF; rw [if_neg (by omega), if_neg (by omega), if_pos (by omega)]; congr 1; omega
          · rw [if_neg g, if_neg g]; rfl
        · rw [up_na _ (by decide), up_na _ (by decide), up_na _ (by decide)]
          refine (r4 j).trans ?_
          by_cases g : 0 ≤ j ∧ j < 6
          · rw [if_pos g, if_pos g]; unfold entF; rw [if_neg (by omega), if_neg (by omega), if_neg (by omega), if_neg (by omega)]
          · rw [if_neg g, if_neg g]; rfl
        · rw [up3_at, entK_o _ _ (by omega)]
          by_cases g : 4 ≤ j ∧ j < 7
          · rw [if_pos g]
            have : j = 4 ∨ j = 5 ∨ j = 6 := by omega
            rcases this with rfl | rfl | rfl <;> rfl
          · rw [if_neg g, if_neg (by omega), if_neg (by omega), if_neg (by omega)]
      rw [em]
      repeat' (first | assumption | apply And.intro | intro _)
      all_goals first | omega | exact h
  · change vcs _ _ _ _ 90 0 [(16, 16), (22, 6), (6, 0)] [] σ
    simp only [vI_e, vL_e, vNull_e, vIload_e, vLload_e, vAload_e, vIstore_e, vLstore_e, vAstore_e, vIinc_e, vIadd_e, vIsub_e, vImul_e, vIand_e, vIor_e, vIxor_e, vIshl_e, vIshr_e, vIushr_e, vIdiv_e, vIrem_e, vLadd_e, vLsub_e, vLmul_e, vLand_e, vLor_e, vLxor_e, vLdiv_e, vLrem_e, vLushr_e, vLshl_e, vLcmp_e, vIneg_e, vI2l_e, vL2i_e, vI2b_e, vI2c_e, vDup_e, vPop_e, vDup2_e, vGoto_e, vIcEq_e, vIfEq_e, vIcNe_e, vIfNe_e, vIcLt_e, vIfLt_e, vIcGe_e, vIfGe_e, vIcGt_e, vIfGt_e, vIcLe_e, vIfLe_e, vNonnull_e, vSw_e, vGetI_e, vGetL_e, vGetR_e, vPutI_e, vPutZ_e, vPutL_e, vPutR_e, vIald_e, vIald_s, vLald_e, vBald_e, vBald_s, vAald_e, vIast_e, vLast_e, vBast_e, vAast_e, vAlen_e8, vAlen_e9, vAlen_e10, vAlen_e11, vAlen_e5, vAlen_e3, vGets_e, vCompact_e, vLdcS_e, vIret_e, vZret_e, vCret_e, vBret_e, vLret_e, vVret_e, vAret_e, vCallM_e0, vCallMV_e0, vCallS_e0, vCallSV_e0, vCallM_e1, vCallMV_e1, vCallS_e1, vCallSV_e1, vCallM_e2, vCallMV_e2, vCallS_e2, vCallSV_e2, vCallM_e3, vCallMV_e3, vCallS_e3, vCallSV_e3, vCallM_e4, vCallMV_e4, vCallS_e4, vCallSV_e4, vCallM_e5, vCallMV_e5, vCallS_e5, vCallSV_e5, vCallM_e6, vCallMV_e6, vCallS_e6, vCallSV_e6, vCallM_e7, vCallMV_e7, vCallS_e7, vCallSV_e7, vBad_e, vStrVal_e, vStrCod_e, vForm_e, vCallT_e0, vCallT_e1, vCallT_e2, vCopy_e, rf_0_0, rf_0_1, rf_0_2, rf_0_3, rf_0_4, rf_0_7, rf_0_10, rf_0_11, rf_0_12, rf_0_13, rf_0_14, rf_0_15, rf_0_16, rf_1_0, rf_3_0, rf_3_1, rf_6_0, rf_6_1, rf_9_0, rf_9_1, rf_9_3, rf_13_0, rf_13_1, rf_13_2, rf_16_0, rf_16_1, rf_16_2, rf_16_3, rf_21_0, rf_21_1, rf_21_2, rf_21_3, rf_26_0, rf_26_1, rf_26_2, rf_26_3, rf_26_4, rf_26_5, rf_26_6, rf_31_0, rf_31_2, rf_31_5, rf_31_6, rf_36_0, rf_36_1, rf_36_2, rf_36_3, rf_39_0, rf_39_1, rf_39_2, rf_41_0, rf_41_1, rf_41_2, rf_41_3, rf_5000_1, rf_5000_2, rf_5000_3, rf_5000_4, rf_5000_5, rf_5000_15, rf_5000_16, rf_5000_18, rf_5000_19, rf_5000_20, rf_5000_21, rf_5000_22, rf_5000_23, rf_5000_24, rf_5000_25, rf_5000_26, rf_5000_27, rf_5000_36, rf_5000_37, rf_5000_40, rf_5000_41, rf_5000_42, rf_5000_43, rf_5000_44, rf_5000_45, rf_5000_47, rf_5000_52, rf_5000_54, rf_5000_55, rf_100_0, rf_100_1, rf_103_0, rf_103_1, rf_106_0, rf_106_1, rf_109_0, rf_109_1, al_2, al_4, al_5, al_7, al_8, al_10, al_11, al_12, al_14, al_15, al_17, al_18, al_19, al_20, al_22, al_23, al_24, al_25, al_27, al_28, al_29, al_30, al_32, al_33, al_34, al_35, al_37, al_38, al_40, al_42, al_5001, al_5002, al_5003, al_5004, al_5005, al_5006, al_5007, al_5008, al_5009, al_5010, al_5011, al_5012, al_5013, al_5014, al_5015, al_5016, al_5017, al_5018, al_5019, al_5020, al_5021, al_5022, al_5023, al_5024, al_5025, al_5026, al_9000, al_101, al_102, al_104, al_105, al_107, al_108, al_110, al_111, vcs_e, lg_c0, lg_cs, lg_nil, set_c0, set_cs, okst_0, okst_s, acok_n, acok_c, List.contains_nil, List.contains_cons, Bool.or_false, Bool.false_or, Bool.false_eq_true, if_false, if_true, ite_self, ne_eq, true_and, and_true, not_false_eq_true, not_true_eq_false, false_imp_iff, true_imp_iff, Nat.ble_eq, Bool.and_eq_true, reduceCtorEq, or_false, false_or, or_true, true_or, false_and, and_false, and_self, Int.reduceLE, Int.reduceAdd, Int.reduceSub, Int.reduceMul, Int.reduceNeg, Int.reduceLT, Int.reduceEq, Int.reduceNe, Nat.reduceBEq, Nat.reduceBNe, Nat.reduceEqDiff, amCmp_in, amCmp_lt, amCmp_le, amCmp_gt, amCmp_ge, amCmp_eq, amCmp_ne, Nat.reduceLeDiff, Nat.reduceSub, Bool.and_true, Bool.true_and, Bool.and_self, Bool.or_true, Bool.true_or, isRf_3, isRf_4, isRf_5, isRf_8, isRf_9, isRf_10, isRf_11, isRf_15, isRf_16, isRf_17, isRf_18, isRf_19, isRf_20, isRf_21, isRf_22, isRf_23, isRf_24, isRf_25, isRf_26, isRf_27, isRf_28, k_X0_enter_0, k_X0_enter_1, k_X0_enter_2, k_X0_enter_3, k_X0_enter_5, k_X0_enter_8, k_X0_enter_9, k_X0_enter_12, k_X0_enter_13, k_X0_enter_14, k_X0_enter_15, k_X0_enter_16, k_X0_enter_17, k_X0_enter_20, k_X0_enter_21, k_X0_enter_22, k_X0_enter_25, k_X0_enter_26, k_X0_enter_27, k_X0_enter_28, k_X0_enter_29, k_X0_enter_30, k_X0_enter_33, k_X0_enter_34, k_X0_enter_35, k_X0_enter_38, k_X0_enter_39, k_X0_enter_40, k_X0_enter_41, k_X0_enter_42, k_X0_enter_43, k_X0_enter_46, k_X0_enter_47, k_X0_enter_48, k_X0_enter_51, k_X0_enter_52, k_X0_enter_53, k_X0_enter_54, k_X0_enter_57, k_X0_enter_60, k_X0_enter_61, k_X0_enter_62, k_X0_enter_65, k_X0_enter_66, k_X0_enter_67, k_X0_enter_68, k_X0_enter_69, k_X0_enter_70, k_X0_enter_73, k_X0_enter_76, k_X0_enter_77, k_X0_enter_78, k_X0_enter_81]
    refine ⟨6, rfl, rfl, 0, rfl, by omega, ?_⟩
    funext b j; unfold entK
    rw [if_neg (by omega), if_neg (by omega), if_neg (by omega), if_neg (by omega)]
theorem wd_769 : Cond.methodLink RX0 40 arraycopyName ∈ TBL := tb_tab (List.mem_of_getElem? (i := 769) (by decide +kernel)) rfl
def a_X0_copyFrom : AC := [(0, vAload 1 1), (1, vGetR TT 16 0 8 4), (4, vI 0 5), (5, vAload 0 6), (6, vGetR TT 16 0 8 9), (9, vI 0 10), (10, vI 6 12), (12, vCopy TT 15), (15, vAload 1 16), (16, vGetR TT 16 1 8 19), (19, vI 0 20), (20, vAload 0 21), (21, vGetR TT 16 1 8 24), (24, vI 0 25), (25, vI 6 27), (27, vCopy TT 30), (30, vAload 1 31), (31, vGetR TT 16 2 8 34), (34, vI 0 35), (35, vAload 0 36), (36, vGetR TT 16 2 8 39), (39, vI 0 40), (40, vI 6 42), (42, vCopy TT 45), (45, vAload 1 46), (46, vGetR TT 16 3 8 49), (49, vI 0 50), (50, vAload 0 51), (51, vGetR TT 16 3 8 54), (54, vI 0 55), (55, vI 6 57), (57, vCopy TT 60), (60, vAload 0 61), (61, vAload 1 62), (62, vGetI 16 4 65), (65, vPutI 16 4 68), (68, vAload 0 69), (69, vAload 1 70), (70, vGetI 16 5 73), (73, vPutI 16 5 76), (76, vAload 0 77), (77, vAload 1 78), (78, vGetI 16 6 81), (81, vPutI 16 6 84), (84, vVret)]
theorem k_X0_copyFrom_0 : look a_X0_copyFrom 0 = vAload 1 1 := rfl
theorem k_X0_copyFrom_1 : look a_X0_copyFrom 1 = vGetR TT 16 0 8 4 := rfl
theorem k_X0_copyFrom_4 : look a_X0_copyFrom 4 = vI 0 5 := rfl
theorem k_X0_copyFrom_5 : look a_X0_copyFrom 5 = vAload 0 6 := rfl
theorem k_X0_copyFrom_6 : look a_X0_copyFrom 6 = vGetR TT 16 0 8 9 := rfl
theorem k_X0_copyFrom_9 : look a_X0_copyFrom 9 = vI 0 10 := rfl
theorem k_X0_copyFrom_10 : look a_X0_copyFrom 10 = vI 6 12 := rfl
theorem k_X0_copyFrom_12 : look a_X0_copyFrom 12 = vCopy TT 15 := rfl
theorem k_X0_copyFrom_15 : look a_X0_copyFrom 15 = vAload 1 16 := rfl
theorem k_X0_copyFrom_16 : look a_X0_copyFrom 16 = vGetR TT 16 1 8 19 := rfl
theorem k_X0_copyFrom_19 : look a_X0_copyFrom 19 = vI 0 20 := rfl
theorem k_X0_copyFrom_20 : look a_X0_copyFrom 20 = vAload 0 21 := rfl
theorem k_X0_copyFrom_21 : look a_X0_copyFrom 21 = vGetR TT 16 1 8 24 := rfl
theorem k_X0_copyFrom_24 : look a_X0_copyFrom 24 = vI 0 25 := rfl
theorem k_X0_copyFrom_25 : look a_X0_copyFrom 25 = vI 6 27 := rfl
theorem k_X0_copyFrom_27 : look a_X0_copyFrom 27 = vCopy TT 30 := rfl
theorem k_X0_copyFrom_30 : look a_X0_copyFrom 30 = vAload 1 31 := rfl
theorem k_X0_copyFrom_31 : look a_X0_copyFrom 31 = vGetR TT 16 2 8 34 := rfl
theorem k_X0_copyFrom_34 : look a_X0_copyFrom 34 = vI 0 35 := rfl
theorem k_X0_copyFrom_35 : look a_X0_copyFrom 35 = vAload 0 36 := rfl
theorem k_X0_copyFrom_36 : look a_X0_copyFrom 36 = vGetR TT 16 2 8 39 := rfl
theorem k_X0_copyFrom_39 : look a_X0_copyFrom 39 = vI 0 40 := rfl
theorem k_X0_copyFrom_40 : look a_X0_copyFrom 40 = vI 6 42 := rfl
theorem k_X0_copyFrom_42 : look a_X0_copyFrom 42 = vCopy TT 45 := rfl
theorem k_X0_copyFrom_45 : look a_X0_copyFrom 45 = vAload 1 46 := rfl
theorem k_X0_copyFrom_46 : look a_X0_copyFrom 46 = vGetR TT 16 3 8 49 := rfl
theorem k_X0_copyFrom_49 : look a_X0_copyFrom 49 = vI 0 50 := rfl
theorem k_X0_copyFrom_50 : look a_X0_copyFrom 50 = vAload 0 51 := rfl
theorem k_X0_copyFrom_51 : look a_X0_copyFrom 51 = vGetR TT 16 3 8 54 := rfl
theorem k_X0_copyFrom_54 : look a_X0_copyFrom 54 = vI 0 55 := rfl
theorem k_X0_copyFrom_55 : look a_X0_copyFrom 55 = vI 6 57 := rfl
theorem k_X0_copyFrom_57 : look a_X0_copyFrom 57 = vCopy TT 60 := rfl
theorem k_X0_copyFrom_60 : look a_X0_copyFrom 60 = vAload 0 61 := rfl
theorem k_X0_copyFrom_61 : look a_X0_copyFrom 61 = vAload 1 62 := rfl
theorem k_X0_copyFrom_62 : look a_X0_copyFrom 62 = vGetI 16 4 65 := rfl
theorem k_X0_copyFrom_65 : look a_X0_copyFrom 65 = vPutI 16 4 68 := rfl
theorem k_X0_copyFrom_68 : look a_X0_copyFrom 68 = vAload 0 69 := rfl
theorem k_X0_copyFrom_69 : look a_X0_copyFrom 69 = vAload 1 70 := rfl
theorem k_X0_copyFrom_70 : look a_X0_copyFrom 70 = vGetI 16 5 73 := rfl
theorem k_X0_copyFrom_73 : look a_X0_copyFrom 73 = vPutI 16 5 76 := rfl
theorem k_X0_copyFrom_76 : look a_X0_copyFrom 76 = vAload 0 77 := rfl
theorem k_X0_copyFrom_77 : look a_X0_copyFrom 77 = vAload 1 78 := rfl
theorem k_X0_copyFrom_78 : look a_X0_copyFrom 78 = vGetI 16 6 81 := rfl
theorem k_X0_copyFrom_81 : look a_X0_copyFrom 81 = vPutI 16 6 84 := rfl
theorem k_X0_copyFrom_84 : look a_X0_copyFrom 84 = vVret := rfl
theorem o_X0_copyFrom {X : amX} (e1 : XT X = TT) (e2 : XD X = 1) (hB : amB X RX0 cX0_copyFrom (none) 2) : ∀ pc, amOK X pc (look a_X0_copyFrom pc) := by
  have hT : amTok (XT X) := e1 ▸ TT_ok
  refine look_ok ?_
  unfold a_X0_copyFrom
  refine fc (ok_aload_n hB dX0_copyFrom_0) ?_
  refine fc (okt_getR e1 hB hT fl_X0_9 rfl af_0_0 at_0_0 (by decide) dX0_copyFrom_1) ?_
  refine fc (ok_iconst hB dX0_copyFrom_4) ?_
  refine fc (ok_aload_n hB dX0_copyFrom_5) ?_
  refine fc (okt_getR e1 hB hT fl_X0_9 rfl af_0_0 at_0_0 (by decide) dX0_copyFrom_6) ?_
  refine fc (ok_iconst hB dX0_copyFrom_9) ?_
  refine fc (ok_bipush hB dX0_copyFrom_10 (by decide)) ?_
  refine fc (okt_copy e1 hB (by rw [e2]; decide) wd_769 wd_663 wd_662 wd_20 dX0_copyFrom_12) ?_
  refine fc (ok_aload_n hB dX0_copyFrom_15) ?_
  refine fc (okt_getR e1 hB hT fl_X0_15 rfl af_0_1 at_0_1 (by decide) dX0_copyFrom_16) ?_
  refine fc (ok_iconst hB dX0_copyFrom_19) ?_
  refine fc (ok_aload_n hB dX0_copyFrom_20) ?_
  refine fc (okt_getR e1 hB hT fl_X0_15 rfl af_0_1 at_0_1 (by decide) dX0_copyFrom_21) ?_
  refine fc (ok_iconst hB dX0_copyFrom_24) ?_
  refine fc (ok_bipush hB dX0_copyFrom_25 (by decide)) ?_
  refine fc (okt_copy e1 hB (by rw [e2]; decide) wd_769 wd_663 wd_662 wd_20 dX0_copyFrom_27) ?_
  refine fc (ok_aload_n hB dX0_copyFrom_30) ?_
  refine fc (okt_getR e1 hB hT fl_X0_18 rfl af_0_2 at_0_2 (by decide) dX0_copyFrom_31) ?_
  refine fc (ok_iconst hB dX0_copyFrom_34) ?_
  refine fc (ok_aload_n hB dX0_copyFrom_35) ?_
  refine fc (okt_getR e1 hB hT fl_X0_18 rfl af_0_2 at_0_2 (by decide) dX0_copyFrom_36) ?_
  refine fc (ok_iconst hB dX0_copyFrom_39) ?_
  refine fc (ok_bipush hB dX0_copyFrom_40 (by decide)) ?_
  refine fc (okt_copy e1 hB (by rw [e2]; decide) wd_769 wd_663 wd_662 wd_20 dX0_copyFrom_42) ?_
  refine fc (ok_aload_n hB dX0_copyFrom_45) ?_
  refine fc (okt_getR e1 hB hT fl_X0_21 rfl af_0_3 at_0_3 (by decide) dX0_copyFrom_46) ?_
  refine fc (ok_iconst hB dX0_copyFrom_49) ?_
  refine fc (ok_aload_n hB dX0_copyFrom_50) ?_
  refine fc (okt_getR e1 hB hT fl_X0_21 rfl af_0_3 at_0_3 (by decide) dX0_copyFrom_51) ?_
  refine fc (ok_iconst hB dX0_copyFrom_54) ?_
  refine fc (ok_bipush hB dX0_copyFrom_55 (by decide)) ?_
  refine fc (okt_copy e1 hB (by rw [e2]; decide) wd_769 wd_663 wd_662 wd_20 dX0_copyFrom_57) ?_
  refine fc (ok_aload_n hB dX0_copyFrom_60) ?_
  refine fc (ok_aload_n hB dX0_copyFrom_61) ?_
  refine fc (ok_getI hB hT fl_X0_24 rfl rfl (Or.inl af_0_4) dX0_copyFrom_62) ?_
  refine fc (ok_putI hB hT fp_X0_24 rfl rfl rfl af_0_4 dX0_copyFrom_65) ?_
  refine fc (ok_aload_n hB dX0_copyFrom_68) ?_
  refine fc (ok_aload_n hB dX0_copyFrom_69) ?_
  refine fc (ok_getI hB hT fl_X0_28 rfl rfl (Or.inl af_0_5) dX0_copyFrom_70) ?_
  refine fc (ok_putI hB hT fp_X0_28 rfl rfl rfl af_0_5 dX0_copyFrom_73) ?_
  refine fc (ok_aload_n hB dX0_copyFrom_76) ?_
  refine fc (ok_aload_n hB dX0_copyFrom_77) ?_
  refine fc (ok_getI hB hT fl_X0_31 rfl rfl (Or.inl af_0_6) dX0_copyFrom_78) ?_
  refine fc (ok_putI hB hT fp_X0_31 rfl rfl rfl af_0_6 dX0_copyFrom_81) ?_
  refine fc (ok_vret hB dX0_copyFrom_84) ?_
  exact fn

def w_X0_copyFrom : WP := fun av σ Q => ∃ (a : Int) (r : Int), av = [(16, a), (16, r)] ∧ (a = 21 ∧ r = 16 ∧ Q (6, 0) (setAud σ 21 (aud σ 16)))
theorem w_X0_copyFrom_e (a : Int) (r : Int) (σ : Mem) (Q : AV → Mem → Prop) : w_X0_copyFrom [(16, a), (16, r)] σ Q = (a = 21 ∧ r = 16 ∧ Q (6, 0) (setAud σ 21 (aud σ 16))) := by
  apply propext; constructor
  · rintro ⟨a', r', h9, hb9⟩; cases h9; exact hb9
  · intro hb9; exact ⟨a, r, rfl, hb9⟩

set_option maxRecDepth 100000 in
set_option maxHeartbeats 4000000 in
theorem s_X0_copyFrom : ∀ av σ Q, w_X0_copyFrom av σ Q → amCall 1 0 0 TT yX0_copyFrom cX0_copyFrom 2 (none) av σ Q := by
  rintro av σ Q ⟨a, r, rfl, rfl, rfl, h⟩
  refine am_m0 (own := RX0) (A := look a_X0_copyFrom) (fun X e1 e2 hB => o_X0_copyFrom e1 e2 hB) rfl (by decide +kernel) rfl rfl 90 (w := 2) ?_
  change vcs _ _ _ _ 90 0 [(16, 21), (16, 16)] [] σ
  simp only [vI_e, vL_e, vNull_e, vIload_e, vLload_e, vAload_e, vIstore_e, vLstore_e, vAstore_e, vIinc_e, vIadd_e, vIsub_e, vImul_e, vIand_e, vIor_e, vIxor_e, vIshl_e, vIshr_e, vIushr_e, vIdiv_e, vIrem_e, vLadd_e, vLsub_e, vLmul_e, vLand_e, vLor_e, vLxor_e, vLdiv_e, vLrem_e, vLushr_e, vLshl_e, vLcmp_e, vIneg_e, vI2l_e, vL2i_e, vI2b_e, vI2c_e, vDup_e, vPop_e, vDup2_e, vGoto_e, vIcEq_e, vIfEq_e, vIcNe_e, vIfNe_e, vIcLt_e, vIfLt_e, vIcGe_e, vIfGe_e, vIcGt_e, vIfGt_e, vIcLe_e, vIfLe_e, vNonnull_e, vSw_e, vGetI_e, vGetL_e, vGetR_e, vPutI_e, vPutZ_e, vPutL_e, vPutR_e, vIald_e, vIald_s, vLald_e, vBald_e, vBald_s, vAald_e, vIast_e, vLast_e, vBast_e, vAast_e, vAlen_e8, vAlen_e9, vAlen_e10, vAlen_e11, vAlen_e5, vAlen_e3, vGets_e, vCompact_e, vLdcS_e, vIret_e, vZret_e, vCret_e, vBret_e, vLret_e, vVret_e, vAret_e, vCallM_e0, vCallMV_e0, vCallS_e0, vCallSV_e0, vCallM_e1, vCallMV_e1, vCallS_e1, vCallSV_e1, vCallM_e2, vCallMV_e2, vCallS_e2, vCallSV_e2, vCallM_e3, vCallMV_e3, vCallS_e3, vCallSV_e3, vCallM_e4, vCallMV_e4, vCallS_e4, vCallSV_e4, vCallM_e5, vCallMV_e5, vCallS_e5, vCallSV_e5, vCallM_e6, vCallMV_e6, vCallS_e6, vCallSV_e6, vCallM_e7, vCallMV_e7, vCallS_e7, vCallSV_e7, vBad_e, vStrVal_e, vStrCod_e, vForm_e, vCallT_e0, vCallT_e1, vCallT_e2, vCopy_e, rf_0_0, rf_0_1, rf_0_2, rf_0_3, rf_0_4, rf_0_7, rf_0_10, rf_0_11, rf_0_12, rf_0_13, rf_0_14, rf_0_15, rf_0_16, rf_1_0, rf_3_0, rf_3_1, rf_6_0, rf_6_1, rf_9_0, rf_9_1, rf_9_3, rf_13_0, rf_13_1, rf_13_2, rf_16_0, rf_16_1, rf_16_2, rf_16_3, rf_21_0, rf_21_1, rf_21_2, rf_21_3, rf_26_0, rf_26_1, rf_26_2, rf_26_3, rf_26_4, rf_26_5, rf_26_6, rf_31_0, rf_31_2, rf_31_5, rf_31_6, rf_36_0, rf_36_1, rf_36_2, rf_36_3, rf_39_0, rf_39_1, rf_39_2, rf_41_0, rf_41_1, rf_41_2, rf_41_3, rf_5000_1, rf_5000_2, rf_5000_3, rf_5000_4, rf_5000_5, rf_5000_15, rf_5000_16, rf_5000_18, rf_5000_19, rf_5000_20, rf_5000_21, rf_5000_22, rf_5000_23, rf_5000_24, rf_5000_25, rf_5000_26, rf_5000_27, rf_5000_36, rf_5000_37, rf_5000_40, rf_5000_41, rf_5000_42, rf_5000_43, rf_5000_44, rf_5000_45, rf_5000_47, rf_5000_52, rf_5000_54, rf_5000_55, rf_100_0, rf_100_1, rf_103_0, rf_103_1, rf_106_0, rf_106_1, rf_109_0, rf_109_1, al_2, al_4, al_5, al_7, al_8, al_10, al_11, al_12, al_14, al_15, al_17, al_18, al_19, al_20, al_22, al_23, al_24, al_25, al_27, al_28, al_29, al_30, al_32, al_33, al_34, al_35, al_37, al_38, al_40, al_42, al_5001, al_5002, al_5003, al_5004, al_5005, al_5006, al_5007, al_5008, al_5009, al_5010, al_5011, al_5012, al_5013, al_5014, al_5015, al_5016, al_5017, al_5018, al_5019, al_5020, al_5021, al_5022, al_5023, al_5024, al_5025, al_5026, al_9000, al_101, al_102, al_104, al_105, al_107, al_108, al_110, al_111, vcs_e, lg_c0, lg_cs, lg_nil, set_c0, set_cs, okst_0, okst_s, acok_n, acok_c, List.contains_nil, List.contains_cons, Bool.or_false, Bool.false_or, Bool.false_eq_true, if_false, if_true, ite_self, ne_eq, true_and, and_true, not_false_eq_true, not_true_eq_false, false_imp_iff, true_imp_iff, Nat.ble_eq, Bool.and_eq_true, reduceCtorEq, or_false, false_or, or_true, true_or, false_and, and_false, and_self, Int.reduceLE, Int.reduceAdd, Int.reduceSub, Int.reduceMul, Int.reduceNeg, Int.reduceLT, Int.reduceEq, Int.reduceNe, Nat.reduceBEq, Nat.reduceBNe, Nat.reduceEqDiff, amCmp_in, amCmp_lt, amCmp_le, amCmp_gt, amCmp_ge, amCmp_eq, amCmp_ne, Nat.reduceLeDiff, Nat.reduceSub, Bool.and_true, Bool.true_and, Bool.and_self, Bool.or_true, Bool.true_or, isRf_3, isRf_4, isRf_5, isRf_8, isRf_9, isRf_10, isRf_11, isRf_15, isRf_16, isRf_17, isRf_18, isRf_19, isRf_20, isRf_21, isRf_22, isRf_23, isRf_24, isRf_25, isRf_26, isRf_27, isRf_28, k_X0_copyFrom_0, k_X0_copyFrom_1, k_X0_copyFrom_4, k_X0_copyFrom_5, k_X0_copyFrom_6, k_X0_copyFrom_9, k_X0_copyFrom_10, k_X0_copyFrom_12, k_X0_copyFrom_15, k_X0_copyFrom_16, k_X0_copyFrom_19, k_X0_copyFrom_20, k_X0_copyFrom_21, k_X0_copyFrom_24, k_X0_copyFrom_25, k_X0_copyFrom_27, k_X0_copyFrom_30, k_X0_copyFrom_31, k_X0_copyFrom_34, k_X0_copyFrom_35, k_X0_copyFrom_36, k_X0_copyFrom_39, k_X0_copyFrom_40, k_X0_copyFrom_42, k_X0_copyFrom_45, k_X0_copyFrom_46, k_X0_copyFrom_49, k_X0_copyFrom_50, k_X0_copyFrom_51, k_X0_copyFrom_54, k_X0_copyFrom_55, k_X0_copyFrom_57, k_X0_copyFrom_60, k_X0_copyFrom_61, k_X0_copyFrom_62, k_X0_copyFrom_65, k_X0_copyFrom_68, k_X0_copyFrom_69, k_X0_copyFrom_70, k_X0_copyFrom_73, k_X0_copyFrom_76, k_X0_copyFrom_77, k_X0_copyFrom_78, k_X0_copyFrom_81, k_X0_copyFrom_84]
  have em : ∀ v5 v6 v7, v5 = σ 16 4 → v6 = σ 16 5 → v7 = σ 16 6 → up (up (up (cpy (cpy (cpy (cpy σ 17 0 22 0 6) 18 0 23 0 6) 19 0 24 0 6) 20 0 25 0 6) 21 4 v5) 21 5 v6) 21 6 v7 = setAud σ 21 (aud σ 16) := by
    rintro v5 v6 v7 rfl rfl rfl
    refine eq_setAud (fun b hb => ?_) (fun j => ?_) (fun j => ?_) (fun j => ?_) (fun j => ?_) (fun j => ?_)
    · rw [up_na _ (by omega), up_na _ (by omega), up_na _ (by omega), cpy_o _ (by omega), cpy_o _ (by omega), cpy_o _ (by omega), cpy_o _ (by omega)]
    · rw [up_na _ (by decide), up_na _ (by decide), up_na _ (by decide), cpy_o _ (by decide), cpy_o _ (by decide), cpy_o _ (by decide)]
      refine (cpy_s _ _ _ _ _ _ _).trans ?_
      by_cases g : 0 ≤ j ∧ j < 6
      · rw [if_pos g, if_pos (by omega), aud_1 _ _ _ (by omega)]; congr 1; omega
      · rw [if_neg g, if_neg (by omega)]; rfl
    · rw [up_na _ (by decide), up_na _ (by decide), up_na _ (by decide), cpy_o _ (by decide), cpy_o _ (by decide)]
      refine (cpy_s _ _ _ _ _ _ _).trans ?_
      by_cases g : 0 ≤ j ∧ j < 6
      · rw [if_pos g, if_pos (by omega), aud_2 _ _ _ (by omega) (by omega), cpy_o _ (by decide)]; congr 1; omega
      · rw [if_neg g, if_neg (by omega), cpy_o _ (by decide)]; rfl
    · rw [up_na _ (by decide), up_na _ (by decide), up_na _ (by decide), cpy_o _ (by decide)]
      refine (cpy_s _ _ _ _ _ _ _).trans ?_
      by_cases g : 0 ≤ j ∧ j < 6
      · rw [if_pos g, if_pos (by omega), aud_3 _ _ _ (by omega) (by omega), cpy_o _ (by decide), cpy_o _ (by decide)]; congr 1; omega
      · rw [if_neg g, if_neg (by omega), cpy_o _ (by decide), cpy_o _ (by decide)]; rfl
    · rw [up_na _ (by decide), up_na _ (by decide), up_na _ (by decide)]
      refine (cpy_s _ _ _ _ _ _ _).trans ?_
      by_cases g : 0 ≤ j ∧ j < 6
      · rw [if_pos g, if_pos (by omega), aud_4 _ _ _ (by omega) (by omega), cpy_o _ (by decide), cpy_o _ (by decide), cpy_o _ (by decide)]; congr 1; omega
      · rw [if_neg g, if_neg (by omega), cpy_o _ (by decide), cpy_o _ (by decide), cpy_o _ (by decide)]; rfl
    · rw [up3_at, cpy_o _ (by decide), cpy_o _ (by decide), cpy_o _ (by decide), cpy_o _ (by decide)]
      by_cases g : 4 ≤ j ∧ j < 7
      · rw [if_pos g, aud_5 _ _ _ (by omega)]
        have : j = 4 ∨ j = 5 ∨ j = 6 := by omega
        rcases this with rfl | rfl | rfl <;> rfl
      · rw [if_neg g, if_neg (by omega), if_neg (by omega), if_neg (by omega)]
  refine Qm h rfl (em _ _ _ ?_ ?_ ?_).symm <;> rfl
