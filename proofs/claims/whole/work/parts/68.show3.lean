/-! Stage: an EVENING -/
def swM (τ : Mem) (a m : Int) : Mem := fun b j => if b = a + 4 ∧ 0 ≤ j ∧ j < m then min 9999 (τ (a + 4) j + τ 29 j) else if b = a + 1 ∧ 0 ≤ j ∧ j < m ∧ τ 30 j ≠ -1 then max 0 (τ (a + 1) j - 1) else τ b j
theorem swM_0 (τ : Mem) (a : Int) : swM τ a (0 : Nat) = τ := by
  funext b j; unfold swM; rw [if_neg (by omega), if_neg (by omega)]
theorem swM_o (τ : Mem) (a m : Int) {b : Int} (h4 : b ≠ a + 4) (h1 : b ≠ a + 1) : swM τ a m b = τ b := by
  funext j; unfold swM; rw [if_neg (by omega), if_neg (by omega)]
theorem swM_4 (τ : Mem) (a m : Int) {j : Int} (h : m ≤ j) : swM τ a m (a + 4) j = τ (a + 4) j := by
  unfold swM; rw [if_neg (by omega), if_neg (by omega)]
theorem swM_1 (τ : Mem) (a m : Int) {j : Int} (h : m ≤ j) : swM τ a m (a + 1) j = τ (a + 1) j := by
  unfold swM; rw [if_neg (by omega), if_neg (by omega)]
theorem swM_r4 (τ : Mem) (a m j : Int) : swM τ a m (a + 4) j = if 0 ≤ j ∧ j < m then min 9999 (τ (a + 4) j + τ 29 j) else τ (a + 4) j := by
  unfold swM
  by_cases c : 0 ≤ j ∧ j < m
  · rw [if_pos c, if_pos ⟨rfl, c⟩]
  · rw [if_neg c, if_neg (fun q => c q.2), if_neg (fun q => by omega)]
theorem swM_r1 (τ : Mem) (a m j : Int) : swM τ a m (a + 1) j = if 0 ≤ j ∧ j < m ∧ τ 30 j ≠ -1 then max 0 (τ (a + 1) j - 1) else τ (a + 1) j := by
  unfold swM
  rw [if_neg (show ¬ (a + 1 = a + 4 ∧ 0 ≤ j ∧ j < m) by omega)]
  by_cases c : 0 ≤ j ∧ j < m ∧ τ 30 j ≠ -1
  · rw [if_pos c, if_pos ⟨rfl, c⟩]
  · rw [if_neg c, if_neg (fun q => c q.2)]
theorem swM_s4 {τ : Mem} {a : Int} {k : Nat} (j : Int) : upf (swM τ a k (a + 4)) k (min 9999 (τ (a + 4) k + τ 29 k)) j = swM τ a (k + 1 : Nat) (a + 4) j := by
  unfold upf
  rw [swM_r4, swM_r4]
  by_cases e : j = k
  · rw [if_pos e, if_pos (show 0 ≤ j ∧ j < ((k + 1 : Nat) : Int) by omega), e]
  · rw [if_neg e]
    by_cases d : 0 ≤ j ∧ j < k
    · rw [if_pos d, if_pos (show 0 ≤ j ∧ j < ((k + 1 : Nat) : Int) by omega)]
    · rw [if_neg d, if_neg (show ¬ (0 ≤ j ∧ j < ((k + 1 : Nat) : Int)) by omega)]
theorem swM_t {τ : Mem} {a : Int} {k : Nat} (h : τ 30 k ≠ -1) : up (up (swM τ a k) (a + 4) k (min 9999 (τ (a + 4) k + τ 29 k))) (a + 1) k (max 0 (τ (a + 1) k - 1)) = swM τ a (k + 1 : Nat) := by
  funext b j
  by_cases c4 : b = a + 4
  · subst c4
    rw [up_na _ (by omega), up_row]; exact swM_s4 j
  · by_cases c1 : b = a + 1
    · subst c1
      rw [up_row, up_na _ (by omega)]
      unfold upf
      rw [swM_r1, swM_r1]
      by_cases e : j = k
      · subst e; rw [if_pos rfl, if_pos (show 0 ≤ (k : Int) ∧ (k : Int) < ((k + 1 : Nat) : Int) ∧ τ 30 k ≠ -1 from ⟨by omega, by omega, h⟩)]
      · rw [if_neg e]
        by_cases d : 0 ≤ j ∧ j < k ∧ τ 30 j ≠ -1
        · rw [if_pos d, if_pos (show 0 ≤ j ∧ j < ((k + 1 : Nat) : Int) ∧ τ 30 j ≠ -1 from ⟨d.1, by omega, d.2.2⟩)]
        · rw [if_neg d, if_neg (fun q : 0 ≤ j ∧ j < ((k + 1 : Nat) : Int) ∧ τ 30 j ≠ -1 => d ⟨q.1, by omega, q.2.2⟩)]
    · rw [up_na _ c1, up_na _ c4, swM_o _ _ _ c4 c1, swM_o _ _ _ c4 c1]
theorem swM_f {τ : Mem} {a : Int} {k : Nat} (h : τ 30 k = -1) : up (swM τ a k) (a + 4) k (min 9999 (τ (a + 4) k + τ 29 k)) = swM τ a (k + 1 : Nat) := by
  funext b j
  by_cases c4 : b = a + 4
  · subst c4
    rw [up_row]; exact swM_s4 j
  · by_cases c1 : b = a + 1
    · subst c1
      rw [up_na _ (by omega), swM_r1, swM_r1]
      by_cases d : 0 ≤ j ∧ j < k ∧ τ 30 j ≠ -1
      · rw [if_pos d, if_pos (show 0 ≤ j ∧ j < ((k + 1 : Nat) : Int) ∧ τ 30 j ≠ -1 from ⟨d.1, by omega, d.2.2⟩)]
      · rw [if_neg d, if_neg (fun q : 0 ≤ j ∧ j < ((k + 1 : Nat) : Int) ∧ τ 30 j ≠ -1 => by
          by_cases e : j = k
          · subst e; exact q.2.2 h
          · exact d ⟨q.1, by omega, q.2.2⟩)]
    · rw [up_na _ c4, swM_o _ _ _ c4 c1, swM_o _ _ _ c4 c1]
/-- how it is behind an EVENING -/
def shP (σ υ : Mem) (a p : Int) : Prop := (∀ b, b ≠ a → b ≠ a + 1 → b ≠ a + 4 → b ≠ 26 → b ≠ 27 → b ≠ 28 → b ≠ 29 → b ≠ 30 → b ≠ 102 → b ≠ 105 → b ≠ 108 → b ≠ 111 → υ b = σ b) ∧ υ 26 1 = σ 26 1 ∧ (∀ j, υ a j = if j = 4 then 0 else if j = 6 then σ a 6 + 1 else σ a j) ∧
  (∀ j, υ (a + 1) j = if 0 ≤ j ∧ j < pcnt σ 6 2 ∧ pOa σ a p j ≠ -1 then max 0 (σ (a + 1) j - 1) else σ (a + 1) j) ∧ (∀ j, υ (a + 4) j = if 0 ≤ j ∧ j < pcnt σ 6 2 then min 9999 (σ (a + 4) j + pFl σ a p j) else σ (a + 4) j) ∧ (∀ i, 0 ≤ i → i < pcnt σ 6 2 → υ 29 i = pFl σ a p i ∧ υ 30 i = pOa σ a p i)

theorem wd_775 : Cond.methodLink RX9 125 yX9_playAll ∈ TBL := tb_tab (List.mem_of_getElem? (i := 775) (by decide +kernel)) rfl
theorem wd_778 : Cond.code yX9_playAll cX9_playAll 4 (none) ∈ TBL := tb_tab (List.mem_of_getElem? (i := 778) (by decide +kernel)) rfl
theorem lk_X9_125 : amLk RX9 125 yX9_playAll cX9_playAll 4 (none) 2 := ⟨wd_775, wd_7, wd_778, by decide +kernel, by decide +kernel, by decide⟩
theorem wd_776 : Cond.instanceMethod yX9_playAll ∈ TBL := tb_tab (List.mem_of_getElem? (i := 776) (by decide +kernel)) rfl
theorem wd_777 : Cond.selects RX9 yX9_playAll yX9_playAll ∈ TBL := tb_tab (List.mem_of_getElem? (i := 777) (by decide +kernel)) rfl
theorem wd_834 : Cond.methodLink RX9 129 yX0_weep ∈ TBL := tb_tab (List.mem_of_getElem? (i := 834) (by decide +kernel)) rfl
theorem wd_837 : Cond.code yX0_weep cX0_weep 3 (none) ∈ TBL := tb_tab (List.mem_of_getElem? (i := 837) (by decide +kernel)) rfl
theorem lk_X9_129 : amLk RX9 129 yX0_weep cX0_weep 3 (none) 2 := ⟨wd_834, wd_6, wd_837, by decide +kernel, by decide +kernel, by decide⟩
theorem wd_835 : Cond.instanceMethod yX0_weep ∈ TBL := tb_tab (List.mem_of_getElem? (i := 835) (by decide +kernel)) rfl
theorem wd_836 : Cond.selects RX0 yX0_weep yX0_weep ∈ TBL := tb_tab (List.mem_of_getElem? (i := 836) (by decide +kernel)) rfl
theorem wd_840 : Cond.methodLink RX9 133 yX0_harden ∈ TBL := tb_tab (List.mem_of_getElem? (i := 840) (by decide +kernel)) rfl
theorem wd_843 : Cond.code yX0_harden cX0_harden 2 (none) ∈ TBL := tb_tab (List.mem_of_getElem? (i := 843) (by decide +kernel)) rfl
theorem lk_X9_133 : amLk RX9 133 yX0_harden cX0_harden 2 (none) 1 := ⟨wd_840, wd_6, wd_843, by decide +kernel, by decide +kernel, by decide⟩
theorem wd_841 : Cond.instanceMethod yX0_harden ∈ TBL := tb_tab (List.mem_of_getElem? (i := 841) (by decide +kernel)) rfl
theorem wd_842 : Cond.selects RX0 yX0_harden yX0_harden ∈ TBL := tb_tab (List.mem_of_getElem? (i := 842) (by decide +kernel)) rfl
theorem wd_155 : Cond.fieldLink RX9 136 "ArmchairHouse$Audience" "illBits" "I" ∈ TBL := tb_tab (List.mem_of_getElem? (i := 155) (by decide +kernel)) rfl
theorem fl_X9_136 : amFl RX9 0 4 136 RX0 TX0 7 := ⟨rfl, inT_0, by decide, wd_155⟩
theorem fp_X9_136 : amFp RX9 0 4 136 RX0 TX0 7 tyX0 .int := ⟨fl_X9_136, tyX0_ok, nmX0, by decide +kernel⟩
theorem fp_X9_82 : amFp RX9 0 6 82 RX0 TX0 7 tyX0 .int := ⟨fl_X9_82, tyX0_ok, nmX0, by decide +kernel⟩
theorem wd_845 : Cond.methodLink RX9 139 yX9_allFelt ∈ TBL := tb_tab (List.mem_of_getElem? (i := 845) (by decide +kernel)) rfl
theorem wd_848 : Cond.code yX9_allFelt cX9_allFelt 1 (some .int) ∈ TBL := tb_tab (List.mem_of_getElem? (i := 848) (by decide +kernel)) rfl
theorem lk_X9_139 : amLk RX9 139 yX9_allFelt cX9_allFelt 1 (some .int) 0 := ⟨wd_845, wd_7, wd_848, by decide +kernel, by decide +kernel, by decide⟩
theorem wd_846 : Cond.instanceMethod yX9_allFelt ∈ TBL := tb_tab (List.mem_of_getElem? (i := 846) (by decide +kernel)) rfl
theorem wd_847 : Cond.selects RX9 yX9_allFelt yX9_allFelt ∈ TBL := tb_tab (List.mem_of_getElem? (i := 847) (by decide +kernel)) rfl
def a_X9_show : AC := [(0, vAload 0 1), (1, vAload 1 2), (2, vIload 2 3), (3, vCallMV w_X9_playAll 25 2 6), (6, vI 0 7), (7, vIstore 3 8), (8, vIload 3 9), (9, vAload 0 10), (10, vGetR TT 25 0 22 13), (13, vI 2 14), (14, vCallM w_X6_many 22 1 17), (17, vIcGe 58 20), (20, vIload 3 21), (21, vI 6 23), (23, vIcGe 58 26), (26, vAload 1 27), (27, vIload 3 28), (28, vAload 0 29), (29, vGetR TT 25 4 8 32), (32, vIload 3 33), (33, vIald TT 34), (34, vCallMV w_X0_weep 16 2 37), (37, vAload 0 38), (38, vGetR TT 25 5 8 41), (41, vIload 3 42), (42, vIald TT 43), (43, vI (-1) 44), (44, vIcEq 52 47), (47, vAload 1 48), (48, vIload 3 49), (49, vCallMV w_X0_harden 16 1 52), (52, vIinc 3 1 55), (55, vGoto 8), (58, vAload 1 59), (59, vI 0 60), (60, vPutI 16 4 63), (63, vAload 1 64), (64, vDup 65), (65, vGetI 16 6 68), (68, vI 1 69), (69, vIadd 70), (70, vPutI 16 6 73), (73, vAload 0 74), (74, vCallM w_X9_allFelt 25 0 77), (77, vIret)]
theorem k_X9_show_0 : look a_X9_show 0 = vAload 0 1 := rfl
theorem k_X9_show_1 : look a_X9_show 1 = vAload 1 2 := rfl
theorem k_X9_show_2 : look a_X9_show 2 = vIload 2 3 := rfl
theorem k_X9_show_3 : look a_X9_show 3 = vCallMV w_X9_playAll 25 2 6 := rfl
theorem k_X9_show_6 : look a_X9_show 6 = vI 0 7 := rfl
theorem k_X9_show_7 : look a_X9_show 7 = vIstore 3 8 := rfl
theorem k_X9_show_8 : look a_X9_show 8 = vIload 3 9 := rfl
theorem k_X9_show_9 : look a_X9_show 9 = vAload 0 10 := rfl
theorem k_X9_show_10 : look a_X9_show 10 = vGetR TT 25 0 22 13 := rfl
theorem k_X9_show_13 : look a_X9_show 13 = vI 2 14 := rfl
theorem k_X9_show_14 : look a_X9_show 14 = vCallM w_X6_many 22 1 17 := rfl
theorem k_X9_show_17 : look a_X9_show 17 = vIcGe 58 20 := rfl
theorem k_X9_show_20 : look a_X9_show 20 = vIload 3 21 := rfl
theorem k_X9_show_21 : look a_X9_show 21 = vI 6 23 := rfl
theorem k_X9_show_23 : look a_X9_show 23 = vIcGe 58 26 := rfl
theorem k_X9_show_26 : look a_X9_show 26 = vAload 1 27 := rfl
theorem k_X9_show_27 : look a_X9_show 27 = vIload 3 28 := rfl
theorem k_X9_show_28 : look a_X9_show 28 = vAload 0 29 := rfl
theorem k_X9_show_29 : look a_X9_show 29 = vGetR TT 25 4 8 32 := rfl
theorem k_X9_show_32 : look a_X9_show 32 = vIload 3 33 := rfl
theorem k_X9_show_33 : look a_X9_show 33 = vIald TT 34 := rfl
theorem k_X9_show_34 : look a_X9_show 34 = vCallMV w_X0_weep 16 2 37 := rfl
theorem k_X9_show_37 : look a_X9_show 37 = vAload 0 38 := rfl
theorem k_X9_show_38 : look a_X9_show 38 = vGetR TT 25 5 8 41 := rfl
theorem k_X9_show_41 : look a_X9_show 41 = vIload 3 42 := rfl
theorem k_X9_show_42 : look a_X9_show 42 = vIald TT 43 := rfl
theorem k_X9_show_43 : look a_X9_show 43 = vI (-1) 44 := rfl
theorem k_X9_show_44 : look a_X9_show 44 = vIcEq 52 47 := rfl
theorem k_X9_show_47 : look a_X9_show 47 = vAload 1 48 := rfl
theorem k_X9_show_48 : look a_X9_show 48 = vIload 3 49 := rfl
theorem k_X9_show_49 : look a_X9_show 49 = vCallMV w_X0_harden 16 1 52 := rfl
theorem k_X9_show_52 : look a_X9_show 52 = vIinc 3 1 55 := rfl
theorem k_X9_show_55 : look a_X9_show 55 = vGoto 8 := rfl
theorem k_X9_show_58 : look a_X9_show 58 = vAload 1 59 := rfl
theorem k_X9_show_59 : look a_X9_show 59 = vI 0 60 := rfl
theorem k_X9_show_60 : look a_X9_show 60 = vPutI 16 4 63 := rfl
theorem k_X9_show_63 : look a_X9_show 63 = vAload 1 64 := rfl
theorem k_X9_show_64 : look a_X9_show 64 = vDup 65 := rfl
theorem k_X9_show_65 : look a_X9_show 65 = vGetI 16 6 68 := rfl
theorem k_X9_show_68 : look a_X9_show 68 = vI 1 69 := rfl
theorem k_X9_show_69 : look a_X9_show 69 = vIadd 70 := rfl
theorem k_X9_show_70 : look a_X9_show 70 = vPutI 16 6 73 := rfl
theorem k_X9_show_73 : look a_X9_show 73 = vAload 0 74 := rfl
theorem k_X9_show_74 : look a_X9_show 74 = vCallM w_X9_allFelt 25 0 77 := rfl
theorem k_X9_show_77 : look a_X9_show 77 = vIret := rfl
theorem o_X9_show {X : amX} (e1 : XT X = TT) (e2 : XD X = 6) (hB : amB X RX9 cX9_show (some .int) 4) : ∀ pc, amOK X pc (look a_X9_show pc) := by
  have hT : amTok (XT X) := e1 ▸ TT_ok
  refine look_ok ?_
  unfold a_X9_show
  refine fc (ok_aload_n hB dX9_show_0) ?_
  refine fc (ok_aload_n hB dX9_show_1) ?_
  refine fc (ok_iload_n hB dX9_show_2) ?_
  refine fc (ok_callMV hB hT (e1 ▸ s_X9_playAll) lk_X9_125 (by rw [e2]; decide) (c := 9) rfl rfl rfl wd_776 wd_777 dX9_show_3) ?_
  refine fc (ok_iconst hB dX9_show_6) ?_
  refine fc (ok_istore_n hB (by decide) dX9_show_7) ?_
  refine fc (ok_iload_n hB dX9_show_8) ?_
  refine fc (ok_aload_n hB dX9_show_9) ?_
  refine fc (okt_getR e1 hB hT fl_X9_35 rfl af_9_0 at_9_0 (by decide) dX9_show_10) ?_
  refine fc (ok_iconst hB dX9_show_13) ?_
  refine fc (ok_callM hB hT (e1 ▸ s_X6_many) lk_X9_109 (by rw [e2]; decide) (c := 6) rfl rfl rfl wd_557 wd_558 dX9_show_14) ?_
  refine fc (ok_icmp_ge hB (t := 58) (by decide) dX9_show_17) ?_
  refine fc (ok_iload_n hB dX9_show_20) ?_
  refine fc (ok_bipush hB dX9_show_21 (by decide)) ?_
  refine fc (ok_icmp_ge hB (t := 58) (by decide) dX9_show_23) ?_
  refine fc (ok_aload_n hB dX9_show_26) ?_
  refine fc (ok_iload_n hB dX9_show_27) ?_
  refine fc (ok_aload_n hB dX9_show_28) ?_
  refine fc (okt_getR e1 hB hT fl_X9_22 rfl af_9_4 at_9_4 (by decide) dX9_show_29) ?_
  refine fc (ok_iload_n hB dX9_show_32) ?_
  refine fc (okt_iaload e1 hB dX9_show_33) ?_
  refine fc (ok_callMV hB hT (e1 ▸ s_X0_weep) lk_X9_129 (by rw [e2]; decide) (c := 0) rfl rfl rfl wd_835 wd_836 dX9_show_34) ?_
  refine fc (ok_aload_n hB dX9_show_37) ?_
  refine fc (okt_getR e1 hB hT fl_X9_25 rfl af_9_5 at_9_5 (by decide) dX9_show_38) ?_
  refine fc (ok_iload_n hB dX9_show_41) ?_
  refine fc (okt_iaload e1 hB dX9_show_42) ?_
  refine fc (ok_iconst hB dX9_show_43) ?_
  refine fc (ok_icmp_eq hB (t := 52) (by decide) dX9_show_44) ?_
  refine fc (ok_aload_n hB dX9_show_47) ?_
  refine fc (ok_iload_n hB dX9_show_48) ?_
  refine fc (ok_callMV hB hT (e1 ▸ s_X0_harden) lk_X9_133 (by rw [e2]; decide) (c := 0) rfl rfl rfl wd_841 wd_842 dX9_show_49) ?_
  refine fc (ok_iinc hB (by decide) dX9_show_52) ?_
  refine fc (ok_goto hB (t := 8) (by decide) dX9_show_55) ?_
  refine fc (ok_aload_n hB dX9_show_58) ?_
  refine fc (ok_iconst hB dX9_show_59) ?_
  refine fc (ok_putI hB hT fp_X9_136 rfl rfl rfl af_0_4 dX9_show_60) ?_
  refine fc (ok_aload_n hB dX9_show_63) ?_
  refine fc (ok_dup hB dX9_show_64) ?_
  refine fc (ok_getI hB hT fl_X9_82 rfl rfl (Or.inl af_0_6) dX9_show_65) ?_
  refine fc (ok_iconst hB dX9_show_68) ?_
  refine fc (ok_iadd hB dX9_show_69) ?_
  refine fc (ok_putI hB hT fp_X9_82 rfl rfl rfl af_0_6 dX9_show_70) ?_
  refine fc (ok_aload_n hB dX9_show_73) ?_
  refine fc (ok_callM hB hT (e1 ▸ s_X9_allFelt) lk_X9_139 (by rw [e2]; decide) (c := 9) rfl rfl rfl wd_846 wd_847 dX9_show_74) ?_
  refine fc (ok_iret hB dX9_show_77) ?_
  exact fn
def inv_show (σ : Mem) (a p : Int) (n pc : Nat) (ls st : List AV) (σ' : Mem) : Prop := pc = 8 ∧ st = [] ∧ ∃ (k : Nat) (τ : Mem), ls = [(25, 26), (16, a), (0, p), (0, (k : Int))] ∧ (k : Int) + n = pcnt σ 6 2 ∧ SF σ τ ∧ (∀ i, 0 ≤ i → i < pcnt σ 6 2 → τ 29 i = pFl σ a p i ∧ τ 30 i = pOa σ a p i) ∧ σ' = swM τ a k
def w_X9_show : WP := fun av σ Q => ∃ (a : Int) (p : Int), av = [(25, 26), (16, a), (0, p)] ∧ (stOk σ a ∧ InR p ∧ pval σ 6 1 p 3 ≤ 9 ∧ (∀ i, 0 ≤ i → i < 6 → InR (σ (a + 2) i)) ∧ (∀ i, 0 ≤ i → i < pcnt σ 6 2 → (0 ≤ σ (a + 2) i ∧ σ (a + 2) i < pcnt σ 6 3) ∧ 0 ≤ σ (a + 4) i ∧ σ (a + 4) i ≤ 9999) ∧ (∀ υ, shP σ υ a p → Q (0, sumC (pFl σ a p) (pcnt σ 6 2).toNat) υ))
theorem w_X9_show_e (a : Int) (p : Int) (σ : Mem) (Q : AV → Mem → Prop) : w_X9_show [(25, 26), (16, a), (0, p)] σ Q = (stOk σ a ∧ InR p ∧ pval σ 6 1 p 3 ≤ 9 ∧ (∀ i, 0 ≤ i → i < 6 → InR (σ (a + 2) i)) ∧ (∀ i, 0 ≤ i → i < pcnt σ 6 2 → (0 ≤ σ (a + 2) i ∧ σ (a + 2) i < pcnt σ 6 3) ∧ 0 ≤ σ (a + 4) i ∧ σ (a + 4) i ≤ 9999) ∧ (∀ υ, shP σ υ a p → Q (0, sumC (pFl σ a p) (pcnt σ 6 2).toNat) υ)) := by
  apply propext; constructor
  · rintro ⟨a', p', h9, hb9⟩; cases h9; exact hb9
  · intro hb9; exact ⟨a, p, rfl, hb9⟩

set_option maxRecDepth 100000 in
set_option maxHeartbeats 4000000 in
theorem s_X9_show : ∀ av σ Q, w_X9_show av σ Q → amCall 6 0 0 TT yX9_show cX9_show 4 (some .int) av σ Q := by
  rintro av σ Q ⟨a, p, rfl, hst, hp, h9, hse, hte, h⟩
  have ha := hst.1
  have hab := isA_b ha
  have hB := hst.2.1
  have c2 := pcnt_b hB 2
  have p0 : (0 : Int) ≤ a := by omega
  have hne : ∀ j : Int, 0 ≤ j → j ≤ 4 → 9 ≤ a + j ∧ a + j < 26 := fun j _ _ => by rcases ha with rfl | rfl <;> omega
  have n1 := hne 1 (by omega) (by omega)
  have n4 := hne 4 (by omega) (by omega)
  refine am_m [8] (inv_show σ a p) (own := RX9) (A := look a_X9_show) (fun X e1 e2 hB => o_X9_show e1 e2 hB) rfl (by decide +kernel) rfl rfl ?_ ⟨60, ?_⟩ (w := 4)
  · rintro n pc ls st σ' ⟨rfl, rfl, k, τ, rfl, hk, hF, hf, rfl⟩
    have o2 : swM τ a k (6 + 2) = τ (6 + 2) := swM_o τ a k (by omega) (by omega)
    have pc2 : pcnt (swM τ a k) 6 2 = pcnt σ 6 2 := by rw [pcnt_cong o2]; exact SF_pcnt hF 2
    have o29 : swM τ a k 29 = τ 29 := swM_o τ a k (by omega) (by omega)
    have o30 : swM τ a k 30 = τ 30 := swM_o τ a k (by omega) (by omega)
    obtain ⟨ra, ra1, ra2, ra3, ra4⟩ := SF_a hF ha
    by_cases hlt : (k : Int) < pcnt σ 6 2
    · have hfk := hf k (by omega) hlt
      have fb := pFl_b (a := a) hB h9 (i := k) (by omega) (by omega)
      have ob := pOa_b (a := a) (i := k) hB h9
      have s4 : swM τ a k (a + 4) k = τ (a + 4) k := swM_4 τ a k (by omega)
      have s1 : ∀ v, up (swM τ a k) (a + 4) k v (a + 1) k = τ (a + 1) k := fun v => by rw [up_na _ (by omega)]; exact swM_1 τ a k (by omega)
      have u30 : ∀ v, up (swM τ a k) (a + 4) k v 30 = τ 30 := fun v => by rw [up_na _ (by omega)]; exact o30
      have htk := hte k (by omega) hlt
      have hhk := hst.2.2.2.1 k (by omega) (by omega)
      have e4 : τ (a + 4) k = σ (a + 4) k := by rw [ra4]
      have e1 : τ (a + 1) k = σ (a + 1) k := by rw [ra1]
      refine ⟨90, ?_⟩
      simp only [↓reduceIte, inR_0, inR_1, inR_m, vSw2_e, swP_n, swP_c, vI_e, vL_e, vNull_e, vIload_e, vLload_e, vAload_e, vIstore_e, vLstore_e, vAstore_e, vIinc_e, vIadd_e, vIsub_e, vImul_e, vIand_e, vIor_e, vIxor_e, vIshl_e, vIshr_e, vIushr_e, vIdiv_e, vIrem_e, vLadd_e, vLsub_e, vLmul_e, vLand_e, vLor_e, vLxor_e, vLdiv_e, vLrem_e, vLushr_e, vLshl_e, vLcmp_e, vIneg_e, vI2l_e, vL2i_e, vI2b_e, vI2c_e, vDup_e, vPop_e, vDup2_e, vGoto_e, vIcEq_e, vIfEq_e, vIcNe_e, vIfNe_e, vIcLt_e, vIfLt_e, vIcGe_e, vIfGe_e, vIcGt_e, vIfGt_e, vIcLe_e, vIfLe_e, vNonnull_e, vSw_e, vGetI_e, vGetL_e, vGetR_e, vPutI_e, vPutZ_e, vPutL_e, vPutR_e, vIald_e, vIald_s, vLald_e, vBald_e, vBald_s, vAald_e, vIast_e, vLast_e, vBast_e, vAast_e, vAlen_e8, vAlen_e9, vAlen_e10, vAlen_e11, vAlen_e5, vAlen_e3, vGets_e, vCompact_e, vLdcS_e, vIret_e, vZret_e, vCret_e, vBret_e, vLret_e, vVret_e, vAret_e, vCallM_e0, vCallMV_e0, vCallS_e0, vCallSV_e0, vCallM_e1, vCallMV_e1, vCallS_e1, vCallSV_e1, vCallM_e2, vCallMV_e2, vCallS_e2, vCallSV_e2, vCallM_e3, vCallMV_e3, vCallS_e3, vCallSV_e3, vCallM_e4, vCallMV_e4, vCallS_e4, vCallSV_e4, vCallM_e5, vCallMV_e5, vCallS_e5, vCallSV_e5, vCallM_e6, vCallMV_e6, vCallS_e6, vCallSV_e6, vCallM_e7, vCallMV_e7, vCallS_e7, vCallSV_e7, vBad_e, vStrVal_e, vStrCod_e, vForm_e, vCallT_e0, vCallT_e1, vCallT_e2, vCopy_e, rf_0_0, rf_0_1, rf_0_2, rf_0_3, rf_0_4, rf_0_7, rf_0_10, rf_0_11, rf_0_12, rf_0_13, rf_0_14, rf_0_15, rf_0_16, rf_1_0, rf_3_0, rf_3_1, rf_6_0, rf_6_1, rf_9_0, rf_9_1, rf_9_3, rf_13_0, rf_13_1, rf_13_2, rf_16_0, rf_16_1, rf_16_2, rf_16_3, rf_21_0, rf_21_1, rf_21_2, rf_21_3, rf_26_0, rf_26_1, rf_26_2, rf_26_3, rf_26_4, rf_26_5, rf_26_6, rf_31_0, rf_31_2, rf_31_5, rf_31_6, rf_36_0, rf_36_1, rf_36_2, rf_36_3, rf_39_0, rf_39_1, rf_39_2, rf_41_0, rf_41_1, rf_41_2, rf_41_3, rf_5000_1, rf_5000_2, rf_5000_3, rf_5000_4, rf_5000_5, rf_5000_15, rf_5000_16, rf_5000_18, rf_5000_19, rf_5000_20, rf_5000_21, rf_5000_22, rf_5000_23, rf_5000_24, rf_5000_25, rf_5000_26, rf_5000_27, rf_5000_36, rf_5000_37, rf_5000_40, rf_5000_41, rf_5000_42, rf_5000_43, rf_5000_44, rf_5000_45, rf_5000_47, rf_5000_52, rf_5000_54, rf_5000_55, rf_100_0, rf_100_1, rf_103_0, rf_103_1, rf_106_0, rf_106_1, rf_109_0, rf_109_1, al_2, al_4, al_5, al_7, al_8, al_10, al_11, al_12, al_14, al_15, al_17, al_18, al_19, al_20, al_22, al_23, al_24, al_25, al_27, al_28, al_29, al_30, al_32, al_33, al_34, al_35, al_37, al_38, al_40, al_42, al_5001, al_5002, al_5003, al_5004, al_5005, al_5006, al_5007, al_5008, al_5009, al_5010, al_5011, al_5012, al_5013, al_5014, al_5015, al_5016, al_5017, al_5018, al_5019, al_5020, al_5021, al_5022, al_5023, al_5024, al_5025, al_5026, al_9000, al_101, al_102, al_104, al_105, al_107, al_108, al_110, al_111, vcs_e, lg_c0, lg_cs, lg_nil, set_c0, set_cs, okst_0, okst_s, acok_n, acok_c, List.contains_nil, List.contains_cons, Bool.or_false, Bool.false_or, Bool.false_eq_true, if_false, if_true, ite_self, ne_eq, true_and, and_true, not_false_eq_true, not_true_eq_false, false_imp_iff, true_imp_iff, Nat.ble_eq, Bool.and_eq_true, reduceCtorEq, or_false, false_or, or_true, true_or, false_and, and_false, and_self, Int.reduceLE, Int.reduceAdd, Int.reduceSub, Int.reduceMul, Int.reduceNeg, Int.reduceLT, Int.reduceEq, Int.reduceNe, Nat.reduceBEq, Nat.reduceBNe, Nat.reduceEqDiff, amCmp_in, amCmp_lt, amCmp_le, amCmp_gt, amCmp_ge, amCmp_eq, amCmp_ne, Nat.reduceLeDiff, Nat.reduceSub, Bool.and_true, Bool.true_and, Bool.and_self, Bool.or_true, Bool.true_or, isRf_3, isRf_4, isRf_5, isRf_8, isRf_9, isRf_10, isRf_11, isRf_15, isRf_16, isRf_17, isRf_18, isRf_19, isRf_20, isRf_21, isRf_22, isRf_23, isRf_24, isRf_25, isRf_26, isRf_27, isRf_28, k_X9_show_0, k_X9_show_1, k_X9_show_2, k_X9_show_3, k_X9_show_6, k_X9_show_7, k_X9_show_8, k_X9_show_9, k_X9_show_10, k_X9_show_13, k_X9_show_14, k_X9_show_17, k_X9_show_20, k_X9_show_21, k_X9_show_23, k_X9_show_26, k_X9_show_27, k_X9_show_28, k_X9_show_29, k_X9_show_32, k_X9_show_33, k_X9_show_34, k_X9_show_37, k_X9_show_38, k_X9_show_41, k_X9_show_42, k_X9_show_43, k_X9_show_44, k_X9_show_47, k_X9_show_48, k_X9_show_49, k_X9_show_52, k_X9_show_55, k_X9_show_58, k_X9_show_59, k_X9_show_60, k_X9_show_63, k_X9_show_64, k_X9_show_65, k_X9_show_68, k_X9_show_69, k_X9_show_70, k_X9_show_73, k_X9_show_74, k_X9_show_77, w_X0_harden_e, w_X0_weep_e, w_X6_many_e, w_X9_allFelt_e, w_X9_playAll_e, pc2, o29, s4, s1, u30, p0]
      by_cases c : τ 30 k = -1
      · have i9 : ∃ k', k' < n ∧ inv_show σ a p k' 8 [(25, 26), (16, a), (0, p), (0, (k : Int) + 1)] [] (up (swM τ a k) (a + 4) k (min 9999 (τ (a + 4) k + τ 29 k))) := ⟨n - 1, by omega, rfl, rfl, k + 1, τ, rfl, by omega, hF, hf, swM_f c⟩
        repeat' (first | assumption | apply And.intro | intro _)
        all_goals first | omega | exact absurd trivial (by assumption) | exact Or.inr rfl | exact ha | exact i9
      · have i9 : ∃ k', k' < n ∧ inv_show σ a p k' 8 [(25, 26), (16, a), (0, p), (0, (k : Int) + 1)] [] (up (up (swM τ a k) (a + 4) k (min 9999 (τ (a + 4) k + τ 29 k))) (a + 1) k (max 0 (τ (a + 1) k - 1))) := ⟨n - 1, by omega, rfl, rfl, k + 1, τ, rfl, by omega, hF, hf, swM_t c⟩
        repeat' (first | assumption | apply And.intro | intro _)
        all_goals first | omega | exact absurd trivial (by assumption) | exact Or.inr rfl | exact ha | exact i9
    · have e9 : (k : Int) = pcnt σ 6 2 := by omega
      rw [e9] at pc2 o29 o30 ⊢
      have oa : swM τ a (pcnt σ 6 2) a = σ a := by rw [swM_o τ a _ (by omega) (by omega)]; exact ra
      have hsum : sumC (τ 29) (pcnt σ 6 2).toNat = sumC (pFl σ a p) (pcnt σ 6 2).toNat := sumC_cong (fun i i0 i1 => (hf i i0 (by omega)).1)
      have hP : shP σ (up (up (swM τ a (pcnt σ 6 2)) a 4 0) a 6 (σ a 6 + 1)) a p := by
        have oo : ∀ b, b ≠ a → up (up (swM τ a (pcnt σ 6 2)) a 4 0) a 6 (σ a 6 + 1) b = swM τ a (pcnt σ 6 2) b := fun b hb => by rw [up_na _ hb, up_na _ hb]
        refine ⟨fun b h1 h2 h3 h4 h5 h6 h7 h8 h9 h10 h11 h12 => ?_, ?_, fun j => ?_, fun j => ?_, fun j => ?_, fun i i0 i1 => ?_⟩
        · rw [oo b h1, swM_o τ a _ h3 h2]; exact hF.1 b h4 h5 h6 h7 h8 h9 h10 h11 h12
        · rw [oo 26 (by omega), swM_o τ a _ (by omega) (by omega)]; exact hF.2
        · by_cases j6 : j = 6
          · rw [j6, up_s, if_neg (by decide), if_pos rfl]
          · rw [up_nj _ j6]
            by_cases j4 : j = 4
            · rw [j4, up_s, if_pos rfl]
            · rw [up_nj _ j4, oa, if_neg j4, if_neg j6]
        · rw [oo (a + 1) (by omega)]
          unfold swM
          rw [if_neg (by omega)]
          by_cases c : 0 ≤ j ∧ j < pcnt σ 6 2 ∧ pOa σ a p j ≠ -1
          · rw [if_pos c, if_pos ⟨rfl, c.1, c.2.1, by rw [(hf j c.1 c.2.1).2]; exact c.2.2⟩, ra1]
          · rw [if_neg c, if_neg (fun q => c ⟨q.2.1, q.2.2.1, by rw [← (hf j q.2.1 q.2.2.1).2]; exact q.2.2.2⟩), ra1]
        · rw [oo (a + 4) (by omega)]
          unfold swM
          by_cases c : 0 ≤ j ∧ j < pcnt σ 6 2
          · rw [if_pos c, if_pos ⟨rfl, c⟩, (hf j c.1 c.2).1, ra4]
          · rw [if_neg c, if_neg (fun q => c q.2), if_neg (by omega), ra4]
        · rw [oo 29 (by omega), oo 30 (by omega), o29, o30]; exact hf i i0 i1
      have hh := h _ hP
      have e29 : up (up (swM τ a (pcnt σ 6 2)) a 4 0) a 6 (σ a 6 + 1) 29 = τ 29 := by rw [up_na _ (by omega), up_na _ (by omega)]; exact o29
      have ec : pcnt (up (up (swM τ a (pcnt σ 6 2)) a 4 0) a 6 (σ a 6 + 1)) 6 2 = pcnt σ 6 2 := by rw [pcnt_cong (σ := swM τ a (pcnt σ 6 2)) (by rw [up_na _ (by omega), up_na _ (by omega)])]; exact pc2
      refine ⟨90, ?_⟩
      simp only [↓reduceIte, inR_0, inR_1, inR_m, vSw2_e, swP_n, swP_c, vI_e, vL_e, vNull_e, vIload_e, vLload_e, vAload_e, vIstore_e, vLstore_e, vAstore_e, vIinc_e, vIadd_e, vIsub_e, vImul_e, vIand_e, vIor_e, vIxor_e, vIshl_e, vIshr_e, vIushr_e, vIdiv_e, vIrem_e, vLadd_e, vLsub_e, vLmul_e, vLand_e, vLor_e, vLxor_e, vLdiv_e, vLrem_e, vLushr_e, vLshl_e, vLcmp_e, vIneg_e, vI2l_e, vL2i_e, vI2b_e, vI2c_e, vDup_e, vPop_e, vDup2_e, vGoto_e, vIcEq_e, vIfEq_e, vIcNe_e, vIfNe_e, vIcLt_e, vIfLt_e, vIcGe_e, vIfGe_e, vIcGt_e, vIfGt_e, vIcLe_e, vIfLe_e, vNonnull_e, vSw_e, vGetI_e, vGetL_e, vGetR_e, vPutI_e, vPutZ_e, vPutL_e, vPutR_e, vIald_e, vIald_s, vLald_e, vBald_e, vBald_s, vAald_e, vIast_e, vLast_e, vBast_e, vAast_e, vAlen_e8, vAlen_e9, vAlen_e10, vAlen_e11, vAlen_e5, vAlen_e3, vGets_e, vCompact_e, vLdcS_e, vIret_e, vZret_e, vCret_e, vBret_e, vLret_e, vVret_e, vAret_e, vCallM_e0, vCallMV_e0, vCallS_e0, vCallSV_e0, vCallM_e1, vCallMV_e1, vCallS_e1, vCallSV_e1, vCallM_e2, vCallMV_e2, vCallS_e2, vCallSV_e2, vCallM_e3, vCallMV_e3, vCallS_e3, vCallSV_e3, vCallM_e4, vCallMV_e4, vCallS_e4, vCallSV_e4, vCallM_e5, vCallMV_e5, vCallS_e5, vCallSV_e5, vCallM_e6, vCallMV_e6, vCallS_e6, vCallSV_e6, vCallM_e7, vCallMV_e7, vCallS_e7, vCallSV_e7, vBad_e, vStrVal_e, vStrCod_e, vForm_e, vCallT_e0, vCallT_e1, vCallT_e2, vCopy_e, rf_0_0, rf_0_1, rf_0_2, rf_0_3, rf_0_4, rf_0_7, rf_0_10, rf_0_11, rf_0_12, rf_0_13, rf_0_14, rf_0_15, rf_0_16, rf_1_0, rf_3_0, rf_3_1, rf_6_0, rf_6_1, rf_9_0, rf_9_1, rf_9_3, rf_13_0, rf_13_1, rf_13_2, rf_16_0, rf_16_1, rf_16_2, rf_16_3, rf_21_0, rf_21_1, rf_21_2, rf_21_3, rf_26_0, rf_26_1, rf_26_2, rf_26_3, rf_26_4, rf_26_5, rf_26_6, rf_31_0, rf_31_2, rf_31_5, rf_31_6, rf_36_0, rf_36_1, rf_36_2, rf_36_3, rf_39_0, rf_39_1, rf_39_2, rf_41_0, rf_41_1, rf_41_2, rf_41_3, rf_5000_1, rf_5000_2, rf_5000_3, rf_5000_4, rf_5000_5, rf_5000_15, rf_5000_16, rf_5000_18, rf_5000_19, rf_5000_20, rf_5000_21, rf_5000_22, rf_5000_23, rf_5000_24, rf_5000_25, rf_5000_26, rf_5000_27, rf_5000_36, rf_5000_37, rf_5000_40, rf_5000_41, rf_5000_42, rf_5000_43, rf_5000_44, rf_5000_45, rf_5000_47, rf_5000_52, rf_5000_54, rf_5000_55, rf_100_0, rf_100_1, rf_103_0, rf_103_1, rf_106_0, rf_106_1, rf_109_0, rf_109_1, al_2, al_4, al_5, al_7, al_8, al_10, al_11, al_12, al_14, al_15, al_17, al_18, al_19, al_20, al_22, al_23, al_24, al_25, al_27, al_28, al_29, al_30, al_32, al_33, al_34, al_35, al_37, al_38, al_40, al_42, al_5001, al_5002, al_5003, al_5004, al_5005, al_5006, al_5007, al_5008, al_5009, al_5010, al_5011, al_5012, al_5013, al_5014, al_5015, al_5016, al_5017, al_5018, al_5019, al_5020, al_5021, al_5022, al_5023, al_5024, al_5025, al_5026, al_9000, al_101, al_102, al_104, al_105, al_107, al_108, al_110, al_111, vcs_e, lg_c0, lg_cs, lg_nil, set_c0, set_cs, okst_0, okst_s, acok_n, acok_c, List.contains_nil, List.contains_cons, Bool.or_false, Bool.false_or, Bool.false_eq_true, if_false, if_true, ite_self, ne_eq, true_and, and_true, not_false_eq_true, not_true_eq_false, false_imp_iff, true_imp_iff, Nat.ble_eq, Bool.and_eq_true, reduceCtorEq, or_false, false_or, or_true, true_or, false_and, and_false, and_self, Int.reduceLE, Int.reduceAdd, Int.reduceSub, Int.reduceMul, Int.reduceNeg, Int.reduceLT, Int.reduceEq, Int.reduceNe, Nat.reduceBEq, Nat.reduceBNe, Nat.reduceEqDiff, amCmp_in, amCmp_lt, amCmp_le, amCmp_gt, amCmp_ge, amCmp_eq, amCmp_ne, Nat.reduceLeDiff, Nat.reduceSub, Bool.and_true, Bool.true_and, Bool.and_self, Bool.or_true, Bool.true_or, isRf_3, isRf_4, isRf_5, isRf_8, isRf_9, isRf_10, isRf_11, isRf_15, isRf_16, isRf_17, isRf_18, isRf_19, isRf_20, isRf_21, isRf_22, isRf_23, isRf_24, isRf_25, isRf_26, isRf_27, isRf_28, k_X9_show_0, k_X9_show_1, k_X9_show_2, k_X9_show_3, k_X9_show_6, k_X9_show_7, k_X9_show_8, k_X9_show_9, k_X9_show_10, k_X9_show_13, k_X9_show_14, k_X9_show_17, k_X9_show_20, k_X9_show_21, k_X9_show_23, k_X9_show_26, k_X9_show_27, k_X9_show_28, k_X9_show_29, k_X9_show_32, k_X9_show_33, k_X9_show_34, k_X9_show_37, k_X9_show_38, k_X9_show_41, k_X9_show_42, k_X9_show_43, k_X9_show_44, k_X9_show_47, k_X9_show_48, k_X9_show_49, k_X9_show_52, k_X9_show_55, k_X9_show_58, k_X9_show_59, k_X9_show_60, k_X9_show_63, k_X9_show_64, k_X9_show_65, k_X9_show_68, k_X9_show_69, k_X9_show_70, k_X9_show_73, k_X9_show_74, k_X9_show_77, w_X0_harden_e, w_X0_weep_e, w_X6_many_e, w_X9_allFelt_e, w_X9_playAll_e, pc2, p0, oa, up_nj, ec, e29, hsum]
      repeat' (first | assumption | apply And.intro | intro _)
      all_goals first | omega | exact absurd trivial (by assumption) | exact Or.inr rfl | exact ha | exact hh
  · change vcs _ _ _ _ 60 0 [(25, 26), (16, a), (0, p), (6, 0)] [] σ
    simp only [↓reduceIte, inR_0, inR_1, inR_m, vI_e, vL_e, vNull_e, vIload_e, vLload_e, vAload_e, vIstore_e, vLstore_e, vAstore_e, vIinc_e, vIadd_e, vIsub_e, vImul_e, vIand_e, vIor_e, vIxor_e, vIshl_e, vIshr_e, vIushr_e, vIdiv_e, vIrem_e, vLadd_e, vLsub_e, vLmul_e, vLand_e, vLor_e, vLxor_e, vLdiv_e, vLrem_e, vLushr_e, vLshl_e, vLcmp_e, vIneg_e, vI2l_e, vL2i_e, vI2b_e, vI2c_e, vDup_e, vPop_e, vDup2_e, vGoto_e, vIcEq_e, vIfEq_e, vIcNe_e, vIfNe_e, vIcLt_e, vIfLt_e, vIcGe_e, vIfGe_e, vIcGt_e, vIfGt_e, vIcLe_e, vIfLe_e, vNonnull_e, vSw_e, vGetI_e, vGetL_e, vGetR_e, vPutI_e, vPutZ_e, vPutL_e, vPutR_e, vIald_e, vIald_s, vLald_e, vBald_e, vBald_s, vAald_e, vIast_e, vLast_e, vBast_e, vAast_e, vAlen_e8, vAlen_e9, vAlen_e10, vAlen_e11, vAlen_e5, vAlen_e3, vGets_e, vCompact_e, vLdcS_e, vIret_e, vZret_e, vCret_e, vBret_e, vLret_e, vVret_e, vAret_e, vCallM_e0, vCallMV_e0, vCallS_e0, vCallSV_e0, vCallM_e1, vCallMV_e1, vCallS_e1, vCallSV_e1, vCallM_e2, vCallMV_e2, vCallS_e2, vCallSV_e2, vCallM_e3, vCallMV_e3, vCallS_e3, vCallSV_e3, vCallM_e4, vCallMV_e4, vCallS_e4, vCallSV_e4, vCallM_e5, vCallMV_e5, vCallS_e5, vCallSV_e5, vCallM_e6, vCallMV_e6, vCallS_e6, vCallSV_e6, vCallM_e7, vCallMV_e7, vCallS_e7, vCallSV_e7, vBad_e, vStrVal_e, vStrCod_e, vForm_e, vCallT_e0, vCallT_e1, vCallT_e2, vCopy_e, rf_0_0, rf_0_1, rf_0_2, rf_0_3, rf_0_4, rf_0_7, rf_0_10, rf_0_11, rf_0_12, rf_0_13, rf_0_14, rf_0_15, rf_0_16, rf_1_0, rf_3_0, rf_3_1, rf_6_0, rf_6_1, rf_9_0, rf_9_1, rf_9_3, rf_13_0, rf_13_1, rf_13_2, rf_16_0, rf_16_1, rf_16_2, rf_16_3, rf_21_0, rf_21_1, rf_21_2, rf_21_3, rf_26_0, rf_26_1, rf_26_2, rf_26_3, rf_26_4, rf_26_5, rf_26_6, rf_31_0, rf_31_2, rf_31_5, rf_31_6, rf_36_0, rf_36_1, rf_36_2, rf_36_3, rf_39_0, rf_39_1, rf_39_2, rf_41_0, rf_41_1, rf_41_2, rf_41_3, rf_5000_1, rf_5000_2, rf_5000_3, rf_5000_4, rf_5000_5, rf_5000_15, rf_5000_16, rf_5000_18, rf_5000_19, rf_5000_20, rf_5000_21, rf_5000_22, rf_5000_23, rf_5000_24, rf_5000_25, rf_5000_26, rf_5000_27, rf_5000_36, rf_5000_37, rf_5000_40, rf_5000_41, rf_5000_42, rf_5000_43, rf_5000_44, rf_5000_45, rf_5000_47, rf_5000_52, rf_5000_54, rf_5000_55, rf_100_0, rf_100_1, rf_103_0, rf_103_1, rf_106_0, rf_106_1, rf_109_0, rf_109_1, al_2, al_4, al_5, al_7, al_8, al_10, al_11, al_12, al_14, al_15, al_17, al_18, al_19, al_20, al_22, al_23, al_24, al_25, al_27, al_28, al_29, al_30, al_32, al_33, al_34, al_35, al_37, al_38, al_40, al_42, al_5001, al_5002, al_5003, al_5004, al_5005, al_5006, al_5007, al_5008, al_5009, al_5010, al_5011, al_5012, al_5013, al_5014, al_5015, al_5016, al_5017, al_5018, al_5019, al_5020, al_5021, al_5022, al_5023, al_5024, al_5025, al_5026, al_9000, al_101, al_102, al_104, al_105, al_107, al_108, al_110, al_111, vcs_e, lg_c0, lg_cs, lg_nil, set_c0, set_cs, okst_0, okst_s, acok_n, acok_c, List.contains_nil, List.contains_cons, Bool.or_false, Bool.false_or, Bool.false_eq_true, if_false, if_true, ite_self, ne_eq, true_and, and_true, not_false_eq_true, not_true_eq_false, false_imp_iff, true_imp_iff, Nat.ble_eq, Bool.and_eq_true, reduceCtorEq, or_false, false_or, or_true, true_or, false_and, and_false, and_self, Int.reduceLE, Int.reduceAdd, Int.reduceSub, Int.reduceMul, Int.reduceNeg, Int.reduceLT, Int.reduceEq, Int.reduceNe, Nat.reduceBEq, Nat.reduceBNe, Nat.reduceEqDiff, amCmp_in, amCmp_lt, amCmp_le, amCmp_gt, amCmp_ge, amCmp_eq, amCmp_ne, Nat.reduceLeDiff, Nat.reduceSub, Bool.and_true, Bool.true_and, Bool.and_self, Bool.or_true, Bool.true_or, isRf_3, isRf_4, isRf_5, isRf_8, isRf_9, isRf_10, isRf_11, isRf_15, isRf_16, isRf_17, isRf_18, isRf_19, isRf_20, isRf_21, isRf_22, isRf_23, isRf_24, isRf_25, isRf_26, isRf_27, isRf_28, k_X9_show_0, k_X9_show_1, k_X9_show_2, k_X9_show_3, k_X9_show_6, k_X9_show_7, k_X9_show_8, k_X9_show_9, k_X9_show_10, k_X9_show_13, k_X9_show_14, k_X9_show_17, k_X9_show_20, k_X9_show_21, k_X9_show_23, k_X9_show_26, k_X9_show_27, k_X9_show_28, k_X9_show_29, k_X9_show_32, k_X9_show_33, k_X9_show_34, k_X9_show_37, k_X9_show_38, k_X9_show_41, k_X9_show_42, k_X9_show_43, k_X9_show_44, k_X9_show_47, k_X9_show_48, k_X9_show_49, k_X9_show_52, k_X9_show_55, k_X9_show_58, k_X9_show_59, k_X9_show_60, k_X9_show_63, k_X9_show_64, k_X9_show_65, k_X9_show_68, k_X9_show_69, k_X9_show_70, k_X9_show_73, k_X9_show_74, k_X9_show_77, w_X0_harden_e, w_X0_weep_e, w_X6_many_e, w_X9_allFelt_e, w_X9_playAll_e]
    refine ⟨hst, hp, h9, hse, fun τ hF hf ho => ?_⟩
    exact ⟨(pcnt σ 6 2).toNat, rfl, rfl, 0, τ, rfl, by omega, hF, fun i i0 i1 => ⟨by rw [hf i i0 (by omega), if_pos ⟨i1, (hte i i0 i1).1⟩], by rw [ho i i0 (by omega), if_pos ⟨i1, (hte i i0 i1).1⟩]⟩, (swM_0 τ a).symm⟩
