/-! Stage: cell 26 (1 law, 6 who, 7 play, 8 sitter), letters 27, table 28, felt 29, ledOut 30 -/
def ltr (f h d n k e : Int) : Int → Int := fun j => if j = 0 then f else if j = 1 then h else if j = 2 then d else if j = 3 then n else if j = 4 then k else e
theorem wx_cong (c : Int → Int) (len : Int) {L L' : Int → Int} (h : ∀ j, 0 ≤ j → j < 6 → L j = L' j) : ∀ (f : Nat) (i : Int) (s : List Int), wx c len L f i s = wx c len L' f i s := by
  intro f
  induction f with
  | zero => intro i s; rfl
  | succ f ih =>
    intro i s
    unfold wx
    by_cases c4 : 10000 ≤ c i ∧ c i < 10006
    · simp only [ih, h (c i - 10000) (by omega) (by omega)]
    · simp only [ih, if_neg c4]
def isLw (a : Int) : Prop := a = 100 ∨ a = 103 ∨ a = 106 ∨ a = 109
/-- what the LAW that holds makes of the letters -/
def lwV (σ : Mem) (L : Int → Int) : Int := if σ 26 1 < 0 then L 0 + L 1 - L 2 else (wx (σ (σ 26 1 + 1)) (σ (σ 26 1 + 1) (-1)) L 300 0 []).getD 0
def lawOk (σ : Mem) : Prop := σ 26 1 < 0 ∨ (isLw (σ 26 1) ∧ 0 ≤ σ (σ 26 1 + 1) (-1) ∧ σ (σ 26 1 + 1) (-1) ≤ 241 ∧ ∀ L, lbd L → ∃ v, bnd v ∧ wx (σ (σ 26 1 + 1)) (σ (σ 26 1 + 1) (-1)) L 300 0 [] = some v)
theorem lwV_cong (σ : Mem) {L L' : Int → Int} (h : ∀ j, 0 ≤ j → j < 6 → L j = L' j) : lwV σ L = lwV σ L' := by
  unfold lwV; rw [wx_cong _ _ h, h 0 (by omega) (by omega), h 1 (by omega) (by omega), h 2 (by omega) (by omega)]
theorem ltr_b {f h d n k e : Int} (h1 : bnd f) (h2 : bnd h) (h3 : bnd d) (h4 : bnd n) (h5 : bnd k) (h6 : bnd e) : lbd (ltr f h d n k e) := by
  intro j _ _; unfold ltr; repeat' split
  all_goals assumption
def rkV (σ : Mem) (f h d n k e : Int) : Int := max 0 (min 99 (lwV σ (ltr f h d n k e))) / n
theorem rkV_b (σ : Mem) {f h d n k e : Int} (hn : 1 ≤ n) : 0 ≤ rkV σ f h d n k e ∧ rkV σ f h d n k e ≤ 99 := by
  unfold rkV
  have h0 : 0 ≤ max 0 (min 99 (lwV σ (ltr f h d n k e))) := by omega
  have h1 : max 0 (min 99 (lwV σ (ltr f h d n k e))) ≤ 99 := by omega
  refine ⟨Int.ediv_nonneg h0 (by omega), ?_⟩
  exact Int.le_trans (Int.ediv_le_self _ h0) h1
theorem clq (w : Int) : (if (0 : Int) < (if w < 99 then w else 99) then (if w < 99 then w else 99) else 0) = max 0 (min 99 w) := by
  split <;> split at * <;> omega
/-- cells that the reckoning of a LAW may change -/
def LF (σ τ : Mem) : Prop := ∀ b, b ≠ 27 → b ≠ 102 → b ≠ 105 → b ≠ 108 → b ≠ 111 → τ b = σ b
theorem pr_26_6 : (match TT 26 with | .inl z => z.2 6 = none | .inr _ => False) = True := eq_true rfl
theorem pr_26_1 : (match TT 26 with | .inl z => z.2 1 = none | .inr _ => False) = True := eq_true rfl

theorem wd_817 : Cond.methodLink RX9 43 yX0_isChair ∈ TBL := tb_tab (List.mem_of_getElem? (i := 817) (by decide +kernel)) rfl
theorem lk_X9_43 : amLk RX9 43 yX0_isChair cX0_isChair 1 (some .boolean) 1 := ⟨wd_817, wd_6, wd_819, by decide +kernel, by decide +kernel, by decide⟩
theorem wd_187 : Cond.fieldLink RX9 15 "ArmchairHouse$Stage" "letters" "[I" ∈ TBL := tb_tab (List.mem_of_getElem? (i := 187) (by decide +kernel)) rfl
theorem fl_X9_15 : amFl RX9 9 2 15 RX9 TX9 9 := ⟨rfl, inT_9, by decide, wd_187⟩
theorem wd_184 : Cond.fieldLink RX9 35 "ArmchairHouse$Stage" "plan" "LArmchairHouse$Plan;" ∈ TBL := tb_tab (List.mem_of_getElem? (i := 184) (by decide +kernel)) rfl
theorem fl_X9_35 : amFl RX9 9 0 35 RX9 TX9 9 := ⟨rfl, inT_9, by decide, wd_184⟩
theorem wd_820 : Cond.methodLink RX9 51 yX6_value ∈ TBL := tb_tab (List.mem_of_getElem? (i := 820) (by decide +kernel)) rfl
theorem lk_X9_51 : amLk RX9 51 yX6_value cX6_value 5 (some .int) 3 := ⟨wd_820, wd_3, wd_567, by decide +kernel, by decide +kernel, by decide⟩
theorem wd_143 : Cond.fieldLink RX9 55 "ArmchairHouse$Audience" "hearts" "[I" ∈ TBL := tb_tab (List.mem_of_getElem? (i := 143) (by decide +kernel)) rfl
theorem fl_X9_55 : amFl RX9 0 0 55 RX0 TX0 7 := ⟨rfl, inT_0, by decide, wd_143⟩
theorem wd_185 : Cond.fieldLink RX9 9 "ArmchairHouse$Stage" "law" "LArmchairHouse$Law;" ∈ TBL := tb_tab (List.mem_of_getElem? (i := 185) (by decide +kernel)) rfl
theorem fl_X9_9 : amFl RX9 9 1 9 RX9 TX9 9 := ⟨rfl, inT_9, by decide, wd_185⟩
theorem wd_821 : Cond.methodLink RX9 58 yX2_worth ∈ TBL := tb_tab (List.mem_of_getElem? (i := 821) (by decide +kernel)) rfl
theorem wd_824 : Cond.code yX2_worth cX2_worth 6 (some .int) ∈ TBL := tb_tab (List.mem_of_getElem? (i := 824) (by decide +kernel)) rfl
theorem lk_X9_58 : amLk RX9 58 yX2_worth cX2_worth 6 (some .int) 1 := ⟨wd_821, wd_21, wd_824, by decide +kernel, by decide +kernel, by decide⟩
theorem wd_822 : Cond.instanceMethod yX2_worth ∈ TBL := tb_tab (List.mem_of_getElem? (i := 822) (by decide +kernel)) rfl
theorem wd_823 : Cond.selects RX2 yX2_worth yX2_worth ∈ TBL := tb_tab (List.mem_of_getElem? (i := 823) (by decide +kernel)) rfl
theorem wd_832 : Cond.methodLink RX9 64 yJ9_min_7cf53 ∈ TBL := tb_tab (List.mem_of_getElem? (i := 832) (by decide +kernel)) rfl
theorem lk_X9_64 : amLk RX9 64 yJ9_min_7cf53 cJ9_min_7cf53 2 (some .int) 2 := ⟨wd_832, wd_16, wd_453, by decide +kernel, by decide +kernel, by decide⟩
theorem wd_833 : Cond.methodLink RX9 70 yJ9_max_7cf53 ∈ TBL := tb_tab (List.mem_of_getElem? (i := 833) (by decide +kernel)) rfl
theorem lk_X9_70 : amLk RX9 70 yJ9_max_7cf53 cJ9_max_7cf53 2 (some .int) 2 := ⟨wd_833, wd_16, wd_450, by decide +kernel, by decide +kernel, by decide⟩
def a_X9_reckon : AC := [(0, vIload 2 1), (1, vCallS w_X0_isChair 1 4), (4, vIfEq 12 7), (7, vIload 6 9), (9, vIfGt 14 12), (12, vI 0 13), (13, vIret), (14, vAload 0 15), (15, vGetR TT 25 2 8 18), (18, vI 0 19), (19, vAload 0 20), (20, vGetR TT 25 0 22 23), (23, vI 1 24), (24, vIload 4 26), (26, vIload 5 28), (28, vI 3 29), (29, vIrem 30), (30, vCallM w_X6_value 22 3 33), (33, vIast TT 34), (34, vAload 0 35), (35, vGetR TT 25 2 8 38), (38, vI 1 39), (39, vAload 1 40), (40, vGetR TT 16 0 8 43), (43, vIload 2 44), (44, vIald TT 45), (45, vIast TT 46), (46, vAload 0 47), (47, vGetR TT 25 2 8 50), (50, vI 2 51), (51, vAload 0 52), (52, vGetR TT 25 0 22 55), (55, vI 3 56), (56, vIload 3 57), (57, vI 0 58), (58, vCallM w_X6_value 22 3 61), (61, vIast TT 62), (62, vAload 0 63), (63, vGetR TT 25 2 8 66), (66, vI 3 67), (67, vIload 6 69), (69, vIast TT 70), (70, vAload 0 71), (71, vGetR TT 25 2 8 74), (74, vI 4 75), (75, vIload 5 77), (77, vIast TT 78), (78, vAload 0 79), (79, vGetR TT 25 2 8 82), (82, vI 5 83), (83, vIload 7 85), (85, vIast TT 86), (86, vAload 0 87), (87, vGetR TT 25 1 18 90), (90, vNonnull 116 93), (93, vAload 0 94), (94, vGetR TT 25 2 8 97), (97, vI 0 98), (98, vIald TT 99), (99, vAload 0 100), (100, vGetR TT 25 2 8 103), (103, vI 1 104), (104, vIald TT 105), (105, vIadd 106), (106, vAload 0 107), (107, vGetR TT 25 2 8 110), (110, vI 2 111), (111, vIald TT 112), (112, vIsub 113), (113, vGoto 127), (116, vAload 0 117), (117, vGetR TT 25 1 18 120), (120, vAload 0 121), (121, vGetR TT 25 2 8 124), (124, vCallM w_X2_worth 18 1 127), (127, vIstore 8 129), (129, vI 0 130), (130, vI 99 132), (132, vIload 8 134), (134, vCallS w_J9_min_7cf53 2 137), (137, vCallS w_J9_max_7cf53 2 140), (140, vIload 6 142), (142, vIdiv 143), (143, vIret)]
theorem k_X9_reckon_0 : look a_X9_reckon 0 = vIload 2 1 := rfl
theorem k_X9_reckon_1 : look a_X9_reckon 1 = vCallS w_X0_isChair 1 4 := rfl
theorem k_X9_reckon_4 : look a_X9_reckon 4 = vIfEq 12 7 := rfl
theorem k_X9_reckon_7 : look a_X9_reckon 7 = vIload 6 9 := rfl
theorem k_X9_reckon_9 : look a_X9_reckon 9 = vIfGt 14 12 := rfl
theorem k_X9_reckon_12 : look a_X9_reckon 12 = vI 0 13 := rfl
theorem k_X9_reckon_13 : look a_X9_reckon 13 = vIret := rfl
theorem k_X9_reckon_14 : look a_X9_reckon 14 = vAload 0 15 := rfl
theorem k_X9_reckon_15 : look a_X9_reckon 15 = vGetR TT 25 2 8 18 := rfl
theorem k_X9_reckon_18 : look a_X9_reckon 18 = vI 0 19 := rfl
theorem k_X9_reckon_19 : look a_X9_reckon 19 = vAload 0 20 := rfl
theorem k_X9_reckon_20 : look a_X9_reckon 20 = vGetR TT 25 0 22 23 := rfl
theorem k_X9_reckon_23 : look a_X9_reckon 23 = vI 1 24 := rfl
theorem k_X9_reckon_24 : look a_X9_reckon 24 = vIload 4 26 := rfl
theorem k_X9_reckon_26 : look a_X9_reckon 26 = vIload 5 28 := rfl
theorem k_X9_reckon_28 : look a_X9_reckon 28 = vI 3 29 := rfl
theorem k_X9_reckon_29 : look a_X9_reckon 29 = vIrem 30 := rfl
theorem k_X9_reckon_30 : look a_X9_reckon 30 = vCallM w_X6_value 22 3 33 := rfl
theorem k_X9_reckon_33 : look a_X9_reckon 33 = vIast TT 34 := rfl
theorem k_X9_reckon_34 : look a_X9_reckon 34 = vAload 0 35 := rfl
theorem k_X9_reckon_35 : look a_X9_reckon 35 = vGetR TT 25 2 8 38 := rfl
theorem k_X9_reckon_38 : look a_X9_reckon 38 = vI 1 39 := rfl
theorem k_X9_reckon_39 : look a_X9_reckon 39 = vAload 1 40 := rfl
theorem k_X9_reckon_40 : look a_X9_reckon 40 = vGetR TT 16 0 8 43 := rfl
theorem k_X9_reckon_43 : look a_X9_reckon 43 = vIload 2 44 := rfl
theorem k_X9_reckon_44 : look a_X9_reckon 44 = vIald TT 45 := rfl
theorem k_X9_reckon_45 : look a_X9_reckon 45 = vIast TT 46 := rfl
theorem k_X9_reckon_46 : look a_X9_reckon 46 = vAload 0 47 := rfl
theorem k_X9_reckon_47 : look a_X9_reckon 47 = vGetR TT 25 2 8 50 := rfl
theorem k_X9_reckon_50 : look a_X9_reckon 50 = vI 2 51 := rfl
theorem k_X9_reckon_51 : look a_X9_reckon 51 = vAload 0 52 := rfl
theorem k_X9_reckon_52 : look a_X9_reckon 52 = vGetR TT 25 0 22 55 := rfl
theorem k_X9_reckon_55 : look a_X9_reckon 55 = vI 3 56 := rfl
theorem k_X9_reckon_56 : look a_X9_reckon 56 = vIload 3 57 := rfl
theorem k_X9_reckon_57 : look a_X9_reckon 57 = vI 0 58 := rfl
theorem k_X9_reckon_58 : look a_X9_reckon 58 = vCallM w_X6_value 22 3 61 := rfl
theorem k_X9_reckon_61 : look a_X9_reckon 61 = vIast TT 62 := rfl
theorem k_X9_reckon_62 : look a_X9_reckon 62 = vAload 0 63 := rfl
theorem k_X9_reckon_63 : look a_X9_reckon 63 = vGetR TT 25 2 8 66 := rfl
theorem k_X9_reckon_66 : look a_X9_reckon 66 = vI 3 67 := rfl
theorem k_X9_reckon_67 : look a_X9_reckon 67 = vIload 6 69 := rfl
theorem k_X9_reckon_69 : look a_X9_reckon 69 = vIast TT 70 := rfl
theorem k_X9_reckon_70 : look a_X9_reckon 70 = vAload 0 71 := rfl
theorem k_X9_reckon_71 : look a_X9_reckon 71 = vGetR TT 25 2 8 74 := rfl
theorem k_X9_reckon_74 : look a_X9_reckon 74 = vI 4 75 := rfl
theorem k_X9_reckon_75 : look a_X9_reckon 75 = vIload 5 77 := rfl
theorem k_X9_reckon_77 : look a_X9_reckon 77 = vIast TT 78 := rfl
theorem k_X9_reckon_78 : look a_X9_reckon 78 = vAload 0 79 := rfl
theorem k_X9_reckon_79 : look a_X9_reckon 79 = vGetR TT 25 2 8 82 := rfl
theorem k_X9_reckon_82 : look a_X9_reckon 82 = vI 5 83 := rfl
theorem k_X9_reckon_83 : look a_X9_reckon 83 = vIload 7 85 := rfl
theorem k_X9_reckon_85 : look a_X9_reckon 85 = vIast TT 86 := rfl
theorem k_X9_reckon_86 : look a_X9_reckon 86 = vAload 0 87 := rfl
theorem k_X9_reckon_87 : look a_X9_reckon 87 = vGetR TT 25 1 18 90 := rfl
theorem k_X9_reckon_90 : look a_X9_reckon 90 = vNonnull 116 93 := rfl
theorem k_X9_reckon_93 : look a_X9_reckon 93 = vAload 0 94 := rfl
theorem k_X9_reckon_94 : look a_X9_reckon 94 = vGetR TT 25 2 8 97 := rfl
theorem k_X9_reckon_97 : look a_X9_reckon 97 = vI 0 98 := rfl
theorem k_X9_reckon_98 : look a_X9_reckon 98 = vIald TT 99 := rfl
theorem k_X9_reckon_99 : look a_X9_reckon 99 = vAload 0 100 := rfl
theorem k_X9_reckon_100 : look a_X9_reckon 100 = vGetR TT 25 2 8 103 := rfl
theorem k_X9_reckon_103 : look a_X9_reckon 103 = vI 1 104 := rfl
theorem k_X9_reckon_104 : look a_X9_reckon 104 = vIald TT 105 := rfl
theorem k_X9_reckon_105 : look a_X9_reckon 105 = vIadd 106 := rfl
theorem k_X9_reckon_106 : look a_X9_reckon 106 = vAload 0 107 := rfl
theorem k_X9_reckon_107 : look a_X9_reckon 107 = vGetR TT 25 2 8 110 := rfl
theorem k_X9_reckon_110 : look a_X9_reckon 110 = vI 2 111 := rfl
theorem k_X9_reckon_111 : look a_X9_reckon 111 = vIald TT 112 := rfl
theorem k_X9_reckon_112 : look a_X9_reckon 112 = vIsub 113 := rfl
theorem k_X9_reckon_113 : look a_X9_reckon 113 = vGoto 127 := rfl
theorem k_X9_reckon_116 : look a_X9_reckon 116 = vAload 0 117 := rfl
theorem k_X9_reckon_117 : look a_X9_reckon 117 = vGetR TT 25 1 18 120 := rfl
theorem k_X9_reckon_120 : look a_X9_reckon 120 = vAload 0 121 := rfl
theorem k_X9_reckon_121 : look a_X9_reckon 121 = vGetR TT 25 2 8 124 := rfl
theorem k_X9_reckon_124 : look a_X9_reckon 124 = vCallM w_X2_worth 18 1 127 := rfl
theorem k_X9_reckon_127 : look a_X9_reckon 127 = vIstore 8 129 := rfl
theorem k_X9_reckon_129 : look a_X9_reckon 129 = vI 0 130 := rfl
theorem k_X9_reckon_130 : look a_X9_reckon 130 = vI 99 132 := rfl
theorem k_X9_reckon_132 : look a_X9_reckon 132 = vIload 8 134 := rfl
theorem k_X9_reckon_134 : look a_X9_reckon 134 = vCallS w_J9_min_7cf53 2 137 := rfl
theorem k_X9_reckon_137 : look a_X9_reckon 137 = vCallS w_J9_max_7cf53 2 140 := rfl
theorem k_X9_reckon_140 : look a_X9_reckon 140 = vIload 6 142 := rfl
theorem k_X9_reckon_142 : look a_X9_reckon 142 = vIdiv 143 := rfl
theorem k_X9_reckon_143 : look a_X9_reckon 143 = vIret := rfl
theorem o_X9_reckon {X : amX} (e1 : XT X = TT) (e2 : XD X = 2) (hB : amB X RX9 cX9_reckon (some .int) 9) : ∀ pc, amOK X pc (look a_X9_reckon pc) := by
  have hT : amTok (XT X) := e1 ▸ TT_ok
  refine look_ok ?_
  unfold a_X9_reckon
  refine fc (ok_iload_n hB dX9_reckon_0) ?_
  refine fc (ok_callS hB (e1 ▸ s_X0_isChair) lk_X9_43 (by rw [e2]; decide) wd_818 dX9_reckon_1) ?_
  refine fc (ok_if_eq hB (t := 12) (by decide) dX9_reckon_4) ?_
  refine fc (ok_iload hB dX9_reckon_7) ?_
  refine fc (ok_if_gt hB (t := 14) (by decide) dX9_reckon_9) ?_
  refine fc (ok_iconst hB dX9_reckon_12) ?_
  refine fc (ok_iret hB dX9_reckon_13) ?_
  refine fc (ok_aload_n hB dX9_reckon_14) ?_
  refine fc (okt_getR e1 hB hT fl_X9_15 rfl af_9_2 at_9_2 (by decide) dX9_reckon_15) ?_
  refine fc (ok_iconst hB dX9_reckon_18) ?_
  refine fc (ok_aload_n hB dX9_reckon_19) ?_
  refine fc (okt_getR e1 hB hT fl_X9_35 rfl af_9_0 at_9_0 (by decide) dX9_reckon_20) ?_
  refine fc (ok_iconst hB dX9_reckon_23) ?_
  refine fc (ok_iload hB dX9_reckon_24) ?_
  refine fc (ok_iload hB dX9_reckon_26) ?_
  refine fc (ok_iconst hB dX9_reckon_28) ?_
  refine fc (ok_irem hB dX9_reckon_29) ?_
  refine fc (ok_callM hB hT (e1 ▸ s_X6_value) lk_X9_51 (by rw [e2]; decide) (c := 6) rfl rfl rfl wd_565 wd_566 dX9_reckon_30) ?_
  refine fc (okt_iastore e1 hB dX9_reckon_33) ?_
  refine fc (ok_aload_n hB dX9_reckon_34) ?_
  refine fc (okt_getR e1 hB hT fl_X9_15 rfl af_9_2 at_9_2 (by decide) dX9_reckon_35) ?_
  refine fc (ok_iconst hB dX9_reckon_38) ?_
  refine fc (ok_aload_n hB dX9_reckon_39) ?_
  refine fc (okt_getR e1 hB hT fl_X9_55 rfl af_0_0 at_0_0 (by decide) dX9_reckon_40) ?_
  refine fc (ok_iload_n hB dX9_reckon_43) ?_
  refine fc (okt_iaload e1 hB dX9_reckon_44) ?_
  refine fc (okt_iastore e1 hB dX9_reckon_45) ?_
  refine fc (ok_aload_n hB dX9_reckon_46) ?_
  refine fc (okt_getR e1 hB hT fl_X9_15 rfl af_9_2 at_9_2 (by decide) dX9_reckon_47) ?_
  refine fc (ok_iconst hB dX9_reckon_50) ?_
  refine fc (ok_aload_n hB dX9_reckon_51) ?_
  refine fc (okt_getR e1 hB hT fl_X9_35 rfl af_9_0 at_9_0 (by decide) dX9_reckon_52) ?_
  refine fc (ok_iconst hB dX9_reckon_55) ?_
  refine fc (ok_iload_n hB dX9_reckon_56) ?_
  refine fc (ok_iconst hB dX9_reckon_57) ?_
  refine fc (ok_callM hB hT (e1 ▸ s_X6_value) lk_X9_51 (by rw [e2]; decide) (c := 6) rfl rfl rfl wd_565 wd_566 dX9_reckon_58) ?_
  refine fc (okt_iastore e1 hB dX9_reckon_61) ?_
  refine fc (ok_aload_n hB dX9_reckon_62) ?_
  refine fc (okt_getR e1 hB hT fl_X9_15 rfl af_9_2 at_9_2 (by decide) dX9_reckon_63) ?_
  refine fc (ok_iconst hB dX9_reckon_66) ?_
  refine fc (ok_iload hB dX9_reckon_67) ?_
  refine fc (okt_iastore e1 hB dX9_reckon_69) ?_
  refine fc (ok_aload_n hB dX9_reckon_70) ?_
  refine fc (okt_getR e1 hB hT fl_X9_15 rfl af_9_2 at_9_2 (by decide) dX9_reckon_71) ?_
  refine fc (ok_iconst hB dX9_reckon_74) ?_
  refine fc (ok_iload hB dX9_reckon_75) ?_
  refine fc (okt_iastore e1 hB dX9_reckon_77) ?_
  refine fc (ok_aload_n hB dX9_reckon_78) ?_
  refine fc (okt_getR e1 hB hT fl_X9_15 rfl af_9_2 at_9_2 (by decide) dX9_reckon_79) ?_
  refine fc (ok_iconst hB dX9_reckon_82) ?_
  refine fc (ok_iload hB dX9_reckon_83) ?_
  refine fc (okt_iastore e1 hB dX9_reckon_85) ?_
  refine fc (ok_aload_n hB dX9_reckon_86) ?_
  refine fc (okt_getR e1 hB hT fl_X9_9 rfl af_9_1 at_9_1 (by decide) dX9_reckon_87) ?_
  refine fc (ok_ifnonnull hB (t := 116) (by decide) dX9_reckon_90) ?_
  refine fc (ok_aload_n hB dX9_reckon_93) ?_
  refine fc (okt_getR e1 hB hT fl_X9_15 rfl af_9_2 at_9_2 (by decide) dX9_reckon_94) ?_
  refine fc (ok_iconst hB dX9_reckon_97) ?_
  refine fc (okt_iaload e1 hB dX9_reckon_98) ?_
  refine fc (ok_aload_n hB dX9_reckon_99) ?_
  refine fc (okt_getR e1 hB hT fl_X9_15 rfl af_9_2 at_9_2 (by decide) dX9_reckon_100) ?_
  refine fc (ok_iconst hB dX9_reckon_103) ?_
  refine fc (okt_iaload e1 hB dX9_reckon_104) ?_
  refine fc (ok_iadd hB dX9_reckon_105) ?_
  refine fc (ok_aload_n hB dX9_reckon_106) ?_
  refine fc (okt_getR e1 hB hT fl_X9_15 rfl af_9_2 at_9_2 (by decide) dX9_reckon_107) ?_
  refine fc (ok_iconst hB dX9_reckon_110) ?_
  refine fc (okt_iaload e1 hB dX9_reckon_111) ?_
  refine fc (ok_isub hB dX9_reckon_112) ?_
  refine fc (ok_goto hB (t := 127) (by decide) dX9_reckon_113) ?_
  refine fc (ok_aload_n hB dX9_reckon_116) ?_
  refine fc (okt_getR e1 hB hT fl_X9_9 rfl af_9_1 at_9_1 (by decide) dX9_reckon_117) ?_
  refine fc (ok_aload_n hB dX9_reckon_120) ?_
  refine fc (okt_getR e1 hB hT fl_X9_15 rfl af_9_2 at_9_2 (by decide) dX9_reckon_121) ?_
  refine fc (ok_callM hB hT (e1 ▸ s_X2_worth) lk_X9_58 (by rw [e2]; decide) (c := 2) rfl rfl rfl wd_822 wd_823 dX9_reckon_124) ?_
  refine fc (ok_istore hB (by decide) dX9_reckon_127) ?_
  refine fc (ok_iconst hB dX9_reckon_129) ?_
  refine fc (ok_bipush hB dX9_reckon_130 (by decide)) ?_
  refine fc (ok_iload hB dX9_reckon_132) ?_
  refine fc (ok_callS hB (e1 ▸ s_J9_min_7cf53) lk_X9_64 (by rw [e2]; decide) wd_452 dX9_reckon_134) ?_
  refine fc (ok_callS hB (e1 ▸ s_J9_max_7cf53) lk_X9_70 (by rw [e2]; decide) wd_449 dX9_reckon_137) ?_
  refine fc (ok_iload hB dX9_reckon_140) ?_
  refine fc (ok_idiv hB dX9_reckon_142) ?_
  refine fc (ok_iret hB dX9_reckon_143) ?_
  exact fn

def w_X9_reckon : WP := fun av σ Q => ∃ (a : Int) (c : Int) (t : Int) (p : Int) (k : Int) (n : Int) (e : Int), av = [(25, 26), (16, a), (0, c), (0, t), (0, p), (0, k), (0, n), (0, e)] ∧ (isA a ∧ 0 ≤ c ∧ c < 6 ∧ InR t ∧ InR p ∧ 0 ≤ k ∧ k ≤ 1000 ∧ 1 ≤ n ∧ n ≤ 6 ∧ bnd (σ (a + 1) c) ∧ bnd e ∧ planB σ 6 ∧ lawOk σ ∧ (∀ τ, LF σ τ → Q (0, rkV σ (pval σ 6 1 p (k % 3)) (σ (a + 1) c) (pval σ 6 3 t 0) n k e) τ))
theorem w_X9_reckon_e (a : Int) (c : Int) (t : Int) (p : Int) (k : Int) (n : Int) (e : Int) (σ : Mem) (Q : AV → Mem → Prop) : w_X9_reckon [(25, 26), (16, a), (0, c), (0, t), (0, p), (0, k), (0, n), (0, e)] σ Q = (isA a ∧ 0 ≤ c ∧ c < 6 ∧ InR t ∧ InR p ∧ 0 ≤ k ∧ k ≤ 1000 ∧ 1 ≤ n ∧ n ≤ 6 ∧ bnd (σ (a + 1) c) ∧ bnd e ∧ planB σ 6 ∧ lawOk σ ∧ (∀ τ, LF σ τ → Q (0, rkV σ (pval σ 6 1 p (k % 3)) (σ (a + 1) c) (pval σ 6 3 t 0) n k e) τ)) := by
  apply propext; constructor
  · rintro ⟨a', c', t', p', k', n', e', h9, hb9⟩; cases h9; exact hb9
  · intro hb9; exact ⟨a, c, t, p, k, n, e, rfl, hb9⟩

set_option maxRecDepth 100000 in
set_option maxHeartbeats 4000000 in
theorem s_X9_reckon : ∀ av σ Q, w_X9_reckon av σ Q → amCall 2 0 0 TT yX9_reckon cX9_reckon 9 (some .int) av σ Q := by
  rintro av σ Q ⟨a, c, t, p, k, n, e, rfl, ha, hc0, hc1, ht, hp, hk0, hk1, hn0, hn1, hh, he, hB, hlw, h⟩
  have hab := isA_b ha
  have r0 : ∀ τ, rfv TT τ a 0 = a + 1 := fun τ => rfA_0 ha τ
  have a1 : ∀ τ, alen TT τ (a + 1) = 6 := fun τ => alA_1 ha τ
  have p0 : (0 : Int) ≤ a := by omega
  have p1 : (0 : Int) ≤ a + 1 := by omega
  have km : Int.tmod k 3 = k % 3 := Int.tmod_eq_emod_of_nonneg hk0
  have q1 := pval_b hB 1 p (k % 3)
  have q3 := pval_b hB 3 t 0
  have u27 : ∀ (σ : Mem) (i v : Int), up σ 27 i v (a + 1) = σ (a + 1) := fun σ i v => up_na _ (by omega)
  have pv1 : ∀ (σ : Mem) (i v x y z : Int), pval (up σ 27 i v) 6 x y z = pval σ 6 x y z := fun σ i v x y z => pval_cong (up_na _ (by decide)) x y z
  refine am_m0 (own := RX9) (A := look a_X9_reckon) (fun X e1 e2 hB => o_X9_reckon e1 e2 hB) rfl (by decide +kernel) rfl rfl 190 (w := 9) ?_
  change vcs _ _ _ _ 190 0 [(25, 26), (16, a), (0, c), (0, t), (0, p), (0, k), (0, n), (0, e), (6, 0)] [] σ
  simp only [↓reduceIte, inR_0, inR_1, inR_m, vSw2_e, swP_n, swP_c, vI_e, vL_e, vNull_e, vIload_e, vLload_e, vAload_e, vIstore_e, vLstore_e, vAstore_e, vIinc_e, vIadd_e, vIsub_e, vImul_e, vIand_e, vIor_e, vIxor_e, vIshl_e, vIshr_e, vIushr_e, vIdiv_e, vIrem_e, vLadd_e, vLsub_e, vLmul_e, vLand_e, vLor_e, vLxor_e, vLdiv_e, vLrem_e, vLushr_e, vLshl_e, vLcmp_e, vIneg_e, vI2l_e, vL2i_e, vI2b_e, vI2c_e, vDup_e, vPop_e, vDup2_e, vGoto_e, vIcEq_e, vIfEq_e, vIcNe_e, vIfNe_e, vIcLt_e, vIfLt_e, vIcGe_e, vIfGe_e, vIcGt_e, vIfGt_e, vIcLe_e, vIfLe_e, vNonnull_e, vSw_e, vGetI_e, vGetL_e, vGetR_e, vPutI_e, vPutZ_e, vPutL_e, vPutR_e, vIald_e, vIald_s, vLald_e, vBald_e, vBald_s, vAald_e, vIast_e, vLast_e, vBast_e, vAast_e, vAlen_e8, vAlen_e9, vAlen_e10, vAlen_e11, vAlen_e5, vAlen_e3, vGets_e, vCompact_e, vLdcS_e, vIret_e, vZret_e, vCret_e, vBret_e, vLret_e, vVret_e, vAret_e, vCallM_e0, vCallMV_e0, vCallS_e0, vCallSV_e0, vCallM_e1, vCallMV_e1, vCallS_e1, vCallSV_e1, vCallM_e2, vCallMV_e2, vCallS_e2, vCallSV_e2, vCallM_e3, vCallMV_e3, vCallS_e3, vCallSV_e3, vCallM_e4, vCallMV_e4, vCallS_e4, vCallSV_e4, vCallM_e5, vCallMV_e5, vCallS_e5, vCallSV_e5, vCallM_e6, vCallMV_e6, vCallS_e6, vCallSV_e6, vCallM_e7, vCallMV_e7, vCallS_e7, vCallSV_e7, vBad_e, vStrVal_e, vStrCod_e, vForm_e, vCallT_e0, vCallT_e1, vCallT_e2, vCopy_e, rf_0_0, rf_0_1, rf_0_2, rf_0_3, rf_0_4, rf_0_7, rf_0_10, rf_0_11, rf_0_12, rf_0_13, rf_0_14, rf_0_15, rf_0_16, rf_1_0, rf_3_0, rf_3_1, rf_6_0, rf_6_1, rf_9_0, rf_9_1, rf_9_3, rf_13_0, rf_13_1, rf_13_2, rf_16_0, rf_16_1, rf_16_2, rf_16_3, rf_21_0, rf_21_1, rf_21_2, rf_21_3, rf_26_0, rf_26_1, rf_26_2, rf_26_3, rf_26_4, rf_26_5, rf_26_6, rf_31_0, rf_31_2, rf_31_5, rf_31_6, rf_36_0, rf_36_1, rf_36_2, rf_36_3, rf_39_0, rf_39_1, rf_39_2, rf_41_0, rf_41_1, rf_41_2, rf_41_3, rf_5000_1, rf_5000_2, rf_5000_3, rf_5000_4, rf_5000_5, rf_5000_15, rf_5000_16, rf_5000_18, rf_5000_19, rf_5000_20, rf_5000_21, rf_5000_22, rf_5000_23, rf_5000_24, rf_5000_25, rf_5000_26, rf_5000_27, rf_5000_36, rf_5000_37, rf_5000_40, rf_5000_41, rf_5000_42, rf_5000_43, rf_5000_44, rf_5000_45, rf_5000_47, rf_5000_52, rf_5000_54, rf_5000_55, rf_100_0, rf_100_1, rf_103_0, rf_103_1, rf_106_0, rf_106_1, rf_109_0, rf_109_1, al_2, al_4, al_5, al_7, al_8, al_10, al_11, al_12, al_14, al_15, al_17, al_18, al_19, al_20, al_22, al_23, al_24, al_25, al_27, al_28, al_29, al_30, al_32, al_33, al_34, al_35, al_37, al_38, al_40, al_42, al_5001, al_5002, al_5003, al_5004, al_5005, al_5006, al_5007, al_5008, al_5009, al_5010, al_5011, al_5012, al_5013, al_5014, al_5015, al_5016, al_5017, al_5018, al_5019, al_5020, al_5021, al_5022, al_5023, al_5024, al_5025, al_5026, al_9000, al_101, al_102, al_104, al_105, al_107, al_108, al_110, al_111, vcs_e, lg_c0, lg_cs, lg_nil, set_c0, set_cs, okst_0, okst_s, acok_n, acok_c, List.contains_nil, List.contains_cons, Bool.or_false, Bool.false_or, Bool.false_eq_true, if_false, if_true, ite_self, ne_eq, true_and, and_true, not_false_eq_true, not_true_eq_false, false_imp_iff, true_imp_iff, Nat.ble_eq, Bool.and_eq_true, reduceCtorEq, or_false, false_or, or_true, true_or, false_and, and_false, and_self, Int.reduceLE, Int.reduceAdd, Int.reduceSub, Int.reduceMul, Int.reduceNeg, Int.reduceLT, Int.reduceEq, Int.reduceNe, Nat.reduceBEq, Nat.reduceBNe, Nat.reduceEqDiff, amCmp_in, amCmp_lt, amCmp_le, amCmp_gt, amCmp_ge, amCmp_eq, amCmp_ne, Nat.reduceLeDiff, Nat.reduceSub, Bool.and_true, Bool.true_and, Bool.and_self, Bool.or_true, Bool.true_or, isRf_3, isRf_4, isRf_5, isRf_8, isRf_9, isRf_10, isRf_11, isRf_15, isRf_16, isRf_17, isRf_18, isRf_19, isRf_20, isRf_21, isRf_22, isRf_23, isRf_24, isRf_25, isRf_26, isRf_27, isRf_28, k_X9_reckon_0, k_X9_reckon_1, k_X9_reckon_4, k_X9_reckon_7, k_X9_reckon_9, k_X9_reckon_12, k_X9_reckon_13, k_X9_reckon_14, k_X9_reckon_15, k_X9_reckon_18, k_X9_reckon_19, k_X9_reckon_20, k_X9_reckon_23, k_X9_reckon_24, k_X9_reckon_26, k_X9_reckon_28, k_X9_reckon_29, k_X9_reckon_30, k_X9_reckon_33, k_X9_reckon_34, k_X9_reckon_35, k_X9_reckon_38, k_X9_reckon_39, k_X9_reckon_40, k_X9_reckon_43, k_X9_reckon_44, k_X9_reckon_45, k_X9_reckon_46, k_X9_reckon_47, k_X9_reckon_50, k_X9_reckon_51, k_X9_reckon_52, k_X9_reckon_55, k_X9_reckon_56, k_X9_reckon_57, k_X9_reckon_58, k_X9_reckon_61, k_X9_reckon_62, k_X9_reckon_63, k_X9_reckon_66, k_X9_reckon_67, k_X9_reckon_69, k_X9_reckon_70, k_X9_reckon_71, k_X9_reckon_74, k_X9_reckon_75, k_X9_reckon_77, k_X9_reckon_78, k_X9_reckon_79, k_X9_reckon_82, k_X9_reckon_83, k_X9_reckon_85, k_X9_reckon_86, k_X9_reckon_87, k_X9_reckon_90, k_X9_reckon_93, k_X9_reckon_94, k_X9_reckon_97, k_X9_reckon_98, k_X9_reckon_99, k_X9_reckon_100, k_X9_reckon_103, k_X9_reckon_104, k_X9_reckon_105, k_X9_reckon_106, k_X9_reckon_107, k_X9_reckon_110, k_X9_reckon_111, k_X9_reckon_112, k_X9_reckon_113, k_X9_reckon_116, k_X9_reckon_117, k_X9_reckon_120, k_X9_reckon_121, k_X9_reckon_124, k_X9_reckon_127, k_X9_reckon_129, k_X9_reckon_130, k_X9_reckon_132, k_X9_reckon_134, k_X9_reckon_137, k_X9_reckon_140, k_X9_reckon_142, k_X9_reckon_143, w_J9_max_7cf53_e, w_J9_min_7cf53_e, w_X0_isChair_e, w_X2_worth_e, w_X6_value_e, up_s, up_nj, up_na, up_up, savR_o, cpy_o, fillm_o, setAud_o, setv_o, setv_s, Int.reduceNe, Int.reduceEq, Int.reduceLT, Int.reduceAdd, not_false_eq_true, ne_eq, or_true, true_or, r0, a1, p0, p1, km, u27, pv1]
  generalize hf : pval σ 6 1 p (k % 3) = f at *
  generalize hd : pval σ 6 3 t 0 = d at *
  generalize hg : σ (a + 1) c = g at *
  have hrow : ∀ j, 0 ≤ j → j < 6 → up (up (up (up (up (up σ 27 0 f) 27 1 g) 27 2 d) 27 3 n) 27 4 k) 27 5 e 27 j = ltr f g d n k e j := by
    intro j j0 j1
    unfold up ltr
    simp only [true_and]
    (repeat' split) <;> first | rfl | omega
  have hLF : LF σ (up (up (up (up (up (up σ 27 0 f) 27 1 g) 27 2 d) 27 3 n) 27 4 k) 27 5 e) := fun b h1 _ _ _ _ => by simp only [up_na _ h1]
  have fin : ∀ w τ, LF σ τ → w = lwV σ (ltr f g d n k e) → Q (0, Int.tdiv (max 0 (min 99 w)) n) τ := fun w τ h1 h2 => by
    rw [Int.tdiv_eq_ediv_of_nonneg (by omega), h2]
    exact h τ h1
  simp only [clq]
  rcases hlw with hl | ⟨hl, hl0, hl1, hl2⟩
  · have e1 : f + g - d = lwV σ (ltr f g d n k e) := by unfold lwV; rw [if_pos hl]; rfl
    have fin1 := fin _ _ hLF e1
    repeat' (first | assumption | apply And.intro | intro _)
    all_goals first | omega | exact absurd trivial (by assumption) | exact ha | exact Or.inr rfl | (rw [if_pos (by omega)]; omega) | exact fin1 | exact trivial
  · have hla : 0 ≤ σ 26 1 := by unfold isLw at hl; omega
    have e2 : up (up (up (up (up (up σ 27 0 f) 27 1 g) 27 2 d) 27 3 n) 27 4 k) 27 5 e (σ 26 1 + 1) = σ (σ 26 1 + 1) := by
      unfold isLw at hl
      simp only [up_na _ (show σ 26 1 + 1 ≠ 27 by omega)]
    obtain ⟨v, hv0, hv⟩ := hl2 (ltr f g d n k e) (ltr_b ⟨by omega, by omega⟩ hh ⟨by omega, by omega⟩ ⟨by omega, by omega⟩ ⟨by omega, by omega⟩ he)
    have hv2 : wx (σ (σ 26 1 + 1)) (σ (σ 26 1 + 1) (-1)) (up (up (up (up (up (up σ 27 0 f) 27 1 g) 27 2 d) 27 3 n) 27 4 k) 27 5 e 27) 300 0 [] = some v := by rw [wx_cong _ _ hrow]; exact hv
    have e3 : v = lwV σ (ltr f g d n k e) := by unfold lwV; rw [if_neg (by omega), hv]; rfl
    have fin2 : ∀ g' : Int → Int, Q (0, Int.tdiv (max 0 (min 99 v)) n) (setv (up (up (up (up (up (up σ 27 0 f) 27 1 g) 27 2 d) 27 3 n) 27 4 k) 27 5 e) (σ 26 1 + 2) g') := fun g' => fin _ _ (fun b h1 h2 h3 h4 h5 => by
      rw [setv_o _ _ (by unfold isLw at hl; omega)]; exact hLF b h1 h2 h3 h4 h5) e3
    simp only [e2, hv2, Option.isSome_some, Option.getD_some]
    repeat' (first | assumption | apply And.intro | intro _)
    all_goals first | omega | exact absurd trivial (by assumption) | exact ha | exact Or.inr rfl | exact hl | (rw [if_pos (by omega)]; omega) | exact fin2 _ | exact trivial
theorem wd_197 : Cond.fieldLink RX9 39 "ArmchairHouse$Stage" "who" "LArmchairHouse$Audience;" ∈ TBL := tb_tab (List.mem_of_getElem? (i := 197) (by decide +kernel)) rfl
theorem fl_X9_39 : amFl RX9 9 6 39 RX9 TX9 9 := ⟨rfl, inT_9, by decide, wd_197⟩
theorem fp_X9_39 : amFp RX9 9 6 39 RX9 TX9 9 tyX9 (.object "ArmchairHouse$Audience") := ⟨fl_X9_39, tyX9_ok, nmX9, by decide +kernel⟩
theorem wd_198 : Cond.fieldLink RX9 28 "ArmchairHouse$Stage" "play" "I" ∈ TBL := tb_tab (List.mem_of_getElem? (i := 198) (by decide +kernel)) rfl
theorem fl_X9_28 : amFl RX9 9 7 28 RX9 TX9 9 := ⟨rfl, inT_9, by decide, wd_198⟩
theorem fp_X9_28 : amFp RX9 9 7 28 RX9 TX9 9 tyX9 .int := ⟨fl_X9_28, tyX9_ok, nmX9, by decide +kernel⟩
theorem wd_199 : Cond.fieldLink RX9 32 "ArmchairHouse$Stage" "sitter" "I" ∈ TBL := tb_tab (List.mem_of_getElem? (i := 199) (by decide +kernel)) rfl
theorem fl_X9_32 : amFl RX9 9 8 32 RX9 TX9 9 := ⟨rfl, inT_9, by decide, wd_199⟩
theorem fp_X9_32 : amFp RX9 9 8 32 RX9 TX9 9 tyX9 .int := ⟨fl_X9_32, tyX9_ok, nmX9, by decide +kernel⟩
theorem wd_188 : Cond.fieldLink RX9 19 "ArmchairHouse$Stage" "table" "[I" ∈ TBL := tb_tab (List.mem_of_getElem? (i := 188) (by decide +kernel)) rfl
theorem fl_X9_19 : amFl RX9 9 3 19 RX9 TX9 9 := ⟨rfl, inT_9, by decide, wd_188⟩
theorem wd_784 : Cond.methodLink RX9 73 yJ7_fill_53178 ∈ TBL := tb_tab (List.mem_of_getElem? (i := 784) (by decide +kernel)) rfl
theorem lk_X9_73 : amLk RX9 73 yJ7_fill_53178 cJ7_fill_53178 4 (none) 2 := ⟨wd_784, wd_13, wd_390, by decide +kernel, by decide +kernel, by decide⟩
def a_X9_openSitter : AC := [(0, vAload 0 1), (1, vAload 1 2), (2, vPutR TT 25 6 16 6 5), (5, vAload 0 6), (6, vIload 2 7), (7, vPutI 25 7 10), (10, vAload 0 11), (11, vIload 3 12), (12, vPutI 25 8 15), (15, vAload 0 16), (16, vGetR TT 25 3 8 19), (19, vI (-1) 20), (20, vCallSV w_J7_fill_53178 2 23), (23, vVret)]
theorem k_X9_openSitter_0 : look a_X9_openSitter 0 = vAload 0 1 := rfl
theorem k_X9_openSitter_1 : look a_X9_openSitter 1 = vAload 1 2 := rfl
theorem k_X9_openSitter_2 : look a_X9_openSitter 2 = vPutR TT 25 6 16 6 5 := rfl
theorem k_X9_openSitter_5 : look a_X9_openSitter 5 = vAload 0 6 := rfl
theorem k_X9_openSitter_6 : look a_X9_openSitter 6 = vIload 2 7 := rfl
theorem k_X9_openSitter_7 : look a_X9_openSitter 7 = vPutI 25 7 10 := rfl
theorem k_X9_openSitter_10 : look a_X9_openSitter 10 = vAload 0 11 := rfl
theorem k_X9_openSitter_11 : look a_X9_openSitter 11 = vIload 3 12 := rfl
theorem k_X9_openSitter_12 : look a_X9_openSitter 12 = vPutI 25 8 15 := rfl
theorem k_X9_openSitter_15 : look a_X9_openSitter 15 = vAload 0 16 := rfl
theorem k_X9_openSitter_16 : look a_X9_openSitter 16 = vGetR TT 25 3 8 19 := rfl
theorem k_X9_openSitter_19 : look a_X9_openSitter 19 = vI (-1) 20 := rfl
theorem k_X9_openSitter_20 : look a_X9_openSitter 20 = vCallSV w_J7_fill_53178 2 23 := rfl
theorem k_X9_openSitter_23 : look a_X9_openSitter 23 = vVret := rfl
theorem o_X9_openSitter {X : amX} (e1 : XT X = TT) (e2 : XD X = 1) (hB : amB X RX9 cX9_openSitter (none) 4) : ∀ pc, amOK X pc (look a_X9_openSitter pc) := by
  have hT : amTok (XT X) := e1 ▸ TT_ok
  refine look_ok ?_
  unfold a_X9_openSitter
  refine fc (ok_aload_n hB dX9_openSitter_0) ?_
  refine fc (ok_aload_n hB dX9_openSitter_1) ?_
  refine fc (okt_putR e1 hB hT fp_X9_39 (rt_obj _) rfl rfl rfl af_9_6 at_9_6 (by decide) (by decide) dX9_openSitter_2) ?_
  refine fc (ok_aload_n hB dX9_openSitter_5) ?_
  refine fc (ok_iload_n hB dX9_openSitter_6) ?_
  refine fc (ok_putI hB hT fp_X9_28 rfl rfl rfl af_9_7 dX9_openSitter_7) ?_
  refine fc (ok_aload_n hB dX9_openSitter_10) ?_
  refine fc (ok_iload_n hB dX9_openSitter_11) ?_
  refine fc (ok_putI hB hT fp_X9_32 rfl rfl rfl af_9_8 dX9_openSitter_12) ?_
  refine fc (ok_aload_n hB dX9_openSitter_15) ?_
  refine fc (okt_getR e1 hB hT fl_X9_19 rfl af_9_3 at_9_3 (by decide) dX9_openSitter_16) ?_
  refine fc (ok_iconst hB dX9_openSitter_19) ?_
  refine fc (ok_callSV hB (e1 ▸ s_J7_fill_53178) lk_X9_73 (by rw [e2]; decide) wd_389 dX9_openSitter_20) ?_
  refine fc (ok_vret hB dX9_openSitter_23) ?_
  exact fn

def w_X9_openSitter : WP := fun av σ Q => ∃ (a : Int) (p : Int) (t : Int), av = [(25, 26), (16, a), (0, p), (0, t)] ∧ (isA a ∧ Q (6, 0) (fillm (up (up (up σ 26 6 a) 26 7 p) 26 8 t) 28 324 (-1)))
theorem w_X9_openSitter_e (a : Int) (p : Int) (t : Int) (σ : Mem) (Q : AV → Mem → Prop) : w_X9_openSitter [(25, 26), (16, a), (0, p), (0, t)] σ Q = (isA a ∧ Q (6, 0) (fillm (up (up (up σ 26 6 a) 26 7 p) 26 8 t) 28 324 (-1))) := by
  apply propext; constructor
  · rintro ⟨a', p', t', h9, hb9⟩; cases h9; exact hb9
  · intro hb9; exact ⟨a, p, t, rfl, hb9⟩

set_option maxRecDepth 100000 in
set_option maxHeartbeats 4000000 in
theorem s_X9_openSitter : ∀ av σ Q, w_X9_openSitter av σ Q → amCall 1 0 0 TT yX9_openSitter cX9_openSitter 4 (none) av σ Q := by
  rintro av σ Q ⟨a, p, t, rfl, ha, h⟩
  have hab := isA_b ha
  have p0 : (0 : Int) ≤ a := by omega
  refine am_m0 (own := RX9) (A := look a_X9_openSitter) (fun X e1 e2 hB => o_X9_openSitter e1 e2 hB) rfl (by decide +kernel) rfl rfl 60 (w := 4) ?_
  change vcs _ _ _ _ 60 0 [(25, 26), (16, a), (0, p), (0, t)] [] σ
  simp only [↓reduceIte, inR_0, inR_1, inR_m, vSw2_e, swP_n, swP_c, vI_e, vL_e, vNull_e, vIload_e, vLload_e, vAload_e, vIstore_e, vLstore_e, vAstore_e, vIinc_e, vIadd_e, vIsub_e, vImul_e, vIand_e, vIor_e, vIxor_e, vIshl_e, vIshr_e, vIushr_e, vIdiv_e, vIrem_e, vLadd_e, vLsub_e, vLmul_e, vLand_e, vLor_e, vLxor_e, vLdiv_e, vLrem_e, vLushr_e, vLshl_e, vLcmp_e, vIneg_e, vI2l_e, vL2i_e, vI2b_e, vI2c_e, vDup_e, vPop_e, vDup2_e, vGoto_e, vIcEq_e, vIfEq_e, vIcNe_e, vIfNe_e, vIcLt_e, vIfLt_e, vIcGe_e, vIfGe_e, vIcGt_e, vIfGt_e, vIcLe_e, vIfLe_e, vNonnull_e, vSw_e, vGetI_e, vGetL_e, vGetR_e, vPutI_e, vPutZ_e, vPutL_e, vPutR_e, vIald_e, vIald_s, vLald_e, vBald_e, vBald_s, vAald_e, vIast_e, vLast_e, vBast_e, vAast_e, vAlen_e8, vAlen_e9, vAlen_e10, vAlen_e11, vAlen_e5, vAlen_e3, vGets_e, vCompact_e, vLdcS_e, vIret_e, vZret_e, vCret_e, vBret_e, vLret_e, vVret_e, vAret_e, vCallM_e0, vCallMV_e0, vCallS_e0, vCallSV_e0, vCallM_e1, vCallMV_e1, vCallS_e1, vCallSV_e1, vCallM_e2, vCallMV_e2, vCallS_e2, vCallSV_e2, vCallM_e3, vCallMV_e3, vCallS_e3, vCallSV_e3, vCallM_e4, vCallMV_e4, vCallS_e4, vCallSV_e4, vCallM_e5, vCallMV_e5, vCallS_e5, vCallSV_e5, vCallM_e6, vCallMV_e6, vCallS_e6, vCallSV_e6, vCallM_e7, vCallMV_e7, vCallS_e7, vCallSV_e7, vBad_e, vStrVal_e, vStrCod_e, vForm_e, vCallT_e0, vCallT_e1, vCallT_e2, vCopy_e, rf_0_0, rf_0_1, rf_0_2, rf_0_3, rf_0_4, rf_0_7, rf_0_10, rf_0_11, rf_0_12, rf_0_13, rf_0_14, rf_0_15, rf_0_16, rf_1_0, rf_3_0, rf_3_1, rf_6_0, rf_6_1, rf_9_0, rf_9_1, rf_9_3, rf_13_0, rf_13_1, rf_13_2, rf_16_0, rf_16_1, rf_16_2, rf_16_3, rf_21_0, rf_21_1, rf_21_2, rf_21_3, rf_26_0, rf_26_1, rf_26_2, rf_26_3, rf_26_4, rf_26_5, rf_26_6, rf_31_0, rf_31_2, rf_31_5, rf_31_6, rf_36_0, rf_36_1, rf_36_2, rf_36_3, rf_39_0, rf_39_1, rf_39_2, rf_41_0, rf_41_1, rf_41_2, rf_41_3, rf_5000_1, rf_5000_2, rf_5000_3, rf_5000_4, rf_5000_5, rf_5000_15, rf_5000_16, rf_5000_18, rf_5000_19, rf_5000_20, rf_5000_21, rf_5000_22, rf_5000_23, rf_5000_24, rf_5000_25, rf_5000_26, rf_5000_27, rf_5000_36, rf_5000_37, rf_5000_40, rf_5000_41, rf_5000_42, rf_5000_43, rf_5000_44, rf_5000_45, rf_5000_47, rf_5000_52, rf_5000_54, rf_5000_55, rf_100_0, rf_100_1, rf_103_0, rf_103_1, rf_106_0, rf_106_1, rf_109_0, rf_109_1, al_2, al_4, al_5, al_7, al_8, al_10, al_11, al_12, al_14, al_15, al_17, al_18, al_19, al_20, al_22, al_23, al_24, al_25, al_27, al_28, al_29, al_30, al_32, al_33, al_34, al_35, al_37, al_38, al_40, al_42, al_5001, al_5002, al_5003, al_5004, al_5005, al_5006, al_5007, al_5008, al_5009, al_5010, al_5011, al_5012, al_5013, al_5014, al_5015, al_5016, al_5017, al_5018, al_5019, al_5020, al_5021, al_5022, al_5023, al_5024, al_5025, al_5026, al_9000, al_101, al_102, al_104, al_105, al_107, al_108, al_110, al_111, vcs_e, lg_c0, lg_cs, lg_nil, set_c0, set_cs, okst_0, okst_s, acok_n, acok_c, List.contains_nil, List.contains_cons, Bool.or_false, Bool.false_or, Bool.false_eq_true, if_false, if_true, ite_self, ne_eq, true_and, and_true, not_false_eq_true, not_true_eq_false, false_imp_iff, true_imp_iff, Nat.ble_eq, Bool.and_eq_true, reduceCtorEq, or_false, false_or, or_true, true_or, false_and, and_false, and_self, Int.reduceLE, Int.reduceAdd, Int.reduceSub, Int.reduceMul, Int.reduceNeg, Int.reduceLT, Int.reduceEq, Int.reduceNe, Nat.reduceBEq, Nat.reduceBNe, Nat.reduceEqDiff, amCmp_in, amCmp_lt, amCmp_le, amCmp_gt, amCmp_ge, amCmp_eq, amCmp_ne, Nat.reduceLeDiff, Nat.reduceSub, Bool.and_true, Bool.true_and, Bool.and_self, Bool.or_true, Bool.true_or, isRf_3, isRf_4, isRf_5, isRf_8, isRf_9, isRf_10, isRf_11, isRf_15, isRf_16, isRf_17, isRf_18, isRf_19, isRf_20, isRf_21, isRf_22, isRf_23, isRf_24, isRf_25, isRf_26, isRf_27, isRf_28, k_X9_openSitter_0, k_X9_openSitter_1, k_X9_openSitter_2, k_X9_openSitter_5, k_X9_openSitter_6, k_X9_openSitter_7, k_X9_openSitter_10, k_X9_openSitter_11, k_X9_openSitter_12, k_X9_openSitter_15, k_X9_openSitter_16, k_X9_openSitter_19, k_X9_openSitter_20, k_X9_openSitter_23, w_J7_fill_53178_e, up_s, up_nj, up_na, up_up, savR_o, cpy_o, fillm_o, setAud_o, setv_o, setv_s, Int.reduceNe, Int.reduceEq, Int.reduceLT, Int.reduceAdd, not_false_eq_true, ne_eq, or_true, true_or, pr_26_6]
  repeat' (first | assumption | apply And.intro | intro _)
  all_goals first | omega | exact absurd trivial (by assumption) | exact h | exact rfl
/-- MOVED in a MINUTE, by who (a), SITTER t, PLAY p: CHAIR i of n that share -/
def gmv (σ : Mem) (a t p i n k : Int) : Int := if 0 ≤ t ∧ t < 6 ∧ bt (σ a 4) t = 1 then 0 else rkV σ (pval σ 6 1 p (k % 3)) (σ (a + 1) i) (pval σ 6 3 t 0) n k (σ a 6)
theorem gmv_b (σ : Mem) {a t p i n k : Int} (hn : 1 ≤ n) : 0 ≤ gmv σ a t p i n k ∧ gmv σ a t p i n k ≤ 99 := by
  unfold gmv; split
  · omega
  · exact rkV_b σ hn
/-- what is kept in the table is right -/
def tblOk (σ τ : Mem) (a t p : Int) : Prop := ∀ i n k, 0 ≤ i → i < 6 → 1 ≤ n → n ≤ 6 → 0 ≤ k → k < 9 → τ 28 ((i * 6 + n - 1) * 9 + k) = -1 ∨ τ 28 ((i * 6 + n - 1) * 9 + k) = rkV σ (pval σ 6 1 p (k % 3)) (σ (a + 1) i) (pval σ 6 3 t 0) n k (σ a 6)
/-- the Stage's own cells apart all is as in σ, and the Stage is opened for a, t, p -/
def SF (σ τ : Mem) : Prop := (∀ b, b ≠ 26 → b ≠ 27 → b ≠ 28 → b ≠ 29 → b ≠ 30 → b ≠ 102 → b ≠ 105 → b ≠ 108 → b ≠ 111 → τ b = σ b) ∧ τ 26 1 = σ 26 1
def SO (σ τ : Mem) (a t p : Int) : Prop := SF σ τ ∧ τ 26 6 = a ∧ τ 26 7 = p ∧ τ 26 8 = t ∧ tblOk σ τ a t p
/-- what the Stage needs -/
def stOk (σ : Mem) (a : Int) : Prop := isA a ∧ planB σ 6 ∧ lawOk σ ∧ (∀ i, 0 ≤ i → i < 6 → 0 ≤ σ (a + 1) i ∧ σ (a + 1) i ≤ 9) ∧ (0 ≤ σ a 6 ∧ σ a 6 ≤ 2000) ∧ InR (σ a 4)
theorem SF_rf (σ : Mem) : SF σ σ := ⟨fun _ _ _ _ _ _ _ _ _ _ => rfl, rfl⟩
theorem SF_LF {σ τ υ : Mem} (h : SF σ τ) (h' : LF τ υ) : SF σ υ := ⟨fun b h1 h2 h3 h4 h5 h6 h7 h8 h9 => by rw [h' b h2 h6 h7 h8 h9]; exact h.1 b h1 h2 h3 h4 h5 h6 h7 h8 h9, by rw [h' 26 (by decide) (by decide) (by decide) (by decide) (by decide)]; exact h.2⟩
theorem SF_tr {σ τ υ : Mem} (h : SF σ τ) (h' : SF τ υ) : SF σ υ := ⟨fun b h1 h2 h3 h4 h5 h6 h7 h8 h9 => by rw [h'.1 b h1 h2 h3 h4 h5 h6 h7 h8 h9]; exact h.1 b h1 h2 h3 h4 h5 h6 h7 h8 h9, by rw [h'.2]; exact h.2⟩
theorem SF_up {σ τ : Mem} (h : SF σ τ) {a k v : Int} (ha : 27 ≤ a ∧ a ≤ 30) : SF σ (up τ a k v) := ⟨fun b h1 h2 h3 h4 h5 h6 h7 h8 h9 => by rw [up_na _ (by omega)]; exact h.1 b h1 h2 h3 h4 h5 h6 h7 h8 h9, by rw [up_na _ (by omega)]; exact h.2⟩
theorem SF_r {σ τ : Mem} (h : SF σ τ) {b : Int} (hb : b < 26 ∨ (30 < b ∧ b < 100)) : τ b = σ b := h.1 b (by omega) (by omega) (by omega) (by omega) (by omega) (by omega) (by omega) (by omega) (by omega)
theorem SF_l {σ τ : Mem} (h : SF σ τ) {a : Int} (ha : isLw a) : τ (a + 1) = σ (a + 1) := by
  unfold isLw at ha
  exact h.1 _ (by omega) (by omega) (by omega) (by omega) (by omega) (by omega) (by omega) (by omega) (by omega)
theorem SF_lawOk {σ τ : Mem} (h : SF σ τ) (hl : lawOk σ) : lawOk τ := by
  unfold lawOk
  rw [h.2]
  rcases hl with hl | ⟨h1, h2⟩
  · exact Or.inl hl
  · refine Or.inr ⟨h1, ?_⟩
    rw [SF_l h h1]; exact h2
theorem SF_lwV {σ τ : Mem} (h : SF σ τ) (hl : lawOk σ) (L : Int → Int) : lwV τ L = lwV σ L := by
  unfold lwV
  rw [h.2]
  rcases hl with hl | ⟨h1, h2⟩
  · rw [if_pos hl, if_pos hl]
  · rw [SF_l h h1]
theorem SF_rkV {σ τ : Mem} (h : SF σ τ) (hl : lawOk σ) (a b c d e f : Int) : rkV τ a b c d e f = rkV σ a b c d e f := by
  unfold rkV; rw [SF_lwV h hl]
theorem SF_planB {σ τ : Mem} (h : SF σ τ) (hp : planB σ 6) : planB τ 6 := by
  unfold planB; rw [SF_r h (b := 6 + 2) (by omega), SF_r h (b := 6 + 1) (by omega)]; exact hp
theorem SF_pval {σ τ : Mem} (h : SF σ τ) (x y z : Int) : pval τ 6 x y z = pval σ 6 x y z := pval_cong (SF_r h (b := 6 + 1) (by omega)) x y z
theorem SF_pcnt {σ τ : Mem} (h : SF σ τ) (x : Int) : pcnt τ 6 x = pcnt σ 6 x := pcnt_cong (SF_r h (b := 6 + 2) (by omega)) x
theorem SF_a {σ τ : Mem} (h : SF σ τ) {a : Int} (ha : isA a) : τ a = σ a ∧ τ (a + 1) = σ (a + 1) ∧ τ (a + 2) = σ (a + 2) ∧ τ (a + 3) = σ (a + 3) ∧ τ (a + 4) = σ (a + 4) := by
  have := isA_b ha
  exact ⟨SF_r h (by omega), SF_r h (by omega), SF_r h (by omega), SF_r h (by omega), SF_r h (by rcases ha with rfl | rfl <;> omega)⟩
theorem SO_up {σ τ : Mem} {a t p : Int} (h : SO σ τ a t p) {b k v : Int} (hb : b = 29 ∨ b = 30) : SO σ (up τ b k v) a t p := by
  obtain ⟨h1, h2, h3, h4, h5⟩ := h
  refine ⟨SF_up h1 (by omega), ?_, ?_, ?_, fun i n k a b c d e f => ?_⟩
  · rw [up_na _ (by omega)]; exact h2
  · rw [up_na _ (by omega)]; exact h3
  · rw [up_na _ (by omega)]; exact h4
  · rw [up_na _ (by omega)]; exact h5 i n k a b c d e f
theorem SO_open {σ τ : Mem} (h : SF σ τ) (a t p : Int) : SO σ (fillm (up (up (up τ 26 6 a) 26 7 p) 26 8 t) 28 324 (-1)) a t p := by
  refine ⟨⟨fun b h1 h2 h3 h4 h5 h6 h7 h8 h9 => ?_, ?_⟩, ?_, ?_, ?_, fun i n k a b c d e f => Or.inl ?_⟩
  · rw [fillm_o _ h3, up_na _ h1, up_na _ h1, up_na _ h1]; exact h.1 b h1 h2 h3 h4 h5 h6 h7 h8 h9
  · rw [fillm_o _ (by decide), up_nj _ (by decide), up_nj _ (by decide), up_nj _ (by decide)]; exact h.2
  · rw [fillm_o _ (by decide), up_nj _ (by decide), up_nj _ (by decide), up_s]
  · rw [fillm_o _ (by decide), up_nj _ (by decide), up_s]
  · rw [fillm_o _ (by decide), up_s]
  · unfold fillm; rw [if_pos ⟨rfl, by omega, by omega⟩]

theorem wd_812 : Cond.methodLink RX9 79 yX0_isIll ∈ TBL := tb_tab (List.mem_of_getElem? (i := 812) (by decide +kernel)) rfl
theorem wd_744 : Cond.code yX0_isIll cX0_isIll 2 (some .boolean) ∈ TBL := tb_tab (List.mem_of_getElem? (i := 744) (by decide +kernel)) rfl
theorem lk_X9_79 : amLk RX9 79 yX0_isIll cX0_isIll 2 (some .boolean) 1 := ⟨wd_812, wd_6, wd_744, by decide +kernel, by decide +kernel, by decide⟩
theorem wd_742 : Cond.instanceMethod yX0_isIll ∈ TBL := tb_tab (List.mem_of_getElem? (i := 742) (by decide +kernel)) rfl
theorem wd_743 : Cond.selects RX0 yX0_isIll yX0_isIll ∈ TBL := tb_tab (List.mem_of_getElem? (i := 743) (by decide +kernel)) rfl
theorem wd_161 : Cond.fieldLink RX9 82 "ArmchairHouse$Audience" "eveningNow" "I" ∈ TBL := tb_tab (List.mem_of_getElem? (i := 161) (by decide +kernel)) rfl
theorem fl_X9_82 : amFl RX9 0 6 82 RX0 TX0 7 := ⟨rfl, inT_0, by decide, wd_161⟩
theorem wd_813 : Cond.methodLink RX9 85 yX9_reckon ∈ TBL := tb_tab (List.mem_of_getElem? (i := 813) (by decide +kernel)) rfl
theorem wd_7 : Cond.initialized RX9 ∈ TBL := tb_tab (List.mem_of_getElem? (i := 7) (by decide +kernel)) rfl
theorem wd_816 : Cond.code yX9_reckon cX9_reckon 9 (some .int) ∈ TBL := tb_tab (List.mem_of_getElem? (i := 816) (by decide +kernel)) rfl
theorem lk_X9_85 : amLk RX9 85 yX9_reckon cX9_reckon 9 (some .int) 7 := ⟨wd_813, wd_7, wd_816, by decide +kernel, by decide +kernel, by decide⟩
theorem wd_814 : Cond.instanceMethod yX9_reckon ∈ TBL := tb_tab (List.mem_of_getElem? (i := 814) (by decide +kernel)) rfl
theorem wd_815 : Cond.selects RX9 yX9_reckon yX9_reckon ∈ TBL := tb_tab (List.mem_of_getElem? (i := 815) (by decide +kernel)) rfl
def a_X9_movedByTable : AC := [(0, vIload 1 1), (1, vI 6 3), (3, vImul 4), (4, vIload 3 5), (5, vIadd 6), (6, vI 1 7), (7, vIsub 8), (8, vI 9 10), (10, vImul 11), (11, vIload 2 12), (12, vIadd 13), (13, vIstore 4 15), (15, vAload 0 16), (16, vGetR TT 25 6 16 19), (19, vAload 0 20), (20, vGetI 25 8 23), (23, vCallM w_X0_isIll 16 1 26), (26, vIfNe 44 29), (29, vIload 4 31), (31, vIfLt 44 34), (34, vIload 4 36), (36, vAload 0 37), (37, vGetR TT 25 3 8 40), (40, vAlen TT 41), (41, vIcLt 46 44), (44, vI 0 45), (45, vIret), (46, vAload 0 47), (47, vGetR TT 25 3 8 50), (50, vIload 4 52), (52, vIald TT 53), (53, vI (-1) 54), (54, vIcNe 90 57), (57, vAload 0 58), (58, vGetR TT 25 3 8 61), (61, vIload 4 63), (63, vAload 0 64), (64, vAload 0 65), (65, vGetR TT 25 6 16 68), (68, vIload 1 69), (69, vAload 0 70), (70, vGetI 25 8 73), (73, vAload 0 74), (74, vGetI 25 7 77), (77, vIload 2 78), (78, vIload 3 79), (79, vAload 0 80), (80, vGetR TT 25 6 16 83), (83, vGetI 16 6 86), (86, vCallM w_X9_reckon 25 7 89), (89, vIast TT 90), (90, vAload 0 91), (91, vGetR TT 25 3 8 94), (94, vIload 4 96), (96, vIald TT 97), (97, vIret)]
theorem k_X9_movedByTable_0 : look a_X9_movedByTable 0 = vIload 1 1 := rfl
theorem k_X9_movedByTable_1 : look a_X9_movedByTable 1 = vI 6 3 := rfl
theorem k_X9_movedByTable_3 : look a_X9_movedByTable 3 = vImul 4 := rfl
theorem k_X9_movedByTable_4 : look a_X9_movedByTable 4 = vIload 3 5 := rfl
theorem k_X9_movedByTable_5 : look a_X9_movedByTable 5 = vIadd 6 := rfl
theorem k_X9_movedByTable_6 : look a_X9_movedByTable 6 = vI 1 7 := rfl
theorem k_X9_movedByTable_7 : look a_X9_movedByTable 7 = vIsub 8 := rfl
theorem k_X9_movedByTable_8 : look a_X9_movedByTable 8 = vI 9 10 := rfl
theorem k_X9_movedByTable_10 : look a_X9_movedByTable 10 = vImul 11 := rfl
theorem k_X9_movedByTable_11 : look a_X9_movedByTable 11 = vIload 2 12 := rfl
theorem k_X9_movedByTable_12 : look a_X9_movedByTable 12 = vIadd 13 := rfl
theorem k_X9_movedByTable_13 : look a_X9_movedByTable 13 = vIstore 4 15 := rfl
theorem k_X9_movedByTable_15 : look a_X9_movedByTable 15 = vAload 0 16 := rfl
theorem k_X9_movedByTable_16 : look a_X9_movedByTable 16 = vGetR TT 25 6 16 19 := rfl
theorem k_X9_movedByTable_19 : look a_X9_movedByTable 19 = vAload 0 20 := rfl
theorem k_X9_movedByTable_20 : look a_X9_movedByTable 20 = vGetI 25 8 23 := rfl
theorem k_X9_movedByTable_23 : look a_X9_movedByTable 23 = vCallM w_X0_isIll 16 1 26 := rfl
theorem k_X9_movedByTable_26 : look a_X9_movedByTable 26 = vIfNe 44 29 := rfl
theorem k_X9_movedByTable_29 : look a_X9_movedByTable 29 = vIload 4 31 := rfl
theorem k_X9_movedByTable_31 : look a_X9_movedByTable 31 = vIfLt 44 34 := rfl
theorem k_X9_movedByTable_34 : look a_X9_movedByTable 34 = vIload 4 36 := rfl
theorem k_X9_movedByTable_36 : look a_X9_movedByTable 36 = vAload 0 37 := rfl
theorem k_X9_movedByTable_37 : look a_X9_movedByTable 37 = vGetR TT 25 3 8 40 := rfl
theorem k_X9_movedByTable_40 : look a_X9_movedByTable 40 = vAlen TT 41 := rfl
theorem k_X9_movedByTable_41 : look a_X9_movedByTable 41 = vIcLt 46 44 := rfl
theorem k_X9_movedByTable_44 : look a_X9_movedByTable 44 = vI 0 45 := rfl
theorem k_X9_movedByTable_45 : look a_X9_movedByTable 45 = vIret := rfl
theorem k_X9_movedByTable_46 : look a_X9_movedByTable 46 = vAload 0 47 := rfl
theorem k_X9_movedByTable_47 : look a_X9_movedByTable 47 = vGetR TT 25 3 8 50 := rfl
theorem k_X9_movedByTable_50 : look a_X9_movedByTable 50 = vIload 4 52 := rfl
theorem k_X9_movedByTable_52 : look a_X9_movedByTable 52 = vIald TT 53 := rfl
theorem k_X9_movedByTable_53 : look a_X9_movedByTable 53 = vI (-1) 54 := rfl
theorem k_X9_movedByTable_54 : look a_X9_movedByTable 54 = vIcNe 90 57 := rfl
theorem k_X9_movedByTable_57 : look a_X9_movedByTable 57 = vAload 0 58 := rfl
theorem k_X9_movedByTable_58 : look a_X9_movedByTable 58 = vGetR TT 25 3 8 61 := rfl
theorem k_X9_movedByTable_61 : look a_X9_movedByTable 61 = vIload 4 63 := rfl
theorem k_X9_movedByTable_63 : look a_X9_movedByTable 63 = vAload 0 64 := rfl
theorem k_X9_movedByTable_64 : look a_X9_movedByTable 64 = vAload 0 65 := rfl
theorem k_X9_movedByTable_65 : look a_X9_movedByTable 65 = vGetR TT 25 6 16 68 := rfl
theorem k_X9_movedByTable_68 : look a_X9_movedByTable 68 = vIload 1 69 := rfl
theorem k_X9_movedByTable_69 : look a_X9_movedByTable 69 = vAload 0 70 := rfl
theorem k_X9_movedByTable_70 : look a_X9_movedByTable 70 = vGetI 25 8 73 := rfl
theorem k_X9_movedByTable_73 : look a_X9_movedByTable 73 = vAload 0 74 := rfl
theorem k_X9_movedByTable_74 : look a_X9_movedByTable 74 = vGetI 25 7 77 := rfl
theorem k_X9_movedByTable_77 : look a_X9_movedByTable 77 = vIload 2 78 := rfl
theorem k_X9_movedByTable_78 : look a_X9_movedByTable 78 = vIload 3 79 := rfl
theorem k_X9_movedByTable_79 : look a_X9_movedByTable 79 = vAload 0 80 := rfl
theorem k_X9_movedByTable_80 : look a_X9_movedByTable 80 = vGetR TT 25 6 16 83 := rfl
theorem k_X9_movedByTable_83 : look a_X9_movedByTable 83 = vGetI 16 6 86 := rfl
theorem k_X9_movedByTable_86 : look a_X9_movedByTable 86 = vCallM w_X9_reckon 25 7 89 := rfl
theorem k_X9_movedByTable_89 : look a_X9_movedByTable 89 = vIast TT 90 := rfl
theorem k_X9_movedByTable_90 : look a_X9_movedByTable 90 = vAload 0 91 := rfl
theorem k_X9_movedByTable_91 : look a_X9_movedByTable 91 = vGetR TT 25 3 8 94 := rfl
theorem k_X9_movedByTable_94 : look a_X9_movedByTable 94 = vIload 4 96 := rfl
theorem k_X9_movedByTable_96 : look a_X9_movedByTable 96 = vIald TT 97 := rfl
theorem k_X9_movedByTable_97 : look a_X9_movedByTable 97 = vIret := rfl
theorem o_X9_movedByTable {X : amX} (e1 : XT X = TT) (e2 : XD X = 3) (hB : amB X RX9 cX9_movedByTable (some .int) 5) : ∀ pc, amOK X pc (look a_X9_movedByTable pc) := by
  have hT : amTok (XT X) := e1 ▸ TT_ok
  refine look_ok ?_
  unfold a_X9_movedByTable
  refine fc (ok_iload_n hB dX9_movedByTable_0) ?_
  refine fc (ok_bipush hB dX9_movedByTable_1 (by decide)) ?_
  refine fc (ok_imul hB dX9_movedByTable_3) ?_
  refine fc (ok_iload_n hB dX9_movedByTable_4) ?_
  refine fc (ok_iadd hB dX9_movedByTable_5) ?_
  refine fc (ok_iconst hB dX9_movedByTable_6) ?_
  refine fc (ok_isub hB dX9_movedByTable_7) ?_
  refine fc (ok_bipush hB dX9_movedByTable_8 (by decide)) ?_
  refine fc (ok_imul hB dX9_movedByTable_10) ?_
  refine fc (ok_iload_n hB dX9_movedByTable_11) ?_
  refine fc (ok_iadd hB dX9_movedByTable_12) ?_
  refine fc (ok_istore hB (by decide) dX9_movedByTable_13) ?_
  refine fc (ok_aload_n hB dX9_movedByTable_15) ?_
  refine fc (okt_getR e1 hB hT fl_X9_39 rfl af_9_6 at_9_6 (by decide) dX9_movedByTable_16) ?_
  refine fc (ok_aload_n hB dX9_movedByTable_19) ?_
  refine fc (ok_getI hB hT fl_X9_32 rfl rfl (Or.inl af_9_8) dX9_movedByTable_20) ?_
  refine fc (ok_callM hB hT (e1 ▸ s_X0_isIll) lk_X9_79 (by rw [e2]; decide) (c := 0) rfl rfl rfl wd_742 wd_743 dX9_movedByTable_23) ?_
  refine fc (ok_if_ne hB (t := 44) (by decide) dX9_movedByTable_26) ?_
  refine fc (ok_iload hB dX9_movedByTable_29) ?_
  refine fc (ok_if_lt hB (t := 44) (by decide) dX9_movedByTable_31) ?_
  refine fc (ok_iload hB dX9_movedByTable_34) ?_
  refine fc (ok_aload_n hB dX9_movedByTable_36) ?_
  refine fc (okt_getR e1 hB hT fl_X9_19 rfl af_9_3 at_9_3 (by decide) dX9_movedByTable_37) ?_
  refine fc (okt_arraylength e1 hB dX9_movedByTable_40) ?_
  refine fc (ok_icmp_lt hB (t := 46) (by decide) dX9_movedByTable_41) ?_
  refine fc (ok_iconst hB dX9_movedByTable_44) ?_
  refine fc (ok_iret hB dX9_movedByTable_45) ?_
  refine fc (ok_aload_n hB dX9_movedByTable_46) ?_
  refine fc (okt_getR e1 hB hT fl_X9_19 rfl af_9_3 at_9_3 (by decide) dX9_movedByTable_47) ?_
  refine fc (ok_iload hB dX9_movedByTable_50) ?_
  refine fc (okt_iaload e1 hB dX9_movedByTable_52) ?_
  refine fc (ok_iconst hB dX9_movedByTable_53) ?_
  refine fc (ok_icmp_ne hB (t := 90) (by decide) dX9_movedByTable_54) ?_
  refine fc (ok_aload_n hB dX9_movedByTable_57) ?_
  refine fc (okt_getR e1 hB hT fl_X9_19 rfl af_9_3 at_9_3 (by decide) dX9_movedByTable_58) ?_
  refine fc (ok_iload hB dX9_movedByTable_61) ?_
  refine fc (ok_aload_n hB dX9_movedByTable_63) ?_
  refine fc (ok_aload_n hB dX9_movedByTable_64) ?_
  refine fc (okt_getR e1 hB hT fl_X9_39 rfl af_9_6 at_9_6 (by decide) dX9_movedByTable_65) ?_
  refine fc (ok_iload_n hB dX9_movedByTable_68) ?_
  refine fc (ok_aload_n hB dX9_movedByTable_69) ?_
  refine fc (ok_getI hB hT fl_X9_32 rfl rfl (Or.inl af_9_8) dX9_movedByTable_70) ?_
  refine fc (ok_aload_n hB dX9_movedByTable_73) ?_
  refine fc (ok_getI hB hT fl_X9_28 rfl rfl (Or.inl af_9_7) dX9_movedByTable_74) ?_
  refine fc (ok_iload_n hB dX9_movedByTable_77) ?_
  refine fc (ok_iload_n hB dX9_movedByTable_78) ?_
  refine fc (ok_aload_n hB dX9_movedByTable_79) ?_
  refine fc (okt_getR e1 hB hT fl_X9_39 rfl af_9_6 at_9_6 (by decide) dX9_movedByTable_80) ?_
  refine fc (ok_getI hB hT fl_X9_82 rfl rfl (Or.inl af_0_6) dX9_movedByTable_83) ?_
  refine fc (ok_callM hB hT (e1 ▸ s_X9_reckon) lk_X9_85 (by rw [e2]; decide) (c := 9) rfl rfl rfl wd_814 wd_815 dX9_movedByTable_86) ?_
  refine fc (okt_iastore e1 hB dX9_movedByTable_89) ?_
  refine fc (ok_aload_n hB dX9_movedByTable_90) ?_
  refine fc (okt_getR e1 hB hT fl_X9_19 rfl af_9_3 at_9_3 (by decide) dX9_movedByTable_91) ?_
  refine fc (ok_iload hB dX9_movedByTable_94) ?_
  refine fc (okt_iaload e1 hB dX9_movedByTable_96) ?_
  refine fc (ok_iret hB dX9_movedByTable_97) ?_
  exact fn

def w_X9_movedByTable : WP := fun av σ Q => ∃ (c : Int) (k : Int) (n : Int), av = [(25, 26), (0, c), (0, k), (0, n)] ∧ (∃ (m : Mem) (a t p : Int), stOk m a ∧ SO m σ a t p ∧ 0 ≤ c ∧ c < 6 ∧ 0 ≤ k ∧ k < 9 ∧ 1 ≤ n ∧ n ≤ 6 ∧ InR t ∧ InR p ∧ (∀ τ, SO m τ a t p → τ 29 = σ 29 → τ 30 = σ 30 → Q (0, gmv m a t p c n k) τ))
theorem w_X9_movedByTable_e (c : Int) (k : Int) (n : Int) (σ : Mem) (Q : AV → Mem → Prop) : w_X9_movedByTable [(25, 26), (0, c), (0, k), (0, n)] σ Q = (∃ (m : Mem) (a t p : Int), stOk m a ∧ SO m σ a t p ∧ 0 ≤ c ∧ c < 6 ∧ 0 ≤ k ∧ k < 9 ∧ 1 ≤ n ∧ n ≤ 6 ∧ InR t ∧ InR p ∧ (∀ τ, SO m τ a t p → τ 29 = σ 29 → τ 30 = σ 30 → Q (0, gmv m a t p c n k) τ)) := by
  apply propext; constructor
  · rintro ⟨c', k', n', h9, hb9⟩; cases h9; exact hb9
  · intro hb9; exact ⟨c, k, n, rfl, hb9⟩

set_option maxRecDepth 100000 in
set_option maxHeartbeats 4000000 in
theorem s_X9_movedByTable : ∀ av σ Q, w_X9_movedByTable av σ Q → amCall 3 0 0 TT yX9_movedByTable cX9_movedByTable 5 (some .int) av σ Q := by
  rintro av σ Q ⟨c, k, n, rfl, m, a, t, p, ⟨ha, hB, hlw, hh, he, hi⟩, hS, hc0, hc1, hk0, hk1, hn0, hn1, ht, hp, h⟩
  obtain ⟨hF, s6, s7, s8, htb⟩ := id hS
  have hab := isA_b ha
  obtain ⟨ra, ra1, -, -, -⟩ := SF_a hF ha
  have p0 : (0 : Int) ≤ a := by omega
  have hat := htb c n k hc0 hc1 hn0 hn1 hk0 hk1
  refine am_m0 (own := RX9) (A := look a_X9_movedByTable) (fun X e1 e2 hB => o_X9_movedByTable e1 e2 hB) rfl (by decide +kernel) rfl rfl 90 (w := 5) ?_
  change vcs _ _ _ _ 90 0 [(25, 26), (0, c), (0, k), (0, n), (6, 0)] [] σ
  simp only [↓reduceIte, inR_0, inR_1, inR_m, vSw2_e, swP_n, swP_c, vI_e, vL_e, vNull_e, vIload_e, vLload_e, vAload_e, vIstore_e, vLstore_e, vAstore_e, vIinc_e, vIadd_e, vIsub_e, vImul_e, vIand_e, vIor_e, vIxor_e, vIshl_e, vIshr_e, vIushr_e, vIdiv_e, vIrem_e, vLadd_e, vLsub_e, vLmul_e, vLand_e, vLor_e, vLxor_e, vLdiv_e, vLrem_e, vLushr_e, vLshl_e, vLcmp_e, vIneg_e, vI2l_e, vL2i_e, vI2b_e, vI2c_e, vDup_e, vPop_e, vDup2_e, vGoto_e, vIcEq_e, vIfEq_e, vIcNe_e, vIfNe_e, vIcLt_e, vIfLt_e, vIcGe_e, vIfGe_e, vIcGt_e, vIfGt_e, vIcLe_e, vIfLe_e, vNonnull_e, vSw_e, vGetI_e, vGetL_e, vGetR_e, vPutI_e, vPutZ_e, vPutL_e, vPutR_e, vIald_e, vIald_s, vLald_e, vBald_e, vBald_s, vAald_e, vIast_e, vLast_e, vBast_e, vAast_e, vAlen_e8, vAlen_e9, vAlen_e10, vAlen_e11, vAlen_e5, vAlen_e3, vGets_e, vCompact_e, vLdcS_e, vIret_e, vZret_e, vCret_e, vBret_e, vLret_e, vVret_e, vAret_e, vCallM_e0, vCallMV_e0, vCallS_e0, vCallSV_e0, vCallM_e1, vCallMV_e1, vCallS_e1, vCallSV_e1, vCallM_e2, vCallMV_e2, vCallS_e2, vCallSV_e2, vCallM_e3, vCallMV_e3, vCallS_e3, vCallSV_e3, vCallM_e4, vCallMV_e4, vCallS_e4, vCallSV_e4, vCallM_e5, vCallMV_e5, vCallS_e5, vCallSV_e5, vCallM_e6, vCallMV_e6, vCallS_e6, vCallSV_e6, vCallM_e7, vCallMV_e7, vCallS_e7, vCallSV_e7, vBad_e, vStrVal_e, vStrCod_e, vForm_e, vCallT_e0, vCallT_e1, vCallT_e2, vCopy_e, rf_0_0, rf_0_1, rf_0_2, rf_0_3, rf_0_4, rf_0_7, rf_0_10, rf_0_11, rf_0_12, rf_0_13, rf_0_14, rf_0_15, rf_0_16, rf_1_0, rf_3_0, rf_3_1, rf_6_0, rf_6_1, rf_9_0, rf_9_1, rf_9_3, rf_13_0, rf_13_1, rf_13_2, rf_16_0, rf_16_1, rf_16_2, rf_16_3, rf_21_0, rf_21_1, rf_21_2, rf_21_3, rf_26_0, rf_26_1, rf_26_2, rf_26_3, rf_26_4, rf_26_5, rf_26_6, rf_31_0, rf_31_2, rf_31_5, rf_31_6, rf_36_0, rf_36_1, rf_36_2, rf_36_3, rf_39_0, rf_39_1, rf_39_2, rf_41_0, rf_41_1, rf_41_2, rf_41_3, rf_5000_1, rf_5000_2, rf_5000_3, rf_5000_4, rf_5000_5, rf_5000_15, rf_5000_16, rf_5000_18, rf_5000_19, rf_5000_20, rf_5000_21, rf_5000_22, rf_5000_23, rf_5000_24, rf_5000_25, rf_5000_26, rf_5000_27, rf_5000_36, rf_5000_37, rf_5000_40, rf_5000_41, rf_5000_42, rf_5000_43, rf_5000_44, rf_5000_45, rf_5000_47, rf_5000_52, rf_5000_54, rf_5000_55, rf_100_0, rf_100_1, rf_103_0, rf_103_1, rf_106_0, rf_106_1, rf_109_0, rf_109_1, al_2, al_4, al_5, al_7, al_8, al_10, al_11, al_12, al_14, al_15, al_17, al_18, al_19, al_20, al_22, al_23, al_24, al_25, al_27, al_28, al_29, al_30, al_32, al_33, al_34, al_35, al_37, al_38, al_40, al_42, al_5001, al_5002, al_5003, al_5004, al_5005, al_5006, al_5007, al_5008, al_5009, al_5010, al_5011, al_5012, al_5013, al_5014, al_5015, al_5016, al_5017, al_5018, al_5019, al_5020, al_5021, al_5022, al_5023, al_5024, al_5025, al_5026, al_9000, al_101, al_102, al_104, al_105, al_107, al_108, al_110, al_111, vcs_e, lg_c0, lg_cs, lg_nil, set_c0, set_cs, okst_0, okst_s, acok_n, acok_c, List.contains_nil, List.contains_cons, Bool.or_false, Bool.false_or, Bool.false_eq_true, if_false, if_true, ite_self, ne_eq, true_and, and_true, not_false_eq_true, not_true_eq_false, false_imp_iff, true_imp_iff, Nat.ble_eq, Bool.and_eq_true, reduceCtorEq, or_false, false_or, or_true, true_or, false_and, and_false, and_self, Int.reduceLE, Int.reduceAdd, Int.reduceSub, Int.reduceMul, Int.reduceNeg, Int.reduceLT, Int.reduceEq, Int.reduceNe, Nat.reduceBEq, Nat.reduceBNe, Nat.reduceEqDiff, amCmp_in, amCmp_lt, amCmp_le, amCmp_gt, amCmp_ge, amCmp_eq, amCmp_ne, Nat.reduceLeDiff, Nat.reduceSub, Bool.and_true, Bool.true_and, Bool.and_self, Bool.or_true, Bool.true_or, isRf_3, isRf_4, isRf_5, isRf_8, isRf_9, isRf_10, isRf_11, isRf_15, isRf_16, isRf_17, isRf_18, isRf_19, isRf_20, isRf_21, isRf_22, isRf_23, isRf_24, isRf_25, isRf_26, isRf_27, isRf_28, k_X9_movedByTable_0, k_X9_movedByTable_1, k_X9_movedByTable_3, k_X9_movedByTable_4, k_X9_movedByTable_5, k_X9_movedByTable_6, k_X9_movedByTable_7, k_X9_movedByTable_8, k_X9_movedByTable_10, k_X9_movedByTable_11, k_X9_movedByTable_12, k_X9_movedByTable_13, k_X9_movedByTable_15, k_X9_movedByTable_16, k_X9_movedByTable_19, k_X9_movedByTable_20, k_X9_movedByTable_23, k_X9_movedByTable_26, k_X9_movedByTable_29, k_X9_movedByTable_31, k_X9_movedByTable_34, k_X9_movedByTable_36, k_X9_movedByTable_37, k_X9_movedByTable_40, k_X9_movedByTable_41, k_X9_movedByTable_44, k_X9_movedByTable_45, k_X9_movedByTable_46, k_X9_movedByTable_47, k_X9_movedByTable_50, k_X9_movedByTable_52, k_X9_movedByTable_53, k_X9_movedByTable_54, k_X9_movedByTable_57, k_X9_movedByTable_58, k_X9_movedByTable_61, k_X9_movedByTable_63, k_X9_movedByTable_64, k_X9_movedByTable_65, k_X9_movedByTable_68, k_X9_movedByTable_69, k_X9_movedByTable_70, k_X9_movedByTable_73, k_X9_movedByTable_74, k_X9_movedByTable_77, k_X9_movedByTable_78, k_X9_movedByTable_79, k_X9_movedByTable_80, k_X9_movedByTable_83, k_X9_movedByTable_86, k_X9_movedByTable_89, k_X9_movedByTable_90, k_X9_movedByTable_91, k_X9_movedByTable_94, k_X9_movedByTable_96, k_X9_movedByTable_97, w_X0_isIll_e, w_X9_reckon_e, up_s, up_nj, up_na, up_up, savR_o, cpy_o, fillm_o, setAud_o, setv_o, setv_s, Int.reduceNe, Int.reduceEq, Int.reduceLT, Int.reduceAdd, not_false_eq_true, ne_eq, or_true, true_or, s6, s7, s8, ra, ra1, p0, SF_pval hF, SF_rkV hF hlw]
  have hhc := hh c hc0 hc1
  have hB' := SF_planB hF hB
  have hlw' := SF_lawOk hF hlw
  by_cases c1 : 0 ≤ t ∧ t < 6 ∧ bt (m a 4) t = 1
  · have hq := h σ hS rfl rfl
    unfold gmv at hq
    rw [if_pos c1] at hq
    rw [if_pos c1]
    repeat' (first | assumption | apply And.intro | intro _)
    all_goals first | omega | exact absurd trivial (by assumption) | exact ha | exact hi | exact hq
  · have hg : gmv m a t p c n k = rkV m (pval m 6 1 p (k % 3)) (m (a + 1) c) (pval m 6 3 t 0) n k (m a 6) := by unfold gmv; rw [if_neg c1]
    rw [hg] at h
    rw [if_neg c1]
    have rb := rkV_b m (f := pval m 6 1 p (k % 3)) (h := m (a + 1) c) (d := pval m 6 3 t 0) (k := k) (e := m a 6) hn0
    generalize hr : rkV m (pval m 6 1 p (k % 3)) (m (a + 1) c) (pval m 6 3 t 0) n k (m a 6) = r at *
    have hb : bnd (m (a + 1) c) := ⟨by omega, by omega⟩
    have hb2 : bnd (m a 6) := ⟨by omega, by omega⟩
    generalize hix : (c * 6 + n - 1) * 9 + k = ix at *
    by_cases c2 : σ 28 ix = -1
    · have hq : ∀ τ, LF σ τ → Q (0, r) (up τ 28 ix r) := fun τ hτ => by
        have hF2 := SF_LF hF hτ
        have l26 : τ 26 = σ 26 := hτ 26 (by decide) (by decide) (by decide) (by decide) (by decide)
        refine h _ ⟨SF_up hF2 (by omega), ?_, ?_, ?_, fun i' n' k' a b c' d e f => ?_⟩ ?_ ?_
        · rw [up_na _ (by decide), l26]; exact s6
        · rw [up_na _ (by decide), l26]; exact s7
        · rw [up_na _ (by decide), l26]; exact s8
        · by_cases e9 : (i' * 6 + n' - 1) * 9 + k' = ix
          · right
            have z1 : i' = c := by omega
            have z2 : n' = n := by omega
            have z3 : k' = k := by omega
            rw [e9, up_s, z1, z2, z3, hr]
          · rw [up_nj _ e9, hτ 28 (by decide) (by decide) (by decide) (by decide) (by decide)]
            exact htb i' n' k' a b c' d e f
        · rw [up_na _ (by decide)]; exact hτ 29 (by decide) (by decide) (by decide) (by decide) (by decide)
        · rw [up_na _ (by decide)]; exact hτ 30 (by decide) (by decide) (by decide) (by decide) (by decide)
      simp only [c2]
      repeat' (first | assumption | apply And.intro | intro _)
      all_goals first | omega | exact absurd trivial (by assumption) | exact ha | exact hi | exact hb | exact hb2 | exact SF_planB hF hB | exact SF_lawOk hF hlw | exact hq _ (by assumption)
    · have hat' : σ 28 ix = r := by rcases hat with g | g; exact absurd g c2; exact g
      have hq := h σ hS rfl rfl
      simp only [hat'] at c2 ⊢
      repeat' (first | assumption | apply And.intro | intro _)
      all_goals first | omega | exact absurd trivial (by assumption) | exact ha | exact hi | exact hq
