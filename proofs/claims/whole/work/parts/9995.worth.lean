/-! the reference: WORTH of a LAW, kept by keys; who is MOVED how much -/
def mkey (l f h d n k e : Int) : Int := 100000 * (10 * (10 * (10 * (10 * (10 * (1 + l) + f) + h) + d) + n) + k) + e
abbrev mdg (f h d n k e : Int) : Prop := 0 ≤ f ∧ f ≤ 9 ∧ 0 ≤ h ∧ h ≤ 9 ∧ 0 ≤ d ∧ d ≤ 9 ∧ 0 ≤ n ∧ n ≤ 9 ∧ 0 ≤ k ∧ k ≤ 9 ∧ 0 ≤ e ∧ e ≤ 99999
theorem mkey_inj {l f h d n k e l' f' h' d' n' k' e' : Int} (h1 : mdg f h d n k e) (h2 : mdg f' h' d' n' k' e') (he : mkey l f h d n k e = mkey l' f' h' d' n' k' e') : l = l' ∧ f = f' ∧ h = h' ∧ d = d' ∧ n = n' ∧ k = k' ∧ e = e' := by
  unfold mkey at he
  unfold mdg at h1 h2
  omega
def lwK (σ : Mem) (l : Int) : List CL := match gLw (txt σ 5002 (240 * l) (σ 5003 l)) (σ 5003 l) 241 0 with
  | .inl _ => []
  | .inr K => K
def mwo (σ : Mem) (l f h d n k e : Int) : Int := kval (ltr f h d n k e) (lwK σ l)
def lawsOk (σ : Mem) : Prop := 0 ≤ σ 5000 7 ∧ σ 5000 7 ≤ 4 ∧ ∀ l, 0 ≤ l → l < σ 5000 7 → txtOk σ 5002 (240 * l) (σ 5003 l) ∧ ∃ K, gLw (txt σ 5002 (240 * l) (σ 5003 l)) (σ 5003 l) 241 0 = .inr K
def memOk (σ : Mem) : Prop := ∀ s, 0 ≤ s → s < 8191 → (0 ≤ σ 5017 s ∧ σ 5017 s < mkey (σ 5000 7) 0 0 0 0 0 0) ∧ ∀ l f h d n k e, 0 ≤ l → l < σ 5000 7 → mdg f h d n k e → σ 5017 s = mkey l f h d n k e → σ 5018 s = mwo σ l f h d n k e
/-- what WORTHS need -/
def mOk (σ : Mem) : Prop := lawsOk σ ∧ memOk σ ∧ lbd (mL σ)
/-- what the reckoning of WORTHS may change -/
def WF (σ τ : Mem) : Prop := (∀ b, b ≠ 5000 → b ≠ 5004 → b ≠ 5017 → b ≠ 5018 → τ b = σ b) ∧ ∀ k, k ≠ 5 → (k < 8 ∨ 14 < k) → k ≠ 17 → τ 5000 k = σ 5000 k
theorem WF_rf (σ : Mem) : WF σ σ := ⟨fun _ _ _ _ _ => rfl, fun _ _ _ _ => rfl⟩
theorem WF_tr {σ τ υ : Mem} (h : WF σ τ) (h' : WF τ υ) : WF σ υ := ⟨fun b h1 h2 h3 h4 => by rw [h'.1 b h1 h2 h3 h4]; exact h.1 b h1 h2 h3 h4, fun k h1 h2 h3 => by rw [h'.2 k h1 h2 h3]; exact h.2 k h1 h2 h3⟩
theorem txt_c {σ τ : Mem} {a : Int} (h : τ a = σ a) (b n : Int) : txt τ a b n = txt σ a b n := by funext i; unfold txt; rw [h]
theorem txtOk_c {σ τ : Mem} {a b n : Int} (h : τ a = σ a) (hx : txtOk σ a b n) : txtOk τ a b n := by unfold txtOk; rw [h]; exact hx
theorem lwK_c {σ τ : Mem} (h2 : τ 5002 = σ 5002) (h3 : τ 5003 = σ 5003) (l : Int) : lwK τ l = lwK σ l := by unfold lwK; rw [txt_c h2, h3]
theorem mwo_c {σ τ : Mem} (h2 : τ 5002 = σ 5002) (h3 : τ 5003 = σ 5003) (l f h d n k e : Int) : mwo τ l f h d n k e = mwo σ l f h d n k e := by unfold mwo; rw [lwK_c h2 h3]
theorem lawsOk_c {σ τ : Mem} (h7 : τ 5000 7 = σ 5000 7) (h2 : τ 5002 = σ 5002) (h3 : τ 5003 = σ 5003) (h : lawsOk σ) : lawsOk τ := by
  unfold lawsOk
  rw [h7, h3]
  refine ⟨h.1, h.2.1, fun l l0 l1 => ?_⟩
  rw [txt_c h2]
  exact ⟨txtOk_c h2 (h.2.2 l l0 l1).1, (h.2.2 l l0 l1).2⟩
theorem memOk_c {σ τ : Mem} (h7 : τ 5000 7 = σ 5000 7) (h2 : τ 5002 = σ 5002) (h3 : τ 5003 = σ 5003) (h17 : τ 5017 = σ 5017) (h18 : τ 5018 = σ 5018) (h : memOk σ) : memOk τ := by
  unfold memOk
  simp only [h7, h17, h18, mwo_c h2 h3]
  exact h
theorem mOk_c {σ τ : Mem} (h7 : τ 5000 7 = σ 5000 7) (ho : ∀ b, b = 5002 ∨ b = 5003 ∨ b = 5004 ∨ b = 5017 ∨ b = 5018 → τ b = σ b) (h : mOk σ) : mOk τ := by
  refine ⟨lawsOk_c h7 (ho _ (by decide)) (ho _ (by decide)) h.1, memOk_c h7 (ho _ (by decide)) (ho _ (by decide)) (ho _ (by decide)) (ho _ (by decide)) h.2.1, ?_⟩
  have : mL τ = mL σ := by funext j; unfold mL; rw [ho 5004 (by decide)]
  rw [this]; exact h.2.2

theorem wd_1720 : Cond.constantLong RX12 332 10 ∈ TBL := tb_tab (List.mem_of_getElem? (i := 1720) (by decide +kernel)) rfl
theorem wd_1721 : Cond.constantLong RX12 334 100000 ∈ TBL := tb_tab (List.mem_of_getElem? (i := 1721) (by decide +kernel)) rfl
theorem wd_1722 : Cond.constantLong RX12 336 8191 ∈ TBL := tb_tab (List.mem_of_getElem? (i := 1722) (by decide +kernel)) rfl
theorem wd_1345 : Cond.fieldLink RX12 80 "ArmchairHouseModel" "memoKey" "[J" ∈ TBL := tb_tab (List.mem_of_getElem? (i := 1345) (by decide +kernel)) rfl
theorem fl_X12_80 : amFl RX12 12 40 80 RX12 TX12 57 := ⟨rfl, inT_12, by decide, wd_1345⟩
theorem wd_1346 : Cond.fieldLink RX12 84 "ArmchairHouseModel" "memoWorth" "[I" ∈ TBL := tb_tab (List.mem_of_getElem? (i := 1346) (by decide +kernel)) rfl
theorem fl_X12_84 : amFl RX12 12 41 84 RX12 TX12 57 := ⟨rfl, inT_12, by decide, wd_1346⟩
theorem wd_1307 : Cond.fieldLink RX12 13 "ArmchairHouseModel" "texts" "[B" ∈ TBL := tb_tab (List.mem_of_getElem? (i := 1307) (by decide +kernel)) rfl
theorem fl_X12_13 : amFl RX12 12 2 13 RX12 TX12 57 := ⟨rfl, inT_12, by decide, wd_1307⟩
theorem wd_1308 : Cond.fieldLink RX12 16 "ArmchairHouseModel" "textLong" "[I" ∈ TBL := tb_tab (List.mem_of_getElem? (i := 1308) (by decide +kernel)) rfl
theorem fl_X12_16 : amFl RX12 12 3 16 RX12 TX12 57 := ⟨rfl, inT_12, by decide, wd_1308⟩
theorem wd_1565 : Cond.methodLink RX12 300 yX12_goThrough ∈ TBL := tb_tab (List.mem_of_getElem? (i := 1565) (by decide +kernel)) rfl
theorem wd_1568 : Cond.code yX12_goThrough cX12_goThrough 4 (none) ∈ TBL := tb_tab (List.mem_of_getElem? (i := 1568) (by decide +kernel)) rfl
theorem lk_X12_300 : amLk RX12 300 yX12_goThrough cX12_goThrough 4 (none) 3 := ⟨wd_1565, wd_12, wd_1568, by decide +kernel, by decide +kernel, by decide⟩
theorem wd_1567 : Cond.instanceMethod yX12_goThrough ∈ TBL := tb_tab (List.mem_of_getElem? (i := 1567) (by decide +kernel)) rfl
theorem sl_X12_goThrough : Cond.selects RX12 yX12_goThrough yX12_goThrough ∈ TBL := tb_sel (List.mem_of_getElem? (i := 58) (by decide +kernel)) rfl
def a_X12_worthOf : AC := [(0, vL 1 1), (1, vAload 0 2), (2, vGetI 28 38 5), (5, vI2l 6), (6, vLadd 7), (7, vLstore 7 9), (9, vL 10 12), (12, vLload 7 14), (14, vLmul 15), (15, vIload 1 16), (16, vI2l 17), (17, vLadd 18), (18, vLstore 7 20), (20, vL 10 23), (23, vLload 7 25), (25, vLmul 26), (26, vIload 2 27), (27, vI2l 28), (28, vLadd 29), (29, vLstore 7 31), (31, vL 10 34), (34, vLload 7 36), (36, vLmul 37), (37, vIload 3 38), (38, vI2l 39), (39, vLadd 40), (40, vLstore 7 42), (42, vL 10 45), (45, vLload 7 47), (47, vLmul 48), (48, vIload 4 50), (50, vI2l 51), (51, vLadd 52), (52, vLstore 7 54), (54, vL 10 57), (57, vLload 7 59), (59, vLmul 60), (60, vIload 5 62), (62, vI2l 63), (63, vLadd 64), (64, vLstore 7 66), (66, vL 100000 69), (69, vLload 7 71), (71, vLmul 72), (72, vIload 6 74), (74, vI2l 75), (75, vLadd 76), (76, vLstore 7 78), (78, vLload 7 80), (80, vL 8191 83), (83, vLrem 84), (84, vL2i 85), (85, vIstore 9 87), (87, vAload 0 88), (88, vGetR TT 28 40 9 91), (91, vIload 9 93), (93, vLald TT 94), (94, vLload 7 96), (96, vLcmp 97), (97, vIfNe 108 100), (100, vAload 0 101), (101, vGetR TT 28 41 8 104), (104, vIload 9 106), (106, vIald TT 107), (107, vIret), (108, vAload 0 109), (109, vGetR TT 28 4 8 112), (112, vI 102 114), (114, vIload 1 115), (115, vIast TT 116), (116, vAload 0 117), (117, vGetR TT 28 4 8 120), (120, vI 104 122), (122, vIload 2 123), (123, vIast TT 124), (124, vAload 0 125), (125, vGetR TT 28 4 8 128), (128, vI 100 130), (130, vIload 3 131), (131, vIast TT 132), (132, vAload 0 133), (133, vGetR TT 28 4 8 136), (136, vI 110 138), (138, vIload 4 140), (140, vIast TT 141), (141, vAload 0 142), (142, vGetR TT 28 4 8 145), (145, vI 107 147), (147, vIload 5 149), (149, vIast TT 150), (150, vAload 0 151), (151, vGetR TT 28 4 8 154), (154, vI 101 156), (156, vIload 6 158), (158, vIast TT 159), (159, vAload 0 160), (160, vAload 0 161), (161, vGetR TT 28 2 10 164), (164, vI 240 167), (167, vAload 0 168), (168, vGetI 28 38 171), (171, vImul 172), (172, vAload 0 173), (173, vGetR TT 28 3 8 176), (176, vAload 0 177), (177, vGetI 28 38 180), (180, vIald TT 181), (181, vCallMV w_X12_goThrough 28 3 184), (184, vAload 0 185), (185, vGetR TT 28 40 9 188), (188, vIload 9 190), (190, vLload 7 192), (192, vLast TT 193), (193, vAload 0 194), (194, vGetR TT 28 41 8 197), (197, vIload 9 199), (199, vAload 0 200), (200, vGetI 28 14 203), (203, vIast TT 204), (204, vAload 0 205), (205, vGetI 28 14 208), (208, vIret)]
theorem k_X12_worthOf_0 : look a_X12_worthOf 0 = vL 1 1 := rfl
theorem k_X12_worthOf_1 : look a_X12_worthOf 1 = vAload 0 2 := rfl
theorem k_X12_worthOf_2 : look a_X12_worthOf 2 = vGetI 28 38 5 := rfl
theorem k_X12_worthOf_5 : look a_X12_worthOf 5 = vI2l 6 := rfl
theorem k_X12_worthOf_6 : look a_X12_worthOf 6 = vLadd 7 := rfl
theorem k_X12_worthOf_7 : look a_X12_worthOf 7 = vLstore 7 9 := rfl
theorem k_X12_worthOf_9 : look a_X12_worthOf 9 = vL 10 12 := rfl
theorem k_X12_worthOf_12 : look a_X12_worthOf 12 = vLload 7 14 := rfl
theorem k_X12_worthOf_14 : look a_X12_worthOf 14 = vLmul 15 := rfl
theorem k_X12_worthOf_15 : look a_X12_worthOf 15 = vIload 1 16 := rfl
theorem k_X12_worthOf_16 : look a_X12_worthOf 16 = vI2l 17 := rfl
theorem k_X12_worthOf_17 : look a_X12_worthOf 17 = vLadd 18 := rfl
theorem k_X12_worthOf_18 : look a_X12_worthOf 18 = vLstore 7 20 := rfl
theorem k_X12_worthOf_20 : look a_X12_worthOf 20 = vL 10 23 := rfl
theorem k_X12_worthOf_23 : look a_X12_worthOf 23 = vLload 7 25 := rfl
theorem k_X12_worthOf_25 : look a_X12_worthOf 25 = vLmul 26 := rfl
theorem k_X12_worthOf_26 : look a_X12_worthOf 26 = vIload 2 27 := rfl
theorem k_X12_worthOf_27 : look a_X12_worthOf 27 = vI2l 28 := rfl
theorem k_X12_worthOf_28 : look a_X12_worthOf 28 = vLadd 29 := rfl
theorem k_X12_worthOf_29 : look a_X12_worthOf 29 = vLstore 7 31 := rfl
theorem k_X12_worthOf_31 : look a_X12_worthOf 31 = vL 10 34 := rfl
theorem k_X12_worthOf_34 : look a_X12_worthOf 34 = vLload 7 36 := rfl
theorem k_X12_worthOf_36 : look a_X12_worthOf 36 = vLmul 37 := rfl
theorem k_X12_worthOf_37 : look a_X12_worthOf 37 = vIload 3 38 := rfl
theorem k_X12_worthOf_38 : look a_X12_worthOf 38 = vI2l 39 := rfl
theorem k_X12_worthOf_39 : look a_X12_worthOf 39 = vLadd 40 := rfl
theorem k_X12_worthOf_40 : look a_X12_worthOf 40 = vLstore 7 42 := rfl
theorem k_X12_worthOf_42 : look a_X12_worthOf 42 = vL 10 45 := rfl
theorem k_X12_worthOf_45 : look a_X12_worthOf 45 = vLload 7 47 := rfl
theorem k_X12_worthOf_47 : look a_X12_worthOf 47 = vLmul 48 := rfl
theorem k_X12_worthOf_48 : look a_X12_worthOf 48 = vIload 4 50 := rfl
theorem k_X12_worthOf_50 : look a_X12_worthOf 50 = vI2l 51 := rfl
theorem k_X12_worthOf_51 : look a_X12_worthOf 51 = vLadd 52 := rfl
theorem k_X12_worthOf_52 : look a_X12_worthOf 52 = vLstore 7 54 := rfl
theorem k_X12_worthOf_54 : look a_X12_worthOf 54 = vL 10 57 := rfl
theorem k_X12_worthOf_57 : look a_X12_worthOf 57 = vLload 7 59 := rfl
theorem k_X12_worthOf_59 : look a_X12_worthOf 59 = vLmul 60 := rfl
theorem k_X12_worthOf_60 : look a_X12_worthOf 60 = vIload 5 62 := rfl
theorem k_X12_worthOf_62 : look a_X12_worthOf 62 = vI2l 63 := rfl
theorem k_X12_worthOf_63 : look a_X12_worthOf 63 = vLadd 64 := rfl
theorem k_X12_worthOf_64 : look a_X12_worthOf 64 = vLstore 7 66 := rfl
theorem k_X12_worthOf_66 : look a_X12_worthOf 66 = vL 100000 69 := rfl
theorem k_X12_worthOf_69 : look a_X12_worthOf 69 = vLload 7 71 := rfl
theorem k_X12_worthOf_71 : look a_X12_worthOf 71 = vLmul 72 := rfl
theorem k_X12_worthOf_72 : look a_X12_worthOf 72 = vIload 6 74 := rfl
theorem k_X12_worthOf_74 : look a_X12_worthOf 74 = vI2l 75 := rfl
theorem k_X12_worthOf_75 : look a_X12_worthOf 75 = vLadd 76 := rfl
theorem k_X12_worthOf_76 : look a_X12_worthOf 76 = vLstore 7 78 := rfl
theorem k_X12_worthOf_78 : look a_X12_worthOf 78 = vLload 7 80 := rfl
theorem k_X12_worthOf_80 : look a_X12_worthOf 80 = vL 8191 83 := rfl
theorem k_X12_worthOf_83 : look a_X12_worthOf 83 = vLrem 84 := rfl
theorem k_X12_worthOf_84 : look a_X12_worthOf 84 = vL2i 85 := rfl
theorem k_X12_worthOf_85 : look a_X12_worthOf 85 = vIstore 9 87 := rfl
theorem k_X12_worthOf_87 : look a_X12_worthOf 87 = vAload 0 88 := rfl
theorem k_X12_worthOf_88 : look a_X12_worthOf 88 = vGetR TT 28 40 9 91 := rfl
theorem k_X12_worthOf_91 : look a_X12_worthOf 91 = vIload 9 93 := rfl
theorem k_X12_worthOf_93 : look a_X12_worthOf 93 = vLald TT 94 := rfl
theorem k_X12_worthOf_94 : look a_X12_worthOf 94 = vLload 7 96 := rfl
theorem k_X12_worthOf_96 : look a_X12_worthOf 96 = vLcmp 97 := rfl
theorem k_X12_worthOf_97 : look a_X12_worthOf 97 = vIfNe 108 100 := rfl
theorem k_X12_worthOf_100 : look a_X12_worthOf 100 = vAload 0 101 := rfl
theorem k_X12_worthOf_101 : look a_X12_worthOf 101 = vGetR TT 28 41 8 104 := rfl
theorem k_X12_worthOf_104 : look a_X12_worthOf 104 = vIload 9 106 := rfl
theorem k_X12_worthOf_106 : look a_X12_worthOf 106 = vIald TT 107 := rfl
theorem k_X12_worthOf_107 : look a_X12_worthOf 107 = vIret := rfl
theorem k_X12_worthOf_108 : look a_X12_worthOf 108 = vAload 0 109 := rfl
theorem k_X12_worthOf_109 : look a_X12_worthOf 109 = vGetR TT 28 4 8 112 := rfl
theorem k_X12_worthOf_112 : look a_X12_worthOf 112 = vI 102 114 := rfl
theorem k_X12_worthOf_114 : look a_X12_worthOf 114 = vIload 1 115 := rfl
theorem k_X12_worthOf_115 : look a_X12_worthOf 115 = vIast TT 116 := rfl
theorem k_X12_worthOf_116 : look a_X12_worthOf 116 = vAload 0 117 := rfl
theorem k_X12_worthOf_117 : look a_X12_worthOf 117 = vGetR TT 28 4 8 120 := rfl
theorem k_X12_worthOf_120 : look a_X12_worthOf 120 = vI 104 122 := rfl
theorem k_X12_worthOf_122 : look a_X12_worthOf 122 = vIload 2 123 := rfl
theorem k_X12_worthOf_123 : look a_X12_worthOf 123 = vIast TT 124 := rfl
theorem k_X12_worthOf_124 : look a_X12_worthOf 124 = vAload 0 125 := rfl
theorem k_X12_worthOf_125 : look a_X12_worthOf 125 = vGetR TT 28 4 8 128 := rfl
theorem k_X12_worthOf_128 : look a_X12_worthOf 128 = vI 100 130 := rfl
theorem k_X12_worthOf_130 : look a_X12_worthOf 130 = vIload 3 131 := rfl
theorem k_X12_worthOf_131 : look a_X12_worthOf 131 = vIast TT 132 := rfl
theorem k_X12_worthOf_132 : look a_X12_worthOf 132 = vAload 0 133 := rfl
theorem k_X12_worthOf_133 : look a_X12_worthOf 133 = vGetR TT 28 4 8 136 := rfl
theorem k_X12_worthOf_136 : look a_X12_worthOf 136 = vI 110 138 := rfl
theorem k_X12_worthOf_138 : look a_X12_worthOf 138 = vIload 4 140 := rfl
theorem k_X12_worthOf_140 : look a_X12_worthOf 140 = vIast TT 141 := rfl
theorem k_X12_worthOf_141 : look a_X12_worthOf 141 = vAload 0 142 := rfl
theorem k_X12_worthOf_142 : look a_X12_worthOf 142 = vGetR TT 28 4 8 145 := rfl
theorem k_X12_worthOf_145 : look a_X12_worthOf 145 = vI 107 147 := rfl
theorem k_X12_worthOf_147 : look a_X12_worthOf 147 = vIload 5 149 := rfl
theorem k_X12_worthOf_149 : look a_X12_worthOf 149 = vIast TT 150 := rfl
theorem k_X12_worthOf_150 : look a_X12_worthOf 150 = vAload 0 151 := rfl
theorem k_X12_worthOf_151 : look a_X12_worthOf 151 = vGetR TT 28 4 8 154 := rfl
theorem k_X12_worthOf_154 : look a_X12_worthOf 154 = vI 101 156 := rfl
theorem k_X12_worthOf_156 : look a_X12_worthOf 156 = vIload 6 158 := rfl
theorem k_X12_worthOf_158 : look a_X12_worthOf 158 = vIast TT 159 := rfl
theorem k_X12_worthOf_159 : look a_X12_worthOf 159 = vAload 0 160 := rfl
theorem k_X12_worthOf_160 : look a_X12_worthOf 160 = vAload 0 161 := rfl
theorem k_X12_worthOf_161 : look a_X12_worthOf 161 = vGetR TT 28 2 10 164 := rfl
theorem k_X12_worthOf_164 : look a_X12_worthOf 164 = vI 240 167 := rfl
theorem k_X12_worthOf_167 : look a_X12_worthOf 167 = vAload 0 168 := rfl
theorem k_X12_worthOf_168 : look a_X12_worthOf 168 = vGetI 28 38 171 := rfl
theorem k_X12_worthOf_171 : look a_X12_worthOf 171 = vImul 172 := rfl
theorem k_X12_worthOf_172 : look a_X12_worthOf 172 = vAload 0 173 := rfl
theorem k_X12_worthOf_173 : look a_X12_worthOf 173 = vGetR TT 28 3 8 176 := rfl
theorem k_X12_worthOf_176 : look a_X12_worthOf 176 = vAload 0 177 := rfl
theorem k_X12_worthOf_177 : look a_X12_worthOf 177 = vGetI 28 38 180 := rfl
theorem k_X12_worthOf_180 : look a_X12_worthOf 180 = vIald TT 181 := rfl
theorem k_X12_worthOf_181 : look a_X12_worthOf 181 = vCallMV w_X12_goThrough 28 3 184 := rfl
theorem k_X12_worthOf_184 : look a_X12_worthOf 184 = vAload 0 185 := rfl
theorem k_X12_worthOf_185 : look a_X12_worthOf 185 = vGetR TT 28 40 9 188 := rfl
theorem k_X12_worthOf_188 : look a_X12_worthOf 188 = vIload 9 190 := rfl
theorem k_X12_worthOf_190 : look a_X12_worthOf 190 = vLload 7 192 := rfl
theorem k_X12_worthOf_192 : look a_X12_worthOf 192 = vLast TT 193 := rfl
theorem k_X12_worthOf_193 : look a_X12_worthOf 193 = vAload 0 194 := rfl
theorem k_X12_worthOf_194 : look a_X12_worthOf 194 = vGetR TT 28 41 8 197 := rfl
theorem k_X12_worthOf_197 : look a_X12_worthOf 197 = vIload 9 199 := rfl
theorem k_X12_worthOf_199 : look a_X12_worthOf 199 = vAload 0 200 := rfl
theorem k_X12_worthOf_200 : look a_X12_worthOf 200 = vGetI 28 14 203 := rfl
theorem k_X12_worthOf_203 : look a_X12_worthOf 203 = vIast TT 204 := rfl
theorem k_X12_worthOf_204 : look a_X12_worthOf 204 = vAload 0 205 := rfl
theorem k_X12_worthOf_205 : look a_X12_worthOf 205 = vGetI 28 14 208 := rfl
theorem k_X12_worthOf_208 : look a_X12_worthOf 208 = vIret := rfl
theorem o_X12_worthOf {X : amX} (e1 : XT X = TT) (e2 : XD X = 56) (hB : amB X RX12 cX12_worthOf (some .int) 10) : ∀ pc, amOK X pc (look a_X12_worthOf pc) := by
  have hT : amTok (XT X) := e1 ▸ TT_ok
  refine look_ok ?_
  unfold a_X12_worthOf
  refine fc (ok_lconst hB (z := 1) (by decide) dX12_worthOf_0) ?_
  refine fc (ok_aload_n hB dX12_worthOf_1) ?_
  refine fc (ok_getI hB hT fl_X12_73 rfl rfl (Or.inl af_12_38) dX12_worthOf_2) ?_
  refine fc (ok_i2l hB dX12_worthOf_5) ?_
  refine fc (ok_ladd hB dX12_worthOf_6) ?_
  refine fc (ok_lstore hB (by decide) dX12_worthOf_7) ?_
  refine fc (ok_ldc2 hB wd_1720 rfl dX12_worthOf_9) ?_
  refine fc (ok_lload hB dX12_worthOf_12) ?_
  refine fc (ok_lmul hB dX12_worthOf_14) ?_
  refine fc (ok_iload_n hB dX12_worthOf_15) ?_
  refine fc (ok_i2l hB dX12_worthOf_16) ?_
  refine fc (ok_ladd hB dX12_worthOf_17) ?_
  refine fc (ok_lstore hB (by decide) dX12_worthOf_18) ?_
  refine fc (ok_ldc2 hB wd_1720 rfl dX12_worthOf_20) ?_
  refine fc (ok_lload hB dX12_worthOf_23) ?_
  refine fc (ok_lmul hB dX12_worthOf_25) ?_
  refine fc (ok_iload_n hB dX12_worthOf_26) ?_
  refine fc (ok_i2l hB dX12_worthOf_27) ?_
  refine fc (ok_ladd hB dX12_worthOf_28) ?_
  refine fc (ok_lstore hB (by decide) dX12_worthOf_29) ?_
  refine fc (ok_ldc2 hB wd_1720 rfl dX12_worthOf_31) ?_
  refine fc (ok_lload hB dX12_worthOf_34) ?_
  refine fc (ok_lmul hB dX12_worthOf_36) ?_
  refine fc (ok_iload_n hB dX12_worthOf_37) ?_
  refine fc (ok_i2l hB dX12_worthOf_38) ?_
  refine fc (ok_ladd hB dX12_worthOf_39) ?_
  refine fc (ok_lstore hB (by decide) dX12_worthOf_40) ?_
  refine fc (ok_ldc2 hB wd_1720 rfl dX12_worthOf_42) ?_
  refine fc (ok_lload hB dX12_worthOf_45) ?_
  refine fc (ok_lmul hB dX12_worthOf_47) ?_
  refine fc (ok_iload hB dX12_worthOf_48) ?_
  refine fc (ok_i2l hB dX12_worthOf_50) ?_
  refine fc (ok_ladd hB dX12_worthOf_51) ?_
  refine fc (ok_lstore hB (by decide) dX12_worthOf_52) ?_
  refine fc (ok_ldc2 hB wd_1720 rfl dX12_worthOf_54) ?_
  refine fc (ok_lload hB dX12_worthOf_57) ?_
  refine fc (ok_lmul hB dX12_worthOf_59) ?_
  refine fc (ok_iload hB dX12_worthOf_60) ?_
  refine fc (ok_i2l hB dX12_worthOf_62) ?_
  refine fc (ok_ladd hB dX12_worthOf_63) ?_
  refine fc (ok_lstore hB (by decide) dX12_worthOf_64) ?_
  refine fc (ok_ldc2 hB wd_1721 rfl dX12_worthOf_66) ?_
  refine fc (ok_lload hB dX12_worthOf_69) ?_
  refine fc (ok_lmul hB dX12_worthOf_71) ?_
  refine fc (ok_iload hB dX12_worthOf_72) ?_
  refine fc (ok_i2l hB dX12_worthOf_74) ?_
  refine fc (ok_ladd hB dX12_worthOf_75) ?_
  refine fc (ok_lstore hB (by decide) dX12_worthOf_76) ?_
  refine fc (ok_lload hB dX12_worthOf_78) ?_
  refine fc (ok_ldc2 hB wd_1722 rfl dX12_worthOf_80) ?_
  refine fc (ok_lrem hB dX12_worthOf_83) ?_
  refine fc (ok_l2i hB dX12_worthOf_84) ?_
  refine fc (ok_istore hB (by decide) dX12_worthOf_85) ?_
  refine fc (ok_aload_n hB dX12_worthOf_87) ?_
  refine fc (okt_getR e1 hB hT fl_X12_80 rfl af_12_40 at_12_40 (by decide) dX12_worthOf_88) ?_
  refine fc (ok_iload hB dX12_worthOf_91) ?_
  refine fc (okt_laload e1 hB dX12_worthOf_93) ?_
  refine fc (ok_lload hB dX12_worthOf_94) ?_
  refine fc (ok_lcmp hB dX12_worthOf_96) ?_
  refine fc (ok_if_ne hB (t := 108) (by decide) dX12_worthOf_97) ?_
  refine fc (ok_aload_n hB dX12_worthOf_100) ?_
  refine fc (okt_getR e1 hB hT fl_X12_84 rfl af_12_41 at_12_41 (by decide) dX12_worthOf_101) ?_
  refine fc (ok_iload hB dX12_worthOf_104) ?_
  refine fc (okt_iaload e1 hB dX12_worthOf_106) ?_
  refine fc (ok_iret hB dX12_worthOf_107) ?_
  refine fc (ok_aload_n hB dX12_worthOf_108) ?_
  refine fc (okt_getR e1 hB hT fl_X12_20 rfl af_12_4 at_12_4 (by decide) dX12_worthOf_109) ?_
  refine fc (ok_bipush hB dX12_worthOf_112 (by decide)) ?_
  refine fc (ok_iload_n hB dX12_worthOf_114) ?_
  refine fc (okt_iastore e1 hB dX12_worthOf_115) ?_
  refine fc (ok_aload_n hB dX12_worthOf_116) ?_
  refine fc (okt_getR e1 hB hT fl_X12_20 rfl af_12_4 at_12_4 (by decide) dX12_worthOf_117) ?_
  refine fc (ok_bipush hB dX12_worthOf_120 (by decide)) ?_
  refine fc (ok_iload_n hB dX12_worthOf_122) ?_
  refine fc (okt_iastore e1 hB dX12_worthOf_123) ?_
  refine fc (ok_aload_n hB dX12_worthOf_124) ?_
  refine fc (okt_getR e1 hB hT fl_X12_20 rfl af_12_4 at_12_4 (by decide) dX12_worthOf_125) ?_
  refine fc (ok_bipush hB dX12_worthOf_128 (by decide)) ?_
  refine fc (ok_iload_n hB dX12_worthOf_130) ?_
  refine fc (okt_iastore e1 hB dX12_worthOf_131) ?_
  refine fc (ok_aload_n hB dX12_worthOf_132) ?_
  refine fc (okt_getR e1 hB hT fl_X12_20 rfl af_12_4 at_12_4 (by decide) dX12_worthOf_133) ?_
  refine fc (ok_bipush hB dX12_worthOf_136 (by decide)) ?_
  refine fc (ok_iload hB dX12_worthOf_138) ?_
  refine fc (okt_iastore e1 hB dX12_worthOf_140) ?_
  refine fc (ok_aload_n hB dX12_worthOf_141) ?_
  refine fc (okt_getR e1 hB hT fl_X12_20 rfl af_12_4 at_12_4 (by decide) dX12_worthOf_142) ?_
  refine fc (ok_bipush hB dX12_worthOf_145 (by decide)) ?_
  refine fc (ok_iload hB dX12_worthOf_147) ?_
  refine fc (okt_iastore e1 hB dX12_worthOf_149) ?_
  refine fc (ok_aload_n hB dX12_worthOf_150) ?_
  refine fc (okt_getR e1 hB hT fl_X12_20 rfl af_12_4 at_12_4 (by decide) dX12_worthOf_151) ?_
  refine fc (ok_bipush hB dX12_worthOf_154 (by decide)) ?_
  refine fc (ok_iload hB dX12_worthOf_156) ?_
  refine fc (okt_iastore e1 hB dX12_worthOf_158) ?_
  refine fc (ok_aload_n hB dX12_worthOf_159) ?_
  refine fc (ok_aload_n hB dX12_worthOf_160) ?_
  refine fc (okt_getR e1 hB hT fl_X12_13 rfl af_12_2 at_12_2 (by decide) dX12_worthOf_161) ?_
  refine fc (ok_sipush hB dX12_worthOf_164 (by decide)) ?_
  refine fc (ok_aload_n hB dX12_worthOf_167) ?_
  refine fc (ok_getI hB hT fl_X12_73 rfl rfl (Or.inl af_12_38) dX12_worthOf_168) ?_
  refine fc (ok_imul hB dX12_worthOf_171) ?_
  refine fc (ok_aload_n hB dX12_worthOf_172) ?_
  refine fc (okt_getR e1 hB hT fl_X12_16 rfl af_12_3 at_12_3 (by decide) dX12_worthOf_173) ?_
  refine fc (ok_aload_n hB dX12_worthOf_176) ?_
  refine fc (ok_getI hB hT fl_X12_73 rfl rfl (Or.inl af_12_38) dX12_worthOf_177) ?_
  refine fc (okt_iaload e1 hB dX12_worthOf_180) ?_
  refine fc (ok_callMV hB hT (e1 ▸ s_X12_goThrough) lk_X12_300 (by rw [e2]; decide) (c := 12) rfl rfl rfl wd_1567 sl_X12_goThrough dX12_worthOf_181) ?_
  refine fc (ok_aload_n hB dX12_worthOf_184) ?_
  refine fc (okt_getR e1 hB hT fl_X12_80 rfl af_12_40 at_12_40 (by decide) dX12_worthOf_185) ?_
  refine fc (ok_iload hB dX12_worthOf_188) ?_
  refine fc (ok_lload hB dX12_worthOf_190) ?_
  refine fc (okt_lastore e1 hB dX12_worthOf_192) ?_
  refine fc (ok_aload_n hB dX12_worthOf_193) ?_
  refine fc (okt_getR e1 hB hT fl_X12_84 rfl af_12_41 at_12_41 (by decide) dX12_worthOf_194) ?_
  refine fc (ok_iload hB dX12_worthOf_197) ?_
  refine fc (ok_aload_n hB dX12_worthOf_199) ?_
  refine fc (ok_getI hB hT fl_X12_219 rfl rfl (Or.inl af_12_14) dX12_worthOf_200) ?_
  refine fc (okt_iastore e1 hB dX12_worthOf_203) ?_
  refine fc (ok_aload_n hB dX12_worthOf_204) ?_
  refine fc (ok_getI hB hT fl_X12_219 rfl rfl (Or.inl af_12_14) dX12_worthOf_205) ?_
  refine fc (ok_iret hB dX12_worthOf_208) ?_
  exact fn

def w_X12_worthOf : WP := fun av σ Q => ∃ (f : Int) (h : Int) (d : Int) (n : Int) (k : Int) (e : Int), av = [(28, 5000), (0, f), (0, h), (0, d), (0, n), (0, k), (0, e)] ∧ (mOk σ ∧ 0 ≤ σ 5000 38 ∧ σ 5000 38 < σ 5000 7 ∧ mdg f h d n k e ∧ (∀ τ, WF σ τ → mOk τ → Q (0, mwo σ (σ 5000 38) f h d n k e) τ))
theorem w_X12_worthOf_e (f : Int) (h : Int) (d : Int) (n : Int) (k : Int) (e : Int) (σ : Mem) (Q : AV → Mem → Prop) : w_X12_worthOf [(28, 5000), (0, f), (0, h), (0, d), (0, n), (0, k), (0, e)] σ Q = (mOk σ ∧ 0 ≤ σ 5000 38 ∧ σ 5000 38 < σ 5000 7 ∧ mdg f h d n k e ∧ (∀ τ, WF σ τ → mOk τ → Q (0, mwo σ (σ 5000 38) f h d n k e) τ)) := by
  apply propext; constructor
  · rintro ⟨f', h', d', n', k', e', h9, hb9⟩; cases h9; exact hb9
  · intro hb9; exact ⟨f, h, d, n, k, e, rfl, hb9⟩

set_option maxRecDepth 100000 in
set_option maxHeartbeats 4000000 in
theorem s_X12_worthOf : ∀ av σ Q, w_X12_worthOf av σ Q → amCall 56 0 0 TT yX12_worthOf cX12_worthOf 10 (some .int) av σ Q := by
  rintro av σ Q ⟨f, h, d, n, k, e, rfl, hok, l0, l1, hdg, hq⟩
  obtain ⟨hlw, hmm, hLb⟩ := id hok
  have lb := hlw.2.1
  obtain ⟨htx, K, hK⟩ := hlw.2.2 _ l0 l1
  have hKe : lwK σ (σ 5000 38) = K := by unfold lwK; rw [hK]
  generalize hl : σ 5000 38 = l at *
  have kb : 0 ≤ mkey l f h d n k e ∧ mkey l f h d n k e < 10000000000000 := by unfold mkey; unfold mdg at hdg; omega
  have kb2 : mkey l f h d n k e < mkey (σ 5000 7) 0 0 0 0 0 0 := by unfold mkey; unfold mdg at hdg; omega
  have ke : 100000 * (10 * (10 * (10 * (10 * (10 * (1 + l) + f) + h) + d) + n) + k) + e = mkey l f h d n k e := rfl
  have km : Int.tmod (mkey l f h d n k e) 8191 = mkey l f h d n k e % 8191 := Int.tmod_eq_emod_of_nonneg kb.1
  have kl : amL2i (mkey l f h d n k e % 8191) = mkey l f h d n k e % 8191 := l2i_in (by omega)
  have s0 : 0 ≤ mkey l f h d n k e % 8191 := by omega
  have s1 : mkey l f h d n k e % 8191 < 8191 := by omega
  obtain ⟨ms0, ms1⟩ := hmm _ s0 s1
  have lbb := hlw.2.1
  have mk7 : mkey (σ 5000 7) 0 0 0 0 0 0 ≤ 100000000000000 := by unfold mkey; omega
  have hit : σ 5017 (mkey l f h d n k e % 8191) = mkey l f h d n k e → Q (0, σ 5018 (mkey l f h d n k e % 8191)) σ := fun c => by
    rw [ms1 l f h d n k e l0 l1 hdg c]; exact hq σ (WF_rf σ) hok
  generalize hsp : mkey l f h d n k e % 8191 = sp at *
  have sO : ∀ b, b ≠ 5004 → up (up (up (up (up (up σ 5004 102 f) 5004 104 h) 5004 100 d) 5004 110 n) 5004 107 k) 5004 101 e b = σ b := fun b hb => by simp only [up_na _ hb]
  have sL : mL (up (up (up (up (up (up σ 5004 102 f) 5004 104 h) 5004 100 d) 5004 110 n) 5004 107 k) 5004 101 e) = ltr f h d n k e := by
    funext j; unfold mL mLi ltr up
    by_cases j0 : j = 0
    · subst j0; rfl
    · by_cases j1 : j = 1
      · subst j1; rfl
      · by_cases j2 : j = 2
        · subst j2; rfl
        · by_cases j3 : j = 3
          · subst j3; rfl
          · by_cases j4 : j = 4
            · subst j4; rfl
            · simp only [if_neg j0, if_neg j1, if_neg j2, if_neg j3, if_neg j4]; rfl
  have lbL : lbd (ltr f h d n k e) := by unfold mdg at hdg; exact ltr_b ⟨by omega, by omega⟩ ⟨by omega, by omega⟩ ⟨by omega, by omega⟩ ⟨by omega, by omega⟩ ⟨by omega, by omega⟩ ⟨by omega, by omega⟩
  have t3 := htx.1
  have t4 := htx.2.1
  refine am_m0 (own := RX12) (A := look a_X12_worthOf) (fun X e1 e2 hB => o_X12_worthOf e1 e2 hB) rfl (by decide +kernel) rfl rfl 300 (w := 10) ?_
  change vcs _ _ _ _ 300 0 [(28, 5000), (0, f), (0, h), (0, d), (0, n), (0, k), (0, e), (6, 0), (6, 0), (6, 0)] [] σ
  simp only [↓reduceIte, inR_0, inR_1, inR_m, vSw2_e, swP_n, swP_c, vI_e, vL_e, vNull_e, vIload_e, vLload_e, vAload_e, vIstore_e, vLstore_e, vAstore_e, vIinc_e, vIadd_e, vIsub_e, vImul_e, vIand_e, vIor_e, vIxor_e, vIshl_e, vIshr_e, vIushr_e, vIdiv_e, vIrem_e, vLadd_e, vLsub_e, vLmul_e, vLand_e, vLor_e, vLxor_e, vLdiv_e, vLrem_e, vLushr_e, vLshl_e, vLcmp_e, vIneg_e, vI2l_e, vL2i_e, vI2b_e, vI2c_e, vDup_e, vPop_e, vDup2_e, vGoto_e, vIcEq_e, vIfEq_e, vIcNe_e, vIfNe_e, vIcLt_e, vIfLt_e, vIcGe_e, vIfGe_e, vIcGt_e, vIfGt_e, vIcLe_e, vIfLe_e, vNonnull_e, vSw_e, vGetI_e, vGetL_e, vGetR_e, vPutI_e, vPutZ_e, vPutL_e, vPutR_e, vIald_e, vIald_s, vLald_e, vBald_e, vBald_s, vAald_e, vIast_e, vLast_e, vBast_e, vAast_e, vAlen_e8, vAlen_e9, vAlen_e10, vAlen_e11, vAlen_e5, vAlen_e3, vGets_e, vCompact_e, vLdcS_e, vIret_e, vZret_e, vCret_e, vBret_e, vLret_e, vVret_e, vAret_e, vCallM_e0, vCallMV_e0, vCallS_e0, vCallSV_e0, vCallM_e1, vCallMV_e1, vCallS_e1, vCallSV_e1, vCallM_e2, vCallMV_e2, vCallS_e2, vCallSV_e2, vCallM_e3, vCallMV_e3, vCallS_e3, vCallSV_e3, vCallM_e4, vCallMV_e4, vCallS_e4, vCallSV_e4, vCallM_e5, vCallMV_e5, vCallS_e5, vCallSV_e5, vCallM_e6, vCallMV_e6, vCallS_e6, vCallSV_e6, vCallM_e7, vCallMV_e7, vCallS_e7, vCallSV_e7, vBad_e, vStrVal_e, vStrCod_e, vForm_e, vCallT_e0, vCallT_e1, vCallT_e2, vCopy_e, rf_0_0, rf_0_1, rf_0_2, rf_0_3, rf_0_4, rf_0_7, rf_0_10, rf_0_11, rf_0_12, rf_0_13, rf_0_14, rf_0_15, rf_0_16, rf_1_0, rf_3_0, rf_3_1, rf_6_0, rf_6_1, rf_9_0, rf_9_1, rf_9_3, rf_13_0, rf_13_1, rf_13_2, rf_16_0, rf_16_1, rf_16_2, rf_16_3, rf_21_0, rf_21_1, rf_21_2, rf_21_3, rf_26_0, rf_26_1, rf_26_2, rf_26_3, rf_26_4, rf_26_5, rf_26_6, rf_31_0, rf_31_2, rf_31_5, rf_31_6, rf_36_0, rf_36_1, rf_36_2, rf_36_3, rf_39_0, rf_39_1, rf_39_2, rf_41_0, rf_41_1, rf_41_2, rf_41_3, rf_5000_1, rf_5000_2, rf_5000_3, rf_5000_4, rf_5000_5, rf_5000_15, rf_5000_16, rf_5000_18, rf_5000_19, rf_5000_20, rf_5000_21, rf_5000_22, rf_5000_23, rf_5000_24, rf_5000_25, rf_5000_26, rf_5000_27, rf_5000_36, rf_5000_37, rf_5000_40, rf_5000_41, rf_5000_42, rf_5000_43, rf_5000_44, rf_5000_45, rf_5000_47, rf_5000_52, rf_5000_54, rf_5000_55, rf_100_0, rf_100_1, rf_103_0, rf_103_1, rf_106_0, rf_106_1, rf_109_0, rf_109_1, al_2, al_4, al_5, al_7, al_8, al_10, al_11, al_12, al_14, al_15, al_17, al_18, al_19, al_20, al_22, al_23, al_24, al_25, al_27, al_28, al_29, al_30, al_32, al_33, al_34, al_35, al_37, al_38, al_40, al_42, al_5001, al_5002, al_5003, al_5004, al_5005, al_5006, al_5007, al_5008, al_5009, al_5010, al_5011, al_5012, al_5013, al_5014, al_5015, al_5016, al_5017, al_5018, al_5019, al_5020, al_5021, al_5022, al_5023, al_5024, al_5025, al_5026, al_9000, al_101, al_102, al_104, al_105, al_107, al_108, al_110, al_111, vcs_e, lg_c0, lg_cs, lg_nil, set_c0, set_cs, okst_0, okst_s, acok_n, acok_c, List.contains_nil, List.contains_cons, Bool.or_false, Bool.false_or, Bool.false_eq_true, if_false, if_true, ite_self, ne_eq, true_and, and_true, not_false_eq_true, not_true_eq_false, false_imp_iff, true_imp_iff, Nat.ble_eq, Bool.and_eq_true, reduceCtorEq, or_false, false_or, or_true, true_or, false_and, and_false, and_self, Int.reduceLE, Int.reduceAdd, Int.reduceSub, Int.reduceMul, Int.reduceNeg, Int.reduceLT, Int.reduceEq, Int.reduceNe, Nat.reduceBEq, Nat.reduceBNe, Nat.reduceEqDiff, amCmp_in, amCmp_lt, amCmp_le, amCmp_gt, amCmp_ge, amCmp_eq, amCmp_ne, Nat.reduceLeDiff, Nat.reduceSub, Bool.and_true, Bool.true_and, Bool.and_self, Bool.or_true, Bool.true_or, isRf_3, isRf_4, isRf_5, isRf_8, isRf_9, isRf_10, isRf_11, isRf_15, isRf_16, isRf_17, isRf_18, isRf_19, isRf_20, isRf_21, isRf_22, isRf_23, isRf_24, isRf_25, isRf_26, isRf_27, isRf_28, k_X12_worthOf_0, k_X12_worthOf_1, k_X12_worthOf_2, k_X12_worthOf_5, k_X12_worthOf_6, k_X12_worthOf_7, k_X12_worthOf_9, k_X12_worthOf_12, k_X12_worthOf_14, k_X12_worthOf_15, k_X12_worthOf_16, k_X12_worthOf_17, k_X12_worthOf_18, k_X12_worthOf_20, k_X12_worthOf_23, k_X12_worthOf_25, k_X12_worthOf_26, k_X12_worthOf_27, k_X12_worthOf_28, k_X12_worthOf_29, k_X12_worthOf_31, k_X12_worthOf_34, k_X12_worthOf_36, k_X12_worthOf_37, k_X12_worthOf_38, k_X12_worthOf_39, k_X12_worthOf_40, k_X12_worthOf_42, k_X12_worthOf_45, k_X12_worthOf_47, k_X12_worthOf_48, k_X12_worthOf_50, k_X12_worthOf_51, k_X12_worthOf_52, k_X12_worthOf_54, k_X12_worthOf_57, k_X12_worthOf_59, k_X12_worthOf_60, k_X12_worthOf_62, k_X12_worthOf_63, k_X12_worthOf_64, k_X12_worthOf_66, k_X12_worthOf_69, k_X12_worthOf_71, k_X12_worthOf_72, k_X12_worthOf_74, k_X12_worthOf_75, k_X12_worthOf_76, k_X12_worthOf_78, k_X12_worthOf_80, k_X12_worthOf_83, k_X12_worthOf_84, k_X12_worthOf_85, k_X12_worthOf_87, k_X12_worthOf_88, k_X12_worthOf_91, k_X12_worthOf_93, k_X12_worthOf_94, k_X12_worthOf_96, k_X12_worthOf_97, k_X12_worthOf_100, k_X12_worthOf_101, k_X12_worthOf_104, k_X12_worthOf_106, k_X12_worthOf_107, k_X12_worthOf_108, k_X12_worthOf_109, k_X12_worthOf_112, k_X12_worthOf_114, k_X12_worthOf_115, k_X12_worthOf_116, k_X12_worthOf_117, k_X12_worthOf_120, k_X12_worthOf_122, k_X12_worthOf_123, k_X12_worthOf_124, k_X12_worthOf_125, k_X12_worthOf_128, k_X12_worthOf_130, k_X12_worthOf_131, k_X12_worthOf_132, k_X12_worthOf_133, k_X12_worthOf_136, k_X12_worthOf_138, k_X12_worthOf_140, k_X12_worthOf_141, k_X12_worthOf_142, k_X12_worthOf_145, k_X12_worthOf_147, k_X12_worthOf_149, k_X12_worthOf_150, k_X12_worthOf_151, k_X12_worthOf_154, k_X12_worthOf_156, k_X12_worthOf_158, k_X12_worthOf_159, k_X12_worthOf_160, k_X12_worthOf_161, k_X12_worthOf_164, k_X12_worthOf_167, k_X12_worthOf_168, k_X12_worthOf_171, k_X12_worthOf_172, k_X12_worthOf_173, k_X12_worthOf_176, k_X12_worthOf_177, k_X12_worthOf_180, k_X12_worthOf_181, k_X12_worthOf_184, k_X12_worthOf_185, k_X12_worthOf_188, k_X12_worthOf_190, k_X12_worthOf_192, k_X12_worthOf_193, k_X12_worthOf_194, k_X12_worthOf_197, k_X12_worthOf_199, k_X12_worthOf_200, k_X12_worthOf_203, k_X12_worthOf_204, k_X12_worthOf_205, k_X12_worthOf_208, w_X12_goThrough_e, up_s, up_nj, up_na, up_up, savR_o, cpy_o, fillm_o, setAud_o, setv_o, setv_s, Int.reduceNe, Int.reduceEq, Int.reduceLT, Int.reduceAdd, not_false_eq_true, ne_eq, or_true, true_or, hl, ke, km, hsp, kl]
  generalize hs : up (up (up (up (up (up σ 5004 102 f) 5004 104 h) 5004 100 d) 5004 110 n) 5004 107 k) 5004 101 e = s at *
  have ht2 : txtOk s 5002 (240 * l) (σ 5003 l) := txtOk_c (sO 5002 (by decide)) htx
  have hK2 : gLw (txt s 5002 (240 * l) (σ 5003 l)) (σ 5003 l) 241 0 = .inr K := by rw [txt_c (sO 5002 (by decide))]; exact hK
  have fin : ∀ τ K', gLw (txt s 5002 (240 * l) (σ 5003 l)) (σ 5003 l) 241 0 = .inr K' → GF s τ → τ 5000 14 = kval (ltr f h d n k e) K' → Q (0, τ 5000 14) (up (up τ 5017 sp (mkey l f h d n k e)) 5018 sp (τ 5000 14)) := fun τ K' e1 hG e2 => by
    rw [hK2] at e1
    cases e1
    have ew : τ 5000 14 = mwo σ l f h d n k e := by unfold mwo; rw [e2, hKe]
    have oo : ∀ b, b ≠ 5000 → b ≠ 5004 → b ≠ 5017 → b ≠ 5018 → up (up τ 5017 sp (mkey l f h d n k e)) 5018 sp (τ 5000 14) b = σ b := fun b h1 h2 h3 h4 => by rw [up_na _ h4, up_na _ h3, hG.1 b h1, sO b h2]
    have ok : ∀ j, j ≠ 5 → (j < 8 ∨ 14 < j) → j ≠ 17 → up (up τ 5017 sp (mkey l f h d n k e)) 5018 sp (τ 5000 14) 5000 j = σ 5000 j := fun j h1 h2 h3 => by rw [up_na _ (by decide), up_na _ (by decide), hG.2 j h1 h2 h3, sO 5000 (by decide)]
    have hw : WF σ (up (up τ 5017 sp (mkey l f h d n k e)) 5018 sp (τ 5000 14)) := ⟨oo, ok⟩
    have e7 := ok 7 (by decide) (by decide) (by decide)
    have e5002 := oo 5002 (by decide) (by decide) (by decide) (by decide)
    have e5003 := oo 5003 (by decide) (by decide) (by decide) (by decide)
    have m4 : mL (up (up τ 5017 sp (mkey l f h d n k e)) 5018 sp (τ 5000 14)) = ltr f h d n k e := by
      rw [← sL]; funext j; unfold mL; rw [up_na _ (by decide), up_na _ (by decide), hG.1 5004 (by decide)]
    have hm2 : memOk (up (up τ 5017 sp (mkey l f h d n k e)) 5018 sp (τ 5000 14)) := by
      intro x x0 x1
      rw [e7]
      by_cases ex : x = sp
      · subst ex
        rw [up_na _ (by decide), up_s, up_s]
        refine ⟨⟨kb.1, kb2⟩, fun l' f' h' d' n' k' e' q0 q1 hd' he => ?_⟩
        obtain ⟨rfl, rfl, rfl, rfl, rfl, rfl, rfl⟩ := mkey_inj hdg hd' he
        rw [mwo_c e5002 e5003, ew]
      · rw [up_na _ (by decide), up_nj _ ex, up_nj _ ex, up_na _ (by decide), hG.1 5017 (by decide), hG.1 5018 (by decide), sO 5017 (by decide), sO 5018 (by decide)]
        obtain ⟨y1, y2⟩ := hmm x x0 x1
        refine ⟨y1, fun l' f' h' d' n' k' e' q0 q1 hd' he => ?_⟩
        rw [mwo_c e5002 e5003]; exact y2 l' f' h' d' n' k' e' q0 q1 hd' he
    have := hq _ hw ⟨lawsOk_c e7 e5002 e5003 hlw, hm2, by rw [m4]; exact lbL⟩
    rw [← ew] at this; exact this
  have nof : ∀ f, gLw (txt s 5002 (240 * l) (σ 5003 l)) (σ 5003 l) 241 0 = .inl f → False := fun f e9 => by rw [hK2] at e9; cases e9
  simp only [sL]
  repeat' (first | assumption | apply And.intro | intro _)
  all_goals first | omega | exact absurd trivial (by assumption) | exact hit (by omega) | exact ht2 | exact lbL | exact fin _ _ (by assumption) (by assumption) (by assumption) | exact (nof _ (by assumption)).elim
/-- MOVED: FEELING f, HEART h, DULLNESS d, of n, MINUTE k, EVENING e -/
def mRk (σ : Mem) (f h d n k e : Int) : Int := max 0 (min 99 (if σ 5000 38 = -1 then f + h - d else mwo σ (σ 5000 38) f h d n k e)) / n
theorem mRk_b (σ : Mem) {f h d n k e : Int} (hn : 1 ≤ n) : 0 ≤ mRk σ f h d n k e ∧ mRk σ f h d n k e ≤ 99 := by
  unfold mRk
  generalize (if σ 5000 38 = -1 then f + h - d else mwo σ (σ 5000 38) f h d n k e) = w
  have h0 : 0 ≤ max 0 (min 99 w) := by omega
  have h1 : max 0 (min 99 w) ≤ 99 := by omega
  exact ⟨Int.ediv_nonneg h0 (by omega), Int.le_trans (Int.ediv_le_self _ h0) h1⟩
theorem kval_b {L : Int → Int} : ∀ {K : List CL}, (∀ k ∈ K, cgd L k) → bnd (kval L K) := by
  intro K
  induction K with
  | nil => intro _; show bnd (0 : Int); exact ⟨by decide, by decide⟩
  | cons k K ih =>
    intro h
    obtain ⟨c, g⟩ := k
    have hk := h _ List.mem_cons_self
    have ih := ih (fun k hk => h k (List.mem_cons_of_mem _ hk))
    cases c with
    | none => exact hk.2.1
    | some c =>
      unfold kval
      split
      · exact ih
      · exact hk.2.1
theorem mwo_b {σ : Mem} (h : lawsOk σ) {l f g d n k e : Int} (l0 : 0 ≤ l) (l1 : l < σ 5000 7) (hd : mdg f g d n k e) : bnd (mwo σ l f g d n k e) := by
  obtain ⟨-, K, hK⟩ := h.2.2 l l0 l1
  have hKe : lwK σ l = K := by unfold lwK; rw [hK]
  unfold mwo
  rw [hKe]
  refine kval_b (fun q hq => gLw_val (L := ltr f g d n k e) ?_ 241 0 K hK q hq)
  unfold mdg at hd; exact ltr_b ⟨by omega, by omega⟩ ⟨by omega, by omega⟩ ⟨by omega, by omega⟩ ⟨by omega, by omega⟩ ⟨by omega, by omega⟩ ⟨by omega, by omega⟩
theorem WF_mwo {σ τ : Mem} (h : WF σ τ) (l f g d n k e : Int) : mwo τ l f g d n k e = mwo σ l f g d n k e := mwo_c (h.1 5002 (by decide) (by decide) (by decide) (by decide)) (h.1 5003 (by decide) (by decide) (by decide) (by decide)) l f g d n k e
theorem WF_mRk {σ τ : Mem} (h : WF σ τ) (f g d n k e : Int) : mRk τ f g d n k e = mRk σ f g d n k e := by
  unfold mRk; rw [WF_mwo h, h.2 38 (by decide) (by decide) (by decide)]
theorem clq2 (w : Int) : (if (0 : Int) < (if w < 99 then w else 99) then (if w < 99 then w else 99) else 0) = max 0 (min 99 w) := clq w
/-- which LAW holds -/
def lwIs (σ : Mem) : Prop := σ 5000 38 = -1 ∨ (0 ≤ σ 5000 38 ∧ σ 5000 38 < σ 5000 7)
theorem wd_1712 : Cond.methodLink RX12 338 yX12_feeling ∈ TBL := tb_tab (List.mem_of_getElem? (i := 1712) (by decide +kernel)) rfl
theorem wd_1715 : Cond.code yX12_feeling cX12_feeling 3 (some .int) ∈ TBL := tb_tab (List.mem_of_getElem? (i := 1715) (by decide +kernel)) rfl
theorem lk_X12_338 : amLk RX12 338 yX12_feeling cX12_feeling 3 (some .int) 2 := ⟨wd_1712, wd_12, wd_1715, by decide +kernel, by decide +kernel, by decide⟩
theorem wd_1714 : Cond.instanceMethod yX12_feeling ∈ TBL := tb_tab (List.mem_of_getElem? (i := 1714) (by decide +kernel)) rfl
theorem sl_X12_feeling : Cond.selects RX12 yX12_feeling yX12_feeling ∈ TBL := tb_sel (List.mem_of_getElem? (i := 82) (by decide +kernel)) rfl
theorem wd_1329 : Cond.fieldLink RX12 55 "ArmchairHouseModel" "sitter" "[I" ∈ TBL := tb_tab (List.mem_of_getElem? (i := 1329) (by decide +kernel)) rfl
theorem fl_X12_55 : amFl RX12 12 24 55 RX12 TX12 57 := ⟨rfl, inT_12, by decide, wd_1329⟩
theorem wd_1716 : Cond.methodLink RX12 341 yX12_worthOf ∈ TBL := tb_tab (List.mem_of_getElem? (i := 1716) (by decide +kernel)) rfl
theorem wd_1719 : Cond.code yX12_worthOf cX12_worthOf 10 (some .int) ∈ TBL := tb_tab (List.mem_of_getElem? (i := 1719) (by decide +kernel)) rfl
theorem lk_X12_341 : amLk RX12 341 yX12_worthOf cX12_worthOf 10 (some .int) 6 := ⟨wd_1716, wd_12, wd_1719, by decide +kernel, by decide +kernel, by decide⟩
theorem wd_1718 : Cond.instanceMethod yX12_worthOf ∈ TBL := tb_tab (List.mem_of_getElem? (i := 1718) (by decide +kernel)) rfl
theorem sl_X12_worthOf : Cond.selects RX12 yX12_worthOf yX12_worthOf ∈ TBL := tb_sel (List.mem_of_getElem? (i := 83) (by decide +kernel)) rfl
theorem wd_1723 : Cond.methodLink RX12 345 yJ9_min_7cf53 ∈ TBL := tb_tab (List.mem_of_getElem? (i := 1723) (by decide +kernel)) rfl
theorem lk_X12_345 : amLk RX12 345 yJ9_min_7cf53 cJ9_min_7cf53 2 (some .int) 2 := ⟨wd_1723, wd_16, wd_453, by decide +kernel, by decide +kernel, by decide⟩
theorem wd_1724 : Cond.methodLink RX12 347 yJ9_max_7cf53 ∈ TBL := tb_tab (List.mem_of_getElem? (i := 1724) (by decide +kernel)) rfl
theorem lk_X12_347 : amLk RX12 347 yJ9_max_7cf53 cJ9_max_7cf53 2 (some .int) 2 := ⟨wd_1724, wd_16, wd_450, by decide +kernel, by decide +kernel, by decide⟩
def a_X12_moved : AC := [(0, vAload 0 1), (1, vGetI 28 38 4), (4, vI (-1) 5), (5, vIcNe 27 8), (8, vAload 0 9), (9, vIload 3 10), (10, vIload 4 12), (12, vCallM w_X12_feeling 28 2 15), (15, vIload 1 16), (16, vIadd 17), (17, vAload 0 18), (18, vGetR TT 28 24 8 21), (21, vIload 2 22), (22, vIald TT 23), (23, vIsub 24), (24, vGoto 51), (27, vAload 0 28), (28, vAload 0 29), (29, vIload 3 30), (30, vIload 4 32), (32, vCallM w_X12_feeling 28 2 35), (35, vIload 1 36), (36, vAload 0 37), (37, vGetR TT 28 24 8 40), (40, vIload 2 41), (41, vIald TT 42), (42, vIload 5 44), (44, vIload 4 46), (46, vIload 6 48), (48, vCallM w_X12_worthOf 28 6 51), (51, vIstore 7 53), (53, vI 0 54), (54, vI 99 56), (56, vIload 7 58), (58, vCallS w_J9_min_7cf53 2 61), (61, vCallS w_J9_max_7cf53 2 64), (64, vIload 5 66), (66, vIdiv 67), (67, vIret)]
theorem k_X12_moved_0 : look a_X12_moved 0 = vAload 0 1 := rfl
theorem k_X12_moved_1 : look a_X12_moved 1 = vGetI 28 38 4 := rfl
theorem k_X12_moved_4 : look a_X12_moved 4 = vI (-1) 5 := rfl
theorem k_X12_moved_5 : look a_X12_moved 5 = vIcNe 27 8 := rfl
theorem k_X12_moved_8 : look a_X12_moved 8 = vAload 0 9 := rfl
theorem k_X12_moved_9 : look a_X12_moved 9 = vIload 3 10 := rfl
theorem k_X12_moved_10 : look a_X12_moved 10 = vIload 4 12 := rfl
theorem k_X12_moved_12 : look a_X12_moved 12 = vCallM w_X12_feeling 28 2 15 := rfl
theorem k_X12_moved_15 : look a_X12_moved 15 = vIload 1 16 := rfl
theorem k_X12_moved_16 : look a_X12_moved 16 = vIadd 17 := rfl
theorem k_X12_moved_17 : look a_X12_moved 17 = vAload 0 18 := rfl
theorem k_X12_moved_18 : look a_X12_moved 18 = vGetR TT 28 24 8 21 := rfl
theorem k_X12_moved_21 : look a_X12_moved 21 = vIload 2 22 := rfl
theorem k_X12_moved_22 : look a_X12_moved 22 = vIald TT 23 := rfl
theorem k_X12_moved_23 : look a_X12_moved 23 = vIsub 24 := rfl
theorem k_X12_moved_24 : look a_X12_moved 24 = vGoto 51 := rfl
theorem k_X12_moved_27 : look a_X12_moved 27 = vAload 0 28 := rfl
theorem k_X12_moved_28 : look a_X12_moved 28 = vAload 0 29 := rfl
theorem k_X12_moved_29 : look a_X12_moved 29 = vIload 3 30 := rfl
theorem k_X12_moved_30 : look a_X12_moved 30 = vIload 4 32 := rfl
theorem k_X12_moved_32 : look a_X12_moved 32 = vCallM w_X12_feeling 28 2 35 := rfl
theorem k_X12_moved_35 : look a_X12_moved 35 = vIload 1 36 := rfl
theorem k_X12_moved_36 : look a_X12_moved 36 = vAload 0 37 := rfl
theorem k_X12_moved_37 : look a_X12_moved 37 = vGetR TT 28 24 8 40 := rfl
theorem k_X12_moved_40 : look a_X12_moved 40 = vIload 2 41 := rfl
theorem k_X12_moved_41 : look a_X12_moved 41 = vIald TT 42 := rfl
theorem k_X12_moved_42 : look a_X12_moved 42 = vIload 5 44 := rfl
theorem k_X12_moved_44 : look a_X12_moved 44 = vIload 4 46 := rfl
theorem k_X12_moved_46 : look a_X12_moved 46 = vIload 6 48 := rfl
theorem k_X12_moved_48 : look a_X12_moved 48 = vCallM w_X12_worthOf 28 6 51 := rfl
theorem k_X12_moved_51 : look a_X12_moved 51 = vIstore 7 53 := rfl
theorem k_X12_moved_53 : look a_X12_moved 53 = vI 0 54 := rfl
theorem k_X12_moved_54 : look a_X12_moved 54 = vI 99 56 := rfl
theorem k_X12_moved_56 : look a_X12_moved 56 = vIload 7 58 := rfl
theorem k_X12_moved_58 : look a_X12_moved 58 = vCallS w_J9_min_7cf53 2 61 := rfl
theorem k_X12_moved_61 : look a_X12_moved 61 = vCallS w_J9_max_7cf53 2 64 := rfl
theorem k_X12_moved_64 : look a_X12_moved 64 = vIload 5 66 := rfl
theorem k_X12_moved_66 : look a_X12_moved 66 = vIdiv 67 := rfl
theorem k_X12_moved_67 : look a_X12_moved 67 = vIret := rfl
theorem o_X12_moved {X : amX} (e1 : XT X = TT) (e2 : XD X = 57) (hB : amB X RX12 cX12_moved (some .int) 8) : ∀ pc, amOK X pc (look a_X12_moved pc) := by
  have hT : amTok (XT X) := e1 ▸ TT_ok
  refine look_ok ?_
  unfold a_X12_moved
  refine fc (ok_aload_n hB dX12_moved_0) ?_
  refine fc (ok_getI hB hT fl_X12_73 rfl rfl (Or.inl af_12_38) dX12_moved_1) ?_
  refine fc (ok_iconst hB dX12_moved_4) ?_
  refine fc (ok_icmp_ne hB (t := 27) (by decide) dX12_moved_5) ?_
  refine fc (ok_aload_n hB dX12_moved_8) ?_
  refine fc (ok_iload_n hB dX12_moved_9) ?_
  refine fc (ok_iload hB dX12_moved_10) ?_
  refine fc (ok_callM hB hT (e1 ▸ s_X12_feeling) lk_X12_338 (by rw [e2]; decide) (c := 12) rfl rfl rfl wd_1714 sl_X12_feeling dX12_moved_12) ?_
  refine fc (ok_iload_n hB dX12_moved_15) ?_
  refine fc (ok_iadd hB dX12_moved_16) ?_
  refine fc (ok_aload_n hB dX12_moved_17) ?_
  refine fc (okt_getR e1 hB hT fl_X12_55 rfl af_12_24 at_12_24 (by decide) dX12_moved_18) ?_
  refine fc (ok_iload_n hB dX12_moved_21) ?_
  refine fc (okt_iaload e1 hB dX12_moved_22) ?_
  refine fc (ok_isub hB dX12_moved_23) ?_
  refine fc (ok_goto hB (t := 51) (by decide) dX12_moved_24) ?_
  refine fc (ok_aload_n hB dX12_moved_27) ?_
  refine fc (ok_aload_n hB dX12_moved_28) ?_
  refine fc (ok_iload_n hB dX12_moved_29) ?_
  refine fc (ok_iload hB dX12_moved_30) ?_
  refine fc (ok_callM hB hT (e1 ▸ s_X12_feeling) lk_X12_338 (by rw [e2]; decide) (c := 12) rfl rfl rfl wd_1714 sl_X12_feeling dX12_moved_32) ?_
  refine fc (ok_iload_n hB dX12_moved_35) ?_
  refine fc (ok_aload_n hB dX12_moved_36) ?_
  refine fc (okt_getR e1 hB hT fl_X12_55 rfl af_12_24 at_12_24 (by decide) dX12_moved_37) ?_
  refine fc (ok_iload_n hB dX12_moved_40) ?_
  refine fc (okt_iaload e1 hB dX12_moved_41) ?_
  refine fc (ok_iload hB dX12_moved_42) ?_
  refine fc (ok_iload hB dX12_moved_44) ?_
  refine fc (ok_iload hB dX12_moved_46) ?_
  refine fc (ok_callM hB hT (e1 ▸ s_X12_worthOf) lk_X12_341 (by rw [e2]; decide) (c := 12) rfl rfl rfl wd_1718 sl_X12_worthOf dX12_moved_48) ?_
  refine fc (ok_istore hB (by decide) dX12_moved_51) ?_
  refine fc (ok_iconst hB dX12_moved_53) ?_
  refine fc (ok_bipush hB dX12_moved_54 (by decide)) ?_
  refine fc (ok_iload hB dX12_moved_56) ?_
  refine fc (ok_callS hB (e1 ▸ s_J9_min_7cf53) lk_X12_345 (by rw [e2]; decide) wd_452 dX12_moved_58) ?_
  refine fc (ok_callS hB (e1 ▸ s_J9_max_7cf53) lk_X12_347 (by rw [e2]; decide) wd_449 dX12_moved_61) ?_
  refine fc (ok_iload hB dX12_moved_64) ?_
  refine fc (ok_idiv hB dX12_moved_66) ?_
  refine fc (ok_iret hB dX12_moved_67) ?_
  exact fn

def w_X12_moved : WP := fun av σ Q => ∃ (h : Int) (t : Int) (p : Int) (k : Int) (n : Int) (e : Int), av = [(28, 5000), (0, h), (0, t), (0, p), (0, k), (0, n), (0, e)] ∧ (mOk σ ∧ lwIs σ ∧ 0 ≤ t ∧ t < 6 ∧ 0 ≤ p ∧ p < 4 ∧ mdg (σ 5007 (4 * p + k % 3)) h (σ 5011 t) n k e ∧ 1 ≤ n ∧ (∀ τ, WF σ τ → mOk τ → Q (0, mRk σ (σ 5007 (4 * p + k % 3)) h (σ 5011 t) n k e) τ))
theorem w_X12_moved_e (h : Int) (t : Int) (p : Int) (k : Int) (n : Int) (e : Int) (σ : Mem) (Q : AV → Mem → Prop) : w_X12_moved [(28, 5000), (0, h), (0, t), (0, p), (0, k), (0, n), (0, e)] σ Q = (mOk σ ∧ lwIs σ ∧ 0 ≤ t ∧ t < 6 ∧ 0 ≤ p ∧ p < 4 ∧ mdg (σ 5007 (4 * p + k % 3)) h (σ 5011 t) n k e ∧ 1 ≤ n ∧ (∀ τ, WF σ τ → mOk τ → Q (0, mRk σ (σ 5007 (4 * p + k % 3)) h (σ 5011 t) n k e) τ)) := by
  apply propext; constructor
  · rintro ⟨h', t', p', k', n', e', h9, hb9⟩; cases h9; exact hb9
  · intro hb9; exact ⟨h, t, p, k, n, e, rfl, hb9⟩

set_option maxRecDepth 100000 in
set_option maxHeartbeats 4000000 in
theorem s_X12_moved : ∀ av σ Q, w_X12_moved av σ Q → amCall 57 0 0 TT yX12_moved cX12_moved 8 (some .int) av σ Q := by
  rintro av σ Q ⟨h, t, p, k, n, e, rfl, hok, hli, t0, t1, p0, p1, hdg, hn, hq⟩
  have hm7 := hok.1.2.1
  have hd' := hdg
  unfold mdg at hd'
  have fin : ∀ w τ, WF σ τ → mOk τ → w = (if σ 5000 38 = -1 then σ 5007 (4 * p + k % 3) + h - σ 5011 t else mwo σ (σ 5000 38) (σ 5007 (4 * p + k % 3)) h (σ 5011 t) n k e) → Q (0, Int.tdiv (max 0 (min 99 w)) n) τ := fun w τ h1 h2 h3 => by
    have := hq τ h1 h2
    unfold mRk at this
    rw [← h3, ← Int.tdiv_eq_ediv_of_nonneg (by omega)] at this; exact this
  rcases hli with hl | ⟨hl0, hl1⟩
  · have f1 := fin _ σ (WF_rf σ) hok (by rw [if_pos hl])
    refine am_m0 (own := RX12) (A := look a_X12_moved) (fun X e1 e2 hB => o_X12_moved e1 e2 hB) rfl (by decide +kernel) rfl rfl 190 (w := 8) ?_
    change vcs _ _ _ _ 190 0 [(28, 5000), (0, h), (0, t), (0, p), (0, k), (0, n), (0, e), (6, 0)] [] σ
    simp only [↓reduceIte, inR_0, inR_1, inR_m, vSw2_e, swP_n, swP_c, vI_e, vL_e, vNull_e, vIload_e, vLload_e, vAload_e, vIstore_e, vLstore_e, vAstore_e, vIinc_e, vIadd_e, vIsub_e, vImul_e, vIand_e, vIor_e, vIxor_e, vIshl_e, vIshr_e, vIushr_e, vIdiv_e, vIrem_e, vLadd_e, vLsub_e, vLmul_e, vLand_e, vLor_e, vLxor_e, vLdiv_e, vLrem_e, vLushr_e, vLshl_e, vLcmp_e, vIneg_e, vI2l_e, vL2i_e, vI2b_e, vI2c_e, vDup_e, vPop_e, vDup2_e, vGoto_e, vIcEq_e, vIfEq_e, vIcNe_e, vIfNe_e, vIcLt_e, vIfLt_e, vIcGe_e, vIfGe_e, vIcGt_e, vIfGt_e, vIcLe_e, vIfLe_e, vNonnull_e, vSw_e, vGetI_e, vGetL_e, vGetR_e, vPutI_e, vPutZ_e, vPutL_e, vPutR_e, vIald_e, vIald_s, vLald_e, vBald_e, vBald_s, vAald_e, vIast_e, vLast_e, vBast_e, vAast_e, vAlen_e8, vAlen_e9, vAlen_e10, vAlen_e11, vAlen_e5, vAlen_e3, vGets_e, vCompact_e, vLdcS_e, vIret_e, vZret_e, vCret_e, vBret_e, vLret_e, vVret_e, vAret_e, vCallM_e0, vCallMV_e0, vCallS_e0, vCallSV_e0, vCallM_e1, vCallMV_e1, vCallS_e1, vCallSV_e1, vCallM_e2, vCallMV_e2, vCallS_e2, vCallSV_e2, vCallM_e3, vCallMV_e3, vCallS_e3, vCallSV_e3, vCallM_e4, vCallMV_e4, vCallS_e4, vCallSV_e4, vCallM_e5, vCallMV_e5, vCallS_e5, vCallSV_e5, vCallM_e6, vCallMV_e6, vCallS_e6, vCallSV_e6, vCallM_e7, vCallMV_e7, vCallS_e7, vCallSV_e7, vBad_e, vStrVal_e, vStrCod_e, vForm_e, vCallT_e0, vCallT_e1, vCallT_e2, vCopy_e, rf_0_0, rf_0_1, rf_0_2, rf_0_3, rf_0_4, rf_0_7, rf_0_10, rf_0_11, rf_0_12, rf_0_13, rf_0_14, rf_0_15, rf_0_16, rf_1_0, rf_3_0, rf_3_1, rf_6_0, rf_6_1, rf_9_0, rf_9_1, rf_9_3, rf_13_0, rf_13_1, rf_13_2, rf_16_0, rf_16_1, rf_16_2, rf_16_3, rf_21_0, rf_21_1, rf_21_2, rf_21_3, rf_26_0, rf_26_1, rf_26_2, rf_26_3, rf_26_4, rf_26_5, rf_26_6, rf_31_0, rf_31_2, rf_31_5, rf_31_6, rf_36_0, rf_36_1, rf_36_2, rf_36_3, rf_39_0, rf_39_1, rf_39_2, rf_41_0, rf_41_1, rf_41_2, rf_41_3, rf_5000_1, rf_5000_2, rf_5000_3, rf_5000_4, rf_5000_5, rf_5000_15, rf_5000_16, rf_5000_18, rf_5000_19, rf_5000_20, rf_5000_21, rf_5000_22, rf_5000_23, rf_5000_24, rf_5000_25, rf_5000_26, rf_5000_27, rf_5000_36, rf_5000_37, rf_5000_40, rf_5000_41, rf_5000_42, rf_5000_43, rf_5000_44, rf_5000_45, rf_5000_47, rf_5000_52, rf_5000_54, rf_5000_55, rf_100_0, rf_100_1, rf_103_0, rf_103_1, rf_106_0, rf_106_1, rf_109_0, rf_109_1, al_2, al_4, al_5, al_7, al_8, al_10, al_11, al_12, al_14, al_15, al_17, al_18, al_19, al_20, al_22, al_23, al_24, al_25, al_27, al_28, al_29, al_30, al_32, al_33, al_34, al_35, al_37, al_38, al_40, al_42, al_5001, al_5002, al_5003, al_5004, al_5005, al_5006, al_5007, al_5008, al_5009, al_5010, al_5011, al_5012, al_5013, al_5014, al_5015, al_5016, al_5017, al_5018, al_5019, al_5020, al_5021, al_5022, al_5023, al_5024, al_5025, al_5026, al_9000, al_101, al_102, al_104, al_105, al_107, al_108, al_110, al_111, vcs_e, lg_c0, lg_cs, lg_nil, set_c0, set_cs, okst_0, okst_s, acok_n, acok_c, List.contains_nil, List.contains_cons, Bool.or_false, Bool.false_or, Bool.false_eq_true, if_false, if_true, ite_self, ne_eq, true_and, and_true, not_false_eq_true, not_true_eq_false, false_imp_iff, true_imp_iff, Nat.ble_eq, Bool.and_eq_true, reduceCtorEq, or_false, false_or, or_true, true_or, false_and, and_false, and_self, Int.reduceLE, Int.reduceAdd, Int.reduceSub, Int.reduceMul, Int.reduceNeg, Int.reduceLT, Int.reduceEq, Int.reduceNe, Nat.reduceBEq, Nat.reduceBNe, Nat.reduceEqDiff, amCmp_in, amCmp_lt, amCmp_le, amCmp_gt, amCmp_ge, amCmp_eq, amCmp_ne, Nat.reduceLeDiff, Nat.reduceSub, Bool.and_true, Bool.true_and, Bool.and_self, Bool.or_true, Bool.true_or, isRf_3, isRf_4, isRf_5, isRf_8, isRf_9, isRf_10, isRf_11, isRf_15, isRf_16, isRf_17, isRf_18, isRf_19, isRf_20, isRf_21, isRf_22, isRf_23, isRf_24, isRf_25, isRf_26, isRf_27, isRf_28, k_X12_moved_0, k_X12_moved_1, k_X12_moved_4, k_X12_moved_5, k_X12_moved_8, k_X12_moved_9, k_X12_moved_10, k_X12_moved_12, k_X12_moved_15, k_X12_moved_16, k_X12_moved_17, k_X12_moved_18, k_X12_moved_21, k_X12_moved_22, k_X12_moved_23, k_X12_moved_24, k_X12_moved_27, k_X12_moved_28, k_X12_moved_29, k_X12_moved_30, k_X12_moved_32, k_X12_moved_35, k_X12_moved_36, k_X12_moved_37, k_X12_moved_40, k_X12_moved_41, k_X12_moved_42, k_X12_moved_44, k_X12_moved_46, k_X12_moved_48, k_X12_moved_51, k_X12_moved_53, k_X12_moved_54, k_X12_moved_56, k_X12_moved_58, k_X12_moved_61, k_X12_moved_64, k_X12_moved_66, k_X12_moved_67, w_J9_max_7cf53_e, w_J9_min_7cf53_e, w_X12_feeling_e, w_X12_worthOf_e, up_s, up_nj, up_na, up_up, savR_o, cpy_o, fillm_o, setAud_o, setv_o, setv_s, Int.reduceNe, Int.reduceEq, Int.reduceLT, Int.reduceAdd, not_false_eq_true, ne_eq, or_true, true_or, hl, clq]
    generalize σ 5007 (4 * p + k % 3) = f at *
    generalize σ 5011 t = d at *
    repeat' (first | assumption | apply And.intro | intro _)
    all_goals first | omega | exact absurd trivial (by assumption) | exact f1
  · have mb := mwo_b hok.1 hl0 hl1 hdg
    have f1 := fun τ h1 h2 => fin (mwo σ (σ 5000 38) (σ 5007 (4 * p + k % 3)) h (σ 5011 t) n k e) τ h1 h2 (by rw [if_neg (by omega)])
    refine am_m0 (own := RX12) (A := look a_X12_moved) (fun X e1 e2 hB => o_X12_moved e1 e2 hB) rfl (by decide +kernel) rfl rfl 190 (w := 8) ?_
    change vcs _ _ _ _ 190 0 [(28, 5000), (0, h), (0, t), (0, p), (0, k), (0, n), (0, e), (6, 0)] [] σ
    simp only [↓reduceIte, inR_0, inR_1, inR_m, vSw2_e, swP_n, swP_c, vI_e, vL_e, vNull_e, vIload_e, vLload_e, vAload_e, vIstore_e, vLstore_e, vAstore_e, vIinc_e, vIadd_e, vIsub_e, vImul_e, vIand_e, vIor_e, vIxor_e, vIshl_e, vIshr_e, vIushr_e, vIdiv_e, vIrem_e, vLadd_e, vLsub_e, vLmul_e, vLand_e, vLor_e, vLxor_e, vLdiv_e, vLrem_e, vLushr_e, vLshl_e, vLcmp_e, vIneg_e, vI2l_e, vL2i_e, vI2b_e, vI2c_e, vDup_e, vPop_e, vDup2_e, vGoto_e, vIcEq_e, vIfEq_e, vIcNe_e, vIfNe_e, vIcLt_e, vIfLt_e, vIcGe_e, vIfGe_e, vIcGt_e, vIfGt_e, vIcLe_e, vIfLe_e, vNonnull_e, vSw_e, vGetI_e, vGetL_e, vGetR_e, vPutI_e, vPutZ_e, vPutL_e, vPutR_e, vIald_e, vIald_s, vLald_e, vBald_e, vBald_s, vAald_e, vIast_e, vLast_e, vBast_e, vAast_e, vAlen_e8, vAlen_e9, vAlen_e10, vAlen_e11, vAlen_e5, vAlen_e3, vGets_e, vCompact_e, vLdcS_e, vIret_e, vZret_e, vCret_e, vBret_e, vLret_e, vVret_e, vAret_e, vCallM_e0, vCallMV_e0, vCallS_e0, vCallSV_e0, vCallM_e1, vCallMV_e1, vCallS_e1, vCallSV_e1, vCallM_e2, vCallMV_e2, vCallS_e2, vCallSV_e2, vCallM_e3, vCallMV_e3, vCallS_e3, vCallSV_e3, vCallM_e4, vCallMV_e4, vCallS_e4, vCallSV_e4, vCallM_e5, vCallMV_e5, vCallS_e5, vCallSV_e5, vCallM_e6, vCallMV_e6, vCallS_e6, vCallSV_e6, vCallM_e7, vCallMV_e7, vCallS_e7, vCallSV_e7, vBad_e, vStrVal_e, vStrCod_e, vForm_e, vCallT_e0, vCallT_e1, vCallT_e2, vCopy_e, rf_0_0, rf_0_1, rf_0_2, rf_0_3, rf_0_4, rf_0_7, rf_0_10, rf_0_11, rf_0_12, rf_0_13, rf_0_14, rf_0_15, rf_0_16, rf_1_0, rf_3_0, rf_3_1, rf_6_0, rf_6_1, rf_9_0, rf_9_1, rf_9_3, rf_13_0, rf_13_1, rf_13_2, rf_16_0, rf_16_1, rf_16_2, rf_16_3, rf_21_0, rf_21_1, rf_21_2, rf_21_3, rf_26_0, rf_26_1, rf_26_2, rf_26_3, rf_26_4, rf_26_5, rf_26_6, rf_31_0, rf_31_2, rf_31_5, rf_31_6, rf_36_0, rf_36_1, rf_36_2, rf_36_3, rf_39_0, rf_39_1, rf_39_2, rf_41_0, rf_41_1, rf_41_2, rf_41_3, rf_5000_1, rf_5000_2, rf_5000_3, rf_5000_4, rf_5000_5, rf_5000_15, rf_5000_16, rf_5000_18, rf_5000_19, rf_5000_20, rf_5000_21, rf_5000_22, rf_5000_23, rf_5000_24, rf_5000_25, rf_5000_26, rf_5000_27, rf_5000_36, rf_5000_37, rf_5000_40, rf_5000_41, rf_5000_42, rf_5000_43, rf_5000_44, rf_5000_45, rf_5000_47, rf_5000_52, rf_5000_54, rf_5000_55, rf_100_0, rf_100_1, rf_103_0, rf_103_1, rf_106_0, rf_106_1, rf_109_0, rf_109_1, al_2, al_4, al_5, al_7, al_8, al_10, al_11, al_12, al_14, al_15, al_17, al_18, al_19, al_20, al_22, al_23, al_24, al_25, al_27, al_28, al_29, al_30, al_32, al_33, al_34, al_35, al_37, al_38, al_40, al_42, al_5001, al_5002, al_5003, al_5004, al_5005, al_5006, al_5007, al_5008, al_5009, al_5010, al_5011, al_5012, al_5013, al_5014, al_5015, al_5016, al_5017, al_5018, al_5019, al_5020, al_5021, al_5022, al_5023, al_5024, al_5025, al_5026, al_9000, al_101, al_102, al_104, al_105, al_107, al_108, al_110, al_111, vcs_e, lg_c0, lg_cs, lg_nil, set_c0, set_cs, okst_0, okst_s, acok_n, acok_c, List.contains_nil, List.contains_cons, Bool.or_false, Bool.false_or, Bool.false_eq_true, if_false, if_true, ite_self, ne_eq, true_and, and_true, not_false_eq_true, not_true_eq_false, false_imp_iff, true_imp_iff, Nat.ble_eq, Bool.and_eq_true, reduceCtorEq, or_false, false_or, or_true, true_or, false_and, and_false, and_self, Int.reduceLE, Int.reduceAdd, Int.reduceSub, Int.reduceMul, Int.reduceNeg, Int.reduceLT, Int.reduceEq, Int.reduceNe, Nat.reduceBEq, Nat.reduceBNe, Nat.reduceEqDiff, amCmp_in, amCmp_lt, amCmp_le, amCmp_gt, amCmp_ge, amCmp_eq, amCmp_ne, Nat.reduceLeDiff, Nat.reduceSub, Bool.and_true, Bool.true_and, Bool.and_self, Bool.or_true, Bool.true_or, isRf_3, isRf_4, isRf_5, isRf_8, isRf_9, isRf_10, isRf_11, isRf_15, isRf_16, isRf_17, isRf_18, isRf_19, isRf_20, isRf_21, isRf_22, isRf_23, isRf_24, isRf_25, isRf_26, isRf_27, isRf_28, k_X12_moved_0, k_X12_moved_1, k_X12_moved_4, k_X12_moved_5, k_X12_moved_8, k_X12_moved_9, k_X12_moved_10, k_X12_moved_12, k_X12_moved_15, k_X12_moved_16, k_X12_moved_17, k_X12_moved_18, k_X12_moved_21, k_X12_moved_22, k_X12_moved_23, k_X12_moved_24, k_X12_moved_27, k_X12_moved_28, k_X12_moved_29, k_X12_moved_30, k_X12_moved_32, k_X12_moved_35, k_X12_moved_36, k_X12_moved_37, k_X12_moved_40, k_X12_moved_41, k_X12_moved_42, k_X12_moved_44, k_X12_moved_46, k_X12_moved_48, k_X12_moved_51, k_X12_moved_53, k_X12_moved_54, k_X12_moved_56, k_X12_moved_58, k_X12_moved_61, k_X12_moved_64, k_X12_moved_66, k_X12_moved_67, w_J9_max_7cf53_e, w_J9_min_7cf53_e, w_X12_feeling_e, w_X12_worthOf_e, up_s, up_nj, up_na, up_up, savR_o, cpy_o, fillm_o, setAud_o, setv_o, setv_s, Int.reduceNe, Int.reduceEq, Int.reduceLT, Int.reduceAdd, not_false_eq_true, ne_eq, or_true, true_or, clq]
    generalize σ 5007 (4 * p + k % 3) = f at *
    generalize σ 5011 t = d at *
    repeat' (first | assumption | apply And.intro | intro _)
    all_goals first | omega | exact absurd trivial (by assumption) | exact hok | exact hdg | exact f1 _ (by assumption) (by assumption)
