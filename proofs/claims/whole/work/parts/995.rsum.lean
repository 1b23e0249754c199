/-! the reference reads SUMS -/
theorem fa_n (σ : Mem) (p d : Int) : faM (rdM σ p (-1) d) = rdM σ p p d := by
  unfold faM; rw [rd_11, if_pos rfl, rd_10, rd_u11]
theorem fa_f {σ : Mem} {p f d : Int} (h : f ≠ -1) : faM (rdM σ p f d) = rdM σ p f d := by
  unfold faM; rw [rd_11, if_neg h]
theorem txOk_dr {σ : Mem} {p f d : Int} (h : txOk (rdM σ p f d)) : txOk σ := by
  have hT := tx_T h
  rw [rd_5] at hT
  unfold txOk at h
  rw [rd_9, rd_5, rd_8, rd_r σ p f d (by omega)] at h; exact h
/-- reading goes on, with room for r more within -/
def rdOk (σ : Mem) (r : Nat) : Prop := txOk σ ∧ lbd (mL σ) ∧ σ 5000 11 = -1 ∧ 0 ≤ σ 5000 10 ∧ σ 5000 10 ≤ σ 5000 9 ∧ σ 5000 12 = 6 - r ∧ r ≤ 6
theorem rdOk_rd {σ : Mem} (h1 : txOk σ) (h2 : lbd (mL σ)) {p d : Int} {r : Nat} (p0 : 0 ≤ p) (p1 : p ≤ σ 5000 9) (hd : d = 6 - r) (hr : r ≤ 6) : rdOk (rdM σ p (-1) d) r := by
  refine ⟨txOk_rd h1 _ _ _, ?_, rfl, p0, ?_, hd, hr⟩
  · rw [mL_rd]; exact h2
  · rw [rd_9]; exact p1
theorem rdOk_dr {σ : Mem} {p f d : Int} {r : Nat} (h : rdOk (rdM σ p f d) r) : txOk σ ∧ lbd (mL σ) ∧ f = -1 ∧ 0 ≤ p ∧ p ≤ σ 5000 9 ∧ d = 6 - r ∧ r ≤ 6 := by
  obtain ⟨h1, h2, h3, h4, h5, h6, h7⟩ := h
  rw [mL_rd] at h2
  rw [rd_9] at h5
  exact ⟨txOk_dr h1, h2, h3, h4, h5, h6, h7⟩
theorem rdOk_m {σ : Mem} {r : Nat} (h : rdOk σ r) : ∃ m p, σ = rdM m p (-1) (6 - r) := ⟨σ, σ 5000 10, rd_of rfl h.2.2.1 h.2.2.2.2.2.1⟩
/-- what a reader of a SUM with room for r brings -/
def wSb (r : Nat) (σ : Mem) (Q : AV → Mem → Prop) : Prop := rdOk σ r ∧ (∀ f v p d, gS (mtx σ) (σ 5000 9) r (σ 5000 10) = .inl f → InR v → 6 - (r : Int) ≤ d → d ≤ 6 → Q (0, v) (rdM σ p f d)) ∧ (∀ y, gS (mtx σ) (σ 5000 9) r (σ 5000 10) = .inr y → Q (0, val (mL σ) y.2) (rdM σ y.1 (-1) (6 - r)))
def wS : Nat → WP
  | 0 => fun _ _ _ => False
  | r + 1 => fun av σ Q => av = [(28, 5000)] ∧ wSb r σ Q
theorem wS_0 (av : List AV) (σ : Mem) (Q : AV → Mem → Prop) : wS 0 av σ Q = False := rfl
theorem wS_s (r : Nat) (σ : Mem) (Q : AV → Mem → Prop) : wS (r + 1) [(28, 5000)] σ Q = (rdOk σ r ∧ (∀ f v p d, gS (mtx σ) (σ 5000 9) r (σ 5000 10) = .inl f → InR v → 6 - (r : Int) ≤ d → d ≤ 6 → Q (0, v) (rdM σ p f d)) ∧ (∀ y, gS (mtx σ) (σ 5000 9) r (σ 5000 10) = .inr y → Q (0, val (mL σ) y.2) (rdM σ y.1 (-1) (6 - r)))) := by
  apply propext; constructor
  · rintro ⟨-, h⟩; exact h
  · intro h; exact ⟨rfl, h⟩
abbrev SumS (r : Nat) : Prop := ∀ av σ Q, wS r av σ Q → amCall (9 + 3 * r) 0 0 TT yX12_sum cX12_sum 5 (some .int) av σ Q

theorem ndig_s (t : Int → Int) (p : Int) (m : Nat) : ndig t p (m + 1) = if 48 ≤ t p ∧ t p ≤ 57 then 1 + ndig t (p + 1) m else 0 := rfl
theorem nval_s (t : Int → Int) (p a : Int) (m : Nat) : nval t p a (m + 1) = if 48 ≤ t p ∧ t p ≤ 57 then nval t (p + 1) (10 * a + t p - 48) m else a := rfl
theorem ndig_no {t : Int → Int} {p : Int} (h : ¬ (48 ≤ t p ∧ t p ≤ 57)) (n : Nat) : ndig t p n = 0 := by
  cases n with
  | zero => rfl
  | succ n => unfold ndig; rw [if_neg h]
theorem nval_no {t : Int → Int} {p : Int} (h : ¬ (48 ≤ t p ∧ t p ≤ 57)) (a : Int) (n : Nat) : nval t p a n = a := by
  cases n with
  | zero => rfl
  | succ n => unfold nval; rw [if_neg h]
theorem gAtm_d {t : Int → Int} {n : Int} {inn : Int → LR} {q : Int} (h1 : ¬ 0 ≤ lix (t q)) (h2 : t q ≠ 91) : gAtm t n inn q = if ndig t q 4 = 0 ∨ isdg (t (q + ndig t q 4)) then .inl (q + ndig t q 4) else .inr (q + ndig t q 4, [nval t q 0 4]) := by
  unfold gAtm; rw [if_neg h1, if_neg h2]

theorem wd_1573 : Cond.methodLink RX12 169 yX12_isAmong ∈ TBL := tb_tab (List.mem_of_getElem? (i := 1573) (by decide +kernel)) rfl
theorem wd_1575 : Cond.code yX12_isAmong cX12_isAmong 3 (some .boolean) ∈ TBL := tb_tab (List.mem_of_getElem? (i := 1575) (by decide +kernel)) rfl
theorem lk_X12_169 : amLk RX12 169 yX12_isAmong cX12_isAmong 3 (some .boolean) 2 := ⟨wd_1573, wd_12, wd_1575, by decide +kernel, by decide +kernel, by decide⟩
theorem wd_1574 : Cond.static yX12_isAmong ∈ TBL := tb_tab (List.mem_of_getElem? (i := 1574) (by decide +kernel)) rfl
theorem wd_1309 : Cond.fieldLink RX12 20 "ArmchairHouseModel" "letters" "[I" ∈ TBL := tb_tab (List.mem_of_getElem? (i := 1309) (by decide +kernel)) rfl
theorem fl_X12_20 : amFl RX12 12 4 20 RX12 TX12 57 := ⟨rfl, inT_12, by decide, wd_1309⟩
theorem wd_1604 : Cond.methodLink RX12 173 yX12_goesIn ∈ TBL := tb_tab (List.mem_of_getElem? (i := 1604) (by decide +kernel)) rfl
theorem wd_1607 : Cond.code yX12_goesIn cX12_goesIn 1 (some .boolean) ∈ TBL := tb_tab (List.mem_of_getElem? (i := 1607) (by decide +kernel)) rfl
theorem lk_X12_173 : amLk RX12 173 yX12_goesIn cX12_goesIn 1 (some .boolean) 0 := ⟨wd_1604, wd_12, wd_1607, by decide +kernel, by decide +kernel, by decide⟩
theorem wd_1606 : Cond.instanceMethod yX12_goesIn ∈ TBL := tb_tab (List.mem_of_getElem? (i := 1606) (by decide +kernel)) rfl
theorem sl_X12_goesIn : Cond.selects RX12 yX12_goesIn yX12_goesIn ∈ TBL := tb_sel (List.mem_of_getElem? (i := 67) (by decide +kernel)) rfl
theorem wd_1592 : Cond.methodLink RX12 176 yX12_sum ∈ TBL := tb_tab (List.mem_of_getElem? (i := 1592) (by decide +kernel)) rfl
theorem wd_1595 : Cond.code yX12_sum cX12_sum 5 (some .int) ∈ TBL := tb_tab (List.mem_of_getElem? (i := 1595) (by decide +kernel)) rfl
theorem lk_X12_176 : amLk RX12 176 yX12_sum cX12_sum 5 (some .int) 0 := ⟨wd_1592, wd_12, wd_1595, by decide +kernel, by decide +kernel, by decide⟩
theorem wd_1594 : Cond.instanceMethod yX12_sum ∈ TBL := tb_tab (List.mem_of_getElem? (i := 1594) (by decide +kernel)) rfl
theorem sl_X12_sum : Cond.selects RX12 yX12_sum yX12_sum ∈ TBL := tb_sel (List.mem_of_getElem? (i := 64) (by decide +kernel)) rfl
theorem wd_1576 : Cond.methodLink RX12 179 yX12_takes ∈ TBL := tb_tab (List.mem_of_getElem? (i := 1576) (by decide +kernel)) rfl
theorem wd_1579 : Cond.code yX12_takes cX12_takes 2 (some .boolean) ∈ TBL := tb_tab (List.mem_of_getElem? (i := 1579) (by decide +kernel)) rfl
theorem lk_X12_179 : amLk RX12 179 yX12_takes cX12_takes 2 (some .boolean) 1 := ⟨wd_1576, wd_12, wd_1579, by decide +kernel, by decide +kernel, by decide⟩
theorem wd_1578 : Cond.instanceMethod yX12_takes ∈ TBL := tb_tab (List.mem_of_getElem? (i := 1578) (by decide +kernel)) rfl
theorem sl_X12_takes : Cond.selects RX12 yX12_takes yX12_takes ∈ TBL := tb_sel (List.mem_of_getElem? (i := 60) (by decide +kernel)) rfl
theorem wd_1550 : Cond.methodLink RX12 183 yX12_isDigit ∈ TBL := tb_tab (List.mem_of_getElem? (i := 1550) (by decide +kernel)) rfl
theorem wd_1553 : Cond.code yX12_isDigit cX12_isDigit 1 (some .boolean) ∈ TBL := tb_tab (List.mem_of_getElem? (i := 1553) (by decide +kernel)) rfl
theorem lk_X12_183 : amLk RX12 183 yX12_isDigit cX12_isDigit 1 (some .boolean) 0 := ⟨wd_1550, wd_12, wd_1553, by decide +kernel, by decide +kernel, by decide⟩
theorem wd_1552 : Cond.instanceMethod yX12_isDigit ∈ TBL := tb_tab (List.mem_of_getElem? (i := 1552) (by decide +kernel)) rfl
theorem sl_X12_isDigit : Cond.selects RX12 yX12_isDigit yX12_isDigit ∈ TBL := tb_sel (List.mem_of_getElem? (i := 55) (by decide +kernel)) rfl
def a_X12_atom (r : Nat) : AC := [(0, vAload 0 1), (1, vCallM w_X12_look 28 0 4), (4, vIstore 1 5), (5, vLdcS 20005 7), (7, vIload 1 8), (8, vCallS w_X12_isAmong 2 11), (11, vIfEq 31 14), (14, vAload 0 15), (15, vDup 16), (16, vGetI 28 10 19), (19, vI 1 20), (20, vIadd 21), (21, vPutI 28 10 24), (24, vAload 0 25), (25, vGetR TT 28 4 8 28), (28, vIload 1 29), (29, vIald TT 30), (30, vIret), (31, vIload 1 32), (32, vI 91 34), (34, vIcNe 74 37), (37, vAload 0 38), (38, vCallM w_X12_goesIn 28 0 41), (41, vIfNe 46 44), (44, vI 0 45), (45, vIret), (46, vAload 0 47), (47, vCallM (wS r) 28 0 50), (50, vIstore 2 51), (51, vAload 0 52), (52, vI 93 54), (54, vCallM w_X12_takes 28 1 57), (57, vIfNe 62 60), (60, vI 0 61), (61, vIret), (62, vAload 0 63), (63, vDup 64), (64, vGetI 28 12 67), (67, vI 1 68), (68, vIsub 69), (69, vPutI 28 12 72), (72, vIload 2 73), (73, vIret), (74, vAload 0 75), (75, vCallM w_X12_isDigit 28 0 78), (78, vIfNe 86 81), (81, vAload 0 82), (82, vCallM w_X12_fails 28 0 85), (85, vPop 86), (86, vI 0 87), (87, vIstore 2 88), (88, vI 0 89), (89, vIstore 3 90), (90, vAload 0 91), (91, vCallM w_X12_isDigit 28 0 94), (94, vIfEq 156 97), (97, vAload 0 98), (98, vGetI 28 11 101), (101, vI (-1) 102), (102, vIcNe 156 105), (105, vIload 3 106), (106, vI 4 107), (107, vIcNe 117 110), (110, vAload 0 111), (111, vCallM w_X12_fails 28 0 114), (114, vPop 115), (115, vI 0 116), (116, vIret), (117, vI 10 119), (119, vIload 2 120), (120, vImul 121), (121, vAload 0 122), (122, vGetR TT 28 5 10 125), (125, vAload 0 126), (126, vGetI 28 8 129), (129, vAload 0 130), (130, vGetI 28 10 133), (133, vIadd 134), (134, vBald TT 135), (135, vIadd 136), (136, vI 48 138), (138, vIsub 139), (139, vIstore 2 140), (140, vAload 0 141), (141, vDup 142), (142, vGetI 28 10 145), (145, vI 1 146), (146, vIadd 147), (147, vPutI 28 10 150), (150, vIinc 3 1 153), (153, vGoto 90), (156, vIload 2 157), (157, vIret)]
theorem k_X12_atom_0 (r : Nat) : look (a_X12_atom r) 0 = vAload 0 1 := rfl
theorem k_X12_atom_1 (r : Nat) : look (a_X12_atom r) 1 = vCallM w_X12_look 28 0 4 := rfl
theorem k_X12_atom_4 (r : Nat) : look (a_X12_atom r) 4 = vIstore 1 5 := rfl
theorem k_X12_atom_5 (r : Nat) : look (a_X12_atom r) 5 = vLdcS 20005 7 := rfl
theorem k_X12_atom_7 (r : Nat) : look (a_X12_atom r) 7 = vIload 1 8 := rfl
theorem k_X12_atom_8 (r : Nat) : look (a_X12_atom r) 8 = vCallS w_X12_isAmong 2 11 := rfl
theorem k_X12_atom_11 (r : Nat) : look (a_X12_atom r) 11 = vIfEq 31 14 := rfl
theorem k_X12_atom_14 (r : Nat) : look (a_X12_atom r) 14 = vAload 0 15 := rfl
theorem k_X12_atom_15 (r : Nat) : look (a_X12_atom r) 15 = vDup 16 := rfl
theorem k_X12_atom_16 (r : Nat) : look (a_X12_atom r) 16 = vGetI 28 10 19 := rfl
theorem k_X12_atom_19 (r : Nat) : look (a_X12_atom r) 19 = vI 1 20 := rfl
theorem k_X12_atom_20 (r : Nat) : look (a_X12_atom r) 20 = vIadd 21 := rfl
theorem k_X12_atom_21 (r : Nat) : look (a_X12_atom r) 21 = vPutI 28 10 24 := rfl
theorem k_X12_atom_24 (r : Nat) : look (a_X12_atom r) 24 = vAload 0 25 := rfl
theorem k_X12_atom_25 (r : Nat) : look (a_X12_atom r) 25 = vGetR TT 28 4 8 28 := rfl
theorem k_X12_atom_28 (r : Nat) : look (a_X12_atom r) 28 = vIload 1 29 := rfl
theorem k_X12_atom_29 (r : Nat) : look (a_X12_atom r) 29 = vIald TT 30 := rfl
theorem k_X12_atom_30 (r : Nat) : look (a_X12_atom r) 30 = vIret := rfl
theorem k_X12_atom_31 (r : Nat) : look (a_X12_atom r) 31 = vIload 1 32 := rfl
theorem k_X12_atom_32 (r : Nat) : look (a_X12_atom r) 32 = vI 91 34 := rfl
theorem k_X12_atom_34 (r : Nat) : look (a_X12_atom r) 34 = vIcNe 74 37 := rfl
theorem k_X12_atom_37 (r : Nat) : look (a_X12_atom r) 37 = vAload 0 38 := rfl
theorem k_X12_atom_38 (r : Nat) : look (a_X12_atom r) 38 = vCallM w_X12_goesIn 28 0 41 := rfl
theorem k_X12_atom_41 (r : Nat) : look (a_X12_atom r) 41 = vIfNe 46 44 := rfl
theorem k_X12_atom_44 (r : Nat) : look (a_X12_atom r) 44 = vI 0 45 := rfl
theorem k_X12_atom_45 (r : Nat) : look (a_X12_atom r) 45 = vIret := rfl
theorem k_X12_atom_46 (r : Nat) : look (a_X12_atom r) 46 = vAload 0 47 := rfl
theorem k_X12_atom_47 (r : Nat) : look (a_X12_atom r) 47 = vCallM (wS r) 28 0 50 := rfl
theorem k_X12_atom_50 (r : Nat) : look (a_X12_atom r) 50 = vIstore 2 51 := rfl
theorem k_X12_atom_51 (r : Nat) : look (a_X12_atom r) 51 = vAload 0 52 := rfl
theorem k_X12_atom_52 (r : Nat) : look (a_X12_atom r) 52 = vI 93 54 := rfl
theorem k_X12_atom_54 (r : Nat) : look (a_X12_atom r) 54 = vCallM w_X12_takes 28 1 57 := rfl
theorem k_X12_atom_57 (r : Nat) : look (a_X12_atom r) 57 = vIfNe 62 60 := rfl
theorem k_X12_atom_60 (r : Nat) : look (a_X12_atom r) 60 = vI 0 61 := rfl
theorem k_X12_atom_61 (r : Nat) : look (a_X12_atom r) 61 = vIret := rfl
theorem k_X12_atom_62 (r : Nat) : look (a_X12_atom r) 62 = vAload 0 63 := rfl
theorem k_X12_atom_63 (r : Nat) : look (a_X12_atom r) 63 = vDup 64 := rfl
theorem k_X12_atom_64 (r : Nat) : look (a_X12_atom r) 64 = vGetI 28 12 67 := rfl
theorem k_X12_atom_67 (r : Nat) : look (a_X12_atom r) 67 = vI 1 68 := rfl
theorem k_X12_atom_68 (r : Nat) : look (a_X12_atom r) 68 = vIsub 69 := rfl
theorem k_X12_atom_69 (r : Nat) : look (a_X12_atom r) 69 = vPutI 28 12 72 := rfl
theorem k_X12_atom_72 (r : Nat) : look (a_X12_atom r) 72 = vIload 2 73 := rfl
theorem k_X12_atom_73 (r : Nat) : look (a_X12_atom r) 73 = vIret := rfl
theorem k_X12_atom_74 (r : Nat) : look (a_X12_atom r) 74 = vAload 0 75 := rfl
theorem k_X12_atom_75 (r : Nat) : look (a_X12_atom r) 75 = vCallM w_X12_isDigit 28 0 78 := rfl
theorem k_X12_atom_78 (r : Nat) : look (a_X12_atom r) 78 = vIfNe 86 81 := rfl
theorem k_X12_atom_81 (r : Nat) : look (a_X12_atom r) 81 = vAload 0 82 := rfl
theorem k_X12_atom_82 (r : Nat) : look (a_X12_atom r) 82 = vCallM w_X12_fails 28 0 85 := rfl
theorem k_X12_atom_85 (r : Nat) : look (a_X12_atom r) 85 = vPop 86 := rfl
theorem k_X12_atom_86 (r : Nat) : look (a_X12_atom r) 86 = vI 0 87 := rfl
theorem k_X12_atom_87 (r : Nat) : look (a_X12_atom r) 87 = vIstore 2 88 := rfl
theorem k_X12_atom_88 (r : Nat) : look (a_X12_atom r) 88 = vI 0 89 := rfl
theorem k_X12_atom_89 (r : Nat) : look (a_X12_atom r) 89 = vIstore 3 90 := rfl
theorem k_X12_atom_90 (r : Nat) : look (a_X12_atom r) 90 = vAload 0 91 := rfl
theorem k_X12_atom_91 (r : Nat) : look (a_X12_atom r) 91 = vCallM w_X12_isDigit 28 0 94 := rfl
theorem k_X12_atom_94 (r : Nat) : look (a_X12_atom r) 94 = vIfEq 156 97 := rfl
theorem k_X12_atom_97 (r : Nat) : look (a_X12_atom r) 97 = vAload 0 98 := rfl
theorem k_X12_atom_98 (r : Nat) : look (a_X12_atom r) 98 = vGetI 28 11 101 := rfl
theorem k_X12_atom_101 (r : Nat) : look (a_X12_atom r) 101 = vI (-1) 102 := rfl
theorem k_X12_atom_102 (r : Nat) : look (a_X12_atom r) 102 = vIcNe 156 105 := rfl
theorem k_X12_atom_105 (r : Nat) : look (a_X12_atom r) 105 = vIload 3 106 := rfl
theorem k_X12_atom_106 (r : Nat) : look (a_X12_atom r) 106 = vI 4 107 := rfl
theorem k_X12_atom_107 (r : Nat) : look (a_X12_atom r) 107 = vIcNe 117 110 := rfl
theorem k_X12_atom_110 (r : Nat) : look (a_X12_atom r) 110 = vAload 0 111 := rfl
theorem k_X12_atom_111 (r : Nat) : look (a_X12_atom r) 111 = vCallM w_X12_fails 28 0 114 := rfl
theorem k_X12_atom_114 (r : Nat) : look (a_X12_atom r) 114 = vPop 115 := rfl
theorem k_X12_atom_115 (r : Nat) : look (a_X12_atom r) 115 = vI 0 116 := rfl
theorem k_X12_atom_116 (r : Nat) : look (a_X12_atom r) 116 = vIret := rfl
theorem k_X12_atom_117 (r : Nat) : look (a_X12_atom r) 117 = vI 10 119 := rfl
theorem k_X12_atom_119 (r : Nat) : look (a_X12_atom r) 119 = vIload 2 120 := rfl
theorem k_X12_atom_120 (r : Nat) : look (a_X12_atom r) 120 = vImul 121 := rfl
theorem k_X12_atom_121 (r : Nat) : look (a_X12_atom r) 121 = vAload 0 122 := rfl
theorem k_X12_atom_122 (r : Nat) : look (a_X12_atom r) 122 = vGetR TT 28 5 10 125 := rfl
theorem k_X12_atom_125 (r : Nat) : look (a_X12_atom r) 125 = vAload 0 126 := rfl
theorem k_X12_atom_126 (r : Nat) : look (a_X12_atom r) 126 = vGetI 28 8 129 := rfl
theorem k_X12_atom_129 (r : Nat) : look (a_X12_atom r) 129 = vAload 0 130 := rfl
theorem k_X12_atom_130 (r : Nat) : look (a_X12_atom r) 130 = vGetI 28 10 133 := rfl
theorem k_X12_atom_133 (r : Nat) : look (a_X12_atom r) 133 = vIadd 134 := rfl
theorem k_X12_atom_134 (r : Nat) : look (a_X12_atom r) 134 = vBald TT 135 := rfl
theorem k_X12_atom_135 (r : Nat) : look (a_X12_atom r) 135 = vIadd 136 := rfl
theorem k_X12_atom_136 (r : Nat) : look (a_X12_atom r) 136 = vI 48 138 := rfl
theorem k_X12_atom_138 (r : Nat) : look (a_X12_atom r) 138 = vIsub 139 := rfl
theorem k_X12_atom_139 (r : Nat) : look (a_X12_atom r) 139 = vIstore 2 140 := rfl
theorem k_X12_atom_140 (r : Nat) : look (a_X12_atom r) 140 = vAload 0 141 := rfl
theorem k_X12_atom_141 (r : Nat) : look (a_X12_atom r) 141 = vDup 142 := rfl
theorem k_X12_atom_142 (r : Nat) : look (a_X12_atom r) 142 = vGetI 28 10 145 := rfl
theorem k_X12_atom_145 (r : Nat) : look (a_X12_atom r) 145 = vI 1 146 := rfl
theorem k_X12_atom_146 (r : Nat) : look (a_X12_atom r) 146 = vIadd 147 := rfl
theorem k_X12_atom_147 (r : Nat) : look (a_X12_atom r) 147 = vPutI 28 10 150 := rfl
theorem k_X12_atom_150 (r : Nat) : look (a_X12_atom r) 150 = vIinc 3 1 153 := rfl
theorem k_X12_atom_153 (r : Nat) : look (a_X12_atom r) 153 = vGoto 90 := rfl
theorem k_X12_atom_156 (r : Nat) : look (a_X12_atom r) 156 = vIload 2 157 := rfl
theorem k_X12_atom_157 (r : Nat) : look (a_X12_atom r) 157 = vIret := rfl
theorem o_X12_atom {X : amX} (r : Nat) (hS : SumS r) (e1 : XT X = TT) (e2 : XD X = 10 + 3 * r) (hB : amB X RX12 cX12_atom (some .int) 4) : ∀ pc, amOK X pc (look (a_X12_atom r) pc) := by
  have hT : amTok (XT X) := e1 ▸ TT_ok
  refine look_ok ?_
  unfold a_X12_atom
  refine fc (ok_aload_n hB dX12_atom_0) ?_
  refine fc (ok_callM hB hT (e1 ▸ s_X12_look) lk_X12_153 (by rw [e2]; omega) (c := 12) rfl rfl rfl wd_1521 sl_X12_look dX12_atom_1) ?_
  refine fc (ok_istore_n hB (by decide) dX12_atom_4) ?_
  refine fc (ok_ldcS hB (k := 5) rfl rfl rfl rfl dX12_atom_5) ?_
  refine fc (ok_iload_n hB dX12_atom_7) ?_
  refine fc (ok_callS hB (e1 ▸ s_X12_isAmong) lk_X12_169 (by rw [e2]; omega) wd_1574 dX12_atom_8) ?_
  refine fc (ok_if_eq hB (t := 31) (by decide) dX12_atom_11) ?_
  refine fc (ok_aload_n hB dX12_atom_14) ?_
  refine fc (ok_dup hB dX12_atom_15) ?_
  refine fc (ok_getI hB hT fl_X12_134 rfl rfl (Or.inl af_12_10) dX12_atom_16) ?_
  refine fc (ok_iconst hB dX12_atom_19) ?_
  refine fc (ok_iadd hB dX12_atom_20) ?_
  refine fc (ok_putI hB hT fp_X12_134 rfl rfl rfl af_12_10 dX12_atom_21) ?_
  refine fc (ok_aload_n hB dX12_atom_24) ?_
  refine fc (okt_getR e1 hB hT fl_X12_20 rfl af_12_4 at_12_4 (by decide) dX12_atom_25) ?_
  refine fc (ok_iload_n hB dX12_atom_28) ?_
  refine fc (okt_iaload e1 hB dX12_atom_29) ?_
  refine fc (ok_iret hB dX12_atom_30) ?_
  refine fc (ok_iload_n hB dX12_atom_31) ?_
  refine fc (ok_bipush hB dX12_atom_32 (by decide)) ?_
  refine fc (ok_icmp_ne hB (t := 74) (by decide) dX12_atom_34) ?_
  refine fc (ok_aload_n hB dX12_atom_37) ?_
  refine fc (ok_callM hB hT (e1 ▸ s_X12_goesIn) lk_X12_173 (by rw [e2]; omega) (c := 12) rfl rfl rfl wd_1606 sl_X12_goesIn dX12_atom_38) ?_
  refine fc (ok_if_ne hB (t := 46) (by decide) dX12_atom_41) ?_
  refine fc (ok_iconst hB dX12_atom_44) ?_
  refine fc (ok_iret hB dX12_atom_45) ?_
  refine fc (ok_aload_n hB dX12_atom_46) ?_
  refine fc (ok_callM hB hT (fun av9 σ9 Q9 h9 => e1 ▸ hS av9 σ9 Q9 h9) lk_X12_176 (by rw [e2]; omega) (c := 12) rfl rfl rfl wd_1594 sl_X12_sum dX12_atom_47) ?_
  refine fc (ok_istore_n hB (by decide) dX12_atom_50) ?_
  refine fc (ok_aload_n hB dX12_atom_51) ?_
  refine fc (ok_bipush hB dX12_atom_52 (by decide)) ?_
  refine fc (ok_callM hB hT (e1 ▸ s_X12_takes) lk_X12_179 (by rw [e2]; omega) (c := 12) rfl rfl rfl wd_1578 sl_X12_takes dX12_atom_54) ?_
  refine fc (ok_if_ne hB (t := 62) (by decide) dX12_atom_57) ?_
  refine fc (ok_iconst hB dX12_atom_60) ?_
  refine fc (ok_iret hB dX12_atom_61) ?_
  refine fc (ok_aload_n hB dX12_atom_62) ?_
  refine fc (ok_dup hB dX12_atom_63) ?_
  refine fc (ok_getI hB hT fl_X12_146 rfl rfl (Or.inl af_12_12) dX12_atom_64) ?_
  refine fc (ok_iconst hB dX12_atom_67) ?_
  refine fc (ok_isub hB dX12_atom_68) ?_
  refine fc (ok_putI hB hT fp_X12_146 rfl rfl rfl af_12_12 dX12_atom_69) ?_
  refine fc (ok_iload_n hB dX12_atom_72) ?_
  refine fc (ok_iret hB dX12_atom_73) ?_
  refine fc (ok_aload_n hB dX12_atom_74) ?_
  refine fc (ok_callM hB hT (e1 ▸ s_X12_isDigit) lk_X12_183 (by rw [e2]; omega) (c := 12) rfl rfl rfl wd_1552 sl_X12_isDigit dX12_atom_75) ?_
  refine fc (ok_if_ne hB (t := 86) (by decide) dX12_atom_78) ?_
  refine fc (ok_aload_n hB dX12_atom_81) ?_
  refine fc (ok_callM hB hT (e1 ▸ s_X12_fails) lk_X12_149 (by rw [e2]; omega) (c := 12) rfl rfl rfl wd_1525 sl_X12_fails dX12_atom_82) ?_
  refine fc (ok_pop hB dX12_atom_85) ?_
  refine fc (ok_iconst hB dX12_atom_86) ?_
  refine fc (ok_istore_n hB (by decide) dX12_atom_87) ?_
  refine fc (ok_iconst hB dX12_atom_88) ?_
  refine fc (ok_istore_n hB (by decide) dX12_atom_89) ?_
  refine fc (ok_aload_n hB dX12_atom_90) ?_
  refine fc (ok_callM hB hT (e1 ▸ s_X12_isDigit) lk_X12_183 (by rw [e2]; omega) (c := 12) rfl rfl rfl wd_1552 sl_X12_isDigit dX12_atom_91) ?_
  refine fc (ok_if_eq hB (t := 156) (by decide) dX12_atom_94) ?_
  refine fc (ok_aload_n hB dX12_atom_97) ?_
  refine fc (ok_getI hB hT fl_X12_143 rfl rfl (Or.inl af_12_11) dX12_atom_98) ?_
  refine fc (ok_iconst hB dX12_atom_101) ?_
  refine fc (ok_icmp_ne hB (t := 156) (by decide) dX12_atom_102) ?_
  refine fc (ok_iload_n hB dX12_atom_105) ?_
  refine fc (ok_iconst hB dX12_atom_106) ?_
  refine fc (ok_icmp_ne hB (t := 117) (by decide) dX12_atom_107) ?_
  refine fc (ok_aload_n hB dX12_atom_110) ?_
  refine fc (ok_callM hB hT (e1 ▸ s_X12_fails) lk_X12_149 (by rw [e2]; omega) (c := 12) rfl rfl rfl wd_1525 sl_X12_fails dX12_atom_111) ?_
  refine fc (ok_pop hB dX12_atom_114) ?_
  refine fc (ok_iconst hB dX12_atom_115) ?_
  refine fc (ok_iret hB dX12_atom_116) ?_
  refine fc (ok_bipush hB dX12_atom_117 (by decide)) ?_
  refine fc (ok_iload_n hB dX12_atom_119) ?_
  refine fc (ok_imul hB dX12_atom_120) ?_
  refine fc (ok_aload_n hB dX12_atom_121) ?_
  refine fc (okt_getR e1 hB hT fl_X12_23 rfl af_12_5 at_12_5 (by decide) dX12_atom_122) ?_
  refine fc (ok_aload_n hB dX12_atom_125) ?_
  refine fc (ok_getI hB hT fl_X12_140 rfl rfl (Or.inl af_12_8) dX12_atom_126) ?_
  refine fc (ok_aload_n hB dX12_atom_129) ?_
  refine fc (ok_getI hB hT fl_X12_134 rfl rfl (Or.inl af_12_10) dX12_atom_130) ?_
  refine fc (ok_iadd hB dX12_atom_133) ?_
  refine fc (okt_baload e1 hB dX12_atom_134) ?_
  refine fc (ok_iadd hB dX12_atom_135) ?_
  refine fc (ok_bipush hB dX12_atom_136 (by decide)) ?_
  refine fc (ok_isub hB dX12_atom_138) ?_
  refine fc (ok_istore_n hB (by decide) dX12_atom_139) ?_
  refine fc (ok_aload_n hB dX12_atom_140) ?_
  refine fc (ok_dup hB dX12_atom_141) ?_
  refine fc (ok_getI hB hT fl_X12_134 rfl rfl (Or.inl af_12_10) dX12_atom_142) ?_
  refine fc (ok_iconst hB dX12_atom_145) ?_
  refine fc (ok_iadd hB dX12_atom_146) ?_
  refine fc (ok_putI hB hT fp_X12_134 rfl rfl rfl af_12_10 dX12_atom_147) ?_
  refine fc (ok_iinc hB (by decide) dX12_atom_150) ?_
  refine fc (ok_goto hB (t := 90) (by decide) dX12_atom_153) ?_
  refine fc (ok_iload_n hB dX12_atom_156) ?_
  refine fc (ok_iret hB dX12_atom_157) ?_
  exact fn
def inv_atom (m : Mem) (q c : Int) (r n pc : Nat) (ls st : List AV) (σ' : Mem) : Prop := pc = 90 ∧ st = [] ∧ ¬ 0 ≤ lix (mtx m q) ∧ mtx m q ≠ 91 ∧ ((ndig (mtx m) q 4 = 0 ∧ ls = [(28, 5000), (0, c), (0, 0), (0, 0)] ∧ σ' = rdM m q q (6 - r)) ∨
  (∃ (k : Nat) (a : Int), k + n = 4 ∧ ls = [(28, 5000), (0, c), (0, a), (0, (k : Int))] ∧ σ' = rdM m (q + k) (-1) (6 - r) ∧ q + k ≤ m 5000 9 ∧ 1 ≤ ndig (mtx m) q 4 ∧ ndig (mtx m) q 4 = k + ndig (mtx m) (q + k) n ∧ nval (mtx m) q 0 4 = nval (mtx m) (q + k) a n ∧ 0 ≤ a ∧ a ≤ 9999 ∧ (k ≤ 3 → a ≤ 999) ∧ (k ≤ 2 → a ≤ 99) ∧ (k ≤ 1 → a ≤ 9) ∧ (k = 0 → a = 0)))
def w_X12_atom (r : Nat) : WP := fun av σ Q => av = [(28, 5000)] ∧ (rdOk σ r ∧ (∀ f v p d, gAt (mtx σ) (σ 5000 9) (gIn (mtx σ) (σ 5000 9) r) (σ 5000 10) = .inl f → InR v → 6 - (r : Int) ≤ d → d ≤ 6 → Q (0, v) (rdM σ p f d)) ∧ (∀ y, gAt (mtx σ) (σ 5000 9) (gIn (mtx σ) (σ 5000 9) r) (σ 5000 10) = .inr y → Q (0, val (mL σ) y.2) (rdM σ y.1 (-1) (6 - r))))
theorem w_X12_atom_e (r : Nat)  (σ : Mem) (Q : AV → Mem → Prop) : w_X12_atom r [(28, 5000)] σ Q = (rdOk σ r ∧ (∀ f v p d, gAt (mtx σ) (σ 5000 9) (gIn (mtx σ) (σ 5000 9) r) (σ 5000 10) = .inl f → InR v → 6 - (r : Int) ≤ d → d ≤ 6 → Q (0, v) (rdM σ p f d)) ∧ (∀ y, gAt (mtx σ) (σ 5000 9) (gIn (mtx σ) (σ 5000 9) r) (σ 5000 10) = .inr y → Q (0, val (mL σ) y.2) (rdM σ y.1 (-1) (6 - r)))) := by
  apply propext; constructor
  · rintro ⟨h9, hb9⟩; cases h9; exact hb9
  · intro hb9; exact ⟨rfl, hb9⟩

set_option maxRecDepth 100000 in
set_option maxHeartbeats 4000000 in
theorem s_X12_atom (r : Nat) (hS : SumS r) : ∀ av σ Q, w_X12_atom r av σ Q → amCall (10 + 3 * r) 0 0 TT yX12_atom cX12_atom 4 (some .int) av σ Q := by
  rintro av σ Q ⟨rfl, hok, hq1, hq2⟩
  obtain ⟨m, p, rfl⟩ := rdOk_m hok
  obtain ⟨ht, hL, -, p0, p1, -, hr⟩ := rdOk_dr hok
  have mt : ∀ p f d, mtx (rdM m p f d) = mtx m := mtx_rd ht
  have mk : ∀ p f d, msk (rdM m p f d) = sk (mtx m) (m 5000 9) p := fun p f d => by unfold msk; rw [mt, rd_9, rd_10]
  simp only [mt, rd_9, rd_10, mL_rd, rd_rd] at hq1 hq2
  obtain ⟨t0, t1, A, hA, a0, a1, a2⟩ := tx_T ht
  have n1 := ht.2.1
  have t00 : 0 ≤ m 5000 5 := by omega
  have rT : ∀ p f d, rdM m p f d (m 5000 5) = m (m 5000 5) := fun p f d => rd_r m p f d (by omega)
  have r4 : ∀ p f d, rdM m p f d 5004 = m 5004 := fun p f d => rd_r m p f d (by decide)
  have hsb := sk_b (mtx m) p1
  have tb := mtx_b ht (sk (mtx m) (m 5000 9) p)
  have tO : ∀ p f d, txOk (rdM m p f d) := fun p f d => txOk_rd ht p f d
  have hG : gAt (mtx m) (m 5000 9) (gIn (mtx m) (m 5000 9) r) p = gAtm (mtx m) (m 5000 9) (gIn (mtx m) (m 5000 9) r) (sk (mtx m) (m 5000 9) p) := rfl
  rw [hG] at hq1 hq2
  generalize hq : sk (mtx m) (m 5000 9) p = q at *
  refine am_m [90] (inv_atom m q (mtx m q) r) (own := RX12) (A := look (a_X12_atom r)) (fun X e1 e2 hB => o_X12_atom r hS e1 e2 hB) rfl (by decide +kernel) rfl rfl ?_ ⟨120, ?_⟩ (w := 4)
  · rintro n pc ls st σ' ⟨rfl, rfl, g1, g2, ⟨hn, rfl, rfl⟩ | ⟨k, a, hk, rfl, rfl, hqn, hd1, hnd, hnv, b0, b1, b2, b3, b4, b5⟩⟩
    · have nd : ¬ (48 ≤ mtx m q ∧ mtx m q ≤ 57) := by
        intro c; rw [show (4 : Nat) = 3 + 1 from rfl, ndig_s, if_pos c] at hn
        have := ndig_bd (mtx m) 3 (q + 1); omega
      have h0 := hq1 q 0 q (6 - r) (by rw [gAtm_d g1 g2, if_pos (Or.inl hn), hn, Int.add_zero]) ⟨by decide, by decide⟩ (by omega) (by omega)
      refine ⟨120, ?_⟩
      simp only [↓reduceIte, inR_0, inR_1, inR_m, vSw2_e, swP_n, swP_c, vI_e, vL_e, vNull_e, vIload_e, vLload_e, vAload_e, vIstore_e, vLstore_e, vAstore_e, vIinc_e, vIadd_e, vIsub_e, vImul_e, vIand_e, vIor_e, vIxor_e, vIshl_e, vIshr_e, vIushr_e, vIdiv_e, vIrem_e, vLadd_e, vLsub_e, vLmul_e, vLand_e, vLor_e, vLxor_e, vLdiv_e, vLrem_e, vLushr_e, vLshl_e, vLcmp_e, vIneg_e, vI2l_e, vL2i_e, vI2b_e, vI2c_e, vDup_e, vPop_e, vDup2_e, vGoto_e, vIcEq_e, vIfEq_e, vIcNe_e, vIfNe_e, vIcLt_e, vIfLt_e, vIcGe_e, vIfGe_e, vIcGt_e, vIfGt_e, vIcLe_e, vIfLe_e, vNonnull_e, vSw_e, vGetI_e, vGetL_e, vGetR_e, vPutI_e, vPutZ_e, vPutL_e, vPutR_e, vIald_e, vIald_s, vLald_e, vBald_e, vBald_s, vAald_e, vIast_e, vLast_e, vBast_e, vAast_e, vAlen_e8, vAlen_e9, vAlen_e10, vAlen_e11, vAlen_e5, vAlen_e3, vGets_e, vCompact_e, vLdcS_e, vIret_e, vZret_e, vCret_e, vBret_e, vLret_e, vVret_e, vAret_e, vCallM_e0, vCallMV_e0, vCallS_e0, vCallSV_e0, vCallM_e1, vCallMV_e1, vCallS_e1, vCallSV_e1, vCallM_e2, vCallMV_e2, vCallS_e2, vCallSV_e2, vCallM_e3, vCallMV_e3, vCallS_e3, vCallSV_e3, vCallM_e4, vCallMV_e4, vCallS_e4, vCallSV_e4, vCallM_e5, vCallMV_e5, vCallS_e5, vCallSV_e5, vCallM_e6, vCallMV_e6, vCallS_e6, vCallSV_e6, vCallM_e7, vCallMV_e7, vCallS_e7, vCallSV_e7, vBad_e, vStrVal_e, vStrCod_e, vForm_e, vCallT_e0, vCallT_e1, vCallT_e2, vCopy_e, rf_0_0, rf_0_1, rf_0_2, rf_0_3, rf_0_4, rf_0_7, rf_0_10, rf_0_11, rf_0_12, rf_0_13, rf_0_14, rf_0_15, rf_0_16, rf_1_0, rf_3_0, rf_3_1, rf_6_0, rf_6_1, rf_9_0, rf_9_1, rf_9_3, rf_13_0, rf_13_1, rf_13_2, rf_16_0, rf_16_1, rf_16_2, rf_16_3, rf_21_0, rf_21_1, rf_21_2, rf_21_3, rf_26_0, rf_26_1, rf_26_2, rf_26_3, rf_26_4, rf_26_5, rf_26_6, rf_31_0, rf_31_2, rf_31_5, rf_31_6, rf_36_0, rf_36_1, rf_36_2, rf_36_3, rf_39_0, rf_39_1, rf_39_2, rf_41_0, rf_41_1, rf_41_2, rf_41_3, rf_5000_1, rf_5000_2, rf_5000_3, rf_5000_4, rf_5000_5, rf_5000_15, rf_5000_16, rf_5000_18, rf_5000_19, rf_5000_20, rf_5000_21, rf_5000_22, rf_5000_23, rf_5000_24, rf_5000_25, rf_5000_26, rf_5000_27, rf_5000_36, rf_5000_37, rf_5000_40, rf_5000_41, rf_5000_42, rf_5000_43, rf_5000_44, rf_5000_45, rf_5000_47, rf_5000_52, rf_5000_54, rf_5000_55, rf_100_0, rf_100_1, rf_103_0, rf_103_1, rf_106_0, rf_106_1, rf_109_0, rf_109_1, al_2, al_4, al_5, al_7, al_8, al_10, al_11, al_12, al_14, al_15, al_17, al_18, al_19, al_20, al_22, al_23, al_24, al_25, al_27, al_28, al_29, al_30, al_32, al_33, al_34, al_35, al_37, al_38, al_40, al_42, al_5001, al_5002, al_5003, al_5004, al_5005, al_5006, al_5007, al_5008, al_5009, al_5010, al_5011, al_5012, al_5013, al_5014, al_5015, al_5016, al_5017, al_5018, al_5019, al_5020, al_5021, al_5022, al_5023, al_5024, al_5025, al_5026, al_9000, al_101, al_102, al_104, al_105, al_107, al_108, al_110, al_111, vcs_e, lg_c0, lg_cs, lg_nil, set_c0, set_cs, okst_0, okst_s, acok_n, acok_c, List.contains_nil, List.contains_cons, Bool.or_false, Bool.false_or, Bool.false_eq_true, if_false, if_true, ite_self, ne_eq, true_and, and_true, not_false_eq_true, not_true_eq_false, false_imp_iff, true_imp_iff, Nat.ble_eq, Bool.and_eq_true, reduceCtorEq, or_false, false_or, or_true, true_or, false_and, and_false, and_self, Int.reduceLE, Int.reduceAdd, Int.reduceSub, Int.reduceMul, Int.reduceNeg, Int.reduceLT, Int.reduceEq, Int.reduceNe, Nat.reduceBEq, Nat.reduceBNe, Nat.reduceEqDiff, amCmp_in, amCmp_lt, amCmp_le, amCmp_gt, amCmp_ge, amCmp_eq, amCmp_ne, Nat.reduceLeDiff, Nat.reduceSub, Bool.and_true, Bool.true_and, Bool.and_self, Bool.or_true, Bool.true_or, isRf_3, isRf_4, isRf_5, isRf_8, isRf_9, isRf_10, isRf_11, isRf_15, isRf_16, isRf_17, isRf_18, isRf_19, isRf_20, isRf_21, isRf_22, isRf_23, isRf_24, isRf_25, isRf_26, isRf_27, isRf_28, k_X12_atom_0, k_X12_atom_1, k_X12_atom_4, k_X12_atom_5, k_X12_atom_7, k_X12_atom_8, k_X12_atom_11, k_X12_atom_14, k_X12_atom_15, k_X12_atom_16, k_X12_atom_19, k_X12_atom_20, k_X12_atom_21, k_X12_atom_24, k_X12_atom_25, k_X12_atom_28, k_X12_atom_29, k_X12_atom_30, k_X12_atom_31, k_X12_atom_32, k_X12_atom_34, k_X12_atom_37, k_X12_atom_38, k_X12_atom_41, k_X12_atom_44, k_X12_atom_45, k_X12_atom_46, k_X12_atom_47, k_X12_atom_50, k_X12_atom_51, k_X12_atom_52, k_X12_atom_54, k_X12_atom_57, k_X12_atom_60, k_X12_atom_61, k_X12_atom_62, k_X12_atom_63, k_X12_atom_64, k_X12_atom_67, k_X12_atom_68, k_X12_atom_69, k_X12_atom_72, k_X12_atom_73, k_X12_atom_74, k_X12_atom_75, k_X12_atom_78, k_X12_atom_81, k_X12_atom_82, k_X12_atom_85, k_X12_atom_86, k_X12_atom_87, k_X12_atom_88, k_X12_atom_89, k_X12_atom_90, k_X12_atom_91, k_X12_atom_94, k_X12_atom_97, k_X12_atom_98, k_X12_atom_101, k_X12_atom_102, k_X12_atom_105, k_X12_atom_106, k_X12_atom_107, k_X12_atom_110, k_X12_atom_111, k_X12_atom_114, k_X12_atom_115, k_X12_atom_116, k_X12_atom_117, k_X12_atom_119, k_X12_atom_120, k_X12_atom_121, k_X12_atom_122, k_X12_atom_125, k_X12_atom_126, k_X12_atom_129, k_X12_atom_130, k_X12_atom_133, k_X12_atom_134, k_X12_atom_135, k_X12_atom_136, k_X12_atom_138, k_X12_atom_139, k_X12_atom_140, k_X12_atom_141, k_X12_atom_142, k_X12_atom_145, k_X12_atom_146, k_X12_atom_147, k_X12_atom_150, k_X12_atom_153, k_X12_atom_156, k_X12_atom_157, w_X12_fails_e, w_X12_goesIn_e, w_X12_isAmong_e, w_X12_isDigit_e, w_X12_look_e, w_X12_takes_e, mt, rd_9, rd_10, rd_11, if_neg nd]
      repeat' (first | assumption | exact tO _ _ _ | apply And.intro | intro _)
      all_goals first | omega | exact absurd trivial (by assumption) | exact h0 | exact tO _ _ _
    · rw [gAtm_d g1 g2] at hq1 hq2
      by_cases c : 48 ≤ mtx m (q + k) ∧ mtx m (q + k) ≤ 57
      · have hlt : q + k < m 5000 9 := by
          by_cases h9 : q + k < m 5000 9
          · exact h9
          · have := mtx_n ht (q + k) (by omega); omega
        obtain ⟨e1, e2, e3⟩ := mtx_in ht (i := q + k) (by omega) hlt
        have hraw : m (m 5000 5) (m 5000 8 + (q + k)) = mtx m (q + k) := by omega
        refine ⟨120, ?_⟩
        simp only [↓reduceIte, inR_0, inR_1, inR_m, vSw2_e, swP_n, swP_c, vI_e, vL_e, vNull_e, vIload_e, vLload_e, vAload_e, vIstore_e, vLstore_e, vAstore_e, vIinc_e, vIadd_e, vIsub_e, vImul_e, vIand_e, vIor_e, vIxor_e, vIshl_e, vIshr_e, vIushr_e, vIdiv_e, vIrem_e, vLadd_e, vLsub_e, vLmul_e, vLand_e, vLor_e, vLxor_e, vLdiv_e, vLrem_e, vLushr_e, vLshl_e, vLcmp_e, vIneg_e, vI2l_e, vL2i_e, vI2b_e, vI2c_e, vDup_e, vPop_e, vDup2_e, vGoto_e, vIcEq_e, vIfEq_e, vIcNe_e, vIfNe_e, vIcLt_e, vIfLt_e, vIcGe_e, vIfGe_e, vIcGt_e, vIfGt_e, vIcLe_e, vIfLe_e, vNonnull_e, vSw_e, vGetI_e, vGetL_e, vGetR_e, vPutI_e, vPutZ_e, vPutL_e, vPutR_e, vIald_e, vIald_s, vLald_e, vBald_e, vBald_s, vAald_e, vIast_e, vLast_e, vBast_e, vAast_e, vAlen_e8, vAlen_e9, vAlen_e10, vAlen_e11, vAlen_e5, vAlen_e3, vGets_e, vCompact_e, vLdcS_e, vIret_e, vZret_e, vCret_e, vBret_e, vLret_e, vVret_e, vAret_e, vCallM_e0, vCallMV_e0, vCallS_e0, vCallSV_e0, vCallM_e1, vCallMV_e1, vCallS_e1, vCallSV_e1, vCallM_e2, vCallMV_e2, vCallS_e2, vCallSV_e2, vCallM_e3, vCallMV_e3, vCallS_e3, vCallSV_e3, vCallM_e4, vCallMV_e4, vCallS_e4, vCallSV_e4, vCallM_e5, vCallMV_e5, vCallS_e5, vCallSV_e5, vCallM_e6, vCallMV_e6, vCallS_e6, vCallSV_e6, vCallM_e7, vCallMV_e7, vCallS_e7, vCallSV_e7, vBad_e, vStrVal_e, vStrCod_e, vForm_e, vCallT_e0, vCallT_e1, vCallT_e2, vCopy_e, rf_0_0, rf_0_1, rf_0_2, rf_0_3, rf_0_4, rf_0_7, rf_0_10, rf_0_11, rf_0_12, rf_0_13, rf_0_14, rf_0_15, rf_0_16, rf_1_0, rf_3_0, rf_3_1, rf_6_0, rf_6_1, rf_9_0, rf_9_1, rf_9_3, rf_13_0, rf_13_1, rf_13_2, rf_16_0, rf_16_1, rf_16_2, rf_16_3, rf_21_0, rf_21_1, rf_21_2, rf_21_3, rf_26_0, rf_26_1, rf_26_2, rf_26_3, rf_26_4, rf_26_5, rf_26_6, rf_31_0, rf_31_2, rf_31_5, rf_31_6, rf_36_0, rf_36_1, rf_36_2, rf_36_3, rf_39_0, rf_39_1, rf_39_2, rf_41_0, rf_41_1, rf_41_2, rf_41_3, rf_5000_1, rf_5000_2, rf_5000_3, rf_5000_4, rf_5000_5, rf_5000_15, rf_5000_16, rf_5000_18, rf_5000_19, rf_5000_20, rf_5000_21, rf_5000_22, rf_5000_23, rf_5000_24, rf_5000_25, rf_5000_26, rf_5000_27, rf_5000_36, rf_5000_37, rf_5000_40, rf_5000_41, rf_5000_42, rf_5000_43, rf_5000_44, rf_5000_45, rf_5000_47, rf_5000_52, rf_5000_54, rf_5000_55, rf_100_0, rf_100_1, rf_103_0, rf_103_1, rf_106_0, rf_106_1, rf_109_0, rf_109_1, al_2, al_4, al_5, al_7, al_8, al_10, al_11, al_12, al_14, al_15, al_17, al_18, al_19, al_20, al_22, al_23, al_24, al_25, al_27, al_28, al_29, al_30, al_32, al_33, al_34, al_35, al_37, al_38, al_40, al_42, al_5001, al_5002, al_5003, al_5004, al_5005, al_5006, al_5007, al_5008, al_5009, al_5010, al_5011, al_5012, al_5013, al_5014, al_5015, al_5016, al_5017, al_5018, al_5019, al_5020, al_5021, al_5022, al_5023, al_5024, al_5025, al_5026, al_9000, al_101, al_102, al_104, al_105, al_107, al_108, al_110, al_111, vcs_e, lg_c0, lg_cs, lg_nil, set_c0, set_cs, okst_0, okst_s, acok_n, acok_c, List.contains_nil, List.contains_cons, Bool.or_false, Bool.false_or, Bool.false_eq_true, if_false, if_true, ite_self, ne_eq, true_and, and_true, not_false_eq_true, not_true_eq_false, false_imp_iff, true_imp_iff, Nat.ble_eq, Bool.and_eq_true, reduceCtorEq, or_false, false_or, or_true, true_or, false_and, and_false, and_self, Int.reduceLE, Int.reduceAdd, Int.reduceSub, Int.reduceMul, Int.reduceNeg, Int.reduceLT, Int.reduceEq, Int.reduceNe, Nat.reduceBEq, Nat.reduceBNe, Nat.reduceEqDiff, amCmp_in, amCmp_lt, amCmp_le, amCmp_gt, amCmp_ge, amCmp_eq, amCmp_ne, Nat.reduceLeDiff, Nat.reduceSub, Bool.and_true, Bool.true_and, Bool.and_self, Bool.or_true, Bool.true_or, isRf_3, isRf_4, isRf_5, isRf_8, isRf_9, isRf_10, isRf_11, isRf_15, isRf_16, isRf_17, isRf_18, isRf_19, isRf_20, isRf_21, isRf_22, isRf_23, isRf_24, isRf_25, isRf_26, isRf_27, isRf_28, k_X12_atom_0, k_X12_atom_1, k_X12_atom_4, k_X12_atom_5, k_X12_atom_7, k_X12_atom_8, k_X12_atom_11, k_X12_atom_14, k_X12_atom_15, k_X12_atom_16, k_X12_atom_19, k_X12_atom_20, k_X12_atom_21, k_X12_atom_24, k_X12_atom_25, k_X12_atom_28, k_X12_atom_29, k_X12_atom_30, k_X12_atom_31, k_X12_atom_32, k_X12_atom_34, k_X12_atom_37, k_X12_atom_38, k_X12_atom_41, k_X12_atom_44, k_X12_atom_45, k_X12_atom_46, k_X12_atom_47, k_X12_atom_50, k_X12_atom_51, k_X12_atom_52, k_X12_atom_54, k_X12_atom_57, k_X12_atom_60, k_X12_atom_61, k_X12_atom_62, k_X12_atom_63, k_X12_atom_64, k_X12_atom_67, k_X12_atom_68, k_X12_atom_69, k_X12_atom_72, k_X12_atom_73, k_X12_atom_74, k_X12_atom_75, k_X12_atom_78, k_X12_atom_81, k_X12_atom_82, k_X12_atom_85, k_X12_atom_86, k_X12_atom_87, k_X12_atom_88, k_X12_atom_89, k_X12_atom_90, k_X12_atom_91, k_X12_atom_94, k_X12_atom_97, k_X12_atom_98, k_X12_atom_101, k_X12_atom_102, k_X12_atom_105, k_X12_atom_106, k_X12_atom_107, k_X12_atom_110, k_X12_atom_111, k_X12_atom_114, k_X12_atom_115, k_X12_atom_116, k_X12_atom_117, k_X12_atom_119, k_X12_atom_120, k_X12_atom_121, k_X12_atom_122, k_X12_atom_125, k_X12_atom_126, k_X12_atom_129, k_X12_atom_130, k_X12_atom_133, k_X12_atom_134, k_X12_atom_135, k_X12_atom_136, k_X12_atom_138, k_X12_atom_139, k_X12_atom_140, k_X12_atom_141, k_X12_atom_142, k_X12_atom_145, k_X12_atom_146, k_X12_atom_147, k_X12_atom_150, k_X12_atom_153, k_X12_atom_156, k_X12_atom_157, w_X12_fails_e, w_X12_goesIn_e, w_X12_isAmong_e, w_X12_isDigit_e, w_X12_look_e, w_X12_takes_e, mt, rd_9, rd_10, rd_11, rd_5, rd_8, rd_u10, rd_u11, fa_n, rT, hraw, hA, t00, if_pos c]
        cases n with
        | zero =>
          have k4 : k = 4 := by omega
          subst k4
          have hn4 : ndig (mtx m) q 4 = 4 := by rw [hnd]; rfl
          have h0 := hq1 (q + 4) 0 (q + 4) (6 - r) (by rw [hn4, if_pos (Or.inr (show isdg (mtx m (q + 4)) from c))]) ⟨by decide, by decide⟩ (by omega) (by omega)
          repeat' (first | assumption | exact tO _ _ _ | apply And.intro | intro _)
          all_goals first | omega | exact absurd trivial (by assumption) | exact h0 | exact tO _ _ _
        | succ n =>
          rw [ndig_s _ (q + k) n, if_pos c] at hnd
          rw [nval_s _ (q + k) a n, if_pos c] at hnv
          have i9 : ∃ k', k' < n + 1 ∧ inv_atom m q (mtx m q) r k' 90 [(28, 5000), (0, mtx m q), (0, 10 * a + mtx m (q + k) - 48), (0, (k : Int) + 1)] [] (rdM m (q + k + 1) (-1) (6 - r)) := by
            refine ⟨n, by omega, rfl, rfl, g1, g2, Or.inr ⟨k + 1, 10 * a + mtx m (q + k) - 48, by omega, rfl, ?_, by omega, hd1, ?_, ?_, by omega, by omega, by omega, by omega, by omega, by omega⟩⟩
            · rw [show q + ((k + 1 : Nat) : Int) = q + k + 1 by omega]
            · rw [show q + ((k + 1 : Nat) : Int) = q + k + 1 by omega]; omega
            · rw [show q + ((k + 1 : Nat) : Int) = q + k + 1 by omega]; exact hnv
          repeat' (first | assumption | exact tO _ _ _ | apply And.intro | intro _)
          all_goals first | omega | exact absurd trivial (by assumption) | exact i9 | exact tO _ _ _
      · rw [ndig_no c] at hnd
        rw [nval_no c] at hnv
        have hv : val (mL m) [nval (mtx m) q 0 4] = a := by rw [hnv]; exact vok_val (vok_num b0 (by omega))
        have h0 := hq2 (q + k, [nval (mtx m) q 0 4]) (by rw [hnd, if_neg (by rw [Int.add_zero]; intro o; rcases o with o | o; omega; exact c o), Int.add_zero])
        simp only [hv] at h0
        refine ⟨120, ?_⟩
        simp only [↓reduceIte, inR_0, inR_1, inR_m, vSw2_e, swP_n, swP_c, vI_e, vL_e, vNull_e, vIload_e, vLload_e, vAload_e, vIstore_e, vLstore_e, vAstore_e, vIinc_e, vIadd_e, vIsub_e, vImul_e, vIand_e, vIor_e, vIxor_e, vIshl_e, vIshr_e, vIushr_e, vIdiv_e, vIrem_e, vLadd_e, vLsub_e, vLmul_e, vLand_e, vLor_e, vLxor_e, vLdiv_e, vLrem_e, vLushr_e, vLshl_e, vLcmp_e, vIneg_e, vI2l_e, vL2i_e, vI2b_e, vI2c_e, vDup_e, vPop_e, vDup2_e, vGoto_e, vIcEq_e, vIfEq_e, vIcNe_e, vIfNe_e, vIcLt_e, vIfLt_e, vIcGe_e, vIfGe_e, vIcGt_e, vIfGt_e, vIcLe_e, vIfLe_e, vNonnull_e, vSw_e, vGetI_e, vGetL_e, vGetR_e, vPutI_e, vPutZ_e, vPutL_e, vPutR_e, vIald_e, vIald_s, vLald_e, vBald_e, vBald_s, vAald_e, vIast_e, vLast_e, vBast_e, vAast_e, vAlen_e8, vAlen_e9, vAlen_e10, vAlen_e11, vAlen_e5, vAlen_e3, vGets_e, vCompact_e, vLdcS_e, vIret_e, vZret_e, vCret_e, vBret_e, vLret_e, vVret_e, vAret_e, vCallM_e0, vCallMV_e0, vCallS_e0, vCallSV_e0, vCallM_e1, vCallMV_e1, vCallS_e1, vCallSV_e1, vCallM_e2, vCallMV_e2, vCallS_e2, vCallSV_e2, vCallM_e3, vCallMV_e3, vCallS_e3, vCallSV_e3, vCallM_e4, vCallMV_e4, vCallS_e4, vCallSV_e4, vCallM_e5, vCallMV_e5, vCallS_e5, vCallSV_e5, vCallM_e6, vCallMV_e6, vCallS_e6, vCallSV_e6, vCallM_e7, vCallMV_e7, vCallS_e7, vCallSV_e7, vBad_e, vStrVal_e, vStrCod_e, vForm_e, vCallT_e0, vCallT_e1, vCallT_e2, vCopy_e, rf_0_0, rf_0_1, rf_0_2, rf_0_3, rf_0_4, rf_0_7, rf_0_10, rf_0_11, rf_0_12, rf_0_13, rf_0_14, rf_0_15, rf_0_16, rf_1_0, rf_3_0, rf_3_1, rf_6_0, rf_6_1, rf_9_0, rf_9_1, rf_9_3, rf_13_0, rf_13_1, rf_13_2, rf_16_0, rf_16_1, rf_16_2, rf_16_3, rf_21_0, rf_21_1, rf_21_2, rf_21_3, rf_26_0, rf_26_1, rf_26_2, rf_26_3, rf_26_4, rf_26_5, rf_26_6, rf_31_0, rf_31_2, rf_31_5, rf_31_6, rf_36_0, rf_36_1, rf_36_2, rf_36_3, rf_39_0, rf_39_1, rf_39_2, rf_41_0, rf_41_1, rf_41_2, rf_41_3, rf_5000_1, rf_5000_2, rf_5000_3, rf_5000_4, rf_5000_5, rf_5000_15, rf_5000_16, rf_5000_18, rf_5000_19, rf_5000_20, rf_5000_21, rf_5000_22, rf_5000_23, rf_5000_24, rf_5000_25, rf_5000_26, rf_5000_27, rf_5000_36, rf_5000_37, rf_5000_40, rf_5000_41, rf_5000_42, rf_5000_43, rf_5000_44, rf_5000_45, rf_5000_47, rf_5000_52, rf_5000_54, rf_5000_55, rf_100_0, rf_100_1, rf_103_0, rf_103_1, rf_106_0, rf_106_1, rf_109_0, rf_109_1, al_2, al_4, al_5, al_7, al_8, al_10, al_11, al_12, al_14, al_15, al_17, al_18, al_19, al_20, al_22, al_23, al_24, al_25, al_27, al_28, al_29, al_30, al_32, al_33, al_34, al_35, al_37, al_38, al_40, al_42, al_5001, al_5002, al_5003, al_5004, al_5005, al_5006, al_5007, al_5008, al_5009, al_5010, al_5011, al_5012, al_5013, al_5014, al_5015, al_5016, al_5017, al_5018, al_5019, al_5020, al_5021, al_5022, al_5023, al_5024, al_5025, al_5026, al_9000, al_101, al_102, al_104, al_105, al_107, al_108, al_110, al_111, vcs_e, lg_c0, lg_cs, lg_nil, set_c0, set_cs, okst_0, okst_s, acok_n, acok_c, List.contains_nil, List.contains_cons, Bool.or_false, Bool.false_or, Bool.false_eq_true, if_false, if_true, ite_self, ne_eq, true_and, and_true, not_false_eq_true, not_true_eq_false, false_imp_iff, true_imp_iff, Nat.ble_eq, Bool.and_eq_true, reduceCtorEq, or_false, false_or, or_true, true_or, false_and, and_false, and_self, Int.reduceLE, Int.reduceAdd, Int.reduceSub, Int.reduceMul, Int.reduceNeg, Int.reduceLT, Int.reduceEq, Int.reduceNe, Nat.reduceBEq, Nat.reduceBNe, Nat.reduceEqDiff, amCmp_in, amCmp_lt, amCmp_le, amCmp_gt, amCmp_ge, amCmp_eq, amCmp_ne, Nat.reduceLeDiff, Nat.reduceSub, Bool.and_true, Bool.true_and, Bool.and_self, Bool.or_true, Bool.true_or, isRf_3, isRf_4, isRf_5, isRf_8, isRf_9, isRf_10, isRf_11, isRf_15, isRf_16, isRf_17, isRf_18, isRf_19, isRf_20, isRf_21, isRf_22, isRf_23, isRf_24, isRf_25, isRf_26, isRf_27, isRf_28, k_X12_atom_0, k_X12_atom_1, k_X12_atom_4, k_X12_atom_5, k_X12_atom_7, k_X12_atom_8, k_X12_atom_11, k_X12_atom_14, k_X12_atom_15, k_X12_atom_16, k_X12_atom_19, k_X12_atom_20, k_X12_atom_21, k_X12_atom_24, k_X12_atom_25, k_X12_atom_28, k_X12_atom_29, k_X12_atom_30, k_X12_atom_31, k_X12_atom_32, k_X12_atom_34, k_X12_atom_37, k_X12_atom_38, k_X12_atom_41, k_X12_atom_44, k_X12_atom_45, k_X12_atom_46, k_X12_atom_47, k_X12_atom_50, k_X12_atom_51, k_X12_atom_52, k_X12_atom_54, k_X12_atom_57, k_X12_atom_60, k_X12_atom_61, k_X12_atom_62, k_X12_atom_63, k_X12_atom_64, k_X12_atom_67, k_X12_atom_68, k_X12_atom_69, k_X12_atom_72, k_X12_atom_73, k_X12_atom_74, k_X12_atom_75, k_X12_atom_78, k_X12_atom_81, k_X12_atom_82, k_X12_atom_85, k_X12_atom_86, k_X12_atom_87, k_X12_atom_88, k_X12_atom_89, k_X12_atom_90, k_X12_atom_91, k_X12_atom_94, k_X12_atom_97, k_X12_atom_98, k_X12_atom_101, k_X12_atom_102, k_X12_atom_105, k_X12_atom_106, k_X12_atom_107, k_X12_atom_110, k_X12_atom_111, k_X12_atom_114, k_X12_atom_115, k_X12_atom_116, k_X12_atom_117, k_X12_atom_119, k_X12_atom_120, k_X12_atom_121, k_X12_atom_122, k_X12_atom_125, k_X12_atom_126, k_X12_atom_129, k_X12_atom_130, k_X12_atom_133, k_X12_atom_134, k_X12_atom_135, k_X12_atom_136, k_X12_atom_138, k_X12_atom_139, k_X12_atom_140, k_X12_atom_141, k_X12_atom_142, k_X12_atom_145, k_X12_atom_146, k_X12_atom_147, k_X12_atom_150, k_X12_atom_153, k_X12_atom_156, k_X12_atom_157, w_X12_fails_e, w_X12_goesIn_e, w_X12_isAmong_e, w_X12_isDigit_e, w_X12_look_e, w_X12_takes_e, mt, rd_9, rd_10, rd_11, if_neg c]
        repeat' (first | assumption | exact tO _ _ _ | apply And.intro | intro _)
        all_goals first | omega | exact absurd trivial (by assumption) | exact h0 | exact tO _ _ _
  · change vcs _ _ _ _ 120 0 [(28, 5000), (6, 0), (6, 0), (6, 0)] [] (rdM m p (-1) (6 - r))
    by_cases c1 : 0 ≤ lix (mtx m q)
    · have e1 : amg 20005 (mtx m q) = 1 := by rw [amg_5, if_pos c1]
      have hlb := lix_b (mtx m q)
      have hv : val (mL m) [10000 + lix (mtx m q)] = m 5004 (mtx m q) := by
        rw [vok_val (vok_let (L := mL m) c1 hlb.2 (hL _ c1 hlb.2))]; unfold mL; rw [mLi_lix c1]
      have hcb : 0 ≤ mtx m q ∧ mtx m q < 128 := by
        have := mLi_lix c1
        unfold mLi at this
        (repeat' split at this) <;> omega
      have h0 := hq2 (q + 1, [10000 + lix (mtx m q)]) (by unfold gAtm; rw [if_pos c1])
      simp only [hv] at h0
      simp only [↓reduceIte, inR_0, inR_1, inR_m, vSw2_e, swP_n, swP_c, vI_e, vL_e, vNull_e, vIload_e, vLload_e, vAload_e, vIstore_e, vLstore_e, vAstore_e, vIinc_e, vIadd_e, vIsub_e, vImul_e, vIand_e, vIor_e, vIxor_e, vIshl_e, vIshr_e, vIushr_e, vIdiv_e, vIrem_e, vLadd_e, vLsub_e, vLmul_e, vLand_e, vLor_e, vLxor_e, vLdiv_e, vLrem_e, vLushr_e, vLshl_e, vLcmp_e, vIneg_e, vI2l_e, vL2i_e, vI2b_e, vI2c_e, vDup_e, vPop_e, vDup2_e, vGoto_e, vIcEq_e, vIfEq_e, vIcNe_e, vIfNe_e, vIcLt_e, vIfLt_e, vIcGe_e, vIfGe_e, vIcGt_e, vIfGt_e, vIcLe_e, vIfLe_e, vNonnull_e, vSw_e, vGetI_e, vGetL_e, vGetR_e, vPutI_e, vPutZ_e, vPutL_e, vPutR_e, vIald_e, vIald_s, vLald_e, vBald_e, vBald_s, vAald_e, vIast_e, vLast_e, vBast_e, vAast_e, vAlen_e8, vAlen_e9, vAlen_e10, vAlen_e11, vAlen_e5, vAlen_e3, vGets_e, vCompact_e, vLdcS_e, vIret_e, vZret_e, vCret_e, vBret_e, vLret_e, vVret_e, vAret_e, vCallM_e0, vCallMV_e0, vCallS_e0, vCallSV_e0, vCallM_e1, vCallMV_e1, vCallS_e1, vCallSV_e1, vCallM_e2, vCallMV_e2, vCallS_e2, vCallSV_e2, vCallM_e3, vCallMV_e3, vCallS_e3, vCallSV_e3, vCallM_e4, vCallMV_e4, vCallS_e4, vCallSV_e4, vCallM_e5, vCallMV_e5, vCallS_e5, vCallSV_e5, vCallM_e6, vCallMV_e6, vCallS_e6, vCallSV_e6, vCallM_e7, vCallMV_e7, vCallS_e7, vCallSV_e7, vBad_e, vStrVal_e, vStrCod_e, vForm_e, vCallT_e0, vCallT_e1, vCallT_e2, vCopy_e, rf_0_0, rf_0_1, rf_0_2, rf_0_3, rf_0_4, rf_0_7, rf_0_10, rf_0_11, rf_0_12, rf_0_13, rf_0_14, rf_0_15, rf_0_16, rf_1_0, rf_3_0, rf_3_1, rf_6_0, rf_6_1, rf_9_0, rf_9_1, rf_9_3, rf_13_0, rf_13_1, rf_13_2, rf_16_0, rf_16_1, rf_16_2, rf_16_3, rf_21_0, rf_21_1, rf_21_2, rf_21_3, rf_26_0, rf_26_1, rf_26_2, rf_26_3, rf_26_4, rf_26_5, rf_26_6, rf_31_0, rf_31_2, rf_31_5, rf_31_6, rf_36_0, rf_36_1, rf_36_2, rf_36_3, rf_39_0, rf_39_1, rf_39_2, rf_41_0, rf_41_1, rf_41_2, rf_41_3, rf_5000_1, rf_5000_2, rf_5000_3, rf_5000_4, rf_5000_5, rf_5000_15, rf_5000_16, rf_5000_18, rf_5000_19, rf_5000_20, rf_5000_21, rf_5000_22, rf_5000_23, rf_5000_24, rf_5000_25, rf_5000_26, rf_5000_27, rf_5000_36, rf_5000_37, rf_5000_40, rf_5000_41, rf_5000_42, rf_5000_43, rf_5000_44, rf_5000_45, rf_5000_47, rf_5000_52, rf_5000_54, rf_5000_55, rf_100_0, rf_100_1, rf_103_0, rf_103_1, rf_106_0, rf_106_1, rf_109_0, rf_109_1, al_2, al_4, al_5, al_7, al_8, al_10, al_11, al_12, al_14, al_15, al_17, al_18, al_19, al_20, al_22, al_23, al_24, al_25, al_27, al_28, al_29, al_30, al_32, al_33, al_34, al_35, al_37, al_38, al_40, al_42, al_5001, al_5002, al_5003, al_5004, al_5005, al_5006, al_5007, al_5008, al_5009, al_5010, al_5011, al_5012, al_5013, al_5014, al_5015, al_5016, al_5017, al_5018, al_5019, al_5020, al_5021, al_5022, al_5023, al_5024, al_5025, al_5026, al_9000, al_101, al_102, al_104, al_105, al_107, al_108, al_110, al_111, vcs_e, lg_c0, lg_cs, lg_nil, set_c0, set_cs, okst_0, okst_s, acok_n, acok_c, List.contains_nil, List.contains_cons, Bool.or_false, Bool.false_or, Bool.false_eq_true, if_false, if_true, ite_self, ne_eq, true_and, and_true, not_false_eq_true, not_true_eq_false, false_imp_iff, true_imp_iff, Nat.ble_eq, Bool.and_eq_true, reduceCtorEq, or_false, false_or, or_true, true_or, false_and, and_false, and_self, Int.reduceLE, Int.reduceAdd, Int.reduceSub, Int.reduceMul, Int.reduceNeg, Int.reduceLT, Int.reduceEq, Int.reduceNe, Nat.reduceBEq, Nat.reduceBNe, Nat.reduceEqDiff, amCmp_in, amCmp_lt, amCmp_le, amCmp_gt, amCmp_ge, amCmp_eq, amCmp_ne, Nat.reduceLeDiff, Nat.reduceSub, Bool.and_true, Bool.true_and, Bool.and_self, Bool.or_true, Bool.true_or, isRf_3, isRf_4, isRf_5, isRf_8, isRf_9, isRf_10, isRf_11, isRf_15, isRf_16, isRf_17, isRf_18, isRf_19, isRf_20, isRf_21, isRf_22, isRf_23, isRf_24, isRf_25, isRf_26, isRf_27, isRf_28, k_X12_atom_0, k_X12_atom_1, k_X12_atom_4, k_X12_atom_5, k_X12_atom_7, k_X12_atom_8, k_X12_atom_11, k_X12_atom_14, k_X12_atom_15, k_X12_atom_16, k_X12_atom_19, k_X12_atom_20, k_X12_atom_21, k_X12_atom_24, k_X12_atom_25, k_X12_atom_28, k_X12_atom_29, k_X12_atom_30, k_X12_atom_31, k_X12_atom_32, k_X12_atom_34, k_X12_atom_37, k_X12_atom_38, k_X12_atom_41, k_X12_atom_44, k_X12_atom_45, k_X12_atom_46, k_X12_atom_47, k_X12_atom_50, k_X12_atom_51, k_X12_atom_52, k_X12_atom_54, k_X12_atom_57, k_X12_atom_60, k_X12_atom_61, k_X12_atom_62, k_X12_atom_63, k_X12_atom_64, k_X12_atom_67, k_X12_atom_68, k_X12_atom_69, k_X12_atom_72, k_X12_atom_73, k_X12_atom_74, k_X12_atom_75, k_X12_atom_78, k_X12_atom_81, k_X12_atom_82, k_X12_atom_85, k_X12_atom_86, k_X12_atom_87, k_X12_atom_88, k_X12_atom_89, k_X12_atom_90, k_X12_atom_91, k_X12_atom_94, k_X12_atom_97, k_X12_atom_98, k_X12_atom_101, k_X12_atom_102, k_X12_atom_105, k_X12_atom_106, k_X12_atom_107, k_X12_atom_110, k_X12_atom_111, k_X12_atom_114, k_X12_atom_115, k_X12_atom_116, k_X12_atom_117, k_X12_atom_119, k_X12_atom_120, k_X12_atom_121, k_X12_atom_122, k_X12_atom_125, k_X12_atom_126, k_X12_atom_129, k_X12_atom_130, k_X12_atom_133, k_X12_atom_134, k_X12_atom_135, k_X12_atom_136, k_X12_atom_138, k_X12_atom_139, k_X12_atom_140, k_X12_atom_141, k_X12_atom_142, k_X12_atom_145, k_X12_atom_146, k_X12_atom_147, k_X12_atom_150, k_X12_atom_153, k_X12_atom_156, k_X12_atom_157, w_X12_fails_e, w_X12_goesIn_e, w_X12_isAmong_e, w_X12_isDigit_e, w_X12_look_e, w_X12_takes_e, mt, mk, rd_9, rd_10, rd_11, rd_u10, hq, e1, r4]
      repeat' (first | assumption | exact tO _ _ _ | apply And.intro | intro _)
      all_goals first | omega | exact absurd trivial (by assumption) | exact h0 | exact tO _ _ _ | decide
    · have e1 : amg 20005 (mtx m q) = 0 := by rw [amg_5, if_neg c1]
      by_cases c2 : mtx m q = 91
      · have hG2 : gAtm (mtx m) (m 5000 9) (gIn (mtx m) (m 5000 9) r) q = match gIn (mtx m) (m 5000 9) r q with | .inl f => .inl f | .inr x => if mtx m (sk (mtx m) (m 5000 9) x.1) = 93 then .inr (sk (mtx m) (m 5000 9) x.1 + 1, x.2) else .inl (sk (mtx m) (m 5000 9) x.1) := by
          unfold gAtm; rw [if_neg c1, if_pos c2]
          cases gIn (mtx m) (m 5000 9) r q <;> rfl
        have e1' : amg 20005 91 = 0 := by rw [← c2]; exact e1
        have hlt : q < m 5000 9 := by
          by_cases h9 : q < m 5000 9
          · exact h9
          · have := mtx_n ht q (by omega); omega
        rw [hG2] at hq1 hq2
        cases r with
        | zero =>
          have h0 := hq1 q 0 q (6 - (0 : Nat)) rfl ⟨by decide, by decide⟩ (by omega) (by omega)
          simp only [↓reduceIte, inR_0, inR_1, inR_m, vSw2_e, swP_n, swP_c, vI_e, vL_e, vNull_e, vIload_e, vLload_e, vAload_e, vIstore_e, vLstore_e, vAstore_e, vIinc_e, vIadd_e, vIsub_e, vImul_e, vIand_e, vIor_e, vIxor_e, vIshl_e, vIshr_e, vIushr_e, vIdiv_e, vIrem_e, vLadd_e, vLsub_e, vLmul_e, vLand_e, vLor_e, vLxor_e, vLdiv_e, vLrem_e, vLushr_e, vLshl_e, vLcmp_e, vIneg_e, vI2l_e, vL2i_e, vI2b_e, vI2c_e, vDup_e, vPop_e, vDup2_e, vGoto_e, vIcEq_e, vIfEq_e, vIcNe_e, vIfNe_e, vIcLt_e, vIfLt_e, vIcGe_e, vIfGe_e, vIcGt_e, vIfGt_e, vIcLe_e, vIfLe_e, vNonnull_e, vSw_e, vGetI_e, vGetL_e, vGetR_e, vPutI_e, vPutZ_e, vPutL_e, vPutR_e, vIald_e, vIald_s, vLald_e, vBald_e, vBald_s, vAald_e, vIast_e, vLast_e, vBast_e, vAast_e, vAlen_e8, vAlen_e9, vAlen_e10, vAlen_e11, vAlen_e5, vAlen_e3, vGets_e, vCompact_e, vLdcS_e, vIret_e, vZret_e, vCret_e, vBret_e, vLret_e, vVret_e, vAret_e, vCallM_e0, vCallMV_e0, vCallS_e0, vCallSV_e0, vCallM_e1, vCallMV_e1, vCallS_e1, vCallSV_e1, vCallM_e2, vCallMV_e2, vCallS_e2, vCallSV_e2, vCallM_e3, vCallMV_e3, vCallS_e3, vCallSV_e3, vCallM_e4, vCallMV_e4, vCallS_e4, vCallSV_e4, vCallM_e5, vCallMV_e5, vCallS_e5, vCallSV_e5, vCallM_e6, vCallMV_e6, vCallS_e6, vCallSV_e6, vCallM_e7, vCallMV_e7, vCallS_e7, vCallSV_e7, vBad_e, vStrVal_e, vStrCod_e, vForm_e, vCallT_e0, vCallT_e1, vCallT_e2, vCopy_e, rf_0_0, rf_0_1, rf_0_2, rf_0_3, rf_0_4, rf_0_7, rf_0_10, rf_0_11, rf_0_12, rf_0_13, rf_0_14, rf_0_15, rf_0_16, rf_1_0, rf_3_0, rf_3_1, rf_6_0, rf_6_1, rf_9_0, rf_9_1, rf_9_3, rf_13_0, rf_13_1, rf_13_2, rf_16_0, rf_16_1, rf_16_2, rf_16_3, rf_21_0, rf_21_1, rf_21_2, rf_21_3, rf_26_0, rf_26_1, rf_26_2, rf_26_3, rf_26_4, rf_26_5, rf_26_6, rf_31_0, rf_31_2, rf_31_5, rf_31_6, rf_36_0, rf_36_1, rf_36_2, rf_36_3, rf_39_0, rf_39_1, rf_39_2, rf_41_0, rf_41_1, rf_41_2, rf_41_3, rf_5000_1, rf_5000_2, rf_5000_3, rf_5000_4, rf_5000_5, rf_5000_15, rf_5000_16, rf_5000_18, rf_5000_19, rf_5000_20, rf_5000_21, rf_5000_22, rf_5000_23, rf_5000_24, rf_5000_25, rf_5000_26, rf_5000_27, rf_5000_36, rf_5000_37, rf_5000_40, rf_5000_41, rf_5000_42, rf_5000_43, rf_5000_44, rf_5000_45, rf_5000_47, rf_5000_52, rf_5000_54, rf_5000_55, rf_100_0, rf_100_1, rf_103_0, rf_103_1, rf_106_0, rf_106_1, rf_109_0, rf_109_1, al_2, al_4, al_5, al_7, al_8, al_10, al_11, al_12, al_14, al_15, al_17, al_18, al_19, al_20, al_22, al_23, al_24, al_25, al_27, al_28, al_29, al_30, al_32, al_33, al_34, al_35, al_37, al_38, al_40, al_42, al_5001, al_5002, al_5003, al_5004, al_5005, al_5006, al_5007, al_5008, al_5009, al_5010, al_5011, al_5012, al_5013, al_5014, al_5015, al_5016, al_5017, al_5018, al_5019, al_5020, al_5021, al_5022, al_5023, al_5024, al_5025, al_5026, al_9000, al_101, al_102, al_104, al_105, al_107, al_108, al_110, al_111, vcs_e, lg_c0, lg_cs, lg_nil, set_c0, set_cs, okst_0, okst_s, acok_n, acok_c, List.contains_nil, List.contains_cons, Bool.or_false, Bool.false_or, Bool.false_eq_true, if_false, if_true, ite_self, ne_eq, true_and, and_true, not_false_eq_true, not_true_eq_false, false_imp_iff, true_imp_iff, Nat.ble_eq, Bool.and_eq_true, reduceCtorEq, or_false, false_or, or_true, true_or, false_and, and_false, and_self, Int.reduceLE, Int.reduceAdd, Int.reduceSub, Int.reduceMul, Int.reduceNeg, Int.reduceLT, Int.reduceEq, Int.reduceNe, Nat.reduceBEq, Nat.reduceBNe, Nat.reduceEqDiff, amCmp_in, amCmp_lt, amCmp_le, amCmp_gt, amCmp_ge, amCmp_eq, amCmp_ne, Nat.reduceLeDiff, Nat.reduceSub, Bool.and_true, Bool.true_and, Bool.and_self, Bool.or_true, Bool.true_or, isRf_3, isRf_4, isRf_5, isRf_8, isRf_9, isRf_10, isRf_11, isRf_15, isRf_16, isRf_17, isRf_18, isRf_19, isRf_20, isRf_21, isRf_22, isRf_23, isRf_24, isRf_25, isRf_26, isRf_27, isRf_28, k_X12_atom_0, k_X12_atom_1, k_X12_atom_4, k_X12_atom_5, k_X12_atom_7, k_X12_atom_8, k_X12_atom_11, k_X12_atom_14, k_X12_atom_15, k_X12_atom_16, k_X12_atom_19, k_X12_atom_20, k_X12_atom_21, k_X12_atom_24, k_X12_atom_25, k_X12_atom_28, k_X12_atom_29, k_X12_atom_30, k_X12_atom_31, k_X12_atom_32, k_X12_atom_34, k_X12_atom_37, k_X12_atom_38, k_X12_atom_41, k_X12_atom_44, k_X12_atom_45, k_X12_atom_46, k_X12_atom_47, k_X12_atom_50, k_X12_atom_51, k_X12_atom_52, k_X12_atom_54, k_X12_atom_57, k_X12_atom_60, k_X12_atom_61, k_X12_atom_62, k_X12_atom_63, k_X12_atom_64, k_X12_atom_67, k_X12_atom_68, k_X12_atom_69, k_X12_atom_72, k_X12_atom_73, k_X12_atom_74, k_X12_atom_75, k_X12_atom_78, k_X12_atom_81, k_X12_atom_82, k_X12_atom_85, k_X12_atom_86, k_X12_atom_87, k_X12_atom_88, k_X12_atom_89, k_X12_atom_90, k_X12_atom_91, k_X12_atom_94, k_X12_atom_97, k_X12_atom_98, k_X12_atom_101, k_X12_atom_102, k_X12_atom_105, k_X12_atom_106, k_X12_atom_107, k_X12_atom_110, k_X12_atom_111, k_X12_atom_114, k_X12_atom_115, k_X12_atom_116, k_X12_atom_117, k_X12_atom_119, k_X12_atom_120, k_X12_atom_121, k_X12_atom_122, k_X12_atom_125, k_X12_atom_126, k_X12_atom_129, k_X12_atom_130, k_X12_atom_133, k_X12_atom_134, k_X12_atom_135, k_X12_atom_136, k_X12_atom_138, k_X12_atom_139, k_X12_atom_140, k_X12_atom_141, k_X12_atom_142, k_X12_atom_145, k_X12_atom_146, k_X12_atom_147, k_X12_atom_150, k_X12_atom_153, k_X12_atom_156, k_X12_atom_157, w_X12_fails_e, w_X12_goesIn_e, w_X12_isAmong_e, w_X12_isDigit_e, w_X12_look_e, w_X12_takes_e, mt, mk, rd_9, rd_10, rd_11, rd_12, rd_u10, rd_u11, rd_u12, hq, e1', c2, fa_n, wS_0]
          repeat' (first | assumption | exact tO _ _ _ | apply And.intro | intro _)
          all_goals first | omega | exact absurd trivial (by assumption) | exact h0 | exact tO _ _ _ | decide
        | succ r =>
          have hgo := gS_ok (mtx_n ht) r (q + 1) (by omega) (by omega)
          have hgi : gIn (mtx m) (m 5000 9) (r + 1) q = gS (mtx m) (m 5000 9) r (q + 1) := rfl
          rw [hgi] at hq1 hq2
          have hrd : rdOk (rdM m (q + 1) (-1) (6 - ((r + 1 : Nat) : Int) + 1)) r := rdOk_rd ht hL (by omega) (by omega) (by omega) (by omega)
          simp only [↓reduceIte, inR_0, inR_1, inR_m, vSw2_e, swP_n, swP_c, vI_e, vL_e, vNull_e, vIload_e, vLload_e, vAload_e, vIstore_e, vLstore_e, vAstore_e, vIinc_e, vIadd_e, vIsub_e, vImul_e, vIand_e, vIor_e, vIxor_e, vIshl_e, vIshr_e, vIushr_e, vIdiv_e, vIrem_e, vLadd_e, vLsub_e, vLmul_e, vLand_e, vLor_e, vLxor_e, vLdiv_e, vLrem_e, vLushr_e, vLshl_e, vLcmp_e, vIneg_e, vI2l_e, vL2i_e, vI2b_e, vI2c_e, vDup_e, vPop_e, vDup2_e, vGoto_e, vIcEq_e, vIfEq_e, vIcNe_e, vIfNe_e, vIcLt_e, vIfLt_e, vIcGe_e, vIfGe_e, vIcGt_e, vIfGt_e, vIcLe_e, vIfLe_e, vNonnull_e, vSw_e, vGetI_e, vGetL_e, vGetR_e, vPutI_e, vPutZ_e, vPutL_e, vPutR_e, vIald_e, vIald_s, vLald_e, vBald_e, vBald_s, vAald_e, vIast_e, vLast_e, vBast_e, vAast_e, vAlen_e8, vAlen_e9, vAlen_e10, vAlen_e11, vAlen_e5, vAlen_e3, vGets_e, vCompact_e, vLdcS_e, vIret_e, vZret_e, vCret_e, vBret_e, vLret_e, vVret_e, vAret_e, vCallM_e0, vCallMV_e0, vCallS_e0, vCallSV_e0, vCallM_e1, vCallMV_e1, vCallS_e1, vCallSV_e1, vCallM_e2, vCallMV_e2, vCallS_e2, vCallSV_e2, vCallM_e3, vCallMV_e3, vCallS_e3, vCallSV_e3, vCallM_e4, vCallMV_e4, vCallS_e4, vCallSV_e4, vCallM_e5, vCallMV_e5, vCallS_e5, vCallSV_e5, vCallM_e6, vCallMV_e6, vCallS_e6, vCallSV_e6, vCallM_e7, vCallMV_e7, vCallS_e7, vCallSV_e7, vBad_e, vStrVal_e, vStrCod_e, vForm_e, vCallT_e0, vCallT_e1, vCallT_e2, vCopy_e, rf_0_0, rf_0_1, rf_0_2, rf_0_3, rf_0_4, rf_0_7, rf_0_10, rf_0_11, rf_0_12, rf_0_13, rf_0_14, rf_0_15, rf_0_16, rf_1_0, rf_3_0, rf_3_1, rf_6_0, rf_6_1, rf_9_0, rf_9_1, rf_9_3, rf_13_0, rf_13_1, rf_13_2, rf_16_0, rf_16_1, rf_16_2, rf_16_3, rf_21_0, rf_21_1, rf_21_2, rf_21_3, rf_26_0, rf_26_1, rf_26_2, rf_26_3, rf_26_4, rf_26_5, rf_26_6, rf_31_0, rf_31_2, rf_31_5, rf_31_6, rf_36_0, rf_36_1, rf_36_2, rf_36_3, rf_39_0, rf_39_1, rf_39_2, rf_41_0, rf_41_1, rf_41_2, rf_41_3, rf_5000_1, rf_5000_2, rf_5000_3, rf_5000_4, rf_5000_5, rf_5000_15, rf_5000_16, rf_5000_18, rf_5000_19, rf_5000_20, rf_5000_21, rf_5000_22, rf_5000_23, rf_5000_24, rf_5000_25, rf_5000_26, rf_5000_27, rf_5000_36, rf_5000_37, rf_5000_40, rf_5000_41, rf_5000_42, rf_5000_43, rf_5000_44, rf_5000_45, rf_5000_47, rf_5000_52, rf_5000_54, rf_5000_55, rf_100_0, rf_100_1, rf_103_0, rf_103_1, rf_106_0, rf_106_1, rf_109_0, rf_109_1, al_2, al_4, al_5, al_7, al_8, al_10, al_11, al_12, al_14, al_15, al_17, al_18, al_19, al_20, al_22, al_23, al_24, al_25, al_27, al_28, al_29, al_30, al_32, al_33, al_34, al_35, al_37, al_38, al_40, al_42, al_5001, al_5002, al_5003, al_5004, al_5005, al_5006, al_5007, al_5008, al_5009, al_5010, al_5011, al_5012, al_5013, al_5014, al_5015, al_5016, al_5017, al_5018, al_5019, al_5020, al_5021, al_5022, al_5023, al_5024, al_5025, al_5026, al_9000, al_101, al_102, al_104, al_105, al_107, al_108, al_110, al_111, vcs_e, lg_c0, lg_cs, lg_nil, set_c0, set_cs, okst_0, okst_s, acok_n, acok_c, List.contains_nil, List.contains_cons, Bool.or_false, Bool.false_or, Bool.false_eq_true, if_false, if_true, ite_self, ne_eq, true_and, and_true, not_false_eq_true, not_true_eq_false, false_imp_iff, true_imp_iff, Nat.ble_eq, Bool.and_eq_true, reduceCtorEq, or_false, false_or, or_true, true_or, false_and, and_false, and_self, Int.reduceLE, Int.reduceAdd, Int.reduceSub, Int.reduceMul, Int.reduceNeg, Int.reduceLT, Int.reduceEq, Int.reduceNe, Nat.reduceBEq, Nat.reduceBNe, Nat.reduceEqDiff, amCmp_in, amCmp_lt, amCmp_le, amCmp_gt, amCmp_ge, amCmp_eq, amCmp_ne, Nat.reduceLeDiff, Nat.reduceSub, Bool.and_true, Bool.true_and, Bool.and_self, Bool.or_true, Bool.true_or, isRf_3, isRf_4, isRf_5, isRf_8, isRf_9, isRf_10, isRf_11, isRf_15, isRf_16, isRf_17, isRf_18, isRf_19, isRf_20, isRf_21, isRf_22, isRf_23, isRf_24, isRf_25, isRf_26, isRf_27, isRf_28, k_X12_atom_0, k_X12_atom_1, k_X12_atom_4, k_X12_atom_5, k_X12_atom_7, k_X12_atom_8, k_X12_atom_11, k_X12_atom_14, k_X12_atom_15, k_X12_atom_16, k_X12_atom_19, k_X12_atom_20, k_X12_atom_21, k_X12_atom_24, k_X12_atom_25, k_X12_atom_28, k_X12_atom_29, k_X12_atom_30, k_X12_atom_31, k_X12_atom_32, k_X12_atom_34, k_X12_atom_37, k_X12_atom_38, k_X12_atom_41, k_X12_atom_44, k_X12_atom_45, k_X12_atom_46, k_X12_atom_47, k_X12_atom_50, k_X12_atom_51, k_X12_atom_52, k_X12_atom_54, k_X12_atom_57, k_X12_atom_60, k_X12_atom_61, k_X12_atom_62, k_X12_atom_63, k_X12_atom_64, k_X12_atom_67, k_X12_atom_68, k_X12_atom_69, k_X12_atom_72, k_X12_atom_73, k_X12_atom_74, k_X12_atom_75, k_X12_atom_78, k_X12_atom_81, k_X12_atom_82, k_X12_atom_85, k_X12_atom_86, k_X12_atom_87, k_X12_atom_88, k_X12_atom_89, k_X12_atom_90, k_X12_atom_91, k_X12_atom_94, k_X12_atom_97, k_X12_atom_98, k_X12_atom_101, k_X12_atom_102, k_X12_atom_105, k_X12_atom_106, k_X12_atom_107, k_X12_atom_110, k_X12_atom_111, k_X12_atom_114, k_X12_atom_115, k_X12_atom_116, k_X12_atom_117, k_X12_atom_119, k_X12_atom_120, k_X12_atom_121, k_X12_atom_122, k_X12_atom_125, k_X12_atom_126, k_X12_atom_129, k_X12_atom_130, k_X12_atom_133, k_X12_atom_134, k_X12_atom_135, k_X12_atom_136, k_X12_atom_138, k_X12_atom_139, k_X12_atom_140, k_X12_atom_141, k_X12_atom_142, k_X12_atom_145, k_X12_atom_146, k_X12_atom_147, k_X12_atom_150, k_X12_atom_153, k_X12_atom_156, k_X12_atom_157, w_X12_fails_e, w_X12_goesIn_e, w_X12_isAmong_e, w_X12_isDigit_e, w_X12_look_e, w_X12_takes_e, mt, mk, rd_9, rd_10, rd_11, rd_12, rd_u10, rd_u11, rd_u12, rd_rd, mL_rd, hq, e1', c2, fa_n, wS_s]
          have fne : ∀ f, gS (mtx m) (m 5000 9) r (q + 1) = .inl f → 0 ≤ f ∧ f ≤ m 5000 9 := fun f e => by rw [e, gok_l] at hgo; omega
          have gy : ∀ y, gS (mtx m) (m 5000 9) r (q + 1) = .inr y → 0 ≤ y.1 ∧ y.1 ≤ m 5000 9 := fun y e => by rw [e, gok_r] at hgo; omega
          have gs : ∀ y, gS (mtx m) (m 5000 9) r (q + 1) = .inr y → 0 ≤ sk (mtx m) (m 5000 9) y.1 ∧ sk (mtx m) (m 5000 9) y.1 ≤ m 5000 9 := fun y e => by
            have h1 := gy y e
            have := sk_b (mtx m) h1.2
            omega
          have hf : ∀ f p d, gS (mtx m) (m 5000 9) r (q + 1) = .inl f → 6 - (r : Int) ≤ d → d ≤ 6 → Q (0, 0) (rdM m p f d) := fun f p d e d0 d1 => hq1 f 0 p d (by rw [e]) ⟨by decide, by decide⟩ (by omega) d1
          have hf2 : ∀ y d, gS (mtx m) (m 5000 9) r (q + 1) = .inr y → ¬ mtx m (sk (mtx m) (m 5000 9) y.1) = 93 → 6 - (r : Int) ≤ d → d ≤ 6 → Q (0, 0) (rdM m (sk (mtx m) (m 5000 9) y.1) (sk (mtx m) (m 5000 9) y.1) d) := fun y d e e2 d0 d1 => hq1 _ 0 _ d (by rw [e]; exact if_neg e2) ⟨by decide, by decide⟩ (by omega) d1
          have hs2 : ∀ y d, gS (mtx m) (m 5000 9) r (q + 1) = .inr y → mtx m (sk (mtx m) (m 5000 9) y.1) = 93 → d = 6 - ((r + 1 : Nat) : Int) → Q (0, val (mL m) y.2) (rdM m (sk (mtx m) (m 5000 9) y.1 + 1) (-1) d) := fun y d e e2 e3 => by
            rw [e3]
            exact hq2 (sk (mtx m) (m 5000 9) y.1 + 1, y.2) (by rw [e]; exact if_pos e2)
          repeat' (first | assumption | exact tO _ _ _ | exact hrd | apply And.intro | intro _)
          all_goals first | omega | exact absurd trivial (by assumption) | exact tO _ _ _ | exact hrd | exact hf _ _ _ (by assumption) (by omega) (by omega) | exact hf2 _ _ (by assumption) (by assumption) (by omega) (by omega) | exact hs2 _ _ (by assumption) (by assumption) (by omega) | (have := fne _ (by assumption); omega) | (have := gy _ (by assumption); omega) | (have := gs _ (by assumption); omega) | decide
      · by_cases c3 : 48 ≤ mtx m q ∧ mtx m q ≤ 57
        · have i9 : ∃ n, inv_atom m q (mtx m q) r n 90 [(28, 5000), (0, mtx m q), (0, 0), (0, 0)] [] (rdM m q (-1) (6 - r)) := by
            refine ⟨4, rfl, rfl, c1, c2, Or.inr ⟨0, 0, rfl, rfl, ?_, ?_, ?_, ?_, ?_, by omega, by omega, by omega, by omega, by omega, by omega⟩⟩
            · rw [show q + ((0 : Nat) : Int) = q by omega]
            · omega
            · rw [show (4 : Nat) = 3 + 1 from rfl, ndig_s, if_pos c3]
              have := ndig_bd (mtx m) 3 (q + 1); omega
            · rw [show q + ((0 : Nat) : Int) = q by omega]; omega
            · rw [show q + ((0 : Nat) : Int) = q by omega]
          simp only [↓reduceIte, inR_0, inR_1, inR_m, vSw2_e, swP_n, swP_c, vI_e, vL_e, vNull_e, vIload_e, vLload_e, vAload_e, vIstore_e, vLstore_e, vAstore_e, vIinc_e, vIadd_e, vIsub_e, vImul_e, vIand_e, vIor_e, vIxor_e, vIshl_e, vIshr_e, vIushr_e, vIdiv_e, vIrem_e, vLadd_e, vLsub_e, vLmul_e, vLand_e, vLor_e, vLxor_e, vLdiv_e, vLrem_e, vLushr_e, vLshl_e, vLcmp_e, vIneg_e, vI2l_e, vL2i_e, vI2b_e, vI2c_e, vDup_e, vPop_e, vDup2_e, vGoto_e, vIcEq_e, vIfEq_e, vIcNe_e, vIfNe_e, vIcLt_e, vIfLt_e, vIcGe_e, vIfGe_e, vIcGt_e, vIfGt_e, vIcLe_e, vIfLe_e, vNonnull_e, vSw_e, vGetI_e, vGetL_e, vGetR_e, vPutI_e, vPutZ_e, vPutL_e, vPutR_e, vIald_e, vIald_s, vLald_e, vBald_e, vBald_s, vAald_e, vIast_e, vLast_e, vBast_e, vAast_e, vAlen_e8, vAlen_e9, vAlen_e10, vAlen_e11, vAlen_e5, vAlen_e3, vGets_e, vCompact_e, vLdcS_e, vIret_e, vZret_e, vCret_e, vBret_e, vLret_e, vVret_e, vAret_e, vCallM_e0, vCallMV_e0, vCallS_e0, vCallSV_e0, vCallM_e1, vCallMV_e1, vCallS_e1, vCallSV_e1, vCallM_e2, vCallMV_e2, vCallS_e2, vCallSV_e2, vCallM_e3, vCallMV_e3, vCallS_e3, vCallSV_e3, vCallM_e4, vCallMV_e4, vCallS_e4, vCallSV_e4, vCallM_e5, vCallMV_e5, vCallS_e5, vCallSV_e5, vCallM_e6, vCallMV_e6, vCallS_e6, vCallSV_e6, vCallM_e7, vCallMV_e7, vCallS_e7, vCallSV_e7, vBad_e, vStrVal_e, vStrCod_e, vForm_e, vCallT_e0, vCallT_e1, vCallT_e2, vCopy_e, rf_0_0, rf_0_1, rf_0_2, rf_0_3, rf_0_4, rf_0_7, rf_0_10, rf_0_11, rf_0_12, rf_0_13, rf_0_14, rf_0_15, rf_0_16, rf_1_0, rf_3_0, rf_3_1, rf_6_0, rf_6_1, rf_9_0, rf_9_1, rf_9_3, rf_13_0, rf_13_1, rf_13_2, rf_16_0, rf_16_1, rf_16_2, rf_16_3, rf_21_0, rf_21_1, rf_21_2, rf_21_3, rf_26_0, rf_26_1, rf_26_2, rf_26_3, rf_26_4, rf_26_5, rf_26_6, rf_31_0, rf_31_2, rf_31_5, rf_31_6, rf_36_0, rf_36_1, rf_36_2, rf_36_3, rf_39_0, rf_39_1, rf_39_2, rf_41_0, rf_41_1, rf_41_2, rf_41_3, rf_5000_1, rf_5000_2, rf_5000_3, rf_5000_4, rf_5000_5, rf_5000_15, rf_5000_16, rf_5000_18, rf_5000_19, rf_5000_20, rf_5000_21, rf_5000_22, rf_5000_23, rf_5000_24, rf_5000_25, rf_5000_26, rf_5000_27, rf_5000_36, rf_5000_37, rf_5000_40, rf_5000_41, rf_5000_42, rf_5000_43, rf_5000_44, rf_5000_45, rf_5000_47, rf_5000_52, rf_5000_54, rf_5000_55, rf_100_0, rf_100_1, rf_103_0, rf_103_1, rf_106_0, rf_106_1, rf_109_0, rf_109_1, al_2, al_4, al_5, al_7, al_8, al_10, al_11, al_12, al_14, al_15, al_17, al_18, al_19, al_20, al_22, al_23, al_24, al_25, al_27, al_28, al_29, al_30, al_32, al_33, al_34, al_35, al_37, al_38, al_40, al_42, al_5001, al_5002, al_5003, al_5004, al_5005, al_5006, al_5007, al_5008, al_5009, al_5010, al_5011, al_5012, al_5013, al_5014, al_5015, al_5016, al_5017, al_5018, al_5019, al_5020, al_5021, al_5022, al_5023, al_5024, al_5025, al_5026, al_9000, al_101, al_102, al_104, al_105, al_107, al_108, al_110, al_111, vcs_e, lg_c0, lg_cs, lg_nil, set_c0, set_cs, okst_0, okst_s, acok_n, acok_c, List.contains_nil, List.contains_cons, Bool.or_false, Bool.false_or, Bool.false_eq_true, if_false, if_true, ite_self, ne_eq, true_and, and_true, not_false_eq_true, not_true_eq_false, false_imp_iff, true_imp_iff, Nat.ble_eq, Bool.and_eq_true, reduceCtorEq, or_false, false_or, or_true, true_or, false_and, and_false, and_self, Int.reduceLE, Int.reduceAdd, Int.reduceSub, Int.reduceMul, Int.reduceNeg, Int.reduceLT, Int.reduceEq, Int.reduceNe, Nat.reduceBEq, Nat.reduceBNe, Nat.reduceEqDiff, amCmp_in, amCmp_lt, amCmp_le, amCmp_gt, amCmp_ge, amCmp_eq, amCmp_ne, Nat.reduceLeDiff, Nat.reduceSub, Bool.and_true, Bool.true_and, Bool.and_self, Bool.or_true, Bool.true_or, isRf_3, isRf_4, isRf_5, isRf_8, isRf_9, isRf_10, isRf_11, isRf_15, isRf_16, isRf_17, isRf_18, isRf_19, isRf_20, isRf_21, isRf_22, isRf_23, isRf_24, isRf_25, isRf_26, isRf_27, isRf_28, k_X12_atom_0, k_X12_atom_1, k_X12_atom_4, k_X12_atom_5, k_X12_atom_7, k_X12_atom_8, k_X12_atom_11, k_X12_atom_14, k_X12_atom_15, k_X12_atom_16, k_X12_atom_19, k_X12_atom_20, k_X12_atom_21, k_X12_atom_24, k_X12_atom_25, k_X12_atom_28, k_X12_atom_29, k_X12_atom_30, k_X12_atom_31, k_X12_atom_32, k_X12_atom_34, k_X12_atom_37, k_X12_atom_38, k_X12_atom_41, k_X12_atom_44, k_X12_atom_45, k_X12_atom_46, k_X12_atom_47, k_X12_atom_50, k_X12_atom_51, k_X12_atom_52, k_X12_atom_54, k_X12_atom_57, k_X12_atom_60, k_X12_atom_61, k_X12_atom_62, k_X12_atom_63, k_X12_atom_64, k_X12_atom_67, k_X12_atom_68, k_X12_atom_69, k_X12_atom_72, k_X12_atom_73, k_X12_atom_74, k_X12_atom_75, k_X12_atom_78, k_X12_atom_81, k_X12_atom_82, k_X12_atom_85, k_X12_atom_86, k_X12_atom_87, k_X12_atom_88, k_X12_atom_89, k_X12_atom_90, k_X12_atom_91, k_X12_atom_94, k_X12_atom_97, k_X12_atom_98, k_X12_atom_101, k_X12_atom_102, k_X12_atom_105, k_X12_atom_106, k_X12_atom_107, k_X12_atom_110, k_X12_atom_111, k_X12_atom_114, k_X12_atom_115, k_X12_atom_116, k_X12_atom_117, k_X12_atom_119, k_X12_atom_120, k_X12_atom_121, k_X12_atom_122, k_X12_atom_125, k_X12_atom_126, k_X12_atom_129, k_X12_atom_130, k_X12_atom_133, k_X12_atom_134, k_X12_atom_135, k_X12_atom_136, k_X12_atom_138, k_X12_atom_139, k_X12_atom_140, k_X12_atom_141, k_X12_atom_142, k_X12_atom_145, k_X12_atom_146, k_X12_atom_147, k_X12_atom_150, k_X12_atom_153, k_X12_atom_156, k_X12_atom_157, w_X12_fails_e, w_X12_goesIn_e, w_X12_isAmong_e, w_X12_isDigit_e, w_X12_look_e, w_X12_takes_e, mt, mk, rd_9, rd_10, rd_11, rd_u10, hq, e1, if_pos c3]
          repeat' (first | assumption | exact tO _ _ _ | apply And.intro | intro _)
          all_goals first | omega | exact absurd trivial (by assumption) | exact i9 | exact tO _ _ _ | decide
        · have i9 : ∃ n, inv_atom m q (mtx m q) r n 90 [(28, 5000), (0, mtx m q), (0, 0), (0, 0)] [] (rdM m q q (6 - r)) :=
            ⟨0, rfl, rfl, c1, c2, Or.inl ⟨ndig_no c3 4, rfl, rfl⟩⟩
          simp only [↓reduceIte, inR_0, inR_1, inR_m, vSw2_e, swP_n, swP_c, vI_e, vL_e, vNull_e, vIload_e, vLload_e, vAload_e, vIstore_e, vLstore_e, vAstore_e, vIinc_e, vIadd_e, vIsub_e, vImul_e, vIand_e, vIor_e, vIxor_e, vIshl_e, vIshr_e, vIushr_e, vIdiv_e, vIrem_e, vLadd_e, vLsub_e, vLmul_e, vLand_e, vLor_e, vLxor_e, vLdiv_e, vLrem_e, vLushr_e, vLshl_e, vLcmp_e, vIneg_e, vI2l_e, vL2i_e, vI2b_e, vI2c_e, vDup_e, vPop_e, vDup2_e, vGoto_e, vIcEq_e, vIfEq_e, vIcNe_e, vIfNe_e, vIcLt_e, vIfLt_e, vIcGe_e, vIfGe_e, vIcGt_e, vIfGt_e, vIcLe_e, vIfLe_e, vNonnull_e, vSw_e, vGetI_e, vGetL_e, vGetR_e, vPutI_e, vPutZ_e, vPutL_e, vPutR_e, vIald_e, vIald_s, vLald_e, vBald_e, vBald_s, vAald_e, vIast_e, vLast_e, vBast_e, vAast_e, vAlen_e8, vAlen_e9, vAlen_e10, vAlen_e11, vAlen_e5, vAlen_e3, vGets_e, vCompact_e, vLdcS_e, vIret_e, vZret_e, vCret_e, vBret_e, vLret_e, vVret_e, vAret_e, vCallM_e0, vCallMV_e0, vCallS_e0, vCallSV_e0, vCallM_e1, vCallMV_e1, vCallS_e1, vCallSV_e1, vCallM_e2, vCallMV_e2, vCallS_e2, vCallSV_e2, vCallM_e3, vCallMV_e3, vCallS_e3, vCallSV_e3, vCallM_e4, vCallMV_e4, vCallS_e4, vCallSV_e4, vCallM_e5, vCallMV_e5, vCallS_e5, vCallSV_e5, vCallM_e6, vCallMV_e6, vCallS_e6, vCallSV_e6, vCallM_e7, vCallMV_e7, vCallS_e7, vCallSV_e7, vBad_e, vStrVal_e, vStrCod_e, vForm_e, vCallT_e0, vCallT_e1, vCallT_e2, vCopy_e, rf_0_0, rf_0_1, rf_0_2, rf_0_3, rf_0_4, rf_0_7, rf_0_10, rf_0_11, rf_0_12, rf_0_13, rf_0_14, rf_0_15, rf_0_16, rf_1_0, rf_3_0, rf_3_1, rf_6_0, rf_6_1, rf_9_0, rf_9_1, rf_9_3, rf_13_0, rf_13_1, rf_13_2, rf_16_0, rf_16_1, rf_16_2, rf_16_3, rf_21_0, rf_21_1, rf_21_2, rf_21_3, rf_26_0, rf_26_1, rf_26_2, rf_26_3, rf_26_4, rf_26_5, rf_26_6, rf_31_0, rf_31_2, rf_31_5, rf_31_6, rf_36_0, rf_36_1, rf_36_2, rf_36_3, rf_39_0, rf_39_1, rf_39_2, rf_41_0, rf_41_1, rf_41_2, rf_41_3, rf_5000_1, rf_5000_2, rf_5000_3, rf_5000_4, rf_5000_5, rf_5000_15, rf_5000_16, rf_5000_18, rf_5000_19, rf_5000_20, rf_5000_21, rf_5000_22, rf_5000_23, rf_5000_24, rf_5000_25, rf_5000_26, rf_5000_27, rf_5000_36, rf_5000_37, rf_5000_40, rf_5000_41, rf_5000_42, rf_5000_43, rf_5000_44, rf_5000_45, rf_5000_47, rf_5000_52, rf_5000_54, rf_5000_55, rf_100_0, rf_100_1, rf_103_0, rf_103_1, rf_106_0, rf_106_1, rf_109_0, rf_109_1, al_2, al_4, al_5, al_7, al_8, al_10, al_11, al_12, al_14, al_15, al_17, al_18, al_19, al_20, al_22, al_23, al_24, al_25, al_27, al_28, al_29, al_30, al_32, al_33, al_34, al_35, al_37, al_38, al_40, al_42, al_5001, al_5002, al_5003, al_5004, al_5005, al_5006, al_5007, al_5008, al_5009, al_5010, al_5011, al_5012, al_5013, al_5014, al_5015, al_5016, al_5017, al_5018, al_5019, al_5020, al_5021, al_5022, al_5023, al_5024, al_5025, al_5026, al_9000, al_101, al_102, al_104, al_105, al_107, al_108, al_110, al_111, vcs_e, lg_c0, lg_cs, lg_nil, set_c0, set_cs, okst_0, okst_s, acok_n, acok_c, List.contains_nil, List.contains_cons, Bool.or_false, Bool.false_or, Bool.false_eq_true, if_false, if_true, ite_self, ne_eq, true_and, and_true, not_false_eq_true, not_true_eq_false, false_imp_iff, true_imp_iff, Nat.ble_eq, Bool.and_eq_true, reduceCtorEq, or_false, false_or, or_true, true_or, false_and, and_false, and_self, Int.reduceLE, Int.reduceAdd, Int.reduceSub, Int.reduceMul, Int.reduceNeg, Int.reduceLT, Int.reduceEq, Int.reduceNe, Nat.reduceBEq, Nat.reduceBNe, Nat.reduceEqDiff, amCmp_in, amCmp_lt, amCmp_le, amCmp_gt, amCmp_ge, amCmp_eq, amCmp_ne, Nat.reduceLeDiff, Nat.reduceSub, Bool.and_true, Bool.true_and, Bool.and_self, Bool.or_true, Bool.true_or, isRf_3, isRf_4, isRf_5, isRf_8, isRf_9, isRf_10, isRf_11, isRf_15, isRf_16, isRf_17, isRf_18, isRf_19, isRf_20, isRf_21, isRf_22, isRf_23, isRf_24, isRf_25, isRf_26, isRf_27, isRf_28, k_X12_atom_0, k_X12_atom_1, k_X12_atom_4, k_X12_atom_5, k_X12_atom_7, k_X12_atom_8, k_X12_atom_11, k_X12_atom_14, k_X12_atom_15, k_X12_atom_16, k_X12_atom_19, k_X12_atom_20, k_X12_atom_21, k_X12_atom_24, k_X12_atom_25, k_X12_atom_28, k_X12_atom_29, k_X12_atom_30, k_X12_atom_31, k_X12_atom_32, k_X12_atom_34, k_X12_atom_37, k_X12_atom_38, k_X12_atom_41, k_X12_atom_44, k_X12_atom_45, k_X12_atom_46, k_X12_atom_47, k_X12_atom_50, k_X12_atom_51, k_X12_atom_52, k_X12_atom_54, k_X12_atom_57, k_X12_atom_60, k_X12_atom_61, k_X12_atom_62, k_X12_atom_63, k_X12_atom_64, k_X12_atom_67, k_X12_atom_68, k_X12_atom_69, k_X12_atom_72, k_X12_atom_73, k_X12_atom_74, k_X12_atom_75, k_X12_atom_78, k_X12_atom_81, k_X12_atom_82, k_X12_atom_85, k_X12_atom_86, k_X12_atom_87, k_X12_atom_88, k_X12_atom_89, k_X12_atom_90, k_X12_atom_91, k_X12_atom_94, k_X12_atom_97, k_X12_atom_98, k_X12_atom_101, k_X12_atom_102, k_X12_atom_105, k_X12_atom_106, k_X12_atom_107, k_X12_atom_110, k_X12_atom_111, k_X12_atom_114, k_X12_atom_115, k_X12_atom_116, k_X12_atom_117, k_X12_atom_119, k_X12_atom_120, k_X12_atom_121, k_X12_atom_122, k_X12_atom_125, k_X12_atom_126, k_X12_atom_129, k_X12_atom_130, k_X12_atom_133, k_X12_atom_134, k_X12_atom_135, k_X12_atom_136, k_X12_atom_138, k_X12_atom_139, k_X12_atom_140, k_X12_atom_141, k_X12_atom_142, k_X12_atom_145, k_X12_atom_146, k_X12_atom_147, k_X12_atom_150, k_X12_atom_153, k_X12_atom_156, k_X12_atom_157, w_X12_fails_e, w_X12_goesIn_e, w_X12_isAmong_e, w_X12_isDigit_e, w_X12_look_e, w_X12_takes_e, mt, mk, rd_9, rd_10, rd_11, rd_u10, hq, e1, if_neg c3, fa_n]
          repeat' (first | assumption | exact tO _ _ _ | apply And.intro | intro _)
          all_goals first | omega | exact absurd trivial (by assumption) | exact i9 | exact tO _ _ _ | decide
