/-! the reference reads SEASONS, whole -/
theorem s14_5 (τ : Mem) (x : Int) : up τ 5014 4 x 5000 = τ 5000 := up_na _ (by decide)
theorem s14_c (τ : Mem) (x y : Int) : up (up τ 5014 4 x) 5000 10 y = up (up τ 5000 10 y) 5014 4 x := by
  funext b j; unfold up; (repeat' split) <;> first | rfl | omega
theorem s14_fa (m : Mem) (p x : Int) (v : Int → Int) : faM (up (seM m p (-1) v) 5014 4 x) = up (seM m p p v) 5014 4 x := by
  unfold faM
  rw [s14_5, if_pos (se_11 _ _ _ _), se_10, ← se_u11 m p (-1) p v]
  funext b j; unfold up; (repeat' split) <;> first | rfl | omega
theorem s14_tx {m : Mem} (h : txOk m) (p f x : Int) (v : Int → Int) : mtx (up (seM m p f v) 5014 4 x) = mtx m ∧ txOk (up (seM m p f v) 5014 4 x) := by
  obtain ⟨a, b⟩ := se_tx h p f v
  have hT := tx_T b
  rw [← a]
  constructor
  · funext i; unfold mtx; rw [s14_5, up_na _ (by omega)]
  · unfold txOk; rw [s14_5, up_na _ (by omega)]; exact b

theorem wd_1628 : Cond.methodLink RX12 292 yX12_readStep ∈ TBL := tb_tab (List.mem_of_getElem? (i := 1628) (by decide +kernel)) rfl
theorem wd_1631 : Cond.code yX12_readStep cX12_readStep 3 (none) ∈ TBL := tb_tab (List.mem_of_getElem? (i := 1631) (by decide +kernel)) rfl
theorem lk_X12_292 : amLk RX12 292 yX12_readStep cX12_readStep 3 (none) 1 := ⟨wd_1628, wd_12, wd_1631, by decide +kernel, by decide +kernel, by decide⟩
theorem wd_1630 : Cond.instanceMethod yX12_readStep ∈ TBL := tb_tab (List.mem_of_getElem? (i := 1630) (by decide +kernel)) rfl
theorem sl_X12_readStep : Cond.selects RX12 yX12_readStep yX12_readStep ∈ TBL := tb_sel (List.mem_of_getElem? (i := 70) (by decide +kernel)) rfl
def a_X12_readSeason : AC := [(0, vAload 0 1), (1, vAload 0 2), (2, vGetR TT 28 1 10 5), (5, vI 0 6), (6, vAload 0 7), (7, vGetI 28 6 10), (10, vCallMV w_X12_starts 28 3 13), (13, vI 0 14), (14, vIstore 1 15), (15, vI 1 16), (16, vIstore 2 17), (17, vIload 2 18), (18, vIfEq 91 21), (21, vAload 0 22), (22, vI 3 23), (23, vI 64 25), (25, vIload 1 26), (26, vIadd 27), (27, vImul 28), (28, vCallMV w_X12_readStep 28 1 31), (31, vAload 0 32), (32, vGetI 28 11 35), (35, vI (-1) 36), (36, vIcEq 40 39), (39, vVret), (40, vIinc 1 1 43), (43, vAload 0 44), (44, vCallM w_X12_look 28 0 47), (47, vI 59 49), (49, vIcNe 56 52), (52, vI 1 53), (53, vGoto 57), (56, vI 0 57), (57, vIstore 2 58), (58, vIload 2 59), (59, vIfEq 74 62), (62, vIload 1 63), (63, vI 16 65), (65, vIcNe 74 68), (68, vAload 0 69), (69, vCallM w_X12_fails 28 0 72), (72, vPop 73), (73, vVret), (74, vIload 2 75), (75, vIfEq 17 78), (78, vAload 0 79), (79, vDup 80), (80, vGetI 28 10 83), (83, vI 1 84), (84, vIadd 85), (85, vPutI 28 10 88), (88, vGoto 17), (91, vAload 0 92), (92, vGetR TT 28 27 8 95), (95, vI 4 96), (96, vIload 1 97), (97, vIast TT 98), (98, vAload 0 99), (99, vCallM w_X12_look 28 0 102), (102, vI (-1) 103), (103, vIcEq 111 106), (106, vAload 0 107), (107, vCallM w_X12_fails 28 0 110), (110, vPop 111), (111, vVret)]
theorem k_X12_readSeason_0 : look a_X12_readSeason 0 = vAload 0 1 := rfl
theorem k_X12_readSeason_1 : look a_X12_readSeason 1 = vAload 0 2 := rfl
theorem k_X12_readSeason_2 : look a_X12_readSeason 2 = vGetR TT 28 1 10 5 := rfl
theorem k_X12_readSeason_5 : look a_X12_readSeason 5 = vI 0 6 := rfl
theorem k_X12_readSeason_6 : look a_X12_readSeason 6 = vAload 0 7 := rfl
theorem k_X12_readSeason_7 : look a_X12_readSeason 7 = vGetI 28 6 10 := rfl
theorem k_X12_readSeason_10 : look a_X12_readSeason 10 = vCallMV w_X12_starts 28 3 13 := rfl
theorem k_X12_readSeason_13 : look a_X12_readSeason 13 = vI 0 14 := rfl
theorem k_X12_readSeason_14 : look a_X12_readSeason 14 = vIstore 1 15 := rfl
theorem k_X12_readSeason_15 : look a_X12_readSeason 15 = vI 1 16 := rfl
theorem k_X12_readSeason_16 : look a_X12_readSeason 16 = vIstore 2 17 := rfl
theorem k_X12_readSeason_17 : look a_X12_readSeason 17 = vIload 2 18 := rfl
theorem k_X12_readSeason_18 : look a_X12_readSeason 18 = vIfEq 91 21 := rfl
theorem k_X12_readSeason_21 : look a_X12_readSeason 21 = vAload 0 22 := rfl
theorem k_X12_readSeason_22 : look a_X12_readSeason 22 = vI 3 23 := rfl
theorem k_X12_readSeason_23 : look a_X12_readSeason 23 = vI 64 25 := rfl
theorem k_X12_readSeason_25 : look a_X12_readSeason 25 = vIload 1 26 := rfl
theorem k_X12_readSeason_26 : look a_X12_readSeason 26 = vIadd 27 := rfl
theorem k_X12_readSeason_27 : look a_X12_readSeason 27 = vImul 28 := rfl
theorem k_X12_readSeason_28 : look a_X12_readSeason 28 = vCallMV w_X12_readStep 28 1 31 := rfl
theorem k_X12_readSeason_31 : look a_X12_readSeason 31 = vAload 0 32 := rfl
theorem k_X12_readSeason_32 : look a_X12_readSeason 32 = vGetI 28 11 35 := rfl
theorem k_X12_readSeason_35 : look a_X12_readSeason 35 = vI (-1) 36 := rfl
theorem k_X12_readSeason_36 : look a_X12_readSeason 36 = vIcEq 40 39 := rfl
theorem k_X12_readSeason_39 : look a_X12_readSeason 39 = vVret := rfl
theorem k_X12_readSeason_40 : look a_X12_readSeason 40 = vIinc 1 1 43 := rfl
theorem k_X12_readSeason_43 : look a_X12_readSeason 43 = vAload 0 44 := rfl
theorem k_X12_readSeason_44 : look a_X12_readSeason 44 = vCallM w_X12_look 28 0 47 := rfl
theorem k_X12_readSeason_47 : look a_X12_readSeason 47 = vI 59 49 := rfl
theorem k_X12_readSeason_49 : look a_X12_readSeason 49 = vIcNe 56 52 := rfl
theorem k_X12_readSeason_52 : look a_X12_readSeason 52 = vI 1 53 := rfl
theorem k_X12_readSeason_53 : look a_X12_readSeason 53 = vGoto 57 := rfl
theorem k_X12_readSeason_56 : look a_X12_readSeason 56 = vI 0 57 := rfl
theorem k_X12_readSeason_57 : look a_X12_readSeason 57 = vIstore 2 58 := rfl
theorem k_X12_readSeason_58 : look a_X12_readSeason 58 = vIload 2 59 := rfl
theorem k_X12_readSeason_59 : look a_X12_readSeason 59 = vIfEq 74 62 := rfl
theorem k_X12_readSeason_62 : look a_X12_readSeason 62 = vIload 1 63 := rfl
theorem k_X12_readSeason_63 : look a_X12_readSeason 63 = vI 16 65 := rfl
theorem k_X12_readSeason_65 : look a_X12_readSeason 65 = vIcNe 74 68 := rfl
theorem k_X12_readSeason_68 : look a_X12_readSeason 68 = vAload 0 69 := rfl
theorem k_X12_readSeason_69 : look a_X12_readSeason 69 = vCallM w_X12_fails 28 0 72 := rfl
theorem k_X12_readSeason_72 : look a_X12_readSeason 72 = vPop 73 := rfl
theorem k_X12_readSeason_73 : look a_X12_readSeason 73 = vVret := rfl
theorem k_X12_readSeason_74 : look a_X12_readSeason 74 = vIload 2 75 := rfl
theorem k_X12_readSeason_75 : look a_X12_readSeason 75 = vIfEq 17 78 := rfl
theorem k_X12_readSeason_78 : look a_X12_readSeason 78 = vAload 0 79 := rfl
theorem k_X12_readSeason_79 : look a_X12_readSeason 79 = vDup 80 := rfl
theorem k_X12_readSeason_80 : look a_X12_readSeason 80 = vGetI 28 10 83 := rfl
theorem k_X12_readSeason_83 : look a_X12_readSeason 83 = vI 1 84 := rfl
theorem k_X12_readSeason_84 : look a_X12_readSeason 84 = vIadd 85 := rfl
theorem k_X12_readSeason_85 : look a_X12_readSeason 85 = vPutI 28 10 88 := rfl
theorem k_X12_readSeason_88 : look a_X12_readSeason 88 = vGoto 17 := rfl
theorem k_X12_readSeason_91 : look a_X12_readSeason 91 = vAload 0 92 := rfl
theorem k_X12_readSeason_92 : look a_X12_readSeason 92 = vGetR TT 28 27 8 95 := rfl
theorem k_X12_readSeason_95 : look a_X12_readSeason 95 = vI 4 96 := rfl
theorem k_X12_readSeason_96 : look a_X12_readSeason 96 = vIload 1 97 := rfl
theorem k_X12_readSeason_97 : look a_X12_readSeason 97 = vIast TT 98 := rfl
theorem k_X12_readSeason_98 : look a_X12_readSeason 98 = vAload 0 99 := rfl
theorem k_X12_readSeason_99 : look a_X12_readSeason 99 = vCallM w_X12_look 28 0 102 := rfl
theorem k_X12_readSeason_102 : look a_X12_readSeason 102 = vI (-1) 103 := rfl
theorem k_X12_readSeason_103 : look a_X12_readSeason 103 = vIcEq 111 106 := rfl
theorem k_X12_readSeason_106 : look a_X12_readSeason 106 = vAload 0 107 := rfl
theorem k_X12_readSeason_107 : look a_X12_readSeason 107 = vCallM w_X12_fails 28 0 110 := rfl
theorem k_X12_readSeason_110 : look a_X12_readSeason 110 = vPop 111 := rfl
theorem k_X12_readSeason_111 : look a_X12_readSeason 111 = vVret := rfl
theorem o_X12_readSeason {X : amX} (e1 : XT X = TT) (e2 : XD X = 6) (hB : amB X RX12 cX12_readSeason (none) 3) : ∀ pc, amOK X pc (look a_X12_readSeason pc) := by
  have hT : amTok (XT X) := e1 ▸ TT_ok
  refine look_ok ?_
  unfold a_X12_readSeason
  refine fc (ok_aload_n hB dX12_readSeason_0) ?_
  refine fc (ok_aload_n hB dX12_readSeason_1) ?_
  refine fc (okt_getR e1 hB hT fl_X12_9 rfl af_12_1 at_12_1 (by decide) dX12_readSeason_2) ?_
  refine fc (ok_iconst hB dX12_readSeason_5) ?_
  refine fc (ok_aload_n hB dX12_readSeason_6) ?_
  refine fc (ok_getI hB hT fl_X12_124 rfl rfl (Or.inl af_12_6) dX12_readSeason_7) ?_
  refine fc (ok_callMV hB hT (e1 ▸ s_X12_starts) lk_X12_222 (by rw [e2]; decide) (c := 12) rfl rfl rfl wd_1510 sl_X12_starts dX12_readSeason_10) ?_
  refine fc (ok_iconst hB dX12_readSeason_13) ?_
  refine fc (ok_istore_n hB (by decide) dX12_readSeason_14) ?_
  refine fc (ok_iconst hB dX12_readSeason_15) ?_
  refine fc (ok_istore_n hB (by decide) dX12_readSeason_16) ?_
  refine fc (ok_iload_n hB dX12_readSeason_17) ?_
  refine fc (ok_if_eq hB (t := 91) (by decide) dX12_readSeason_18) ?_
  refine fc (ok_aload_n hB dX12_readSeason_21) ?_
  refine fc (ok_iconst hB dX12_readSeason_22) ?_
  refine fc (ok_bipush hB dX12_readSeason_23 (by decide)) ?_
  refine fc (ok_iload_n hB dX12_readSeason_25) ?_
  refine fc (ok_iadd hB dX12_readSeason_26) ?_
  refine fc (ok_imul hB dX12_readSeason_27) ?_
  refine fc (ok_callMV hB hT (e1 ▸ s_X12_readStep) lk_X12_292 (by rw [e2]; decide) (c := 12) rfl rfl rfl wd_1630 sl_X12_readStep dX12_readSeason_28) ?_
  refine fc (ok_aload_n hB dX12_readSeason_31) ?_
  refine fc (ok_getI hB hT fl_X12_143 rfl rfl (Or.inl af_12_11) dX12_readSeason_32) ?_
  refine fc (ok_iconst hB dX12_readSeason_35) ?_
  refine fc (ok_icmp_eq hB (t := 40) (by decide) dX12_readSeason_36) ?_
  refine fc (ok_vret hB dX12_readSeason_39) ?_
  refine fc (ok_iinc hB (by decide) dX12_readSeason_40) ?_
  refine fc (ok_aload_n hB dX12_readSeason_43) ?_
  refine fc (ok_callM hB hT (e1 ▸ s_X12_look) lk_X12_153 (by rw [e2]; decide) (c := 12) rfl rfl rfl wd_1521 sl_X12_look dX12_readSeason_44) ?_
  refine fc (ok_bipush hB dX12_readSeason_47 (by decide)) ?_
  refine fc (ok_icmp_ne hB (t := 56) (by decide) dX12_readSeason_49) ?_
  refine fc (ok_iconst hB dX12_readSeason_52) ?_
  refine fc (ok_goto hB (t := 57) (by decide) dX12_readSeason_53) ?_
  refine fc (ok_iconst hB dX12_readSeason_56) ?_
  refine fc (ok_istore_n hB (by decide) dX12_readSeason_57) ?_
  refine fc (ok_iload_n hB dX12_readSeason_58) ?_
  refine fc (ok_if_eq hB (t := 74) (by decide) dX12_readSeason_59) ?_
  refine fc (ok_iload_n hB dX12_readSeason_62) ?_
  refine fc (ok_bipush hB dX12_readSeason_63 (by decide)) ?_
  refine fc (ok_icmp_ne hB (t := 74) (by decide) dX12_readSeason_65) ?_
  refine fc (ok_aload_n hB dX12_readSeason_68) ?_
  refine fc (ok_callM hB hT (e1 ▸ s_X12_fails) lk_X12_149 (by rw [e2]; decide) (c := 12) rfl rfl rfl wd_1525 sl_X12_fails dX12_readSeason_69) ?_
  refine fc (ok_pop hB dX12_readSeason_72) ?_
  refine fc (ok_vret hB dX12_readSeason_73) ?_
  refine fc (ok_iload_n hB dX12_readSeason_74) ?_
  refine fc (ok_if_eq hB (t := 17) (by decide) dX12_readSeason_75) ?_
  refine fc (ok_aload_n hB dX12_readSeason_78) ?_
  refine fc (ok_dup hB dX12_readSeason_79) ?_
  refine fc (ok_getI hB hT fl_X12_134 rfl rfl (Or.inl af_12_10) dX12_readSeason_80) ?_
  refine fc (ok_iconst hB dX12_readSeason_83) ?_
  refine fc (ok_iadd hB dX12_readSeason_84) ?_
  refine fc (ok_putI hB hT fp_X12_134 rfl rfl rfl af_12_10 dX12_readSeason_85) ?_
  refine fc (ok_goto hB (t := 17) (by decide) dX12_readSeason_88) ?_
  refine fc (ok_aload_n hB dX12_readSeason_91) ?_
  refine fc (okt_getR e1 hB hT fl_X12_64 rfl af_12_27 at_12_27 (by decide) dX12_readSeason_92) ?_
  refine fc (ok_iconst hB dX12_readSeason_95) ?_
  refine fc (ok_iload_n hB dX12_readSeason_96) ?_
  refine fc (okt_iastore e1 hB dX12_readSeason_97) ?_
  refine fc (ok_aload_n hB dX12_readSeason_98) ?_
  refine fc (ok_callM hB hT (e1 ▸ s_X12_look) lk_X12_153 (by rw [e2]; decide) (c := 12) rfl rfl rfl wd_1521 sl_X12_look dX12_readSeason_99) ?_
  refine fc (ok_iconst hB dX12_readSeason_102) ?_
  refine fc (ok_icmp_eq hB (t := 111) (by decide) dX12_readSeason_103) ?_
  refine fc (ok_aload_n hB dX12_readSeason_106) ?_
  refine fc (ok_callM hB hT (e1 ▸ s_X12_fails) lk_X12_149 (by rw [e2]; decide) (c := 12) rfl rfl rfl wd_1525 sl_X12_fails dX12_readSeason_107) ?_
  refine fc (ok_pop hB dX12_readSeason_110) ?_
  refine fc (ok_vret hB dX12_readSeason_111) ?_
  exact fn
def inv_rse (m : Mem) (R : Int × Int × (Int → Int)) (n pc : Nat) (ls st : List AV) (σ' : Mem) : Prop := st = [] ∧ ∃ (i : Int) (vF : Int → Int), 0 ≤ i ∧
  ((∃ (k' : Nat) (p : Int) (v : Int → Int), pc = 17 ∧ n = 2 * k' + 1 ∧ i + k' = 16 ∧ 1 ≤ k' ∧ ls = [(28, 5000), (0, i), (0, 1)] ∧ σ' = seM m p (-1) v ∧ 0 ≤ p ∧ p ≤ m 5000 9 ∧ (∀ k, 0 ≤ k → k < i * 3 → v k = vF k) ∧ seasF (mtx m) (m 5000 9) k' i p vF = R) ∨
   (∃ (p : Int) (v : Int → Int), pc = 17 ∧ n = 0 ∧ i ≤ 16 ∧ ls = [(28, 5000), (0, i), (0, 0)] ∧ σ' = seM m p (-1) v ∧ 0 ≤ p ∧ p ≤ m 5000 9 ∧ (∀ k, 0 ≤ k → k < i * 3 → v k = vF k) ∧ (mtx m (sk (mtx m) (m 5000 9) p) = -1 → R = (-1, i, vF)) ∧ (mtx m (sk (mtx m) (m 5000 9) p) ≠ -1 → R.1 = sk (mtx m) (m 5000 9) p)) ∨
   (∃ (f q : Int) (v : Int → Int), pc = 31 ∧ ls = [(28, 5000), (0, i), (0, 1)] ∧ i < 16 ∧ σ' = seM m q f v ∧ 0 ≤ f ∧ f ≤ 240 ∧ R.1 = f) ∨
   (∃ (k' : Nat) (p : Int) (v : Int → Int), pc = 31 ∧ n = 2 * k' + 2 ∧ i + 1 + k' = 16 ∧ ls = [(28, 5000), (0, i), (0, 1)] ∧ σ' = seM m p (-1) v ∧ 0 ≤ p ∧ p ≤ m 5000 9 ∧ (∀ k, 0 ≤ k → k < (i + 1) * 3 → v k = vF k) ∧ (mtx m (sk (mtx m) (m 5000 9) p) = -1 → R = (-1, i + 1, vF)) ∧ (mtx m (sk (mtx m) (m 5000 9) p) ≠ -1 → mtx m (sk (mtx m) (m 5000 9) p) ≠ 59 ∨ i + 1 = 16 → R.1 = sk (mtx m) (m 5000 9) p) ∧ (mtx m (sk (mtx m) (m 5000 9) p) = 59 → i + 1 ≠ 16 → seasF (mtx m) (m 5000 9) k' (i + 1) (sk (mtx m) (m 5000 9) p + 1) vF = R)))
def w_X12_readSeason : WP := fun av σ Q => av = [(28, 5000)] ∧ (txtOk σ 5001 0 (σ 5000 6) ∧ ((seasF (txt σ 5001 0 (σ 5000 6)) (σ 5000 6) 16 0 0 (fun _ => 0)).1 ≠ -1 → ∀ τ, SEF σ τ → τ 5000 11 = (seasF (txt σ 5001 0 (σ 5000 6)) (σ 5000 6) 16 0 0 (fun _ => 0)).1 → Q (6, 0) τ) ∧ ((seasF (txt σ 5001 0 (σ 5000 6)) (σ 5000 6) 16 0 0 (fun _ => 0)).1 = -1 → ∀ τ, SEF σ τ → τ 5000 11 = -1 → τ 5014 4 = (seasF (txt σ 5001 0 (σ 5000 6)) (σ 5000 6) 16 0 0 (fun _ => 0)).2.1 → (∀ k, 0 ≤ k → k < (seasF (txt σ 5001 0 (σ 5000 6)) (σ 5000 6) 16 0 0 (fun _ => 0)).2.1 * 3 → τ 5013 (192 + k) = (seasF (txt σ 5001 0 (σ 5000 6)) (σ 5000 6) 16 0 0 (fun _ => 0)).2.2 k) → Q (6, 0) τ))
theorem w_X12_readSeason_e  (σ : Mem) (Q : AV → Mem → Prop) : w_X12_readSeason [(28, 5000)] σ Q = (txtOk σ 5001 0 (σ 5000 6) ∧ ((seasF (txt σ 5001 0 (σ 5000 6)) (σ 5000 6) 16 0 0 (fun _ => 0)).1 ≠ -1 → ∀ τ, SEF σ τ → τ 5000 11 = (seasF (txt σ 5001 0 (σ 5000 6)) (σ 5000 6) 16 0 0 (fun _ => 0)).1 → Q (6, 0) τ) ∧ ((seasF (txt σ 5001 0 (σ 5000 6)) (σ 5000 6) 16 0 0 (fun _ => 0)).1 = -1 → ∀ τ, SEF σ τ → τ 5000 11 = -1 → τ 5014 4 = (seasF (txt σ 5001 0 (σ 5000 6)) (σ 5000 6) 16 0 0 (fun _ => 0)).2.1 → (∀ k, 0 ≤ k → k < (seasF (txt σ 5001 0 (σ 5000 6)) (σ 5000 6) 16 0 0 (fun _ => 0)).2.1 * 3 → τ 5013 (192 + k) = (seasF (txt σ 5001 0 (σ 5000 6)) (σ 5000 6) 16 0 0 (fun _ => 0)).2.2 k) → Q (6, 0) τ)) := by
  apply propext; constructor
  · rintro ⟨h9, hb9⟩; cases h9; exact hb9
  · intro hb9; exact ⟨rfl, hb9⟩

set_option maxRecDepth 100000 in
set_option maxHeartbeats 4000000 in
theorem s_X12_readSeason : ∀ av σ Q, w_X12_readSeason av σ Q → amCall 6 0 0 TT yX12_readSeason cX12_readSeason 3 (none) av σ Q := by
  rintro av σ Q ⟨rfl, htx, hq1, hq2⟩
  obtain ⟨ht, em, e9⟩ := sts_tx htx
  have hS := SEF_se σ 5001 0 (σ 5000 6)
  generalize hR : seasF (txt σ 5001 0 (σ 5000 6)) (σ 5000 6) 16 0 0 (fun _ => 0) = R at hq1 hq2
  have hid := se_id (m := stsM σ 5001 0 (σ 5000 6)) (p := 0) (f := -1) rfl rfl
  rw [← em] at hR
  generalize hm : stsM σ 5001 0 (σ 5000 6) = m at *
  rw [← e9] at hR
  have n0 := ht.1
  have n1 := ht.2.1
  have hte := mtx_n ht
  have Mt : ∀ p f v, mtx (seM m p f v) = mtx m := fun p f v => (se_tx ht p f v).1
  have MtO : ∀ p f v, txOk (seM m p f v) = True := fun p f v => eq_true (se_tx ht p f v).2
  have Mt4 : ∀ p f v x, mtx (up (seM m p f v) 5014 4 x) = mtx m := fun p f v x => (s14_tx ht p f x v).1
  have MtO4 : ∀ p f v x, txOk (up (seM m p f v) 5014 4 x) = True := fun p f v x => eq_true (s14_tx ht p f x v).2
  refine am_m [17, 31] (inv_rse m R) (own := RX12) (A := look a_X12_readSeason) (fun X e1 e2 hB => o_X12_readSeason e1 e2 hB) rfl (by decide +kernel) rfl rfl ?_ ⟨60, ?_⟩ (w := 3)
  · rintro n pc ls st σ' ⟨rfl, i, vF, i0, ⟨k', p, v, rfl, rfl, hk, k1, rfl, rfl, p0, p1, hv, hs⟩ | ⟨p, v, rfl, rfl, i16, rfl, rfl, p0, p1, hv, hA, hB⟩ | ⟨f, q, v, rfl, rfl, i16, rfl, f0, f1, hf⟩ | ⟨k', p, v, rfl, rfl, hk, rfl, rfl, p0, p1, hv, hA, hB, hC⟩⟩
    · obtain ⟨k2, rfl⟩ : ∃ k2, k' = k2 + 1 := ⟨k' - 1, by omega⟩
      unfold seasF at hs
      have sb := stepF_b hte ⟨p0, p1⟩
      have i9 : (stepF (mtx m) (m 5000 9) p).1 = -1 → ∀ v' q, ∃ k3, k3 < 2 * (k2 + 1) + 1 ∧ inv_rse m R k3 31 [(28, 5000), (0, i), (0, 1)] [] (seM m q (stepF (mtx m) (m 5000 9) p).2.1 v') := fun e v' q =>
        ⟨0, by omega, rfl, i, vF, i0, Or.inr (Or.inr (Or.inl ⟨_, q, v', rfl, rfl, by omega, rfl, by omega, by omega, by rw [if_pos e] at hs; rw [← hs]⟩))⟩
      have i8 : (stepF (mtx m) (m 5000 9) p).1 ≠ -1 → ∃ k3, k3 < 2 * (k2 + 1) + 1 ∧ inv_rse m R k3 31 [(28, 5000), (0, i), (0, 1)] [] (seM m (stepF (mtx m) (m 5000 9) p).2.1 (-1) (upf (upf (upf v (3 * (64 + i) - 192) (stepF (mtx m) (m 5000 9) p).1) (3 * (64 + i) + 1 - 192) (stepF (mtx m) (m 5000 9) p).2.2.1) (3 * (64 + i) + 2 - 192) (stepF (mtx m) (m 5000 9) p).2.2.2)) := fun e => by
        rw [if_neg e] at hs
        refine ⟨2 * k2 + 2, by omega, rfl, i, upf (upf (upf vF (i * 3) (stepF (mtx m) (m 5000 9) p).1) (i * 3 + 1) (stepF (mtx m) (m 5000 9) p).2.2.1) (i * 3 + 2) (stepF (mtx m) (m 5000 9) p).2.2.2, i0, Or.inr (Or.inr (Or.inr ⟨k2, _, _, rfl, rfl, by omega, rfl, rfl, by omega, by omega, fun k h0 h1 => ?_, fun a => ?_, fun a b => ?_, fun a b => ?_⟩))⟩
        · rw [show 3 * (64 + i) - 192 = i * 3 by omega, show 3 * (64 + i) + 1 - 192 = i * 3 + 1 by omega, show 3 * (64 + i) + 2 - 192 = i * 3 + 2 by omega]
          unfold upf
          by_cases g2 : k = i * 3 + 2
          · rw [if_pos g2, if_pos g2]
          · rw [if_neg g2, if_neg g2]
            by_cases g1 : k = i * 3 + 1
            · rw [if_pos g1, if_pos g1]
            · rw [if_neg g1, if_neg g1]
              by_cases g0 : k = i * 3
              · rw [if_pos g0, if_pos g0]
              · rw [if_neg g0, if_neg g0]; exact hv k h0 (by omega)
        · rw [if_pos a] at hs; exact hs.symm
        · rw [if_neg a, if_pos b] at hs; rw [← hs]
        · rw [if_neg (by omega), if_neg (by omega)] at hs; exact hs
      refine ⟨60, ?_⟩
      simp only [↓reduceIte, inR_0, inR_1, inR_m, vSw2_e, swP_n, swP_c, vI_e, vL_e, vNull_e, vIload_e, vLload_e, vAload_e, vIstore_e, vLstore_e, vAstore_e, vIinc_e, vIadd_e, vIsub_e, vImul_e, vIand_e, vIor_e, vIxor_e, vIshl_e, vIshr_e, vIushr_e, vIdiv_e, vIrem_e, vLadd_e, vLsub_e, vLmul_e, vLand_e, vLor_e, vLxor_e, vLdiv_e, vLrem_e, vLushr_e, vLshl_e, vLcmp_e, vIneg_e, vI2l_e, vL2i_e, vI2b_e, vI2c_e, vDup_e, vPop_e, vDup2_e, vGoto_e, vIcEq_e, vIfEq_e, vIcNe_e, vIfNe_e, vIcLt_e, vIfLt_e, vIcGe_e, vIfGe_e, vIcGt_e, vIfGt_e, vIcLe_e, vIfLe_e, vNonnull_e, vSw_e, vGetI_e, vGetL_e, vGetR_e, vPutI_e, vPutZ_e, vPutL_e, vPutR_e, vIald_e, vIald_s, vLald_e, vBald_e, vBald_s, vAald_e, vIast_e, vLast_e, vBast_e, vAast_e, vAlen_e8, vAlen_e9, vAlen_e10, vAlen_e11, vAlen_e5, vAlen_e3, vGets_e, vCompact_e, vLdcS_e, vIret_e, vZret_e, vCret_e, vBret_e, vLret_e, vVret_e, vAret_e, vCallM_e0, vCallMV_e0, vCallS_e0, vCallSV_e0, vCallM_e1, vCallMV_e1, vCallS_e1, vCallSV_e1, vCallM_e2, vCallMV_e2, vCallS_e2, vCallSV_e2, vCallM_e3, vCallMV_e3, vCallS_e3, vCallSV_e3, vCallM_e4, vCallMV_e4, vCallS_e4, vCallSV_e4, vCallM_e5, vCallMV_e5, vCallS_e5, vCallSV_e5, vCallM_e6, vCallMV_e6, vCallS_e6, vCallSV_e6, vCallM_e7, vCallMV_e7, vCallS_e7, vCallSV_e7, vBad_e, vStrVal_e, vStrCod_e, vForm_e, vCallT_e0, vCallT_e1, vCallT_e2, vCopy_e, rf_0_0, rf_0_1, rf_0_2, rf_0_3, rf_0_4, rf_0_7, rf_0_10, rf_0_11, rf_0_12, rf_0_13, rf_0_14, rf_0_15, rf_0_16, rf_1_0, rf_3_0, rf_3_1, rf_6_0, rf_6_1, rf_9_0, rf_9_1, rf_9_3, rf_13_0, rf_13_1, rf_13_2, rf_16_0, rf_16_1, rf_16_2, rf_16_3, rf_21_0, rf_21_1, rf_21_2, rf_21_3, rf_26_0, rf_26_1, rf_26_2, rf_26_3, rf_26_4, rf_26_5, rf_26_6, rf_31_0, rf_31_2, rf_31_5, rf_31_6, rf_36_0, rf_36_1, rf_36_2, rf_36_3, rf_39_0, rf_39_1, rf_39_2, rf_41_0, rf_41_1, rf_41_2, rf_41_3, rf_5000_1, rf_5000_2, rf_5000_3, rf_5000_4, rf_5000_5, rf_5000_15, rf_5000_16, rf_5000_18, rf_5000_19, rf_5000_20, rf_5000_21, rf_5000_22, rf_5000_23, rf_5000_24, rf_5000_25, rf_5000_26, rf_5000_27, rf_5000_36, rf_5000_37, rf_5000_40, rf_5000_41, rf_5000_42, rf_5000_43, rf_5000_44, rf_5000_45, rf_5000_47, rf_5000_52, rf_5000_54, rf_5000_55, rf_100_0, rf_100_1, rf_103_0, rf_103_1, rf_106_0, rf_106_1, rf_109_0, rf_109_1, al_2, al_4, al_5, al_7, al_8, al_10, al_11, al_12, al_14, al_15, al_17, al_18, al_19, al_20, al_22, al_23, al_24, al_25, al_27, al_28, al_29, al_30, al_32, al_33, al_34, al_35, al_37, al_38, al_40, al_42, al_5001, al_5002, al_5003, al_5004, al_5005, al_5006, al_5007, al_5008, al_5009, al_5010, al_5011, al_5012, al_5013, al_5014, al_5015, al_5016, al_5017, al_5018, al_5019, al_5020, al_5021, al_5022, al_5023, al_5024, al_5025, al_5026, al_9000, al_101, al_102, al_104, al_105, al_107, al_108, al_110, al_111, vcs_e, lg_c0, lg_cs, lg_nil, set_c0, set_cs, okst_0, okst_s, acok_n, acok_c, List.contains_nil, List.contains_cons, Bool.or_false, Bool.false_or, Bool.false_eq_true, if_false, if_true, ite_self, ne_eq, true_and, and_true, not_false_eq_true, not_true_eq_false, false_imp_iff, true_imp_iff, Nat.ble_eq, Bool.and_eq_true, reduceCtorEq, or_false, false_or, or_true, true_or, false_and, and_false, and_self, Int.reduceLE, Int.reduceAdd, Int.reduceSub, Int.reduceMul, Int.reduceNeg, Int.reduceLT, Int.reduceEq, Int.reduceNe, Nat.reduceBEq, Nat.reduceBNe, Nat.reduceEqDiff, amCmp_in, amCmp_lt, amCmp_le, amCmp_gt, amCmp_ge, amCmp_eq, amCmp_ne, Nat.reduceLeDiff, Nat.reduceSub, Bool.and_true, Bool.true_and, Bool.and_self, Bool.or_true, Bool.true_or, isRf_3, isRf_4, isRf_5, isRf_8, isRf_9, isRf_10, isRf_11, isRf_15, isRf_16, isRf_17, isRf_18, isRf_19, isRf_20, isRf_21, isRf_22, isRf_23, isRf_24, isRf_25, isRf_26, isRf_27, isRf_28, k_X12_readSeason_0, k_X12_readSeason_1, k_X12_readSeason_2, k_X12_readSeason_5, k_X12_readSeason_6, k_X12_readSeason_7, k_X12_readSeason_10, k_X12_readSeason_13, k_X12_readSeason_14, k_X12_readSeason_15, k_X12_readSeason_16, k_X12_readSeason_17, k_X12_readSeason_18, k_X12_readSeason_21, k_X12_readSeason_22, k_X12_readSeason_23, k_X12_readSeason_25, k_X12_readSeason_26, k_X12_readSeason_27, k_X12_readSeason_28, k_X12_readSeason_31, k_X12_readSeason_32, k_X12_readSeason_35, k_X12_readSeason_36, k_X12_readSeason_39, k_X12_readSeason_40, k_X12_readSeason_43, k_X12_readSeason_44, k_X12_readSeason_47, k_X12_readSeason_49, k_X12_readSeason_52, k_X12_readSeason_53, k_X12_readSeason_56, k_X12_readSeason_57, k_X12_readSeason_58, k_X12_readSeason_59, k_X12_readSeason_62, k_X12_readSeason_63, k_X12_readSeason_65, k_X12_readSeason_68, k_X12_readSeason_69, k_X12_readSeason_72, k_X12_readSeason_73, k_X12_readSeason_74, k_X12_readSeason_75, k_X12_readSeason_78, k_X12_readSeason_79, k_X12_readSeason_80, k_X12_readSeason_83, k_X12_readSeason_84, k_X12_readSeason_85, k_X12_readSeason_88, k_X12_readSeason_91, k_X12_readSeason_92, k_X12_readSeason_95, k_X12_readSeason_96, k_X12_readSeason_97, k_X12_readSeason_98, k_X12_readSeason_99, k_X12_readSeason_102, k_X12_readSeason_103, k_X12_readSeason_106, k_X12_readSeason_107, k_X12_readSeason_110, k_X12_readSeason_111, w_X12_fails_e, w_X12_look_e, w_X12_readStep_e, w_X12_starts_e]
      repeat' (first | apply And.intro | intro _)
      all_goals first | omega | exact absurd trivial (by assumption) | skip
      all_goals (exact ⟨m, p, v, rfl, ht, p0, p1, by omega, by omega, i9, i8⟩)
    · have s1 := sk_b (mtx m) p1
      have b1 := mtx_b ht (sk (mtx m) (m 5000 9) p)
      have h8 : mtx m (sk (mtx m) (m 5000 9) p) ≠ -1 → Q (6, 0) (up (seM m (sk (mtx m) (m 5000 9) p) (sk (mtx m) (m 5000 9) p) v) 5014 4 i) := fun e =>
        hq1 (by rw [hB e]; omega) _ (SEF_14 (hS _ _ _) i) (by rw [s14_5, se_11, hB e])
      have h9 : mtx m (sk (mtx m) (m 5000 9) p) = -1 → Q (6, 0) (up (seM m (sk (mtx m) (m 5000 9) p) (-1) v) 5014 4 i) := fun e => by
        have hRe := hA e
        refine hq2 (by rw [hRe]) _ (SEF_14 (hS _ _ _) i) (by rw [s14_5, se_11]) (by rw [hRe, up_s]) (fun k k0 k1 => ?_)
        rw [hRe] at k1 ⊢
        dsimp only at k1 ⊢
        rw [up_na _ (by decide), se_13 _ _ _ _ k0 (by omega)]
        exact hv k k0 (by omega)
      refine ⟨60, ?_⟩
      simp only [↓reduceIte, inR_0, inR_1, inR_m, vSw2_e, swP_n, swP_c, vI_e, vL_e, vNull_e, vIload_e, vLload_e, vAload_e, vIstore_e, vLstore_e, vAstore_e, vIinc_e, vIadd_e, vIsub_e, vImul_e, vIand_e, vIor_e, vIxor_e, vIshl_e, vIshr_e, vIushr_e, vIdiv_e, vIrem_e, vLadd_e, vLsub_e, vLmul_e, vLand_e, vLor_e, vLxor_e, vLdiv_e, vLrem_e, vLushr_e, vLshl_e, vLcmp_e, vIneg_e, vI2l_e, vL2i_e, vI2b_e, vI2c_e, vDup_e, vPop_e, vDup2_e, vGoto_e, vIcEq_e, vIfEq_e, vIcNe_e, vIfNe_e, vIcLt_e, vIfLt_e, vIcGe_e, vIfGe_e, vIcGt_e, vIfGt_e, vIcLe_e, vIfLe_e, vNonnull_e, vSw_e, vGetI_e, vGetL_e, vGetR_e, vPutI_e, vPutZ_e, vPutL_e, vPutR_e, vIald_e, vIald_s, vLald_e, vBald_e, vBald_s, vAald_e, vIast_e, vLast_e, vBast_e, vAast_e, vAlen_e8, vAlen_e9, vAlen_e10, vAlen_e11, vAlen_e5, vAlen_e3, vGets_e, vCompact_e, vLdcS_e, vIret_e, vZret_e, vCret_e, vBret_e, vLret_e, vVret_e, vAret_e, vCallM_e0, vCallMV_e0, vCallS_e0, vCallSV_e0, vCallM_e1, vCallMV_e1, vCallS_e1, vCallSV_e1, vCallM_e2, vCallMV_e2, vCallS_e2, vCallSV_e2, vCallM_e3, vCallMV_e3, vCallS_e3, vCallSV_e3, vCallM_e4, vCallMV_e4, vCallS_e4, vCallSV_e4, vCallM_e5, vCallMV_e5, vCallS_e5, vCallSV_e5, vCallM_e6, vCallMV_e6, vCallS_e6, vCallSV_e6, vCallM_e7, vCallMV_e7, vCallS_e7, vCallSV_e7, vBad_e, vStrVal_e, vStrCod_e, vForm_e, vCallT_e0, vCallT_e1, vCallT_e2, vCopy_e, rf_0_0, rf_0_1, rf_0_2, rf_0_3, rf_0_4, rf_0_7, rf_0_10, rf_0_11, rf_0_12, rf_0_13, rf_0_14, rf_0_15, rf_0_16, rf_1_0, rf_3_0, rf_3_1, rf_6_0, rf_6_1, rf_9_0, rf_9_1, rf_9_3, rf_13_0, rf_13_1, rf_13_2, rf_16_0, rf_16_1, rf_16_2, rf_16_3, rf_21_0, rf_21_1, rf_21_2, rf_21_3, rf_26_0, rf_26_1, rf_26_2, rf_26_3, rf_26_4, rf_26_5, rf_26_6, rf_31_0, rf_31_2, rf_31_5, rf_31_6, rf_36_0, rf_36_1, rf_36_2, rf_36_3, rf_39_0, rf_39_1, rf_39_2, rf_41_0, rf_41_1, rf_41_2, rf_41_3, rf_5000_1, rf_5000_2, rf_5000_3, rf_5000_4, rf_5000_5, rf_5000_15, rf_5000_16, rf_5000_18, rf_5000_19, rf_5000_20, rf_5000_21, rf_5000_22, rf_5000_23, rf_5000_24, rf_5000_25, rf_5000_26, rf_5000_27, rf_5000_36, rf_5000_37, rf_5000_40, rf_5000_41, rf_5000_42, rf_5000_43, rf_5000_44, rf_5000_45, rf_5000_47, rf_5000_52, rf_5000_54, rf_5000_55, rf_100_0, rf_100_1, rf_103_0, rf_103_1, rf_106_0, rf_106_1, rf_109_0, rf_109_1, al_2, al_4, al_5, al_7, al_8, al_10, al_11, al_12, al_14, al_15, al_17, al_18, al_19, al_20, al_22, al_23, al_24, al_25, al_27, al_28, al_29, al_30, al_32, al_33, al_34, al_35, al_37, al_38, al_40, al_42, al_5001, al_5002, al_5003, al_5004, al_5005, al_5006, al_5007, al_5008, al_5009, al_5010, al_5011, al_5012, al_5013, al_5014, al_5015, al_5016, al_5017, al_5018, al_5019, al_5020, al_5021, al_5022, al_5023, al_5024, al_5025, al_5026, al_9000, al_101, al_102, al_104, al_105, al_107, al_108, al_110, al_111, vcs_e, lg_c0, lg_cs, lg_nil, set_c0, set_cs, okst_0, okst_s, acok_n, acok_c, List.contains_nil, List.contains_cons, Bool.or_false, Bool.false_or, Bool.false_eq_true, if_false, if_true, ite_self, ne_eq, true_and, and_true, not_false_eq_true, not_true_eq_false, false_imp_iff, true_imp_iff, Nat.ble_eq, Bool.and_eq_true, reduceCtorEq, or_false, false_or, or_true, true_or, false_and, and_false, and_self, Int.reduceLE, Int.reduceAdd, Int.reduceSub, Int.reduceMul, Int.reduceNeg, Int.reduceLT, Int.reduceEq, Int.reduceNe, Nat.reduceBEq, Nat.reduceBNe, Nat.reduceEqDiff, amCmp_in, amCmp_lt, amCmp_le, amCmp_gt, amCmp_ge, amCmp_eq, amCmp_ne, Nat.reduceLeDiff, Nat.reduceSub, Bool.and_true, Bool.true_and, Bool.and_self, Bool.or_true, Bool.true_or, isRf_3, isRf_4, isRf_5, isRf_8, isRf_9, isRf_10, isRf_11, isRf_15, isRf_16, isRf_17, isRf_18, isRf_19, isRf_20, isRf_21, isRf_22, isRf_23, isRf_24, isRf_25, isRf_26, isRf_27, isRf_28, k_X12_readSeason_0, k_X12_readSeason_1, k_X12_readSeason_2, k_X12_readSeason_5, k_X12_readSeason_6, k_X12_readSeason_7, k_X12_readSeason_10, k_X12_readSeason_13, k_X12_readSeason_14, k_X12_readSeason_15, k_X12_readSeason_16, k_X12_readSeason_17, k_X12_readSeason_18, k_X12_readSeason_21, k_X12_readSeason_22, k_X12_readSeason_23, k_X12_readSeason_25, k_X12_readSeason_26, k_X12_readSeason_27, k_X12_readSeason_28, k_X12_readSeason_31, k_X12_readSeason_32, k_X12_readSeason_35, k_X12_readSeason_36, k_X12_readSeason_39, k_X12_readSeason_40, k_X12_readSeason_43, k_X12_readSeason_44, k_X12_readSeason_47, k_X12_readSeason_49, k_X12_readSeason_52, k_X12_readSeason_53, k_X12_readSeason_56, k_X12_readSeason_57, k_X12_readSeason_58, k_X12_readSeason_59, k_X12_readSeason_62, k_X12_readSeason_63, k_X12_readSeason_65, k_X12_readSeason_68, k_X12_readSeason_69, k_X12_readSeason_72, k_X12_readSeason_73, k_X12_readSeason_74, k_X12_readSeason_75, k_X12_readSeason_78, k_X12_readSeason_79, k_X12_readSeason_80, k_X12_readSeason_83, k_X12_readSeason_84, k_X12_readSeason_85, k_X12_readSeason_88, k_X12_readSeason_91, k_X12_readSeason_92, k_X12_readSeason_95, k_X12_readSeason_96, k_X12_readSeason_97, k_X12_readSeason_98, k_X12_readSeason_99, k_X12_readSeason_102, k_X12_readSeason_103, k_X12_readSeason_106, k_X12_readSeason_107, k_X12_readSeason_110, k_X12_readSeason_111, w_X12_fails_e, w_X12_look_e, w_X12_readStep_e, w_X12_starts_e, msk, Mt, MtO, Mt4, MtO4, s14_5, s14_c, s14_fa, se_10, se_9, se_11, se_u10, se_u11]
      repeat' (first | apply And.intro | intro _)
      all_goals first | omega | exact absurd trivial (by assumption) | exact h8 (by assumption) | exact h9 (by assumption) | exact h9 (by omega) | exact h8 (by omega) | exact ⟨by omega, by omega⟩
    · have h8 := hq1 (by rw [hf]; omega) _ (hS q f v) (by rw [se_11, hf])
      have fn : ¬ f = -1 := by omega
      refine ⟨60, ?_⟩
      simp only [↓reduceIte, inR_0, inR_1, inR_m, vSw2_e, swP_n, swP_c, vI_e, vL_e, vNull_e, vIload_e, vLload_e, vAload_e, vIstore_e, vLstore_e, vAstore_e, vIinc_e, vIadd_e, vIsub_e, vImul_e, vIand_e, vIor_e, vIxor_e, vIshl_e, vIshr_e, vIushr_e, vIdiv_e, vIrem_e, vLadd_e, vLsub_e, vLmul_e, vLand_e, vLor_e, vLxor_e, vLdiv_e, vLrem_e, vLushr_e, vLshl_e, vLcmp_e, vIneg_e, vI2l_e, vL2i_e, vI2b_e, vI2c_e, vDup_e, vPop_e, vDup2_e, vGoto_e, vIcEq_e, vIfEq_e, vIcNe_e, vIfNe_e, vIcLt_e, vIfLt_e, vIcGe_e, vIfGe_e, vIcGt_e, vIfGt_e, vIcLe_e, vIfLe_e, vNonnull_e, vSw_e, vGetI_e, vGetL_e, vGetR_e, vPutI_e, vPutZ_e, vPutL_e, vPutR_e, vIald_e, vIald_s, vLald_e, vBald_e, vBald_s, vAald_e, vIast_e, vLast_e, vBast_e, vAast_e, vAlen_e8, vAlen_e9, vAlen_e10, vAlen_e11, vAlen_e5, vAlen_e3, vGets_e, vCompact_e, vLdcS_e, vIret_e, vZret_e, vCret_e, vBret_e, vLret_e, vVret_e, vAret_e, vCallM_e0, vCallMV_e0, vCallS_e0, vCallSV_e0, vCallM_e1, vCallMV_e1, vCallS_e1, vCallSV_e1, vCallM_e2, vCallMV_e2, vCallS_e2, vCallSV_e2, vCallM_e3, vCallMV_e3, vCallS_e3, vCallSV_e3, vCallM_e4, vCallMV_e4, vCallS_e4, vCallSV_e4, vCallM_e5, vCallMV_e5, vCallS_e5, vCallSV_e5, vCallM_e6, vCallMV_e6, vCallS_e6, vCallSV_e6, vCallM_e7, vCallMV_e7, vCallS_e7, vCallSV_e7, vBad_e, vStrVal_e, vStrCod_e, vForm_e, vCallT_e0, vCallT_e1, vCallT_e2, vCopy_e, rf_0_0, rf_0_1, rf_0_2, rf_0_3, rf_0_4, rf_0_7, rf_0_10, rf_0_11, rf_0_12, rf_0_13, rf_0_14, rf_0_15, rf_0_16, rf_1_0, rf_3_0, rf_3_1, rf_6_0, rf_6_1, rf_9_0, rf_9_1, rf_9_3, rf_13_0, rf_13_1, rf_13_2, rf_16_0, rf_16_1, rf_16_2, rf_16_3, rf_21_0, rf_21_1, rf_21_2, rf_21_3, rf_26_0, rf_26_1, rf_26_2, rf_26_3, rf_26_4, rf_26_5, rf_26_6, rf_31_0, rf_31_2, rf_31_5, rf_31_6, rf_36_0, rf_36_1, rf_36_2, rf_36_3, rf_39_0, rf_39_1, rf_39_2, rf_41_0, rf_41_1, rf_41_2, rf_41_3, rf_5000_1, rf_5000_2, rf_5000_3, rf_5000_4, rf_5000_5, rf_5000_15, rf_5000_16, rf_5000_18, rf_5000_19, rf_5000_20, rf_5000_21, rf_5000_22, rf_5000_23, rf_5000_24, rf_5000_25, rf_5000_26, rf_5000_27, rf_5000_36, rf_5000_37, rf_5000_40, rf_5000_41, rf_5000_42, rf_5000_43, rf_5000_44, rf_5000_45, rf_5000_47, rf_5000_52, rf_5000_54, rf_5000_55, rf_100_0, rf_100_1, rf_103_0, rf_103_1, rf_106_0, rf_106_1, rf_109_0, rf_109_1, al_2, al_4, al_5, al_7, al_8, al_10, al_11, al_12, al_14, al_15, al_17, al_18, al_19, al_20, al_22, al_23, al_24, al_25, al_27, al_28, al_29, al_30, al_32, al_33, al_34, al_35, al_37, al_38, al_40, al_42, al_5001, al_5002, al_5003, al_5004, al_5005, al_5006, al_5007, al_5008, al_5009, al_5010, al_5011, al_5012, al_5013, al_5014, al_5015, al_5016, al_5017, al_5018, al_5019, al_5020, al_5021, al_5022, al_5023, al_5024, al_5025, al_5026, al_9000, al_101, al_102, al_104, al_105, al_107, al_108, al_110, al_111, vcs_e, lg_c0, lg_cs, lg_nil, set_c0, set_cs, okst_0, okst_s, acok_n, acok_c, List.contains_nil, List.contains_cons, Bool.or_false, Bool.false_or, Bool.false_eq_true, if_false, if_true, ite_self, ne_eq, true_and, and_true, not_false_eq_true, not_true_eq_false, false_imp_iff, true_imp_iff, Nat.ble_eq, Bool.and_eq_true, reduceCtorEq, or_false, false_or, or_true, true_or, false_and, and_false, and_self, Int.reduceLE, Int.reduceAdd, Int.reduceSub, Int.reduceMul, Int.reduceNeg, Int.reduceLT, Int.reduceEq, Int.reduceNe, Nat.reduceBEq, Nat.reduceBNe, Nat.reduceEqDiff, amCmp_in, amCmp_lt, amCmp_le, amCmp_gt, amCmp_ge, amCmp_eq, amCmp_ne, Nat.reduceLeDiff, Nat.reduceSub, Bool.and_true, Bool.true_and, Bool.and_self, Bool.or_true, Bool.true_or, isRf_3, isRf_4, isRf_5, isRf_8, isRf_9, isRf_10, isRf_11, isRf_15, isRf_16, isRf_17, isRf_18, isRf_19, isRf_20, isRf_21, isRf_22, isRf_23, isRf_24, isRf_25, isRf_26, isRf_27, isRf_28, k_X12_readSeason_0, k_X12_readSeason_1, k_X12_readSeason_2, k_X12_readSeason_5, k_X12_readSeason_6, k_X12_readSeason_7, k_X12_readSeason_10, k_X12_readSeason_13, k_X12_readSeason_14, k_X12_readSeason_15, k_X12_readSeason_16, k_X12_readSeason_17, k_X12_readSeason_18, k_X12_readSeason_21, k_X12_readSeason_22, k_X12_readSeason_23, k_X12_readSeason_25, k_X12_readSeason_26, k_X12_readSeason_27, k_X12_readSeason_28, k_X12_readSeason_31, k_X12_readSeason_32, k_X12_readSeason_35, k_X12_readSeason_36, k_X12_readSeason_39, k_X12_readSeason_40, k_X12_readSeason_43, k_X12_readSeason_44, k_X12_readSeason_47, k_X12_readSeason_49, k_X12_readSeason_52, k_X12_readSeason_53, k_X12_readSeason_56, k_X12_readSeason_57, k_X12_readSeason_58, k_X12_readSeason_59, k_X12_readSeason_62, k_X12_readSeason_63, k_X12_readSeason_65, k_X12_readSeason_68, k_X12_readSeason_69, k_X12_readSeason_72, k_X12_readSeason_73, k_X12_readSeason_74, k_X12_readSeason_75, k_X12_readSeason_78, k_X12_readSeason_79, k_X12_readSeason_80, k_X12_readSeason_83, k_X12_readSeason_84, k_X12_readSeason_85, k_X12_readSeason_88, k_X12_readSeason_91, k_X12_readSeason_92, k_X12_readSeason_95, k_X12_readSeason_96, k_X12_readSeason_97, k_X12_readSeason_98, k_X12_readSeason_99, k_X12_readSeason_102, k_X12_readSeason_103, k_X12_readSeason_106, k_X12_readSeason_107, k_X12_readSeason_110, k_X12_readSeason_111, w_X12_fails_e, w_X12_look_e, w_X12_readStep_e, w_X12_starts_e, se_11, fn]
      repeat' (first | apply And.intro | intro _)
      all_goals first | omega | exact absurd trivial (by assumption) | exact h8
    · have s1 := sk_b (mtx m) p1
      have b1 := mtx_b ht (sk (mtx m) (m 5000 9) p)
      have ss := sk_sk (mtx m) p1
      have h8 : mtx m (sk (mtx m) (m 5000 9) p) = 59 → i + 1 = 16 → Q (6, 0) (seM m (sk (mtx m) (m 5000 9) p) (sk (mtx m) (m 5000 9) p) v) := fun e e2 =>
        hq1 (by rw [hB (by omega) (Or.inr e2)]; omega) _ (hS _ _ _) (by rw [se_11, hB (by omega) (Or.inr e2)])
      have i9 : mtx m (sk (mtx m) (m 5000 9) p) = 59 → ¬ i + 1 = 16 → ∃ k3, k3 < 2 * k' + 2 ∧ inv_rse m R k3 17 [(28, 5000), (0, i + 1), (0, 1)] [] (seM m (sk (mtx m) (m 5000 9) p + 1) (-1) v) := fun e e2 => by
        have s2 := sk_lt hte (q := sk (mtx m) (m 5000 9) p) (by omega)
        exact ⟨2 * k' + 1, by omega, rfl, i + 1, vF, by omega, Or.inl ⟨k', _, v, rfl, rfl, by omega, by omega, rfl, rfl, by omega, by omega, hv, hC e e2⟩⟩
      have i8 : mtx m (sk (mtx m) (m 5000 9) p) ≠ 59 → ∃ k3, k3 < 2 * k' + 2 ∧ inv_rse m R k3 17 [(28, 5000), (0, i + 1), (0, 0)] [] (seM m (sk (mtx m) (m 5000 9) p) (-1) v) := fun e =>
        ⟨0, by omega, rfl, i + 1, vF, by omega, Or.inr (Or.inl ⟨_, v, rfl, rfl, by omega, rfl, rfl, by omega, by omega, hv, fun a => hA (by rw [ss] at a; exact a), fun a => by rw [ss] at a ⊢; exact hB a (Or.inl e)⟩)⟩
      refine ⟨60, ?_⟩
      simp only [↓reduceIte, inR_0, inR_1, inR_m, vSw2_e, swP_n, swP_c, vI_e, vL_e, vNull_e, vIload_e, vLload_e, vAload_e, vIstore_e, vLstore_e, vAstore_e, vIinc_e, vIadd_e, vIsub_e, vImul_e, vIand_e, vIor_e, vIxor_e, vIshl_e, vIshr_e, vIushr_e, vIdiv_e, vIrem_e, vLadd_e, vLsub_e, vLmul_e, vLand_e, vLor_e, vLxor_e, vLdiv_e, vLrem_e, vLushr_e, vLshl_e, vLcmp_e, vIneg_e, vI2l_e, vL2i_e, vI2b_e, vI2c_e, vDup_e, vPop_e, vDup2_e, vGoto_e, vIcEq_e, vIfEq_e, vIcNe_e, vIfNe_e, vIcLt_e, vIfLt_e, vIcGe_e, vIfGe_e, vIcGt_e, vIfGt_e, vIcLe_e, vIfLe_e, vNonnull_e, vSw_e, vGetI_e, vGetL_e, vGetR_e, vPutI_e, vPutZ_e, vPutL_e, vPutR_e, vIald_e, vIald_s, vLald_e, vBald_e, vBald_s, vAald_e, vIast_e, vLast_e, vBast_e, vAast_e, vAlen_e8, vAlen_e9, vAlen_e10, vAlen_e11, vAlen_e5, vAlen_e3, vGets_e, vCompact_e, vLdcS_e, vIret_e, vZret_e, vCret_e, vBret_e, vLret_e, vVret_e, vAret_e, vCallM_e0, vCallMV_e0, vCallS_e0, vCallSV_e0, vCallM_e1, vCallMV_e1, vCallS_e1, vCallSV_e1, vCallM_e2, vCallMV_e2, vCallS_e2, vCallSV_e2, vCallM_e3, vCallMV_e3, vCallS_e3, vCallSV_e3, vCallM_e4, vCallMV_e4, vCallS_e4, vCallSV_e4, vCallM_e5, vCallMV_e5, vCallS_e5, vCallSV_e5, vCallM_e6, vCallMV_e6, vCallS_e6, vCallSV_e6, vCallM_e7, vCallMV_e7, vCallS_e7, vCallSV_e7, vBad_e, vStrVal_e, vStrCod_e, vForm_e, vCallT_e0, vCallT_e1, vCallT_e2, vCopy_e, rf_0_0, rf_0_1, rf_0_2, rf_0_3, rf_0_4, rf_0_7, rf_0_10, rf_0_11, rf_0_12, rf_0_13, rf_0_14, rf_0_15, rf_0_16, rf_1_0, rf_3_0, rf_3_1, rf_6_0, rf_6_1, rf_9_0, rf_9_1, rf_9_3, rf_13_0, rf_13_1, rf_13_2, rf_16_0, rf_16_1, rf_16_2, rf_16_3, rf_21_0, rf_21_1, rf_21_2, rf_21_3, rf_26_0, rf_26_1, rf_26_2, rf_26_3, rf_26_4, rf_26_5, rf_26_6, rf_31_0, rf_31_2, rf_31_5, rf_31_6, rf_36_0, rf_36_1, rf_36_2, rf_36_3, rf_39_0, rf_39_1, rf_39_2, rf_41_0, rf_41_1, rf_41_2, rf_41_3, rf_5000_1, rf_5000_2, rf_5000_3, rf_5000_4, rf_5000_5, rf_5000_15, rf_5000_16, rf_5000_18, rf_5000_19, rf_5000_20, rf_5000_21, rf_5000_22, rf_5000_23, rf_5000_24, rf_5000_25, rf_5000_26, rf_5000_27, rf_5000_36, rf_5000_37, rf_5000_40, rf_5000_41, rf_5000_42, rf_5000_43, rf_5000_44, rf_5000_45, rf_5000_47, rf_5000_52, rf_5000_54, rf_5000_55, rf_100_0, rf_100_1, rf_103_0, rf_103_1, rf_106_0, rf_106_1, rf_109_0, rf_109_1, al_2, al_4, al_5, al_7, al_8, al_10, al_11, al_12, al_14, al_15, al_17, al_18, al_19, al_20, al_22, al_23, al_24, al_25, al_27, al_28, al_29, al_30, al_32, al_33, al_34, al_35, al_37, al_38, al_40, al_42, al_5001, al_5002, al_5003, al_5004, al_5005, al_5006, al_5007, al_5008, al_5009, al_5010, al_5011, al_5012, al_5013, al_5014, al_5015, al_5016, al_5017, al_5018, al_5019, al_5020, al_5021, al_5022, al_5023, al_5024, al_5025, al_5026, al_9000, al_101, al_102, al_104, al_105, al_107, al_108, al_110, al_111, vcs_e, lg_c0, lg_cs, lg_nil, set_c0, set_cs, okst_0, okst_s, acok_n, acok_c, List.contains_nil, List.contains_cons, Bool.or_false, Bool.false_or, Bool.false_eq_true, if_false, if_true, ite_self, ne_eq, true_and, and_true, not_false_eq_true, not_true_eq_false, false_imp_iff, true_imp_iff, Nat.ble_eq, Bool.and_eq_true, reduceCtorEq, or_false, false_or, or_true, true_or, false_and, and_false, and_self, Int.reduceLE, Int.reduceAdd, Int.reduceSub, Int.reduceMul, Int.reduceNeg, Int.reduceLT, Int.reduceEq, Int.reduceNe, Nat.reduceBEq, Nat.reduceBNe, Nat.reduceEqDiff, amCmp_in, amCmp_lt, amCmp_le, amCmp_gt, amCmp_ge, amCmp_eq, amCmp_ne, Nat.reduceLeDiff, Nat.reduceSub, Bool.and_true, Bool.true_and, Bool.and_self, Bool.or_true, Bool.true_or, isRf_3, isRf_4, isRf_5, isRf_8, isRf_9, isRf_10, isRf_11, isRf_15, isRf_16, isRf_17, isRf_18, isRf_19, isRf_20, isRf_21, isRf_22, isRf_23, isRf_24, isRf_25, isRf_26, isRf_27, isRf_28, k_X12_readSeason_0, k_X12_readSeason_1, k_X12_readSeason_2, k_X12_readSeason_5, k_X12_readSeason_6, k_X12_readSeason_7, k_X12_readSeason_10, k_X12_readSeason_13, k_X12_readSeason_14, k_X12_readSeason_15, k_X12_readSeason_16, k_X12_readSeason_17, k_X12_readSeason_18, k_X12_readSeason_21, k_X12_readSeason_22, k_X12_readSeason_23, k_X12_readSeason_25, k_X12_readSeason_26, k_X12_readSeason_27, k_X12_readSeason_28, k_X12_readSeason_31, k_X12_readSeason_32, k_X12_readSeason_35, k_X12_readSeason_36, k_X12_readSeason_39, k_X12_readSeason_40, k_X12_readSeason_43, k_X12_readSeason_44, k_X12_readSeason_47, k_X12_readSeason_49, k_X12_readSeason_52, k_X12_readSeason_53, k_X12_readSeason_56, k_X12_readSeason_57, k_X12_readSeason_58, k_X12_readSeason_59, k_X12_readSeason_62, k_X12_readSeason_63, k_X12_readSeason_65, k_X12_readSeason_68, k_X12_readSeason_69, k_X12_readSeason_72, k_X12_readSeason_73, k_X12_readSeason_74, k_X12_readSeason_75, k_X12_readSeason_78, k_X12_readSeason_79, k_X12_readSeason_80, k_X12_readSeason_83, k_X12_readSeason_84, k_X12_readSeason_85, k_X12_readSeason_88, k_X12_readSeason_91, k_X12_readSeason_92, k_X12_readSeason_95, k_X12_readSeason_96, k_X12_readSeason_97, k_X12_readSeason_98, k_X12_readSeason_99, k_X12_readSeason_102, k_X12_readSeason_103, k_X12_readSeason_106, k_X12_readSeason_107, k_X12_readSeason_110, k_X12_readSeason_111, w_X12_fails_e, w_X12_look_e, w_X12_readStep_e, w_X12_starts_e, msk, Mt, MtO, se_10, se_9, se_11, se_u10, se_u11, se_fa]
      repeat' (first | apply And.intro | intro _)
      all_goals first | omega | exact absurd trivial (by assumption) | exact i8 (by assumption) | exact h8 (by assumption) (by assumption) | exact i9 (by assumption) (by assumption) | exact h8 (by omega) (by omega) | exact i9 (by omega) (by omega) | exact ⟨by omega, by omega⟩
  · change vcs _ _ _ _ 60 0 [(28, 5000), (6, 0), (6, 0)] [] σ
    have i9 : ∃ k3, inv_rse m R k3 17 [(28, 5000), (0, 0), (0, 1)] [] m := ⟨33, rfl, 0, fun _ => 0, by decide, Or.inl ⟨16, 0, fun k => m 5013 (192 + k), rfl, rfl, by decide, by decide, rfl, hid.symm, by decide, n0, fun k h0 h1 => by omega, hR⟩⟩
    simp only [↓reduceIte, inR_0, inR_1, inR_m, vSw2_e, swP_n, swP_c, vI_e, vL_e, vNull_e, vIload_e, vLload_e, vAload_e, vIstore_e, vLstore_e, vAstore_e, vIinc_e, vIadd_e, vIsub_e, vImul_e, vIand_e, vIor_e, vIxor_e, vIshl_e, vIshr_e, vIushr_e, vIdiv_e, vIrem_e, vLadd_e, vLsub_e, vLmul_e, vLand_e, vLor_e, vLxor_e, vLdiv_e, vLrem_e, vLushr_e, vLshl_e, vLcmp_e, vIneg_e, vI2l_e, vL2i_e, vI2b_e, vI2c_e, vDup_e, vPop_e, vDup2_e, vGoto_e, vIcEq_e, vIfEq_e, vIcNe_e, vIfNe_e, vIcLt_e, vIfLt_e, vIcGe_e, vIfGe_e, vIcGt_e, vIfGt_e, vIcLe_e, vIfLe_e, vNonnull_e, vSw_e, vGetI_e, vGetL_e, vGetR_e, vPutI_e, vPutZ_e, vPutL_e, vPutR_e, vIald_e, vIald_s, vLald_e, vBald_e, vBald_s, vAald_e, vIast_e, vLast_e, vBast_e, vAast_e, vAlen_e8, vAlen_e9, vAlen_e10, vAlen_e11, vAlen_e5, vAlen_e3, vGets_e, vCompact_e, vLdcS_e, vIret_e, vZret_e, vCret_e, vBret_e, vLret_e, vVret_e, vAret_e, vCallM_e0, vCallMV_e0, vCallS_e0, vCallSV_e0, vCallM_e1, vCallMV_e1, vCallS_e1, vCallSV_e1, vCallM_e2, vCallMV_e2, vCallS_e2, vCallSV_e2, vCallM_e3, vCallMV_e3, vCallS_e3, vCallSV_e3, vCallM_e4, vCallMV_e4, vCallS_e4, vCallSV_e4, vCallM_e5, vCallMV_e5, vCallS_e5, vCallSV_e5, vCallM_e6, vCallMV_e6, vCallS_e6, vCallSV_e6, vCallM_e7, vCallMV_e7, vCallS_e7, vCallSV_e7, vBad_e, vStrVal_e, vStrCod_e, vForm_e, vCallT_e0, vCallT_e1, vCallT_e2, vCopy_e, rf_0_0, rf_0_1, rf_0_2, rf_0_3, rf_0_4, rf_0_7, rf_0_10, rf_0_11, rf_0_12, rf_0_13, rf_0_14, rf_0_15, rf_0_16, rf_1_0, rf_3_0, rf_3_1, rf_6_0, rf_6_1, rf_9_0, rf_9_1, rf_9_3, rf_13_0, rf_13_1, rf_13_2, rf_16_0, rf_16_1, rf_16_2, rf_16_3, rf_21_0, rf_21_1, rf_21_2, rf_21_3, rf_26_0, rf_26_1, rf_26_2, rf_26_3, rf_26_4, rf_26_5, rf_26_6, rf_31_0, rf_31_2, rf_31_5, rf_31_6, rf_36_0, rf_36_1, rf_36_2, rf_36_3, rf_39_0, rf_39_1, rf_39_2, rf_41_0, rf_41_1, rf_41_2, rf_41_3, rf_5000_1, rf_5000_2, rf_5000_3, rf_5000_4, rf_5000_5, rf_5000_15, rf_5000_16, rf_5000_18, rf_5000_19, rf_5000_20, rf_5000_21, rf_5000_22, rf_5000_23, rf_5000_24, rf_5000_25, rf_5000_26, rf_5000_27, rf_5000_36, rf_5000_37, rf_5000_40, rf_5000_41, rf_5000_42, rf_5000_43, rf_5000_44, rf_5000_45, rf_5000_47, rf_5000_52, rf_5000_54, rf_5000_55, rf_100_0, rf_100_1, rf_103_0, rf_103_1, rf_106_0, rf_106_1, rf_109_0, rf_109_1, al_2, al_4, al_5, al_7, al_8, al_10, al_11, al_12, al_14, al_15, al_17, al_18, al_19, al_20, al_22, al_23, al_24, al_25, al_27, al_28, al_29, al_30, al_32, al_33, al_34, al_35, al_37, al_38, al_40, al_42, al_5001, al_5002, al_5003, al_5004, al_5005, al_5006, al_5007, al_5008, al_5009, al_5010, al_5011, al_5012, al_5013, al_5014, al_5015, al_5016, al_5017, al_5018, al_5019, al_5020, al_5021, al_5022, al_5023, al_5024, al_5025, al_5026, al_9000, al_101, al_102, al_104, al_105, al_107, al_108, al_110, al_111, vcs_e, lg_c0, lg_cs, lg_nil, set_c0, set_cs, okst_0, okst_s, acok_n, acok_c, List.contains_nil, List.contains_cons, Bool.or_false, Bool.false_or, Bool.false_eq_true, if_false, if_true, ite_self, ne_eq, true_and, and_true, not_false_eq_true, not_true_eq_false, false_imp_iff, true_imp_iff, Nat.ble_eq, Bool.and_eq_true, reduceCtorEq, or_false, false_or, or_true, true_or, false_and, and_false, and_self, Int.reduceLE, Int.reduceAdd, Int.reduceSub, Int.reduceMul, Int.reduceNeg, Int.reduceLT, Int.reduceEq, Int.reduceNe, Nat.reduceBEq, Nat.reduceBNe, Nat.reduceEqDiff, amCmp_in, amCmp_lt, amCmp_le, amCmp_gt, amCmp_ge, amCmp_eq, amCmp_ne, Nat.reduceLeDiff, Nat.reduceSub, Bool.and_true, Bool.true_and, Bool.and_self, Bool.or_true, Bool.true_or, isRf_3, isRf_4, isRf_5, isRf_8, isRf_9, isRf_10, isRf_11, isRf_15, isRf_16, isRf_17, isRf_18, isRf_19, isRf_20, isRf_21, isRf_22, isRf_23, isRf_24, isRf_25, isRf_26, isRf_27, isRf_28, k_X12_readSeason_0, k_X12_readSeason_1, k_X12_readSeason_2, k_X12_readSeason_5, k_X12_readSeason_6, k_X12_readSeason_7, k_X12_readSeason_10, k_X12_readSeason_13, k_X12_readSeason_14, k_X12_readSeason_15, k_X12_readSeason_16, k_X12_readSeason_17, k_X12_readSeason_18, k_X12_readSeason_21, k_X12_readSeason_22, k_X12_readSeason_23, k_X12_readSeason_25, k_X12_readSeason_26, k_X12_readSeason_27, k_X12_readSeason_28, k_X12_readSeason_31, k_X12_readSeason_32, k_X12_readSeason_35, k_X12_readSeason_36, k_X12_readSeason_39, k_X12_readSeason_40, k_X12_readSeason_43, k_X12_readSeason_44, k_X12_readSeason_47, k_X12_readSeason_49, k_X12_readSeason_52, k_X12_readSeason_53, k_X12_readSeason_56, k_X12_readSeason_57, k_X12_readSeason_58, k_X12_readSeason_59, k_X12_readSeason_62, k_X12_readSeason_63, k_X12_readSeason_65, k_X12_readSeason_68, k_X12_readSeason_69, k_X12_readSeason_72, k_X12_readSeason_73, k_X12_readSeason_74, k_X12_readSeason_75, k_X12_readSeason_78, k_X12_readSeason_79, k_X12_readSeason_80, k_X12_readSeason_83, k_X12_readSeason_84, k_X12_readSeason_85, k_X12_readSeason_88, k_X12_readSeason_91, k_X12_readSeason_92, k_X12_readSeason_95, k_X12_readSeason_96, k_X12_readSeason_97, k_X12_readSeason_98, k_X12_readSeason_99, k_X12_readSeason_102, k_X12_readSeason_103, k_X12_readSeason_106, k_X12_readSeason_107, k_X12_readSeason_110, k_X12_readSeason_111, w_X12_fails_e, w_X12_look_e, w_X12_readStep_e, w_X12_starts_e, hm]
    repeat' (first | apply And.intro | intro _)
    all_goals first | omega | exact absurd trivial (by assumption) | exact i9 | exact Or.inl rfl
