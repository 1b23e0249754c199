/-! the reference reads SUMS: rows of parts -/
/-- what stands behind a row of parts, from a place on -/
theorem gLp_s {t : Int → Int} {n : Int} {s : Int → Bool} {nx : Int → LR} (f : Nat) (p : Int) (g : List Int) : gLp t n s nx (f + 1) p g = if s (t (sk t n p)) = true then (match nx (sk t n p + 1) with | .inl q => .inl q | .inr x => gLp t n s nx f x.1 (g ++ x.2 ++ [20000 + t (sk t n p)])) else .inr (sk t n p, g) := rfl
theorem clm_in (x : Int) : InR (clm x) := by unfold clm; (repeat' split) <;> omega
theorem mulL {a b : Int} (ha : bnd a) (hb : InR b) : InL (a * b) := by
  have h1 : (a * b).natAbs = a.natAbs * b.natAbs := Int.natAbs_mul a b
  have h2 : a.natAbs ≤ 1000000 := by omega
  have h3 : b.natAbs ≤ 2147483648 := by omega
  have h5 : (a * b).natAbs ≤ 1000000 * 2147483648 := by rw [h1]; exact Nat.mul_le_mul h2 h3
  generalize a * b = c at *
  omega
theorem clm_b {x : Int} (h : bnd x) : clm x = x := by unfold clm; rw [if_neg (by omega), if_neg (by omega)]

theorem wd_1600 : Cond.methodLink RX12 186 yX12_atom ∈ TBL := tb_tab (List.mem_of_getElem? (i := 1600) (by decide +kernel)) rfl
theorem wd_1603 : Cond.code yX12_atom cX12_atom 4 (some .int) ∈ TBL := tb_tab (List.mem_of_getElem? (i := 1603) (by decide +kernel)) rfl
theorem lk_X12_186 : amLk RX12 186 yX12_atom cX12_atom 4 (some .int) 0 := ⟨wd_1600, wd_12, wd_1603, by decide +kernel, by decide +kernel, by decide⟩
theorem wd_1602 : Cond.instanceMethod yX12_atom ∈ TBL := tb_tab (List.mem_of_getElem? (i := 1602) (by decide +kernel)) rfl
theorem sl_X12_atom : Cond.selects RX12 yX12_atom yX12_atom ∈ TBL := tb_sel (List.mem_of_getElem? (i := 66) (by decide +kernel)) rfl
theorem wd_1608 : Cond.methodLink RX12 189 yX12_within ∈ TBL := tb_tab (List.mem_of_getElem? (i := 1608) (by decide +kernel)) rfl
theorem wd_1610 : Cond.code yX12_within cX12_within 2 (some .int) ∈ TBL := tb_tab (List.mem_of_getElem? (i := 1610) (by decide +kernel)) rfl
theorem lk_X12_189 : amLk RX12 189 yX12_within cX12_within 2 (some .int) 1 := ⟨wd_1608, wd_12, wd_1610, by decide +kernel, by decide +kernel, by decide⟩
theorem wd_1609 : Cond.static yX12_within ∈ TBL := tb_tab (List.mem_of_getElem? (i := 1609) (by decide +kernel)) rfl
def a_X12_term (r : Nat) : AC := [(0, vAload 0 1), (1, vCallM (w_X12_atom r) 28 0 4), (4, vIstore 1 5), (5, vAload 0 6), (6, vGetI 28 11 9), (9, vI (-1) 10), (10, vIcNe 94 13), (13, vAload 0 14), (14, vCallM w_X12_look 28 0 17), (17, vI 42 19), (19, vIcEq 31 22), (22, vAload 0 23), (23, vCallM w_X12_look 28 0 26), (26, vI 47 28), (28, vIcNe 94 31), (31, vAload 0 32), (32, vCallM w_X12_look 28 0 35), (35, vI 42 37), (37, vIcNe 44 40), (40, vI 1 41), (41, vGoto 45), (44, vI 0 45), (45, vIstore 2 46), (46, vAload 0 47), (47, vDup 48), (48, vGetI 28 10 51), (51, vI 1 52), (52, vIadd 53), (53, vPutI 28 10 56), (56, vAload 0 57), (57, vCallM (w_X12_atom r) 28 0 60), (60, vI2l 61), (61, vLstore 3 62), (62, vIload 2 63), (63, vIfEq 73 66), (66, vIload 1 67), (67, vI2l 68), (68, vLload 3 69), (69, vLmul 70), (70, vGoto 87), (73, vLload 3 74), (74, vL 0 75), (75, vLcmp 76), (76, vIfNe 83 79), (79, vL 0 80), (80, vGoto 87), (83, vIload 1 84), (84, vI2l 85), (85, vLload 3 86), (86, vLdiv 87), (87, vCallS w_X12_within 1 90), (90, vIstore 1 91), (91, vGoto 5), (94, vIload 1 95), (95, vIret)]
theorem k_X12_term_0 (r : Nat) : look (a_X12_term r) 0 = vAload 0 1 := rfl
theorem k_X12_term_1 (r : Nat) : look (a_X12_term r) 1 = vCallM (w_X12_atom r) 28 0 4 := rfl
theorem k_X12_term_4 (r : Nat) : look (a_X12_term r) 4 = vIstore 1 5 := rfl
theorem k_X12_term_5 (r : Nat) : look (a_X12_term r) 5 = vAload 0 6 := rfl
theorem k_X12_term_6 (r : Nat) : look (a_X12_term r) 6 = vGetI 28 11 9 := rfl
theorem k_X12_term_9 (r : Nat) : look (a_X12_term r) 9 = vI (-1) 10 := rfl
theorem k_X12_term_10 (r : Nat) : look (a_X12_term r) 10 = vIcNe 94 13 := rfl
theorem k_X12_term_13 (r : Nat) : look (a_X12_term r) 13 = vAload 0 14 := rfl
theorem k_X12_term_14 (r : Nat) : look (a_X12_term r) 14 = vCallM w_X12_look 28 0 17 := rfl
theorem k_X12_term_17 (r : Nat) : look (a_X12_term r) 17 = vI 42 19 := rfl
theorem k_X12_term_19 (r : Nat) : look (a_X12_term r) 19 = vIcEq 31 22 := rfl
theorem k_X12_term_22 (r : Nat) : look (a_X12_term r) 22 = vAload 0 23 := rfl
theorem k_X12_term_23 (r : Nat) : look (a_X12_term r) 23 = vCallM w_X12_look 28 0 26 := rfl
theorem k_X12_term_26 (r : Nat) : look (a_X12_term r) 26 = vI 47 28 := rfl
theorem k_X12_term_28 (r : Nat) : look (a_X12_term r) 28 = vIcNe 94 31 := rfl
theorem k_X12_term_31 (r : Nat) : look (a_X12_term r) 31 = vAload 0 32 := rfl
theorem k_X12_term_32 (r : Nat) : look (a_X12_term r) 32 = vCallM w_X12_look 28 0 35 := rfl
theorem k_X12_term_35 (r : Nat) : look (a_X12_term r) 35 = vI 42 37 := rfl
theorem k_X12_term_37 (r : Nat) : look (a_X12_term r) 37 = vIcNe 44 40 := rfl
theorem k_X12_term_40 (r : Nat) : look (a_X12_term r) 40 = vI 1 41 := rfl
theorem k_X12_term_41 (r : Nat) : look (a_X12_term r) 41 = vGoto 45 := rfl
theorem k_X12_term_44 (r : Nat) : look (a_X12_term r) 44 = vI 0 45 := rfl
theorem k_X12_term_45 (r : Nat) : look (a_X12_term r) 45 = vIstore 2 46 := rfl
theorem k_X12_term_46 (r : Nat) : look (a_X12_term r) 46 = vAload 0 47 := rfl
theorem k_X12_term_47 (r : Nat) : look (a_X12_term r) 47 = vDup 48 := rfl
theorem k_X12_term_48 (r : Nat) : look (a_X12_term r) 48 = vGetI 28 10 51 := rfl
theorem k_X12_term_51 (r : Nat) : look (a_X12_term r) 51 = vI 1 52 := rfl
theorem k_X12_term_52 (r : Nat) : look (a_X12_term r) 52 = vIadd 53 := rfl
theorem k_X12_term_53 (r : Nat) : look (a_X12_term r) 53 = vPutI 28 10 56 := rfl
theorem k_X12_term_56 (r : Nat) : look (a_X12_term r) 56 = vAload 0 57 := rfl
theorem k_X12_term_57 (r : Nat) : look (a_X12_term r) 57 = vCallM (w_X12_atom r) 28 0 60 := rfl
theorem k_X12_term_60 (r : Nat) : look (a_X12_term r) 60 = vI2l 61 := rfl
theorem k_X12_term_61 (r : Nat) : look (a_X12_term r) 61 = vLstore 3 62 := rfl
theorem k_X12_term_62 (r : Nat) : look (a_X12_term r) 62 = vIload 2 63 := rfl
theorem k_X12_term_63 (r : Nat) : look (a_X12_term r) 63 = vIfEq 73 66 := rfl
theorem k_X12_term_66 (r : Nat) : look (a_X12_term r) 66 = vIload 1 67 := rfl
theorem k_X12_term_67 (r : Nat) : look (a_X12_term r) 67 = vI2l 68 := rfl
theorem k_X12_term_68 (r : Nat) : look (a_X12_term r) 68 = vLload 3 69 := rfl
theorem k_X12_term_69 (r : Nat) : look (a_X12_term r) 69 = vLmul 70 := rfl
theorem k_X12_term_70 (r : Nat) : look (a_X12_term r) 70 = vGoto 87 := rfl
theorem k_X12_term_73 (r : Nat) : look (a_X12_term r) 73 = vLload 3 74 := rfl
theorem k_X12_term_74 (r : Nat) : look (a_X12_term r) 74 = vL 0 75 := rfl
theorem k_X12_term_75 (r : Nat) : look (a_X12_term r) 75 = vLcmp 76 := rfl
theorem k_X12_term_76 (r : Nat) : look (a_X12_term r) 76 = vIfNe 83 79 := rfl
theorem k_X12_term_79 (r : Nat) : look (a_X12_term r) 79 = vL 0 80 := rfl
theorem k_X12_term_80 (r : Nat) : look (a_X12_term r) 80 = vGoto 87 := rfl
theorem k_X12_term_83 (r : Nat) : look (a_X12_term r) 83 = vIload 1 84 := rfl
theorem k_X12_term_84 (r : Nat) : look (a_X12_term r) 84 = vI2l 85 := rfl
theorem k_X12_term_85 (r : Nat) : look (a_X12_term r) 85 = vLload 3 86 := rfl
theorem k_X12_term_86 (r : Nat) : look (a_X12_term r) 86 = vLdiv 87 := rfl
theorem k_X12_term_87 (r : Nat) : look (a_X12_term r) 87 = vCallS w_X12_within 1 90 := rfl
theorem k_X12_term_90 (r : Nat) : look (a_X12_term r) 90 = vIstore 1 91 := rfl
theorem k_X12_term_91 (r : Nat) : look (a_X12_term r) 91 = vGoto 5 := rfl
theorem k_X12_term_94 (r : Nat) : look (a_X12_term r) 94 = vIload 1 95 := rfl
theorem k_X12_term_95 (r : Nat) : look (a_X12_term r) 95 = vIret := rfl
theorem o_X12_term {X : amX} (r : Nat) (hS : SumS r) (e1 : XT X = TT) (e2 : XD X = 11 + 3 * r) (hB : amB X RX12 cX12_term (some .int) 5) : ∀ pc, amOK X pc (look (a_X12_term r) pc) := by
  have hT : amTok (XT X) := e1 ▸ TT_ok
  refine look_ok ?_
  unfold a_X12_term
  refine fc (ok_aload_n hB dX12_term_0) ?_
  refine fc (ok_callM hB hT (fun av9 σ9 Q9 h9 => e1 ▸ (s_X12_atom r hS) av9 σ9 Q9 h9) lk_X12_186 (by rw [e2]; omega) (c := 12) rfl rfl rfl wd_1602 sl_X12_atom dX12_term_1) ?_
  refine fc (ok_istore_n hB (by decide) dX12_term_4) ?_
  refine fc (ok_aload_n hB dX12_term_5) ?_
  refine fc (ok_getI hB hT fl_X12_143 rfl rfl (Or.inl af_12_11) dX12_term_6) ?_
  refine fc (ok_iconst hB dX12_term_9) ?_
  refine fc (ok_icmp_ne hB (t := 94) (by decide) dX12_term_10) ?_
  refine fc (ok_aload_n hB dX12_term_13) ?_
  refine fc (ok_callM hB hT (e1 ▸ s_X12_look) lk_X12_153 (by rw [e2]; omega) (c := 12) rfl rfl rfl wd_1521 sl_X12_look dX12_term_14) ?_
  refine fc (ok_bipush hB dX12_term_17 (by decide)) ?_
  refine fc (ok_icmp_eq hB (t := 31) (by decide) dX12_term_19) ?_
  refine fc (ok_aload_n hB dX12_term_22) ?_
  refine fc (ok_callM hB hT (e1 ▸ s_X12_look) lk_X12_153 (by rw [e2]; omega) (c := 12) rfl rfl rfl wd_1521 sl_X12_look dX12_term_23) ?_
  refine fc (ok_bipush hB dX12_term_26 (by decide)) ?_
  refine fc (ok_icmp_ne hB (t := 94) (by decide) dX12_term_28) ?_
  refine fc (ok_aload_n hB dX12_term_31) ?_
  refine fc (ok_callM hB hT (e1 ▸ s_X12_look) lk_X12_153 (by rw [e2]; omega) (c := 12) rfl rfl rfl wd_1521 sl_X12_look dX12_term_32) ?_
  refine fc (ok_bipush hB dX12_term_35 (by decide)) ?_
  refine fc (ok_icmp_ne hB (t := 44) (by decide) dX12_term_37) ?_
  refine fc (ok_iconst hB dX12_term_40) ?_
  refine fc (ok_goto hB (t := 45) (by decide) dX12_term_41) ?_
  refine fc (ok_iconst hB dX12_term_44) ?_
  refine fc (ok_istore_n hB (by decide) dX12_term_45) ?_
  refine fc (ok_aload_n hB dX12_term_46) ?_
  refine fc (ok_dup hB dX12_term_47) ?_
  refine fc (ok_getI hB hT fl_X12_134 rfl rfl (Or.inl af_12_10) dX12_term_48) ?_
  refine fc (ok_iconst hB dX12_term_51) ?_
  refine fc (ok_iadd hB dX12_term_52) ?_
  refine fc (ok_putI hB hT fp_X12_134 rfl rfl rfl af_12_10 dX12_term_53) ?_
  refine fc (ok_aload_n hB dX12_term_56) ?_
  refine fc (ok_callM hB hT (fun av9 σ9 Q9 h9 => e1 ▸ (s_X12_atom r hS) av9 σ9 Q9 h9) lk_X12_186 (by rw [e2]; omega) (c := 12) rfl rfl rfl wd_1602 sl_X12_atom dX12_term_57) ?_
  refine fc (ok_i2l hB dX12_term_60) ?_
  refine fc (ok_lstore_n hB (by decide) dX12_term_61) ?_
  refine fc (ok_iload_n hB dX12_term_62) ?_
  refine fc (ok_if_eq hB (t := 73) (by decide) dX12_term_63) ?_
  refine fc (ok_iload_n hB dX12_term_66) ?_
  refine fc (ok_i2l hB dX12_term_67) ?_
  refine fc (ok_lload_n hB dX12_term_68) ?_
  refine fc (ok_lmul hB dX12_term_69) ?_
  refine fc (ok_goto hB (t := 87) (by decide) dX12_term_70) ?_
  refine fc (ok_lload_n hB dX12_term_73) ?_
  refine fc (ok_lconst hB (z := 0) (by decide) dX12_term_74) ?_
  refine fc (ok_lcmp hB dX12_term_75) ?_
  refine fc (ok_if_ne hB (t := 83) (by decide) dX12_term_76) ?_
  refine fc (ok_lconst hB (z := 0) (by decide) dX12_term_79) ?_
  refine fc (ok_goto hB (t := 87) (by decide) dX12_term_80) ?_
  refine fc (ok_iload_n hB dX12_term_83) ?_
  refine fc (ok_i2l hB dX12_term_84) ?_
  refine fc (ok_lload_n hB dX12_term_85) ?_
  refine fc (ok_ldiv hB dX12_term_86) ?_
  refine fc (ok_callS hB (e1 ▸ s_X12_within) lk_X12_189 (by rw [e2]; omega) wd_1609 dX12_term_87) ?_
  refine fc (ok_istore_n hB (by decide) dX12_term_90) ?_
  refine fc (ok_goto hB (t := 5) (by decide) dX12_term_91) ?_
  refine fc (ok_iload_n hB dX12_term_94) ?_
  refine fc (ok_iret hB dX12_term_95) ?_
  exact fn
def inv_term (m : Mem) (Z : LR) (r n pc : Nat) (ls st : List AV) (σ' : Mem) : Prop := pc = 5 ∧ st = [] ∧ ∃ (v : Int) (v2 v3 v4 : AV), ls = [(28, 5000), (0, v), v2, v3, v4] ∧ InR v ∧
  ((n = 0 ∧ ∃ f p d, σ' = rdM m p f d ∧ Z = .inl f ∧ 0 ≤ f ∧ f ≤ 240 ∧ 6 - (r : Int) ≤ d ∧ d ≤ 6) ∨
   (∃ (k : Nat) (p : Int) (g : List Int), n = k + 1 ∧ σ' = rdM m p (-1) (6 - r) ∧ v = val (mL m) g ∧ gd (mL m) (2 * r + 2) g ∧ 0 ≤ p ∧ p ≤ m 5000 9 ∧ m 5000 9 - p < k ∧ Z = gLp (mtx m) (m 5000 9) sMul (gAt (mtx m) (m 5000 9) (gIn (mtx m) (m 5000 9) r)) k p g))
def w_X12_term (r : Nat) : WP := fun av σ Q => av = [(28, 5000)] ∧ (rdOk σ r ∧ (∀ f v p d, gTrm (mtx σ) (σ 5000 9) (gIn (mtx σ) (σ 5000 9) r) (σ 5000 10) = .inl f → InR v → 6 - (r : Int) ≤ d → d ≤ 6 → Q (0, v) (rdM σ p f d)) ∧ (∀ y, gTrm (mtx σ) (σ 5000 9) (gIn (mtx σ) (σ 5000 9) r) (σ 5000 10) = .inr y → Q (0, val (mL σ) y.2) (rdM σ y.1 (-1) (6 - r))))
theorem w_X12_term_e (r : Nat)  (σ : Mem) (Q : AV → Mem → Prop) : w_X12_term r [(28, 5000)] σ Q = (rdOk σ r ∧ (∀ f v p d, gTrm (mtx σ) (σ 5000 9) (gIn (mtx σ) (σ 5000 9) r) (σ 5000 10) = .inl f → InR v → 6 - (r : Int) ≤ d → d ≤ 6 → Q (0, v) (rdM σ p f d)) ∧ (∀ y, gTrm (mtx σ) (σ 5000 9) (gIn (mtx σ) (σ 5000 9) r) (σ 5000 10) = .inr y → Q (0, val (mL σ) y.2) (rdM σ y.1 (-1) (6 - r)))) := by
  apply propext; constructor
  · rintro ⟨h9, hb9⟩; cases h9; exact hb9
  · intro hb9; exact ⟨rfl, hb9⟩

set_option maxRecDepth 100000 in
set_option maxHeartbeats 4000000 in
theorem s_X12_term (r : Nat) (hS : SumS r) : ∀ av σ Q, w_X12_term r av σ Q → amCall (11 + 3 * r) 0 0 TT yX12_term cX12_term 5 (some .int) av σ Q := by
  rintro av σ Q ⟨rfl, hok, hq1, hq2⟩
  obtain ⟨m, p, rfl⟩ := rdOk_m hok
  obtain ⟨ht, hL, -, p0, p1, -, hr⟩ := rdOk_dr hok
  have mt : ∀ p f d, mtx (rdM m p f d) = mtx m := mtx_rd ht
  have mk : ∀ p f d, msk (rdM m p f d) = sk (mtx m) (m 5000 9) p := fun p f d => by unfold msk; rw [mt, rd_9, rd_10]
  simp only [mt, rd_9, rd_10, mL_rd, rd_rd] at hq1 hq2
  have n1 := ht.2.1
  have tO : ∀ p f d, txOk (rdM m p f d) := fun p f d => txOk_rd ht p f d
  have hao := gAt_ok (mtx_n ht) (gIn_ok (mtx_n ht) r)
  have hav := gAt_val (t := mtx m) (n := m 5000 9) hL (m := 2 * r + 1) (by omega) (gIn_val (t := mtx m) (n := m 5000 9) hL r)
  generalize hA : gAt (mtx m) (m 5000 9) (gIn (mtx m) (m 5000 9) r) = nx at *
  have hT : gTrm (mtx m) (m 5000 9) (gIn (mtx m) (m 5000 9) r) p = gCh (mtx m) (m 5000 9) sMul nx (nx p) := by unfold gTrm; rw [hA]
  rw [hT] at hq1 hq2
  generalize hZ : gCh (mtx m) (m 5000 9) sMul nx (nx p) = Z at *
  refine am_m [5] (inv_term m Z r) (own := RX12) (A := look (a_X12_term r)) (fun X e1 e2 hB => o_X12_term r hS e1 e2 hB) rfl (by decide +kernel) rfl rfl ?_ ⟨120, ?_⟩ (w := 5)
  · rintro n pc ls st σ' ⟨rfl, rfl, v, v2, v3, v4, rfl, hv, ⟨rfl, f, p, d, rfl, rfl, f0, f1, d0, d1⟩ | ⟨k, p, g, rfl, rfl, rfl, hg, q0, q1, hkf, hZk⟩⟩
    · have h0 := hq1 f v p d rfl hv d0 d1
      refine ⟨120, ?_⟩
      simp only [↓reduceIte, inR_0, inR_1, inR_m, vSw2_e, swP_n, swP_c, vI_e, vL_e, vNull_e, vIload_e, vLload_e, vAload_e, vIstore_e, vLstore_e, vAstore_e, vIinc_e, vIadd_e, vIsub_e, vImul_e, vIand_e, vIor_e, vIxor_e, vIshl_e, vIshr_e, vIushr_e, vIdiv_e, vIrem_e, vLadd_e, vLsub_e, vLmul_e, vLand_e, vLor_e, vLxor_e, vLdiv_e, vLrem_e, vLushr_e, vLshl_e, vLcmp_e, vIneg_e, vI2l_e, vL2i_e, vI2b_e, vI2c_e, vDup_e, vPop_e, vDup2_e, vGoto_e, vIcEq_e, vIfEq_e, vIcNe_e, vIfNe_e, vIcLt_e, vIfLt_e, vIcGe_e, vIfGe_e, vIcGt_e, vIfGt_e, vIcLe_e, vIfLe_e, vNonnull_e, vSw_e, vGetI_e, vGetL_e, vGetR_e, vPutI_e, vPutZ_e, vPutL_e, vPutR_e, vIald_e, vIald_s, vLald_e, vBald_e, vBald_s, vAald_e, vIast_e, vLast_e, vBast_e, vAast_e, vAlen_e8, vAlen_e9, vAlen_e10, vAlen_e11, vAlen_e5, vAlen_e3, vGets_e, vCompact_e, vLdcS_e, vIret_e, vZret_e, vCret_e, vBret_e, vLret_e, vVret_e, vAret_e, vCallM_e0, vCallMV_e0, vCallS_e0, vCallSV_e0, vCallM_e1, vCallMV_e1, vCallS_e1, vCallSV_e1, vCallM_e2, vCallMV_e2, vCallS_e2, vCallSV_e2, vCallM_e3, vCallMV_e3, vCallS_e3, vCallSV_e3, vCallM_e4, vCallMV_e4, vCallS_e4, vCallSV_e4, vCallM_e5, vCallMV_e5, vCallS_e5, vCallSV_e5, vCallM_e6, vCallMV_e6, vCallS_e6, vCallSV_e6, vCallM_e7, vCallMV_e7, vCallS_e7, vCallSV_e7, vBad_e, vStrVal_e, vStrCod_e, vForm_e, vCallT_e0, vCallT_e1, vCallT_e2, vCopy_e, rf_0_0, rf_0_1, rf_0_2, rf_0_3, rf_0_4, rf_0_7, rf_0_10, rf_0_11, rf_0_12, rf_0_13, rf_0_14, rf_0_15, rf_0_16, rf_1_0, rf_3_0, rf_3_1, rf_6_0, rf_6_1, rf_9_0, rf_9_1, rf_9_3, rf_13_0, rf_13_1, rf_13_2, rf_16_0, rf_16_1, rf_16_2, rf_16_3, rf_21_0, rf_21_1, rf_21_2, rf_21_3, rf_26_0, rf_26_1, rf_26_2, rf_26_3, rf_26_4, rf_26_5, rf_26_6, rf_31_0, rf_31_2, rf_31_5, rf_31_6, rf_36_0, rf_36_1, rf_36_2, rf_36_3, rf_39_0, rf_39_1, rf_39_2, rf_41_0, rf_41_1, rf_41_2, rf_41_3, rf_5000_1, rf_5000_2, rf_5000_3, rf_5000_4, rf_5000_5, rf_5000_15, rf_5000_16, rf_5000_18, rf_5000_19, rf_5000_20, rf_5000_21, rf_5000_22, rf_5000_23, rf_5000_24, rf_5000_25, rf_5000_26, rf_5000_27, rf_5000_36, rf_5000_37, rf_5000_40, rf_5000_41, rf_5000_42, rf_5000_43, rf_5000_44, rf_5000_45, rf_5000_47, rf_5000_52, rf_5000_54, rf_5000_55, rf_100_0, rf_100_1, rf_103_0, rf_103_1, rf_106_0, rf_106_1, rf_109_0, rf_109_1, al_2, al_4, al_5, al_7, al_8, al_10, al_11, al_12, al_14, al_15, al_17, al_18, al_19, al_20, al_22, al_23, al_24, al_25, al_27, al_28, al_29, al_30, al_32, al_33, al_34, al_35, al_37, al_38, al_40, al_42, al_5001, al_5002, al_5003, al_5004, al_5005, al_5006, al_5007, al_5008, al_5009, al_5010, al_5011, al_5012, al_5013, al_5014, al_5015, al_5016, al_5017, al_5018, al_5019, al_5020, al_5021, al_5022, al_5023, al_5024, al_5025, al_5026, al_9000, al_101, al_102, al_104, al_105, al_107, al_108, al_110, al_111, vcs_e, lg_c0, lg_cs, lg_nil, set_c0, set_cs, okst_0, okst_s, acok_n, acok_c, List.contains_nil, List.contains_cons, Bool.or_false, Bool.false_or, Bool.false_eq_true, if_false, if_true, ite_self, ne_eq, true_and, and_true, not_false_eq_true, not_true_eq_false, false_imp_iff, true_imp_iff, Nat.ble_eq, Bool.and_eq_true, reduceCtorEq, or_false, false_or, or_true, true_or, false_and, and_false, and_self, Int.reduceLE, Int.reduceAdd, Int.reduceSub, Int.reduceMul, Int.reduceNeg, Int.reduceLT, Int.reduceEq, Int.reduceNe, Nat.reduceBEq, Nat.reduceBNe, Nat.reduceEqDiff, amCmp_in, amCmp_lt, amCmp_le, amCmp_gt, amCmp_ge, amCmp_eq, amCmp_ne, Nat.reduceLeDiff, Nat.reduceSub, Bool.and_true, Bool.true_and, Bool.and_self, Bool.or_true, Bool.true_or, isRf_3, isRf_4, isRf_5, isRf_8, isRf_9, isRf_10, isRf_11, isRf_15, isRf_16, isRf_17, isRf_18, isRf_19, isRf_20, isRf_21, isRf_22, isRf_23, isRf_24, isRf_25, isRf_26, isRf_27, isRf_28, k_X12_term_0, k_X12_term_1, k_X12_term_4, k_X12_term_5, k_X12_term_6, k_X12_term_9, k_X12_term_10, k_X12_term_13, k_X12_term_14, k_X12_term_17, k_X12_term_19, k_X12_term_22, k_X12_term_23, k_X12_term_26, k_X12_term_28, k_X12_term_31, k_X12_term_32, k_X12_term_35, k_X12_term_37, k_X12_term_40, k_X12_term_41, k_X12_term_44, k_X12_term_45, k_X12_term_46, k_X12_term_47, k_X12_term_48, k_X12_term_51, k_X12_term_52, k_X12_term_53, k_X12_term_56, k_X12_term_57, k_X12_term_60, k_X12_term_61, k_X12_term_62, k_X12_term_63, k_X12_term_66, k_X12_term_67, k_X12_term_68, k_X12_term_69, k_X12_term_70, k_X12_term_73, k_X12_term_74, k_X12_term_75, k_X12_term_76, k_X12_term_79, k_X12_term_80, k_X12_term_83, k_X12_term_84, k_X12_term_85, k_X12_term_86, k_X12_term_87, k_X12_term_90, k_X12_term_91, k_X12_term_94, k_X12_term_95, w_X12_atom_e, w_X12_look_e, w_X12_within_e, rd_11]
      repeat' (first | assumption | exact tO _ _ _ | exact hrd _ (by omega) (by omega) | exact hrd | apply And.intro | intro _)
      all_goals first | omega | exact absurd trivial (by assumption) | exact h0
    · obtain ⟨k, rfl⟩ : ∃ k', k = k' + 1 := ⟨k - 1, by omega⟩
      rw [gLp_s] at hZk
      rw [hA] at hZk
      have hsb := sk_b (mtx m) q1
      have tb := mtx_b ht (sk (mtx m) (m 5000 9) p)
      have sks := sk_sk (mtx m) q1
      have hrd : ∀ q, 0 ≤ q → q ≤ m 5000 9 → rdOk (rdM m q (-1) (6 - r)) r := fun q a b => rdOk_rd ht hL a b rfl hr
      by_cases c : sMul (mtx m (sk (mtx m) (m 5000 9) p)) = true
      · have hc := sMul_t c
        rw [if_pos c] at hZk
        generalize hq : sk (mtx m) (m 5000 9) p = q at *
        have hlt : q < m 5000 9 := by
          by_cases h9 : q < m 5000 9
          · exact h9
          · have := mtx_n ht q (by omega); omega
        have hgo := hao (q + 1) (by omega) (by omega)
        have fin1 : ∀ (a : Int) (v2 v3 v4 : AV) f p d, nx (q + 1) = .inl f → 6 - (r : Int) ≤ d → d ≤ 6 → InR a → ∃ k', k' < k + 1 + 1 ∧ inv_term m Z r k' 5 [(28, 5000), (0, a), v2, v3, v4] [] (rdM m p f d) := fun a v2 v3 v4 f p d e d0 d1 ha => by
          rw [e, gok_l] at hgo
          rw [e] at hZk
          exact ⟨0, by omega, rfl, rfl, a, v2, v3, v4, rfl, ha, Or.inl ⟨rfl, f, p, d, rfl, hZk, by omega, by omega, d0, d1⟩⟩
        have fin2 : ∀ (a : Int) (v2 v3 v4 : AV) y, nx (q + 1) = .inr y → a = apF (mtx m q) (val (mL m) g) (val (mL m) y.2) → ∃ k', k' < k + 1 + 1 ∧ inv_term m Z r k' 5 [(28, 5000), (0, a), v2, v3, v4] [] (rdM m y.1 (-1) (6 - r)) := fun a v2 v3 v4 y e ha => by
          rw [e, gok_r] at hgo
          rw [e] at hZk
          obtain ⟨z1, z2⟩ := gd_ar (c := mtx m q) hg (hav _ _ e) (by omega)
          have hb := z1.1
          rw [z2] at hb
          exact ⟨k + 1, by omega, rfl, rfl, a, v2, v3, v4, rfl, by rw [ha]; omega, Or.inr ⟨k, y.1, g ++ y.2 ++ [20000 + mtx m q], rfl, rfl, by rw [ha, z2], z1, by omega, by omega, by omega, by rw [hA]; exact hZk⟩⟩
        have yb : ∀ y, nx (q + 1) = .inr y → bnd (val (mL m) y.2) := fun y e => (hav _ _ e).1
        have gb := hg.1
        generalize val (mL m) g = v at *
        refine ⟨120, ?_⟩
        rcases hc with hc | hc
        · simp only [hc, apF_42] at fin2
          have ml : ∀ w, InR w → InL (v * w) := fun w hw => mulL gb hw
          simp only [↓reduceIte, inR_0, inR_1, inR_m, vSw2_e, swP_n, swP_c, vI_e, vL_e, vNull_e, vIload_e, vLload_e, vAload_e, vIstore_e, vLstore_e, vAstore_e, vIinc_e, vIadd_e, vIsub_e, vImul_e, vIand_e, vIor_e, vIxor_e, vIshl_e, vIshr_e, vIushr_e, vIdiv_e, vIrem_e, vLadd_e, vLsub_e, vLmul_e, vLand_e, vLor_e, vLxor_e, vLdiv_e, vLrem_e, vLushr_e, vLshl_e, vLcmp_e, vIneg_e, vI2l_e, vL2i_e, vI2b_e, vI2c_e, vDup_e, vPop_e, vDup2_e, vGoto_e, vIcEq_e, vIfEq_e, vIcNe_e, vIfNe_e, vIcLt_e, vIfLt_e, vIcGe_e, vIfGe_e, vIcGt_e, vIfGt_e, vIcLe_e, vIfLe_e, vNonnull_e, vSw_e, vGetI_e, vGetL_e, vGetR_e, vPutI_e, vPutZ_e, vPutL_e, vPutR_e, vIald_e, vIald_s, vLald_e, vBald_e, vBald_s, vAald_e, vIast_e, vLast_e, vBast_e, vAast_e, vAlen_e8, vAlen_e9, vAlen_e10, vAlen_e11, vAlen_e5, vAlen_e3, vGets_e, vCompact_e, vLdcS_e, vIret_e, vZret_e, vCret_e, vBret_e, vLret_e, vVret_e, vAret_e, vCallM_e0, vCallMV_e0, vCallS_e0, vCallSV_e0, vCallM_e1, vCallMV_e1, vCallS_e1, vCallSV_e1, vCallM_e2, vCallMV_e2, vCallS_e2, vCallSV_e2, vCallM_e3, vCallMV_e3, vCallS_e3, vCallSV_e3, vCallM_e4, vCallMV_e4, vCallS_e4, vCallSV_e4, vCallM_e5, vCallMV_e5, vCallS_e5, vCallSV_e5, vCallM_e6, vCallMV_e6, vCallS_e6, vCallSV_e6, vCallM_e7, vCallMV_e7, vCallS_e7, vCallSV_e7, vBad_e, vStrVal_e, vStrCod_e, vForm_e, vCallT_e0, vCallT_e1, vCallT_e2, vCopy_e, rf_0_0, rf_0_1, rf_0_2, rf_0_3, rf_0_4, rf_0_7, rf_0_10, rf_0_11, rf_0_12, rf_0_13, rf_0_14, rf_0_15, rf_0_16, rf_1_0, rf_3_0, rf_3_1, rf_6_0, rf_6_1, rf_9_0, rf_9_1, rf_9_3, rf_13_0, rf_13_1, rf_13_2, rf_16_0, rf_16_1, rf_16_2, rf_16_3, rf_21_0, rf_21_1, rf_21_2, rf_21_3, rf_26_0, rf_26_1, rf_26_2, rf_26_3, rf_26_4, rf_26_5, rf_26_6, rf_31_0, rf_31_2, rf_31_5, rf_31_6, rf_36_0, rf_36_1, rf_36_2, rf_36_3, rf_39_0, rf_39_1, rf_39_2, rf_41_0, rf_41_1, rf_41_2, rf_41_3, rf_5000_1, rf_5000_2, rf_5000_3, rf_5000_4, rf_5000_5, rf_5000_15, rf_5000_16, rf_5000_18, rf_5000_19, rf_5000_20, rf_5000_21, rf_5000_22, rf_5000_23, rf_5000_24, rf_5000_25, rf_5000_26, rf_5000_27, rf_5000_36, rf_5000_37, rf_5000_40, rf_5000_41, rf_5000_42, rf_5000_43, rf_5000_44, rf_5000_45, rf_5000_47, rf_5000_52, rf_5000_54, rf_5000_55, rf_100_0, rf_100_1, rf_103_0, rf_103_1, rf_106_0, rf_106_1, rf_109_0, rf_109_1, al_2, al_4, al_5, al_7, al_8, al_10, al_11, al_12, al_14, al_15, al_17, al_18, al_19, al_20, al_22, al_23, al_24, al_25, al_27, al_28, al_29, al_30, al_32, al_33, al_34, al_35, al_37, al_38, al_40, al_42, al_5001, al_5002, al_5003, al_5004, al_5005, al_5006, al_5007, al_5008, al_5009, al_5010, al_5011, al_5012, al_5013, al_5014, al_5015, al_5016, al_5017, al_5018, al_5019, al_5020, al_5021, al_5022, al_5023, al_5024, al_5025, al_5026, al_9000, al_101, al_102, al_104, al_105, al_107, al_108, al_110, al_111, vcs_e, lg_c0, lg_cs, lg_nil, set_c0, set_cs, okst_0, okst_s, acok_n, acok_c, List.contains_nil, List.contains_cons, Bool.or_false, Bool.false_or, Bool.false_eq_true, if_false, if_true, ite_self, ne_eq, true_and, and_true, not_false_eq_true, not_true_eq_false, false_imp_iff, true_imp_iff, Nat.ble_eq, Bool.and_eq_true, reduceCtorEq, or_false, false_or, or_true, true_or, false_and, and_false, and_self, Int.reduceLE, Int.reduceAdd, Int.reduceSub, Int.reduceMul, Int.reduceNeg, Int.reduceLT, Int.reduceEq, Int.reduceNe, Nat.reduceBEq, Nat.reduceBNe, Nat.reduceEqDiff, amCmp_in, amCmp_lt, amCmp_le, amCmp_gt, amCmp_ge, amCmp_eq, amCmp_ne, Nat.reduceLeDiff, Nat.reduceSub, Bool.and_true, Bool.true_and, Bool.and_self, Bool.or_true, Bool.true_or, isRf_3, isRf_4, isRf_5, isRf_8, isRf_9, isRf_10, isRf_11, isRf_15, isRf_16, isRf_17, isRf_18, isRf_19, isRf_20, isRf_21, isRf_22, isRf_23, isRf_24, isRf_25, isRf_26, isRf_27, isRf_28, k_X12_term_0, k_X12_term_1, k_X12_term_4, k_X12_term_5, k_X12_term_6, k_X12_term_9, k_X12_term_10, k_X12_term_13, k_X12_term_14, k_X12_term_17, k_X12_term_19, k_X12_term_22, k_X12_term_23, k_X12_term_26, k_X12_term_28, k_X12_term_31, k_X12_term_32, k_X12_term_35, k_X12_term_37, k_X12_term_40, k_X12_term_41, k_X12_term_44, k_X12_term_45, k_X12_term_46, k_X12_term_47, k_X12_term_48, k_X12_term_51, k_X12_term_52, k_X12_term_53, k_X12_term_56, k_X12_term_57, k_X12_term_60, k_X12_term_61, k_X12_term_62, k_X12_term_63, k_X12_term_66, k_X12_term_67, k_X12_term_68, k_X12_term_69, k_X12_term_70, k_X12_term_73, k_X12_term_74, k_X12_term_75, k_X12_term_76, k_X12_term_79, k_X12_term_80, k_X12_term_83, k_X12_term_84, k_X12_term_85, k_X12_term_86, k_X12_term_87, k_X12_term_90, k_X12_term_91, k_X12_term_94, k_X12_term_95, w_X12_atom_e, w_X12_look_e, w_X12_within_e, mt, mk, rd_9, rd_10, rd_11, rd_12, rd_u10, rd_rd, mL_rd, hq, hc, hA, sks]
          repeat' (first | assumption | exact tO _ _ _ | exact hrd _ (by omega) (by omega) | exact hrd | apply And.intro | intro _)
          all_goals first | omega | exact absurd trivial (by assumption) | exact tO _ _ _ | exact hrd _ (by omega) (by omega) | exact fin1 _ _ _ _ _ _ _ (by assumption) (by omega) (by omega) (clm_in _) | exact fin2 _ _ _ _ _ (by assumption) rfl | exact (ml _ (by omega)).1 | exact (ml _ (by omega)).2 | (have := yb _ (by assumption); first | omega | exact (ml _ (by omega)).1 | exact (ml _ (by omega)).2)
        · simp only [hc, apF_47] at fin2
          have td : ∀ w, bnd (Int.tdiv v w) := fun w => tdiv_bnd gb
          have td0 : ∀ w, InL (Int.tdiv v w) := fun w => by have := td w; omega
          simp only [↓reduceIte, inR_0, inR_1, inR_m, vSw2_e, swP_n, swP_c, vI_e, vL_e, vNull_e, vIload_e, vLload_e, vAload_e, vIstore_e, vLstore_e, vAstore_e, vIinc_e, vIadd_e, vIsub_e, vImul_e, vIand_e, vIor_e, vIxor_e, vIshl_e, vIshr_e, vIushr_e, vIdiv_e, vIrem_e, vLadd_e, vLsub_e, vLmul_e, vLand_e, vLor_e, vLxor_e, vLdiv_e, vLrem_e, vLushr_e, vLshl_e, vLcmp_e, vIneg_e, vI2l_e, vL2i_e, vI2b_e, vI2c_e, vDup_e, vPop_e, vDup2_e, vGoto_e, vIcEq_e, vIfEq_e, vIcNe_e, vIfNe_e, vIcLt_e, vIfLt_e, vIcGe_e, vIfGe_e, vIcGt_e, vIfGt_e, vIcLe_e, vIfLe_e, vNonnull_e, vSw_e, vGetI_e, vGetL_e, vGetR_e, vPutI_e, vPutZ_e, vPutL_e, vPutR_e, vIald_e, vIald_s, vLald_e, vBald_e, vBald_s, vAald_e, vIast_e, vLast_e, vBast_e, vAast_e, vAlen_e8, vAlen_e9, vAlen_e10, vAlen_e11, vAlen_e5, vAlen_e3, vGets_e, vCompact_e, vLdcS_e, vIret_e, vZret_e, vCret_e, vBret_e, vLret_e, vVret_e, vAret_e, vCallM_e0, vCallMV_e0, vCallS_e0, vCallSV_e0, vCallM_e1, vCallMV_e1, vCallS_e1, vCallSV_e1, vCallM_e2, vCallMV_e2, vCallS_e2, vCallSV_e2, vCallM_e3, vCallMV_e3, vCallS_e3, vCallSV_e3, vCallM_e4, vCallMV_e4, vCallS_e4, vCallSV_e4, vCallM_e5, vCallMV_e5, vCallS_e5, vCallSV_e5, vCallM_e6, vCallMV_e6, vCallS_e6, vCallSV_e6, vCallM_e7, vCallMV_e7, vCallS_e7, vCallSV_e7, vBad_e, vStrVal_e, vStrCod_e, vForm_e, vCallT_e0, vCallT_e1, vCallT_e2, vCopy_e, rf_0_0, rf_0_1, rf_0_2, rf_0_3, rf_0_4, rf_0_7, rf_0_10, rf_0_11, rf_0_12, rf_0_13, rf_0_14, rf_0_15, rf_0_16, rf_1_0, rf_3_0, rf_3_1, rf_6_0, rf_6_1, rf_9_0, rf_9_1, rf_9_3, rf_13_0, rf_13_1, rf_13_2, rf_16_0, rf_16_1, rf_16_2, rf_16_3, rf_21_0, rf_21_1, rf_21_2, rf_21_3, rf_26_0, rf_26_1, rf_26_2, rf_26_3, rf_26_4, rf_26_5, rf_26_6, rf_31_0, rf_31_2, rf_31_5, rf_31_6, rf_36_0, rf_36_1, rf_36_2, rf_36_3, rf_39_0, rf_39_1, rf_39_2, rf_41_0, rf_41_1, rf_41_2, rf_41_3, rf_5000_1, rf_5000_2, rf_5000_3, rf_5000_4, rf_5000_5, rf_5000_15, rf_5000_16, rf_5000_18, rf_5000_19, rf_5000_20, rf_5000_21, rf_5000_22, rf_5000_23, rf_5000_24, rf_5000_25, rf_5000_26, rf_5000_27, rf_5000_36, rf_5000_37, rf_5000_40, rf_5000_41, rf_5000_42, rf_5000_43, rf_5000_44, rf_5000_45, rf_5000_47, rf_5000_52, rf_5000_54, rf_5000_55, rf_100_0, rf_100_1, rf_103_0, rf_103_1, rf_106_0, rf_106_1, rf_109_0, rf_109_1, al_2, al_4, al_5, al_7, al_8, al_10, al_11, al_12, al_14, al_15, al_17, al_18, al_19, al_20, al_22, al_23, al_24, al_25, al_27, al_28, al_29, al_30, al_32, al_33, al_34, al_35, al_37, al_38, al_40, al_42, al_5001, al_5002, al_5003, al_5004, al_5005, al_5006, al_5007, al_5008, al_5009, al_5010, al_5011, al_5012, al_5013, al_5014, al_5015, al_5016, al_5017, al_5018, al_5019, al_5020, al_5021, al_5022, al_5023, al_5024, al_5025, al_5026, al_9000, al_101, al_102, al_104, al_105, al_107, al_108, al_110, al_111, vcs_e, lg_c0, lg_cs, lg_nil, set_c0, set_cs, okst_0, okst_s, acok_n, acok_c, List.contains_nil, List.contains_cons, Bool.or_false, Bool.false_or, Bool.false_eq_true, if_false, if_true, ite_self, ne_eq, true_and, and_true, not_false_eq_true, not_true_eq_false, false_imp_iff, true_imp_iff, Nat.ble_eq, Bool.and_eq_true, reduceCtorEq, or_false, false_or, or_true, true_or, false_and, and_false, and_self, Int.reduceLE, Int.reduceAdd, Int.reduceSub, Int.reduceMul, Int.reduceNeg, Int.reduceLT, Int.reduceEq, Int.reduceNe, Nat.reduceBEq, Nat.reduceBNe, Nat.reduceEqDiff, amCmp_in, amCmp_lt, amCmp_le, amCmp_gt, amCmp_ge, amCmp_eq, amCmp_ne, Nat.reduceLeDiff, Nat.reduceSub, Bool.and_true, Bool.true_and, Bool.and_self, Bool.or_true, Bool.true_or, isRf_3, isRf_4, isRf_5, isRf_8, isRf_9, isRf_10, isRf_11, isRf_15, isRf_16, isRf_17, isRf_18, isRf_19, isRf_20, isRf_21, isRf_22, isRf_23, isRf_24, isRf_25, isRf_26, isRf_27, isRf_28, k_X12_term_0, k_X12_term_1, k_X12_term_4, k_X12_term_5, k_X12_term_6, k_X12_term_9, k_X12_term_10, k_X12_term_13, k_X12_term_14, k_X12_term_17, k_X12_term_19, k_X12_term_22, k_X12_term_23, k_X12_term_26, k_X12_term_28, k_X12_term_31, k_X12_term_32, k_X12_term_35, k_X12_term_37, k_X12_term_40, k_X12_term_41, k_X12_term_44, k_X12_term_45, k_X12_term_46, k_X12_term_47, k_X12_term_48, k_X12_term_51, k_X12_term_52, k_X12_term_53, k_X12_term_56, k_X12_term_57, k_X12_term_60, k_X12_term_61, k_X12_term_62, k_X12_term_63, k_X12_term_66, k_X12_term_67, k_X12_term_68, k_X12_term_69, k_X12_term_70, k_X12_term_73, k_X12_term_74, k_X12_term_75, k_X12_term_76, k_X12_term_79, k_X12_term_80, k_X12_term_83, k_X12_term_84, k_X12_term_85, k_X12_term_86, k_X12_term_87, k_X12_term_90, k_X12_term_91, k_X12_term_94, k_X12_term_95, w_X12_atom_e, w_X12_look_e, w_X12_within_e, mt, mk, rd_9, rd_10, rd_11, rd_12, rd_u10, rd_rd, mL_rd, hq, hc, hA, sks]
          repeat' (first | assumption | exact tO _ _ _ | exact hrd _ (by omega) (by omega) | exact hrd | apply And.intro | intro _)
          all_goals first | omega | exact absurd trivial (by assumption) | exact tO _ _ _ | exact hrd _ (by omega) (by omega) | exact fin1 _ _ _ _ _ _ _ (by assumption) (by omega) (by omega) (clm_in _) | exact fin2 _ _ _ _ _ (by assumption) (by rw [if_pos (by assumption)]; rfl) | exact fin2 _ _ _ _ _ (by assumption) (by rw [if_neg (by assumption), clm_b (td _)]) | exact (td0 _).1 | exact (td0 _).2 | (have := yb _ (by assumption); omega)
      · have hc : ¬ (mtx m (sk (mtx m) (m 5000 9) p) = 42) ∧ ¬ (mtx m (sk (mtx m) (m 5000 9) p) = 47) := by
          unfold sMul at c
          simpa using c
        rw [if_neg c] at hZk
        have h0 := hq2 _ hZk
        generalize hq : sk (mtx m) (m 5000 9) p = q at *
        refine ⟨120, ?_⟩
        simp only [↓reduceIte, inR_0, inR_1, inR_m, vSw2_e, swP_n, swP_c, vI_e, vL_e, vNull_e, vIload_e, vLload_e, vAload_e, vIstore_e, vLstore_e, vAstore_e, vIinc_e, vIadd_e, vIsub_e, vImul_e, vIand_e, vIor_e, vIxor_e, vIshl_e, vIshr_e, vIushr_e, vIdiv_e, vIrem_e, vLadd_e, vLsub_e, vLmul_e, vLand_e, vLor_e, vLxor_e, vLdiv_e, vLrem_e, vLushr_e, vLshl_e, vLcmp_e, vIneg_e, vI2l_e, vL2i_e, vI2b_e, vI2c_e, vDup_e, vPop_e, vDup2_e, vGoto_e, vIcEq_e, vIfEq_e, vIcNe_e, vIfNe_e, vIcLt_e, vIfLt_e, vIcGe_e, vIfGe_e, vIcGt_e, vIfGt_e, vIcLe_e, vIfLe_e, vNonnull_e, vSw_e, vGetI_e, vGetL_e, vGetR_e, vPutI_e, vPutZ_e, vPutL_e, vPutR_e, vIald_e, vIald_s, vLald_e, vBald_e, vBald_s, vAald_e, vIast_e, vLast_e, vBast_e, vAast_e, vAlen_e8, vAlen_e9, vAlen_e10, vAlen_e11, vAlen_e5, vAlen_e3, vGets_e, vCompact_e, vLdcS_e, vIret_e, vZret_e, vCret_e, vBret_e, vLret_e, vVret_e, vAret_e, vCallM_e0, vCallMV_e0, vCallS_e0, vCallSV_e0, vCallM_e1, vCallMV_e1, vCallS_e1, vCallSV_e1, vCallM_e2, vCallMV_e2, vCallS_e2, vCallSV_e2, vCallM_e3, vCallMV_e3, vCallS_e3, vCallSV_e3, vCallM_e4, vCallMV_e4, vCallS_e4, vCallSV_e4, vCallM_e5, vCallMV_e5, vCallS_e5, vCallSV_e5, vCallM_e6, vCallMV_e6, vCallS_e6, vCallSV_e6, vCallM_e7, vCallMV_e7, vCallS_e7, vCallSV_e7, vBad_e, vStrVal_e, vStrCod_e, vForm_e, vCallT_e0, vCallT_e1, vCallT_e2, vCopy_e, rf_0_0, rf_0_1, rf_0_2, rf_0_3, rf_0_4, rf_0_7, rf_0_10, rf_0_11, rf_0_12, rf_0_13, rf_0_14, rf_0_15, rf_0_16, rf_1_0, rf_3_0, rf_3_1, rf_6_0, rf_6_1, rf_9_0, rf_9_1, rf_9_3, rf_13_0, rf_13_1, rf_13_2, rf_16_0, rf_16_1, rf_16_2, rf_16_3, rf_21_0, rf_21_1, rf_21_2, rf_21_3, rf_26_0, rf_26_1, rf_26_2, rf_26_3, rf_26_4, rf_26_5, rf_26_6, rf_31_0, rf_31_2, rf_31_5, rf_31_6, rf_36_0, rf_36_1, rf_36_2, rf_36_3, rf_39_0, rf_39_1, rf_39_2, rf_41_0, rf_41_1, rf_41_2, rf_41_3, rf_5000_1, rf_5000_2, rf_5000_3, rf_5000_4, rf_5000_5, rf_5000_15, rf_5000_16, rf_5000_18, rf_5000_19, rf_5000_20, rf_5000_21, rf_5000_22, rf_5000_23, rf_5000_24, rf_5000_25, rf_5000_26, rf_5000_27, rf_5000_36, rf_5000_37, rf_5000_40, rf_5000_41, rf_5000_42, rf_5000_43, rf_5000_44, rf_5000_45, rf_5000_47, rf_5000_52, rf_5000_54, rf_5000_55, rf_100_0, rf_100_1, rf_103_0, rf_103_1, rf_106_0, rf_106_1, rf_109_0, rf_109_1, al_2, al_4, al_5, al_7, al_8, al_10, al_11, al_12, al_14, al_15, al_17, al_18, al_19, al_20, al_22, al_23, al_24, al_25, al_27, al_28, al_29, al_30, al_32, al_33, al_34, al_35, al_37, al_38, al_40, al_42, al_5001, al_5002, al_5003, al_5004, al_5005, al_5006, al_5007, al_5008, al_5009, al_5010, al_5011, al_5012, al_5013, al_5014, al_5015, al_5016, al_5017, al_5018, al_5019, al_5020, al_5021, al_5022, al_5023, al_5024, al_5025, al_5026, al_9000, al_101, al_102, al_104, al_105, al_107, al_108, al_110, al_111, vcs_e, lg_c0, lg_cs, lg_nil, set_c0, set_cs, okst_0, okst_s, acok_n, acok_c, List.contains_nil, List.contains_cons, Bool.or_false, Bool.false_or, Bool.false_eq_true, if_false, if_true, ite_self, ne_eq, true_and, and_true, not_false_eq_true, not_true_eq_false, false_imp_iff, true_imp_iff, Nat.ble_eq, Bool.and_eq_true, reduceCtorEq, or_false, false_or, or_true, true_or, false_and, and_false, and_self, Int.reduceLE, Int.reduceAdd, Int.reduceSub, Int.reduceMul, Int.reduceNeg, Int.reduceLT, Int.reduceEq, Int.reduceNe, Nat.reduceBEq, Nat.reduceBNe, Nat.reduceEqDiff, amCmp_in, amCmp_lt, amCmp_le, amCmp_gt, amCmp_ge, amCmp_eq, amCmp_ne, Nat.reduceLeDiff, Nat.reduceSub, Bool.and_true, Bool.true_and, Bool.and_self, Bool.or_true, Bool.true_or, isRf_3, isRf_4, isRf_5, isRf_8, isRf_9, isRf_10, isRf_11, isRf_15, isRf_16, isRf_17, isRf_18, isRf_19, isRf_20, isRf_21, isRf_22, isRf_23, isRf_24, isRf_25, isRf_26, isRf_27, isRf_28, k_X12_term_0, k_X12_term_1, k_X12_term_4, k_X12_term_5, k_X12_term_6, k_X12_term_9, k_X12_term_10, k_X12_term_13, k_X12_term_14, k_X12_term_17, k_X12_term_19, k_X12_term_22, k_X12_term_23, k_X12_term_26, k_X12_term_28, k_X12_term_31, k_X12_term_32, k_X12_term_35, k_X12_term_37, k_X12_term_40, k_X12_term_41, k_X12_term_44, k_X12_term_45, k_X12_term_46, k_X12_term_47, k_X12_term_48, k_X12_term_51, k_X12_term_52, k_X12_term_53, k_X12_term_56, k_X12_term_57, k_X12_term_60, k_X12_term_61, k_X12_term_62, k_X12_term_63, k_X12_term_66, k_X12_term_67, k_X12_term_68, k_X12_term_69, k_X12_term_70, k_X12_term_73, k_X12_term_74, k_X12_term_75, k_X12_term_76, k_X12_term_79, k_X12_term_80, k_X12_term_83, k_X12_term_84, k_X12_term_85, k_X12_term_86, k_X12_term_87, k_X12_term_90, k_X12_term_91, k_X12_term_94, k_X12_term_95, w_X12_atom_e, w_X12_look_e, w_X12_within_e, mt, mk, rd_9, rd_10, rd_11, rd_12, rd_u10, hq, sks]
        repeat' (first | assumption | exact tO _ _ _ | exact hrd _ (by omega) (by omega) | exact hrd | apply And.intro | intro _)
        all_goals first | omega | exact absurd trivial (by assumption) | exact h0 | exact tO _ _ _
  · change vcs _ _ _ _ 120 0 [(28, 5000), (6, 0), (6, 0), (6, 0), (6, 0)] [] (rdM m p (-1) (6 - r))
    have hgo := hao p p0 p1
    have hrd : rdOk (rdM m p (-1) (6 - r)) r := rdOk_rd ht hL p0 p1 rfl hr
    have fin1 : ∀ f v p' d, nx p = .inl f → InR v → 6 - (r : Int) ≤ d → d ≤ 6 → ∃ n, inv_term m Z r n 5 [(28, 5000), (0, v), (6, 0), (6, 0), (6, 0)] [] (rdM m p' f d) := fun f v p' d e hv d0 d1 => by
      rw [e, gok_l] at hgo
      rw [e] at hZ
      exact ⟨0, rfl, rfl, v, _, _, _, rfl, hv, Or.inl ⟨rfl, f, p', d, rfl, hZ.symm, by omega, by omega, d0, d1⟩⟩
    have fin2 : ∀ y, nx p = .inr y → ∃ n, inv_term m Z r n 5 [(28, 5000), (0, val (mL m) y.2), (6, 0), (6, 0), (6, 0)] [] (rdM m y.1 (-1) (6 - r)) := fun y e => by
      rw [e, gok_r] at hgo
      rw [e] at hZ
      have hg := hav _ _ e
      have hb := hg.1
      exact ⟨241, rfl, rfl, _, _, _, _, rfl, by omega, Or.inr ⟨240, y.1, y.2, rfl, rfl, rfl, vok_m hg (by omega), by omega, by omega, by omega, by rw [hA]; exact hZ.symm⟩⟩
    simp only [↓reduceIte, inR_0, inR_1, inR_m, vSw2_e, swP_n, swP_c, vI_e, vL_e, vNull_e, vIload_e, vLload_e, vAload_e, vIstore_e, vLstore_e, vAstore_e, vIinc_e, vIadd_e, vIsub_e, vImul_e, vIand_e, vIor_e, vIxor_e, vIshl_e, vIshr_e, vIushr_e, vIdiv_e, vIrem_e, vLadd_e, vLsub_e, vLmul_e, vLand_e, vLor_e, vLxor_e, vLdiv_e, vLrem_e, vLushr_e, vLshl_e, vLcmp_e, vIneg_e, vI2l_e, vL2i_e, vI2b_e, vI2c_e, vDup_e, vPop_e, vDup2_e, vGoto_e, vIcEq_e, vIfEq_e, vIcNe_e, vIfNe_e, vIcLt_e, vIfLt_e, vIcGe_e, vIfGe_e, vIcGt_e, vIfGt_e, vIcLe_e, vIfLe_e, vNonnull_e, vSw_e, vGetI_e, vGetL_e, vGetR_e, vPutI_e, vPutZ_e, vPutL_e, vPutR_e, vIald_e, vIald_s, vLald_e, vBald_e, vBald_s, vAald_e, vIast_e, vLast_e, vBast_e, vAast_e, vAlen_e8, vAlen_e9, vAlen_e10, vAlen_e11, vAlen_e5, vAlen_e3, vGets_e, vCompact_e, vLdcS_e, vIret_e, vZret_e, vCret_e, vBret_e, vLret_e, vVret_e, vAret_e, vCallM_e0, vCallMV_e0, vCallS_e0, vCallSV_e0, vCallM_e1, vCallMV_e1, vCallS_e1, vCallSV_e1, vCallM_e2, vCallMV_e2, vCallS_e2, vCallSV_e2, vCallM_e3, vCallMV_e3, vCallS_e3, vCallSV_e3, vCallM_e4, vCallMV_e4, vCallS_e4, vCallSV_e4, vCallM_e5, vCallMV_e5, vCallS_e5, vCallSV_e5, vCallM_e6, vCallMV_e6, vCallS_e6, vCallSV_e6, vCallM_e7, vCallMV_e7, vCallS_e7, vCallSV_e7, vBad_e, vStrVal_e, vStrCod_e, vForm_e, vCallT_e0, vCallT_e1, vCallT_e2, vCopy_e, rf_0_0, rf_0_1, rf_0_2, rf_0_3, rf_0_4, rf_0_7, rf_0_10, rf_0_11, rf_0_12, rf_0_13, rf_0_14, rf_0_15, rf_0_16, rf_1_0, rf_3_0, rf_3_1, rf_6_0, rf_6_1, rf_9_0, rf_9_1, rf_9_3, rf_13_0, rf_13_1, rf_13_2, rf_16_0, rf_16_1, rf_16_2, rf_16_3, rf_21_0, rf_21_1, rf_21_2, rf_21_3, rf_26_0, rf_26_1, rf_26_2, rf_26_3, rf_26_4, rf_26_5, rf_26_6, rf_31_0, rf_31_2, rf_31_5, rf_31_6, rf_36_0, rf_36_1, rf_36_2, rf_36_3, rf_39_0, rf_39_1, rf_39_2, rf_41_0, rf_41_1, rf_41_2, rf_41_3, rf_5000_1, rf_5000_2, rf_5000_3, rf_5000_4, rf_5000_5, rf_5000_15, rf_5000_16, rf_5000_18, rf_5000_19, rf_5000_20, rf_5000_21, rf_5000_22, rf_5000_23, rf_5000_24, rf_5000_25, rf_5000_26, rf_5000_27, rf_5000_36, rf_5000_37, rf_5000_40, rf_5000_41, rf_5000_42, rf_5000_43, rf_5000_44, rf_5000_45, rf_5000_47, rf_5000_52, rf_5000_54, rf_5000_55, rf_100_0, rf_100_1, rf_103_0, rf_103_1, rf_106_0, rf_106_1, rf_109_0, rf_109_1, al_2, al_4, al_5, al_7, al_8, al_10, al_11, al_12, al_14, al_15, al_17, al_18, al_19, al_20, al_22, al_23, al_24, al_25, al_27, al_28, al_29, al_30, al_32, al_33, al_34, al_35, al_37, al_38, al_40, al_42, al_5001, al_5002, al_5003, al_5004, al_5005, al_5006, al_5007, al_5008, al_5009, al_5010, al_5011, al_5012, al_5013, al_5014, al_5015, al_5016, al_5017, al_5018, al_5019, al_5020, al_5021, al_5022, al_5023, al_5024, al_5025, al_5026, al_9000, al_101, al_102, al_104, al_105, al_107, al_108, al_110, al_111, vcs_e, lg_c0, lg_cs, lg_nil, set_c0, set_cs, okst_0, okst_s, acok_n, acok_c, List.contains_nil, List.contains_cons, Bool.or_false, Bool.false_or, Bool.false_eq_true, if_false, if_true, ite_self, ne_eq, true_and, and_true, not_false_eq_true, not_true_eq_false, false_imp_iff, true_imp_iff, Nat.ble_eq, Bool.and_eq_true, reduceCtorEq, or_false, false_or, or_true, true_or, false_and, and_false, and_self, Int.reduceLE, Int.reduceAdd, Int.reduceSub, Int.reduceMul, Int.reduceNeg, Int.reduceLT, Int.reduceEq, Int.reduceNe, Nat.reduceBEq, Nat.reduceBNe, Nat.reduceEqDiff, amCmp_in, amCmp_lt, amCmp_le, amCmp_gt, amCmp_ge, amCmp_eq, amCmp_ne, Nat.reduceLeDiff, Nat.reduceSub, Bool.and_true, Bool.true_and, Bool.and_self, Bool.or_true, Bool.true_or, isRf_3, isRf_4, isRf_5, isRf_8, isRf_9, isRf_10, isRf_11, isRf_15, isRf_16, isRf_17, isRf_18, isRf_19, isRf_20, isRf_21, isRf_22, isRf_23, isRf_24, isRf_25, isRf_26, isRf_27, isRf_28, k_X12_term_0, k_X12_term_1, k_X12_term_4, k_X12_term_5, k_X12_term_6, k_X12_term_9, k_X12_term_10, k_X12_term_13, k_X12_term_14, k_X12_term_17, k_X12_term_19, k_X12_term_22, k_X12_term_23, k_X12_term_26, k_X12_term_28, k_X12_term_31, k_X12_term_32, k_X12_term_35, k_X12_term_37, k_X12_term_40, k_X12_term_41, k_X12_term_44, k_X12_term_45, k_X12_term_46, k_X12_term_47, k_X12_term_48, k_X12_term_51, k_X12_term_52, k_X12_term_53, k_X12_term_56, k_X12_term_57, k_X12_term_60, k_X12_term_61, k_X12_term_62, k_X12_term_63, k_X12_term_66, k_X12_term_67, k_X12_term_68, k_X12_term_69, k_X12_term_70, k_X12_term_73, k_X12_term_74, k_X12_term_75, k_X12_term_76, k_X12_term_79, k_X12_term_80, k_X12_term_83, k_X12_term_84, k_X12_term_85, k_X12_term_86, k_X12_term_87, k_X12_term_90, k_X12_term_91, k_X12_term_94, k_X12_term_95, w_X12_atom_e, w_X12_look_e, w_X12_within_e, mt, rd_9, rd_10, rd_rd, mL_rd, hA]
    repeat' (first | assumption | exact tO _ _ _ | exact hrd _ (by omega) (by omega) | exact hrd | apply And.intro | intro _)
    all_goals first | omega | exact absurd trivial (by assumption) | exact hrd | exact fin1 _ _ _ _ (by assumption) (by omega) (by omega) (by omega) | exact fin2 _ (by assumption)
