/-! the reference reads CONDITIONS: comparisons, UNITS -/
theorem gS_sk {t : Int → Int} {n p : Int} (h : p ≤ n) (r : Nat) : gS t n r (sk t n p) = gS t n r p := by
  have ha : ∀ inn, gAt t n inn (sk t n p) = gAt t n inn p := fun inn => by unfold gAt; rw [sk_sk t h]
  rw [gS_e]; unfold gSum gTrm; rw [ha]
theorem gU_sk {t : Int → Int} {n p : Int} (h : p ≤ n) (r : Nat) : gU t n r (sk t n p) = gU t n r p := by
  cases r with
  | zero => unfold gU; rw [sk_sk t h, gS_sk h]
  | succ r => unfold gU; rw [sk_sk t h, gS_sk h]
theorem apF_sgv {c l r v : Int} (h : (c = 61 ∧ ((l = r ∧ v = 1) ∨ (l ≠ r ∧ v = 0))) ∨ (c = 60 ∧ ((l < r ∧ v = 1) ∨ (r ≤ l ∧ v = 0))) ∨ (c = 62 ∧ ((r < l ∧ v = 1) ∨ (l ≤ r ∧ v = 0)))) : v = apF c l r := by
  rcases h with ⟨rfl, h⟩ | ⟨rfl, h⟩ | ⟨rfl, h⟩
  · rw [apF_61]; split <;> omega
  · rw [apF_60]; split <;> omega
  · rw [apF_62]; split <;> omega

theorem wd_1617 : Cond.methodLink RX12 196 yX12_isSign ∈ TBL := tb_tab (List.mem_of_getElem? (i := 1617) (by decide +kernel)) rfl
theorem wd_1619 : Cond.code yX12_isSign cX12_isSign 1 (some .boolean) ∈ TBL := tb_tab (List.mem_of_getElem? (i := 1619) (by decide +kernel)) rfl
theorem lk_X12_196 : amLk RX12 196 yX12_isSign cX12_isSign 1 (some .boolean) 1 := ⟨wd_1617, wd_12, wd_1619, by decide +kernel, by decide +kernel, by decide⟩
theorem wd_1618 : Cond.static yX12_isSign ∈ TBL := tb_tab (List.mem_of_getElem? (i := 1618) (by decide +kernel)) rfl
def a_X12_compares (r : Nat) : AC := [(0, vIload 1 1), (1, vIfEq 8 4), (4, vIload 2 5), (5, vGoto 12), (8, vAload 0 9), (9, vCallM (w_X12_sum r) 28 0 12), (12, vIstore 3 13), (13, vAload 0 14), (14, vGetI 28 11 17), (17, vI (-1) 18), (18, vIcEq 23 21), (21, vI 0 22), (22, vZret), (23, vAload 0 24), (24, vCallM w_X12_look 28 0 27), (27, vIstore 4 29), (29, vIload 4 31), (31, vCallS w_X12_isSign 1 34), (34, vIfNe 42 37), (37, vAload 0 38), (38, vCallM w_X12_fails 28 0 41), (41, vZret), (42, vAload 0 43), (43, vDup 44), (44, vGetI 28 10 47), (47, vI 1 48), (48, vIadd 49), (49, vPutI 28 10 52), (52, vAload 0 53), (53, vCallM (w_X12_sum r) 28 0 56), (56, vIstore 5 58), (58, vIload 4 60), (60, vI 61 62), (62, vIcNe 79 65), (65, vIload 3 66), (66, vIload 5 68), (68, vIcNe 75 71), (71, vI 1 72), (72, vGoto 111), (75, vI 0 76), (76, vGoto 111), (79, vIload 4 81), (81, vI 60 83), (83, vIcNe 100 86), (86, vIload 3 87), (87, vIload 5 89), (89, vIcGe 96 92), (92, vI 1 93), (93, vGoto 111), (96, vI 0 97), (97, vGoto 111), (100, vIload 3 101), (101, vIload 5 103), (103, vIcLe 110 106), (106, vI 1 107), (107, vGoto 111), (110, vI 0 111), (111, vZret)]
theorem k_X12_compares_0 (r : Nat) : look (a_X12_compares r) 0 = vIload 1 1 := rfl
theorem k_X12_compares_1 (r : Nat) : look (a_X12_compares r) 1 = vIfEq 8 4 := rfl
theorem k_X12_compares_4 (r : Nat) : look (a_X12_compares r) 4 = vIload 2 5 := rfl
theorem k_X12_compares_5 (r : Nat) : look (a_X12_compares r) 5 = vGoto 12 := rfl
theorem k_X12_compares_8 (r : Nat) : look (a_X12_compares r) 8 = vAload 0 9 := rfl
theorem k_X12_compares_9 (r : Nat) : look (a_X12_compares r) 9 = vCallM (w_X12_sum r) 28 0 12 := rfl
theorem k_X12_compares_12 (r : Nat) : look (a_X12_compares r) 12 = vIstore 3 13 := rfl
theorem k_X12_compares_13 (r : Nat) : look (a_X12_compares r) 13 = vAload 0 14 := rfl
theorem k_X12_compares_14 (r : Nat) : look (a_X12_compares r) 14 = vGetI 28 11 17 := rfl
theorem k_X12_compares_17 (r : Nat) : look (a_X12_compares r) 17 = vI (-1) 18 := rfl
theorem k_X12_compares_18 (r : Nat) : look (a_X12_compares r) 18 = vIcEq 23 21 := rfl
theorem k_X12_compares_21 (r : Nat) : look (a_X12_compares r) 21 = vI 0 22 := rfl
theorem k_X12_compares_22 (r : Nat) : look (a_X12_compares r) 22 = vZret := rfl
theorem k_X12_compares_23 (r : Nat) : look (a_X12_compares r) 23 = vAload 0 24 := rfl
theorem k_X12_compares_24 (r : Nat) : look (a_X12_compares r) 24 = vCallM w_X12_look 28 0 27 := rfl
theorem k_X12_compares_27 (r : Nat) : look (a_X12_compares r) 27 = vIstore 4 29 := rfl
theorem k_X12_compares_29 (r : Nat) : look (a_X12_compares r) 29 = vIload 4 31 := rfl
theorem k_X12_compares_31 (r : Nat) : look (a_X12_compares r) 31 = vCallS w_X12_isSign 1 34 := rfl
theorem k_X12_compares_34 (r : Nat) : look (a_X12_compares r) 34 = vIfNe 42 37 := rfl
theorem k_X12_compares_37 (r : Nat) : look (a_X12_compares r) 37 = vAload 0 38 := rfl
theorem k_X12_compares_38 (r : Nat) : look (a_X12_compares r) 38 = vCallM w_X12_fails 28 0 41 := rfl
theorem k_X12_compares_41 (r : Nat) : look (a_X12_compares r) 41 = vZret := rfl
theorem k_X12_compares_42 (r : Nat) : look (a_X12_compares r) 42 = vAload 0 43 := rfl
theorem k_X12_compares_43 (r : Nat) : look (a_X12_compares r) 43 = vDup 44 := rfl
theorem k_X12_compares_44 (r : Nat) : look (a_X12_compares r) 44 = vGetI 28 10 47 := rfl
theorem k_X12_compares_47 (r : Nat) : look (a_X12_compares r) 47 = vI 1 48 := rfl
theorem k_X12_compares_48 (r : Nat) : look (a_X12_compares r) 48 = vIadd 49 := rfl
theorem k_X12_compares_49 (r : Nat) : look (a_X12_compares r) 49 = vPutI 28 10 52 := rfl
theorem k_X12_compares_52 (r : Nat) : look (a_X12_compares r) 52 = vAload 0 53 := rfl
theorem k_X12_compares_53 (r : Nat) : look (a_X12_compares r) 53 = vCallM (w_X12_sum r) 28 0 56 := rfl
theorem k_X12_compares_56 (r : Nat) : look (a_X12_compares r) 56 = vIstore 5 58 := rfl
theorem k_X12_compares_58 (r : Nat) : look (a_X12_compares r) 58 = vIload 4 60 := rfl
theorem k_X12_compares_60 (r : Nat) : look (a_X12_compares r) 60 = vI 61 62 := rfl
theorem k_X12_compares_62 (r : Nat) : look (a_X12_compares r) 62 = vIcNe 79 65 := rfl
theorem k_X12_compares_65 (r : Nat) : look (a_X12_compares r) 65 = vIload 3 66 := rfl
theorem k_X12_compares_66 (r : Nat) : look (a_X12_compares r) 66 = vIload 5 68 := rfl
theorem k_X12_compares_68 (r : Nat) : look (a_X12_compares r) 68 = vIcNe 75 71 := rfl
theorem k_X12_compares_71 (r : Nat) : look (a_X12_compares r) 71 = vI 1 72 := rfl
theorem k_X12_compares_72 (r : Nat) : look (a_X12_compares r) 72 = vGoto 111 := rfl
theorem k_X12_compares_75 (r : Nat) : look (a_X12_compares r) 75 = vI 0 76 := rfl
theorem k_X12_compares_76 (r : Nat) : look (a_X12_compares r) 76 = vGoto 111 := rfl
theorem k_X12_compares_79 (r : Nat) : look (a_X12_compares r) 79 = vIload 4 81 := rfl
theorem k_X12_compares_81 (r : Nat) : look (a_X12_compares r) 81 = vI 60 83 := rfl
theorem k_X12_compares_83 (r : Nat) : look (a_X12_compares r) 83 = vIcNe 100 86 := rfl
theorem k_X12_compares_86 (r : Nat) : look (a_X12_compares r) 86 = vIload 3 87 := rfl
theorem k_X12_compares_87 (r : Nat) : look (a_X12_compares r) 87 = vIload 5 89 := rfl
theorem k_X12_compares_89 (r : Nat) : look (a_X12_compares r) 89 = vIcGe 96 92 := rfl
theorem k_X12_compares_92 (r : Nat) : look (a_X12_compares r) 92 = vI 1 93 := rfl
theorem k_X12_compares_93 (r : Nat) : look (a_X12_compares r) 93 = vGoto 111 := rfl
theorem k_X12_compares_96 (r : Nat) : look (a_X12_compares r) 96 = vI 0 97 := rfl
theorem k_X12_compares_97 (r : Nat) : look (a_X12_compares r) 97 = vGoto 111 := rfl
theorem k_X12_compares_100 (r : Nat) : look (a_X12_compares r) 100 = vIload 3 101 := rfl
theorem k_X12_compares_101 (r : Nat) : look (a_X12_compares r) 101 = vIload 5 103 := rfl
theorem k_X12_compares_103 (r : Nat) : look (a_X12_compares r) 103 = vIcLe 110 106 := rfl
theorem k_X12_compares_106 (r : Nat) : look (a_X12_compares r) 106 = vI 1 107 := rfl
theorem k_X12_compares_107 (r : Nat) : look (a_X12_compares r) 107 = vGoto 111 := rfl
theorem k_X12_compares_110 (r : Nat) : look (a_X12_compares r) 110 = vI 0 111 := rfl
theorem k_X12_compares_111 (r : Nat) : look (a_X12_compares r) 111 = vZret := rfl
theorem o_X12_compares {X : amX} (r : Nat) (h6 : r ≤ 6) (e1 : XT X = TT) (e2 : XD X = 32) (hB : amB X RX12 cX12_compares (some .boolean) 6) : ∀ pc, amOK X pc (look (a_X12_compares r) pc) := by
  have hT : amTok (XT X) := e1 ▸ TT_ok
  refine look_ok ?_
  unfold a_X12_compares
  refine fc (ok_iload_n hB dX12_compares_0) ?_
  refine fc (ok_if_eq hB (t := 8) (by decide) dX12_compares_1) ?_
  refine fc (ok_iload_n hB dX12_compares_4) ?_
  refine fc (ok_goto hB (t := 12) (by decide) dX12_compares_5) ?_
  refine fc (ok_aload_n hB dX12_compares_8) ?_
  refine fc (ok_callM hB hT (fun av9 σ9 Q9 h9 => e1 ▸ (s_X12_sum r (sumS r)) av9 σ9 Q9 h9) lk_X12_176 (by rw [e2]; omega) (c := 12) rfl rfl rfl wd_1594 sl_X12_sum dX12_compares_9) ?_
  refine fc (ok_istore_n hB (by decide) dX12_compares_12) ?_
  refine fc (ok_aload_n hB dX12_compares_13) ?_
  refine fc (ok_getI hB hT fl_X12_143 rfl rfl (Or.inl af_12_11) dX12_compares_14) ?_
  refine fc (ok_iconst hB dX12_compares_17) ?_
  refine fc (ok_icmp_eq hB (t := 23) (by decide) dX12_compares_18) ?_
  refine fc (ok_iconst hB dX12_compares_21) ?_
  refine fc (ok_zret hB dX12_compares_22) ?_
  refine fc (ok_aload_n hB dX12_compares_23) ?_
  refine fc (ok_callM hB hT (e1 ▸ s_X12_look) lk_X12_153 (by rw [e2]; omega) (c := 12) rfl rfl rfl wd_1521 sl_X12_look dX12_compares_24) ?_
  refine fc (ok_istore hB (by decide) dX12_compares_27) ?_
  refine fc (ok_iload hB dX12_compares_29) ?_
  refine fc (ok_callS hB (e1 ▸ s_X12_isSign) lk_X12_196 (by rw [e2]; omega) wd_1618 dX12_compares_31) ?_
  refine fc (ok_if_ne hB (t := 42) (by decide) dX12_compares_34) ?_
  refine fc (ok_aload_n hB dX12_compares_37) ?_
  refine fc (ok_callM hB hT (e1 ▸ s_X12_fails) lk_X12_149 (by rw [e2]; omega) (c := 12) rfl rfl rfl wd_1525 sl_X12_fails dX12_compares_38) ?_
  refine fc (ok_zret hB dX12_compares_41) ?_
  refine fc (ok_aload_n hB dX12_compares_42) ?_
  refine fc (ok_dup hB dX12_compares_43) ?_
  refine fc (ok_getI hB hT fl_X12_134 rfl rfl (Or.inl af_12_10) dX12_compares_44) ?_
  refine fc (ok_iconst hB dX12_compares_47) ?_
  refine fc (ok_iadd hB dX12_compares_48) ?_
  refine fc (ok_putI hB hT fp_X12_134 rfl rfl rfl af_12_10 dX12_compares_49) ?_
  refine fc (ok_aload_n hB dX12_compares_52) ?_
  refine fc (ok_callM hB hT (fun av9 σ9 Q9 h9 => e1 ▸ (s_X12_sum r (sumS r)) av9 σ9 Q9 h9) lk_X12_176 (by rw [e2]; omega) (c := 12) rfl rfl rfl wd_1594 sl_X12_sum dX12_compares_53) ?_
  refine fc (ok_istore hB (by decide) dX12_compares_56) ?_
  refine fc (ok_iload hB dX12_compares_58) ?_
  refine fc (ok_bipush hB dX12_compares_60 (by decide)) ?_
  refine fc (ok_icmp_ne hB (t := 79) (by decide) dX12_compares_62) ?_
  refine fc (ok_iload_n hB dX12_compares_65) ?_
  refine fc (ok_iload hB dX12_compares_66) ?_
  refine fc (ok_icmp_ne hB (t := 75) (by decide) dX12_compares_68) ?_
  refine fc (ok_iconst hB dX12_compares_71) ?_
  refine fc (ok_goto hB (t := 111) (by decide) dX12_compares_72) ?_
  refine fc (ok_iconst hB dX12_compares_75) ?_
  refine fc (ok_goto hB (t := 111) (by decide) dX12_compares_76) ?_
  refine fc (ok_iload hB dX12_compares_79) ?_
  refine fc (ok_bipush hB dX12_compares_81 (by decide)) ?_
  refine fc (ok_icmp_ne hB (t := 100) (by decide) dX12_compares_83) ?_
  refine fc (ok_iload_n hB dX12_compares_86) ?_
  refine fc (ok_iload hB dX12_compares_87) ?_
  refine fc (ok_icmp_ge hB (t := 96) (by decide) dX12_compares_89) ?_
  refine fc (ok_iconst hB dX12_compares_92) ?_
  refine fc (ok_goto hB (t := 111) (by decide) dX12_compares_93) ?_
  refine fc (ok_iconst hB dX12_compares_96) ?_
  refine fc (ok_goto hB (t := 111) (by decide) dX12_compares_97) ?_
  refine fc (ok_iload_n hB dX12_compares_100) ?_
  refine fc (ok_iload hB dX12_compares_101) ?_
  refine fc (ok_icmp_le hB (t := 110) (by decide) dX12_compares_103) ?_
  refine fc (ok_iconst hB dX12_compares_106) ?_
  refine fc (ok_goto hB (t := 111) (by decide) dX12_compares_107) ?_
  refine fc (ok_iconst hB dX12_compares_110) ?_
  refine fc (ok_zret hB dX12_compares_111) ?_
  exact fn

def w_X12_compares (r : Nat) : WP := fun av σ Q => ∃ (h : Int) (v : Int), av = [(28, 5000), (0, h), (0, v)] ∧ (rdOk σ r ∧ (h = 0 ∨ h = 1) ∧ InR v ∧ (h = 0 → (∀ f v p d, gCmp (mtx σ) (σ 5000 9) r (gS (mtx σ) (σ 5000 9) r (σ 5000 10)) = .inl f → (v = 0 ∨ v = 1) → 6 - (r : Int) ≤ d → d ≤ 6 → Q (0, v) (rdM σ p f d)) ∧ (∀ y, gCmp (mtx σ) (σ 5000 9) r (gS (mtx σ) (σ 5000 9) r (σ 5000 10)) = .inr y → Q (0, val (mL σ) y.2) (rdM σ y.1 (-1) (6 - r)))) ∧ (h = 1 → ∃ g, v = val (mL σ) g ∧ gd (mL σ) (2 * r + 3) g ∧ (∀ f v p d, gCmp (mtx σ) (σ 5000 9) r (.inr (σ 5000 10, g)) = .inl f → (v = 0 ∨ v = 1) → 6 - (r : Int) ≤ d → d ≤ 6 → Q (0, v) (rdM σ p f d)) ∧ (∀ y, gCmp (mtx σ) (σ 5000 9) r (.inr (σ 5000 10, g)) = .inr y → Q (0, val (mL σ) y.2) (rdM σ y.1 (-1) (6 - r)))))
theorem w_X12_compares_e (r : Nat) (h : Int) (v : Int) (σ : Mem) (Q : AV → Mem → Prop) : w_X12_compares r [(28, 5000), (0, h), (0, v)] σ Q = (rdOk σ r ∧ (h = 0 ∨ h = 1) ∧ InR v ∧ (h = 0 → (∀ f v p d, gCmp (mtx σ) (σ 5000 9) r (gS (mtx σ) (σ 5000 9) r (σ 5000 10)) = .inl f → (v = 0 ∨ v = 1) → 6 - (r : Int) ≤ d → d ≤ 6 → Q (0, v) (rdM σ p f d)) ∧ (∀ y, gCmp (mtx σ) (σ 5000 9) r (gS (mtx σ) (σ 5000 9) r (σ 5000 10)) = .inr y → Q (0, val (mL σ) y.2) (rdM σ y.1 (-1) (6 - r)))) ∧ (h = 1 → ∃ g, v = val (mL σ) g ∧ gd (mL σ) (2 * r + 3) g ∧ (∀ f v p d, gCmp (mtx σ) (σ 5000 9) r (.inr (σ 5000 10, g)) = .inl f → (v = 0 ∨ v = 1) → 6 - (r : Int) ≤ d → d ≤ 6 → Q (0, v) (rdM σ p f d)) ∧ (∀ y, gCmp (mtx σ) (σ 5000 9) r (.inr (σ 5000 10, g)) = .inr y → Q (0, val (mL σ) y.2) (rdM σ y.1 (-1) (6 - r))))) := by
  apply propext; constructor
  · rintro ⟨h', v', h9, hb9⟩; cases h9; exact hb9
  · intro hb9; exact ⟨h, v, rfl, hb9⟩

set_option maxRecDepth 100000 in
set_option maxHeartbeats 4000000 in
theorem s_X12_compares (r : Nat) (h6 : r ≤ 6) : ∀ av σ Q, w_X12_compares r av σ Q → amCall (32) 0 0 TT yX12_compares cX12_compares 6 (some .boolean) av σ Q := by
  rintro av σ Q ⟨h, v, rfl, hok, hh, hv, H0, H1⟩
  obtain ⟨m, p, rfl⟩ := rdOk_m hok
  obtain ⟨ht, hL, -, p0, p1, -, hr⟩ := rdOk_dr hok
  have mt : ∀ p f d, mtx (rdM m p f d) = mtx m := mtx_rd ht
  have mk : ∀ p f d, msk (rdM m p f d) = sk (mtx m) (m 5000 9) p := fun p f d => by unfold msk; rw [mt, rd_9, rd_10]
  simp only [mt, rd_9, rd_10, mL_rd, rd_rd] at H0 H1
  have n1 := ht.2.1
  have tO : ∀ p f d, txOk (rdM m p f d) := fun p f d => txOk_rd ht p f d
  have hgo := fun q (q0 : 0 ≤ q) (q1 : q ≤ m 5000 9) => gS_ok (mtx_n ht) r q q0 q1
  have fne : ∀ q f, 0 ≤ q → q ≤ m 5000 9 → gS (mtx m) (m 5000 9) r q = .inl f → 0 ≤ f ∧ f ≤ m 5000 9 := fun q f q0 q1 e => by
    have := hgo q q0 q1
    rw [e, gok_l] at this; omega
  have gy : ∀ q y, 0 ≤ q → q ≤ m 5000 9 → gS (mtx m) (m 5000 9) r q = .inr y → 0 ≤ y.1 ∧ y.1 ≤ m 5000 9 := fun q y q0 q1 e => by
    have := hgo q q0 q1
    rw [e, gok_r] at this; omega
  have gv : ∀ q y, gS (mtx m) (m 5000 9) r q = .inr y → gd (mL m) (2 * r + 3) y.2 := fun q y e => gS_val hL r q y e
  have gvb : ∀ q y, gS (mtx m) (m 5000 9) r q = .inr y → bnd (val (mL m) y.2) := fun q y e => (gS_val hL r q y e).1
  have hrd : ∀ q, 0 ≤ q → q ≤ m 5000 9 → rdOk (rdM m q (-1) (6 - r)) r := fun q a b => rdOk_rd ht hL a b rfl hr
  have sgl : ∀ q, isSg (mtx m q) → q < m 5000 9 := fun q hs => by
    unfold isSg at hs
    by_cases h9 : q < m 5000 9
    · exact h9
    · have := mtx_n ht q (by omega); omega
  have tb := fun q => mtx_b ht q
  have core : ∀ (q : Int) (g : List Int), 0 ≤ q → q ≤ m 5000 9 → gd (mL m) (2 * r + 3) g → (∀ f v p d, gCmp (mtx m) (m 5000 9) r (.inr (q, g)) = .inl f → (v = 0 ∨ v = 1) → 6 - (r : Int) ≤ d → d ≤ 6 → Q (0, v) (rdM m p f d)) → (∀ y, gCmp (mtx m) (m 5000 9) r (.inr (q, g)) = .inr y → Q (0, val (mL m) y.2) (rdM m y.1 (-1) (6 - r))) →
      (0 ≤ sk (mtx m) (m 5000 9) q ∧ sk (mtx m) (m 5000 9) q ≤ m 5000 9) ∧ (¬ isSg (mtx m (sk (mtx m) (m 5000 9) q)) → Q (0, 0) (rdM m (sk (mtx m) (m 5000 9) q) (sk (mtx m) (m 5000 9) q) (6 - r))) ∧ (∀ f v p' d, isSg (mtx m (sk (mtx m) (m 5000 9) q)) → gS (mtx m) (m 5000 9) r (sk (mtx m) (m 5000 9) q + 1) = .inl f → (v = 0 ∨ v = 1) → 6 - (r : Int) ≤ d → d ≤ 6 → Q (0, v) (rdM m p' f d)) ∧ (∀ z v, isSg (mtx m (sk (mtx m) (m 5000 9) q)) → gS (mtx m) (m 5000 9) r (sk (mtx m) (m 5000 9) q + 1) = .inr z → v = apF (mtx m (sk (mtx m) (m 5000 9) q)) (val (mL m) g) (val (mL m) z.2) → Q (0, v) (rdM m z.1 (-1) (6 - r))) := by
    intro q g q0 q1 hg K1 K2
    refine ⟨?_, fun e2 => K1 _ 0 _ _ (by unfold gCmp; exact if_neg e2) (Or.inl rfl) (by omega) (by omega), fun f v p' d e2 e3 hv d0 d1 => K1 f v p' d (by unfold gCmp; dsimp only; rw [if_pos e2, e3]) hv d0 d1, fun z v e2 e3 hv => ?_⟩
    · have := sk_b (mtx m) q1
      omega
    · have := K2 (z.1, g ++ z.2 ++ [20000 + mtx m (sk (mtx m) (m 5000 9) q)]) (by unfold gCmp; dsimp only; rw [if_pos e2, e3])
      rw [hv, ← (gd_sg hg (gv _ _ e3) e2).2]; exact this
  rcases hh with rfl | rfl
  · obtain ⟨K1, K2⟩ := H0 rfl
    refine am_m0 (own := RX12) (A := look (a_X12_compares r)) (fun X e1 e2 hB => o_X12_compares r h6 e1 e2 hB) rfl (by decide +kernel) rfl rfl 190 (w := 6) ?_
    change vcs _ _ _ _ 190 0 [(28, 5000), (0, 0), (0, v), (6, 0), (6, 0), (6, 0)] [] (rdM m p (-1) (6 - r))
    simp only [↓reduceIte, inR_0, inR_1, inR_m, vSw2_e, swP_n, swP_c, vI_e, vL_e, vNull_e, vIload_e, vLload_e, vAload_e, vIstore_e, vLstore_e, vAstore_e, vIinc_e, vIadd_e, vIsub_e, vImul_e, vIand_e, vIor_e, vIxor_e, vIshl_e, vIshr_e, vIushr_e, vIdiv_e, vIrem_e, vLadd_e, vLsub_e, vLmul_e, vLand_e, vLor_e, vLxor_e, vLdiv_e, vLrem_e, vLushr_e, vLshl_e, vLcmp_e, vIneg_e, vI2l_e, vL2i_e, vI2b_e, vI2c_e, vDup_e, vPop_e, vDup2_e, vGoto_e, vIcEq_e, vIfEq_e, vIcNe_e, vIfNe_e, vIcLt_e, vIfLt_e, vIcGe_e, vIfGe_e, vIcGt_e, vIfGt_e, vIcLe_e, vIfLe_e, vNonnull_e, vSw_e, vGetI_e, vGetL_e, vGetR_e, vPutI_e, vPutZ_e, vPutL_e, vPutR_e, vIald_e, vIald_s, vLald_e, vBald_e, vBald_s, vAald_e, vIast_e, vLast_e, vBast_e, vAast_e, vAlen_e8, vAlen_e9, vAlen_e10, vAlen_e11, vAlen_e5, vAlen_e3, vGets_e, vCompact_e, vLdcS_e, vIret_e, vZret_e, vCret_e, vBret_e, vLret_e, vVret_e, vAret_e, vCallM_e0, vCallMV_e0, vCallS_e0, vCallSV_e0, vCallM_e1, vCallMV_e1, vCallS_e1, vCallSV_e1, vCallM_e2, vCallMV_e2, vCallS_e2, vCallSV_e2, vCallM_e3, vCallMV_e3, vCallS_e3, vCallSV_e3, vCallM_e4, vCallMV_e4, vCallS_e4, vCallSV_e4, vCallM_e5, vCallMV_e5, vCallS_e5, vCallSV_e5, vCallM_e6, vCallMV_e6, vCallS_e6, vCallSV_e6, vCallM_e7, vCallMV_e7, vCallS_e7, vCallSV_e7, vBad_e, vStrVal_e, vStrCod_e, vForm_e, vCallT_e0, vCallT_e1, vCallT_e2, vCopy_e, rf_0_0, rf_0_1, rf_0_2, rf_0_3, rf_0_4, rf_0_7, rf_0_10, rf_0_11, rf_0_12, rf_0_13, rf_0_14, rf_0_15, rf_0_16, rf_1_0, rf_3_0, rf_3_1, rf_6_0, rf_6_1, rf_9_0, rf_9_1, rf_9_3, rf_13_0, rf_13_1, rf_13_2, rf_16_0, rf_16_1, rf_16_2, rf_16_3, rf_21_0, rf_21_1, rf_21_2, rf_21_3, rf_26_0, rf_26_1, rf_26_2, rf_26_3, rf_26_4, rf_26_5, rf_26_6, rf_31_0, rf_31_2, rf_31_5, rf_31_6, rf_36_0, rf_36_1, rf_36_2, rf_36_3, rf_39_0, rf_39_1, rf_39_2, rf_41_0, rf_41_1, rf_41_2, rf_41_3, rf_5000_1, rf_5000_2, rf_5000_3, rf_5000_4, rf_5000_5, rf_5000_15, rf_5000_16, rf_5000_18, rf_5000_19, rf_5000_20, rf_5000_21, rf_5000_22, rf_5000_23, rf_5000_24, rf_5000_25, rf_5000_26, rf_5000_27, rf_5000_36, rf_5000_37, rf_5000_40, rf_5000_41, rf_5000_42, rf_5000_43, rf_5000_44, rf_5000_45, rf_5000_47, rf_5000_52, rf_5000_54, rf_5000_55, rf_100_0, rf_100_1, rf_103_0, rf_103_1, rf_106_0, rf_106_1, rf_109_0, rf_109_1, al_2, al_4, al_5, al_7, al_8, al_10, al_11, al_12, al_14, al_15, al_17, al_18, al_19, al_20, al_22, al_23, al_24, al_25, al_27, al_28, al_29, al_30, al_32, al_33, al_34, al_35, al_37, al_38, al_40, al_42, al_5001, al_5002, al_5003, al_5004, al_5005, al_5006, al_5007, al_5008, al_5009, al_5010, al_5011, al_5012, al_5013, al_5014, al_5015, al_5016, al_5017, al_5018, al_5019, al_5020, al_5021, al_5022, al_5023, al_5024, al_5025, al_5026, al_9000, al_101, al_102, al_104, al_105, al_107, al_108, al_110, al_111, vcs_e, lg_c0, lg_cs, lg_nil, set_c0, set_cs, okst_0, okst_s, acok_n, acok_c, List.contains_nil, List.contains_cons, Bool.or_false, Bool.false_or, Bool.false_eq_true, if_false, if_true, ite_self, ne_eq, true_and, and_true, not_false_eq_true, not_true_eq_false, false_imp_iff, true_imp_iff, Nat.ble_eq, Bool.and_eq_true, reduceCtorEq, or_false, false_or, or_true, true_or, false_and, and_false, and_self, Int.reduceLE, Int.reduceAdd, Int.reduceSub, Int.reduceMul, Int.reduceNeg, Int.reduceLT, Int.reduceEq, Int.reduceNe, Nat.reduceBEq, Nat.reduceBNe, Nat.reduceEqDiff, amCmp_in, amCmp_lt, amCmp_le, amCmp_gt, amCmp_ge, amCmp_eq, amCmp_ne, Nat.reduceLeDiff, Nat.reduceSub, Bool.and_true, Bool.true_and, Bool.and_self, Bool.or_true, Bool.true_or, isRf_3, isRf_4, isRf_5, isRf_8, isRf_9, isRf_10, isRf_11, isRf_15, isRf_16, isRf_17, isRf_18, isRf_19, isRf_20, isRf_21, isRf_22, isRf_23, isRf_24, isRf_25, isRf_26, isRf_27, isRf_28, k_X12_compares_0, k_X12_compares_1, k_X12_compares_4, k_X12_compares_5, k_X12_compares_8, k_X12_compares_9, k_X12_compares_12, k_X12_compares_13, k_X12_compares_14, k_X12_compares_17, k_X12_compares_18, k_X12_compares_21, k_X12_compares_22, k_X12_compares_23, k_X12_compares_24, k_X12_compares_27, k_X12_compares_29, k_X12_compares_31, k_X12_compares_34, k_X12_compares_37, k_X12_compares_38, k_X12_compares_41, k_X12_compares_42, k_X12_compares_43, k_X12_compares_44, k_X12_compares_47, k_X12_compares_48, k_X12_compares_49, k_X12_compares_52, k_X12_compares_53, k_X12_compares_56, k_X12_compares_58, k_X12_compares_60, k_X12_compares_62, k_X12_compares_65, k_X12_compares_66, k_X12_compares_68, k_X12_compares_71, k_X12_compares_72, k_X12_compares_75, k_X12_compares_76, k_X12_compares_79, k_X12_compares_81, k_X12_compares_83, k_X12_compares_86, k_X12_compares_87, k_X12_compares_89, k_X12_compares_92, k_X12_compares_93, k_X12_compares_96, k_X12_compares_97, k_X12_compares_100, k_X12_compares_101, k_X12_compares_103, k_X12_compares_106, k_X12_compares_107, k_X12_compares_110, k_X12_compares_111, w_X12_fails_e, w_X12_isSign_e, w_X12_look_e, w_X12_sum_e, mt, mk, rd_9, rd_10, rd_11, rd_12, rd_u10, rd_u11, rd_u12, rd_rd, mL_rd, fa_n]
    refine ⟨hrd p p0 p1, fun f v' p' d e hv' d0 d1 => ?_, fun y e => ?_⟩
    · have z1 := fne p f p0 p1 e
      have F1 := K1 f 0 p' d (by rw [e]; rfl) (Or.inl rfl) d0 d1
      repeat' (first | assumption | exact tO _ _ _ | exact hrd _ (by omega) (by omega) | exact hrd _ (by omega) (by have := z5 (by assumption); omega) | apply And.intro | intro _)
      all_goals first | omega | exact absurd trivial (by assumption) | exact F1
    · rw [e] at K1 K2
      have z1 := gy p y p0 p1 e
      have z3 := gvb p y e
      obtain ⟨z2, F2, F3, F4⟩ := core y.1 y.2 z1.1 z1.2 (gv p y e) K1 K2
      have z4 := tb (sk (mtx m) (m 5000 9) y.1)
      have z5 := sgl (sk (mtx m) (m 5000 9) y.1)
      repeat' (first | assumption | exact tO _ _ _ | exact hrd _ (by omega) (by omega) | exact hrd _ (by omega) (by have := z5 (by assumption); omega) | apply And.intro | intro _)
      all_goals first | omega | exact absurd trivial (by assumption) | exact tO _ _ _ | exact hrd _ (by omega) (by have := z5 (by assumption); omega) | (have := z5 (by assumption); omega) | exact F2 (by assumption) | exact F3 _ _ _ _ (by assumption) (by assumption) (by decide) (by omega) (by omega) | exact F4 _ _ (by assumption) (by assumption) (apF_sgv (by have h9 := ‹isSg _›; unfold isSg at h9; omega)) | (have := gvb _ _ (by assumption); omega)
  · obtain ⟨g, hvg, hg, K1, K2⟩ := H1 rfl
    subst hvg
    have z3 := hg.1
    obtain ⟨z2, F2, F3, F4⟩ := core p g p0 p1 hg K1 K2
    have z4 := tb (sk (mtx m) (m 5000 9) p)
    have z5 := sgl (sk (mtx m) (m 5000 9) p)
    refine am_m0 (own := RX12) (A := look (a_X12_compares r)) (fun X e1 e2 hB => o_X12_compares r h6 e1 e2 hB) rfl (by decide +kernel) rfl rfl 190 (w := 6) ?_
    change vcs _ _ _ _ 190 0 [(28, 5000), (0, 1), (0, val (mL m) g), (6, 0), (6, 0), (6, 0)] [] (rdM m p (-1) (6 - r))
    simp only [↓reduceIte, inR_0, inR_1, inR_m, vSw2_e, swP_n, swP_c, vI_e, vL_e, vNull_e, vIload_e, vLload_e, vAload_e, vIstore_e, vLstore_e, vAstore_e, vIinc_e, vIadd_e, vIsub_e, vImul_e, vIand_e, vIor_e, vIxor_e, vIshl_e, vIshr_e, vIushr_e, vIdiv_e, vIrem_e, vLadd_e, vLsub_e, vLmul_e, vLand_e, vLor_e, vLxor_e, vLdiv_e, vLrem_e, vLushr_e, vLshl_e, vLcmp_e, vIneg_e, vI2l_e, vL2i_e, vI2b_e, vI2c_e, vDup_e, vPop_e, vDup2_e, vGoto_e, vIcEq_e, vIfEq_e, vIcNe_e, vIfNe_e, vIcLt_e, vIfLt_e, vIcGe_e, vIfGe_e, vIcGt_e, vIfGt_e, vIcLe_e, vIfLe_e, vNonnull_e, vSw_e, vGetI_e, vGetL_e, vGetR_e, vPutI_e, vPutZ_e, vPutL_e, vPutR_e, vIald_e, vIald_s, vLald_e, vBald_e, vBald_s, vAald_e, vIast_e, vLast_e, vBast_e, vAast_e, vAlen_e8, vAlen_e9, vAlen_e10, vAlen_e11, vAlen_e5, vAlen_e3, vGets_e, vCompact_e, vLdcS_e, vIret_e, vZret_e, vCret_e, vBret_e, vLret_e, vVret_e, vAret_e, vCallM_e0, vCallMV_e0, vCallS_e0, vCallSV_e0, vCallM_e1, vCallMV_e1, vCallS_e1, vCallSV_e1, vCallM_e2, vCallMV_e2, vCallS_e2, vCallSV_e2, vCallM_e3, vCallMV_e3, vCallS_e3, vCallSV_e3, vCallM_e4, vCallMV_e4, vCallS_e4, vCallSV_e4, vCallM_e5, vCallMV_e5, vCallS_e5, vCallSV_e5, vCallM_e6, vCallMV_e6, vCallS_e6, vCallSV_e6, vCallM_e7, vCallMV_e7, vCallS_e7, vCallSV_e7, vBad_e, vStrVal_e, vStrCod_e, vForm_e, vCallT_e0, vCallT_e1, vCallT_e2, vCopy_e, rf_0_0, rf_0_1, rf_0_2, rf_0_3, rf_0_4, rf_0_7, rf_0_10, rf_0_11, rf_0_12, rf_0_13, rf_0_14, rf_0_15, rf_0_16, rf_1_0, rf_3_0, rf_3_1, rf_6_0, rf_6_1, rf_9_0, rf_9_1, rf_9_3, rf_13_0, rf_13_1, rf_13_2, rf_16_0, rf_16_1, rf_16_2, rf_16_3, rf_21_0, rf_21_1, rf_21_2, rf_21_3, rf_26_0, rf_26_1, rf_26_2, rf_26_3, rf_26_4, rf_26_5, rf_26_6, rf_31_0, rf_31_2, rf_31_5, rf_31_6, rf_36_0, rf_36_1, rf_36_2, rf_36_3, rf_39_0, rf_39_1, rf_39_2, rf_41_0, rf_41_1, rf_41_2, rf_41_3, rf_5000_1, rf_5000_2, rf_5000_3, rf_5000_4, rf_5000_5, rf_5000_15, rf_5000_16, rf_5000_18, rf_5000_19, rf_5000_20, rf_5000_21, rf_5000_22, rf_5000_23, rf_5000_24, rf_5000_25, rf_5000_26, rf_5000_27, rf_5000_36, rf_5000_37, rf_5000_40, rf_5000_41, rf_5000_42, rf_5000_43, rf_5000_44, rf_5000_45, rf_5000_47, rf_5000_52, rf_5000_54, rf_5000_55, rf_100_0, rf_100_1, rf_103_0, rf_103_1, rf_106_0, rf_106_1, rf_109_0, rf_109_1, al_2, al_4, al_5, al_7, al_8, al_10, al_11, al_12, al_14, al_15, al_17, al_18, al_19, al_20, al_22, al_23, al_24, al_25, al_27, al_28, al_29, al_30, al_32, al_33, al_34, al_35, al_37, al_38, al_40, al_42, al_5001, al_5002, al_5003, al_5004, al_5005, al_5006, al_5007, al_5008, al_5009, al_5010, al_5011, al_5012, al_5013, al_5014, al_5015, al_5016, al_5017, al_5018, al_5019, al_5020, al_5021, al_5022, al_5023, al_5024, al_5025, al_5026, al_9000, al_101, al_102, al_104, al_105, al_107, al_108, al_110, al_111, vcs_e, lg_c0, lg_cs, lg_nil, set_c0, set_cs, okst_0, okst_s, acok_n, acok_c, List.contains_nil, List.contains_cons, Bool.or_false, Bool.false_or, Bool.false_eq_true, if_false, if_true, ite_self, ne_eq, true_and, and_true, not_false_eq_true, not_true_eq_false, false_imp_iff, true_imp_iff, Nat.ble_eq, Bool.and_eq_true, reduceCtorEq, or_false, false_or, or_true, true_or, false_and, and_false, and_self, Int.reduceLE, Int.reduceAdd, Int.reduceSub, Int.reduceMul, Int.reduceNeg, Int.reduceLT, Int.reduceEq, Int.reduceNe, Nat.reduceBEq, Nat.reduceBNe, Nat.reduceEqDiff, amCmp_in, amCmp_lt, amCmp_le, amCmp_gt, amCmp_ge, amCmp_eq, amCmp_ne, Nat.reduceLeDiff, Nat.reduceSub, Bool.and_true, Bool.true_and, Bool.and_self, Bool.or_true, Bool.true_or, isRf_3, isRf_4, isRf_5, isRf_8, isRf_9, isRf_10, isRf_11, isRf_15, isRf_16, isRf_17, isRf_18, isRf_19, isRf_20, isRf_21, isRf_22, isRf_23, isRf_24, isRf_25, isRf_26, isRf_27, isRf_28, k_X12_compares_0, k_X12_compares_1, k_X12_compares_4, k_X12_compares_5, k_X12_compares_8, k_X12_compares_9, k_X12_compares_12, k_X12_compares_13, k_X12_compares_14, k_X12_compares_17, k_X12_compares_18, k_X12_compares_21, k_X12_compares_22, k_X12_compares_23, k_X12_compares_24, k_X12_compares_27, k_X12_compares_29, k_X12_compares_31, k_X12_compares_34, k_X12_compares_37, k_X12_compares_38, k_X12_compares_41, k_X12_compares_42, k_X12_compares_43, k_X12_compares_44, k_X12_compares_47, k_X12_compares_48, k_X12_compares_49, k_X12_compares_52, k_X12_compares_53, k_X12_compares_56, k_X12_compares_58, k_X12_compares_60, k_X12_compares_62, k_X12_compares_65, k_X12_compares_66, k_X12_compares_68, k_X12_compares_71, k_X12_compares_72, k_X12_compares_75, k_X12_compares_76, k_X12_compares_79, k_X12_compares_81, k_X12_compares_83, k_X12_compares_86, k_X12_compares_87, k_X12_compares_89, k_X12_compares_92, k_X12_compares_93, k_X12_compares_96, k_X12_compares_97, k_X12_compares_100, k_X12_compares_101, k_X12_compares_103, k_X12_compares_106, k_X12_compares_107, k_X12_compares_110, k_X12_compares_111, w_X12_fails_e, w_X12_isSign_e, w_X12_look_e, w_X12_sum_e, mt, mk, rd_9, rd_10, rd_11, rd_12, rd_u10, rd_u11, rd_u12, rd_rd, mL_rd, fa_n]
    repeat' (first | assumption | exact tO _ _ _ | exact hrd _ (by omega) (by omega) | exact hrd _ (by omega) (by have := z5 (by assumption); omega) | apply And.intro | intro _)
    all_goals first | omega | exact absurd trivial (by assumption) | exact tO _ _ _ | exact hrd _ (by omega) (by have := z5 (by assumption); omega) | (have := z5 (by assumption); omega) | exact F2 (by assumption) | exact F3 _ _ _ _ (by assumption) (by assumption) (by decide) (by omega) (by omega) | exact F4 _ _ (by assumption) (by assumption) (apF_sgv (by have h9 := ‹isSg _›; unfold isSg at h9; omega)) | (have := gvb _ _ (by assumption); omega)
