/-! the reference: YEARS -/
def mdI (σ : Mem) : Mem := if amLushr (dN (σ 5000 49)) 33 % 10 < σ 5000 39 then up (up σ 5000 49 (dN (dN (σ 5000 49)))) 5015 24 (amIor (σ 5015 24) (amIshl 1 (amLushr (dN (dN (σ 5000 49))) 33 % σ 5000 30))) else up σ 5000 49 (dN (σ 5000 49))
abbrev mdD (σ : Mem) : Mem := up σ 5000 49 (dN (dN (σ 5000 49)))
abbrev mdC (σ : Mem) : Int := amLushr (dN (σ 5000 49)) 33 % σ 5000 29
abbrev mdS (σ : Mem) : Int := amLushr (dN (dN (σ 5000 49))) 33 % σ 5000 30
def mAc (σ τ : Mem) : Prop := (mCC (mdD σ) 5015 (mdC σ) (mdS σ) ∧ τ = chM (mdD σ) 5015 (mdC σ) (mdS σ)) ∨ (¬ mCC (mdD σ) 5015 (mdC σ) (mdS σ) ∧ τ = mdD σ)
/-- one EVENING with what is ahead of it -/
def mYr (σ τ : Mem) : Prop := ∃ α, mAc (mdI (rmb σ)) α ∧ mEv (up α 5000 49 (dN (α 5000 49))) 5015 (amLushr (dN (α 5000 49)) 33 % α 5000 28) τ
def myX : Nat → Mem → Mem → Prop
  | 0, σ, τ => τ = σ
  | i + 1, σ, τ => ∃ u, myX i σ u ∧ mYr u τ
theorem mX_49 {σ : Mem} {a : Int} (h : mX σ a) (v : Int) : mX (up σ 5000 49 v) a := by
  obtain ⟨hw, hh, hr⟩ := h
  refine ⟨hw, MG_mH (MG_k (MG_rf σ) (by decide)) (mOk_c (up_nj _ (by decide)) (fun b hb => up_na _ (by omega)) hh.1) (by rw [up_nj _ (by decide)]; exact hh.2.2.2.2.2.2.2.2) hh, ?_⟩
  rw [up_nj _ (by decide), up_nj _ (by decide), up_na _ (by omega)]; exact hr
theorem mX_il {σ : Mem} (h : mX σ 5015) {v : Int} (v0 : 0 ≤ v) (v1 : v < 64) : mX (up σ 5015 24 v) 5015 := by
  obtain ⟨hw, hh, hr⟩ := h
  refine ⟨hw, MG_mH (MG_up (MG_rf σ) hw) (mOk_up hh.1 (by omega)) (by rw [up_na _ (by omega)]; exact hh.2.2.2.2.2.2.2.2) hh, ?_⟩
  rw [up_na _ (by decide), up_row]; exact aR_il hh.2.2.1.2 hr v0 v1
theorem mX_ch {σ : Mem} (h : mX σ 5015) {c t : Int} (hc : mCC σ 5015 c t) : mX (chM σ 5015 c t) 5015 ∧ chM σ 5015 c t 5015 26 = σ 5015 26 ∧ chM σ 5015 c t 5000 = σ 5000 ∧ MG σ (chM σ 5015 c t) := by
  obtain ⟨hw, hh, hr⟩ := h
  obtain ⟨q1, q2, q3, q4, q5, q6⟩ := hc
  have n29 := hh.2.2.1
  have hG : MG σ (chM σ 5015 c t) := MG_up (MG_up (MG_rf σ) hw) hw
  have k5 : chM σ 5015 c t 5000 = σ 5000 := by unfold chM; rw [up_na _ (by decide), up_na _ (by decide)]
  have ea : chM σ 5015 c t 5015 = upf (upf (σ 5015) (4 * c + 1) t) (4 * c + 2) (σ 5015 (4 * c + 2) - σ 5015 25) := by unfold chM; rw [up_row, up_row]
  refine ⟨⟨hw, MG_mH hG (mOk_up (mOk_up hh.1 (by omega)) (by omega)) (by rw [k5]; exact hh.2.2.2.2.2.2.2.2) hh, ?_⟩, ?_, k5, hG⟩
  · rw [k5, ea]; exact aR_ch n29.2 hr q1 q2 q3 q4 q6
  · rw [ea, upf_n2 _ (by omega), upf_n2 _ (by omega)]
theorem mdI_x {σ : Mem} (h : mX σ 5015) (h1 : 1 ≤ σ 5000 30) : mX (mdI σ) 5015 ∧ mdI σ 5015 26 = σ 5015 26 ∧ MG σ (mdI σ) ∧ mdI σ 5000 48 = σ 5000 48 := by
  have n30 := h.2.1.2.2.2.1
  unfold mdI
  split
  · have db := dr_b (x := dN (dN (σ 5000 49))) (b := σ 5000 30) h1 n30.2
    have r24 := h.2.2.2.1
    have bb := bor_b r24.1 r24.2 (k := amLushr (dN (dN (σ 5000 49))) 33 % σ 5000 30) db.1 (by omega)
    refine ⟨mX_il (mX_49 h _) bb.1 bb.2, ?_, MG_up (MG_k (MG_rf σ) (by decide)) (Or.inl rfl), ?_⟩
    · rw [up_nj _ (by decide), up_na _ (by decide)]
    · rw [up_na _ (by decide), up_nj _ (by decide)]
  · refine ⟨mX_49 h _, ?_, MG_k (MG_rf σ) (by decide), ?_⟩
    · rw [up_na _ (by decide)]
    · rw [up_nj _ (by decide)]
theorem mAc_x {σ τ : Mem} (h : mX σ 5015) (hc : mAc σ τ) : mX τ 5015 ∧ τ 5015 26 = σ 5015 26 ∧ MG σ τ := by
  have hD := mX_49 h (dN (dN (σ 5000 49)))
  have hG : MG σ (mdD σ) := MG_k (MG_rf σ) (by decide)
  rcases hc with ⟨q, rfl⟩ | ⟨q, rfl⟩
  · obtain ⟨z1, z2, z3, z4⟩ := mX_ch hD q
    exact ⟨z1, by rw [z2, up_na _ (by decide)], MG_tr hG z4⟩
  · exact ⟨hD, by unfold mdD; rw [up_na _ (by decide)], hG⟩
theorem mYr_x {σ τ : Mem} (h : mX σ 5015) (h1 : 1 ≤ σ 5000 30) (he : σ 5015 26 < 2000) (hy : mYr σ τ) : mX τ 5015 ∧ MG σ τ ∧ τ 5015 26 = σ 5015 26 + 1 := by
  obtain ⟨α, ha, hv⟩ := hy
  obtain ⟨z1, z2, z3, -⟩ := mdI_x (mX_rmb h) (by rw [rmb_k σ (by decide)]; exact h1)
  obtain ⟨y1, y2, y3⟩ := mAc_x z1 ha
  have e26 : α 5015 26 = σ 5015 26 := by rw [y2, z2, rmb_15]
  have u26 : ∀ v, up α 5000 49 v 5015 = α 5015 := fun v => up_na _ (by decide)
  obtain ⟨x1, x2, -, -, x5⟩ := mEv_x (mX_49 y1 (dN (α 5000 49))) (by rw [u26, e26]; exact he) hv
  refine ⟨x1, MG_tr (MG_rmb σ) (MG_tr z3 (MG_tr y3 (MG_tr (MG_k (MG_rf α) (by decide)) x2))), ?_⟩
  rw [x5, u26, e26]
theorem myX_x {σ : Mem} (h : mX σ 5015) (h1 : 1 ≤ σ 5000 30) : ∀ (i : Nat) (τ : Mem), σ 5015 26 + i ≤ 2000 → myX i σ τ → mX τ 5015 ∧ MG σ τ ∧ τ 5015 26 = σ 5015 26 + i := by
  intro i
  induction i with
  | zero => rintro τ - rfl; exact ⟨h, MG_rf τ, by omega⟩
  | succ i ih =>
    rintro τ he ⟨u, h2, h3⟩
    obtain ⟨y1, y2, y3⟩ := ih u (by omega) h2
    obtain ⟨z1, z2, z3⟩ := mYr_x y1 (by rw [(MG_29 y2).2.1]; exact h1) (by omega) h3
    exact ⟨z1, MG_tr y2 z2, by omega⟩
theorem wd_1762 : Cond.methodLink RX12 412 yX12_draw ∈ TBL := tb_tab (List.mem_of_getElem? (i := 1762) (by decide +kernel)) rfl
theorem wd_1765 : Cond.code yX12_draw cX12_draw 2 (some .int) ∈ TBL := tb_tab (List.mem_of_getElem? (i := 1765) (by decide +kernel)) rfl
theorem lk_X12_412 : amLk RX12 412 yX12_draw cX12_draw 2 (some .int) 1 := ⟨wd_1762, wd_12, wd_1765, by decide +kernel, by decide +kernel, by decide⟩
theorem wd_1764 : Cond.instanceMethod yX12_draw ∈ TBL := tb_tab (List.mem_of_getElem? (i := 1764) (by decide +kernel)) rfl
theorem sl_X12_draw : Cond.selects RX12 yX12_draw yX12_draw ∈ TBL := tb_sel (List.mem_of_getElem? (i := 86) (by decide +kernel)) rfl
def a_X12_years : AC := [(0, vAload 0 1), (1, vI 0 2), (2, vPutI 28 0 5), (5, vAload 0 6), (6, vGetI 28 29 9), (9, vIfEq 39 12), (12, vIload 1 13), (13, vI2l 14), (14, vL 1 15), (15, vL 30 18), (18, vCallS w_X12_isIn 3 21), (21, vIfEq 39 24), (24, vAload 0 25), (25, vGetR TT 28 36 8 28), (28, vI 26 30), (30, vIald TT 31), (31, vIload 1 32), (32, vIadd 33), (33, vI 999 36), (36, vIcLe 41 39), (39, vI (-1) 40), (40, vIret), (41, vAload 0 42), (42, vLload 2 43), (43, vPutL 28 49 46), (46, vI 0 47), (47, vIstore 4 49), (49, vIload 4 51), (51, vIload 1 52), (52, vIcGe 162 55), (55, vAload 0 56), (56, vCallMV w_X12_remember 28 0 59), (59, vAload 0 60), (60, vI 10 62), (62, vCallM w_X12_draw 28 1 65), (65, vAload 0 66), (66, vGetI 28 39 69), (69, vIcGe 92 72), (72, vAload 0 73), (73, vGetR TT 28 36 8 76), (76, vI 24 78), (78, vDup2 79), (79, vIald TT 80), (80, vI 1 81), (81, vAload 0 82), (82, vAload 0 83), (83, vGetI 28 30 86), (86, vCallM w_X12_draw 28 1 89), (89, vIshl 90), (90, vIor 91), (91, vIast TT 92), (92, vAload 0 93), (93, vAload 0 94), (94, vGetI 28 29 97), (97, vCallM w_X12_draw 28 1 100), (100, vIstore 5 102), (102, vAload 0 103), (103, vAload 0 104), (104, vGetI 28 30 107), (107, vCallM w_X12_draw 28 1 110), (110, vIstore 6 112), (112, vAload 0 113), (113, vAload 0 114), (114, vGetR TT 28 36 8 117), (117, vIload 5 119), (119, vIload 6 121), (121, vCallM w_X12_canChange 28 3 124), (124, vIfEq 138 127), (127, vAload 0 128), (128, vGetR TT 28 36 8 131), (131, vIload 5 133), (133, vIload 6 135), (135, vCallSV w_X12_changes 3 138), (138, vAload 0 139), (139, vAload 0 140), (140, vGetR TT 28 36 8 143), (143, vAload 0 144), (144, vAload 0 145), (145, vGetI 28 28 148), (148, vCallM w_X12_draw 28 1 151), (151, vCallM w_X12_goEvening 28 2 154), (154, vIstore 7 156), (156, vIinc 4 1 159), (159, vGoto 49), (162, vAload 0 163), (163, vGetR TT 28 36 8 166), (166, vI 26 168), (168, vIald TT 169), (169, vIret)]
theorem k_X12_years_0 : look a_X12_years 0 = vAload 0 1 := rfl
theorem k_X12_years_1 : look a_X12_years 1 = vI 0 2 := rfl
theorem k_X12_years_2 : look a_X12_years 2 = vPutI 28 0 5 := rfl
theorem k_X12_years_5 : look a_X12_years 5 = vAload 0 6 := rfl
theorem k_X12_years_6 : look a_X12_years 6 = vGetI 28 29 9 := rfl
theorem k_X12_years_9 : look a_X12_years 9 = vIfEq 39 12 := rfl
theorem k_X12_years_12 : look a_X12_years 12 = vIload 1 13 := rfl
theorem k_X12_years_13 : look a_X12_years 13 = vI2l 14 := rfl
theorem k_X12_years_14 : look a_X12_years 14 = vL 1 15 := rfl
theorem k_X12_years_15 : look a_X12_years 15 = vL 30 18 := rfl
theorem k_X12_years_18 : look a_X12_years 18 = vCallS w_X12_isIn 3 21 := rfl
theorem k_X12_years_21 : look a_X12_years 21 = vIfEq 39 24 := rfl
theorem k_X12_years_24 : look a_X12_years 24 = vAload 0 25 := rfl
theorem k_X12_years_25 : look a_X12_years 25 = vGetR TT 28 36 8 28 := rfl
theorem k_X12_years_28 : look a_X12_years 28 = vI 26 30 := rfl
theorem k_X12_years_30 : look a_X12_years 30 = vIald TT 31 := rfl
theorem k_X12_years_31 : look a_X12_years 31 = vIload 1 32 := rfl
theorem k_X12_years_32 : look a_X12_years 32 = vIadd 33 := rfl
theorem k_X12_years_33 : look a_X12_years 33 = vI 999 36 := rfl
theorem k_X12_years_36 : look a_X12_years 36 = vIcLe 41 39 := rfl
theorem k_X12_years_39 : look a_X12_years 39 = vI (-1) 40 := rfl
theorem k_X12_years_40 : look a_X12_years 40 = vIret := rfl
theorem k_X12_years_41 : look a_X12_years 41 = vAload 0 42 := rfl
theorem k_X12_years_42 : look a_X12_years 42 = vLload 2 43 := rfl
theorem k_X12_years_43 : look a_X12_years 43 = vPutL 28 49 46 := rfl
theorem k_X12_years_46 : look a_X12_years 46 = vI 0 47 := rfl
theorem k_X12_years_47 : look a_X12_years 47 = vIstore 4 49 := rfl
theorem k_X12_years_49 : look a_X12_years 49 = vIload 4 51 := rfl
theorem k_X12_years_51 : look a_X12_years 51 = vIload 1 52 := rfl
theorem k_X12_years_52 : look a_X12_years 52 = vIcGe 162 55 := rfl
theorem k_X12_years_55 : look a_X12_years 55 = vAload 0 56 := rfl
theorem k_X12_years_56 : look a_X12_years 56 = vCallMV w_X12_remember 28 0 59 := rfl
theorem k_X12_years_59 : look a_X12_years 59 = vAload 0 60 := rfl
theorem k_X12_years_60 : look a_X12_years 60 = vI 10 62 := rfl
theorem k_X12_years_62 : look a_X12_years 62 = vCallM w_X12_draw 28 1 65 := rfl
theorem k_X12_years_65 : look a_X12_years 65 = vAload 0 66 := rfl
theorem k_X12_years_66 : look a_X12_years 66 = vGetI 28 39 69 := rfl
theorem k_X12_years_69 : look a_X12_years 69 = vIcGe 92 72 := rfl
theorem k_X12_years_72 : look a_X12_years 72 = vAload 0 73 := rfl
theorem k_X12_years_73 : look a_X12_years 73 = vGetR TT 28 36 8 76 := rfl
theorem k_X12_years_76 : look a_X12_years 76 = vI 24 78 := rfl
theorem k_X12_years_78 : look a_X12_years 78 = vDup2 79 := rfl
theorem k_X12_years_79 : look a_X12_years 79 = vIald TT 80 := rfl
theorem k_X12_years_80 : look a_X12_years 80 = vI 1 81 := rfl
theorem k_X12_years_81 : look a_X12_years 81 = vAload 0 82 := rfl
theorem k_X12_years_82 : look a_X12_years 82 = vAload 0 83 := rfl
theorem k_X12_years_83 : look a_X12_years 83 = vGetI 28 30 86 := rfl
theorem k_X12_years_86 : look a_X12_years 86 = vCallM w_X12_draw 28 1 89 := rfl
theorem k_X12_years_89 : look a_X12_years 89 = vIshl 90 := rfl
theorem k_X12_years_90 : look a_X12_years 90 = vIor 91 := rfl
theorem k_X12_years_91 : look a_X12_years 91 = vIast TT 92 := rfl
theorem k_X12_years_92 : look a_X12_years 92 = vAload 0 93 := rfl
theorem k_X12_years_93 : look a_X12_years 93 = vAload 0 94 := rfl
theorem k_X12_years_94 : look a_X12_years 94 = vGetI 28 29 97 := rfl
theorem k_X12_years_97 : look a_X12_years 97 = vCallM w_X12_draw 28 1 100 := rfl
theorem k_X12_years_100 : look a_X12_years 100 = vIstore 5 102 := rfl
theorem k_X12_years_102 : look a_X12_years 102 = vAload 0 103 := rfl
theorem k_X12_years_103 : look a_X12_years 103 = vAload 0 104 := rfl
theorem k_X12_years_104 : look a_X12_years 104 = vGetI 28 30 107 := rfl
theorem k_X12_years_107 : look a_X12_years 107 = vCallM w_X12_draw 28 1 110 := rfl
theorem k_X12_years_110 : look a_X12_years 110 = vIstore 6 112 := rfl
theorem k_X12_years_112 : look a_X12_years 112 = vAload 0 113 := rfl
theorem k_X12_years_113 : look a_X12_years 113 = vAload 0 114 := rfl
theorem k_X12_years_114 : look a_X12_years 114 = vGetR TT 28 36 8 117 := rfl
theorem k_X12_years_117 : look a_X12_years 117 = vIload 5 119 := rfl
theorem k_X12_years_119 : look a_X12_years 119 = vIload 6 121 := rfl
theorem k_X12_years_121 : look a_X12_years 121 = vCallM w_X12_canChange 28 3 124 := rfl
theorem k_X12_years_124 : look a_X12_years 124 = vIfEq 138 127 := rfl
theorem k_X12_years_127 : look a_X12_years 127 = vAload 0 128 := rfl
theorem k_X12_years_128 : look a_X12_years 128 = vGetR TT 28 36 8 131 := rfl
theorem k_X12_years_131 : look a_X12_years 131 = vIload 5 133 := rfl
theorem k_X12_years_133 : look a_X12_years 133 = vIload 6 135 := rfl
theorem k_X12_years_135 : look a_X12_years 135 = vCallSV w_X12_changes 3 138 := rfl
theorem k_X12_years_138 : look a_X12_years 138 = vAload 0 139 := rfl
theorem k_X12_years_139 : look a_X12_years 139 = vAload 0 140 := rfl
theorem k_X12_years_140 : look a_X12_years 140 = vGetR TT 28 36 8 143 := rfl
theorem k_X12_years_143 : look a_X12_years 143 = vAload 0 144 := rfl
theorem k_X12_years_144 : look a_X12_years 144 = vAload 0 145 := rfl
theorem k_X12_years_145 : look a_X12_years 145 = vGetI 28 28 148 := rfl
theorem k_X12_years_148 : look a_X12_years 148 = vCallM w_X12_draw 28 1 151 := rfl
theorem k_X12_years_151 : look a_X12_years 151 = vCallM w_X12_goEvening 28 2 154 := rfl
theorem k_X12_years_154 : look a_X12_years 154 = vIstore 7 156 := rfl
theorem k_X12_years_156 : look a_X12_years 156 = vIinc 4 1 159 := rfl
theorem k_X12_years_159 : look a_X12_years 159 = vGoto 49 := rfl
theorem k_X12_years_162 : look a_X12_years 162 = vAload 0 163 := rfl
theorem k_X12_years_163 : look a_X12_years 163 = vGetR TT 28 36 8 166 := rfl
theorem k_X12_years_166 : look a_X12_years 166 = vI 26 168 := rfl
theorem k_X12_years_168 : look a_X12_years 168 = vIald TT 169 := rfl
theorem k_X12_years_169 : look a_X12_years 169 = vIret := rfl
theorem o_X12_years {X : amX} (e1 : XT X = TT) (e2 : XD X = 61) (hB : amB X RX12 cX12_years (some .int) 8) : ∀ pc, amOK X pc (look a_X12_years pc) := by
  have hT : amTok (XT X) := e1 ▸ TT_ok
  refine look_ok ?_
  unfold a_X12_years
  refine fc (ok_aload_n hB dX12_years_0) ?_
  refine fc (ok_iconst hB dX12_years_1) ?_
  refine fc (ok_putI hB hT fp_X12_111 rfl rfl rfl af_12_0 dX12_years_2) ?_
  refine fc (ok_aload_n hB dX12_years_5) ?_
  refine fc (ok_getI hB hT fl_X12_317 rfl rfl (Or.inl af_12_29) dX12_years_6) ?_
  refine fc (ok_if_eq hB (t := 39) (by decide) dX12_years_9) ?_
  refine fc (ok_iload_n hB dX12_years_12) ?_
  refine fc (ok_i2l hB dX12_years_13) ?_
  refine fc (ok_lconst hB (z := 1) (by decide) dX12_years_14) ?_
  refine fc (ok_ldc2 hB wd_1757 rfl dX12_years_15) ?_
  refine fc (ok_callS hB (e1 ▸ s_X12_isIn) lk_X12_232 (by rw [e2]; decide) wd_1502 dX12_years_18) ?_
  refine fc (ok_if_eq hB (t := 39) (by decide) dX12_years_21) ?_
  refine fc (ok_aload_n hB dX12_years_24) ?_
  refine fc (okt_getR e1 hB hT fl_X12_67 rfl af_12_36 at_12_36 (by decide) dX12_years_25) ?_
  refine fc (ok_bipush hB dX12_years_28 (by decide)) ?_
  refine fc (okt_iaload e1 hB dX12_years_30) ?_
  refine fc (ok_iload_n hB dX12_years_31) ?_
  refine fc (ok_iadd hB dX12_years_32) ?_
  refine fc (ok_sipush hB dX12_years_33 (by decide)) ?_
  refine fc (ok_icmp_le hB (t := 41) (by decide) dX12_years_36) ?_
  refine fc (ok_iconst hB dX12_years_39) ?_
  refine fc (ok_iret hB dX12_years_40) ?_
  refine fc (ok_aload_n hB dX12_years_41) ?_
  refine fc (ok_lload_n hB dX12_years_42) ?_
  refine fc (ok_putL hB hT fp_X12_404 rfl rfl rfl af_12_49 dX12_years_43) ?_
  refine fc (ok_iconst hB dX12_years_46) ?_
  refine fc (ok_istore hB (by decide) dX12_years_47) ?_
  refine fc (ok_iload hB dX12_years_49) ?_
  refine fc (ok_iload_n hB dX12_years_51) ?_
  refine fc (ok_icmp_ge hB (t := 162) (by decide) dX12_years_52) ?_
  refine fc (ok_aload_n hB dX12_years_55) ?_
  refine fc (ok_callMV hB hT (e1 ▸ s_X12_remember) lk_X12_383 (by rw [e2]; decide) (c := 12) rfl rfl rfl wd_1690 sl_X12_remember dX12_years_56) ?_
  refine fc (ok_aload_n hB dX12_years_59) ?_
  refine fc (ok_bipush hB dX12_years_60 (by decide)) ?_
  refine fc (ok_callM hB hT (e1 ▸ s_X12_draw) lk_X12_412 (by rw [e2]; decide) (c := 12) rfl rfl rfl wd_1764 sl_X12_draw dX12_years_62) ?_
  refine fc (ok_aload_n hB dX12_years_65) ?_
  refine fc (ok_getI hB hT fl_X12_77 rfl rfl (Or.inl af_12_39) dX12_years_66) ?_
  refine fc (ok_icmp_ge hB (t := 92) (by decide) dX12_years_69) ?_
  refine fc (ok_aload_n hB dX12_years_72) ?_
  refine fc (okt_getR e1 hB hT fl_X12_67 rfl af_12_36 at_12_36 (by decide) dX12_years_73) ?_
  refine fc (ok_bipush hB dX12_years_76 (by decide)) ?_
  refine fc (ok_dup2 hB dX12_years_78) ?_
  refine fc (okt_iaload e1 hB dX12_years_79) ?_
  refine fc (ok_iconst hB dX12_years_80) ?_
  refine fc (ok_aload_n hB dX12_years_81) ?_
  refine fc (ok_aload_n hB dX12_years_82) ?_
  refine fc (ok_getI hB hT fl_X12_320 rfl rfl (Or.inl af_12_30) dX12_years_83) ?_
  refine fc (ok_callM hB hT (e1 ▸ s_X12_draw) lk_X12_412 (by rw [e2]; decide) (c := 12) rfl rfl rfl wd_1764 sl_X12_draw dX12_years_86) ?_
  refine fc (ok_ishl hB dX12_years_89) ?_
  refine fc (ok_ior hB dX12_years_90) ?_
  refine fc (okt_iastore e1 hB dX12_years_91) ?_
  refine fc (ok_aload_n hB dX12_years_92) ?_
  refine fc (ok_aload_n hB dX12_years_93) ?_
  refine fc (ok_getI hB hT fl_X12_317 rfl rfl (Or.inl af_12_29) dX12_years_94) ?_
  refine fc (ok_callM hB hT (e1 ▸ s_X12_draw) lk_X12_412 (by rw [e2]; decide) (c := 12) rfl rfl rfl wd_1764 sl_X12_draw dX12_years_97) ?_
  refine fc (ok_istore hB (by decide) dX12_years_100) ?_
  refine fc (ok_aload_n hB dX12_years_102) ?_
  refine fc (ok_aload_n hB dX12_years_103) ?_
  refine fc (ok_getI hB hT fl_X12_320 rfl rfl (Or.inl af_12_30) dX12_years_104) ?_
  refine fc (ok_callM hB hT (e1 ▸ s_X12_draw) lk_X12_412 (by rw [e2]; decide) (c := 12) rfl rfl rfl wd_1764 sl_X12_draw dX12_years_107) ?_
  refine fc (ok_istore hB (by decide) dX12_years_110) ?_
  refine fc (ok_aload_n hB dX12_years_112) ?_
  refine fc (ok_aload_n hB dX12_years_113) ?_
  refine fc (okt_getR e1 hB hT fl_X12_67 rfl af_12_36 at_12_36 (by decide) dX12_years_114) ?_
  refine fc (ok_iload hB dX12_years_117) ?_
  refine fc (ok_iload hB dX12_years_119) ?_
  refine fc (ok_callM hB hT (e1 ▸ s_X12_canChange) lk_X12_389 (by rw [e2]; decide) (c := 12) rfl rfl rfl wd_1731 sl_X12_canChange dX12_years_121) ?_
  refine fc (ok_if_eq hB (t := 138) (by decide) dX12_years_124) ?_
  refine fc (ok_aload_n hB dX12_years_127) ?_
  refine fc (okt_getR e1 hB hT fl_X12_67 rfl af_12_36 at_12_36 (by decide) dX12_years_128) ?_
  refine fc (ok_iload hB dX12_years_131) ?_
  refine fc (ok_iload hB dX12_years_133) ?_
  refine fc (ok_callSV hB (e1 ▸ s_X12_changes) lk_X12_393 (by rw [e2]; decide) wd_1734 dX12_years_135) ?_
  refine fc (ok_aload_n hB dX12_years_138) ?_
  refine fc (ok_aload_n hB dX12_years_139) ?_
  refine fc (okt_getR e1 hB hT fl_X12_67 rfl af_12_36 at_12_36 (by decide) dX12_years_140) ?_
  refine fc (ok_aload_n hB dX12_years_143) ?_
  refine fc (ok_aload_n hB dX12_years_144) ?_
  refine fc (ok_getI hB hT fl_X12_314 rfl rfl (Or.inl af_12_28) dX12_years_145) ?_
  refine fc (ok_callM hB hT (e1 ▸ s_X12_draw) lk_X12_412 (by rw [e2]; decide) (c := 12) rfl rfl rfl wd_1764 sl_X12_draw dX12_years_148) ?_
  refine fc (ok_callM hB hT (e1 ▸ s_X12_goEvening) lk_X12_386 (by rw [e2]; decide) (c := 12) rfl rfl rfl wd_1694 sl_X12_goEvening dX12_years_151) ?_
  refine fc (ok_istore hB (by decide) dX12_years_154) ?_
  refine fc (ok_iinc hB (by decide) dX12_years_156) ?_
  refine fc (ok_goto hB (t := 49) (by decide) dX12_years_159) ?_
  refine fc (ok_aload_n hB dX12_years_162) ?_
  refine fc (okt_getR e1 hB hT fl_X12_67 rfl af_12_36 at_12_36 (by decide) dX12_years_163) ?_
  refine fc (ok_bipush hB dX12_years_166 (by decide)) ?_
  refine fc (okt_iaload e1 hB dX12_years_168) ?_
  refine fc (ok_iret hB dX12_years_169) ?_
  exact fn
def inv_yrm (σ : Mem) (m x : Int) (n pc : Nat) (ls st : List AV) (σ' : Mem) : Prop := st = [] ∧ (σ 5000 29 ≠ 0 ∧ 1 ≤ m ∧ m ≤ 30 ∧ σ 5015 26 + m ≤ 999) ∧ ∃ (k : Nat) (v5 v6 v7 : AV), ls = [(28, 5000), (0, m), (1, x), (7, 0), (0, (k : Int)), v5, v6, v7] ∧ (v6.1 != 1) = true ∧
  ((pc = 49 ∧ (k : Int) ≤ m ∧ (n : Int) = 3 * (m - k) + 2 ∧ myX k (up (th0 σ) 5000 49 x) σ') ∨
   (pc = 92 ∧ (k : Int) < m ∧ (n : Int) = 3 * (m - k) + 1 ∧ ∃ u, myX k (up (th0 σ) 5000 49 x) u ∧ σ' = mdI (rmb u)) ∨
   (pc = 138 ∧ (k : Int) < m ∧ (n : Int) = 3 * (m - k) ∧ ∃ u, myX k (up (th0 σ) 5000 49 x) u ∧ mAc (mdI (rmb u)) σ'))
def w_X12_years : WP := fun av σ Q => ∃ (m : Int) (x : Int), av = [(28, 5000), (0, m), (1, x)] ∧ (InR m ∧ mX σ 5015 ∧ σ 5015 26 ≤ 999 ∧ (0 ≤ σ 5000 39 ∧ σ 5000 39 ≤ 9) ∧ (σ 5000 29 ≠ 0 → 1 ≤ σ 5000 30 ∧ 1 ≤ σ 5000 28) ∧ (¬ (σ 5000 29 ≠ 0 ∧ 1 ≤ m ∧ m ≤ 30 ∧ σ 5015 26 + m ≤ 999) → Q (0, -1) (th0 σ)) ∧ (σ 5000 29 ≠ 0 ∧ 1 ≤ m ∧ m ≤ 30 ∧ σ 5015 26 + m ≤ 999 → ∀ τ, myX m.toNat (up (th0 σ) 5000 49 x) τ → Q (0, τ 5015 26) τ))
theorem w_X12_years_e (m : Int) (x : Int) (σ : Mem) (Q : AV → Mem → Prop) : w_X12_years [(28, 5000), (0, m), (1, x)] σ Q = (InR m ∧ mX σ 5015 ∧ σ 5015 26 ≤ 999 ∧ (0 ≤ σ 5000 39 ∧ σ 5000 39 ≤ 9) ∧ (σ 5000 29 ≠ 0 → 1 ≤ σ 5000 30 ∧ 1 ≤ σ 5000 28) ∧ (¬ (σ 5000 29 ≠ 0 ∧ 1 ≤ m ∧ m ≤ 30 ∧ σ 5015 26 + m ≤ 999) → Q (0, -1) (th0 σ)) ∧ (σ 5000 29 ≠ 0 ∧ 1 ≤ m ∧ m ≤ 30 ∧ σ 5015 26 + m ≤ 999 → ∀ τ, myX m.toNat (up (th0 σ) 5000 49 x) τ → Q (0, τ 5015 26) τ)) := by
  apply propext; constructor
  · rintro ⟨m', x', h9, hb9⟩; cases h9; exact hb9
  · intro hb9; exact ⟨m, x, rfl, hb9⟩

set_option maxRecDepth 100000 in
set_option maxHeartbeats 4000000 in
theorem s_X12_years : ∀ av σ Q, w_X12_years av σ Q → amCall 61 0 0 TT yX12_years cX12_years 8 (some .int) av σ Q := by
  rintro av σ Q ⟨m, x, rfl, hm, hx, he, hfl, hho, h1, h2⟩
  have e29 : th0 σ 5000 29 = σ 5000 29 := th_k σ (by decide)
  have t15 : th0 σ 5015 = σ 5015 := th_o σ (by decide)
  have n29 := hx.2.1.2.2.1
  have r26 := hx.2.2.2.2.2.1
  have hx0 := mX_49 (mX_th hx) x
  have hG0 : MG σ (up (th0 σ) 5000 49 x) := MG_k (MG_th σ) (by decide)
  have u15 : up (th0 σ) 5000 49 x 5015 = σ 5015 := by rw [up_na _ (by decide)]; exact t15
  refine am_m [49, 92, 138] (inv_yrm σ m x) (own := RX12) (A := look a_X12_years) (fun X e1 e2 hB => o_X12_years e1 e2 hB) rfl (by decide +kernel) rfl rfl ?_ ⟨90, ?_⟩ (w := 8)
  · rintro n pc ls st σ' ⟨rfl, hcd, k, v5, v6, v7, rfl, hv6, ⟨rfl, hk, hn, hu⟩ | ⟨rfl, hk, hn, u, hu, rfl⟩ | ⟨rfl, hk, hn, u, hu, hac⟩⟩
    · obtain ⟨s30, s28⟩ := hho hcd.1
      obtain ⟨y1, y2, y3⟩ := myX_x hx0 (by rw [(MG_29 hG0).2.1]; exact s30) k σ' (by rw [u15]; omega) hu
      have hG := MG_tr hG0 y2
      obtain ⟨g29, g30, g28, g39, -⟩ := MG_29 hG
      have b48 := y1.2.1.2.2.2.2.2.2.2.2
      by_cases cc : (k : Int) < m
      · have i9 : ∀ s, s = mdI (rmb σ') → ∃ k', k' < n ∧ inv_yrm σ m x k' 92 [(28, 5000), (0, m), (1, x), (7, 0), (0, (k : Int)), v5, v6, v7] [] s := fun s q =>
          ⟨n - 1, by omega, rfl, hcd, k, v5, v6, v7, rfl, hv6, Or.inr (Or.inl ⟨rfl, cc, by omega, σ', hu, q⟩)⟩
        have r39 : rmb σ' 5000 39 = σ 5000 39 := by rw [rmb_k σ' (by decide)]; exact g39
        have r30 : rmb σ' 5000 30 = σ 5000 30 := by rw [rmb_k σ' (by decide)]; exact g30
        have n30 := hx.2.1.2.2.2.1
        have db := dr_b (x := dN (dN (rmb σ' 5000 49))) (b := σ 5000 30) s30 n30.2
        have d10 : 0 ≤ amLushr (dN (rmb σ' 5000 49)) 33 % 10 ∧ amLushr (dN (rmb σ' 5000 49)) 33 % 10 < 10 := ⟨Int.emod_nonneg _ (by decide), Int.emod_lt_of_pos _ (by decide)⟩
        have mt : amLushr (dN (rmb σ' 5000 49)) 33 % 10 < σ 5000 39 → up (up (rmb σ') 5000 49 (dN (dN (rmb σ' 5000 49)))) 5015 24 (amIor (rmb σ' 5015 24) (amIshl 1 (amLushr (dN (dN (rmb σ' 5000 49))) 33 % σ 5000 30))) = mdI (rmb σ') := fun q => by
          unfold mdI; rw [r39, r30, if_pos q]
        have mf : ¬ amLushr (dN (rmb σ' 5000 49)) 33 % 10 < σ 5000 39 → up (rmb σ') 5000 49 (dN (rmb σ' 5000 49)) = mdI (rmb σ') := fun q => by
          unfold mdI; rw [r39, if_neg q]
        refine ⟨120, ?_⟩
        simp only [↓reduceIte, inR_0, inR_1, inR_m, vSw2_e, swP_n, swP_c, vI_e, vL_e, vNull_e, vIload_e, vLload_e, vAload_e, vIstore_e, vLstore_e, vAstore_e, vIinc_e, vIadd_e, vIsub_e, vImul_e, vIand_e, vIor_e, vIxor_e, vIshl_e, vIshr_e, vIushr_e, vIdiv_e, vIrem_e, vLadd_e, vLsub_e, vLmul_e, vLand_e, vLor_e, vLxor_e, vLdiv_e, vLrem_e, vLushr_e, vLshl_e, vLcmp_e, vIneg_e, vI2l_e, vL2i_e, vI2b_e, vI2c_e, vDup_e, vPop_e, vDup2_e, vGoto_e, vIcEq_e, vIfEq_e, vIcNe_e, vIfNe_e, vIcLt_e, vIfLt_e, vIcGe_e, vIfGe_e, vIcGt_e, vIfGt_e, vIcLe_e, vIfLe_e, vNonnull_e, vSw_e, vGetI_e, vGetL_e, vGetR_e, vPutI_e, vPutZ_e, vPutL_e, vPutR_e, vIald_e, vIald_s, vLald_e, vBald_e, vBald_s, vAald_e, vIast_e, vLast_e, vBast_e, vAast_e, vAlen_e8, vAlen_e9, vAlen_e10, vAlen_e11, vAlen_e5, vAlen_e3, vGets_e, vCompact_e, vLdcS_e, vIret_e, vZret_e, vCret_e, vBret_e, vLret_e, vVret_e, vAret_e, vCallM_e0, vCallMV_e0, vCallS_e0, vCallSV_e0, vCallM_e1, vCallMV_e1, vCallS_e1, vCallSV_e1, vCallM_e2, vCallMV_e2, vCallS_e2, vCallSV_e2, vCallM_e3, vCallMV_e3, vCallS_e3, vCallSV_e3, vCallM_e4, vCallMV_e4, vCallS_e4, vCallSV_e4, vCallM_e5, vCallMV_e5, vCallS_e5, vCallSV_e5, vCallM_e6, vCallMV_e6, vCallS_e6, vCallSV_e6, vCallM_e7, vCallMV_e7, vCallS_e7, vCallSV_e7, vBad_e, vStrVal_e, vStrCod_e, vForm_e, vCallT_e0, vCallT_e1, vCallT_e2, vCopy_e, rf_0_0, rf_0_1, rf_0_2, rf_0_3, rf_0_4, rf_0_7, rf_0_10, rf_0_11, rf_0_12, rf_0_13, rf_0_14, rf_0_15, rf_0_16, rf_1_0, rf_3_0, rf_3_1, rf_6_0, rf_6_1, rf_9_0, rf_9_1, rf_9_3, rf_13_0, rf_13_1, rf_13_2, rf_16_0, rf_16_1, rf_16_2, rf_16_3, rf_21_0, rf_21_1, rf_21_2, rf_21_3, rf_26_0, rf_26_1, rf_26_2, rf_26_3, rf_26_4, rf_26_5, rf_26_6, rf_31_0, rf_31_2, rf_31_5, rf_31_6, rf_36_0, rf_36_1, rf_36_2, rf_36_3, rf_39_0, rf_39_1, rf_39_2, rf_41_0, rf_41_1, rf_41_2, rf_41_3, rf_5000_1, rf_5000_2, rf_5000_3, rf_5000_4, rf_5000_5, rf_5000_15, rf_5000_16, rf_5000_18, rf_5000_19, rf_5000_20, rf_5000_21, rf_5000_22, rf_5000_23, rf_5000_24, rf_5000_25, rf_5000_26, rf_5000_27, rf_5000_36, rf_5000_37, rf_5000_40, rf_5000_41, rf_5000_42, rf_5000_43, rf_5000_44, rf_5000_45, rf_5000_47, rf_5000_52, rf_5000_54, rf_5000_55, rf_100_0, rf_100_1, rf_103_0, rf_103_1, rf_106_0, rf_106_1, rf_109_0, rf_109_1, al_2, al_4, al_5, al_7, al_8, al_10, al_11, al_12, al_14, al_15, al_17, al_18, al_19, al_20, al_22, al_23, al_24, al_25, al_27, al_28, al_29, al_30, al_32, al_33, al_34, al_35, al_37, al_38, al_40, al_42, al_5001, al_5002, al_5003, al_5004, al_5005, al_5006, al_5007, al_5008, al_5009, al_5010, al_5011, al_5012, al_5013, al_5014, al_5015, al_5016, al_5017, al_5018, al_5019, al_5020, al_5021, al_5022, al_5023, al_5024, al_5025, al_5026, al_9000, al_101, al_102, al_104, al_105, al_107, al_108, al_110, al_111, vcs_e, lg_c0, lg_cs, lg_nil, set_c0, set_cs, okst_0, okst_s, acok_n, acok_c, List.contains_nil, List.contains_cons, Bool.or_false, Bool.false_or, Bool.false_eq_true, if_false, if_true, ite_self, ne_eq, true_and, and_true, not_false_eq_true, not_true_eq_false, false_imp_iff, true_imp_iff, Nat.ble_eq, Bool.and_eq_true, reduceCtorEq, or_false, false_or, or_true, true_or, false_and, and_false, and_self, Int.reduceLE, Int.reduceAdd, Int.reduceSub, Int.reduceMul, Int.reduceNeg, Int.reduceLT, Int.reduceEq, Int.reduceNe, Nat.reduceBEq, Nat.reduceBNe, Nat.reduceEqDiff, amCmp_in, amCmp_lt, amCmp_le, amCmp_gt, amCmp_ge, amCmp_eq, amCmp_ne, Nat.reduceLeDiff, Nat.reduceSub, Bool.and_true, Bool.true_and, Bool.and_self, Bool.or_true, Bool.true_or, isRf_3, isRf_4, isRf_5, isRf_8, isRf_9, isRf_10, isRf_11, isRf_15, isRf_16, isRf_17, isRf_18, isRf_19, isRf_20, isRf_21, isRf_22, isRf_23, isRf_24, isRf_25, isRf_26, isRf_27, isRf_28, k_X12_years_0, k_X12_years_1, k_X12_years_2, k_X12_years_5, k_X12_years_6, k_X12_years_9, k_X12_years_12, k_X12_years_13, k_X12_years_14, k_X12_years_15, k_X12_years_18, k_X12_years_21, k_X12_years_24, k_X12_years_25, k_X12_years_28, k_X12_years_30, k_X12_years_31, k_X12_years_32, k_X12_years_33, k_X12_years_36, k_X12_years_39, k_X12_years_40, k_X12_years_41, k_X12_years_42, k_X12_years_43, k_X12_years_46, k_X12_years_47, k_X12_years_49, k_X12_years_51, k_X12_years_52, k_X12_years_55, k_X12_years_56, k_X12_years_59, k_X12_years_60, k_X12_years_62, k_X12_years_65, k_X12_years_66, k_X12_years_69, k_X12_years_72, k_X12_years_73, k_X12_years_76, k_X12_years_78, k_X12_years_79, k_X12_years_80, k_X12_years_81, k_X12_years_82, k_X12_years_83, k_X12_years_86, k_X12_years_89, k_X12_years_90, k_X12_years_91, k_X12_years_92, k_X12_years_93, k_X12_years_94, k_X12_years_97, k_X12_years_100, k_X12_years_102, k_X12_years_103, k_X12_years_104, k_X12_years_107, k_X12_years_110, k_X12_years_112, k_X12_years_113, k_X12_years_114, k_X12_years_117, k_X12_years_119, k_X12_years_121, k_X12_years_124, k_X12_years_127, k_X12_years_128, k_X12_years_131, k_X12_years_133, k_X12_years_135, k_X12_years_138, k_X12_years_139, k_X12_years_140, k_X12_years_143, k_X12_years_144, k_X12_years_145, k_X12_years_148, k_X12_years_151, k_X12_years_154, k_X12_years_156, k_X12_years_159, k_X12_years_162, k_X12_years_163, k_X12_years_166, k_X12_years_168, k_X12_years_169, w_X12_canChange_e, w_X12_changes_e, w_X12_draw_e, w_X12_goEvening_e, w_X12_isIn_e, w_X12_remember_e, up_s, up_nj, up_na, up_up, savR_o, cpy_o, fillm_o, setAud_o, setv_o, setv_s, Int.reduceNe, Int.reduceEq, Int.reduceLT, Int.reduceAdd, not_false_eq_true, ne_eq, or_true, true_or, r39, r30]
        repeat' (first | apply And.intro | intro _)
        all_goals first | omega | exact absurd trivial (by assumption) | exact i9 _ (mt (by omega)) | exact i9 _ (mf (by omega))
      · have ek : k = m.toNat := by omega
        rw [ek] at hu
        have hq := h2 hcd σ' hu
        refine ⟨60, ?_⟩
        simp only [↓reduceIte, inR_0, inR_1, inR_m, vSw2_e, swP_n, swP_c, vI_e, vL_e, vNull_e, vIload_e, vLload_e, vAload_e, vIstore_e, vLstore_e, vAstore_e, vIinc_e, vIadd_e, vIsub_e, vImul_e, vIand_e, vIor_e, vIxor_e, vIshl_e, vIshr_e, vIushr_e, vIdiv_e, vIrem_e, vLadd_e, vLsub_e, vLmul_e, vLand_e, vLor_e, vLxor_e, vLdiv_e, vLrem_e, vLushr_e, vLshl_e, vLcmp_e, vIneg_e, vI2l_e, vL2i_e, vI2b_e, vI2c_e, vDup_e, vPop_e, vDup2_e, vGoto_e, vIcEq_e, vIfEq_e, vIcNe_e, vIfNe_e, vIcLt_e, vIfLt_e, vIcGe_e, vIfGe_e, vIcGt_e, vIfGt_e, vIcLe_e, vIfLe_e, vNonnull_e, vSw_e, vGetI_e, vGetL_e, vGetR_e, vPutI_e, vPutZ_e, vPutL_e, vPutR_e, vIald_e, vIald_s, vLald_e, vBald_e, vBald_s, vAald_e, vIast_e, vLast_e, vBast_e, vAast_e, vAlen_e8, vAlen_e9, vAlen_e10, vAlen_e11, vAlen_e5, vAlen_e3, vGets_e, vCompact_e, vLdcS_e, vIret_e, vZret_e, vCret_e, vBret_e, vLret_e, vVret_e, vAret_e, vCallM_e0, vCallMV_e0, vCallS_e0, vCallSV_e0, vCallM_e1, vCallMV_e1, vCallS_e1, vCallSV_e1, vCallM_e2, vCallMV_e2, vCallS_e2, vCallSV_e2, vCallM_e3, vCallMV_e3, vCallS_e3, vCallSV_e3, vCallM_e4, vCallMV_e4, vCallS_e4, vCallSV_e4, vCallM_e5, vCallMV_e5, vCallS_e5, vCallSV_e5, vCallM_e6, vCallMV_e6, vCallS_e6, vCallSV_e6, vCallM_e7, vCallMV_e7, vCallS_e7, vCallSV_e7, vBad_e, vStrVal_e, vStrCod_e, vForm_e, vCallT_e0, vCallT_e1, vCallT_e2, vCopy_e, rf_0_0, rf_0_1, rf_0_2, rf_0_3, rf_0_4, rf_0_7, rf_0_10, rf_0_11, rf_0_12, rf_0_13, rf_0_14, rf_0_15, rf_0_16, rf_1_0, rf_3_0, rf_3_1, rf_6_0, rf_6_1, rf_9_0, rf_9_1, rf_9_3, rf_13_0, rf_13_1, rf_13_2, rf_16_0, rf_16_1, rf_16_2, rf_16_3, rf_21_0, rf_21_1, rf_21_2, rf_21_3, rf_26_0, rf_26_1, rf_26_2, rf_26_3, rf_26_4, rf_26_5, rf_26_6, rf_31_0, rf_31_2, rf_31_5, rf_31_6, rf_36_0, rf_36_1, rf_36_2, rf_36_3, rf_39_0, rf_39_1, rf_39_2, rf_41_0, rf_41_1, rf_41_2, rf_41_3, rf_5000_1, rf_5000_2, rf_5000_3, rf_5000_4, rf_5000_5, rf_5000_15, rf_5000_16, rf_5000_18, rf_5000_19, rf_5000_20, rf_5000_21, rf_5000_22, rf_5000_23, rf_5000_24, rf_5000_25, rf_5000_26, rf_5000_27, rf_5000_36, rf_5000_37, rf_5000_40, rf_5000_41, rf_5000_42, rf_5000_43, rf_5000_44, rf_5000_45, rf_5000_47, rf_5000_52, rf_5000_54, rf_5000_55, rf_100_0, rf_100_1, rf_103_0, rf_103_1, rf_106_0, rf_106_1, rf_109_0, rf_109_1, al_2, al_4, al_5, al_7, al_8, al_10, al_11, al_12, al_14, al_15, al_17, al_18, al_19, al_20, al_22, al_23, al_24, al_25, al_27, al_28, al_29, al_30, al_32, al_33, al_34, al_35, al_37, al_38, al_40, al_42, al_5001, al_5002, al_5003, al_5004, al_5005, al_5006, al_5007, al_5008, al_5009, al_5010, al_5011, al_5012, al_5013, al_5014, al_5015, al_5016, al_5017, al_5018, al_5019, al_5020, al_5021, al_5022, al_5023, al_5024, al_5025, al_5026, al_9000, al_101, al_102, al_104, al_105, al_107, al_108, al_110, al_111, vcs_e, lg_c0, lg_cs, lg_nil, set_c0, set_cs, okst_0, okst_s, acok_n, acok_c, List.contains_nil, List.contains_cons, Bool.or_false, Bool.false_or, Bool.false_eq_true, if_false, if_true, ite_self, ne_eq, true_and, and_true, not_false_eq_true, not_true_eq_false, false_imp_iff, true_imp_iff, Nat.ble_eq, Bool.and_eq_true, reduceCtorEq, or_false, false_or, or_true, true_or, false_and, and_false, and_self, Int.reduceLE, Int.reduceAdd, Int.reduceSub, Int.reduceMul, Int.reduceNeg, Int.reduceLT, Int.reduceEq, Int.reduceNe, Nat.reduceBEq, Nat.reduceBNe, Nat.reduceEqDiff, amCmp_in, amCmp_lt, amCmp_le, amCmp_gt, amCmp_ge, amCmp_eq, amCmp_ne, Nat.reduceLeDiff, Nat.reduceSub, Bool.and_true, Bool.true_and, Bool.and_self, Bool.or_true, Bool.true_or, isRf_3, isRf_4, isRf_5, isRf_8, isRf_9, isRf_10, isRf_11, isRf_15, isRf_16, isRf_17, isRf_18, isRf_19, isRf_20, isRf_21, isRf_22, isRf_23, isRf_24, isRf_25, isRf_26, isRf_27, isRf_28, k_X12_years_0, k_X12_years_1, k_X12_years_2, k_X12_years_5, k_X12_years_6, k_X12_years_9, k_X12_years_12, k_X12_years_13, k_X12_years_14, k_X12_years_15, k_X12_years_18, k_X12_years_21, k_X12_years_24, k_X12_years_25, k_X12_years_28, k_X12_years_30, k_X12_years_31, k_X12_years_32, k_X12_years_33, k_X12_years_36, k_X12_years_39, k_X12_years_40, k_X12_years_41, k_X12_years_42, k_X12_years_43, k_X12_years_46, k_X12_years_47, k_X12_years_49, k_X12_years_51, k_X12_years_52, k_X12_years_55, k_X12_years_56, k_X12_years_59, k_X12_years_60, k_X12_years_62, k_X12_years_65, k_X12_years_66, k_X12_years_69, k_X12_years_72, k_X12_years_73, k_X12_years_76, k_X12_years_78, k_X12_years_79, k_X12_years_80, k_X12_years_81, k_X12_years_82, k_X12_years_83, k_X12_years_86, k_X12_years_89, k_X12_years_90, k_X12_years_91, k_X12_years_92, k_X12_years_93, k_X12_years_94, k_X12_years_97, k_X12_years_100, k_X12_years_102, k_X12_years_103, k_X12_years_104, k_X12_years_107, k_X12_years_110, k_X12_years_112, k_X12_years_113, k_X12_years_114, k_X12_years_117, k_X12_years_119, k_X12_years_121, k_X12_years_124, k_X12_years_127, k_X12_years_128, k_X12_years_131, k_X12_years_133, k_X12_years_135, k_X12_years_138, k_X12_years_139, k_X12_years_140, k_X12_years_143, k_X12_years_144, k_X12_years_145, k_X12_years_148, k_X12_years_151, k_X12_years_154, k_X12_years_156, k_X12_years_159, k_X12_years_162, k_X12_years_163, k_X12_years_166, k_X12_years_168, k_X12_years_169, w_X12_canChange_e, w_X12_changes_e, w_X12_draw_e, w_X12_goEvening_e, w_X12_isIn_e, w_X12_remember_e]
        repeat' (first | apply And.intro | intro _)
        all_goals first | omega | exact absurd trivial (by assumption) | exact hq
    · obtain ⟨s30, s28⟩ := hho hcd.1
      obtain ⟨y1, y2, y3⟩ := myX_x hx0 (by rw [(MG_29 hG0).2.1]; exact s30) k u (by rw [u15]; omega) hu
      have hG := MG_tr hG0 y2
      obtain ⟨z1, z2, z3, z4⟩ := mdI_x (mX_rmb y1) (by rw [rmb_k u (by decide), (MG_29 hG).2.1]; exact s30)
      have hG2 := MG_tr hG (MG_tr (MG_rmb u) z3)
      obtain ⟨g29, g30, g28, g39, -⟩ := MG_29 hG2
      generalize hs : mdI (rmb u) = s at *
      have n30 := hx.2.1.2.2.2.1
      have d29 := dr_b (x := dN (s 5000 49)) (b := σ 5000 29) (by omega) n29.2
      have d30 := dr_b (x := dN (dN (s 5000 49))) (b := σ 5000 30) s30 n30.2
      have i9 : ∀ (t : Mem) (v5 v6 v7 : AV), (v6.1 != 1) = true → mAc s t → ∃ k', k' < n ∧ inv_yrm σ m x k' 138 [(28, 5000), (0, m), (1, x), (7, 0), (0, (k : Int)), v5, v6, v7] [] t := fun t v5 v6 v7 hv6 q =>
        ⟨n - 1, by omega, rfl, hcd, k, v5, v6, v7, rfl, hv6, Or.inr (Or.inr ⟨rfl, hk, by omega, u, hu, by rw [hs]; exact q⟩)⟩
      have hxD := mX_49 z1 (dN (dN (s 5000 49)))
      obtain ⟨hj, h25⟩ := mX_j hxD
      have k29 : up s 5000 49 (dN (dN (s 5000 49))) 5000 29 = σ 5000 29 := by rw [up_nj _ (by decide)]; exact g29
      have k30 : up s 5000 49 (dN (dN (s 5000 49))) 5000 30 = σ 5000 30 := by rw [up_nj _ (by decide)]; exact g30
      rw [k29] at hj
      have a1 : mCC (up s 5000 49 (dN (dN (s 5000 49)))) 5015 (amLushr (dN (s 5000 49)) 33 % σ 5000 29) (amLushr (dN (dN (s 5000 49))) 33 % σ 5000 30) → mAc s (chM (up s 5000 49 (dN (dN (s 5000 49)))) 5015 (amLushr (dN (s 5000 49)) 33 % σ 5000 29) (amLushr (dN (dN (s 5000 49))) 33 % σ 5000 30)) := fun q => Or.inl (by
        unfold mdC mdS mdD; rw [g29, g30]; exact ⟨q, rfl⟩)
      have a2 : ¬ mCC (up s 5000 49 (dN (dN (s 5000 49)))) 5015 (amLushr (dN (s 5000 49)) 33 % σ 5000 29) (amLushr (dN (dN (s 5000 49))) 33 % σ 5000 30) → mAc s (up s 5000 49 (dN (dN (s 5000 49)))) := fun q => Or.inr (by
        unfold mdC mdS mdD; rw [g29, g30]; exact ⟨q, rfl⟩)
      unfold chM at a1
      have u15' : ∀ v, up s 5000 49 v 5015 = s 5015 := fun v => up_na _ (by decide)
      rw [u15'] at hj h25 a1
      refine ⟨120, ?_⟩
      simp only [↓reduceIte, inR_0, inR_1, inR_m, vSw2_e, swP_n, swP_c, vI_e, vL_e, vNull_e, vIload_e, vLload_e, vAload_e, vIstore_e, vLstore_e, vAstore_e, vIinc_e, vIadd_e, vIsub_e, vImul_e, vIand_e, vIor_e, vIxor_e, vIshl_e, vIshr_e, vIushr_e, vIdiv_e, vIrem_e, vLadd_e, vLsub_e, vLmul_e, vLand_e, vLor_e, vLxor_e, vLdiv_e, vLrem_e, vLushr_e, vLshl_e, vLcmp_e, vIneg_e, vI2l_e, vL2i_e, vI2b_e, vI2c_e, vDup_e, vPop_e, vDup2_e, vGoto_e, vIcEq_e, vIfEq_e, vIcNe_e, vIfNe_e, vIcLt_e, vIfLt_e, vIcGe_e, vIfGe_e, vIcGt_e, vIfGt_e, vIcLe_e, vIfLe_e, vNonnull_e, vSw_e, vGetI_e, vGetL_e, vGetR_e, vPutI_e, vPutZ_e, vPutL_e, vPutR_e, vIald_e, vIald_s, vLald_e, vBald_e, vBald_s, vAald_e, vIast_e, vLast_e, vBast_e, vAast_e, vAlen_e8, vAlen_e9, vAlen_e10, vAlen_e11, vAlen_e5, vAlen_e3, vGets_e, vCompact_e, vLdcS_e, vIret_e, vZret_e, vCret_e, vBret_e, vLret_e, vVret_e, vAret_e, vCallM_e0, vCallMV_e0, vCallS_e0, vCallSV_e0, vCallM_e1, vCallMV_e1, vCallS_e1, vCallSV_e1, vCallM_e2, vCallMV_e2, vCallS_e2, vCallSV_e2, vCallM_e3, vCallMV_e3, vCallS_e3, vCallSV_e3, vCallM_e4, vCallMV_e4, vCallS_e4, vCallSV_e4, vCallM_e5, vCallMV_e5, vCallS_e5, vCallSV_e5, vCallM_e6, vCallMV_e6, vCallS_e6, vCallSV_e6, vCallM_e7, vCallMV_e7, vCallS_e7, vCallSV_e7, vBad_e, vStrVal_e, vStrCod_e, vForm_e, vCallT_e0, vCallT_e1, vCallT_e2, vCopy_e, rf_0_0, rf_0_1, rf_0_2, rf_0_3, rf_0_4, rf_0_7, rf_0_10, rf_0_11, rf_0_12, rf_0_13, rf_0_14, rf_0_15, rf_0_16, rf_1_0, rf_3_0, rf_3_1, rf_6_0, rf_6_1, rf_9_0, rf_9_1, rf_9_3, rf_13_0, rf_13_1, rf_13_2, rf_16_0, rf_16_1, rf_16_2, rf_16_3, rf_21_0, rf_21_1, rf_21_2, rf_21_3, rf_26_0, rf_26_1, rf_26_2, rf_26_3, rf_26_4, rf_26_5, rf_26_6, rf_31_0, rf_31_2, rf_31_5, rf_31_6, rf_36_0, rf_36_1, rf_36_2, rf_36_3, rf_39_0, rf_39_1, rf_39_2, rf_41_0, rf_41_1, rf_41_2, rf_41_3, rf_5000_1, rf_5000_2, rf_5000_3, rf_5000_4, rf_5000_5, rf_5000_15, rf_5000_16, rf_5000_18, rf_5000_19, rf_5000_20, rf_5000_21, rf_5000_22, rf_5000_23, rf_5000_24, rf_5000_25, rf_5000_26, rf_5000_27, rf_5000_36, rf_5000_37, rf_5000_40, rf_5000_41, rf_5000_42, rf_5000_43, rf_5000_44, rf_5000_45, rf_5000_47, rf_5000_52, rf_5000_54, rf_5000_55, rf_100_0, rf_100_1, rf_103_0, rf_103_1, rf_106_0, rf_106_1, rf_109_0, rf_109_1, al_2, al_4, al_5, al_7, al_8, al_10, al_11, al_12, al_14, al_15, al_17, al_18, al_19, al_20, al_22, al_23, al_24, al_25, al_27, al_28, al_29, al_30, al_32, al_33, al_34, al_35, al_37, al_38, al_40, al_42, al_5001, al_5002, al_5003, al_5004, al_5005, al_5006, al_5007, al_5008, al_5009, al_5010, al_5011, al_5012, al_5013, al_5014, al_5015, al_5016, al_5017, al_5018, al_5019, al_5020, al_5021, al_5022, al_5023, al_5024, al_5025, al_5026, al_9000, al_101, al_102, al_104, al_105, al_107, al_108, al_110, al_111, vcs_e, lg_c0, lg_cs, lg_nil, set_c0, set_cs, okst_0, okst_s, acok_n, acok_c, List.contains_nil, List.contains_cons, Bool.or_false, Bool.false_or, Bool.false_eq_true, if_false, if_true, ite_self, ne_eq, true_and, and_true, not_false_eq_true, not_true_eq_false, false_imp_iff, true_imp_iff, Nat.ble_eq, Bool.and_eq_true, reduceCtorEq, or_false, false_or, or_true, true_or, false_and, and_false, and_self, Int.reduceLE, Int.reduceAdd, Int.reduceSub, Int.reduceMul, Int.reduceNeg, Int.reduceLT, Int.reduceEq, Int.reduceNe, Nat.reduceBEq, Nat.reduceBNe, Nat.reduceEqDiff, amCmp_in, amCmp_lt, amCmp_le, amCmp_gt, amCmp_ge, amCmp_eq, amCmp_ne, Nat.reduceLeDiff, Nat.reduceSub, Bool.and_true, Bool.true_and, Bool.and_self, Bool.or_true, Bool.true_or, isRf_3, isRf_4, isRf_5, isRf_8, isRf_9, isRf_10, isRf_11, isRf_15, isRf_16, isRf_17, isRf_18, isRf_19, isRf_20, isRf_21, isRf_22, isRf_23, isRf_24, isRf_25, isRf_26, isRf_27, isRf_28, k_X12_years_0, k_X12_years_1, k_X12_years_2, k_X12_years_5, k_X12_years_6, k_X12_years_9, k_X12_years_12, k_X12_years_13, k_X12_years_14, k_X12_years_15, k_X12_years_18, k_X12_years_21, k_X12_years_24, k_X12_years_25, k_X12_years_28, k_X12_years_30, k_X12_years_31, k_X12_years_32, k_X12_years_33, k_X12_years_36, k_X12_years_39, k_X12_years_40, k_X12_years_41, k_X12_years_42, k_X12_years_43, k_X12_years_46, k_X12_years_47, k_X12_years_49, k_X12_years_51, k_X12_years_52, k_X12_years_55, k_X12_years_56, k_X12_years_59, k_X12_years_60, k_X12_years_62, k_X12_years_65, k_X12_years_66, k_X12_years_69, k_X12_years_72, k_X12_years_73, k_X12_years_76, k_X12_years_78, k_X12_years_79, k_X12_years_80, k_X12_years_81, k_X12_years_82, k_X12_years_83, k_X12_years_86, k_X12_years_89, k_X12_years_90, k_X12_years_91, k_X12_years_92, k_X12_years_93, k_X12_years_94, k_X12_years_97, k_X12_years_100, k_X12_years_102, k_X12_years_103, k_X12_years_104, k_X12_years_107, k_X12_years_110, k_X12_years_112, k_X12_years_113, k_X12_years_114, k_X12_years_117, k_X12_years_119, k_X12_years_121, k_X12_years_124, k_X12_years_127, k_X12_years_128, k_X12_years_131, k_X12_years_133, k_X12_years_135, k_X12_years_138, k_X12_years_139, k_X12_years_140, k_X12_years_143, k_X12_years_144, k_X12_years_145, k_X12_years_148, k_X12_years_151, k_X12_years_154, k_X12_years_156, k_X12_years_159, k_X12_years_162, k_X12_years_163, k_X12_years_166, k_X12_years_168, k_X12_years_169, w_X12_canChange_e, w_X12_changes_e, w_X12_draw_e, w_X12_goEvening_e, w_X12_isIn_e, w_X12_remember_e, up_s, up_nj, up_na, up_up, savR_o, cpy_o, fillm_o, setAud_o, setv_o, setv_s, Int.reduceNe, Int.reduceEq, Int.reduceLT, Int.reduceAdd, not_false_eq_true, ne_eq, or_true, true_or, g29, g30, u15']
      repeat' (first | assumption | exact hj | apply And.intro | intro _)
      all_goals first | omega | exact absurd trivial (by assumption) | exact i9 _ _ _ _ rfl (a1 (by assumption)) | exact i9 _ _ _ _ rfl (a2 (by assumption)) | exact Or.inl rfl
    · obtain ⟨s30, s28⟩ := hho hcd.1
      obtain ⟨y1, y2, y3⟩ := myX_x hx0 (by rw [(MG_29 hG0).2.1]; exact s30) k u (by rw [u15]; omega) hu
      have hG := MG_tr hG0 y2
      obtain ⟨z1, z2, z3, z4⟩ := mdI_x (mX_rmb y1) (by rw [rmb_k u (by decide), (MG_29 hG).2.1]; exact s30)
      obtain ⟨w1, w2, w3⟩ := mAc_x z1 hac
      have hG2 := MG_tr hG (MG_tr (MG_rmb u) (MG_tr z3 w3))
      obtain ⟨g29, g30, g28, g39, -⟩ := MG_29 hG2
      have n28 := hx.2.1.2.2.2.2.1
      have d28 := dr_b (x := dN (σ' 5000 49)) (b := σ 5000 28) s28 (by omega)
      have u28 : up σ' 5000 49 (dN (σ' 5000 49)) 5000 28 = σ 5000 28 := by rw [up_nj _ (by decide)]; exact g28
      have hxD := mX_49 w1 (dN (σ' 5000 49))
      have hP := mX_P hxD
      obtain ⟨q1, q2, q3⟩ := mX_g hxD
      have i9 : ∀ τ v7, PF (up σ' 5000 49 (dN (σ' 5000 49))) τ → mOk τ → ∃ k', k' < n ∧ inv_yrm σ m x k' 49 [(28, 5000), (0, m), (1, x), (7, 0), (0, (k : Int) + 1), v5, v6, v7] [] (setv τ 5015 (mER (up σ' 5000 49 (dN (σ' 5000 49)) 5015) (mFl (up σ' 5000 49 (dN (σ' 5000 49))) 5015 (amLushr (dN (σ' 5000 49)) 33 % σ 5000 28) (up σ' 5000 49 (dN (σ' 5000 49)) 5007 (4 * (amLushr (dN (σ' 5000 49)) 33 % σ 5000 28) + 3)).toNat) (mOu (up σ' 5000 49 (dN (σ' 5000 49))) 5015 (amLushr (dN (σ' 5000 49)) 33 % σ 5000 28) (up σ' 5000 49 (dN (σ' 5000 49)) 5007 (4 * (amLushr (dN (σ' 5000 49)) 33 % σ 5000 28) + 3)).toNat) (up σ' 5000 49 (dN (σ' 5000 49)) 5000 29) (sumC (mFl (up σ' 5000 49 (dN (σ' 5000 49))) 5015 (amLushr (dN (σ' 5000 49)) 33 % σ 5000 28) (up σ' 5000 49 (dN (σ' 5000 49)) 5007 (4 * (amLushr (dN (σ' 5000 49)) 33 % σ 5000 28) + 3)).toNat) (up σ' 5000 49 (dN (σ' 5000 49)) 5000 29).toNat) (amLushr (dN (σ' 5000 49)) 33 % σ 5000 28))) := fun τ v7 p1 p2 =>
        ⟨n - 1, by omega, rfl, hcd, k + 1, v5, v6, v7, rfl, hv6, Or.inl ⟨rfl, by omega, by omega, u, hu, σ', hac, τ, p1, p2, by rw [g28]⟩⟩
      refine ⟨120, ?_⟩
      simp only [↓reduceIte, inR_0, inR_1, inR_m, vSw2_e, swP_n, swP_c, vI_e, vL_e, vNull_e, vIload_e, vLload_e, vAload_e, vIstore_e, vLstore_e, vAstore_e, vIinc_e, vIadd_e, vIsub_e, vImul_e, vIand_e, vIor_e, vIxor_e, vIshl_e, vIshr_e, vIushr_e, vIdiv_e, vIrem_e, vLadd_e, vLsub_e, vLmul_e, vLand_e, vLor_e, vLxor_e, vLdiv_e, vLrem_e, vLushr_e, vLshl_e, vLcmp_e, vIneg_e, vI2l_e, vL2i_e, vI2b_e, vI2c_e, vDup_e, vPop_e, vDup2_e, vGoto_e, vIcEq_e, vIfEq_e, vIcNe_e, vIfNe_e, vIcLt_e, vIfLt_e, vIcGe_e, vIfGe_e, vIcGt_e, vIfGt_e, vIcLe_e, vIfLe_e, vNonnull_e, vSw_e, vGetI_e, vGetL_e, vGetR_e, vPutI_e, vPutZ_e, vPutL_e, vPutR_e, vIald_e, vIald_s, vLald_e, vBald_e, vBald_s, vAald_e, vIast_e, vLast_e, vBast_e, vAast_e, vAlen_e8, vAlen_e9, vAlen_e10, vAlen_e11, vAlen_e5, vAlen_e3, vGets_e, vCompact_e, vLdcS_e, vIret_e, vZret_e, vCret_e, vBret_e, vLret_e, vVret_e, vAret_e, vCallM_e0, vCallMV_e0, vCallS_e0, vCallSV_e0, vCallM_e1, vCallMV_e1, vCallS_e1, vCallSV_e1, vCallM_e2, vCallMV_e2, vCallS_e2, vCallSV_e2, vCallM_e3, vCallMV_e3, vCallS_e3, vCallSV_e3, vCallM_e4, vCallMV_e4, vCallS_e4, vCallSV_e4, vCallM_e5, vCallMV_e5, vCallS_e5, vCallSV_e5, vCallM_e6, vCallMV_e6, vCallS_e6, vCallSV_e6, vCallM_e7, vCallMV_e7, vCallS_e7, vCallSV_e7, vBad_e, vStrVal_e, vStrCod_e, vForm_e, vCallT_e0, vCallT_e1, vCallT_e2, vCopy_e, rf_0_0, rf_0_1, rf_0_2, rf_0_3, rf_0_4, rf_0_7, rf_0_10, rf_0_11, rf_0_12, rf_0_13, rf_0_14, rf_0_15, rf_0_16, rf_1_0, rf_3_0, rf_3_1, rf_6_0, rf_6_1, rf_9_0, rf_9_1, rf_9_3, rf_13_0, rf_13_1, rf_13_2, rf_16_0, rf_16_1, rf_16_2, rf_16_3, rf_21_0, rf_21_1, rf_21_2, rf_21_3, rf_26_0, rf_26_1, rf_26_2, rf_26_3, rf_26_4, rf_26_5, rf_26_6, rf_31_0, rf_31_2, rf_31_5, rf_31_6, rf_36_0, rf_36_1, rf_36_2, rf_36_3, rf_39_0, rf_39_1, rf_39_2, rf_41_0, rf_41_1, rf_41_2, rf_41_3, rf_5000_1, rf_5000_2, rf_5000_3, rf_5000_4, rf_5000_5, rf_5000_15, rf_5000_16, rf_5000_18, rf_5000_19, rf_5000_20, rf_5000_21, rf_5000_22, rf_5000_23, rf_5000_24, rf_5000_25, rf_5000_26, rf_5000_27, rf_5000_36, rf_5000_37, rf_5000_40, rf_5000_41, rf_5000_42, rf_5000_43, rf_5000_44, rf_5000_45, rf_5000_47, rf_5000_52, rf_5000_54, rf_5000_55, rf_100_0, rf_100_1, rf_103_0, rf_103_1, rf_106_0, rf_106_1, rf_109_0, rf_109_1, al_2, al_4, al_5, al_7, al_8, al_10, al_11, al_12, al_14, al_15, al_17, al_18, al_19, al_20, al_22, al_23, al_24, al_25, al_27, al_28, al_29, al_30, al_32, al_33, al_34, al_35, al_37, al_38, al_40, al_42, al_5001, al_5002, al_5003, al_5004, al_5005, al_5006, al_5007, al_5008, al_5009, al_5010, al_5011, al_5012, al_5013, al_5014, al_5015, al_5016, al_5017, al_5018, al_5019, al_5020, al_5021, al_5022, al_5023, al_5024, al_5025, al_5026, al_9000, al_101, al_102, al_104, al_105, al_107, al_108, al_110, al_111, vcs_e, lg_c0, lg_cs, lg_nil, set_c0, set_cs, okst_0, okst_s, acok_n, acok_c, List.contains_nil, List.contains_cons, Bool.or_false, Bool.false_or, Bool.false_eq_true, if_false, if_true, ite_self, ne_eq, true_and, and_true, not_false_eq_true, not_true_eq_false, false_imp_iff, true_imp_iff, Nat.ble_eq, Bool.and_eq_true, reduceCtorEq, or_false, false_or, or_true, true_or, false_and, and_false, and_self, Int.reduceLE, Int.reduceAdd, Int.reduceSub, Int.reduceMul, Int.reduceNeg, Int.reduceLT, Int.reduceEq, Int.reduceNe, Nat.reduceBEq, Nat.reduceBNe, Nat.reduceEqDiff, amCmp_in, amCmp_lt, amCmp_le, amCmp_gt, amCmp_ge, amCmp_eq, amCmp_ne, Nat.reduceLeDiff, Nat.reduceSub, Bool.and_true, Bool.true_and, Bool.and_self, Bool.or_true, Bool.true_or, isRf_3, isRf_4, isRf_5, isRf_8, isRf_9, isRf_10, isRf_11, isRf_15, isRf_16, isRf_17, isRf_18, isRf_19, isRf_20, isRf_21, isRf_22, isRf_23, isRf_24, isRf_25, isRf_26, isRf_27, isRf_28, k_X12_years_0, k_X12_years_1, k_X12_years_2, k_X12_years_5, k_X12_years_6, k_X12_years_9, k_X12_years_12, k_X12_years_13, k_X12_years_14, k_X12_years_15, k_X12_years_18, k_X12_years_21, k_X12_years_24, k_X12_years_25, k_X12_years_28, k_X12_years_30, k_X12_years_31, k_X12_years_32, k_X12_years_33, k_X12_years_36, k_X12_years_39, k_X12_years_40, k_X12_years_41, k_X12_years_42, k_X12_years_43, k_X12_years_46, k_X12_years_47, k_X12_years_49, k_X12_years_51, k_X12_years_52, k_X12_years_55, k_X12_years_56, k_X12_years_59, k_X12_years_60, k_X12_years_62, k_X12_years_65, k_X12_years_66, k_X12_years_69, k_X12_years_72, k_X12_years_73, k_X12_years_76, k_X12_years_78, k_X12_years_79, k_X12_years_80, k_X12_years_81, k_X12_years_82, k_X12_years_83, k_X12_years_86, k_X12_years_89, k_X12_years_90, k_X12_years_91, k_X12_years_92, k_X12_years_93, k_X12_years_94, k_X12_years_97, k_X12_years_100, k_X12_years_102, k_X12_years_103, k_X12_years_104, k_X12_years_107, k_X12_years_110, k_X12_years_112, k_X12_years_113, k_X12_years_114, k_X12_years_117, k_X12_years_119, k_X12_years_121, k_X12_years_124, k_X12_years_127, k_X12_years_128, k_X12_years_131, k_X12_years_133, k_X12_years_135, k_X12_years_138, k_X12_years_139, k_X12_years_140, k_X12_years_143, k_X12_years_144, k_X12_years_145, k_X12_years_148, k_X12_years_151, k_X12_years_154, k_X12_years_156, k_X12_years_159, k_X12_years_162, k_X12_years_163, k_X12_years_166, k_X12_years_168, k_X12_years_169, w_X12_canChange_e, w_X12_changes_e, w_X12_draw_e, w_X12_goEvening_e, w_X12_isIn_e, w_X12_remember_e, g28]
      repeat' (first | assumption | exact hP | exact q1 | apply And.intro | intro _)
      all_goals first | omega | exact absurd trivial (by assumption) | (rw [u28]; exact d28.2.1) | exact i9 _ _ (by assumption) (by assumption) | exact Or.inl rfl | exact hv6
  · change vcs _ _ _ _ 90 0 [(28, 5000), (0, m), (1, x), (7, 0), (6, 0), (6, 0), (6, 0), (6, 0)] [] σ
    by_cases g : σ 5000 29 = 0
    · have hq := h1 (by omega)
      simp only [↓reduceIte, inR_0, inR_1, inR_m, vSw2_e, swP_n, swP_c, vI_e, vL_e, vNull_e, vIload_e, vLload_e, vAload_e, vIstore_e, vLstore_e, vAstore_e, vIinc_e, vIadd_e, vIsub_e, vImul_e, vIand_e, vIor_e, vIxor_e, vIshl_e, vIshr_e, vIushr_e, vIdiv_e, vIrem_e, vLadd_e, vLsub_e, vLmul_e, vLand_e, vLor_e, vLxor_e, vLdiv_e, vLrem_e, vLushr_e, vLshl_e, vLcmp_e, vIneg_e, vI2l_e, vL2i_e, vI2b_e, vI2c_e, vDup_e, vPop_e, vDup2_e, vGoto_e, vIcEq_e, vIfEq_e, vIcNe_e, vIfNe_e, vIcLt_e, vIfLt_e, vIcGe_e, vIfGe_e, vIcGt_e, vIfGt_e, vIcLe_e, vIfLe_e, vNonnull_e, vSw_e, vGetI_e, vGetL_e, vGetR_e, vPutI_e, vPutZ_e, vPutL_e, vPutR_e, vIald_e, vIald_s, vLald_e, vBald_e, vBald_s, vAald_e, vIast_e, vLast_e, vBast_e, vAast_e, vAlen_e8, vAlen_e9, vAlen_e10, vAlen_e11, vAlen_e5, vAlen_e3, vGets_e, vCompact_e, vLdcS_e, vIret_e, vZret_e, vCret_e, vBret_e, vLret_e, vVret_e, vAret_e, vCallM_e0, vCallMV_e0, vCallS_e0, vCallSV_e0, vCallM_e1, vCallMV_e1, vCallS_e1, vCallSV_e1, vCallM_e2, vCallMV_e2, vCallS_e2, vCallSV_e2, vCallM_e3, vCallMV_e3, vCallS_e3, vCallSV_e3, vCallM_e4, vCallMV_e4, vCallS_e4, vCallSV_e4, vCallM_e5, vCallMV_e5, vCallS_e5, vCallSV_e5, vCallM_e6, vCallMV_e6, vCallS_e6, vCallSV_e6, vCallM_e7, vCallMV_e7, vCallS_e7, vCallSV_e7, vBad_e, vStrVal_e, vStrCod_e, vForm_e, vCallT_e0, vCallT_e1, vCallT_e2, vCopy_e, rf_0_0, rf_0_1, rf_0_2, rf_0_3, rf_0_4, rf_0_7, rf_0_10, rf_0_11, rf_0_12, rf_0_13, rf_0_14, rf_0_15, rf_0_16, rf_1_0, rf_3_0, rf_3_1, rf_6_0, rf_6_1, rf_9_0, rf_9_1, rf_9_3, rf_13_0, rf_13_1, rf_13_2, rf_16_0, rf_16_1, rf_16_2, rf_16_3, rf_21_0, rf_21_1, rf_21_2, rf_21_3, rf_26_0, rf_26_1, rf_26_2, rf_26_3, rf_26_4, rf_26_5, rf_26_6, rf_31_0, rf_31_2, rf_31_5, rf_31_6, rf_36_0, rf_36_1, rf_36_2, rf_36_3, rf_39_0, rf_39_1, rf_39_2, rf_41_0, rf_41_1, rf_41_2, rf_41_3, rf_5000_1, rf_5000_2, rf_5000_3, rf_5000_4, rf_5000_5, rf_5000_15, rf_5000_16, rf_5000_18, rf_5000_19, rf_5000_20, rf_5000_21, rf_5000_22, rf_5000_23, rf_5000_24, rf_5000_25, rf_5000_26, rf_5000_27, rf_5000_36, rf_5000_37, rf_5000_40, rf_5000_41, rf_5000_42, rf_5000_43, rf_5000_44, rf_5000_45, rf_5000_47, rf_5000_52, rf_5000_54, rf_5000_55, rf_100_0, rf_100_1, rf_103_0, rf_103_1, rf_106_0, rf_106_1, rf_109_0, rf_109_1, al_2, al_4, al_5, al_7, al_8, al_10, al_11, al_12, al_14, al_15, al_17, al_18, al_19, al_20, al_22, al_23, al_24, al_25, al_27, al_28, al_29, al_30, al_32, al_33, al_34, al_35, al_37, al_38, al_40, al_42, al_5001, al_5002, al_5003, al_5004, al_5005, al_5006, al_5007, al_5008, al_5009, al_5010, al_5011, al_5012, al_5013, al_5014, al_5015, al_5016, al_5017, al_5018, al_5019, al_5020, al_5021, al_5022, al_5023, al_5024, al_5025, al_5026, al_9000, al_101, al_102, al_104, al_105, al_107, al_108, al_110, al_111, vcs_e, lg_c0, lg_cs, lg_nil, set_c0, set_cs, okst_0, okst_s, acok_n, acok_c, List.contains_nil, List.contains_cons, Bool.or_false, Bool.false_or, Bool.false_eq_true, if_false, if_true, ite_self, ne_eq, true_and, and_true, not_false_eq_true, not_true_eq_false, false_imp_iff, true_imp_iff, Nat.ble_eq, Bool.and_eq_true, reduceCtorEq, or_false, false_or, or_true, true_or, false_and, and_false, and_self, Int.reduceLE, Int.reduceAdd, Int.reduceSub, Int.reduceMul, Int.reduceNeg, Int.reduceLT, Int.reduceEq, Int.reduceNe, Nat.reduceBEq, Nat.reduceBNe, Nat.reduceEqDiff, amCmp_in, amCmp_lt, amCmp_le, amCmp_gt, amCmp_ge, amCmp_eq, amCmp_ne, Nat.reduceLeDiff, Nat.reduceSub, Bool.and_true, Bool.true_and, Bool.and_self, Bool.or_true, Bool.true_or, isRf_3, isRf_4, isRf_5, isRf_8, isRf_9, isRf_10, isRf_11, isRf_15, isRf_16, isRf_17, isRf_18, isRf_19, isRf_20, isRf_21, isRf_22, isRf_23, isRf_24, isRf_25, isRf_26, isRf_27, isRf_28, k_X12_years_0, k_X12_years_1, k_X12_years_2, k_X12_years_5, k_X12_years_6, k_X12_years_9, k_X12_years_12, k_X12_years_13, k_X12_years_14, k_X12_years_15, k_X12_years_18, k_X12_years_21, k_X12_years_24, k_X12_years_25, k_X12_years_28, k_X12_years_30, k_X12_years_31, k_X12_years_32, k_X12_years_33, k_X12_years_36, k_X12_years_39, k_X12_years_40, k_X12_years_41, k_X12_years_42, k_X12_years_43, k_X12_years_46, k_X12_years_47, k_X12_years_49, k_X12_years_51, k_X12_years_52, k_X12_years_55, k_X12_years_56, k_X12_years_59, k_X12_years_60, k_X12_years_62, k_X12_years_65, k_X12_years_66, k_X12_years_69, k_X12_years_72, k_X12_years_73, k_X12_years_76, k_X12_years_78, k_X12_years_79, k_X12_years_80, k_X12_years_81, k_X12_years_82, k_X12_years_83, k_X12_years_86, k_X12_years_89, k_X12_years_90, k_X12_years_91, k_X12_years_92, k_X12_years_93, k_X12_years_94, k_X12_years_97, k_X12_years_100, k_X12_years_102, k_X12_years_103, k_X12_years_104, k_X12_years_107, k_X12_years_110, k_X12_years_112, k_X12_years_113, k_X12_years_114, k_X12_years_117, k_X12_years_119, k_X12_years_121, k_X12_years_124, k_X12_years_127, k_X12_years_128, k_X12_years_131, k_X12_years_133, k_X12_years_135, k_X12_years_138, k_X12_years_139, k_X12_years_140, k_X12_years_143, k_X12_years_144, k_X12_years_145, k_X12_years_148, k_X12_years_151, k_X12_years_154, k_X12_years_156, k_X12_years_159, k_X12_years_162, k_X12_years_163, k_X12_years_166, k_X12_years_168, k_X12_years_169, w_X12_canChange_e, w_X12_changes_e, w_X12_draw_e, w_X12_goEvening_e, w_X12_isIn_e, w_X12_remember_e, e29, t15, g]
      repeat' (first | apply And.intro | intro _)
      all_goals first | omega | exact absurd trivial (by assumption) | exact hq
    · by_cases d : 1 ≤ m ∧ m ≤ 30
      · have i9 : σ 5015 26 + m ≤ 999 → ∃ k', inv_yrm σ m x k' 49 [(28, 5000), (0, m), (1, x), (7, 0), (0, 0), (6, 0), (6, 0), (6, 0)] [] (up (th0 σ) 5000 49 x) := fun q =>
          ⟨(3 * m + 2).toNat, rfl, ⟨g, d.1, d.2, q⟩, 0, (6, 0), (6, 0), (6, 0), rfl, rfl, Or.inl ⟨rfl, by omega, by omega, rfl⟩⟩
        have hq := fun q : ¬ σ 5015 26 + m ≤ 999 => h1 (by omega)
        simp only [↓reduceIte, inR_0, inR_1, inR_m, vSw2_e, swP_n, swP_c, vI_e, vL_e, vNull_e, vIload_e, vLload_e, vAload_e, vIstore_e, vLstore_e, vAstore_e, vIinc_e, vIadd_e, vIsub_e, vImul_e, vIand_e, vIor_e, vIxor_e, vIshl_e, vIshr_e, vIushr_e, vIdiv_e, vIrem_e, vLadd_e, vLsub_e, vLmul_e, vLand_e, vLor_e, vLxor_e, vLdiv_e, vLrem_e, vLushr_e, vLshl_e, vLcmp_e, vIneg_e, vI2l_e, vL2i_e, vI2b_e, vI2c_e, vDup_e, vPop_e, vDup2_e, vGoto_e, vIcEq_e, vIfEq_e, vIcNe_e, vIfNe_e, vIcLt_e, vIfLt_e, vIcGe_e, vIfGe_e, vIcGt_e, vIfGt_e, vIcLe_e, vIfLe_e, vNonnull_e, vSw_e, vGetI_e, vGetL_e, vGetR_e, vPutI_e, vPutZ_e, vPutL_e, vPutR_e, vIald_e, vIald_s, vLald_e, vBald_e, vBald_s, vAald_e, vIast_e, vLast_e, vBast_e, vAast_e, vAlen_e8, vAlen_e9, vAlen_e10, vAlen_e11, vAlen_e5, vAlen_e3, vGets_e, vCompact_e, vLdcS_e, vIret_e, vZret_e, vCret_e, vBret_e, vLret_e, vVret_e, vAret_e, vCallM_e0, vCallMV_e0, vCallS_e0, vCallSV_e0, vCallM_e1, vCallMV_e1, vCallS_e1, vCallSV_e1, vCallM_e2, vCallMV_e2, vCallS_e2, vCallSV_e2, vCallM_e3, vCallMV_e3, vCallS_e3, vCallSV_e3, vCallM_e4, vCallMV_e4, vCallS_e4, vCallSV_e4, vCallM_e5, vCallMV_e5, vCallS_e5, vCallSV_e5, vCallM_e6, vCallMV_e6, vCallS_e6, vCallSV_e6, vCallM_e7, vCallMV_e7, vCallS_e7, vCallSV_e7, vBad_e, vStrVal_e, vStrCod_e, vForm_e, vCallT_e0, vCallT_e1, vCallT_e2, vCopy_e, rf_0_0, rf_0_1, rf_0_2, rf_0_3, rf_0_4, rf_0_7, rf_0_10, rf_0_11, rf_0_12, rf_0_13, rf_0_14, rf_0_15, rf_0_16, rf_1_0, rf_3_0, rf_3_1, rf_6_0, rf_6_1, rf_9_0, rf_9_1, rf_9_3, rf_13_0, rf_13_1, rf_13_2, rf_16_0, rf_16_1, rf_16_2, rf_16_3, rf_21_0, rf_21_1, rf_21_2, rf_21_3, rf_26_0, rf_26_1, rf_26_2, rf_26_3, rf_26_4, rf_26_5, rf_26_6, rf_31_0, rf_31_2, rf_31_5, rf_31_6, rf_36_0, rf_36_1, rf_36_2, rf_36_3, rf_39_0, rf_39_1, rf_39_2, rf_41_0, rf_41_1, rf_41_2, rf_41_3, rf_5000_1, rf_5000_2, rf_5000_3, rf_5000_4, rf_5000_5, rf_5000_15, rf_5000_16, rf_5000_18, rf_5000_19, rf_5000_20, rf_5000_21, rf_5000_22, rf_5000_23, rf_5000_24, rf_5000_25, rf_5000_26, rf_5000_27, rf_5000_36, rf_5000_37, rf_5000_40, rf_5000_41, rf_5000_42, rf_5000_43, rf_5000_44, rf_5000_45, rf_5000_47, rf_5000_52, rf_5000_54, rf_5000_55, rf_100_0, rf_100_1, rf_103_0, rf_103_1, rf_106_0, rf_106_1, rf_109_0, rf_109_1, al_2, al_4, al_5, al_7, al_8, al_10, al_11, al_12, al_14, al_15, al_17, al_18, al_19, al_20, al_22, al_23, al_24, al_25, al_27, al_28, al_29, al_30, al_32, al_33, al_34, al_35, al_37, al_38, al_40, al_42, al_5001, al_5002, al_5003, al_5004, al_5005, al_5006, al_5007, al_5008, al_5009, al_5010, al_5011, al_5012, al_5013, al_5014, al_5015, al_5016, al_5017, al_5018, al_5019, al_5020, al_5021, al_5022, al_5023, al_5024, al_5025, al_5026, al_9000, al_101, al_102, al_104, al_105, al_107, al_108, al_110, al_111, vcs_e, lg_c0, lg_cs, lg_nil, set_c0, set_cs, okst_0, okst_s, acok_n, acok_c, List.contains_nil, List.contains_cons, Bool.or_false, Bool.false_or, Bool.false_eq_true, if_false, if_true, ite_self, ne_eq, true_and, and_true, not_false_eq_true, not_true_eq_false, false_imp_iff, true_imp_iff, Nat.ble_eq, Bool.and_eq_true, reduceCtorEq, or_false, false_or, or_true, true_or, false_and, and_false, and_self, Int.reduceLE, Int.reduceAdd, Int.reduceSub, Int.reduceMul, Int.reduceNeg, Int.reduceLT, Int.reduceEq, Int.reduceNe, Nat.reduceBEq, Nat.reduceBNe, Nat.reduceEqDiff, amCmp_in, amCmp_lt, amCmp_le, amCmp_gt, amCmp_ge, amCmp_eq, amCmp_ne, Nat.reduceLeDiff, Nat.reduceSub, Bool.and_true, Bool.true_and, Bool.and_self, Bool.or_true, Bool.true_or, isRf_3, isRf_4, isRf_5, isRf_8, isRf_9, isRf_10, isRf_11, isRf_15, isRf_16, isRf_17, isRf_18, isRf_19, isRf_20, isRf_21, isRf_22, isRf_23, isRf_24, isRf_25, isRf_26, isRf_27, isRf_28, k_X12_years_0, k_X12_years_1, k_X12_years_2, k_X12_years_5, k_X12_years_6, k_X12_years_9, k_X12_years_12, k_X12_years_13, k_X12_years_14, k_X12_years_15, k_X12_years_18, k_X12_years_21, k_X12_years_24, k_X12_years_25, k_X12_years_28, k_X12_years_30, k_X12_years_31, k_X12_years_32, k_X12_years_33, k_X12_years_36, k_X12_years_39, k_X12_years_40, k_X12_years_41, k_X12_years_42, k_X12_years_43, k_X12_years_46, k_X12_years_47, k_X12_years_49, k_X12_years_51, k_X12_years_52, k_X12_years_55, k_X12_years_56, k_X12_years_59, k_X12_years_60, k_X12_years_62, k_X12_years_65, k_X12_years_66, k_X12_years_69, k_X12_years_72, k_X12_years_73, k_X12_years_76, k_X12_years_78, k_X12_years_79, k_X12_years_80, k_X12_years_81, k_X12_years_82, k_X12_years_83, k_X12_years_86, k_X12_years_89, k_X12_years_90, k_X12_years_91, k_X12_years_92, k_X12_years_93, k_X12_years_94, k_X12_years_97, k_X12_years_100, k_X12_years_102, k_X12_years_103, k_X12_years_104, k_X12_years_107, k_X12_years_110, k_X12_years_112, k_X12_years_113, k_X12_years_114, k_X12_years_117, k_X12_years_119, k_X12_years_121, k_X12_years_124, k_X12_years_127, k_X12_years_128, k_X12_years_131, k_X12_years_133, k_X12_years_135, k_X12_years_138, k_X12_years_139, k_X12_years_140, k_X12_years_143, k_X12_years_144, k_X12_years_145, k_X12_years_148, k_X12_years_151, k_X12_years_154, k_X12_years_156, k_X12_years_159, k_X12_years_162, k_X12_years_163, k_X12_years_166, k_X12_years_168, k_X12_years_169, w_X12_canChange_e, w_X12_changes_e, w_X12_draw_e, w_X12_goEvening_e, w_X12_isIn_e, w_X12_remember_e, e29, t15, if_pos d]
        repeat' (first | apply And.intro | intro _)
        all_goals first | omega | exact absurd trivial (by assumption) | exact i9 (by omega) | exact hq (by omega)
      · have hq := h1 (by omega)
        simp only [↓reduceIte, inR_0, inR_1, inR_m, vSw2_e, swP_n, swP_c, vI_e, vL_e, vNull_e, vIload_e, vLload_e, vAload_e, vIstore_e, vLstore_e, vAstore_e, vIinc_e, vIadd_e, vIsub_e, vImul_e, vIand_e, vIor_e, vIxor_e, vIshl_e, vIshr_e, vIushr_e, vIdiv_e, vIrem_e, vLadd_e, vLsub_e, vLmul_e, vLand_e, vLor_e, vLxor_e, vLdiv_e, vLrem_e, vLushr_e, vLshl_e, vLcmp_e, vIneg_e, vI2l_e, vL2i_e, vI2b_e, vI2c_e, vDup_e, vPop_e, vDup2_e, vGoto_e, vIcEq_e, vIfEq_e, vIcNe_e, vIfNe_e, vIcLt_e, vIfLt_e, vIcGe_e, vIfGe_e, vIcGt_e, vIfGt_e, vIcLe_e, vIfLe_e, vNonnull_e, vSw_e, vGetI_e, vGetL_e, vGetR_e, vPutI_e, vPutZ_e, vPutL_e, vPutR_e, vIald_e, vIald_s, vLald_e, vBald_e, vBald_s, vAald_e, vIast_e, vLast_e, vBast_e, vAast_e, vAlen_e8, vAlen_e9, vAlen_e10, vAlen_e11, vAlen_e5, vAlen_e3, vGets_e, vCompact_e, vLdcS_e, vIret_e, vZret_e, vCret_e, vBret_e, vLret_e, vVret_e, vAret_e, vCallM_e0, vCallMV_e0, vCallS_e0, vCallSV_e0, vCallM_e1, vCallMV_e1, vCallS_e1, vCallSV_e1, vCallM_e2, vCallMV_e2, vCallS_e2, vCallSV_e2, vCallM_e3, vCallMV_e3, vCallS_e3, vCallSV_e3, vCallM_e4, vCallMV_e4, vCallS_e4, vCallSV_e4, vCallM_e5, vCallMV_e5, vCallS_e5, vCallSV_e5, vCallM_e6, vCallMV_e6, vCallS_e6, vCallSV_e6, vCallM_e7, vCallMV_e7, vCallS_e7, vCallSV_e7, vBad_e, vStrVal_e, vStrCod_e, vForm_e, vCallT_e0, vCallT_e1, vCallT_e2, vCopy_e, rf_0_0, rf_0_1, rf_0_2, rf_0_3, rf_0_4, rf_0_7, rf_0_10, rf_0_11, rf_0_12, rf_0_13, rf_0_14, rf_0_15, rf_0_16, rf_1_0, rf_3_0, rf_3_1, rf_6_0, rf_6_1, rf_9_0, rf_9_1, rf_9_3, rf_13_0, rf_13_1, rf_13_2, rf_16_0, rf_16_1, rf_16_2, rf_16_3, rf_21_0, rf_21_1, rf_21_2, rf_21_3, rf_26_0, rf_26_1, rf_26_2, rf_26_3, rf_26_4, rf_26_5, rf_26_6, rf_31_0, rf_31_2, rf_31_5, rf_31_6, rf_36_0, rf_36_1, rf_36_2, rf_36_3, rf_39_0, rf_39_1, rf_39_2, rf_41_0, rf_41_1, rf_41_2, rf_41_3, rf_5000_1, rf_5000_2, rf_5000_3, rf_5000_4, rf_5000_5, rf_5000_15, rf_5000_16, rf_5000_18, rf_5000_19, rf_5000_20, rf_5000_21, rf_5000_22, rf_5000_23, rf_5000_24, rf_5000_25, rf_5000_26, rf_5000_27, rf_5000_36, rf_5000_37, rf_5000_40, rf_5000_41, rf_5000_42, rf_5000_43, rf_5000_44, rf_5000_45, rf_5000_47, rf_5000_52, rf_5000_54, rf_5000_55, rf_100_0, rf_100_1, rf_103_0, rf_103_1, rf_106_0, rf_106_1, rf_109_0, rf_109_1, al_2, al_4, al_5, al_7, al_8, al_10, al_11, al_12, al_14, al_15, al_17, al_18, al_19, al_20, al_22, al_23, al_24, al_25, al_27, al_28, al_29, al_30, al_32, al_33, al_34, al_35, al_37, al_38, al_40, al_42, al_5001, al_5002, al_5003, al_5004, al_5005, al_5006, al_5007, al_5008, al_5009, al_5010, al_5011, al_5012, al_5013, al_5014, al_5015, al_5016, al_5017, al_5018, al_5019, al_5020, al_5021, al_5022, al_5023, al_5024, al_5025, al_5026, al_9000, al_101, al_102, al_104, al_105, al_107, al_108, al_110, al_111, vcs_e, lg_c0, lg_cs, lg_nil, set_c0, set_cs, okst_0, okst_s, acok_n, acok_c, List.contains_nil, List.contains_cons, Bool.or_false, Bool.false_or, Bool.false_eq_true, if_false, if_true, ite_self, ne_eq, true_and, and_true, not_false_eq_true, not_true_eq_false, false_imp_iff, true_imp_iff, Nat.ble_eq, Bool.and_eq_true, reduceCtorEq, or_false, false_or, or_true, true_or, false_and, and_false, and_self, Int.reduceLE, Int.reduceAdd, Int.reduceSub, Int.reduceMul, Int.reduceNeg, Int.reduceLT, Int.reduceEq, Int.reduceNe, Nat.reduceBEq, Nat.reduceBNe, Nat.reduceEqDiff, amCmp_in, amCmp_lt, amCmp_le, amCmp_gt, amCmp_ge, amCmp_eq, amCmp_ne, Nat.reduceLeDiff, Nat.reduceSub, Bool.and_true, Bool.true_and, Bool.and_self, Bool.or_true, Bool.true_or, isRf_3, isRf_4, isRf_5, isRf_8, isRf_9, isRf_10, isRf_11, isRf_15, isRf_16, isRf_17, isRf_18, isRf_19, isRf_20, isRf_21, isRf_22, isRf_23, isRf_24, isRf_25, isRf_26, isRf_27, isRf_28, k_X12_years_0, k_X12_years_1, k_X12_years_2, k_X12_years_5, k_X12_years_6, k_X12_years_9, k_X12_years_12, k_X12_years_13, k_X12_years_14, k_X12_years_15, k_X12_years_18, k_X12_years_21, k_X12_years_24, k_X12_years_25, k_X12_years_28, k_X12_years_30, k_X12_years_31, k_X12_years_32, k_X12_years_33, k_X12_years_36, k_X12_years_39, k_X12_years_40, k_X12_years_41, k_X12_years_42, k_X12_years_43, k_X12_years_46, k_X12_years_47, k_X12_years_49, k_X12_years_51, k_X12_years_52, k_X12_years_55, k_X12_years_56, k_X12_years_59, k_X12_years_60, k_X12_years_62, k_X12_years_65, k_X12_years_66, k_X12_years_69, k_X12_years_72, k_X12_years_73, k_X12_years_76, k_X12_years_78, k_X12_years_79, k_X12_years_80, k_X12_years_81, k_X12_years_82, k_X12_years_83, k_X12_years_86, k_X12_years_89, k_X12_years_90, k_X12_years_91, k_X12_years_92, k_X12_years_93, k_X12_years_94, k_X12_years_97, k_X12_years_100, k_X12_years_102, k_X12_years_103, k_X12_years_104, k_X12_years_107, k_X12_years_110, k_X12_years_112, k_X12_years_113, k_X12_years_114, k_X12_years_117, k_X12_years_119, k_X12_years_121, k_X12_years_124, k_X12_years_127, k_X12_years_128, k_X12_years_131, k_X12_years_133, k_X12_years_135, k_X12_years_138, k_X12_years_139, k_X12_years_140, k_X12_years_143, k_X12_years_144, k_X12_years_145, k_X12_years_148, k_X12_years_151, k_X12_years_154, k_X12_years_156, k_X12_years_159, k_X12_years_162, k_X12_years_163, k_X12_years_166, k_X12_years_168, k_X12_years_169, w_X12_canChange_e, w_X12_changes_e, w_X12_draw_e, w_X12_goEvening_e, w_X12_isIn_e, w_X12_remember_e, e29, t15, if_neg d]
        repeat' (first | apply And.intro | intro _)
        all_goals first | omega | exact absurd trivial (by assumption) | exact hq
