/-! the reference reads CONDITIONS: UNITS, parts, CONDITIONS -/
def wU : Nat → WP
  | 0 => fun _ _ _ => False
  | r + 1 => fun av σ Q => av = [(28, 5000)] ∧ (rdOk σ r ∧ (∀ f v p d, gU (mtx σ) (σ 5000 9) r (σ 5000 10) = .inl f → (v = 0 ∨ v = 1) → 6 - (r : Int) ≤ d → d ≤ 6 → Q (0, v) (rdM σ p f d)) ∧ (∀ y, gU (mtx σ) (σ 5000 9) r (σ 5000 10) = .inr y → Q (0, val (mL σ) y.2) (rdM σ y.1 (-1) (6 - r))))
theorem wU_0 (av : List AV) (σ : Mem) (Q : AV → Mem → Prop) : wU 0 av σ Q = False := rfl
theorem wU_s (r : Nat) (σ : Mem) (Q : AV → Mem → Prop) : wU (r + 1) [(28, 5000)] σ Q = (rdOk σ r ∧ (∀ f v p d, gU (mtx σ) (σ 5000 9) r (σ 5000 10) = .inl f → (v = 0 ∨ v = 1) → 6 - (r : Int) ≤ d → d ≤ 6 → Q (0, v) (rdM σ p f d)) ∧ (∀ y, gU (mtx σ) (σ 5000 9) r (σ 5000 10) = .inr y → Q (0, val (mL σ) y.2) (rdM σ y.1 (-1) (6 - r)))) := by
  apply propext; constructor
  · rintro ⟨-, h⟩; exact h
  · intro h; exact ⟨rfl, h⟩
def wC : Nat → WP
  | 0 => fun _ _ _ => False
  | r + 1 => fun av σ Q => av = [(28, 5000), (0, 0), (0, 0)] ∧ (rdOk σ r ∧ (∀ f v p d, gCnd (mtx σ) (σ 5000 9) (gU (mtx σ) (σ 5000 9) r) (gU (mtx σ) (σ 5000 9) r (σ 5000 10)) = .inl f → (v = 0 ∨ v = 1) → 6 - (r : Int) ≤ d → d ≤ 6 → Q (0, v) (rdM σ p f d)) ∧ (∀ y, gCnd (mtx σ) (σ 5000 9) (gU (mtx σ) (σ 5000 9) r) (gU (mtx σ) (σ 5000 9) r (σ 5000 10)) = .inr y → Q (0, val (mL σ) y.2) (rdM σ y.1 (-1) (6 - r))))
theorem wC_0 (av : List AV) (σ : Mem) (Q : AV → Mem → Prop) : wC 0 av σ Q = False := rfl
theorem wC_s (r : Nat) (σ : Mem) (Q : AV → Mem → Prop) : wC (r + 1) [(28, 5000), (0, 0), (0, 0)] σ Q = (rdOk σ r ∧ (∀ f v p d, gCnd (mtx σ) (σ 5000 9) (gU (mtx σ) (σ 5000 9) r) (gU (mtx σ) (σ 5000 9) r (σ 5000 10)) = .inl f → (v = 0 ∨ v = 1) → 6 - (r : Int) ≤ d → d ≤ 6 → Q (0, v) (rdM σ p f d)) ∧ (∀ y, gCnd (mtx σ) (σ 5000 9) (gU (mtx σ) (σ 5000 9) r) (gU (mtx σ) (σ 5000 9) r (σ 5000 10)) = .inr y → Q (0, val (mL σ) y.2) (rdM σ y.1 (-1) (6 - r)))) := by
  apply propext; constructor
  · rintro ⟨-, h⟩; exact h
  · intro h; exact ⟨rfl, h⟩
abbrev UnS (r : Nat) : Prop := ∀ av σ Q, wU r av σ Q → amCall (30 + 3 * r) 0 0 TT yX12_unit cX12_unit 3 (some .boolean) av σ Q
abbrev CoS (r : Nat) : Prop := ∀ av σ Q, wC r av σ Q → amCall (32 + 3 * r) 0 0 TT yX12_condition cX12_condition 5 (some .boolean) av σ Q

theorem wd_1620 : Cond.methodLink RX12 199 yX12_unit ∈ TBL := tb_tab (List.mem_of_getElem? (i := 1620) (by decide +kernel)) rfl
theorem wd_1623 : Cond.code yX12_unit cX12_unit 3 (some .boolean) ∈ TBL := tb_tab (List.mem_of_getElem? (i := 1623) (by decide +kernel)) rfl
theorem lk_X12_199 : amLk RX12 199 yX12_unit cX12_unit 3 (some .boolean) 0 := ⟨wd_1620, wd_12, wd_1623, by decide +kernel, by decide +kernel, by decide⟩
theorem wd_1622 : Cond.instanceMethod yX12_unit ∈ TBL := tb_tab (List.mem_of_getElem? (i := 1622) (by decide +kernel)) rfl
theorem sl_X12_unit : Cond.selects RX12 yX12_unit yX12_unit ∈ TBL := tb_sel (List.mem_of_getElem? (i := 68) (by decide +kernel)) rfl
theorem wd_1580 : Cond.methodLink RX12 202 yX12_condition ∈ TBL := tb_tab (List.mem_of_getElem? (i := 1580) (by decide +kernel)) rfl
theorem wd_1583 : Cond.code yX12_condition cX12_condition 5 (some .boolean) ∈ TBL := tb_tab (List.mem_of_getElem? (i := 1583) (by decide +kernel)) rfl
theorem lk_X12_202 : amLk RX12 202 yX12_condition cX12_condition 5 (some .boolean) 2 := ⟨wd_1580, wd_12, wd_1583, by decide +kernel, by decide +kernel, by decide⟩
theorem wd_1582 : Cond.instanceMethod yX12_condition ∈ TBL := tb_tab (List.mem_of_getElem? (i := 1582) (by decide +kernel)) rfl
theorem sl_X12_condition : Cond.selects RX12 yX12_condition yX12_condition ∈ TBL := tb_sel (List.mem_of_getElem? (i := 61) (by decide +kernel)) rfl
theorem wd_1588 : Cond.methodLink RX12 206 yX12_compares ∈ TBL := tb_tab (List.mem_of_getElem? (i := 1588) (by decide +kernel)) rfl
theorem wd_1591 : Cond.code yX12_compares cX12_compares 6 (some .boolean) ∈ TBL := tb_tab (List.mem_of_getElem? (i := 1591) (by decide +kernel)) rfl
theorem lk_X12_206 : amLk RX12 206 yX12_compares cX12_compares 6 (some .boolean) 2 := ⟨wd_1588, wd_12, wd_1591, by decide +kernel, by decide +kernel, by decide⟩
theorem wd_1590 : Cond.instanceMethod yX12_compares ∈ TBL := tb_tab (List.mem_of_getElem? (i := 1590) (by decide +kernel)) rfl
theorem sl_X12_compares : Cond.selects RX12 yX12_compares yX12_compares ∈ TBL := tb_sel (List.mem_of_getElem? (i := 63) (by decide +kernel)) rfl
def a_X12_unit (r : Nat) : AC := [(0, vAload 0 1), (1, vCallM w_X12_look 28 0 4), (4, vIstore 1 5), (5, vIload 1 6), (6, vI 33 8), (8, vIcNe 45 11), (11, vAload 0 12), (12, vCallM w_X12_goesIn 28 0 15), (15, vIfNe 20 18), (18, vI 0 19), (19, vZret), (20, vAload 0 21), (21, vCallM (wU r) 28 0 24), (24, vIstore 2 25), (25, vAload 0 26), (26, vDup 27), (27, vGetI 28 12 30), (30, vI 1 31), (31, vIsub 32), (32, vPutI 28 12 35), (35, vIload 2 36), (36, vIfNe 43 39), (39, vI 1 40), (40, vGoto 44), (43, vI 0 44), (44, vZret), (45, vIload 1 46), (46, vI 40 48), (48, vIcNe 90 51), (51, vAload 0 52), (52, vCallM w_X12_goesIn 28 0 55), (55, vIfNe 60 58), (58, vI 0 59), (59, vZret), (60, vAload 0 61), (61, vI 0 62), (62, vI 0 63), (63, vCallM (wC r) 28 2 66), (66, vIstore 2 67), (67, vAload 0 68), (68, vI 41 70), (70, vCallM w_X12_takes 28 1 73), (73, vIfNe 78 76), (76, vI 0 77), (77, vZret), (78, vAload 0 79), (79, vDup 80), (80, vGetI 28 12 83), (83, vI 1 84), (84, vIsub 85), (85, vPutI 28 12 88), (88, vIload 2 89), (89, vZret), (90, vAload 0 91), (91, vI 0 92), (92, vI 0 93), (93, vCallM (w_X12_compares r) 28 2 96), (96, vZret)]
theorem k_X12_unit_0 (r : Nat) : look (a_X12_unit r) 0 = vAload 0 1 := rfl
theorem k_X12_unit_1 (r : Nat) : look (a_X12_unit r) 1 = vCallM w_X12_look 28 0 4 := rfl
theorem k_X12_unit_4 (r : Nat) : look (a_X12_unit r) 4 = vIstore 1 5 := rfl
theorem k_X12_unit_5 (r : Nat) : look (a_X12_unit r) 5 = vIload 1 6 := rfl
theorem k_X12_unit_6 (r : Nat) : look (a_X12_unit r) 6 = vI 33 8 := rfl
theorem k_X12_unit_8 (r : Nat) : look (a_X12_unit r) 8 = vIcNe 45 11 := rfl
theorem k_X12_unit_11 (r : Nat) : look (a_X12_unit r) 11 = vAload 0 12 := rfl
theorem k_X12_unit_12 (r : Nat) : look (a_X12_unit r) 12 = vCallM w_X12_goesIn 28 0 15 := rfl
theorem k_X12_unit_15 (r : Nat) : look (a_X12_unit r) 15 = vIfNe 20 18 := rfl
theorem k_X12_unit_18 (r : Nat) : look (a_X12_unit r) 18 = vI 0 19 := rfl
theorem k_X12_unit_19 (r : Nat) : look (a_X12_unit r) 19 = vZret := rfl
theorem k_X12_unit_20 (r : Nat) : look (a_X12_unit r) 20 = vAload 0 21 := rfl
theorem k_X12_unit_21 (r : Nat) : look (a_X12_unit r) 21 = vCallM (wU r) 28 0 24 := rfl
theorem k_X12_unit_24 (r : Nat) : look (a_X12_unit r) 24 = vIstore 2 25 := rfl
theorem k_X12_unit_25 (r : Nat) : look (a_X12_unit r) 25 = vAload 0 26 := rfl
theorem k_X12_unit_26 (r : Nat) : look (a_X12_unit r) 26 = vDup 27 := rfl
theorem k_X12_unit_27 (r : Nat) : look (a_X12_unit r) 27 = vGetI 28 12 30 := rfl
theorem k_X12_unit_30 (r : Nat) : look (a_X12_unit r) 30 = vI 1 31 := rfl
theorem k_X12_unit_31 (r : Nat) : look (a_X12_unit r) 31 = vIsub 32 := rfl
theorem k_X12_unit_32 (r : Nat) : look (a_X12_unit r) 32 = vPutI 28 12 35 := rfl
theorem k_X12_unit_35 (r : Nat) : look (a_X12_unit r) 35 = vIload 2 36 := rfl
theorem k_X12_unit_36 (r : Nat) : look (a_X12_unit r) 36 = vIfNe 43 39 := rfl
theorem k_X12_unit_39 (r : Nat) : look (a_X12_unit r) 39 = vI 1 40 := rfl
theorem k_X12_unit_40 (r : Nat) : look (a_X12_unit r) 40 = vGoto 44 := rfl
theorem k_X12_unit_43 (r : Nat) : look (a_X12_unit r) 43 = vI 0 44 := rfl
theorem k_X12_unit_44 (r : Nat) : look (a_X12_unit r) 44 = vZret := rfl
theorem k_X12_unit_45 (r : Nat) : look (a_X12_unit r) 45 = vIload 1 46 := rfl
theorem k_X12_unit_46 (r : Nat) : look (a_X12_unit r) 46 = vI 40 48 := rfl
theorem k_X12_unit_48 (r : Nat) : look (a_X12_unit r) 48 = vIcNe 90 51 := rfl
theorem k_X12_unit_51 (r : Nat) : look (a_X12_unit r) 51 = vAload 0 52 := rfl
theorem k_X12_unit_52 (r : Nat) : look (a_X12_unit r) 52 = vCallM w_X12_goesIn 28 0 55 := rfl
theorem k_X12_unit_55 (r : Nat) : look (a_X12_unit r) 55 = vIfNe 60 58 := rfl
theorem k_X12_unit_58 (r : Nat) : look (a_X12_unit r) 58 = vI 0 59 := rfl
theorem k_X12_unit_59 (r : Nat) : look (a_X12_unit r) 59 = vZret := rfl
theorem k_X12_unit_60 (r : Nat) : look (a_X12_unit r) 60 = vAload 0 61 := rfl
theorem k_X12_unit_61 (r : Nat) : look (a_X12_unit r) 61 = vI 0 62 := rfl
theorem k_X12_unit_62 (r : Nat) : look (a_X12_unit r) 62 = vI 0 63 := rfl
theorem k_X12_unit_63 (r : Nat) : look (a_X12_unit r) 63 = vCallM (wC r) 28 2 66 := rfl
theorem k_X12_unit_66 (r : Nat) : look (a_X12_unit r) 66 = vIstore 2 67 := rfl
theorem k_X12_unit_67 (r : Nat) : look (a_X12_unit r) 67 = vAload 0 68 := rfl
theorem k_X12_unit_68 (r : Nat) : look (a_X12_unit r) 68 = vI 41 70 := rfl
theorem k_X12_unit_70 (r : Nat) : look (a_X12_unit r) 70 = vCallM w_X12_takes 28 1 73 := rfl
theorem k_X12_unit_73 (r : Nat) : look (a_X12_unit r) 73 = vIfNe 78 76 := rfl
theorem k_X12_unit_76 (r : Nat) : look (a_X12_unit r) 76 = vI 0 77 := rfl
theorem k_X12_unit_77 (r : Nat) : look (a_X12_unit r) 77 = vZret := rfl
theorem k_X12_unit_78 (r : Nat) : look (a_X12_unit r) 78 = vAload 0 79 := rfl
theorem k_X12_unit_79 (r : Nat) : look (a_X12_unit r) 79 = vDup 80 := rfl
theorem k_X12_unit_80 (r : Nat) : look (a_X12_unit r) 80 = vGetI 28 12 83 := rfl
theorem k_X12_unit_83 (r : Nat) : look (a_X12_unit r) 83 = vI 1 84 := rfl
theorem k_X12_unit_84 (r : Nat) : look (a_X12_unit r) 84 = vIsub 85 := rfl
theorem k_X12_unit_85 (r : Nat) : look (a_X12_unit r) 85 = vPutI 28 12 88 := rfl
theorem k_X12_unit_88 (r : Nat) : look (a_X12_unit r) 88 = vIload 2 89 := rfl
theorem k_X12_unit_89 (r : Nat) : look (a_X12_unit r) 89 = vZret := rfl
theorem k_X12_unit_90 (r : Nat) : look (a_X12_unit r) 90 = vAload 0 91 := rfl
theorem k_X12_unit_91 (r : Nat) : look (a_X12_unit r) 91 = vI 0 92 := rfl
theorem k_X12_unit_92 (r : Nat) : look (a_X12_unit r) 92 = vI 0 93 := rfl
theorem k_X12_unit_93 (r : Nat) : look (a_X12_unit r) 93 = vCallM (w_X12_compares r) 28 2 96 := rfl
theorem k_X12_unit_96 (r : Nat) : look (a_X12_unit r) 96 = vZret := rfl
theorem o_X12_unit {X : amX} (r : Nat) (h6 : r ≤ 6) (hU : UnS r) (hC : CoS r) (e1 : XT X = TT) (e2 : XD X = 33 + 3 * r) (hB : amB X RX12 cX12_unit (some .boolean) 3) : ∀ pc, amOK X pc (look (a_X12_unit r) pc) := by
  have hT : amTok (XT X) := e1 ▸ TT_ok
  refine look_ok ?_
  unfold a_X12_unit
  refine fc (ok_aload_n hB dX12_unit_0) ?_
  refine fc (ok_callM hB hT (e1 ▸ s_X12_look) lk_X12_153 (by rw [e2]; omega) (c := 12) rfl rfl rfl wd_1521 sl_X12_look dX12_unit_1) ?_
  refine fc (ok_istore_n hB (by decide) dX12_unit_4) ?_
  refine fc (ok_iload_n hB dX12_unit_5) ?_
  refine fc (ok_bipush hB dX12_unit_6 (by decide)) ?_
  refine fc (ok_icmp_ne hB (t := 45) (by decide) dX12_unit_8) ?_
  refine fc (ok_aload_n hB dX12_unit_11) ?_
  refine fc (ok_callM hB hT (e1 ▸ s_X12_goesIn) lk_X12_173 (by rw [e2]; omega) (c := 12) rfl rfl rfl wd_1606 sl_X12_goesIn dX12_unit_12) ?_
  refine fc (ok_if_ne hB (t := 20) (by decide) dX12_unit_15) ?_
  refine fc (ok_iconst hB dX12_unit_18) ?_
  refine fc (ok_zret hB dX12_unit_19) ?_
  refine fc (ok_aload_n hB dX12_unit_20) ?_
  refine fc (ok_callM hB hT (fun av9 σ9 Q9 h9 => e1 ▸ hU av9 σ9 Q9 h9) lk_X12_199 (by rw [e2]; omega) (c := 12) rfl rfl rfl wd_1622 sl_X12_unit dX12_unit_21) ?_
  refine fc (ok_istore_n hB (by decide) dX12_unit_24) ?_
  refine fc (ok_aload_n hB dX12_unit_25) ?_
  refine fc (ok_dup hB dX12_unit_26) ?_
  refine fc (ok_getI hB hT fl_X12_146 rfl rfl (Or.inl af_12_12) dX12_unit_27) ?_
  refine fc (ok_iconst hB dX12_unit_30) ?_
  refine fc (ok_isub hB dX12_unit_31) ?_
  refine fc (ok_putI hB hT fp_X12_146 rfl rfl rfl af_12_12 dX12_unit_32) ?_
  refine fc (ok_iload_n hB dX12_unit_35) ?_
  refine fc (ok_if_ne hB (t := 43) (by decide) dX12_unit_36) ?_
  refine fc (ok_iconst hB dX12_unit_39) ?_
  refine fc (ok_goto hB (t := 44) (by decide) dX12_unit_40) ?_
  refine fc (ok_iconst hB dX12_unit_43) ?_
  refine fc (ok_zret hB dX12_unit_44) ?_
  refine fc (ok_iload_n hB dX12_unit_45) ?_
  refine fc (ok_bipush hB dX12_unit_46 (by decide)) ?_
  refine fc (ok_icmp_ne hB (t := 90) (by decide) dX12_unit_48) ?_
  refine fc (ok_aload_n hB dX12_unit_51) ?_
  refine fc (ok_callM hB hT (e1 ▸ s_X12_goesIn) lk_X12_173 (by rw [e2]; omega) (c := 12) rfl rfl rfl wd_1606 sl_X12_goesIn dX12_unit_52) ?_
  refine fc (ok_if_ne hB (t := 60) (by decide) dX12_unit_55) ?_
  refine fc (ok_iconst hB dX12_unit_58) ?_
  refine fc (ok_zret hB dX12_unit_59) ?_
  refine fc (ok_aload_n hB dX12_unit_60) ?_
  refine fc (ok_iconst hB dX12_unit_61) ?_
  refine fc (ok_iconst hB dX12_unit_62) ?_
  refine fc (ok_callM hB hT (fun av9 σ9 Q9 h9 => e1 ▸ hC av9 σ9 Q9 h9) lk_X12_202 (by rw [e2]; omega) (c := 12) rfl rfl rfl wd_1582 sl_X12_condition dX12_unit_63) ?_
  refine fc (ok_istore_n hB (by decide) dX12_unit_66) ?_
  refine fc (ok_aload_n hB dX12_unit_67) ?_
  refine fc (ok_bipush hB dX12_unit_68 (by decide)) ?_
  refine fc (ok_callM hB hT (e1 ▸ s_X12_takes) lk_X12_179 (by rw [e2]; omega) (c := 12) rfl rfl rfl wd_1578 sl_X12_takes dX12_unit_70) ?_
  refine fc (ok_if_ne hB (t := 78) (by decide) dX12_unit_73) ?_
  refine fc (ok_iconst hB dX12_unit_76) ?_
  refine fc (ok_zret hB dX12_unit_77) ?_
  refine fc (ok_aload_n hB dX12_unit_78) ?_
  refine fc (ok_dup hB dX12_unit_79) ?_
  refine fc (ok_getI hB hT fl_X12_146 rfl rfl (Or.inl af_12_12) dX12_unit_80) ?_
  refine fc (ok_iconst hB dX12_unit_83) ?_
  refine fc (ok_isub hB dX12_unit_84) ?_
  refine fc (ok_putI hB hT fp_X12_146 rfl rfl rfl af_12_12 dX12_unit_85) ?_
  refine fc (ok_iload_n hB dX12_unit_88) ?_
  refine fc (ok_zret hB dX12_unit_89) ?_
  refine fc (ok_aload_n hB dX12_unit_90) ?_
  refine fc (ok_iconst hB dX12_unit_91) ?_
  refine fc (ok_iconst hB dX12_unit_92) ?_
  refine fc (ok_callM hB hT (fun av9 σ9 Q9 h9 => e1 ▸ (s_X12_compares r h6) av9 σ9 Q9 h9) lk_X12_206 (by rw [e2]; omega) (c := 12) rfl rfl rfl wd_1590 sl_X12_compares dX12_unit_93) ?_
  refine fc (ok_zret hB dX12_unit_96) ?_
  exact fn

def w_X12_unit (r : Nat) : WP := fun av σ Q => av = [(28, 5000)] ∧ (rdOk σ r ∧ (∀ f v p d, gU (mtx σ) (σ 5000 9) r (σ 5000 10) = .inl f → (v = 0 ∨ v = 1) → 6 - (r : Int) ≤ d → d ≤ 6 → Q (0, v) (rdM σ p f d)) ∧ (∀ y, gU (mtx σ) (σ 5000 9) r (σ 5000 10) = .inr y → Q (0, val (mL σ) y.2) (rdM σ y.1 (-1) (6 - r))))
theorem w_X12_unit_e (r : Nat)  (σ : Mem) (Q : AV → Mem → Prop) : w_X12_unit r [(28, 5000)] σ Q = (rdOk σ r ∧ (∀ f v p d, gU (mtx σ) (σ 5000 9) r (σ 5000 10) = .inl f → (v = 0 ∨ v = 1) → 6 - (r : Int) ≤ d → d ≤ 6 → Q (0, v) (rdM σ p f d)) ∧ (∀ y, gU (mtx σ) (σ 5000 9) r (σ 5000 10) = .inr y → Q (0, val (mL σ) y.2) (rdM σ y.1 (-1) (6 - r)))) := by
  apply propext; constructor
  · rintro ⟨h9, hb9⟩; cases h9; exact hb9
  · intro hb9; exact ⟨rfl, hb9⟩

set_option maxRecDepth 100000 in
set_option maxHeartbeats 4000000 in
theorem s_X12_unit (r : Nat) (h6 : r ≤ 6) (hU : UnS r) (hC : CoS r) : ∀ av σ Q, w_X12_unit r av σ Q → amCall (33 + 3 * r) 0 0 TT yX12_unit cX12_unit 3 (some .boolean) av σ Q := by
  rintro av σ Q ⟨rfl, hok, hq1, hq2⟩
  obtain ⟨m, p, rfl⟩ := rdOk_m hok
  obtain ⟨ht, hL, -, p0, p1, -, hr⟩ := rdOk_dr hok
  have mt : ∀ p f d, mtx (rdM m p f d) = mtx m := mtx_rd ht
  have mk : ∀ p f d, msk (rdM m p f d) = sk (mtx m) (m 5000 9) p := fun p f d => by unfold msk; rw [mt, rd_9, rd_10]
  simp only [mt, rd_9, rd_10, mL_rd, rd_rd] at hq1 hq2
  have n1 := ht.2.1
  have tO : ∀ p f d, txOk (rdM m p f d) := fun p f d => txOk_rd ht p f d
  have hsb := sk_b (mtx m) p1
  have tb := mtx_b ht (sk (mtx m) (m 5000 9) p)
  have hrd : ∀ q, 0 ≤ q → q ≤ m 5000 9 → rdOk (rdM m q (-1) (6 - r)) r := fun q a b => rdOk_rd ht hL a b rfl hr
  have gsk := gS_sk (t := mtx m) p1 r
  refine am_m0 (own := RX12) (A := look (a_X12_unit r)) (fun X e1 e2 hB => o_X12_unit r h6 hU hC e1 e2 hB) rfl (by decide +kernel) rfl rfl 120 (w := 3) ?_
  change vcs _ _ _ _ 120 0 [(28, 5000), (6, 0), (6, 0)] [] (rdM m p (-1) (6 - r))
  by_cases c1 : mtx m (sk (mtx m) (m 5000 9) p) = 33
  · have hlt : sk (mtx m) (m 5000 9) p < m 5000 9 := by
      by_cases h9 : sk (mtx m) (m 5000 9) p < m 5000 9
      · exact h9
      · have := mtx_n ht _ (Int.not_lt.mp h9); omega
    cases r with
    | zero =>
      have hG : gU (mtx m) (m 5000 9) 0 p = .inl (sk (mtx m) (m 5000 9) p) := by unfold gU; rw [if_pos (Or.inl c1)]
      rw [hG] at hq1
      generalize hq : sk (mtx m) (m 5000 9) p = q at *
      have h0 := hq1 q 0 q (6 - (0 : Nat)) rfl (Or.inl rfl) (by omega) (by omega)
      simp only [↓reduceIte, inR_0, inR_1, inR_m, vSw2_e, swP_n, swP_c, vI_e, vL_e, vNull_e, vIload_e, vLload_e, vAload_e, vIstore_e, vLstore_e, vAstore_e, vIinc_e, vIadd_e, vIsub_e, vImul_e, vIand_e, vIor_e, vIxor_e, vIshl_e, vIshr_e, vIushr_e, vIdiv_e, vIrem_e, vLadd_e, vLsub_e, vLmul_e, vLand_e, vLor_e, vLxor_e, vLdiv_e, vLrem_e, vLushr_e, vLshl_e, vLcmp_e, vIneg_e, vI2l_e, vL2i_e, vI2b_e, vI2c_e, vDup_e, vPop_e, vDup2_e, vGoto_e, vIcEq_e, vIfEq_e, vIcNe_e, vIfNe_e, vIcLt_e, vIfLt_e, vIcGe_e, vIfGe_e, vIcGt_e, vIfGt_e, vIcLe_e, vIfLe_e, vNonnull_e, vSw_e, vGetI_e, vGetL_e, vGetR_e, vPutI_e, vPutZ_e, vPutL_e, vPutR_e, vIald_e, vIald_s, vLald_e, vBald_e, vBald_s, vAald_e, vIast_e, vLast_e, vBast_e, vAast_e, vAlen_e8, vAlen_e9, vAlen_e10, vAlen_e11, vAlen_e5, vAlen_e3, vGets_e, vCompact_e, vLdcS_e, vIret_e, vZret_e, vCret_e, vBret_e, vLret_e, vVret_e, vAret_e, vCallM_e0, vCallMV_e0, vCallS_e0, vCallSV_e0, vCallM_e1, vCallMV_e1, vCallS_e1, vCallSV_e1, vCallM_e2, vCallMV_e2, vCallS_e2, vCallSV_e2, vCallM_e3, vCallMV_e3, vCallS_e3, vCallSV_e3, vCallM_e4, vCallMV_e4, vCallS_e4, vCallSV_e4, vCallM_e5, vCallMV_e5, vCallS_e5, vCallSV_e5, vCallM_e6, vCallMV_e6, vCallS_e6, vCallSV_e6, vCallM_e7, vCallMV_e7, vCallS_e7, vCallSV_e7, vBad_e, vStrVal_e, vStrCod_e, vForm_e, vCallT_e0, vCallT_e1, vCallT_e2, vCopy_e, rf_0_0, rf_0_1, rf_0_2, rf_0_3, rf_0_4, rf_0_7, rf_0_10, rf_0_11, rf_0_12, rf_0_13, rf_0_14, rf_0_15, rf_0_16, rf_1_0, rf_3_0, rf_3_1, rf_6_0, rf_6_1, rf_9_0, rf_9_1, rf_9_3, rf_13_0, rf_13_1, rf_13_2, rf_16_0, rf_16_1, rf_16_2, rf_16_3, rf_21_0, rf_21_1, rf_21_2, rf_21_3, rf_26_0, rf_26_1, rf_26_2, rf_26_3, rf_26_4, rf_26_5, rf_26_6, rf_31_0, rf_31_2, rf_31_5, rf_31_6, rf_36_0, rf_36_1, rf_36_2, rf_36_3, rf_39_0, rf_39_1, rf_39_2, rf_41_0, rf_41_1, rf_41_2, rf_41_3, rf_5000_1, rf_5000_2, rf_5000_3, rf_5000_4, rf_5000_5, rf_5000_15, rf_5000_16, rf_5000_18, rf_5000_19, rf_5000_20, rf_5000_21, rf_5000_22, rf_5000_23, rf_5000_24, rf_5000_25, rf_5000_26, rf_5000_27, rf_5000_36, rf_5000_37, rf_5000_40, rf_5000_41, rf_5000_42, rf_5000_43, rf_5000_44, rf_5000_45, rf_5000_47, rf_5000_52, rf_5000_54, rf_5000_55, rf_100_0, rf_100_1, rf_103_0, rf_103_1, rf_106_0, rf_106_1, rf_109_0, rf_109_1, al_2, al_4, al_5, al_7, al_8, al_10, al_11, al_12, al_14, al_15, al_17, al_18, al_19, al_20, al_22, al_23, al_24, al_25, al_27, al_28, al_29, al_30, al_32, al_33, al_34, al_35, al_37, al_38, al_40, al_42, al_5001, al_5002, al_5003, al_5004, al_5005, al_5006, al_5007, al_5008, al_5009, al_5010, al_5011, al_5012, al_5013, al_5014, al_5015, al_5016, al_5017, al_5018, al_5019, al_5020, al_5021, al_5022, al_5023, al_5024, al_5025, al_5026, al_9000, al_101, al_102, al_104, al_105, al_107, al_108, al_110, al_111, vcs_e, lg_c0, lg_cs, lg_nil, set_c0, set_cs, okst_0, okst_s, acok_n, acok_c, List.contains_nil, List.contains_cons, Bool.or_false, Bool.false_or, Bool.false_eq_true, if_false, if_true, ite_self, ne_eq, true_and, and_true, not_false_eq_true, not_true_eq_false, false_imp_iff, true_imp_iff, Nat.ble_eq, Bool.and_eq_true, reduceCtorEq, or_false, false_or, or_true, true_or, false_and, and_false, and_self, Int.reduceLE, Int.reduceAdd, Int.reduceSub, Int.reduceMul, Int.reduceNeg, Int.reduceLT, Int.reduceEq, Int.reduceNe, Nat.reduceBEq, Nat.reduceBNe, Nat.reduceEqDiff, amCmp_in, amCmp_lt, amCmp_le, amCmp_gt, amCmp_ge, amCmp_eq, amCmp_ne, Nat.reduceLeDiff, Nat.reduceSub, Bool.and_true, Bool.true_and, Bool.and_self, Bool.or_true, Bool.true_or, isRf_3, isRf_4, isRf_5, isRf_8, isRf_9, isRf_10, isRf_11, isRf_15, isRf_16, isRf_17, isRf_18, isRf_19, isRf_20, isRf_21, isRf_22, isRf_23, isRf_24, isRf_25, isRf_26, isRf_27, isRf_28, k_X12_unit_0, k_X12_unit_1, k_X12_unit_4, k_X12_unit_5, k_X12_unit_6, k_X12_unit_8, k_X12_unit_11, k_X12_unit_12, k_X12_unit_15, k_X12_unit_18, k_X12_unit_19, k_X12_unit_20, k_X12_unit_21, k_X12_unit_24, k_X12_unit_25, k_X12_unit_26, k_X12_unit_27, k_X12_unit_30, k_X12_unit_31, k_X12_unit_32, k_X12_unit_35, k_X12_unit_36, k_X12_unit_39, k_X12_unit_40, k_X12_unit_43, k_X12_unit_44, k_X12_unit_45, k_X12_unit_46, k_X12_unit_48, k_X12_unit_51, k_X12_unit_52, k_X12_unit_55, k_X12_unit_58, k_X12_unit_59, k_X12_unit_60, k_X12_unit_61, k_X12_unit_62, k_X12_unit_63, k_X12_unit_66, k_X12_unit_67, k_X12_unit_68, k_X12_unit_70, k_X12_unit_73, k_X12_unit_76, k_X12_unit_77, k_X12_unit_78, k_X12_unit_79, k_X12_unit_80, k_X12_unit_83, k_X12_unit_84, k_X12_unit_85, k_X12_unit_88, k_X12_unit_89, k_X12_unit_90, k_X12_unit_91, k_X12_unit_92, k_X12_unit_93, k_X12_unit_96, w_X12_compares_e, w_X12_goesIn_e, w_X12_look_e, w_X12_takes_e, w_X12_unit_e, mt, mk, rd_9, rd_10, rd_11, rd_12, rd_u10, rd_u11, rd_u12, rd_rd, mL_rd, fa_n, hq, c1, wU_0, wC_0]
      repeat' (first | assumption | exact tO _ _ _ | exact hrd _ (by omega) (by omega) | exact hrd' | apply And.intro | intro _)
      all_goals first | omega | exact absurd trivial (by assumption) | exact h0 | exact tO _ _ _
    | succ r =>
      have hG : gU (mtx m) (m 5000 9) (r + 1) p = gBang (gU (mtx m) (m 5000 9) r (sk (mtx m) (m 5000 9) p + 1)) := by rw [gU]; rw [if_pos c1]
      rw [hG] at hq1 hq2
      generalize hq : sk (mtx m) (m 5000 9) p = q at *
      have hgo := gU_ok (mtx_n ht) r (q + 1) (by omega) (by omega)
      have hrd' : rdOk (rdM m (q + 1) (-1) (6 - ((r + 1 : Nat) : Int) + 1)) r := rdOk_rd ht hL (by omega) (by omega) (by omega) (by omega)
      have F1 : ∀ f v p' d, gU (mtx m) (m 5000 9) r (q + 1) = .inl f → (v = 0 ∨ v = 1) → 6 - (r : Int) ≤ d → d ≤ 6 → Q (0, v) (rdM m p' f (d - 1)) := fun f v p' d e hv d0 d1 => hq1 f v p' (d - 1) (by rw [e]; rfl) hv (by omega) (by omega)
      have F2 : ∀ y v d, gU (mtx m) (m 5000 9) r (q + 1) = .inr y → v = 1 - val (mL m) y.2 → d = 6 - ((r + 1 : Nat) : Int) → Q (0, v) (rdM m y.1 (-1) d) := fun y v d e hv hd => by
        have := hq2 (y.1, y.2 ++ [20033]) (by rw [e]; rfl)
        rw [hv, hd, ← (gd_no (gU_val hL r _ _ e)).2]; exact this
      have gv : ∀ y, gU (mtx m) (m 5000 9) r (q + 1) = .inr y → val (mL m) y.2 = 0 ∨ val (mL m) y.2 = 1 := fun y e => (gU_val hL r _ _ e).2
      simp only [↓reduceIte, inR_0, inR_1, inR_m, vSw2_e, swP_n, swP_c, vI_e, vL_e, vNull_e, vIload_e, vLload_e, vAload_e, vIstore_e, vLstore_e, vAstore_e, vIinc_e, vIadd_e, vIsub_e, vImul_e, vIand_e, vIor_e, vIxor_e, vIshl_e, vIshr_e, vIushr_e, vIdiv_e, vIrem_e, vLadd_e, vLsub_e, vLmul_e, vLand_e, vLor_e, vLxor_e, vLdiv_e, vLrem_e, vLushr_e, vLshl_e, vLcmp_e, vIneg_e, vI2l_e, vL2i_e, vI2b_e, vI2c_e, vDup_e, vPop_e, vDup2_e, vGoto_e, vIcEq_e, vIfEq_e, vIcNe_e, vIfNe_e, vIcLt_e, vIfLt_e, vIcGe_e, vIfGe_e, vIcGt_e, vIfGt_e, vIcLe_e, vIfLe_e, vNonnull_e, vSw_e, vGetI_e, vGetL_e, vGetR_e, vPutI_e, vPutZ_e, vPutL_e, vPutR_e, vIald_e, vIald_s, vLald_e, vBald_e, vBald_s, vAald_e, vIast_e, vLast_e, vBast_e, vAast_e, vAlen_e8, vAlen_e9, vAlen_e10, vAlen_e11, vAlen_e5, vAlen_e3, vGets_e, vCompact_e, vLdcS_e, vIret_e, vZret_e, vCret_e, vBret_e, vLret_e, vVret_e, vAret_e, vCallM_e0, vCallMV_e0, vCallS_e0, vCallSV_e0, vCallM_e1, vCallMV_e1, vCallS_e1, vCallSV_e1, vCallM_e2, vCallMV_e2, vCallS_e2, vCallSV_e2, vCallM_e3, vCallMV_e3, vCallS_e3, vCallSV_e3, vCallM_e4, vCallMV_e4, vCallS_e4, vCallSV_e4, vCallM_e5, vCallMV_e5, vCallS_e5, vCallSV_e5, vCallM_e6, vCallMV_e6, vCallS_e6, vCallSV_e6, vCallM_e7, vCallMV_e7, vCallS_e7, vCallSV_e7, vBad_e, vStrVal_e, vStrCod_e, vForm_e, vCallT_e0, vCallT_e1, vCallT_e2, vCopy_e, rf_0_0, rf_0_1, rf_0_2, rf_0_3, rf_0_4, rf_0_7, rf_0_10, rf_0_11, rf_0_12, rf_0_13, rf_0_14, rf_0_15, rf_0_16, rf_1_0, rf_3_0, rf_3_1, rf_6_0, rf_6_1, rf_9_0, rf_9_1, rf_9_3, rf_13_0, rf_13_1, rf_13_2, rf_16_0, rf_16_1, rf_16_2, rf_16_3, rf_21_0, rf_21_1, rf_21_2, rf_21_3, rf_26_0, rf_26_1, rf_26_2, rf_26_3, rf_26_4, rf_26_5, rf_26_6, rf_31_0, rf_31_2, rf_31_5, rf_31_6, rf_36_0, rf_36_1, rf_36_2, rf_36_3, rf_39_0, rf_39_1, rf_39_2, rf_41_0, rf_41_1, rf_41_2, rf_41_3, rf_5000_1, rf_5000_2, rf_5000_3, rf_5000_4, rf_5000_5, rf_5000_15, rf_5000_16, rf_5000_18, rf_5000_19, rf_5000_20, rf_5000_21, rf_5000_22, rf_5000_23, rf_5000_24, rf_5000_25, rf_5000_26, rf_5000_27, rf_5000_36, rf_5000_37, rf_5000_40, rf_5000_41, rf_5000_42, rf_5000_43, rf_5000_44, rf_5000_45, rf_5000_47, rf_5000_52, rf_5000_54, rf_5000_55, rf_100_0, rf_100_1, rf_103_0, rf_103_1, rf_106_0, rf_106_1, rf_109_0, rf_109_1, al_2, al_4, al_5, al_7, al_8, al_10, al_11, al_12, al_14, al_15, al_17, al_18, al_19, al_20, al_22, al_23, al_24, al_25, al_27, al_28, al_29, al_30, al_32, al_33, al_34, al_35, al_37, al_38, al_40, al_42, al_5001, al_5002, al_5003, al_5004, al_5005, al_5006, al_5007, al_5008, al_5009, al_5010, al_5011, al_5012, al_5013, al_5014, al_5015, al_5016, al_5017, al_5018, al_5019, al_5020, al_5021, al_5022, al_5023, al_5024, al_5025, al_5026, al_9000, al_101, al_102, al_104, al_105, al_107, al_108, al_110, al_111, vcs_e, lg_c0, lg_cs, lg_nil, set_c0, set_cs, okst_0, okst_s, acok_n, acok_c, List.contains_nil, List.contains_cons, Bool.or_false, Bool.false_or, Bool.false_eq_true, if_false, if_true, ite_self, ne_eq, true_and, and_true, not_false_eq_true, not_true_eq_false, false_imp_iff, true_imp_iff, Nat.ble_eq, Bool.and_eq_true, reduceCtorEq, or_false, false_or, or_true, true_or, false_and, and_false, and_self, Int.reduceLE, Int.reduceAdd, Int.reduceSub, Int.reduceMul, Int.reduceNeg, Int.reduceLT, Int.reduceEq, Int.reduceNe, Nat.reduceBEq, Nat.reduceBNe, Nat.reduceEqDiff, amCmp_in, amCmp_lt, amCmp_le, amCmp_gt, amCmp_ge, amCmp_eq, amCmp_ne, Nat.reduceLeDiff, Nat.reduceSub, Bool.and_true, Bool.true_and, Bool.and_self, Bool.or_true, Bool.true_or, isRf_3, isRf_4, isRf_5, isRf_8, isRf_9, isRf_10, isRf_11, isRf_15, isRf_16, isRf_17, isRf_18, isRf_19, isRf_20, isRf_21, isRf_22, isRf_23, isRf_24, isRf_25, isRf_26, isRf_27, isRf_28, k_X12_unit_0, k_X12_unit_1, k_X12_unit_4, k_X12_unit_5, k_X12_unit_6, k_X12_unit_8, k_X12_unit_11, k_X12_unit_12, k_X12_unit_15, k_X12_unit_18, k_X12_unit_19, k_X12_unit_20, k_X12_unit_21, k_X12_unit_24, k_X12_unit_25, k_X12_unit_26, k_X12_unit_27, k_X12_unit_30, k_X12_unit_31, k_X12_unit_32, k_X12_unit_35, k_X12_unit_36, k_X12_unit_39, k_X12_unit_40, k_X12_unit_43, k_X12_unit_44, k_X12_unit_45, k_X12_unit_46, k_X12_unit_48, k_X12_unit_51, k_X12_unit_52, k_X12_unit_55, k_X12_unit_58, k_X12_unit_59, k_X12_unit_60, k_X12_unit_61, k_X12_unit_62, k_X12_unit_63, k_X12_unit_66, k_X12_unit_67, k_X12_unit_68, k_X12_unit_70, k_X12_unit_73, k_X12_unit_76, k_X12_unit_77, k_X12_unit_78, k_X12_unit_79, k_X12_unit_80, k_X12_unit_83, k_X12_unit_84, k_X12_unit_85, k_X12_unit_88, k_X12_unit_89, k_X12_unit_90, k_X12_unit_91, k_X12_unit_92, k_X12_unit_93, k_X12_unit_96, w_X12_compares_e, w_X12_goesIn_e, w_X12_look_e, w_X12_takes_e, w_X12_unit_e, mt, mk, rd_9, rd_10, rd_11, rd_12, rd_u10, rd_u11, rd_u12, rd_rd, mL_rd, fa_n, hq, c1, wU_s, wC_s]
      repeat' (first | assumption | exact tO _ _ _ | exact hrd _ (by omega) (by omega) | exact hrd' | apply And.intro | intro _)
      all_goals first | omega | exact absurd trivial (by assumption) | exact tO _ _ _ | exact hrd' | exact F1 _ _ _ _ (by assumption) (by decide) (by omega) (by omega) | (have h9 := gv _ (by assumption); first | omega | exact F2 _ _ _ (by assumption) (by omega) (by omega))
  · by_cases c2 : mtx m (sk (mtx m) (m 5000 9) p) = 40
    · have hlt : sk (mtx m) (m 5000 9) p < m 5000 9 := by
        by_cases h9 : sk (mtx m) (m 5000 9) p < m 5000 9
        · exact h9
        · have := mtx_n ht _ (Int.not_lt.mp h9); omega
      cases r with
      | zero =>
        have hG : gU (mtx m) (m 5000 9) 0 p = .inl (sk (mtx m) (m 5000 9) p) := by unfold gU; rw [if_pos (Or.inr c2)]
        rw [hG] at hq1
        generalize hq : sk (mtx m) (m 5000 9) p = q at *
        have h0 := hq1 q 0 q (6 - (0 : Nat)) rfl (Or.inl rfl) (by omega) (by omega)
        simp only [↓reduceIte, inR_0, inR_1, inR_m, vSw2_e, swP_n, swP_c, vI_e, vL_e, vNull_e, vIload_e, vLload_e, vAload_e, vIstore_e, vLstore_e, vAstore_e, vIinc_e, vIadd_e, vIsub_e, vImul_e, vIand_e, vIor_e, vIxor_e, vIshl_e, vIshr_e, vIushr_e, vIdiv_e, vIrem_e, vLadd_e, vLsub_e, vLmul_e, vLand_e, vLor_e, vLxor_e, vLdiv_e, vLrem_e, vLushr_e, vLshl_e, vLcmp_e, vIneg_e, vI2l_e, vL2i_e, vI2b_e, vI2c_e, vDup_e, vPop_e, vDup2_e, vGoto_e, vIcEq_e, vIfEq_e, vIcNe_e, vIfNe_e, vIcLt_e, vIfLt_e, vIcGe_e, vIfGe_e, vIcGt_e, vIfGt_e, vIcLe_e, vIfLe_e, vNonnull_e, vSw_e, vGetI_e, vGetL_e, vGetR_e, vPutI_e, vPutZ_e, vPutL_e, vPutR_e, vIald_e, vIald_s, vLald_e, vBald_e, vBald_s, vAald_e, vIast_e, vLast_e, vBast_e, vAast_e, vAlen_e8, vAlen_e9, vAlen_e10, vAlen_e11, vAlen_e5, vAlen_e3, vGets_e, vCompact_e, vLdcS_e, vIret_e, vZret_e, vCret_e, vBret_e, vLret_e, vVret_e, vAret_e, vCallM_e0, vCallMV_e0, vCallS_e0, vCallSV_e0, vCallM_e1, vCallMV_e1, vCallS_e1, vCallSV_e1, vCallM_e2, vCallMV_e2, vCallS_e2, vCallSV_e2, vCallM_e3, vCallMV_e3, vCallS_e3, vCallSV_e3, vCallM_e4, vCallMV_e4, vCallS_e4, vCallSV_e4, vCallM_e5, vCallMV_e5, vCallS_e5, vCallSV_e5, vCallM_e6, vCallMV_e6, vCallS_e6, vCallSV_e6, vCallM_e7, vCallMV_e7, vCallS_e7, vCallSV_e7, vBad_e, vStrVal_e, vStrCod_e, vForm_e, vCallT_e0, vCallT_e1, vCallT_e2, vCopy_e, rf_0_0, rf_0_1, rf_0_2, rf_0_3, rf_0_4, rf_0_7, rf_0_10, rf_0_11, rf_0_12, rf_0_13, rf_0_14, rf_0_15, rf_0_16, rf_1_0, rf_3_0, rf_3_1, rf_6_0, rf_6_1, rf_9_0, rf_9_1, rf_9_3, rf_13_0, rf_13_1, rf_13_2, rf_16_0, rf_16_1, rf_16_2, rf_16_3, rf_21_0, rf_21_1, rf_21_2, rf_21_3, rf_26_0, rf_26_1, rf_26_2, rf_26_3, rf_26_4, rf_26_5, rf_26_6, rf_31_0, rf_31_2, rf_31_5, rf_31_6, rf_36_0, rf_36_1, rf_36_2, rf_36_3, rf_39_0, rf_39_1, rf_39_2, rf_41_0, rf_41_1, rf_41_2, rf_41_3, rf_5000_1, rf_5000_2, rf_5000_3, rf_5000_4, rf_5000_5, rf_5000_15, rf_5000_16, rf_5000_18, rf_5000_19, rf_5000_20, rf_5000_21, rf_5000_22, rf_5000_23, rf_5000_24, rf_5000_25, rf_5000_26, rf_5000_27, rf_5000_36, rf_5000_37, rf_5000_40, rf_5000_41, rf_5000_42, rf_5000_43, rf_5000_44, rf_5000_45, rf_5000_47, rf_5000_52, rf_5000_54, rf_5000_55, rf_100_0, rf_100_1, rf_103_0, rf_103_1, rf_106_0, rf_106_1, rf_109_0, rf_109_1, al_2, al_4, al_5, al_7, al_8, al_10, al_11, al_12, al_14, al_15, al_17, al_18, al_19, al_20, al_22, al_23, al_24, al_25, al_27, al_28, al_29, al_30, al_32, al_33, al_34, al_35, al_37, al_38, al_40, al_42, al_5001, al_5002, al_5003, al_5004, al_5005, al_5006, al_5007, al_5008, al_5009, al_5010, al_5011, al_5012, al_5013, al_5014, al_5015, al_5016, al_5017, al_5018, al_5019, al_5020, al_5021, al_5022, al_5023, al_5024, al_5025, al_5026, al_9000, al_101, al_102, al_104, al_105, al_107, al_108, al_110, al_111, vcs_e, lg_c0, lg_cs, lg_nil, set_c0, set_cs, okst_0, okst_s, acok_n, acok_c, List.contains_nil, List.contains_cons, Bool.or_false, Bool.false_or, Bool.false_eq_true, if_false, if_true, ite_self, ne_eq, true_and, and_true, not_false_eq_true, not_true_eq_false, false_imp_iff, true_imp_iff, Nat.ble_eq, Bool.and_eq_true, reduceCtorEq, or_false, false_or, or_true, true_or, false_and, and_false, and_self, Int.reduceLE, Int.reduceAdd, Int.reduceSub, Int.reduceMul, Int.reduceNeg, Int.reduceLT, Int.reduceEq, Int.reduceNe, Nat.reduceBEq, Nat.reduceBNe, Nat.reduceEqDiff, amCmp_in, amCmp_lt, amCmp_le, amCmp_gt, amCmp_ge, amCmp_eq, amCmp_ne, Nat.reduceLeDiff, Nat.reduceSub, Bool.and_true, Bool.true_and, Bool.and_self, Bool.or_true, Bool.true_or, isRf_3, isRf_4, isRf_5, isRf_8, isRf_9, isRf_10, isRf_11, isRf_15, isRf_16, isRf_17, isRf_18, isRf_19, isRf_20, isRf_21, isRf_22, isRf_23, isRf_24, isRf_25, isRf_26, isRf_27, isRf_28, k_X12_unit_0, k_X12_unit_1, k_X12_unit_4, k_X12_unit_5, k_X12_unit_6, k_X12_unit_8, k_X12_unit_11, k_X12_unit_12, k_X12_unit_15, k_X12_unit_18, k_X12_unit_19, k_X12_unit_20, k_X12_unit_21, k_X12_unit_24, k_X12_unit_25, k_X12_unit_26, k_X12_unit_27, k_X12_unit_30, k_X12_unit_31, k_X12_unit_32, k_X12_unit_35, k_X12_unit_36, k_X12_unit_39, k_X12_unit_40, k_X12_unit_43, k_X12_unit_44, k_X12_unit_45, k_X12_unit_46, k_X12_unit_48, k_X12_unit_51, k_X12_unit_52, k_X12_unit_55, k_X12_unit_58, k_X12_unit_59, k_X12_unit_60, k_X12_unit_61, k_X12_unit_62, k_X12_unit_63, k_X12_unit_66, k_X12_unit_67, k_X12_unit_68, k_X12_unit_70, k_X12_unit_73, k_X12_unit_76, k_X12_unit_77, k_X12_unit_78, k_X12_unit_79, k_X12_unit_80, k_X12_unit_83, k_X12_unit_84, k_X12_unit_85, k_X12_unit_88, k_X12_unit_89, k_X12_unit_90, k_X12_unit_91, k_X12_unit_92, k_X12_unit_93, k_X12_unit_96, w_X12_compares_e, w_X12_goesIn_e, w_X12_look_e, w_X12_takes_e, w_X12_unit_e, mt, mk, rd_9, rd_10, rd_11, rd_12, rd_u10, rd_u11, rd_u12, rd_rd, mL_rd, fa_n, hq, c2, wU_0, wC_0]
        repeat' (first | assumption | exact tO _ _ _ | exact hrd _ (by omega) (by omega) | exact hrd' | apply And.intro | intro _)
        all_goals first | omega | exact absurd trivial (by assumption) | exact h0 | exact tO _ _ _
      | succ r =>
        have hG : gU (mtx m) (m 5000 9) (r + 1) p = gRnd (mtx m) (m 5000 9) (gCnd (mtx m) (m 5000 9) (gU (mtx m) (m 5000 9) r) (gU (mtx m) (m 5000 9) r (sk (mtx m) (m 5000 9) p + 1))) := by rw [gU]; rw [if_neg c1, if_pos c2]
        rw [hG] at hq1 hq2
        generalize hq : sk (mtx m) (m 5000 9) p = q at *
        have hgo := gCnd_ok (mtx_n ht) (gU_ok (mtx_n ht) r) (show 0 ≤ q + 1 by omega) (gU_ok (mtx_n ht) r (q + 1) (by omega) (by omega))
        have hrd' : rdOk (rdM m (q + 1) (-1) (6 - ((r + 1 : Nat) : Int) + 1)) r := rdOk_rd ht hL (by omega) (by omega) (by omega) (by omega)
        have gv : ∀ y, gCnd (mtx m) (m 5000 9) (gU (mtx m) (m 5000 9) r) (gU (mtx m) (m 5000 9) r (q + 1)) = .inr y → val (mL m) y.2 = 0 ∨ val (mL m) y.2 = 1 := fun y e => (gCnd_val (gU_val hL r) (fun z hz => gU_val hL r _ z hz) y e).2
        generalize hZ : gCnd (mtx m) (m 5000 9) (gU (mtx m) (m 5000 9) r) (gU (mtx m) (m 5000 9) r (q + 1)) = Z at *
        have F1 : ∀ f p' d, Z = .inl f → 6 - (r : Int) ≤ d → d ≤ 6 → Q (0, 0) (rdM m p' f d) := fun f p' d e d0 d1 => hq1 f 0 p' d (by rw [e]; rfl) (Or.inl rfl) (by omega) (by omega)
        have fne : ∀ f, Z = .inl f → 0 ≤ f ∧ f ≤ m 5000 9 := fun f e => by rw [e, gok_l] at hgo; omega
        have gs : ∀ y, Z = .inr y → (0 ≤ y.1 ∧ y.1 ≤ m 5000 9) ∧ 0 ≤ sk (mtx m) (m 5000 9) y.1 ∧ sk (mtx m) (m 5000 9) y.1 ≤ m 5000 9 := fun y e => by
          rw [e, gok_r] at hgo
          have := sk_b (mtx m) hgo.2.1
          omega
        have F2 : ∀ y d, Z = .inr y → ¬ mtx m (sk (mtx m) (m 5000 9) y.1) = 41 → 6 - (r : Int) ≤ d → d ≤ 6 → Q (0, 0) (rdM m (sk (mtx m) (m 5000 9) y.1) (sk (mtx m) (m 5000 9) y.1) d) := fun y d e e2 d0 d1 => hq1 _ 0 _ d (by rw [e]; unfold gRnd; exact if_neg e2) (Or.inl rfl) (by omega) d1
        have F3 : ∀ y d, Z = .inr y → mtx m (sk (mtx m) (m 5000 9) y.1) = 41 → d = 6 - ((r + 1 : Nat) : Int) → Q (0, val (mL m) y.2) (rdM m (sk (mtx m) (m 5000 9) y.1 + 1) (-1) d) := fun y d e e2 hd => by
          rw [hd]
          exact hq2 (sk (mtx m) (m 5000 9) y.1 + 1, y.2) (by rw [e]; unfold gRnd; exact if_pos e2)
        simp only [↓reduceIte, inR_0, inR_1, inR_m, vSw2_e, swP_n, swP_c, vI_e, vL_e, vNull_e, vIload_e, vLload_e, vAload_e, vIstore_e, vLstore_e, vAstore_e, vIinc_e, vIadd_e, vIsub_e, vImul_e, vIand_e, vIor_e, vIxor_e, vIshl_e, vIshr_e, vIushr_e, vIdiv_e, vIrem_e, vLadd_e, vLsub_e, vLmul_e, vLand_e, vLor_e, vLxor_e, vLdiv_e, vLrem_e, vLushr_e, vLshl_e, vLcmp_e, vIneg_e, vI2l_e, vL2i_e, vI2b_e, vI2c_e, vDup_e, vPop_e, vDup2_e, vGoto_e, vIcEq_e, vIfEq_e, vIcNe_e, vIfNe_e, vIcLt_e, vIfLt_e, vIcGe_e, vIfGe_e, vIcGt_e, vIfGt_e, vIcLe_e, vIfLe_e, vNonnull_e, vSw_e, vGetI_e, vGetL_e, vGetR_e, vPutI_e, vPutZ_e, vPutL_e, vPutR_e, vIald_e, vIald_s, vLald_e, vBald_e, vBald_s, vAald_e, vIast_e, vLast_e, vBast_e, vAast_e, vAlen_e8, vAlen_e9, vAlen_e10, vAlen_e11, vAlen_e5, vAlen_e3, vGets_e, vCompact_e, vLdcS_e, vIret_e, vZret_e, vCret_e, vBret_e, vLret_e, vVret_e, vAret_e, vCallM_e0, vCallMV_e0, vCallS_e0, vCallSV_e0, vCallM_e1, vCallMV_e1, vCallS_e1, vCallSV_e1, vCallM_e2, vCallMV_e2, vCallS_e2, vCallSV_e2, vCallM_e3, vCallMV_e3, vCallS_e3, vCallSV_e3, vCallM_e4, vCallMV_e4, vCallS_e4, vCallSV_e4, vCallM_e5, vCallMV_e5, vCallS_e5, vCallSV_e5, vCallM_e6, vCallMV_e6, vCallS_e6, vCallSV_e6, vCallM_e7, vCallMV_e7, vCallS_e7, vCallSV_e7, vBad_e, vStrVal_e, vStrCod_e, vForm_e, vCallT_e0, vCallT_e1, vCallT_e2, vCopy_e, rf_0_0, rf_0_1, rf_0_2, rf_0_3, rf_0_4, rf_0_7, rf_0_10, rf_0_11, rf_0_12, rf_0_13, rf_0_14, rf_0_15, rf_0_16, rf_1_0, rf_3_0, rf_3_1, rf_6_0, rf_6_1, rf_9_0, rf_9_1, rf_9_3, rf_13_0, rf_13_1, rf_13_2, rf_16_0, rf_16_1, rf_16_2, rf_16_3, rf_21_0, rf_21_1, rf_21_2, rf_21_3, rf_26_0, rf_26_1, rf_26_2, rf_26_3, rf_26_4, rf_26_5, rf_26_6, rf_31_0, rf_31_2, rf_31_5, rf_31_6, rf_36_0, rf_36_1, rf_36_2, rf_36_3, rf_39_0, rf_39_1, rf_39_2, rf_41_0, rf_41_1, rf_41_2, rf_41_3, rf_5000_1, rf_5000_2, rf_5000_3, rf_5000_4, rf_5000_5, rf_5000_15, rf_5000_16, rf_5000_18, rf_5000_19, rf_5000_20, rf_5000_21, rf_5000_22, rf_5000_23, rf_5000_24, rf_5000_25, rf_5000_26, rf_5000_27, rf_5000_36, rf_5000_37, rf_5000_40, rf_5000_41, rf_5000_42, rf_5000_43, rf_5000_44, rf_5000_45, rf_5000_47, rf_5000_52, rf_5000_54, rf_5000_55, rf_100_0, rf_100_1, rf_103_0, rf_103_1, rf_106_0, rf_106_1, rf_109_0, rf_109_1, al_2, al_4, al_5, al_7, al_8, al_10, al_11, al_12, al_14, al_15, al_17, al_18, al_19, al_20, al_22, al_23, al_24, al_25, al_27, al_28, al_29, al_30, al_32, al_33, al_34, al_35, al_37, al_38, al_40, al_42, al_5001, al_5002, al_5003, al_5004, al_5005, al_5006, al_5007, al_5008, al_5009, al_5010, al_5011, al_5012, al_5013, al_5014, al_5015, al_5016, al_5017, al_5018, al_5019, al_5020, al_5021, al_5022, al_5023, al_5024, al_5025, al_5026, al_9000, al_101, al_102, al_104, al_105, al_107, al_108, al_110, al_111, vcs_e, lg_c0, lg_cs, lg_nil, set_c0, set_cs, okst_0, okst_s, acok_n, acok_c, List.contains_nil, List.contains_cons, Bool.or_false, Bool.false_or, Bool.false_eq_true, if_false, if_true, ite_self, ne_eq, true_and, and_true, not_false_eq_true, not_true_eq_false, false_imp_iff, true_imp_iff, Nat.ble_eq, Bool.and_eq_true, reduceCtorEq, or_false, false_or, or_true, true_or, false_and, and_false, and_self, Int.reduceLE, Int.reduceAdd, Int.reduceSub, Int.reduceMul, Int.reduceNeg, Int.reduceLT, Int.reduceEq, Int.reduceNe, Nat.reduceBEq, Nat.reduceBNe, Nat.reduceEqDiff, amCmp_in, amCmp_lt, amCmp_le, amCmp_gt, amCmp_ge, amCmp_eq, amCmp_ne, Nat.reduceLeDiff, Nat.reduceSub, Bool.and_true, Bool.true_and, Bool.and_self, Bool.or_true, Bool.true_or, isRf_3, isRf_4, isRf_5, isRf_8, isRf_9, isRf_10, isRf_11, isRf_15, isRf_16, isRf_17, isRf_18, isRf_19, isRf_20, isRf_21, isRf_22, isRf_23, isRf_24, isRf_25, isRf_26, isRf_27, isRf_28, k_X12_unit_0, k_X12_unit_1, k_X12_unit_4, k_X12_unit_5, k_X12_unit_6, k_X12_unit_8, k_X12_unit_11, k_X12_unit_12, k_X12_unit_15, k_X12_unit_18, k_X12_unit_19, k_X12_unit_20, k_X12_unit_21, k_X12_unit_24, k_X12_unit_25, k_X12_unit_26, k_X12_unit_27, k_X12_unit_30, k_X12_unit_31, k_X12_unit_32, k_X12_unit_35, k_X12_unit_36, k_X12_unit_39, k_X12_unit_40, k_X12_unit_43, k_X12_unit_44, k_X12_unit_45, k_X12_unit_46, k_X12_unit_48, k_X12_unit_51, k_X12_unit_52, k_X12_unit_55, k_X12_unit_58, k_X12_unit_59, k_X12_unit_60, k_X12_unit_61, k_X12_unit_62, k_X12_unit_63, k_X12_unit_66, k_X12_unit_67, k_X12_unit_68, k_X12_unit_70, k_X12_unit_73, k_X12_unit_76, k_X12_unit_77, k_X12_unit_78, k_X12_unit_79, k_X12_unit_80, k_X12_unit_83, k_X12_unit_84, k_X12_unit_85, k_X12_unit_88, k_X12_unit_89, k_X12_unit_90, k_X12_unit_91, k_X12_unit_92, k_X12_unit_93, k_X12_unit_96, w_X12_compares_e, w_X12_goesIn_e, w_X12_look_e, w_X12_takes_e, w_X12_unit_e, mt, mk, rd_9, rd_10, rd_11, rd_12, rd_u10, rd_u11, rd_u12, rd_rd, mL_rd, fa_n, hq, c2, wU_s, wC_s, hZ]
        repeat' (first | assumption | exact tO _ _ _ | exact hrd _ (by omega) (by omega) | exact hrd' | apply And.intro | intro _)
        all_goals first | omega | exact absurd trivial (by assumption) | exact tO _ _ _ | exact hrd' | exact F1 _ _ _ (by assumption) (by omega) (by omega) | exact F2 _ _ (by assumption) (by assumption) (by omega) (by omega) | exact F3 _ _ (by assumption) (by assumption) (by omega) | (have := fne _ (by assumption); omega) | (have := gs _ (by assumption); omega) | exact gv _ (by assumption)
    · have hG : gU (mtx m) (m 5000 9) r p = gCmp (mtx m) (m 5000 9) r (gS (mtx m) (m 5000 9) r p) := by
        cases r with
        | zero => unfold gU; rw [if_neg (by omega)]
        | succ r => rw [gU]; rw [if_neg c1, if_neg c2]
      rw [hG, ← gsk] at hq1 hq2
      have bv : ∀ y, gCmp (mtx m) (m 5000 9) r (gS (mtx m) (m 5000 9) r (sk (mtx m) (m 5000 9) p)) = .inr y → val (mL m) y.2 = 0 ∨ val (mL m) y.2 = 1 := fun y e => (gCmp_val hL r (fun z hz => gS_val hL r _ z hz) y e).2
      generalize hq : sk (mtx m) (m 5000 9) p = q at *
      simp only [↓reduceIte, inR_0, inR_1, inR_m, vSw2_e, swP_n, swP_c, vI_e, vL_e, vNull_e, vIload_e, vLload_e, vAload_e, vIstore_e, vLstore_e, vAstore_e, vIinc_e, vIadd_e, vIsub_e, vImul_e, vIand_e, vIor_e, vIxor_e, vIshl_e, vIshr_e, vIushr_e, vIdiv_e, vIrem_e, vLadd_e, vLsub_e, vLmul_e, vLand_e, vLor_e, vLxor_e, vLdiv_e, vLrem_e, vLushr_e, vLshl_e, vLcmp_e, vIneg_e, vI2l_e, vL2i_e, vI2b_e, vI2c_e, vDup_e, vPop_e, vDup2_e, vGoto_e, vIcEq_e, vIfEq_e, vIcNe_e, vIfNe_e, vIcLt_e, vIfLt_e, vIcGe_e, vIfGe_e, vIcGt_e, vIfGt_e, vIcLe_e, vIfLe_e, vNonnull_e, vSw_e, vGetI_e, vGetL_e, vGetR_e, vPutI_e, vPutZ_e, vPutL_e, vPutR_e, vIald_e, vIald_s, vLald_e, vBald_e, vBald_s, vAald_e, vIast_e, vLast_e, vBast_e, vAast_e, vAlen_e8, vAlen_e9, vAlen_e10, vAlen_e11, vAlen_e5, vAlen_e3, vGets_e, vCompact_e, vLdcS_e, vIret_e, vZret_e, vCret_e, vBret_e, vLret_e, vVret_e, vAret_e, vCallM_e0, vCallMV_e0, vCallS_e0, vCallSV_e0, vCallM_e1, vCallMV_e1, vCallS_e1, vCallSV_e1, vCallM_e2, vCallMV_e2, vCallS_e2, vCallSV_e2, vCallM_e3, vCallMV_e3, vCallS_e3, vCallSV_e3, vCallM_e4, vCallMV_e4, vCallS_e4, vCallSV_e4, vCallM_e5, vCallMV_e5, vCallS_e5, vCallSV_e5, vCallM_e6, vCallMV_e6, vCallS_e6, vCallSV_e6, vCallM_e7, vCallMV_e7, vCallS_e7, vCallSV_e7, vBad_e, vStrVal_e, vStrCod_e, vForm_e, vCallT_e0, vCallT_e1, vCallT_e2, vCopy_e, rf_0_0, rf_0_1, rf_0_2, rf_0_3, rf_0_4, rf_0_7, rf_0_10, rf_0_11, rf_0_12, rf_0_13, rf_0_14, rf_0_15, rf_0_16, rf_1_0, rf_3_0, rf_3_1, rf_6_0, rf_6_1, rf_9_0, rf_9_1, rf_9_3, rf_13_0, rf_13_1, rf_13_2, rf_16_0, rf_16_1, rf_16_2, rf_16_3, rf_21_0, rf_21_1, rf_21_2, rf_21_3, rf_26_0, rf_26_1, rf_26_2, rf_26_3, rf_26_4, rf_26_5, rf_26_6, rf_31_0, rf_31_2, rf_31_5, rf_31_6, rf_36_0, rf_36_1, rf_36_2, rf_36_3, rf_39_0, rf_39_1, rf_39_2, rf_41_0, rf_41_1, rf_41_2, rf_41_3, rf_5000_1, rf_5000_2, rf_5000_3, rf_5000_4, rf_5000_5, rf_5000_15, rf_5000_16, rf_5000_18, rf_5000_19, rf_5000_20, rf_5000_21, rf_5000_22, rf_5000_23, rf_5000_24, rf_5000_25, rf_5000_26, rf_5000_27, rf_5000_36, rf_5000_37, rf_5000_40, rf_5000_41, rf_5000_42, rf_5000_43, rf_5000_44, rf_5000_45, rf_5000_47, rf_5000_52, rf_5000_54, rf_5000_55, rf_100_0, rf_100_1, rf_103_0, rf_103_1, rf_106_0, rf_106_1, rf_109_0, rf_109_1, al_2, al_4, al_5, al_7, al_8, al_10, al_11, al_12, al_14, al_15, al_17, al_18, al_19, al_20, al_22, al_23, al_24, al_25, al_27, al_28, al_29, al_30, al_32, al_33, al_34, al_35, al_37, al_38, al_40, al_42, al_5001, al_5002, al_5003, al_5004, al_5005, al_5006, al_5007, al_5008, al_5009, al_5010, al_5011, al_5012, al_5013, al_5014, al_5015, al_5016, al_5017, al_5018, al_5019, al_5020, al_5021, al_5022, al_5023, al_5024, al_5025, al_5026, al_9000, al_101, al_102, al_104, al_105, al_107, al_108, al_110, al_111, vcs_e, lg_c0, lg_cs, lg_nil, set_c0, set_cs, okst_0, okst_s, acok_n, acok_c, List.contains_nil, List.contains_cons, Bool.or_false, Bool.false_or, Bool.false_eq_true, if_false, if_true, ite_self, ne_eq, true_and, and_true, not_false_eq_true, not_true_eq_false, false_imp_iff, true_imp_iff, Nat.ble_eq, Bool.and_eq_true, reduceCtorEq, or_false, false_or, or_true, true_or, false_and, and_false, and_self, Int.reduceLE, Int.reduceAdd, Int.reduceSub, Int.reduceMul, Int.reduceNeg, Int.reduceLT, Int.reduceEq, Int.reduceNe, Nat.reduceBEq, Nat.reduceBNe, Nat.reduceEqDiff, amCmp_in, amCmp_lt, amCmp_le, amCmp_gt, amCmp_ge, amCmp_eq, amCmp_ne, Nat.reduceLeDiff, Nat.reduceSub, Bool.and_true, Bool.true_and, Bool.and_self, Bool.or_true, Bool.true_or, isRf_3, isRf_4, isRf_5, isRf_8, isRf_9, isRf_10, isRf_11, isRf_15, isRf_16, isRf_17, isRf_18, isRf_19, isRf_20, isRf_21, isRf_22, isRf_23, isRf_24, isRf_25, isRf_26, isRf_27, isRf_28, k_X12_unit_0, k_X12_unit_1, k_X12_unit_4, k_X12_unit_5, k_X12_unit_6, k_X12_unit_8, k_X12_unit_11, k_X12_unit_12, k_X12_unit_15, k_X12_unit_18, k_X12_unit_19, k_X12_unit_20, k_X12_unit_21, k_X12_unit_24, k_X12_unit_25, k_X12_unit_26, k_X12_unit_27, k_X12_unit_30, k_X12_unit_31, k_X12_unit_32, k_X12_unit_35, k_X12_unit_36, k_X12_unit_39, k_X12_unit_40, k_X12_unit_43, k_X12_unit_44, k_X12_unit_45, k_X12_unit_46, k_X12_unit_48, k_X12_unit_51, k_X12_unit_52, k_X12_unit_55, k_X12_unit_58, k_X12_unit_59, k_X12_unit_60, k_X12_unit_61, k_X12_unit_62, k_X12_unit_63, k_X12_unit_66, k_X12_unit_67, k_X12_unit_68, k_X12_unit_70, k_X12_unit_73, k_X12_unit_76, k_X12_unit_77, k_X12_unit_78, k_X12_unit_79, k_X12_unit_80, k_X12_unit_83, k_X12_unit_84, k_X12_unit_85, k_X12_unit_88, k_X12_unit_89, k_X12_unit_90, k_X12_unit_91, k_X12_unit_92, k_X12_unit_93, k_X12_unit_96, w_X12_compares_e, w_X12_goesIn_e, w_X12_look_e, w_X12_takes_e, w_X12_unit_e, mt, mk, rd_9, rd_10, rd_11, rd_12, rd_u10, rd_u11, rd_u12, rd_rd, mL_rd, fa_n, hq]
      repeat' (first | assumption | exact tO _ _ _ | exact hrd _ (by omega) (by omega) | exact hrd' | apply And.intro | intro _)
      all_goals first | omega | exact absurd trivial (by assumption) | exact tO _ _ _ | exact hrd _ (by omega) (by omega) | exact hq1 _ _ _ _ (by assumption) (by assumption) (by omega) (by omega) | exact hq2 _ (by assumption) | exact bv _ (by assumption)
