/-! the reference: BORNE -/
/-- the row apart with who is ILL and the EVENING -/
abbrev bnR (m : Mem) (i e : Int) : Int → Int := upf (upf (m 5015) 24 i) 26 e
def bnF (m : Mem) : Nat → Int → Int → Int → Int → Int × Int → Int × Int
  | 0, _, _, u, w, s => if u ≤ s.2 then s else (w, u)
  | k + 1, i, e, u, w, s => mstI (fun p s => if mOu (setv m 5016 (bnR m i e)) 5016 p (mMi m p) = 0 then bnF m k 0 (e + 1) (u + rMv m p (bnR m i e)) (10 * w + p) s else s) (m 5000 28).toNat s
/-- while rows of PLAYS are tried: the row apart is the row now but for who is ILL and the EVENING -/
def tryB (m : Mem) (σ : Mem) : Prop := QF m σ ∧ mOk σ ∧ (∀ j, 0 ≤ j → j < 28 → j ≠ 24 → j ≠ 26 → σ 5016 j = m 5015 j) ∧ σ 5025 = m 5025 ∧ σ 5000 0 = m 5000 0
theorem tryB_k {m τ : Mem} (h : tryB m τ) {k v : Int} (hk : k = 50 ∨ k = 51) : tryB m (up τ 5000 k v) := by
  obtain ⟨h1, h2, h3, h4, h5⟩ := h
  exact ⟨QF_k h1 hk, mOk_c (by rw [up_nj _ (by omega)]) (fun b hb => up_na _ (by omega)) h2, by rw [up_na _ (by decide)]; exact h3, by rw [up_na _ (by decide)]; exact h4, by rw [up_nj _ (by omega)]; exact h5⟩
theorem tryB_t {m τ : Mem} (h : tryB m τ) (i e : Int) : tryB m (up (up τ 5016 24 i) 5016 26 e) := by
  obtain ⟨h1, h2, h3, h4, h5⟩ := h
  exact ⟨QF_up (QF_up h1 (Or.inl rfl)) (Or.inl rfl), mOk_up (mOk_up h2 (by decide)) (by decide), fun j j0 j1 j2 j3 => by rw [up_nj _ j3, up_nj _ j2]; exact h3 j j0 j1 j2 j3, by rw [up_na _ (by decide), up_na _ (by decide)]; exact h4, by rw [up_na _ (by decide), up_na _ (by decide)]; exact h5⟩
theorem tryB_p {m σ τ : Mem} (h : tryB m σ) (a : PF σ τ) (b : mOk τ) : tryB m τ := by
  obtain ⟨h1, h2, h3, h4, h5⟩ := h
  exact ⟨QF_tr h1 (QF_PF a), b, by rw [PF_r a (by decide)]; exact h3, by rw [PF_r a (by decide)]; exact h4, by rw [a.2 0 (by decide) (by decide) (by decide) (by decide)]; exact h5⟩
theorem tryB_r {m τ : Mem} (h : tryB m τ) (i e : Int) : ∀ j, 0 ≤ j → j < 28 → up (up τ 5016 24 i) 5016 26 e 5016 j = bnR m i e j := by
  intro j j0 j1
  rw [up_row, up_row]
  unfold bnR upf
  by_cases e1 : j = 26
  · rw [if_pos e1, if_pos e1]
  · rw [if_neg e1, if_neg e1]
    by_cases e2 : j = 24
    · rw [if_pos e2, if_pos e2]
    · rw [if_neg e2, if_neg e2]; exact h.2.2.1 j j0 j1 e2 e1
theorem aR_bn {n s : Int} {r : Int → Int} {i e : Int} (n6 : n ≤ 6) (h : aR n s r) (i0 : 0 ≤ i) (i1 : i < 64) (e0 : 0 ≤ e) (e1 : e ≤ 2000) : aR n s (upf (upf r 24 i) 26 e) := by
  have h1 := aR_il n6 h i0 i1
  obtain ⟨g1, g2, g3, g4, g5⟩ := h1
  refine ⟨fun d d0 d1 => ?_, ?_, ?_, ?_, ?_⟩
  · rw [upf_n2 _ (by omega), upf_n2 _ (show 4 * d + 1 ≠ 26 by omega), upf_n2 _ (show 4 * d + 2 ≠ 26 by omega), upf_n2 _ (show 4 * d + 3 ≠ 26 by omega)]; exact g1 d d0 d1
  · rw [upf_n2 _ (by decide)]; exact g2
  · rw [upf_n2 _ (by decide)]; exact g3
  · rw [upf_s2]; exact ⟨e0, e1⟩
  · rw [upf_n2 _ (by decide)]; exact g5
def wBo : Nat → WP
  | 0 => fun _ _ _ => False
  | d + 1 => fun av σ Q => ∃ (l i e u w : Int), av = [(28, 5000), (0, l), (0, i), (0, e), (0, u), (0, w)] ∧ (l = d ∧ ∃ (m : Mem), mX m 5015 ∧ 0 ≤ i ∧ i < 64 ∧ 0 ≤ e ∧ e + d ≤ 2000 ∧ 0 ≤ u ∧ u + 10000 * d ≤ 100000 ∧ tryB m σ ∧ InR (σ 5000 51) ∧ (∀ τ, tryB m τ → InR (τ 5000 51) → (τ 5000 50, τ 5000 51) = bnF m d i e u w (σ 5000 50, σ 5000 51) → Q (6, 0) τ))
abbrev BoS (d : Nat) : Prop := ∀ av σ Q, wBo d av σ Q → amCall (60 + d) 0 0 TT yX12_goBorne cX12_goBorne 7 none av σ Q
theorem wBo_0 (av : List AV) (σ : Mem) (Q : AV → Mem → Prop) : wBo 0 av σ Q = False := rfl
theorem wBo_s (d : Nat) (l i e u w : Int) (σ : Mem) (Q : AV → Mem → Prop) : wBo (d + 1) [(28, 5000), (0, l), (0, i), (0, e), (0, u), (0, w)] σ Q = (l = d ∧ ∃ (m : Mem), mX m 5015 ∧ 0 ≤ i ∧ i < 64 ∧ 0 ≤ e ∧ e + d ≤ 2000 ∧ 0 ≤ u ∧ u + 10000 * d ≤ 100000 ∧ tryB m σ ∧ InR (σ 5000 51) ∧ (∀ τ, tryB m τ → InR (τ 5000 51) → (τ 5000 50, τ 5000 51) = bnF m d i e u w (σ 5000 50, σ 5000 51) → Q (6, 0) τ)) := by
  apply propext; constructor
  · rintro ⟨l', i', e', u', w', h, hb⟩; cases h; exact hb
  · intro hb; exact ⟨l, i, e, u, w, rfl, hb⟩

theorem wd_1885 : Cond.methodLink RX12 473 yX12_goBorne ∈ TBL := tb_tab (List.mem_of_getElem? (i := 1885) (by decide +kernel)) rfl
theorem wd_1888 : Cond.code yX12_goBorne cX12_goBorne 7 (none) ∈ TBL := tb_tab (List.mem_of_getElem? (i := 1888) (by decide +kernel)) rfl
theorem lk_X12_473 : amLk RX12 473 yX12_goBorne cX12_goBorne 7 (none) 5 := ⟨wd_1885, wd_12, wd_1888, by decide +kernel, by decide +kernel, by decide⟩
theorem wd_1887 : Cond.instanceMethod yX12_goBorne ∈ TBL := tb_tab (List.mem_of_getElem? (i := 1887) (by decide +kernel)) rfl
theorem sl_X12_goBorne : Cond.selects RX12 yX12_goBorne yX12_goBorne ∈ TBL := tb_sel (List.mem_of_getElem? (i := 98) (by decide +kernel)) rfl
def a_X12_goBorne (d : Nat) : AC := [(0, vIload 1 1), (1, vIfNe 27 4), (4, vIload 4 6), (6, vAload 0 7), (7, vGetI 28 51 10), (10, vIcGt 14 13), (13, vVret), (14, vAload 0 15), (15, vIload 4 17), (17, vPutI 28 51 20), (20, vAload 0 21), (21, vIload 5 23), (23, vPutI 28 50 26), (26, vVret), (27, vI 0 28), (28, vIstore 6 30), (30, vIload 6 32), (32, vAload 0 33), (33, vGetI 28 28 36), (36, vIcGe 100 39), (39, vAload 0 40), (40, vGetR TT 28 37 8 43), (43, vI 24 45), (45, vIload 2 46), (46, vIast TT 47), (47, vAload 0 48), (48, vGetR TT 28 37 8 51), (51, vI 26 53), (53, vIload 3 54), (54, vIast TT 55), (55, vAload 0 56), (56, vAload 0 57), (57, vGetR TT 28 37 8 60), (60, vIload 6 62), (62, vCallM w_X12_goPlay 28 2 65), (65, vIfNe 94 68), (68, vAload 0 69), (69, vIload 1 70), (70, vI 1 71), (71, vIsub 72), (72, vI 0 73), (73, vIload 3 74), (74, vI 1 75), (75, vIadd 76), (76, vIload 4 78), (78, vAload 0 79), (79, vGetI 28 46 82), (82, vIadd 83), (83, vI 10 85), (85, vIload 5 87), (87, vImul 88), (88, vIload 6 90), (90, vIadd 91), (91, vCallMV (wBo d) 28 5 94), (94, vIinc 6 1 97), (97, vGoto 30), (100, vVret)]
theorem k_X12_goBorne_0 (d : Nat) : look (a_X12_goBorne d) 0 = vIload 1 1 := rfl
theorem k_X12_goBorne_1 (d : Nat) : look (a_X12_goBorne d) 1 = vIfNe 27 4 := rfl
theorem k_X12_goBorne_4 (d : Nat) : look (a_X12_goBorne d) 4 = vIload 4 6 := rfl
theorem k_X12_goBorne_6 (d : Nat) : look (a_X12_goBorne d) 6 = vAload 0 7 := rfl
theorem k_X12_goBorne_7 (d : Nat) : look (a_X12_goBorne d) 7 = vGetI 28 51 10 := rfl
theorem k_X12_goBorne_10 (d : Nat) : look (a_X12_goBorne d) 10 = vIcGt 14 13 := rfl
theorem k_X12_goBorne_13 (d : Nat) : look (a_X12_goBorne d) 13 = vVret := rfl
theorem k_X12_goBorne_14 (d : Nat) : look (a_X12_goBorne d) 14 = vAload 0 15 := rfl
theorem k_X12_goBorne_15 (d : Nat) : look (a_X12_goBorne d) 15 = vIload 4 17 := rfl
theorem k_X12_goBorne_17 (d : Nat) : look (a_X12_goBorne d) 17 = vPutI 28 51 20 := rfl
theorem k_X12_goBorne_20 (d : Nat) : look (a_X12_goBorne d) 20 = vAload 0 21 := rfl
theorem k_X12_goBorne_21 (d : Nat) : look (a_X12_goBorne d) 21 = vIload 5 23 := rfl
theorem k_X12_goBorne_23 (d : Nat) : look (a_X12_goBorne d) 23 = vPutI 28 50 26 := rfl
theorem k_X12_goBorne_26 (d : Nat) : look (a_X12_goBorne d) 26 = vVret := rfl
theorem k_X12_goBorne_27 (d : Nat) : look (a_X12_goBorne d) 27 = vI 0 28 := rfl
theorem k_X12_goBorne_28 (d : Nat) : look (a_X12_goBorne d) 28 = vIstore 6 30 := rfl
theorem k_X12_goBorne_30 (d : Nat) : look (a_X12_goBorne d) 30 = vIload 6 32 := rfl
theorem k_X12_goBorne_32 (d : Nat) : look (a_X12_goBorne d) 32 = vAload 0 33 := rfl
theorem k_X12_goBorne_33 (d : Nat) : look (a_X12_goBorne d) 33 = vGetI 28 28 36 := rfl
theorem k_X12_goBorne_36 (d : Nat) : look (a_X12_goBorne d) 36 = vIcGe 100 39 := rfl
theorem k_X12_goBorne_39 (d : Nat) : look (a_X12_goBorne d) 39 = vAload 0 40 := rfl
theorem k_X12_goBorne_40 (d : Nat) : look (a_X12_goBorne d) 40 = vGetR TT 28 37 8 43 := rfl
theorem k_X12_goBorne_43 (d : Nat) : look (a_X12_goBorne d) 43 = vI 24 45 := rfl
theorem k_X12_goBorne_45 (d : Nat) : look (a_X12_goBorne d) 45 = vIload 2 46 := rfl
theorem k_X12_goBorne_46 (d : Nat) : look (a_X12_goBorne d) 46 = vIast TT 47 := rfl
theorem k_X12_goBorne_47 (d : Nat) : look (a_X12_goBorne d) 47 = vAload 0 48 := rfl
theorem k_X12_goBorne_48 (d : Nat) : look (a_X12_goBorne d) 48 = vGetR TT 28 37 8 51 := rfl
theorem k_X12_goBorne_51 (d : Nat) : look (a_X12_goBorne d) 51 = vI 26 53 := rfl
theorem k_X12_goBorne_53 (d : Nat) : look (a_X12_goBorne d) 53 = vIload 3 54 := rfl
theorem k_X12_goBorne_54 (d : Nat) : look (a_X12_goBorne d) 54 = vIast TT 55 := rfl
theorem k_X12_goBorne_55 (d : Nat) : look (a_X12_goBorne d) 55 = vAload 0 56 := rfl
theorem k_X12_goBorne_56 (d : Nat) : look (a_X12_goBorne d) 56 = vAload 0 57 := rfl
theorem k_X12_goBorne_57 (d : Nat) : look (a_X12_goBorne d) 57 = vGetR TT 28 37 8 60 := rfl
theorem k_X12_goBorne_60 (d : Nat) : look (a_X12_goBorne d) 60 = vIload 6 62 := rfl
theorem k_X12_goBorne_62 (d : Nat) : look (a_X12_goBorne d) 62 = vCallM w_X12_goPlay 28 2 65 := rfl
theorem k_X12_goBorne_65 (d : Nat) : look (a_X12_goBorne d) 65 = vIfNe 94 68 := rfl
theorem k_X12_goBorne_68 (d : Nat) : look (a_X12_goBorne d) 68 = vAload 0 69 := rfl
theorem k_X12_goBorne_69 (d : Nat) : look (a_X12_goBorne d) 69 = vIload 1 70 := rfl
theorem k_X12_goBorne_70 (d : Nat) : look (a_X12_goBorne d) 70 = vI 1 71 := rfl
theorem k_X12_goBorne_71 (d : Nat) : look (a_X12_goBorne d) 71 = vIsub 72 := rfl
theorem k_X12_goBorne_72 (d : Nat) : look (a_X12_goBorne d) 72 = vI 0 73 := rfl
theorem k_X12_goBorne_73 (d : Nat) : look (a_X12_goBorne d) 73 = vIload 3 74 := rfl
theorem k_X12_goBorne_74 (d : Nat) : look (a_X12_goBorne d) 74 = vI 1 75 := rfl
theorem k_X12_goBorne_75 (d : Nat) : look (a_X12_goBorne d) 75 = vIadd 76 := rfl
theorem k_X12_goBorne_76 (d : Nat) : look (a_X12_goBorne d) 76 = vIload 4 78 := rfl
theorem k_X12_goBorne_78 (d : Nat) : look (a_X12_goBorne d) 78 = vAload 0 79 := rfl
theorem k_X12_goBorne_79 (d : Nat) : look (a_X12_goBorne d) 79 = vGetI 28 46 82 := rfl
theorem k_X12_goBorne_82 (d : Nat) : look (a_X12_goBorne d) 82 = vIadd 83 := rfl
theorem k_X12_goBorne_83 (d : Nat) : look (a_X12_goBorne d) 83 = vI 10 85 := rfl
theorem k_X12_goBorne_85 (d : Nat) : look (a_X12_goBorne d) 85 = vIload 5 87 := rfl
theorem k_X12_goBorne_87 (d : Nat) : look (a_X12_goBorne d) 87 = vImul 88 := rfl
theorem k_X12_goBorne_88 (d : Nat) : look (a_X12_goBorne d) 88 = vIload 6 90 := rfl
theorem k_X12_goBorne_90 (d : Nat) : look (a_X12_goBorne d) 90 = vIadd 91 := rfl
theorem k_X12_goBorne_91 (d : Nat) : look (a_X12_goBorne d) 91 = vCallMV (wBo d) 28 5 94 := rfl
theorem k_X12_goBorne_94 (d : Nat) : look (a_X12_goBorne d) 94 = vIinc 6 1 97 := rfl
theorem k_X12_goBorne_97 (d : Nat) : look (a_X12_goBorne d) 97 = vGoto 30 := rfl
theorem k_X12_goBorne_100 (d : Nat) : look (a_X12_goBorne d) 100 = vVret := rfl
theorem o_X12_goBorne {X : amX} (d : Nat) (hG : BoS d) (e1 : XT X = TT) (e2 : XD X = 61 + d) (hB : amB X RX12 cX12_goBorne (none) 7) : ∀ pc, amOK X pc (look (a_X12_goBorne d) pc) := by
  have hT : amTok (XT X) := e1 ▸ TT_ok
  refine look_ok ?_
  unfold a_X12_goBorne
  refine fc (ok_iload_n hB dX12_goBorne_0) ?_
  refine fc (ok_if_ne hB (t := 27) (by decide) dX12_goBorne_1) ?_
  refine fc (ok_iload hB dX12_goBorne_4) ?_
  refine fc (ok_aload_n hB dX12_goBorne_6) ?_
  refine fc (ok_getI hB hT fl_X12_429 rfl rfl (Or.inl af_12_51) dX12_goBorne_7) ?_
  refine fc (ok_icmp_gt hB (t := 14) (by decide) dX12_goBorne_10) ?_
  refine fc (ok_vret hB dX12_goBorne_13) ?_
  refine fc (ok_aload_n hB dX12_goBorne_14) ?_
  refine fc (ok_iload hB dX12_goBorne_15) ?_
  refine fc (ok_putI hB hT fp_X12_429 rfl rfl rfl af_12_51 dX12_goBorne_17) ?_
  refine fc (ok_aload_n hB dX12_goBorne_20) ?_
  refine fc (ok_iload hB dX12_goBorne_21) ?_
  refine fc (ok_putI hB hT fp_X12_436 rfl rfl rfl af_12_50 dX12_goBorne_23) ?_
  refine fc (ok_vret hB dX12_goBorne_26) ?_
  refine fc (ok_iconst hB dX12_goBorne_27) ?_
  refine fc (ok_istore hB (by decide) dX12_goBorne_28) ?_
  refine fc (ok_iload hB dX12_goBorne_30) ?_
  refine fc (ok_aload_n hB dX12_goBorne_32) ?_
  refine fc (ok_getI hB hT fl_X12_314 rfl rfl (Or.inl af_12_28) dX12_goBorne_33) ?_
  refine fc (ok_icmp_ge hB (t := 100) (by decide) dX12_goBorne_36) ?_
  refine fc (ok_aload_n hB dX12_goBorne_39) ?_
  refine fc (okt_getR e1 hB hT fl_X12_70 rfl af_12_37 at_12_37 (by decide) dX12_goBorne_40) ?_
  refine fc (ok_bipush hB dX12_goBorne_43 (by decide)) ?_
  refine fc (ok_iload_n hB dX12_goBorne_45) ?_
  refine fc (okt_iastore e1 hB dX12_goBorne_46) ?_
  refine fc (ok_aload_n hB dX12_goBorne_47) ?_
  refine fc (okt_getR e1 hB hT fl_X12_70 rfl af_12_37 at_12_37 (by decide) dX12_goBorne_48) ?_
  refine fc (ok_bipush hB dX12_goBorne_51 (by decide)) ?_
  refine fc (ok_iload_n hB dX12_goBorne_53) ?_
  refine fc (okt_iastore e1 hB dX12_goBorne_54) ?_
  refine fc (ok_aload_n hB dX12_goBorne_55) ?_
  refine fc (ok_aload_n hB dX12_goBorne_56) ?_
  refine fc (okt_getR e1 hB hT fl_X12_70 rfl af_12_37 at_12_37 (by decide) dX12_goBorne_57) ?_
  refine fc (ok_iload hB dX12_goBorne_60) ?_
  refine fc (ok_callM hB hT (e1 ▸ s_X12_goPlay) lk_X12_362 (by rw [e2]; omega) (c := 12) rfl rfl rfl wd_1698 sl_X12_goPlay dX12_goBorne_62) ?_
  refine fc (ok_if_ne hB (t := 94) (by decide) dX12_goBorne_65) ?_
  refine fc (ok_aload_n hB dX12_goBorne_68) ?_
  refine fc (ok_iload_n hB dX12_goBorne_69) ?_
  refine fc (ok_iconst hB dX12_goBorne_70) ?_
  refine fc (ok_isub hB dX12_goBorne_71) ?_
  refine fc (ok_iconst hB dX12_goBorne_72) ?_
  refine fc (ok_iload_n hB dX12_goBorne_73) ?_
  refine fc (ok_iconst hB dX12_goBorne_74) ?_
  refine fc (ok_iadd hB dX12_goBorne_75) ?_
  refine fc (ok_iload hB dX12_goBorne_76) ?_
  refine fc (ok_aload_n hB dX12_goBorne_78) ?_
  refine fc (ok_getI hB hT fl_X12_352 rfl rfl (Or.inl af_12_46) dX12_goBorne_79) ?_
  refine fc (ok_iadd hB dX12_goBorne_82) ?_
  refine fc (ok_bipush hB dX12_goBorne_83 (by decide)) ?_
  refine fc (ok_iload hB dX12_goBorne_85) ?_
  refine fc (ok_imul hB dX12_goBorne_87) ?_
  refine fc (ok_iload hB dX12_goBorne_88) ?_
  refine fc (ok_iadd hB dX12_goBorne_90) ?_
  refine fc (ok_callMV hB hT (fun av9 σ9 Q9 h9 => e1 ▸ hG av9 σ9 Q9 h9) lk_X12_473 (by rw [e2]; omega) (c := 12) rfl rfl rfl wd_1887 sl_X12_goBorne dX12_goBorne_91) ?_
  refine fc (ok_iinc hB (by decide) dX12_goBorne_94) ?_
  refine fc (ok_goto hB (t := 30) (by decide) dX12_goBorne_97) ?_
  refine fc (ok_vret hB dX12_goBorne_100) ?_
  exact fn
def inv_gbo (m : Mem) (l i e u w : Int) (s : Int × Int) (d n pc : Nat) (ls st : List AV) (σ' : Mem) : Prop := ∃ p : Nat, ls = [(28, 5000), (0, l), (0, i), (0, e), (0, u), (0, w), (0, (p : Int))] ∧
  ((pc = 30 ∧ st = [] ∧ tryB m σ' ∧ InR (σ' 5000 51) ∧ (p : Int) ≤ m 5000 28 ∧ (n : Int) = 2 * (m 5000 28 - p) + 1 ∧ (σ' 5000 50, σ' 5000 51) = mstI (fun p s => if mOu (setv m 5016 (bnR m i e)) 5016 p (mMi m p) = 0 then bnF m d 0 (e + 1) (u + rMv m p (bnR m i e)) (10 * w + p) s else s) p s) ∨
   (pc = 65 ∧ st = [(0, mOu (setv m 5016 (bnR m i e)) 5016 p (mMi m p))] ∧ tryB m σ' ∧ InR (σ' 5000 51) ∧ (p : Int) < m 5000 28 ∧ (n : Int) = 2 * (m 5000 28 - p) ∧ σ' 5000 46 = rMv m p (bnR m i e) ∧ (σ' 5000 50, σ' 5000 51) = mstI (fun p s => if mOu (setv m 5016 (bnR m i e)) 5016 p (mMi m p) = 0 then bnF m d 0 (e + 1) (u + rMv m p (bnR m i e)) (10 * w + p) s else s) p s))
def w_X12_goBorne (d : Nat) : WP := fun av σ Q => ∃ (l : Int) (i : Int) (e : Int) (u : Int) (w : Int), av = [(28, 5000), (0, l), (0, i), (0, e), (0, u), (0, w)] ∧ (l = d ∧ ∃ (m : Mem), mX m 5015 ∧ 0 ≤ i ∧ i < 64 ∧ 0 ≤ e ∧ e + d ≤ 2000 ∧ 0 ≤ u ∧ u + 10000 * d ≤ 100000 ∧ tryB m σ ∧ InR (σ 5000 51) ∧ (∀ τ, tryB m τ → InR (τ 5000 51) → (τ 5000 50, τ 5000 51) = bnF m d i e u w (σ 5000 50, σ 5000 51) → Q (6, 0) τ))
theorem w_X12_goBorne_e (d : Nat) (l : Int) (i : Int) (e : Int) (u : Int) (w : Int) (σ : Mem) (Q : AV → Mem → Prop) : w_X12_goBorne d [(28, 5000), (0, l), (0, i), (0, e), (0, u), (0, w)] σ Q = (l = d ∧ ∃ (m : Mem), mX m 5015 ∧ 0 ≤ i ∧ i < 64 ∧ 0 ≤ e ∧ e + d ≤ 2000 ∧ 0 ≤ u ∧ u + 10000 * d ≤ 100000 ∧ tryB m σ ∧ InR (σ 5000 51) ∧ (∀ τ, tryB m τ → InR (τ 5000 51) → (τ 5000 50, τ 5000 51) = bnF m d i e u w (σ 5000 50, σ 5000 51) → Q (6, 0) τ)) := by
  apply propext; constructor
  · rintro ⟨l', i', e', u', w', h9, hb9⟩; cases h9; exact hb9
  · intro hb9; exact ⟨l, i, e, u, w, rfl, hb9⟩

set_option maxRecDepth 100000 in
set_option maxHeartbeats 4000000 in
theorem s_X12_goBorne (d : Nat) (hG : BoS d) : ∀ av σ Q, w_X12_goBorne d av σ Q → amCall (61 + d) 0 0 TT yX12_goBorne cX12_goBorne 7 (none) av σ Q := by
  rintro av σ Q ⟨l, i, e, u, w, rfl, hl, m, hx, i0, i1, e0, e1, u0, u1, hT, i51, h⟩
  have n29 := hx.2.1.2.2.1
  have n28 := hx.2.1.2.2.2.2.1
  by_cases hd0 : d = 0
  · rw [hd0] at h hl e1 u1
    have l0 : l = 0 := by omega
    subst l0
    have fA : u ≤ σ 5000 51 → Q (6, 0) σ := fun q => h σ hT i51 (by unfold bnF; rw [if_pos q])
    have fB : ¬ u ≤ σ 5000 51 → Q (6, 0) (up (up σ 5000 51 u) 5000 50 w) := fun q => h _ (tryB_k (tryB_k hT (Or.inr rfl)) (Or.inl rfl)) (by rw [up_nj _ (by decide), up_s]; exact ⟨by omega, by omega⟩) (by rw [up_s, up_nj _ (by decide), up_s]; unfold bnF; rw [if_neg q])
    refine am_m [27] (fun _ _ _ _ _ => False) (own := RX12) (A := look (a_X12_goBorne d)) (fun X e1 e2 hB => o_X12_goBorne d hG e1 e2 hB) rfl (by decide +kernel) rfl rfl (fun _ _ _ _ _ h => absurd h id) ⟨60, ?_⟩ (w := 7)
    change vcs _ _ _ _ 60 0 [(28, 5000), (0, 0), (0, i), (0, e), (0, u), (0, w), (6, 0)] [] σ
    simp only [↓reduceIte, inR_0, inR_1, inR_m, vSw2_e, swP_n, swP_c, vI_e, vL_e, vNull_e, vIload_e, vLload_e, vAload_e, vIstore_e, vLstore_e, vAstore_e, vIinc_e, vIadd_e, vIsub_e, vImul_e, vIand_e, vIor_e, vIxor_e, vIshl_e, vIshr_e, vIushr_e, vIdiv_e, vIrem_e, vLadd_e, vLsub_e, vLmul_e, vLand_e, vLor_e, vLxor_e, vLdiv_e, vLrem_e, vLushr_e, vLshl_e, vLcmp_e, vIneg_e, vI2l_e, vL2i_e, vI2b_e, vI2c_e, vDup_e, vPop_e, vDup2_e, vGoto_e, vIcEq_e, vIfEq_e, vIcNe_e, vIfNe_e, vIcLt_e, vIfLt_e, vIcGe_e, vIfGe_e, vIcGt_e, vIfGt_e, vIcLe_e, vIfLe_e, vNonnull_e, vSw_e, vGetI_e, vGetL_e, vGetR_e, vPutI_e, vPutZ_e, vPutL_e, vPutR_e, vIald_e, vIald_s, vLald_e, vBald_e, vBald_s, vAald_e, vIast_e, vLast_e, vBast_e, vAast_e, vAlen_e8, vAlen_e9, vAlen_e10, vAlen_e11, vAlen_e5, vAlen_e3, vGets_e, vCompact_e, vLdcS_e, vIret_e, vZret_e, vCret_e, vBret_e, vLret_e, vVret_e, vAret_e, vCallM_e0, vCallMV_e0, vCallS_e0, vCallSV_e0, vCallM_e1, vCallMV_e1, vCallS_e1, vCallSV_e1, vCallM_e2, vCallMV_e2, vCallS_e2, vCallSV_e2, vCallM_e3, vCallMV_e3, vCallS_e3, vCallSV_e3, vCallM_e4, vCallMV_e4, vCallS_e4, vCallSV_e4, vCallM_e5, vCallMV_e5, vCallS_e5, vCallSV_e5, vCallM_e6, vCallMV_e6, vCallS_e6, vCallSV_e6, vCallM_e7, vCallMV_e7, vCallS_e7, vCallSV_e7, vBad_e, vStrVal_e, vStrCod_e, vForm_e, vCallT_e0, vCallT_e1, vCallT_e2, vCopy_e, rf_0_0, rf_0_1, rf_0_2, rf_0_3, rf_0_4, rf_0_7, rf_0_10, rf_0_11, rf_0_12, rf_0_13, rf_0_14, rf_0_15, rf_0_16, rf_1_0, rf_3_0, rf_3_1, rf_6_0, rf_6_1, rf_9_0, rf_9_1, rf_9_3, rf_13_0, rf_13_1, rf_13_2, rf_16_0, rf_16_1, rf_16_2, rf_16_3, rf_21_0, rf_21_1, rf_21_2, rf_21_3, rf_26_0, rf_26_1, rf_26_2, rf_26_3, rf_26_4, rf_26_5, rf_26_6, rf_31_0, rf_31_2, rf_31_5, rf_31_6, rf_36_0, rf_36_1, rf_36_2, rf_36_3, rf_39_0, rf_39_1, rf_39_2, rf_41_0, rf_41_1, rf_41_2, rf_41_3, rf_5000_1, rf_5000_2, rf_5000_3, rf_5000_4, rf_5000_5, rf_5000_15, rf_5000_16, rf_5000_18, rf_5000_19, rf_5000_20, rf_5000_21, rf_5000_22, rf_5000_23, rf_5000_24, rf_5000_25, rf_5000_26, rf_5000_27, rf_5000_36, rf_5000_37, rf_5000_40, rf_5000_41, rf_5000_42, rf_5000_43, rf_5000_44, rf_5000_45, rf_5000_47, rf_5000_52, rf_5000_54, rf_5000_55, rf_100_0, rf_100_1, rf_103_0, rf_103_1, rf_106_0, rf_106_1, rf_109_0, rf_109_1, al_2, al_4, al_5, al_7, al_8, al_10, al_11, al_12, al_14, al_15, al_17, al_18, al_19, al_20, al_22, al_23, al_24, al_25, al_27, al_28, al_29, al_30, al_32, al_33, al_34, al_35, al_37, al_38, al_40, al_42, al_5001, al_5002, al_5003, al_5004, al_5005, al_5006, al_5007, al_5008, al_5009, al_5010, al_5011, al_5012, al_5013, al_5014, al_5015, al_5016, al_5017, al_5018, al_5019, al_5020, al_5021, al_5022, al_5023, al_5024, al_5025, al_5026, al_9000, al_101, al_102, al_104, al_105, al_107, al_108, al_110, al_111, vcs_e, lg_c0, lg_cs, lg_nil, set_c0, set_cs, okst_0, okst_s, acok_n, acok_c, List.contains_nil, List.contains_cons, Bool.or_false, Bool.false_or, Bool.false_eq_true, if_false, if_true, ite_self, ne_eq, true_and, and_true, not_false_eq_true, not_true_eq_false, false_imp_iff, true_imp_iff, Nat.ble_eq, Bool.and_eq_true, reduceCtorEq, or_false, false_or, or_true, true_or, false_and, and_false, and_self, Int.reduceLE, Int.reduceAdd, Int.reduceSub, Int.reduceMul, Int.reduceNeg, Int.reduceLT, Int.reduceEq, Int.reduceNe, Nat.reduceBEq, Nat.reduceBNe, Nat.reduceEqDiff, amCmp_in, amCmp_lt, amCmp_le, amCmp_gt, amCmp_ge, amCmp_eq, amCmp_ne, Nat.reduceLeDiff, Nat.reduceSub, Bool.and_true, Bool.true_and, Bool.and_self, Bool.or_true, Bool.true_or, isRf_3, isRf_4, isRf_5, isRf_8, isRf_9, isRf_10, isRf_11, isRf_15, isRf_16, isRf_17, isRf_18, isRf_19, isRf_20, isRf_21, isRf_22, isRf_23, isRf_24, isRf_25, isRf_26, isRf_27, isRf_28, k_X12_goBorne_0, k_X12_goBorne_1, k_X12_goBorne_4, k_X12_goBorne_6, k_X12_goBorne_7, k_X12_goBorne_10, k_X12_goBorne_13, k_X12_goBorne_14, k_X12_goBorne_15, k_X12_goBorne_17, k_X12_goBorne_20, k_X12_goBorne_21, k_X12_goBorne_23, k_X12_goBorne_26, k_X12_goBorne_27, k_X12_goBorne_28, k_X12_goBorne_30, k_X12_goBorne_32, k_X12_goBorne_33, k_X12_goBorne_36, k_X12_goBorne_39, k_X12_goBorne_40, k_X12_goBorne_43, k_X12_goBorne_45, k_X12_goBorne_46, k_X12_goBorne_47, k_X12_goBorne_48, k_X12_goBorne_51, k_X12_goBorne_53, k_X12_goBorne_54, k_X12_goBorne_55, k_X12_goBorne_56, k_X12_goBorne_57, k_X12_goBorne_60, k_X12_goBorne_62, k_X12_goBorne_65, k_X12_goBorne_68, k_X12_goBorne_69, k_X12_goBorne_70, k_X12_goBorne_71, k_X12_goBorne_72, k_X12_goBorne_73, k_X12_goBorne_74, k_X12_goBorne_75, k_X12_goBorne_76, k_X12_goBorne_78, k_X12_goBorne_79, k_X12_goBorne_82, k_X12_goBorne_83, k_X12_goBorne_85, k_X12_goBorne_87, k_X12_goBorne_88, k_X12_goBorne_90, k_X12_goBorne_91, k_X12_goBorne_94, k_X12_goBorne_97, k_X12_goBorne_100]
    repeat' (first | apply And.intro | intro _)
    all_goals first | omega | exact absurd trivial (by assumption) | exact fA (by omega) | exact fB (by omega)
  · obtain ⟨d', hd'⟩ : ∃ d', d = d' + 1 := ⟨d - 1, by omega⟩
    rw [hd'] at h hl e1 u1
    have lne : ¬ l = 0 := by omega
    have el : l - 1 = d' := by omega
    refine am_m [30, 65] (inv_gbo m l i e u w (σ 5000 50, σ 5000 51) d') (own := RX12) (A := look (a_X12_goBorne d)) (fun X e1 e2 hB => o_X12_goBorne d hG e1 e2 hB) rfl (by decide +kernel) rfl rfl ?_ ⟨60, ?_⟩ (w := 7)
    · rintro n pc ls st σ' ⟨p, rfl, ⟨rfl, rfl, hT', j51, hp, hn, hst⟩ | ⟨rfl, rfl, hT', j51, hp, hn, h46, hst⟩⟩
      · have k28 : σ' 5000 28 = m 5000 28 := hT'.1.2 28 (by decide) (by decide) (by decide) (by decide) (by decide) (by decide) (by decide)
        refine ⟨60, ?_⟩
        by_cases cc : (p : Int) < m 5000 28
        · have hTt := tryB_t hT' i e
          have he := tryB_r hT' i e
          have hR : aR (m 5000 29) (m 5000 30) (bnR m i e) := aR_bn n29.2 hx.2.2 i0 i1 e0 (by omega)
          have hxs := QF_mX hTt.1 hTt.2.1 hx hR he
          have hPs := mX_P hxs
          have hs := QF_sP hTt.1 he
          have so5 : setv m 5016 (bnR m i e) 5000 = m 5000 := setv_o _ _ (by decide)
          generalize hS : up (up σ' 5016 24 i) 5016 26 e = S at *
          have s29 : S 5000 29 = m 5000 29 := hTt.1.2 29 (by decide) (by decide) (by decide) (by decide) (by decide) (by decide) (by decide)
          have s28 : S 5000 28 = m 5000 28 := hTt.1.2 28 (by decide) (by decide) (by decide) (by decide) (by decide) (by decide) (by decide)
          have s7 : S 5007 = m 5007 := hTt.1.1 5007 (by decide) (by decide) (by decide) (by decide)
          have s51 : S 5000 51 = σ' 5000 51 ∧ S 5000 50 = σ' 5000 50 := by rw [← hS, up_na _ (by decide), up_na _ (by decide)]; exact ⟨rfl, rfl⟩
          have eF : sumC (mFl S 5016 p (mMi m p)) (m 5000 29).toNat = rMv m p (bnR m i e) := by
            unfold rMv
            exact sumC_cong (fun x a b => sP_mFl hs (by rw [so5]; omega) p a (by rw [so5]; omega) (mMi m p))
          have eO : mOu S 5016 p (mMi m p) = mOu (setv m 5016 (bnR m i e)) 5016 p (mMi m p) := sP_mOu hs (by rw [so5]; omega) p (mMi m p)
          have i9 : ∀ τ, PF S τ → mOk τ → τ 5000 46 = rMv m p (bnR m i e) → ∃ k', k' < n ∧ inv_gbo m l i e u w (σ 5000 50, σ 5000 51) d' k' 65 [(28, 5000), (0, l), (0, i), (0, e), (0, u), (0, w), (0, (p : Int))] [(0, mOu (setv m 5016 (bnR m i e)) 5016 p (mMi m p))] τ := fun τ a b q => by
            have t51 : τ 5000 51 = σ' 5000 51 := by rw [a.2 51 (by decide) (by decide) (by decide) (by decide)]; exact s51.1
            have t50 : τ 5000 50 = σ' 5000 50 := by rw [a.2 50 (by decide) (by decide) (by decide) (by decide)]; exact s51.2
            exact ⟨n - 1, by omega, p, rfl, Or.inr ⟨rfl, rfl, tryB_p hTt a b, by rw [t51]; exact j51, cc, by omega, q, by rw [t51, t50]; exact hst⟩⟩
          unfold mMi at eF eO i9
          simp only [↓reduceIte, inR_0, inR_1, inR_m, vSw2_e, swP_n, swP_c, vI_e, vL_e, vNull_e, vIload_e, vLload_e, vAload_e, vIstore_e, vLstore_e, vAstore_e, vIinc_e, vIadd_e, vIsub_e, vImul_e, vIand_e, vIor_e, vIxor_e, vIshl_e, vIshr_e, vIushr_e, vIdiv_e, vIrem_e, vLadd_e, vLsub_e, vLmul_e, vLand_e, vLor_e, vLxor_e, vLdiv_e, vLrem_e, vLushr_e, vLshl_e, vLcmp_e, vIneg_e, vI2l_e, vL2i_e, vI2b_e, vI2c_e, vDup_e, vPop_e, vDup2_e, vGoto_e, vIcEq_e, vIfEq_e, vIcNe_e, vIfNe_e, vIcLt_e, vIfLt_e, vIcGe_e, vIfGe_e, vIcGt_e, vIfGt_e, vIcLe_e, vIfLe_e, vNonnull_e, vSw_e, vGetI_e, vGetL_e, vGetR_e, vPutI_e, vPutZ_e, vPutL_e, vPutR_e, vIald_e, vIald_s, vLald_e, vBald_e, vBald_s, vAald_e, vIast_e, vLast_e, vBast_e, vAast_e, vAlen_e8, vAlen_e9, vAlen_e10, vAlen_e11, vAlen_e5, vAlen_e3, vGets_e, vCompact_e, vLdcS_e, vIret_e, vZret_e, vCret_e, vBret_e, vLret_e, vVret_e, vAret_e, vCallM_e0, vCallMV_e0, vCallS_e0, vCallSV_e0, vCallM_e1, vCallMV_e1, vCallS_e1, vCallSV_e1, vCallM_e2, vCallMV_e2, vCallS_e2, vCallSV_e2, vCallM_e3, vCallMV_e3, vCallS_e3, vCallSV_e3, vCallM_e4, vCallMV_e4, vCallS_e4, vCallSV_e4, vCallM_e5, vCallMV_e5, vCallS_e5, vCallSV_e5, vCallM_e6, vCallMV_e6, vCallS_e6, vCallSV_e6, vCallM_e7, vCallMV_e7, vCallS_e7, vCallSV_e7, vBad_e, vStrVal_e, vStrCod_e, vForm_e, vCallT_e0, vCallT_e1, vCallT_e2, vCopy_e, rf_0_0, rf_0_1, rf_0_2, rf_0_3, rf_0_4, rf_0_7, rf_0_10, rf_0_11, rf_0_12, rf_0_13, rf_0_14, rf_0_15, rf_0_16, rf_1_0, rf_3_0, rf_3_1, rf_6_0, rf_6_1, rf_9_0, rf_9_1, rf_9_3, rf_13_0, rf_13_1, rf_13_2, rf_16_0, rf_16_1, rf_16_2, rf_16_3, rf_21_0, rf_21_1, rf_21_2, rf_21_3, rf_26_0, rf_26_1, rf_26_2, rf_26_3, rf_26_4, rf_26_5, rf_26_6, rf_31_0, rf_31_2, rf_31_5, rf_31_6, rf_36_0, rf_36_1, rf_36_2, rf_36_3, rf_39_0, rf_39_1, rf_39_2, rf_41_0, rf_41_1, rf_41_2, rf_41_3, rf_5000_1, rf_5000_2, rf_5000_3, rf_5000_4, rf_5000_5, rf_5000_15, rf_5000_16, rf_5000_18, rf_5000_19, rf_5000_20, rf_5000_21, rf_5000_22, rf_5000_23, rf_5000_24, rf_5000_25, rf_5000_26, rf_5000_27, rf_5000_36, rf_5000_37, rf_5000_40, rf_5000_41, rf_5000_42, rf_5000_43, rf_5000_44, rf_5000_45, rf_5000_47, rf_5000_52, rf_5000_54, rf_5000_55, rf_100_0, rf_100_1, rf_103_0, rf_103_1, rf_106_0, rf_106_1, rf_109_0, rf_109_1, al_2, al_4, al_5, al_7, al_8, al_10, al_11, al_12, al_14, al_15, al_17, al_18, al_19, al_20, al_22, al_23, al_24, al_25, al_27, al_28, al_29, al_30, al_32, al_33, al_34, al_35, al_37, al_38, al_40, al_42, al_5001, al_5002, al_5003, al_5004, al_5005, al_5006, al_5007, al_5008, al_5009, al_5010, al_5011, al_5012, al_5013, al_5014, al_5015, al_5016, al_5017, al_5018, al_5019, al_5020, al_5021, al_5022, al_5023, al_5024, al_5025, al_5026, al_9000, al_101, al_102, al_104, al_105, al_107, al_108, al_110, al_111, vcs_e, lg_c0, lg_cs, lg_nil, set_c0, set_cs, okst_0, okst_s, acok_n, acok_c, List.contains_nil, List.contains_cons, Bool.or_false, Bool.false_or, Bool.false_eq_true, if_false, if_true, ite_self, ne_eq, true_and, and_true, not_false_eq_true, not_true_eq_false, false_imp_iff, true_imp_iff, Nat.ble_eq, Bool.and_eq_true, reduceCtorEq, or_false, false_or, or_true, true_or, false_and, and_false, and_self, Int.reduceLE, Int.reduceAdd, Int.reduceSub, Int.reduceMul, Int.reduceNeg, Int.reduceLT, Int.reduceEq, Int.reduceNe, Nat.reduceBEq, Nat.reduceBNe, Nat.reduceEqDiff, amCmp_in, amCmp_lt, amCmp_le, amCmp_gt, amCmp_ge, amCmp_eq, amCmp_ne, Nat.reduceLeDiff, Nat.reduceSub, Bool.and_true, Bool.true_and, Bool.and_self, Bool.or_true, Bool.true_or, isRf_3, isRf_4, isRf_5, isRf_8, isRf_9, isRf_10, isRf_11, isRf_15, isRf_16, isRf_17, isRf_18, isRf_19, isRf_20, isRf_21, isRf_22, isRf_23, isRf_24, isRf_25, isRf_26, isRf_27, isRf_28, k_X12_goBorne_0, k_X12_goBorne_1, k_X12_goBorne_4, k_X12_goBorne_6, k_X12_goBorne_7, k_X12_goBorne_10, k_X12_goBorne_13, k_X12_goBorne_14, k_X12_goBorne_15, k_X12_goBorne_17, k_X12_goBorne_20, k_X12_goBorne_21, k_X12_goBorne_23, k_X12_goBorne_26, k_X12_goBorne_27, k_X12_goBorne_28, k_X12_goBorne_30, k_X12_goBorne_32, k_X12_goBorne_33, k_X12_goBorne_36, k_X12_goBorne_39, k_X12_goBorne_40, k_X12_goBorne_43, k_X12_goBorne_45, k_X12_goBorne_46, k_X12_goBorne_47, k_X12_goBorne_48, k_X12_goBorne_51, k_X12_goBorne_53, k_X12_goBorne_54, k_X12_goBorne_55, k_X12_goBorne_56, k_X12_goBorne_57, k_X12_goBorne_60, k_X12_goBorne_62, k_X12_goBorne_65, k_X12_goBorne_68, k_X12_goBorne_69, k_X12_goBorne_70, k_X12_goBorne_71, k_X12_goBorne_72, k_X12_goBorne_73, k_X12_goBorne_74, k_X12_goBorne_75, k_X12_goBorne_76, k_X12_goBorne_78, k_X12_goBorne_79, k_X12_goBorne_82, k_X12_goBorne_83, k_X12_goBorne_85, k_X12_goBorne_87, k_X12_goBorne_88, k_X12_goBorne_90, k_X12_goBorne_91, k_X12_goBorne_94, k_X12_goBorne_97, k_X12_goBorne_100, w_X12_goBorne_e, w_X12_goPlay_e, k28, hS, s29, s28, s7, eF, eO]
          repeat' (first | assumption | exact hPs | apply And.intro | intro _)
          all_goals first | omega | exact absurd trivial (by assumption) | exact i9 _ (by assumption) (by assumption) (by assumption) | exact Or.inr rfl
        · have ep : p = (m 5000 28).toNat := by omega
          have q8 := h σ' hT' j51 (by rw [hst, ep]; rfl)
          simp only [↓reduceIte, inR_0, inR_1, inR_m, vSw2_e, swP_n, swP_c, vI_e, vL_e, vNull_e, vIload_e, vLload_e, vAload_e, vIstore_e, vLstore_e, vAstore_e, vIinc_e, vIadd_e, vIsub_e, vImul_e, vIand_e, vIor_e, vIxor_e, vIshl_e, vIshr_e, vIushr_e, vIdiv_e, vIrem_e, vLadd_e, vLsub_e, vLmul_e, vLand_e, vLor_e, vLxor_e, vLdiv_e, vLrem_e, vLushr_e, vLshl_e, vLcmp_e, vIneg_e, vI2l_e, vL2i_e, vI2b_e, vI2c_e, vDup_e, vPop_e, vDup2_e, vGoto_e, vIcEq_e, vIfEq_e, vIcNe_e, vIfNe_e, vIcLt_e, vIfLt_e, vIcGe_e, vIfGe_e, vIcGt_e, vIfGt_e, vIcLe_e, vIfLe_e, vNonnull_e, vSw_e, vGetI_e, vGetL_e, vGetR_e, vPutI_e, vPutZ_e, vPutL_e, vPutR_e, vIald_e, vIald_s, vLald_e, vBald_e, vBald_s, vAald_e, vIast_e, vLast_e, vBast_e, vAast_e, vAlen_e8, vAlen_e9, vAlen_e10, vAlen_e11, vAlen_e5, vAlen_e3, vGets_e, vCompact_e, vLdcS_e, vIret_e, vZret_e, vCret_e, vBret_e, vLret_e, vVret_e, vAret_e, vCallM_e0, vCallMV_e0, vCallS_e0, vCallSV_e0, vCallM_e1, vCallMV_e1, vCallS_e1, vCallSV_e1, vCallM_e2, vCallMV_e2, vCallS_e2, vCallSV_e2, vCallM_e3, vCallMV_e3, vCallS_e3, vCallSV_e3, vCallM_e4, vCallMV_e4, vCallS_e4, vCallSV_e4, vCallM_e5, vCallMV_e5, vCallS_e5, vCallSV_e5, vCallM_e6, vCallMV_e6, vCallS_e6, vCallSV_e6, vCallM_e7, vCallMV_e7, vCallS_e7, vCallSV_e7, vBad_e, vStrVal_e, vStrCod_e, vForm_e, vCallT_e0, vCallT_e1, vCallT_e2, vCopy_e, rf_0_0, rf_0_1, rf_0_2, rf_0_3, rf_0_4, rf_0_7, rf_0_10, rf_0_11, rf_0_12, rf_0_13, rf_0_14, rf_0_15, rf_0_16, rf_1_0, rf_3_0, rf_3_1, rf_6_0, rf_6_1, rf_9_0, rf_9_1, rf_9_3, rf_13_0, rf_13_1, rf_13_2, rf_16_0, rf_16_1, rf_16_2, rf_16_3, rf_21_0, rf_21_1, rf_21_2, rf_21_3, rf_26_0, rf_26_1, rf_26_2, rf_26_3, rf_26_4, rf_26_5, rf_26_6, rf_31_0, rf_31_2, rf_31_5, rf_31_6, rf_36_0, rf_36_1, rf_36_2, rf_36_3, rf_39_0, rf_39_1, rf_39_2, rf_41_0, rf_41_1, rf_41_2, rf_41_3, rf_5000_1, rf_5000_2, rf_5000_3, rf_5000_4, rf_5000_5, rf_5000_15, rf_5000_16, rf_5000_18, rf_5000_19, rf_5000_20, rf_5000_21, rf_5000_22, rf_5000_23, rf_5000_24, rf_5000_25, rf_5000_26, rf_5000_27, rf_5000_36, rf_5000_37, rf_5000_40, rf_5000_41, rf_5000_42, rf_5000_43, rf_5000_44, rf_5000_45, rf_5000_47, rf_5000_52, rf_5000_54, rf_5000_55, rf_100_0, rf_100_1, rf_103_0, rf_103_1, rf_106_0, rf_106_1, rf_109_0, rf_109_1, al_2, al_4, al_5, al_7, al_8, al_10, al_11, al_12, al_14, al_15, al_17, al_18, al_19, al_20, al_22, al_23, al_24, al_25, al_27, al_28, al_29, al_30, al_32, al_33, al_34, al_35, al_37, al_38, al_40, al_42, al_5001, al_5002, al_5003, al_5004, al_5005, al_5006, al_5007, al_5008, al_5009, al_5010, al_5011, al_5012, al_5013, al_5014, al_5015, al_5016, al_5017, al_5018, al_5019, al_5020, al_5021, al_5022, al_5023, al_5024, al_5025, al_5026, al_9000, al_101, al_102, al_104, al_105, al_107, al_108, al_110, al_111, vcs_e, lg_c0, lg_cs, lg_nil, set_c0, set_cs, okst_0, okst_s, acok_n, acok_c, List.contains_nil, List.contains_cons, Bool.or_false, Bool.false_or, Bool.false_eq_true, if_false, if_true, ite_self, ne_eq, true_and, and_true, not_false_eq_true, not_true_eq_false, false_imp_iff, true_imp_iff, Nat.ble_eq, Bool.and_eq_true, reduceCtorEq, or_false, false_or, or_true, true_or, false_and, and_false, and_self, Int.reduceLE, Int.reduceAdd, Int.reduceSub, Int.reduceMul, Int.reduceNeg, Int.reduceLT, Int.reduceEq, Int.reduceNe, Nat.reduceBEq, Nat.reduceBNe, Nat.reduceEqDiff, amCmp_in, amCmp_lt, amCmp_le, amCmp_gt, amCmp_ge, amCmp_eq, amCmp_ne, Nat.reduceLeDiff, Nat.reduceSub, Bool.and_true, Bool.true_and, Bool.and_self, Bool.or_true, Bool.true_or, isRf_3, isRf_4, isRf_5, isRf_8, isRf_9, isRf_10, isRf_11, isRf_15, isRf_16, isRf_17, isRf_18, isRf_19, isRf_20, isRf_21, isRf_22, isRf_23, isRf_24, isRf_25, isRf_26, isRf_27, isRf_28, k_X12_goBorne_0, k_X12_goBorne_1, k_X12_goBorne_4, k_X12_goBorne_6, k_X12_goBorne_7, k_X12_goBorne_10, k_X12_goBorne_13, k_X12_goBorne_14, k_X12_goBorne_15, k_X12_goBorne_17, k_X12_goBorne_20, k_X12_goBorne_21, k_X12_goBorne_23, k_X12_goBorne_26, k_X12_goBorne_27, k_X12_goBorne_28, k_X12_goBorne_30, k_X12_goBorne_32, k_X12_goBorne_33, k_X12_goBorne_36, k_X12_goBorne_39, k_X12_goBorne_40, k_X12_goBorne_43, k_X12_goBorne_45, k_X12_goBorne_46, k_X12_goBorne_47, k_X12_goBorne_48, k_X12_goBorne_51, k_X12_goBorne_53, k_X12_goBorne_54, k_X12_goBorne_55, k_X12_goBorne_56, k_X12_goBorne_57, k_X12_goBorne_60, k_X12_goBorne_62, k_X12_goBorne_65, k_X12_goBorne_68, k_X12_goBorne_69, k_X12_goBorne_70, k_X12_goBorne_71, k_X12_goBorne_72, k_X12_goBorne_73, k_X12_goBorne_74, k_X12_goBorne_75, k_X12_goBorne_76, k_X12_goBorne_78, k_X12_goBorne_79, k_X12_goBorne_82, k_X12_goBorne_83, k_X12_goBorne_85, k_X12_goBorne_87, k_X12_goBorne_88, k_X12_goBorne_90, k_X12_goBorne_91, k_X12_goBorne_94, k_X12_goBorne_97, k_X12_goBorne_100, w_X12_goBorne_e, w_X12_goPlay_e, k28]
          repeat' (first | apply And.intro | intro _)
          all_goals first | omega | exact absurd trivial (by assumption) | exact q8
      · have mvb := rMv_b (p := p) (r := bnR m i e) hx ⟨by omega, by omega⟩
        have so5 : setv m 5016 (bnR m i e) 5000 = m 5000 := setv_o _ _ (by decide)
        have ob := mOu_b (setv m 5016 (bnR m i e)) 5016 p (by rw [so5]; omega) (mMi m p)
        have hs1 : ∀ x, mstI (fun p s => if mOu (setv m 5016 (bnR m i e)) 5016 p (mMi m p) = 0 then bnF m d' 0 (e + 1) (u + rMv m p (bnR m i e)) (10 * w + p) s else s) (p + 1) x = if mOu (setv m 5016 (bnR m i e)) 5016 p (mMi m p) = 0 then bnF m d' 0 (e + 1) (u + rMv m p (bnR m i e)) (10 * w + p) (mstI (fun p s => if mOu (setv m 5016 (bnR m i e)) 5016 p (mMi m p) = 0 then bnF m d' 0 (e + 1) (u + rMv m p (bnR m i e)) (10 * w + p) s else s) p x) else mstI (fun p s => if mOu (setv m 5016 (bnR m i e)) 5016 p (mMi m p) = 0 then bnF m d' 0 (e + 1) (u + rMv m p (bnR m i e)) (10 * w + p) s else s) p x := fun x => rfl
        have nx : ∀ τ, tryB m τ → InR (τ 5000 51) → (τ 5000 50, τ 5000 51) = mstI (fun p s => if mOu (setv m 5016 (bnR m i e)) 5016 p (mMi m p) = 0 then bnF m d' 0 (e + 1) (u + rMv m p (bnR m i e)) (10 * w + p) s else s) (p + 1) (σ 5000 50, σ 5000 51) → ∃ k', k' < n ∧ inv_gbo m l i e u w (σ 5000 50, σ 5000 51) d' k' 30 [(28, 5000), (0, l), (0, i), (0, e), (0, u), (0, w), (0, (p : Int) + 1)] [] τ := fun τ a b q =>
          ⟨n - 1, by omega, p + 1, rfl, Or.inl ⟨rfl, rfl, a, b, by omega, by omega, q⟩⟩
        refine ⟨60, ?_⟩
        by_cases z : mOu (setv m 5016 (bnR m i e)) 5016 p (mMi m p) = 0
        · have i9 : ∀ τ, tryB m τ → InR (τ 5000 51) → (τ 5000 50, τ 5000 51) = bnF m d' 0 (e + 1) (u + rMv m p (bnR m i e)) (10 * w + p) (σ' 5000 50, σ' 5000 51) → _ := fun τ a b q => nx τ a b (by rw [hs1, if_pos z, q, hst])
          simp only [↓reduceIte, inR_0, inR_1, inR_m, vSw2_e, swP_n, swP_c, vI_e, vL_e, vNull_e, vIload_e, vLload_e, vAload_e, vIstore_e, vLstore_e, vAstore_e, vIinc_e, vIadd_e, vIsub_e, vImul_e, vIand_e, vIor_e, vIxor_e, vIshl_e, vIshr_e, vIushr_e, vIdiv_e, vIrem_e, vLadd_e, vLsub_e, vLmul_e, vLand_e, vLor_e, vLxor_e, vLdiv_e, vLrem_e, vLushr_e, vLshl_e, vLcmp_e, vIneg_e, vI2l_e, vL2i_e, vI2b_e, vI2c_e, vDup_e, vPop_e, vDup2_e, vGoto_e, vIcEq_e, vIfEq_e, vIcNe_e, vIfNe_e, vIcLt_e, vIfLt_e, vIcGe_e, vIfGe_e, vIcGt_e, vIfGt_e, vIcLe_e, vIfLe_e, vNonnull_e, vSw_e, vGetI_e, vGetL_e, vGetR_e, vPutI_e, vPutZ_e, vPutL_e, vPutR_e, vIald_e, vIald_s, vLald_e, vBald_e, vBald_s, vAald_e, vIast_e, vLast_e, vBast_e, vAast_e, vAlen_e8, vAlen_e9, vAlen_e10, vAlen_e11, vAlen_e5, vAlen_e3, vGets_e, vCompact_e, vLdcS_e, vIret_e, vZret_e, vCret_e, vBret_e, vLret_e, vVret_e, vAret_e, vCallM_e0, vCallMV_e0, vCallS_e0, vCallSV_e0, vCallM_e1, vCallMV_e1, vCallS_e1, vCallSV_e1, vCallM_e2, vCallMV_e2, vCallS_e2, vCallSV_e2, vCallM_e3, vCallMV_e3, vCallS_e3, vCallSV_e3, vCallM_e4, vCallMV_e4, vCallS_e4, vCallSV_e4, vCallM_e5, vCallMV_e5, vCallS_e5, vCallSV_e5, vCallM_e6, vCallMV_e6, vCallS_e6, vCallSV_e6, vCallM_e7, vCallMV_e7, vCallS_e7, vCallSV_e7, vBad_e, vStrVal_e, vStrCod_e, vForm_e, vCallT_e0, vCallT_e1, vCallT_e2, vCopy_e, rf_0_0, rf_0_1, rf_0_2, rf_0_3, rf_0_4, rf_0_7, rf_0_10, rf_0_11, rf_0_12, rf_0_13, rf_0_14, rf_0_15, rf_0_16, rf_1_0, rf_3_0, rf_3_1, rf_6_0, rf_6_1, rf_9_0, rf_9_1, rf_9_3, rf_13_0, rf_13_1, rf_13_2, rf_16_0, rf_16_1, rf_16_2, rf_16_3, rf_21_0, rf_21_1, rf_21_2, rf_21_3, rf_26_0, rf_26_1, rf_26_2, rf_26_3, rf_26_4, rf_26_5, rf_26_6, rf_31_0, rf_31_2, rf_31_5, rf_31_6, rf_36_0, rf_36_1, rf_36_2, rf_36_3, rf_39_0, rf_39_1, rf_39_2, rf_41_0, rf_41_1, rf_41_2, rf_41_3, rf_5000_1, rf_5000_2, rf_5000_3, rf_5000_4, rf_5000_5, rf_5000_15, rf_5000_16, rf_5000_18, rf_5000_19, rf_5000_20, rf_5000_21, rf_5000_22, rf_5000_23, rf_5000_24, rf_5000_25, rf_5000_26, rf_5000_27, rf_5000_36, rf_5000_37, rf_5000_40, rf_5000_41, rf_5000_42, rf_5000_43, rf_5000_44, rf_5000_45, rf_5000_47, rf_5000_52, rf_5000_54, rf_5000_55, rf_100_0, rf_100_1, rf_103_0, rf_103_1, rf_106_0, rf_106_1, rf_109_0, rf_109_1, al_2, al_4, al_5, al_7, al_8, al_10, al_11, al_12, al_14, al_15, al_17, al_18, al_19, al_20, al_22, al_23, al_24, al_25, al_27, al_28, al_29, al_30, al_32, al_33, al_34, al_35, al_37, al_38, al_40, al_42, al_5001, al_5002, al_5003, al_5004, al_5005, al_5006, al_5007, al_5008, al_5009, al_5010, al_5011, al_5012, al_5013, al_5014, al_5015, al_5016, al_5017, al_5018, al_5019, al_5020, al_5021, al_5022, al_5023, al_5024, al_5025, al_5026, al_9000, al_101, al_102, al_104, al_105, al_107, al_108, al_110, al_111, vcs_e, lg_c0, lg_cs, lg_nil, set_c0, set_cs, okst_0, okst_s, acok_n, acok_c, List.contains_nil, List.contains_cons, Bool.or_false, Bool.false_or, Bool.false_eq_true, if_false, if_true, ite_self, ne_eq, true_and, and_true, not_false_eq_true, not_true_eq_false, false_imp_iff, true_imp_iff, Nat.ble_eq, Bool.and_eq_true, reduceCtorEq, or_false, false_or, or_true, true_or, false_and, and_false, and_self, Int.reduceLE, Int.reduceAdd, Int.reduceSub, Int.reduceMul, Int.reduceNeg, Int.reduceLT, Int.reduceEq, Int.reduceNe, Nat.reduceBEq, Nat.reduceBNe, Nat.reduceEqDiff, amCmp_in, amCmp_lt, amCmp_le, amCmp_gt, amCmp_ge, amCmp_eq, amCmp_ne, Nat.reduceLeDiff, Nat.reduceSub, Bool.and_true, Bool.true_and, Bool.and_self, Bool.or_true, Bool.true_or, isRf_3, isRf_4, isRf_5, isRf_8, isRf_9, isRf_10, isRf_11, isRf_15, isRf_16, isRf_17, isRf_18, isRf_19, isRf_20, isRf_21, isRf_22, isRf_23, isRf_24, isRf_25, isRf_26, isRf_27, isRf_28, k_X12_goBorne_0, k_X12_goBorne_1, k_X12_goBorne_4, k_X12_goBorne_6, k_X12_goBorne_7, k_X12_goBorne_10, k_X12_goBorne_13, k_X12_goBorne_14, k_X12_goBorne_15, k_X12_goBorne_17, k_X12_goBorne_20, k_X12_goBorne_21, k_X12_goBorne_23, k_X12_goBorne_26, k_X12_goBorne_27, k_X12_goBorne_28, k_X12_goBorne_30, k_X12_goBorne_32, k_X12_goBorne_33, k_X12_goBorne_36, k_X12_goBorne_39, k_X12_goBorne_40, k_X12_goBorne_43, k_X12_goBorne_45, k_X12_goBorne_46, k_X12_goBorne_47, k_X12_goBorne_48, k_X12_goBorne_51, k_X12_goBorne_53, k_X12_goBorne_54, k_X12_goBorne_55, k_X12_goBorne_56, k_X12_goBorne_57, k_X12_goBorne_60, k_X12_goBorne_62, k_X12_goBorne_65, k_X12_goBorne_68, k_X12_goBorne_69, k_X12_goBorne_70, k_X12_goBorne_71, k_X12_goBorne_72, k_X12_goBorne_73, k_X12_goBorne_74, k_X12_goBorne_75, k_X12_goBorne_76, k_X12_goBorne_78, k_X12_goBorne_79, k_X12_goBorne_82, k_X12_goBorne_83, k_X12_goBorne_85, k_X12_goBorne_87, k_X12_goBorne_88, k_X12_goBorne_90, k_X12_goBorne_91, k_X12_goBorne_94, k_X12_goBorne_97, k_X12_goBorne_100, w_X12_goBorne_e, w_X12_goPlay_e, z, h46, el, hd', wBo_s]
          repeat' (first | apply And.intro | intro _)
          all_goals first | omega | exact absurd trivial (by assumption) | skip
          all_goals refine ⟨m, ?_⟩
          repeat' (first | assumption | exact hx | exact hT' | exact j51 | apply And.intro | intro _)
          all_goals first | omega | exact i9 _ (by assumption) (by assumption) (by assumption)
        · have i8 := nx σ' hT' j51 (by rw [hs1, if_neg z]; exact hst)
          simp only [↓reduceIte, inR_0, inR_1, inR_m, vSw2_e, swP_n, swP_c, vI_e, vL_e, vNull_e, vIload_e, vLload_e, vAload_e, vIstore_e, vLstore_e, vAstore_e, vIinc_e, vIadd_e, vIsub_e, vImul_e, vIand_e, vIor_e, vIxor_e, vIshl_e, vIshr_e, vIushr_e, vIdiv_e, vIrem_e, vLadd_e, vLsub_e, vLmul_e, vLand_e, vLor_e, vLxor_e, vLdiv_e, vLrem_e, vLushr_e, vLshl_e, vLcmp_e, vIneg_e, vI2l_e, vL2i_e, vI2b_e, vI2c_e, vDup_e, vPop_e, vDup2_e, vGoto_e, vIcEq_e, vIfEq_e, vIcNe_e, vIfNe_e, vIcLt_e, vIfLt_e, vIcGe_e, vIfGe_e, vIcGt_e, vIfGt_e, vIcLe_e, vIfLe_e, vNonnull_e, vSw_e, vGetI_e, vGetL_e, vGetR_e, vPutI_e, vPutZ_e, vPutL_e, vPutR_e, vIald_e, vIald_s, vLald_e, vBald_e, vBald_s, vAald_e, vIast_e, vLast_e, vBast_e, vAast_e, vAlen_e8, vAlen_e9, vAlen_e10, vAlen_e11, vAlen_e5, vAlen_e3, vGets_e, vCompact_e, vLdcS_e, vIret_e, vZret_e, vCret_e, vBret_e, vLret_e, vVret_e, vAret_e, vCallM_e0, vCallMV_e0, vCallS_e0, vCallSV_e0, vCallM_e1, vCallMV_e1, vCallS_e1, vCallSV_e1, vCallM_e2, vCallMV_e2, vCallS_e2, vCallSV_e2, vCallM_e3, vCallMV_e3, vCallS_e3, vCallSV_e3, vCallM_e4, vCallMV_e4, vCallS_e4, vCallSV_e4, vCallM_e5, vCallMV_e5, vCallS_e5, vCallSV_e5, vCallM_e6, vCallMV_e6, vCallS_e6, vCallSV_e6, vCallM_e7, vCallMV_e7, vCallS_e7, vCallSV_e7, vBad_e, vStrVal_e, vStrCod_e, vForm_e, vCallT_e0, vCallT_e1, vCallT_e2, vCopy_e, rf_0_0, rf_0_1, rf_0_2, rf_0_3, rf_0_4, rf_0_7, rf_0_10, rf_0_11, rf_0_12, rf_0_13, rf_0_14, rf_0_15, rf_0_16, rf_1_0, rf_3_0, rf_3_1, rf_6_0, rf_6_1, rf_9_0, rf_9_1, rf_9_3, rf_13_0, rf_13_1, rf_13_2, rf_16_0, rf_16_1, rf_16_2, rf_16_3, rf_21_0, rf_21_1, rf_21_2, rf_21_3, rf_26_0, rf_26_1, rf_26_2, rf_26_3, rf_26_4, rf_26_5, rf_26_6, rf_31_0, rf_31_2, rf_31_5, rf_31_6, rf_36_0, rf_36_1, rf_36_2, rf_36_3, rf_39_0, rf_39_1, rf_39_2, rf_41_0, rf_41_1, rf_41_2, rf_41_3, rf_5000_1, rf_5000_2, rf_5000_3, rf_5000_4, rf_5000_5, rf_5000_15, rf_5000_16, rf_5000_18, rf_5000_19, rf_5000_20, rf_5000_21, rf_5000_22, rf_5000_23, rf_5000_24, rf_5000_25, rf_5000_26, rf_5000_27, rf_5000_36, rf_5000_37, rf_5000_40, rf_5000_41, rf_5000_42, rf_5000_43, rf_5000_44, rf_5000_45, rf_5000_47, rf_5000_52, rf_5000_54, rf_5000_55, rf_100_0, rf_100_1, rf_103_0, rf_103_1, rf_106_0, rf_106_1, rf_109_0, rf_109_1, al_2, al_4, al_5, al_7, al_8, al_10, al_11, al_12, al_14, al_15, al_17, al_18, al_19, al_20, al_22, al_23, al_24, al_25, al_27, al_28, al_29, al_30, al_32, al_33, al_34, al_35, al_37, al_38, al_40, al_42, al_5001, al_5002, al_5003, al_5004, al_5005, al_5006, al_5007, al_5008, al_5009, al_5010, al_5011, al_5012, al_5013, al_5014, al_5015, al_5016, al_5017, al_5018, al_5019, al_5020, al_5021, al_5022, al_5023, al_5024, al_5025, al_5026, al_9000, al_101, al_102, al_104, al_105, al_107, al_108, al_110, al_111, vcs_e, lg_c0, lg_cs, lg_nil, set_c0, set_cs, okst_0, okst_s, acok_n, acok_c, List.contains_nil, List.contains_cons, Bool.or_false, Bool.false_or, Bool.false_eq_true, if_false, if_true, ite_self, ne_eq, true_and, and_true, not_false_eq_true, not_true_eq_false, false_imp_iff, true_imp_iff, Nat.ble_eq, Bool.and_eq_true, reduceCtorEq, or_false, false_or, or_true, true_or, false_and, and_false, and_self, Int.reduceLE, Int.reduceAdd, Int.reduceSub, Int.reduceMul, Int.reduceNeg, Int.reduceLT, Int.reduceEq, Int.reduceNe, Nat.reduceBEq, Nat.reduceBNe, Nat.reduceEqDiff, amCmp_in, amCmp_lt, amCmp_le, amCmp_gt, amCmp_ge, amCmp_eq, amCmp_ne, Nat.reduceLeDiff, Nat.reduceSub, Bool.and_true, Bool.true_and, Bool.and_self, Bool.or_true, Bool.true_or, isRf_3, isRf_4, isRf_5, isRf_8, isRf_9, isRf_10, isRf_11, isRf_15, isRf_16, isRf_17, isRf_18, isRf_19, isRf_20, isRf_21, isRf_22, isRf_23, isRf_24, isRf_25, isRf_26, isRf_27, isRf_28, k_X12_goBorne_0, k_X12_goBorne_1, k_X12_goBorne_4, k_X12_goBorne_6, k_X12_goBorne_7, k_X12_goBorne_10, k_X12_goBorne_13, k_X12_goBorne_14, k_X12_goBorne_15, k_X12_goBorne_17, k_X12_goBorne_20, k_X12_goBorne_21, k_X12_goBorne_23, k_X12_goBorne_26, k_X12_goBorne_27, k_X12_goBorne_28, k_X12_goBorne_30, k_X12_goBorne_32, k_X12_goBorne_33, k_X12_goBorne_36, k_X12_goBorne_39, k_X12_goBorne_40, k_X12_goBorne_43, k_X12_goBorne_45, k_X12_goBorne_46, k_X12_goBorne_47, k_X12_goBorne_48, k_X12_goBorne_51, k_X12_goBorne_53, k_X12_goBorne_54, k_X12_goBorne_55, k_X12_goBorne_56, k_X12_goBorne_57, k_X12_goBorne_60, k_X12_goBorne_62, k_X12_goBorne_65, k_X12_goBorne_68, k_X12_goBorne_69, k_X12_goBorne_70, k_X12_goBorne_71, k_X12_goBorne_72, k_X12_goBorne_73, k_X12_goBorne_74, k_X12_goBorne_75, k_X12_goBorne_76, k_X12_goBorne_78, k_X12_goBorne_79, k_X12_goBorne_82, k_X12_goBorne_83, k_X12_goBorne_85, k_X12_goBorne_87, k_X12_goBorne_88, k_X12_goBorne_90, k_X12_goBorne_91, k_X12_goBorne_94, k_X12_goBorne_97, k_X12_goBorne_100, w_X12_goBorne_e, w_X12_goPlay_e, z, h46, el, hd', wBo_s]
          repeat' (first | apply And.intro | intro _)
          all_goals first | omega | exact absurd trivial (by assumption) | exact i8 | skip
    · change vcs _ _ _ _ 60 0 [(28, 5000), (0, l), (0, i), (0, e), (0, u), (0, w), (6, 0)] [] σ
      have i9 : ∃ k', inv_gbo m l i e u w (σ 5000 50, σ 5000 51) d' k' 30 [(28, 5000), (0, l), (0, i), (0, e), (0, u), (0, w), (0, 0)] [] σ := ⟨(2 * m 5000 28 + 1).toNat, 0, rfl, Or.inl ⟨rfl, rfl, hT, i51, by omega, by omega, rfl⟩⟩
      simp only [↓reduceIte, inR_0, inR_1, inR_m, vSw2_e, swP_n, swP_c, vI_e, vL_e, vNull_e, vIload_e, vLload_e, vAload_e, vIstore_e, vLstore_e, vAstore_e, vIinc_e, vIadd_e, vIsub_e, vImul_e, vIand_e, vIor_e, vIxor_e, vIshl_e, vIshr_e, vIushr_e, vIdiv_e, vIrem_e, vLadd_e, vLsub_e, vLmul_e, vLand_e, vLor_e, vLxor_e, vLdiv_e, vLrem_e, vLushr_e, vLshl_e, vLcmp_e, vIneg_e, vI2l_e, vL2i_e, vI2b_e, vI2c_e, vDup_e, vPop_e, vDup2_e, vGoto_e, vIcEq_e, vIfEq_e, vIcNe_e, vIfNe_e, vIcLt_e, vIfLt_e, vIcGe_e, vIfGe_e, vIcGt_e, vIfGt_e, vIcLe_e, vIfLe_e, vNonnull_e, vSw_e, vGetI_e, vGetL_e, vGetR_e, vPutI_e, vPutZ_e, vPutL_e, vPutR_e, vIald_e, vIald_s, vLald_e, vBald_e, vBald_s, vAald_e, vIast_e, vLast_e, vBast_e, vAast_e, vAlen_e8, vAlen_e9, vAlen_e10, vAlen_e11, vAlen_e5, vAlen_e3, vGets_e, vCompact_e, vLdcS_e, vIret_e, vZret_e, vCret_e, vBret_e, vLret_e, vVret_e, vAret_e, vCallM_e0, vCallMV_e0, vCallS_e0, vCallSV_e0, vCallM_e1, vCallMV_e1, vCallS_e1, vCallSV_e1, vCallM_e2, vCallMV_e2, vCallS_e2, vCallSV_e2, vCallM_e3, vCallMV_e3, vCallS_e3, vCallSV_e3, vCallM_e4, vCallMV_e4, vCallS_e4, vCallSV_e4, vCallM_e5, vCallMV_e5, vCallS_e5, vCallSV_e5, vCallM_e6, vCallMV_e6, vCallS_e6, vCallSV_e6, vCallM_e7, vCallMV_e7, vCallS_e7, vCallSV_e7, vBad_e, vStrVal_e, vStrCod_e, vForm_e, vCallT_e0, vCallT_e1, vCallT_e2, vCopy_e, rf_0_0, rf_0_1, rf_0_2, rf_0_3, rf_0_4, rf_0_7, rf_0_10, rf_0_11, rf_0_12, rf_0_13, rf_0_14, rf_0_15, rf_0_16, rf_1_0, rf_3_0, rf_3_1, rf_6_0, rf_6_1, rf_9_0, rf_9_1, rf_9_3, rf_13_0, rf_13_1, rf_13_2, rf_16_0, rf_16_1, rf_16_2, rf_16_3, rf_21_0, rf_21_1, rf_21_2, rf_21_3, rf_26_0, rf_26_1, rf_26_2, rf_26_3, rf_26_4, rf_26_5, rf_26_6, rf_31_0, rf_31_2, rf_31_5, rf_31_6, rf_36_0, rf_36_1, rf_36_2, rf_36_3, rf_39_0, rf_39_1, rf_39_2, rf_41_0, rf_41_1, rf_41_2, rf_41_3, rf_5000_1, rf_5000_2, rf_5000_3, rf_5000_4, rf_5000_5, rf_5000_15, rf_5000_16, rf_5000_18, rf_5000_19, rf_5000_20, rf_5000_21, rf_5000_22, rf_5000_23, rf_5000_24, rf_5000_25, rf_5000_26, rf_5000_27, rf_5000_36, rf_5000_37, rf_5000_40, rf_5000_41, rf_5000_42, rf_5000_43, rf_5000_44, rf_5000_45, rf_5000_47, rf_5000_52, rf_5000_54, rf_5000_55, rf_100_0, rf_100_1, rf_103_0, rf_103_1, rf_106_0, rf_106_1, rf_109_0, rf_109_1, al_2, al_4, al_5, al_7, al_8, al_10, al_11, al_12, al_14, al_15, al_17, al_18, al_19, al_20, al_22, al_23, al_24, al_25, al_27, al_28, al_29, al_30, al_32, al_33, al_34, al_35, al_37, al_38, al_40, al_42, al_5001, al_5002, al_5003, al_5004, al_5005, al_5006, al_5007, al_5008, al_5009, al_5010, al_5011, al_5012, al_5013, al_5014, al_5015, al_5016, al_5017, al_5018, al_5019, al_5020, al_5021, al_5022, al_5023, al_5024, al_5025, al_5026, al_9000, al_101, al_102, al_104, al_105, al_107, al_108, al_110, al_111, vcs_e, lg_c0, lg_cs, lg_nil, set_c0, set_cs, okst_0, okst_s, acok_n, acok_c, List.contains_nil, List.contains_cons, Bool.or_false, Bool.false_or, Bool.false_eq_true, if_false, if_true, ite_self, ne_eq, true_and, and_true, not_false_eq_true, not_true_eq_false, false_imp_iff, true_imp_iff, Nat.ble_eq, Bool.and_eq_true, reduceCtorEq, or_false, false_or, or_true, true_or, false_and, and_false, and_self, Int.reduceLE, Int.reduceAdd, Int.reduceSub, Int.reduceMul, Int.reduceNeg, Int.reduceLT, Int.reduceEq, Int.reduceNe, Nat.reduceBEq, Nat.reduceBNe, Nat.reduceEqDiff, amCmp_in, amCmp_lt, amCmp_le, amCmp_gt, amCmp_ge, amCmp_eq, amCmp_ne, Nat.reduceLeDiff, Nat.reduceSub, Bool.and_true, Bool.true_and, Bool.and_self, Bool.or_true, Bool.true_or, isRf_3, isRf_4, isRf_5, isRf_8, isRf_9, isRf_10, isRf_11, isRf_15, isRf_16, isRf_17, isRf_18, isRf_19, isRf_20, isRf_21, isRf_22, isRf_23, isRf_24, isRf_25, isRf_26, isRf_27, isRf_28, k_X12_goBorne_0, k_X12_goBorne_1, k_X12_goBorne_4, k_X12_goBorne_6, k_X12_goBorne_7, k_X12_goBorne_10, k_X12_goBorne_13, k_X12_goBorne_14, k_X12_goBorne_15, k_X12_goBorne_17, k_X12_goBorne_20, k_X12_goBorne_21, k_X12_goBorne_23, k_X12_goBorne_26, k_X12_goBorne_27, k_X12_goBorne_28, k_X12_goBorne_30, k_X12_goBorne_32, k_X12_goBorne_33, k_X12_goBorne_36, k_X12_goBorne_39, k_X12_goBorne_40, k_X12_goBorne_43, k_X12_goBorne_45, k_X12_goBorne_46, k_X12_goBorne_47, k_X12_goBorne_48, k_X12_goBorne_51, k_X12_goBorne_53, k_X12_goBorne_54, k_X12_goBorne_55, k_X12_goBorne_56, k_X12_goBorne_57, k_X12_goBorne_60, k_X12_goBorne_62, k_X12_goBorne_65, k_X12_goBorne_68, k_X12_goBorne_69, k_X12_goBorne_70, k_X12_goBorne_71, k_X12_goBorne_72, k_X12_goBorne_73, k_X12_goBorne_74, k_X12_goBorne_75, k_X12_goBorne_76, k_X12_goBorne_78, k_X12_goBorne_79, k_X12_goBorne_82, k_X12_goBorne_83, k_X12_goBorne_85, k_X12_goBorne_87, k_X12_goBorne_88, k_X12_goBorne_90, k_X12_goBorne_91, k_X12_goBorne_94, k_X12_goBorne_97, k_X12_goBorne_100, lne]
      repeat' (first | apply And.intro | intro _)
      all_goals first | omega | exact absurd trivial (by assumption) | exact i9
theorem wBo_w (d : Nat) (av : List AV) (σ : Mem) (Q : AV → Mem → Prop) : wBo (d + 1) av σ Q → w_X12_goBorne d av σ Q := fun h => h
theorem boS (d : Nat) : BoS d := by
  induction d with
  | zero => exact fun _ _ _ h => absurd h id
  | succ d ih =>
    intro av σ Q h
    have h9 := s_X12_goBorne d ih av σ Q (wBo_w d av σ Q h)
    rw [show 60 + (d + 1) = 61 + d by omega]; exact h9
