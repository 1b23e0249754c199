/-! the reference: HARDENS, GAMES: with the audience apart (trial 5016) -/
/-- what questions may change -/
def QF (σ τ : Mem) : Prop := (∀ b, b ≠ 5000 → b ≠ 5004 → ¬ (5016 ≤ b ∧ b ≤ 5022) → b ≠ 5025 → τ b = σ b) ∧ ∀ k, k ≠ 0 → k ≠ 5 → (k < 8 ∨ 14 < k) → k ≠ 17 → k ≠ 46 → k ≠ 50 → k ≠ 51 → τ 5000 k = σ 5000 k
theorem QF_tr {σ τ υ : Mem} (h : QF σ τ) (h' : QF τ υ) : QF σ υ := ⟨fun b h1 h2 h3 h4 => by rw [h'.1 b h1 h2 h3 h4]; exact h.1 b h1 h2 h3 h4, fun k a1 a2 a3 a4 a5 a6 a7 => by rw [h'.2 k a1 a2 a3 a4 a5 a6 a7]; exact h.2 k a1 a2 a3 a4 a5 a6 a7⟩
theorem QF_PF {σ τ : Mem} (h : PF σ τ) : QF σ τ := ⟨fun b h1 h2 h3 h4 => h.1 b h1 h2 (by omega), fun k a1 a2 a3 a4 a5 a6 a7 => h.2 k a2 a3 a4 a5⟩
theorem QF_th (σ : Mem) : QF σ (th0 σ) := ⟨fun b h1 h2 h3 h4 => th_o σ h1, fun k a1 a2 a3 a4 a5 a6 a7 => th_k σ a1⟩
theorem QF_tC (σ : Mem) : QF σ (trC σ) := ⟨fun b h1 h2 h3 h4 => by rw [trC_o σ (by omega)]; exact th_o σ h1, fun k a1 a2 a3 a4 a5 a6 a7 => by rw [trC_o σ (by decide)]; exact th_k σ a1⟩
theorem QF_up {σ τ : Mem} (h : QF σ τ) {b k v : Int} (hb : b = 5016 ∨ b = 5025) : QF σ (up τ b k v) := ⟨fun c h1 h2 h3 h4 => by rw [up_na _ (by omega)]; exact h.1 c h1 h2 h3 h4, fun j a1 a2 a3 a4 a5 a6 a7 => by rw [up_na _ (by omega)]; exact h.2 j a1 a2 a3 a4 a5 a6 a7⟩
theorem QF_rf (σ : Mem) : QF σ σ := ⟨fun _ _ _ _ _ => rfl, fun _ _ _ _ _ _ _ _ => rfl⟩
theorem PF_up16 {σ τ : Mem} (h : PF σ τ) (k v : Int) : PF (up σ 5016 k v) (up τ 5016 k v) := by
  refine ⟨fun b h1 h2 h3 => ?_, fun j h1 h2 h3 h4 => ?_⟩
  · funext i
    unfold up
    by_cases e : b = 5016 ∧ i = k
    · rw [if_pos e, if_pos e]
    · rw [if_neg e, if_neg e, h.1 b h1 h2 h3]
  · rw [up_na _ (by decide), up_na _ (by decide)]; exact h.2 j h1 h2 h3 h4
theorem aR_he {n s : Int} {r : Int → Int} {c v : Int} (n6 : n ≤ 6) (h : aR n s r) (c0 : 0 ≤ c) (c1 : c < n) (v0 : 0 ≤ v) (v1 : v ≤ 9) : aR n s (upf r (4 * c) v) := by
  obtain ⟨g1, g2, g3, g4, g5⟩ := h
  refine ⟨fun d d0 d1 => ?_, ?_, ?_, ?_, ?_⟩
  · have hd := g1 d d0 d1
    rw [upf_n2 _ (show 4 * d + 1 ≠ 4 * c by omega), upf_n2 _ (show 4 * d + 2 ≠ 4 * c by omega), upf_n2 _ (show 4 * d + 3 ≠ 4 * c by omega)]
    by_cases e : d = c
    · subst e; rw [upf_s2]; exact ⟨⟨v0, v1⟩, hd.2⟩
    · rw [upf_n2 _ (by omega)]; exact hd
  · rw [upf_n2 _ (by omega)]; exact g2
  · rw [upf_n2 _ (by omega)]; exact g3
  · rw [upf_n2 _ (by omega)]; exact g4
  · rw [upf_n2 _ (by omega)]; exact g5
theorem aR_ti {n s : Int} {r : Int → Int} {c v : Int} (n6 : n ≤ 6) (h : aR n s r) (c0 : 0 ≤ c) (c1 : c < n) (v0 : 0 ≤ v) (v1 : v < s) : aR n s (upf r (4 * c + 1) v) := by
  obtain ⟨g1, g2, g3, g4, g5⟩ := h
  refine ⟨fun d d0 d1 => ?_, ?_, ?_, ?_, ?_⟩
  · have hd := g1 d d0 d1
    rw [upf_n2 _ (show 4 * d ≠ 4 * c + 1 by omega), upf_n2 _ (show 4 * d + 2 ≠ 4 * c + 1 by omega), upf_n2 _ (show 4 * d + 3 ≠ 4 * c + 1 by omega)]
    by_cases e : d = c
    · subst e; rw [upf_s2]; exact ⟨hd.1, ⟨v0, v1⟩, hd.2.2⟩
    · rw [upf_n2 _ (by omega)]; exact hd
  · rw [upf_n2 _ (by omega)]; exact g2
  · rw [upf_n2 _ (by omega)]; exact g3
  · rw [upf_n2 _ (by omega)]; exact g4
  · rw [upf_n2 _ (by omega)]; exact g5
theorem mX_r16 {σ : Mem} (h : mX σ 5016) {k v : Int} (hr : aR (σ 5000 29) (σ 5000 30) (upf (σ 5016) k v)) : mX (up σ 5016 k v) 5016 := by
  obtain ⟨hw, hh, -⟩ := h
  refine ⟨hw, MG_mH (MG_up (MG_rf σ) hw) (mOk_up hh.1 (by omega)) (by rw [up_na _ (by decide)]; exact hh.2.2.2.2.2.2.2.2) hh, ?_⟩
  rw [up_na _ (by decide), up_row]; exact hr
/-- when CHAIR c would be led out with HEART v -/
def hdM (σ : Mem) (c p v : Int) : Int := mOa (up (trC σ) 5016 (4 * c) v) 5016 p (mMi σ p) c
def a_X12_hardens : AC := [(0, vAload 0 1), (1, vI 0 2), (2, vPutI 28 0 5), (5, vAload 0 6), (6, vIload 1 7), (7, vCallM w_X12_isChair 28 1 10), (10, vIfEq 21 13), (13, vAload 0 14), (14, vIload 2 15), (15, vCallM w_X12_isPlay 28 1 18), (18, vIfNe 23 21), (21, vI (-1) 22), (22, vIret), (23, vAload 0 24), (24, vGetR TT 28 36 8 27), (27, vAload 0 28), (28, vGetR TT 28 37 8 31), (31, vCallSV w_X12_copy 2 34), (34, vI 9 36), (36, vIstore 3 37), (37, vIload 3 38), (38, vIfLt 76 41), (41, vAload 0 42), (42, vGetR TT 28 37 8 45), (45, vI 4 46), (46, vIload 1 47), (47, vImul 48), (48, vI 0 49), (49, vIadd 50), (50, vIload 3 51), (51, vIast TT 52), (52, vAload 0 53), (53, vAload 0 54), (54, vGetR TT 28 37 8 57), (57, vIload 2 58), (58, vCallM w_X12_goPlay 28 2 61), (61, vIload 1 62), (62, vCallS w_X12_has 2 65), (65, vIfNe 70 68), (68, vIload 3 69), (69, vIret), (70, vIinc 3 (-1) 73), (73, vGoto 37), (76, vI (-1) 77), (77, vIret)]
theorem k_X12_hardens_0 : look a_X12_hardens 0 = vAload 0 1 := rfl
theorem k_X12_hardens_1 : look a_X12_hardens 1 = vI 0 2 := rfl
theorem k_X12_hardens_2 : look a_X12_hardens 2 = vPutI 28 0 5 := rfl
theorem k_X12_hardens_5 : look a_X12_hardens 5 = vAload 0 6 := rfl
theorem k_X12_hardens_6 : look a_X12_hardens 6 = vIload 1 7 := rfl
theorem k_X12_hardens_7 : look a_X12_hardens 7 = vCallM w_X12_isChair 28 1 10 := rfl
theorem k_X12_hardens_10 : look a_X12_hardens 10 = vIfEq 21 13 := rfl
theorem k_X12_hardens_13 : look a_X12_hardens 13 = vAload 0 14 := rfl
theorem k_X12_hardens_14 : look a_X12_hardens 14 = vIload 2 15 := rfl
theorem k_X12_hardens_15 : look a_X12_hardens 15 = vCallM w_X12_isPlay 28 1 18 := rfl
theorem k_X12_hardens_18 : look a_X12_hardens 18 = vIfNe 23 21 := rfl
theorem k_X12_hardens_21 : look a_X12_hardens 21 = vI (-1) 22 := rfl
theorem k_X12_hardens_22 : look a_X12_hardens 22 = vIret := rfl
theorem k_X12_hardens_23 : look a_X12_hardens 23 = vAload 0 24 := rfl
theorem k_X12_hardens_24 : look a_X12_hardens 24 = vGetR TT 28 36 8 27 := rfl
theorem k_X12_hardens_27 : look a_X12_hardens 27 = vAload 0 28 := rfl
theorem k_X12_hardens_28 : look a_X12_hardens 28 = vGetR TT 28 37 8 31 := rfl
theorem k_X12_hardens_31 : look a_X12_hardens 31 = vCallSV w_X12_copy 2 34 := rfl
theorem k_X12_hardens_34 : look a_X12_hardens 34 = vI 9 36 := rfl
theorem k_X12_hardens_36 : look a_X12_hardens 36 = vIstore 3 37 := rfl
theorem k_X12_hardens_37 : look a_X12_hardens 37 = vIload 3 38 := rfl
theorem k_X12_hardens_38 : look a_X12_hardens 38 = vIfLt 76 41 := rfl
theorem k_X12_hardens_41 : look a_X12_hardens 41 = vAload 0 42 := rfl
theorem k_X12_hardens_42 : look a_X12_hardens 42 = vGetR TT 28 37 8 45 := rfl
theorem k_X12_hardens_45 : look a_X12_hardens 45 = vI 4 46 := rfl
theorem k_X12_hardens_46 : look a_X12_hardens 46 = vIload 1 47 := rfl
theorem k_X12_hardens_47 : look a_X12_hardens 47 = vImul 48 := rfl
theorem k_X12_hardens_48 : look a_X12_hardens 48 = vI 0 49 := rfl
theorem k_X12_hardens_49 : look a_X12_hardens 49 = vIadd 50 := rfl
theorem k_X12_hardens_50 : look a_X12_hardens 50 = vIload 3 51 := rfl
theorem k_X12_hardens_51 : look a_X12_hardens 51 = vIast TT 52 := rfl
theorem k_X12_hardens_52 : look a_X12_hardens 52 = vAload 0 53 := rfl
theorem k_X12_hardens_53 : look a_X12_hardens 53 = vAload 0 54 := rfl
theorem k_X12_hardens_54 : look a_X12_hardens 54 = vGetR TT 28 37 8 57 := rfl
theorem k_X12_hardens_57 : look a_X12_hardens 57 = vIload 2 58 := rfl
theorem k_X12_hardens_58 : look a_X12_hardens 58 = vCallM w_X12_goPlay 28 2 61 := rfl
theorem k_X12_hardens_61 : look a_X12_hardens 61 = vIload 1 62 := rfl
theorem k_X12_hardens_62 : look a_X12_hardens 62 = vCallS w_X12_has 2 65 := rfl
theorem k_X12_hardens_65 : look a_X12_hardens 65 = vIfNe 70 68 := rfl
theorem k_X12_hardens_68 : look a_X12_hardens 68 = vIload 3 69 := rfl
theorem k_X12_hardens_69 : look a_X12_hardens 69 = vIret := rfl
theorem k_X12_hardens_70 : look a_X12_hardens 70 = vIinc 3 (-1) 73 := rfl
theorem k_X12_hardens_73 : look a_X12_hardens 73 = vGoto 37 := rfl
theorem k_X12_hardens_76 : look a_X12_hardens 76 = vI (-1) 77 := rfl
theorem k_X12_hardens_77 : look a_X12_hardens 77 = vIret := rfl
theorem o_X12_hardens {X : amX} (e1 : XT X = TT) (e2 : XD X = 60) (hB : amB X RX12 cX12_hardens (some .int) 4) : ∀ pc, amOK X pc (look a_X12_hardens pc) := by
  have hT : amTok (XT X) := e1 ▸ TT_ok
  refine look_ok ?_
  unfold a_X12_hardens
  refine fc (ok_aload_n hB dX12_hardens_0) ?_
  refine fc (ok_iconst hB dX12_hardens_1) ?_
  refine fc (ok_putI hB hT fp_X12_111 rfl rfl rfl af_12_0 dX12_hardens_2) ?_
  refine fc (ok_aload_n hB dX12_hardens_5) ?_
  refine fc (ok_iload_n hB dX12_hardens_6) ?_
  refine fc (ok_callM hB hT (e1 ▸ s_X12_isChair) lk_X12_371 (by rw [e2]; decide) (c := 12) rfl rfl rfl wd_1661 sl_X12_isChair dX12_hardens_7) ?_
  refine fc (ok_if_eq hB (t := 21) (by decide) dX12_hardens_10) ?_
  refine fc (ok_aload_n hB dX12_hardens_13) ?_
  refine fc (ok_iload_n hB dX12_hardens_14) ?_
  refine fc (ok_callM hB hT (e1 ▸ s_X12_isPlay) lk_X12_366 (by rw [e2]; decide) (c := 12) rfl rfl rfl wd_1652 sl_X12_isPlay dX12_hardens_15) ?_
  refine fc (ok_if_ne hB (t := 23) (by decide) dX12_hardens_18) ?_
  refine fc (ok_iconst hB dX12_hardens_21) ?_
  refine fc (ok_iret hB dX12_hardens_22) ?_
  refine fc (ok_aload_n hB dX12_hardens_23) ?_
  refine fc (okt_getR e1 hB hT fl_X12_67 rfl af_12_36 at_12_36 (by decide) dX12_hardens_24) ?_
  refine fc (ok_aload_n hB dX12_hardens_27) ?_
  refine fc (okt_getR e1 hB hT fl_X12_70 rfl af_12_37 at_12_37 (by decide) dX12_hardens_28) ?_
  refine fc (ok_callSV hB (e1 ▸ s_X12_copy) lk_X12_419 (by rw [e2]; decide) wd_1790 dX12_hardens_31) ?_
  refine fc (ok_bipush hB dX12_hardens_34 (by decide)) ?_
  refine fc (ok_istore_n hB (by decide) dX12_hardens_36) ?_
  refine fc (ok_iload_n hB dX12_hardens_37) ?_
  refine fc (ok_if_lt hB (t := 76) (by decide) dX12_hardens_38) ?_
  refine fc (ok_aload_n hB dX12_hardens_41) ?_
  refine fc (okt_getR e1 hB hT fl_X12_70 rfl af_12_37 at_12_37 (by decide) dX12_hardens_42) ?_
  refine fc (ok_iconst hB dX12_hardens_45) ?_
  refine fc (ok_iload_n hB dX12_hardens_46) ?_
  refine fc (ok_imul hB dX12_hardens_47) ?_
  refine fc (ok_iconst hB dX12_hardens_48) ?_
  refine fc (ok_iadd hB dX12_hardens_49) ?_
  refine fc (ok_iload_n hB dX12_hardens_50) ?_
  refine fc (okt_iastore e1 hB dX12_hardens_51) ?_
  refine fc (ok_aload_n hB dX12_hardens_52) ?_
  refine fc (ok_aload_n hB dX12_hardens_53) ?_
  refine fc (okt_getR e1 hB hT fl_X12_70 rfl af_12_37 at_12_37 (by decide) dX12_hardens_54) ?_
  refine fc (ok_iload_n hB dX12_hardens_57) ?_
  refine fc (ok_callM hB hT (e1 ▸ s_X12_goPlay) lk_X12_362 (by rw [e2]; decide) (c := 12) rfl rfl rfl wd_1698 sl_X12_goPlay dX12_hardens_58) ?_
  refine fc (ok_iload_n hB dX12_hardens_61) ?_
  refine fc (ok_callS hB (e1 ▸ s_X12_has) lk_X12_244 (by rw [e2]; decide) wd_1538 dX12_hardens_62) ?_
  refine fc (ok_if_ne hB (t := 70) (by decide) dX12_hardens_65) ?_
  refine fc (ok_iload_n hB dX12_hardens_68) ?_
  refine fc (ok_iret hB dX12_hardens_69) ?_
  refine fc (ok_iinc hB (by decide) dX12_hardens_70) ?_
  refine fc (ok_goto hB (t := 37) (by decide) dX12_hardens_73) ?_
  refine fc (ok_iconst hB dX12_hardens_76) ?_
  refine fc (ok_iret hB dX12_hardens_77) ?_
  exact fn
def inv_hdm (σ : Mem) (c p R : Int) (n pc : Nat) (ls st : List AV) (σ' : Mem) : Prop := pc = 37 ∧ st = [] ∧ (0 ≤ c ∧ c < σ 5000 29 ∧ 0 ≤ p ∧ p < σ 5000 28) ∧ n ≤ 10 ∧ ls = [(28, 5000), (0, c), (0, p), (0, (n : Int) - 1)] ∧ (∃ h s : Int, (σ' = trC σ ∨ PF (up (trC σ) 5016 (4 * c) h) σ')) ∧ mOk σ' ∧ hdR (hdM σ c p) n = R
def w_X12_hardens : WP := fun av σ Q => ∃ (c : Int) (p : Int), av = [(28, 5000), (0, c), (0, p)] ∧ (InR c ∧ InR p ∧ mX σ 5015 ∧ (¬ (0 ≤ c ∧ c < σ 5000 29 ∧ 0 ≤ p ∧ p < σ 5000 28) → Q (0, -1) (th0 σ)) ∧ (0 ≤ c ∧ c < σ 5000 29 ∧ 0 ≤ p ∧ p < σ 5000 28 → ∀ τ, QF σ τ → mOk τ → Q (0, hdR (hdM σ c p) 10) τ))
theorem w_X12_hardens_e (c : Int) (p : Int) (σ : Mem) (Q : AV → Mem → Prop) : w_X12_hardens [(28, 5000), (0, c), (0, p)] σ Q = (InR c ∧ InR p ∧ mX σ 5015 ∧ (¬ (0 ≤ c ∧ c < σ 5000 29 ∧ 0 ≤ p ∧ p < σ 5000 28) → Q (0, -1) (th0 σ)) ∧ (0 ≤ c ∧ c < σ 5000 29 ∧ 0 ≤ p ∧ p < σ 5000 28 → ∀ τ, QF σ τ → mOk τ → Q (0, hdR (hdM σ c p) 10) τ)) := by
  apply propext; constructor
  · rintro ⟨c', p', h9, hb9⟩; cases h9; exact hb9
  · intro hb9; exact ⟨c, p, rfl, hb9⟩

set_option maxRecDepth 100000 in
set_option maxHeartbeats 4000000 in
theorem s_X12_hardens : ∀ av σ Q, w_X12_hardens av σ Q → amCall 60 0 0 TT yX12_hardens cX12_hardens 4 (some .int) av σ Q := by
  rintro av σ Q ⟨c, p, rfl, hc, hp, hx, h1, h2⟩
  have e28 : th0 σ 5000 28 = σ 5000 28 := th_k σ (by decide)
  have e29 : th0 σ 5000 29 = σ 5000 29 := th_k σ (by decide)
  have t15 : th0 σ 5015 = σ 5015 := th_o σ (by decide)
  have n29 := hx.2.1.2.2.1
  have n28 := hx.2.1.2.2.2.2.1
  have l27 := hx.2.2.2.2.2.2
  have hxt := mX_trC hx
  have k5 : ∀ k, k ≠ 0 → trC σ 5000 k = σ 5000 k := fun k hk => by rw [trC_o σ (by decide)]; exact th_k σ hk
  have k7 : trC σ 5007 = σ 5007 := by rw [trC_o σ (by decide)]; exact th_o σ (by decide)
  generalize hR : hdR (hdM σ c p) 10 = R at *
  refine am_m [37] (inv_hdm σ c p R) (own := RX12) (A := look a_X12_hardens) (fun X e1 e2 hB => o_X12_hardens e1 e2 hB) rfl (by decide +kernel) rfl rfl ?_ ⟨60, ?_⟩ (w := 4)
  · rintro n pc ls st σ' ⟨rfl, rfl, hcd, hn, rfl, ⟨h, -, hs⟩, hm, hr⟩
    have hQ : QF σ σ' := by
      rcases hs with rfl | hs
      · exact QF_tC σ
      · exact QF_tr (QF_up (QF_tC σ) (Or.inl rfl)) (QF_PF hs)
    cases n with
    | zero =>
      have q8 := h2 hcd σ' hQ hm
      rw [← hr] at q8
      unfold hdR at q8
      refine ⟨60, ?_⟩
      simp only [↓reduceIte, inR_0, inR_1, inR_m, vSw2_e, swP_n, swP_c, vI_e, vL_e, vNull_e, vIload_e, vLload_e, vAload_e, vIstore_e, vLstore_e, vAstore_e, vIinc_e, vIadd_e, vIsub_e, vImul_e, vIand_e, vIor_e, vIxor_e, vIshl_e, vIshr_e, vIushr_e, vIdiv_e, vIrem_e, vLadd_e, vLsub_e, vLmul_e, vLand_e, vLor_e, vLxor_e, vLdiv_e, vLrem_e, vLushr_e, vLshl_e, vLcmp_e, vIneg_e, vI2l_e, vL2i_e, vI2b_e, vI2c_e, vDup_e, vPop_e, vDup2_e, vGoto_e, vIcEq_e, vIfEq_e, vIcNe_e, vIfNe_e, vIcLt_e, vIfLt_e, vIcGe_e, vIfGe_e, vIcGt_e, vIfGt_e, vIcLe_e, vIfLe_e, vNonnull_e, vSw_e, vGetI_e, vGetL_e, vGetR_e, vPutI_e, vPutZ_e, vPutL_e, vPutR_e, vIald_e, vIald_s, vLald_e, vBald_e, vBald_s, vAald_e, vIast_e, vLast_e, vBast_e, vAast_e, vAlen_e8, vAlen_e9, vAlen_e10, vAlen_e11, vAlen_e5, vAlen_e3, vGets_e, vCompact_e, vLdcS_e, vIret_e, vZret_e, vCret_e, vBret_e, vLret_e, vVret_e, vAret_e, vCallM_e0, vCallMV_e0, vCallS_e0, vCallSV_e0, vCallM_e1, vCallMV_e1, vCallS_e1, vCallSV_e1, vCallM_e2, vCallMV_e2, vCallS_e2, vCallSV_e2, vCallM_e3, vCallMV_e3, vCallS_e3, vCallSV_e3, vCallM_e4, vCallMV_e4, vCallS_e4, vCallSV_e4, vCallM_e5, vCallMV_e5, vCallS_e5, vCallSV_e5, vCallM_e6, vCallMV_e6, vCallS_e6, vCallSV_e6, vCallM_e7, vCallMV_e7, vCallS_e7, vCallSV_e7, vBad_e, vStrVal_e, vStrCod_e, vForm_e, vCallT_e0, vCallT_e1, vCallT_e2, vCopy_e, rf_0_0, rf_0_1, rf_0_2, rf_0_3, rf_0_4, rf_0_7, rf_0_10, rf_0_11, rf_0_12, rf_0_13, rf_0_14, rf_0_15, rf_0_16, rf_1_0, rf_3_0, rf_3_1, rf_6_0, rf_6_1, rf_9_0, rf_9_1, rf_9_3, rf_13_0, rf_13_1, rf_13_2, rf_16_0, rf_16_1, rf_16_2, rf_16_3, rf_21_0, rf_21_1, rf_21_2, rf_21_3, rf_26_0, rf_26_1, rf_26_2, rf_26_3, rf_26_4, rf_26_5, rf_26_6, rf_31_0, rf_31_2, rf_31_5, rf_31_6, rf_36_0, rf_36_1, rf_36_2, rf_36_3, rf_39_0, rf_39_1, rf_39_2, rf_41_0, rf_41_1, rf_41_2, rf_41_3, rf_5000_1, rf_5000_2, rf_5000_3, rf_5000_4, rf_5000_5, rf_5000_15, rf_5000_16, rf_5000_18, rf_5000_19, rf_5000_20, rf_5000_21, rf_5000_22, rf_5000_23, rf_5000_24, rf_5000_25, rf_5000_26, rf_5000_27, rf_5000_36, rf_5000_37, rf_5000_40, rf_5000_41, rf_5000_42, rf_5000_43, rf_5000_44, rf_5000_45, rf_5000_47, rf_5000_52, rf_5000_54, rf_5000_55, rf_100_0, rf_100_1, rf_103_0, rf_103_1, rf_106_0, rf_106_1, rf_109_0, rf_109_1, al_2, al_4, al_5, al_7, al_8, al_10, al_11, al_12, al_14, al_15, al_17, al_18, al_19, al_20, al_22, al_23, al_24, al_25, al_27, al_28, al_29, al_30, al_32, al_33, al_34, al_35, al_37, al_38, al_40, al_42, al_5001, al_5002, al_5003, al_5004, al_5005, al_5006, al_5007, al_5008, al_5009, al_5010, al_5011, al_5012, al_5013, al_5014, al_5015, al_5016, al_5017, al_5018, al_5019, al_5020, al_5021, al_5022, al_5023, al_5024, al_5025, al_5026, al_9000, al_101, al_102, al_104, al_105, al_107, al_108, al_110, al_111, vcs_e, lg_c0, lg_cs, lg_nil, set_c0, set_cs, okst_0, okst_s, acok_n, acok_c, List.contains_nil, List.contains_cons, Bool.or_false, Bool.false_or, Bool.false_eq_true, if_false, if_true, ite_self, ne_eq, true_and, and_true, not_false_eq_true, not_true_eq_false, false_imp_iff, true_imp_iff, Nat.ble_eq, Bool.and_eq_true, reduceCtorEq, or_false, false_or, or_true, true_or, false_and, and_false, and_self, Int.reduceLE, Int.reduceAdd, Int.reduceSub, Int.reduceMul, Int.reduceNeg, Int.reduceLT, Int.reduceEq, Int.reduceNe, Nat.reduceBEq, Nat.reduceBNe, Nat.reduceEqDiff, amCmp_in, amCmp_lt, amCmp_le, amCmp_gt, amCmp_ge, amCmp_eq, amCmp_ne, Nat.reduceLeDiff, Nat.reduceSub, Bool.and_true, Bool.true_and, Bool.and_self, Bool.or_true, Bool.true_or, isRf_3, isRf_4, isRf_5, isRf_8, isRf_9, isRf_10, isRf_11, isRf_15, isRf_16, isRf_17, isRf_18, isRf_19, isRf_20, isRf_21, isRf_22, isRf_23, isRf_24, isRf_25, isRf_26, isRf_27, isRf_28, k_X12_hardens_0, k_X12_hardens_1, k_X12_hardens_2, k_X12_hardens_5, k_X12_hardens_6, k_X12_hardens_7, k_X12_hardens_10, k_X12_hardens_13, k_X12_hardens_14, k_X12_hardens_15, k_X12_hardens_18, k_X12_hardens_21, k_X12_hardens_22, k_X12_hardens_23, k_X12_hardens_24, k_X12_hardens_27, k_X12_hardens_28, k_X12_hardens_31, k_X12_hardens_34, k_X12_hardens_36, k_X12_hardens_37, k_X12_hardens_38, k_X12_hardens_41, k_X12_hardens_42, k_X12_hardens_45, k_X12_hardens_46, k_X12_hardens_47, k_X12_hardens_48, k_X12_hardens_49, k_X12_hardens_50, k_X12_hardens_51, k_X12_hardens_52, k_X12_hardens_53, k_X12_hardens_54, k_X12_hardens_57, k_X12_hardens_58, k_X12_hardens_61, k_X12_hardens_62, k_X12_hardens_65, k_X12_hardens_68, k_X12_hardens_69, k_X12_hardens_70, k_X12_hardens_73, k_X12_hardens_76, k_X12_hardens_77]
      repeat' (first | apply And.intro | intro _)
      all_goals first | omega | exact absurd trivial (by assumption) | exact q8
    | succ n =>
      -- with HEART n
      have hPn : PF (up (trC σ) 5016 (4 * c) n) (up σ' 5016 (4 * c) n) := by
        rcases hs with rfl | hs
        · exact PF_rf _
        · have := PF_up16 hs (4 * c) n
          rw [up_up] at this; exact this
      have hmu : mOk (up σ' 5016 (4 * c) n) := mOk_up hm (by decide)
      have hxn : mX (up (trC σ) 5016 (4 * c) n) 5016 := mX_r16 hxt (by
        rw [k5 29 (by decide), k5 30 (by decide)]
        have hrr := hxt.2.2
        rw [k5 29 (by decide), k5 30 (by decide)] at hrr
        exact aR_he n29.2 hrr hcd.1 hcd.2.1 (by omega) (by omega))
      have hPs := PF_mP hPn hmu (mX_P hxn)
      have g29 : up σ' 5016 (4 * c) n 5000 29 = σ 5000 29 := by rw [hPn.2 29 (by decide) (by decide) (by decide) (by decide), up_na _ (by decide)]; exact k5 29 (by decide)
      have g28 : up σ' 5016 (4 * c) n 5000 28 = σ 5000 28 := by rw [hPn.2 28 (by decide) (by decide) (by decide) (by decide), up_na _ (by decide)]; exact k5 28 (by decide)
      have g7 : up σ' 5016 (4 * c) n 5007 = σ 5007 := by rw [PF_r hPn (by decide), up_na _ (by decide)]; exact k7
      have hM9 := hx.2.1.2.2.2.2.2.1 (4 * p + 3) (by omega) (by omega)
      -- what is played by the changed memory is what is played by the first one
      have eO : ∀ k : Nat, mOu (up σ' 5016 (4 * c) n) 5016 p k = mOu (up (trC σ) 5016 (4 * c) n) 5016 p k := by
        intro k
        induction k with
        | zero => rfl
        | succ k ih =>
          unfold mOu
          rw [ih, hPn.2 29 (by decide) (by decide) (by decide) (by decide), PF_r hPn (b := 5005) (by decide)]
          refine gb_c (fun i _ _ => ?_)
          rw [PF_mMn hPn (Or.inr rfl)]
      have eA : ∀ k : Nat, mOa (up σ' 5016 (4 * c) n) 5016 p k c = mOa (up (trC σ) 5016 (4 * c) n) 5016 p k c := by
        intro k
        induction k with
        | zero => rfl
        | succ k ih =>
          unfold mOa
          rw [ih, eO, PF_r hPn (b := 5005) (by decide), PF_mMn hPn (Or.inr rfl)]
      have ob := mOu_b (up σ' 5016 (4 * c) n) 5016 p (by rw [g29]; omega) (mMi σ p)
      have b01 := bt_b (mOu (up σ' 5016 (4 * c) n) 5016 p (mMi σ p)) c
      have oo := mOu_oa (σ := up σ' 5016 (4 * c) n) (w := 5016) (p := p) (by rw [g29]; omega) hcd.1 (by rw [g29]; exact hcd.2.1) (mMi σ p)
      rw [eA] at oo
      have hh : hdR (hdM σ c p) (n + 1) = if hdM σ c p n = -1 then (n : Int) else hdR (hdM σ c p) n := rfl
      rw [hh] at hr
      have f1 : bt (mOu (up σ' 5016 (4 * c) n) 5016 p (mMi σ p)) c = 0 → ∀ τ, PF (up σ' 5016 (4 * c) n) τ → mOk τ → Q (0, (n : Int)) τ := fun q τ a b => by
        have z : hdM σ c p n = -1 := by
          by_cases z : hdM σ c p n = -1
          · exact z
          · have := oo.mpr z; omega
        rw [if_pos z] at hr
        have := h2 hcd τ (QF_tr (QF_up hQ (Or.inl rfl)) (QF_PF a)) b
        rw [← hr] at this; exact this
      have f2 : ¬ bt (mOu (up σ' 5016 (4 * c) n) 5016 p (mMi σ p)) c = 0 → ∀ τ, PF (up σ' 5016 (4 * c) n) τ → mOk τ → ∃ k', k' < n + 1 ∧ inv_hdm σ c p R k' 37 [(28, 5000), (0, c), (0, p), (0, (n : Int) + -1)] [] τ := fun q τ a b => by
        have z : hdM σ c p n ≠ -1 := oo.mp (by omega)
        rw [if_neg z] at hr
        exact ⟨n, by omega, rfl, rfl, hcd, by omega, rfl, ⟨n, 0, Or.inr (PF_tr hPn a)⟩, b, hr⟩
      unfold mMi at ob b01 f1 f2
      have en : ((n + 1 : Nat) : Int) - 1 = n := by omega
      refine ⟨60, ?_⟩
      simp only [↓reduceIte, inR_0, inR_1, inR_m, vSw2_e, swP_n, swP_c, vI_e, vL_e, vNull_e, vIload_e, vLload_e, vAload_e, vIstore_e, vLstore_e, vAstore_e, vIinc_e, vIadd_e, vIsub_e, vImul_e, vIand_e, vIor_e, vIxor_e, vIshl_e, vIshr_e, vIushr_e, vIdiv_e, vIrem_e, vLadd_e, vLsub_e, vLmul_e, vLand_e, vLor_e, vLxor_e, vLdiv_e, vLrem_e, vLushr_e, vLshl_e, vLcmp_e, vIneg_e, vI2l_e, vL2i_e, vI2b_e, vI2c_e, vDup_e, vPop_e, vDup2_e, vGoto_e, vIcEq_e, vIfEq_e, vIcNe_e, vIfNe_e, vIcLt_e, vIfLt_e, vIcGe_e, vIfGe_e, vIcGt_e, vIfGt_e, vIcLe_e, vIfLe_e, vNonnull_e, vSw_e, vGetI_e, vGetL_e, vGetR_e, vPutI_e, vPutZ_e, vPutL_e, vPutR_e, vIald_e, vIald_s, vLald_e, vBald_e, vBald_s, vAald_e, vIast_e, vLast_e, vBast_e, vAast_e, vAlen_e8, vAlen_e9, vAlen_e10, vAlen_e11, vAlen_e5, vAlen_e3, vGets_e, vCompact_e, vLdcS_e, vIret_e, vZret_e, vCret_e, vBret_e, vLret_e, vVret_e, vAret_e, vCallM_e0, vCallMV_e0, vCallS_e0, vCallSV_e0, vCallM_e1, vCallMV_e1, vCallS_e1, vCallSV_e1, vCallM_e2, vCallMV_e2, vCallS_e2, vCallSV_e2, vCallM_e3, vCallMV_e3, vCallS_e3, vCallSV_e3, vCallM_e4, vCallMV_e4, vCallS_e4, vCallSV_e4, vCallM_e5, vCallMV_e5, vCallS_e5, vCallSV_e5, vCallM_e6, vCallMV_e6, vCallS_e6, vCallSV_e6, vCallM_e7, vCallMV_e7, vCallS_e7, vCallSV_e7, vBad_e, vStrVal_e, vStrCod_e, vForm_e, vCallT_e0, vCallT_e1, vCallT_e2, vCopy_e, rf_0_0, rf_0_1, rf_0_2, rf_0_3, rf_0_4, rf_0_7, rf_0_10, rf_0_11, rf_0_12, rf_0_13, rf_0_14, rf_0_15, rf_0_16, rf_1_0, rf_3_0, rf_3_1, rf_6_0, rf_6_1, rf_9_0, rf_9_1, rf_9_3, rf_13_0, rf_13_1, rf_13_2, rf_16_0, rf_16_1, rf_16_2, rf_16_3, rf_21_0, rf_21_1, rf_21_2, rf_21_3, rf_26_0, rf_26_1, rf_26_2, rf_26_3, rf_26_4, rf_26_5, rf_26_6, rf_31_0, rf_31_2, rf_31_5, rf_31_6, rf_36_0, rf_36_1, rf_36_2, rf_36_3, rf_39_0, rf_39_1, rf_39_2, rf_41_0, rf_41_1, rf_41_2, rf_41_3, rf_5000_1, rf_5000_2, rf_5000_3, rf_5000_4, rf_5000_5, rf_5000_15, rf_5000_16, rf_5000_18, rf_5000_19, rf_5000_20, rf_5000_21, rf_5000_22, rf_5000_23, rf_5000_24, rf_5000_25, rf_5000_26, rf_5000_27, rf_5000_36, rf_5000_37, rf_5000_40, rf_5000_41, rf_5000_42, rf_5000_43, rf_5000_44, rf_5000_45, rf_5000_47, rf_5000_52, rf_5000_54, rf_5000_55, rf_100_0, rf_100_1, rf_103_0, rf_103_1, rf_106_0, rf_106_1, rf_109_0, rf_109_1, al_2, al_4, al_5, al_7, al_8, al_10, al_11, al_12, al_14, al_15, al_17, al_18, al_19, al_20, al_22, al_23, al_24, al_25, al_27, al_28, al_29, al_30, al_32, al_33, al_34, al_35, al_37, al_38, al_40, al_42, al_5001, al_5002, al_5003, al_5004, al_5005, al_5006, al_5007, al_5008, al_5009, al_5010, al_5011, al_5012, al_5013, al_5014, al_5015, al_5016, al_5017, al_5018, al_5019, al_5020, al_5021, al_5022, al_5023, al_5024, al_5025, al_5026, al_9000, al_101, al_102, al_104, al_105, al_107, al_108, al_110, al_111, vcs_e, lg_c0, lg_cs, lg_nil, set_c0, set_cs, okst_0, okst_s, acok_n, acok_c, List.contains_nil, List.contains_cons, Bool.or_false, Bool.false_or, Bool.false_eq_true, if_false, if_true, ite_self, ne_eq, true_and, and_true, not_false_eq_true, not_true_eq_false, false_imp_iff, true_imp_iff, Nat.ble_eq, Bool.and_eq_true, reduceCtorEq, or_false, false_or, or_true, true_or, false_and, and_false, and_self, Int.reduceLE, Int.reduceAdd, Int.reduceSub, Int.reduceMul, Int.reduceNeg, Int.reduceLT, Int.reduceEq, Int.reduceNe, Nat.reduceBEq, Nat.reduceBNe, Nat.reduceEqDiff, amCmp_in, amCmp_lt, amCmp_le, amCmp_gt, amCmp_ge, amCmp_eq, amCmp_ne, Nat.reduceLeDiff, Nat.reduceSub, Bool.and_true, Bool.true_and, Bool.and_self, Bool.or_true, Bool.true_or, isRf_3, isRf_4, isRf_5, isRf_8, isRf_9, isRf_10, isRf_11, isRf_15, isRf_16, isRf_17, isRf_18, isRf_19, isRf_20, isRf_21, isRf_22, isRf_23, isRf_24, isRf_25, isRf_26, isRf_27, isRf_28, k_X12_hardens_0, k_X12_hardens_1, k_X12_hardens_2, k_X12_hardens_5, k_X12_hardens_6, k_X12_hardens_7, k_X12_hardens_10, k_X12_hardens_13, k_X12_hardens_14, k_X12_hardens_15, k_X12_hardens_18, k_X12_hardens_21, k_X12_hardens_22, k_X12_hardens_23, k_X12_hardens_24, k_X12_hardens_27, k_X12_hardens_28, k_X12_hardens_31, k_X12_hardens_34, k_X12_hardens_36, k_X12_hardens_37, k_X12_hardens_38, k_X12_hardens_41, k_X12_hardens_42, k_X12_hardens_45, k_X12_hardens_46, k_X12_hardens_47, k_X12_hardens_48, k_X12_hardens_49, k_X12_hardens_50, k_X12_hardens_51, k_X12_hardens_52, k_X12_hardens_53, k_X12_hardens_54, k_X12_hardens_57, k_X12_hardens_58, k_X12_hardens_61, k_X12_hardens_62, k_X12_hardens_65, k_X12_hardens_68, k_X12_hardens_69, k_X12_hardens_70, k_X12_hardens_73, k_X12_hardens_76, k_X12_hardens_77, w_X12_copy_e, w_X12_goPlay_e, w_X12_has_e, w_X12_isChair_e, w_X12_isPlay_e, en, g7, g28, Int.add_zero]
      repeat' (first | assumption | exact hPs | apply And.intro | intro _)
      all_goals first | omega | exact absurd trivial (by assumption) | exact f1 (by assumption) _ (by assumption) (by assumption) | exact f2 (by assumption) _ (by assumption) (by assumption)
  · change vcs _ _ _ _ 60 0 [(28, 5000), (0, c), (0, p), (6, 0)] [] σ
    have et : cpy (th0 σ) 5015 0 5016 0 (28 + 3 * σ 5015 27) = trC σ := rfl
    by_cases d : 0 ≤ c ∧ c < σ 5000 29
    · by_cases g : 0 ≤ p ∧ p < σ 5000 28
      · have i9 : ∃ k', inv_hdm σ c p R k' 37 [(28, 5000), (0, c), (0, p), (0, 9)] [] (trC σ) := ⟨10, rfl, rfl, ⟨d.1, d.2, g.1, g.2⟩, by omega, rfl, ⟨0, 0, Or.inl rfl⟩, hxt.2.1.1, hR⟩
        simp only [↓reduceIte, inR_0, inR_1, inR_m, vSw2_e, swP_n, swP_c, vI_e, vL_e, vNull_e, vIload_e, vLload_e, vAload_e, vIstore_e, vLstore_e, vAstore_e, vIinc_e, vIadd_e, vIsub_e, vImul_e, vIand_e, vIor_e, vIxor_e, vIshl_e, vIshr_e, vIushr_e, vIdiv_e, vIrem_e, vLadd_e, vLsub_e, vLmul_e, vLand_e, vLor_e, vLxor_e, vLdiv_e, vLrem_e, vLushr_e, vLshl_e, vLcmp_e, vIneg_e, vI2l_e, vL2i_e, vI2b_e, vI2c_e, vDup_e, vPop_e, vDup2_e, vGoto_e, vIcEq_e, vIfEq_e, vIcNe_e, vIfNe_e, vIcLt_e, vIfLt_e, vIcGe_e, vIfGe_e, vIcGt_e, vIfGt_e, vIcLe_e, vIfLe_e, vNonnull_e, vSw_e, vGetI_e, vGetL_e, vGetR_e, vPutI_e, vPutZ_e, vPutL_e, vPutR_e, vIald_e, vIald_s, vLald_e, vBald_e, vBald_s, vAald_e, vIast_e, vLast_e, vBast_e, vAast_e, vAlen_e8, vAlen_e9, vAlen_e10, vAlen_e11, vAlen_e5, vAlen_e3, vGets_e, vCompact_e, vLdcS_e, vIret_e, vZret_e, vCret_e, vBret_e, vLret_e, vVret_e, vAret_e, vCallM_e0, vCallMV_e0, vCallS_e0, vCallSV_e0, vCallM_e1, vCallMV_e1, vCallS_e1, vCallSV_e1, vCallM_e2, vCallMV_e2, vCallS_e2, vCallSV_e2, vCallM_e3, vCallMV_e3, vCallS_e3, vCallSV_e3, vCallM_e4, vCallMV_e4, vCallS_e4, vCallSV_e4, vCallM_e5, vCallMV_e5, vCallS_e5, vCallSV_e5, vCallM_e6, vCallMV_e6, vCallS_e6, vCallSV_e6, vCallM_e7, vCallMV_e7, vCallS_e7, vCallSV_e7, vBad_e, vStrVal_e, vStrCod_e, vForm_e, vCallT_e0, vCallT_e1, vCallT_e2, vCopy_e, rf_0_0, rf_0_1, rf_0_2, rf_0_3, rf_0_4, rf_0_7, rf_0_10, rf_0_11, rf_0_12, rf_0_13, rf_0_14, rf_0_15, rf_0_16, rf_1_0, rf_3_0, rf_3_1, rf_6_0, rf_6_1, rf_9_0, rf_9_1, rf_9_3, rf_13_0, rf_13_1, rf_13_2, rf_16_0, rf_16_1, rf_16_2, rf_16_3, rf_21_0, rf_21_1, rf_21_2, rf_21_3, rf_26_0, rf_26_1, rf_26_2, rf_26_3, rf_26_4, rf_26_5, rf_26_6, rf_31_0, rf_31_2, rf_31_5, rf_31_6, rf_36_0, rf_36_1, rf_36_2, rf_36_3, rf_39_0, rf_39_1, rf_39_2, rf_41_0, rf_41_1, rf_41_2, rf_41_3, rf_5000_1, rf_5000_2, rf_5000_3, rf_5000_4, rf_5000_5, rf_5000_15, rf_5000_16, rf_5000_18, rf_5000_19, rf_5000_20, rf_5000_21, rf_5000_22, rf_5000_23, rf_5000_24, rf_5000_25, rf_5000_26, rf_5000_27, rf_5000_36, rf_5000_37, rf_5000_40, rf_5000_41, rf_5000_42, rf_5000_43, rf_5000_44, rf_5000_45, rf_5000_47, rf_5000_52, rf_5000_54, rf_5000_55, rf_100_0, rf_100_1, rf_103_0, rf_103_1, rf_106_0, rf_106_1, rf_109_0, rf_109_1, al_2, al_4, al_5, al_7, al_8, al_10, al_11, al_12, al_14, al_15, al_17, al_18, al_19, al_20, al_22, al_23, al_24, al_25, al_27, al_28, al_29, al_30, al_32, al_33, al_34, al_35, al_37, al_38, al_40, al_42, al_5001, al_5002, al_5003, al_5004, al_5005, al_5006, al_5007, al_5008, al_5009, al_5010, al_5011, al_5012, al_5013, al_5014, al_5015, al_5016, al_5017, al_5018, al_5019, al_5020, al_5021, al_5022, al_5023, al_5024, al_5025, al_5026, al_9000, al_101, al_102, al_104, al_105, al_107, al_108, al_110, al_111, vcs_e, lg_c0, lg_cs, lg_nil, set_c0, set_cs, okst_0, okst_s, acok_n, acok_c, List.contains_nil, List.contains_cons, Bool.or_false, Bool.false_or, Bool.false_eq_true, if_false, if_true, ite_self, ne_eq, true_and, and_true, not_false_eq_true, not_true_eq_false, false_imp_iff, true_imp_iff, Nat.ble_eq, Bool.and_eq_true, reduceCtorEq, or_false, false_or, or_true, true_or, false_and, and_false, and_self, Int.reduceLE, Int.reduceAdd, Int.reduceSub, Int.reduceMul, Int.reduceNeg, Int.reduceLT, Int.reduceEq, Int.reduceNe, Nat.reduceBEq, Nat.reduceBNe, Nat.reduceEqDiff, amCmp_in, amCmp_lt, amCmp_le, amCmp_gt, amCmp_ge, amCmp_eq, amCmp_ne, Nat.reduceLeDiff, Nat.reduceSub, Bool.and_true, Bool.true_and, Bool.and_self, Bool.or_true, Bool.true_or, isRf_3, isRf_4, isRf_5, isRf_8, isRf_9, isRf_10, isRf_11, isRf_15, isRf_16, isRf_17, isRf_18, isRf_19, isRf_20, isRf_21, isRf_22, isRf_23, isRf_24, isRf_25, isRf_26, isRf_27, isRf_28, k_X12_hardens_0, k_X12_hardens_1, k_X12_hardens_2, k_X12_hardens_5, k_X12_hardens_6, k_X12_hardens_7, k_X12_hardens_10, k_X12_hardens_13, k_X12_hardens_14, k_X12_hardens_15, k_X12_hardens_18, k_X12_hardens_21, k_X12_hardens_22, k_X12_hardens_23, k_X12_hardens_24, k_X12_hardens_27, k_X12_hardens_28, k_X12_hardens_31, k_X12_hardens_34, k_X12_hardens_36, k_X12_hardens_37, k_X12_hardens_38, k_X12_hardens_41, k_X12_hardens_42, k_X12_hardens_45, k_X12_hardens_46, k_X12_hardens_47, k_X12_hardens_48, k_X12_hardens_49, k_X12_hardens_50, k_X12_hardens_51, k_X12_hardens_52, k_X12_hardens_53, k_X12_hardens_54, k_X12_hardens_57, k_X12_hardens_58, k_X12_hardens_61, k_X12_hardens_62, k_X12_hardens_65, k_X12_hardens_68, k_X12_hardens_69, k_X12_hardens_70, k_X12_hardens_73, k_X12_hardens_76, k_X12_hardens_77, w_X12_copy_e, w_X12_goPlay_e, w_X12_has_e, w_X12_isChair_e, w_X12_isPlay_e, e28, e29, t15, et, if_pos d, if_pos g]
        repeat' (first | apply And.intro | intro _)
        all_goals first | omega | exact absurd trivial (by assumption) | exact i9
      · have q8 := h1 (by omega)
        simp only [↓reduceIte, inR_0, inR_1, inR_m, vSw2_e, swP_n, swP_c, vI_e, vL_e, vNull_e, vIload_e, vLload_e, vAload_e, vIstore_e, vLstore_e, vAstore_e, vIinc_e, vIadd_e, vIsub_e, vImul_e, vIand_e, vIor_e, vIxor_e, vIshl_e, vIshr_e, vIushr_e, vIdiv_e, vIrem_e, vLadd_e, vLsub_e, vLmul_e, vLand_e, vLor_e, vLxor_e, vLdiv_e, vLrem_e, vLushr_e, vLshl_e, vLcmp_e, vIneg_e, vI2l_e, vL2i_e, vI2b_e, vI2c_e, vDup_e, vPop_e, vDup2_e, vGoto_e, vIcEq_e, vIfEq_e, vIcNe_e, vIfNe_e, vIcLt_e, vIfLt_e, vIcGe_e, vIfGe_e, vIcGt_e, vIfGt_e, vIcLe_e, vIfLe_e, vNonnull_e, vSw_e, vGetI_e, vGetL_e, vGetR_e, vPutI_e, vPutZ_e, vPutL_e, vPutR_e, vIald_e, vIald_s, vLald_e, vBald_e, vBald_s, vAald_e, vIast_e, vLast_e, vBast_e, vAast_e, vAlen_e8, vAlen_e9, vAlen_e10, vAlen_e11, vAlen_e5, vAlen_e3, vGets_e, vCompact_e, vLdcS_e, vIret_e, vZret_e, vCret_e, vBret_e, vLret_e, vVret_e, vAret_e, vCallM_e0, vCallMV_e0, vCallS_e0, vCallSV_e0, vCallM_e1, vCallMV_e1, vCallS_e1, vCallSV_e1, vCallM_e2, vCallMV_e2, vCallS_e2, vCallSV_e2, vCallM_e3, vCallMV_e3, vCallS_e3, vCallSV_e3, vCallM_e4, vCallMV_e4, vCallS_e4, vCallSV_e4, vCallM_e5, vCallMV_e5, vCallS_e5, vCallSV_e5, vCallM_e6, vCallMV_e6, vCallS_e6, vCallSV_e6, vCallM_e7, vCallMV_e7, vCallS_e7, vCallSV_e7, vBad_e, vStrVal_e, vStrCod_e, vForm_e, vCallT_e0, vCallT_e1, vCallT_e2, vCopy_e, rf_0_0, rf_0_1, rf_0_2, rf_0_3, rf_0_4, rf_0_7, rf_0_10, rf_0_11, rf_0_12, rf_0_13, rf_0_14, rf_0_15, rf_0_16, rf_1_0, rf_3_0, rf_3_1, rf_6_0, rf_6_1, rf_9_0, rf_9_1, rf_9_3, rf_13_0, rf_13_1, rf_13_2, rf_16_0, rf_16_1, rf_16_2, rf_16_3, rf_21_0, rf_21_1, rf_21_2, rf_21_3, rf_26_0, rf_26_1, rf_26_2, rf_26_3, rf_26_4, rf_26_5, rf_26_6, rf_31_0, rf_31_2, rf_31_5, rf_31_6, rf_36_0, rf_36_1, rf_36_2, rf_36_3, rf_39_0, rf_39_1, rf_39_2, rf_41_0, rf_41_1, rf_41_2, rf_41_3, rf_5000_1, rf_5000_2, rf_5000_3, rf_5000_4, rf_5000_5, rf_5000_15, rf_5000_16, rf_5000_18, rf_5000_19, rf_5000_20, rf_5000_21, rf_5000_22, rf_5000_23, rf_5000_24, rf_5000_25, rf_5000_26, rf_5000_27, rf_5000_36, rf_5000_37, rf_5000_40, rf_5000_41, rf_5000_42, rf_5000_43, rf_5000_44, rf_5000_45, rf_5000_47, rf_5000_52, rf_5000_54, rf_5000_55, rf_100_0, rf_100_1, rf_103_0, rf_103_1, rf_106_0, rf_106_1, rf_109_0, rf_109_1, al_2, al_4, al_5, al_7, al_8, al_10, al_11, al_12, al_14, al_15, al_17, al_18, al_19, al_20, al_22, al_23, al_24, al_25, al_27, al_28, al_29, al_30, al_32, al_33, al_34, al_35, al_37, al_38, al_40, al_42, al_5001, al_5002, al_5003, al_5004, al_5005, al_5006, al_5007, al_5008, al_5009, al_5010, al_5011, al_5012, al_5013, al_5014, al_5015, al_5016, al_5017, al_5018, al_5019, al_5020, al_5021, al_5022, al_5023, al_5024, al_5025, al_5026, al_9000, al_101, al_102, al_104, al_105, al_107, al_108, al_110, al_111, vcs_e, lg_c0, lg_cs, lg_nil, set_c0, set_cs, okst_0, okst_s, acok_n, acok_c, List.contains_nil, List.contains_cons, Bool.or_false, Bool.false_or, Bool.false_eq_true, if_false, if_true, ite_self, ne_eq, true_and, and_true, not_false_eq_true, not_true_eq_false, false_imp_iff, true_imp_iff, Nat.ble_eq, Bool.and_eq_true, reduceCtorEq, or_false, false_or, or_true, true_or, false_and, and_false, and_self, Int.reduceLE, Int.reduceAdd, Int.reduceSub, Int.reduceMul, Int.reduceNeg, Int.reduceLT, Int.reduceEq, Int.reduceNe, Nat.reduceBEq, Nat.reduceBNe, Nat.reduceEqDiff, amCmp_in, amCmp_lt, amCmp_le, amCmp_gt, amCmp_ge, amCmp_eq, amCmp_ne, Nat.reduceLeDiff, Nat.reduceSub, Bool.and_true, Bool.true_and, Bool.and_self, Bool.or_true, Bool.true_or, isRf_3, isRf_4, isRf_5, isRf_8, isRf_9, isRf_10, isRf_11, isRf_15, isRf_16, isRf_17, isRf_18, isRf_19, isRf_20, isRf_21, isRf_22, isRf_23, isRf_24, isRf_25, isRf_26, isRf_27, isRf_28, k_X12_hardens_0, k_X12_hardens_1, k_X12_hardens_2, k_X12_hardens_5, k_X12_hardens_6, k_X12_hardens_7, k_X12_hardens_10, k_X12_hardens_13, k_X12_hardens_14, k_X12_hardens_15, k_X12_hardens_18, k_X12_hardens_21, k_X12_hardens_22, k_X12_hardens_23, k_X12_hardens_24, k_X12_hardens_27, k_X12_hardens_28, k_X12_hardens_31, k_X12_hardens_34, k_X12_hardens_36, k_X12_hardens_37, k_X12_hardens_38, k_X12_hardens_41, k_X12_hardens_42, k_X12_hardens_45, k_X12_hardens_46, k_X12_hardens_47, k_X12_hardens_48, k_X12_hardens_49, k_X12_hardens_50, k_X12_hardens_51, k_X12_hardens_52, k_X12_hardens_53, k_X12_hardens_54, k_X12_hardens_57, k_X12_hardens_58, k_X12_hardens_61, k_X12_hardens_62, k_X12_hardens_65, k_X12_hardens_68, k_X12_hardens_69, k_X12_hardens_70, k_X12_hardens_73, k_X12_hardens_76, k_X12_hardens_77, w_X12_copy_e, w_X12_goPlay_e, w_X12_has_e, w_X12_isChair_e, w_X12_isPlay_e, e28, e29, t15, et, if_pos d, if_neg g]
        repeat' (first | apply And.intro | intro _)
        all_goals first | omega | exact absurd trivial (by assumption) | exact q8
    · have q8 := h1 (by omega)
      simp only [↓reduceIte, inR_0, inR_1, inR_m, vSw2_e, swP_n, swP_c, vI_e, vL_e, vNull_e, vIload_e, vLload_e, vAload_e, vIstore_e, vLstore_e, vAstore_e, vIinc_e, vIadd_e, vIsub_e, vImul_e, vIand_e, vIor_e, vIxor_e, vIshl_e, vIshr_e, vIushr_e, vIdiv_e, vIrem_e, vLadd_e, vLsub_e, vLmul_e, vLand_e, vLor_e, vLxor_e, vLdiv_e, vLrem_e, vLushr_e, vLshl_e, vLcmp_e, vIneg_e, vI2l_e, vL2i_e, vI2b_e, vI2c_e, vDup_e, vPop_e, vDup2_e, vGoto_e, vIcEq_e, vIfEq_e, vIcNe_e, vIfNe_e, vIcLt_e, vIfLt_e, vIcGe_e, vIfGe_e, vIcGt_e, vIfGt_e, vIcLe_e, vIfLe_e, vNonnull_e, vSw_e, vGetI_e, vGetL_e, vGetR_e, vPutI_e, vPutZ_e, vPutL_e, vPutR_e, vIald_e, vIald_s, vLald_e, vBald_e, vBald_s, vAald_e, vIast_e, vLast_e, vBast_e, vAast_e, vAlen_e8, vAlen_e9, vAlen_e10, vAlen_e11, vAlen_e5, vAlen_e3, vGets_e, vCompact_e, vLdcS_e, vIret_e, vZret_e, vCret_e, vBret_e, vLret_e, vVret_e, vAret_e, vCallM_e0, vCallMV_e0, vCallS_e0, vCallSV_e0, vCallM_e1, vCallMV_e1, vCallS_e1, vCallSV_e1, vCallM_e2, vCallMV_e2, vCallS_e2, vCallSV_e2, vCallM_e3, vCallMV_e3, vCallS_e3, vCallSV_e3, vCallM_e4, vCallMV_e4, vCallS_e4, vCallSV_e4, vCallM_e5, vCallMV_e5, vCallS_e5, vCallSV_e5, vCallM_e6, vCallMV_e6, vCallS_e6, vCallSV_e6, vCallM_e7, vCallMV_e7, vCallS_e7, vCallSV_e7, vBad_e, vStrVal_e, vStrCod_e, vForm_e, vCallT_e0, vCallT_e1, vCallT_e2, vCopy_e, rf_0_0, rf_0_1, rf_0_2, rf_0_3, rf_0_4, rf_0_7, rf_0_10, rf_0_11, rf_0_12, rf_0_13, rf_0_14, rf_0_15, rf_0_16, rf_1_0, rf_3_0, rf_3_1, rf_6_0, rf_6_1, rf_9_0, rf_9_1, rf_9_3, rf_13_0, rf_13_1, rf_13_2, rf_16_0, rf_16_1, rf_16_2, rf_16_3, rf_21_0, rf_21_1, rf_21_2, rf_21_3, rf_26_0, rf_26_1, rf_26_2, rf_26_3, rf_26_4, rf_26_5, rf_26_6, rf_31_0, rf_31_2, rf_31_5, rf_31_6, rf_36_0, rf_36_1, rf_36_2, rf_36_3, rf_39_0, rf_39_1, rf_39_2, rf_41_0, rf_41_1, rf_41_2, rf_41_3, rf_5000_1, rf_5000_2, rf_5000_3, rf_5000_4, rf_5000_5, rf_5000_15, rf_5000_16, rf_5000_18, rf_5000_19, rf_5000_20, rf_5000_21, rf_5000_22, rf_5000_23, rf_5000_24, rf_5000_25, rf_5000_26, rf_5000_27, rf_5000_36, rf_5000_37, rf_5000_40, rf_5000_41, rf_5000_42, rf_5000_43, rf_5000_44, rf_5000_45, rf_5000_47, rf_5000_52, rf_5000_54, rf_5000_55, rf_100_0, rf_100_1, rf_103_0, rf_103_1, rf_106_0, rf_106_1, rf_109_0, rf_109_1, al_2, al_4, al_5, al_7, al_8, al_10, al_11, al_12, al_14, al_15, al_17, al_18, al_19, al_20, al_22, al_23, al_24, al_25, al_27, al_28, al_29, al_30, al_32, al_33, al_34, al_35, al_37, al_38, al_40, al_42, al_5001, al_5002, al_5003, al_5004, al_5005, al_5006, al_5007, al_5008, al_5009, al_5010, al_5011, al_5012, al_5013, al_5014, al_5015, al_5016, al_5017, al_5018, al_5019, al_5020, al_5021, al_5022, al_5023, al_5024, al_5025, al_5026, al_9000, al_101, al_102, al_104, al_105, al_107, al_108, al_110, al_111, vcs_e, lg_c0, lg_cs, lg_nil, set_c0, set_cs, okst_0, okst_s, acok_n, acok_c, List.contains_nil, List.contains_cons, Bool.or_false, Bool.false_or, Bool.false_eq_true, if_false, if_true, ite_self, ne_eq, true_and, and_true, not_false_eq_true, not_true_eq_false, false_imp_iff, true_imp_iff, Nat.ble_eq, Bool.and_eq_true, reduceCtorEq, or_false, false_or, or_true, true_or, false_and, and_false, and_self, Int.reduceLE, Int.reduceAdd, Int.reduceSub, Int.reduceMul, Int.reduceNeg, Int.reduceLT, Int.reduceEq, Int.reduceNe, Nat.reduceBEq, Nat.reduceBNe, Nat.reduceEqDiff, amCmp_in, amCmp_lt, amCmp_le, amCmp_gt, amCmp_ge, amCmp_eq, amCmp_ne, Nat.reduceLeDiff, Nat.reduceSub, Bool.and_true, Bool.true_and, Bool.and_self, Bool.or_true, Bool.true_or, isRf_3, isRf_4, isRf_5, isRf_8, isRf_9, isRf_10, isRf_11, isRf_15, isRf_16, isRf_17, isRf_18, isRf_19, isRf_20, isRf_21, isRf_22, isRf_23, isRf_24, isRf_25, isRf_26, isRf_27, isRf_28, k_X12_hardens_0, k_X12_hardens_1, k_X12_hardens_2, k_X12_hardens_5, k_X12_hardens_6, k_X12_hardens_7, k_X12_hardens_10, k_X12_hardens_13, k_X12_hardens_14, k_X12_hardens_15, k_X12_hardens_18, k_X12_hardens_21, k_X12_hardens_22, k_X12_hardens_23, k_X12_hardens_24, k_X12_hardens_27, k_X12_hardens_28, k_X12_hardens_31, k_X12_hardens_34, k_X12_hardens_36, k_X12_hardens_37, k_X12_hardens_38, k_X12_hardens_41, k_X12_hardens_42, k_X12_hardens_45, k_X12_hardens_46, k_X12_hardens_47, k_X12_hardens_48, k_X12_hardens_49, k_X12_hardens_50, k_X12_hardens_51, k_X12_hardens_52, k_X12_hardens_53, k_X12_hardens_54, k_X12_hardens_57, k_X12_hardens_58, k_X12_hardens_61, k_X12_hardens_62, k_X12_hardens_65, k_X12_hardens_68, k_X12_hardens_69, k_X12_hardens_70, k_X12_hardens_73, k_X12_hardens_76, k_X12_hardens_77, w_X12_copy_e, w_X12_goPlay_e, w_X12_has_e, w_X12_isChair_e, w_X12_isPlay_e, e28, e29, t15, et, if_neg d]
      repeat' (first | apply And.intro | intro _)
      all_goals first | omega | exact absurd trivial (by assumption) | exact q8
