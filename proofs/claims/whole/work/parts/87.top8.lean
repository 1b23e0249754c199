/-! ArmchairHouse: HARDENS, RESTS -/
/-- as SW, and how it is apart -/
def SA (σ τ : Mem) : Prop := (∀ b, (b < 21 ∨ 30 < b) → b ≠ 37 → b ≠ 38 → b ≠ 40 → b ≠ 102 → b ≠ 105 → b ≠ 108 → b ≠ 111 → τ b = σ b) ∧ τ 26 1 = σ 26 1
theorem SW_SA {σ τ : Mem} (h : SW σ τ) : SA σ τ := ⟨fun b h0 h1 h2 h3 h4 h5 h6 h7 => h.1 b (by omega) (by omega) (by omega) (by omega) (by omega) h1 h2 h3 h4 h5 h6 h7, h.2⟩
theorem SA_tr {σ τ υ : Mem} (h : SA σ τ) (h' : SA τ υ) : SA σ υ := ⟨fun b h0 h1 h2 h3 h4 h5 h6 h7 => by rw [h'.1 b h0 h1 h2 h3 h4 h5 h6 h7]; exact h.1 b h0 h1 h2 h3 h4 h5 h6 h7, by rw [h'.2]; exact h.2⟩
theorem SA_set (σ : Mem) (f : Int → Int) : SA σ (setAud σ 21 f) := ⟨fun b h0 _ _ _ _ _ _ _ => setAud_o _ _ (by omega), by rw [setAud_o _ _ (by omega)]⟩
theorem SA_up {σ τ : Mem} (h : SA σ τ) {a k v : Int} (ha : 21 ≤ a ∧ a ≤ 25) : SA σ (up τ a k v) := ⟨fun b h0 h1 h2 h3 h4 h5 h6 h7 => by rw [up_na _ (by omega)]; exact h.1 b h0 h1 h2 h3 h4 h5 h6 h7, by rw [up_na _ (by omega)]; exact h.2⟩
theorem SA_r {σ τ : Mem} (h : SA σ τ) {b : Int} (hb : b < 21 ∨ (30 < b ∧ b < 37) ∨ b = 39 ∨ (40 < b ∧ b < 100)) : τ b = σ b := h.1 b (by omega) (by omega) (by omega) (by omega) (by omega) (by omega) (by omega) (by omega)
theorem SA_pval {σ τ : Mem} (h : SA σ τ) (x y z : Int) : pval τ 6 x y z = pval σ 6 x y z := pval_cong (SA_r h (b := 6 + 1) (by omega)) x y z
theorem SA_pcnt {σ τ : Mem} (h : SA σ τ) (x : Int) : pcnt τ 6 x = pcnt σ 6 x := pcnt_cong (SA_r h (b := 6 + 2) (by omega)) x
theorem SA_planB {σ τ : Mem} (h : SA σ τ) (hp : planB σ 6) : planB τ 6 := by
  unfold planB; rw [SA_r h (b := 6 + 2) (by omega), SA_r h (b := 6 + 1) (by omega)]; exact hp
theorem SA_lawOk {σ τ : Mem} (h : SA σ τ) (hl : lawOk σ) : lawOk τ := by
  unfold lawOk
  rw [h.2]
  rcases hl with hl | ⟨h1, h2⟩
  · exact Or.inl hl
  · refine Or.inr ⟨h1, ?_⟩
    rw [show τ (σ 26 1 + 1) = σ (σ 26 1 + 1) from by unfold isLw at h1; exact h.1 _ (by omega) (by omega) (by omega) (by omega) (by omega) (by omega) (by omega) (by omega)]
    exact h2
theorem SF_up2 {m τ : Mem} (h : SF m τ) (a k v : Int) (ha : a ≠ 26) : SF (up m a k v) (up τ a k v) := by
  refine ⟨fun b h1 h2 h3 h4 h5 h6 h7 h8 h9 => ?_, by rw [up_na _ (Ne.symm ha), up_na _ (Ne.symm ha)]; exact h.2⟩
  by_cases e : b = a
  · subst e; rw [up_row, up_row, h.1 b h1 h2 h3 h4 h5 h6 h7 h8 h9]
  · rw [up_na _ e, up_na _ e]; exact h.1 b h1 h2 h3 h4 h5 h6 h7 h8 h9
/-- the audience apart is as it is now -/
def apM (σ : Mem) : Mem := setAud σ 21 (aud σ 16)
theorem apM_r (σ : Mem) : (∀ j, 0 ≤ j → j < 6 → apM σ 22 j = σ 17 j ∧ apM σ 23 j = σ 18 j ∧ apM σ 24 j = σ 19 j ∧ apM σ 25 j = σ 20 j) ∧ apM σ 21 4 = σ 16 4 ∧ apM σ 21 5 = σ 16 5 ∧ apM σ 21 6 = σ 16 6 := by
  have key : ∀ k, 0 ≤ k → k < 27 → aud (apM σ) 21 k = aud σ 16 k := fun k k0 k1 => aud_set σ 21 (aud σ 16) k0 k1
  refine ⟨fun j j0 j1 => ⟨?_, ?_, ?_, ?_⟩, ?_, ?_, ?_⟩
  · have := key j j0 (by omega); rw [aud_1 _ _ _ j1, aud_1 _ _ _ j1] at this; exact this
  · have := key (j + 6) (by omega) (by omega); rw [aud_2 _ _ _ j0 j1, aud_2 _ _ _ j0 j1] at this; exact this
  · have := key (j + 12) (by omega) (by omega); rw [aud_3 _ _ _ j0 j1, aud_3 _ _ _ j0 j1] at this; exact this
  · have := key (j + 18) (by omega) (by omega); rw [aud_4 _ _ _ j0 j1, aud_4 _ _ _ j0 j1] at this; exact this
  · have := key (4 + 20) (by omega) (by omega); rw [aud_5 _ _ _ (by decide), aud_5 _ _ _ (by decide)] at this; exact this
  · have := key (5 + 20) (by omega) (by omega); rw [aud_5 _ _ _ (by decide), aud_5 _ _ _ (by decide)] at this; exact this
  · have := key (6 + 20) (by omega) (by omega); rw [aud_5 _ _ _ (by decide), aud_5 _ _ _ (by decide)] at this; exact this
theorem apM_st {σ : Mem} (hs : stOk σ 16) : stOk (apM σ) 21 := by
  obtain ⟨ha, hB, hl, h1, h2, h3⟩ := hs
  obtain ⟨r1, r2, r3, r4⟩ := apM_r σ
  have hSA : SA σ (apM σ) := SA_set σ _
  exact ⟨isA21, SA_planB hSA hB, SA_lawOk hSA hl, fun i i0 i1 => by rw [show (21 : Int) + 1 = 22 from rfl, (r1 i i0 i1).1]; exact h1 i i0 i1, by rw [r4]; exact h2, by rw [r2]; exact h3⟩

theorem wd_324 : Cond.fieldLink RX11 69 "ArmchairHouse" "apart" "LArmchairHouse$Audience;" ∈ TBL := tb_tab (List.mem_of_getElem? (i := 324) (by decide +kernel)) rfl
theorem fl_X11_69 : amFl RX11 11 11 69 RX11 TX11 17 := ⟨rfl, inT_11, by decide, wd_324⟩
theorem wd_955 : Cond.methodLink RX11 277 yX0_copyFrom ∈ TBL := tb_tab (List.mem_of_getElem? (i := 955) (by decide +kernel)) rfl
theorem wd_958 : Cond.code yX0_copyFrom cX0_copyFrom 2 (none) ∈ TBL := tb_tab (List.mem_of_getElem? (i := 958) (by decide +kernel)) rfl
theorem lk_X11_277 : amLk RX11 277 yX0_copyFrom cX0_copyFrom 2 (none) 1 := ⟨wd_955, wd_6, wd_958, by decide +kernel, by decide +kernel, by decide⟩
theorem wd_956 : Cond.instanceMethod yX0_copyFrom ∈ TBL := tb_tab (List.mem_of_getElem? (i := 956) (by decide +kernel)) rfl
theorem wd_957 : Cond.selects RX0 yX0_copyFrom yX0_copyFrom ∈ TBL := tb_tab (List.mem_of_getElem? (i := 957) (by decide +kernel)) rfl
def a_X11_hardens : AC := [(0, vAload 0 1), (1, vGetR TT 27 2 22 4), (4, vI 2 5), (5, vIload 1 6), (6, vCallM w_X6_has 22 2 9), (9, vIfEq 24 12), (12, vAload 0 13), (13, vGetR TT 27 2 22 16), (16, vI 1 17), (17, vIload 2 18), (18, vCallM w_X6_has 22 2 21), (21, vIfNe 26 24), (24, vI (-1) 25), (25, vIret), (26, vAload 0 27), (27, vGetR TT 27 11 16 30), (30, vAload 0 31), (31, vGetR TT 27 10 16 34), (34, vCallMV w_X0_copyFrom 16 1 37), (37, vI 9 39), (39, vIstore 3 40), (40, vIload 3 41), (41, vIfLt 88 44), (44, vAload 0 45), (45, vGetR TT 27 11 16 48), (48, vGetR TT 16 0 8 51), (51, vIload 1 52), (52, vIload 3 53), (53, vIast TT 54), (54, vAload 0 55), (55, vGetR TT 27 12 25 58), (58, vAload 0 59), (59, vGetR TT 27 11 16 62), (62, vIload 1 63), (63, vIload 2 64), (64, vCallMV w_X9_playAround 25 3 67), (67, vAload 0 68), (68, vGetR TT 27 12 25 71), (71, vGetR TT 25 5 8 74), (74, vIload 1 75), (75, vIald TT 76), (76, vI (-1) 77), (77, vIcNe 82 80), (80, vIload 3 81), (81, vIret), (82, vIinc 3 (-1) 85), (85, vGoto 40), (88, vI (-1) 89), (89, vIret)]
theorem k_X11_hardens_0 : look a_X11_hardens 0 = vAload 0 1 := rfl
theorem k_X11_hardens_1 : look a_X11_hardens 1 = vGetR TT 27 2 22 4 := rfl
theorem k_X11_hardens_4 : look a_X11_hardens 4 = vI 2 5 := rfl
theorem k_X11_hardens_5 : look a_X11_hardens 5 = vIload 1 6 := rfl
theorem k_X11_hardens_6 : look a_X11_hardens 6 = vCallM w_X6_has 22 2 9 := rfl
theorem k_X11_hardens_9 : look a_X11_hardens 9 = vIfEq 24 12 := rfl
theorem k_X11_hardens_12 : look a_X11_hardens 12 = vAload 0 13 := rfl
theorem k_X11_hardens_13 : look a_X11_hardens 13 = vGetR TT 27 2 22 16 := rfl
theorem k_X11_hardens_16 : look a_X11_hardens 16 = vI 1 17 := rfl
theorem k_X11_hardens_17 : look a_X11_hardens 17 = vIload 2 18 := rfl
theorem k_X11_hardens_18 : look a_X11_hardens 18 = vCallM w_X6_has 22 2 21 := rfl
theorem k_X11_hardens_21 : look a_X11_hardens 21 = vIfNe 26 24 := rfl
theorem k_X11_hardens_24 : look a_X11_hardens 24 = vI (-1) 25 := rfl
theorem k_X11_hardens_25 : look a_X11_hardens 25 = vIret := rfl
theorem k_X11_hardens_26 : look a_X11_hardens 26 = vAload 0 27 := rfl
theorem k_X11_hardens_27 : look a_X11_hardens 27 = vGetR TT 27 11 16 30 := rfl
theorem k_X11_hardens_30 : look a_X11_hardens 30 = vAload 0 31 := rfl
theorem k_X11_hardens_31 : look a_X11_hardens 31 = vGetR TT 27 10 16 34 := rfl
theorem k_X11_hardens_34 : look a_X11_hardens 34 = vCallMV w_X0_copyFrom 16 1 37 := rfl
theorem k_X11_hardens_37 : look a_X11_hardens 37 = vI 9 39 := rfl
theorem k_X11_hardens_39 : look a_X11_hardens 39 = vIstore 3 40 := rfl
theorem k_X11_hardens_40 : look a_X11_hardens 40 = vIload 3 41 := rfl
theorem k_X11_hardens_41 : look a_X11_hardens 41 = vIfLt 88 44 := rfl
theorem k_X11_hardens_44 : look a_X11_hardens 44 = vAload 0 45 := rfl
theorem k_X11_hardens_45 : look a_X11_hardens 45 = vGetR TT 27 11 16 48 := rfl
theorem k_X11_hardens_48 : look a_X11_hardens 48 = vGetR TT 16 0 8 51 := rfl
theorem k_X11_hardens_51 : look a_X11_hardens 51 = vIload 1 52 := rfl
theorem k_X11_hardens_52 : look a_X11_hardens 52 = vIload 3 53 := rfl
theorem k_X11_hardens_53 : look a_X11_hardens 53 = vIast TT 54 := rfl
theorem k_X11_hardens_54 : look a_X11_hardens 54 = vAload 0 55 := rfl
theorem k_X11_hardens_55 : look a_X11_hardens 55 = vGetR TT 27 12 25 58 := rfl
theorem k_X11_hardens_58 : look a_X11_hardens 58 = vAload 0 59 := rfl
theorem k_X11_hardens_59 : look a_X11_hardens 59 = vGetR TT 27 11 16 62 := rfl
theorem k_X11_hardens_62 : look a_X11_hardens 62 = vIload 1 63 := rfl
theorem k_X11_hardens_63 : look a_X11_hardens 63 = vIload 2 64 := rfl
theorem k_X11_hardens_64 : look a_X11_hardens 64 = vCallMV w_X9_playAround 25 3 67 := rfl
theorem k_X11_hardens_67 : look a_X11_hardens 67 = vAload 0 68 := rfl
theorem k_X11_hardens_68 : look a_X11_hardens 68 = vGetR TT 27 12 25 71 := rfl
theorem k_X11_hardens_71 : look a_X11_hardens 71 = vGetR TT 25 5 8 74 := rfl
theorem k_X11_hardens_74 : look a_X11_hardens 74 = vIload 1 75 := rfl
theorem k_X11_hardens_75 : look a_X11_hardens 75 = vIald TT 76 := rfl
theorem k_X11_hardens_76 : look a_X11_hardens 76 = vI (-1) 77 := rfl
theorem k_X11_hardens_77 : look a_X11_hardens 77 = vIcNe 82 80 := rfl
theorem k_X11_hardens_80 : look a_X11_hardens 80 = vIload 3 81 := rfl
theorem k_X11_hardens_81 : look a_X11_hardens 81 = vIret := rfl
theorem k_X11_hardens_82 : look a_X11_hardens 82 = vIinc 3 (-1) 85 := rfl
theorem k_X11_hardens_85 : look a_X11_hardens 85 = vGoto 40 := rfl
theorem k_X11_hardens_88 : look a_X11_hardens 88 = vI (-1) 89 := rfl
theorem k_X11_hardens_89 : look a_X11_hardens 89 = vIret := rfl
theorem o_X11_hardens {X : amX} (e1 : XT X = TT) (e2 : XD X = 6) (hB : amB X RX11 cX11_hardens (some .int) 4) : ∀ pc, amOK X pc (look a_X11_hardens pc) := by
  have hT : amTok (XT X) := e1 ▸ TT_ok
  refine look_ok ?_
  unfold a_X11_hardens
  refine fc (ok_aload_n hB dX11_hardens_0) ?_
  refine fc (okt_getR e1 hB hT fl_X11_23 rfl af_11_2 at_11_2 (by decide) dX11_hardens_1) ?_
  refine fc (ok_iconst hB dX11_hardens_4) ?_
  refine fc (ok_iload_n hB dX11_hardens_5) ?_
  refine fc (ok_callM hB hT (e1 ▸ s_X6_has) lk_X11_174 (by rw [e2]; decide) (c := 6) rfl rfl rfl wd_729 wd_730 dX11_hardens_6) ?_
  refine fc (ok_if_eq hB (t := 24) (by decide) dX11_hardens_9) ?_
  refine fc (ok_aload_n hB dX11_hardens_12) ?_
  refine fc (okt_getR e1 hB hT fl_X11_23 rfl af_11_2 at_11_2 (by decide) dX11_hardens_13) ?_
  refine fc (ok_iconst hB dX11_hardens_16) ?_
  refine fc (ok_iload_n hB dX11_hardens_17) ?_
  refine fc (ok_callM hB hT (e1 ▸ s_X6_has) lk_X11_174 (by rw [e2]; decide) (c := 6) rfl rfl rfl wd_729 wd_730 dX11_hardens_18) ?_
  refine fc (ok_if_ne hB (t := 26) (by decide) dX11_hardens_21) ?_
  refine fc (ok_iconst hB dX11_hardens_24) ?_
  refine fc (ok_iret hB dX11_hardens_25) ?_
  refine fc (ok_aload_n hB dX11_hardens_26) ?_
  refine fc (okt_getR e1 hB hT fl_X11_69 rfl af_11_11 at_11_11 (by decide) dX11_hardens_27) ?_
  refine fc (ok_aload_n hB dX11_hardens_30) ?_
  refine fc (okt_getR e1 hB hT fl_X11_65 rfl af_11_10 at_11_10 (by decide) dX11_hardens_31) ?_
  refine fc (ok_callMV hB hT (e1 ▸ s_X0_copyFrom) lk_X11_277 (by rw [e2]; decide) (c := 0) rfl rfl rfl wd_956 wd_957 dX11_hardens_34) ?_
  refine fc (ok_bipush hB dX11_hardens_37 (by decide)) ?_
  refine fc (ok_istore_n hB (by decide) dX11_hardens_39) ?_
  refine fc (ok_iload_n hB dX11_hardens_40) ?_
  refine fc (ok_if_lt hB (t := 88) (by decide) dX11_hardens_41) ?_
  refine fc (ok_aload_n hB dX11_hardens_44) ?_
  refine fc (okt_getR e1 hB hT fl_X11_69 rfl af_11_11 at_11_11 (by decide) dX11_hardens_45) ?_
  refine fc (okt_getR e1 hB hT fl_X11_189 rfl af_0_0 at_0_0 (by decide) dX11_hardens_48) ?_
  refine fc (ok_iload_n hB dX11_hardens_51) ?_
  refine fc (ok_iload_n hB dX11_hardens_52) ?_
  refine fc (okt_iastore e1 hB dX11_hardens_53) ?_
  refine fc (ok_aload_n hB dX11_hardens_54) ?_
  refine fc (okt_getR e1 hB hT fl_X11_77 rfl af_11_12 at_11_12 (by decide) dX11_hardens_55) ?_
  refine fc (ok_aload_n hB dX11_hardens_58) ?_
  refine fc (okt_getR e1 hB hT fl_X11_69 rfl af_11_11 at_11_11 (by decide) dX11_hardens_59) ?_
  refine fc (ok_iload_n hB dX11_hardens_62) ?_
  refine fc (ok_iload_n hB dX11_hardens_63) ?_
  refine fc (ok_callMV hB hT (e1 ▸ s_X9_playAround) lk_X11_287 (by rw [e2]; decide) (c := 9) rfl rfl rfl wd_976 wd_977 dX11_hardens_64) ?_
  refine fc (ok_aload_n hB dX11_hardens_67) ?_
  refine fc (okt_getR e1 hB hT fl_X11_77 rfl af_11_12 at_11_12 (by decide) dX11_hardens_68) ?_
  refine fc (okt_getR e1 hB hT fl_X11_294 rfl af_9_5 at_9_5 (by decide) dX11_hardens_71) ?_
  refine fc (ok_iload_n hB dX11_hardens_74) ?_
  refine fc (okt_iaload e1 hB dX11_hardens_75) ?_
  refine fc (ok_iconst hB dX11_hardens_76) ?_
  refine fc (ok_icmp_ne hB (t := 82) (by decide) dX11_hardens_77) ?_
  refine fc (ok_iload_n hB dX11_hardens_80) ?_
  refine fc (ok_iret hB dX11_hardens_81) ?_
  refine fc (ok_iinc hB (by decide) dX11_hardens_82) ?_
  refine fc (ok_goto hB (t := 40) (by decide) dX11_hardens_85) ?_
  refine fc (ok_iconst hB dX11_hardens_88) ?_
  refine fc (ok_iret hB dX11_hardens_89) ?_
  exact fn
def hdR (oa : Int → Int) : Nat → Int
  | 0 => -1
  | v + 1 => if oa v = -1 then v else hdR oa v
def hdO (σ : Mem) (c p v : Int) : Int := pOa (up (apM σ) 22 c v) 21 p c
def inv_hrd (σ : Mem) (c p R : Int) (n pc : Nat) (ls st : List AV) (σ' : Mem) : Prop := pc = 40 ∧ st = [] ∧ (0 ≤ c ∧ c < pcnt σ 6 2 ∧ 0 ≤ p ∧ p < pcnt σ 6 1) ∧ n ≤ 10 ∧ ls = [(27, 0), (0, c), (0, p), (0, (n : Int) - 1)] ∧ (∃ h : Int, SF (up (apM σ) 22 c h) σ') ∧ hdR (hdO σ c p) n = R
def w_X11_hardens : WP := fun av σ Q => ∃ (c : Int) (p : Int), av = [(27, 0), (0, c), (0, p)] ∧ (InR c ∧ InR p ∧ xS σ ∧ (¬ (0 ≤ c ∧ c < pcnt σ 6 2 ∧ 0 ≤ p ∧ p < pcnt σ 6 1) → Q (0, -1) σ) ∧ (0 ≤ c ∧ c < pcnt σ 6 2 ∧ 0 ≤ p ∧ p < pcnt σ 6 1 → ∀ τ, SA σ τ → Q (0, hdR (hdO σ c p) 10) τ))
theorem w_X11_hardens_e (c : Int) (p : Int) (σ : Mem) (Q : AV → Mem → Prop) : w_X11_hardens [(27, 0), (0, c), (0, p)] σ Q = (InR c ∧ InR p ∧ xS σ ∧ (¬ (0 ≤ c ∧ c < pcnt σ 6 2 ∧ 0 ≤ p ∧ p < pcnt σ 6 1) → Q (0, -1) σ) ∧ (0 ≤ c ∧ c < pcnt σ 6 2 ∧ 0 ≤ p ∧ p < pcnt σ 6 1 → ∀ τ, SA σ τ → Q (0, hdR (hdO σ c p) 10) τ)) := by
  apply propext; constructor
  · rintro ⟨c', p', h9, hb9⟩; cases h9; exact hb9
  · intro hb9; exact ⟨c, p, rfl, hb9⟩

set_option maxRecDepth 100000 in
set_option maxHeartbeats 4000000 in
theorem s_X11_hardens : ∀ av σ Q, w_X11_hardens av σ Q → amCall 6 0 0 TT yX11_hardens cX11_hardens 4 (some .int) av σ Q := by
  rintro av σ Q ⟨c, p, rfl, hc, hp, ⟨hst, hse, h9, hsi⟩, h1, h2⟩
  have hB := hst.2.1
  have c1 := pcnt_b hB 1
  have c2 := pcnt_b hB 2
  have h9p := h9 p
  have e1 : (21 : Int) + 2 = 23 := rfl
  obtain ⟨r1, r2, r3, r4⟩ := apM_r σ
  have hSA0 : SA σ (apM σ) := SA_set σ _
  generalize hR : hdR (hdO σ c p) 10 = R at *
  refine am_m [40] (inv_hrd σ c p R) (own := RX11) (A := look a_X11_hardens) (fun X e1 e2 hB => o_X11_hardens e1 e2 hB) rfl (by decide +kernel) rfl rfl ?_ ⟨90, ?_⟩ (w := 4)
  · rintro n pc ls st σ' ⟨rfl, rfl, cc, hn, rfl, ⟨h0, hF⟩, hr⟩
    have hSA1 : SA σ σ' := SA_tr (SA_up hSA0 (by omega)) (SW_SA (SF_SW hF))
    have hq := fun τ (g : SA σ τ) => h2 cc τ g
    cases n with
    | zero =>
      rw [hdR] at hr
      have hh := hq σ' hSA1
      rw [← hr] at hh
      refine ⟨90, ?_⟩
      simp only [↓reduceIte, inR_0, inR_1, inR_m, vSw2_e, swP_n, swP_c, vI_e, vL_e, vNull_e, vIload_e, vLload_e, vAload_e, vIstore_e, vLstore_e, vAstore_e, vIinc_e, vIadd_e, vIsub_e, vImul_e, vIand_e, vIor_e, vIxor_e, vIshl_e, vIshr_e, vIushr_e, vIdiv_e, vIrem_e, vLadd_e, vLsub_e, vLmul_e, vLand_e, vLor_e, vLxor_e, vLdiv_e, vLrem_e, vLushr_e, vLshl_e, vLcmp_e, vIneg_e, vI2l_e, vL2i_e, vI2b_e, vI2c_e, vDup_e, vPop_e, vDup2_e, vGoto_e, vIcEq_e, vIfEq_e, vIcNe_e, vIfNe_e, vIcLt_e, vIfLt_e, vIcGe_e, vIfGe_e, vIcGt_e, vIfGt_e, vIcLe_e, vIfLe_e, vNonnull_e, vSw_e, vGetI_e, vGetL_e, vGetR_e, vPutI_e, vPutZ_e, vPutL_e, vPutR_e, vIald_e, vIald_s, vLald_e, vBald_e, vBald_s, vAald_e, vIast_e, vLast_e, vBast_e, vAast_e, vAlen_e8, vAlen_e9, vAlen_e10, vAlen_e11, vAlen_e5, vAlen_e3, vGets_e, vCompact_e, vLdcS_e, vIret_e, vZret_e, vCret_e, vBret_e, vLret_e, vVret_e, vAret_e, vCallM_e0, vCallMV_e0, vCallS_e0, vCallSV_e0, vCallM_e1, vCallMV_e1, vCallS_e1, vCallSV_e1, vCallM_e2, vCallMV_e2, vCallS_e2, vCallSV_e2, vCallM_e3, vCallMV_e3, vCallS_e3, vCallSV_e3, vCallM_e4, vCallMV_e4, vCallS_e4, vCallSV_e4, vCallM_e5, vCallMV_e5, vCallS_e5, vCallSV_e5, vCallM_e6, vCallMV_e6, vCallS_e6, vCallSV_e6, vCallM_e7, vCallMV_e7, vCallS_e7, vCallSV_e7, vBad_e, vStrVal_e, vStrCod_e, vForm_e, vCallT_e0, vCallT_e1, vCallT_e2, vCopy_e, rf_0_0, rf_0_1, rf_0_2, rf_0_3, rf_0_4, rf_0_7, rf_0_10, rf_0_11, rf_0_12, rf_0_13, rf_0_14, rf_0_15, rf_0_16, rf_1_0, rf_3_0, rf_3_1, rf_6_0, rf_6_1, rf_9_0, rf_9_1, rf_9_3, rf_13_0, rf_13_1, rf_13_2, rf_16_0, rf_16_1, rf_16_2, rf_16_3, rf_21_0, rf_21_1, rf_21_2, rf_21_3, rf_26_0, rf_26_1, rf_26_2, rf_26_3, rf_26_4, rf_26_5, rf_26_6, rf_31_0, rf_31_2, rf_31_5, rf_31_6, rf_36_0, rf_36_1, rf_36_2, rf_36_3, rf_39_0, rf_39_1, rf_39_2, rf_41_0, rf_41_1, rf_41_2, rf_41_3, rf_5000_1, rf_5000_2, rf_5000_3, rf_5000_4, rf_5000_5, rf_5000_15, rf_5000_16, rf_5000_18, rf_5000_19, rf_5000_20, rf_5000_21, rf_5000_22, rf_5000_23, rf_5000_24, rf_5000_25, rf_5000_26, rf_5000_27, rf_5000_36, rf_5000_37, rf_5000_40, rf_5000_41, rf_5000_42, rf_5000_43, rf_5000_44, rf_5000_45, rf_5000_47, rf_5000_52, rf_5000_54, rf_5000_55, rf_100_0, rf_100_1, rf_103_0, rf_103_1, rf_106_0, rf_106_1, rf_109_0, rf_109_1, al_2, al_4, al_5, al_7, al_8, al_10, al_11, al_12, al_14, al_15, al_17, al_18, al_19, al_20, al_22, al_23, al_24, al_25, al_27, al_28, al_29, al_30, al_32, al_33, al_34, al_35, al_37, al_38, al_40, al_42, al_5001, al_5002, al_5003, al_5004, al_5005, al_5006, al_5007, al_5008, al_5009, al_5010, al_5011, al_5012, al_5013, al_5014, al_5015, al_5016, al_5017, al_5018, al_5019, al_5020, al_5021, al_5022, al_5023, al_5024, al_5025, al_5026, al_9000, al_101, al_102, al_104, al_105, al_107, al_108, al_110, al_111, vcs_e, lg_c0, lg_cs, lg_nil, set_c0, set_cs, okst_0, okst_s, acok_n, acok_c, List.contains_nil, List.contains_cons, Bool.or_false, Bool.false_or, Bool.false_eq_true, if_false, if_true, ite_self, ne_eq, true_and, and_true, not_false_eq_true, not_true_eq_false, false_imp_iff, true_imp_iff, Nat.ble_eq, Bool.and_eq_true, reduceCtorEq, or_false, false_or, or_true, true_or, false_and, and_false, and_self, Int.reduceLE, Int.reduceAdd, Int.reduceSub, Int.reduceMul, Int.reduceNeg, Int.reduceLT, Int.reduceEq, Int.reduceNe, Nat.reduceBEq, Nat.reduceBNe, Nat.reduceEqDiff, amCmp_in, amCmp_lt, amCmp_le, amCmp_gt, amCmp_ge, amCmp_eq, amCmp_ne, Nat.reduceLeDiff, Nat.reduceSub, Bool.and_true, Bool.true_and, Bool.and_self, Bool.or_true, Bool.true_or, isRf_3, isRf_4, isRf_5, isRf_8, isRf_9, isRf_10, isRf_11, isRf_15, isRf_16, isRf_17, isRf_18, isRf_19, isRf_20, isRf_21, isRf_22, isRf_23, isRf_24, isRf_25, isRf_26, isRf_27, isRf_28, k_X11_hardens_0, k_X11_hardens_1, k_X11_hardens_4, k_X11_hardens_5, k_X11_hardens_6, k_X11_hardens_9, k_X11_hardens_12, k_X11_hardens_13, k_X11_hardens_16, k_X11_hardens_17, k_X11_hardens_18, k_X11_hardens_21, k_X11_hardens_24, k_X11_hardens_25, k_X11_hardens_26, k_X11_hardens_27, k_X11_hardens_30, k_X11_hardens_31, k_X11_hardens_34, k_X11_hardens_37, k_X11_hardens_39, k_X11_hardens_40, k_X11_hardens_41, k_X11_hardens_44, k_X11_hardens_45, k_X11_hardens_48, k_X11_hardens_51, k_X11_hardens_52, k_X11_hardens_53, k_X11_hardens_54, k_X11_hardens_55, k_X11_hardens_58, k_X11_hardens_59, k_X11_hardens_62, k_X11_hardens_63, k_X11_hardens_64, k_X11_hardens_67, k_X11_hardens_68, k_X11_hardens_71, k_X11_hardens_74, k_X11_hardens_75, k_X11_hardens_76, k_X11_hardens_77, k_X11_hardens_80, k_X11_hardens_81, k_X11_hardens_82, k_X11_hardens_85, k_X11_hardens_88, k_X11_hardens_89]
      repeat' (first | assumption | apply And.intro | intro _)
      all_goals first | omega | exact absurd trivial (by assumption) | exact hh
    | succ n =>
      have en : ((n + 1 : Nat) : Int) - 1 = n := by omega
      have hF2 := SF_up2 hF 22 c n (by decide)
      rw [up_up] at hF2
      have hst1 : stOk (up (apM σ) 22 c n) 21 := by
        obtain ⟨ha, qB, ql, q1, q2, q3⟩ := apM_st hst
        have hSA2 : SA (apM σ) (up (apM σ) 22 c n) := SA_up ⟨fun _ _ _ _ _ _ _ _ _ => rfl, rfl⟩ (by omega)
        refine ⟨ha, SA_planB hSA2 qB, SA_lawOk hSA2 ql, fun i i0 i1 => ?_, by rw [up_na _ (by decide)]; exact q2, by rw [up_na _ (by decide)]; exact q3⟩
        rw [show (21 : Int) + 1 = 22 from rfl]
        by_cases e : i = c
        · rw [e, up_s]; omega
        · rw [up_nj _ e]; exact q1 i i0 i1
      have hst2 : stOk (up σ' 22 c n) 21 := stOk_SF hF2 hst1
      have hSA3 : SA σ (up σ' 22 c n) := SA_up hSA1 (by omega)
      have pv : ∀ x y z, pval (up σ' 22 c n) 6 x y z = pval σ 6 x y z := SA_pval hSA3
      have pc2 : pcnt (up σ' 22 c n) 6 2 = pcnt σ 6 2 := SA_pcnt hSA3 2
      have r23 : up σ' 22 c n 23 = apM σ 23 := by rw [SF_r hF2 (b := 23) (by omega), up_na _ (by decide)]
      have hse' : ∀ i, 0 ≤ i → i < 6 → InR (apM σ 23 i) := fun i i0 i1 => by rw [(r1 i i0 i1).2.1]; exact hse i i0 i1
      have ob := pOa_b (a := 21) (i := c) hst2.2.1 (p := p) (by rw [pv]; exact h9p)
      have eo : pOa (up σ' 22 c n) 21 p c = hdO σ c p n := (SW_pFl (SF_SW hF2) hst1 p c).2
      rw [eo] at ob
      refine ⟨90, ?_⟩
      simp only [↓reduceIte, inR_0, inR_1, inR_m, vSw2_e, swP_n, swP_c, vI_e, vL_e, vNull_e, vIload_e, vLload_e, vAload_e, vIstore_e, vLstore_e, vAstore_e, vIinc_e, vIadd_e, vIsub_e, vImul_e, vIand_e, vIor_e, vIxor_e, vIshl_e, vIshr_e, vIushr_e, vIdiv_e, vIrem_e, vLadd_e, vLsub_e, vLmul_e, vLand_e, vLor_e, vLxor_e, vLdiv_e, vLrem_e, vLushr_e, vLshl_e, vLcmp_e, vIneg_e, vI2l_e, vL2i_e, vI2b_e, vI2c_e, vDup_e, vPop_e, vDup2_e, vGoto_e, vIcEq_e, vIfEq_e, vIcNe_e, vIfNe_e, vIcLt_e, vIfLt_e, vIcGe_e, vIfGe_e, vIcGt_e, vIfGt_e, vIcLe_e, vIfLe_e, vNonnull_e, vSw_e, vGetI_e, vGetL_e, vGetR_e, vPutI_e, vPutZ_e, vPutL_e, vPutR_e, vIald_e, vIald_s, vLald_e, vBald_e, vBald_s, vAald_e, vIast_e, vLast_e, vBast_e, vAast_e, vAlen_e8, vAlen_e9, vAlen_e10, vAlen_e11, vAlen_e5, vAlen_e3, vGets_e, vCompact_e, vLdcS_e, vIret_e, vZret_e, vCret_e, vBret_e, vLret_e, vVret_e, vAret_e, vCallM_e0, vCallMV_e0, vCallS_e0, vCallSV_e0, vCallM_e1, vCallMV_e1, vCallS_e1, vCallSV_e1, vCallM_e2, vCallMV_e2, vCallS_e2, vCallSV_e2, vCallM_e3, vCallMV_e3, vCallS_e3, vCallSV_e3, vCallM_e4, vCallMV_e4, vCallS_e4, vCallSV_e4, vCallM_e5, vCallMV_e5, vCallS_e5, vCallSV_e5, vCallM_e6, vCallMV_e6, vCallS_e6, vCallSV_e6, vCallM_e7, vCallMV_e7, vCallS_e7, vCallSV_e7, vBad_e, vStrVal_e, vStrCod_e, vForm_e, vCallT_e0, vCallT_e1, vCallT_e2, vCopy_e, rf_0_0, rf_0_1, rf_0_2, rf_0_3, rf_0_4, rf_0_7, rf_0_10, rf_0_11, rf_0_12, rf_0_13, rf_0_14, rf_0_15, rf_0_16, rf_1_0, rf_3_0, rf_3_1, rf_6_0, rf_6_1, rf_9_0, rf_9_1, rf_9_3, rf_13_0, rf_13_1, rf_13_2, rf_16_0, rf_16_1, rf_16_2, rf_16_3, rf_21_0, rf_21_1, rf_21_2, rf_21_3, rf_26_0, rf_26_1, rf_26_2, rf_26_3, rf_26_4, rf_26_5, rf_26_6, rf_31_0, rf_31_2, rf_31_5, rf_31_6, rf_36_0, rf_36_1, rf_36_2, rf_36_3, rf_39_0, rf_39_1, rf_39_2, rf_41_0, rf_41_1, rf_41_2, rf_41_3, rf_5000_1, rf_5000_2, rf_5000_3, rf_5000_4, rf_5000_5, rf_5000_15, rf_5000_16, rf_5000_18, rf_5000_19, rf_5000_20, rf_5000_21, rf_5000_22, rf_5000_23, rf_5000_24, rf_5000_25, rf_5000_26, rf_5000_27, rf_5000_36, rf_5000_37, rf_5000_40, rf_5000_41, rf_5000_42, rf_5000_43, rf_5000_44, rf_5000_45, rf_5000_47, rf_5000_52, rf_5000_54, rf_5000_55, rf_100_0, rf_100_1, rf_103_0, rf_103_1, rf_106_0, rf_106_1, rf_109_0, rf_109_1, al_2, al_4, al_5, al_7, al_8, al_10, al_11, al_12, al_14, al_15, al_17, al_18, al_19, al_20, al_22, al_23, al_24, al_25, al_27, al_28, al_29, al_30, al_32, al_33, al_34, al_35, al_37, al_38, al_40, al_42, al_5001, al_5002, al_5003, al_5004, al_5005, al_5006, al_5007, al_5008, al_5009, al_5010, al_5011, al_5012, al_5013, al_5014, al_5015, al_5016, al_5017, al_5018, al_5019, al_5020, al_5021, al_5022, al_5023, al_5024, al_5025, al_5026, al_9000, al_101, al_102, al_104, al_105, al_107, al_108, al_110, al_111, vcs_e, lg_c0, lg_cs, lg_nil, set_c0, set_cs, okst_0, okst_s, acok_n, acok_c, List.contains_nil, List.contains_cons, Bool.or_false, Bool.false_or, Bool.false_eq_true, if_false, if_true, ite_self, ne_eq, true_and, and_true, not_false_eq_true, not_true_eq_false, false_imp_iff, true_imp_iff, Nat.ble_eq, Bool.and_eq_true, reduceCtorEq, or_false, false_or, or_true, true_or, false_and, and_false, and_self, Int.reduceLE, Int.reduceAdd, Int.reduceSub, Int.reduceMul, Int.reduceNeg, Int.reduceLT, Int.reduceEq, Int.reduceNe, Nat.reduceBEq, Nat.reduceBNe, Nat.reduceEqDiff, amCmp_in, amCmp_lt, amCmp_le, amCmp_gt, amCmp_ge, amCmp_eq, amCmp_ne, Nat.reduceLeDiff, Nat.reduceSub, Bool.and_true, Bool.true_and, Bool.and_self, Bool.or_true, Bool.true_or, isRf_3, isRf_4, isRf_5, isRf_8, isRf_9, isRf_10, isRf_11, isRf_15, isRf_16, isRf_17, isRf_18, isRf_19, isRf_20, isRf_21, isRf_22, isRf_23, isRf_24, isRf_25, isRf_26, isRf_27, isRf_28, k_X11_hardens_0, k_X11_hardens_1, k_X11_hardens_4, k_X11_hardens_5, k_X11_hardens_6, k_X11_hardens_9, k_X11_hardens_12, k_X11_hardens_13, k_X11_hardens_16, k_X11_hardens_17, k_X11_hardens_18, k_X11_hardens_21, k_X11_hardens_24, k_X11_hardens_25, k_X11_hardens_26, k_X11_hardens_27, k_X11_hardens_30, k_X11_hardens_31, k_X11_hardens_34, k_X11_hardens_37, k_X11_hardens_39, k_X11_hardens_40, k_X11_hardens_41, k_X11_hardens_44, k_X11_hardens_45, k_X11_hardens_48, k_X11_hardens_51, k_X11_hardens_52, k_X11_hardens_53, k_X11_hardens_54, k_X11_hardens_55, k_X11_hardens_58, k_X11_hardens_59, k_X11_hardens_62, k_X11_hardens_63, k_X11_hardens_64, k_X11_hardens_67, k_X11_hardens_68, k_X11_hardens_71, k_X11_hardens_74, k_X11_hardens_75, k_X11_hardens_76, k_X11_hardens_77, k_X11_hardens_80, k_X11_hardens_81, k_X11_hardens_82, k_X11_hardens_85, k_X11_hardens_88, k_X11_hardens_89, w_X0_copyFrom_e, w_X6_has_e, w_X9_playAround_e, en, pv, pc2, e1, r23, eo]
      rw [hdR] at hr
      have f1 : hdO σ c p n = -1 → ∀ τ, SF (up σ' 22 c n) τ → Q (0, (n : Int)) τ := fun g τ gτ => by
        rw [if_pos g] at hr
        have := hq τ (SA_tr hSA3 (SW_SA (SF_SW gτ)))
        rw [← hr] at this
        exact this
      have f2 : hdO σ c p n ≠ -1 → ∀ τ, SF (up σ' 22 c n) τ → ∃ k', k' < n + 1 ∧ inv_hrd σ c p R k' 40 [(27, 0), (0, c), (0, p), (0, (n : Int) + -1)] [] τ := fun g τ gτ => by
        rw [if_neg g] at hr
        exact ⟨n, by omega, rfl, rfl, cc, by omega, by rw [show (n : Int) - 1 = (n : Int) + -1 by omega], ⟨n, SF_tr hF2 gτ⟩, hr⟩
      repeat' (first | assumption | apply And.intro | intro _)
      all_goals first | omega | exact absurd trivial (by assumption) | skip
      all_goals
        have e30 := ‹_ = hdO σ c p n›
        first
          | omega
          | exact f1 (by omega) _ (by assumption)
          | exact f2 (by omega) _ (by assumption)
  · change vcs _ _ _ _ 90 0 [(27, 0), (0, c), (0, p), (6, 0)] [] σ
    simp only [↓reduceIte, inR_0, inR_1, inR_m, vSw2_e, swP_n, swP_c, vI_e, vL_e, vNull_e, vIload_e, vLload_e, vAload_e, vIstore_e, vLstore_e, vAstore_e, vIinc_e, vIadd_e, vIsub_e, vImul_e, vIand_e, vIor_e, vIxor_e, vIshl_e, vIshr_e, vIushr_e, vIdiv_e, vIrem_e, vLadd_e, vLsub_e, vLmul_e, vLand_e, vLor_e, vLxor_e, vLdiv_e, vLrem_e, vLushr_e, vLshl_e, vLcmp_e, vIneg_e, vI2l_e, vL2i_e, vI2b_e, vI2c_e, vDup_e, vPop_e, vDup2_e, vGoto_e, vIcEq_e, vIfEq_e, vIcNe_e, vIfNe_e, vIcLt_e, vIfLt_e, vIcGe_e, vIfGe_e, vIcGt_e, vIfGt_e, vIcLe_e, vIfLe_e, vNonnull_e, vSw_e, vGetI_e, vGetL_e, vGetR_e, vPutI_e, vPutZ_e, vPutL_e, vPutR_e, vIald_e, vIald_s, vLald_e, vBald_e, vBald_s, vAald_e, vIast_e, vLast_e, vBast_e, vAast_e, vAlen_e8, vAlen_e9, vAlen_e10, vAlen_e11, vAlen_e5, vAlen_e3, vGets_e, vCompact_e, vLdcS_e, vIret_e, vZret_e, vCret_e, vBret_e, vLret_e, vVret_e, vAret_e, vCallM_e0, vCallMV_e0, vCallS_e0, vCallSV_e0, vCallM_e1, vCallMV_e1, vCallS_e1, vCallSV_e1, vCallM_e2, vCallMV_e2, vCallS_e2, vCallSV_e2, vCallM_e3, vCallMV_e3, vCallS_e3, vCallSV_e3, vCallM_e4, vCallMV_e4, vCallS_e4, vCallSV_e4, vCallM_e5, vCallMV_e5, vCallS_e5, vCallSV_e5, vCallM_e6, vCallMV_e6, vCallS_e6, vCallSV_e6, vCallM_e7, vCallMV_e7, vCallS_e7, vCallSV_e7, vBad_e, vStrVal_e, vStrCod_e, vForm_e, vCallT_e0, vCallT_e1, vCallT_e2, vCopy_e, rf_0_0, rf_0_1, rf_0_2, rf_0_3, rf_0_4, rf_0_7, rf_0_10, rf_0_11, rf_0_12, rf_0_13, rf_0_14, rf_0_15, rf_0_16, rf_1_0, rf_3_0, rf_3_1, rf_6_0, rf_6_1, rf_9_0, rf_9_1, rf_9_3, rf_13_0, rf_13_1, rf_13_2, rf_16_0, rf_16_1, rf_16_2, rf_16_3, rf_21_0, rf_21_1, rf_21_2, rf_21_3, rf_26_0, rf_26_1, rf_26_2, rf_26_3, rf_26_4, rf_26_5, rf_26_6, rf_31_0, rf_31_2, rf_31_5, rf_31_6, rf_36_0, rf_36_1, rf_36_2, rf_36_3, rf_39_0, rf_39_1, rf_39_2, rf_41_0, rf_41_1, rf_41_2, rf_41_3, rf_5000_1, rf_5000_2, rf_5000_3, rf_5000_4, rf_5000_5, rf_5000_15, rf_5000_16, rf_5000_18, rf_5000_19, rf_5000_20, rf_5000_21, rf_5000_22, rf_5000_23, rf_5000_24, rf_5000_25, rf_5000_26, rf_5000_27, rf_5000_36, rf_5000_37, rf_5000_40, rf_5000_41, rf_5000_42, rf_5000_43, rf_5000_44, rf_5000_45, rf_5000_47, rf_5000_52, rf_5000_54, rf_5000_55, rf_100_0, rf_100_1, rf_103_0, rf_103_1, rf_106_0, rf_106_1, rf_109_0, rf_109_1, al_2, al_4, al_5, al_7, al_8, al_10, al_11, al_12, al_14, al_15, al_17, al_18, al_19, al_20, al_22, al_23, al_24, al_25, al_27, al_28, al_29, al_30, al_32, al_33, al_34, al_35, al_37, al_38, al_40, al_42, al_5001, al_5002, al_5003, al_5004, al_5005, al_5006, al_5007, al_5008, al_5009, al_5010, al_5011, al_5012, al_5013, al_5014, al_5015, al_5016, al_5017, al_5018, al_5019, al_5020, al_5021, al_5022, al_5023, al_5024, al_5025, al_5026, al_9000, al_101, al_102, al_104, al_105, al_107, al_108, al_110, al_111, vcs_e, lg_c0, lg_cs, lg_nil, set_c0, set_cs, okst_0, okst_s, acok_n, acok_c, List.contains_nil, List.contains_cons, Bool.or_false, Bool.false_or, Bool.false_eq_true, if_false, if_true, ite_self, ne_eq, true_and, and_true, not_false_eq_true, not_true_eq_false, false_imp_iff, true_imp_iff, Nat.ble_eq, Bool.and_eq_true, reduceCtorEq, or_false, false_or, or_true, true_or, false_and, and_false, and_self, Int.reduceLE, Int.reduceAdd, Int.reduceSub, Int.reduceMul, Int.reduceNeg, Int.reduceLT, Int.reduceEq, Int.reduceNe, Nat.reduceBEq, Nat.reduceBNe, Nat.reduceEqDiff, amCmp_in, amCmp_lt, amCmp_le, amCmp_gt, amCmp_ge, amCmp_eq, amCmp_ne, Nat.reduceLeDiff, Nat.reduceSub, Bool.and_true, Bool.true_and, Bool.and_self, Bool.or_true, Bool.true_or, isRf_3, isRf_4, isRf_5, isRf_8, isRf_9, isRf_10, isRf_11, isRf_15, isRf_16, isRf_17, isRf_18, isRf_19, isRf_20, isRf_21, isRf_22, isRf_23, isRf_24, isRf_25, isRf_26, isRf_27, isRf_28, k_X11_hardens_0, k_X11_hardens_1, k_X11_hardens_4, k_X11_hardens_5, k_X11_hardens_6, k_X11_hardens_9, k_X11_hardens_12, k_X11_hardens_13, k_X11_hardens_16, k_X11_hardens_17, k_X11_hardens_18, k_X11_hardens_21, k_X11_hardens_24, k_X11_hardens_25, k_X11_hardens_26, k_X11_hardens_27, k_X11_hardens_30, k_X11_hardens_31, k_X11_hardens_34, k_X11_hardens_37, k_X11_hardens_39, k_X11_hardens_40, k_X11_hardens_41, k_X11_hardens_44, k_X11_hardens_45, k_X11_hardens_48, k_X11_hardens_51, k_X11_hardens_52, k_X11_hardens_53, k_X11_hardens_54, k_X11_hardens_55, k_X11_hardens_58, k_X11_hardens_59, k_X11_hardens_62, k_X11_hardens_63, k_X11_hardens_64, k_X11_hardens_67, k_X11_hardens_68, k_X11_hardens_71, k_X11_hardens_74, k_X11_hardens_75, k_X11_hardens_76, k_X11_hardens_77, k_X11_hardens_80, k_X11_hardens_81, k_X11_hardens_82, k_X11_hardens_85, k_X11_hardens_88, k_X11_hardens_89, w_X0_copyFrom_e, w_X6_has_e, w_X9_playAround_e]
    by_cases d : 0 ≤ c ∧ c < pcnt σ 6 2
    · rw [if_pos d]
      by_cases d2 : 0 ≤ p ∧ p < pcnt σ 6 1
      · rw [if_pos d2]
        have i9 : ∃ k', inv_hrd σ c p R k' 40 [(27, 0), (0, c), (0, p), (0, 9)] [] (setAud σ 21 (aud σ 16)) := ⟨10, rfl, rfl, ⟨d.1, d.2, d2⟩, by omega, rfl, ⟨apM σ 22 c, by rw [up_id]; exact SF_rf _⟩, hR⟩
        repeat' (first | assumption | apply And.intro | intro _)
        all_goals first | omega | exact absurd trivial (by assumption) | exact isP6 | exact i9
      · rw [if_neg d2]
        have hh := h1 (fun q => d2 ⟨q.2.2.1, q.2.2.2⟩)
        repeat' (first | assumption | apply And.intro | intro _)
        all_goals first | omega | exact absurd trivial (by assumption) | exact isP6 | exact hh
    · rw [if_neg d]
      have hh := h1 (fun q => d ⟨q.1, q.2.1⟩)
      repeat' (first | assumption | apply And.intro | intro _)
      all_goals first | omega | exact absurd trivial (by assumption) | exact isP6 | exact hh
