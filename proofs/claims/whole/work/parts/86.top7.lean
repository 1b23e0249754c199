/-! ArmchairHouse: MEANT -/

theorem wd_1139 : Cond.methodLink RX11 354 yX6_minutes ∈ TBL := tb_tab (List.mem_of_getElem? (i := 1139) (by decide +kernel)) rfl
theorem lk_X11_354 : amLk RX11 354 yX6_minutes cX6_minutes 2 (some .int) 1 := ⟨wd_1139, wd_3, wd_801, by decide +kernel, by decide +kernel, by decide⟩
theorem wd_1140 : Cond.methodLink RX11 357 yX9_playMinute ∈ TBL := tb_tab (List.mem_of_getElem? (i := 1140) (by decide +kernel)) rfl
theorem wd_1143 : Cond.code yX9_playMinute cX9_playMinute 9 (none) ∈ TBL := tb_tab (List.mem_of_getElem? (i := 1143) (by decide +kernel)) rfl
theorem lk_X11_357 : amLk RX11 357 yX9_playMinute cX9_playMinute 9 (none) 3 := ⟨wd_1140, wd_7, wd_1143, by decide +kernel, by decide +kernel, by decide⟩
theorem wd_1141 : Cond.instanceMethod yX9_playMinute ∈ TBL := tb_tab (List.mem_of_getElem? (i := 1141) (by decide +kernel)) rfl
theorem wd_1142 : Cond.selects RX9 yX9_playMinute yX9_playMinute ∈ TBL := tb_tab (List.mem_of_getElem? (i := 1142) (by decide +kernel)) rfl
theorem wd_1134 : Cond.methodLink RX11 351 yX9_allFelt ∈ TBL := tb_tab (List.mem_of_getElem? (i := 1134) (by decide +kernel)) rfl
theorem lk_X11_351 : amLk RX11 351 yX9_allFelt cX9_allFelt 1 (some .int) 0 := ⟨wd_1134, wd_7, wd_848, by decide +kernel, by decide +kernel, by decide⟩
def a_X11_meant : AC := [(0, vAload 0 1), (1, vGetR TT 27 2 22 4), (4, vI 1 5), (5, vIload 1 6), (6, vCallM w_X6_has 22 2 9), (9, vIfEq 28 12), (12, vIload 2 13), (13, vIfLt 28 16), (16, vIload 2 17), (17, vAload 0 18), (18, vGetR TT 27 2 22 21), (21, vIload 1 22), (22, vCallM w_X6_minutes 22 1 25), (25, vIcLt 30 28), (28, vI (-1) 29), (29, vIret), (30, vAload 0 31), (31, vGetR TT 27 12 25 34), (34, vAload 0 35), (35, vGetR TT 27 10 16 38), (38, vIload 1 39), (39, vIload 2 40), (40, vCallMV w_X9_playMinute 25 3 43), (43, vAload 0 44), (44, vGetR TT 27 12 25 47), (47, vCallM w_X9_allFelt 25 0 50), (50, vI 2 51), (51, vIdiv 52), (52, vIstore 3 53), (53, vAload 0 54), (54, vGetR TT 27 2 22 57), (57, vCallM w_X6_everyChair 22 0 60), (60, vIstore 4 62), (62, vAload 0 63), (63, vGetR TT 27 2 22 66), (66, vCallM w_X6_everyChair 22 0 69), (69, vIstore 5 71), (71, vIload 5 73), (73, vIfLt 115 76), (76, vAload 0 77), (77, vGetR TT 27 12 25 80), (80, vGetR TT 25 4 8 83), (83, vIload 5 85), (85, vCallS w_X11_sumOver 2 88), (88, vIload 3 89), (89, vIcLt 109 92), (92, vIload 5 94), (94, vCallS w_J6_bitCount_0f7a4 1 97), (97, vIload 4 99), (99, vCallS w_J6_bitCount_0f7a4 1 102), (102, vIcGt 109 105), (105, vIload 5 107), (107, vIstore 4 109), (109, vIinc 5 (-1) 112), (112, vGoto 71), (115, vIload 4 117), (117, vIret)]
theorem k_X11_meant_0 : look a_X11_meant 0 = vAload 0 1 := rfl
theorem k_X11_meant_1 : look a_X11_meant 1 = vGetR TT 27 2 22 4 := rfl
theorem k_X11_meant_4 : look a_X11_meant 4 = vI 1 5 := rfl
theorem k_X11_meant_5 : look a_X11_meant 5 = vIload 1 6 := rfl
theorem k_X11_meant_6 : look a_X11_meant 6 = vCallM w_X6_has 22 2 9 := rfl
theorem k_X11_meant_9 : look a_X11_meant 9 = vIfEq 28 12 := rfl
theorem k_X11_meant_12 : look a_X11_meant 12 = vIload 2 13 := rfl
theorem k_X11_meant_13 : look a_X11_meant 13 = vIfLt 28 16 := rfl
theorem k_X11_meant_16 : look a_X11_meant 16 = vIload 2 17 := rfl
theorem k_X11_meant_17 : look a_X11_meant 17 = vAload 0 18 := rfl
theorem k_X11_meant_18 : look a_X11_meant 18 = vGetR TT 27 2 22 21 := rfl
theorem k_X11_meant_21 : look a_X11_meant 21 = vIload 1 22 := rfl
theorem k_X11_meant_22 : look a_X11_meant 22 = vCallM w_X6_minutes 22 1 25 := rfl
theorem k_X11_meant_25 : look a_X11_meant 25 = vIcLt 30 28 := rfl
theorem k_X11_meant_28 : look a_X11_meant 28 = vI (-1) 29 := rfl
theorem k_X11_meant_29 : look a_X11_meant 29 = vIret := rfl
theorem k_X11_meant_30 : look a_X11_meant 30 = vAload 0 31 := rfl
theorem k_X11_meant_31 : look a_X11_meant 31 = vGetR TT 27 12 25 34 := rfl
theorem k_X11_meant_34 : look a_X11_meant 34 = vAload 0 35 := rfl
theorem k_X11_meant_35 : look a_X11_meant 35 = vGetR TT 27 10 16 38 := rfl
theorem k_X11_meant_38 : look a_X11_meant 38 = vIload 1 39 := rfl
theorem k_X11_meant_39 : look a_X11_meant 39 = vIload 2 40 := rfl
theorem k_X11_meant_40 : look a_X11_meant 40 = vCallMV w_X9_playMinute 25 3 43 := rfl
theorem k_X11_meant_43 : look a_X11_meant 43 = vAload 0 44 := rfl
theorem k_X11_meant_44 : look a_X11_meant 44 = vGetR TT 27 12 25 47 := rfl
theorem k_X11_meant_47 : look a_X11_meant 47 = vCallM w_X9_allFelt 25 0 50 := rfl
theorem k_X11_meant_50 : look a_X11_meant 50 = vI 2 51 := rfl
theorem k_X11_meant_51 : look a_X11_meant 51 = vIdiv 52 := rfl
theorem k_X11_meant_52 : look a_X11_meant 52 = vIstore 3 53 := rfl
theorem k_X11_meant_53 : look a_X11_meant 53 = vAload 0 54 := rfl
theorem k_X11_meant_54 : look a_X11_meant 54 = vGetR TT 27 2 22 57 := rfl
theorem k_X11_meant_57 : look a_X11_meant 57 = vCallM w_X6_everyChair 22 0 60 := rfl
theorem k_X11_meant_60 : look a_X11_meant 60 = vIstore 4 62 := rfl
theorem k_X11_meant_62 : look a_X11_meant 62 = vAload 0 63 := rfl
theorem k_X11_meant_63 : look a_X11_meant 63 = vGetR TT 27 2 22 66 := rfl
theorem k_X11_meant_66 : look a_X11_meant 66 = vCallM w_X6_everyChair 22 0 69 := rfl
theorem k_X11_meant_69 : look a_X11_meant 69 = vIstore 5 71 := rfl
theorem k_X11_meant_71 : look a_X11_meant 71 = vIload 5 73 := rfl
theorem k_X11_meant_73 : look a_X11_meant 73 = vIfLt 115 76 := rfl
theorem k_X11_meant_76 : look a_X11_meant 76 = vAload 0 77 := rfl
theorem k_X11_meant_77 : look a_X11_meant 77 = vGetR TT 27 12 25 80 := rfl
theorem k_X11_meant_80 : look a_X11_meant 80 = vGetR TT 25 4 8 83 := rfl
theorem k_X11_meant_83 : look a_X11_meant 83 = vIload 5 85 := rfl
theorem k_X11_meant_85 : look a_X11_meant 85 = vCallS w_X11_sumOver 2 88 := rfl
theorem k_X11_meant_88 : look a_X11_meant 88 = vIload 3 89 := rfl
theorem k_X11_meant_89 : look a_X11_meant 89 = vIcLt 109 92 := rfl
theorem k_X11_meant_92 : look a_X11_meant 92 = vIload 5 94 := rfl
theorem k_X11_meant_94 : look a_X11_meant 94 = vCallS w_J6_bitCount_0f7a4 1 97 := rfl
theorem k_X11_meant_97 : look a_X11_meant 97 = vIload 4 99 := rfl
theorem k_X11_meant_99 : look a_X11_meant 99 = vCallS w_J6_bitCount_0f7a4 1 102 := rfl
theorem k_X11_meant_102 : look a_X11_meant 102 = vIcGt 109 105 := rfl
theorem k_X11_meant_105 : look a_X11_meant 105 = vIload 5 107 := rfl
theorem k_X11_meant_107 : look a_X11_meant 107 = vIstore 4 109 := rfl
theorem k_X11_meant_109 : look a_X11_meant 109 = vIinc 5 (-1) 112 := rfl
theorem k_X11_meant_112 : look a_X11_meant 112 = vGoto 71 := rfl
theorem k_X11_meant_115 : look a_X11_meant 115 = vIload 4 117 := rfl
theorem k_X11_meant_117 : look a_X11_meant 117 = vIret := rfl
theorem o_X11_meant {X : amX} (e1 : XT X = TT) (e2 : XD X = 4) (hB : amB X RX11 cX11_meant (some .int) 6) : ∀ pc, amOK X pc (look a_X11_meant pc) := by
  have hT : amTok (XT X) := e1 ▸ TT_ok
  refine look_ok ?_
  unfold a_X11_meant
  refine fc (ok_aload_n hB dX11_meant_0) ?_
  refine fc (okt_getR e1 hB hT fl_X11_23 rfl af_11_2 at_11_2 (by decide) dX11_meant_1) ?_
  refine fc (ok_iconst hB dX11_meant_4) ?_
  refine fc (ok_iload_n hB dX11_meant_5) ?_
  refine fc (ok_callM hB hT (e1 ▸ s_X6_has) lk_X11_174 (by rw [e2]; decide) (c := 6) rfl rfl rfl wd_729 wd_730 dX11_meant_6) ?_
  refine fc (ok_if_eq hB (t := 28) (by decide) dX11_meant_9) ?_
  refine fc (ok_iload_n hB dX11_meant_12) ?_
  refine fc (ok_if_lt hB (t := 28) (by decide) dX11_meant_13) ?_
  refine fc (ok_iload_n hB dX11_meant_16) ?_
  refine fc (ok_aload_n hB dX11_meant_17) ?_
  refine fc (okt_getR e1 hB hT fl_X11_23 rfl af_11_2 at_11_2 (by decide) dX11_meant_18) ?_
  refine fc (ok_iload_n hB dX11_meant_21) ?_
  refine fc (ok_callM hB hT (e1 ▸ s_X6_minutes) lk_X11_354 (by rw [e2]; decide) (c := 6) rfl rfl rfl wd_799 wd_800 dX11_meant_22) ?_
  refine fc (ok_icmp_lt hB (t := 30) (by decide) dX11_meant_25) ?_
  refine fc (ok_iconst hB dX11_meant_28) ?_
  refine fc (ok_iret hB dX11_meant_29) ?_
  refine fc (ok_aload_n hB dX11_meant_30) ?_
  refine fc (okt_getR e1 hB hT fl_X11_77 rfl af_11_12 at_11_12 (by decide) dX11_meant_31) ?_
  refine fc (ok_aload_n hB dX11_meant_34) ?_
  refine fc (okt_getR e1 hB hT fl_X11_65 rfl af_11_10 at_11_10 (by decide) dX11_meant_35) ?_
  refine fc (ok_iload_n hB dX11_meant_38) ?_
  refine fc (ok_iload_n hB dX11_meant_39) ?_
  refine fc (ok_callMV hB hT (e1 ▸ s_X9_playMinute) lk_X11_357 (by rw [e2]; decide) (c := 9) rfl rfl rfl wd_1141 wd_1142 dX11_meant_40) ?_
  refine fc (ok_aload_n hB dX11_meant_43) ?_
  refine fc (okt_getR e1 hB hT fl_X11_77 rfl af_11_12 at_11_12 (by decide) dX11_meant_44) ?_
  refine fc (ok_callM hB hT (e1 ▸ s_X9_allFelt) lk_X11_351 (by rw [e2]; decide) (c := 9) rfl rfl rfl wd_846 wd_847 dX11_meant_47) ?_
  refine fc (ok_iconst hB dX11_meant_50) ?_
  refine fc (ok_idiv hB dX11_meant_51) ?_
  refine fc (ok_istore_n hB (by decide) dX11_meant_52) ?_
  refine fc (ok_aload_n hB dX11_meant_53) ?_
  refine fc (okt_getR e1 hB hT fl_X11_23 rfl af_11_2 at_11_2 (by decide) dX11_meant_54) ?_
  refine fc (ok_callM hB hT (e1 ▸ s_X6_everyChair) lk_X11_327 (by rw [e2]; decide) (c := 6) rfl rfl rfl wd_850 wd_851 dX11_meant_57) ?_
  refine fc (ok_istore hB (by decide) dX11_meant_60) ?_
  refine fc (ok_aload_n hB dX11_meant_62) ?_
  refine fc (okt_getR e1 hB hT fl_X11_23 rfl af_11_2 at_11_2 (by decide) dX11_meant_63) ?_
  refine fc (ok_callM hB hT (e1 ▸ s_X6_everyChair) lk_X11_327 (by rw [e2]; decide) (c := 6) rfl rfl rfl wd_850 wd_851 dX11_meant_66) ?_
  refine fc (ok_istore hB (by decide) dX11_meant_69) ?_
  refine fc (ok_iload hB dX11_meant_71) ?_
  refine fc (ok_if_lt hB (t := 115) (by decide) dX11_meant_73) ?_
  refine fc (ok_aload_n hB dX11_meant_76) ?_
  refine fc (okt_getR e1 hB hT fl_X11_77 rfl af_11_12 at_11_12 (by decide) dX11_meant_77) ?_
  refine fc (okt_getR e1 hB hT fl_X11_291 rfl af_9_4 at_9_4 (by decide) dX11_meant_80) ?_
  refine fc (ok_iload hB dX11_meant_83) ?_
  refine fc (ok_callS hB (e1 ▸ s_X11_sumOver) lk_X11_330 (by rw [e2]; decide) wd_854 dX11_meant_85) ?_
  refine fc (ok_iload_n hB dX11_meant_88) ?_
  refine fc (ok_icmp_lt hB (t := 109) (by decide) dX11_meant_89) ?_
  refine fc (ok_iload hB dX11_meant_92) ?_
  refine fc (ok_callS hB (e1 ▸ s_J6_bitCount_0f7a4) lk_X11_360 (by rw [e2]; decide) wd_803 dX11_meant_94) ?_
  refine fc (ok_iload hB dX11_meant_97) ?_
  refine fc (ok_callS hB (e1 ▸ s_J6_bitCount_0f7a4) lk_X11_360 (by rw [e2]; decide) wd_803 dX11_meant_99) ?_
  refine fc (ok_icmp_gt hB (t := 109) (by decide) dX11_meant_102) ?_
  refine fc (ok_iload hB dX11_meant_105) ?_
  refine fc (ok_istore hB (by decide) dX11_meant_107) ?_
  refine fc (ok_iinc hB (by decide) dX11_meant_109) ?_
  refine fc (ok_goto hB (t := 71) (by decide) dX11_meant_112) ?_
  refine fc (ok_iload hB dX11_meant_115) ?_
  refine fc (ok_iret hB dX11_meant_117) ?_
  exact fn
def mnR (f : Int → Int) (h : Int) : Nat → Int → Int
  | 0, b => b
  | k + 1, b => mnR f h k (if h ≤ sOv f k 6 ∧ popc k ≤ popc b then k else b)
def mnV (σ : Mem) (p k j : Int) : Int := gmv σ 16 (σ 18 j) p j (popc (hbits (σ 18) (σ 18 j) (pcnt σ 6 2).toNat)) k
theorem mnV_b {σ : Mem} {p k j : Int} (hB : planB σ 6) (j0 : 0 ≤ j) (j1 : j < pcnt σ 6 2) : 0 ≤ mnV σ p k j ∧ mnV σ p k j ≤ 99 := by
  have c2 := pcnt_b hB 2
  have hb := hbits_64 (σ 18) (σ 18 j) (n := (pcnt σ 6 2).toNat) (by omega)
  exact gmv_b σ (popc_bit hb.1 hb.2 j0 (by omega) (by rw [hbits_bit _ _ j0 (by omega) (by omega), if_pos ⟨by omega, rfl⟩]))
theorem sumC_b {f : Int → Int} {c : Int} : ∀ {n : Nat}, (∀ i : Int, 0 ≤ i → i < n → 0 ≤ f i ∧ f i ≤ c) → 0 ≤ sumC f n ∧ sumC f n ≤ c * n := by
  intro n
  induction n with
  | zero => intro _; unfold sumC; omega
  | succ n ih =>
    intro h
    unfold sumC
    have := ih (fun i a b => h i a (by omega))
    have e : c * ((n + 1 : Nat) : Int) = c * n + c := by rw [Int.natCast_add, Int.mul_add]; simp
    have := h n (by omega) (by omega)
    omega
def inv_mea (σ : Mem) (p q h R N : Int) (n pc : Nat) (ls st : List AV) (σ' : Mem) : Prop := pc = 71 ∧ st = [] ∧ (0 ≤ p ∧ p < pcnt σ 6 1 ∧ 0 ≤ q ∧ q < pval σ 6 1 p 3) ∧ SF σ σ' ∧ (∀ j, 0 ≤ j → j < pcnt σ 6 2 → σ' 29 j = mnV σ p q j) ∧ ∃ b : Int, ls = [(27, 0), (0, p), (0, q), (0, h), (0, b), (0, (n : Int) - 1)] ∧ (n : Int) ≤ N ∧ 0 ≤ b ∧ b < 64 ∧ mnR (mnV σ p q) h n b = R
def w_X11_meant : WP := fun av σ Q => ∃ (p : Int) (q : Int), av = [(27, 0), (0, p), (0, q)] ∧ (InR p ∧ InR q ∧ xS σ ∧ (¬ (0 ≤ p ∧ p < pcnt σ 6 1 ∧ 0 ≤ q ∧ q < pval σ 6 1 p 3) → Q (0, -1) σ) ∧ (0 ≤ p ∧ p < pcnt σ 6 1 ∧ 0 ≤ q ∧ q < pval σ 6 1 p 3 → ∀ τ, SW σ τ → Q (0, mnR (mnV σ p q) (sumC (mnV σ p q) (pcnt σ 6 2).toNat / 2) (2 ^ (pcnt σ 6 2).toNat) (2 ^ (pcnt σ 6 2).toNat - 1)) τ))
theorem w_X11_meant_e (p : Int) (q : Int) (σ : Mem) (Q : AV → Mem → Prop) : w_X11_meant [(27, 0), (0, p), (0, q)] σ Q = (InR p ∧ InR q ∧ xS σ ∧ (¬ (0 ≤ p ∧ p < pcnt σ 6 1 ∧ 0 ≤ q ∧ q < pval σ 6 1 p 3) → Q (0, -1) σ) ∧ (0 ≤ p ∧ p < pcnt σ 6 1 ∧ 0 ≤ q ∧ q < pval σ 6 1 p 3 → ∀ τ, SW σ τ → Q (0, mnR (mnV σ p q) (sumC (mnV σ p q) (pcnt σ 6 2).toNat / 2) (2 ^ (pcnt σ 6 2).toNat) (2 ^ (pcnt σ 6 2).toNat - 1)) τ)) := by
  apply propext; constructor
  · rintro ⟨p', q', h9, hb9⟩; cases h9; exact hb9
  · intro hb9; exact ⟨p, q, rfl, hb9⟩

set_option maxRecDepth 100000 in
set_option maxHeartbeats 4000000 in
theorem s_X11_meant : ∀ av σ Q, w_X11_meant av σ Q → amCall 4 0 0 TT yX11_meant cX11_meant 6 (some .int) av σ Q := by
  rintro av σ Q ⟨p, q, rfl, hp, hq, ⟨hst, hse, h9, hsi⟩, h1, h2⟩
  have hB := hst.2.1
  have c1 := pcnt_b hB 1
  have c2 := pcnt_b hB 2
  have e1 : (16 : Int) + 2 = 18 := rfl
  have h9p := h9 p
  have mb := pval_b hB 1 p 3
  have pw := p2_6 (m := (pcnt σ 6 2).toNat) (by omega)
  have sm := sumC_b (f := mnV σ p q) (c := 99) (n := (pcnt σ 6 2).toNat) (fun j j0 j1 => mnV_b hB j0 (by omega))
  have pn := p2n (pcnt σ 6 2).toNat
  have bl : ∀ k j : Int, 0 ≤ k → k < 2 ^ (pcnt σ 6 2).toNat → 0 ≤ j → j < 6 → bt k j = 1 → j < pcnt σ 6 2 := fun k j k0 k1 j0 j1 j2 => by
    have := bt_lt (m := (pcnt σ 6 2).toNat) (by omega) k0 k1 j0 j1 j2
    omega
  generalize hN : (2 : Int) ^ (pcnt σ 6 2).toNat = N at *
  generalize hM : (2 : Nat) ^ (pcnt σ 6 2).toNat = M at *
  generalize hH : sumC (mnV σ p q) (pcnt σ 6 2).toNat / 2 = H at *
  generalize hR : mnR (mnV σ p q) H M (N - 1) = R at *
  refine am_m [71] (inv_mea σ p q H R N) (own := RX11) (A := look a_X11_meant) (fun X e1 e2 hB => o_X11_meant e1 e2 hB) rfl (by decide +kernel) rfl rfl ?_ ⟨90, ?_⟩ (w := 6)
  · rintro n pc ls st σ' ⟨rfl, rfl, cc, hF, hf, b, rfl, hn, hb0, hb1, hr⟩
    have hq := h2 cc σ' (SF_SW hF)
    cases n with
    | zero =>
      refine ⟨90, ?_⟩
      simp only [↓reduceIte, inR_0, inR_1, inR_m, vSw2_e, swP_n, swP_c, vI_e, vL_e, vNull_e, vIload_e, vLload_e, vAload_e, vIstore_e, vLstore_e, vAstore_e, vIinc_e, vIadd_e, vIsub_e, vImul_e, vIand_e, vIor_e, vIxor_e, vIshl_e, vIshr_e, vIushr_e, vIdiv_e, vIrem_e, vLadd_e, vLsub_e, vLmul_e, vLand_e, vLor_e, vLxor_e, vLdiv_e, vLrem_e, vLushr_e, vLshl_e, vLcmp_e, vIneg_e, vI2l_e, vL2i_e, vI2b_e, vI2c_e, vDup_e, vPop_e, vDup2_e, vGoto_e, vIcEq_e, vIfEq_e, vIcNe_e, vIfNe_e, vIcLt_e, vIfLt_e, vIcGe_e, vIfGe_e, vIcGt_e, vIfGt_e, vIcLe_e, vIfLe_e, vNonnull_e, vSw_e, vGetI_e, vGetL_e, vGetR_e, vPutI_e, vPutZ_e, vPutL_e, vPutR_e, vIald_e, vIald_s, vLald_e, vBald_e, vBald_s, vAald_e, vIast_e, vLast_e, vBast_e, vAast_e, vAlen_e8, vAlen_e9, vAlen_e10, vAlen_e11, vAlen_e5, vAlen_e3, vGets_e, vCompact_e, vLdcS_e, vIret_e, vZret_e, vCret_e, vBret_e, vLret_e, vVret_e, vAret_e, vCallM_e0, vCallMV_e0, vCallS_e0, vCallSV_e0, vCallM_e1, vCallMV_e1, vCallS_e1, vCallSV_e1, vCallM_e2, vCallMV_e2, vCallS_e2, vCallSV_e2, vCallM_e3, vCallMV_e3, vCallS_e3, vCallSV_e3, vCallM_e4, vCallMV_e4, vCallS_e4, vCallSV_e4, vCallM_e5, vCallMV_e5, vCallS_e5, vCallSV_e5, vCallM_e6, vCallMV_e6, vCallS_e6, vCallSV_e6, vCallM_e7, vCallMV_e7, vCallS_e7, vCallSV_e7, vBad_e, vStrVal_e, vStrCod_e, vForm_e, vCallT_e0, vCallT_e1, vCallT_e2, vCopy_e, rf_0_0, rf_0_1, rf_0_2, rf_0_3, rf_0_4, rf_0_7, rf_0_10, rf_0_11, rf_0_12, rf_0_13, rf_0_14, rf_0_15, rf_0_16, rf_1_0, rf_3_0, rf_3_1, rf_6_0, rf_6_1, rf_9_0, rf_9_1, rf_9_3, rf_13_0, rf_13_1, rf_13_2, rf_16_0, rf_16_1, rf_16_2, rf_16_3, rf_21_0, rf_21_1, rf_21_2, rf_21_3, rf_26_0, rf_26_1, rf_26_2, rf_26_3, rf_26_4, rf_26_5, rf_26_6, rf_31_0, rf_31_2, rf_31_5, rf_31_6, rf_36_0, rf_36_1, rf_36_2, rf_36_3, rf_39_0, rf_39_1, rf_39_2, rf_41_0, rf_41_1, rf_41_2, rf_41_3, rf_5000_1, rf_5000_2, rf_5000_3, rf_5000_4, rf_5000_5, rf_5000_15, rf_5000_16, rf_5000_18, rf_5000_19, rf_5000_20, rf_5000_21, rf_5000_22, rf_5000_23, rf_5000_24, rf_5000_25, rf_5000_26, rf_5000_27, rf_5000_36, rf_5000_37, rf_5000_40, rf_5000_41, rf_5000_42, rf_5000_43, rf_5000_44, rf_5000_45, rf_5000_47, rf_5000_52, rf_5000_54, rf_5000_55, rf_100_0, rf_100_1, rf_103_0, rf_103_1, rf_106_0, rf_106_1, rf_109_0, rf_109_1, al_2, al_4, al_5, al_7, al_8, al_10, al_11, al_12, al_14, al_15, al_17, al_18, al_19, al_20, al_22, al_23, al_24, al_25, al_27, al_28, al_29, al_30, al_32, al_33, al_34, al_35, al_37, al_38, al_40, al_42, al_5001, al_5002, al_5003, al_5004, al_5005, al_5006, al_5007, al_5008, al_5009, al_5010, al_5011, al_5012, al_5013, al_5014, al_5015, al_5016, al_5017, al_5018, al_5019, al_5020, al_5021, al_5022, al_5023, al_5024, al_5025, al_5026, al_9000, al_101, al_102, al_104, al_105, al_107, al_108, al_110, al_111, vcs_e, lg_c0, lg_cs, lg_nil, set_c0, set_cs, okst_0, okst_s, acok_n, acok_c, List.contains_nil, List.contains_cons, Bool.or_false, Bool.false_or, Bool.false_eq_true, if_false, if_true, ite_self, ne_eq, true_and, and_true, not_false_eq_true, not_true_eq_false, false_imp_iff, true_imp_iff, Nat.ble_eq, Bool.and_eq_true, reduceCtorEq, or_false, false_or, or_true, true_or, false_and, and_false, and_self, Int.reduceLE, Int.reduceAdd, Int.reduceSub, Int.reduceMul, Int.reduceNeg, Int.reduceLT, Int.reduceEq, Int.reduceNe, Nat.reduceBEq, Nat.reduceBNe, Nat.reduceEqDiff, amCmp_in, amCmp_lt, amCmp_le, amCmp_gt, amCmp_ge, amCmp_eq, amCmp_ne, Nat.reduceLeDiff, Nat.reduceSub, Bool.and_true, Bool.true_and, Bool.and_self, Bool.or_true, Bool.true_or, isRf_3, isRf_4, isRf_5, isRf_8, isRf_9, isRf_10, isRf_11, isRf_15, isRf_16, isRf_17, isRf_18, isRf_19, isRf_20, isRf_21, isRf_22, isRf_23, isRf_24, isRf_25, isRf_26, isRf_27, isRf_28, k_X11_meant_0, k_X11_meant_1, k_X11_meant_4, k_X11_meant_5, k_X11_meant_6, k_X11_meant_9, k_X11_meant_12, k_X11_meant_13, k_X11_meant_16, k_X11_meant_17, k_X11_meant_18, k_X11_meant_21, k_X11_meant_22, k_X11_meant_25, k_X11_meant_28, k_X11_meant_29, k_X11_meant_30, k_X11_meant_31, k_X11_meant_34, k_X11_meant_35, k_X11_meant_38, k_X11_meant_39, k_X11_meant_40, k_X11_meant_43, k_X11_meant_44, k_X11_meant_47, k_X11_meant_50, k_X11_meant_51, k_X11_meant_52, k_X11_meant_53, k_X11_meant_54, k_X11_meant_57, k_X11_meant_60, k_X11_meant_62, k_X11_meant_63, k_X11_meant_66, k_X11_meant_69, k_X11_meant_71, k_X11_meant_73, k_X11_meant_76, k_X11_meant_77, k_X11_meant_80, k_X11_meant_83, k_X11_meant_85, k_X11_meant_88, k_X11_meant_89, k_X11_meant_92, k_X11_meant_94, k_X11_meant_97, k_X11_meant_99, k_X11_meant_102, k_X11_meant_105, k_X11_meant_107, k_X11_meant_109, k_X11_meant_112, k_X11_meant_115, k_X11_meant_117]
      rw [mnR] at hr
      rw [← hr] at hq
      repeat' (first | assumption | apply And.intro | intro _)
      all_goals first | omega | exact absurd trivial (by assumption) | exact hq
    | succ n =>
      have en : ((n + 1 : Nat) : Int) - 1 = n := by omega
      have ev : sOv (σ' 29) n 6 = sOv (mnV σ p q) n 6 := sOv_cong 6 (fun j j0 j1 j2 => hf j j0 (bl n j (by omega) (by omega) j0 (by omega) j2))
      have sb := sOv_b (f := mnV σ p q) (S := n) (c := 99) (by omega) 6 (fun j j0 j1 j2 => mnV_b hB j0 (bl n j (by omega) (by omega) j0 (by omega) j2))
      have pb := popc_b (n : Int)
      have pb2 := popc_b b
      refine ⟨90, ?_⟩
      simp only [↓reduceIte, inR_0, inR_1, inR_m, vSw2_e, swP_n, swP_c, vI_e, vL_e, vNull_e, vIload_e, vLload_e, vAload_e, vIstore_e, vLstore_e, vAstore_e, vIinc_e, vIadd_e, vIsub_e, vImul_e, vIand_e, vIor_e, vIxor_e, vIshl_e, vIshr_e, vIushr_e, vIdiv_e, vIrem_e, vLadd_e, vLsub_e, vLmul_e, vLand_e, vLor_e, vLxor_e, vLdiv_e, vLrem_e, vLushr_e, vLshl_e, vLcmp_e, vIneg_e, vI2l_e, vL2i_e, vI2b_e, vI2c_e, vDup_e, vPop_e, vDup2_e, vGoto_e, vIcEq_e, vIfEq_e, vIcNe_e, vIfNe_e, vIcLt_e, vIfLt_e, vIcGe_e, vIfGe_e, vIcGt_e, vIfGt_e, vIcLe_e, vIfLe_e, vNonnull_e, vSw_e, vGetI_e, vGetL_e, vGetR_e, vPutI_e, vPutZ_e, vPutL_e, vPutR_e, vIald_e, vIald_s, vLald_e, vBald_e, vBald_s, vAald_e, vIast_e, vLast_e, vBast_e, vAast_e, vAlen_e8, vAlen_e9, vAlen_e10, vAlen_e11, vAlen_e5, vAlen_e3, vGets_e, vCompact_e, vLdcS_e, vIret_e, vZret_e, vCret_e, vBret_e, vLret_e, vVret_e, vAret_e, vCallM_e0, vCallMV_e0, vCallS_e0, vCallSV_e0, vCallM_e1, vCallMV_e1, vCallS_e1, vCallSV_e1, vCallM_e2, vCallMV_e2, vCallS_e2, vCallSV_e2, vCallM_e3, vCallMV_e3, vCallS_e3, vCallSV_e3, vCallM_e4, vCallMV_e4, vCallS_e4, vCallSV_e4, vCallM_e5, vCallMV_e5, vCallS_e5, vCallSV_e5, vCallM_e6, vCallMV_e6, vCallS_e6, vCallSV_e6, vCallM_e7, vCallMV_e7, vCallS_e7, vCallSV_e7, vBad_e, vStrVal_e, vStrCod_e, vForm_e, vCallT_e0, vCallT_e1, vCallT_e2, vCopy_e, rf_0_0, rf_0_1, rf_0_2, rf_0_3, rf_0_4, rf_0_7, rf_0_10, rf_0_11, rf_0_12, rf_0_13, rf_0_14, rf_0_15, rf_0_16, rf_1_0, rf_3_0, rf_3_1, rf_6_0, rf_6_1, rf_9_0, rf_9_1, rf_9_3, rf_13_0, rf_13_1, rf_13_2, rf_16_0, rf_16_1, rf_16_2, rf_16_3, rf_21_0, rf_21_1, rf_21_2, rf_21_3, rf_26_0, rf_26_1, rf_26_2, rf_26_3, rf_26_4, rf_26_5, rf_26_6, rf_31_0, rf_31_2, rf_31_5, rf_31_6, rf_36_0, rf_36_1, rf_36_2, rf_36_3, rf_39_0, rf_39_1, rf_39_2, rf_41_0, rf_41_1, rf_41_2, rf_41_3, rf_5000_1, rf_5000_2, rf_5000_3, rf_5000_4, rf_5000_5, rf_5000_15, rf_5000_16, rf_5000_18, rf_5000_19, rf_5000_20, rf_5000_21, rf_5000_22, rf_5000_23, rf_5000_24, rf_5000_25, rf_5000_26, rf_5000_27, rf_5000_36, rf_5000_37, rf_5000_40, rf_5000_41, rf_5000_42, rf_5000_43, rf_5000_44, rf_5000_45, rf_5000_47, rf_5000_52, rf_5000_54, rf_5000_55, rf_100_0, rf_100_1, rf_103_0, rf_103_1, rf_106_0, rf_106_1, rf_109_0, rf_109_1, al_2, al_4, al_5, al_7, al_8, al_10, al_11, al_12, al_14, al_15, al_17, al_18, al_19, al_20, al_22, al_23, al_24, al_25, al_27, al_28, al_29, al_30, al_32, al_33, al_34, al_35, al_37, al_38, al_40, al_42, al_5001, al_5002, al_5003, al_5004, al_5005, al_5006, al_5007, al_5008, al_5009, al_5010, al_5011, al_5012, al_5013, al_5014, al_5015, al_5016, al_5017, al_5018, al_5019, al_5020, al_5021, al_5022, al_5023, al_5024, al_5025, al_5026, al_9000, al_101, al_102, al_104, al_105, al_107, al_108, al_110, al_111, vcs_e, lg_c0, lg_cs, lg_nil, set_c0, set_cs, okst_0, okst_s, acok_n, acok_c, List.contains_nil, List.contains_cons, Bool.or_false, Bool.false_or, Bool.false_eq_true, if_false, if_true, ite_self, ne_eq, true_and, and_true, not_false_eq_true, not_true_eq_false, false_imp_iff, true_imp_iff, Nat.ble_eq, Bool.and_eq_true, reduceCtorEq, or_false, false_or, or_true, true_or, false_and, and_false, and_self, Int.reduceLE, Int.reduceAdd, Int.reduceSub, Int.reduceMul, Int.reduceNeg, Int.reduceLT, Int.reduceEq, Int.reduceNe, Nat.reduceBEq, Nat.reduceBNe, Nat.reduceEqDiff, amCmp_in, amCmp_lt, amCmp_le, amCmp_gt, amCmp_ge, amCmp_eq, amCmp_ne, Nat.reduceLeDiff, Nat.reduceSub, Bool.and_true, Bool.true_and, Bool.and_self, Bool.or_true, Bool.true_or, isRf_3, isRf_4, isRf_5, isRf_8, isRf_9, isRf_10, isRf_11, isRf_15, isRf_16, isRf_17, isRf_18, isRf_19, isRf_20, isRf_21, isRf_22, isRf_23, isRf_24, isRf_25, isRf_26, isRf_27, isRf_28, k_X11_meant_0, k_X11_meant_1, k_X11_meant_4, k_X11_meant_5, k_X11_meant_6, k_X11_meant_9, k_X11_meant_12, k_X11_meant_13, k_X11_meant_16, k_X11_meant_17, k_X11_meant_18, k_X11_meant_21, k_X11_meant_22, k_X11_meant_25, k_X11_meant_28, k_X11_meant_29, k_X11_meant_30, k_X11_meant_31, k_X11_meant_34, k_X11_meant_35, k_X11_meant_38, k_X11_meant_39, k_X11_meant_40, k_X11_meant_43, k_X11_meant_44, k_X11_meant_47, k_X11_meant_50, k_X11_meant_51, k_X11_meant_52, k_X11_meant_53, k_X11_meant_54, k_X11_meant_57, k_X11_meant_60, k_X11_meant_62, k_X11_meant_63, k_X11_meant_66, k_X11_meant_69, k_X11_meant_71, k_X11_meant_73, k_X11_meant_76, k_X11_meant_77, k_X11_meant_80, k_X11_meant_83, k_X11_meant_85, k_X11_meant_88, k_X11_meant_89, k_X11_meant_92, k_X11_meant_94, k_X11_meant_97, k_X11_meant_99, k_X11_meant_102, k_X11_meant_105, k_X11_meant_107, k_X11_meant_109, k_X11_meant_112, k_X11_meant_115, k_X11_meant_117, w_J6_bitCount_0f7a4_e, w_X11_sumOver_e, w_X6_everyChair_e, w_X6_has_e, w_X6_minutes_e, w_X9_allFelt_e, w_X9_playMinute_e, en, ev, bcx_popc hb0 hb1, bcx_popc (x := (n : Int)) (by omega) (by omega)]
      rw [mnR] at hr
      have nx : ∀ b', 0 ≤ b' → b' < 64 → mnR (mnV σ p q) H n b' = R → ∃ k', k' < n + 1 ∧ inv_mea σ p q H R N k' 71 [(27, 0), (0, p), (0, q), (0, H), (0, b'), (0, (n : Int) + -1)] [] σ' := fun b' g1 g2 g3 => ⟨n, by omega, rfl, rfl, cc, hF, hf, b', by rw [show (n : Int) - 1 = (n : Int) + -1 by omega], by omega, g1, g2, g3⟩
      by_cases cb : H ≤ sOv (mnV σ p q) n 6 ∧ popc n ≤ popc b
      · rw [if_pos cb] at hr
        have i9 := nx n (by omega) (by omega) hr
        repeat' (first | assumption | apply And.intro | intro _)
        all_goals first | omega | exact absurd trivial (by assumption) | exact i9
      · rw [if_neg cb] at hr
        have i9 := nx b (by omega) (by omega) hr
        repeat' (first | assumption | apply And.intro | intro _)
        all_goals first | omega | exact absurd trivial (by assumption) | exact i9
  · change vcs _ _ _ _ 90 0 [(27, 0), (0, p), (0, q), (6, 0), (6, 0), (6, 0)] [] σ
    simp only [↓reduceIte, inR_0, inR_1, inR_m, vSw2_e, swP_n, swP_c, vI_e, vL_e, vNull_e, vIload_e, vLload_e, vAload_e, vIstore_e, vLstore_e, vAstore_e, vIinc_e, vIadd_e, vIsub_e, vImul_e, vIand_e, vIor_e, vIxor_e, vIshl_e, vIshr_e, vIushr_e, vIdiv_e, vIrem_e, vLadd_e, vLsub_e, vLmul_e, vLand_e, vLor_e, vLxor_e, vLdiv_e, vLrem_e, vLushr_e, vLshl_e, vLcmp_e, vIneg_e, vI2l_e, vL2i_e, vI2b_e, vI2c_e, vDup_e, vPop_e, vDup2_e, vGoto_e, vIcEq_e, vIfEq_e, vIcNe_e, vIfNe_e, vIcLt_e, vIfLt_e, vIcGe_e, vIfGe_e, vIcGt_e, vIfGt_e, vIcLe_e, vIfLe_e, vNonnull_e, vSw_e, vGetI_e, vGetL_e, vGetR_e, vPutI_e, vPutZ_e, vPutL_e, vPutR_e, vIald_e, vIald_s, vLald_e, vBald_e, vBald_s, vAald_e, vIast_e, vLast_e, vBast_e, vAast_e, vAlen_e8, vAlen_e9, vAlen_e10, vAlen_e11, vAlen_e5, vAlen_e3, vGets_e, vCompact_e, vLdcS_e, vIret_e, vZret_e, vCret_e, vBret_e, vLret_e, vVret_e, vAret_e, vCallM_e0, vCallMV_e0, vCallS_e0, vCallSV_e0, vCallM_e1, vCallMV_e1, vCallS_e1, vCallSV_e1, vCallM_e2, vCallMV_e2, vCallS_e2, vCallSV_e2, vCallM_e3, vCallMV_e3, vCallS_e3, vCallSV_e3, vCallM_e4, vCallMV_e4, vCallS_e4, vCallSV_e4, vCallM_e5, vCallMV_e5, vCallS_e5, vCallSV_e5, vCallM_e6, vCallMV_e6, vCallS_e6, vCallSV_e6, vCallM_e7, vCallMV_e7, vCallS_e7, vCallSV_e7, vBad_e, vStrVal_e, vStrCod_e, vForm_e, vCallT_e0, vCallT_e1, vCallT_e2, vCopy_e, rf_0_0, rf_0_1, rf_0_2, rf_0_3, rf_0_4, rf_0_7, rf_0_10, rf_0_11, rf_0_12, rf_0_13, rf_0_14, rf_0_15, rf_0_16, rf_1_0, rf_3_0, rf_3_1, rf_6_0, rf_6_1, rf_9_0, rf_9_1, rf_9_3, rf_13_0, rf_13_1, rf_13_2, rf_16_0, rf_16_1, rf_16_2, rf_16_3, rf_21_0, rf_21_1, rf_21_2, rf_21_3, rf_26_0, rf_26_1, rf_26_2, rf_26_3, rf_26_4, rf_26_5, rf_26_6, rf_31_0, rf_31_2, rf_31_5, rf_31_6, rf_36_0, rf_36_1, rf_36_2, rf_36_3, rf_39_0, rf_39_1, rf_39_2, rf_41_0, rf_41_1, rf_41_2, rf_41_3, rf_5000_1, rf_5000_2, rf_5000_3, rf_5000_4, rf_5000_5, rf_5000_15, rf_5000_16, rf_5000_18, rf_5000_19, rf_5000_20, rf_5000_21, rf_5000_22, rf_5000_23, rf_5000_24, rf_5000_25, rf_5000_26, rf_5000_27, rf_5000_36, rf_5000_37, rf_5000_40, rf_5000_41, rf_5000_42, rf_5000_43, rf_5000_44, rf_5000_45, rf_5000_47, rf_5000_52, rf_5000_54, rf_5000_55, rf_100_0, rf_100_1, rf_103_0, rf_103_1, rf_106_0, rf_106_1, rf_109_0, rf_109_1, al_2, al_4, al_5, al_7, al_8, al_10, al_11, al_12, al_14, al_15, al_17, al_18, al_19, al_20, al_22, al_23, al_24, al_25, al_27, al_28, al_29, al_30, al_32, al_33, al_34, al_35, al_37, al_38, al_40, al_42, al_5001, al_5002, al_5003, al_5004, al_5005, al_5006, al_5007, al_5008, al_5009, al_5010, al_5011, al_5012, al_5013, al_5014, al_5015, al_5016, al_5017, al_5018, al_5019, al_5020, al_5021, al_5022, al_5023, al_5024, al_5025, al_5026, al_9000, al_101, al_102, al_104, al_105, al_107, al_108, al_110, al_111, vcs_e, lg_c0, lg_cs, lg_nil, set_c0, set_cs, okst_0, okst_s, acok_n, acok_c, List.contains_nil, List.contains_cons, Bool.or_false, Bool.false_or, Bool.false_eq_true, if_false, if_true, ite_self, ne_eq, true_and, and_true, not_false_eq_true, not_true_eq_false, false_imp_iff, true_imp_iff, Nat.ble_eq, Bool.and_eq_true, reduceCtorEq, or_false, false_or, or_true, true_or, false_and, and_false, and_self, Int.reduceLE, Int.reduceAdd, Int.reduceSub, Int.reduceMul, Int.reduceNeg, Int.reduceLT, Int.reduceEq, Int.reduceNe, Nat.reduceBEq, Nat.reduceBNe, Nat.reduceEqDiff, amCmp_in, amCmp_lt, amCmp_le, amCmp_gt, amCmp_ge, amCmp_eq, amCmp_ne, Nat.reduceLeDiff, Nat.reduceSub, Bool.and_true, Bool.true_and, Bool.and_self, Bool.or_true, Bool.true_or, isRf_3, isRf_4, isRf_5, isRf_8, isRf_9, isRf_10, isRf_11, isRf_15, isRf_16, isRf_17, isRf_18, isRf_19, isRf_20, isRf_21, isRf_22, isRf_23, isRf_24, isRf_25, isRf_26, isRf_27, isRf_28, k_X11_meant_0, k_X11_meant_1, k_X11_meant_4, k_X11_meant_5, k_X11_meant_6, k_X11_meant_9, k_X11_meant_12, k_X11_meant_13, k_X11_meant_16, k_X11_meant_17, k_X11_meant_18, k_X11_meant_21, k_X11_meant_22, k_X11_meant_25, k_X11_meant_28, k_X11_meant_29, k_X11_meant_30, k_X11_meant_31, k_X11_meant_34, k_X11_meant_35, k_X11_meant_38, k_X11_meant_39, k_X11_meant_40, k_X11_meant_43, k_X11_meant_44, k_X11_meant_47, k_X11_meant_50, k_X11_meant_51, k_X11_meant_52, k_X11_meant_53, k_X11_meant_54, k_X11_meant_57, k_X11_meant_60, k_X11_meant_62, k_X11_meant_63, k_X11_meant_66, k_X11_meant_69, k_X11_meant_71, k_X11_meant_73, k_X11_meant_76, k_X11_meant_77, k_X11_meant_80, k_X11_meant_83, k_X11_meant_85, k_X11_meant_88, k_X11_meant_89, k_X11_meant_92, k_X11_meant_94, k_X11_meant_97, k_X11_meant_99, k_X11_meant_102, k_X11_meant_105, k_X11_meant_107, k_X11_meant_109, k_X11_meant_112, k_X11_meant_115, k_X11_meant_117, w_J6_bitCount_0f7a4_e, w_X11_sumOver_e, w_X6_everyChair_e, w_X6_has_e, w_X6_minutes_e, w_X9_allFelt_e, w_X9_playMinute_e, e1, pmin_e, hN]
    have key : (0 ≤ p ∧ p < pcnt σ 6 1 ∧ 0 ≤ q ∧ q < pval σ 6 1 p 3) → ∀ τ, SF σ τ → (∀ j, 0 ≤ j → j < pcnt σ 6 2 → τ 29 j = gmv σ 16 (σ 18 j) p j (popc (hbits (σ 18) (σ 18 j) (pcnt σ 6 2).toNat)) q) → pcnt τ 6 2 = pcnt σ 6 2 ∧ Int.tdiv (sumC (τ 29) (pcnt σ 6 2).toNat) 2 = H ∧ (∃ k', inv_mea σ p q H R N k' 71 [(27, 0), (0, p), (0, q), (0, H), (0, N - 1), (0, N - 1)] [] τ) ∧ 0 ≤ sumC (τ 29) (pcnt σ 6 2).toNat ∧ sumC (τ 29) (pcnt σ 6 2).toNat ≤ 1000 := fun cc τ q1 q2 => by
      have es : sumC (τ 29) (pcnt σ 6 2).toNat = sumC (mnV σ p q) (pcnt σ 6 2).toNat := sumC_cong (fun j j0 j1 => q2 j j0 (by omega))
      refine ⟨SF_pcnt q1 2, by rw [es, Int.tdiv_eq_ediv_of_nonneg sm.1]; exact hH, ⟨M, rfl, rfl, cc, q1, q2, N - 1, by rw [pn], by omega, by omega, by omega, hR⟩, by rw [es]; omega, by rw [es]; omega⟩
    by_cases d : 0 ≤ p ∧ p < pcnt σ 6 1
    · rw [if_pos d]
      by_cases cc : 0 ≤ q ∧ q < pval σ 6 1 p 3
      · have key' := key ⟨d.1, d.2, cc⟩
        repeat' (first | assumption | apply And.intro | intro _)
        all_goals first | omega | exact absurd trivial (by assumption) | exact isP6 | skip
        all_goals
          obtain ⟨z1, z2, z3, z4, z5⟩ := key' _ ‹SF σ _› (by assumption)
          simp only [z1, z2, hN]
          first | omega | exact z3 | exact isP6
      · have hh := h1 (fun g => cc g.2.2)
        repeat' (first | assumption | apply And.intro | intro _)
        all_goals first | omega | exact absurd trivial (by assumption) | exact isP6 | exact hh
    · rw [if_neg d]
      have hh := h1 (fun g => d ⟨g.1, g.2.1⟩)
      repeat' (first | assumption | apply And.intro | intro _)
      all_goals first | omega | exact absurd trivial (by assumption) | exact isP6 | exact hh
