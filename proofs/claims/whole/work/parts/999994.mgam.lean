/-! the reference: GAMES -/
theorem PF_mOu {σ τ : Mem} (h : PF σ τ) {w : Int} (hw : isW w) (p : Int) : ∀ k : Nat, mOu τ w p k = mOu σ w p k := by
  intro k
  induction k with
  | zero => rfl
  | succ k ih =>
    unfold mOu
    rw [ih, h.2 29 (by decide) (by decide) (by decide) (by decide), PF_r h (b := 5005) (by decide)]
    refine gb_c (fun i _ _ => ?_)
    rw [PF_mMn h hw]
/-- two audiences that play alike -/
def sP (σ τ : Mem) (w v : Int) : Prop := (∀ j, 0 ≤ j → j < 28 → τ v j = σ w j) ∧ τ 5007 = σ 5007 ∧ τ 5011 = σ 5011 ∧ τ 5005 = σ 5005 ∧ τ 5002 = σ 5002 ∧ τ 5003 = σ 5003 ∧ τ 5000 29 = σ 5000 29 ∧ τ 5000 38 = σ 5000 38
theorem shC_c {s s' : Int → Int} (o t : Int) : ∀ {n : Nat}, (∀ c : Int, 0 ≤ c → c < n → s' (4 * c + 1) = s (4 * c + 1)) → shC s' o t n = shC s o t n := by
  intro n
  induction n with
  | zero => intro _; rfl
  | succ n ih =>
    intro h
    unfold shC
    rw [ih (fun c a b => h c a (by omega)), h n (by omega) (by omega)]
theorem sP_mMn {σ τ : Mem} {w v : Int} (h : sP σ τ w v) (n6 : σ 5000 29 ≤ 6) (p k o : Int) {c : Int} (c0 : 0 ≤ c) (c1 : c < σ 5000 29) : mMn τ v p k o c = mMn σ w p k o c := by
  obtain ⟨h1, h2, h3, h4, h5, h6, h7, h8⟩ := h
  unfold mMn
  rw [h1 24 (by decide) (by decide), h1 26 (by decide) (by decide), h1 (4 * c + 1) (by omega) (by omega), h1 (4 * c) (by omega) (by omega), h2, h3, h7, shC_c o (σ w (4 * c + 1)) (s' := τ v) (s := σ w) (fun d d0 d1 => h1 _ (by omega) (by omega))]
  unfold mRk
  rw [mwo_c h5 h6, h8]
theorem sP_mOu {σ τ : Mem} {w v : Int} (h : sP σ τ w v) (n6 : σ 5000 29 ≤ 6) (p : Int) : ∀ k : Nat, mOu τ v p k = mOu σ w p k := by
  intro k
  induction k with
  | zero => rfl
  | succ k ih =>
    unfold mOu
    rw [ih, h.2.2.2.1, h.2.2.2.2.2.2.1]
    refine gb_c (fun i i0 i1 => ?_)
    rw [sP_mMn h n6 p k _ i0 (by omega)]
theorem sP_mOa {σ τ : Mem} {w v : Int} (h : sP σ τ w v) (n6 : σ 5000 29 ≤ 6) (p : Int) {c : Int} (c0 : 0 ≤ c) (c1 : c < σ 5000 29) : ∀ k : Nat, mOa τ v p k c = mOa σ w p k c := by
  intro k
  induction k with
  | zero => rfl
  | succ k ih => unfold mOa; rw [ih, sP_mOu h n6, h.2.2.2.1, sP_mMn h n6 p k _ c0 c1]
theorem sP_mFl {σ τ : Mem} {w v : Int} (h : sP σ τ w v) (n6 : σ 5000 29 ≤ 6) (p : Int) {c : Int} (c0 : 0 ≤ c) (c1 : c < σ 5000 29) : ∀ k : Nat, mFl τ v p k c = mFl σ w p k c := by
  intro k
  induction k with
  | zero => rfl
  | succ k ih => unfold mFl; rw [ih, sP_mOu h n6, sP_mMn h n6 p k _ c0 c1]
/-- the audience apart, two TICKETS changed -/
def trK (σ : Mem) : Mem := cpy σ 5015 0 5016 0 (28 + 3 * σ 5015 27)
theorem trK_j {σ : Mem} (h0 : 0 ≤ σ 5015 27) {j : Int} (j0 : 0 ≤ j) (j1 : j < 28) : trK σ 5016 j = σ 5015 j := by
  unfold trK; rw [cpy_in _ _ _ _ _ _ ⟨j0, by omega⟩]; congr 1; omega
theorem trK_o (σ : Mem) {b : Int} (h : b ≠ 5016) : trK σ b = σ b := by unfold trK; rw [cpy_oo _ _ _ _ _ _ h]
theorem mX_trK {σ : Mem} (h : mX σ 5015) : mX (trK σ) 5016 := by
  obtain ⟨hw, hh, hr⟩ := h
  have hG : MG σ (trK σ) := ⟨fun b h1 h2 h3 => trK_o σ (by omega), fun k a1 a2 a3 a4 a5 a6 a7 => by rw [trK_o σ (by decide)]⟩
  have e7 : trK σ 5000 = σ 5000 := trK_o σ (by decide)
  refine ⟨Or.inr rfl, MG_mH hG (mOk_c (by rw [e7]) (fun b hb => trK_o σ (by omega)) hh.1) (by rw [e7]; exact hh.2.2.2.2.2.2.2.2) hh, ?_⟩
  rw [e7]
  exact aR_c hh.2.2.1.2 (fun j j0 j1 => trK_j hr.2.2.2.2.1 j0 j1) hr
abbrev gmM (σ : Mem) (o r x y : Int) : Mem := up (up (trK σ) 5016 (4 * o + 1) x) 5016 (4 * r + 1) y
theorem gmM_o (σ : Mem) (o r x y : Int) {b : Int} (h : b ≠ 5016) : gmM σ o r x y b = σ b := by unfold gmM; rw [up_na _ h, up_na _ h, trK_o σ h]
/-- what CHAIR c, that takes t, has of a GAME -/
def gmV (σ : Mem) (o r p x y c t : Int) : Int := (if mOa (gmM σ o r x y) 5016 p (mMi σ p) c = -1 then mFl (gmM σ o r x y) 5016 p (mMi σ p) c else 0) - (if t = σ 5015 (4 * c + 1) then 0 else σ 5015 25)
theorem gmM_x {σ : Mem} (hx : mX σ 5015) {o r x y : Int} (ho : 0 ≤ o ∧ o < σ 5000 29) (hr : 0 ≤ r ∧ r < σ 5000 29) (hX : 0 ≤ x ∧ x < σ 5000 30) (hY : 0 ≤ y ∧ y < σ 5000 30) : mX (gmM σ o r x y) 5016 := by
  have hxt := mX_trK hx
  have n29 := hx.2.1.2.2.1
  have k5 : trK σ 5000 = σ 5000 := trK_o σ (by decide)
  have h1 : mX (up (trK σ) 5016 (4 * o + 1) x) 5016 := mX_r16 hxt (by
    have hrr := hxt.2.2
    rw [k5] at hrr ⊢
    exact aR_ti n29.2 hrr ho.1 ho.2 hX.1 hX.2)
  refine mX_r16 h1 ?_
  have hrr := h1.2.2
  have u5 : up (trK σ) 5016 (4 * o + 1) x 5000 = σ 5000 := by rw [up_na _ (by decide)]; exact k5
  rw [u5] at hrr ⊢
  exact aR_ti n29.2 hrr hr.1 hr.2 hY.1 hY.2
theorem gmV_b {σ : Mem} (hx : mX σ 5015) {o r p x y c t : Int} (hp : 0 ≤ p ∧ p < σ 5000 28) (hc : 0 ≤ c ∧ c < σ 5000 29) : -1000 ≤ gmV σ o r p x y c t ∧ gmV σ o r p x y c t ≤ 1000 := by
  have r25 := hx.2.2.2.2.1
  have n28 := hx.2.1.2.2.2.2.1
  have hM := hx.2.1.2.2.2.2.2.1 (4 * p + 3) (by omega) (by omega)
  have u5 : gmM σ o r x y 5000 29 = σ 5000 29 := by rw [gmM_o σ o r x y (by decide)]
  have := mFl_b (σ := gmM σ o r x y) (w := 5016) (p := p) (c := c.toNat) (by rw [u5]; omega) (mMi σ p)
  rw [show ((c.toNat : Nat) : Int) = c by omega] at this
  have h9 : mMi σ p ≤ 9 := by unfold mMi; omega
  unfold gmV
  split <;> split <;> omega
def a_X12_gameOf : AC := [(0, vAload 0 1), (1, vGetR TT 28 36 8 4), (4, vAload 0 5), (5, vGetR TT 28 37 8 8), (8, vCallSV w_X12_copy 2 11), (11, vAload 0 12), (12, vGetR TT 28 37 8 15), (15, vI 4 16), (16, vIload 1 17), (17, vImul 18), (18, vI 1 19), (19, vIadd 20), (20, vIload 4 22), (22, vIast TT 23), (23, vAload 0 24), (24, vGetR TT 28 37 8 27), (27, vI 4 28), (28, vIload 2 29), (29, vImul 30), (30, vI 1 31), (31, vIadd 32), (32, vIload 5 34), (34, vIast TT 35), (35, vAload 0 36), (36, vAload 0 37), (37, vGetR TT 28 37 8 40), (40, vIload 3 41), (41, vCallM w_X12_goPlay 28 2 44), (44, vIstore 7 46), (46, vIload 6 48), (48, vIfNe 55 51), (51, vIload 1 52), (52, vGoto 56), (55, vIload 2 56), (56, vIstore 8 58), (58, vIload 7 60), (60, vIload 8 62), (62, vCallS w_X12_has 2 65), (65, vIfEq 72 68), (68, vI 0 69), (69, vGoto 79), (72, vAload 0 73), (73, vGetR TT 28 42 8 76), (76, vIload 8 78), (78, vIald TT 79), (79, vIstore 9 81), (81, vAload 0 82), (82, vGetR TT 28 37 8 85), (85, vI 4 86), (86, vIload 8 88), (88, vImul 89), (89, vI 1 90), (90, vIadd 91), (91, vIald TT 92), (92, vAload 0 93), (93, vGetR TT 28 36 8 96), (96, vI 4 97), (97, vIload 8 99), (99, vImul 100), (100, vI 1 101), (101, vIadd 102), (102, vIald TT 103), (103, vIcNe 111 106), (106, vIload 9 108), (108, vGoto 121), (111, vIload 9 113), (113, vAload 0 114), (114, vGetR TT 28 36 8 117), (117, vI 25 119), (119, vIald TT 120), (120, vIsub 121), (121, vIret)]
theorem k_X12_gameOf_0 : look a_X12_gameOf 0 = vAload 0 1 := rfl
theorem k_X12_gameOf_1 : look a_X12_gameOf 1 = vGetR TT 28 36 8 4 := rfl
theorem k_X12_gameOf_4 : look a_X12_gameOf 4 = vAload 0 5 := rfl
theorem k_X12_gameOf_5 : look a_X12_gameOf 5 = vGetR TT 28 37 8 8 := rfl
theorem k_X12_gameOf_8 : look a_X12_gameOf 8 = vCallSV w_X12_copy 2 11 := rfl
theorem k_X12_gameOf_11 : look a_X12_gameOf 11 = vAload 0 12 := rfl
theorem k_X12_gameOf_12 : look a_X12_gameOf 12 = vGetR TT 28 37 8 15 := rfl
theorem k_X12_gameOf_15 : look a_X12_gameOf 15 = vI 4 16 := rfl
theorem k_X12_gameOf_16 : look a_X12_gameOf 16 = vIload 1 17 := rfl
theorem k_X12_gameOf_17 : look a_X12_gameOf 17 = vImul 18 := rfl
theorem k_X12_gameOf_18 : look a_X12_gameOf 18 = vI 1 19 := rfl
theorem k_X12_gameOf_19 : look a_X12_gameOf 19 = vIadd 20 := rfl
theorem k_X12_gameOf_20 : look a_X12_gameOf 20 = vIload 4 22 := rfl
theorem k_X12_gameOf_22 : look a_X12_gameOf 22 = vIast TT 23 := rfl
theorem k_X12_gameOf_23 : look a_X12_gameOf 23 = vAload 0 24 := rfl
theorem k_X12_gameOf_24 : look a_X12_gameOf 24 = vGetR TT 28 37 8 27 := rfl
theorem k_X12_gameOf_27 : look a_X12_gameOf 27 = vI 4 28 := rfl
theorem k_X12_gameOf_28 : look a_X12_gameOf 28 = vIload 2 29 := rfl
theorem k_X12_gameOf_29 : look a_X12_gameOf 29 = vImul 30 := rfl
theorem k_X12_gameOf_30 : look a_X12_gameOf 30 = vI 1 31 := rfl
theorem k_X12_gameOf_31 : look a_X12_gameOf 31 = vIadd 32 := rfl
theorem k_X12_gameOf_32 : look a_X12_gameOf 32 = vIload 5 34 := rfl
theorem k_X12_gameOf_34 : look a_X12_gameOf 34 = vIast TT 35 := rfl
theorem k_X12_gameOf_35 : look a_X12_gameOf 35 = vAload 0 36 := rfl
theorem k_X12_gameOf_36 : look a_X12_gameOf 36 = vAload 0 37 := rfl
theorem k_X12_gameOf_37 : look a_X12_gameOf 37 = vGetR TT 28 37 8 40 := rfl
theorem k_X12_gameOf_40 : look a_X12_gameOf 40 = vIload 3 41 := rfl
theorem k_X12_gameOf_41 : look a_X12_gameOf 41 = vCallM w_X12_goPlay 28 2 44 := rfl
theorem k_X12_gameOf_44 : look a_X12_gameOf 44 = vIstore 7 46 := rfl
theorem k_X12_gameOf_46 : look a_X12_gameOf 46 = vIload 6 48 := rfl
theorem k_X12_gameOf_48 : look a_X12_gameOf 48 = vIfNe 55 51 := rfl
theorem k_X12_gameOf_51 : look a_X12_gameOf 51 = vIload 1 52 := rfl
theorem k_X12_gameOf_52 : look a_X12_gameOf 52 = vGoto 56 := rfl
theorem k_X12_gameOf_55 : look a_X12_gameOf 55 = vIload 2 56 := rfl
theorem k_X12_gameOf_56 : look a_X12_gameOf 56 = vIstore 8 58 := rfl
theorem k_X12_gameOf_58 : look a_X12_gameOf 58 = vIload 7 60 := rfl
theorem k_X12_gameOf_60 : look a_X12_gameOf 60 = vIload 8 62 := rfl
theorem k_X12_gameOf_62 : look a_X12_gameOf 62 = vCallS w_X12_has 2 65 := rfl
theorem k_X12_gameOf_65 : look a_X12_gameOf 65 = vIfEq 72 68 := rfl
theorem k_X12_gameOf_68 : look a_X12_gameOf 68 = vI 0 69 := rfl
theorem k_X12_gameOf_69 : look a_X12_gameOf 69 = vGoto 79 := rfl
theorem k_X12_gameOf_72 : look a_X12_gameOf 72 = vAload 0 73 := rfl
theorem k_X12_gameOf_73 : look a_X12_gameOf 73 = vGetR TT 28 42 8 76 := rfl
theorem k_X12_gameOf_76 : look a_X12_gameOf 76 = vIload 8 78 := rfl
theorem k_X12_gameOf_78 : look a_X12_gameOf 78 = vIald TT 79 := rfl
theorem k_X12_gameOf_79 : look a_X12_gameOf 79 = vIstore 9 81 := rfl
theorem k_X12_gameOf_81 : look a_X12_gameOf 81 = vAload 0 82 := rfl
theorem k_X12_gameOf_82 : look a_X12_gameOf 82 = vGetR TT 28 37 8 85 := rfl
theorem k_X12_gameOf_85 : look a_X12_gameOf 85 = vI 4 86 := rfl
theorem k_X12_gameOf_86 : look a_X12_gameOf 86 = vIload 8 88 := rfl
theorem k_X12_gameOf_88 : look a_X12_gameOf 88 = vImul 89 := rfl
theorem k_X12_gameOf_89 : look a_X12_gameOf 89 = vI 1 90 := rfl
theorem k_X12_gameOf_90 : look a_X12_gameOf 90 = vIadd 91 := rfl
theorem k_X12_gameOf_91 : look a_X12_gameOf 91 = vIald TT 92 := rfl
theorem k_X12_gameOf_92 : look a_X12_gameOf 92 = vAload 0 93 := rfl
theorem k_X12_gameOf_93 : look a_X12_gameOf 93 = vGetR TT 28 36 8 96 := rfl
theorem k_X12_gameOf_96 : look a_X12_gameOf 96 = vI 4 97 := rfl
theorem k_X12_gameOf_97 : look a_X12_gameOf 97 = vIload 8 99 := rfl
theorem k_X12_gameOf_99 : look a_X12_gameOf 99 = vImul 100 := rfl
theorem k_X12_gameOf_100 : look a_X12_gameOf 100 = vI 1 101 := rfl
theorem k_X12_gameOf_101 : look a_X12_gameOf 101 = vIadd 102 := rfl
theorem k_X12_gameOf_102 : look a_X12_gameOf 102 = vIald TT 103 := rfl
theorem k_X12_gameOf_103 : look a_X12_gameOf 103 = vIcNe 111 106 := rfl
theorem k_X12_gameOf_106 : look a_X12_gameOf 106 = vIload 9 108 := rfl
theorem k_X12_gameOf_108 : look a_X12_gameOf 108 = vGoto 121 := rfl
theorem k_X12_gameOf_111 : look a_X12_gameOf 111 = vIload 9 113 := rfl
theorem k_X12_gameOf_113 : look a_X12_gameOf 113 = vAload 0 114 := rfl
theorem k_X12_gameOf_114 : look a_X12_gameOf 114 = vGetR TT 28 36 8 117 := rfl
theorem k_X12_gameOf_117 : look a_X12_gameOf 117 = vI 25 119 := rfl
theorem k_X12_gameOf_119 : look a_X12_gameOf 119 = vIald TT 120 := rfl
theorem k_X12_gameOf_120 : look a_X12_gameOf 120 = vIsub 121 := rfl
theorem k_X12_gameOf_121 : look a_X12_gameOf 121 = vIret := rfl
theorem o_X12_gameOf {X : amX} (e1 : XT X = TT) (e2 : XD X = 60) (hB : amB X RX12 cX12_gameOf (some .int) 10) : ∀ pc, amOK X pc (look a_X12_gameOf pc) := by
  have hT : amTok (XT X) := e1 ▸ TT_ok
  refine look_ok ?_
  unfold a_X12_gameOf
  refine fc (ok_aload_n hB dX12_gameOf_0) ?_
  refine fc (okt_getR e1 hB hT fl_X12_67 rfl af_12_36 at_12_36 (by decide) dX12_gameOf_1) ?_
  refine fc (ok_aload_n hB dX12_gameOf_4) ?_
  refine fc (okt_getR e1 hB hT fl_X12_70 rfl af_12_37 at_12_37 (by decide) dX12_gameOf_5) ?_
  refine fc (ok_callSV hB (e1 ▸ s_X12_copy) lk_X12_419 (by rw [e2]; decide) wd_1790 dX12_gameOf_8) ?_
  refine fc (ok_aload_n hB dX12_gameOf_11) ?_
  refine fc (okt_getR e1 hB hT fl_X12_70 rfl af_12_37 at_12_37 (by decide) dX12_gameOf_12) ?_
  refine fc (ok_iconst hB dX12_gameOf_15) ?_
  refine fc (ok_iload_n hB dX12_gameOf_16) ?_
  refine fc (ok_imul hB dX12_gameOf_17) ?_
  refine fc (ok_iconst hB dX12_gameOf_18) ?_
  refine fc (ok_iadd hB dX12_gameOf_19) ?_
  refine fc (ok_iload hB dX12_gameOf_20) ?_
  refine fc (okt_iastore e1 hB dX12_gameOf_22) ?_
  refine fc (ok_aload_n hB dX12_gameOf_23) ?_
  refine fc (okt_getR e1 hB hT fl_X12_70 rfl af_12_37 at_12_37 (by decide) dX12_gameOf_24) ?_
  refine fc (ok_iconst hB dX12_gameOf_27) ?_
  refine fc (ok_iload_n hB dX12_gameOf_28) ?_
  refine fc (ok_imul hB dX12_gameOf_29) ?_
  refine fc (ok_iconst hB dX12_gameOf_30) ?_
  refine fc (ok_iadd hB dX12_gameOf_31) ?_
  refine fc (ok_iload hB dX12_gameOf_32) ?_
  refine fc (okt_iastore e1 hB dX12_gameOf_34) ?_
  refine fc (ok_aload_n hB dX12_gameOf_35) ?_
  refine fc (ok_aload_n hB dX12_gameOf_36) ?_
  refine fc (okt_getR e1 hB hT fl_X12_70 rfl af_12_37 at_12_37 (by decide) dX12_gameOf_37) ?_
  refine fc (ok_iload_n hB dX12_gameOf_40) ?_
  refine fc (ok_callM hB hT (e1 ▸ s_X12_goPlay) lk_X12_362 (by rw [e2]; decide) (c := 12) rfl rfl rfl wd_1698 sl_X12_goPlay dX12_gameOf_41) ?_
  refine fc (ok_istore hB (by decide) dX12_gameOf_44) ?_
  refine fc (ok_iload hB dX12_gameOf_46) ?_
  refine fc (ok_if_ne hB (t := 55) (by decide) dX12_gameOf_48) ?_
  refine fc (ok_iload_n hB dX12_gameOf_51) ?_
  refine fc (ok_goto hB (t := 56) (by decide) dX12_gameOf_52) ?_
  refine fc (ok_iload_n hB dX12_gameOf_55) ?_
  refine fc (ok_istore hB (by decide) dX12_gameOf_56) ?_
  refine fc (ok_iload hB dX12_gameOf_58) ?_
  refine fc (ok_iload hB dX12_gameOf_60) ?_
  refine fc (ok_callS hB (e1 ▸ s_X12_has) lk_X12_244 (by rw [e2]; decide) wd_1538 dX12_gameOf_62) ?_
  refine fc (ok_if_eq hB (t := 72) (by decide) dX12_gameOf_65) ?_
  refine fc (ok_iconst hB dX12_gameOf_68) ?_
  refine fc (ok_goto hB (t := 79) (by decide) dX12_gameOf_69) ?_
  refine fc (ok_aload_n hB dX12_gameOf_72) ?_
  refine fc (okt_getR e1 hB hT fl_X12_87 rfl af_12_42 at_12_42 (by decide) dX12_gameOf_73) ?_
  refine fc (ok_iload hB dX12_gameOf_76) ?_
  refine fc (okt_iaload e1 hB dX12_gameOf_78) ?_
  refine fc (ok_istore hB (by decide) dX12_gameOf_79) ?_
  refine fc (ok_aload_n hB dX12_gameOf_81) ?_
  refine fc (okt_getR e1 hB hT fl_X12_70 rfl af_12_37 at_12_37 (by decide) dX12_gameOf_82) ?_
  refine fc (ok_iconst hB dX12_gameOf_85) ?_
  refine fc (ok_iload hB dX12_gameOf_86) ?_
  refine fc (ok_imul hB dX12_gameOf_88) ?_
  refine fc (ok_iconst hB dX12_gameOf_89) ?_
  refine fc (ok_iadd hB dX12_gameOf_90) ?_
  refine fc (okt_iaload e1 hB dX12_gameOf_91) ?_
  refine fc (ok_aload_n hB dX12_gameOf_92) ?_
  refine fc (okt_getR e1 hB hT fl_X12_67 rfl af_12_36 at_12_36 (by decide) dX12_gameOf_93) ?_
  refine fc (ok_iconst hB dX12_gameOf_96) ?_
  refine fc (ok_iload hB dX12_gameOf_97) ?_
  refine fc (ok_imul hB dX12_gameOf_99) ?_
  refine fc (ok_iconst hB dX12_gameOf_100) ?_
  refine fc (ok_iadd hB dX12_gameOf_101) ?_
  refine fc (okt_iaload e1 hB dX12_gameOf_102) ?_
  refine fc (ok_icmp_ne hB (t := 111) (by decide) dX12_gameOf_103) ?_
  refine fc (ok_iload hB dX12_gameOf_106) ?_
  refine fc (ok_goto hB (t := 121) (by decide) dX12_gameOf_108) ?_
  refine fc (ok_iload hB dX12_gameOf_111) ?_
  refine fc (ok_aload_n hB dX12_gameOf_113) ?_
  refine fc (okt_getR e1 hB hT fl_X12_67 rfl af_12_36 at_12_36 (by decide) dX12_gameOf_114) ?_
  refine fc (ok_bipush hB dX12_gameOf_117 (by decide)) ?_
  refine fc (okt_iaload e1 hB dX12_gameOf_119) ?_
  refine fc (ok_isub hB dX12_gameOf_120) ?_
  refine fc (ok_iret hB dX12_gameOf_121) ?_
  exact fn
def inv_gmo (σ : Mem) (o r p x y w : Int) (n pc : Nat) (ls st : List AV) (σ' : Mem) : Prop := pc = 44 ∧ st = [(0, mOu (gmM σ o r x y) 5016 p (mMi σ p))] ∧ n = 0 ∧ ls = [(28, 5000), (0, o), (0, r), (0, p), (0, x), (0, y), (0, w), (6, 0), (6, 0), (6, 0)] ∧ PF (gmM σ o r x y) σ' ∧ mOk σ' ∧ ∀ j, 0 ≤ j → j < σ 5000 29 → σ' 5019 j = mFl (gmM σ o r x y) 5016 p (mMi σ p) j
def w_X12_gameOf : WP := fun av σ Q => ∃ (o : Int) (r : Int) (p : Int) (x : Int) (y : Int) (w : Int), av = [(28, 5000), (0, o), (0, r), (0, p), (0, x), (0, y), (0, w)] ∧ (mX σ 5015 ∧ gmP σ o r p ∧ 0 ≤ x ∧ x < σ 5000 30 ∧ 0 ≤ y ∧ y < σ 5000 30 ∧ (w = 0 ∨ w = 1) ∧ (∀ τ, QF σ τ → mOk τ → τ 5000 0 = σ 5000 0 → τ 5025 = σ 5025 → Q (0, if w = 0 then gmV σ o r p x y o x else gmV σ o r p x y r y) τ))
theorem w_X12_gameOf_e (o : Int) (r : Int) (p : Int) (x : Int) (y : Int) (w : Int) (σ : Mem) (Q : AV → Mem → Prop) : w_X12_gameOf [(28, 5000), (0, o), (0, r), (0, p), (0, x), (0, y), (0, w)] σ Q = (mX σ 5015 ∧ gmP σ o r p ∧ 0 ≤ x ∧ x < σ 5000 30 ∧ 0 ≤ y ∧ y < σ 5000 30 ∧ (w = 0 ∨ w = 1) ∧ (∀ τ, QF σ τ → mOk τ → τ 5000 0 = σ 5000 0 → τ 5025 = σ 5025 → Q (0, if w = 0 then gmV σ o r p x y o x else gmV σ o r p x y r y) τ)) := by
  apply propext; constructor
  · rintro ⟨o', r', p', x', y', w', h9, hb9⟩; cases h9; exact hb9
  · intro hb9; exact ⟨o, r, p, x, y, w, rfl, hb9⟩

set_option maxRecDepth 100000 in
set_option maxHeartbeats 4000000 in
theorem s_X12_gameOf : ∀ av σ Q, w_X12_gameOf av σ Q → amCall 60 0 0 TT yX12_gameOf cX12_gameOf 10 (some .int) av σ Q := by
  rintro av σ Q ⟨o, r, p, x, y, w, rfl, hx, ⟨ho, hr, hne, hp⟩, x0, x1, y0, y1, hw, h⟩
  have n29 := hx.2.1.2.2.1
  have n28 := hx.2.1.2.2.2.2.1
  have n30 := hx.2.1.2.2.2.1
  have l27 := hx.2.2.2.2.2.2
  have hxg := gmM_x hx ho hr ⟨x0, x1⟩ ⟨y0, y1⟩
  have hPg := mX_P hxg
  have et : cpy σ 5015 0 5016 0 (28 + 3 * σ 5015 27) = trK σ := rfl
  have g29 : gmM σ o r x y 5000 29 = σ 5000 29 := by rw [gmM_o σ o r x y (by decide)]
  have g28 : gmM σ o r x y 5000 28 = σ 5000 28 := by rw [gmM_o σ o r x y (by decide)]
  have g7 : gmM σ o r x y 5007 = σ 5007 := by rw [gmM_o σ o r x y (by decide)]
  have g15 : gmM σ o r x y 5015 = σ 5015 := by rw [gmM_o σ o r x y (by decide)]
  have go : gmM σ o r x y 5016 (4 * o + 1) = x := by unfold gmM; rw [up_nj _ (by omega), up_s]
  have gr : gmM σ o r x y 5016 (4 * r + 1) = y := up_s _ _ _ _
  have hQg : QF σ (gmM σ o r x y) := QF_up (QF_up ⟨fun b h1 h2 h3 h4 => trK_o σ (by omega), fun k a1 a2 a3 a4 a5 a6 a7 => by rw [trK_o σ (by decide)]⟩ (Or.inl rfl)) (Or.inl rfl)
  have fin : ∀ τ, PF (gmM σ o r x y) τ → mOk τ → Q (0, if w = 0 then gmV σ o r p x y o x else gmV σ o r p x y r y) τ := fun τ a b =>
    h τ (QF_tr hQg (QF_PF a)) b (by rw [a.2 0 (by decide) (by decide) (by decide) (by decide), gmM_o σ o r x y (by decide)]) (by rw [PF_r a (by decide), gmM_o σ o r x y (by decide)])
  have t15 : ∀ τ, PF (gmM σ o r x y) τ → τ 5015 = σ 5015 := fun τ a => by rw [PF_r a (by decide)]; exact g15
  have t16 : ∀ τ, PF (gmM σ o r x y) τ → τ 5016 = gmM σ o r x y 5016 := fun τ a => PF_r a (by decide)
  have hM9 := hx.2.1.2.2.2.2.2.1 (4 * p + 3) (by omega) (by omega)
  have ob := mOu_b (gmM σ o r x y) 5016 p (by rw [g29]; omega) (mMi σ p)
  have r25 := hx.2.2.2.2.1
  have core : ∀ c t, 0 ≤ c → c < σ 5000 29 → (bt (mOu (gmM σ o r x y) 5016 p (mMi σ p)) c = 0 ∨ bt (mOu (gmM σ o r x y) 5016 p (mMi σ p)) c = 1) ∧ (∀ v, (bt (mOu (gmM σ o r x y) 5016 p (mMi σ p)) c = 1 → v = 0) → (bt (mOu (gmM σ o r x y) 5016 p (mMi σ p)) c = 0 → v = mFl (gmM σ o r x y) 5016 p (mMi σ p) c) → (t = σ 5015 (4 * c + 1) → v = gmV σ o r p x y c t) ∧ (¬ t = σ 5015 (4 * c + 1) → v - σ 5015 25 = gmV σ o r p x y c t)) := fun c t c0 c1 => by
    have b01 := bt_b (mOu (gmM σ o r x y) 5016 p (mMi σ p)) c
    have oo := mOu_oa (σ := gmM σ o r x y) (w := 5016) (p := p) (by rw [g29]; omega) c0 (by rw [g29]; exact c1) (mMi σ p)
    refine ⟨by omega, fun v v1 v0 => ?_⟩
    unfold gmV
    by_cases d : bt (mOu (gmM σ o r x y) 5016 p (mMi σ p)) c = 1
    · rw [if_neg (oo.mp d), v1 d]
      exact ⟨fun q => by rw [if_pos q]; omega, fun q => by rw [if_neg q]⟩
    · have z : mOa (gmM σ o r x y) 5016 p (mMi σ p) c = -1 := by
        by_cases z : mOa (gmM σ o r x y) 5016 p (mMi σ p) c = -1
        · exact z
        · exact absurd (oo.mpr z) d
      rw [if_pos z, v0 (by omega)]
      exact ⟨fun q => by rw [if_pos q]; omega, fun q => by rw [if_neg q]⟩
  refine am_m [44] (inv_gmo σ o r p x y w) (own := RX12) (A := look a_X12_gameOf) (fun X e1 e2 hB => o_X12_gameOf e1 e2 hB) rfl (by decide +kernel) rfl rfl ?_ ⟨90, ?_⟩ (w := 10)
  · rintro n pc ls st σ' ⟨rfl, rfl, rfl, rfl, hPF, hm, hfe⟩
    have e15 := t15 σ' hPF
    have e16 := t16 σ' hPF
    have so := congrFun e16 (4 * o + 1)
    rw [go] at so
    have sr := congrFun e16 (4 * r + 1)
    rw [gr] at sr
    have hq := fin σ' hPF hm
    rcases hw with rfl | rfl
    · rw [if_pos rfl] at hq
      obtain ⟨b01, cv⟩ := core o x ho.1 ho.2
      have fo := hfe o ho.1 ho.2
      have jo := (mX_j hx).1 o ho.1 ho.2
      rcases b01 with d | d
      · obtain ⟨z1, z2⟩ := cv (mFl (gmM σ o r x y) 5016 p (mMi σ p) o) (fun q => by omega) (fun _ => rfl)
        have f1 : x = σ 5015 (4 * o + 1) → Q (0, mFl (gmM σ o r x y) 5016 p (mMi σ p) o) σ' := fun q => by rw [z1 q]; exact hq
        have f2 : ¬ x = σ 5015 (4 * o + 1) → Q (0, mFl (gmM σ o r x y) 5016 p (mMi σ p) o - σ 5015 25) σ' := fun q => by rw [z2 q]; exact hq
        refine ⟨90, ?_⟩
        simp only [↓reduceIte, inR_0, inR_1, inR_m, vSw2_e, swP_n, swP_c, vI_e, vL_e, vNull_e, vIload_e, vLload_e, vAload_e, vIstore_e, vLstore_e, vAstore_e, vIinc_e, vIadd_e, vIsub_e, vImul_e, vIand_e, vIor_e, vIxor_e, vIshl_e, vIshr_e, vIushr_e, vIdiv_e, vIrem_e, vLadd_e, vLsub_e, vLmul_e, vLand_e, vLor_e, vLxor_e, vLdiv_e, vLrem_e, vLushr_e, vLshl_e, vLcmp_e, vIneg_e, vI2l_e, vL2i_e, vI2b_e, vI2c_e, vDup_e, vPop_e, vDup2_e, vGoto_e, vIcEq_e, vIfEq_e, vIcNe_e, vIfNe_e, vIcLt_e, vIfLt_e, vIcGe_e, vIfGe_e, vIcGt_e, vIfGt_e, vIcLe_e, vIfLe_e, vNonnull_e, vSw_e, vGetI_e, vGetL_e, vGetR_e, vPutI_e, vPutZ_e, vPutL_e, vPutR_e, vIald_e, vIald_s, vLald_e, vBald_e, vBald_s, vAald_e, vIast_e, vLast_e, vBast_e, vAast_e, vAlen_e8, vAlen_e9, vAlen_e10, vAlen_e11, vAlen_e5, vAlen_e3, vGets_e, vCompact_e, vLdcS_e, vIret_e, vZret_e, vCret_e, vBret_e, vLret_e, vVret_e, vAret_e, vCallM_e0, vCallMV_e0, vCallS_e0, vCallSV_e0, vCallM_e1, vCallMV_e1, vCallS_e1, vCallSV_e1, vCallM_e2, vCallMV_e2, vCallS_e2, vCallSV_e2, vCallM_e3, vCallMV_e3, vCallS_e3, vCallSV_e3, vCallM_e4, vCallMV_e4, vCallS_e4, vCallSV_e4, vCallM_e5, vCallMV_e5, vCallS_e5, vCallSV_e5, vCallM_e6, vCallMV_e6, vCallS_e6, vCallSV_e6, vCallM_e7, vCallMV_e7, vCallS_e7, vCallSV_e7, vBad_e, vStrVal_e, vStrCod_e, vForm_e, vCallT_e0, vCallT_e1, vCallT_e2, vCopy_e, rf_0_0, rf_0_1, rf_0_2, rf_0_3, rf_0_4, rf_0_7, rf_0_10, rf_0_11, rf_0_12, rf_0_13, rf_0_14, rf_0_15, rf_0_16, rf_1_0, rf_3_0, rf_3_1, rf_6_0, rf_6_1, rf_9_0, rf_9_1, rf_9_3, rf_13_0, rf_13_1, rf_13_2, rf_16_0, rf_16_1, rf_16_2, rf_16_3, rf_21_0, rf_21_1, rf_21_2, rf_21_3, rf_26_0, rf_26_1, rf_26_2, rf_26_3, rf_26_4, rf_26_5, rf_26_6, rf_31_0, rf_31_2, rf_31_5, rf_31_6, rf_36_0, rf_36_1, rf_36_2, rf_36_3, rf_39_0, rf_39_1, rf_39_2, rf_41_0, rf_41_1, rf_41_2, rf_41_3, rf_5000_1, rf_5000_2, rf_5000_3, rf_5000_4, rf_5000_5, rf_5000_15, rf_5000_16, rf_5000_18, rf_5000_19, rf_5000_20, rf_5000_21, rf_5000_22, rf_5000_23, rf_5000_24, rf_5000_25, rf_5000_26, rf_5000_27, rf_5000_36, rf_5000_37, rf_5000_40, rf_5000_41, rf_5000_42, rf_5000_43, rf_5000_44, rf_5000_45, rf_5000_47, rf_5000_52, rf_5000_54, rf_5000_55, rf_100_0, rf_100_1, rf_103_0, rf_103_1, rf_106_0, rf_106_1, rf_109_0, rf_109_1, al_2, al_4, al_5, al_7, al_8, al_10, al_11, al_12, al_14, al_15, al_17, al_18, al_19, al_20, al_22, al_23, al_24, al_25, al_27, al_28, al_29, al_30, al_32, al_33, al_34, al_35, al_37, al_38, al_40, al_42, al_5001, al_5002, al_5003, al_5004, al_5005, al_5006, al_5007, al_5008, al_5009, al_5010, al_5011, al_5012, al_5013, al_5014, al_5015, al_5016, al_5017, al_5018, al_5019, al_5020, al_5021, al_5022, al_5023, al_5024, al_5025, al_5026, al_9000, al_101, al_102, al_104, al_105, al_107, al_108, al_110, al_111, vcs_e, lg_c0, lg_cs, lg_nil, set_c0, set_cs, okst_0, okst_s, acok_n, acok_c, List.contains_nil, List.contains_cons, Bool.or_false, Bool.false_or, Bool.false_eq_true, if_false, if_true, ite_self, ne_eq, true_and, and_true, not_false_eq_true, not_true_eq_false, false_imp_iff, true_imp_iff, Nat.ble_eq, Bool.and_eq_true, reduceCtorEq, or_false, false_or, or_true, true_or, false_and, and_false, and_self, Int.reduceLE, Int.reduceAdd, Int.reduceSub, Int.reduceMul, Int.reduceNeg, Int.reduceLT, Int.reduceEq, Int.reduceNe, Nat.reduceBEq, Nat.reduceBNe, Nat.reduceEqDiff, amCmp_in, amCmp_lt, amCmp_le, amCmp_gt, amCmp_ge, amCmp_eq, amCmp_ne, Nat.reduceLeDiff, Nat.reduceSub, Bool.and_true, Bool.true_and, Bool.and_self, Bool.or_true, Bool.true_or, isRf_3, isRf_4, isRf_5, isRf_8, isRf_9, isRf_10, isRf_11, isRf_15, isRf_16, isRf_17, isRf_18, isRf_19, isRf_20, isRf_21, isRf_22, isRf_23, isRf_24, isRf_25, isRf_26, isRf_27, isRf_28, k_X12_gameOf_0, k_X12_gameOf_1, k_X12_gameOf_4, k_X12_gameOf_5, k_X12_gameOf_8, k_X12_gameOf_11, k_X12_gameOf_12, k_X12_gameOf_15, k_X12_gameOf_16, k_X12_gameOf_17, k_X12_gameOf_18, k_X12_gameOf_19, k_X12_gameOf_20, k_X12_gameOf_22, k_X12_gameOf_23, k_X12_gameOf_24, k_X12_gameOf_27, k_X12_gameOf_28, k_X12_gameOf_29, k_X12_gameOf_30, k_X12_gameOf_31, k_X12_gameOf_32, k_X12_gameOf_34, k_X12_gameOf_35, k_X12_gameOf_36, k_X12_gameOf_37, k_X12_gameOf_40, k_X12_gameOf_41, k_X12_gameOf_44, k_X12_gameOf_46, k_X12_gameOf_48, k_X12_gameOf_51, k_X12_gameOf_52, k_X12_gameOf_55, k_X12_gameOf_56, k_X12_gameOf_58, k_X12_gameOf_60, k_X12_gameOf_62, k_X12_gameOf_65, k_X12_gameOf_68, k_X12_gameOf_69, k_X12_gameOf_72, k_X12_gameOf_73, k_X12_gameOf_76, k_X12_gameOf_78, k_X12_gameOf_79, k_X12_gameOf_81, k_X12_gameOf_82, k_X12_gameOf_85, k_X12_gameOf_86, k_X12_gameOf_88, k_X12_gameOf_89, k_X12_gameOf_90, k_X12_gameOf_91, k_X12_gameOf_92, k_X12_gameOf_93, k_X12_gameOf_96, k_X12_gameOf_97, k_X12_gameOf_99, k_X12_gameOf_100, k_X12_gameOf_101, k_X12_gameOf_102, k_X12_gameOf_103, k_X12_gameOf_106, k_X12_gameOf_108, k_X12_gameOf_111, k_X12_gameOf_113, k_X12_gameOf_114, k_X12_gameOf_117, k_X12_gameOf_119, k_X12_gameOf_120, k_X12_gameOf_121, w_X12_copy_e, w_X12_goPlay_e, w_X12_has_e, d, fo, so, e15]
        repeat' (first | apply And.intro | intro _)
        all_goals first | omega | exact absurd trivial (by assumption) | exact f1 (by assumption) | exact f2 (by assumption)
      · obtain ⟨z1, z2⟩ := cv 0 (fun _ => rfl) (fun q => by omega)
        have f1 : x = σ 5015 (4 * o + 1) → Q (0, 0) σ' := fun q => by rw [z1 q]; exact hq
        have f2 : ¬ x = σ 5015 (4 * o + 1) → Q (0, 0 - σ 5015 25) σ' := fun q => by rw [z2 q]; exact hq
        refine ⟨90, ?_⟩
        simp only [↓reduceIte, inR_0, inR_1, inR_m, vSw2_e, swP_n, swP_c, vI_e, vL_e, vNull_e, vIload_e, vLload_e, vAload_e, vIstore_e, vLstore_e, vAstore_e, vIinc_e, vIadd_e, vIsub_e, vImul_e, vIand_e, vIor_e, vIxor_e, vIshl_e, vIshr_e, vIushr_e, vIdiv_e, vIrem_e, vLadd_e, vLsub_e, vLmul_e, vLand_e, vLor_e, vLxor_e, vLdiv_e, vLrem_e, vLushr_e, vLshl_e, vLcmp_e, vIneg_e, vI2l_e, vL2i_e, vI2b_e, vI2c_e, vDup_e, vPop_e, vDup2_e, vGoto_e, vIcEq_e, vIfEq_e, vIcNe_e, vIfNe_e, vIcLt_e, vIfLt_e, vIcGe_e, vIfGe_e, vIcGt_e, vIfGt_e, vIcLe_e, vIfLe_e, vNonnull_e, vSw_e, vGetI_e, vGetL_e, vGetR_e, vPutI_e, vPutZ_e, vPutL_e, vPutR_e, vIald_e, vIald_s, vLald_e, vBald_e, vBald_s, vAald_e, vIast_e, vLast_e, vBast_e, vAast_e, vAlen_e8, vAlen_e9, vAlen_e10, vAlen_e11, vAlen_e5, vAlen_e3, vGets_e, vCompact_e, vLdcS_e, vIret_e, vZret_e, vCret_e, vBret_e, vLret_e, vVret_e, vAret_e, vCallM_e0, vCallMV_e0, vCallS_e0, vCallSV_e0, vCallM_e1, vCallMV_e1, vCallS_e1, vCallSV_e1, vCallM_e2, vCallMV_e2, vCallS_e2, vCallSV_e2, vCallM_e3, vCallMV_e3, vCallS_e3, vCallSV_e3, vCallM_e4, vCallMV_e4, vCallS_e4, vCallSV_e4, vCallM_e5, vCallMV_e5, vCallS_e5, vCallSV_e5, vCallM_e6, vCallMV_e6, vCallS_e6, vCallSV_e6, vCallM_e7, vCallMV_e7, vCallS_e7, vCallSV_e7, vBad_e, vStrVal_e, vStrCod_e, vForm_e, vCallT_e0, vCallT_e1, vCallT_e2, vCopy_e, rf_0_0, rf_0_1, rf_0_2, rf_0_3, rf_0_4, rf_0_7, rf_0_10, rf_0_11, rf_0_12, rf_0_13, rf_0_14, rf_0_15, rf_0_16, rf_1_0, rf_3_0, rf_3_1, rf_6_0, rf_6_1, rf_9_0, rf_9_1, rf_9_3, rf_13_0, rf_13_1, rf_13_2, rf_16_0, rf_16_1, rf_16_2, rf_16_3, rf_21_0, rf_21_1, rf_21_2, rf_21_3, rf_26_0, rf_26_1, rf_26_2, rf_26_3, rf_26_4, rf_26_5, rf_26_6, rf_31_0, rf_31_2, rf_31_5, rf_31_6, rf_36_0, rf_36_1, rf_36_2, rf_36_3, rf_39_0, rf_39_1, rf_39_2, rf_41_0, rf_41_1, rf_41_2, rf_41_3, rf_5000_1, rf_5000_2, rf_5000_3, rf_5000_4, rf_5000_5, rf_5000_15, rf_5000_16, rf_5000_18, rf_5000_19, rf_5000_20, rf_5000_21, rf_5000_22, rf_5000_23, rf_5000_24, rf_5000_25, rf_5000_26, rf_5000_27, rf_5000_36, rf_5000_37, rf_5000_40, rf_5000_41, rf_5000_42, rf_5000_43, rf_5000_44, rf_5000_45, rf_5000_47, rf_5000_52, rf_5000_54, rf_5000_55, rf_100_0, rf_100_1, rf_103_0, rf_103_1, rf_106_0, rf_106_1, rf_109_0, rf_109_1, al_2, al_4, al_5, al_7, al_8, al_10, al_11, al_12, al_14, al_15, al_17, al_18, al_19, al_20, al_22, al_23, al_24, al_25, al_27, al_28, al_29, al_30, al_32, al_33, al_34, al_35, al_37, al_38, al_40, al_42, al_5001, al_5002, al_5003, al_5004, al_5005, al_5006, al_5007, al_5008, al_5009, al_5010, al_5011, al_5012, al_5013, al_5014, al_5015, al_5016, al_5017, al_5018, al_5019, al_5020, al_5021, al_5022, al_5023, al_5024, al_5025, al_5026, al_9000, al_101, al_102, al_104, al_105, al_107, al_108, al_110, al_111, vcs_e, lg_c0, lg_cs, lg_nil, set_c0, set_cs, okst_0, okst_s, acok_n, acok_c, List.contains_nil, List.contains_cons, Bool.or_false, Bool.false_or, Bool.false_eq_true, if_false, if_true, ite_self, ne_eq, true_and, and_true, not_false_eq_true, not_true_eq_false, false_imp_iff, true_imp_iff, Nat.ble_eq, Bool.and_eq_true, reduceCtorEq, or_false, false_or, or_true, true_or, false_and, and_false, and_self, Int.reduceLE, Int.reduceAdd, Int.reduceSub, Int.reduceMul, Int.reduceNeg, Int.reduceLT, Int.reduceEq, Int.reduceNe, Nat.reduceBEq, Nat.reduceBNe, Nat.reduceEqDiff, amCmp_in, amCmp_lt, amCmp_le, amCmp_gt, amCmp_ge, amCmp_eq, amCmp_ne, Nat.reduceLeDiff, Nat.reduceSub, Bool.and_true, Bool.true_and, Bool.and_self, Bool.or_true, Bool.true_or, isRf_3, isRf_4, isRf_5, isRf_8, isRf_9, isRf_10, isRf_11, isRf_15, isRf_16, isRf_17, isRf_18, isRf_19, isRf_20, isRf_21, isRf_22, isRf_23, isRf_24, isRf_25, isRf_26, isRf_27, isRf_28, k_X12_gameOf_0, k_X12_gameOf_1, k_X12_gameOf_4, k_X12_gameOf_5, k_X12_gameOf_8, k_X12_gameOf_11, k_X12_gameOf_12, k_X12_gameOf_15, k_X12_gameOf_16, k_X12_gameOf_17, k_X12_gameOf_18, k_X12_gameOf_19, k_X12_gameOf_20, k_X12_gameOf_22, k_X12_gameOf_23, k_X12_gameOf_24, k_X12_gameOf_27, k_X12_gameOf_28, k_X12_gameOf_29, k_X12_gameOf_30, k_X12_gameOf_31, k_X12_gameOf_32, k_X12_gameOf_34, k_X12_gameOf_35, k_X12_gameOf_36, k_X12_gameOf_37, k_X12_gameOf_40, k_X12_gameOf_41, k_X12_gameOf_44, k_X12_gameOf_46, k_X12_gameOf_48, k_X12_gameOf_51, k_X12_gameOf_52, k_X12_gameOf_55, k_X12_gameOf_56, k_X12_gameOf_58, k_X12_gameOf_60, k_X12_gameOf_62, k_X12_gameOf_65, k_X12_gameOf_68, k_X12_gameOf_69, k_X12_gameOf_72, k_X12_gameOf_73, k_X12_gameOf_76, k_X12_gameOf_78, k_X12_gameOf_79, k_X12_gameOf_81, k_X12_gameOf_82, k_X12_gameOf_85, k_X12_gameOf_86, k_X12_gameOf_88, k_X12_gameOf_89, k_X12_gameOf_90, k_X12_gameOf_91, k_X12_gameOf_92, k_X12_gameOf_93, k_X12_gameOf_96, k_X12_gameOf_97, k_X12_gameOf_99, k_X12_gameOf_100, k_X12_gameOf_101, k_X12_gameOf_102, k_X12_gameOf_103, k_X12_gameOf_106, k_X12_gameOf_108, k_X12_gameOf_111, k_X12_gameOf_113, k_X12_gameOf_114, k_X12_gameOf_117, k_X12_gameOf_119, k_X12_gameOf_120, k_X12_gameOf_121, w_X12_copy_e, w_X12_goPlay_e, w_X12_has_e, d, so, e15]
        repeat' (first | apply And.intro | intro _)
        all_goals first | omega | exact absurd trivial (by assumption) | exact f1 (by assumption) | exact f2 (by assumption)
    · rw [if_neg (by decide)] at hq
      obtain ⟨b01, cv⟩ := core r y hr.1 hr.2
      have fo := hfe r hr.1 hr.2
      have jo := (mX_j hx).1 r hr.1 hr.2
      rcases b01 with d | d
      · obtain ⟨z1, z2⟩ := cv (mFl (gmM σ o r x y) 5016 p (mMi σ p) r) (fun q => by omega) (fun _ => rfl)
        have f1 : y = σ 5015 (4 * r + 1) → Q (0, mFl (gmM σ o r x y) 5016 p (mMi σ p) r) σ' := fun q => by rw [z1 q]; exact hq
        have f2 : ¬ y = σ 5015 (4 * r + 1) → Q (0, mFl (gmM σ o r x y) 5016 p (mMi σ p) r - σ 5015 25) σ' := fun q => by rw [z2 q]; exact hq
        refine ⟨90, ?_⟩
        simp only [↓reduceIte, inR_0, inR_1, inR_m, vSw2_e, swP_n, swP_c, vI_e, vL_e, vNull_e, vIload_e, vLload_e, vAload_e, vIstore_e, vLstore_e, vAstore_e, vIinc_e, vIadd_e, vIsub_e, vImul_e, vIand_e, vIor_e, vIxor_e, vIshl_e, vIshr_e, vIushr_e, vIdiv_e, vIrem_e, vLadd_e, vLsub_e, vLmul_e, vLand_e, vLor_e, vLxor_e, vLdiv_e, vLrem_e, vLushr_e, vLshl_e, vLcmp_e, vIneg_e, vI2l_e, vL2i_e, vI2b_e, vI2c_e, vDup_e, vPop_e, vDup2_e, vGoto_e, vIcEq_e, vIfEq_e, vIcNe_e, vIfNe_e, vIcLt_e, vIfLt_e, vIcGe_e, vIfGe_e, vIcGt_e, vIfGt_e, vIcLe_e, vIfLe_e, vNonnull_e, vSw_e, vGetI_e, vGetL_e, vGetR_e, vPutI_e, vPutZ_e, vPutL_e, vPutR_e, vIald_e, vIald_s, vLald_e, vBald_e, vBald_s, vAald_e, vIast_e, vLast_e, vBast_e, vAast_e, vAlen_e8, vAlen_e9, vAlen_e10, vAlen_e11, vAlen_e5, vAlen_e3, vGets_e, vCompact_e, vLdcS_e, vIret_e, vZret_e, vCret_e, vBret_e, vLret_e, vVret_e, vAret_e, vCallM_e0, vCallMV_e0, vCallS_e0, vCallSV_e0, vCallM_e1, vCallMV_e1, vCallS_e1, vCallSV_e1, vCallM_e2, vCallMV_e2, vCallS_e2, vCallSV_e2, vCallM_e3, vCallMV_e3, vCallS_e3, vCallSV_e3, vCallM_e4, vCallMV_e4, vCallS_e4, vCallSV_e4, vCallM_e5, vCallMV_e5, vCallS_e5, vCallSV_e5, vCallM_e6, vCallMV_e6, vCallS_e6, vCallSV_e6, vCallM_e7, vCallMV_e7, vCallS_e7, vCallSV_e7, vBad_e, vStrVal_e, vStrCod_e, vForm_e, vCallT_e0, vCallT_e1, vCallT_e2, vCopy_e, rf_0_0, rf_0_1, rf_0_2, rf_0_3, rf_0_4, rf_0_7, rf_0_10, rf_0_11, rf_0_12, rf_0_13, rf_0_14, rf_0_15, rf_0_16, rf_1_0, rf_3_0, rf_3_1, rf_6_0, rf_6_1, rf_9_0, rf_9_1, rf_9_3, rf_13_0, rf_13_1, rf_13_2, rf_16_0, rf_16_1, rf_16_2, rf_16_3, rf_21_0, rf_21_1, rf_21_2, rf_21_3, rf_26_0, rf_26_1, rf_26_2, rf_26_3, rf_26_4, rf_26_5, rf_26_6, rf_31_0, rf_31_2, rf_31_5, rf_31_6, rf_36_0, rf_36_1, rf_36_2, rf_36_3, rf_39_0, rf_39_1, rf_39_2, rf_41_0, rf_41_1, rf_41_2, rf_41_3, rf_5000_1, rf_5000_2, rf_5000_3, rf_5000_4, rf_5000_5, rf_5000_15, rf_5000_16, rf_5000_18, rf_5000_19, rf_5000_20, rf_5000_21, rf_5000_22, rf_5000_23, rf_5000_24, rf_5000_25, rf_5000_26, rf_5000_27, rf_5000_36, rf_5000_37, rf_5000_40, rf_5000_41, rf_5000_42, rf_5000_43, rf_5000_44, rf_5000_45, rf_5000_47, rf_5000_52, rf_5000_54, rf_5000_55, rf_100_0, rf_100_1, rf_103_0, rf_103_1, rf_106_0, rf_106_1, rf_109_0, rf_109_1, al_2, al_4, al_5, al_7, al_8, al_10, al_11, al_12, al_14, al_15, al_17, al_18, al_19, al_20, al_22, al_23, al_24, al_25, al_27, al_28, al_29, al_30, al_32, al_33, al_34, al_35, al_37, al_38, al_40, al_42, al_5001, al_5002, al_5003, al_5004, al_5005, al_5006, al_5007, al_5008, al_5009, al_5010, al_5011, al_5012, al_5013, al_5014, al_5015, al_5016, al_5017, al_5018, al_5019, al_5020, al_5021, al_5022, al_5023, al_5024, al_5025, al_5026, al_9000, al_101, al_102, al_104, al_105, al_107, al_108, al_110, al_111, vcs_e, lg_c0, lg_cs, lg_nil, set_c0, set_cs, okst_0, okst_s, acok_n, acok_c, List.contains_nil, List.contains_cons, Bool.or_false, Bool.false_or, Bool.false_eq_true, if_false, if_true, ite_self, ne_eq, true_and, and_true, not_false_eq_true, not_true_eq_false, false_imp_iff, true_imp_iff, Nat.ble_eq, Bool.and_eq_true, reduceCtorEq, or_false, false_or, or_true, true_or, false_and, and_false, and_self, Int.reduceLE, Int.reduceAdd, Int.reduceSub, Int.reduceMul, Int.reduceNeg, Int.reduceLT, Int.reduceEq, Int.reduceNe, Nat.reduceBEq, Nat.reduceBNe, Nat.reduceEqDiff, amCmp_in, amCmp_lt, amCmp_le, amCmp_gt, amCmp_ge, amCmp_eq, amCmp_ne, Nat.reduceLeDiff, Nat.reduceSub, Bool.and_true, Bool.true_and, Bool.and_self, Bool.or_true, Bool.true_or, isRf_3, isRf_4, isRf_5, isRf_8, isRf_9, isRf_10, isRf_11, isRf_15, isRf_16, isRf_17, isRf_18, isRf_19, isRf_20, isRf_21, isRf_22, isRf_23, isRf_24, isRf_25, isRf_26, isRf_27, isRf_28, k_X12_gameOf_0, k_X12_gameOf_1, k_X12_gameOf_4, k_X12_gameOf_5, k_X12_gameOf_8, k_X12_gameOf_11, k_X12_gameOf_12, k_X12_gameOf_15, k_X12_gameOf_16, k_X12_gameOf_17, k_X12_gameOf_18, k_X12_gameOf_19, k_X12_gameOf_20, k_X12_gameOf_22, k_X12_gameOf_23, k_X12_gameOf_24, k_X12_gameOf_27, k_X12_gameOf_28, k_X12_gameOf_29, k_X12_gameOf_30, k_X12_gameOf_31, k_X12_gameOf_32, k_X12_gameOf_34, k_X12_gameOf_35, k_X12_gameOf_36, k_X12_gameOf_37, k_X12_gameOf_40, k_X12_gameOf_41, k_X12_gameOf_44, k_X12_gameOf_46, k_X12_gameOf_48, k_X12_gameOf_51, k_X12_gameOf_52, k_X12_gameOf_55, k_X12_gameOf_56, k_X12_gameOf_58, k_X12_gameOf_60, k_X12_gameOf_62, k_X12_gameOf_65, k_X12_gameOf_68, k_X12_gameOf_69, k_X12_gameOf_72, k_X12_gameOf_73, k_X12_gameOf_76, k_X12_gameOf_78, k_X12_gameOf_79, k_X12_gameOf_81, k_X12_gameOf_82, k_X12_gameOf_85, k_X12_gameOf_86, k_X12_gameOf_88, k_X12_gameOf_89, k_X12_gameOf_90, k_X12_gameOf_91, k_X12_gameOf_92, k_X12_gameOf_93, k_X12_gameOf_96, k_X12_gameOf_97, k_X12_gameOf_99, k_X12_gameOf_100, k_X12_gameOf_101, k_X12_gameOf_102, k_X12_gameOf_103, k_X12_gameOf_106, k_X12_gameOf_108, k_X12_gameOf_111, k_X12_gameOf_113, k_X12_gameOf_114, k_X12_gameOf_117, k_X12_gameOf_119, k_X12_gameOf_120, k_X12_gameOf_121, w_X12_copy_e, w_X12_goPlay_e, w_X12_has_e, d, fo, sr, e15]
        repeat' (first | apply And.intro | intro _)
        all_goals first | omega | exact absurd trivial (by assumption) | exact f1 (by assumption) | exact f2 (by assumption)
      · obtain ⟨z1, z2⟩ := cv 0 (fun _ => rfl) (fun q => by omega)
        have f1 : y = σ 5015 (4 * r + 1) → Q (0, 0) σ' := fun q => by rw [z1 q]; exact hq
        have f2 : ¬ y = σ 5015 (4 * r + 1) → Q (0, 0 - σ 5015 25) σ' := fun q => by rw [z2 q]; exact hq
        refine ⟨90, ?_⟩
        simp only [↓reduceIte, inR_0, inR_1, inR_m, vSw2_e, swP_n, swP_c, vI_e, vL_e, vNull_e, vIload_e, vLload_e, vAload_e, vIstore_e, vLstore_e, vAstore_e, vIinc_e, vIadd_e, vIsub_e, vImul_e, vIand_e, vIor_e, vIxor_e, vIshl_e, vIshr_e, vIushr_e, vIdiv_e, vIrem_e, vLadd_e, vLsub_e, vLmul_e, vLand_e, vLor_e, vLxor_e, vLdiv_e, vLrem_e, vLushr_e, vLshl_e, vLcmp_e, vIneg_e, vI2l_e, vL2i_e, vI2b_e, vI2c_e, vDup_e, vPop_e, vDup2_e, vGoto_e, vIcEq_e, vIfEq_e, vIcNe_e, vIfNe_e, vIcLt_e, vIfLt_e, vIcGe_e, vIfGe_e, vIcGt_e, vIfGt_e, vIcLe_e, vIfLe_e, vNonnull_e, vSw_e, vGetI_e, vGetL_e, vGetR_e, vPutI_e, vPutZ_e, vPutL_e, vPutR_e, vIald_e, vIald_s, vLald_e, vBald_e, vBald_s, vAald_e, vIast_e, vLast_e, vBast_e, vAast_e, vAlen_e8, vAlen_e9, vAlen_e10, vAlen_e11, vAlen_e5, vAlen_e3, vGets_e, vCompact_e, vLdcS_e, vIret_e, vZret_e, vCret_e, vBret_e, vLret_e, vVret_e, vAret_e, vCallM_e0, vCallMV_e0, vCallS_e0, vCallSV_e0, vCallM_e1, vCallMV_e1, vCallS_e1, vCallSV_e1, vCallM_e2, vCallMV_e2, vCallS_e2, vCallSV_e2, vCallM_e3, vCallMV_e3, vCallS_e3, vCallSV_e3, vCallM_e4, vCallMV_e4, vCallS_e4, vCallSV_e4, vCallM_e5, vCallMV_e5, vCallS_e5, vCallSV_e5, vCallM_e6, vCallMV_e6, vCallS_e6, vCallSV_e6, vCallM_e7, vCallMV_e7, vCallS_e7, vCallSV_e7, vBad_e, vStrVal_e, vStrCod_e, vForm_e, vCallT_e0, vCallT_e1, vCallT_e2, vCopy_e, rf_0_0, rf_0_1, rf_0_2, rf_0_3, rf_0_4, rf_0_7, rf_0_10, rf_0_11, rf_0_12, rf_0_13, rf_0_14, rf_0_15, rf_0_16, rf_1_0, rf_3_0, rf_3_1, rf_6_0, rf_6_1, rf_9_0, rf_9_1, rf_9_3, rf_13_0, rf_13_1, rf_13_2, rf_16_0, rf_16_1, rf_16_2, rf_16_3, rf_21_0, rf_21_1, rf_21_2, rf_21_3, rf_26_0, rf_26_1, rf_26_2, rf_26_3, rf_26_4, rf_26_5, rf_26_6, rf_31_0, rf_31_2, rf_31_5, rf_31_6, rf_36_0, rf_36_1, rf_36_2, rf_36_3, rf_39_0, rf_39_1, rf_39_2, rf_41_0, rf_41_1, rf_41_2, rf_41_3, rf_5000_1, rf_5000_2, rf_5000_3, rf_5000_4, rf_5000_5, rf_5000_15, rf_5000_16, rf_5000_18, rf_5000_19, rf_5000_20, rf_5000_21, rf_5000_22, rf_5000_23, rf_5000_24, rf_5000_25, rf_5000_26, rf_5000_27, rf_5000_36, rf_5000_37, rf_5000_40, rf_5000_41, rf_5000_42, rf_5000_43, rf_5000_44, rf_5000_45, rf_5000_47, rf_5000_52, rf_5000_54, rf_5000_55, rf_100_0, rf_100_1, rf_103_0, rf_103_1, rf_106_0, rf_106_1, rf_109_0, rf_109_1, al_2, al_4, al_5, al_7, al_8, al_10, al_11, al_12, al_14, al_15, al_17, al_18, al_19, al_20, al_22, al_23, al_24, al_25, al_27, al_28, al_29, al_30, al_32, al_33, al_34, al_35, al_37, al_38, al_40, al_42, al_5001, al_5002, al_5003, al_5004, al_5005, al_5006, al_5007, al_5008, al_5009, al_5010, al_5011, al_5012, al_5013, al_5014, al_5015, al_5016, al_5017, al_5018, al_5019, al_5020, al_5021, al_5022, al_5023, al_5024, al_5025, al_5026, al_9000, al_101, al_102, al_104, al_105, al_107, al_108, al_110, al_111, vcs_e, lg_c0, lg_cs, lg_nil, set_c0, set_cs, okst_0, okst_s, acok_n, acok_c, List.contains_nil, List.contains_cons, Bool.or_false, Bool.false_or, Bool.false_eq_true, if_false, if_true, ite_self, ne_eq, true_and, and_true, not_false_eq_true, not_true_eq_false, false_imp_iff, true_imp_iff, Nat.ble_eq, Bool.and_eq_true, reduceCtorEq, or_false, false_or, or_true, true_or, false_and, and_false, and_self, Int.reduceLE, Int.reduceAdd, Int.reduceSub, Int.reduceMul, Int.reduceNeg, Int.reduceLT, Int.reduceEq, Int.reduceNe, Nat.reduceBEq, Nat.reduceBNe, Nat.reduceEqDiff, amCmp_in, amCmp_lt, amCmp_le, amCmp_gt, amCmp_ge, amCmp_eq, amCmp_ne, Nat.reduceLeDiff, Nat.reduceSub, Bool.and_true, Bool.true_and, Bool.and_self, Bool.or_true, Bool.true_or, isRf_3, isRf_4, isRf_5, isRf_8, isRf_9, isRf_10, isRf_11, isRf_15, isRf_16, isRf_17, isRf_18, isRf_19, isRf_20, isRf_21, isRf_22, isRf_23, isRf_24, isRf_25, isRf_26, isRf_27, isRf_28, k_X12_gameOf_0, k_X12_gameOf_1, k_X12_gameOf_4, k_X12_gameOf_5, k_X12_gameOf_8, k_X12_gameOf_11, k_X12_gameOf_12, k_X12_gameOf_15, k_X12_gameOf_16, k_X12_gameOf_17, k_X12_gameOf_18, k_X12_gameOf_19, k_X12_gameOf_20, k_X12_gameOf_22, k_X12_gameOf_23, k_X12_gameOf_24, k_X12_gameOf_27, k_X12_gameOf_28, k_X12_gameOf_29, k_X12_gameOf_30, k_X12_gameOf_31, k_X12_gameOf_32, k_X12_gameOf_34, k_X12_gameOf_35, k_X12_gameOf_36, k_X12_gameOf_37, k_X12_gameOf_40, k_X12_gameOf_41, k_X12_gameOf_44, k_X12_gameOf_46, k_X12_gameOf_48, k_X12_gameOf_51, k_X12_gameOf_52, k_X12_gameOf_55, k_X12_gameOf_56, k_X12_gameOf_58, k_X12_gameOf_60, k_X12_gameOf_62, k_X12_gameOf_65, k_X12_gameOf_68, k_X12_gameOf_69, k_X12_gameOf_72, k_X12_gameOf_73, k_X12_gameOf_76, k_X12_gameOf_78, k_X12_gameOf_79, k_X12_gameOf_81, k_X12_gameOf_82, k_X12_gameOf_85, k_X12_gameOf_86, k_X12_gameOf_88, k_X12_gameOf_89, k_X12_gameOf_90, k_X12_gameOf_91, k_X12_gameOf_92, k_X12_gameOf_93, k_X12_gameOf_96, k_X12_gameOf_97, k_X12_gameOf_99, k_X12_gameOf_100, k_X12_gameOf_101, k_X12_gameOf_102, k_X12_gameOf_103, k_X12_gameOf_106, k_X12_gameOf_108, k_X12_gameOf_111, k_X12_gameOf_113, k_X12_gameOf_114, k_X12_gameOf_117, k_X12_gameOf_119, k_X12_gameOf_120, k_X12_gameOf_121, w_X12_copy_e, w_X12_goPlay_e, w_X12_has_e, d, sr, e15]
        repeat' (first | apply And.intro | intro _)
        all_goals first | omega | exact absurd trivial (by assumption) | exact f1 (by assumption) | exact f2 (by assumption)
  · change vcs _ _ _ _ 90 0 [(28, 5000), (0, o), (0, r), (0, p), (0, x), (0, y), (0, w), (6, 0), (6, 0), (6, 0)] [] σ
    have i9 : ∀ τ, PF (gmM σ o r x y) τ → mOk τ → (∀ j, 0 ≤ j → j < σ 5000 29 → τ 5019 j = mFl (gmM σ o r x y) 5016 p (mMi σ p) j ∧ τ 5020 j = mOa (gmM σ o r x y) 5016 p (mMi σ p) j) → ∃ k', inv_gmo σ o r p x y w k' 44 [(28, 5000), (0, o), (0, r), (0, p), (0, x), (0, y), (0, w), (6, 0), (6, 0), (6, 0)] [(0, mOu (gmM σ o r x y) 5016 p (mMi σ p))] τ := fun τ a b f => ⟨0, rfl, rfl, rfl, rfl, a, b, fun j j0 j1 => (f j j0 j1).1⟩
    unfold mMi at i9
    simp only [↓reduceIte, inR_0, inR_1, inR_m, vSw2_e, swP_n, swP_c, vI_e, vL_e, vNull_e, vIload_e, vLload_e, vAload_e, vIstore_e, vLstore_e, vAstore_e, vIinc_e, vIadd_e, vIsub_e, vImul_e, vIand_e, vIor_e, vIxor_e, vIshl_e, vIshr_e, vIushr_e, vIdiv_e, vIrem_e, vLadd_e, vLsub_e, vLmul_e, vLand_e, vLor_e, vLxor_e, vLdiv_e, vLrem_e, vLushr_e, vLshl_e, vLcmp_e, vIneg_e, vI2l_e, vL2i_e, vI2b_e, vI2c_e, vDup_e, vPop_e, vDup2_e, vGoto_e, vIcEq_e, vIfEq_e, vIcNe_e, vIfNe_e, vIcLt_e, vIfLt_e, vIcGe_e, vIfGe_e, vIcGt_e, vIfGt_e, vIcLe_e, vIfLe_e, vNonnull_e, vSw_e, vGetI_e, vGetL_e, vGetR_e, vPutI_e, vPutZ_e, vPutL_e, vPutR_e, vIald_e, vIald_s, vLald_e, vBald_e, vBald_s, vAald_e, vIast_e, vLast_e, vBast_e, vAast_e, vAlen_e8, vAlen_e9, vAlen_e10, vAlen_e11, vAlen_e5, vAlen_e3, vGets_e, vCompact_e, vLdcS_e, vIret_e, vZret_e, vCret_e, vBret_e, vLret_e, vVret_e, vAret_e, vCallM_e0, vCallMV_e0, vCallS_e0, vCallSV_e0, vCallM_e1, vCallMV_e1, vCallS_e1, vCallSV_e1, vCallM_e2, vCallMV_e2, vCallS_e2, vCallSV_e2, vCallM_e3, vCallMV_e3, vCallS_e3, vCallSV_e3, vCallM_e4, vCallMV_e4, vCallS_e4, vCallSV_e4, vCallM_e5, vCallMV_e5, vCallS_e5, vCallSV_e5, vCallM_e6, vCallMV_e6, vCallS_e6, vCallSV_e6, vCallM_e7, vCallMV_e7, vCallS_e7, vCallSV_e7, vBad_e, vStrVal_e, vStrCod_e, vForm_e, vCallT_e0, vCallT_e1, vCallT_e2, vCopy_e, rf_0_0, rf_0_1, rf_0_2, rf_0_3, rf_0_4, rf_0_7, rf_0_10, rf_0_11, rf_0_12, rf_0_13, rf_0_14, rf_0_15, rf_0_16, rf_1_0, rf_3_0, rf_3_1, rf_6_0, rf_6_1, rf_9_0, rf_9_1, rf_9_3, rf_13_0, rf_13_1, rf_13_2, rf_16_0, rf_16_1, rf_16_2, rf_16_3, rf_21_0, rf_21_1, rf_21_2, rf_21_3, rf_26_0, rf_26_1, rf_26_2, rf_26_3, rf_26_4, rf_26_5, rf_26_6, rf_31_0, rf_31_2, rf_31_5, rf_31_6, rf_36_0, rf_36_1, rf_36_2, rf_36_3, rf_39_0, rf_39_1, rf_39_2, rf_41_0, rf_41_1, rf_41_2, rf_41_3, rf_5000_1, rf_5000_2, rf_5000_3, rf_5000_4, rf_5000_5, rf_5000_15, rf_5000_16, rf_5000_18, rf_5000_19, rf_5000_20, rf_5000_21, rf_5000_22, rf_5000_23, rf_5000_24, rf_5000_25, rf_5000_26, rf_5000_27, rf_5000_36, rf_5000_37, rf_5000_40, rf_5000_41, rf_5000_42, rf_5000_43, rf_5000_44, rf_5000_45, rf_5000_47, rf_5000_52, rf_5000_54, rf_5000_55, rf_100_0, rf_100_1, rf_103_0, rf_103_1, rf_106_0, rf_106_1, rf_109_0, rf_109_1, al_2, al_4, al_5, al_7, al_8, al_10, al_11, al_12, al_14, al_15, al_17, al_18, al_19, al_20, al_22, al_23, al_24, al_25, al_27, al_28, al_29, al_30, al_32, al_33, al_34, al_35, al_37, al_38, al_40, al_42, al_5001, al_5002, al_5003, al_5004, al_5005, al_5006, al_5007, al_5008, al_5009, al_5010, al_5011, al_5012, al_5013, al_5014, al_5015, al_5016, al_5017, al_5018, al_5019, al_5020, al_5021, al_5022, al_5023, al_5024, al_5025, al_5026, al_9000, al_101, al_102, al_104, al_105, al_107, al_108, al_110, al_111, vcs_e, lg_c0, lg_cs, lg_nil, set_c0, set_cs, okst_0, okst_s, acok_n, acok_c, List.contains_nil, List.contains_cons, Bool.or_false, Bool.false_or, Bool.false_eq_true, if_false, if_true, ite_self, ne_eq, true_and, and_true, not_false_eq_true, not_true_eq_false, false_imp_iff, true_imp_iff, Nat.ble_eq, Bool.and_eq_true, reduceCtorEq, or_false, false_or, or_true, true_or, false_and, and_false, and_self, Int.reduceLE, Int.reduceAdd, Int.reduceSub, Int.reduceMul, Int.reduceNeg, Int.reduceLT, Int.reduceEq, Int.reduceNe, Nat.reduceBEq, Nat.reduceBNe, Nat.reduceEqDiff, amCmp_in, amCmp_lt, amCmp_le, amCmp_gt, amCmp_ge, amCmp_eq, amCmp_ne, Nat.reduceLeDiff, Nat.reduceSub, Bool.and_true, Bool.true_and, Bool.and_self, Bool.or_true, Bool.true_or, isRf_3, isRf_4, isRf_5, isRf_8, isRf_9, isRf_10, isRf_11, isRf_15, isRf_16, isRf_17, isRf_18, isRf_19, isRf_20, isRf_21, isRf_22, isRf_23, isRf_24, isRf_25, isRf_26, isRf_27, isRf_28, k_X12_gameOf_0, k_X12_gameOf_1, k_X12_gameOf_4, k_X12_gameOf_5, k_X12_gameOf_8, k_X12_gameOf_11, k_X12_gameOf_12, k_X12_gameOf_15, k_X12_gameOf_16, k_X12_gameOf_17, k_X12_gameOf_18, k_X12_gameOf_19, k_X12_gameOf_20, k_X12_gameOf_22, k_X12_gameOf_23, k_X12_gameOf_24, k_X12_gameOf_27, k_X12_gameOf_28, k_X12_gameOf_29, k_X12_gameOf_30, k_X12_gameOf_31, k_X12_gameOf_32, k_X12_gameOf_34, k_X12_gameOf_35, k_X12_gameOf_36, k_X12_gameOf_37, k_X12_gameOf_40, k_X12_gameOf_41, k_X12_gameOf_44, k_X12_gameOf_46, k_X12_gameOf_48, k_X12_gameOf_51, k_X12_gameOf_52, k_X12_gameOf_55, k_X12_gameOf_56, k_X12_gameOf_58, k_X12_gameOf_60, k_X12_gameOf_62, k_X12_gameOf_65, k_X12_gameOf_68, k_X12_gameOf_69, k_X12_gameOf_72, k_X12_gameOf_73, k_X12_gameOf_76, k_X12_gameOf_78, k_X12_gameOf_79, k_X12_gameOf_81, k_X12_gameOf_82, k_X12_gameOf_85, k_X12_gameOf_86, k_X12_gameOf_88, k_X12_gameOf_89, k_X12_gameOf_90, k_X12_gameOf_91, k_X12_gameOf_92, k_X12_gameOf_93, k_X12_gameOf_96, k_X12_gameOf_97, k_X12_gameOf_99, k_X12_gameOf_100, k_X12_gameOf_101, k_X12_gameOf_102, k_X12_gameOf_103, k_X12_gameOf_106, k_X12_gameOf_108, k_X12_gameOf_111, k_X12_gameOf_113, k_X12_gameOf_114, k_X12_gameOf_117, k_X12_gameOf_119, k_X12_gameOf_120, k_X12_gameOf_121, w_X12_copy_e, w_X12_goPlay_e, w_X12_has_e, et, g29, g28, g7]
    repeat' (first | assumption | exact hPg | apply And.intro | intro _)
    all_goals first | omega | exact absurd trivial (by assumption) | exact i9 _ (by assumption) (by assumption) (by assumption) | exact Or.inr rfl
theorem wd_1868 : Cond.methodLink RX12 466 yX12_isGame ∈ TBL := tb_tab (List.mem_of_getElem? (i := 1868) (by decide +kernel)) rfl
theorem wd_1871 : Cond.code yX12_isGame cX12_isGame 4 (some .boolean) ∈ TBL := tb_tab (List.mem_of_getElem? (i := 1871) (by decide +kernel)) rfl
theorem lk_X12_466 : amLk RX12 466 yX12_isGame cX12_isGame 4 (some .boolean) 3 := ⟨wd_1868, wd_12, wd_1871, by decide +kernel, by decide +kernel, by decide⟩
theorem wd_1870 : Cond.instanceMethod yX12_isGame ∈ TBL := tb_tab (List.mem_of_getElem? (i := 1870) (by decide +kernel)) rfl
theorem sl_X12_isGame : Cond.selects RX12 yX12_isGame yX12_isGame ∈ TBL := tb_sel (List.mem_of_getElem? (i := 96) (by decide +kernel)) rfl
theorem wd_1872 : Cond.methodLink RX12 470 yX12_gameOf ∈ TBL := tb_tab (List.mem_of_getElem? (i := 1872) (by decide +kernel)) rfl
theorem wd_1875 : Cond.code yX12_gameOf cX12_gameOf 10 (some .int) ∈ TBL := tb_tab (List.mem_of_getElem? (i := 1875) (by decide +kernel)) rfl
theorem lk_X12_470 : amLk RX12 470 yX12_gameOf cX12_gameOf 10 (some .int) 6 := ⟨wd_1872, wd_12, wd_1875, by decide +kernel, by decide +kernel, by decide⟩
theorem wd_1874 : Cond.instanceMethod yX12_gameOf ∈ TBL := tb_tab (List.mem_of_getElem? (i := 1874) (by decide +kernel)) rfl
theorem sl_X12_gameOf : Cond.selects RX12 yX12_gameOf yX12_gameOf ∈ TBL := tb_sel (List.mem_of_getElem? (i := 97) (by decide +kernel)) rfl
def a_X12_game : AC := [(0, vAload 0 1), (1, vI 0 2), (2, vPutI 28 0 5), (5, vAload 0 6), (6, vIload 1 7), (7, vIload 2 8), (8, vIload 3 9), (9, vCallM w_X12_isGame 28 3 12), (12, vIfEq 60 15), (15, vAload 0 16), (16, vIload 4 18), (18, vCallM w_X12_isSitter 28 1 21), (21, vIfEq 60 24), (24, vAload 0 25), (25, vIload 5 27), (27, vCallM w_X12_isSitter 28 1 30), (30, vIfEq 60 33), (33, vIload 6 35), (35, vI2l 36), (36, vL 0 37), (37, vL 1 38), (38, vCallS w_X12_isIn 3 41), (41, vIfEq 60 44), (44, vAload 0 45), (45, vIload 1 46), (46, vIload 2 47), (47, vIload 3 48), (48, vIload 4 50), (50, vIload 5 52), (52, vIload 6 54), (54, vCallM w_X12_gameOf 28 6 57), (57, vGoto 63), (60, vI (-1000000) 63), (63, vIret)]
theorem k_X12_game_0 : look a_X12_game 0 = vAload 0 1 := rfl
theorem k_X12_game_1 : look a_X12_game 1 = vI 0 2 := rfl
theorem k_X12_game_2 : look a_X12_game 2 = vPutI 28 0 5 := rfl
theorem k_X12_game_5 : look a_X12_game 5 = vAload 0 6 := rfl
theorem k_X12_game_6 : look a_X12_game 6 = vIload 1 7 := rfl
theorem k_X12_game_7 : look a_X12_game 7 = vIload 2 8 := rfl
theorem k_X12_game_8 : look a_X12_game 8 = vIload 3 9 := rfl
theorem k_X12_game_9 : look a_X12_game 9 = vCallM w_X12_isGame 28 3 12 := rfl
theorem k_X12_game_12 : look a_X12_game 12 = vIfEq 60 15 := rfl
theorem k_X12_game_15 : look a_X12_game 15 = vAload 0 16 := rfl
theorem k_X12_game_16 : look a_X12_game 16 = vIload 4 18 := rfl
theorem k_X12_game_18 : look a_X12_game 18 = vCallM w_X12_isSitter 28 1 21 := rfl
theorem k_X12_game_21 : look a_X12_game 21 = vIfEq 60 24 := rfl
theorem k_X12_game_24 : look a_X12_game 24 = vAload 0 25 := rfl
theorem k_X12_game_25 : look a_X12_game 25 = vIload 5 27 := rfl
theorem k_X12_game_27 : look a_X12_game 27 = vCallM w_X12_isSitter 28 1 30 := rfl
theorem k_X12_game_30 : look a_X12_game 30 = vIfEq 60 33 := rfl
theorem k_X12_game_33 : look a_X12_game 33 = vIload 6 35 := rfl
theorem k_X12_game_35 : look a_X12_game 35 = vI2l 36 := rfl
theorem k_X12_game_36 : look a_X12_game 36 = vL 0 37 := rfl
theorem k_X12_game_37 : look a_X12_game 37 = vL 1 38 := rfl
theorem k_X12_game_38 : look a_X12_game 38 = vCallS w_X12_isIn 3 41 := rfl
theorem k_X12_game_41 : look a_X12_game 41 = vIfEq 60 44 := rfl
theorem k_X12_game_44 : look a_X12_game 44 = vAload 0 45 := rfl
theorem k_X12_game_45 : look a_X12_game 45 = vIload 1 46 := rfl
theorem k_X12_game_46 : look a_X12_game 46 = vIload 2 47 := rfl
theorem k_X12_game_47 : look a_X12_game 47 = vIload 3 48 := rfl
theorem k_X12_game_48 : look a_X12_game 48 = vIload 4 50 := rfl
theorem k_X12_game_50 : look a_X12_game 50 = vIload 5 52 := rfl
theorem k_X12_game_52 : look a_X12_game 52 = vIload 6 54 := rfl
theorem k_X12_game_54 : look a_X12_game 54 = vCallM w_X12_gameOf 28 6 57 := rfl
theorem k_X12_game_57 : look a_X12_game 57 = vGoto 63 := rfl
theorem k_X12_game_60 : look a_X12_game 60 = vI (-1000000) 63 := rfl
theorem k_X12_game_63 : look a_X12_game 63 = vIret := rfl
theorem o_X12_game {X : amX} (e1 : XT X = TT) (e2 : XD X = 61) (hB : amB X RX12 cX12_game (some .int) 7) : ∀ pc, amOK X pc (look a_X12_game pc) := by
  have hT : amTok (XT X) := e1 ▸ TT_ok
  refine look_ok ?_
  unfold a_X12_game
  refine fc (ok_aload_n hB dX12_game_0) ?_
  refine fc (ok_iconst hB dX12_game_1) ?_
  refine fc (ok_putI hB hT fp_X12_111 rfl rfl rfl af_12_0 dX12_game_2) ?_
  refine fc (ok_aload_n hB dX12_game_5) ?_
  refine fc (ok_iload_n hB dX12_game_6) ?_
  refine fc (ok_iload_n hB dX12_game_7) ?_
  refine fc (ok_iload_n hB dX12_game_8) ?_
  refine fc (ok_callM hB hT (e1 ▸ s_X12_isGame) lk_X12_466 (by rw [e2]; decide) (c := 12) rfl rfl rfl wd_1870 sl_X12_isGame dX12_game_9) ?_
  refine fc (ok_if_eq hB (t := 60) (by decide) dX12_game_12) ?_
  refine fc (ok_aload_n hB dX12_game_15) ?_
  refine fc (ok_iload hB dX12_game_16) ?_
  refine fc (ok_callM hB hT (e1 ▸ s_X12_isSitter) lk_X12_374 (by rw [e2]; decide) (c := 12) rfl rfl rfl wd_1669 sl_X12_isSitter dX12_game_18) ?_
  refine fc (ok_if_eq hB (t := 60) (by decide) dX12_game_21) ?_
  refine fc (ok_aload_n hB dX12_game_24) ?_
  refine fc (ok_iload hB dX12_game_25) ?_
  refine fc (ok_callM hB hT (e1 ▸ s_X12_isSitter) lk_X12_374 (by rw [e2]; decide) (c := 12) rfl rfl rfl wd_1669 sl_X12_isSitter dX12_game_27) ?_
  refine fc (ok_if_eq hB (t := 60) (by decide) dX12_game_30) ?_
  refine fc (ok_iload hB dX12_game_33) ?_
  refine fc (ok_i2l hB dX12_game_35) ?_
  refine fc (ok_lconst hB (z := 0) (by decide) dX12_game_36) ?_
  refine fc (ok_lconst hB (z := 1) (by decide) dX12_game_37) ?_
  refine fc (ok_callS hB (e1 ▸ s_X12_isIn) lk_X12_232 (by rw [e2]; decide) wd_1502 dX12_game_38) ?_
  refine fc (ok_if_eq hB (t := 60) (by decide) dX12_game_41) ?_
  refine fc (ok_aload_n hB dX12_game_44) ?_
  refine fc (ok_iload_n hB dX12_game_45) ?_
  refine fc (ok_iload_n hB dX12_game_46) ?_
  refine fc (ok_iload_n hB dX12_game_47) ?_
  refine fc (ok_iload hB dX12_game_48) ?_
  refine fc (ok_iload hB dX12_game_50) ?_
  refine fc (ok_iload hB dX12_game_52) ?_
  refine fc (ok_callM hB hT (e1 ▸ s_X12_gameOf) lk_X12_470 (by rw [e2]; decide) (c := 12) rfl rfl rfl wd_1874 sl_X12_gameOf dX12_game_54) ?_
  refine fc (ok_goto hB (t := 63) (by decide) dX12_game_57) ?_
  refine fc (ok_ldcw hB wd_1784 rfl dX12_game_60) ?_
  refine fc (ok_iret hB dX12_game_63) ?_
  exact fn

def w_X12_game : WP := fun av σ Q => ∃ (o : Int) (r : Int) (p : Int) (x : Int) (y : Int) (w : Int), av = [(28, 5000), (0, o), (0, r), (0, p), (0, x), (0, y), (0, w)] ∧ (InR o ∧ InR r ∧ InR p ∧ InR x ∧ InR y ∧ InR w ∧ mX σ 5015 ∧ (¬ (gmP σ o r p ∧ (0 ≤ x ∧ x < σ 5000 30) ∧ (0 ≤ y ∧ y < σ 5000 30) ∧ 0 ≤ w ∧ w ≤ 1) → Q (0, -1000000) (th0 σ)) ∧ (gmP σ o r p ∧ (0 ≤ x ∧ x < σ 5000 30) ∧ (0 ≤ y ∧ y < σ 5000 30) ∧ 0 ≤ w ∧ w ≤ 1 → ∀ τ, QF σ τ → mOk τ → Q (0, if w = 0 then gmV (th0 σ) o r p x y o x else gmV (th0 σ) o r p x y r y) τ))
theorem w_X12_game_e (o : Int) (r : Int) (p : Int) (x : Int) (y : Int) (w : Int) (σ : Mem) (Q : AV → Mem → Prop) : w_X12_game [(28, 5000), (0, o), (0, r), (0, p), (0, x), (0, y), (0, w)] σ Q = (InR o ∧ InR r ∧ InR p ∧ InR x ∧ InR y ∧ InR w ∧ mX σ 5015 ∧ (¬ (gmP σ o r p ∧ (0 ≤ x ∧ x < σ 5000 30) ∧ (0 ≤ y ∧ y < σ 5000 30) ∧ 0 ≤ w ∧ w ≤ 1) → Q (0, -1000000) (th0 σ)) ∧ (gmP σ o r p ∧ (0 ≤ x ∧ x < σ 5000 30) ∧ (0 ≤ y ∧ y < σ 5000 30) ∧ 0 ≤ w ∧ w ≤ 1 → ∀ τ, QF σ τ → mOk τ → Q (0, if w = 0 then gmV (th0 σ) o r p x y o x else gmV (th0 σ) o r p x y r y) τ)) := by
  apply propext; constructor
  · rintro ⟨o', r', p', x', y', w', h9, hb9⟩; cases h9; exact hb9
  · intro hb9; exact ⟨o, r, p, x, y, w, rfl, hb9⟩

set_option maxRecDepth 100000 in
set_option maxHeartbeats 4000000 in
theorem s_X12_game : ∀ av σ Q, w_X12_game av σ Q → amCall 61 0 0 TT yX12_game cX12_game 7 (some .int) av σ Q := by
  rintro av σ Q ⟨o, r, p, x, y, w, rfl, ho, hr, hp, hX, hY, hw, hx, h1, h2⟩
  have e28 : th0 σ 5000 28 = σ 5000 28 := th_k σ (by decide)
  have e29 : th0 σ 5000 29 = σ 5000 29 := th_k σ (by decide)
  have e30 : th0 σ 5000 30 = σ 5000 30 := th_k σ (by decide)
  have n29 := hx.2.1.2.2.1
  have n28 := hx.2.1.2.2.2.2.1
  have n30 := hx.2.1.2.2.2.1
  have hxt := mX_th hx
  have eg : gmP (th0 σ) o r p = gmP σ o r p := by unfold gmP; rw [e29, e28]
  have hd := fun q : gmP σ o r p => show gmP (th0 σ) o r p by rw [eg]; exact q
  by_cases d1 : 0 ≤ x ∧ x < σ 5000 30
  · by_cases d2 : 0 ≤ y ∧ y < σ 5000 30
    · by_cases d3 : 0 ≤ w ∧ w ≤ 1
      · have q8 := fun q : ¬ gmP σ o r p => h1 (fun z => q z.1)
        have q9 := fun (q : gmP σ o r p) τ a b => h2 ⟨q, d1, d2, d3⟩ τ (QF_tr (QF_th σ) a) b
        refine am_m0 (own := RX12) (A := look a_X12_game) (fun X e1 e2 hB => o_X12_game e1 e2 hB) rfl (by decide +kernel) rfl rfl 190 (w := 7) ?_
        change vcs _ _ _ _ 190 0 [(28, 5000), (0, o), (0, r), (0, p), (0, x), (0, y), (0, w)] [] σ
        simp only [↓reduceIte, inR_0, inR_1, inR_m, vSw2_e, swP_n, swP_c, vI_e, vL_e, vNull_e, vIload_e, vLload_e, vAload_e, vIstore_e, vLstore_e, vAstore_e, vIinc_e, vIadd_e, vIsub_e, vImul_e, vIand_e, vIor_e, vIxor_e, vIshl_e, vIshr_e, vIushr_e, vIdiv_e, vIrem_e, vLadd_e, vLsub_e, vLmul_e, vLand_e, vLor_e, vLxor_e, vLdiv_e, vLrem_e, vLushr_e, vLshl_e, vLcmp_e, vIneg_e, vI2l_e, vL2i_e, vI2b_e, vI2c_e, vDup_e, vPop_e, vDup2_e, vGoto_e, vIcEq_e, vIfEq_e, vIcNe_e, vIfNe_e, vIcLt_e, vIfLt_e, vIcGe_e, vIfGe_e, vIcGt_e, vIfGt_e, vIcLe_e, vIfLe_e, vNonnull_e, vSw_e, vGetI_e, vGetL_e, vGetR_e, vPutI_e, vPutZ_e, vPutL_e, vPutR_e, vIald_e, vIald_s, vLald_e, vBald_e, vBald_s, vAald_e, vIast_e, vLast_e, vBast_e, vAast_e, vAlen_e8, vAlen_e9, vAlen_e10, vAlen_e11, vAlen_e5, vAlen_e3, vGets_e, vCompact_e, vLdcS_e, vIret_e, vZret_e, vCret_e, vBret_e, vLret_e, vVret_e, vAret_e, vCallM_e0, vCallMV_e0, vCallS_e0, vCallSV_e0, vCallM_e1, vCallMV_e1, vCallS_e1, vCallSV_e1, vCallM_e2, vCallMV_e2, vCallS_e2, vCallSV_e2, vCallM_e3, vCallMV_e3, vCallS_e3, vCallSV_e3, vCallM_e4, vCallMV_e4, vCallS_e4, vCallSV_e4, vCallM_e5, vCallMV_e5, vCallS_e5, vCallSV_e5, vCallM_e6, vCallMV_e6, vCallS_e6, vCallSV_e6, vCallM_e7, vCallMV_e7, vCallS_e7, vCallSV_e7, vBad_e, vStrVal_e, vStrCod_e, vForm_e, vCallT_e0, vCallT_e1, vCallT_e2, vCopy_e, rf_0_0, rf_0_1, rf_0_2, rf_0_3, rf_0_4, rf_0_7, rf_0_10, rf_0_11, rf_0_12, rf_0_13, rf_0_14, rf_0_15, rf_0_16, rf_1_0, rf_3_0, rf_3_1, rf_6_0, rf_6_1, rf_9_0, rf_9_1, rf_9_3, rf_13_0, rf_13_1, rf_13_2, rf_16_0, rf_16_1, rf_16_2, rf_16_3, rf_21_0, rf_21_1, rf_21_2, rf_21_3, rf_26_0, rf_26_1, rf_26_2, rf_26_3, rf_26_4, rf_26_5, rf_26_6, rf_31_0, rf_31_2, rf_31_5, rf_31_6, rf_36_0, rf_36_1, rf_36_2, rf_36_3, rf_39_0, rf_39_1, rf_39_2, rf_41_0, rf_41_1, rf_41_2, rf_41_3, rf_5000_1, rf_5000_2, rf_5000_3, rf_5000_4, rf_5000_5, rf_5000_15, rf_5000_16, rf_5000_18, rf_5000_19, rf_5000_20, rf_5000_21, rf_5000_22, rf_5000_23, rf_5000_24, rf_5000_25, rf_5000_26, rf_5000_27, rf_5000_36, rf_5000_37, rf_5000_40, rf_5000_41, rf_5000_42, rf_5000_43, rf_5000_44, rf_5000_45, rf_5000_47, rf_5000_52, rf_5000_54, rf_5000_55, rf_100_0, rf_100_1, rf_103_0, rf_103_1, rf_106_0, rf_106_1, rf_109_0, rf_109_1, al_2, al_4, al_5, al_7, al_8, al_10, al_11, al_12, al_14, al_15, al_17, al_18, al_19, al_20, al_22, al_23, al_24, al_25, al_27, al_28, al_29, al_30, al_32, al_33, al_34, al_35, al_37, al_38, al_40, al_42, al_5001, al_5002, al_5003, al_5004, al_5005, al_5006, al_5007, al_5008, al_5009, al_5010, al_5011, al_5012, al_5013, al_5014, al_5015, al_5016, al_5017, al_5018, al_5019, al_5020, al_5021, al_5022, al_5023, al_5024, al_5025, al_5026, al_9000, al_101, al_102, al_104, al_105, al_107, al_108, al_110, al_111, vcs_e, lg_c0, lg_cs, lg_nil, set_c0, set_cs, okst_0, okst_s, acok_n, acok_c, List.contains_nil, List.contains_cons, Bool.or_false, Bool.false_or, Bool.false_eq_true, if_false, if_true, ite_self, ne_eq, true_and, and_true, not_false_eq_true, not_true_eq_false, false_imp_iff, true_imp_iff, Nat.ble_eq, Bool.and_eq_true, reduceCtorEq, or_false, false_or, or_true, true_or, false_and, and_false, and_self, Int.reduceLE, Int.reduceAdd, Int.reduceSub, Int.reduceMul, Int.reduceNeg, Int.reduceLT, Int.reduceEq, Int.reduceNe, Nat.reduceBEq, Nat.reduceBNe, Nat.reduceEqDiff, amCmp_in, amCmp_lt, amCmp_le, amCmp_gt, amCmp_ge, amCmp_eq, amCmp_ne, Nat.reduceLeDiff, Nat.reduceSub, Bool.and_true, Bool.true_and, Bool.and_self, Bool.or_true, Bool.true_or, isRf_3, isRf_4, isRf_5, isRf_8, isRf_9, isRf_10, isRf_11, isRf_15, isRf_16, isRf_17, isRf_18, isRf_19, isRf_20, isRf_21, isRf_22, isRf_23, isRf_24, isRf_25, isRf_26, isRf_27, isRf_28, k_X12_game_0, k_X12_game_1, k_X12_game_2, k_X12_game_5, k_X12_game_6, k_X12_game_7, k_X12_game_8, k_X12_game_9, k_X12_game_12, k_X12_game_15, k_X12_game_16, k_X12_game_18, k_X12_game_21, k_X12_game_24, k_X12_game_25, k_X12_game_27, k_X12_game_30, k_X12_game_33, k_X12_game_35, k_X12_game_36, k_X12_game_37, k_X12_game_38, k_X12_game_41, k_X12_game_44, k_X12_game_45, k_X12_game_46, k_X12_game_47, k_X12_game_48, k_X12_game_50, k_X12_game_52, k_X12_game_54, k_X12_game_57, k_X12_game_60, k_X12_game_63, w_X12_gameOf_e, w_X12_isGame_e, w_X12_isIn_e, w_X12_isSitter_e, up_s, up_nj, up_na, up_up, savR_o, cpy_o, fillm_o, setAud_o, setv_o, setv_s, Int.reduceNe, Int.reduceEq, Int.reduceLT, Int.reduceAdd, not_false_eq_true, ne_eq, or_true, true_or, e28, e29, e30, eg, if_pos d1, if_pos d2, if_pos d3]
        repeat' (first | assumption | exact hxt | apply And.intro | intro _)
        all_goals first | omega | exact absurd trivial (by assumption) | exact q8 (by assumption) | exact q9 (by assumption) _ (by assumption) (by assumption) | exact hd (by assumption)
      · have q8 := h1 (fun z => d3 z.2.2.2)
        refine am_m0 (own := RX12) (A := look a_X12_game) (fun X e1 e2 hB => o_X12_game e1 e2 hB) rfl (by decide +kernel) rfl rfl 190 (w := 7) ?_
        change vcs _ _ _ _ 190 0 [(28, 5000), (0, o), (0, r), (0, p), (0, x), (0, y), (0, w)] [] σ
        simp only [↓reduceIte, inR_0, inR_1, inR_m, vSw2_e, swP_n, swP_c, vI_e, vL_e, vNull_e, vIload_e, vLload_e, vAload_e, vIstore_e, vLstore_e, vAstore_e, vIinc_e, vIadd_e, vIsub_e, vImul_e, vIand_e, vIor_e, vIxor_e, vIshl_e, vIshr_e, vIushr_e, vIdiv_e, vIrem_e, vLadd_e, vLsub_e, vLmul_e, vLand_e, vLor_e, vLxor_e, vLdiv_e, vLrem_e, vLushr_e, vLshl_e, vLcmp_e, vIneg_e, vI2l_e, vL2i_e, vI2b_e, vI2c_e, vDup_e, vPop_e, vDup2_e, vGoto_e, vIcEq_e, vIfEq_e, vIcNe_e, vIfNe_e, vIcLt_e, vIfLt_e, vIcGe_e, vIfGe_e, vIcGt_e, vIfGt_e, vIcLe_e, vIfLe_e, vNonnull_e, vSw_e, vGetI_e, vGetL_e, vGetR_e, vPutI_e, vPutZ_e, vPutL_e, vPutR_e, vIald_e, vIald_s, vLald_e, vBald_e, vBald_s, vAald_e, vIast_e, vLast_e, vBast_e, vAast_e, vAlen_e8, vAlen_e9, vAlen_e10, vAlen_e11, vAlen_e5, vAlen_e3, vGets_e, vCompact_e, vLdcS_e, vIret_e, vZret_e, vCret_e, vBret_e, vLret_e, vVret_e, vAret_e, vCallM_e0, vCallMV_e0, vCallS_e0, vCallSV_e0, vCallM_e1, vCallMV_e1, vCallS_e1, vCallSV_e1, vCallM_e2, vCallMV_e2, vCallS_e2, vCallSV_e2, vCallM_e3, vCallMV_e3, vCallS_e3, vCallSV_e3, vCallM_e4, vCallMV_e4, vCallS_e4, vCallSV_e4, vCallM_e5, vCallMV_e5, vCallS_e5, vCallSV_e5, vCallM_e6, vCallMV_e6, vCallS_e6, vCallSV_e6, vCallM_e7, vCallMV_e7, vCallS_e7, vCallSV_e7, vBad_e, vStrVal_e, vStrCod_e, vForm_e, vCallT_e0, vCallT_e1, vCallT_e2, vCopy_e, rf_0_0, rf_0_1, rf_0_2, rf_0_3, rf_0_4, rf_0_7, rf_0_10, rf_0_11, rf_0_12, rf_0_13, rf_0_14, rf_0_15, rf_0_16, rf_1_0, rf_3_0, rf_3_1, rf_6_0, rf_6_1, rf_9_0, rf_9_1, rf_9_3, rf_13_0, rf_13_1, rf_13_2, rf_16_0, rf_16_1, rf_16_2, rf_16_3, rf_21_0, rf_21_1, rf_21_2, rf_21_3, rf_26_0, rf_26_1, rf_26_2, rf_26_3, rf_26_4, rf_26_5, rf_26_6, rf_31_0, rf_31_2, rf_31_5, rf_31_6, rf_36_0, rf_36_1, rf_36_2, rf_36_3, rf_39_0, rf_39_1, rf_39_2, rf_41_0, rf_41_1, rf_41_2, rf_41_3, rf_5000_1, rf_5000_2, rf_5000_3, rf_5000_4, rf_5000_5, rf_5000_15, rf_5000_16, rf_5000_18, rf_5000_19, rf_5000_20, rf_5000_21, rf_5000_22, rf_5000_23, rf_5000_24, rf_5000_25, rf_5000_26, rf_5000_27, rf_5000_36, rf_5000_37, rf_5000_40, rf_5000_41, rf_5000_42, rf_5000_43, rf_5000_44, rf_5000_45, rf_5000_47, rf_5000_52, rf_5000_54, rf_5000_55, rf_100_0, rf_100_1, rf_103_0, rf_103_1, rf_106_0, rf_106_1, rf_109_0, rf_109_1, al_2, al_4, al_5, al_7, al_8, al_10, al_11, al_12, al_14, al_15, al_17, al_18, al_19, al_20, al_22, al_23, al_24, al_25, al_27, al_28, al_29, al_30, al_32, al_33, al_34, al_35, al_37, al_38, al_40, al_42, al_5001, al_5002, al_5003, al_5004, al_5005, al_5006, al_5007, al_5008, al_5009, al_5010, al_5011, al_5012, al_5013, al_5014, al_5015, al_5016, al_5017, al_5018, al_5019, al_5020, al_5021, al_5022, al_5023, al_5024, al_5025, al_5026, al_9000, al_101, al_102, al_104, al_105, al_107, al_108, al_110, al_111, vcs_e, lg_c0, lg_cs, lg_nil, set_c0, set_cs, okst_0, okst_s, acok_n, acok_c, List.contains_nil, List.contains_cons, Bool.or_false, Bool.false_or, Bool.false_eq_true, if_false, if_true, ite_self, ne_eq, true_and, and_true, not_false_eq_true, not_true_eq_false, false_imp_iff, true_imp_iff, Nat.ble_eq, Bool.and_eq_true, reduceCtorEq, or_false, false_or, or_true, true_or, false_and, and_false, and_self, Int.reduceLE, Int.reduceAdd, Int.reduceSub, Int.reduceMul, Int.reduceNeg, Int.reduceLT, Int.reduceEq, Int.reduceNe, Nat.reduceBEq, Nat.reduceBNe, Nat.reduceEqDiff, amCmp_in, amCmp_lt, amCmp_le, amCmp_gt, amCmp_ge, amCmp_eq, amCmp_ne, Nat.reduceLeDiff, Nat.reduceSub, Bool.and_true, Bool.true_and, Bool.and_self, Bool.or_true, Bool.true_or, isRf_3, isRf_4, isRf_5, isRf_8, isRf_9, isRf_10, isRf_11, isRf_15, isRf_16, isRf_17, isRf_18, isRf_19, isRf_20, isRf_21, isRf_22, isRf_23, isRf_24, isRf_25, isRf_26, isRf_27, isRf_28, k_X12_game_0, k_X12_game_1, k_X12_game_2, k_X12_game_5, k_X12_game_6, k_X12_game_7, k_X12_game_8, k_X12_game_9, k_X12_game_12, k_X12_game_15, k_X12_game_16, k_X12_game_18, k_X12_game_21, k_X12_game_24, k_X12_game_25, k_X12_game_27, k_X12_game_30, k_X12_game_33, k_X12_game_35, k_X12_game_36, k_X12_game_37, k_X12_game_38, k_X12_game_41, k_X12_game_44, k_X12_game_45, k_X12_game_46, k_X12_game_47, k_X12_game_48, k_X12_game_50, k_X12_game_52, k_X12_game_54, k_X12_game_57, k_X12_game_60, k_X12_game_63, w_X12_gameOf_e, w_X12_isGame_e, w_X12_isIn_e, w_X12_isSitter_e, up_s, up_nj, up_na, up_up, savR_o, cpy_o, fillm_o, setAud_o, setv_o, setv_s, Int.reduceNe, Int.reduceEq, Int.reduceLT, Int.reduceAdd, not_false_eq_true, ne_eq, or_true, true_or, e28, e29, e30, eg, if_pos d1, if_pos d2, if_neg d3]
        repeat' (first | assumption | exact hxt | apply And.intro | intro _)
        all_goals first | omega | exact absurd trivial (by assumption) | exact q8
    · have q8 := h1 (fun z => d2 z.2.2.1)
      refine am_m0 (own := RX12) (A := look a_X12_game) (fun X e1 e2 hB => o_X12_game e1 e2 hB) rfl (by decide +kernel) rfl rfl 190 (w := 7) ?_
      change vcs _ _ _ _ 190 0 [(28, 5000), (0, o), (0, r), (0, p), (0, x), (0, y), (0, w)] [] σ
      simp only [↓reduceIte, inR_0, inR_1, inR_m, vSw2_e, swP_n, swP_c, vI_e, vL_e, vNull_e, vIload_e, vLload_e, vAload_e, vIstore_e, vLstore_e, vAstore_e, vIinc_e, vIadd_e, vIsub_e, vImul_e, vIand_e, vIor_e, vIxor_e, vIshl_e, vIshr_e, vIushr_e, vIdiv_e, vIrem_e, vLadd_e, vLsub_e, vLmul_e, vLand_e, vLor_e, vLxor_e, vLdiv_e, vLrem_e, vLushr_e, vLshl_e, vLcmp_e, vIneg_e, vI2l_e, vL2i_e, vI2b_e, vI2c_e, vDup_e, vPop_e, vDup2_e, vGoto_e, vIcEq_e, vIfEq_e, vIcNe_e, vIfNe_e, vIcLt_e, vIfLt_e, vIcGe_e, vIfGe_e, vIcGt_e, vIfGt_e, vIcLe_e, vIfLe_e, vNonnull_e, vSw_e, vGetI_e, vGetL_e, vGetR_e, vPutI_e, vPutZ_e, vPutL_e, vPutR_e, vIald_e, vIald_s, vLald_e, vBald_e, vBald_s, vAald_e, vIast_e, vLast_e, vBast_e, vAast_e, vAlen_e8, vAlen_e9, vAlen_e10, vAlen_e11, vAlen_e5, vAlen_e3, vGets_e, vCompact_e, vLdcS_e, vIret_e, vZret_e, vCret_e, vBret_e, vLret_e, vVret_e, vAret_e, vCallM_e0, vCallMV_e0, vCallS_e0, vCallSV_e0, vCallM_e1, vCallMV_e1, vCallS_e1, vCallSV_e1, vCallM_e2, vCallMV_e2, vCallS_e2, vCallSV_e2, vCallM_e3, vCallMV_e3, vCallS_e3, vCallSV_e3, vCallM_e4, vCallMV_e4, vCallS_e4, vCallSV_e4, vCallM_e5, vCallMV_e5, vCallS_e5, vCallSV_e5, vCallM_e6, vCallMV_e6, vCallS_e6, vCallSV_e6, vCallM_e7, vCallMV_e7, vCallS_e7, vCallSV_e7, vBad_e, vStrVal_e, vStrCod_e, vForm_e, vCallT_e0, vCallT_e1, vCallT_e2, vCopy_e, rf_0_0, rf_0_1, rf_0_2, rf_0_3, rf_0_4, rf_0_7, rf_0_10, rf_0_11, rf_0_12, rf_0_13, rf_0_14, rf_0_15, rf_0_16, rf_1_0, rf_3_0, rf_3_1, rf_6_0, rf_6_1, rf_9_0, rf_9_1, rf_9_3, rf_13_0, rf_13_1, rf_13_2, rf_16_0, rf_16_1, rf_16_2, rf_16_3, rf_21_0, rf_21_1, rf_21_2, rf_21_3, rf_26_0, rf_26_1, rf_26_2, rf_26_3, rf_26_4, rf_26_5, rf_26_6, rf_31_0, rf_31_2, rf_31_5, rf_31_6, rf_36_0, rf_36_1, rf_36_2, rf_36_3, rf_39_0, rf_39_1, rf_39_2, rf_41_0, rf_41_1, rf_41_2, rf_41_3, rf_5000_1, rf_5000_2, rf_5000_3, rf_5000_4, rf_5000_5, rf_5000_15, rf_5000_16, rf_5000_18, rf_5000_19, rf_5000_20, rf_5000_21, rf_5000_22, rf_5000_23, rf_5000_24, rf_5000_25, rf_5000_26, rf_5000_27, rf_5000_36, rf_5000_37, rf_5000_40, rf_5000_41, rf_5000_42, rf_5000_43, rf_5000_44, rf_5000_45, rf_5000_47, rf_5000_52, rf_5000_54, rf_5000_55, rf_100_0, rf_100_1, rf_103_0, rf_103_1, rf_106_0, rf_106_1, rf_109_0, rf_109_1, al_2, al_4, al_5, al_7, al_8, al_10, al_11, al_12, al_14, al_15, al_17, al_18, al_19, al_20, al_22, al_23, al_24, al_25, al_27, al_28, al_29, al_30, al_32, al_33, al_34, al_35, al_37, al_38, al_40, al_42, al_5001, al_5002, al_5003, al_5004, al_5005, al_5006, al_5007, al_5008, al_5009, al_5010, al_5011, al_5012, al_5013, al_5014, al_5015, al_5016, al_5017, al_5018, al_5019, al_5020, al_5021, al_5022, al_5023, al_5024, al_5025, al_5026, al_9000, al_101, al_102, al_104, al_105, al_107, al_108, al_110, al_111, vcs_e, lg_c0, lg_cs, lg_nil, set_c0, set_cs, okst_0, okst_s, acok_n, acok_c, List.contains_nil, List.contains_cons, Bool.or_false, Bool.false_or, Bool.false_eq_true, if_false, if_true, ite_self, ne_eq, true_and, and_true, not_false_eq_true, not_true_eq_false, false_imp_iff, true_imp_iff, Nat.ble_eq, Bool.and_eq_true, reduceCtorEq, or_false, false_or, or_true, true_or, false_and, and_false, and_self, Int.reduceLE, Int.reduceAdd, Int.reduceSub, Int.reduceMul, Int.reduceNeg, Int.reduceLT, Int.reduceEq, Int.reduceNe, Nat.reduceBEq, Nat.reduceBNe, Nat.reduceEqDiff, amCmp_in, amCmp_lt, amCmp_le, amCmp_gt, amCmp_ge, amCmp_eq, amCmp_ne, Nat.reduceLeDiff, Nat.reduceSub, Bool.and_true, Bool.true_and, Bool.and_self, Bool.or_true, Bool.true_or, isRf_3, isRf_4, isRf_5, isRf_8, isRf_9, isRf_10, isRf_11, isRf_15, isRf_16, isRf_17, isRf_18, isRf_19, isRf_20, isRf_21, isRf_22, isRf_23, isRf_24, isRf_25, isRf_26, isRf_27, isRf_28, k_X12_game_0, k_X12_game_1, k_X12_game_2, k_X12_game_5, k_X12_game_6, k_X12_game_7, k_X12_game_8, k_X12_game_9, k_X12_game_12, k_X12_game_15, k_X12_game_16, k_X12_game_18, k_X12_game_21, k_X12_game_24, k_X12_game_25, k_X12_game_27, k_X12_game_30, k_X12_game_33, k_X12_game_35, k_X12_game_36, k_X12_game_37, k_X12_game_38, k_X12_game_41, k_X12_game_44, k_X12_game_45, k_X12_game_46, k_X12_game_47, k_X12_game_48, k_X12_game_50, k_X12_game_52, k_X12_game_54, k_X12_game_57, k_X12_game_60, k_X12_game_63, w_X12_gameOf_e, w_X12_isGame_e, w_X12_isIn_e, w_X12_isSitter_e, up_s, up_nj, up_na, up_up, savR_o, cpy_o, fillm_o, setAud_o, setv_o, setv_s, Int.reduceNe, Int.reduceEq, Int.reduceLT, Int.reduceAdd, not_false_eq_true, ne_eq, or_true, true_or, e28, e29, e30, eg, if_pos d1, if_neg d2]
      repeat' (first | assumption | exact hxt | apply And.intro | intro _)
      all_goals first | omega | exact absurd trivial (by assumption) | exact q8
  · have q8 := h1 (fun z => d1 z.2.1)
    refine am_m0 (own := RX12) (A := look a_X12_game) (fun X e1 e2 hB => o_X12_game e1 e2 hB) rfl (by decide +kernel) rfl rfl 190 (w := 7) ?_
    change vcs _ _ _ _ 190 0 [(28, 5000), (0, o), (0, r), (0, p), (0, x), (0, y), (0, w)] [] σ
    simp only [↓reduceIte, inR_0, inR_1, inR_m, vSw2_e, swP_n, swP_c, vI_e, vL_e, vNull_e, vIload_e, vLload_e, vAload_e, vIstore_e, vLstore_e, vAstore_e, vIinc_e, vIadd_e, vIsub_e, vImul_e, vIand_e, vIor_e, vIxor_e, vIshl_e, vIshr_e, vIushr_e, vIdiv_e, vIrem_e, vLadd_e, vLsub_e, vLmul_e, vLand_e, vLor_e, vLxor_e, vLdiv_e, vLrem_e, vLushr_e, vLshl_e, vLcmp_e, vIneg_e, vI2l_e, vL2i_e, vI2b_e, vI2c_e, vDup_e, vPop_e, vDup2_e, vGoto_e, vIcEq_e, vIfEq_e, vIcNe_e, vIfNe_e, vIcLt_e, vIfLt_e, vIcGe_e, vIfGe_e, vIcGt_e, vIfGt_e, vIcLe_e, vIfLe_e, vNonnull_e, vSw_e, vGetI_e, vGetL_e, vGetR_e, vPutI_e, vPutZ_e, vPutL_e, vPutR_e, vIald_e, vIald_s, vLald_e, vBald_e, vBald_s, vAald_e, vIast_e, vLast_e, vBast_e, vAast_e, vAlen_e8, vAlen_e9, vAlen_e10, vAlen_e11, vAlen_e5, vAlen_e3, vGets_e, vCompact_e, vLdcS_e, vIret_e, vZret_e, vCret_e, vBret_e, vLret_e, vVret_e, vAret_e, vCallM_e0, vCallMV_e0, vCallS_e0, vCallSV_e0, vCallM_e1, vCallMV_e1, vCallS_e1, vCallSV_e1, vCallM_e2, vCallMV_e2, vCallS_e2, vCallSV_e2, vCallM_e3, vCallMV_e3, vCallS_e3, vCallSV_e3, vCallM_e4, vCallMV_e4, vCallS_e4, vCallSV_e4, vCallM_e5, vCallMV_e5, vCallS_e5, vCallSV_e5, vCallM_e6, vCallMV_e6, vCallS_e6, vCallSV_e6, vCallM_e7, vCallMV_e7, vCallS_e7, vCallSV_e7, vBad_e, vStrVal_e, vStrCod_e, vForm_e, vCallT_e0, vCallT_e1, vCallT_e2, vCopy_e, rf_0_0, rf_0_1, rf_0_2, rf_0_3, rf_0_4, rf_0_7, rf_0_10, rf_0_11, rf_0_12, rf_0_13, rf_0_14, rf_0_15, rf_0_16, rf_1_0, rf_3_0, rf_3_1, rf_6_0, rf_6_1, rf_9_0, rf_9_1, rf_9_3, rf_13_0, rf_13_1, rf_13_2, rf_16_0, rf_16_1, rf_16_2, rf_16_3, rf_21_0, rf_21_1, rf_21_2, rf_21_3, rf_26_0, rf_26_1, rf_26_2, rf_26_3, rf_26_4, rf_26_5, rf_26_6, rf_31_0, rf_31_2, rf_31_5, rf_31_6, rf_36_0, rf_36_1, rf_36_2, rf_36_3, rf_39_0, rf_39_1, rf_39_2, rf_41_0, rf_41_1, rf_41_2, rf_41_3, rf_5000_1, rf_5000_2, rf_5000_3, rf_5000_4, rf_5000_5, rf_5000_15, rf_5000_16, rf_5000_18, rf_5000_19, rf_5000_20, rf_5000_21, rf_5000_22, rf_5000_23, rf_5000_24, rf_5000_25, rf_5000_26, rf_5000_27, rf_5000_36, rf_5000_37, rf_5000_40, rf_5000_41, rf_5000_42, rf_5000_43, rf_5000_44, rf_5000_45, rf_5000_47, rf_5000_52, rf_5000_54, rf_5000_55, rf_100_0, rf_100_1, rf_103_0, rf_103_1, rf_106_0, rf_106_1, rf_109_0, rf_109_1, al_2, al_4, al_5, al_7, al_8, al_10, al_11, al_12, al_14, al_15, al_17, al_18, al_19, al_20, al_22, al_23, al_24, al_25, al_27, al_28, al_29, al_30, al_32, al_33, al_34, al_35, al_37, al_38, al_40, al_42, al_5001, al_5002, al_5003, al_5004, al_5005, al_5006, al_5007, al_5008, al_5009, al_5010, al_5011, al_5012, al_5013, al_5014, al_5015, al_5016, al_5017, al_5018, al_5019, al_5020, al_5021, al_5022, al_5023, al_5024, al_5025, al_5026, al_9000, al_101, al_102, al_104, al_105, al_107, al_108, al_110, al_111, vcs_e, lg_c0, lg_cs, lg_nil, set_c0, set_cs, okst_0, okst_s, acok_n, acok_c, List.contains_nil, List.contains_cons, Bool.or_false, Bool.false_or, Bool.false_eq_true, if_false, if_true, ite_self, ne_eq, true_and, and_true, not_false_eq_true, not_true_eq_false, false_imp_iff, true_imp_iff, Nat.ble_eq, Bool.and_eq_true, reduceCtorEq, or_false, false_or, or_true, true_or, false_and, and_false, and_self, Int.reduceLE, Int.reduceAdd, Int.reduceSub, Int.reduceMul, Int.reduceNeg, Int.reduceLT, Int.reduceEq, Int.reduceNe, Nat.reduceBEq, Nat.reduceBNe, Nat.reduceEqDiff, amCmp_in, amCmp_lt, amCmp_le, amCmp_gt, amCmp_ge, amCmp_eq, amCmp_ne, Nat.reduceLeDiff, Nat.reduceSub, Bool.and_true, Bool.true_and, Bool.and_self, Bool.or_true, Bool.true_or, isRf_3, isRf_4, isRf_5, isRf_8, isRf_9, isRf_10, isRf_11, isRf_15, isRf_16, isRf_17, isRf_18, isRf_19, isRf_20, isRf_21, isRf_22, isRf_23, isRf_24, isRf_25, isRf_26, isRf_27, isRf_28, k_X12_game_0, k_X12_game_1, k_X12_game_2, k_X12_game_5, k_X12_game_6, k_X12_game_7, k_X12_game_8, k_X12_game_9, k_X12_game_12, k_X12_game_15, k_X12_game_16, k_X12_game_18, k_X12_game_21, k_X12_game_24, k_X12_game_25, k_X12_game_27, k_X12_game_30, k_X12_game_33, k_X12_game_35, k_X12_game_36, k_X12_game_37, k_X12_game_38, k_X12_game_41, k_X12_game_44, k_X12_game_45, k_X12_game_46, k_X12_game_47, k_X12_game_48, k_X12_game_50, k_X12_game_52, k_X12_game_54, k_X12_game_57, k_X12_game_60, k_X12_game_63, w_X12_gameOf_e, w_X12_isGame_e, w_X12_isIn_e, w_X12_isSitter_e, up_s, up_nj, up_na, up_up, savR_o, cpy_o, fillm_o, setAud_o, setv_o, setv_s, Int.reduceNe, Int.reduceEq, Int.reduceLT, Int.reduceAdd, not_false_eq_true, ne_eq, or_true, true_or, e28, e29, e30, eg, if_neg d1]
    repeat' (first | assumption | exact hxt | apply And.intro | intro _)
    all_goals first | omega | exact absurd trivial (by assumption) | exact q8
