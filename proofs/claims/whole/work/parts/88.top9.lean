/-! ArmchairHouse: RESTS, BORNE -/
noncomputable def rsI (P : Int → Int → Prop) (i x : Int) (K : Int → Int) : Nat → Int → Int → Int
  | 0, _, c => K c
  | b + 1, y, c => @ite Int (P x y) (Classical.propDecidable _) (if c = i then 10 * x + y else rsI P i x K b (y + 1) (c + 1)) (rsI P i x K b (y + 1) c)
noncomputable def rsO (P : Int → Int → Prop) (i : Int) (S : Nat) : Nat → Int → Int → Int
  | 0, _, c => if i = -1 then c else -1
  | a + 1, x, c => rsI P i x (rsO P i S a (x + 1)) S 0 c
theorem rsI_t {P : Int → Int → Prop} {i x : Int} {K : Int → Int} {b : Nat} {y c : Int} (h : P x y) : rsI P i x K (b + 1) y c = if c = i then 10 * x + y else rsI P i x K b (y + 1) (c + 1) := by rw [rsI]; exact if_pos h
theorem rsI_f {P : Int → Int → Prop} {i x : Int} {K : Int → Int} {b : Nat} {y c : Int} (h : ¬ P x y) : rsI P i x K (b + 1) y c = rsI P i x K b (y + 1) c := by rw [rsI]; exact if_neg h
abbrev rsP (g : Int → Int) (S : Int) : Int → Int → Prop := fun x y => rstP g x y S
noncomputable abbrev rsV (g : Int → Int) (S i : Int) : Int := rsO (rsP g S) i S.toNat S.toNat 0 0
theorem gvF_b {σ : Mem} {o r p c t x y : Int} (hB : planB σ 6) (h9 : pval σ 6 1 p 3 ≤ 9) (c0 : 0 ≤ c) (c1 : c < 6) (hp : -1000 ≤ σ 16 5 ∧ σ 16 5 ≤ 1000) : -2000 ≤ gvF σ o r p c t x y ∧ gvF σ o r p c t x y ≤ 2000 := by
  have c2 := pcnt_b hB 2
  have hb := hbits_64 (sXY (σ 18) o r x y) t (n := (pcnt σ 6 2).toNat) (by omega)
  have hm := pval_b hB 1 p 3
  have := flM_b (L := pval σ 6 0 0 0) hb.1 hb.2 c0 c1 (fun n k hn => gmv_b σ (a := 16) (t := t) (p := p) (i := c) (k := k) hn) (pval σ 6 1 p 3).toNat
  unfold gvF
  split <;> split <;> omega
theorem gnOk_in {σ : Mem} {g : Int → Int} {o r p n : Int} (h : gnOk σ g o r p n) (hB : planB σ 6) (h9 : pval σ 6 1 p 3 ≤ 9) (o0 : 0 ≤ o) (o1 : o < 6) (r0 : 0 ≤ r) (r1 : r < 6) (hp : -1000 ≤ σ 16 5 ∧ σ 16 5 ≤ 1000) : ∀ j, 0 ≤ j → j < 4 * n → InR (g j) := by
  intro j j0 j1
  obtain ⟨q1, q2, q3, q4⟩ := h (j / 4) (by omega) (by omega)
  have hj : j = 4 * (j / 4) ∨ j = 4 * (j / 4) + 1 ∨ j = 4 * (j / 4) + 2 ∨ j = 4 * (j / 4) + 3 := by omega
  have b1 := gvF_b (o := o) (r := r) (p := p) (c := o) (t := j / 4) (x := j / 4) (y := -1) hB h9 o0 o1 hp
  have b2 := gvF_b (o := o) (r := r) (p := p) (c := o) (t := j / 4) (x := j / 4) (y := j / 4) hB h9 o0 o1 hp
  have b3 := gvF_b (o := o) (r := r) (p := p) (c := r) (t := j / 4) (x := -1) (y := j / 4) hB h9 r0 r1 hp
  have b4 := gvF_b (o := o) (r := r) (p := p) (c := r) (t := j / 4) (x := j / 4) (y := j / 4) hB h9 r0 r1 hp
  rcases hj with e | e | e | e <;> rw [e]
  · rw [q1]; exact ⟨by omega, by omega⟩
  · rw [q2]; exact ⟨by omega, by omega⟩
  · rw [q3]; exact ⟨by omega, by omega⟩
  · rw [q4]; exact ⟨by omega, by omega⟩

theorem wd_1121 : Cond.methodLink RX11 345 yX4_isRest ∈ TBL := tb_tab (List.mem_of_getElem? (i := 1121) (by decide +kernel)) rfl
theorem wd_1124 : Cond.code yX4_isRest cX4_isRest 4 (some .boolean) ∈ TBL := tb_tab (List.mem_of_getElem? (i := 1124) (by decide +kernel)) rfl
theorem lk_X11_345 : amLk RX11 345 yX4_isRest cX4_isRest 4 (some .boolean) 2 := ⟨wd_1121, wd_10, wd_1124, by decide +kernel, by decide +kernel, by decide⟩
theorem wd_1122 : Cond.instanceMethod yX4_isRest ∈ TBL := tb_tab (List.mem_of_getElem? (i := 1122) (by decide +kernel)) rfl
theorem wd_1123 : Cond.selects RX4 yX4_isRest yX4_isRest ∈ TBL := tb_tab (List.mem_of_getElem? (i := 1123) (by decide +kernel)) rfl
def a_X11_rests : AC := [(0, vAload 0 1), (1, vIload 1 2), (2, vIload 2 3), (3, vIload 3 4), (4, vCallM w_X11_canMatch 27 3 7), (7, vIfEq 16 10), (10, vIload 4 12), (12, vI (-1) 13), (13, vIcGe 18 16), (16, vI (-1) 17), (17, vIret), (18, vAload 0 19), (19, vGetR TT 27 15 20 22), (22, vAload 0 23), (23, vGetR TT 27 10 16 26), (26, vIload 1 27), (27, vIload 2 28), (28, vIload 3 29), (29, vCallMV w_X4_prepare 20 4 32), (32, vAload 0 33), (33, vGetR TT 27 2 22 36), (36, vI 3 37), (37, vCallM w_X6_many 22 1 40), (40, vIstore 5 42), (42, vI 0 43), (43, vIstore 6 45), (45, vI 0 46), (46, vIstore 7 48), (48, vIload 7 50), (50, vIload 5 52), (52, vIcGe 110 55), (55, vI 0 56), (56, vIstore 8 58), (58, vIload 8 60), (60, vIload 5 62), (62, vIcGe 104 65), (65, vAload 0 66), (66, vGetR TT 27 15 20 69), (69, vIload 7 71), (71, vIload 8 73), (73, vCallM w_X4_isRest 20 2 76), (76, vIfEq 98 79), (79, vIload 6 81), (81, vIload 4 83), (83, vIcNe 95 86), (86, vI 10 88), (88, vIload 7 90), (90, vImul 91), (91, vIload 8 93), (93, vIadd 94), (94, vIret), (95, vIinc 6 1 98), (98, vIinc 8 1 101), (101, vGoto 58), (104, vIinc 7 1 107), (107, vGoto 48), (110, vIload 4 112), (112, vI (-1) 113), (113, vIcNe 121 116), (116, vIload 6 118), (118, vGoto 122), (121, vI (-1) 122), (122, vIret)]
theorem k_X11_rests_0 : look a_X11_rests 0 = vAload 0 1 := rfl
theorem k_X11_rests_1 : look a_X11_rests 1 = vIload 1 2 := rfl
theorem k_X11_rests_2 : look a_X11_rests 2 = vIload 2 3 := rfl
theorem k_X11_rests_3 : look a_X11_rests 3 = vIload 3 4 := rfl
theorem k_X11_rests_4 : look a_X11_rests 4 = vCallM w_X11_canMatch 27 3 7 := rfl
theorem k_X11_rests_7 : look a_X11_rests 7 = vIfEq 16 10 := rfl
theorem k_X11_rests_10 : look a_X11_rests 10 = vIload 4 12 := rfl
theorem k_X11_rests_12 : look a_X11_rests 12 = vI (-1) 13 := rfl
theorem k_X11_rests_13 : look a_X11_rests 13 = vIcGe 18 16 := rfl
theorem k_X11_rests_16 : look a_X11_rests 16 = vI (-1) 17 := rfl
theorem k_X11_rests_17 : look a_X11_rests 17 = vIret := rfl
theorem k_X11_rests_18 : look a_X11_rests 18 = vAload 0 19 := rfl
theorem k_X11_rests_19 : look a_X11_rests 19 = vGetR TT 27 15 20 22 := rfl
theorem k_X11_rests_22 : look a_X11_rests 22 = vAload 0 23 := rfl
theorem k_X11_rests_23 : look a_X11_rests 23 = vGetR TT 27 10 16 26 := rfl
theorem k_X11_rests_26 : look a_X11_rests 26 = vIload 1 27 := rfl
theorem k_X11_rests_27 : look a_X11_rests 27 = vIload 2 28 := rfl
theorem k_X11_rests_28 : look a_X11_rests 28 = vIload 3 29 := rfl
theorem k_X11_rests_29 : look a_X11_rests 29 = vCallMV w_X4_prepare 20 4 32 := rfl
theorem k_X11_rests_32 : look a_X11_rests 32 = vAload 0 33 := rfl
theorem k_X11_rests_33 : look a_X11_rests 33 = vGetR TT 27 2 22 36 := rfl
theorem k_X11_rests_36 : look a_X11_rests 36 = vI 3 37 := rfl
theorem k_X11_rests_37 : look a_X11_rests 37 = vCallM w_X6_many 22 1 40 := rfl
theorem k_X11_rests_40 : look a_X11_rests 40 = vIstore 5 42 := rfl
theorem k_X11_rests_42 : look a_X11_rests 42 = vI 0 43 := rfl
theorem k_X11_rests_43 : look a_X11_rests 43 = vIstore 6 45 := rfl
theorem k_X11_rests_45 : look a_X11_rests 45 = vI 0 46 := rfl
theorem k_X11_rests_46 : look a_X11_rests 46 = vIstore 7 48 := rfl
theorem k_X11_rests_48 : look a_X11_rests 48 = vIload 7 50 := rfl
theorem k_X11_rests_50 : look a_X11_rests 50 = vIload 5 52 := rfl
theorem k_X11_rests_52 : look a_X11_rests 52 = vIcGe 110 55 := rfl
theorem k_X11_rests_55 : look a_X11_rests 55 = vI 0 56 := rfl
theorem k_X11_rests_56 : look a_X11_rests 56 = vIstore 8 58 := rfl
theorem k_X11_rests_58 : look a_X11_rests 58 = vIload 8 60 := rfl
theorem k_X11_rests_60 : look a_X11_rests 60 = vIload 5 62 := rfl
theorem k_X11_rests_62 : look a_X11_rests 62 = vIcGe 104 65 := rfl
theorem k_X11_rests_65 : look a_X11_rests 65 = vAload 0 66 := rfl
theorem k_X11_rests_66 : look a_X11_rests 66 = vGetR TT 27 15 20 69 := rfl
theorem k_X11_rests_69 : look a_X11_rests 69 = vIload 7 71 := rfl
theorem k_X11_rests_71 : look a_X11_rests 71 = vIload 8 73 := rfl
theorem k_X11_rests_73 : look a_X11_rests 73 = vCallM w_X4_isRest 20 2 76 := rfl
theorem k_X11_rests_76 : look a_X11_rests 76 = vIfEq 98 79 := rfl
theorem k_X11_rests_79 : look a_X11_rests 79 = vIload 6 81 := rfl
theorem k_X11_rests_81 : look a_X11_rests 81 = vIload 4 83 := rfl
theorem k_X11_rests_83 : look a_X11_rests 83 = vIcNe 95 86 := rfl
theorem k_X11_rests_86 : look a_X11_rests 86 = vI 10 88 := rfl
theorem k_X11_rests_88 : look a_X11_rests 88 = vIload 7 90 := rfl
theorem k_X11_rests_90 : look a_X11_rests 90 = vImul 91 := rfl
theorem k_X11_rests_91 : look a_X11_rests 91 = vIload 8 93 := rfl
theorem k_X11_rests_93 : look a_X11_rests 93 = vIadd 94 := rfl
theorem k_X11_rests_94 : look a_X11_rests 94 = vIret := rfl
theorem k_X11_rests_95 : look a_X11_rests 95 = vIinc 6 1 98 := rfl
theorem k_X11_rests_98 : look a_X11_rests 98 = vIinc 8 1 101 := rfl
theorem k_X11_rests_101 : look a_X11_rests 101 = vGoto 58 := rfl
theorem k_X11_rests_104 : look a_X11_rests 104 = vIinc 7 1 107 := rfl
theorem k_X11_rests_107 : look a_X11_rests 107 = vGoto 48 := rfl
theorem k_X11_rests_110 : look a_X11_rests 110 = vIload 4 112 := rfl
theorem k_X11_rests_112 : look a_X11_rests 112 = vI (-1) 113 := rfl
theorem k_X11_rests_113 : look a_X11_rests 113 = vIcNe 121 116 := rfl
theorem k_X11_rests_116 : look a_X11_rests 116 = vIload 6 118 := rfl
theorem k_X11_rests_118 : look a_X11_rests 118 = vGoto 122 := rfl
theorem k_X11_rests_121 : look a_X11_rests 121 = vI (-1) 122 := rfl
theorem k_X11_rests_122 : look a_X11_rests 122 = vIret := rfl
theorem o_X11_rests {X : amX} (e1 : XT X = TT) (e2 : XD X = 6) (hB : amB X RX11 cX11_rests (some .int) 9) : ∀ pc, amOK X pc (look a_X11_rests pc) := by
  have hT : amTok (XT X) := e1 ▸ TT_ok
  refine look_ok ?_
  unfold a_X11_rests
  refine fc (ok_aload_n hB dX11_rests_0) ?_
  refine fc (ok_iload_n hB dX11_rests_1) ?_
  refine fc (ok_iload_n hB dX11_rests_2) ?_
  refine fc (ok_iload_n hB dX11_rests_3) ?_
  refine fc (ok_callM hB hT (e1 ▸ s_X11_canMatch) lk_X11_334 (by rw [e2]; decide) (c := 11) rfl rfl rfl wd_1098 sl_X11_canMatch dX11_rests_4) ?_
  refine fc (ok_if_eq hB (t := 16) (by decide) dX11_rests_7) ?_
  refine fc (ok_iload hB dX11_rests_10) ?_
  refine fc (ok_iconst hB dX11_rests_12) ?_
  refine fc (ok_icmp_ge hB (t := 18) (by decide) dX11_rests_13) ?_
  refine fc (ok_iconst hB dX11_rests_16) ?_
  refine fc (ok_iret hB dX11_rests_17) ?_
  refine fc (ok_aload_n hB dX11_rests_18) ?_
  refine fc (okt_getR e1 hB hT fl_X11_100 rfl af_11_15 at_11_15 (by decide) dX11_rests_19) ?_
  refine fc (ok_aload_n hB dX11_rests_22) ?_
  refine fc (okt_getR e1 hB hT fl_X11_65 rfl af_11_10 at_11_10 (by decide) dX11_rests_23) ?_
  refine fc (ok_iload_n hB dX11_rests_26) ?_
  refine fc (ok_iload_n hB dX11_rests_27) ?_
  refine fc (ok_iload_n hB dX11_rests_28) ?_
  refine fc (ok_callMV hB hT (e1 ▸ s_X4_prepare) lk_X11_338 (by rw [e2]; decide) (c := 4) rfl rfl rfl wd_1101 wd_1102 dX11_rests_29) ?_
  refine fc (ok_aload_n hB dX11_rests_32) ?_
  refine fc (okt_getR e1 hB hT fl_X11_23 rfl af_11_2 at_11_2 (by decide) dX11_rests_33) ?_
  refine fc (ok_iconst hB dX11_rests_36) ?_
  refine fc (ok_callM hB hT (e1 ▸ s_X6_many) lk_X11_154 (by rw [e2]; decide) (c := 6) rfl rfl rfl wd_557 wd_558 dX11_rests_37) ?_
  refine fc (ok_istore hB (by decide) dX11_rests_40) ?_
  refine fc (ok_iconst hB dX11_rests_42) ?_
  refine fc (ok_istore hB (by decide) dX11_rests_43) ?_
  refine fc (ok_iconst hB dX11_rests_45) ?_
  refine fc (ok_istore hB (by decide) dX11_rests_46) ?_
  refine fc (ok_iload hB dX11_rests_48) ?_
  refine fc (ok_iload hB dX11_rests_50) ?_
  refine fc (ok_icmp_ge hB (t := 110) (by decide) dX11_rests_52) ?_
  refine fc (ok_iconst hB dX11_rests_55) ?_
  refine fc (ok_istore hB (by decide) dX11_rests_56) ?_
  refine fc (ok_iload hB dX11_rests_58) ?_
  refine fc (ok_iload hB dX11_rests_60) ?_
  refine fc (ok_icmp_ge hB (t := 104) (by decide) dX11_rests_62) ?_
  refine fc (ok_aload_n hB dX11_rests_65) ?_
  refine fc (okt_getR e1 hB hT fl_X11_100 rfl af_11_15 at_11_15 (by decide) dX11_rests_66) ?_
  refine fc (ok_iload hB dX11_rests_69) ?_
  refine fc (ok_iload hB dX11_rests_71) ?_
  refine fc (ok_callM hB hT (e1 ▸ s_X4_isRest) lk_X11_345 (by rw [e2]; decide) (c := 4) rfl rfl rfl wd_1122 wd_1123 dX11_rests_73) ?_
  refine fc (ok_if_eq hB (t := 98) (by decide) dX11_rests_76) ?_
  refine fc (ok_iload hB dX11_rests_79) ?_
  refine fc (ok_iload hB dX11_rests_81) ?_
  refine fc (ok_icmp_ne hB (t := 95) (by decide) dX11_rests_83) ?_
  refine fc (ok_bipush hB dX11_rests_86 (by decide)) ?_
  refine fc (ok_iload hB dX11_rests_88) ?_
  refine fc (ok_imul hB dX11_rests_90) ?_
  refine fc (ok_iload hB dX11_rests_91) ?_
  refine fc (ok_iadd hB dX11_rests_93) ?_
  refine fc (ok_iret hB dX11_rests_94) ?_
  refine fc (ok_iinc hB (by decide) dX11_rests_95) ?_
  refine fc (ok_iinc hB (by decide) dX11_rests_98) ?_
  refine fc (ok_goto hB (t := 58) (by decide) dX11_rests_101) ?_
  refine fc (ok_iinc hB (by decide) dX11_rests_104) ?_
  refine fc (ok_goto hB (t := 48) (by decide) dX11_rests_107) ?_
  refine fc (ok_iload hB dX11_rests_110) ?_
  refine fc (ok_iconst hB dX11_rests_112) ?_
  refine fc (ok_icmp_ne hB (t := 121) (by decide) dX11_rests_113) ?_
  refine fc (ok_iload hB dX11_rests_116) ?_
  refine fc (ok_goto hB (t := 122) (by decide) dX11_rests_118) ?_
  refine fc (ok_iconst hB dX11_rests_121) ?_
  refine fc (ok_iret hB dX11_rests_122) ?_
  exact fn
def inv_rts (σ : Mem) (o r p i S : Int) (n pc : Nat) (ls st : List AV) (σ' : Mem) : Prop := st = [] ∧ SW σ σ' ∧ gnOk σ (σ' 40) o r p S ∧ ((0 ≤ o ∧ o < pcnt σ 6 2) ∧ (0 ≤ r ∧ r < pcnt σ 6 2) ∧ o ≠ r ∧ 0 ≤ p ∧ p < pcnt σ 6 1) ∧ -1 ≤ i ∧ ∃ (c x : Int) (v8 : AV), 0 ≤ c ∧ c ≤ 6 * x + 6 ∧ 0 ≤ x ∧
  ((pc = 48 ∧ c ≤ 6 * x ∧ x ≤ S ∧ (n : Int) = (S - x) * 100 ∧ ls = [(27, 0), (0, o), (0, r), (0, p), (0, i), (0, S), (0, c), (0, x), v8] ∧ rsO (rsP (σ' 40) S) i S.toNat (S - x).toNat x c = rsV (σ' 40) S i) ∨
   (pc = 58 ∧ x < S ∧ ∃ y : Int, 0 ≤ y ∧ y ≤ S ∧ c ≤ 6 * x + y ∧ (n : Int) = (S - x) * 100 - 1 - y ∧ ls = [(27, 0), (0, o), (0, r), (0, p), (0, i), (0, S), (0, c), (0, x), (0, y)] ∧ rsI (rsP (σ' 40) S) i x (rsO (rsP (σ' 40) S) i S.toNat (S - x - 1).toNat (x + 1)) (S - y).toNat y c = rsV (σ' 40) S i))
def w_X11_rests : WP := fun av σ Q => ∃ (o : Int) (r : Int) (p : Int) (i : Int), av = [(27, 0), (0, o), (0, r), (0, p), (0, i)] ∧ (InR o ∧ InR r ∧ InR p ∧ InR i ∧ xS σ ∧ (-1000 ≤ σ 16 5 ∧ σ 16 5 ≤ 1000) ∧ (¬ (((0 ≤ o ∧ o < pcnt σ 6 2) ∧ (0 ≤ r ∧ r < pcnt σ 6 2) ∧ o ≠ r ∧ 0 ≤ p ∧ p < pcnt σ 6 1) ∧ -1 ≤ i) → Q (0, -1) σ) ∧
(((0 ≤ o ∧ o < pcnt σ 6 2) ∧ (0 ≤ r ∧ r < pcnt σ 6 2) ∧ o ≠ r ∧ 0 ≤ p ∧ p < pcnt σ 6 1) ∧ -1 ≤ i → ∀ τ, SW σ τ → gnOk σ (τ 40) o r p (pcnt σ 6 3) → Q (0, rsV (τ 40) (pcnt σ 6 3) i) τ))
theorem w_X11_rests_e (o : Int) (r : Int) (p : Int) (i : Int) (σ : Mem) (Q : AV → Mem → Prop) : w_X11_rests [(27, 0), (0, o), (0, r), (0, p), (0, i)] σ Q = (InR o ∧ InR r ∧ InR p ∧ InR i ∧ xS σ ∧ (-1000 ≤ σ 16 5 ∧ σ 16 5 ≤ 1000) ∧ (¬ (((0 ≤ o ∧ o < pcnt σ 6 2) ∧ (0 ≤ r ∧ r < pcnt σ 6 2) ∧ o ≠ r ∧ 0 ≤ p ∧ p < pcnt σ 6 1) ∧ -1 ≤ i) → Q (0, -1) σ) ∧
(((0 ≤ o ∧ o < pcnt σ 6 2) ∧ (0 ≤ r ∧ r < pcnt σ 6 2) ∧ o ≠ r ∧ 0 ≤ p ∧ p < pcnt σ 6 1) ∧ -1 ≤ i → ∀ τ, SW σ τ → gnOk σ (τ 40) o r p (pcnt σ 6 3) → Q (0, rsV (τ 40) (pcnt σ 6 3) i) τ)) := by
  apply propext; constructor
  · rintro ⟨o', r', p', i', h9, hb9⟩; cases h9; exact hb9
  · intro hb9; exact ⟨o, r, p, i, rfl, hb9⟩

set_option maxRecDepth 100000 in
set_option maxHeartbeats 4000000 in
theorem s_X11_rests : ∀ av σ Q, w_X11_rests av σ Q → amCall 6 0 0 TT yX11_rests cX11_rests 9 (some .int) av σ Q := by
  rintro av σ Q ⟨o, r, p, i, rfl, ho, hr, hp, hi, ⟨hst, hse, h9, hsi⟩, hpr, h1, h2⟩
  have hB := hst.2.1
  have c1 := pcnt_b hB 1
  have c2 := pcnt_b hB 2
  have c3 := pcnt_b hB 3
  have h9p := h9 p
  generalize hS : pcnt σ 6 3 = S at *
  refine am_m [48, 58] (inv_rts σ o r p i S) (own := RX11) (A := look a_X11_rests) (fun X e1 e2 hB => o_X11_rests e1 e2 hB) rfl (by decide +kernel) rfl rfl ?_ ⟨90, ?_⟩ (w := 9)
  · rintro n pc ls st σ' ⟨rfl, hW, hg, cc, hi1, c, x, v8, hc0, hc1, hx0, ⟨rfl, hcx, hxS, hn, rfl, hr9⟩ | ⟨rfl, hxS, y, hy0, hyS, hcy, hn, rfl, hr9⟩⟩
    · have hq := h2 ⟨cc, hi1⟩ σ' hW hg
      rw [← hr9] at hq
      refine ⟨60, ?_⟩
      simp only [↓reduceIte, inR_0, inR_1, inR_m, vSw2_e, swP_n, swP_c, vI_e, vL_e, vNull_e, vIload_e, vLload_e, vAload_e, vIstore_e, vLstore_e, vAstore_e, vIinc_e, vIadd_e, vIsub_e, vImul_e, vIand_e, vIor_e, vIxor_e, vIshl_e, vIshr_e, vIushr_e, vIdiv_e, vIrem_e, vLadd_e, vLsub_e, vLmul_e, vLand_e, vLor_e, vLxor_e, vLdiv_e, vLrem_e, vLushr_e, vLshl_e, vLcmp_e, vIneg_e, vI2l_e, vL2i_e, vI2b_e, vI2c_e, vDup_e, vPop_e, vDup2_e, vGoto_e, vIcEq_e, vIfEq_e, vIcNe_e, vIfNe_e, vIcLt_e, vIfLt_e, vIcGe_e, vIfGe_e, vIcGt_e, vIfGt_e, vIcLe_e, vIfLe_e, vNonnull_e, vSw_e, vGetI_e, vGetL_e, vGetR_e, vPutI_e, vPutZ_e, vPutL_e, vPutR_e, vIald_e, vIald_s, vLald_e, vBald_e, vBald_s, vAald_e, vIast_e, vLast_e, vBast_e, vAast_e, vAlen_e8, vAlen_e9, vAlen_e10, vAlen_e11, vAlen_e5, vAlen_e3, vGets_e, vCompact_e, vLdcS_e, vIret_e, vZret_e, vCret_e, vBret_e, vLret_e, vVret_e, vAret_e, vCallM_e0, vCallMV_e0, vCallS_e0, vCallSV_e0, vCallM_e1, vCallMV_e1, vCallS_e1, vCallSV_e1, vCallM_e2, vCallMV_e2, vCallS_e2, vCallSV_e2, vCallM_e3, vCallMV_e3, vCallS_e3, vCallSV_e3, vCallM_e4, vCallMV_e4, vCallS_e4, vCallSV_e4, vCallM_e5, vCallMV_e5, vCallS_e5, vCallSV_e5, vCallM_e6, vCallMV_e6, vCallS_e6, vCallSV_e6, vCallM_e7, vCallMV_e7, vCallS_e7, vCallSV_e7, vBad_e, vStrVal_e, vStrCod_e, vForm_e, vCallT_e0, vCallT_e1, vCallT_e2, vCopy_e, rf_0_0, rf_0_1, rf_0_2, rf_0_3, rf_0_4, rf_0_7, rf_0_10, rf_0_11, rf_0_12, rf_0_13, rf_0_14, rf_0_15, rf_0_16, rf_1_0, rf_3_0, rf_3_1, rf_6_0, rf_6_1, rf_9_0, rf_9_1, rf_9_3, rf_13_0, rf_13_1, rf_13_2, rf_16_0, rf_16_1, rf_16_2, rf_16_3, rf_21_0, rf_21_1, rf_21_2, rf_21_3, rf_26_0, rf_26_1, rf_26_2, rf_26_3, rf_26_4, rf_26_5, rf_26_6, rf_31_0, rf_31_2, rf_31_5, rf_31_6, rf_36_0, rf_36_1, rf_36_2, rf_36_3, rf_39_0, rf_39_1, rf_39_2, rf_41_0, rf_41_1, rf_41_2, rf_41_3, rf_5000_1, rf_5000_2, rf_5000_3, rf_5000_4, rf_5000_5, rf_5000_15, rf_5000_16, rf_5000_18, rf_5000_19, rf_5000_20, rf_5000_21, rf_5000_22, rf_5000_23, rf_5000_24, rf_5000_25, rf_5000_26, rf_5000_27, rf_5000_36, rf_5000_37, rf_5000_40, rf_5000_41, rf_5000_42, rf_5000_43, rf_5000_44, rf_5000_45, rf_5000_47, rf_5000_52, rf_5000_54, rf_5000_55, rf_100_0, rf_100_1, rf_103_0, rf_103_1, rf_106_0, rf_106_1, rf_109_0, rf_109_1, al_2, al_4, al_5, al_7, al_8, al_10, al_11, al_12, al_14, al_15, al_17, al_18, al_19, al_20, al_22, al_23, al_24, al_25, al_27, al_28, al_29, al_30, al_32, al_33, al_34, al_35, al_37, al_38, al_40, al_42, al_5001, al_5002, al_5003, al_5004, al_5005, al_5006, al_5007, al_5008, al_5009, al_5010, al_5011, al_5012, al_5013, al_5014, al_5015, al_5016, al_5017, al_5018, al_5019, al_5020, al_5021, al_5022, al_5023, al_5024, al_5025, al_5026, al_9000, al_101, al_102, al_104, al_105, al_107, al_108, al_110, al_111, vcs_e, lg_c0, lg_cs, lg_nil, set_c0, set_cs, okst_0, okst_s, acok_n, acok_c, List.contains_nil, List.contains_cons, Bool.or_false, Bool.false_or, Bool.false_eq_true, if_false, if_true, ite_self, ne_eq, true_and, and_true, not_false_eq_true, not_true_eq_false, false_imp_iff, true_imp_iff, Nat.ble_eq, Bool.and_eq_true, reduceCtorEq, or_false, false_or, or_true, true_or, false_and, and_false, and_self, Int.reduceLE, Int.reduceAdd, Int.reduceSub, Int.reduceMul, Int.reduceNeg, Int.reduceLT, Int.reduceEq, Int.reduceNe, Nat.reduceBEq, Nat.reduceBNe, Nat.reduceEqDiff, amCmp_in, amCmp_lt, amCmp_le, amCmp_gt, amCmp_ge, amCmp_eq, amCmp_ne, Nat.reduceLeDiff, Nat.reduceSub, Bool.and_true, Bool.true_and, Bool.and_self, Bool.or_true, Bool.true_or, isRf_3, isRf_4, isRf_5, isRf_8, isRf_9, isRf_10, isRf_11, isRf_15, isRf_16, isRf_17, isRf_18, isRf_19, isRf_20, isRf_21, isRf_22, isRf_23, isRf_24, isRf_25, isRf_26, isRf_27, isRf_28, k_X11_rests_0, k_X11_rests_1, k_X11_rests_2, k_X11_rests_3, k_X11_rests_4, k_X11_rests_7, k_X11_rests_10, k_X11_rests_12, k_X11_rests_13, k_X11_rests_16, k_X11_rests_17, k_X11_rests_18, k_X11_rests_19, k_X11_rests_22, k_X11_rests_23, k_X11_rests_26, k_X11_rests_27, k_X11_rests_28, k_X11_rests_29, k_X11_rests_32, k_X11_rests_33, k_X11_rests_36, k_X11_rests_37, k_X11_rests_40, k_X11_rests_42, k_X11_rests_43, k_X11_rests_45, k_X11_rests_46, k_X11_rests_48, k_X11_rests_50, k_X11_rests_52, k_X11_rests_55, k_X11_rests_56, k_X11_rests_58, k_X11_rests_60, k_X11_rests_62, k_X11_rests_65, k_X11_rests_66, k_X11_rests_69, k_X11_rests_71, k_X11_rests_73, k_X11_rests_76, k_X11_rests_79, k_X11_rests_81, k_X11_rests_83, k_X11_rests_86, k_X11_rests_88, k_X11_rests_90, k_X11_rests_91, k_X11_rests_93, k_X11_rests_94, k_X11_rests_95, k_X11_rests_98, k_X11_rests_101, k_X11_rests_104, k_X11_rests_107, k_X11_rests_110, k_X11_rests_112, k_X11_rests_113, k_X11_rests_116, k_X11_rests_118, k_X11_rests_121, k_X11_rests_122]
      by_cases hlt : x < S
      · rw [show (S - x).toNat = (S - x - 1).toNat + 1 by omega, rsO] at hr9
        have i9 : ∃ k', k' < n ∧ inv_rts σ o r p i S k' 58 [(27, 0), (0, o), (0, r), (0, p), (0, i), (0, S), (0, c), (0, x), (0, 0)] [] σ' :=
          ⟨n - 1, by omega, rfl, hW, hg, cc, hi1, c, x, v8, hc0, hc1, hx0, Or.inr ⟨rfl, hlt, 0, by omega, by omega, by omega, by omega, rfl, by rw [Int.sub_zero]; exact hr9⟩⟩
        repeat' (first | assumption | apply And.intro | intro _)
        all_goals first | omega | exact absurd trivial (by assumption) | exact i9
      · rw [show (S - x).toNat = 0 by omega, rsO] at hq
        by_cases ci : i = -1
        · rw [if_pos ci] at hq
          repeat' (first | assumption | apply And.intro | intro _)
          all_goals first | omega | exact absurd trivial (by assumption) | exact hq
        · rw [if_neg ci] at hq
          repeat' (first | assumption | apply And.intro | intro _)
          all_goals first | omega | exact absurd trivial (by assumption) | exact hq
    · have hq := h2 ⟨cc, hi1⟩ σ' hW hg
      rw [← hr9] at hq
      have pc3 : pcnt σ' 6 3 = S := by rw [SW_pcnt hW 3]; exact hS
      have hin := gnOk_in hg hB h9p cc.1.1 (by omega) cc.2.1.1 (by omega) hpr
      by_cases hlt : y < S
      · have eb : (S - y).toNat = (S - (y + 1)).toNat + 1 := by omega
        rw [eb] at hr9 hq
        refine ⟨60, ?_⟩
        simp only [↓reduceIte, inR_0, inR_1, inR_m, vSw2_e, swP_n, swP_c, vI_e, vL_e, vNull_e, vIload_e, vLload_e, vAload_e, vIstore_e, vLstore_e, vAstore_e, vIinc_e, vIadd_e, vIsub_e, vImul_e, vIand_e, vIor_e, vIxor_e, vIshl_e, vIshr_e, vIushr_e, vIdiv_e, vIrem_e, vLadd_e, vLsub_e, vLmul_e, vLand_e, vLor_e, vLxor_e, vLdiv_e, vLrem_e, vLushr_e, vLshl_e, vLcmp_e, vIneg_e, vI2l_e, vL2i_e, vI2b_e, vI2c_e, vDup_e, vPop_e, vDup2_e, vGoto_e, vIcEq_e, vIfEq_e, vIcNe_e, vIfNe_e, vIcLt_e, vIfLt_e, vIcGe_e, vIfGe_e, vIcGt_e, vIfGt_e, vIcLe_e, vIfLe_e, vNonnull_e, vSw_e, vGetI_e, vGetL_e, vGetR_e, vPutI_e, vPutZ_e, vPutL_e, vPutR_e, vIald_e, vIald_s, vLald_e, vBald_e, vBald_s, vAald_e, vIast_e, vLast_e, vBast_e, vAast_e, vAlen_e8, vAlen_e9, vAlen_e10, vAlen_e11, vAlen_e5, vAlen_e3, vGets_e, vCompact_e, vLdcS_e, vIret_e, vZret_e, vCret_e, vBret_e, vLret_e, vVret_e, vAret_e, vCallM_e0, vCallMV_e0, vCallS_e0, vCallSV_e0, vCallM_e1, vCallMV_e1, vCallS_e1, vCallSV_e1, vCallM_e2, vCallMV_e2, vCallS_e2, vCallSV_e2, vCallM_e3, vCallMV_e3, vCallS_e3, vCallSV_e3, vCallM_e4, vCallMV_e4, vCallS_e4, vCallSV_e4, vCallM_e5, vCallMV_e5, vCallS_e5, vCallSV_e5, vCallM_e6, vCallMV_e6, vCallS_e6, vCallSV_e6, vCallM_e7, vCallMV_e7, vCallS_e7, vCallSV_e7, vBad_e, vStrVal_e, vStrCod_e, vForm_e, vCallT_e0, vCallT_e1, vCallT_e2, vCopy_e, rf_0_0, rf_0_1, rf_0_2, rf_0_3, rf_0_4, rf_0_7, rf_0_10, rf_0_11, rf_0_12, rf_0_13, rf_0_14, rf_0_15, rf_0_16, rf_1_0, rf_3_0, rf_3_1, rf_6_0, rf_6_1, rf_9_0, rf_9_1, rf_9_3, rf_13_0, rf_13_1, rf_13_2, rf_16_0, rf_16_1, rf_16_2, rf_16_3, rf_21_0, rf_21_1, rf_21_2, rf_21_3, rf_26_0, rf_26_1, rf_26_2, rf_26_3, rf_26_4, rf_26_5, rf_26_6, rf_31_0, rf_31_2, rf_31_5, rf_31_6, rf_36_0, rf_36_1, rf_36_2, rf_36_3, rf_39_0, rf_39_1, rf_39_2, rf_41_0, rf_41_1, rf_41_2, rf_41_3, rf_5000_1, rf_5000_2, rf_5000_3, rf_5000_4, rf_5000_5, rf_5000_15, rf_5000_16, rf_5000_18, rf_5000_19, rf_5000_20, rf_5000_21, rf_5000_22, rf_5000_23, rf_5000_24, rf_5000_25, rf_5000_26, rf_5000_27, rf_5000_36, rf_5000_37, rf_5000_40, rf_5000_41, rf_5000_42, rf_5000_43, rf_5000_44, rf_5000_45, rf_5000_47, rf_5000_52, rf_5000_54, rf_5000_55, rf_100_0, rf_100_1, rf_103_0, rf_103_1, rf_106_0, rf_106_1, rf_109_0, rf_109_1, al_2, al_4, al_5, al_7, al_8, al_10, al_11, al_12, al_14, al_15, al_17, al_18, al_19, al_20, al_22, al_23, al_24, al_25, al_27, al_28, al_29, al_30, al_32, al_33, al_34, al_35, al_37, al_38, al_40, al_42, al_5001, al_5002, al_5003, al_5004, al_5005, al_5006, al_5007, al_5008, al_5009, al_5010, al_5011, al_5012, al_5013, al_5014, al_5015, al_5016, al_5017, al_5018, al_5019, al_5020, al_5021, al_5022, al_5023, al_5024, al_5025, al_5026, al_9000, al_101, al_102, al_104, al_105, al_107, al_108, al_110, al_111, vcs_e, lg_c0, lg_cs, lg_nil, set_c0, set_cs, okst_0, okst_s, acok_n, acok_c, List.contains_nil, List.contains_cons, Bool.or_false, Bool.false_or, Bool.false_eq_true, if_false, if_true, ite_self, ne_eq, true_and, and_true, not_false_eq_true, not_true_eq_false, false_imp_iff, true_imp_iff, Nat.ble_eq, Bool.and_eq_true, reduceCtorEq, or_false, false_or, or_true, true_or, false_and, and_false, and_self, Int.reduceLE, Int.reduceAdd, Int.reduceSub, Int.reduceMul, Int.reduceNeg, Int.reduceLT, Int.reduceEq, Int.reduceNe, Nat.reduceBEq, Nat.reduceBNe, Nat.reduceEqDiff, amCmp_in, amCmp_lt, amCmp_le, amCmp_gt, amCmp_ge, amCmp_eq, amCmp_ne, Nat.reduceLeDiff, Nat.reduceSub, Bool.and_true, Bool.true_and, Bool.and_self, Bool.or_true, Bool.true_or, isRf_3, isRf_4, isRf_5, isRf_8, isRf_9, isRf_10, isRf_11, isRf_15, isRf_16, isRf_17, isRf_18, isRf_19, isRf_20, isRf_21, isRf_22, isRf_23, isRf_24, isRf_25, isRf_26, isRf_27, isRf_28, k_X11_rests_0, k_X11_rests_1, k_X11_rests_2, k_X11_rests_3, k_X11_rests_4, k_X11_rests_7, k_X11_rests_10, k_X11_rests_12, k_X11_rests_13, k_X11_rests_16, k_X11_rests_17, k_X11_rests_18, k_X11_rests_19, k_X11_rests_22, k_X11_rests_23, k_X11_rests_26, k_X11_rests_27, k_X11_rests_28, k_X11_rests_29, k_X11_rests_32, k_X11_rests_33, k_X11_rests_36, k_X11_rests_37, k_X11_rests_40, k_X11_rests_42, k_X11_rests_43, k_X11_rests_45, k_X11_rests_46, k_X11_rests_48, k_X11_rests_50, k_X11_rests_52, k_X11_rests_55, k_X11_rests_56, k_X11_rests_58, k_X11_rests_60, k_X11_rests_62, k_X11_rests_65, k_X11_rests_66, k_X11_rests_69, k_X11_rests_71, k_X11_rests_73, k_X11_rests_76, k_X11_rests_79, k_X11_rests_81, k_X11_rests_83, k_X11_rests_86, k_X11_rests_88, k_X11_rests_90, k_X11_rests_91, k_X11_rests_93, k_X11_rests_94, k_X11_rests_95, k_X11_rests_98, k_X11_rests_101, k_X11_rests_104, k_X11_rests_107, k_X11_rests_110, k_X11_rests_112, k_X11_rests_113, k_X11_rests_116, k_X11_rests_118, k_X11_rests_121, k_X11_rests_122, w_X11_canMatch_e, w_X4_isRest_e, w_X4_prepare_e, w_X6_many_e, pc3]
        have nx : ∀ c', 0 ≤ c' → c' ≤ 6 * x + (y + 1) → rsI (rsP (σ' 40) S) i x (rsO (rsP (σ' 40) S) i S.toNat (S - x - 1).toNat (x + 1)) (S - (y + 1)).toNat (y + 1) c' = rsV (σ' 40) S i → ∃ k', k' < n ∧ inv_rts σ o r p i S k' 58 [(27, 0), (0, o), (0, r), (0, p), (0, i), (0, S), (0, c'), (0, x), (0, y + 1)] [] σ' := fun c' g1 g2 g3 =>
          ⟨n - 1, by omega, rfl, hW, hg, cc, hi1, c', x, v8, g1, by omega, hx0, Or.inr ⟨rfl, hxS, y + 1, by omega, by omega, g2, by omega, rfl, g3⟩⟩
        by_cases cp : rstP (σ' 40) x y S
        · rw [rsI_t (P := rsP (σ' 40) S) (x := x) (y := y) cp] at hr9 hq
          by_cases ci : c = i
          · rw [if_pos ci] at hq
            repeat' (first | assumption | apply And.intro | intro _)
            all_goals first | omega | exact absurd trivial (by assumption) | exact hq | exact absurd cp (by assumption)
          · rw [if_neg ci] at hr9
            have i9 := nx (c + 1) (by omega) (by omega) hr9
            repeat' (first | assumption | apply And.intro | intro _)
            all_goals first | omega | exact absurd trivial (by assumption) | exact i9 | exact absurd cp (by assumption)
        · rw [rsI_f (P := rsP (σ' 40) S) (x := x) (y := y) cp] at hr9
          have i9 := nx c (by omega) (by omega) hr9
          repeat' (first | assumption | apply And.intro | intro _)
          all_goals first | omega | exact absurd trivial (by assumption) | exact i9 | exact absurd (by assumption) cp
      · rw [show (S - y).toNat = 0 by omega, rsI] at hr9
        have i9 : ∃ k', k' < n ∧ inv_rts σ o r p i S k' 48 [(27, 0), (0, o), (0, r), (0, p), (0, i), (0, S), (0, c), (0, x + 1), (0, y)] [] σ' :=
          ⟨((S - (x + 1)) * 100).toNat, by omega, rfl, hW, hg, cc, hi1, c, x + 1, (0, y), hc0, by omega, by omega, Or.inl ⟨rfl, by omega, by omega, by omega, rfl, by rw [show S - (x + 1) = S - x - 1 by omega]; exact hr9⟩⟩
        refine ⟨60, ?_⟩
        simp only [↓reduceIte, inR_0, inR_1, inR_m, vSw2_e, swP_n, swP_c, vI_e, vL_e, vNull_e, vIload_e, vLload_e, vAload_e, vIstore_e, vLstore_e, vAstore_e, vIinc_e, vIadd_e, vIsub_e, vImul_e, vIand_e, vIor_e, vIxor_e, vIshl_e, vIshr_e, vIushr_e, vIdiv_e, vIrem_e, vLadd_e, vLsub_e, vLmul_e, vLand_e, vLor_e, vLxor_e, vLdiv_e, vLrem_e, vLushr_e, vLshl_e, vLcmp_e, vIneg_e, vI2l_e, vL2i_e, vI2b_e, vI2c_e, vDup_e, vPop_e, vDup2_e, vGoto_e, vIcEq_e, vIfEq_e, vIcNe_e, vIfNe_e, vIcLt_e, vIfLt_e, vIcGe_e, vIfGe_e, vIcGt_e, vIfGt_e, vIcLe_e, vIfLe_e, vNonnull_e, vSw_e, vGetI_e, vGetL_e, vGetR_e, vPutI_e, vPutZ_e, vPutL_e, vPutR_e, vIald_e, vIald_s, vLald_e, vBald_e, vBald_s, vAald_e, vIast_e, vLast_e, vBast_e, vAast_e, vAlen_e8, vAlen_e9, vAlen_e10, vAlen_e11, vAlen_e5, vAlen_e3, vGets_e, vCompact_e, vLdcS_e, vIret_e, vZret_e, vCret_e, vBret_e, vLret_e, vVret_e, vAret_e, vCallM_e0, vCallMV_e0, vCallS_e0, vCallSV_e0, vCallM_e1, vCallMV_e1, vCallS_e1, vCallSV_e1, vCallM_e2, vCallMV_e2, vCallS_e2, vCallSV_e2, vCallM_e3, vCallMV_e3, vCallS_e3, vCallSV_e3, vCallM_e4, vCallMV_e4, vCallS_e4, vCallSV_e4, vCallM_e5, vCallMV_e5, vCallS_e5, vCallSV_e5, vCallM_e6, vCallMV_e6, vCallS_e6, vCallSV_e6, vCallM_e7, vCallMV_e7, vCallS_e7, vCallSV_e7, vBad_e, vStrVal_e, vStrCod_e, vForm_e, vCallT_e0, vCallT_e1, vCallT_e2, vCopy_e, rf_0_0, rf_0_1, rf_0_2, rf_0_3, rf_0_4, rf_0_7, rf_0_10, rf_0_11, rf_0_12, rf_0_13, rf_0_14, rf_0_15, rf_0_16, rf_1_0, rf_3_0, rf_3_1, rf_6_0, rf_6_1, rf_9_0, rf_9_1, rf_9_3, rf_13_0, rf_13_1, rf_13_2, rf_16_0, rf_16_1, rf_16_2, rf_16_3, rf_21_0, rf_21_1, rf_21_2, rf_21_3, rf_26_0, rf_26_1, rf_26_2, rf_26_3, rf_26_4, rf_26_5, rf_26_6, rf_31_0, rf_31_2, rf_31_5, rf_31_6, rf_36_0, rf_36_1, rf_36_2, rf_36_3, rf_39_0, rf_39_1, rf_39_2, rf_41_0, rf_41_1, rf_41_2, rf_41_3, rf_5000_1, rf_5000_2, rf_5000_3, rf_5000_4, rf_5000_5, rf_5000_15, rf_5000_16, rf_5000_18, rf_5000_19, rf_5000_20, rf_5000_21, rf_5000_22, rf_5000_23, rf_5000_24, rf_5000_25, rf_5000_26, rf_5000_27, rf_5000_36, rf_5000_37, rf_5000_40, rf_5000_41, rf_5000_42, rf_5000_43, rf_5000_44, rf_5000_45, rf_5000_47, rf_5000_52, rf_5000_54, rf_5000_55, rf_100_0, rf_100_1, rf_103_0, rf_103_1, rf_106_0, rf_106_1, rf_109_0, rf_109_1, al_2, al_4, al_5, al_7, al_8, al_10, al_11, al_12, al_14, al_15, al_17, al_18, al_19, al_20, al_22, al_23, al_24, al_25, al_27, al_28, al_29, al_30, al_32, al_33, al_34, al_35, al_37, al_38, al_40, al_42, al_5001, al_5002, al_5003, al_5004, al_5005, al_5006, al_5007, al_5008, al_5009, al_5010, al_5011, al_5012, al_5013, al_5014, al_5015, al_5016, al_5017, al_5018, al_5019, al_5020, al_5021, al_5022, al_5023, al_5024, al_5025, al_5026, al_9000, al_101, al_102, al_104, al_105, al_107, al_108, al_110, al_111, vcs_e, lg_c0, lg_cs, lg_nil, set_c0, set_cs, okst_0, okst_s, acok_n, acok_c, List.contains_nil, List.contains_cons, Bool.or_false, Bool.false_or, Bool.false_eq_true, if_false, if_true, ite_self, ne_eq, true_and, and_true, not_false_eq_true, not_true_eq_false, false_imp_iff, true_imp_iff, Nat.ble_eq, Bool.and_eq_true, reduceCtorEq, or_false, false_or, or_true, true_or, false_and, and_false, and_self, Int.reduceLE, Int.reduceAdd, Int.reduceSub, Int.reduceMul, Int.reduceNeg, Int.reduceLT, Int.reduceEq, Int.reduceNe, Nat.reduceBEq, Nat.reduceBNe, Nat.reduceEqDiff, amCmp_in, amCmp_lt, amCmp_le, amCmp_gt, amCmp_ge, amCmp_eq, amCmp_ne, Nat.reduceLeDiff, Nat.reduceSub, Bool.and_true, Bool.true_and, Bool.and_self, Bool.or_true, Bool.true_or, isRf_3, isRf_4, isRf_5, isRf_8, isRf_9, isRf_10, isRf_11, isRf_15, isRf_16, isRf_17, isRf_18, isRf_19, isRf_20, isRf_21, isRf_22, isRf_23, isRf_24, isRf_25, isRf_26, isRf_27, isRf_28, k_X11_rests_0, k_X11_rests_1, k_X11_rests_2, k_X11_rests_3, k_X11_rests_4, k_X11_rests_7, k_X11_rests_10, k_X11_rests_12, k_X11_rests_13, k_X11_rests_16, k_X11_rests_17, k_X11_rests_18, k_X11_rests_19, k_X11_rests_22, k_X11_rests_23, k_X11_rests_26, k_X11_rests_27, k_X11_rests_28, k_X11_rests_29, k_X11_rests_32, k_X11_rests_33, k_X11_rests_36, k_X11_rests_37, k_X11_rests_40, k_X11_rests_42, k_X11_rests_43, k_X11_rests_45, k_X11_rests_46, k_X11_rests_48, k_X11_rests_50, k_X11_rests_52, k_X11_rests_55, k_X11_rests_56, k_X11_rests_58, k_X11_rests_60, k_X11_rests_62, k_X11_rests_65, k_X11_rests_66, k_X11_rests_69, k_X11_rests_71, k_X11_rests_73, k_X11_rests_76, k_X11_rests_79, k_X11_rests_81, k_X11_rests_83, k_X11_rests_86, k_X11_rests_88, k_X11_rests_90, k_X11_rests_91, k_X11_rests_93, k_X11_rests_94, k_X11_rests_95, k_X11_rests_98, k_X11_rests_101, k_X11_rests_104, k_X11_rests_107, k_X11_rests_110, k_X11_rests_112, k_X11_rests_113, k_X11_rests_116, k_X11_rests_118, k_X11_rests_121, k_X11_rests_122]
        repeat' (first | assumption | apply And.intro | intro _)
        all_goals first | omega | exact absurd trivial (by assumption) | exact i9
  · change vcs _ _ _ _ 90 0 [(27, 0), (0, o), (0, r), (0, p), (0, i), (6, 0), (6, 0), (6, 0), (6, 0)] [] σ
    simp only [↓reduceIte, inR_0, inR_1, inR_m, vSw2_e, swP_n, swP_c, vI_e, vL_e, vNull_e, vIload_e, vLload_e, vAload_e, vIstore_e, vLstore_e, vAstore_e, vIinc_e, vIadd_e, vIsub_e, vImul_e, vIand_e, vIor_e, vIxor_e, vIshl_e, vIshr_e, vIushr_e, vIdiv_e, vIrem_e, vLadd_e, vLsub_e, vLmul_e, vLand_e, vLor_e, vLxor_e, vLdiv_e, vLrem_e, vLushr_e, vLshl_e, vLcmp_e, vIneg_e, vI2l_e, vL2i_e, vI2b_e, vI2c_e, vDup_e, vPop_e, vDup2_e, vGoto_e, vIcEq_e, vIfEq_e, vIcNe_e, vIfNe_e, vIcLt_e, vIfLt_e, vIcGe_e, vIfGe_e, vIcGt_e, vIfGt_e, vIcLe_e, vIfLe_e, vNonnull_e, vSw_e, vGetI_e, vGetL_e, vGetR_e, vPutI_e, vPutZ_e, vPutL_e, vPutR_e, vIald_e, vIald_s, vLald_e, vBald_e, vBald_s, vAald_e, vIast_e, vLast_e, vBast_e, vAast_e, vAlen_e8, vAlen_e9, vAlen_e10, vAlen_e11, vAlen_e5, vAlen_e3, vGets_e, vCompact_e, vLdcS_e, vIret_e, vZret_e, vCret_e, vBret_e, vLret_e, vVret_e, vAret_e, vCallM_e0, vCallMV_e0, vCallS_e0, vCallSV_e0, vCallM_e1, vCallMV_e1, vCallS_e1, vCallSV_e1, vCallM_e2, vCallMV_e2, vCallS_e2, vCallSV_e2, vCallM_e3, vCallMV_e3, vCallS_e3, vCallSV_e3, vCallM_e4, vCallMV_e4, vCallS_e4, vCallSV_e4, vCallM_e5, vCallMV_e5, vCallS_e5, vCallSV_e5, vCallM_e6, vCallMV_e6, vCallS_e6, vCallSV_e6, vCallM_e7, vCallMV_e7, vCallS_e7, vCallSV_e7, vBad_e, vStrVal_e, vStrCod_e, vForm_e, vCallT_e0, vCallT_e1, vCallT_e2, vCopy_e, rf_0_0, rf_0_1, rf_0_2, rf_0_3, rf_0_4, rf_0_7, rf_0_10, rf_0_11, rf_0_12, rf_0_13, rf_0_14, rf_0_15, rf_0_16, rf_1_0, rf_3_0, rf_3_1, rf_6_0, rf_6_1, rf_9_0, rf_9_1, rf_9_3, rf_13_0, rf_13_1, rf_13_2, rf_16_0, rf_16_1, rf_16_2, rf_16_3, rf_21_0, rf_21_1, rf_21_2, rf_21_3, rf_26_0, rf_26_1, rf_26_2, rf_26_3, rf_26_4, rf_26_5, rf_26_6, rf_31_0, rf_31_2, rf_31_5, rf_31_6, rf_36_0, rf_36_1, rf_36_2, rf_36_3, rf_39_0, rf_39_1, rf_39_2, rf_41_0, rf_41_1, rf_41_2, rf_41_3, rf_5000_1, rf_5000_2, rf_5000_3, rf_5000_4, rf_5000_5, rf_5000_15, rf_5000_16, rf_5000_18, rf_5000_19, rf_5000_20, rf_5000_21, rf_5000_22, rf_5000_23, rf_5000_24, rf_5000_25, rf_5000_26, rf_5000_27, rf_5000_36, rf_5000_37, rf_5000_40, rf_5000_41, rf_5000_42, rf_5000_43, rf_5000_44, rf_5000_45, rf_5000_47, rf_5000_52, rf_5000_54, rf_5000_55, rf_100_0, rf_100_1, rf_103_0, rf_103_1, rf_106_0, rf_106_1, rf_109_0, rf_109_1, al_2, al_4, al_5, al_7, al_8, al_10, al_11, al_12, al_14, al_15, al_17, al_18, al_19, al_20, al_22, al_23, al_24, al_25, al_27, al_28, al_29, al_30, al_32, al_33, al_34, al_35, al_37, al_38, al_40, al_42, al_5001, al_5002, al_5003, al_5004, al_5005, al_5006, al_5007, al_5008, al_5009, al_5010, al_5011, al_5012, al_5013, al_5014, al_5015, al_5016, al_5017, al_5018, al_5019, al_5020, al_5021, al_5022, al_5023, al_5024, al_5025, al_5026, al_9000, al_101, al_102, al_104, al_105, al_107, al_108, al_110, al_111, vcs_e, lg_c0, lg_cs, lg_nil, set_c0, set_cs, okst_0, okst_s, acok_n, acok_c, List.contains_nil, List.contains_cons, Bool.or_false, Bool.false_or, Bool.false_eq_true, if_false, if_true, ite_self, ne_eq, true_and, and_true, not_false_eq_true, not_true_eq_false, false_imp_iff, true_imp_iff, Nat.ble_eq, Bool.and_eq_true, reduceCtorEq, or_false, false_or, or_true, true_or, false_and, and_false, and_self, Int.reduceLE, Int.reduceAdd, Int.reduceSub, Int.reduceMul, Int.reduceNeg, Int.reduceLT, Int.reduceEq, Int.reduceNe, Nat.reduceBEq, Nat.reduceBNe, Nat.reduceEqDiff, amCmp_in, amCmp_lt, amCmp_le, amCmp_gt, amCmp_ge, amCmp_eq, amCmp_ne, Nat.reduceLeDiff, Nat.reduceSub, Bool.and_true, Bool.true_and, Bool.and_self, Bool.or_true, Bool.true_or, isRf_3, isRf_4, isRf_5, isRf_8, isRf_9, isRf_10, isRf_11, isRf_15, isRf_16, isRf_17, isRf_18, isRf_19, isRf_20, isRf_21, isRf_22, isRf_23, isRf_24, isRf_25, isRf_26, isRf_27, isRf_28, k_X11_rests_0, k_X11_rests_1, k_X11_rests_2, k_X11_rests_3, k_X11_rests_4, k_X11_rests_7, k_X11_rests_10, k_X11_rests_12, k_X11_rests_13, k_X11_rests_16, k_X11_rests_17, k_X11_rests_18, k_X11_rests_19, k_X11_rests_22, k_X11_rests_23, k_X11_rests_26, k_X11_rests_27, k_X11_rests_28, k_X11_rests_29, k_X11_rests_32, k_X11_rests_33, k_X11_rests_36, k_X11_rests_37, k_X11_rests_40, k_X11_rests_42, k_X11_rests_43, k_X11_rests_45, k_X11_rests_46, k_X11_rests_48, k_X11_rests_50, k_X11_rests_52, k_X11_rests_55, k_X11_rests_56, k_X11_rests_58, k_X11_rests_60, k_X11_rests_62, k_X11_rests_65, k_X11_rests_66, k_X11_rests_69, k_X11_rests_71, k_X11_rests_73, k_X11_rests_76, k_X11_rests_79, k_X11_rests_81, k_X11_rests_83, k_X11_rests_86, k_X11_rests_88, k_X11_rests_90, k_X11_rests_91, k_X11_rests_93, k_X11_rests_94, k_X11_rests_95, k_X11_rests_98, k_X11_rests_101, k_X11_rests_104, k_X11_rests_107, k_X11_rests_110, k_X11_rests_112, k_X11_rests_113, k_X11_rests_116, k_X11_rests_118, k_X11_rests_121, k_X11_rests_122, w_X11_canMatch_e, w_X4_isRest_e, w_X4_prepare_e, w_X6_many_e, hS]
    by_cases d : (0 ≤ o ∧ o < pcnt σ 6 2) ∧ (0 ≤ r ∧ r < pcnt σ 6 2) ∧ o ≠ r ∧ 0 ≤ p ∧ p < pcnt σ 6 1
    · rw [if_pos d]
      by_cases di : -1 ≤ i
      · have i9 : ∀ τ, SW σ τ → gnOk σ (τ 40) o r p S → pcnt τ 6 3 = S ∧ ∃ k', inv_rts σ o r p i S k' 48 [(27, 0), (0, o), (0, r), (0, p), (0, i), (0, S), (0, 0), (0, 0), (6, 0)] [] τ := fun τ q1 q2 =>
          ⟨by rw [SW_pcnt q1 3]; exact hS, (S * 100).toNat, rfl, q1, q2, d, di, 0, 0, _, by omega, by omega, by omega, Or.inl ⟨rfl, by omega, by omega, by omega, rfl, by rw [Int.sub_zero]⟩⟩
        obtain ⟨d1, d2, d3, d4⟩ := id d
        repeat' (first | assumption | apply And.intro | intro _)
        all_goals first | omega | exact absurd trivial (by assumption) | exact isP6 | skip
        all_goals
          obtain ⟨z1, z2⟩ := i9 _ ‹SW σ _› (by assumption)
          simp only [z1]
          first | omega | exact z2
      · have hh := h1 (fun q => di q.2)
        repeat' (first | assumption | apply And.intro | intro _)
        all_goals first | omega | exact absurd trivial (by assumption) | exact isP6 | exact hh
    · rw [if_neg d]
      have hh := h1 (fun q => d q.1)
      repeat' (first | assumption | apply And.intro | intro _)
      all_goals first | omega | exact absurd trivial (by assumption) | exact isP6 | exact hh
theorem wd_856 : Cond.methodLink RX11 225 yX9_outBits ∈ TBL := tb_tab (List.mem_of_getElem? (i := 856) (by decide +kernel)) rfl
theorem wd_859 : Cond.code yX9_outBits cX9_outBits 3 (some .int) ∈ TBL := tb_tab (List.mem_of_getElem? (i := 859) (by decide +kernel)) rfl
theorem lk_X11_225 : amLk RX11 225 yX9_outBits cX9_outBits 3 (some .int) 0 := ⟨wd_856, wd_7, wd_859, by decide +kernel, by decide +kernel, by decide⟩
theorem wd_857 : Cond.instanceMethod yX9_outBits ∈ TBL := tb_tab (List.mem_of_getElem? (i := 857) (by decide +kernel)) rfl
theorem wd_858 : Cond.selects RX9 yX9_outBits yX9_outBits ∈ TBL := tb_tab (List.mem_of_getElem? (i := 858) (by decide +kernel)) rfl
def a_X11_bestBorne : AC := [(0, vI (-1) 1), (1, vIstore 1 2), (2, vI (-1) 3), (3, vIstore 2 4), (4, vI 0 5), (5, vIstore 3 6), (6, vIload 3 7), (7, vAload 0 8), (8, vGetR TT 27 2 22 11), (11, vI 1 12), (12, vCallM w_X6_many 22 1 15), (15, vIcGe 66 18), (18, vAload 0 19), (19, vGetR TT 27 12 25 22), (22, vAload 0 23), (23, vGetR TT 27 11 16 26), (26, vIload 3 27), (27, vCallMV w_X9_playAll 25 2 30), (30, vAload 0 31), (31, vGetR TT 27 12 25 34), (34, vCallM w_X9_allFelt 25 0 37), (37, vIstore 4 39), (39, vAload 0 40), (40, vGetR TT 27 12 25 43), (43, vCallM w_X9_outBits 25 0 46), (46, vIfNe 60 49), (49, vIload 4 51), (51, vIload 2 52), (52, vIcLe 60 55), (55, vIload 4 57), (57, vIstore 2 58), (58, vIload 3 59), (59, vIstore 1 60), (60, vIinc 3 1 63), (63, vGoto 6), (66, vIload 1 67), (67, vIret)]
theorem k_X11_bestBorne_0 : look a_X11_bestBorne 0 = vI (-1) 1 := rfl
theorem k_X11_bestBorne_1 : look a_X11_bestBorne 1 = vIstore 1 2 := rfl
theorem k_X11_bestBorne_2 : look a_X11_bestBorne 2 = vI (-1) 3 := rfl
theorem k_X11_bestBorne_3 : look a_X11_bestBorne 3 = vIstore 2 4 := rfl
theorem k_X11_bestBorne_4 : look a_X11_bestBorne 4 = vI 0 5 := rfl
theorem k_X11_bestBorne_5 : look a_X11_bestBorne 5 = vIstore 3 6 := rfl
theorem k_X11_bestBorne_6 : look a_X11_bestBorne 6 = vIload 3 7 := rfl
theorem k_X11_bestBorne_7 : look a_X11_bestBorne 7 = vAload 0 8 := rfl
theorem k_X11_bestBorne_8 : look a_X11_bestBorne 8 = vGetR TT 27 2 22 11 := rfl
theorem k_X11_bestBorne_11 : look a_X11_bestBorne 11 = vI 1 12 := rfl
theorem k_X11_bestBorne_12 : look a_X11_bestBorne 12 = vCallM w_X6_many 22 1 15 := rfl
theorem k_X11_bestBorne_15 : look a_X11_bestBorne 15 = vIcGe 66 18 := rfl
theorem k_X11_bestBorne_18 : look a_X11_bestBorne 18 = vAload 0 19 := rfl
theorem k_X11_bestBorne_19 : look a_X11_bestBorne 19 = vGetR TT 27 12 25 22 := rfl
theorem k_X11_bestBorne_22 : look a_X11_bestBorne 22 = vAload 0 23 := rfl
theorem k_X11_bestBorne_23 : look a_X11_bestBorne 23 = vGetR TT 27 11 16 26 := rfl
theorem k_X11_bestBorne_26 : look a_X11_bestBorne 26 = vIload 3 27 := rfl
theorem k_X11_bestBorne_27 : look a_X11_bestBorne 27 = vCallMV w_X9_playAll 25 2 30 := rfl
theorem k_X11_bestBorne_30 : look a_X11_bestBorne 30 = vAload 0 31 := rfl
theorem k_X11_bestBorne_31 : look a_X11_bestBorne 31 = vGetR TT 27 12 25 34 := rfl
theorem k_X11_bestBorne_34 : look a_X11_bestBorne 34 = vCallM w_X9_allFelt 25 0 37 := rfl
theorem k_X11_bestBorne_37 : look a_X11_bestBorne 37 = vIstore 4 39 := rfl
theorem k_X11_bestBorne_39 : look a_X11_bestBorne 39 = vAload 0 40 := rfl
theorem k_X11_bestBorne_40 : look a_X11_bestBorne 40 = vGetR TT 27 12 25 43 := rfl
theorem k_X11_bestBorne_43 : look a_X11_bestBorne 43 = vCallM w_X9_outBits 25 0 46 := rfl
theorem k_X11_bestBorne_46 : look a_X11_bestBorne 46 = vIfNe 60 49 := rfl
theorem k_X11_bestBorne_49 : look a_X11_bestBorne 49 = vIload 4 51 := rfl
theorem k_X11_bestBorne_51 : look a_X11_bestBorne 51 = vIload 2 52 := rfl
theorem k_X11_bestBorne_52 : look a_X11_bestBorne 52 = vIcLe 60 55 := rfl
theorem k_X11_bestBorne_55 : look a_X11_bestBorne 55 = vIload 4 57 := rfl
theorem k_X11_bestBorne_57 : look a_X11_bestBorne 57 = vIstore 2 58 := rfl
theorem k_X11_bestBorne_58 : look a_X11_bestBorne 58 = vIload 3 59 := rfl
theorem k_X11_bestBorne_59 : look a_X11_bestBorne 59 = vIstore 1 60 := rfl
theorem k_X11_bestBorne_60 : look a_X11_bestBorne 60 = vIinc 3 1 63 := rfl
theorem k_X11_bestBorne_63 : look a_X11_bestBorne 63 = vGoto 6 := rfl
theorem k_X11_bestBorne_66 : look a_X11_bestBorne 66 = vIload 1 67 := rfl
theorem k_X11_bestBorne_67 : look a_X11_bestBorne 67 = vIret := rfl
theorem o_X11_bestBorne {X : amX} (e1 : XT X = TT) (e2 : XD X = 6) (hB : amB X RX11 cX11_bestBorne (some .int) 5) : ∀ pc, amOK X pc (look a_X11_bestBorne pc) := by
  have hT : amTok (XT X) := e1 ▸ TT_ok
  refine look_ok ?_
  unfold a_X11_bestBorne
  refine fc (ok_iconst hB dX11_bestBorne_0) ?_
  refine fc (ok_istore_n hB (by decide) dX11_bestBorne_1) ?_
  refine fc (ok_iconst hB dX11_bestBorne_2) ?_
  refine fc (ok_istore_n hB (by decide) dX11_bestBorne_3) ?_
  refine fc (ok_iconst hB dX11_bestBorne_4) ?_
  refine fc (ok_istore_n hB (by decide) dX11_bestBorne_5) ?_
  refine fc (ok_iload_n hB dX11_bestBorne_6) ?_
  refine fc (ok_aload_n hB dX11_bestBorne_7) ?_
  refine fc (okt_getR e1 hB hT fl_X11_23 rfl af_11_2 at_11_2 (by decide) dX11_bestBorne_8) ?_
  refine fc (ok_iconst hB dX11_bestBorne_11) ?_
  refine fc (ok_callM hB hT (e1 ▸ s_X6_many) lk_X11_154 (by rw [e2]; decide) (c := 6) rfl rfl rfl wd_557 wd_558 dX11_bestBorne_12) ?_
  refine fc (ok_icmp_ge hB (t := 66) (by decide) dX11_bestBorne_15) ?_
  refine fc (ok_aload_n hB dX11_bestBorne_18) ?_
  refine fc (okt_getR e1 hB hT fl_X11_77 rfl af_11_12 at_11_12 (by decide) dX11_bestBorne_19) ?_
  refine fc (ok_aload_n hB dX11_bestBorne_22) ?_
  refine fc (okt_getR e1 hB hT fl_X11_69 rfl af_11_11 at_11_11 (by decide) dX11_bestBorne_23) ?_
  refine fc (ok_iload_n hB dX11_bestBorne_26) ?_
  refine fc (ok_callMV hB hT (e1 ▸ s_X9_playAll) lk_X11_297 (by rw [e2]; decide) (c := 9) rfl rfl rfl wd_776 wd_777 dX11_bestBorne_27) ?_
  refine fc (ok_aload_n hB dX11_bestBorne_30) ?_
  refine fc (okt_getR e1 hB hT fl_X11_77 rfl af_11_12 at_11_12 (by decide) dX11_bestBorne_31) ?_
  refine fc (ok_callM hB hT (e1 ▸ s_X9_allFelt) lk_X11_351 (by rw [e2]; decide) (c := 9) rfl rfl rfl wd_846 wd_847 dX11_bestBorne_34) ?_
  refine fc (ok_istore hB (by decide) dX11_bestBorne_37) ?_
  refine fc (ok_aload_n hB dX11_bestBorne_39) ?_
  refine fc (okt_getR e1 hB hT fl_X11_77 rfl af_11_12 at_11_12 (by decide) dX11_bestBorne_40) ?_
  refine fc (ok_callM hB hT (e1 ▸ s_X9_outBits) lk_X11_225 (by rw [e2]; decide) (c := 9) rfl rfl rfl wd_857 wd_858 dX11_bestBorne_43) ?_
  refine fc (ok_if_ne hB (t := 60) (by decide) dX11_bestBorne_46) ?_
  refine fc (ok_iload hB dX11_bestBorne_49) ?_
  refine fc (ok_iload_n hB dX11_bestBorne_51) ?_
  refine fc (ok_icmp_le hB (t := 60) (by decide) dX11_bestBorne_52) ?_
  refine fc (ok_iload hB dX11_bestBorne_55) ?_
  refine fc (ok_istore_n hB (by decide) dX11_bestBorne_57) ?_
  refine fc (ok_iload_n hB dX11_bestBorne_58) ?_
  refine fc (ok_istore_n hB (by decide) dX11_bestBorne_59) ?_
  refine fc (ok_iinc hB (by decide) dX11_bestBorne_60) ?_
  refine fc (ok_goto hB (t := 6) (by decide) dX11_bestBorne_63) ?_
  refine fc (ok_iload_n hB dX11_bestBorne_66) ?_
  refine fc (ok_iret hB dX11_bestBorne_67) ?_
  exact fn
def bbR (mv ob : Int → Int) : Nat → Int × Int
  | 0 => (-1, -1)
  | p + 1 => if ob p = 0 ∧ (bbR mv ob p).2 < mv p then ((p : Int), mv p) else bbR mv ob p
def bMv (σ : Mem) (p : Int) : Int := sumC (pFl σ 21 p) (pcnt σ 6 2).toNat
def bOb (σ : Mem) (p : Int) : Int := outB (pOa σ 21 p) (pcnt σ 6 2).toNat
theorem bbR_b {mv ob : Int → Int} (h : ∀ p, 0 ≤ mv p ∧ mv p ≤ 6000) : ∀ n : Nat, -1 ≤ (bbR mv ob n).2 ∧ (bbR mv ob n).2 ≤ 6000 ∧ -1 ≤ (bbR mv ob n).1 ∧ (bbR mv ob n).1 < n := by
  intro n
  induction n with
  | zero => exact ⟨(by decide : (-1 : Int) ≤ -1), (by decide : (-1 : Int) ≤ 6000), (by decide : (-1 : Int) ≤ -1), (by decide : (-1 : Int) < ((0 : Nat) : Int))⟩
  | succ n ih =>
    unfold bbR
    have := h n
    split
    · dsimp only; omega
    · omega
theorem gb_cong {P P' : Int → Bool} : ∀ {n : Nat}, (∀ i : Int, 0 ≤ i → i < n → P i = P' i) → gb P n = gb P' n := by
  intro n
  induction n with
  | zero => intro _; rfl
  | succ n ih => intro h; unfold gb; rw [ih (fun i a b => h i a (by omega)), h n (by omega) (by omega)]
theorem outB_cong {f g : Int → Int} {n : Nat} (h : ∀ i : Int, 0 ≤ i → i < n → f i = g i) : outB f n = outB g n := gb_cong (fun i a b => by rw [h i a b])
def inv_bb (σ : Mem) (n pc : Nat) (ls st : List AV) (σ' : Mem) : Prop := pc = 6 ∧ st = [] ∧ SF σ σ' ∧ ∃ (k : Nat) (v4 : AV), ls = [(27, 0), (0, (bbR (bMv σ) (bOb σ) k).1), (0, (bbR (bMv σ) (bOb σ) k).2), (0, (k : Int)), v4] ∧ (k : Int) + n = pcnt σ 6 1
def w_X11_bestBorne : WP := fun av σ Q => av = [(27, 0)] ∧ (stOk σ 21 ∧ (∀ i, 0 ≤ i → i < 6 → InR (σ 23 i)) ∧ (∀ p, pval σ 6 1 p 3 ≤ 9) ∧ (∀ i, 0 ≤ i → i < pcnt σ 6 2 → 0 ≤ σ 23 i ∧ σ 23 i < pcnt σ 6 3) ∧ (∀ τ, SF σ τ → Q (0, (bbR (bMv σ) (bOb σ) (pcnt σ 6 1).toNat).1) τ))
theorem w_X11_bestBorne_e  (σ : Mem) (Q : AV → Mem → Prop) : w_X11_bestBorne [(27, 0)] σ Q = (stOk σ 21 ∧ (∀ i, 0 ≤ i → i < 6 → InR (σ 23 i)) ∧ (∀ p, pval σ 6 1 p 3 ≤ 9) ∧ (∀ i, 0 ≤ i → i < pcnt σ 6 2 → 0 ≤ σ 23 i ∧ σ 23 i < pcnt σ 6 3) ∧ (∀ τ, SF σ τ → Q (0, (bbR (bMv σ) (bOb σ) (pcnt σ 6 1).toNat).1) τ)) := by
  apply propext; constructor
  · rintro ⟨h9, hb9⟩; cases h9; exact hb9
  · intro hb9; exact ⟨rfl, hb9⟩

set_option maxRecDepth 100000 in
set_option maxHeartbeats 4000000 in
theorem s_X11_bestBorne : ∀ av σ Q, w_X11_bestBorne av σ Q → amCall 6 0 0 TT yX11_bestBorne cX11_bestBorne 5 (some .int) av σ Q := by
  rintro av σ Q ⟨rfl, hst, hse, h9, hsi, h⟩
  have hB := hst.2.1
  have c1 := pcnt_b hB 1
  have c2 := pcnt_b hB 2
  have e1 : (21 : Int) + 2 = 23 := rfl
  have mvb : ∀ p, 0 ≤ bMv σ p ∧ bMv σ p ≤ 6000 := fun p => by
    have := sumC_b (f := pFl σ 21 p) (c := 891) (n := (pcnt σ 6 2).toNat) (fun j j0 j1 => pFl_b (a := 21) hB (h9 p) j0 (by omega))
    unfold bMv; omega
  refine am_m [6] (inv_bb σ) (own := RX11) (A := look a_X11_bestBorne) (fun X e1 e2 hB => o_X11_bestBorne e1 e2 hB) rfl (by decide +kernel) rfl rfl ?_ ⟨60, ?_⟩ (w := 5)
  · rintro n pc ls st σ' ⟨rfl, rfl, hF, k, v4, rfl, hk⟩
    have pc1 : pcnt σ' 6 1 = pcnt σ 6 1 := SF_pcnt hF 1
    have pc2 : pcnt σ' 6 2 = pcnt σ 6 2 := SF_pcnt hF 2
    have pc3 : pcnt σ' 6 3 = pcnt σ 6 3 := SF_pcnt hF 3
    have r23 : σ' 23 = σ 23 := SF_r hF (by omega)
    have bb := bbR_b (ob := bOb σ) mvb k
    have hst' := stOk_SF hF hst
    have h9k := h9 k
    refine ⟨60, ?_⟩
    simp only [↓reduceIte, inR_0, inR_1, inR_m, vSw2_e, swP_n, swP_c, vI_e, vL_e, vNull_e, vIload_e, vLload_e, vAload_e, vIstore_e, vLstore_e, vAstore_e, vIinc_e, vIadd_e, vIsub_e, vImul_e, vIand_e, vIor_e, vIxor_e, vIshl_e, vIshr_e, vIushr_e, vIdiv_e, vIrem_e, vLadd_e, vLsub_e, vLmul_e, vLand_e, vLor_e, vLxor_e, vLdiv_e, vLrem_e, vLushr_e, vLshl_e, vLcmp_e, vIneg_e, vI2l_e, vL2i_e, vI2b_e, vI2c_e, vDup_e, vPop_e, vDup2_e, vGoto_e, vIcEq_e, vIfEq_e, vIcNe_e, vIfNe_e, vIcLt_e, vIfLt_e, vIcGe_e, vIfGe_e, vIcGt_e, vIfGt_e, vIcLe_e, vIfLe_e, vNonnull_e, vSw_e, vGetI_e, vGetL_e, vGetR_e, vPutI_e, vPutZ_e, vPutL_e, vPutR_e, vIald_e, vIald_s, vLald_e, vBald_e, vBald_s, vAald_e, vIast_e, vLast_e, vBast_e, vAast_e, vAlen_e8, vAlen_e9, vAlen_e10, vAlen_e11, vAlen_e5, vAlen_e3, vGets_e, vCompact_e, vLdcS_e, vIret_e, vZret_e, vCret_e, vBret_e, vLret_e, vVret_e, vAret_e, vCallM_e0, vCallMV_e0, vCallS_e0, vCallSV_e0, vCallM_e1, vCallMV_e1, vCallS_e1, vCallSV_e1, vCallM_e2, vCallMV_e2, vCallS_e2, vCallSV_e2, vCallM_e3, vCallMV_e3, vCallS_e3, vCallSV_e3, vCallM_e4, vCallMV_e4, vCallS_e4, vCallSV_e4, vCallM_e5, vCallMV_e5, vCallS_e5, vCallSV_e5, vCallM_e6, vCallMV_e6, vCallS_e6, vCallSV_e6, vCallM_e7, vCallMV_e7, vCallS_e7, vCallSV_e7, vBad_e, vStrVal_e, vStrCod_e, vForm_e, vCallT_e0, vCallT_e1, vCallT_e2, vCopy_e, rf_0_0, rf_0_1, rf_0_2, rf_0_3, rf_0_4, rf_0_7, rf_0_10, rf_0_11, rf_0_12, rf_0_13, rf_0_14, rf_0_15, rf_0_16, rf_1_0, rf_3_0, rf_3_1, rf_6_0, rf_6_1, rf_9_0, rf_9_1, rf_9_3, rf_13_0, rf_13_1, rf_13_2, rf_16_0, rf_16_1, rf_16_2, rf_16_3, rf_21_0, rf_21_1, rf_21_2, rf_21_3, rf_26_0, rf_26_1, rf_26_2, rf_26_3, rf_26_4, rf_26_5, rf_26_6, rf_31_0, rf_31_2, rf_31_5, rf_31_6, rf_36_0, rf_36_1, rf_36_2, rf_36_3, rf_39_0, rf_39_1, rf_39_2, rf_41_0, rf_41_1, rf_41_2, rf_41_3, rf_5000_1, rf_5000_2, rf_5000_3, rf_5000_4, rf_5000_5, rf_5000_15, rf_5000_16, rf_5000_18, rf_5000_19, rf_5000_20, rf_5000_21, rf_5000_22, rf_5000_23, rf_5000_24, rf_5000_25, rf_5000_26, rf_5000_27, rf_5000_36, rf_5000_37, rf_5000_40, rf_5000_41, rf_5000_42, rf_5000_43, rf_5000_44, rf_5000_45, rf_5000_47, rf_5000_52, rf_5000_54, rf_5000_55, rf_100_0, rf_100_1, rf_103_0, rf_103_1, rf_106_0, rf_106_1, rf_109_0, rf_109_1, al_2, al_4, al_5, al_7, al_8, al_10, al_11, al_12, al_14, al_15, al_17, al_18, al_19, al_20, al_22, al_23, al_24, al_25, al_27, al_28, al_29, al_30, al_32, al_33, al_34, al_35, al_37, al_38, al_40, al_42, al_5001, al_5002, al_5003, al_5004, al_5005, al_5006, al_5007, al_5008, al_5009, al_5010, al_5011, al_5012, al_5013, al_5014, al_5015, al_5016, al_5017, al_5018, al_5019, al_5020, al_5021, al_5022, al_5023, al_5024, al_5025, al_5026, al_9000, al_101, al_102, al_104, al_105, al_107, al_108, al_110, al_111, vcs_e, lg_c0, lg_cs, lg_nil, set_c0, set_cs, okst_0, okst_s, acok_n, acok_c, List.contains_nil, List.contains_cons, Bool.or_false, Bool.false_or, Bool.false_eq_true, if_false, if_true, ite_self, ne_eq, true_and, and_true, not_false_eq_true, not_true_eq_false, false_imp_iff, true_imp_iff, Nat.ble_eq, Bool.and_eq_true, reduceCtorEq, or_false, false_or, or_true, true_or, false_and, and_false, and_self, Int.reduceLE, Int.reduceAdd, Int.reduceSub, Int.reduceMul, Int.reduceNeg, Int.reduceLT, Int.reduceEq, Int.reduceNe, Nat.reduceBEq, Nat.reduceBNe, Nat.reduceEqDiff, amCmp_in, amCmp_lt, amCmp_le, amCmp_gt, amCmp_ge, amCmp_eq, amCmp_ne, Nat.reduceLeDiff, Nat.reduceSub, Bool.and_true, Bool.true_and, Bool.and_self, Bool.or_true, Bool.true_or, isRf_3, isRf_4, isRf_5, isRf_8, isRf_9, isRf_10, isRf_11, isRf_15, isRf_16, isRf_17, isRf_18, isRf_19, isRf_20, isRf_21, isRf_22, isRf_23, isRf_24, isRf_25, isRf_26, isRf_27, isRf_28, k_X11_bestBorne_0, k_X11_bestBorne_1, k_X11_bestBorne_2, k_X11_bestBorne_3, k_X11_bestBorne_4, k_X11_bestBorne_5, k_X11_bestBorne_6, k_X11_bestBorne_7, k_X11_bestBorne_8, k_X11_bestBorne_11, k_X11_bestBorne_12, k_X11_bestBorne_15, k_X11_bestBorne_18, k_X11_bestBorne_19, k_X11_bestBorne_22, k_X11_bestBorne_23, k_X11_bestBorne_26, k_X11_bestBorne_27, k_X11_bestBorne_30, k_X11_bestBorne_31, k_X11_bestBorne_34, k_X11_bestBorne_37, k_X11_bestBorne_39, k_X11_bestBorne_40, k_X11_bestBorne_43, k_X11_bestBorne_46, k_X11_bestBorne_49, k_X11_bestBorne_51, k_X11_bestBorne_52, k_X11_bestBorne_55, k_X11_bestBorne_57, k_X11_bestBorne_58, k_X11_bestBorne_59, k_X11_bestBorne_60, k_X11_bestBorne_63, k_X11_bestBorne_66, k_X11_bestBorne_67, w_X6_many_e, w_X9_allFelt_e, w_X9_outBits_e, w_X9_playAll_e, pc1, pc2, pc3, r23, e1, SF_pval hF]
    by_cases hlt : (k : Int) < pcnt σ 6 1
    · have key : ∀ τ, SF σ' τ → (∀ i, 0 ≤ i → i < 6 → τ 29 i = if i < pcnt σ 6 2 ∧ 0 ≤ σ 23 i ∧ σ 23 i < pcnt σ 6 3 then pFl σ' 21 k i else σ' 29 i) → (∀ i, 0 ≤ i → i < 6 → τ 30 i = if i < pcnt σ 6 2 ∧ 0 ≤ σ 23 i ∧ σ 23 i < pcnt σ 6 3 then pOa σ' 21 k i else σ' 30 i) → pcnt τ 6 2 = pcnt σ 6 2 ∧ sumC (τ 29) (pcnt σ 6 2).toNat = bMv σ k ∧ outB (τ 30) (pcnt σ 6 2).toNat = bOb σ k ∧ (∀ i, 0 ≤ i → i < pcnt σ 6 2 → InR (τ 30 i)) ∧ (bOb σ k = 0 → (bbR (bMv σ) (bOb σ) k).2 < bMv σ k → ∃ k', k' < n ∧ inv_bb σ k' 6 [(27, 0), (0, (k : Int)), (0, bMv σ k), (0, (k : Int) + 1), (0, bMv σ k)] [] τ) ∧ (¬ (bOb σ k = 0 ∧ (bbR (bMv σ) (bOb σ) k).2 < bMv σ k) → ∃ k', k' < n ∧ inv_bb σ k' 6 [(27, 0), (0, (bbR (bMv σ) (bOb σ) k).1), (0, (bbR (bMv σ) (bOb σ) k).2), (0, (k : Int) + 1), (0, bMv σ k)] [] τ) ∧ 0 ≤ bOb σ k ∧ bOb σ k < 64 := fun τ q1 q2 q3 => by
        have f29 : ∀ i, 0 ≤ i → i < pcnt σ 6 2 → τ 29 i = pFl σ 21 k i ∧ τ 30 i = pOa σ 21 k i := fun i i0 i1 => by
          have := SW_pFl (SF_SW hF) hst k i
          rw [q2 i i0 (by omega), q3 i i0 (by omega), if_pos ⟨i1, hsi i i0 i1⟩, if_pos ⟨i1, hsi i i0 i1⟩]
          exact this
        have es : bbR (bMv σ) (bOb σ) (k + 1) = if bOb σ k = 0 ∧ (bbR (bMv σ) (bOb σ) k).2 < bMv σ k then ((k : Int), bMv σ k) else bbR (bMv σ) (bOb σ) k := rfl
        refine ⟨by rw [SF_pcnt q1 2]; exact pc2, sumC_cong (fun i i0 i1 => (f29 i i0 (by omega)).1), outB_cong (fun i i0 i1 => (f29 i i0 (by omega)).2), fun i i0 i1 => ?_, fun g1 g2 => ?_, fun g => ?_, gb_64 _ (by omega)⟩
        · rw [(f29 i i0 i1).2]; have := pOa_b (a := 21) (i := i) hB h9k; exact ⟨by omega, by omega⟩
        · rw [if_pos ⟨g1, g2⟩] at es
          exact ⟨n - 1, by omega, rfl, rfl, SF_tr hF q1, k + 1, _, by rw [es]; rfl, by omega⟩
        · rw [if_neg g] at es
          exact ⟨n - 1, by omega, rfl, rfl, SF_tr hF q1, k + 1, _, by rw [es]; rfl, by omega⟩
      have mk := mvb k
      refine ⟨isP6, ⟨by omega, by omega⟩, ⟨by omega, by omega⟩, fun g => by omega, fun _ => ⟨hst', ⟨by omega, by omega⟩, h9k, hse, fun τ q1 q2 q3 => ?_⟩⟩
      obtain ⟨z1, z2, z3, z4, z5, z6, z7, z8⟩ := key τ q1 q2 q3
      simp only [z1, z2, z3]
      by_cases cg : bOb σ k = 0 ∧ (bbR (bMv σ) (bOb σ) k).2 < bMv σ k
      · have i9 := z5 cg.1 cg.2
        repeat' (first | assumption | apply And.intro | intro _)
        all_goals first | omega | exact absurd trivial (by assumption) | exact i9
      · have i9 := z6 cg
        repeat' (first | assumption | apply And.intro | intro _)
        all_goals first | omega | exact absurd trivial (by assumption) | exact i9
    · rw [show (pcnt σ 6 1).toNat = k by omega] at h
      have hh := h σ' hF
      repeat' (first | assumption | apply And.intro | intro _)
      all_goals first | omega | exact absurd trivial (by assumption) | exact isP6 | exact hh
  · change vcs _ _ _ _ 60 0 [(27, 0), (6, 0), (6, 0), (6, 0), (6, 0)] [] σ
    simp only [↓reduceIte, inR_0, inR_1, inR_m, vI_e, vL_e, vNull_e, vIload_e, vLload_e, vAload_e, vIstore_e, vLstore_e, vAstore_e, vIinc_e, vIadd_e, vIsub_e, vImul_e, vIand_e, vIor_e, vIxor_e, vIshl_e, vIshr_e, vIushr_e, vIdiv_e, vIrem_e, vLadd_e, vLsub_e, vLmul_e, vLand_e, vLor_e, vLxor_e, vLdiv_e, vLrem_e, vLushr_e, vLshl_e, vLcmp_e, vIneg_e, vI2l_e, vL2i_e, vI2b_e, vI2c_e, vDup_e, vPop_e, vDup2_e, vGoto_e, vIcEq_e, vIfEq_e, vIcNe_e, vIfNe_e, vIcLt_e, vIfLt_e, vIcGe_e, vIfGe_e, vIcGt_e, vIfGt_e, vIcLe_e, vIfLe_e, vNonnull_e, vSw_e, vGetI_e, vGetL_e, vGetR_e, vPutI_e, vPutZ_e, vPutL_e, vPutR_e, vIald_e, vIald_s, vLald_e, vBald_e, vBald_s, vAald_e, vIast_e, vLast_e, vBast_e, vAast_e, vAlen_e8, vAlen_e9, vAlen_e10, vAlen_e11, vAlen_e5, vAlen_e3, vGets_e, vCompact_e, vLdcS_e, vIret_e, vZret_e, vCret_e, vBret_e, vLret_e, vVret_e, vAret_e, vCallM_e0, vCallMV_e0, vCallS_e0, vCallSV_e0, vCallM_e1, vCallMV_e1, vCallS_e1, vCallSV_e1, vCallM_e2, vCallMV_e2, vCallS_e2, vCallSV_e2, vCallM_e3, vCallMV_e3, vCallS_e3, vCallSV_e3, vCallM_e4, vCallMV_e4, vCallS_e4, vCallSV_e4, vCallM_e5, vCallMV_e5, vCallS_e5, vCallSV_e5, vCallM_e6, vCallMV_e6, vCallS_e6, vCallSV_e6, vCallM_e7, vCallMV_e7, vCallS_e7, vCallSV_e7, vBad_e, vStrVal_e, vStrCod_e, vForm_e, vCallT_e0, vCallT_e1, vCallT_e2, vCopy_e, rf_0_0, rf_0_1, rf_0_2, rf_0_3, rf_0_4, rf_0_7, rf_0_10, rf_0_11, rf_0_12, rf_0_13, rf_0_14, rf_0_15, rf_0_16, rf_1_0, rf_3_0, rf_3_1, rf_6_0, rf_6_1, rf_9_0, rf_9_1, rf_9_3, rf_13_0, rf_13_1, rf_13_2, rf_16_0, rf_16_1, rf_16_2, rf_16_3, rf_21_0, rf_21_1, rf_21_2, rf_21_3, rf_26_0, rf_26_1, rf_26_2, rf_26_3, rf_26_4, rf_26_5, rf_26_6, rf_31_0, rf_31_2, rf_31_5, rf_31_6, rf_36_0, rf_36_1, rf_36_2, rf_36_3, rf_39_0, rf_39_1, rf_39_2, rf_41_0, rf_41_1, rf_41_2, rf_41_3, rf_5000_1, rf_5000_2, rf_5000_3, rf_5000_4, rf_5000_5, rf_5000_15, rf_5000_16, rf_5000_18, rf_5000_19, rf_5000_20, rf_5000_21, rf_5000_22, rf_5000_23, rf_5000_24, rf_5000_25, rf_5000_26, rf_5000_27, rf_5000_36, rf_5000_37, rf_5000_40, rf_5000_41, rf_5000_42, rf_5000_43, rf_5000_44, rf_5000_45, rf_5000_47, rf_5000_52, rf_5000_54, rf_5000_55, rf_100_0, rf_100_1, rf_103_0, rf_103_1, rf_106_0, rf_106_1, rf_109_0, rf_109_1, al_2, al_4, al_5, al_7, al_8, al_10, al_11, al_12, al_14, al_15, al_17, al_18, al_19, al_20, al_22, al_23, al_24, al_25, al_27, al_28, al_29, al_30, al_32, al_33, al_34, al_35, al_37, al_38, al_40, al_42, al_5001, al_5002, al_5003, al_5004, al_5005, al_5006, al_5007, al_5008, al_5009, al_5010, al_5011, al_5012, al_5013, al_5014, al_5015, al_5016, al_5017, al_5018, al_5019, al_5020, al_5021, al_5022, al_5023, al_5024, al_5025, al_5026, al_9000, al_101, al_102, al_104, al_105, al_107, al_108, al_110, al_111, vcs_e, lg_c0, lg_cs, lg_nil, set_c0, set_cs, okst_0, okst_s, acok_n, acok_c, List.contains_nil, List.contains_cons, Bool.or_false, Bool.false_or, Bool.false_eq_true, if_false, if_true, ite_self, ne_eq, true_and, and_true, not_false_eq_true, not_true_eq_false, false_imp_iff, true_imp_iff, Nat.ble_eq, Bool.and_eq_true, reduceCtorEq, or_false, false_or, or_true, true_or, false_and, and_false, and_self, Int.reduceLE, Int.reduceAdd, Int.reduceSub, Int.reduceMul, Int.reduceNeg, Int.reduceLT, Int.reduceEq, Int.reduceNe, Nat.reduceBEq, Nat.reduceBNe, Nat.reduceEqDiff, amCmp_in, amCmp_lt, amCmp_le, amCmp_gt, amCmp_ge, amCmp_eq, amCmp_ne, Nat.reduceLeDiff, Nat.reduceSub, Bool.and_true, Bool.true_and, Bool.and_self, Bool.or_true, Bool.true_or, isRf_3, isRf_4, isRf_5, isRf_8, isRf_9, isRf_10, isRf_11, isRf_15, isRf_16, isRf_17, isRf_18, isRf_19, isRf_20, isRf_21, isRf_22, isRf_23, isRf_24, isRf_25, isRf_26, isRf_27, isRf_28, k_X11_bestBorne_0, k_X11_bestBorne_1, k_X11_bestBorne_2, k_X11_bestBorne_3, k_X11_bestBorne_4, k_X11_bestBorne_5, k_X11_bestBorne_6, k_X11_bestBorne_7, k_X11_bestBorne_8, k_X11_bestBorne_11, k_X11_bestBorne_12, k_X11_bestBorne_15, k_X11_bestBorne_18, k_X11_bestBorne_19, k_X11_bestBorne_22, k_X11_bestBorne_23, k_X11_bestBorne_26, k_X11_bestBorne_27, k_X11_bestBorne_30, k_X11_bestBorne_31, k_X11_bestBorne_34, k_X11_bestBorne_37, k_X11_bestBorne_39, k_X11_bestBorne_40, k_X11_bestBorne_43, k_X11_bestBorne_46, k_X11_bestBorne_49, k_X11_bestBorne_51, k_X11_bestBorne_52, k_X11_bestBorne_55, k_X11_bestBorne_57, k_X11_bestBorne_58, k_X11_bestBorne_59, k_X11_bestBorne_60, k_X11_bestBorne_63, k_X11_bestBorne_66, k_X11_bestBorne_67]
    exact ⟨(pcnt σ 6 1).toNat, rfl, rfl, SF_rf σ, 0, _, rfl, by omega⟩
