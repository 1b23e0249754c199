/-! from the law's entry to its loop; kinds with the references that the constructors laid -/
theorem T0_tg (a : Int) : tg (T0 a) = tg (TT a) := by
  unfold T0 noC
  cases TT a <;> rfl
theorem crf_ok {f : Int → Int} : ∀ (l : List (Nat × Int)), (∀ q ∈ l, f (q.1 : Nat) = q.2) → ∀ k : Nat, (crf l k).getD (f k) = f k := by
  intro l h k
  unfold crf
  cases hf : l.find? (fun q => q.1 == k) with
  | none => rfl
  | some q =>
    have h1 := h q (List.mem_of_find?_eq_some hf)
    have h2 := List.find?_some hf
    have h3 : q.1 = k := by simpa using h2
    show q.2 = f k
    rw [← h1, h3]
theorem skd_o {a : Int} {c : Nat} {l : List (Nat × Int)} (h : TT a = .inl (c, crf l)) (hl : ∀ q ∈ l, M0 a (q.1 : Nat) = q.2) : skd T0 TT M0 a := Or.inr ⟨c, fun _ => none, crf l, by unfold T0; rw [h]; rfl, h, fun k _ => by rw [crf_ok l hl k]; rfl⟩
theorem skd_a {a : Int} {x : Nat × Int} (h : TT a = .inr x) : skd T0 TT M0 a := Or.inl (by unfold T0; rw [h]; rfl)
theorem sq_0 : skd T0 TT M0 0 := skd_o (c := 11) (l := [(0, 1), (1, 3), (2, 6), (3, 9), (4, 12), (7, 13), (10, 16), (11, 21), (12, 26), (13, 31), (14, 36), (15, 39), (16, 41)]) rfl (by
  intro q hq
  simp only [List.mem_cons, List.not_mem_nil, or_false] at hq
  rcases hq with rfl | rfl | rfl | rfl | rfl | rfl | rfl | rfl | rfl | rfl | rfl | rfl | rfl
  · exact m0_0_0
  · exact m0_0_1
  · exact m0_0_2
  · exact m0_0_3
  · exact m0_0_4
  · exact m0_0_7
  · exact m0_0_10
  · exact m0_0_11
  · exact m0_0_12
  · exact m0_0_13
  · exact m0_0_14
  · exact m0_0_15
  · exact m0_0_16)
theorem sq_1 : skd T0 TT M0 1 := skd_o (c := 10) (l := [(0, 2)]) rfl (by
  intro q hq
  simp only [List.mem_cons, List.not_mem_nil, or_false] at hq
  rcases hq with rfl
  · exact m0_1_0)
theorem sq_2 : skd T0 TT M0 2 := skd_a (x := (8, 240)) rfl
theorem sq_3 : skd T0 TT M0 3 := skd_o (c := 6) (l := [(0, 4), (1, 5)]) rfl (by
  intro q hq
  simp only [List.mem_cons, List.not_mem_nil, or_false] at hq
  rcases hq with rfl | rfl
  · exact m0_3_0
  · exact m0_3_1)
theorem sq_4 : skd T0 TT M0 4 := skd_a (x := (8, 68)) rfl
theorem sq_5 : skd T0 TT M0 5 := skd_a (x := (8, 4)) rfl
theorem sq_6 : skd T0 TT M0 6 := skd_o (c := 6) (l := [(0, 7), (1, 8)]) rfl (by
  intro q hq
  simp only [List.mem_cons, List.not_mem_nil, or_false] at hq
  rcases hq with rfl | rfl
  · exact m0_6_0
  · exact m0_6_1)
theorem sq_7 : skd T0 TT M0 7 := skd_a (x := (8, 68)) rfl
theorem sq_8 : skd T0 TT M0 8 := skd_a (x := (8, 4)) rfl
theorem sq_9 : skd T0 TT M0 9 := skd_o (c := 3) (l := [(0, 1), (1, 10), (3, 11)]) rfl (by
  intro q hq
  simp only [List.mem_cons, List.not_mem_nil, or_false] at hq
  rcases hq with rfl | rfl | rfl
  · exact m0_9_0
  · exact m0_9_1
  · exact m0_9_3)
theorem sq_10 : skd T0 TT M0 10 := skd_a (x := (8, 241)) rfl
theorem sq_11 : skd T0 TT M0 11 := skd_a (x := (8, 64)) rfl
theorem sq_12 : skd T0 TT M0 12 := skd_a (x := (11, 4)) rfl
theorem sq_13 : skd T0 TT M0 13 := skd_o (c := 7) (l := [(0, 1), (1, 14), (2, 15)]) rfl (by
  intro q hq
  simp only [List.mem_cons, List.not_mem_nil, or_false] at hq
  rcases hq with rfl | rfl | rfl
  · exact m0_13_0
  · exact m0_13_1
  · exact m0_13_2)
theorem sq_14 : skd T0 TT M0 14 := skd_a (x := (8, 240)) rfl
theorem sq_15 : skd T0 TT M0 15 := skd_a (x := (8, 5)) rfl
theorem sq_16 : skd T0 TT M0 16 := skd_o (c := 0) (l := [(0, 17), (1, 18), (2, 19), (3, 20)]) rfl (by
  intro q hq
  simp only [List.mem_cons, List.not_mem_nil, or_false] at hq
  rcases hq with rfl | rfl | rfl | rfl
  · exact m0_16_0
  · exact m0_16_1
  · exact m0_16_2
  · exact m0_16_3)
theorem sq_17 : skd T0 TT M0 17 := skd_a (x := (8, 6)) rfl
theorem sq_18 : skd T0 TT M0 18 := skd_a (x := (8, 6)) rfl
theorem sq_19 : skd T0 TT M0 19 := skd_a (x := (8, 6)) rfl
theorem sq_20 : skd T0 TT M0 20 := skd_a (x := (8, 6)) rfl
theorem sq_21 : skd T0 TT M0 21 := skd_o (c := 0) (l := [(0, 22), (1, 23), (2, 24), (3, 25)]) rfl (by
  intro q hq
  simp only [List.mem_cons, List.not_mem_nil, or_false] at hq
  rcases hq with rfl | rfl | rfl | rfl
  · exact m0_21_0
  · exact m0_21_1
  · exact m0_21_2
  · exact m0_21_3)
theorem sq_22 : skd T0 TT M0 22 := skd_a (x := (8, 6)) rfl
theorem sq_23 : skd T0 TT M0 23 := skd_a (x := (8, 6)) rfl
theorem sq_24 : skd T0 TT M0 24 := skd_a (x := (8, 6)) rfl
theorem sq_25 : skd T0 TT M0 25 := skd_a (x := (8, 6)) rfl
theorem sq_26 : skd T0 TT M0 26 := skd_o (c := 9) (l := [(0, 6), (2, 27), (3, 28), (4, 29), (5, 30)]) rfl (by
  intro q hq
  simp only [List.mem_cons, List.not_mem_nil, or_false] at hq
  rcases hq with rfl | rfl | rfl | rfl | rfl
  · exact m0_26_0
  · exact m0_26_2
  · exact m0_26_3
  · exact m0_26_4
  · exact m0_26_5)
theorem sq_27 : skd T0 TT M0 27 := skd_a (x := (8, 6)) rfl
theorem sq_28 : skd T0 TT M0 28 := skd_a (x := (8, 324)) rfl
theorem sq_29 : skd T0 TT M0 29 := skd_a (x := (8, 6)) rfl
theorem sq_30 : skd T0 TT M0 30 := skd_a (x := (8, 6)) rfl
theorem sq_31 : skd T0 TT M0 31 := skd_o (c := 5) (l := [(0, 32), (2, 33), (5, 34), (6, 35)]) rfl (by
  intro q hq
  simp only [List.mem_cons, List.not_mem_nil, or_false] at hq
  rcases hq with rfl | rfl | rfl | rfl
  · exact m0_31_0
  · exact m0_31_2
  · exact m0_31_5
  · exact m0_31_6)
theorem sq_32 : skd T0 TT M0 32 := skd_a (x := (8, 128)) rfl
theorem sq_33 : skd T0 TT M0 33 := skd_a (x := (8, 1120)) rfl
theorem sq_34 : skd T0 TT M0 34 := skd_a (x := (8, 27)) rfl
theorem sq_35 : skd T0 TT M0 35 := skd_a (x := (8, 60)) rfl
theorem sq_36 : skd T0 TT M0 36 := skd_o (c := 8) (l := [(0, 6), (1, 26), (2, 37), (3, 38)]) rfl (by
  intro q hq
  simp only [List.mem_cons, List.not_mem_nil, or_false] at hq
  rcases hq with rfl | rfl | rfl | rfl
  · exact m0_36_0
  · exact m0_36_1
  · exact m0_36_2
  · exact m0_36_3)
theorem sq_37 : skd T0 TT M0 37 := skd_a (x := (9, 64)) rfl
theorem sq_38 : skd T0 TT M0 38 := skd_a (x := (9, 64)) rfl
theorem sq_39 : skd T0 TT M0 39 := skd_o (c := 4) (l := [(0, 6), (1, 26), (2, 40)]) rfl (by
  intro q hq
  simp only [List.mem_cons, List.not_mem_nil, or_false] at hq
  rcases hq with rfl | rfl | rfl
  · exact m0_39_0
  · exact m0_39_1
  · exact m0_39_2)
theorem sq_40 : skd T0 TT M0 40 := skd_a (x := (8, 24)) rfl
theorem sq_41 : skd T0 TT M0 41 := skd_o (c := 1) (l := [(0, 6), (1, 26), (2, 16), (3, 42)]) rfl (by
  intro q hq
  simp only [List.mem_cons, List.not_mem_nil, or_false] at hq
  rcases hq with rfl | rfl | rfl | rfl
  · exact m0_41_0
  · exact m0_41_1
  · exact m0_41_2
  · exact m0_41_3)
theorem sq_42 : skd T0 TT M0 42 := skd_a (x := (8, 50)) rfl
theorem sq_5000 : skd T0 TT M0 5000 := skd_o (c := 12) (l := [(1, 5001), (2, 5002), (3, 5003), (4, 5004), (15, 20004), (16, 20005), (18, 5005), (19, 5006), (20, 5007), (21, 5008), (22, 5009), (23, 5010), (24, 5011), (25, 5012), (26, 5013), (27, 5014), (36, 5015), (37, 5016), (40, 5017), (41, 5018), (42, 5019), (43, 5020), (44, 5021), (45, 5022), (47, 5023), (52, 5024), (54, 5025), (55, 5026)]) rfl (by
  intro q hq
  simp only [List.mem_cons, List.not_mem_nil, or_false] at hq
  rcases hq with rfl | rfl | rfl | rfl | rfl | rfl | rfl | rfl | rfl | rfl | rfl | rfl | rfl | rfl | rfl | rfl | rfl | rfl | rfl | rfl | rfl | rfl | rfl | rfl | rfl | rfl | rfl | rfl
  · exact m0_5000_1
  · exact m0_5000_2
  · exact m0_5000_3
  · exact m0_5000_4
  · exact m0_5000_15
  · exact m0_5000_16
  · exact m0_5000_18
  · exact m0_5000_19
  · exact m0_5000_20
  · exact m0_5000_21
  · exact m0_5000_22
  · exact m0_5000_23
  · exact m0_5000_24
  · exact m0_5000_25
  · exact m0_5000_26
  · exact m0_5000_27
  · exact m0_5000_36
  · exact m0_5000_37
  · exact m0_5000_40
  · exact m0_5000_41
  · exact m0_5000_42
  · exact m0_5000_43
  · exact m0_5000_44
  · exact m0_5000_45
  · exact m0_5000_47
  · exact m0_5000_52
  · exact m0_5000_54
  · exact m0_5000_55)
theorem sq_5001 : skd T0 TT M0 5001 := skd_a (x := (10, 240)) rfl
theorem sq_5002 : skd T0 TT M0 5002 := skd_a (x := (10, 960)) rfl
theorem sq_5003 : skd T0 TT M0 5003 := skd_a (x := (8, 4)) rfl
theorem sq_5004 : skd T0 TT M0 5004 := skd_a (x := (8, 128)) rfl
theorem sq_5005 : skd T0 TT M0 5005 := skd_a (x := (8, 2)) rfl
theorem sq_5006 : skd T0 TT M0 5006 := skd_a (x := (8, 2)) rfl
theorem sq_5007 : skd T0 TT M0 5007 := skd_a (x := (8, 16)) rfl
theorem sq_5008 : skd T0 TT M0 5008 := skd_a (x := (8, 16)) rfl
theorem sq_5009 : skd T0 TT M0 5009 := skd_a (x := (8, 18)) rfl
theorem sq_5010 : skd T0 TT M0 5010 := skd_a (x := (8, 18)) rfl
theorem sq_5011 : skd T0 TT M0 5011 := skd_a (x := (8, 6)) rfl
theorem sq_5012 : skd T0 TT M0 5012 := skd_a (x := (8, 6)) rfl
theorem sq_5013 : skd T0 TT M0 5013 := skd_a (x := (8, 240)) rfl
theorem sq_5014 : skd T0 TT M0 5014 := skd_a (x := (8, 5)) rfl
theorem sq_5015 : skd T0 TT M0 5015 := skd_a (x := (8, 208)) rfl
theorem sq_5016 : skd T0 TT M0 5016 := skd_a (x := (8, 208)) rfl
theorem sq_5017 : skd T0 TT M0 5017 := skd_a (x := (9, 8191)) rfl
theorem sq_5018 : skd T0 TT M0 5018 := skd_a (x := (8, 8191)) rfl
theorem sq_5019 : skd T0 TT M0 5019 := skd_a (x := (8, 6)) rfl
theorem sq_5020 : skd T0 TT M0 5020 := skd_a (x := (8, 6)) rfl
theorem sq_5021 : skd T0 TT M0 5021 := skd_a (x := (8, 6)) rfl
theorem sq_5022 : skd T0 TT M0 5022 := skd_a (x := (8, 6)) rfl
theorem sq_5023 : skd T0 TT M0 5023 := skd_a (x := (8, 8320)) rfl
theorem sq_5024 : skd T0 TT M0 5024 := skd_a (x := (8, 50)) rfl
theorem sq_5025 : skd T0 TT M0 5025 := skd_a (x := (8, 72)) rfl
theorem sq_5026 : skd T0 TT M0 5026 := skd_a (x := (8, 208)) rfl
theorem sq_9000 : skd T0 TT M0 9000 := skd_a (x := (9, 1)) rfl
theorem sq_X : ∀ k : Nat, k < 43 → skd T0 TT M0 (k : Int) := by
  intro k hk
  match k, hk with
  | 0, _ => exact sq_0
  | 1, _ => exact sq_1
  | 2, _ => exact sq_2
  | 3, _ => exact sq_3
  | 4, _ => exact sq_4
  | 5, _ => exact sq_5
  | 6, _ => exact sq_6
  | 7, _ => exact sq_7
  | 8, _ => exact sq_8
  | 9, _ => exact sq_9
  | 10, _ => exact sq_10
  | 11, _ => exact sq_11
  | 12, _ => exact sq_12
  | 13, _ => exact sq_13
  | 14, _ => exact sq_14
  | 15, _ => exact sq_15
  | 16, _ => exact sq_16
  | 17, _ => exact sq_17
  | 18, _ => exact sq_18
  | 19, _ => exact sq_19
  | 20, _ => exact sq_20
  | 21, _ => exact sq_21
  | 22, _ => exact sq_22
  | 23, _ => exact sq_23
  | 24, _ => exact sq_24
  | 25, _ => exact sq_25
  | 26, _ => exact sq_26
  | 27, _ => exact sq_27
  | 28, _ => exact sq_28
  | 29, _ => exact sq_29
  | 30, _ => exact sq_30
  | 31, _ => exact sq_31
  | 32, _ => exact sq_32
  | 33, _ => exact sq_33
  | 34, _ => exact sq_34
  | 35, _ => exact sq_35
  | 36, _ => exact sq_36
  | 37, _ => exact sq_37
  | 38, _ => exact sq_38
  | 39, _ => exact sq_39
  | 40, _ => exact sq_40
  | 41, _ => exact sq_41
  | 42, _ => exact sq_42
  | k + 43, h => exact absurd h (by omega)
theorem sq_M : ∀ k : Nat, k < 27 → skd T0 TT M0 (5000 + (k : Int)) := by
  intro k hk
  match k, hk with
  | 0, _ => exact sq_5000
  | 1, _ => exact sq_5001
  | 2, _ => exact sq_5002
  | 3, _ => exact sq_5003
  | 4, _ => exact sq_5004
  | 5, _ => exact sq_5005
  | 6, _ => exact sq_5006
  | 7, _ => exact sq_5007
  | 8, _ => exact sq_5008
  | 9, _ => exact sq_5009
  | 10, _ => exact sq_5010
  | 11, _ => exact sq_5011
  | 12, _ => exact sq_5012
  | 13, _ => exact sq_5013
  | 14, _ => exact sq_5014
  | 15, _ => exact sq_5015
  | 16, _ => exact sq_5016
  | 17, _ => exact sq_5017
  | 18, _ => exact sq_5018
  | 19, _ => exact sq_5019
  | 20, _ => exact sq_5020
  | 21, _ => exact sq_5021
  | 22, _ => exact sq_5022
  | 23, _ => exact sq_5023
  | 24, _ => exact sq_5024
  | 25, _ => exact sq_5025
  | 26, _ => exact sq_5026
  | k + 27, h => exact absurd h (by omega)
theorem sq_all (a : Int) (h : M0 (-2) a = 1) : skd T0 TT M0 a := by
  rcases (liv_0 a).mp h with h | h | h | h
  · have := sq_X a.toNat (by omega)
    rwa [show ((a.toNat : Nat) : Int) = a by omega] at this
  · rw [m0_5000_7] at h; omega
  · have := sq_M (a - 5000).toNat (by omega)
    rwa [show 5000 + (((a - 5000).toNat : Nat) : Int) = a by omega] at this
  · rw [h]; exact sq_9000
theorem wd_27 : Cond.classLink RL 8 RX11 ∈ TBL := tb_tab (List.mem_of_getElem? (i := 27) (by decide +kernel)) rfl
theorem wd_28 : Cond.instantiable RX11 17 ∈ TBL := tb_tab (List.mem_of_getElem? (i := 28) (by decide +kernel)) rfl
theorem wd_30 : Cond.instanceMethod yX11_init ∈ TBL := tb_tab (List.mem_of_getElem? (i := 30) (by decide +kernel)) rfl
theorem wd_29 : Cond.methodLink RL 15 yX11_init ∈ TBL := tb_tab (List.mem_of_getElem? (i := 29) (by decide +kernel)) rfl
theorem wd_31 : Cond.code yX11_init cX11_init 1 (none) ∈ TBL := tb_tab (List.mem_of_getElem? (i := 31) (by decide +kernel)) rfl
theorem lk_L_15 : amLk RL 15 yX11_init cX11_init 1 (none) 0 := ⟨wd_29, wd_1, wd_31, by decide +kernel, by decide +kernel, by decide⟩
theorem wd_1297 : Cond.classLink RL 16 RX12 ∈ TBL := tb_tab (List.mem_of_getElem? (i := 1297) (by decide +kernel)) rfl
theorem wd_1298 : Cond.instantiable RX12 57 ∈ TBL := tb_tab (List.mem_of_getElem? (i := 1298) (by decide +kernel)) rfl
theorem wd_1300 : Cond.instanceMethod yX12_init ∈ TBL := tb_tab (List.mem_of_getElem? (i := 1300) (by decide +kernel)) rfl
theorem wd_1299 : Cond.methodLink RL 18 yX12_init ∈ TBL := tb_tab (List.mem_of_getElem? (i := 1299) (by decide +kernel)) rfl
theorem wd_1301 : Cond.code yX12_init cX12_init 1 (none) ∈ TBL := tb_tab (List.mem_of_getElem? (i := 1301) (by decide +kernel)) rfl
theorem lk_L_18 : amLk RL 18 yX12_init cX12_init 1 (none) 0 := ⟨wd_1299, wd_12, wd_1301, by decide +kernel, by decide +kernel, by decide⟩
def a_LP : AC := [(0, vNew T0 11 17 (fun ls σ => 0) 5000 400000 7 3), (3, vDup 4), (4, vCallI (w_X11_init) 27 0 42 2932 5000 400000 7 7), (7, vAstore 1 8), (8, vNew T0 12 57 (fun ls σ => 5000) 5000 400000 7 11), (11, vDup 12), (12, vCallI (w_X12_init) 28 0 26 27133 5000 400000 7 15), (15, vAstore 2 16), (16, vI 1 17), (17, vNewA T0 9 dfa (fun ls σ => 9000) 5000 400000 7 19), (19, vAstore 3 20), (20, vI 0 21), (21, vIstore 4 23)]
theorem k_LP_0 : look a_LP 0 = vNew T0 11 17 (fun ls σ => 0) 5000 400000 7 3 := rfl
theorem k_LP_3 : look a_LP 3 = vDup 4 := rfl
theorem k_LP_4 : look a_LP 4 = vCallI (w_X11_init) 27 0 42 2932 5000 400000 7 7 := rfl
theorem k_LP_7 : look a_LP 7 = vAstore 1 8 := rfl
theorem k_LP_8 : look a_LP 8 = vNew T0 12 57 (fun ls σ => 5000) 5000 400000 7 11 := rfl
theorem k_LP_11 : look a_LP 11 = vDup 12 := rfl
theorem k_LP_12 : look a_LP 12 = vCallI (w_X12_init) 28 0 26 27133 5000 400000 7 15 := rfl
theorem k_LP_15 : look a_LP 15 = vAstore 2 16 := rfl
theorem k_LP_16 : look a_LP 16 = vI 1 17 := rfl
theorem k_LP_17 : look a_LP 17 = vNewA T0 9 dfa (fun ls σ => 9000) 5000 400000 7 19 := rfl
theorem k_LP_19 : look a_LP 19 = vAstore 3 20 := rfl
theorem k_LP_20 : look a_LP 20 = vI 0 21 := rfl
theorem k_LP_21 : look a_LP 21 = vIstore 4 23 := rfl
theorem o_LP {Z : State → Prop} {X : amX} (e1 : XT X = T0) (e2 : XD X = 71) (e3 : XC X = 5000) (e4 : XS X = 400000) (hE : Elaw (Xn X) (Xst X)) (hB : amB X RL cL_law (some .boolean) 7) : ∀ pc, amOKZ Z X pc (look a_LP pc) := by
  refine look_okZ ?_
  unfold a_LP
  refine fcZ (oz_new hB e1 e3 e4 (c := 11) (C := RX11) (Tt := TX11) (N := 17) (ty := tyX11) rfl inT_11 tyX11_ok (by decide +kernel) wd_27 wd_28 wd_1 _ dL_law_0) ?_
  refine fcZ (oz_dup hB dL_law_3) ?_
  refine fcZ (oz_callI hB e3 e4 Elaw_m hE (fun av9 σ9 Q9 h9 => e1 ▸ s_X11_init av9 σ9 Q9 h9) lk_L_15 (by rw [e2]; decide) rfl (by decide) wd_30 dL_law_4) ?_
  refine fcZ (oz_astore_n hB (by decide) dL_law_7) ?_
  refine fcZ (oz_new hB e1 e3 e4 (c := 12) (C := RX12) (Tt := TX12) (N := 57) (ty := tyX12) rfl inT_12 tyX12_ok (by decide +kernel) wd_1297 wd_1298 wd_12 _ dL_law_8) ?_
  refine fcZ (oz_dup hB dL_law_11) ?_
  refine fcZ (oz_callI hB e3 e4 Eno_m trivial (fun av9 σ9 Q9 h9 => e1 ▸ s_X12_init av9 σ9 Q9 h9) lk_L_18 (by rw [e2]; decide) rfl (by decide) wd_1300 dL_law_12) ?_
  refine fcZ (oz_astore_n hB (by decide) dL_law_15) ?_
  refine fcZ (oz_iconst hB dL_law_16) ?_
  refine fcZ (oz_newA9 hB e1 e3 e4 wd_273 _ dL_law_17) ?_
  refine fcZ (oz_astore_n hB (by decide) dL_law_19) ?_
  refine fcZ (oz_iconst hB dL_law_20) ?_
  refine fcZ (oz_istore hB (by decide) dL_law_21) ?_
  exact fnZ
theorem nl_s {b : Int} (h0 : 0 ≤ b) (h1 : b < 20000) : nl σ00 b := ⟨h0, h1, by unfold σ00; decide⟩
theorem nl_11 {σ : Mem} {b : Int} (h : 43 ≤ b) (hn : nl σ b) : nl (ini11 σ) b := by
  refine ⟨hn.1, hn.2.1, fun h1 => ?_⟩
  have h2 := hn.2.2
  unfold ini11 ini10 ini6 ini3 ini7 ini0 ini9 ini5 ini8 ini4 ini1 at h1
  simp only [nm2, up2, Int.reduceLE, Int.reduceAdd] at h1
  omega
theorem nl_12 {σ : Mem} {b : Int} (h : 5027 ≤ b) (hn : nl σ b) : nl (ini12 σ 5000) b := by
  refine ⟨hn.1, hn.2.1, fun h1 => ?_⟩
  have h2 := hn.2.2
  unfold ini12 at h1
  simp only [nm2, up2, Int.reduceLE, Int.reduceAdd] at h1
  omega
theorem nl_nm {σ : Mem} {a b : Int} {f : Int → Int} (ha : 0 ≤ a) (h : b ≠ a) (hn : nl σ b) : nl (newm σ a f) b := by rw [nl_newm ha h]; exact hn
theorem isN_0 : isNO T0 0 11 := ⟨_, rfl, fun _ => rfl⟩
theorem isN_5 : isNO T0 5000 12 := ⟨_, rfl, fun _ => rfl⟩
theorem isN_9 : isNA T0 9000 9 1 := ⟨1, rfl, Or.inl rfl⟩
set_option maxRecDepth 100000 in
set_option maxHeartbeats 4000000 in
theorem law_pre {Z : State → Prop} {X : amX} (e1 : XT X = T0) (e2 : XD X = 71) (e3 : XC X = 5000) (e4 : XS X = 400000) (hE : Elaw (Xn X) (Xst X)) (hB : amB X RL cL_law (some .boolean) 7) (hI : amJZ Z X 23 [(5, 23000), (27, 0), (28, 5000), (9, 9000), (0, 0), (6, 0), (6, 0), (6, 71), (6, 30140)] [] M0) : amJZ Z X 0 [(5, 23000), (6, 0), (6, 0), (6, 0), (6, 0), (6, 0), (6, 0), (6, 0), (6, 0)] [] σ00 := by
  refine vcs_soundZ (A := look a_LP) (cuts := [23]) (I := fun pc ls st τ => pc = 23 ∧ st = [] ∧ τ = M0 ∧ ls = [(5, 23000), (27, 0), (28, 5000), (9, 9000), (0, 0), (6, 0), (6, 0), (6, 71), (6, 30140)]) (o_LP e1 e2 e3 e4 hE hB) (fun pc ls st τ h => ?_) 40 0 _ _ _ ?_
  · obtain ⟨rfl, rfl, rfl, rfl⟩ := h
    exact hI
  have n1 : ∀ j, 0 < j → j < 43 → nl (newm σ00 0 (dfv 11)) j := fun j j0 j1 => nl_nm (by decide) (by omega) (nl_s (by omega) (by omega))
  have n2 : ∀ j, 43 ≤ j → j < 20000 → nl (ini11 (newm σ00 0 (dfv 11))) j := fun j j0 j1 => nl_11 j0 (nl_nm (by decide) (by omega) (nl_s (by omega) (by omega)))
  have n3 : ∀ j, 5000 < j → j < 5027 → nl (newm (ini11 (newm σ00 0 (dfv 11))) 5000 (dfv 12)) j := fun j j0 j1 => nl_nm (by decide) (by omega) (n2 j (by omega) (by omega))
  have n4 : nl (ini12 (newm (ini11 (newm σ00 0 (dfv 11))) 5000 (dfv 12)) 5000) 9000 := nl_12 (by decide) (nl_nm (by decide) (by decide) (n2 _ (by decide) (by decide)))
  have n5 := n2 5000 (by decide) (by decide)
  have n6 := nl_s (b := 0) (by decide) (by decide)
  have f1 := isN_0
  have f2 := isN_5
  have f3 := isN_9
  simp only [vNew_e, vNewA_e, vCallI_e0, vCallI_e1, vCallI_e2, vCallI_e3, vCallMA_e0, vCallMA_e1, vCallSA_e2, vObj_e, cnt_e, List.length_cons, List.length_nil, Nat.zero_add, Nat.reduceAdd, Nat.reduceLT, Int.reduceAdd, Nat.reduceLeDiff, ↓reduceIte, vSw2_e, swP_n, swP_c, vI_e, vL_e, vNull_e, vIload_e, vLload_e, vAload_e, vIstore_e, vLstore_e, vAstore_e, vIinc_e, vIadd_e, vIsub_e, vImul_e, vIand_e, vIor_e, vIxor_e, vIshl_e, vIshr_e, vIushr_e, vIdiv_e, vIrem_e, vLadd_e, vLsub_e, vLmul_e, vLand_e, vLor_e, vLxor_e, vLdiv_e, vLrem_e, vLushr_e, vLshl_e, vLcmp_e, vIneg_e, vI2l_e, vL2i_e, vI2b_e, vI2c_e, vDup_e, vPop_e, vDup2_e, vGoto_e, vIcEq_e, vIfEq_e, vIcNe_e, vIfNe_e, vIcLt_e, vIfLt_e, vIcGe_e, vIfGe_e, vIcGt_e, vIfGt_e, vIcLe_e, vIfLe_e, vNonnull_e, vSw_e, vGetI_e, vGetL_e, vGetR_e, vPutI_e, vPutZ_e, vPutL_e, vPutR_e, vIald_e, vIald_s, vLald_e, vBald_e, vBald_s, vAald_e, vIast_e, vLast_e, vBast_e, vAast_e, vAlen_e8, vAlen_e9, vAlen_e10, vAlen_e11, vAlen_e5, vAlen_e3, vGets_e, vCompact_e, vLdcS_e, vIret_e, vZret_e, vCret_e, vBret_e, vLret_e, vVret_e, vAret_e, vCallM_e0, vCallMV_e0, vCallS_e0, vCallSV_e0, vCallM_e1, vCallMV_e1, vCallS_e1, vCallSV_e1, vCallM_e2, vCallMV_e2, vCallS_e2, vCallSV_e2, vCallM_e3, vCallMV_e3, vCallS_e3, vCallSV_e3, vCallM_e4, vCallMV_e4, vCallS_e4, vCallSV_e4, vCallM_e5, vCallMV_e5, vCallS_e5, vCallSV_e5, vCallM_e6, vCallMV_e6, vCallS_e6, vCallSV_e6, vCallM_e7, vCallMV_e7, vCallS_e7, vCallSV_e7, vBad_e, vStrVal_e, vStrCod_e, vForm_e, vCallT_e0, vCallT_e1, vCallT_e2, vCopy_e, rf_0_0, rf_0_1, rf_0_2, rf_0_3, rf_0_4, rf_0_7, rf_0_10, rf_0_11, rf_0_12, rf_0_13, rf_0_14, rf_0_15, rf_0_16, rf_1_0, rf_3_0, rf_3_1, rf_6_0, rf_6_1, rf_9_0, rf_9_1, rf_9_3, rf_13_0, rf_13_1, rf_13_2, rf_16_0, rf_16_1, rf_16_2, rf_16_3, rf_21_0, rf_21_1, rf_21_2, rf_21_3, rf_26_0, rf_26_1, rf_26_2, rf_26_3, rf_26_4, rf_26_5, rf_26_6, rf_31_0, rf_31_2, rf_31_5, rf_31_6, rf_36_0, rf_36_1, rf_36_2, rf_36_3, rf_39_0, rf_39_1, rf_39_2, rf_41_0, rf_41_1, rf_41_2, rf_41_3, rf_5000_1, rf_5000_2, rf_5000_3, rf_5000_4, rf_5000_5, rf_5000_15, rf_5000_16, rf_5000_18, rf_5000_19, rf_5000_20, rf_5000_21, rf_5000_22, rf_5000_23, rf_5000_24, rf_5000_25, rf_5000_26, rf_5000_27, rf_5000_36, rf_5000_37, rf_5000_40, rf_5000_41, rf_5000_42, rf_5000_43, rf_5000_44, rf_5000_45, rf_5000_47, rf_5000_52, rf_5000_54, rf_5000_55, rf_100_0, rf_100_1, rf_103_0, rf_103_1, rf_106_0, rf_106_1, rf_109_0, rf_109_1, al_2, al_4, al_5, al_7, al_8, al_10, al_11, al_12, al_14, al_15, al_17, al_18, al_19, al_20, al_22, al_23, al_24, al_25, al_27, al_28, al_29, al_30, al_32, al_33, al_34, al_35, al_37, al_38, al_40, al_42, al_5001, al_5002, al_5003, al_5004, al_5005, al_5006, al_5007, al_5008, al_5009, al_5010, al_5011, al_5012, al_5013, al_5014, al_5015, al_5016, al_5017, al_5018, al_5019, al_5020, al_5021, al_5022, al_5023, al_5024, al_5025, al_5026, al_9000, al_101, al_102, al_104, al_105, al_107, al_108, al_110, al_111, vcs_e, lg_c0, lg_cs, lg_nil, set_c0, set_cs, okst_0, okst_s, acok_n, acok_c, List.contains_nil, List.contains_cons, Bool.or_false, Bool.false_or, Bool.false_eq_true, if_false, if_true, ite_self, ne_eq, true_and, and_true, not_false_eq_true, not_true_eq_false, false_imp_iff, true_imp_iff, Nat.ble_eq, Bool.and_eq_true, reduceCtorEq, or_false, false_or, or_true, true_or, false_and, and_false, and_self, Int.reduceLE, Int.reduceAdd, Int.reduceSub, Int.reduceMul, Int.reduceNeg, Int.reduceLT, Int.reduceEq, Int.reduceNe, Nat.reduceBEq, Nat.reduceBNe, Nat.reduceEqDiff, amCmp_in, amCmp_lt, amCmp_le, amCmp_gt, amCmp_ge, amCmp_eq, amCmp_ne, Nat.reduceLeDiff, Nat.reduceSub, Bool.and_true, Bool.true_and, Bool.and_self, Bool.or_true, Bool.true_or, isRf_3, isRf_4, isRf_5, isRf_8, isRf_9, isRf_10, isRf_11, isRf_15, isRf_16, isRf_17, isRf_18, isRf_19, isRf_20, isRf_21, isRf_22, isRf_23, isRf_24, isRf_25, isRf_26, isRf_27, isRf_28, k_LP_0, k_LP_3, k_LP_4, k_LP_7, k_LP_8, k_LP_11, k_LP_12, k_LP_15, k_LP_16, k_LP_17, k_LP_19, k_LP_20, k_LP_21, w_X11_init_e, w_X12_init_e, up_s, up_nj, up_na, up_up, savR_o, cpy_o, fillm_o, setAud_o, setv_o, setv_s, Int.reduceNe, Int.reduceEq, Int.reduceLT, Int.reduceAdd, not_false_eq_true, ne_eq, or_true, true_or]
  repeat' (first | assumption | exact trivial | exact n3 _ (by decide) (by decide) | omega | exact rfl | apply And.intro | intro _)

