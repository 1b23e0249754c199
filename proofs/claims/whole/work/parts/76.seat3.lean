/-! Seating: the search -/
theorem SO_setb {m τ : Mem} {a t p b : Int} (hb : b = 37 ∨ b = 38 ∨ b = 40) (h : SO m τ a t p) (hs : stOk m a) (j v : Int) : SO (setv m b (upf (m b) j v)) (up τ b j v) a t p := by
  obtain ⟨⟨h1, h1'⟩, h2, h3, h4, h5⟩ := h
  have hw := SW_set (σ := m) hb (upf (m b) j v)
  obtain ⟨ra, ra1, -, -, -⟩ := SW_a hw hs.1
  refine ⟨⟨fun c g1 g2 g3 g4 g5 g6 g7 g8 g9 => ?_, ?_⟩, ?_, ?_, ?_, fun i n k a1 a2 a3 a4 a5 a6 => ?_⟩
  · by_cases e : c = b
    · subst e
      rw [setv_s, up_row, h1 c g1 g2 g3 g4 g5 g6 g7 g8 g9]
    · rw [setv_o _ _ e, up_na _ e]; exact h1 c g1 g2 g3 g4 g5 g6 g7 g8 g9
  · rw [setv_o _ _ (by omega), up_na _ (by omega)]; exact h1'
  · rw [up_na _ (by omega)]; exact h2
  · rw [up_na _ (by omega)]; exact h3
  · rw [up_na _ (by omega)]; exact h4
  · rw [up_na _ (by omega), SW_pval hw, SW_pval hw, ra, ra1, SW_rkV hw hs.2.2.1]
    exact h5 i n k a1 a2 a3 a4 a5 a6
def mTB (σ : Mem) (T B : Int → Int) : Mem := setv (setv σ 37 T) 38 B
theorem mTB_o (σ : Mem) (T B : Int → Int) {b : Int} (h7 : b ≠ 37) (h8 : b ≠ 38) : mTB σ T B b = σ b := by unfold mTB; rw [setv_o _ _ h8, setv_o _ _ h7]
theorem mTB_7 (σ : Mem) (T B : Int → Int) : mTB σ T B 37 = T := by unfold mTB; rw [setv_o _ _ (by decide), setv_s]
theorem mTB_8 (σ : Mem) (T B : Int → Int) : mTB σ T B 38 = B := by unfold mTB; rw [setv_s]
theorem mTB_s7 (σ : Mem) (T B T' : Int → Int) : setv (mTB σ T B) 37 T' = mTB σ T' B := by
  funext b j; unfold mTB setv
  by_cases c : b = 37
  · subst c; rfl
  · simp only [if_neg c]
theorem mTB_W (σ : Mem) (T B : Int → Int) : SW σ (mTB σ T B) := SW_tr (SW_set (b := 37) (Or.inl rfl) T) (SW_set (b := 38) (Or.inr (Or.inl rfl)) B)
theorem mTB_id (σ : Mem) : mTB σ (σ 37) (σ 38) = σ := by
  unfold mTB; rw [setv_id, setv_id]
theorem sOv_cong {f g : Int → Int} {S : Int} : ∀ n : Nat, (∀ i : Int, 0 ≤ i → i < n → bt S i = 1 → f i = g i) → sOv f S n = sOv g S n := by
  intro n
  induction n with
  | zero => intro _; rfl
  | succ n ih =>
    intro h
    unfold sOv
    rw [ih (fun i a b c => h i a (by omega) c)]
    by_cases c : bt S n = 1
    · rw [if_pos c, if_pos c, h n (by omega) (by omega) c]
    · rw [if_neg c, if_neg c]
theorem sOv_b {f : Int → Int} {S c : Int} (hc : 0 ≤ c) : ∀ n : Nat, (∀ i : Int, 0 ≤ i → i < n → bt S i = 1 → 0 ≤ f i ∧ f i ≤ c) → 0 ≤ sOv f S n ∧ sOv f S n ≤ c * n := by
  intro n
  induction n with
  | zero => intro _; unfold sOv; omega
  | succ n ih =>
    intro h
    unfold sOv
    have := ih (fun i a b c => h i a (by omega) c)
    have e : c * ((n + 1 : Nat) : Int) = c * n + c := by rw [Int.natCast_add, Int.mul_add]; simp
    rw [e]
    by_cases c : bt S n = 1
    · rw [if_pos c]; have := h n (by omega) (by omega) c; omega
    · rw [if_neg c]; omega
theorem chF_cong {f o f' o' s : Int → Int} {t S w : Int} (hf : ∀ i : Int, 0 ≤ i → i < 6 → bt S i = 1 → f i = f' i ∧ o i = o' i) : chF f o s t S w = chF f' o' s t S w := by
  by_cases h : badP f o w S 6
  · obtain ⟨i, i0, i1, i2, i3⟩ := id h
    obtain ⟨e1, e2⟩ := hf i i0 i1 i2
    rw [chF_t h, chF_t ⟨i, i0, i1, i2, by rw [← e1, ← e2]; exact i3⟩]
  · rw [chF_f h, chF_f (fun ⟨i, i0, i1, i2, i3⟩ => h ⟨i, i0, i1, i2, by rw [(hf i i0 i1 i2).1, (hf i i0 i1 i2).2]; exact i3⟩)]
theorem csF_b (s : Int → Int) (t S : Int) : ∀ n : Nat, 0 ≤ csF s t S n ∧ csF s t S n ≤ 1000000 * n := by
  intro n
  induction n with
  | zero => unfold csF; omega
  | succ n ih =>
    unfold csF
    split
    · split <;> omega
    · omega
theorem rpF_b {t : Int} (S : Int) (h0 : 0 ≤ t) (h5 : t ≤ 5) : ∀ n : Nat, 0 ≤ rpF t S n ∧ rpF t S n ≤ 10 ^ n - 1 := by
  intro n
  induction n with
  | zero => unfold rpF; omega
  | succ n ih =>
    unfold rpF
    have : (10 : Int) ^ (n + 1) = 10 ^ n * 10 := Int.pow_succ ..
    split <;> omega
abbrev sFl (σ : Mem) (p t S : Int) : Int → Int := flM (gmv σ 16 t p) (pval σ 6 0 0 0) S (pval σ 6 1 p 3).toNat
abbrev sOa (σ : Mem) (p t S : Int) : Int → Int := oaM (gmv σ 16 t p) (pval σ 6 0 0 0) S (pval σ 6 1 p 3).toNat
noncomputable def tkF (σ : Mem) (p w t S : Int) : Int := (if w = -1 then -1000000 * sOv (sFl σ p t S) S 6 else chF (sFl σ p t S) (sOa σ p t S) (σ 18) t S w) + rpF t S (pcnt σ 6 2).toNat
theorem p10_6 {n : Nat} (h : n ≤ 6) : (10 : Int) ^ n ≤ 1000000 := by
  have key : ∀ n : Nat, n < 7 → (10 : Int) ^ n ≤ 1000000 := by decide +kernel
  exact key n (by omega)
theorem sFl_b {σ : Mem} {p t S i : Int} (hB : planB σ 6) (h9 : pval σ 6 1 p 3 ≤ 9) (h0 : 0 ≤ S) (h1 : S < 64) (i0 : 0 ≤ i) (i1 : i < 6) : 0 ≤ sFl σ p t S i ∧ sFl σ p t S i ≤ 891 := by
  have hm := pval_b hB 1 p 3
  have := flM_b (L := pval σ 6 0 0 0) h0 h1 i0 i1 (fun n k hn => gmv_b σ (a := 16) (t := t) (p := p) (i := i) (k := k) hn) (pval σ 6 1 p 3).toNat
  unfold sFl
  omega
theorem tkF_b {σ : Mem} {p w t S : Int} (hB : planB σ 6) (h9 : pval σ 6 1 p 3 ≤ 9) (h0 : 0 ≤ S) (h1 : S < 64) (t0 : 0 ≤ t) (t5 : t ≤ 5) : (if w = -1 then -6000000000 else 0) ≤ tkF σ p w t S ∧ tkF σ p w t S ≤ 1152921504607846976 := by
  have c2 := pcnt_b hB 2
  have r := rpF_b (t := t) S t0 t5 (pcnt σ 6 2).toNat
  have p10 := p10_6 (n := (pcnt σ 6 2).toNat) (by omega)
  unfold tkF
  by_cases c : w = -1
  · rw [if_pos c, if_pos c]
    have := sOv_b (f := sFl σ p t S) (S := S) (c := 891) (by omega) 6 (fun i i0 i1 _ => sFl_b hB h9 h0 h1 i0 (by omega))
    omega
  · rw [if_neg c, if_neg c]
    by_cases h : badP (sFl σ p t S) (sOa σ p t S) w S 6
    · rw [chF_t h]; omega
    · rw [chF_f h]
      have := csF_b (σ 18) t S 6
      omega
/-- rows of bests, SITTER by SITTER -/
def dpC (σ : Mem) (p w e : Int) : Nat → (Int → Int) → Prop
  | 0, B => ∀ j : Int, 0 ≤ j → j < 64 → B j = if j = 0 then 0 else 1152921504606846976
  | k + 1, B => ∃ B1 T : Int → Int, dpC σ p w e k B1 ∧ (∀ S : Nat, 1 ≤ S → (S : Int) ≤ e → T S = tkF σ p w k S) ∧ adP T B1 e B
theorem dpC_b {σ : Mem} {p w e : Int} (hB : planB σ 6) (h9 : pval σ 6 1 p 3 ≤ 9) (he : e < 64) : ∀ (k : Nat), k ≤ 6 → ∀ B, dpC σ p w e k B → ∀ j : Int, 0 ≤ j → j < 64 → -6000000000 * (k : Int) ≤ B j ∧ B j ≤ 1152921504606846976 := by
  intro k
  induction k with
  | zero =>
    intro _ B h j j0 j1
    rw [h j j0 j1]
    split <;> omega
  | succ k ih =>
    intro hk B ⟨B1, T, h1, h2, h3⟩ j j0 j1
    have b1 := ih (by omega) B1 h1
    have bj := b1 j j0 j1
    by_cases c : j < 1 ∨ e < j
    · rw [h3.2 j c]; omega
    · have hj : j = ((j.toNat : Nat) : Int) := by omega
      obtain ⟨q1, q2, q3⟩ := h3.1 j.toNat (by omega) (by omega)
      rw [← hj] at q1 q3
      refine ⟨?_, by omega⟩
      rcases q3 with q3 | ⟨q, q4, q5, q6⟩
      · omega
      · have s1 := sub_lt (by omega) q5
        have s2 := sub_le j.toNat (by omega) q s1 q5
        have b2 := b1 ((j.toNat ^^^ q : Nat) : Int) (by omega) (by omega)
        have t1 := h2 q (by omega) (by omega)
        have t2 := tkF_b (w := w) (t := (k : Int)) (S := (q : Int)) hB h9 (by omega) (by omega) (by omega) (by omega)
        have t3 : (-6000000000 : Int) ≤ if w = -1 then -6000000000 else 0 := by split <;> omega
        omega

theorem wd_996 : Cond.methodLink RX8 37 yX6_everyChair ∈ TBL := tb_tab (List.mem_of_getElem? (i := 996) (by decide +kernel)) rfl
theorem lk_X8_37 : amLk RX8 37 yX6_everyChair cX6_everyChair 1 (some .int) 0 := ⟨wd_996, wd_3, wd_852, by decide +kernel, by decide +kernel, by decide⟩
theorem wd_997 : Cond.methodLink RX8 43 yJ9_min_7cf53 ∈ TBL := tb_tab (List.mem_of_getElem? (i := 997) (by decide +kernel)) rfl
theorem lk_X8_43 : amLk RX8 43 yJ9_min_7cf53 cJ9_min_7cf53 2 (some .int) 2 := ⟨wd_997, wd_16, wd_453, by decide +kernel, by decide +kernel, by decide⟩
theorem wd_999 : Cond.methodLink RX8 49 yJ7_fill_d0a16 ∈ TBL := tb_tab (List.mem_of_getElem? (i := 999) (by decide +kernel)) rfl
theorem wd_1001 : Cond.code yJ7_fill_d0a16 cJ7_fill_d0a16 5 (none) ∈ TBL := tb_tab (List.mem_of_getElem? (i := 1001) (by decide +kernel)) rfl
theorem lk_X8_49 : amLk RX8 49 yJ7_fill_d0a16 cJ7_fill_d0a16 5 (none) 2 := ⟨wd_999, wd_13, wd_1001, by decide +kernel, by decide +kernel, by decide⟩
theorem wd_1000 : Cond.static yJ7_fill_d0a16 ∈ TBL := tb_tab (List.mem_of_getElem? (i := 1000) (by decide +kernel)) rfl
theorem wd_1003 : Cond.methodLink RX8 59 yX9_openSitter ∈ TBL := tb_tab (List.mem_of_getElem? (i := 1003) (by decide +kernel)) rfl
theorem lk_X8_59 : amLk RX8 59 yX9_openSitter cX9_openSitter 4 (none) 3 := ⟨wd_1003, wd_7, wd_783, by decide +kernel, by decide +kernel, by decide⟩
theorem wd_1004 : Cond.methodLink RX8 65 yX9_playGroup ∈ TBL := tb_tab (List.mem_of_getElem? (i := 1004) (by decide +kernel)) rfl
theorem lk_X8_65 : amLk RX8 65 yX9_playGroup cX9_playGroup 10 (none) 1 := ⟨wd_1004, wd_7, wd_792, by decide +kernel, by decide +kernel, by decide⟩
theorem wd_1005 : Cond.constantLong RX8 69 (-1000000) ∈ TBL := tb_tab (List.mem_of_getElem? (i := 1005) (by decide +kernel)) rfl
theorem wd_1007 : Cond.methodLink RX8 79 yX8_changes ∈ TBL := tb_tab (List.mem_of_getElem? (i := 1007) (by decide +kernel)) rfl
theorem wd_9 : Cond.initialized RX8 ∈ TBL := tb_tab (List.mem_of_getElem? (i := 9) (by decide +kernel)) rfl
theorem wd_1010 : Cond.code yX8_changes cX8_changes 8 (some .long) ∈ TBL := tb_tab (List.mem_of_getElem? (i := 1010) (by decide +kernel)) rfl
theorem lk_X8_79 : amLk RX8 79 yX8_changes cX8_changes 8 (some .long) 4 := ⟨wd_1007, wd_9, wd_1010, by decide +kernel, by decide +kernel, by decide⟩
theorem wd_1009 : Cond.instanceMethod yX8_changes ∈ TBL := tb_tab (List.mem_of_getElem? (i := 1009) (by decide +kernel)) rfl
theorem sl_X8_changes : Cond.selects RX8 yX8_changes yX8_changes ∈ TBL := tb_sel (List.mem_of_getElem? (i := 31) (by decide +kernel)) rfl
theorem wd_1012 : Cond.methodLink RX8 83 yX8_rowPart ∈ TBL := tb_tab (List.mem_of_getElem? (i := 1012) (by decide +kernel)) rfl
theorem wd_1015 : Cond.code yX8_rowPart cX8_rowPart 6 (some .long) ∈ TBL := tb_tab (List.mem_of_getElem? (i := 1015) (by decide +kernel)) rfl
theorem lk_X8_83 : amLk RX8 83 yX8_rowPart cX8_rowPart 6 (some .long) 2 := ⟨wd_1012, wd_9, wd_1015, by decide +kernel, by decide +kernel, by decide⟩
theorem wd_1014 : Cond.instanceMethod yX8_rowPart ∈ TBL := tb_tab (List.mem_of_getElem? (i := 1014) (by decide +kernel)) rfl
theorem sl_X8_rowPart : Cond.selects RX8 yX8_rowPart yX8_rowPart ∈ TBL := tb_sel (List.mem_of_getElem? (i := 32) (by decide +kernel)) rfl
theorem wd_1017 : Cond.methodLink RX8 87 yX8_addSitter ∈ TBL := tb_tab (List.mem_of_getElem? (i := 1017) (by decide +kernel)) rfl
theorem wd_1020 : Cond.code yX8_addSitter cX8_addSitter 4 (none) ∈ TBL := tb_tab (List.mem_of_getElem? (i := 1020) (by decide +kernel)) rfl
theorem lk_X8_87 : amLk RX8 87 yX8_addSitter cX8_addSitter 4 (none) 1 := ⟨wd_1017, wd_9, wd_1020, by decide +kernel, by decide +kernel, by decide⟩
theorem wd_1019 : Cond.instanceMethod yX8_addSitter ∈ TBL := tb_tab (List.mem_of_getElem? (i := 1019) (by decide +kernel)) rfl
theorem sl_X8_addSitter : Cond.selects RX8 yX8_addSitter yX8_addSitter ∈ TBL := tb_sel (List.mem_of_getElem? (i := 33) (by decide +kernel)) rfl
def a_X8_best : AC := [(0, vAload 0 1), (1, vGetR TT 24 0 22 4), (4, vCallM w_X6_everyChair 22 0 7), (7, vI 63 9), (9, vCallS w_J9_min_7cf53 2 12), (12, vIstore 4 14), (14, vAload 0 15), (15, vGetR TT 24 3 9 18), (18, vL 1152921504606846976 21), (21, vCallSV w_J7_fill_d0a16 2 24), (24, vAload 0 25), (25, vGetR TT 24 3 9 28), (28, vI 0 29), (29, vL 0 30), (30, vLast TT 31), (31, vI 0 32), (32, vIstore 5 34), (34, vIload 5 36), (36, vAload 0 37), (37, vGetR TT 24 0 22 40), (40, vI 3 41), (41, vCallM w_X6_many 22 1 44), (44, vIcGe 150 47), (47, vAload 0 48), (48, vGetR TT 24 1 25 51), (51, vAload 1 52), (52, vIload 2 53), (53, vIload 5 55), (55, vCallMV w_X9_openSitter 25 3 58), (58, vI 1 59), (59, vIstore 6 61), (61, vIload 6 63), (63, vIload 4 65), (65, vIcGt 138 68), (68, vAload 0 69), (69, vGetR TT 24 1 25 72), (72, vIload 6 74), (74, vCallMV w_X9_playGroup 25 1 77), (77, vIload 3 78), (78, vI (-1) 79), (79, vIcNe 102 82), (82, vL (-1000000) 85), (85, vAload 0 86), (86, vGetR TT 24 1 25 89), (89, vGetR TT 25 4 8 92), (92, vIload 6 94), (94, vCallS w_X11_sumOver 2 97), (97, vI2l 98), (98, vLmul 99), (99, vGoto 112), (102, vAload 0 103), (103, vAload 1 104), (104, vIload 5 106), (106, vIload 6 108), (108, vIload 3 109), (109, vCallM w_X8_changes 24 4 112), (112, vLstore 7 114), (114, vAload 0 115), (115, vGetR TT 24 2 9 118), (118, vIload 6 120), (120, vLload 7 122), (122, vAload 0 123), (123, vIload 5 125), (125, vIload 6 127), (127, vCallM w_X8_rowPart 24 2 130), (130, vLadd 131), (131, vLast TT 132), (132, vIinc 6 1 135), (135, vGoto 61), (138, vAload 0 139), (139, vIload 4 141), (141, vCallMV w_X8_addSitter 24 1 144), (144, vIinc 5 1 147), (147, vGoto 34), (150, vIload 4 152), (152, vIfLe 165 155), (155, vAload 0 156), (156, vGetR TT 24 3 9 159), (159, vIload 4 161), (161, vLald TT 162), (162, vGoto 168), (165, vL 1152921504606846976 168), (168, vLret)]
theorem k_X8_best_0 : look a_X8_best 0 = vAload 0 1 := rfl
theorem k_X8_best_1 : look a_X8_best 1 = vGetR TT 24 0 22 4 := rfl
theorem k_X8_best_4 : look a_X8_best 4 = vCallM w_X6_everyChair 22 0 7 := rfl
theorem k_X8_best_7 : look a_X8_best 7 = vI 63 9 := rfl
theorem k_X8_best_9 : look a_X8_best 9 = vCallS w_J9_min_7cf53 2 12 := rfl
theorem k_X8_best_12 : look a_X8_best 12 = vIstore 4 14 := rfl
theorem k_X8_best_14 : look a_X8_best 14 = vAload 0 15 := rfl
theorem k_X8_best_15 : look a_X8_best 15 = vGetR TT 24 3 9 18 := rfl
theorem k_X8_best_18 : look a_X8_best 18 = vL 1152921504606846976 21 := rfl
theorem k_X8_best_21 : look a_X8_best 21 = vCallSV w_J7_fill_d0a16 2 24 := rfl
theorem k_X8_best_24 : look a_X8_best 24 = vAload 0 25 := rfl
theorem k_X8_best_25 : look a_X8_best 25 = vGetR TT 24 3 9 28 := rfl
theorem k_X8_best_28 : look a_X8_best 28 = vI 0 29 := rfl
theorem k_X8_best_29 : look a_X8_best 29 = vL 0 30 := rfl
theorem k_X8_best_30 : look a_X8_best 30 = vLast TT 31 := rfl
theorem k_X8_best_31 : look a_X8_best 31 = vI 0 32 := rfl
theorem k_X8_best_32 : look a_X8_best 32 = vIstore 5 34 := rfl
theorem k_X8_best_34 : look a_X8_best 34 = vIload 5 36 := rfl
theorem k_X8_best_36 : look a_X8_best 36 = vAload 0 37 := rfl
theorem k_X8_best_37 : look a_X8_best 37 = vGetR TT 24 0 22 40 := rfl
theorem k_X8_best_40 : look a_X8_best 40 = vI 3 41 := rfl
theorem k_X8_best_41 : look a_X8_best 41 = vCallM w_X6_many 22 1 44 := rfl
theorem k_X8_best_44 : look a_X8_best 44 = vIcGe 150 47 := rfl
theorem k_X8_best_47 : look a_X8_best 47 = vAload 0 48 := rfl
theorem k_X8_best_48 : look a_X8_best 48 = vGetR TT 24 1 25 51 := rfl
theorem k_X8_best_51 : look a_X8_best 51 = vAload 1 52 := rfl
theorem k_X8_best_52 : look a_X8_best 52 = vIload 2 53 := rfl
theorem k_X8_best_53 : look a_X8_best 53 = vIload 5 55 := rfl
theorem k_X8_best_55 : look a_X8_best 55 = vCallMV w_X9_openSitter 25 3 58 := rfl
theorem k_X8_best_58 : look a_X8_best 58 = vI 1 59 := rfl
theorem k_X8_best_59 : look a_X8_best 59 = vIstore 6 61 := rfl
theorem k_X8_best_61 : look a_X8_best 61 = vIload 6 63 := rfl
theorem k_X8_best_63 : look a_X8_best 63 = vIload 4 65 := rfl
theorem k_X8_best_65 : look a_X8_best 65 = vIcGt 138 68 := rfl
theorem k_X8_best_68 : look a_X8_best 68 = vAload 0 69 := rfl
theorem k_X8_best_69 : look a_X8_best 69 = vGetR TT 24 1 25 72 := rfl
theorem k_X8_best_72 : look a_X8_best 72 = vIload 6 74 := rfl
theorem k_X8_best_74 : look a_X8_best 74 = vCallMV w_X9_playGroup 25 1 77 := rfl
theorem k_X8_best_77 : look a_X8_best 77 = vIload 3 78 := rfl
theorem k_X8_best_78 : look a_X8_best 78 = vI (-1) 79 := rfl
theorem k_X8_best_79 : look a_X8_best 79 = vIcNe 102 82 := rfl
theorem k_X8_best_82 : look a_X8_best 82 = vL (-1000000) 85 := rfl
theorem k_X8_best_85 : look a_X8_best 85 = vAload 0 86 := rfl
theorem k_X8_best_86 : look a_X8_best 86 = vGetR TT 24 1 25 89 := rfl
theorem k_X8_best_89 : look a_X8_best 89 = vGetR TT 25 4 8 92 := rfl
theorem k_X8_best_92 : look a_X8_best 92 = vIload 6 94 := rfl
theorem k_X8_best_94 : look a_X8_best 94 = vCallS w_X11_sumOver 2 97 := rfl
theorem k_X8_best_97 : look a_X8_best 97 = vI2l 98 := rfl
theorem k_X8_best_98 : look a_X8_best 98 = vLmul 99 := rfl
theorem k_X8_best_99 : look a_X8_best 99 = vGoto 112 := rfl
theorem k_X8_best_102 : look a_X8_best 102 = vAload 0 103 := rfl
theorem k_X8_best_103 : look a_X8_best 103 = vAload 1 104 := rfl
theorem k_X8_best_104 : look a_X8_best 104 = vIload 5 106 := rfl
theorem k_X8_best_106 : look a_X8_best 106 = vIload 6 108 := rfl
theorem k_X8_best_108 : look a_X8_best 108 = vIload 3 109 := rfl
theorem k_X8_best_109 : look a_X8_best 109 = vCallM w_X8_changes 24 4 112 := rfl
theorem k_X8_best_112 : look a_X8_best 112 = vLstore 7 114 := rfl
theorem k_X8_best_114 : look a_X8_best 114 = vAload 0 115 := rfl
theorem k_X8_best_115 : look a_X8_best 115 = vGetR TT 24 2 9 118 := rfl
theorem k_X8_best_118 : look a_X8_best 118 = vIload 6 120 := rfl
theorem k_X8_best_120 : look a_X8_best 120 = vLload 7 122 := rfl
theorem k_X8_best_122 : look a_X8_best 122 = vAload 0 123 := rfl
theorem k_X8_best_123 : look a_X8_best 123 = vIload 5 125 := rfl
theorem k_X8_best_125 : look a_X8_best 125 = vIload 6 127 := rfl
theorem k_X8_best_127 : look a_X8_best 127 = vCallM w_X8_rowPart 24 2 130 := rfl
theorem k_X8_best_130 : look a_X8_best 130 = vLadd 131 := rfl
theorem k_X8_best_131 : look a_X8_best 131 = vLast TT 132 := rfl
theorem k_X8_best_132 : look a_X8_best 132 = vIinc 6 1 135 := rfl
theorem k_X8_best_135 : look a_X8_best 135 = vGoto 61 := rfl
theorem k_X8_best_138 : look a_X8_best 138 = vAload 0 139 := rfl
theorem k_X8_best_139 : look a_X8_best 139 = vIload 4 141 := rfl
theorem k_X8_best_141 : look a_X8_best 141 = vCallMV w_X8_addSitter 24 1 144 := rfl
theorem k_X8_best_144 : look a_X8_best 144 = vIinc 5 1 147 := rfl
theorem k_X8_best_147 : look a_X8_best 147 = vGoto 34 := rfl
theorem k_X8_best_150 : look a_X8_best 150 = vIload 4 152 := rfl
theorem k_X8_best_152 : look a_X8_best 152 = vIfLe 165 155 := rfl
theorem k_X8_best_155 : look a_X8_best 155 = vAload 0 156 := rfl
theorem k_X8_best_156 : look a_X8_best 156 = vGetR TT 24 3 9 159 := rfl
theorem k_X8_best_159 : look a_X8_best 159 = vIload 4 161 := rfl
theorem k_X8_best_161 : look a_X8_best 161 = vLald TT 162 := rfl
theorem k_X8_best_162 : look a_X8_best 162 = vGoto 168 := rfl
theorem k_X8_best_165 : look a_X8_best 165 = vL 1152921504606846976 168 := rfl
theorem k_X8_best_168 : look a_X8_best 168 = vLret := rfl
theorem o_X8_best {X : amX} (e1 : XT X = TT) (e2 : XD X = 5) (hB : amB X RX8 cX8_best (some .long) 9) : ∀ pc, amOK X pc (look a_X8_best pc) := by
  have hT : amTok (XT X) := e1 ▸ TT_ok
  refine look_ok ?_
  unfold a_X8_best
  refine fc (ok_aload_n hB dX8_best_0) ?_
  refine fc (okt_getR e1 hB hT fl_X8_18 rfl af_8_0 at_8_0 (by decide) dX8_best_1) ?_
  refine fc (ok_callM hB hT (e1 ▸ s_X6_everyChair) lk_X8_37 (by rw [e2]; decide) (c := 6) rfl rfl rfl wd_850 wd_851 dX8_best_4) ?_
  refine fc (ok_bipush hB dX8_best_7 (by decide)) ?_
  refine fc (ok_callS hB (e1 ▸ s_J9_min_7cf53) lk_X8_43 (by rw [e2]; decide) wd_452 dX8_best_9) ?_
  refine fc (ok_istore hB (by decide) dX8_best_12) ?_
  refine fc (ok_aload_n hB dX8_best_14) ?_
  refine fc (okt_getR e1 hB hT fl_X8_15 rfl af_8_3 at_8_3 (by decide) dX8_best_15) ?_
  refine fc (ok_ldc2 hB wd_998 rfl dX8_best_18) ?_
  refine fc (ok_callSV hB (e1 ▸ s_J7_fill_d0a16) lk_X8_49 (by rw [e2]; decide) wd_1000 dX8_best_21) ?_
  refine fc (ok_aload_n hB dX8_best_24) ?_
  refine fc (okt_getR e1 hB hT fl_X8_15 rfl af_8_3 at_8_3 (by decide) dX8_best_25) ?_
  refine fc (ok_iconst hB dX8_best_28) ?_
  refine fc (ok_lconst hB (z := 0) (by decide) dX8_best_29) ?_
  refine fc (okt_lastore e1 hB dX8_best_30) ?_
  refine fc (ok_iconst hB dX8_best_31) ?_
  refine fc (ok_istore hB (by decide) dX8_best_32) ?_
  refine fc (ok_iload hB dX8_best_34) ?_
  refine fc (ok_aload_n hB dX8_best_36) ?_
  refine fc (okt_getR e1 hB hT fl_X8_18 rfl af_8_0 at_8_0 (by decide) dX8_best_37) ?_
  refine fc (ok_iconst hB dX8_best_40) ?_
  refine fc (ok_callM hB hT (e1 ▸ s_X6_many) lk_X8_55 (by rw [e2]; decide) (c := 6) rfl rfl rfl wd_557 wd_558 dX8_best_41) ?_
  refine fc (ok_icmp_ge hB (t := 150) (by decide) dX8_best_44) ?_
  refine fc (ok_aload_n hB dX8_best_47) ?_
  refine fc (okt_getR e1 hB hT fl_X8_22 rfl af_8_1 at_8_1 (by decide) dX8_best_48) ?_
  refine fc (ok_aload_n hB dX8_best_51) ?_
  refine fc (ok_iload_n hB dX8_best_52) ?_
  refine fc (ok_iload hB dX8_best_53) ?_
  refine fc (ok_callMV hB hT (e1 ▸ s_X9_openSitter) lk_X8_59 (by rw [e2]; decide) (c := 9) rfl rfl rfl wd_781 wd_782 dX8_best_55) ?_
  refine fc (ok_iconst hB dX8_best_58) ?_
  refine fc (ok_istore hB (by decide) dX8_best_59) ?_
  refine fc (ok_iload hB dX8_best_61) ?_
  refine fc (ok_iload hB dX8_best_63) ?_
  refine fc (ok_icmp_gt hB (t := 138) (by decide) dX8_best_65) ?_
  refine fc (ok_aload_n hB dX8_best_68) ?_
  refine fc (okt_getR e1 hB hT fl_X8_22 rfl af_8_1 at_8_1 (by decide) dX8_best_69) ?_
  refine fc (ok_iload hB dX8_best_72) ?_
  refine fc (ok_callMV hB hT (e1 ▸ s_X9_playGroup) lk_X8_65 (by rw [e2]; decide) (c := 9) rfl rfl rfl wd_790 wd_791 dX8_best_74) ?_
  refine fc (ok_iload_n hB dX8_best_77) ?_
  refine fc (ok_iconst hB dX8_best_78) ?_
  refine fc (ok_icmp_ne hB (t := 102) (by decide) dX8_best_79) ?_
  refine fc (ok_ldc2 hB wd_1005 rfl dX8_best_82) ?_
  refine fc (ok_aload_n hB dX8_best_85) ?_
  refine fc (okt_getR e1 hB hT fl_X8_22 rfl af_8_1 at_8_1 (by decide) dX8_best_86) ?_
  refine fc (okt_getR e1 hB hT fl_X8_71 rfl af_9_4 at_9_4 (by decide) dX8_best_89) ?_
  refine fc (ok_iload hB dX8_best_92) ?_
  refine fc (ok_callSN hB (host := "ArmchairHouse") (e1 ▸ s_X11_sumOver) (by decide +kernel) wd_1 wd_855 (by decide +kernel) (by decide +kernel) (by decide) (by rw [e2]; decide) wd_854 dX8_best_94) ?_
  refine fc (ok_i2l hB dX8_best_97) ?_
  refine fc (ok_lmul hB dX8_best_98) ?_
  refine fc (ok_goto hB (t := 112) (by decide) dX8_best_99) ?_
  refine fc (ok_aload_n hB dX8_best_102) ?_
  refine fc (ok_aload_n hB dX8_best_103) ?_
  refine fc (ok_iload hB dX8_best_104) ?_
  refine fc (ok_iload hB dX8_best_106) ?_
  refine fc (ok_iload_n hB dX8_best_108) ?_
  refine fc (ok_callM hB hT (e1 ▸ s_X8_changes) lk_X8_79 (by rw [e2]; decide) (c := 8) rfl rfl rfl wd_1009 sl_X8_changes dX8_best_109) ?_
  refine fc (ok_lstore hB (by decide) dX8_best_112) ?_
  refine fc (ok_aload_n hB dX8_best_114) ?_
  refine fc (okt_getR e1 hB hT fl_X8_11 rfl af_8_2 at_8_2 (by decide) dX8_best_115) ?_
  refine fc (ok_iload hB dX8_best_118) ?_
  refine fc (ok_lload hB dX8_best_120) ?_
  refine fc (ok_aload_n hB dX8_best_122) ?_
  refine fc (ok_iload hB dX8_best_123) ?_
  refine fc (ok_iload hB dX8_best_125) ?_
  refine fc (ok_callM hB hT (e1 ▸ s_X8_rowPart) lk_X8_83 (by rw [e2]; decide) (c := 8) rfl rfl rfl wd_1014 sl_X8_rowPart dX8_best_127) ?_
  refine fc (ok_ladd hB dX8_best_130) ?_
  refine fc (okt_lastore e1 hB dX8_best_131) ?_
  refine fc (ok_iinc hB (by decide) dX8_best_132) ?_
  refine fc (ok_goto hB (t := 61) (by decide) dX8_best_135) ?_
  refine fc (ok_aload_n hB dX8_best_138) ?_
  refine fc (ok_iload hB dX8_best_139) ?_
  refine fc (ok_callMV hB hT (e1 ▸ s_X8_addSitter) lk_X8_87 (by rw [e2]; decide) (c := 8) rfl rfl rfl wd_1019 sl_X8_addSitter dX8_best_141) ?_
  refine fc (ok_iinc hB (by decide) dX8_best_144) ?_
  refine fc (ok_goto hB (t := 34) (by decide) dX8_best_147) ?_
  refine fc (ok_iload hB dX8_best_150) ?_
  refine fc (ok_if_le hB (t := 165) (by decide) dX8_best_152) ?_
  refine fc (ok_aload_n hB dX8_best_155) ?_
  refine fc (okt_getR e1 hB hT fl_X8_15 rfl af_8_3 at_8_3 (by decide) dX8_best_156) ?_
  refine fc (ok_iload hB dX8_best_159) ?_
  refine fc (okt_laload e1 hB dX8_best_161) ?_
  refine fc (ok_goto hB (t := 168) (by decide) dX8_best_162) ?_
  refine fc (ok_ldc2 hB wd_998 rfl dX8_best_165) ?_
  refine fc (ok_lret hB dX8_best_168) ?_
  exact fn
def inv_best (σ : Mem) (p w e : Int) (n pc : Nat) (ls st : List AV) (σ' : Mem) : Prop := st = [] ∧ ∃ (k : Nat) (T B : Int → Int) (v6 v7 v8 : AV), (k : Int) ≤ pcnt σ 6 3 ∧ dpC σ p w e k B ∧
  ((pc = 34 ∧ (n : Int) = (pcnt σ 6 3 - k) * 100 ∧ SF (mTB σ T B) σ' ∧ ls = [(24, 36), (16, 16), (0, p), (0, w), (0, e), (0, (k : Int)), v6, v7, v8]) ∨
   (pc = 61 ∧ (k : Int) < pcnt σ 6 3 ∧ SO (mTB σ T B) σ' 16 k p ∧ ∃ s : Nat, 1 ≤ s ∧ (s : Int) ≤ e + 1 ∧ (n : Int) = (pcnt σ 6 3 - k) * 100 - s ∧ (∀ S : Nat, 1 ≤ S → S < s → T S = tkF σ p w k S) ∧ ls = [(24, 36), (16, 16), (0, p), (0, w), (0, e), (0, (k : Int)), (0, (s : Int)), v7, v8]))
def w_X8_best : WP := fun av σ Q => ∃ (a : Int) (p : Int) (w : Int), av = [(24, 36), (16, a), (0, p), (0, w)] ∧ (a = 16 ∧ stOk σ 16 ∧ InR p ∧ pval σ 6 1 p 3 ≤ 9 ∧ 1 ≤ pcnt σ 6 2 ∧ InR w ∧ (∀ i, 0 ≤ i → i < 6 → InR (σ 18 i)) ∧ (∀ τ B, SW σ τ → dpC σ p w (2 ^ (pcnt σ 6 2).toNat - 1) (pcnt σ 6 3).toNat B → Q (1, B (2 ^ (pcnt σ 6 2).toNat - 1)) τ))
theorem w_X8_best_e (a : Int) (p : Int) (w : Int) (σ : Mem) (Q : AV → Mem → Prop) : w_X8_best [(24, 36), (16, a), (0, p), (0, w)] σ Q = (a = 16 ∧ stOk σ 16 ∧ InR p ∧ pval σ 6 1 p 3 ≤ 9 ∧ 1 ≤ pcnt σ 6 2 ∧ InR w ∧ (∀ i, 0 ≤ i → i < 6 → InR (σ 18 i)) ∧ (∀ τ B, SW σ τ → dpC σ p w (2 ^ (pcnt σ 6 2).toNat - 1) (pcnt σ 6 3).toNat B → Q (1, B (2 ^ (pcnt σ 6 2).toNat - 1)) τ)) := by
  apply propext; constructor
  · rintro ⟨a', p', w', h9, hb9⟩; cases h9; exact hb9
  · intro hb9; exact ⟨a, p, w, rfl, hb9⟩

set_option maxRecDepth 100000 in
set_option maxHeartbeats 4000000 in
theorem s_X8_best : ∀ av σ Q, w_X8_best av σ Q → amCall 5 0 0 TT yX8_best cX8_best 9 (some .long) av σ Q := by
  rintro av σ Q ⟨a, p, w, rfl, rfl, hst, hp, h9, hc1, hw, hse, h⟩
  have hB := hst.2.1
  have c2 := pcnt_b hB 2
  have c3 := pcnt_b hB 3
  have fl := full_64 (n := (pcnt σ 6 2).toNat) (by omega)
  have fl1 : 1 ≤ (2 : Int) ^ (pcnt σ 6 2).toNat - 1 := by
    have h2 : (2 : Int) ^ 1 ≤ 2 ^ (pcnt σ 6 2).toNat := by
      have := Nat.pow_le_pow_right (n := 2) (by decide) (show 1 ≤ (pcnt σ 6 2).toNat by omega)
      exact_mod_cast this
    omega
  generalize hee : (2 : Int) ^ (pcnt σ 6 2).toNat - 1 = e at *
  have st' : ∀ T B, stOk (mTB σ T B) 16 := fun T B => SW_stOk (mTB_W σ T B) hst
  have Gm : ∀ T B t, gmv (mTB σ T B) 16 t p = gmv σ 16 t p := fun T B t => SW_gmv (mTB_W σ T B) hst t p
  have Pv : ∀ T B x y z, pval (mTB σ T B) 6 x y z = pval σ 6 x y z := fun T B => SW_pval (mTB_W σ T B)
  refine am_m [34, 61] (inv_best σ p w e) (own := RX8) (A := look a_X8_best) (fun X e1 e2 hB => o_X8_best e1 e2 hB) rfl (by decide +kernel) rfl rfl ?_ ⟨60, ?_⟩ (w := 9)
  · rintro n pc ls st σ' ⟨rfl, k, T, B, v6, v7, v8, hk, hdp, ⟨rfl, hn, hF, rfl⟩ | ⟨rfl, hlt, hSO, s, hs1, hse1, hn, hT, rfl⟩⟩
    · have pc3 : pcnt σ' 6 3 = pcnt σ 6 3 := by rw [SF_pcnt hF 3]; exact SW_pcnt (mTB_W σ T B) 3
      have r38 : σ' 38 = B := by rw [SF_r hF (b := 38) (by omega)]; exact mTB_8 σ T B
      refine ⟨60, ?_⟩
      simp only [↓reduceIte, inR_0, inR_1, inR_m, vSw2_e, swP_n, swP_c, vI_e, vL_e, vNull_e, vIload_e, vLload_e, vAload_e, vIstore_e, vLstore_e, vAstore_e, vIinc_e, vIadd_e, vIsub_e, vImul_e, vIand_e, vIor_e, vIxor_e, vIshl_e, vIshr_e, vIushr_e, vIdiv_e, vIrem_e, vLadd_e, vLsub_e, vLmul_e, vLand_e, vLor_e, vLxor_e, vLdiv_e, vLrem_e, vLushr_e, vLshl_e, vLcmp_e, vIneg_e, vI2l_e, vL2i_e, vI2b_e, vI2c_e, vDup_e, vPop_e, vDup2_e, vGoto_e, vIcEq_e, vIfEq_e, vIcNe_e, vIfNe_e, vIcLt_e, vIfLt_e, vIcGe_e, vIfGe_e, vIcGt_e, vIfGt_e, vIcLe_e, vIfLe_e, vNonnull_e, vSw_e, vGetI_e, vGetL_e, vGetR_e, vPutI_e, vPutZ_e, vPutL_e, vPutR_e, vIald_e, vIald_s, vLald_e, vBald_e, vBald_s, vAald_e, vIast_e, vLast_e, vBast_e, vAast_e, vAlen_e8, vAlen_e9, vAlen_e10, vAlen_e11, vAlen_e5, vAlen_e3, vGets_e, vCompact_e, vLdcS_e, vIret_e, vZret_e, vCret_e, vBret_e, vLret_e, vVret_e, vAret_e, vCallM_e0, vCallMV_e0, vCallS_e0, vCallSV_e0, vCallM_e1, vCallMV_e1, vCallS_e1, vCallSV_e1, vCallM_e2, vCallMV_e2, vCallS_e2, vCallSV_e2, vCallM_e3, vCallMV_e3, vCallS_e3, vCallSV_e3, vCallM_e4, vCallMV_e4, vCallS_e4, vCallSV_e4, vCallM_e5, vCallMV_e5, vCallS_e5, vCallSV_e5, vCallM_e6, vCallMV_e6, vCallS_e6, vCallSV_e6, vCallM_e7, vCallMV_e7, vCallS_e7, vCallSV_e7, vBad_e, vStrVal_e, vStrCod_e, vForm_e, vCallT_e0, vCallT_e1, vCallT_e2, vCopy_e, rf_0_0, rf_0_1, rf_0_2, rf_0_3, rf_0_4, rf_0_7, rf_0_10, rf_0_11, rf_0_12, rf_0_13, rf_0_14, rf_0_15, rf_0_16, rf_1_0, rf_3_0, rf_3_1, rf_6_0, rf_6_1, rf_9_0, rf_9_1, rf_9_3, rf_13_0, rf_13_1, rf_13_2, rf_16_0, rf_16_1, rf_16_2, rf_16_3, rf_21_0, rf_21_1, rf_21_2, rf_21_3, rf_26_0, rf_26_1, rf_26_2, rf_26_3, rf_26_4, rf_26_5, rf_26_6, rf_31_0, rf_31_2, rf_31_5, rf_31_6, rf_36_0, rf_36_1, rf_36_2, rf_36_3, rf_39_0, rf_39_1, rf_39_2, rf_41_0, rf_41_1, rf_41_2, rf_41_3, rf_5000_1, rf_5000_2, rf_5000_3, rf_5000_4, rf_5000_5, rf_5000_15, rf_5000_16, rf_5000_18, rf_5000_19, rf_5000_20, rf_5000_21, rf_5000_22, rf_5000_23, rf_5000_24, rf_5000_25, rf_5000_26, rf_5000_27, rf_5000_36, rf_5000_37, rf_5000_40, rf_5000_41, rf_5000_42, rf_5000_43, rf_5000_44, rf_5000_45, rf_5000_47, rf_5000_52, rf_5000_54, rf_5000_55, rf_100_0, rf_100_1, rf_103_0, rf_103_1, rf_106_0, rf_106_1, rf_109_0, rf_109_1, al_2, al_4, al_5, al_7, al_8, al_10, al_11, al_12, al_14, al_15, al_17, al_18, al_19, al_20, al_22, al_23, al_24, al_25, al_27, al_28, al_29, al_30, al_32, al_33, al_34, al_35, al_37, al_38, al_40, al_42, al_5001, al_5002, al_5003, al_5004, al_5005, al_5006, al_5007, al_5008, al_5009, al_5010, al_5011, al_5012, al_5013, al_5014, al_5015, al_5016, al_5017, al_5018, al_5019, al_5020, al_5021, al_5022, al_5023, al_5024, al_5025, al_5026, al_9000, al_101, al_102, al_104, al_105, al_107, al_108, al_110, al_111, vcs_e, lg_c0, lg_cs, lg_nil, set_c0, set_cs, okst_0, okst_s, acok_n, acok_c, List.contains_nil, List.contains_cons, Bool.or_false, Bool.false_or, Bool.false_eq_true, if_false, if_true, ite_self, ne_eq, true_and, and_true, not_false_eq_true, not_true_eq_false, false_imp_iff, true_imp_iff, Nat.ble_eq, Bool.and_eq_true, reduceCtorEq, or_false, false_or, or_true, true_or, false_and, and_false, and_self, Int.reduceLE, Int.reduceAdd, Int.reduceSub, Int.reduceMul, Int.reduceNeg, Int.reduceLT, Int.reduceEq, Int.reduceNe, Nat.reduceBEq, Nat.reduceBNe, Nat.reduceEqDiff, amCmp_in, amCmp_lt, amCmp_le, amCmp_gt, amCmp_ge, amCmp_eq, amCmp_ne, Nat.reduceLeDiff, Nat.reduceSub, Bool.and_true, Bool.true_and, Bool.and_self, Bool.or_true, Bool.true_or, isRf_3, isRf_4, isRf_5, isRf_8, isRf_9, isRf_10, isRf_11, isRf_15, isRf_16, isRf_17, isRf_18, isRf_19, isRf_20, isRf_21, isRf_22, isRf_23, isRf_24, isRf_25, isRf_26, isRf_27, isRf_28, k_X8_best_0, k_X8_best_1, k_X8_best_4, k_X8_best_7, k_X8_best_9, k_X8_best_12, k_X8_best_14, k_X8_best_15, k_X8_best_18, k_X8_best_21, k_X8_best_24, k_X8_best_25, k_X8_best_28, k_X8_best_29, k_X8_best_30, k_X8_best_31, k_X8_best_32, k_X8_best_34, k_X8_best_36, k_X8_best_37, k_X8_best_40, k_X8_best_41, k_X8_best_44, k_X8_best_47, k_X8_best_48, k_X8_best_51, k_X8_best_52, k_X8_best_53, k_X8_best_55, k_X8_best_58, k_X8_best_59, k_X8_best_61, k_X8_best_63, k_X8_best_65, k_X8_best_68, k_X8_best_69, k_X8_best_72, k_X8_best_74, k_X8_best_77, k_X8_best_78, k_X8_best_79, k_X8_best_82, k_X8_best_85, k_X8_best_86, k_X8_best_89, k_X8_best_92, k_X8_best_94, k_X8_best_97, k_X8_best_98, k_X8_best_99, k_X8_best_102, k_X8_best_103, k_X8_best_104, k_X8_best_106, k_X8_best_108, k_X8_best_109, k_X8_best_112, k_X8_best_114, k_X8_best_115, k_X8_best_118, k_X8_best_120, k_X8_best_122, k_X8_best_123, k_X8_best_125, k_X8_best_127, k_X8_best_130, k_X8_best_131, k_X8_best_132, k_X8_best_135, k_X8_best_138, k_X8_best_139, k_X8_best_141, k_X8_best_144, k_X8_best_147, k_X8_best_150, k_X8_best_152, k_X8_best_155, k_X8_best_156, k_X8_best_159, k_X8_best_161, k_X8_best_162, k_X8_best_165, k_X8_best_168, w_J7_fill_d0a16_e, w_J9_min_7cf53_e, w_X11_sumOver_e, w_X6_everyChair_e, w_X6_many_e, w_X8_addSitter_e, w_X8_changes_e, w_X8_rowPart_e, w_X9_openSitter_e, w_X9_playGroup_e, pc3, r38]
      by_cases hlt : (k : Int) < pcnt σ 6 3
      · have i9 : ∃ k', k' < n ∧ inv_best σ p w e k' 61 [(24, 36), (16, 16), (0, p), (0, w), (0, e), (0, (k : Int)), (0, 1), v7, v8] [] (fillm (up (up (up σ' 26 6 16) 26 7 p) 26 8 k) 28 324 (-1)) :=
          ⟨n - 1, by omega, rfl, k, T, B, v6, v7, v8, hk, hdp, Or.inr ⟨rfl, hlt, SO_open hF 16 k p, 1, by omega, by omega, by omega, fun S S0 S1 => by omega, rfl⟩⟩
        repeat' (first | assumption | apply And.intro | intro _)
        all_goals first | omega | exact absurd trivial (by assumption) | exact Or.inr rfl | exact Or.inl rfl | exact i9
      · have ek : (pcnt σ 6 3).toNat = k := by omega
        rw [ek] at h
        have hh := h σ' B (SW_tr (mTB_W σ T B) (SF_SW hF)) hdp
        repeat' (first | assumption | apply And.intro | intro _)
        all_goals first | omega | exact absurd trivial (by assumption) | exact Or.inr rfl | exact hh
    · have hF := hSO.1
      have r38 : σ' 38 = B := by rw [SF_r hF (b := 38) (by omega)]; exact mTB_8 σ T B
      have r37 : σ' 37 = T := by rw [SF_r hF (b := 37) (by omega)]; exact mTB_7 σ T B
      have hdb := dpC_b hB h9 (by omega) k (by omega) B hdp
      by_cases cs : (s : Int) ≤ e
      · have hw1 : ∀ τ, SO (mTB σ T B) τ 16 k p → (∀ i, 0 ≤ i → i < 6 → τ 29 i = if bt s i = 1 then sFl σ p k s i else σ' 29 i) → (∀ i, 0 ≤ i → i < 6 → τ 30 i = if bt s i = 1 then sOa σ p k s i else σ' 30 i) → sOv (τ 29) s 6 = sOv (sFl σ p k s) s 6 ∧ chF (τ 29) (τ 30) (σ 18) k s w = chF (sFl σ p k s) (sOa σ p k s) (σ 18) k s w ∧ (∀ i, 0 ≤ i → i < 6 → bt s i = 1 → InR (τ 29 i) ∧ InR (τ 30 i)) ∧ τ 18 = σ 18 ∧ pcnt τ 6 2 = pcnt σ 6 2 ∧ InR (sOv (sFl σ p k s) s 6) := fun τ q1 q2 q3 => by
          have e18 : τ 18 = σ 18 := by rw [SF_r q1.1 (b := 18) (by omega)]; exact mTB_o _ _ _ (by decide) (by decide)
          have ec : pcnt τ 6 2 = pcnt σ 6 2 := by rw [SF_pcnt q1.1 2]; exact SW_pcnt (mTB_W σ T B) 2
          refine ⟨sOv_cong 6 (fun i i0 i1 i2 => by rw [q2 i i0 (by omega), if_pos i2]), chF_cong (fun i i0 i1 i2 => ⟨by rw [q2 i i0 i1, if_pos i2], by rw [q3 i i0 i1, if_pos i2]⟩), fun i i0 i1 i2 => ?_, e18, ec, ?_⟩
          · rw [q2 i i0 i1, q3 i i0 i1, if_pos i2, if_pos i2]
            have b1 := sFl_b (t := (k : Int)) hB h9 (S := (s : Int)) (by omega) (by omega) i0 i1
            have b2 := oaM_b (gmv σ 16 k p) (pval σ 6 0 0 0) s i (pval σ 6 1 p 3).toNat
            have b3 := pval_b hB 1 p 3
            exact ⟨⟨by omega, by omega⟩, ⟨by unfold sOa; omega, by unfold sOa; omega⟩⟩
          · have := sOv_b (f := sFl σ p k s) (S := s) (c := 891) (by omega) 6 (fun i i0 i1 _ => sFl_b hB h9 (by omega) (by omega) i0 (by omega))
            exact ⟨by omega, by omega⟩
        have nx : ∀ τ (v : Int) (u7 u8 : AV), SO (mTB σ T B) τ 16 k p → v = tkF σ p w k s → ∃ k', k' < n ∧ inv_best σ p w e k' 61 [(24, 36), (16, 16), (0, p), (0, w), (0, e), (0, (k : Int)), (0, (s : Int) + 1), u7, u8] [] (up τ 37 s v) := fun τ v u7 u8 q1 q2 => by
          have q3 := SO_setb (b := 37) (Or.inl rfl) q1 (st' T B) s v
          rw [mTB_7, mTB_s7] at q3
          refine ⟨n - 1, by omega, rfl, k, upf T s v, B, v6, u7, u8, hk, hdp, Or.inr ⟨rfl, hlt, q3, s + 1, by omega, by omega, by omega, fun S S0 S1 => ?_, rfl⟩⟩
          by_cases e1 : S = s
          · rw [e1, upf_s, q2]
          · unfold upf; rw [if_neg (by omega)]; exact hT S S0 (by omega)
        have tk0 : tkF σ p w k s = (if w = -1 then -1000000 * sOv (sFl σ p k s) s 6 else chF (sFl σ p k s) (sOa σ p k s) (σ 18) k s w) + rpF k s (pcnt σ 6 2).toNat := rfl
        refine ⟨90, ?_⟩
        simp only [↓reduceIte, inR_0, inR_1, inR_m, vSw2_e, swP_n, swP_c, vI_e, vL_e, vNull_e, vIload_e, vLload_e, vAload_e, vIstore_e, vLstore_e, vAstore_e, vIinc_e, vIadd_e, vIsub_e, vImul_e, vIand_e, vIor_e, vIxor_e, vIshl_e, vIshr_e, vIushr_e, vIdiv_e, vIrem_e, vLadd_e, vLsub_e, vLmul_e, vLand_e, vLor_e, vLxor_e, vLdiv_e, vLrem_e, vLushr_e, vLshl_e, vLcmp_e, vIneg_e, vI2l_e, vL2i_e, vI2b_e, vI2c_e, vDup_e, vPop_e, vDup2_e, vGoto_e, vIcEq_e, vIfEq_e, vIcNe_e, vIfNe_e, vIcLt_e, vIfLt_e, vIcGe_e, vIfGe_e, vIcGt_e, vIfGt_e, vIcLe_e, vIfLe_e, vNonnull_e, vSw_e, vGetI_e, vGetL_e, vGetR_e, vPutI_e, vPutZ_e, vPutL_e, vPutR_e, vIald_e, vIald_s, vLald_e, vBald_e, vBald_s, vAald_e, vIast_e, vLast_e, vBast_e, vAast_e, vAlen_e8, vAlen_e9, vAlen_e10, vAlen_e11, vAlen_e5, vAlen_e3, vGets_e, vCompact_e, vLdcS_e, vIret_e, vZret_e, vCret_e, vBret_e, vLret_e, vVret_e, vAret_e, vCallM_e0, vCallMV_e0, vCallS_e0, vCallSV_e0, vCallM_e1, vCallMV_e1, vCallS_e1, vCallSV_e1, vCallM_e2, vCallMV_e2, vCallS_e2, vCallSV_e2, vCallM_e3, vCallMV_e3, vCallS_e3, vCallSV_e3, vCallM_e4, vCallMV_e4, vCallS_e4, vCallSV_e4, vCallM_e5, vCallMV_e5, vCallS_e5, vCallSV_e5, vCallM_e6, vCallMV_e6, vCallS_e6, vCallSV_e6, vCallM_e7, vCallMV_e7, vCallS_e7, vCallSV_e7, vBad_e, vStrVal_e, vStrCod_e, vForm_e, vCallT_e0, vCallT_e1, vCallT_e2, vCopy_e, rf_0_0, rf_0_1, rf_0_2, rf_0_3, rf_0_4, rf_0_7, rf_0_10, rf_0_11, rf_0_12, rf_0_13, rf_0_14, rf_0_15, rf_0_16, rf_1_0, rf_3_0, rf_3_1, rf_6_0, rf_6_1, rf_9_0, rf_9_1, rf_9_3, rf_13_0, rf_13_1, rf_13_2, rf_16_0, rf_16_1, rf_16_2, rf_16_3, rf_21_0, rf_21_1, rf_21_2, rf_21_3, rf_26_0, rf_26_1, rf_26_2, rf_26_3, rf_26_4, rf_26_5, rf_26_6, rf_31_0, rf_31_2, rf_31_5, rf_31_6, rf_36_0, rf_36_1, rf_36_2, rf_36_3, rf_39_0, rf_39_1, rf_39_2, rf_41_0, rf_41_1, rf_41_2, rf_41_3, rf_5000_1, rf_5000_2, rf_5000_3, rf_5000_4, rf_5000_5, rf_5000_15, rf_5000_16, rf_5000_18, rf_5000_19, rf_5000_20, rf_5000_21, rf_5000_22, rf_5000_23, rf_5000_24, rf_5000_25, rf_5000_26, rf_5000_27, rf_5000_36, rf_5000_37, rf_5000_40, rf_5000_41, rf_5000_42, rf_5000_43, rf_5000_44, rf_5000_45, rf_5000_47, rf_5000_52, rf_5000_54, rf_5000_55, rf_100_0, rf_100_1, rf_103_0, rf_103_1, rf_106_0, rf_106_1, rf_109_0, rf_109_1, al_2, al_4, al_5, al_7, al_8, al_10, al_11, al_12, al_14, al_15, al_17, al_18, al_19, al_20, al_22, al_23, al_24, al_25, al_27, al_28, al_29, al_30, al_32, al_33, al_34, al_35, al_37, al_38, al_40, al_42, al_5001, al_5002, al_5003, al_5004, al_5005, al_5006, al_5007, al_5008, al_5009, al_5010, al_5011, al_5012, al_5013, al_5014, al_5015, al_5016, al_5017, al_5018, al_5019, al_5020, al_5021, al_5022, al_5023, al_5024, al_5025, al_5026, al_9000, al_101, al_102, al_104, al_105, al_107, al_108, al_110, al_111, vcs_e, lg_c0, lg_cs, lg_nil, set_c0, set_cs, okst_0, okst_s, acok_n, acok_c, List.contains_nil, List.contains_cons, Bool.or_false, Bool.false_or, Bool.false_eq_true, if_false, if_true, ite_self, ne_eq, true_and, and_true, not_false_eq_true, not_true_eq_false, false_imp_iff, true_imp_iff, Nat.ble_eq, Bool.and_eq_true, reduceCtorEq, or_false, false_or, or_true, true_or, false_and, and_false, and_self, Int.reduceLE, Int.reduceAdd, Int.reduceSub, Int.reduceMul, Int.reduceNeg, Int.reduceLT, Int.reduceEq, Int.reduceNe, Nat.reduceBEq, Nat.reduceBNe, Nat.reduceEqDiff, amCmp_in, amCmp_lt, amCmp_le, amCmp_gt, amCmp_ge, amCmp_eq, amCmp_ne, Nat.reduceLeDiff, Nat.reduceSub, Bool.and_true, Bool.true_and, Bool.and_self, Bool.or_true, Bool.true_or, isRf_3, isRf_4, isRf_5, isRf_8, isRf_9, isRf_10, isRf_11, isRf_15, isRf_16, isRf_17, isRf_18, isRf_19, isRf_20, isRf_21, isRf_22, isRf_23, isRf_24, isRf_25, isRf_26, isRf_27, isRf_28, k_X8_best_0, k_X8_best_1, k_X8_best_4, k_X8_best_7, k_X8_best_9, k_X8_best_12, k_X8_best_14, k_X8_best_15, k_X8_best_18, k_X8_best_21, k_X8_best_24, k_X8_best_25, k_X8_best_28, k_X8_best_29, k_X8_best_30, k_X8_best_31, k_X8_best_32, k_X8_best_34, k_X8_best_36, k_X8_best_37, k_X8_best_40, k_X8_best_41, k_X8_best_44, k_X8_best_47, k_X8_best_48, k_X8_best_51, k_X8_best_52, k_X8_best_53, k_X8_best_55, k_X8_best_58, k_X8_best_59, k_X8_best_61, k_X8_best_63, k_X8_best_65, k_X8_best_68, k_X8_best_69, k_X8_best_72, k_X8_best_74, k_X8_best_77, k_X8_best_78, k_X8_best_79, k_X8_best_82, k_X8_best_85, k_X8_best_86, k_X8_best_89, k_X8_best_92, k_X8_best_94, k_X8_best_97, k_X8_best_98, k_X8_best_99, k_X8_best_102, k_X8_best_103, k_X8_best_104, k_X8_best_106, k_X8_best_108, k_X8_best_109, k_X8_best_112, k_X8_best_114, k_X8_best_115, k_X8_best_118, k_X8_best_120, k_X8_best_122, k_X8_best_123, k_X8_best_125, k_X8_best_127, k_X8_best_130, k_X8_best_131, k_X8_best_132, k_X8_best_135, k_X8_best_138, k_X8_best_139, k_X8_best_141, k_X8_best_144, k_X8_best_147, k_X8_best_150, k_X8_best_152, k_X8_best_155, k_X8_best_156, k_X8_best_159, k_X8_best_161, k_X8_best_162, k_X8_best_165, k_X8_best_168, w_J7_fill_d0a16_e, w_J9_min_7cf53_e, w_X11_sumOver_e, w_X6_everyChair_e, w_X6_many_e, w_X8_addSitter_e, w_X8_changes_e, w_X8_rowPart_e, w_X9_openSitter_e, w_X9_playGroup_e]
        repeat' (first | assumption | apply And.intro | intro _)
        all_goals first | omega | exact absurd trivial (by assumption) | skip
        all_goals
          refine ⟨mTB σ T B, 16, k, p, st' T B, hSO, ⟨by omega, by omega⟩, hp, by rw [Pv]; exact h9, by omega, by omega, fun τ q1 q2 q3 => ?_⟩
          simp only [Gm, Pv] at q2 q3
          obtain ⟨x1, x2, x3, x4, x5, x6⟩ := hw1 τ q1 q2 q3
          have i9 := fun v u7 u8 => nx τ v u7 u8 q1
          simp only [x1, x2, x4, x5]
          by_cases cw : w = -1
          · rw [if_pos cw] at tk0
            repeat' (first | assumption | apply And.intro | intro _)
            all_goals first | omega | exact absurd trivial (by assumption) | exact i9 _ _ _ tk0.symm
          · rw [if_neg cw] at tk0
            repeat' (first | assumption | apply And.intro | intro _)
            all_goals first | omega | exact absurd trivial (by assumption) | exact i9 _ _ _ tk0.symm
      · have es : (s : Int) = e + 1 := by omega
        have i9 : ∀ B', adP T B e B' → ∃ k', k' < n ∧ inv_best σ p w e k' 34 [(24, 36), (16, 16), (0, p), (0, w), (0, e), (0, (k : Int) + 1), (0, (s : Int)), v7, v8] [] (setv σ' 38 B') := fun B' hB' => by
          refine ⟨((pcnt σ 6 3 - (k + 1)) * 100).toNat, by omega, rfl, k + 1, T, B', (0, (s : Int)), v7, v8, by omega, ⟨B, T, hdp, fun S S0 S1 => hT S S0 (by omega), hB'⟩, Or.inl ⟨rfl, by omega, ⟨fun b g1 g2 g3 g4 g5 g6 g7 g8 g9 => ?_, ?_⟩, rfl⟩⟩
          · by_cases e1 : b = 38
            · subst e1; rw [setv_s, mTB_8]
            · rw [setv_o _ _ e1, hF.1 b g1 g2 g3 g4 g5 g6 g7 g8 g9]
              unfold mTB; rw [setv_o _ _ e1, setv_o _ _ e1]
          · rw [setv_o _ _ (by decide), hF.2, mTB_o _ _ _ (by decide) (by decide), mTB_o _ _ _ (by decide) (by decide)]
        have hb1 : ∀ j, 0 ≤ j → j < 64 → -1200000000000000000 ≤ B j ∧ B j ≤ 1200000000000000000 := fun j j0 j1 => by have := hdb j j0 j1; omega
        have hb2 : ∀ j, 1 ≤ j → j ≤ e → -1200000000000000000 ≤ T j ∧ T j ≤ 1200000000000000000 := fun j j0 j1 => by
          have t1 := hT j.toNat (by omega) (by omega)
          rw [show ((j.toNat : Nat) : Int) = j by omega] at t1
          have t2 := tkF_b (w := w) (t := (k : Int)) (S := j) hB h9 (by omega) (by omega) (by omega) (by omega)
          have t3 : (-6000000000 : Int) ≤ if w = -1 then -6000000000 else 0 := by split <;> omega
          omega
        refine ⟨60, ?_⟩
        simp only [↓reduceIte, inR_0, inR_1, inR_m, vSw2_e, swP_n, swP_c, vI_e, vL_e, vNull_e, vIload_e, vLload_e, vAload_e, vIstore_e, vLstore_e, vAstore_e, vIinc_e, vIadd_e, vIsub_e, vImul_e, vIand_e, vIor_e, vIxor_e, vIshl_e, vIshr_e, vIushr_e, vIdiv_e, vIrem_e, vLadd_e, vLsub_e, vLmul_e, vLand_e, vLor_e, vLxor_e, vLdiv_e, vLrem_e, vLushr_e, vLshl_e, vLcmp_e, vIneg_e, vI2l_e, vL2i_e, vI2b_e, vI2c_e, vDup_e, vPop_e, vDup2_e, vGoto_e, vIcEq_e, vIfEq_e, vIcNe_e, vIfNe_e, vIcLt_e, vIfLt_e, vIcGe_e, vIfGe_e, vIcGt_e, vIfGt_e, vIcLe_e, vIfLe_e, vNonnull_e, vSw_e, vGetI_e, vGetL_e, vGetR_e, vPutI_e, vPutZ_e, vPutL_e, vPutR_e, vIald_e, vIald_s, vLald_e, vBald_e, vBald_s, vAald_e, vIast_e, vLast_e, vBast_e, vAast_e, vAlen_e8, vAlen_e9, vAlen_e10, vAlen_e11, vAlen_e5, vAlen_e3, vGets_e, vCompact_e, vLdcS_e, vIret_e, vZret_e, vCret_e, vBret_e, vLret_e, vVret_e, vAret_e, vCallM_e0, vCallMV_e0, vCallS_e0, vCallSV_e0, vCallM_e1, vCallMV_e1, vCallS_e1, vCallSV_e1, vCallM_e2, vCallMV_e2, vCallS_e2, vCallSV_e2, vCallM_e3, vCallMV_e3, vCallS_e3, vCallSV_e3, vCallM_e4, vCallMV_e4, vCallS_e4, vCallSV_e4, vCallM_e5, vCallMV_e5, vCallS_e5, vCallSV_e5, vCallM_e6, vCallMV_e6, vCallS_e6, vCallSV_e6, vCallM_e7, vCallMV_e7, vCallS_e7, vCallSV_e7, vBad_e, vStrVal_e, vStrCod_e, vForm_e, vCallT_e0, vCallT_e1, vCallT_e2, vCopy_e, rf_0_0, rf_0_1, rf_0_2, rf_0_3, rf_0_4, rf_0_7, rf_0_10, rf_0_11, rf_0_12, rf_0_13, rf_0_14, rf_0_15, rf_0_16, rf_1_0, rf_3_0, rf_3_1, rf_6_0, rf_6_1, rf_9_0, rf_9_1, rf_9_3, rf_13_0, rf_13_1, rf_13_2, rf_16_0, rf_16_1, rf_16_2, rf_16_3, rf_21_0, rf_21_1, rf_21_2, rf_21_3, rf_26_0, rf_26_1, rf_26_2, rf_26_3, rf_26_4, rf_26_5, rf_26_6, rf_31_0, rf_31_2, rf_31_5, rf_31_6, rf_36_0, rf_36_1, rf_36_2, rf_36_3, rf_39_0, rf_39_1, rf_39_2, rf_41_0, rf_41_1, rf_41_2, rf_41_3, rf_5000_1, rf_5000_2, rf_5000_3, rf_5000_4, rf_5000_5, rf_5000_15, rf_5000_16, rf_5000_18, rf_5000_19, rf_5000_20, rf_5000_21, rf_5000_22, rf_5000_23, rf_5000_24, rf_5000_25, rf_5000_26, rf_5000_27, rf_5000_36, rf_5000_37, rf_5000_40, rf_5000_41, rf_5000_42, rf_5000_43, rf_5000_44, rf_5000_45, rf_5000_47, rf_5000_52, rf_5000_54, rf_5000_55, rf_100_0, rf_100_1, rf_103_0, rf_103_1, rf_106_0, rf_106_1, rf_109_0, rf_109_1, al_2, al_4, al_5, al_7, al_8, al_10, al_11, al_12, al_14, al_15, al_17, al_18, al_19, al_20, al_22, al_23, al_24, al_25, al_27, al_28, al_29, al_30, al_32, al_33, al_34, al_35, al_37, al_38, al_40, al_42, al_5001, al_5002, al_5003, al_5004, al_5005, al_5006, al_5007, al_5008, al_5009, al_5010, al_5011, al_5012, al_5013, al_5014, al_5015, al_5016, al_5017, al_5018, al_5019, al_5020, al_5021, al_5022, al_5023, al_5024, al_5025, al_5026, al_9000, al_101, al_102, al_104, al_105, al_107, al_108, al_110, al_111, vcs_e, lg_c0, lg_cs, lg_nil, set_c0, set_cs, okst_0, okst_s, acok_n, acok_c, List.contains_nil, List.contains_cons, Bool.or_false, Bool.false_or, Bool.false_eq_true, if_false, if_true, ite_self, ne_eq, true_and, and_true, not_false_eq_true, not_true_eq_false, false_imp_iff, true_imp_iff, Nat.ble_eq, Bool.and_eq_true, reduceCtorEq, or_false, false_or, or_true, true_or, false_and, and_false, and_self, Int.reduceLE, Int.reduceAdd, Int.reduceSub, Int.reduceMul, Int.reduceNeg, Int.reduceLT, Int.reduceEq, Int.reduceNe, Nat.reduceBEq, Nat.reduceBNe, Nat.reduceEqDiff, amCmp_in, amCmp_lt, amCmp_le, amCmp_gt, amCmp_ge, amCmp_eq, amCmp_ne, Nat.reduceLeDiff, Nat.reduceSub, Bool.and_true, Bool.true_and, Bool.and_self, Bool.or_true, Bool.true_or, isRf_3, isRf_4, isRf_5, isRf_8, isRf_9, isRf_10, isRf_11, isRf_15, isRf_16, isRf_17, isRf_18, isRf_19, isRf_20, isRf_21, isRf_22, isRf_23, isRf_24, isRf_25, isRf_26, isRf_27, isRf_28, k_X8_best_0, k_X8_best_1, k_X8_best_4, k_X8_best_7, k_X8_best_9, k_X8_best_12, k_X8_best_14, k_X8_best_15, k_X8_best_18, k_X8_best_21, k_X8_best_24, k_X8_best_25, k_X8_best_28, k_X8_best_29, k_X8_best_30, k_X8_best_31, k_X8_best_32, k_X8_best_34, k_X8_best_36, k_X8_best_37, k_X8_best_40, k_X8_best_41, k_X8_best_44, k_X8_best_47, k_X8_best_48, k_X8_best_51, k_X8_best_52, k_X8_best_53, k_X8_best_55, k_X8_best_58, k_X8_best_59, k_X8_best_61, k_X8_best_63, k_X8_best_65, k_X8_best_68, k_X8_best_69, k_X8_best_72, k_X8_best_74, k_X8_best_77, k_X8_best_78, k_X8_best_79, k_X8_best_82, k_X8_best_85, k_X8_best_86, k_X8_best_89, k_X8_best_92, k_X8_best_94, k_X8_best_97, k_X8_best_98, k_X8_best_99, k_X8_best_102, k_X8_best_103, k_X8_best_104, k_X8_best_106, k_X8_best_108, k_X8_best_109, k_X8_best_112, k_X8_best_114, k_X8_best_115, k_X8_best_118, k_X8_best_120, k_X8_best_122, k_X8_best_123, k_X8_best_125, k_X8_best_127, k_X8_best_130, k_X8_best_131, k_X8_best_132, k_X8_best_135, k_X8_best_138, k_X8_best_139, k_X8_best_141, k_X8_best_144, k_X8_best_147, k_X8_best_150, k_X8_best_152, k_X8_best_155, k_X8_best_156, k_X8_best_159, k_X8_best_161, k_X8_best_162, k_X8_best_165, k_X8_best_168, w_J7_fill_d0a16_e, w_J9_min_7cf53_e, w_X11_sumOver_e, w_X6_everyChair_e, w_X6_many_e, w_X8_addSitter_e, w_X8_changes_e, w_X8_rowPart_e, w_X9_openSitter_e, w_X9_playGroup_e, r37, r38]
        repeat' (first | assumption | apply And.intro | intro _)
        all_goals first | omega | exact absurd trivial (by assumption) | exact i9 _ (by assumption)
  · change vcs _ _ _ _ 60 0 [(24, 36), (16, 16), (0, p), (0, w), (6, 0), (6, 0), (6, 0), (6, 0), (6, 0)] [] σ
    simp only [↓reduceIte, inR_0, inR_1, inR_m, vSw2_e, swP_n, swP_c, vI_e, vL_e, vNull_e, vIload_e, vLload_e, vAload_e, vIstore_e, vLstore_e, vAstore_e, vIinc_e, vIadd_e, vIsub_e, vImul_e, vIand_e, vIor_e, vIxor_e, vIshl_e, vIshr_e, vIushr_e, vIdiv_e, vIrem_e, vLadd_e, vLsub_e, vLmul_e, vLand_e, vLor_e, vLxor_e, vLdiv_e, vLrem_e, vLushr_e, vLshl_e, vLcmp_e, vIneg_e, vI2l_e, vL2i_e, vI2b_e, vI2c_e, vDup_e, vPop_e, vDup2_e, vGoto_e, vIcEq_e, vIfEq_e, vIcNe_e, vIfNe_e, vIcLt_e, vIfLt_e, vIcGe_e, vIfGe_e, vIcGt_e, vIfGt_e, vIcLe_e, vIfLe_e, vNonnull_e, vSw_e, vGetI_e, vGetL_e, vGetR_e, vPutI_e, vPutZ_e, vPutL_e, vPutR_e, vIald_e, vIald_s, vLald_e, vBald_e, vBald_s, vAald_e, vIast_e, vLast_e, vBast_e, vAast_e, vAlen_e8, vAlen_e9, vAlen_e10, vAlen_e11, vAlen_e5, vAlen_e3, vGets_e, vCompact_e, vLdcS_e, vIret_e, vZret_e, vCret_e, vBret_e, vLret_e, vVret_e, vAret_e, vCallM_e0, vCallMV_e0, vCallS_e0, vCallSV_e0, vCallM_e1, vCallMV_e1, vCallS_e1, vCallSV_e1, vCallM_e2, vCallMV_e2, vCallS_e2, vCallSV_e2, vCallM_e3, vCallMV_e3, vCallS_e3, vCallSV_e3, vCallM_e4, vCallMV_e4, vCallS_e4, vCallSV_e4, vCallM_e5, vCallMV_e5, vCallS_e5, vCallSV_e5, vCallM_e6, vCallMV_e6, vCallS_e6, vCallSV_e6, vCallM_e7, vCallMV_e7, vCallS_e7, vCallSV_e7, vBad_e, vStrVal_e, vStrCod_e, vForm_e, vCallT_e0, vCallT_e1, vCallT_e2, vCopy_e, rf_0_0, rf_0_1, rf_0_2, rf_0_3, rf_0_4, rf_0_7, rf_0_10, rf_0_11, rf_0_12, rf_0_13, rf_0_14, rf_0_15, rf_0_16, rf_1_0, rf_3_0, rf_3_1, rf_6_0, rf_6_1, rf_9_0, rf_9_1, rf_9_3, rf_13_0, rf_13_1, rf_13_2, rf_16_0, rf_16_1, rf_16_2, rf_16_3, rf_21_0, rf_21_1, rf_21_2, rf_21_3, rf_26_0, rf_26_1, rf_26_2, rf_26_3, rf_26_4, rf_26_5, rf_26_6, rf_31_0, rf_31_2, rf_31_5, rf_31_6, rf_36_0, rf_36_1, rf_36_2, rf_36_3, rf_39_0, rf_39_1, rf_39_2, rf_41_0, rf_41_1, rf_41_2, rf_41_3, rf_5000_1, rf_5000_2, rf_5000_3, rf_5000_4, rf_5000_5, rf_5000_15, rf_5000_16, rf_5000_18, rf_5000_19, rf_5000_20, rf_5000_21, rf_5000_22, rf_5000_23, rf_5000_24, rf_5000_25, rf_5000_26, rf_5000_27, rf_5000_36, rf_5000_37, rf_5000_40, rf_5000_41, rf_5000_42, rf_5000_43, rf_5000_44, rf_5000_45, rf_5000_47, rf_5000_52, rf_5000_54, rf_5000_55, rf_100_0, rf_100_1, rf_103_0, rf_103_1, rf_106_0, rf_106_1, rf_109_0, rf_109_1, al_2, al_4, al_5, al_7, al_8, al_10, al_11, al_12, al_14, al_15, al_17, al_18, al_19, al_20, al_22, al_23, al_24, al_25, al_27, al_28, al_29, al_30, al_32, al_33, al_34, al_35, al_37, al_38, al_40, al_42, al_5001, al_5002, al_5003, al_5004, al_5005, al_5006, al_5007, al_5008, al_5009, al_5010, al_5011, al_5012, al_5013, al_5014, al_5015, al_5016, al_5017, al_5018, al_5019, al_5020, al_5021, al_5022, al_5023, al_5024, al_5025, al_5026, al_9000, al_101, al_102, al_104, al_105, al_107, al_108, al_110, al_111, vcs_e, lg_c0, lg_cs, lg_nil, set_c0, set_cs, okst_0, okst_s, acok_n, acok_c, List.contains_nil, List.contains_cons, Bool.or_false, Bool.false_or, Bool.false_eq_true, if_false, if_true, ite_self, ne_eq, true_and, and_true, not_false_eq_true, not_true_eq_false, false_imp_iff, true_imp_iff, Nat.ble_eq, Bool.and_eq_true, reduceCtorEq, or_false, false_or, or_true, true_or, false_and, and_false, and_self, Int.reduceLE, Int.reduceAdd, Int.reduceSub, Int.reduceMul, Int.reduceNeg, Int.reduceLT, Int.reduceEq, Int.reduceNe, Nat.reduceBEq, Nat.reduceBNe, Nat.reduceEqDiff, amCmp_in, amCmp_lt, amCmp_le, amCmp_gt, amCmp_ge, amCmp_eq, amCmp_ne, Nat.reduceLeDiff, Nat.reduceSub, Bool.and_true, Bool.true_and, Bool.and_self, Bool.or_true, Bool.true_or, isRf_3, isRf_4, isRf_5, isRf_8, isRf_9, isRf_10, isRf_11, isRf_15, isRf_16, isRf_17, isRf_18, isRf_19, isRf_20, isRf_21, isRf_22, isRf_23, isRf_24, isRf_25, isRf_26, isRf_27, isRf_28, k_X8_best_0, k_X8_best_1, k_X8_best_4, k_X8_best_7, k_X8_best_9, k_X8_best_12, k_X8_best_14, k_X8_best_15, k_X8_best_18, k_X8_best_21, k_X8_best_24, k_X8_best_25, k_X8_best_28, k_X8_best_29, k_X8_best_30, k_X8_best_31, k_X8_best_32, k_X8_best_34, k_X8_best_36, k_X8_best_37, k_X8_best_40, k_X8_best_41, k_X8_best_44, k_X8_best_47, k_X8_best_48, k_X8_best_51, k_X8_best_52, k_X8_best_53, k_X8_best_55, k_X8_best_58, k_X8_best_59, k_X8_best_61, k_X8_best_63, k_X8_best_65, k_X8_best_68, k_X8_best_69, k_X8_best_72, k_X8_best_74, k_X8_best_77, k_X8_best_78, k_X8_best_79, k_X8_best_82, k_X8_best_85, k_X8_best_86, k_X8_best_89, k_X8_best_92, k_X8_best_94, k_X8_best_97, k_X8_best_98, k_X8_best_99, k_X8_best_102, k_X8_best_103, k_X8_best_104, k_X8_best_106, k_X8_best_108, k_X8_best_109, k_X8_best_112, k_X8_best_114, k_X8_best_115, k_X8_best_118, k_X8_best_120, k_X8_best_122, k_X8_best_123, k_X8_best_125, k_X8_best_127, k_X8_best_130, k_X8_best_131, k_X8_best_132, k_X8_best_135, k_X8_best_138, k_X8_best_139, k_X8_best_141, k_X8_best_144, k_X8_best_147, k_X8_best_150, k_X8_best_152, k_X8_best_155, k_X8_best_156, k_X8_best_159, k_X8_best_161, k_X8_best_162, k_X8_best_165, k_X8_best_168, w_J7_fill_d0a16_e, w_J9_min_7cf53_e, w_X11_sumOver_e, w_X6_everyChair_e, w_X6_many_e, w_X8_addSitter_e, w_X8_changes_e, w_X8_rowPart_e, w_X9_openSitter_e, w_X9_playGroup_e, hee]
    rw [if_neg (show ¬ 63 < e by omega)]
    have i9 : ∃ k', inv_best σ p w e k' 34 [(24, 36), (16, 16), (0, p), (0, w), (0, e), (0, 0), (6, 0), (6, 0), (6, 0)] [] (up (fillm σ 38 64 1152921504606846976) 38 0 0) := by
      refine ⟨(pcnt σ 6 3 * 100).toNat, rfl, 0, σ 37, up (fillm σ 38 64 1152921504606846976) 38 0 0 38, _, _, _, by omega, fun j j0 j1 => ?_, Or.inl ⟨rfl, by omega, ⟨fun b g1 g2 g3 g4 g5 g6 g7 g8 g9 => ?_, ?_⟩, rfl⟩⟩
      · by_cases e1 : j = 0
        · rw [e1, up_s, if_pos rfl]
        · rw [up_nj _ e1, if_neg e1]; unfold fillm; rw [if_pos ⟨rfl, j0, j1⟩]
      · by_cases e1 : b = 38
        · subst e1; rw [mTB_8]
        · rw [up_na _ e1, fillm_o _ e1]
          unfold mTB; rw [setv_o _ _ e1, setv_id]
      · rw [up_na _ (by decide), fillm_o _ (by decide), mTB_o _ _ _ (by decide) (by decide)]
    repeat' (first | assumption | apply And.intro | intro _)
    all_goals first | omega | exact absurd trivial (by assumption) | exact Or.inr rfl | exact i9
