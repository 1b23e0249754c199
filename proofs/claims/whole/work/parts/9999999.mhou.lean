/-! the reference reads a HOUSE -/
def cof (m : Mem) (k : Int) : Int := if k = 0 then m 5000 35 else m 5000 (30 + k)
def vof (m : Mem) (s : Int) : Int := if s < 2 then m 5006 s else if s < 4 then 0 else if s < 20 then m 5008 (s - 4) else if s < 44 then (if s % 4 = 3 then 0 else m 5010 (3 * ((s - 20) / 4) + s % 4)) else if s % 4 = 0 then m 5012 ((s - 44) / 4) else 0
theorem vof_slo (m : Mem) {b j : Int} (h : 0 ≤ slo b j) : vof m (slo b j) = m b j := by
  by_cases h1 : b = 5006 ∧ 0 ≤ j ∧ j < 2
  · have e : slo b j = j := by unfold slo; rw [if_pos h1]
    rw [e, h1.1]; unfold vof; rw [if_pos (by omega)]
  · by_cases h2 : b = 5008 ∧ 0 ≤ j ∧ j < 16
    · have e : slo b j = 4 + j := by unfold slo; rw [if_neg h1, if_pos h2]
      rw [e, h2.1]; unfold vof; rw [if_neg (by omega), if_neg (by omega), if_pos (by omega)]; congr 1; omega
    · by_cases h3 : b = 5010 ∧ 0 ≤ j ∧ j < 18
      · have e : slo b j = (5 + j / 3) * 4 + j % 3 := by unfold slo; rw [if_neg h1, if_neg h2, if_pos h3]
        rw [e, h3.1]; unfold vof; rw [if_neg (by omega), if_neg (by omega), if_neg (by omega), if_pos (by omega), if_neg (by omega)]; congr 1; omega
      · by_cases h4 : b = 5012 ∧ 0 ≤ j ∧ j < 6
        · have e : slo b j = (11 + j) * 4 := by unfold slo; rw [if_neg h1, if_neg h2, if_neg h3, if_pos h4]
          rw [e, h4.1]; unfold vof; rw [if_neg (by omega), if_neg (by omega), if_neg (by omega), if_neg (by omega), if_pos (by omega)]; congr 1; omega
        · have e : slo b j = -1 := by unfold slo; rw [if_neg h1, if_neg h2, if_neg h3, if_neg h4]
          omega
theorem ho_id {m : Mem} {p f : Int} (h1 : m 5000 10 = p) (h2 : m 5000 11 = f) : hoN m p f (cof m) (vof m) = m := by
  funext b j; unfold hoN
  by_cases h : 0 ≤ slo b j
  · rw [if_pos h, vof_slo m h]
  · rw [if_neg h]
    by_cases h3 : b = 5000 ∧ 31 ≤ j ∧ j ≤ 33
    · rw [if_pos h3, h3.1]; unfold cof; rw [if_neg (by omega)]; congr 1; omega
    · rw [if_neg h3]
      by_cases h4 : b = 5000 ∧ j = 35
      · rw [if_pos h4, h4.1, h4.2]; unfold cof; rw [if_pos rfl]
      · rw [if_neg h4, ← h1, ← h2, rd_id]
theorem ho_cg {m : Mem} {p f : Int} {c c' v : Int → Int} (h : ∀ k, 0 ≤ k → k < 4 → c' k = c k) : hoN m p f c' v = hoN m p f c v := by
  funext b j; unfold hoN
  by_cases h1 : 0 ≤ slo b j
  · rw [if_pos h1, if_pos h1]
  · rw [if_neg h1, if_neg h1]
    by_cases h3 : b = 5000 ∧ 31 ≤ j ∧ j ≤ 33
    · rw [if_pos h3, if_pos h3, h _ (by omega) (by omega)]
    · rw [if_neg h3, if_neg h3, h 0 (by decide) (by decide)]
theorem vof_ho {m : Mem} {p f : Int} {c v : Int → Int} (h : rowB v) : rowB (vof (hoN m p f c v)) := by
  have key : ∀ b j, 0 ≤ slo b j → hoN m p f c v b j = v (slo b j) := fun b j g => by unfold hoN; rw [if_pos g]
  intro s s0 s1
  unfold vof
  by_cases h1 : s < 2
  · rw [if_pos h1]
    have e : slo 5006 s = s := by unfold slo; rw [if_pos ⟨rfl, s0, h1⟩]
    rw [key _ _ (by omega), e]; exact h s s0 s1
  · rw [if_neg h1]
    by_cases h2 : s < 4
    · rw [if_pos h2]; omega
    · rw [if_neg h2]
      by_cases h3 : s < 20
      · rw [if_pos h3]
        have e : slo 5008 (s - 4) = s := by unfold slo; rw [if_neg (by omega), if_pos ⟨rfl, by omega, by omega⟩]; omega
        rw [key _ _ (by omega), e]; exact h s s0 s1
      · rw [if_neg h3]
        by_cases h4 : s < 44
        · rw [if_pos h4]
          by_cases h5 : s % 4 = 3
          · rw [if_pos h5]; omega
          · rw [if_neg h5]
            have e : slo 5010 (3 * ((s - 20) / 4) + s % 4) = s := by unfold slo; rw [if_neg (by omega), if_neg (by omega), if_pos ⟨rfl, by omega, by omega⟩]; omega
            rw [key _ _ (by omega), e]; exact h s s0 s1
        · rw [if_neg h4]
          by_cases h5 : s % 4 = 0
          · rw [if_pos h5]
            have e : slo 5012 ((s - 44) / 4) = s := by unfold slo; rw [if_neg (by omega), if_neg (by omega), if_neg (by omega), if_pos ⟨rfl, by omega, by omega⟩]; omega
            rw [key _ _ (by omega), e]; exact h s s0 s1
          · rw [if_neg h5]; omega
/-- what reading a HOUSE may change -/
def HRF (σ τ : Mem) : Prop := (∀ b, b ≠ 5000 → b ≠ 5006 → b ≠ 5008 → b ≠ 5010 → b ≠ 5012 → τ b = σ b) ∧ ∀ k, k ≠ 5 → (k < 8 ∨ 12 < k) → (k < 31 ∨ 33 < k) → k ≠ 35 → τ 5000 k = σ 5000 k
theorem HRF_ho (σ : Mem) (a b n p f : Int) (c v : Int → Int) : HRF σ (hoN (stsM σ a b n) p f c v) := by
  have eo : ∀ c, c ≠ 5000 → stsM σ a b n c = σ c := fun c hc => by unfold stsM; simp only [up_na _ hc]
  refine ⟨fun x h1 h2 h3 h4 h5 => ?_, fun k h1 h2 h3 h4 => ?_⟩
  · rw [ho_o _ _ _ _ _ h1 h2 h3 h4 h5, eo x h1]
  · rw [ho_k _ _ _ _ _ ⟨h3, h4⟩, rd_o _ _ _ _ (by omega)]
    unfold stsM
    rw [up_nj _ (by omega), up_nj _ (by omega), up_nj _ (by omega), up_nj _ (by omega), up_nj _ (by omega)]
theorem mtx_nn {m : Mem} (h : txOk m) {i : Int} (h0 : 0 ≤ i) (h1 : i ≤ m 5000 9) (e : mtx m i = -1) : i = m 5000 9 := by
  by_cases c : i < m 5000 9
  · have := (mtx_in h h0 c).1; omega
  · omega
theorem vof_c {m m' : Mem} (h1 : m' 5006 = m 5006) (h2 : m' 5008 = m 5008) (h3 : m' 5010 = m 5010) (h4 : m' 5012 = m 5012) : vof m' = vof m := by
  funext s; unfold vof; rw [h1, h2, h3, h4]
theorem ho_sl (m : Mem) (p f : Int) (c v : Int → Int) {b j : Int} (h : 0 ≤ slo b j) : hoN m p f c v b j = v (slo b j) := by unfold hoN; rw [if_pos h]
theorem hIt_e {t : Int → Int} {n kind row : Int} (ht : ∀ i, n ≤ i → t i = -1) : ∀ (f : Nat) (told p : Int) (v : Int → Int), 0 ≤ p → p ≤ n → (hIt t n kind row f told p v).1 = -1 → (t (sk t n (hIt t n kind row f told p v).2.1) = -1 ∨ t (sk t n (hIt t n kind row f told p v).2.1) = 59) := by
  intro f
  induction f with
  | zero => intro told p v h0 h1 h; unfold hIt at h; dsimp only at h; omega
  | succ f ih =>
    intro told p v h0 h1 h
    have s1 := sk_b t h1
    have ss := sk_sk t h1
    unfold hIt at h ⊢
    by_cases c1 : t (sk t n p) = -1 ∨ t (sk t n p) = 59
    · rw [if_pos c1]; dsimp only; rw [ss]; exact c1
    · rw [if_neg c1] at h ⊢
      have s2 := sk_lt ht (q := sk t n p) (by omega)
      have s3 := sk_b t (n := n) (p := sk t n p + 1) (by omega)
      have s4 := ndig_le ht 2 (sk t n (sk t n p + 1)) (by omega)
      have s5 := ndig_bd t 2 (sk t n (sk t n p + 1))
      by_cases c2 : itemF kind (t (sk t n p)) = -1 ∨ told / (2 ^ (itemF kind (t (sk t n p))).toNat) % 2 = 1
      · rw [if_pos c2] at h; dsimp only at h; omega
      · rw [if_neg c2] at h ⊢
        by_cases c3 : ndig t (sk t n (sk t n p + 1)) 2 = 0 ∨ (48 ≤ t (sk t n (sk t n p + 1) + ndig t (sk t n (sk t n p + 1)) 2) ∧ t (sk t n (sk t n p + 1) + ndig t (sk t n (sk t n p + 1)) 2) ≤ 57)
        · rw [if_pos c3] at h; dsimp only at h; omega
        · rw [if_neg c3] at h ⊢
          by_cases c4 : fitF kind (itemF kind (t (sk t n p))) (nval t (sk t n (sk t n p + 1)) 0 2)
          · rw [if_pos c4] at h ⊢
            exact ih _ _ _ (by omega) (by omega) h
          · rw [if_neg c4] at h; dsimp only at h; omega

theorem wd_1515 : Cond.methodLink RX12 281 yX12_readClause ∈ TBL := tb_tab (List.mem_of_getElem? (i := 1515) (by decide +kernel)) rfl
theorem wd_1518 : Cond.code yX12_readClause cX12_readClause 3 (none) ∈ TBL := tb_tab (List.mem_of_getElem? (i := 1518) (by decide +kernel)) rfl
theorem lk_X12_281 : amLk RX12 281 yX12_readClause cX12_readClause 3 (none) 0 := ⟨wd_1515, wd_12, wd_1518, by decide +kernel, by decide +kernel, by decide⟩
theorem wd_1517 : Cond.instanceMethod yX12_readClause ∈ TBL := tb_tab (List.mem_of_getElem? (i := 1517) (by decide +kernel)) rfl
theorem sl_X12_readClause : Cond.selects RX12 yX12_readClause yX12_readClause ∈ TBL := tb_sel (List.mem_of_getElem? (i := 50) (by decide +kernel)) rfl
theorem wd_1561 : Cond.methodLink RX12 284 yX12_isWhole ∈ TBL := tb_tab (List.mem_of_getElem? (i := 1561) (by decide +kernel)) rfl
theorem wd_1564 : Cond.code yX12_isWhole cX12_isWhole 2 (some .boolean) ∈ TBL := tb_tab (List.mem_of_getElem? (i := 1564) (by decide +kernel)) rfl
theorem lk_X12_284 : amLk RX12 284 yX12_isWhole cX12_isWhole 2 (some .boolean) 0 := ⟨wd_1561, wd_12, wd_1564, by decide +kernel, by decide +kernel, by decide⟩
theorem wd_1563 : Cond.instanceMethod yX12_isWhole ∈ TBL := tb_tab (List.mem_of_getElem? (i := 1563) (by decide +kernel)) rfl
theorem sl_X12_isWhole : Cond.selects RX12 yX12_isWhole yX12_isWhole ∈ TBL := tb_sel (List.mem_of_getElem? (i := 57) (by decide +kernel)) rfl
def a_X12_readHouse : AC := [(0, vAload 0 1), (1, vAload 0 2), (2, vGetR TT 28 1 10 5), (5, vI 0 6), (6, vAload 0 7), (7, vGetI 28 6 10), (10, vCallMV w_X12_starts 28 3 13), (13, vAload 0 14), (14, vI 0 15), (15, vPutI 28 31 18), (18, vAload 0 19), (19, vI 0 20), (20, vPutI 28 32 23), (23, vAload 0 24), (24, vI 0 25), (25, vPutI 28 33 28), (28, vAload 0 29), (29, vI 0 30), (30, vPutZ 28 35 33), (33, vI 0 34), (34, vIstore 1 35), (35, vIload 1 36), (36, vI 2 37), (37, vIcGe 58 40), (40, vAload 0 41), (41, vGetR TT 28 19 8 44), (44, vIload 1 45), (45, vI 115 47), (47, vIload 1 48), (48, vCallS w_X12_usual 2 51), (51, vIast TT 52), (52, vIinc 1 1 55), (55, vGoto 35), (58, vI 1 59), (59, vIstore 1 60), (60, vIload 1 61), (61, vIfEq 116 64), (64, vAload 0 65), (65, vGetI 28 11 68), (68, vI (-1) 69), (69, vIcNe 116 72), (72, vAload 0 73), (73, vCallMV w_X12_readClause 28 0 76), (76, vAload 0 77), (77, vGetI 28 11 80), (80, vI (-1) 81), (81, vIcNe 97 84), (84, vAload 0 85), (85, vCallM w_X12_look 28 0 88), (88, vI 59 90), (90, vIcNe 97 93), (93, vI 1 94), (94, vGoto 98), (97, vI 0 98), (98, vIstore 1 99), (99, vIload 1 100), (100, vIfEq 60 103), (103, vAload 0 104), (104, vDup 105), (105, vGetI 28 10 108), (108, vI 1 109), (109, vIadd 110), (110, vPutI 28 10 113), (113, vGoto 60), (116, vAload 0 117), (117, vGetI 28 11 120), (120, vI (-1) 121), (121, vIcNe 144 124), (124, vAload 0 125), (125, vCallM w_X12_look 28 0 128), (128, vI (-1) 129), (129, vIcNe 139 132), (132, vAload 0 133), (133, vCallM w_X12_isWhole 28 0 136), (136, vIfNe 144 139), (139, vAload 0 140), (140, vCallM w_X12_fails 28 0 143), (143, vPop 144), (144, vVret)]
theorem k_X12_readHouse_0 : look a_X12_readHouse 0 = vAload 0 1 := rfl
theorem k_X12_readHouse_1 : look a_X12_readHouse 1 = vAload 0 2 := rfl
theorem k_X12_readHouse_2 : look a_X12_readHouse 2 = vGetR TT 28 1 10 5 := rfl
theorem k_X12_readHouse_5 : look a_X12_readHouse 5 = vI 0 6 := rfl
theorem k_X12_readHouse_6 : look a_X12_readHouse 6 = vAload 0 7 := rfl
theorem k_X12_readHouse_7 : look a_X12_readHouse 7 = vGetI 28 6 10 := rfl
theorem k_X12_readHouse_10 : look a_X12_readHouse 10 = vCallMV w_X12_starts 28 3 13 := rfl
theorem k_X12_readHouse_13 : look a_X12_readHouse 13 = vAload 0 14 := rfl
theorem k_X12_readHouse_14 : look a_X12_readHouse 14 = vI 0 15 := rfl
theorem k_X12_readHouse_15 : look a_X12_readHouse 15 = vPutI 28 31 18 := rfl
theorem k_X12_readHouse_18 : look a_X12_readHouse 18 = vAload 0 19 := rfl
theorem k_X12_readHouse_19 : look a_X12_readHouse 19 = vI 0 20 := rfl
theorem k_X12_readHouse_20 : look a_X12_readHouse 20 = vPutI 28 32 23 := rfl
theorem k_X12_readHouse_23 : look a_X12_readHouse 23 = vAload 0 24 := rfl
theorem k_X12_readHouse_24 : look a_X12_readHouse 24 = vI 0 25 := rfl
theorem k_X12_readHouse_25 : look a_X12_readHouse 25 = vPutI 28 33 28 := rfl
theorem k_X12_readHouse_28 : look a_X12_readHouse 28 = vAload 0 29 := rfl
theorem k_X12_readHouse_29 : look a_X12_readHouse 29 = vI 0 30 := rfl
theorem k_X12_readHouse_30 : look a_X12_readHouse 30 = vPutZ 28 35 33 := rfl
theorem k_X12_readHouse_33 : look a_X12_readHouse 33 = vI 0 34 := rfl
theorem k_X12_readHouse_34 : look a_X12_readHouse 34 = vIstore 1 35 := rfl
theorem k_X12_readHouse_35 : look a_X12_readHouse 35 = vIload 1 36 := rfl
theorem k_X12_readHouse_36 : look a_X12_readHouse 36 = vI 2 37 := rfl
theorem k_X12_readHouse_37 : look a_X12_readHouse 37 = vIcGe 58 40 := rfl
theorem k_X12_readHouse_40 : look a_X12_readHouse 40 = vAload 0 41 := rfl
theorem k_X12_readHouse_41 : look a_X12_readHouse 41 = vGetR TT 28 19 8 44 := rfl
theorem k_X12_readHouse_44 : look a_X12_readHouse 44 = vIload 1 45 := rfl
theorem k_X12_readHouse_45 : look a_X12_readHouse 45 = vI 115 47 := rfl
theorem k_X12_readHouse_47 : look a_X12_readHouse 47 = vIload 1 48 := rfl
theorem k_X12_readHouse_48 : look a_X12_readHouse 48 = vCallS w_X12_usual 2 51 := rfl
theorem k_X12_readHouse_51 : look a_X12_readHouse 51 = vIast TT 52 := rfl
theorem k_X12_readHouse_52 : look a_X12_readHouse 52 = vIinc 1 1 55 := rfl
theorem k_X12_readHouse_55 : look a_X12_readHouse 55 = vGoto 35 := rfl
theorem k_X12_readHouse_58 : look a_X12_readHouse 58 = vI 1 59 := rfl
theorem k_X12_readHouse_59 : look a_X12_readHouse 59 = vIstore 1 60 := rfl
theorem k_X12_readHouse_60 : look a_X12_readHouse 60 = vIload 1 61 := rfl
theorem k_X12_readHouse_61 : look a_X12_readHouse 61 = vIfEq 116 64 := rfl
theorem k_X12_readHouse_64 : look a_X12_readHouse 64 = vAload 0 65 := rfl
theorem k_X12_readHouse_65 : look a_X12_readHouse 65 = vGetI 28 11 68 := rfl
theorem k_X12_readHouse_68 : look a_X12_readHouse 68 = vI (-1) 69 := rfl
theorem k_X12_readHouse_69 : look a_X12_readHouse 69 = vIcNe 116 72 := rfl
theorem k_X12_readHouse_72 : look a_X12_readHouse 72 = vAload 0 73 := rfl
theorem k_X12_readHouse_73 : look a_X12_readHouse 73 = vCallMV w_X12_readClause 28 0 76 := rfl
theorem k_X12_readHouse_76 : look a_X12_readHouse 76 = vAload 0 77 := rfl
theorem k_X12_readHouse_77 : look a_X12_readHouse 77 = vGetI 28 11 80 := rfl
theorem k_X12_readHouse_80 : look a_X12_readHouse 80 = vI (-1) 81 := rfl
theorem k_X12_readHouse_81 : look a_X12_readHouse 81 = vIcNe 97 84 := rfl
theorem k_X12_readHouse_84 : look a_X12_readHouse 84 = vAload 0 85 := rfl
theorem k_X12_readHouse_85 : look a_X12_readHouse 85 = vCallM w_X12_look 28 0 88 := rfl
theorem k_X12_readHouse_88 : look a_X12_readHouse 88 = vI 59 90 := rfl
theorem k_X12_readHouse_90 : look a_X12_readHouse 90 = vIcNe 97 93 := rfl
theorem k_X12_readHouse_93 : look a_X12_readHouse 93 = vI 1 94 := rfl
theorem k_X12_readHouse_94 : look a_X12_readHouse 94 = vGoto 98 := rfl
theorem k_X12_readHouse_97 : look a_X12_readHouse 97 = vI 0 98 := rfl
theorem k_X12_readHouse_98 : look a_X12_readHouse 98 = vIstore 1 99 := rfl
theorem k_X12_readHouse_99 : look a_X12_readHouse 99 = vIload 1 100 := rfl
theorem k_X12_readHouse_100 : look a_X12_readHouse 100 = vIfEq 60 103 := rfl
theorem k_X12_readHouse_103 : look a_X12_readHouse 103 = vAload 0 104 := rfl
theorem k_X12_readHouse_104 : look a_X12_readHouse 104 = vDup 105 := rfl
theorem k_X12_readHouse_105 : look a_X12_readHouse 105 = vGetI 28 10 108 := rfl
theorem k_X12_readHouse_108 : look a_X12_readHouse 108 = vI 1 109 := rfl
theorem k_X12_readHouse_109 : look a_X12_readHouse 109 = vIadd 110 := rfl
theorem k_X12_readHouse_110 : look a_X12_readHouse 110 = vPutI 28 10 113 := rfl
theorem k_X12_readHouse_113 : look a_X12_readHouse 113 = vGoto 60 := rfl
theorem k_X12_readHouse_116 : look a_X12_readHouse 116 = vAload 0 117 := rfl
theorem k_X12_readHouse_117 : look a_X12_readHouse 117 = vGetI 28 11 120 := rfl
theorem k_X12_readHouse_120 : look a_X12_readHouse 120 = vI (-1) 121 := rfl
theorem k_X12_readHouse_121 : look a_X12_readHouse 121 = vIcNe 144 124 := rfl
theorem k_X12_readHouse_124 : look a_X12_readHouse 124 = vAload 0 125 := rfl
theorem k_X12_readHouse_125 : look a_X12_readHouse 125 = vCallM w_X12_look 28 0 128 := rfl
theorem k_X12_readHouse_128 : look a_X12_readHouse 128 = vI (-1) 129 := rfl
theorem k_X12_readHouse_129 : look a_X12_readHouse 129 = vIcNe 139 132 := rfl
theorem k_X12_readHouse_132 : look a_X12_readHouse 132 = vAload 0 133 := rfl
theorem k_X12_readHouse_133 : look a_X12_readHouse 133 = vCallM w_X12_isWhole 28 0 136 := rfl
theorem k_X12_readHouse_136 : look a_X12_readHouse 136 = vIfNe 144 139 := rfl
theorem k_X12_readHouse_139 : look a_X12_readHouse 139 = vAload 0 140 := rfl
theorem k_X12_readHouse_140 : look a_X12_readHouse 140 = vCallM w_X12_fails 28 0 143 := rfl
theorem k_X12_readHouse_143 : look a_X12_readHouse 143 = vPop 144 := rfl
theorem k_X12_readHouse_144 : look a_X12_readHouse 144 = vVret := rfl
theorem o_X12_readHouse {X : amX} (e1 : XT X = TT) (e2 : XD X = 7) (hB : amB X RX12 cX12_readHouse (none) 2) : ∀ pc, amOK X pc (look a_X12_readHouse pc) := by
  have hT : amTok (XT X) := e1 ▸ TT_ok
  refine look_ok ?_
  unfold a_X12_readHouse
  refine fc (ok_aload_n hB dX12_readHouse_0) ?_
  refine fc (ok_aload_n hB dX12_readHouse_1) ?_
  refine fc (okt_getR e1 hB hT fl_X12_9 rfl af_12_1 at_12_1 (by decide) dX12_readHouse_2) ?_
  refine fc (ok_iconst hB dX12_readHouse_5) ?_
  refine fc (ok_aload_n hB dX12_readHouse_6) ?_
  refine fc (ok_getI hB hT fl_X12_124 rfl rfl (Or.inl af_12_6) dX12_readHouse_7) ?_
  refine fc (ok_callMV hB hT (e1 ▸ s_X12_starts) lk_X12_222 (by rw [e2]; decide) (c := 12) rfl rfl rfl wd_1510 sl_X12_starts dX12_readHouse_10) ?_
  refine fc (ok_aload_n hB dX12_readHouse_13) ?_
  refine fc (ok_iconst hB dX12_readHouse_14) ?_
  refine fc (ok_putI hB hT fp_X12_260 rfl rfl rfl af_12_31 dX12_readHouse_15) ?_
  refine fc (ok_aload_n hB dX12_readHouse_18) ?_
  refine fc (ok_iconst hB dX12_readHouse_19) ?_
  refine fc (ok_putI hB hT fp_X12_263 rfl rfl rfl af_12_32 dX12_readHouse_20) ?_
  refine fc (ok_aload_n hB dX12_readHouse_23) ?_
  refine fc (ok_iconst hB dX12_readHouse_24) ?_
  refine fc (ok_putI hB hT fp_X12_266 rfl rfl rfl af_12_33 dX12_readHouse_25) ?_
  refine fc (ok_aload_n hB dX12_readHouse_28) ?_
  refine fc (ok_iconst hB dX12_readHouse_29) ?_
  refine fc (ok_putZ hB hT fp_X12_257 rfl rfl rfl af_12_35 dX12_readHouse_30) ?_
  refine fc (ok_iconst hB dX12_readHouse_33) ?_
  refine fc (ok_istore_n hB (by decide) dX12_readHouse_34) ?_
  refine fc (ok_iload_n hB dX12_readHouse_35) ?_
  refine fc (ok_iconst hB dX12_readHouse_36) ?_
  refine fc (ok_icmp_ge hB (t := 58) (by decide) dX12_readHouse_37) ?_
  refine fc (ok_aload_n hB dX12_readHouse_40) ?_
  refine fc (okt_getR e1 hB hT fl_X12_40 rfl af_12_19 at_12_19 (by decide) dX12_readHouse_41) ?_
  refine fc (ok_iload_n hB dX12_readHouse_44) ?_
  refine fc (ok_bipush hB dX12_readHouse_45 (by decide)) ?_
  refine fc (ok_iload_n hB dX12_readHouse_47) ?_
  refine fc (ok_callS hB (e1 ▸ s_X12_usual) lk_X12_236 (by rw [e2]; decide) wd_1513 dX12_readHouse_48) ?_
  refine fc (okt_iastore e1 hB dX12_readHouse_51) ?_
  refine fc (ok_iinc hB (by decide) dX12_readHouse_52) ?_
  refine fc (ok_goto hB (t := 35) (by decide) dX12_readHouse_55) ?_
  refine fc (ok_iconst hB dX12_readHouse_58) ?_
  refine fc (ok_istore_n hB (by decide) dX12_readHouse_59) ?_
  refine fc (ok_iload_n hB dX12_readHouse_60) ?_
  refine fc (ok_if_eq hB (t := 116) (by decide) dX12_readHouse_61) ?_
  refine fc (ok_aload_n hB dX12_readHouse_64) ?_
  refine fc (ok_getI hB hT fl_X12_143 rfl rfl (Or.inl af_12_11) dX12_readHouse_65) ?_
  refine fc (ok_iconst hB dX12_readHouse_68) ?_
  refine fc (ok_icmp_ne hB (t := 116) (by decide) dX12_readHouse_69) ?_
  refine fc (ok_aload_n hB dX12_readHouse_72) ?_
  refine fc (ok_callMV hB hT (e1 ▸ s_X12_readClause) lk_X12_281 (by rw [e2]; decide) (c := 12) rfl rfl rfl wd_1517 sl_X12_readClause dX12_readHouse_73) ?_
  refine fc (ok_aload_n hB dX12_readHouse_76) ?_
  refine fc (ok_getI hB hT fl_X12_143 rfl rfl (Or.inl af_12_11) dX12_readHouse_77) ?_
  refine fc (ok_iconst hB dX12_readHouse_80) ?_
  refine fc (ok_icmp_ne hB (t := 97) (by decide) dX12_readHouse_81) ?_
  refine fc (ok_aload_n hB dX12_readHouse_84) ?_
  refine fc (ok_callM hB hT (e1 ▸ s_X12_look) lk_X12_153 (by rw [e2]; decide) (c := 12) rfl rfl rfl wd_1521 sl_X12_look dX12_readHouse_85) ?_
  refine fc (ok_bipush hB dX12_readHouse_88 (by decide)) ?_
  refine fc (ok_icmp_ne hB (t := 97) (by decide) dX12_readHouse_90) ?_
  refine fc (ok_iconst hB dX12_readHouse_93) ?_
  refine fc (ok_goto hB (t := 98) (by decide) dX12_readHouse_94) ?_
  refine fc (ok_iconst hB dX12_readHouse_97) ?_
  refine fc (ok_istore_n hB (by decide) dX12_readHouse_98) ?_
  refine fc (ok_iload_n hB dX12_readHouse_99) ?_
  refine fc (ok_if_eq hB (t := 60) (by decide) dX12_readHouse_100) ?_
  refine fc (ok_aload_n hB dX12_readHouse_103) ?_
  refine fc (ok_dup hB dX12_readHouse_104) ?_
  refine fc (ok_getI hB hT fl_X12_134 rfl rfl (Or.inl af_12_10) dX12_readHouse_105) ?_
  refine fc (ok_iconst hB dX12_readHouse_108) ?_
  refine fc (ok_iadd hB dX12_readHouse_109) ?_
  refine fc (ok_putI hB hT fp_X12_134 rfl rfl rfl af_12_10 dX12_readHouse_110) ?_
  refine fc (ok_goto hB (t := 60) (by decide) dX12_readHouse_113) ?_
  refine fc (ok_aload_n hB dX12_readHouse_116) ?_
  refine fc (ok_getI hB hT fl_X12_143 rfl rfl (Or.inl af_12_11) dX12_readHouse_117) ?_
  refine fc (ok_iconst hB dX12_readHouse_120) ?_
  refine fc (ok_icmp_ne hB (t := 144) (by decide) dX12_readHouse_121) ?_
  refine fc (ok_aload_n hB dX12_readHouse_124) ?_
  refine fc (ok_callM hB hT (e1 ▸ s_X12_look) lk_X12_153 (by rw [e2]; decide) (c := 12) rfl rfl rfl wd_1521 sl_X12_look dX12_readHouse_125) ?_
  refine fc (ok_iconst hB dX12_readHouse_128) ?_
  refine fc (ok_icmp_ne hB (t := 139) (by decide) dX12_readHouse_129) ?_
  refine fc (ok_aload_n hB dX12_readHouse_132) ?_
  refine fc (ok_callM hB hT (e1 ▸ s_X12_isWhole) lk_X12_284 (by rw [e2]; decide) (c := 12) rfl rfl rfl wd_1563 sl_X12_isWhole dX12_readHouse_133) ?_
  refine fc (ok_if_ne hB (t := 144) (by decide) dX12_readHouse_136) ?_
  refine fc (ok_aload_n hB dX12_readHouse_139) ?_
  refine fc (ok_callM hB hT (e1 ▸ s_X12_fails) lk_X12_149 (by rw [e2]; decide) (c := 12) rfl rfl rfl wd_1525 sl_X12_fails dX12_readHouse_140) ?_
  refine fc (ok_pop hB dX12_readHouse_143) ?_
  refine fc (ok_vret hB dX12_readHouse_144) ?_
  exact fn
def inv_rho (m : Mem) (v0 : Int → Int) (R : Int × Int × (Int → Int) × (Int → Int)) (n pc : Nat) (ls st : List AV) (σ' : Mem) : Prop := st = [] ∧
  ((∃ j : Nat, pc = 35 ∧ ls = [(28, 5000), (0, (j : Int))] ∧ σ' = hoN m 0 (-1) (fun _ => 0) (flv v0 0 0 j) ∧ (j : Int) ≤ 2 ∧ (n : Int) = 2000 + 2 - j) ∨
   (∃ (f : Nat) (p : Int) (c v : Int → Int), pc = 60 ∧ n = 2 * f + 1 ∧ ls = [(28, 5000), (0, 1)] ∧ σ' = hoN m p (-1) c v ∧ 0 ≤ p ∧ p ≤ m 5000 9 ∧ m 5000 9 + 1 ≤ p + f ∧ cntB c ∧ c 0 ≤ 1 ∧ rowB v ∧ hCls (mtx m) (m 5000 9) f p c v = R) ∨
   (∃ (x q : Int) (c v : Int → Int), pc = 76 ∧ ls = [(28, 5000), (0, 1)] ∧ n = 1 ∧ σ' = hoN m q x c v ∧ 0 ≤ x ∧ x ≤ 250 ∧ rowB v ∧ R.1 = x) ∨
   (∃ (f : Nat) (p : Int) (c v : Int → Int), pc = 76 ∧ n = 2 * f + 2 ∧ ls = [(28, 5000), (0, 1)] ∧ σ' = hoN m p (-1) c v ∧ 0 ≤ p ∧ p ≤ m 5000 9 ∧ cntB c ∧ c 0 ≤ 1 ∧ rowB v ∧ (mtx m (sk (mtx m) (m 5000 9) p) = 59 → rowB v ∧ m 5000 9 ≤ sk (mtx m) (m 5000 9) p + f ∧ hCls (mtx m) (m 5000 9) f (sk (mtx m) (m 5000 9) p + 1) c v = R) ∧ (mtx m (sk (mtx m) (m 5000 9) p) = -1 → rowB v ∧ R.1 = hfin c v (m 5000 9) ∧ R.2.2 = (c, v)) ∧ (mtx m (sk (mtx m) (m 5000 9) p) ≠ 59 → mtx m (sk (mtx m) (m 5000 9) p) ≠ -1 → R.1 = sk (mtx m) (m 5000 9) p)) ∨
   (∃ (x q : Int) (c v : Int → Int), pc = 60 ∧ n = 0 ∧ ls = [(28, 5000), (0, 0)] ∧ σ' = hoN m q x c v ∧ 0 ≤ x ∧ x ≤ 250 ∧ rowB v ∧ R.1 = x) ∨
   (∃ (p : Int) (c v : Int → Int), pc = 60 ∧ n = 0 ∧ ls = [(28, 5000), (0, 0)] ∧ σ' = hoN m p (-1) c v ∧ 0 ≤ p ∧ p ≤ m 5000 9 ∧ cntB c ∧ rowB v ∧ sk (mtx m) (m 5000 9) p = p ∧ (mtx m p = -1 → rowB v ∧ R.1 = hfin c v (m 5000 9) ∧ R.2.2 = (c, v)) ∧ (mtx m p ≠ -1 → R.1 = p)))
def w_X12_readHouse : WP := fun av σ Q => av = [(28, 5000)] ∧ (txtOk σ 5001 0 (σ 5000 6) ∧ rowB (vof σ) ∧ (∀ τ, HRF σ τ → rowB (vof τ) → τ 5000 11 = (hCls (txt σ 5001 0 (σ 5000 6)) (σ 5000 6) 241 0 (fun _ => 0) (filv (vof σ) 0 0)).1 → ((hCls (txt σ 5001 0 (σ 5000 6)) (σ 5000 6) 241 0 (fun _ => 0) (filv (vof σ) 0 0)).1 = -1 → (∀ k, 1 ≤ k → k ≤ 3 → τ 5000 (30 + k) = (hCls (txt σ 5001 0 (σ 5000 6)) (σ 5000 6) 241 0 (fun _ => 0) (filv (vof σ) 0 0)).2.2.1 k) ∧ ∀ b j, 0 ≤ slo b j → τ b j = (hCls (txt σ 5001 0 (σ 5000 6)) (σ 5000 6) 241 0 (fun _ => 0) (filv (vof σ) 0 0)).2.2.2 (slo b j)) → Q (6, 0) τ))
theorem w_X12_readHouse_e  (σ : Mem) (Q : AV → Mem → Prop) : w_X12_readHouse [(28, 5000)] σ Q = (txtOk σ 5001 0 (σ 5000 6) ∧ rowB (vof σ) ∧ (∀ τ, HRF σ τ → rowB (vof τ) → τ 5000 11 = (hCls (txt σ 5001 0 (σ 5000 6)) (σ 5000 6) 241 0 (fun _ => 0) (filv (vof σ) 0 0)).1 → ((hCls (txt σ 5001 0 (σ 5000 6)) (σ 5000 6) 241 0 (fun _ => 0) (filv (vof σ) 0 0)).1 = -1 → (∀ k, 1 ≤ k → k ≤ 3 → τ 5000 (30 + k) = (hCls (txt σ 5001 0 (σ 5000 6)) (σ 5000 6) 241 0 (fun _ => 0) (filv (vof σ) 0 0)).2.2.1 k) ∧ ∀ b j, 0 ≤ slo b j → τ b j = (hCls (txt σ 5001 0 (σ 5000 6)) (σ 5000 6) 241 0 (fun _ => 0) (filv (vof σ) 0 0)).2.2.2 (slo b j)) → Q (6, 0) τ)) := by
  apply propext; constructor
  · rintro ⟨h9, hb9⟩; cases h9; exact hb9
  · intro hb9; exact ⟨rfl, hb9⟩

set_option maxRecDepth 100000 in
set_option maxHeartbeats 4000000 in
theorem s_X12_readHouse : ∀ av σ Q, w_X12_readHouse av σ Q → amCall 7 0 0 TT yX12_readHouse cX12_readHouse 2 (none) av σ Q := by
  rintro av σ Q ⟨rfl, htx, hv0, hq⟩
  obtain ⟨ht, em, e9⟩ := sts_tx htx
  have hH := HRF_ho σ 5001 0 (σ 5000 6)
  have eo : ∀ c, c ≠ 5000 → stsM σ 5001 0 (σ 5000 6) c = σ c := fun c hc => by unfold stsM; simp only [up_na _ hc]
  have ev : vof (stsM σ 5001 0 (σ 5000 6)) = vof σ := vof_c (eo _ (by decide)) (eo _ (by decide)) (eo _ (by decide)) (eo _ (by decide))
  generalize hR9 : hCls (txt σ 5001 0 (σ 5000 6)) (σ 5000 6) 241 0 (fun _ => 0) (filv (vof σ) 0 0) = R at hq
  have hid := ho_id (m := stsM σ 5001 0 (σ 5000 6)) (p := 0) (f := -1) rfl rfl
  rw [ev] at hid
  rw [← em] at hR9
  generalize hm : stsM σ 5001 0 (σ 5000 6) = m at *
  rw [← e9] at hR9
  generalize vof σ = v0 at *
  have n0 := ht.1
  have n1 := ht.2.1
  have hte := mtx_n ht
  have Mt : ∀ p f c v, mtx (hoN m p f c v) = mtx m := fun p f c v => (ho_tx ht p f c v).1
  have MtO : ∀ p f c v, txOk (hoN m p f c v) = True := fun p f c v => eq_true (ho_tx ht p f c v).2
  have u1 : ∀ p f c v x, up (hoN m p f c v) 5000 31 x = hoN m p f (upf c 1 x) v := fun p f c v x => ho_uc m p f x c v (by decide)
  have u2 : ∀ p f c v x, up (hoN m p f c v) 5000 32 x = hoN m p f (upf c 2 x) v := fun p f c v x => ho_uc m p f x c v (by decide)
  have u3 : ∀ p f c v x, up (hoN m p f c v) 5000 33 x = hoN m p f (upf c 3 x) v := fun p f c v x => ho_uc m p f x c v (by decide)
  have e0 : up (up (up (up m 5000 31 0) 5000 32 0) 5000 33 0) 5000 35 0 = hoN m 0 (-1) (fun _ => 0) v0 := by
    have := congrArg (fun x => up (up (up (up x 5000 31 0) 5000 32 0) 5000 33 0) 5000 35 0) hid
    try dsimp only at this
    rw [u1, u2, u3, ho_u0] at this
    rw [← this]
    refine ho_cg (fun k h0 h1 => ?_)
    unfold upf; (repeat' split) <;> first | rfl | omega
  have fF : ∀ x q c v, rowB v → R.1 = x → 0 ≤ x → Q (6, 0) (hoN m q x c v) := fun x q c v vB e e1 => hq _ (hH _ _ _ _) (vof_ho vB) (by rw [ho_11, e]) (fun z => by omega)
  refine am_m [35, 60, 76] (inv_rho m v0 R) (own := RX12) (A := look a_X12_readHouse) (fun X e1 e2 hB => o_X12_readHouse e1 e2 hB) rfl (by decide +kernel) rfl rfl ?_ ⟨60, ?_⟩ (w := 2)
  · rintro n pc ls st σ' ⟨rfl, ⟨j, rfl, rfl, rfl, hj, hn⟩ | ⟨f, p, c, v, rfl, rfl, rfl, rfl, p0, p1, hf, hc, hc0, hv, hC⟩ | ⟨x, q, c, v, rfl, rfl, rfl, rfl, x0, x1, vB, hx⟩ | ⟨f, p, c, v, rfl, rfl, rfl, rfl, p0, p1, hc, hc0, vB, hA, hB, hD⟩ | ⟨x, q, c, v, rfl, rfl, rfl, rfl, x0, x1, vB, hx⟩ | ⟨p, c, v, rfl, rfl, rfl, rfl, p0, p1, hc, vB, hs, hB, hD⟩⟩
    · by_cases cj : (j : Int) < 2
      · have e8 : up (hoN m 0 (-1) (fun _ => 0) (flv v0 0 0 j)) 5006 j (usuV 115 j) = hoN m 0 (-1) (fun _ => 0) (flv v0 0 0 ((j : Int) + 1)) := by
          have h1 := ho_w (m := m) (p := 0) (f := -1) (c := fun _ => 0) (v := flv v0 0 0 j) (k := 0) (i := 0) (w := j) (x := usuV 115 j) (by decide) (by decide) (by decide) (by decide) (by omega) cj
          have h2 := (kvals' (k := 0) (w := j) (by decide) (by decide) (by omega) cj).2.2
          rw [show (0 : Int) * kln 0 + j = j by rw [Int.zero_mul, Int.zero_add], show kid 0 = 5006 from rfl] at h1
          rw [show kch 0 = 115 from rfl] at h2
          rw [h1, h2, flv_s v0 0 0 (by omega)]
        have i9 : ∃ k', k' < n ∧ inv_rho m v0 R k' 35 [(28, 5000), (0, (j : Int) + 1)] [] (hoN m 0 (-1) (fun _ => 0) (flv v0 0 0 ((j : Int) + 1))) := ⟨n - 1, by omega, rfl, Or.inl ⟨j + 1, rfl, rfl, rfl, by omega, by omega⟩⟩
        refine ⟨60, ?_⟩
        simp only [↓reduceIte, inR_0, inR_1, inR_m, vSw2_e, swP_n, swP_c, vI_e, vL_e, vNull_e, vIload_e, vLload_e, vAload_e, vIstore_e, vLstore_e, vAstore_e, vIinc_e, vIadd_e, vIsub_e, vImul_e, vIand_e, vIor_e, vIxor_e, vIshl_e, vIshr_e, vIushr_e, vIdiv_e, vIrem_e, vLadd_e, vLsub_e, vLmul_e, vLand_e, vLor_e, vLxor_e, vLdiv_e, vLrem_e, vLushr_e, vLshl_e, vLcmp_e, vIneg_e, vI2l_e, vL2i_e, vI2b_e, vI2c_e, vDup_e, vPop_e, vDup2_e, vGoto_e, vIcEq_e, vIfEq_e, vIcNe_e, vIfNe_e, vIcLt_e, vIfLt_e, vIcGe_e, vIfGe_e, vIcGt_e, vIfGt_e, vIcLe_e, vIfLe_e, vNonnull_e, vSw_e, vGetI_e, vGetL_e, vGetR_e, vPutI_e, vPutZ_e, vPutL_e, vPutR_e, vIald_e, vIald_s, vLald_e, vBald_e, vBald_s, vAald_e, vIast_e, vLast_e, vBast_e, vAast_e, vAlen_e8, vAlen_e9, vAlen_e10, vAlen_e11, vAlen_e5, vAlen_e3, vGets_e, vCompact_e, vLdcS_e, vIret_e, vZret_e, vCret_e, vBret_e, vLret_e, vVret_e, vAret_e, vCallM_e0, vCallMV_e0, vCallS_e0, vCallSV_e0, vCallM_e1, vCallMV_e1, vCallS_e1, vCallSV_e1, vCallM_e2, vCallMV_e2, vCallS_e2, vCallSV_e2, vCallM_e3, vCallMV_e3, vCallS_e3, vCallSV_e3, vCallM_e4, vCallMV_e4, vCallS_e4, vCallSV_e4, vCallM_e5, vCallMV_e5, vCallS_e5, vCallSV_e5, vCallM_e6, vCallMV_e6, vCallS_e6, vCallSV_e6, vCallM_e7, vCallMV_e7, vCallS_e7, vCallSV_e7, vBad_e, vStrVal_e, vStrCod_e, vForm_e, vCallT_e0, vCallT_e1, vCallT_e2, vCopy_e, rf_0_0, rf_0_1, rf_0_2, rf_0_3, rf_0_4, rf_0_7, rf_0_10, rf_0_11, rf_0_12, rf_0_13, rf_0_14, rf_0_15, rf_0_16, rf_1_0, rf_3_0, rf_3_1, rf_6_0, rf_6_1, rf_9_0, rf_9_1, rf_9_3, rf_13_0, rf_13_1, rf_13_2, rf_16_0, rf_16_1, rf_16_2, rf_16_3, rf_21_0, rf_21_1, rf_21_2, rf_21_3, rf_26_0, rf_26_1, rf_26_2, rf_26_3, rf_26_4, rf_26_5, rf_26_6, rf_31_0, rf_31_2, rf_31_5, rf_31_6, rf_36_0, rf_36_1, rf_36_2, rf_36_3, rf_39_0, rf_39_1, rf_39_2, rf_41_0, rf_41_1, rf_41_2, rf_41_3, rf_5000_1, rf_5000_2, rf_5000_3, rf_5000_4, rf_5000_5, rf_5000_15, rf_5000_16, rf_5000_18, rf_5000_19, rf_5000_20, rf_5000_21, rf_5000_22, rf_5000_23, rf_5000_24, rf_5000_25, rf_5000_26, rf_5000_27, rf_5000_36, rf_5000_37, rf_5000_40, rf_5000_41, rf_5000_42, rf_5000_43, rf_5000_44, rf_5000_45, rf_5000_47, rf_5000_52, rf_5000_54, rf_5000_55, rf_100_0, rf_100_1, rf_103_0, rf_103_1, rf_106_0, rf_106_1, rf_109_0, rf_109_1, al_2, al_4, al_5, al_7, al_8, al_10, al_11, al_12, al_14, al_15, al_17, al_18, al_19, al_20, al_22, al_23, al_24, al_25, al_27, al_28, al_29, al_30, al_32, al_33, al_34, al_35, al_37, al_38, al_40, al_42, al_5001, al_5002, al_5003, al_5004, al_5005, al_5006, al_5007, al_5008, al_5009, al_5010, al_5011, al_5012, al_5013, al_5014, al_5015, al_5016, al_5017, al_5018, al_5019, al_5020, al_5021, al_5022, al_5023, al_5024, al_5025, al_5026, al_9000, al_101, al_102, al_104, al_105, al_107, al_108, al_110, al_111, vcs_e, lg_c0, lg_cs, lg_nil, set_c0, set_cs, okst_0, okst_s, acok_n, acok_c, List.contains_nil, List.contains_cons, Bool.or_false, Bool.false_or, Bool.false_eq_true, if_false, if_true, ite_self, ne_eq, true_and, and_true, not_false_eq_true, not_true_eq_false, false_imp_iff, true_imp_iff, Nat.ble_eq, Bool.and_eq_true, reduceCtorEq, or_false, false_or, or_true, true_or, false_and, and_false, and_self, Int.reduceLE, Int.reduceAdd, Int.reduceSub, Int.reduceMul, Int.reduceNeg, Int.reduceLT, Int.reduceEq, Int.reduceNe, Nat.reduceBEq, Nat.reduceBNe, Nat.reduceEqDiff, amCmp_in, amCmp_lt, amCmp_le, amCmp_gt, amCmp_ge, amCmp_eq, amCmp_ne, Nat.reduceLeDiff, Nat.reduceSub, Bool.and_true, Bool.true_and, Bool.and_self, Bool.or_true, Bool.true_or, isRf_3, isRf_4, isRf_5, isRf_8, isRf_9, isRf_10, isRf_11, isRf_15, isRf_16, isRf_17, isRf_18, isRf_19, isRf_20, isRf_21, isRf_22, isRf_23, isRf_24, isRf_25, isRf_26, isRf_27, isRf_28, k_X12_readHouse_0, k_X12_readHouse_1, k_X12_readHouse_2, k_X12_readHouse_5, k_X12_readHouse_6, k_X12_readHouse_7, k_X12_readHouse_10, k_X12_readHouse_13, k_X12_readHouse_14, k_X12_readHouse_15, k_X12_readHouse_18, k_X12_readHouse_19, k_X12_readHouse_20, k_X12_readHouse_23, k_X12_readHouse_24, k_X12_readHouse_25, k_X12_readHouse_28, k_X12_readHouse_29, k_X12_readHouse_30, k_X12_readHouse_33, k_X12_readHouse_34, k_X12_readHouse_35, k_X12_readHouse_36, k_X12_readHouse_37, k_X12_readHouse_40, k_X12_readHouse_41, k_X12_readHouse_44, k_X12_readHouse_45, k_X12_readHouse_47, k_X12_readHouse_48, k_X12_readHouse_51, k_X12_readHouse_52, k_X12_readHouse_55, k_X12_readHouse_58, k_X12_readHouse_59, k_X12_readHouse_60, k_X12_readHouse_61, k_X12_readHouse_64, k_X12_readHouse_65, k_X12_readHouse_68, k_X12_readHouse_69, k_X12_readHouse_72, k_X12_readHouse_73, k_X12_readHouse_76, k_X12_readHouse_77, k_X12_readHouse_80, k_X12_readHouse_81, k_X12_readHouse_84, k_X12_readHouse_85, k_X12_readHouse_88, k_X12_readHouse_90, k_X12_readHouse_93, k_X12_readHouse_94, k_X12_readHouse_97, k_X12_readHouse_98, k_X12_readHouse_99, k_X12_readHouse_100, k_X12_readHouse_103, k_X12_readHouse_104, k_X12_readHouse_105, k_X12_readHouse_108, k_X12_readHouse_109, k_X12_readHouse_110, k_X12_readHouse_113, k_X12_readHouse_116, k_X12_readHouse_117, k_X12_readHouse_120, k_X12_readHouse_121, k_X12_readHouse_124, k_X12_readHouse_125, k_X12_readHouse_128, k_X12_readHouse_129, k_X12_readHouse_132, k_X12_readHouse_133, k_X12_readHouse_136, k_X12_readHouse_139, k_X12_readHouse_140, k_X12_readHouse_143, k_X12_readHouse_144, w_X12_fails_e, w_X12_isWhole_e, w_X12_look_e, w_X12_readClause_e, w_X12_starts_e, w_X12_usual_e, e8]
        repeat' (first | apply And.intro | intro _)
        all_goals first | omega | exact absurd trivial (by assumption) | exact i9 | exact ⟨by omega, by omega⟩
      · have ej : (j : Int) = kln 0 := by rw [show kln 0 = 2 from rfl]; omega
        have e2 : hoN m 0 (-1) (fun _ => 0) (flv v0 0 0 j) = hoN m 0 (-1) (fun _ => 0) (filv v0 0 0) := by rw [ej]; exact ho_fl (by decide) (by decide) (by decide) (by decide)
        have i9 : ∃ k', k' < n ∧ inv_rho m v0 R k' 60 [(28, 5000), (0, 1)] [] (hoN m 0 (-1) (fun _ => 0) (filv v0 0 0)) := ⟨2 * 241 + 1, by omega, rfl, Or.inr (Or.inl ⟨241, 0, fun _ => 0, filv v0 0 0, rfl, rfl, rfl, rfl, by decide, n0, by omega, fun k _ _ => ⟨Int.le_refl (0 : Int), show (0 : Int) ≤ 6 by decide⟩, show (0 : Int) ≤ 1 by decide, filv_B hv0 _ _, hR9⟩)⟩
        rw [e2]
        refine ⟨60, ?_⟩
        simp only [↓reduceIte, inR_0, inR_1, inR_m, vSw2_e, swP_n, swP_c, vI_e, vL_e, vNull_e, vIload_e, vLload_e, vAload_e, vIstore_e, vLstore_e, vAstore_e, vIinc_e, vIadd_e, vIsub_e, vImul_e, vIand_e, vIor_e, vIxor_e, vIshl_e, vIshr_e, vIushr_e, vIdiv_e, vIrem_e, vLadd_e, vLsub_e, vLmul_e, vLand_e, vLor_e, vLxor_e, vLdiv_e, vLrem_e, vLushr_e, vLshl_e, vLcmp_e, vIneg_e, vI2l_e, vL2i_e, vI2b_e, vI2c_e, vDup_e, vPop_e, vDup2_e, vGoto_e, vIcEq_e, vIfEq_e, vIcNe_e, vIfNe_e, vIcLt_e, vIfLt_e, vIcGe_e, vIfGe_e, vIcGt_e, vIfGt_e, vIcLe_e, vIfLe_e, vNonnull_e, vSw_e, vGetI_e, vGetL_e, vGetR_e, vPutI_e, vPutZ_e, vPutL_e, vPutR_e, vIald_e, vIald_s, vLald_e, vBald_e, vBald_s, vAald_e, vIast_e, vLast_e, vBast_e, vAast_e, vAlen_e8, vAlen_e9, vAlen_e10, vAlen_e11, vAlen_e5, vAlen_e3, vGets_e, vCompact_e, vLdcS_e, vIret_e, vZret_e, vCret_e, vBret_e, vLret_e, vVret_e, vAret_e, vCallM_e0, vCallMV_e0, vCallS_e0, vCallSV_e0, vCallM_e1, vCallMV_e1, vCallS_e1, vCallSV_e1, vCallM_e2, vCallMV_e2, vCallS_e2, vCallSV_e2, vCallM_e3, vCallMV_e3, vCallS_e3, vCallSV_e3, vCallM_e4, vCallMV_e4, vCallS_e4, vCallSV_e4, vCallM_e5, vCallMV_e5, vCallS_e5, vCallSV_e5, vCallM_e6, vCallMV_e6, vCallS_e6, vCallSV_e6, vCallM_e7, vCallMV_e7, vCallS_e7, vCallSV_e7, vBad_e, vStrVal_e, vStrCod_e, vForm_e, vCallT_e0, vCallT_e1, vCallT_e2, vCopy_e, rf_0_0, rf_0_1, rf_0_2, rf_0_3, rf_0_4, rf_0_7, rf_0_10, rf_0_11, rf_0_12, rf_0_13, rf_0_14, rf_0_15, rf_0_16, rf_1_0, rf_3_0, rf_3_1, rf_6_0, rf_6_1, rf_9_0, rf_9_1, rf_9_3, rf_13_0, rf_13_1, rf_13_2, rf_16_0, rf_16_1, rf_16_2, rf_16_3, rf_21_0, rf_21_1, rf_21_2, rf_21_3, rf_26_0, rf_26_1, rf_26_2, rf_26_3, rf_26_4, rf_26_5, rf_26_6, rf_31_0, rf_31_2, rf_31_5, rf_31_6, rf_36_0, rf_36_1, rf_36_2, rf_36_3, rf_39_0, rf_39_1, rf_39_2, rf_41_0, rf_41_1, rf_41_2, rf_41_3, rf_5000_1, rf_5000_2, rf_5000_3, rf_5000_4, rf_5000_5, rf_5000_15, rf_5000_16, rf_5000_18, rf_5000_19, rf_5000_20, rf_5000_21, rf_5000_22, rf_5000_23, rf_5000_24, rf_5000_25, rf_5000_26, rf_5000_27, rf_5000_36, rf_5000_37, rf_5000_40, rf_5000_41, rf_5000_42, rf_5000_43, rf_5000_44, rf_5000_45, rf_5000_47, rf_5000_52, rf_5000_54, rf_5000_55, rf_100_0, rf_100_1, rf_103_0, rf_103_1, rf_106_0, rf_106_1, rf_109_0, rf_109_1, al_2, al_4, al_5, al_7, al_8, al_10, al_11, al_12, al_14, al_15, al_17, al_18, al_19, al_20, al_22, al_23, al_24, al_25, al_27, al_28, al_29, al_30, al_32, al_33, al_34, al_35, al_37, al_38, al_40, al_42, al_5001, al_5002, al_5003, al_5004, al_5005, al_5006, al_5007, al_5008, al_5009, al_5010, al_5011, al_5012, al_5013, al_5014, al_5015, al_5016, al_5017, al_5018, al_5019, al_5020, al_5021, al_5022, al_5023, al_5024, al_5025, al_5026, al_9000, al_101, al_102, al_104, al_105, al_107, al_108, al_110, al_111, vcs_e, lg_c0, lg_cs, lg_nil, set_c0, set_cs, okst_0, okst_s, acok_n, acok_c, List.contains_nil, List.contains_cons, Bool.or_false, Bool.false_or, Bool.false_eq_true, if_false, if_true, ite_self, ne_eq, true_and, and_true, not_false_eq_true, not_true_eq_false, false_imp_iff, true_imp_iff, Nat.ble_eq, Bool.and_eq_true, reduceCtorEq, or_false, false_or, or_true, true_or, false_and, and_false, and_self, Int.reduceLE, Int.reduceAdd, Int.reduceSub, Int.reduceMul, Int.reduceNeg, Int.reduceLT, Int.reduceEq, Int.reduceNe, Nat.reduceBEq, Nat.reduceBNe, Nat.reduceEqDiff, amCmp_in, amCmp_lt, amCmp_le, amCmp_gt, amCmp_ge, amCmp_eq, amCmp_ne, Nat.reduceLeDiff, Nat.reduceSub, Bool.and_true, Bool.true_and, Bool.and_self, Bool.or_true, Bool.true_or, isRf_3, isRf_4, isRf_5, isRf_8, isRf_9, isRf_10, isRf_11, isRf_15, isRf_16, isRf_17, isRf_18, isRf_19, isRf_20, isRf_21, isRf_22, isRf_23, isRf_24, isRf_25, isRf_26, isRf_27, isRf_28, k_X12_readHouse_0, k_X12_readHouse_1, k_X12_readHouse_2, k_X12_readHouse_5, k_X12_readHouse_6, k_X12_readHouse_7, k_X12_readHouse_10, k_X12_readHouse_13, k_X12_readHouse_14, k_X12_readHouse_15, k_X12_readHouse_18, k_X12_readHouse_19, k_X12_readHouse_20, k_X12_readHouse_23, k_X12_readHouse_24, k_X12_readHouse_25, k_X12_readHouse_28, k_X12_readHouse_29, k_X12_readHouse_30, k_X12_readHouse_33, k_X12_readHouse_34, k_X12_readHouse_35, k_X12_readHouse_36, k_X12_readHouse_37, k_X12_readHouse_40, k_X12_readHouse_41, k_X12_readHouse_44, k_X12_readHouse_45, k_X12_readHouse_47, k_X12_readHouse_48, k_X12_readHouse_51, k_X12_readHouse_52, k_X12_readHouse_55, k_X12_readHouse_58, k_X12_readHouse_59, k_X12_readHouse_60, k_X12_readHouse_61, k_X12_readHouse_64, k_X12_readHouse_65, k_X12_readHouse_68, k_X12_readHouse_69, k_X12_readHouse_72, k_X12_readHouse_73, k_X12_readHouse_76, k_X12_readHouse_77, k_X12_readHouse_80, k_X12_readHouse_81, k_X12_readHouse_84, k_X12_readHouse_85, k_X12_readHouse_88, k_X12_readHouse_90, k_X12_readHouse_93, k_X12_readHouse_94, k_X12_readHouse_97, k_X12_readHouse_98, k_X12_readHouse_99, k_X12_readHouse_100, k_X12_readHouse_103, k_X12_readHouse_104, k_X12_readHouse_105, k_X12_readHouse_108, k_X12_readHouse_109, k_X12_readHouse_110, k_X12_readHouse_113, k_X12_readHouse_116, k_X12_readHouse_117, k_X12_readHouse_120, k_X12_readHouse_121, k_X12_readHouse_124, k_X12_readHouse_125, k_X12_readHouse_128, k_X12_readHouse_129, k_X12_readHouse_132, k_X12_readHouse_133, k_X12_readHouse_136, k_X12_readHouse_139, k_X12_readHouse_140, k_X12_readHouse_143, k_X12_readHouse_144, w_X12_fails_e, w_X12_isWhole_e, w_X12_look_e, w_X12_readClause_e, w_X12_starts_e, w_X12_usual_e]
        repeat' (first | apply And.intro | intro _)
        all_goals first | omega | exact absurd trivial (by assumption) | exact i9
    · obtain ⟨f', rfl⟩ : ∃ f', f = f' + 1 := ⟨f - 1, by omega⟩
      have s1 := sk_b (mtx m) p1
      have kb := kindF_b (mtx m (sk (mtx m) (m 5000 9) p))
      have kn := kindF_n (s := mtx m (sk (mtx m) (m 5000 9) p))
      unfold hCls at hC
      have ek : kindF (mtx m (sk (mtx m) (m 5000 9) p)) = hK (mtx m) (m 5000 9) p := rfl
      rw [ek] at kb kn
      have hrb : 0 ≤ hK (mtx m) (m 5000 9) p → -1 ≤ (hR (mtx m) (m 5000 9) p c v).1 ∧ (hR (mtx m) (m 5000 9) p c v).1 ≤ m 5000 9 ∧ sk (mtx m) (m 5000 9) p + 1 ≤ (hR (mtx m) (m 5000 9) p c v).2.1 ∧ (hR (mtx m) (m 5000 9) p c v).2.1 ≤ m 5000 9 ∧ rowB (hR (mtx m) (m 5000 9) p c v).2.2 := fun g => by
        have := sk_lt hte (kn g)
        exact hIt_b hte n0 5 0 _ _ (by omega) (by omega) (filv_B hv _ _)
      have hre : 0 ≤ hK (mtx m) (m 5000 9) p → (hR (mtx m) (m 5000 9) p c v).1 = -1 → (mtx m (sk (mtx m) (m 5000 9) (hR (mtx m) (m 5000 9) p c v).2.1) = -1 ∨ mtx m (sk (mtx m) (m 5000 9) (hR (mtx m) (m 5000 9) p c v).2.1) = 59) := fun g => by
        have := sk_lt hte (kn g)
        exact hIt_e hte 5 0 _ _ (by omega) (by omega)
      have mk := mostK_b (hK (mtx m) (m 5000 9) p)
      have jA : ¬ (0 ≤ hK (mtx m) (m 5000 9) p ∧ c (hK (mtx m) (m 5000 9) p) < mostK (hK (mtx m) (m 5000 9) p)) → ∃ k', k' < 2 * (f' + 1) + 1 ∧ inv_rho m v0 R k' 76 [(28, 5000), (0, 1)] [] (hoN m (sk (mtx m) (m 5000 9) p) (sk (mtx m) (m 5000 9) p) c v) := fun g =>
        ⟨1, by omega, rfl, Or.inr (Or.inr (Or.inl ⟨_, _, c, v, rfl, rfl, rfl, rfl, by omega, by omega, hv, by rw [if_neg g] at hC; rw [← hC]⟩))⟩
      have jB : 0 ≤ hK (mtx m) (m 5000 9) p → c (hK (mtx m) (m 5000 9) p) < mostK (hK (mtx m) (m 5000 9) p) → ((hR (mtx m) (m 5000 9) p c v).1 = -1 → ∃ k', k' < 2 * (f' + 1) + 1 ∧ inv_rho m v0 R k' 76 [(28, 5000), (0, 1)] [] (hoN m (hR (mtx m) (m 5000 9) p c v).2.1 (-1) (upf c (hK (mtx m) (m 5000 9) p) (c (hK (mtx m) (m 5000 9) p) + 1)) (hR (mtx m) (m 5000 9) p c v).2.2)) ∧ ((hR (mtx m) (m 5000 9) p c v).1 ≠ -1 → (∀ q v', rowB v' → ∃ k', k' < 2 * (f' + 1) + 1 ∧ inv_rho m v0 R k' 76 [(28, 5000), (0, 1)] [] (hoN m q (hR (mtx m) (m 5000 9) p c v).1 (upf c (hK (mtx m) (m 5000 9) p) (c (hK (mtx m) (m 5000 9) p) + 1)) v')) ∧ (∀ v', rowB v' → mtx m (hR (mtx m) (m 5000 9) p c v).1 ≠ -1 → mtx m (hR (mtx m) (m 5000 9) p c v).1 ≠ 59 → sk (mtx m) (m 5000 9) (hR (mtx m) (m 5000 9) p c v).1 = (hR (mtx m) (m 5000 9) p c v).1 → ∃ k', k' < 2 * (f' + 1) + 1 ∧ inv_rho m v0 R k' 76 [(28, 5000), (0, 1)] [] (hoN m (hR (mtx m) (m 5000 9) p c v).1 (-1) (upf c (hK (mtx m) (m 5000 9) p) (c (hK (mtx m) (m 5000 9) p) + 1)) v'))) := fun g g2 => by
        obtain ⟨b1, b2, b3, b4, b5⟩ := hrb g
        have he := hre g
        rw [if_pos ⟨g, g2⟩] at hC
        have hcb := hc _ g kb.2
        have hc' : cntB (upf c (hK (mtx m) (m 5000 9) p) (c (hK (mtx m) (m 5000 9) p) + 1)) := fun k a b => by
          unfold upf; split
          · omega
          · exact hc k a b
        have hc0' : upf c (hK (mtx m) (m 5000 9) p) (c (hK (mtx m) (m 5000 9) p) + 1) 0 ≤ 1 := by
          unfold upf; split
          · rename_i e0
            rw [← e0] at g2 ⊢
            have : mostK 0 = 1 := rfl
            omega
          · exact hc0
        refine ⟨fun e => ?_, fun e => ?_⟩
        · have he' := he e
          have s2 := sk_b (mtx m) b4
          rw [if_neg (fun z => z e)] at hC
          refine ⟨2 * f' + 2, by omega, rfl, Or.inr (Or.inr (Or.inr (Or.inl ⟨f', _, _, _, rfl, rfl, rfl, rfl, by omega, b4, hc', hc0', b5, fun z => ?_, fun z => ?_, fun z z2 => by omega⟩)))⟩
          · rw [if_neg (by omega)] at hC; exact ⟨b5, by omega, hC⟩
          · rw [if_pos z] at hC; exact ⟨b5, by rw [← hC], by rw [← hC]⟩
        · rw [if_pos e] at hC
          have hR1 : R.1 = (hR (mtx m) (m 5000 9) p c v).1 := by rw [← hC]
          refine ⟨fun q v' vB => ?_, fun v' vB a b d => ?_⟩
          · exact ⟨1, by omega, rfl, Or.inr (Or.inr (Or.inl ⟨_, q, _, v', rfl, rfl, rfl, rfl, by omega, by omega, vB, hR1⟩))⟩
          · exact ⟨2 * f' + 2, by omega, rfl, Or.inr (Or.inr (Or.inr (Or.inl ⟨f', _, _, v', rfl, rfl, rfl, rfl, by omega, by omega, hc', hc0', vB, fun z => absurd (by rw [d] at z; exact z) b, fun z => absurd (by rw [d] at z; exact z) a, fun z z2 => by rw [d]; exact hR1⟩)))⟩
      refine ⟨60, ?_⟩
      simp only [↓reduceIte, inR_0, inR_1, inR_m, vSw2_e, swP_n, swP_c, vI_e, vL_e, vNull_e, vIload_e, vLload_e, vAload_e, vIstore_e, vLstore_e, vAstore_e, vIinc_e, vIadd_e, vIsub_e, vImul_e, vIand_e, vIor_e, vIxor_e, vIshl_e, vIshr_e, vIushr_e, vIdiv_e, vIrem_e, vLadd_e, vLsub_e, vLmul_e, vLand_e, vLor_e, vLxor_e, vLdiv_e, vLrem_e, vLushr_e, vLshl_e, vLcmp_e, vIneg_e, vI2l_e, vL2i_e, vI2b_e, vI2c_e, vDup_e, vPop_e, vDup2_e, vGoto_e, vIcEq_e, vIfEq_e, vIcNe_e, vIfNe_e, vIcLt_e, vIfLt_e, vIcGe_e, vIfGe_e, vIcGt_e, vIfGt_e, vIcLe_e, vIfLe_e, vNonnull_e, vSw_e, vGetI_e, vGetL_e, vGetR_e, vPutI_e, vPutZ_e, vPutL_e, vPutR_e, vIald_e, vIald_s, vLald_e, vBald_e, vBald_s, vAald_e, vIast_e, vLast_e, vBast_e, vAast_e, vAlen_e8, vAlen_e9, vAlen_e10, vAlen_e11, vAlen_e5, vAlen_e3, vGets_e, vCompact_e, vLdcS_e, vIret_e, vZret_e, vCret_e, vBret_e, vLret_e, vVret_e, vAret_e, vCallM_e0, vCallMV_e0, vCallS_e0, vCallSV_e0, vCallM_e1, vCallMV_e1, vCallS_e1, vCallSV_e1, vCallM_e2, vCallMV_e2, vCallS_e2, vCallSV_e2, vCallM_e3, vCallMV_e3, vCallS_e3, vCallSV_e3, vCallM_e4, vCallMV_e4, vCallS_e4, vCallSV_e4, vCallM_e5, vCallMV_e5, vCallS_e5, vCallSV_e5, vCallM_e6, vCallMV_e6, vCallS_e6, vCallSV_e6, vCallM_e7, vCallMV_e7, vCallS_e7, vCallSV_e7, vBad_e, vStrVal_e, vStrCod_e, vForm_e, vCallT_e0, vCallT_e1, vCallT_e2, vCopy_e, rf_0_0, rf_0_1, rf_0_2, rf_0_3, rf_0_4, rf_0_7, rf_0_10, rf_0_11, rf_0_12, rf_0_13, rf_0_14, rf_0_15, rf_0_16, rf_1_0, rf_3_0, rf_3_1, rf_6_0, rf_6_1, rf_9_0, rf_9_1, rf_9_3, rf_13_0, rf_13_1, rf_13_2, rf_16_0, rf_16_1, rf_16_2, rf_16_3, rf_21_0, rf_21_1, rf_21_2, rf_21_3, rf_26_0, rf_26_1, rf_26_2, rf_26_3, rf_26_4, rf_26_5, rf_26_6, rf_31_0, rf_31_2, rf_31_5, rf_31_6, rf_36_0, rf_36_1, rf_36_2, rf_36_3, rf_39_0, rf_39_1, rf_39_2, rf_41_0, rf_41_1, rf_41_2, rf_41_3, rf_5000_1, rf_5000_2, rf_5000_3, rf_5000_4, rf_5000_5, rf_5000_15, rf_5000_16, rf_5000_18, rf_5000_19, rf_5000_20, rf_5000_21, rf_5000_22, rf_5000_23, rf_5000_24, rf_5000_25, rf_5000_26, rf_5000_27, rf_5000_36, rf_5000_37, rf_5000_40, rf_5000_41, rf_5000_42, rf_5000_43, rf_5000_44, rf_5000_45, rf_5000_47, rf_5000_52, rf_5000_54, rf_5000_55, rf_100_0, rf_100_1, rf_103_0, rf_103_1, rf_106_0, rf_106_1, rf_109_0, rf_109_1, al_2, al_4, al_5, al_7, al_8, al_10, al_11, al_12, al_14, al_15, al_17, al_18, al_19, al_20, al_22, al_23, al_24, al_25, al_27, al_28, al_29, al_30, al_32, al_33, al_34, al_35, al_37, al_38, al_40, al_42, al_5001, al_5002, al_5003, al_5004, al_5005, al_5006, al_5007, al_5008, al_5009, al_5010, al_5011, al_5012, al_5013, al_5014, al_5015, al_5016, al_5017, al_5018, al_5019, al_5020, al_5021, al_5022, al_5023, al_5024, al_5025, al_5026, al_9000, al_101, al_102, al_104, al_105, al_107, al_108, al_110, al_111, vcs_e, lg_c0, lg_cs, lg_nil, set_c0, set_cs, okst_0, okst_s, acok_n, acok_c, List.contains_nil, List.contains_cons, Bool.or_false, Bool.false_or, Bool.false_eq_true, if_false, if_true, ite_self, ne_eq, true_and, and_true, not_false_eq_true, not_true_eq_false, false_imp_iff, true_imp_iff, Nat.ble_eq, Bool.and_eq_true, reduceCtorEq, or_false, false_or, or_true, true_or, false_and, and_false, and_self, Int.reduceLE, Int.reduceAdd, Int.reduceSub, Int.reduceMul, Int.reduceNeg, Int.reduceLT, Int.reduceEq, Int.reduceNe, Nat.reduceBEq, Nat.reduceBNe, Nat.reduceEqDiff, amCmp_in, amCmp_lt, amCmp_le, amCmp_gt, amCmp_ge, amCmp_eq, amCmp_ne, Nat.reduceLeDiff, Nat.reduceSub, Bool.and_true, Bool.true_and, Bool.and_self, Bool.or_true, Bool.true_or, isRf_3, isRf_4, isRf_5, isRf_8, isRf_9, isRf_10, isRf_11, isRf_15, isRf_16, isRf_17, isRf_18, isRf_19, isRf_20, isRf_21, isRf_22, isRf_23, isRf_24, isRf_25, isRf_26, isRf_27, isRf_28, k_X12_readHouse_0, k_X12_readHouse_1, k_X12_readHouse_2, k_X12_readHouse_5, k_X12_readHouse_6, k_X12_readHouse_7, k_X12_readHouse_10, k_X12_readHouse_13, k_X12_readHouse_14, k_X12_readHouse_15, k_X12_readHouse_18, k_X12_readHouse_19, k_X12_readHouse_20, k_X12_readHouse_23, k_X12_readHouse_24, k_X12_readHouse_25, k_X12_readHouse_28, k_X12_readHouse_29, k_X12_readHouse_30, k_X12_readHouse_33, k_X12_readHouse_34, k_X12_readHouse_35, k_X12_readHouse_36, k_X12_readHouse_37, k_X12_readHouse_40, k_X12_readHouse_41, k_X12_readHouse_44, k_X12_readHouse_45, k_X12_readHouse_47, k_X12_readHouse_48, k_X12_readHouse_51, k_X12_readHouse_52, k_X12_readHouse_55, k_X12_readHouse_58, k_X12_readHouse_59, k_X12_readHouse_60, k_X12_readHouse_61, k_X12_readHouse_64, k_X12_readHouse_65, k_X12_readHouse_68, k_X12_readHouse_69, k_X12_readHouse_72, k_X12_readHouse_73, k_X12_readHouse_76, k_X12_readHouse_77, k_X12_readHouse_80, k_X12_readHouse_81, k_X12_readHouse_84, k_X12_readHouse_85, k_X12_readHouse_88, k_X12_readHouse_90, k_X12_readHouse_93, k_X12_readHouse_94, k_X12_readHouse_97, k_X12_readHouse_98, k_X12_readHouse_99, k_X12_readHouse_100, k_X12_readHouse_103, k_X12_readHouse_104, k_X12_readHouse_105, k_X12_readHouse_108, k_X12_readHouse_109, k_X12_readHouse_110, k_X12_readHouse_113, k_X12_readHouse_116, k_X12_readHouse_117, k_X12_readHouse_120, k_X12_readHouse_121, k_X12_readHouse_124, k_X12_readHouse_125, k_X12_readHouse_128, k_X12_readHouse_129, k_X12_readHouse_132, k_X12_readHouse_133, k_X12_readHouse_136, k_X12_readHouse_139, k_X12_readHouse_140, k_X12_readHouse_143, k_X12_readHouse_144, w_X12_fails_e, w_X12_isWhole_e, w_X12_look_e, w_X12_readClause_e, w_X12_starts_e, w_X12_usual_e, ho_11]
      repeat' (first | apply And.intro | intro _)
      all_goals first | omega | exact absurd trivial (by assumption) | skip
      all_goals (exact ⟨m, p, c, v, rfl, ht, p0, p1, hc, hc0, hv, jA, jB⟩)
    · have i9 : ∃ k', k' < 1 ∧ inv_rho m v0 R k' 60 [(28, 5000), (0, 0)] [] (hoN m q x c v) := ⟨0, by omega, rfl, Or.inr (Or.inr (Or.inr (Or.inr (Or.inl ⟨x, q, c, v, rfl, rfl, rfl, rfl, x0, x1, vB, hx⟩))))⟩
      have xn : ¬ x = -1 := by omega
      refine ⟨60, ?_⟩
      simp only [↓reduceIte, inR_0, inR_1, inR_m, vSw2_e, swP_n, swP_c, vI_e, vL_e, vNull_e, vIload_e, vLload_e, vAload_e, vIstore_e, vLstore_e, vAstore_e, vIinc_e, vIadd_e, vIsub_e, vImul_e, vIand_e, vIor_e, vIxor_e, vIshl_e, vIshr_e, vIushr_e, vIdiv_e, vIrem_e, vLadd_e, vLsub_e, vLmul_e, vLand_e, vLor_e, vLxor_e, vLdiv_e, vLrem_e, vLushr_e, vLshl_e, vLcmp_e, vIneg_e, vI2l_e, vL2i_e, vI2b_e, vI2c_e, vDup_e, vPop_e, vDup2_e, vGoto_e, vIcEq_e, vIfEq_e, vIcNe_e, vIfNe_e, vIcLt_e, vIfLt_e, vIcGe_e, vIfGe_e, vIcGt_e, vIfGt_e, vIcLe_e, vIfLe_e, vNonnull_e, vSw_e, vGetI_e, vGetL_e, vGetR_e, vPutI_e, vPutZ_e, vPutL_e, vPutR_e, vIald_e, vIald_s, vLald_e, vBald_e, vBald_s, vAald_e, vIast_e, vLast_e, vBast_e, vAast_e, vAlen_e8, vAlen_e9, vAlen_e10, vAlen_e11, vAlen_e5, vAlen_e3, vGets_e, vCompact_e, vLdcS_e, vIret_e, vZret_e, vCret_e, vBret_e, vLret_e, vVret_e, vAret_e, vCallM_e0, vCallMV_e0, vCallS_e0, vCallSV_e0, vCallM_e1, vCallMV_e1, vCallS_e1, vCallSV_e1, vCallM_e2, vCallMV_e2, vCallS_e2, vCallSV_e2, vCallM_e3, vCallMV_e3, vCallS_e3, vCallSV_e3, vCallM_e4, vCallMV_e4, vCallS_e4, vCallSV_e4, vCallM_e5, vCallMV_e5, vCallS_e5, vCallSV_e5, vCallM_e6, vCallMV_e6, vCallS_e6, vCallSV_e6, vCallM_e7, vCallMV_e7, vCallS_e7, vCallSV_e7, vBad_e, vStrVal_e, vStrCod_e, vForm_e, vCallT_e0, vCallT_e1, vCallT_e2, vCopy_e, rf_0_0, rf_0_1, rf_0_2, rf_0_3, rf_0_4, rf_0_7, rf_0_10, rf_0_11, rf_0_12, rf_0_13, rf_0_14, rf_0_15, rf_0_16, rf_1_0, rf_3_0, rf_3_1, rf_6_0, rf_6_1, rf_9_0, rf_9_1, rf_9_3, rf_13_0, rf_13_1, rf_13_2, rf_16_0, rf_16_1, rf_16_2, rf_16_3, rf_21_0, rf_21_1, rf_21_2, rf_21_3, rf_26_0, rf_26_1, rf_26_2, rf_26_3, rf_26_4, rf_26_5, rf_26_6, rf_31_0, rf_31_2, rf_31_5, rf_31_6, rf_36_0, rf_36_1, rf_36_2, rf_36_3, rf_39_0, rf_39_1, rf_39_2, rf_41_0, rf_41_1, rf_41_2, rf_41_3, rf_5000_1, rf_5000_2, rf_5000_3, rf_5000_4, rf_5000_5, rf_5000_15, rf_5000_16, rf_5000_18, rf_5000_19, rf_5000_20, rf_5000_21, rf_5000_22, rf_5000_23, rf_5000_24, rf_5000_25, rf_5000_26, rf_5000_27, rf_5000_36, rf_5000_37, rf_5000_40, rf_5000_41, rf_5000_42, rf_5000_43, rf_5000_44, rf_5000_45, rf_5000_47, rf_5000_52, rf_5000_54, rf_5000_55, rf_100_0, rf_100_1, rf_103_0, rf_103_1, rf_106_0, rf_106_1, rf_109_0, rf_109_1, al_2, al_4, al_5, al_7, al_8, al_10, al_11, al_12, al_14, al_15, al_17, al_18, al_19, al_20, al_22, al_23, al_24, al_25, al_27, al_28, al_29, al_30, al_32, al_33, al_34, al_35, al_37, al_38, al_40, al_42, al_5001, al_5002, al_5003, al_5004, al_5005, al_5006, al_5007, al_5008, al_5009, al_5010, al_5011, al_5012, al_5013, al_5014, al_5015, al_5016, al_5017, al_5018, al_5019, al_5020, al_5021, al_5022, al_5023, al_5024, al_5025, al_5026, al_9000, al_101, al_102, al_104, al_105, al_107, al_108, al_110, al_111, vcs_e, lg_c0, lg_cs, lg_nil, set_c0, set_cs, okst_0, okst_s, acok_n, acok_c, List.contains_nil, List.contains_cons, Bool.or_false, Bool.false_or, Bool.false_eq_true, if_false, if_true, ite_self, ne_eq, true_and, and_true, not_false_eq_true, not_true_eq_false, false_imp_iff, true_imp_iff, Nat.ble_eq, Bool.and_eq_true, reduceCtorEq, or_false, false_or, or_true, true_or, false_and, and_false, and_self, Int.reduceLE, Int.reduceAdd, Int.reduceSub, Int.reduceMul, Int.reduceNeg, Int.reduceLT, Int.reduceEq, Int.reduceNe, Nat.reduceBEq, Nat.reduceBNe, Nat.reduceEqDiff, amCmp_in, amCmp_lt, amCmp_le, amCmp_gt, amCmp_ge, amCmp_eq, amCmp_ne, Nat.reduceLeDiff, Nat.reduceSub, Bool.and_true, Bool.true_and, Bool.and_self, Bool.or_true, Bool.true_or, isRf_3, isRf_4, isRf_5, isRf_8, isRf_9, isRf_10, isRf_11, isRf_15, isRf_16, isRf_17, isRf_18, isRf_19, isRf_20, isRf_21, isRf_22, isRf_23, isRf_24, isRf_25, isRf_26, isRf_27, isRf_28, k_X12_readHouse_0, k_X12_readHouse_1, k_X12_readHouse_2, k_X12_readHouse_5, k_X12_readHouse_6, k_X12_readHouse_7, k_X12_readHouse_10, k_X12_readHouse_13, k_X12_readHouse_14, k_X12_readHouse_15, k_X12_readHouse_18, k_X12_readHouse_19, k_X12_readHouse_20, k_X12_readHouse_23, k_X12_readHouse_24, k_X12_readHouse_25, k_X12_readHouse_28, k_X12_readHouse_29, k_X12_readHouse_30, k_X12_readHouse_33, k_X12_readHouse_34, k_X12_readHouse_35, k_X12_readHouse_36, k_X12_readHouse_37, k_X12_readHouse_40, k_X12_readHouse_41, k_X12_readHouse_44, k_X12_readHouse_45, k_X12_readHouse_47, k_X12_readHouse_48, k_X12_readHouse_51, k_X12_readHouse_52, k_X12_readHouse_55, k_X12_readHouse_58, k_X12_readHouse_59, k_X12_readHouse_60, k_X12_readHouse_61, k_X12_readHouse_64, k_X12_readHouse_65, k_X12_readHouse_68, k_X12_readHouse_69, k_X12_readHouse_72, k_X12_readHouse_73, k_X12_readHouse_76, k_X12_readHouse_77, k_X12_readHouse_80, k_X12_readHouse_81, k_X12_readHouse_84, k_X12_readHouse_85, k_X12_readHouse_88, k_X12_readHouse_90, k_X12_readHouse_93, k_X12_readHouse_94, k_X12_readHouse_97, k_X12_readHouse_98, k_X12_readHouse_99, k_X12_readHouse_100, k_X12_readHouse_103, k_X12_readHouse_104, k_X12_readHouse_105, k_X12_readHouse_108, k_X12_readHouse_109, k_X12_readHouse_110, k_X12_readHouse_113, k_X12_readHouse_116, k_X12_readHouse_117, k_X12_readHouse_120, k_X12_readHouse_121, k_X12_readHouse_124, k_X12_readHouse_125, k_X12_readHouse_128, k_X12_readHouse_129, k_X12_readHouse_132, k_X12_readHouse_133, k_X12_readHouse_136, k_X12_readHouse_139, k_X12_readHouse_140, k_X12_readHouse_143, k_X12_readHouse_144, w_X12_fails_e, w_X12_isWhole_e, w_X12_look_e, w_X12_readClause_e, w_X12_starts_e, w_X12_usual_e, ho_11, xn]
      repeat' (first | apply And.intro | intro _)
      all_goals first | omega | exact absurd trivial (by assumption) | exact i9
    · have s1 := sk_b (mtx m) p1
      have b1 := mtx_b ht (sk (mtx m) (m 5000 9) p)
      have ss := sk_sk (mtx m) p1
      have i9 : mtx m (sk (mtx m) (m 5000 9) p) = 59 → ∃ k', k' < 2 * f + 2 ∧ inv_rho m v0 R k' 60 [(28, 5000), (0, 1)] [] (hoN m (sk (mtx m) (m 5000 9) p + 1) (-1) c v) := fun e => by
        obtain ⟨a1, a2, a3⟩ := hA e
        have s2 := sk_lt hte (q := sk (mtx m) (m 5000 9) p) (by omega)
        exact ⟨2 * f + 1, by omega, rfl, Or.inr (Or.inl ⟨f, _, c, v, rfl, rfl, rfl, rfl, by omega, by omega, by omega, hc, hc0, a1, a3⟩)⟩
      have i8 : mtx m (sk (mtx m) (m 5000 9) p) ≠ 59 → ∃ k', k' < 2 * f + 2 ∧ inv_rho m v0 R k' 60 [(28, 5000), (0, 0)] [] (hoN m (sk (mtx m) (m 5000 9) p) (-1) c v) := fun e =>
        ⟨0, by omega, rfl, Or.inr (Or.inr (Or.inr (Or.inr (Or.inr ⟨_, c, v, rfl, rfl, rfl, rfl, by omega, by omega, hc, vB, ss, hB, fun z => hD e z⟩))))⟩
      refine ⟨60, ?_⟩
      simp only [↓reduceIte, inR_0, inR_1, inR_m, vSw2_e, swP_n, swP_c, vI_e, vL_e, vNull_e, vIload_e, vLload_e, vAload_e, vIstore_e, vLstore_e, vAstore_e, vIinc_e, vIadd_e, vIsub_e, vImul_e, vIand_e, vIor_e, vIxor_e, vIshl_e, vIshr_e, vIushr_e, vIdiv_e, vIrem_e, vLadd_e, vLsub_e, vLmul_e, vLand_e, vLor_e, vLxor_e, vLdiv_e, vLrem_e, vLushr_e, vLshl_e, vLcmp_e, vIneg_e, vI2l_e, vL2i_e, vI2b_e, vI2c_e, vDup_e, vPop_e, vDup2_e, vGoto_e, vIcEq_e, vIfEq_e, vIcNe_e, vIfNe_e, vIcLt_e, vIfLt_e, vIcGe_e, vIfGe_e, vIcGt_e, vIfGt_e, vIcLe_e, vIfLe_e, vNonnull_e, vSw_e, vGetI_e, vGetL_e, vGetR_e, vPutI_e, vPutZ_e, vPutL_e, vPutR_e, vIald_e, vIald_s, vLald_e, vBald_e, vBald_s, vAald_e, vIast_e, vLast_e, vBast_e, vAast_e, vAlen_e8, vAlen_e9, vAlen_e10, vAlen_e11, vAlen_e5, vAlen_e3, vGets_e, vCompact_e, vLdcS_e, vIret_e, vZret_e, vCret_e, vBret_e, vLret_e, vVret_e, vAret_e, vCallM_e0, vCallMV_e0, vCallS_e0, vCallSV_e0, vCallM_e1, vCallMV_e1, vCallS_e1, vCallSV_e1, vCallM_e2, vCallMV_e2, vCallS_e2, vCallSV_e2, vCallM_e3, vCallMV_e3, vCallS_e3, vCallSV_e3, vCallM_e4, vCallMV_e4, vCallS_e4, vCallSV_e4, vCallM_e5, vCallMV_e5, vCallS_e5, vCallSV_e5, vCallM_e6, vCallMV_e6, vCallS_e6, vCallSV_e6, vCallM_e7, vCallMV_e7, vCallS_e7, vCallSV_e7, vBad_e, vStrVal_e, vStrCod_e, vForm_e, vCallT_e0, vCallT_e1, vCallT_e2, vCopy_e, rf_0_0, rf_0_1, rf_0_2, rf_0_3, rf_0_4, rf_0_7, rf_0_10, rf_0_11, rf_0_12, rf_0_13, rf_0_14, rf_0_15, rf_0_16, rf_1_0, rf_3_0, rf_3_1, rf_6_0, rf_6_1, rf_9_0, rf_9_1, rf_9_3, rf_13_0, rf_13_1, rf_13_2, rf_16_0, rf_16_1, rf_16_2, rf_16_3, rf_21_0, rf_21_1, rf_21_2, rf_21_3, rf_26_0, rf_26_1, rf_26_2, rf_26_3, rf_26_4, rf_26_5, rf_26_6, rf_31_0, rf_31_2, rf_31_5, rf_31_6, rf_36_0, rf_36_1, rf_36_2, rf_36_3, rf_39_0, rf_39_1, rf_39_2, rf_41_0, rf_41_1, rf_41_2, rf_41_3, rf_5000_1, rf_5000_2, rf_5000_3, rf_5000_4, rf_5000_5, rf_5000_15, rf_5000_16, rf_5000_18, rf_5000_19, rf_5000_20, rf_5000_21, rf_5000_22, rf_5000_23, rf_5000_24, rf_5000_25, rf_5000_26, rf_5000_27, rf_5000_36, rf_5000_37, rf_5000_40, rf_5000_41, rf_5000_42, rf_5000_43, rf_5000_44, rf_5000_45, rf_5000_47, rf_5000_52, rf_5000_54, rf_5000_55, rf_100_0, rf_100_1, rf_103_0, rf_103_1, rf_106_0, rf_106_1, rf_109_0, rf_109_1, al_2, al_4, al_5, al_7, al_8, al_10, al_11, al_12, al_14, al_15, al_17, al_18, al_19, al_20, al_22, al_23, al_24, al_25, al_27, al_28, al_29, al_30, al_32, al_33, al_34, al_35, al_37, al_38, al_40, al_42, al_5001, al_5002, al_5003, al_5004, al_5005, al_5006, al_5007, al_5008, al_5009, al_5010, al_5011, al_5012, al_5013, al_5014, al_5015, al_5016, al_5017, al_5018, al_5019, al_5020, al_5021, al_5022, al_5023, al_5024, al_5025, al_5026, al_9000, al_101, al_102, al_104, al_105, al_107, al_108, al_110, al_111, vcs_e, lg_c0, lg_cs, lg_nil, set_c0, set_cs, okst_0, okst_s, acok_n, acok_c, List.contains_nil, List.contains_cons, Bool.or_false, Bool.false_or, Bool.false_eq_true, if_false, if_true, ite_self, ne_eq, true_and, and_true, not_false_eq_true, not_true_eq_false, false_imp_iff, true_imp_iff, Nat.ble_eq, Bool.and_eq_true, reduceCtorEq, or_false, false_or, or_true, true_or, false_and, and_false, and_self, Int.reduceLE, Int.reduceAdd, Int.reduceSub, Int.reduceMul, Int.reduceNeg, Int.reduceLT, Int.reduceEq, Int.reduceNe, Nat.reduceBEq, Nat.reduceBNe, Nat.reduceEqDiff, amCmp_in, amCmp_lt, amCmp_le, amCmp_gt, amCmp_ge, amCmp_eq, amCmp_ne, Nat.reduceLeDiff, Nat.reduceSub, Bool.and_true, Bool.true_and, Bool.and_self, Bool.or_true, Bool.true_or, isRf_3, isRf_4, isRf_5, isRf_8, isRf_9, isRf_10, isRf_11, isRf_15, isRf_16, isRf_17, isRf_18, isRf_19, isRf_20, isRf_21, isRf_22, isRf_23, isRf_24, isRf_25, isRf_26, isRf_27, isRf_28, k_X12_readHouse_0, k_X12_readHouse_1, k_X12_readHouse_2, k_X12_readHouse_5, k_X12_readHouse_6, k_X12_readHouse_7, k_X12_readHouse_10, k_X12_readHouse_13, k_X12_readHouse_14, k_X12_readHouse_15, k_X12_readHouse_18, k_X12_readHouse_19, k_X12_readHouse_20, k_X12_readHouse_23, k_X12_readHouse_24, k_X12_readHouse_25, k_X12_readHouse_28, k_X12_readHouse_29, k_X12_readHouse_30, k_X12_readHouse_33, k_X12_readHouse_34, k_X12_readHouse_35, k_X12_readHouse_36, k_X12_readHouse_37, k_X12_readHouse_40, k_X12_readHouse_41, k_X12_readHouse_44, k_X12_readHouse_45, k_X12_readHouse_47, k_X12_readHouse_48, k_X12_readHouse_51, k_X12_readHouse_52, k_X12_readHouse_55, k_X12_readHouse_58, k_X12_readHouse_59, k_X12_readHouse_60, k_X12_readHouse_61, k_X12_readHouse_64, k_X12_readHouse_65, k_X12_readHouse_68, k_X12_readHouse_69, k_X12_readHouse_72, k_X12_readHouse_73, k_X12_readHouse_76, k_X12_readHouse_77, k_X12_readHouse_80, k_X12_readHouse_81, k_X12_readHouse_84, k_X12_readHouse_85, k_X12_readHouse_88, k_X12_readHouse_90, k_X12_readHouse_93, k_X12_readHouse_94, k_X12_readHouse_97, k_X12_readHouse_98, k_X12_readHouse_99, k_X12_readHouse_100, k_X12_readHouse_103, k_X12_readHouse_104, k_X12_readHouse_105, k_X12_readHouse_108, k_X12_readHouse_109, k_X12_readHouse_110, k_X12_readHouse_113, k_X12_readHouse_116, k_X12_readHouse_117, k_X12_readHouse_120, k_X12_readHouse_121, k_X12_readHouse_124, k_X12_readHouse_125, k_X12_readHouse_128, k_X12_readHouse_129, k_X12_readHouse_132, k_X12_readHouse_133, k_X12_readHouse_136, k_X12_readHouse_139, k_X12_readHouse_140, k_X12_readHouse_143, k_X12_readHouse_144, w_X12_fails_e, w_X12_isWhole_e, w_X12_look_e, w_X12_readClause_e, w_X12_starts_e, w_X12_usual_e, msk, Mt, MtO, ho_10, ho_9, ho_11, ho_u10]
      repeat' (first | apply And.intro | intro _)
      all_goals first | omega | exact absurd trivial (by assumption) | exact i9 (by assumption) | exact i8 (by assumption) | exact i8 (by omega) | exact ⟨by omega, by omega⟩
    · have q9 := fF x q c v vB hx x0
      have xn : ¬ x = -1 := by omega
      refine ⟨60, ?_⟩
      simp only [↓reduceIte, inR_0, inR_1, inR_m, vSw2_e, swP_n, swP_c, vI_e, vL_e, vNull_e, vIload_e, vLload_e, vAload_e, vIstore_e, vLstore_e, vAstore_e, vIinc_e, vIadd_e, vIsub_e, vImul_e, vIand_e, vIor_e, vIxor_e, vIshl_e, vIshr_e, vIushr_e, vIdiv_e, vIrem_e, vLadd_e, vLsub_e, vLmul_e, vLand_e, vLor_e, vLxor_e, vLdiv_e, vLrem_e, vLushr_e, vLshl_e, vLcmp_e, vIneg_e, vI2l_e, vL2i_e, vI2b_e, vI2c_e, vDup_e, vPop_e, vDup2_e, vGoto_e, vIcEq_e, vIfEq_e, vIcNe_e, vIfNe_e, vIcLt_e, vIfLt_e, vIcGe_e, vIfGe_e, vIcGt_e, vIfGt_e, vIcLe_e, vIfLe_e, vNonnull_e, vSw_e, vGetI_e, vGetL_e, vGetR_e, vPutI_e, vPutZ_e, vPutL_e, vPutR_e, vIald_e, vIald_s, vLald_e, vBald_e, vBald_s, vAald_e, vIast_e, vLast_e, vBast_e, vAast_e, vAlen_e8, vAlen_e9, vAlen_e10, vAlen_e11, vAlen_e5, vAlen_e3, vGets_e, vCompact_e, vLdcS_e, vIret_e, vZret_e, vCret_e, vBret_e, vLret_e, vVret_e, vAret_e, vCallM_e0, vCallMV_e0, vCallS_e0, vCallSV_e0, vCallM_e1, vCallMV_e1, vCallS_e1, vCallSV_e1, vCallM_e2, vCallMV_e2, vCallS_e2, vCallSV_e2, vCallM_e3, vCallMV_e3, vCallS_e3, vCallSV_e3, vCallM_e4, vCallMV_e4, vCallS_e4, vCallSV_e4, vCallM_e5, vCallMV_e5, vCallS_e5, vCallSV_e5, vCallM_e6, vCallMV_e6, vCallS_e6, vCallSV_e6, vCallM_e7, vCallMV_e7, vCallS_e7, vCallSV_e7, vBad_e, vStrVal_e, vStrCod_e, vForm_e, vCallT_e0, vCallT_e1, vCallT_e2, vCopy_e, rf_0_0, rf_0_1, rf_0_2, rf_0_3, rf_0_4, rf_0_7, rf_0_10, rf_0_11, rf_0_12, rf_0_13, rf_0_14, rf_0_15, rf_0_16, rf_1_0, rf_3_0, rf_3_1, rf_6_0, rf_6_1, rf_9_0, rf_9_1, rf_9_3, rf_13_0, rf_13_1, rf_13_2, rf_16_0, rf_16_1, rf_16_2, rf_16_3, rf_21_0, rf_21_1, rf_21_2, rf_21_3, rf_26_0, rf_26_1, rf_26_2, rf_26_3, rf_26_4, rf_26_5, rf_26_6, rf_31_0, rf_31_2, rf_31_5, rf_31_6, rf_36_0, rf_36_1, rf_36_2, rf_36_3, rf_39_0, rf_39_1, rf_39_2, rf_41_0, rf_41_1, rf_41_2, rf_41_3, rf_5000_1, rf_5000_2, rf_5000_3, rf_5000_4, rf_5000_5, rf_5000_15, rf_5000_16, rf_5000_18, rf_5000_19, rf_5000_20, rf_5000_21, rf_5000_22, rf_5000_23, rf_5000_24, rf_5000_25, rf_5000_26, rf_5000_27, rf_5000_36, rf_5000_37, rf_5000_40, rf_5000_41, rf_5000_42, rf_5000_43, rf_5000_44, rf_5000_45, rf_5000_47, rf_5000_52, rf_5000_54, rf_5000_55, rf_100_0, rf_100_1, rf_103_0, rf_103_1, rf_106_0, rf_106_1, rf_109_0, rf_109_1, al_2, al_4, al_5, al_7, al_8, al_10, al_11, al_12, al_14, al_15, al_17, al_18, al_19, al_20, al_22, al_23, al_24, al_25, al_27, al_28, al_29, al_30, al_32, al_33, al_34, al_35, al_37, al_38, al_40, al_42, al_5001, al_5002, al_5003, al_5004, al_5005, al_5006, al_5007, al_5008, al_5009, al_5010, al_5011, al_5012, al_5013, al_5014, al_5015, al_5016, al_5017, al_5018, al_5019, al_5020, al_5021, al_5022, al_5023, al_5024, al_5025, al_5026, al_9000, al_101, al_102, al_104, al_105, al_107, al_108, al_110, al_111, vcs_e, lg_c0, lg_cs, lg_nil, set_c0, set_cs, okst_0, okst_s, acok_n, acok_c, List.contains_nil, List.contains_cons, Bool.or_false, Bool.false_or, Bool.false_eq_true, if_false, if_true, ite_self, ne_eq, true_and, and_true, not_false_eq_true, not_true_eq_false, false_imp_iff, true_imp_iff, Nat.ble_eq, Bool.and_eq_true, reduceCtorEq, or_false, false_or, or_true, true_or, false_and, and_false, and_self, Int.reduceLE, Int.reduceAdd, Int.reduceSub, Int.reduceMul, Int.reduceNeg, Int.reduceLT, Int.reduceEq, Int.reduceNe, Nat.reduceBEq, Nat.reduceBNe, Nat.reduceEqDiff, amCmp_in, amCmp_lt, amCmp_le, amCmp_gt, amCmp_ge, amCmp_eq, amCmp_ne, Nat.reduceLeDiff, Nat.reduceSub, Bool.and_true, Bool.true_and, Bool.and_self, Bool.or_true, Bool.true_or, isRf_3, isRf_4, isRf_5, isRf_8, isRf_9, isRf_10, isRf_11, isRf_15, isRf_16, isRf_17, isRf_18, isRf_19, isRf_20, isRf_21, isRf_22, isRf_23, isRf_24, isRf_25, isRf_26, isRf_27, isRf_28, k_X12_readHouse_0, k_X12_readHouse_1, k_X12_readHouse_2, k_X12_readHouse_5, k_X12_readHouse_6, k_X12_readHouse_7, k_X12_readHouse_10, k_X12_readHouse_13, k_X12_readHouse_14, k_X12_readHouse_15, k_X12_readHouse_18, k_X12_readHouse_19, k_X12_readHouse_20, k_X12_readHouse_23, k_X12_readHouse_24, k_X12_readHouse_25, k_X12_readHouse_28, k_X12_readHouse_29, k_X12_readHouse_30, k_X12_readHouse_33, k_X12_readHouse_34, k_X12_readHouse_35, k_X12_readHouse_36, k_X12_readHouse_37, k_X12_readHouse_40, k_X12_readHouse_41, k_X12_readHouse_44, k_X12_readHouse_45, k_X12_readHouse_47, k_X12_readHouse_48, k_X12_readHouse_51, k_X12_readHouse_52, k_X12_readHouse_55, k_X12_readHouse_58, k_X12_readHouse_59, k_X12_readHouse_60, k_X12_readHouse_61, k_X12_readHouse_64, k_X12_readHouse_65, k_X12_readHouse_68, k_X12_readHouse_69, k_X12_readHouse_72, k_X12_readHouse_73, k_X12_readHouse_76, k_X12_readHouse_77, k_X12_readHouse_80, k_X12_readHouse_81, k_X12_readHouse_84, k_X12_readHouse_85, k_X12_readHouse_88, k_X12_readHouse_90, k_X12_readHouse_93, k_X12_readHouse_94, k_X12_readHouse_97, k_X12_readHouse_98, k_X12_readHouse_99, k_X12_readHouse_100, k_X12_readHouse_103, k_X12_readHouse_104, k_X12_readHouse_105, k_X12_readHouse_108, k_X12_readHouse_109, k_X12_readHouse_110, k_X12_readHouse_113, k_X12_readHouse_116, k_X12_readHouse_117, k_X12_readHouse_120, k_X12_readHouse_121, k_X12_readHouse_124, k_X12_readHouse_125, k_X12_readHouse_128, k_X12_readHouse_129, k_X12_readHouse_132, k_X12_readHouse_133, k_X12_readHouse_136, k_X12_readHouse_139, k_X12_readHouse_140, k_X12_readHouse_143, k_X12_readHouse_144, w_X12_fails_e, w_X12_isWhole_e, w_X12_look_e, w_X12_readClause_e, w_X12_starts_e, w_X12_usual_e, ho_11, xn]
      repeat' (first | apply And.intro | intro _)
      all_goals first | omega | exact absurd trivial (by assumption) | exact q9
    · have b1 := mtx_b ht p
      refine ⟨60, ?_⟩
      by_cases e : mtx m p = -1
      · obtain ⟨a1, a2, a3⟩ := hB e
        have ep := mtx_nn ht p0 p1 e
        have q8 : hWhole c v → Q (6, 0) (hoN m p (-1) c v) := fun g => hq _ (hH _ _ _ _) (vof_ho a1) (by rw [ho_11, a2, hfin_t g]) (fun _ => ⟨fun k k0 k1 => by rw [a3, ho_cc _ _ _ _ _ (by omega)]; show c (30 + k - 30) = c k; congr 1; omega, fun b j h => by rw [a3, ho_sl _ _ _ _ _ h]⟩)
        have q9 : ¬ hWhole c v → Q (6, 0) (hoN m p p c v) := fun g => fF p p c v a1 (by rw [a2, hfin_f g, ep]) p0
        simp only [↓reduceIte, inR_0, inR_1, inR_m, vSw2_e, swP_n, swP_c, vI_e, vL_e, vNull_e, vIload_e, vLload_e, vAload_e, vIstore_e, vLstore_e, vAstore_e, vIinc_e, vIadd_e, vIsub_e, vImul_e, vIand_e, vIor_e, vIxor_e, vIshl_e, vIshr_e, vIushr_e, vIdiv_e, vIrem_e, vLadd_e, vLsub_e, vLmul_e, vLand_e, vLor_e, vLxor_e, vLdiv_e, vLrem_e, vLushr_e, vLshl_e, vLcmp_e, vIneg_e, vI2l_e, vL2i_e, vI2b_e, vI2c_e, vDup_e, vPop_e, vDup2_e, vGoto_e, vIcEq_e, vIfEq_e, vIcNe_e, vIfNe_e, vIcLt_e, vIfLt_e, vIcGe_e, vIfGe_e, vIcGt_e, vIfGt_e, vIcLe_e, vIfLe_e, vNonnull_e, vSw_e, vGetI_e, vGetL_e, vGetR_e, vPutI_e, vPutZ_e, vPutL_e, vPutR_e, vIald_e, vIald_s, vLald_e, vBald_e, vBald_s, vAald_e, vIast_e, vLast_e, vBast_e, vAast_e, vAlen_e8, vAlen_e9, vAlen_e10, vAlen_e11, vAlen_e5, vAlen_e3, vGets_e, vCompact_e, vLdcS_e, vIret_e, vZret_e, vCret_e, vBret_e, vLret_e, vVret_e, vAret_e, vCallM_e0, vCallMV_e0, vCallS_e0, vCallSV_e0, vCallM_e1, vCallMV_e1, vCallS_e1, vCallSV_e1, vCallM_e2, vCallMV_e2, vCallS_e2, vCallSV_e2, vCallM_e3, vCallMV_e3, vCallS_e3, vCallSV_e3, vCallM_e4, vCallMV_e4, vCallS_e4, vCallSV_e4, vCallM_e5, vCallMV_e5, vCallS_e5, vCallSV_e5, vCallM_e6, vCallMV_e6, vCallS_e6, vCallSV_e6, vCallM_e7, vCallMV_e7, vCallS_e7, vCallSV_e7, vBad_e, vStrVal_e, vStrCod_e, vForm_e, vCallT_e0, vCallT_e1, vCallT_e2, vCopy_e, rf_0_0, rf_0_1, rf_0_2, rf_0_3, rf_0_4, rf_0_7, rf_0_10, rf_0_11, rf_0_12, rf_0_13, rf_0_14, rf_0_15, rf_0_16, rf_1_0, rf_3_0, rf_3_1, rf_6_0, rf_6_1, rf_9_0, rf_9_1, rf_9_3, rf_13_0, rf_13_1, rf_13_2, rf_16_0, rf_16_1, rf_16_2, rf_16_3, rf_21_0, rf_21_1, rf_21_2, rf_21_3, rf_26_0, rf_26_1, rf_26_2, rf_26_3, rf_26_4, rf_26_5, rf_26_6, rf_31_0, rf_31_2, rf_31_5, rf_31_6, rf_36_0, rf_36_1, rf_36_2, rf_36_3, rf_39_0, rf_39_1, rf_39_2, rf_41_0, rf_41_1, rf_41_2, rf_41_3, rf_5000_1, rf_5000_2, rf_5000_3, rf_5000_4, rf_5000_5, rf_5000_15, rf_5000_16, rf_5000_18, rf_5000_19, rf_5000_20, rf_5000_21, rf_5000_22, rf_5000_23, rf_5000_24, rf_5000_25, rf_5000_26, rf_5000_27, rf_5000_36, rf_5000_37, rf_5000_40, rf_5000_41, rf_5000_42, rf_5000_43, rf_5000_44, rf_5000_45, rf_5000_47, rf_5000_52, rf_5000_54, rf_5000_55, rf_100_0, rf_100_1, rf_103_0, rf_103_1, rf_106_0, rf_106_1, rf_109_0, rf_109_1, al_2, al_4, al_5, al_7, al_8, al_10, al_11, al_12, al_14, al_15, al_17, al_18, al_19, al_20, al_22, al_23, al_24, al_25, al_27, al_28, al_29, al_30, al_32, al_33, al_34, al_35, al_37, al_38, al_40, al_42, al_5001, al_5002, al_5003, al_5004, al_5005, al_5006, al_5007, al_5008, al_5009, al_5010, al_5011, al_5012, al_5013, al_5014, al_5015, al_5016, al_5017, al_5018, al_5019, al_5020, al_5021, al_5022, al_5023, al_5024, al_5025, al_5026, al_9000, al_101, al_102, al_104, al_105, al_107, al_108, al_110, al_111, vcs_e, lg_c0, lg_cs, lg_nil, set_c0, set_cs, okst_0, okst_s, acok_n, acok_c, List.contains_nil, List.contains_cons, Bool.or_false, Bool.false_or, Bool.false_eq_true, if_false, if_true, ite_self, ne_eq, true_and, and_true, not_false_eq_true, not_true_eq_false, false_imp_iff, true_imp_iff, Nat.ble_eq, Bool.and_eq_true, reduceCtorEq, or_false, false_or, or_true, true_or, false_and, and_false, and_self, Int.reduceLE, Int.reduceAdd, Int.reduceSub, Int.reduceMul, Int.reduceNeg, Int.reduceLT, Int.reduceEq, Int.reduceNe, Nat.reduceBEq, Nat.reduceBNe, Nat.reduceEqDiff, amCmp_in, amCmp_lt, amCmp_le, amCmp_gt, amCmp_ge, amCmp_eq, amCmp_ne, Nat.reduceLeDiff, Nat.reduceSub, Bool.and_true, Bool.true_and, Bool.and_self, Bool.or_true, Bool.true_or, isRf_3, isRf_4, isRf_5, isRf_8, isRf_9, isRf_10, isRf_11, isRf_15, isRf_16, isRf_17, isRf_18, isRf_19, isRf_20, isRf_21, isRf_22, isRf_23, isRf_24, isRf_25, isRf_26, isRf_27, isRf_28, k_X12_readHouse_0, k_X12_readHouse_1, k_X12_readHouse_2, k_X12_readHouse_5, k_X12_readHouse_6, k_X12_readHouse_7, k_X12_readHouse_10, k_X12_readHouse_13, k_X12_readHouse_14, k_X12_readHouse_15, k_X12_readHouse_18, k_X12_readHouse_19, k_X12_readHouse_20, k_X12_readHouse_23, k_X12_readHouse_24, k_X12_readHouse_25, k_X12_readHouse_28, k_X12_readHouse_29, k_X12_readHouse_30, k_X12_readHouse_33, k_X12_readHouse_34, k_X12_readHouse_35, k_X12_readHouse_36, k_X12_readHouse_37, k_X12_readHouse_40, k_X12_readHouse_41, k_X12_readHouse_44, k_X12_readHouse_45, k_X12_readHouse_47, k_X12_readHouse_48, k_X12_readHouse_51, k_X12_readHouse_52, k_X12_readHouse_55, k_X12_readHouse_58, k_X12_readHouse_59, k_X12_readHouse_60, k_X12_readHouse_61, k_X12_readHouse_64, k_X12_readHouse_65, k_X12_readHouse_68, k_X12_readHouse_69, k_X12_readHouse_72, k_X12_readHouse_73, k_X12_readHouse_76, k_X12_readHouse_77, k_X12_readHouse_80, k_X12_readHouse_81, k_X12_readHouse_84, k_X12_readHouse_85, k_X12_readHouse_88, k_X12_readHouse_90, k_X12_readHouse_93, k_X12_readHouse_94, k_X12_readHouse_97, k_X12_readHouse_98, k_X12_readHouse_99, k_X12_readHouse_100, k_X12_readHouse_103, k_X12_readHouse_104, k_X12_readHouse_105, k_X12_readHouse_108, k_X12_readHouse_109, k_X12_readHouse_110, k_X12_readHouse_113, k_X12_readHouse_116, k_X12_readHouse_117, k_X12_readHouse_120, k_X12_readHouse_121, k_X12_readHouse_124, k_X12_readHouse_125, k_X12_readHouse_128, k_X12_readHouse_129, k_X12_readHouse_132, k_X12_readHouse_133, k_X12_readHouse_136, k_X12_readHouse_139, k_X12_readHouse_140, k_X12_readHouse_143, k_X12_readHouse_144, w_X12_fails_e, w_X12_isWhole_e, w_X12_look_e, w_X12_readClause_e, w_X12_starts_e, w_X12_usual_e, msk, Mt, MtO, ho_10, ho_9, ho_11, ho_u10, ho_fa, hs, e]
        repeat' (first | apply And.intro | intro _)
        all_goals first | omega | exact absurd trivial (by assumption) | exact ⟨by omega, by omega⟩ | skip
        all_goals (exact ⟨m, p, -1, c, v, rfl, hc, a1, q8, q9⟩)
      · have q9 := fF p p c v vB (hD e) p0
        simp only [↓reduceIte, inR_0, inR_1, inR_m, vSw2_e, swP_n, swP_c, vI_e, vL_e, vNull_e, vIload_e, vLload_e, vAload_e, vIstore_e, vLstore_e, vAstore_e, vIinc_e, vIadd_e, vIsub_e, vImul_e, vIand_e, vIor_e, vIxor_e, vIshl_e, vIshr_e, vIushr_e, vIdiv_e, vIrem_e, vLadd_e, vLsub_e, vLmul_e, vLand_e, vLor_e, vLxor_e, vLdiv_e, vLrem_e, vLushr_e, vLshl_e, vLcmp_e, vIneg_e, vI2l_e, vL2i_e, vI2b_e, vI2c_e, vDup_e, vPop_e, vDup2_e, vGoto_e, vIcEq_e, vIfEq_e, vIcNe_e, vIfNe_e, vIcLt_e, vIfLt_e, vIcGe_e, vIfGe_e, vIcGt_e, vIfGt_e, vIcLe_e, vIfLe_e, vNonnull_e, vSw_e, vGetI_e, vGetL_e, vGetR_e, vPutI_e, vPutZ_e, vPutL_e, vPutR_e, vIald_e, vIald_s, vLald_e, vBald_e, vBald_s, vAald_e, vIast_e, vLast_e, vBast_e, vAast_e, vAlen_e8, vAlen_e9, vAlen_e10, vAlen_e11, vAlen_e5, vAlen_e3, vGets_e, vCompact_e, vLdcS_e, vIret_e, vZret_e, vCret_e, vBret_e, vLret_e, vVret_e, vAret_e, vCallM_e0, vCallMV_e0, vCallS_e0, vCallSV_e0, vCallM_e1, vCallMV_e1, vCallS_e1, vCallSV_e1, vCallM_e2, vCallMV_e2, vCallS_e2, vCallSV_e2, vCallM_e3, vCallMV_e3, vCallS_e3, vCallSV_e3, vCallM_e4, vCallMV_e4, vCallS_e4, vCallSV_e4, vCallM_e5, vCallMV_e5, vCallS_e5, vCallSV_e5, vCallM_e6, vCallMV_e6, vCallS_e6, vCallSV_e6, vCallM_e7, vCallMV_e7, vCallS_e7, vCallSV_e7, vBad_e, vStrVal_e, vStrCod_e, vForm_e, vCallT_e0, vCallT_e1, vCallT_e2, vCopy_e, rf_0_0, rf_0_1, rf_0_2, rf_0_3, rf_0_4, rf_0_7, rf_0_10, rf_0_11, rf_0_12, rf_0_13, rf_0_14, rf_0_15, rf_0_16, rf_1_0, rf_3_0, rf_3_1, rf_6_0, rf_6_1, rf_9_0, rf_9_1, rf_9_3, rf_13_0, rf_13_1, rf_13_2, rf_16_0, rf_16_1, rf_16_2, rf_16_3, rf_21_0, rf_21_1, rf_21_2, rf_21_3, rf_26_0, rf_26_1, rf_26_2, rf_26_3, rf_26_4, rf_26_5, rf_26_6, rf_31_0, rf_31_2, rf_31_5, rf_31_6, rf_36_0, rf_36_1, rf_36_2, rf_36_3, rf_39_0, rf_39_1, rf_39_2, rf_41_0, rf_41_1, rf_41_2, rf_41_3, rf_5000_1, rf_5000_2, rf_5000_3, rf_5000_4, rf_5000_5, rf_5000_15, rf_5000_16, rf_5000_18, rf_5000_19, rf_5000_20, rf_5000_21, rf_5000_22, rf_5000_23, rf_5000_24, rf_5000_25, rf_5000_26, rf_5000_27, rf_5000_36, rf_5000_37, rf_5000_40, rf_5000_41, rf_5000_42, rf_5000_43, rf_5000_44, rf_5000_45, rf_5000_47, rf_5000_52, rf_5000_54, rf_5000_55, rf_100_0, rf_100_1, rf_103_0, rf_103_1, rf_106_0, rf_106_1, rf_109_0, rf_109_1, al_2, al_4, al_5, al_7, al_8, al_10, al_11, al_12, al_14, al_15, al_17, al_18, al_19, al_20, al_22, al_23, al_24, al_25, al_27, al_28, al_29, al_30, al_32, al_33, al_34, al_35, al_37, al_38, al_40, al_42, al_5001, al_5002, al_5003, al_5004, al_5005, al_5006, al_5007, al_5008, al_5009, al_5010, al_5011, al_5012, al_5013, al_5014, al_5015, al_5016, al_5017, al_5018, al_5019, al_5020, al_5021, al_5022, al_5023, al_5024, al_5025, al_5026, al_9000, al_101, al_102, al_104, al_105, al_107, al_108, al_110, al_111, vcs_e, lg_c0, lg_cs, lg_nil, set_c0, set_cs, okst_0, okst_s, acok_n, acok_c, List.contains_nil, List.contains_cons, Bool.or_false, Bool.false_or, Bool.false_eq_true, if_false, if_true, ite_self, ne_eq, true_and, and_true, not_false_eq_true, not_true_eq_false, false_imp_iff, true_imp_iff, Nat.ble_eq, Bool.and_eq_true, reduceCtorEq, or_false, false_or, or_true, true_or, false_and, and_false, and_self, Int.reduceLE, Int.reduceAdd, Int.reduceSub, Int.reduceMul, Int.reduceNeg, Int.reduceLT, Int.reduceEq, Int.reduceNe, Nat.reduceBEq, Nat.reduceBNe, Nat.reduceEqDiff, amCmp_in, amCmp_lt, amCmp_le, amCmp_gt, amCmp_ge, amCmp_eq, amCmp_ne, Nat.reduceLeDiff, Nat.reduceSub, Bool.and_true, Bool.true_and, Bool.and_self, Bool.or_true, Bool.true_or, isRf_3, isRf_4, isRf_5, isRf_8, isRf_9, isRf_10, isRf_11, isRf_15, isRf_16, isRf_17, isRf_18, isRf_19, isRf_20, isRf_21, isRf_22, isRf_23, isRf_24, isRf_25, isRf_26, isRf_27, isRf_28, k_X12_readHouse_0, k_X12_readHouse_1, k_X12_readHouse_2, k_X12_readHouse_5, k_X12_readHouse_6, k_X12_readHouse_7, k_X12_readHouse_10, k_X12_readHouse_13, k_X12_readHouse_14, k_X12_readHouse_15, k_X12_readHouse_18, k_X12_readHouse_19, k_X12_readHouse_20, k_X12_readHouse_23, k_X12_readHouse_24, k_X12_readHouse_25, k_X12_readHouse_28, k_X12_readHouse_29, k_X12_readHouse_30, k_X12_readHouse_33, k_X12_readHouse_34, k_X12_readHouse_35, k_X12_readHouse_36, k_X12_readHouse_37, k_X12_readHouse_40, k_X12_readHouse_41, k_X12_readHouse_44, k_X12_readHouse_45, k_X12_readHouse_47, k_X12_readHouse_48, k_X12_readHouse_51, k_X12_readHouse_52, k_X12_readHouse_55, k_X12_readHouse_58, k_X12_readHouse_59, k_X12_readHouse_60, k_X12_readHouse_61, k_X12_readHouse_64, k_X12_readHouse_65, k_X12_readHouse_68, k_X12_readHouse_69, k_X12_readHouse_72, k_X12_readHouse_73, k_X12_readHouse_76, k_X12_readHouse_77, k_X12_readHouse_80, k_X12_readHouse_81, k_X12_readHouse_84, k_X12_readHouse_85, k_X12_readHouse_88, k_X12_readHouse_90, k_X12_readHouse_93, k_X12_readHouse_94, k_X12_readHouse_97, k_X12_readHouse_98, k_X12_readHouse_99, k_X12_readHouse_100, k_X12_readHouse_103, k_X12_readHouse_104, k_X12_readHouse_105, k_X12_readHouse_108, k_X12_readHouse_109, k_X12_readHouse_110, k_X12_readHouse_113, k_X12_readHouse_116, k_X12_readHouse_117, k_X12_readHouse_120, k_X12_readHouse_121, k_X12_readHouse_124, k_X12_readHouse_125, k_X12_readHouse_128, k_X12_readHouse_129, k_X12_readHouse_132, k_X12_readHouse_133, k_X12_readHouse_136, k_X12_readHouse_139, k_X12_readHouse_140, k_X12_readHouse_143, k_X12_readHouse_144, w_X12_fails_e, w_X12_isWhole_e, w_X12_look_e, w_X12_readClause_e, w_X12_starts_e, w_X12_usual_e, msk, Mt, MtO, ho_10, ho_9, ho_11, ho_u10, ho_fa, hs, e]
        repeat' (first | apply And.intro | intro _)
        all_goals first | omega | exact absurd trivial (by assumption) | exact q9 | exact ⟨by omega, by omega⟩
  · change vcs _ _ _ _ 60 0 [(28, 5000), (6, 0)] [] σ
    have i9 : ∃ k', inv_rho m v0 R k' 35 [(28, 5000), (0, 0)] [] (hoN m 0 (-1) (fun _ => 0) v0) := ⟨2002, rfl, Or.inl ⟨0, rfl, rfl, by rw [show ((0 : Nat) : Int) = 0 from rfl, flv_0], by decide, by decide⟩⟩
    simp only [↓reduceIte, inR_0, inR_1, inR_m, vSw2_e, swP_n, swP_c, vI_e, vL_e, vNull_e, vIload_e, vLload_e, vAload_e, vIstore_e, vLstore_e, vAstore_e, vIinc_e, vIadd_e, vIsub_e, vImul_e, vIand_e, vIor_e, vIxor_e, vIshl_e, vIshr_e, vIushr_e, vIdiv_e, vIrem_e, vLadd_e, vLsub_e, vLmul_e, vLand_e, vLor_e, vLxor_e, vLdiv_e, vLrem_e, vLushr_e, vLshl_e, vLcmp_e, vIneg_e, vI2l_e, vL2i_e, vI2b_e, vI2c_e, vDup_e, vPop_e, vDup2_e, vGoto_e, vIcEq_e, vIfEq_e, vIcNe_e, vIfNe_e, vIcLt_e, vIfLt_e, vIcGe_e, vIfGe_e, vIcGt_e, vIfGt_e, vIcLe_e, vIfLe_e, vNonnull_e, vSw_e, vGetI_e, vGetL_e, vGetR_e, vPutI_e, vPutZ_e, vPutL_e, vPutR_e, vIald_e, vIald_s, vLald_e, vBald_e, vBald_s, vAald_e, vIast_e, vLast_e, vBast_e, vAast_e, vAlen_e8, vAlen_e9, vAlen_e10, vAlen_e11, vAlen_e5, vAlen_e3, vGets_e, vCompact_e, vLdcS_e, vIret_e, vZret_e, vCret_e, vBret_e, vLret_e, vVret_e, vAret_e, vCallM_e0, vCallMV_e0, vCallS_e0, vCallSV_e0, vCallM_e1, vCallMV_e1, vCallS_e1, vCallSV_e1, vCallM_e2, vCallMV_e2, vCallS_e2, vCallSV_e2, vCallM_e3, vCallMV_e3, vCallS_e3, vCallSV_e3, vCallM_e4, vCallMV_e4, vCallS_e4, vCallSV_e4, vCallM_e5, vCallMV_e5, vCallS_e5, vCallSV_e5, vCallM_e6, vCallMV_e6, vCallS_e6, vCallSV_e6, vCallM_e7, vCallMV_e7, vCallS_e7, vCallSV_e7, vBad_e, vStrVal_e, vStrCod_e, vForm_e, vCallT_e0, vCallT_e1, vCallT_e2, vCopy_e, rf_0_0, rf_0_1, rf_0_2, rf_0_3, rf_0_4, rf_0_7, rf_0_10, rf_0_11, rf_0_12, rf_0_13, rf_0_14, rf_0_15, rf_0_16, rf_1_0, rf_3_0, rf_3_1, rf_6_0, rf_6_1, rf_9_0, rf_9_1, rf_9_3, rf_13_0, rf_13_1, rf_13_2, rf_16_0, rf_16_1, rf_16_2, rf_16_3, rf_21_0, rf_21_1, rf_21_2, rf_21_3, rf_26_0, rf_26_1, rf_26_2, rf_26_3, rf_26_4, rf_26_5, rf_26_6, rf_31_0, rf_31_2, rf_31_5, rf_31_6, rf_36_0, rf_36_1, rf_36_2, rf_36_3, rf_39_0, rf_39_1, rf_39_2, rf_41_0, rf_41_1, rf_41_2, rf_41_3, rf_5000_1, rf_5000_2, rf_5000_3, rf_5000_4, rf_5000_5, rf_5000_15, rf_5000_16, rf_5000_18, rf_5000_19, rf_5000_20, rf_5000_21, rf_5000_22, rf_5000_23, rf_5000_24, rf_5000_25, rf_5000_26, rf_5000_27, rf_5000_36, rf_5000_37, rf_5000_40, rf_5000_41, rf_5000_42, rf_5000_43, rf_5000_44, rf_5000_45, rf_5000_47, rf_5000_52, rf_5000_54, rf_5000_55, rf_100_0, rf_100_1, rf_103_0, rf_103_1, rf_106_0, rf_106_1, rf_109_0, rf_109_1, al_2, al_4, al_5, al_7, al_8, al_10, al_11, al_12, al_14, al_15, al_17, al_18, al_19, al_20, al_22, al_23, al_24, al_25, al_27, al_28, al_29, al_30, al_32, al_33, al_34, al_35, al_37, al_38, al_40, al_42, al_5001, al_5002, al_5003, al_5004, al_5005, al_5006, al_5007, al_5008, al_5009, al_5010, al_5011, al_5012, al_5013, al_5014, al_5015, al_5016, al_5017, al_5018, al_5019, al_5020, al_5021, al_5022, al_5023, al_5024, al_5025, al_5026, al_9000, al_101, al_102, al_104, al_105, al_107, al_108, al_110, al_111, vcs_e, lg_c0, lg_cs, lg_nil, set_c0, set_cs, okst_0, okst_s, acok_n, acok_c, List.contains_nil, List.contains_cons, Bool.or_false, Bool.false_or, Bool.false_eq_true, if_false, if_true, ite_self, ne_eq, true_and, and_true, not_false_eq_true, not_true_eq_false, false_imp_iff, true_imp_iff, Nat.ble_eq, Bool.and_eq_true, reduceCtorEq, or_false, false_or, or_true, true_or, false_and, and_false, and_self, Int.reduceLE, Int.reduceAdd, Int.reduceSub, Int.reduceMul, Int.reduceNeg, Int.reduceLT, Int.reduceEq, Int.reduceNe, Nat.reduceBEq, Nat.reduceBNe, Nat.reduceEqDiff, amCmp_in, amCmp_lt, amCmp_le, amCmp_gt, amCmp_ge, amCmp_eq, amCmp_ne, Nat.reduceLeDiff, Nat.reduceSub, Bool.and_true, Bool.true_and, Bool.and_self, Bool.or_true, Bool.true_or, isRf_3, isRf_4, isRf_5, isRf_8, isRf_9, isRf_10, isRf_11, isRf_15, isRf_16, isRf_17, isRf_18, isRf_19, isRf_20, isRf_21, isRf_22, isRf_23, isRf_24, isRf_25, isRf_26, isRf_27, isRf_28, k_X12_readHouse_0, k_X12_readHouse_1, k_X12_readHouse_2, k_X12_readHouse_5, k_X12_readHouse_6, k_X12_readHouse_7, k_X12_readHouse_10, k_X12_readHouse_13, k_X12_readHouse_14, k_X12_readHouse_15, k_X12_readHouse_18, k_X12_readHouse_19, k_X12_readHouse_20, k_X12_readHouse_23, k_X12_readHouse_24, k_X12_readHouse_25, k_X12_readHouse_28, k_X12_readHouse_29, k_X12_readHouse_30, k_X12_readHouse_33, k_X12_readHouse_34, k_X12_readHouse_35, k_X12_readHouse_36, k_X12_readHouse_37, k_X12_readHouse_40, k_X12_readHouse_41, k_X12_readHouse_44, k_X12_readHouse_45, k_X12_readHouse_47, k_X12_readHouse_48, k_X12_readHouse_51, k_X12_readHouse_52, k_X12_readHouse_55, k_X12_readHouse_58, k_X12_readHouse_59, k_X12_readHouse_60, k_X12_readHouse_61, k_X12_readHouse_64, k_X12_readHouse_65, k_X12_readHouse_68, k_X12_readHouse_69, k_X12_readHouse_72, k_X12_readHouse_73, k_X12_readHouse_76, k_X12_readHouse_77, k_X12_readHouse_80, k_X12_readHouse_81, k_X12_readHouse_84, k_X12_readHouse_85, k_X12_readHouse_88, k_X12_readHouse_90, k_X12_readHouse_93, k_X12_readHouse_94, k_X12_readHouse_97, k_X12_readHouse_98, k_X12_readHouse_99, k_X12_readHouse_100, k_X12_readHouse_103, k_X12_readHouse_104, k_X12_readHouse_105, k_X12_readHouse_108, k_X12_readHouse_109, k_X12_readHouse_110, k_X12_readHouse_113, k_X12_readHouse_116, k_X12_readHouse_117, k_X12_readHouse_120, k_X12_readHouse_121, k_X12_readHouse_124, k_X12_readHouse_125, k_X12_readHouse_128, k_X12_readHouse_129, k_X12_readHouse_132, k_X12_readHouse_133, k_X12_readHouse_136, k_X12_readHouse_139, k_X12_readHouse_140, k_X12_readHouse_143, k_X12_readHouse_144, w_X12_fails_e, w_X12_isWhole_e, w_X12_look_e, w_X12_readClause_e, w_X12_starts_e, w_X12_usual_e, hm, e0]
    repeat' (first | apply And.intro | intro _)
    all_goals first | omega | exact absurd trivial (by assumption) | exact i9 | exact Or.inl rfl
